/-! isDigit, isVariable -/
theorem cx_BM : ∀ i, i < 13 → 0 ≤ cx_mostI i ∧ cx_mostI i ≤ 120 := by decide
theorem cx_BF : ∀ i, i < 13 → 0 ≤ cx_fewI i ∧ cx_fewI i ≤ 3 := by decide
section GrChar
variable {φ : go_F} {l : Launch} {M : go_M} {R : Room} {u : Nat × Nat} {pc q n idx : Nat} {L : List (Option mv_V)} {rest : List mv_V} {h : mv_H} {I tx wr ga gb mo mf mg : Nat → Int} {B : Nat → Int} {V : Nat → Nat}
theorem tg_isDigit {c : Int} (hc : 0 ≤ c ∧ c ≤ 127) : Fn l m_pn_isDigit rd_pn_isDigit rw_pn_isDigit 0 0 [mv_I c] h n (fun w h' n' => w = some (mv_I (if 48 ≤ c ∧ c ≤ 57 then 1 else 0)) ∧ n' = n ∧ h' = h) := by
  refine fn_of rfl (Nat.le_of_ble_eq_true rfl) rfl ?_
  refine sg_isDigit hc (fun c1 => ?_) (fun c1 c2 => ?_) (fun c1 c2 => ?_)
  · exact go_zret d_pn_isDigit_17 rfl (by decide) go_le0 ⟨by rw [if_neg (by omega)], rfl, rfl⟩
  · exact go_zret d_pn_isDigit_17 rfl (by decide) go_le0 ⟨by rw [if_neg (by omega)], rfl, rfl⟩
  · exact go_zret d_pn_isDigit_17 rfl (by decide) go_le0 ⟨by rw [if_pos (by omega)], rfl, rfl⟩
theorem cp_pn_isDigit {c : Int} (hlk : go_lnk M.1.cls idx m_pn_isDigit) (hd : decode M.2.1 pc = .ok (.invokestatic idx, 3)) (hp : pc + 3 = q) (hc : 0 ≤ c ∧ c ≤ 127) (hw : (rest.map mv_k).sum ≤ 8) (hR : go_fit R u 1 rd_pn_isDigit rw_pn_isDigit 0 0)
    (k : Go φ l M R u q L (mv_I (if 48 ≤ c ∧ c ≤ 57 then 1 else 0) :: rest) h n) : Go φ l M R u pc L (mv_I c :: rest) h n := by
  refine go_callS (M' := m_pn_isDigit) (d := rd_pn_isDigit) (w := rw_pn_isDigit) (mc := 0) (ms := 0) (as := [mv_I c]) (rest := rest) (q := q) g_pn_isDigit s_pn_isDigit hlk hd hp rfl rfl hw hR (tg_isDigit hc) ?_
  rintro w h1 n1 ⟨rfl, rfl, rfl⟩ -
  exact go_u0 (k)

theorem tg_isVariable {c : Int} (hc : 0 ≤ c ∧ c ≤ 127) : Fn l m_pn_isVariable rd_pn_isVariable rw_pn_isVariable 0 0 [mv_I c] h n (fun w h' n' => w = some (mv_I (if 97 ≤ c ∧ c ≤ 104 then 1 else 0)) ∧ n' = n ∧ h' = h) := by
  refine fn_of rfl (Nat.le_of_ble_eq_true rfl) rfl ?_
  refine sg_isVar hc (fun c1 => ?_) (fun c1 c2 => ?_) (fun c1 c2 => ?_)
  · exact go_zret d_pn_isVariable_17 rfl (by decide) go_le0 ⟨by rw [if_neg (by omega)], rfl, rfl⟩
  · exact go_zret d_pn_isVariable_17 rfl (by decide) go_le0 ⟨by rw [if_neg (by omega)], rfl, rfl⟩
  · exact go_zret d_pn_isVariable_17 rfl (by decide) go_le0 ⟨by rw [if_pos (by omega)], rfl, rfl⟩
theorem cp_pn_isVariable {c : Int} (hlk : go_lnk M.1.cls idx m_pn_isVariable) (hd : decode M.2.1 pc = .ok (.invokestatic idx, 3)) (hp : pc + 3 = q) (hc : 0 ≤ c ∧ c ≤ 127) (hw : (rest.map mv_k).sum ≤ 8) (hR : go_fit R u 1 rd_pn_isVariable rw_pn_isVariable 0 0)
    (k : Go φ l M R u q L (mv_I (if 97 ≤ c ∧ c ≤ 104 then 1 else 0) :: rest) h n) : Go φ l M R u pc L (mv_I c :: rest) h n := by
  refine go_callS (M' := m_pn_isVariable) (d := rd_pn_isVariable) (w := rw_pn_isVariable) (mc := 0) (ms := 0) (as := [mv_I c]) (rest := rest) (q := q) g_pn_isVariable s_pn_isVariable hlk hd hp rfl rfl hw hR (tg_isVariable hc) ?_
  rintro w h1 n1 ⟨rfl, rfl, rfl⟩ -
  exact go_u0 (k)

end GrChar
