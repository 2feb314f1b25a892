section MgVal1
variable {φ : go_F} {l : Launch} {M : go_M} {R : Room} {u : Nat × Nat} {pc q n o : Nat} {L : List (Option mv_V)} {rest : List mv_V} {h : mv_H} {I tx S ps cs bs : Nat → Int} {V : Nat → Nat}
theorem tm_isDigit {p len : Nat} (hV : mo_V h o (I, tx, S, ps, cs, bs) V) (hL : I 1 = (len : Int)) (hl : len ≤ 120) (ht : ∀ i, 0 ≤ tx i ∧ tx i ≤ 127) (hp : p < 2000) : Fn l m_mo_isDigit rd_mo_isDigit rw_mo_isDigit 0 0 [mv_R o, mv_I (p : Int)] h n (fun w h' n' => w = some (mv_I (if 48 ≤ ch_ tx len p ∧ ch_ tx len p ≤ 57 then 1 else 0)) ∧ n' = n ∧ h' = h) := by
  refine fn_of rfl (Nat.le_of_ble_eq_true rfl) rfl ?_
  refine so_isDigit hV hL hl hp ht (fun c => ?_) (fun c1 c2 => ?_) (fun c1 c2 => ?_)
  · exact go_zret d_mo_isDigit_25 rfl (by decide) go_le0 ⟨by rw [if_neg (by omega)], rfl, rfl⟩
  · exact go_zret d_mo_isDigit_25 rfl (by decide) go_le0 ⟨by rw [if_neg (by omega)], rfl, rfl⟩
  · exact go_zret d_mo_isDigit_25 rfl (by decide) go_le0 ⟨by rw [if_pos (by omega)], rfl, rfl⟩
theorem cl_isDigit {p len : Nat} (hc : M.1.cls = "PromotedNumbersModel") (hd : decode M.2.1 pc = .ok (.invokevirtual 109, 3)) (hq : pc + 3 = q) (hV : mo_V h o (I, tx, S, ps, cs, bs) V) (hL : I 1 = (len : Int)) (hl : len ≤ 120) (ht : ∀ i, 0 ≤ tx i ∧ tx i ≤ 127) (hp : p < 2000) (hw : (rest.map mv_k).sum ≤ 8) (hR : go_fit R u 2 rd_mo_isDigit rw_mo_isDigit 0 0) (k : Go φ l M R u q L (mv_I (if 48 ≤ ch_ tx len p ∧ ch_ tx len p ≤ 57 then 1 else 0) :: rest) h n) : Go φ l M R u pc L (mv_I (p : Int) :: mv_R o :: rest) h n := by
  obtain ⟨fs, hob⟩ := mo_Vob hV
  refine go_callV (M' := m_mo_isDigit) (d := rd_mo_isDigit) (w := rw_mo_isDigit) (mc := 0) (ms := 0) (as := [mv_I (p : Int)]) (b := o) (rest := rest) (q := q) g_mo_isDigit i_mo_isDigit v_mo_isDigit (by rw [hc]; exact l_mo_109) hd hq rfl rfl hob rfl hw hR (tm_isDigit hV hL hl ht hp) ?_
  rintro w h1 n1 ⟨rfl, rfl, rfl⟩ -
  exact go_u0 k
end MgVal1
