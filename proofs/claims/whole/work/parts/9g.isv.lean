/-! isVariable of the model -/
section Isv
variable {φ : go_F} {l : Launch} {M : go_M} {R : Room} {u : Nat × Nat} {pc q n : Nat} {L : List (Option mv_V)} {rest : List mv_V} {h : mv_H}
theorem tm_isVariable {v : Int} (hv : -2147483648 ≤ v ∧ v ≤ 2147483647) : Fn l m_mo_isVariable rd_mo_isVariable rw_mo_isVariable 0 0 [mv_I v] h n (fun w h' n' => w = some (mv_I (if 0 ≤ v ∧ v < 8 then 1 else 0)) ∧ n' = n ∧ h' = h) := by
  refine fn_of rfl (Nat.le_of_ble_eq_true rfl) rfl ?_
  refine so_isv hv (fun c1 => ?_) (fun c1 c2 => ?_) (fun c1 c2 => ?_)
  · exact go_zret d_mo_isVariable_15 rfl (by decide) go_le0 ⟨by rw [if_neg (by omega)], rfl, rfl⟩
  · exact go_zret d_mo_isVariable_15 rfl (by decide) go_le0 ⟨by rw [if_neg (by omega)], rfl, rfl⟩
  · exact go_zret d_mo_isVariable_15 rfl (by decide) go_le0 ⟨by rw [if_pos (by omega)], rfl, rfl⟩
theorem cl_isVariable {v : Int} (hc : M.1.cls = "PromotedNumbersModel") (hd : decode M.2.1 pc = .ok (.invokestatic 185, 3)) (hp : pc + 3 = q) (hv : -2147483648 ≤ v ∧ v ≤ 2147483647) (hw : (rest.map mv_k).sum ≤ 8) (hR : go_fit R u 1 rd_mo_isVariable rw_mo_isVariable 0 0) (k : Go φ l M R u q L (mv_I (if 0 ≤ v ∧ v < 8 then 1 else 0) :: rest) h n) : Go φ l M R u pc L (mv_I v :: rest) h n := by
  refine go_callS (M' := m_mo_isVariable) (d := rd_mo_isVariable) (w := rw_mo_isVariable) (mc := 0) (ms := 0) (as := [mv_I v]) (rest := rest) (q := q) g_mo_isVariable s_mo_isVariable (by rw [hc]; exact l_mo_185) hd hp rfl rfl hw hR (tm_isVariable hv) ?_
  rintro w h1 n1 ⟨rfl, rfl, rfl⟩ -
  exact go_u0 k
end Isv
