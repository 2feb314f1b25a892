set_option maxRecDepth 4000 in
theorem so_isv {φ : go_F} {l : Launch} {R : Room} {u : Nat × Nat} {h : mv_H} {n : Nat} {v : Int}  (hv : -2147483648 ≤ v ∧ v ≤ 2147483647)
    (k0 : v < 0 → Go φ l m_mo_isVariable R u 15 [some (mv_I v)] [mv_I 0] h n)
    (k1 : ¬ v < 0 → 8 ≤ v → Go φ l m_mo_isVariable R u 15 [some (mv_I v)] [mv_I 0] h n)
    (k2 : ¬ v < 0 → ¬ 8 ≤ v → Go φ l m_mo_isVariable R u 15 [some (mv_I v)] [mv_I 1] h n) :
    Go φ l m_mo_isVariable R u 0 [some (mv_I v)] [] h n := by
  refine go_iload_n (q := 1) d_mo_isVariable_0 rfl rfl rfl ?_
  refine go_if_lt (t := 14) (q := 4) d_mo_isVariable_1 (by decide) rfl (by omega) (fun c1 => ?_) (fun c1 => ?_)
  ·
    refine go_iconst (q := 15) d_mo_isVariable_14 rfl ?_
    exact k0 c1
  ·
    refine go_iload_n (q := 5) d_mo_isVariable_4 rfl rfl rfl ?_
    refine go_bipush (q := 7) d_mo_isVariable_5 rfl (by decide) ?_
    refine go_icmp_ge (t := 14) (q := 10) d_mo_isVariable_7 (by decide) rfl (by omega) (by omega) (fun c2 => ?_) (fun c2 => ?_)
    ·
      refine go_iconst (q := 15) d_mo_isVariable_14 rfl ?_
      exact k1 c1 c2
    ·
      refine go_iconst (q := 11) d_mo_isVariable_10 rfl ?_
      refine go_goto (q := 15) d_mo_isVariable_11 (by decide) ?_
      exact k2 c1 c2

