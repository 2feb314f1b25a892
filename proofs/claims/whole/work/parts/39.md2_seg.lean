set_option maxRecDepth 4000 in
theorem sg_divide_13 {φ : go_F} {l : Launch} {R : Room} {u : Nat × Nat} {h : mv_H} {n : Nat} {o : Nat} {X : mo_X} {D U : Nat → Int} {a b q e : Nat} (hm_m : MD h o X D U) (ha : a < 160) (hU : ∀ j, 0 ≤ U j ∧ U j ≤ 40)
    (k0 : Go φ l m_mo_divide R u 23 [some (mv_R o), some (mv_I (a : Int)), some (mv_I (b : Int)), some (mv_I (q : Int)), some (mv_I (e : Int)), some (mv_I ((U a) - 1)), none, none, none] [] h n) :
    Go φ l m_mo_divide R u 13 [some (mv_R o), some (mv_I (a : Int)), some (mv_I (b : Int)), some (mv_I (q : Int)), some (mv_I (e : Int)), none, none, none, none] [] h n := by
  refine go_aload_n (q := 14) d_mo_divide_13 rfl rfl rfl ?_
  refine go_getf (q := 17) f_mo_20 d_mo_divide_14 rfl (MD_c0 hm_m) rfl ?_
  refine go_iload_n (q := 18) d_mo_divide_17 rfl rfl rfl ?_
  refine go_iald (i := a) (q := 19) d_mo_divide_18 rfl (MD_c3 hm_m) (by omega) (by omega) (by omega) ?_
  have q_1 := hU a
  refine go_iconst (q := 20) d_mo_divide_19 rfl ?_
  refine go_isub (q := 21) d_mo_divide_20 rfl ?_
  refine go_istore (q := 23) (L' := [some (mv_R o), some (mv_I (a : Int)), some (mv_I (b : Int)), some (mv_I (q : Int)), some (mv_I (e : Int)), some (mv_I ((U a) - 1)), none, none, none]) d_mo_divide_21 rfl (by decide) rfl ?_
  exact k0 

set_option maxRecDepth 4000 in
theorem sg_divide_23 {φ : go_F} {l : Launch} {R : Room} {u : Nat × Nat} {h : mv_H} {n : Nat} {o : Nat} {X : mo_X} {D U : Nat → Int} {a b q e : Nat} {k : Int} (hm_m : MD h o X D U) (ha : a < 160) (hk : -1 ≤ k ∧ k < 40) (hD : ∀ j, 0 ≤ D j ∧ D j ≤ 9999)
    (k0 : k < 0 → Go φ l m_mo_divide R u 142 [some (mv_R o), some (mv_I (a : Int)), some (mv_I (b : Int)), some (mv_I (q : Int)), some (mv_I (e : Int)), some (mv_I k), none, none, none] [] h n)
    (k1 : ¬ k < 0 → Go φ l m_mo_divide R u 43 [some (mv_R o), some (mv_I (a : Int)), some (mv_I (b : Int)), some (mv_I (q : Int)), some (mv_I (e : Int)), some (mv_I k), none, none, none] [mv_I (D (40 * a + k.toNat)), mv_I (e : Int), mv_R o] h n) :
    Go φ l m_mo_divide R u 23 [some (mv_R o), some (mv_I (a : Int)), some (mv_I (b : Int)), some (mv_I (q : Int)), some (mv_I (e : Int)), some (mv_I k), none, none, none] [] h n := by
  refine go_iload (q := 25) d_mo_divide_23 rfl rfl ?_
  refine go_if_lt (t := 142) (q := 28) d_mo_divide_25 (by decide) rfl (by omega) (fun c1 => ?_) (fun c1 => ?_)
  ·
    exact k0 c1
  ·
    refine go_aload_n (q := 29) d_mo_divide_28 rfl rfl rfl ?_
    refine go_iload (q := 31) d_mo_divide_29 rfl rfl ?_
    refine go_aload_n (q := 32) d_mo_divide_31 rfl rfl rfl ?_
    refine go_getf (q := 35) f_mo_17 d_mo_divide_32 rfl (MD_c0 hm_m) rfl ?_
    refine go_bipush (q := 37) d_mo_divide_35 rfl (by decide) ?_
    refine go_iload_n (q := 38) d_mo_divide_37 rfl rfl rfl ?_
    refine go_imul (q := 39) d_mo_divide_38 rfl ?_
    refine go_iload (q := 41) d_mo_divide_39 rfl rfl ?_
    refine go_iadd (q := 42) d_mo_divide_41 rfl ?_
    refine go_iald (i := 40 * a + k.toNat) (q := 43) d_mo_divide_42 rfl (MD_c2 hm_m) (by omega) (by omega) (by omega) ?_
    have q_2 := hD (40 * a + k.toNat)
    exact k1 c1

