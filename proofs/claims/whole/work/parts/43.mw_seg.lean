set_option maxRecDepth 4000 in
theorem sw_lowest_0 {φ : go_F} {l : Launch} {h : mv_H} {n : Nat} {o : Nat} {I tx S ps cs bs : Nat → Int} {V : Nat → Nat} {v : Nat} {s : Int} (hV : mo_V h o (I, tx, S, ps, cs, bs) V) (hv : v < 75)
    (k0 : V 152 = 1 → ∀ h' : mv_H, mo_V h' o (I, tx, S, ps, cs, bs) (va_up (va_up V (2 * v) (V 150)) ((2 * v) + 1) 1) → fr_ o 8 h h' → Go φ l m_mo_lowest (go_rm rd_mo_lowest rw_mo_lowest 0 0) (0, 0) 88 [some (mv_R o), some (mv_I (v : Int)), some (mv_I s)] [] h' n)
    (k1 : ¬ V 152 = 1 → ¬ V 150 = 0 → Go φ l m_mo_lowest (go_rm rd_mo_lowest rw_mo_lowest 0 0) (0, 0) 44 [some (mv_R o), some (mv_I (v : Int)), some (mv_I s)] [] h n)
    (k2 : ¬ V 152 = 1 → V 150 = 0 → ∀ h' : mv_H, mo_V h' o (I, tx, S, ps, cs, bs) (va_up (va_up V (2 * v) (V 150)) ((2 * v) + 1) 1) → fr_ o 8 h h' → Go φ l m_mo_lowest (go_rm rd_mo_lowest rw_mo_lowest 0 0) (0, 0) 88 [some (mv_R o), some (mv_I (v : Int)), some (mv_I s)] [] h' n) :
    Go φ l m_mo_lowest (go_rm rd_mo_lowest rw_mo_lowest 0 0) (0, 0) 0 [some (mv_R o), some (mv_I (v : Int)), some (mv_I s)] [] h n := by
  refine go_aload_n (q := 1) d_mo_lowest_0 rfl rfl rfl ?_
  refine go_sipush (q := 4) d_mo_lowest_1 rfl (by decide) ?_
  refine cl_isOne (r := 152) (q := 7) rfl d_mo_lowest_4 rfl hV (by omega) (by decide) ⟨by decide, by decide, by decide, by decide⟩ ?_
  rw [(show V 152 = V 152 from rfl)]
  refine go_if_ne (t := 21) (q := 10) d_mo_lowest_7 (by decide) rfl it_rng (fun c1 => ?_) (fun c1 => ?_)
  · have c2 : V 152 = 1 := it_nep c1
    refine go_aload_n (q := 22) d_mo_lowest_21 rfl rfl rfl ?_
    refine go_sipush (q := 25) d_mo_lowest_22 rfl (by decide) ?_
    refine go_iconst (q := 26) d_mo_lowest_25 rfl ?_
    refine go_iload_n (q := 27) d_mo_lowest_26 rfl rfl rfl ?_
    refine go_imul (q := 28) d_mo_lowest_27 rfl ?_
    refine cl_copy (a := 150) (b := 2 * v) (q := 31) rfl d_mo_lowest_28 rfl hV (by omega) (by omega) (by decide) ⟨by decide, by decide, by decide, by decide⟩ (fun h_3 hV_4 fr_5 => ?_)
    have hV_6 : mo_V h_3 o (I, tx, S, ps, cs, bs) (va_up V (2 * v) (V 150)) := by
      have e_ : (V) 150 = V 150 := by rw [(show V 150 = V 150 from rfl)]
      rw [← e_]
      exact hV_4
    refine go_aload_n (q := 32) d_mo_lowest_31 rfl rfl rfl ?_
    refine go_iconst (q := 33) d_mo_lowest_32 rfl ?_
    refine go_iload_n (q := 34) d_mo_lowest_33 rfl rfl rfl ?_
    refine go_imul (q := 35) d_mo_lowest_34 rfl ?_
    refine go_iconst (q := 36) d_mo_lowest_35 rfl ?_
    refine go_iadd (q := 37) d_mo_lowest_36 rfl ?_
    refine go_iconst (q := 38) d_mo_lowest_37 rfl ?_
    refine cl_set (r := (2 * v) + 1) (v := 1) (q := 41) rfl d_mo_lowest_38 rfl hV_6 (by omega) (by omega) (by decide) ⟨by decide, by decide, by decide, by decide⟩ (fun h_7 hV_8 fr_9 => ?_)
    have hV_10 : mo_V h_7 o (I, tx, S, ps, cs, bs) (va_up (va_up V (2 * v) (V 150)) ((2 * v) + 1) 1) := hV_8
    refine go_goto (q := 88) d_mo_lowest_41 (by decide) ?_
    exact k0 c2 _ hV_10 (fr_.tr fr_5 fr_9)
  · have c11 : ¬ V 152 = 1 := it_nen c1
    refine go_aload_n (q := 11) d_mo_lowest_10 rfl rfl rfl ?_
    refine go_getf (q := 14) f_mo_20 d_mo_lowest_11 rfl (mv_c0 hV) rfl ?_
    refine go_sipush (q := 17) d_mo_lowest_14 rfl (by decide) ?_
    obtain ⟨D_12, U_13, hm_14, hM_15⟩ := id hV
    have q_16 := hM_15.2.1 150
    have q_17 : U_13 150 = 0 ↔ V 150 = 0 := by
      have z_ := mo_U0 hM_15 (r := 150) (by omega)
      rw [(show V 150 = V 150 from rfl)] at z_
      exact z_
    refine go_iald (i := 150) (q := 18) d_mo_lowest_17 rfl (MD_c3 hm_14) (by omega) (by omega) (by omega) ?_
    refine go_if_ne (t := 44) (q := 21) d_mo_lowest_18 (by decide) rfl (by omega) (fun c18 => ?_) (fun c18 => ?_)
    · have c19 : ¬ V 150 = 0 := (by omega : ¬ V 150 = 0)
      exact k1 c11 c19
    · have c20 : V 150 = 0 := (by omega : V 150 = 0)
      refine go_aload_n (q := 22) d_mo_lowest_21 rfl rfl rfl ?_
      refine go_sipush (q := 25) d_mo_lowest_22 rfl (by decide) ?_
      refine go_iconst (q := 26) d_mo_lowest_25 rfl ?_
      refine go_iload_n (q := 27) d_mo_lowest_26 rfl rfl rfl ?_
      refine go_imul (q := 28) d_mo_lowest_27 rfl ?_
      refine cl_copy (a := 150) (b := 2 * v) (q := 31) rfl d_mo_lowest_28 rfl hV (by omega) (by omega) (by decide) ⟨by decide, by decide, by decide, by decide⟩ (fun h_21 hV_22 fr_23 => ?_)
      have hV_24 : mo_V h_21 o (I, tx, S, ps, cs, bs) (va_up V (2 * v) (V 150)) := by
        have e_ : (V) 150 = V 150 := by rw [(show V 150 = V 150 from rfl)]
        rw [← e_]
        exact hV_22
      refine go_aload_n (q := 32) d_mo_lowest_31 rfl rfl rfl ?_
      refine go_iconst (q := 33) d_mo_lowest_32 rfl ?_
      refine go_iload_n (q := 34) d_mo_lowest_33 rfl rfl rfl ?_
      refine go_imul (q := 35) d_mo_lowest_34 rfl ?_
      refine go_iconst (q := 36) d_mo_lowest_35 rfl ?_
      refine go_iadd (q := 37) d_mo_lowest_36 rfl ?_
      refine go_iconst (q := 38) d_mo_lowest_37 rfl ?_
      refine cl_set (r := (2 * v) + 1) (v := 1) (q := 41) rfl d_mo_lowest_38 rfl hV_24 (by omega) (by omega) (by decide) ⟨by decide, by decide, by decide, by decide⟩ (fun h_25 hV_26 fr_27 => ?_)
      have hV_28 : mo_V h_25 o (I, tx, S, ps, cs, bs) (va_up (va_up V (2 * v) (V 150)) ((2 * v) + 1) 1) := hV_26
      refine go_goto (q := 88) d_mo_lowest_41 (by decide) ?_
      exact k2 c11 c20 _ hV_28 (fr_.tr fr_23 fr_27)

set_option maxRecDepth 4000 in
theorem sw_lowest_44 {φ : go_F} {l : Launch} {h : mv_H} {n : Nat} {o : Nat} {I tx S ps cs bs : Nat → Int} {V : Nat → Nat} {v : Nat} {s : Int} (hV : mo_V h o (I, tx, S, ps, cs, bs) V) (hv : v < 75)
    (k0 : ∀ (V_6 : Nat → Nat), V_6 154 = Nat.gcd (V 150) (V 152) → (∀ i, i ≠ 154 → i ≠ 155 → V_6 i = (V) i) → ∀ h' : mv_H, mo_V h' o (I, tx, S, ps, cs, bs) (V_6) → fr_ o 8 h h' → Go φ l m_mo_lowest (go_rm rd_mo_lowest rw_mo_lowest 0 0) (0, 0) 54 [some (mv_R o), some (mv_I (v : Int)), some (mv_I s)] [] h' n) :
    Go φ l m_mo_lowest (go_rm rd_mo_lowest rw_mo_lowest 0 0) (0, 0) 44 [some (mv_R o), some (mv_I (v : Int)), some (mv_I s)] [] h n := by
  refine go_aload_n (q := 45) d_mo_lowest_44 rfl rfl rfl ?_
  refine go_sipush (q := 48) d_mo_lowest_45 rfl (by decide) ?_
  refine go_sipush (q := 51) d_mo_lowest_48 rfl (by decide) ?_
  refine cl_common (a := 150) (b := 152) (q := 54) rfl d_mo_lowest_51 rfl hV (by omega) (by decide) ⟨by decide, by decide, by decide, by decide⟩ (fun h_1 V_6 hV_2 fr_3 e_4 o_5 => ?_)
  rw [(show V 150 = V 150 from rfl), (show V 152 = V 152 from rfl)] at e_4
  exact k0 V_6 e_4 o_5 _ hV_2 fr_3

set_option maxRecDepth 4000 in
theorem sw_lowest_54 {φ : go_F} {l : Launch} {h : mv_H} {n : Nat} {o : Nat} {I tx S ps cs bs : Nat → Int} {V : Nat → Nat} {v : Nat} {s : Int} (hV : mo_V h o (I, tx, S, ps, cs, bs) V) (hv : v < 75) (hg : 0 < V 154 ∧ V 154 < 10000 ^ 39)
    (k0 : ∀ (V_7 : Nat → Nat), V_7 (2 * v) = (V 150) / (V 154) → V_7 156 = (V 150) % (V 154) → (∀ i, i ≠ (2 * v) → i ≠ 156 → i ≠ 157 → V_7 i = (V) i) → ∀ h' : mv_H, mo_V h' o (I, tx, S, ps, cs, bs) (V_7) → fr_ o 8 h h' → Go φ l m_mo_lowest (go_rm rd_mo_lowest rw_mo_lowest 0 0) (0, 0) 70 [some (mv_R o), some (mv_I (v : Int)), some (mv_I s)] [] h' n) :
    Go φ l m_mo_lowest (go_rm rd_mo_lowest rw_mo_lowest 0 0) (0, 0) 54 [some (mv_R o), some (mv_I (v : Int)), some (mv_I s)] [] h n := by
  refine go_aload_n (q := 55) d_mo_lowest_54 rfl rfl rfl ?_
  refine go_sipush (q := 58) d_mo_lowest_55 rfl (by decide) ?_
  refine go_sipush (q := 61) d_mo_lowest_58 rfl (by decide) ?_
  refine go_iconst (q := 62) d_mo_lowest_61 rfl ?_
  refine go_iload_n (q := 63) d_mo_lowest_62 rfl rfl rfl ?_
  refine go_imul (q := 64) d_mo_lowest_63 rfl ?_
  refine go_sipush (q := 67) d_mo_lowest_64 rfl (by decide) ?_
  refine cl_divide (a := 150) (b := 154) (c := 2 * v) (e := 156) (q := 70) rfl d_mo_lowest_67 rfl hV (by omega) (by rw [(show V 154 = V 154 from rfl)]; omega) (by rw [(show V 154 = V 154 from rfl)]; omega) (by decide) ⟨by decide, by decide, by decide, by decide⟩ (fun h_1 V_7 hV_2 fr_3 e_4 e_5 o_6 => ?_)
  rw [(show V 150 = V 150 from rfl), (show V 154 = V 154 from rfl)] at e_4 e_5
  exact k0 V_7 e_4 e_5 o_6 _ hV_2 fr_3

set_option maxRecDepth 4000 in
theorem sw_lowest_70 {φ : go_F} {l : Launch} {h : mv_H} {n : Nat} {o : Nat} {I tx S ps cs bs : Nat → Int} {V : Nat → Nat} {v : Nat} {s : Int} (hV : mo_V h o (I, tx, S, ps, cs, bs) V) (hv : v < 75) (hg : 0 < V 154 ∧ V 154 < 10000 ^ 39)
    (k0 : ∀ (V_7 : Nat → Nat), V_7 ((2 * v) + 1) = (V 152) / (V 154) → V_7 156 = (V 152) % (V 154) → (∀ i, i ≠ ((2 * v) + 1) → i ≠ 156 → i ≠ 157 → V_7 i = (V) i) → ∀ h' : mv_H, mo_V h' o (I, tx, S, ps, cs, bs) (V_7) → fr_ o 8 h h' → Go φ l m_mo_lowest (go_rm rd_mo_lowest rw_mo_lowest 0 0) (0, 0) 88 [some (mv_R o), some (mv_I (v : Int)), some (mv_I s)] [] h' n) :
    Go φ l m_mo_lowest (go_rm rd_mo_lowest rw_mo_lowest 0 0) (0, 0) 70 [some (mv_R o), some (mv_I (v : Int)), some (mv_I s)] [] h n := by
  refine go_aload_n (q := 71) d_mo_lowest_70 rfl rfl rfl ?_
  refine go_sipush (q := 74) d_mo_lowest_71 rfl (by decide) ?_
  refine go_sipush (q := 77) d_mo_lowest_74 rfl (by decide) ?_
  refine go_iconst (q := 78) d_mo_lowest_77 rfl ?_
  refine go_iload_n (q := 79) d_mo_lowest_78 rfl rfl rfl ?_
  refine go_imul (q := 80) d_mo_lowest_79 rfl ?_
  refine go_iconst (q := 81) d_mo_lowest_80 rfl ?_
  refine go_iadd (q := 82) d_mo_lowest_81 rfl ?_
  refine go_sipush (q := 85) d_mo_lowest_82 rfl (by decide) ?_
  refine cl_divide (a := 152) (b := 154) (c := (2 * v) + 1) (e := 156) (q := 88) rfl d_mo_lowest_85 rfl hV (by omega) (by rw [(show V 154 = V 154 from rfl)]; omega) (by rw [(show V 154 = V 154 from rfl)]; omega) (by decide) ⟨by decide, by decide, by decide, by decide⟩ (fun h_1 V_7 hV_2 fr_3 e_4 e_5 o_6 => ?_)
  rw [(show V 152 = V 152 from rfl), (show V 154 = V 154 from rfl)] at e_4 e_5
  exact k0 V_7 e_4 e_5 o_6 _ hV_2 fr_3

set_option maxRecDepth 4000 in
theorem sw_lowest_88 {φ : go_F} {l : Launch} {h : mv_H} {n : Nat} {o : Nat} {I tx S ps cs bs : Nat → Int} {V : Nat → Nat} {v : Nat} {s : Int} (hV : mo_V h o (I, tx, S, ps, cs, bs) V) (hv : v < 75)
    (k0 : ¬ V (2 * v) = 0 → V 158 ≤ V (2 * v) → ∀ h' : mv_H, mo_V h' o (I, tx, va_up S v s, ps, cs, bs) (V) → fr_ o 8 h h' → Go φ l m_mo_lowest (go_rm rd_mo_lowest rw_mo_lowest 0 0) (0, 0) 143 [some (mv_R o), some (mv_I (v : Int)), some (mv_I s)] [mv_I 1] h' n)
    (k1 : ¬ V (2 * v) = 0 → V (2 * v) < V 158 → V 158 ≤ V ((2 * v) + 1) → ∀ h' : mv_H, mo_V h' o (I, tx, va_up S v s, ps, cs, bs) (V) → fr_ o 8 h h' → Go φ l m_mo_lowest (go_rm rd_mo_lowest rw_mo_lowest 0 0) (0, 0) 143 [some (mv_R o), some (mv_I (v : Int)), some (mv_I s)] [mv_I 1] h' n)
    (k2 : ¬ V (2 * v) = 0 → V (2 * v) < V 158 → V ((2 * v) + 1) < V 158 → ∀ h' : mv_H, mo_V h' o (I, tx, va_up S v s, ps, cs, bs) (V) → fr_ o 8 h h' → Go φ l m_mo_lowest (go_rm rd_mo_lowest rw_mo_lowest 0 0) (0, 0) 143 [some (mv_R o), some (mv_I (v : Int)), some (mv_I s)] [mv_I 0] h' n)
    (k3 : V (2 * v) = 0 → V 158 ≤ V (2 * v) → ∀ h' : mv_H, mo_V h' o (I, tx, va_up S v 0, ps, cs, bs) (V) → fr_ o 8 h h' → Go φ l m_mo_lowest (go_rm rd_mo_lowest rw_mo_lowest 0 0) (0, 0) 143 [some (mv_R o), some (mv_I (v : Int)), some (mv_I s)] [mv_I 1] h' n)
    (k4 : V (2 * v) = 0 → V (2 * v) < V 158 → V 158 ≤ V ((2 * v) + 1) → ∀ h' : mv_H, mo_V h' o (I, tx, va_up S v 0, ps, cs, bs) (V) → fr_ o 8 h h' → Go φ l m_mo_lowest (go_rm rd_mo_lowest rw_mo_lowest 0 0) (0, 0) 143 [some (mv_R o), some (mv_I (v : Int)), some (mv_I s)] [mv_I 1] h' n)
    (k5 : V (2 * v) = 0 → V (2 * v) < V 158 → V ((2 * v) + 1) < V 158 → ∀ h' : mv_H, mo_V h' o (I, tx, va_up S v 0, ps, cs, bs) (V) → fr_ o 8 h h' → Go φ l m_mo_lowest (go_rm rd_mo_lowest rw_mo_lowest 0 0) (0, 0) 143 [some (mv_R o), some (mv_I (v : Int)), some (mv_I s)] [mv_I 0] h' n) :
    Go φ l m_mo_lowest (go_rm rd_mo_lowest rw_mo_lowest 0 0) (0, 0) 88 [some (mv_R o), some (mv_I (v : Int)), some (mv_I s)] [] h n := by
  refine go_aload_n (q := 89) d_mo_lowest_88 rfl rfl rfl ?_
  refine go_getf (q := 92) f_mo_23 d_mo_lowest_89 rfl (mv_c0 hV) rfl ?_
  refine go_iload_n (q := 93) d_mo_lowest_92 rfl rfl rfl ?_
  refine go_aload_n (q := 94) d_mo_lowest_93 rfl rfl rfl ?_
  refine go_getf (q := 97) f_mo_20 d_mo_lowest_94 rfl (mv_c0 hV) rfl ?_
  refine go_iconst (q := 98) d_mo_lowest_97 rfl ?_
  refine go_iload_n (q := 99) d_mo_lowest_98 rfl rfl rfl ?_
  refine go_imul (q := 100) d_mo_lowest_99 rfl ?_
  obtain ⟨D_1, U_2, hm_3, hM_4⟩ := id hV
  have q_5 := hM_4.2.1 (2 * v)
  have q_6 : U_2 (2 * v) = 0 ↔ V (2 * v) = 0 := by
    have z_ := mo_U0 hM_4 (r := 2 * v) (by omega)
    rw [(show V (2 * v) = V (2 * v) from rfl)] at z_
    exact z_
  refine go_iald (i := 2 * v) (q := 101) d_mo_lowest_100 rfl (MD_c3 hm_3) (by omega) (by omega) (by omega) ?_
  refine go_if_ne (t := 108) (q := 104) d_mo_lowest_101 (by decide) rfl (by omega) (fun c7 => ?_) (fun c7 => ?_)
  · have c8 : ¬ V (2 * v) = 0 := (by omega : ¬ V (2 * v) = 0)
    refine go_iload_n (q := 109) d_mo_lowest_108 rfl rfl rfl ?_
    refine go_iast (i := v) (q := 110) d_mo_lowest_109 rfl (mv_c4 hV) (by omega) (by omega) (by omega) ?_
    have hV_10 := mv_u4 hV (va_up S v s)
    have fr_11 : fr_ o 8 h (va_up h (o + 4) (mv_A 0 75 (va_up S v s))) := fun z_ hz => va_up_ne _ _ (by omega)
    generalize va_up h (o + 4) (mv_A 0 75 (va_up S v s)) = h_9 at hV_10 fr_11 ⊢
    refine go_aload_n (q := 111) d_mo_lowest_110 rfl rfl rfl ?_
    refine go_iconst (q := 112) d_mo_lowest_111 rfl ?_
    refine go_iload_n (q := 113) d_mo_lowest_112 rfl rfl rfl ?_
    refine go_imul (q := 114) d_mo_lowest_113 rfl ?_
    refine go_sipush (q := 117) d_mo_lowest_114 rfl (by decide) ?_
    refine cl_compare (a := 2 * v) (b := 158) (q := 120) rfl d_mo_lowest_117 rfl hV_10 (by omega) (by omega) (by decide) ⟨by decide, by decide, by decide, by decide⟩ ?_
    rw [(show V (2 * v) = V (2 * v) from rfl), (show V 158 = V 158 from rfl)]
    refine go_if_ge (t := 142) (q := 123) d_mo_lowest_120 (by decide) rfl cm_rng (fun c12 => ?_) (fun c12 => ?_)
    · have c13 : V 158 ≤ V (2 * v) := cm_gep c12
      refine go_iconst (q := 143) d_mo_lowest_142 rfl ?_
      exact k0 c8 c13 _ hV_10 fr_11
    · have c14 : V (2 * v) < V 158 := cm_gen c12
      refine go_aload_n (q := 124) d_mo_lowest_123 rfl rfl rfl ?_
      refine go_iconst (q := 125) d_mo_lowest_124 rfl ?_
      refine go_iload_n (q := 126) d_mo_lowest_125 rfl rfl rfl ?_
      refine go_imul (q := 127) d_mo_lowest_126 rfl ?_
      refine go_iconst (q := 128) d_mo_lowest_127 rfl ?_
      refine go_iadd (q := 129) d_mo_lowest_128 rfl ?_
      refine go_sipush (q := 132) d_mo_lowest_129 rfl (by decide) ?_
      refine cl_compare (a := (2 * v) + 1) (b := 158) (q := 135) rfl d_mo_lowest_132 rfl hV_10 (by omega) (by omega) (by decide) ⟨by decide, by decide, by decide, by decide⟩ ?_
      rw [(show V ((2 * v) + 1) = V ((2 * v) + 1) from rfl), (show V 158 = V 158 from rfl)]
      refine go_if_ge (t := 142) (q := 138) d_mo_lowest_135 (by decide) rfl cm_rng (fun c15 => ?_) (fun c15 => ?_)
      · have c16 : V 158 ≤ V ((2 * v) + 1) := cm_gep c15
        refine go_iconst (q := 143) d_mo_lowest_142 rfl ?_
        exact k1 c8 c14 c16 _ hV_10 fr_11
      · have c17 : V ((2 * v) + 1) < V 158 := cm_gen c15
        refine go_iconst (q := 139) d_mo_lowest_138 rfl ?_
        refine go_goto (q := 143) d_mo_lowest_139 (by decide) ?_
        exact k2 c8 c14 c17 _ hV_10 fr_11
  · have c18 : V (2 * v) = 0 := (by omega : V (2 * v) = 0)
    refine go_iconst (q := 105) d_mo_lowest_104 rfl ?_
    refine go_goto (q := 109) d_mo_lowest_105 (by decide) ?_
    refine go_iast (i := v) (q := 110) d_mo_lowest_109 rfl (mv_c4 hV) (by omega) (by omega) (by omega) ?_
    have hV_20 := mv_u4 hV (va_up S v 0)
    have fr_21 : fr_ o 8 h (va_up h (o + 4) (mv_A 0 75 (va_up S v 0))) := fun z_ hz => va_up_ne _ _ (by omega)
    generalize va_up h (o + 4) (mv_A 0 75 (va_up S v 0)) = h_19 at hV_20 fr_21 ⊢
    refine go_aload_n (q := 111) d_mo_lowest_110 rfl rfl rfl ?_
    refine go_iconst (q := 112) d_mo_lowest_111 rfl ?_
    refine go_iload_n (q := 113) d_mo_lowest_112 rfl rfl rfl ?_
    refine go_imul (q := 114) d_mo_lowest_113 rfl ?_
    refine go_sipush (q := 117) d_mo_lowest_114 rfl (by decide) ?_
    refine cl_compare (a := 2 * v) (b := 158) (q := 120) rfl d_mo_lowest_117 rfl hV_20 (by omega) (by omega) (by decide) ⟨by decide, by decide, by decide, by decide⟩ ?_
    rw [(show V (2 * v) = V (2 * v) from rfl), (show V 158 = V 158 from rfl)]
    refine go_if_ge (t := 142) (q := 123) d_mo_lowest_120 (by decide) rfl cm_rng (fun c22 => ?_) (fun c22 => ?_)
    · have c23 : V 158 ≤ V (2 * v) := cm_gep c22
      refine go_iconst (q := 143) d_mo_lowest_142 rfl ?_
      exact k3 c18 c23 _ hV_20 fr_21
    · have c24 : V (2 * v) < V 158 := cm_gen c22
      refine go_aload_n (q := 124) d_mo_lowest_123 rfl rfl rfl ?_
      refine go_iconst (q := 125) d_mo_lowest_124 rfl ?_
      refine go_iload_n (q := 126) d_mo_lowest_125 rfl rfl rfl ?_
      refine go_imul (q := 127) d_mo_lowest_126 rfl ?_
      refine go_iconst (q := 128) d_mo_lowest_127 rfl ?_
      refine go_iadd (q := 129) d_mo_lowest_128 rfl ?_
      refine go_sipush (q := 132) d_mo_lowest_129 rfl (by decide) ?_
      refine cl_compare (a := (2 * v) + 1) (b := 158) (q := 135) rfl d_mo_lowest_132 rfl hV_20 (by omega) (by omega) (by decide) ⟨by decide, by decide, by decide, by decide⟩ ?_
      rw [(show V ((2 * v) + 1) = V ((2 * v) + 1) from rfl), (show V 158 = V 158 from rfl)]
      refine go_if_ge (t := 142) (q := 138) d_mo_lowest_135 (by decide) rfl cm_rng (fun c25 => ?_) (fun c25 => ?_)
      · have c26 : V 158 ≤ V ((2 * v) + 1) := cm_gep c25
        refine go_iconst (q := 143) d_mo_lowest_142 rfl ?_
        exact k4 c18 c24 c26 _ hV_20 fr_21
      · have c27 : V ((2 * v) + 1) < V 158 := cm_gen c25
        refine go_iconst (q := 139) d_mo_lowest_138 rfl ?_
        refine go_goto (q := 143) d_mo_lowest_139 (by decide) ?_
        exact k5 c18 c24 c27 _ hV_20 fr_21

set_option maxRecDepth 4000 in
theorem sw_formOf {φ : go_F} {l : Launch} {h : mv_H} {n : Nat} {o : Nat} {I tx S ps cs bs : Nat → Int} {V : Nat → Nat} {v : Nat} (hV : mo_V h o (I, tx, S, ps, cs, bs) V) (hv : v < 75)
    (k0 : V (2 * v + 1) = 1 → V 159 ≤ V (2 * v) → Go φ l m_mo_formOf (go_rm rd_mo_formOf rw_mo_formOf 0 0) (0, 0) 30 [some (mv_R o), some (mv_I (v : Int))] [mv_I 1] h n)
    (k1 : V (2 * v + 1) = 1 → V (2 * v) < V 159 → Go φ l m_mo_formOf (go_rm rd_mo_formOf rw_mo_formOf 0 0) (0, 0) 30 [some (mv_R o), some (mv_I (v : Int))] [mv_I 0] h n)
    (k2 : ¬ V (2 * v + 1) = 1 → Go φ l m_mo_formOf (go_rm rd_mo_formOf rw_mo_formOf 0 0) (0, 0) 30 [some (mv_R o), some (mv_I (v : Int))] [mv_I 2] h n) :
    Go φ l m_mo_formOf (go_rm rd_mo_formOf rw_mo_formOf 0 0) (0, 0) 0 [some (mv_R o), some (mv_I (v : Int))] [] h n := by
  refine go_aload_n (q := 1) d_mo_formOf_0 rfl rfl rfl ?_
  refine go_iload_n (q := 2) d_mo_formOf_1 rfl rfl rfl ?_
  refine cl_isWhole (v := v) (q := 5) rfl d_mo_formOf_2 rfl hV (by omega) (by decide) ⟨by decide, by decide, by decide, by decide⟩ ?_
  rw [(show V (2 * v + 1) = V (2 * v + 1) from rfl)]
  refine go_if_ne (t := 12) (q := 8) d_mo_formOf_5 (by decide) rfl it_rng (fun c1 => ?_) (fun c1 => ?_)
  · have c2 : V (2 * v + 1) = 1 := it_nep c1
    refine go_aload_n (q := 13) d_mo_formOf_12 rfl rfl rfl ?_
    refine go_iconst (q := 14) d_mo_formOf_13 rfl ?_
    refine go_iload_n (q := 15) d_mo_formOf_14 rfl rfl rfl ?_
    refine go_imul (q := 16) d_mo_formOf_15 rfl ?_
    refine go_sipush (q := 19) d_mo_formOf_16 rfl (by decide) ?_
    refine cl_compare (a := 2 * v) (b := 159) (q := 22) rfl d_mo_formOf_19 rfl hV (by omega) (by omega) (by decide) ⟨by decide, by decide, by decide, by decide⟩ ?_
    rw [(show V (2 * v) = V (2 * v) from rfl), (show V 159 = V 159 from rfl)]
    refine go_if_ge (t := 29) (q := 25) d_mo_formOf_22 (by decide) rfl cm_rng (fun c3 => ?_) (fun c3 => ?_)
    · have c4 : V 159 ≤ V (2 * v) := cm_gep c3
      refine go_iconst (q := 30) d_mo_formOf_29 rfl ?_
      exact k0 c2 c4
    · have c5 : V (2 * v) < V 159 := cm_gen c3
      refine go_iconst (q := 26) d_mo_formOf_25 rfl ?_
      refine go_goto (q := 30) d_mo_formOf_26 (by decide) ?_
      exact k1 c2 c5
  · have c6 : ¬ V (2 * v + 1) = 1 := it_nen c1
    refine go_iconst (q := 9) d_mo_formOf_8 rfl ?_
    refine go_goto (q := 30) d_mo_formOf_9 (by decide) ?_
    exact k2 c6

