set_option maxRecDepth 4000 in
theorem sw_lowest_0 {φ : go_F} {l : Launch} {h : mv_H} {n : Nat} {o : Nat} {I tx S ps cs bs : Nat → Int} {V : Nat → Nat} {v : Nat} {s : Int} (hV : mo_V h o (I, tx, S, ps, cs, bs) V) (hv : v < 75)
    (k0 : V 152 = 1 → ∀ h' : mv_H, mo_V h' o (I, tx, S, ps, cs, bs) (va_up (va_up V (2 * v) (V 150)) ((2 * v) + 1) 1) → fr_ o 8 h h' → Go φ l m_mo_lowest (go_rm rd_mo_lowest rw_mo_lowest 0 0) (0, 0) 88 [some (mv_R o), some (mv_I (v : Int)), some (mv_I s)] [] h' n)
    (k1 : ¬ V 152 = 1 → ¬ V 150 = 0 → Go φ l m_mo_lowest (go_rm rd_mo_lowest rw_mo_lowest 0 0) (0, 0) 44 [some (mv_R o), some (mv_I (v : Int)), some (mv_I s)] [] h n)
    (k2 : ¬ V 152 = 1 → V 150 = 0 → ∀ h' : mv_H, mo_V h' o (I, tx, S, ps, cs, bs) (va_up (va_up V (2 * v) (V 150)) ((2 * v) + 1) 1) → fr_ o 8 h h' → Go φ l m_mo_lowest (go_rm rd_mo_lowest rw_mo_lowest 0 0) (0, 0) 88 [some (mv_R o), some (mv_I (v : Int)), some (mv_I s)] [] h' n) :
    Go φ l m_mo_lowest (go_rm rd_mo_lowest rw_mo_lowest 0 0) (0, 0) 0 [some (mv_R o), some (mv_I (v : Int)), some (mv_I s)] [] h n := by
  refine go_aload_n (q := 1) d_mo_lowest_0 rfl rfl rfl ?_
  refine go_sipush (q := 4) d_mo_lowest_1 rfl (by decide) ?_
  refine cl_isOne (r := 152) (q := 7) rfl d_mo_lowest_4 rfl hV (by omega) (Nat.le_of_ble_eq_true rfl) ⟨by decide, by decide, by decide, by decide⟩ ?_
  rw [(show V 152 = V 152 from rfl)]
  refine go_if_ne (t := 21) (q := 10) d_mo_lowest_7 (by decide) rfl it_rng (fun c1 => ?_) (fun c1 => ?_)
  · have c2 : V 152 = 1 := it_nep c1
    refine go_aload_n (q := 22) d_mo_lowest_21 rfl rfl rfl ?_
    refine go_sipush (q := 25) d_mo_lowest_22 rfl (by decide) ?_
    refine go_iconst (q := 26) d_mo_lowest_25 rfl ?_
    refine go_iload_n (q := 27) d_mo_lowest_26 rfl rfl rfl ?_
    refine go_imul (q := 28) d_mo_lowest_27 rfl ?_
    refine cl_copy (a := 150) (b := 2 * v) (q := 31) rfl d_mo_lowest_28 rfl hV (by omega) (by omega) (Nat.le_of_ble_eq_true rfl) ⟨by decide, by decide, by decide, by decide⟩ (fun h_3 hV_4 fr_5 => ?_)
    have hV_6 : mo_V h_3 o (I, tx, S, ps, cs, bs) (va_up V (2 * v) (V 150)) := by
      have e_ : (V) 150 = V 150 := by rw [(show V 150 = V 150 from rfl)]
      rw [← e_]
      exact hV_4
    refine go_aload_n (q := 32) d_mo_lowest_31 rfl rfl rfl ?_
    refine go_iconst (q := 33) d_mo_lowest_32 rfl ?_
    refine go_iload_n (q := 34) d_mo_lowest_33 rfl rfl rfl ?_
    refine go_imul (q := 35) d_mo_lowest_34 rfl ?_
    refine go_iconst (q := 36) d_mo_lowest_35 rfl ?_
    refine go_iadd (q := 37) d_mo_lowest_36 rfl ?_
    refine go_iconst (q := 38) d_mo_lowest_37 rfl ?_
    refine cl_set (r := (2 * v) + 1) (v := 1) (q := 41) rfl d_mo_lowest_38 rfl hV_6 (by omega) (by omega) (Nat.le_of_ble_eq_true rfl) ⟨by decide, by decide, by decide, by decide⟩ (fun h_7 hV_8 fr_9 => ?_)
    have hV_10 : mo_V h_7 o (I, tx, S, ps, cs, bs) (va_up (va_up V (2 * v) (V 150)) ((2 * v) + 1) 1) := hV_8
    refine go_goto (q := 88) d_mo_lowest_41 (by decide) ?_
    exact k0 c2 _ hV_10 (fr_.tr fr_5 fr_9)
  · have c11 : ¬ V 152 = 1 := it_nen c1
    refine go_aload_n (q := 11) d_mo_lowest_10 rfl rfl rfl ?_
    refine go_getf (q := 14) f_mo_20 d_mo_lowest_11 rfl (mv_c0 hV) rfl ?_
    refine go_sipush (q := 17) d_mo_lowest_14 rfl (by decide) ?_
    obtain ⟨D_12, U_13, hm_14, hM_15⟩ := id hV
    have q_16 := hM_15.2.1 150
    have q_17 : U_13 150 = 0 ↔ V 150 = 0 := by
      have z_ := mo_U0 hM_15 (r := 150) (by omega)
      rw [(show V 150 = V 150 from rfl)] at z_
      exact z_
    refine go_iald (i := 150) (q := 18) d_mo_lowest_17 rfl (MD_c3 hm_14) (by omega) (by omega) (by omega) ?_
    refine go_if_ne (t := 44) (q := 21) d_mo_lowest_18 (by decide) rfl (by omega) (fun c18 => ?_) (fun c18 => ?_)
    · have c19 : ¬ V 150 = 0 := (by omega : ¬ V 150 = 0)
      exact k1 c11 c19
    · have c20 : V 150 = 0 := (by omega : V 150 = 0)
      refine go_aload_n (q := 22) d_mo_lowest_21 rfl rfl rfl ?_
      refine go_sipush (q := 25) d_mo_lowest_22 rfl (by decide) ?_
      refine go_iconst (q := 26) d_mo_lowest_25 rfl ?_
      refine go_iload_n (q := 27) d_mo_lowest_26 rfl rfl rfl ?_
      refine go_imul (q := 28) d_mo_lowest_27 rfl ?_
      refine cl_copy (a := 150) (b := 2 * v) (q := 31) rfl d_mo_lowest_28 rfl hV (by omega) (by omega) (Nat.le_of_ble_eq_true rfl) ⟨by decide, by decide, by decide, by decide⟩ (fun h_21 hV_22 fr_23 => ?_)
      have hV_24 : mo_V h_21 o (I, tx, S, ps, cs, bs) (va_up V (2 * v) (V 150)) := by
        have e_ : (V) 150 = V 150 := by rw [(show V 150 = V 150 from rfl)]
        rw [← e_]
        exact hV_22
      refine go_aload_n (q := 32) d_mo_lowest_31 rfl rfl rfl ?_
      refine go_iconst (q := 33) d_mo_lowest_32 rfl ?_
      refine go_iload_n (q := 34) d_mo_lowest_33 rfl rfl rfl ?_
      refine go_imul (q := 35) d_mo_lowest_34 rfl ?_
      refine go_iconst (q := 36) d_mo_lowest_35 rfl ?_
      refine go_iadd (q := 37) d_mo_lowest_36 rfl ?_
      refine go_iconst (q := 38) d_mo_lowest_37 rfl ?_
      refine cl_set (r := (2 * v) + 1) (v := 1) (q := 41) rfl d_mo_lowest_38 rfl hV_24 (by omega) (by omega) (Nat.le_of_ble_eq_true rfl) ⟨by decide, by decide, by decide, by decide⟩ (fun h_25 hV_26 fr_27 => ?_)
      have hV_28 : mo_V h_25 o (I, tx, S, ps, cs, bs) (va_up (va_up V (2 * v) (V 150)) ((2 * v) + 1) 1) := hV_26
      refine go_goto (q := 88) d_mo_lowest_41 (by decide) ?_
      exact k2 c11 c20 _ hV_28 (fr_.tr fr_23 fr_27)

set_option maxRecDepth 4000 in
theorem sw_lowest_44 {φ : go_F} {l : Launch} {h : mv_H} {n : Nat} {o : Nat} {I tx S ps cs bs : Nat → Int} {V : Nat → Nat} {v : Nat} {s : Int} (hV : mo_V h o (I, tx, S, ps, cs, bs) V) (hv : v < 75)
    (k0 : ∀ (V_6 : Nat → Nat), V_6 154 = Nat.gcd (V 150) (V 152) → (∀ i, i ≠ 154 → i ≠ 155 → V_6 i = (V) i) → ∀ h' : mv_H, mo_V h' o (I, tx, S, ps, cs, bs) (V_6) → fr_ o 8 h h' → Go φ l m_mo_lowest (go_rm rd_mo_lowest rw_mo_lowest 0 0) (0, 0) 54 [some (mv_R o), some (mv_I (v : Int)), some (mv_I s)] [] h' n) :
    Go φ l m_mo_lowest (go_rm rd_mo_lowest rw_mo_lowest 0 0) (0, 0) 44 [some (mv_R o), some (mv_I (v : Int)), some (mv_I s)] [] h n := by
  refine go_aload_n (q := 45) d_mo_lowest_44 rfl rfl rfl ?_
  refine go_sipush (q := 48) d_mo_lowest_45 rfl (by decide) ?_
  refine go_sipush (q := 51) d_mo_lowest_48 rfl (by decide) ?_
  refine cl_common (a := 150) (b := 152) (q := 54) rfl d_mo_lowest_51 rfl hV (by omega) (Nat.le_of_ble_eq_true rfl) ⟨by decide, by decide, by decide, by decide⟩ (fun h_1 V_6 hV_2 fr_3 e_4 o_5 => ?_)
  rw [(show V 150 = V 150 from rfl), (show V 152 = V 152 from rfl)] at e_4
  exact k0 V_6 e_4 o_5 _ hV_2 fr_3

set_option maxRecDepth 4000 in
theorem sw_lowest_54 {φ : go_F} {l : Launch} {h : mv_H} {n : Nat} {o : Nat} {I tx S ps cs bs : Nat → Int} {V : Nat → Nat} {v : Nat} {s : Int} (hV : mo_V h o (I, tx, S, ps, cs, bs) V) (hv : v < 75) (hg : 0 < V 154 ∧ V 154 < 10000 ^ 39)
    (k0 : ∀ (V_7 : Nat → Nat), V_7 (2 * v) = (V 150) / (V 154) → V_7 156 = (V 150) % (V 154) → (∀ i, i ≠ (2 * v) → i ≠ 156 → i ≠ 157 → V_7 i = (V) i) → ∀ h' : mv_H, mo_V h' o (I, tx, S, ps, cs, bs) (V_7) → fr_ o 8 h h' → Go φ l m_mo_lowest (go_rm rd_mo_lowest rw_mo_lowest 0 0) (0, 0) 70 [some (mv_R o), some (mv_I (v : Int)), some (mv_I s)] [] h' n) :
    Go φ l m_mo_lowest (go_rm rd_mo_lowest rw_mo_lowest 0 0) (0, 0) 54 [some (mv_R o), some (mv_I (v : Int)), some (mv_I s)] [] h n := by
  refine go_aload_n (q := 55) d_mo_lowest_54 rfl rfl rfl ?_
  refine go_sipush (q := 58) d_mo_lowest_55 rfl (by decide) ?_
  refine go_sipush (q := 61) d_mo_lowest_58 rfl (by decide) ?_
  refine go_iconst (q := 62) d_mo_lowest_61 rfl ?_
  refine go_iload_n (q := 63) d_mo_lowest_62 rfl rfl rfl ?_
  refine go_imul (q := 64) d_mo_lowest_63 rfl ?_
  refine go_sipush (q := 67) d_mo_lowest_64 rfl (by decide) ?_
  refine cl_divide (a := 150) (b := 154) (c := 2 * v) (e := 156) (q := 70) rfl d_mo_lowest_67 rfl hV (by omega) (by rw [(show V 154 = V 154 from rfl)]; omega) (by rw [(show V 154 = V 154 from rfl)]; omega) (Nat.le_of_ble_eq_true rfl) ⟨by decide, by decide, by decide, by decide⟩ (fun h_1 V_7 hV_2 fr_3 e_4 e_5 o_6 => ?_)
  rw [(show V 150 = V 150 from rfl), (show V 154 = V 154 from rfl)] at e_4 e_5
  exact k0 V_7 e_4 e_5 o_6 _ hV_2 fr_3

set_option maxRecDepth 4000 in
theorem sw_lowest_70 {φ : go_F} {l : Launch} {h : mv_H} {n : Nat} {o : Nat} {I tx S ps cs bs : Nat → Int} {V : Nat → Nat} {v : Nat} {s : Int} (hV : mo_V h o (I, tx, S, ps, cs, bs) V) (hv : v < 75) (hg : 0 < V 154 ∧ V 154 < 10000 ^ 39)
    (k0 : ∀ (V_7 : Nat → Nat), V_7 ((2 * v) + 1) = (V 152) / (V 154) → V_7 156 = (V 152) % (V 154) → (∀ i, i ≠ ((2 * v) + 1) → i ≠ 156 → i ≠ 157 → V_7 i = (V) i) → ∀ h' : mv_H, mo_V h' o (I, tx, S, ps, cs, bs) (V_7) → fr_ o 8 h h' → Go φ l m_mo_lowest (go_rm rd_mo_lowest rw_mo_lowest 0 0) (0, 0) 88 [some (mv_R o), some (mv_I (v : Int)), some (mv_I s)] [] h' n) :
    Go φ l m_mo_lowest (go_rm rd_mo_lowest rw_mo_lowest 0 0) (0, 0) 70 [some (mv_R o), some (mv_I (v : Int)), some (mv_I s)] [] h n := by
  refine go_aload_n (q := 71) d_mo_lowest_70 rfl rfl rfl ?_
  refine go_sipush (q := 74) d_mo_lowest_71 rfl (by decide) ?_
  refine go_sipush (q := 77) d_mo_lowest_74 rfl (by decide) ?_
  refine go_iconst (q := 78) d_mo_lowest_77 rfl ?_
  refine go_iload_n (q := 79) d_mo_lowest_78 rfl rfl rfl ?_
  refine go_imul (q := 80) d_mo_lowest_79 rfl ?_
  refine go_iconst (q := 81) d_mo_lowest_80 rfl ?_
  refine go_iadd (q := 82) d_mo_lowest_81 rfl ?_
  refine go_sipush (q := 85) d_mo_lowest_82 rfl (by decide) ?_
  refine cl_divide (a := 152) (b := 154) (c := (2 * v) + 1) (e := 156) (q := 88) rfl d_mo_lowest_85 rfl hV (by omega) (by rw [(show V 154 = V 154 from rfl)]; omega) (by rw [(show V 154 = V 154 from rfl)]; omega) (Nat.le_of_ble_eq_true rfl) ⟨by decide, by decide, by decide, by decide⟩ (fun h_1 V_7 hV_2 fr_3 e_4 e_5 o_6 => ?_)
  rw [(show V 152 = V 152 from rfl), (show V 154 = V 154 from rfl)] at e_4 e_5
  exact k0 V_7 e_4 e_5 o_6 _ hV_2 fr_3

set_option maxRecDepth 4000 in
theorem sw_lowest_88 {φ : go_F} {l : Launch} {h : mv_H} {n : Nat} {o : Nat} {I tx S ps cs bs : Nat → Int} {V : Nat → Nat} {v : Nat} {s : Int} (hV : mo_V h o (I, tx, S, ps, cs, bs) V) (hv : v < 75)
    (k0 : ¬ V (2 * v) = 0 → V 158 ≤ V (2 * v) → ∀ h' : mv_H, mo_V h' o (I, tx, va_up S v s, ps, cs, bs) (V) → fr_ o 8 h h' → Go φ l m_mo_lowest (go_rm rd_mo_lowest rw_mo_lowest 0 0) (0, 0) 143 [some (mv_R o), some (mv_I (v : Int)), some (mv_I s)] [mv_I 1] h' n)
    (k1 : ¬ V (2 * v) = 0 → V (2 * v) < V 158 → V 158 ≤ V ((2 * v) + 1) → ∀ h' : mv_H, mo_V h' o (I, tx, va_up S v s, ps, cs, bs) (V) → fr_ o 8 h h' → Go φ l m_mo_lowest (go_rm rd_mo_lowest rw_mo_lowest 0 0) (0, 0) 143 [some (mv_R o), some (mv_I (v : Int)), some (mv_I s)] [mv_I 1] h' n)
    (k2 : ¬ V (2 * v) = 0 → V (2 * v) < V 158 → V ((2 * v) + 1) < V 158 → ∀ h' : mv_H, mo_V h' o (I, tx, va_up S v s, ps, cs, bs) (V) → fr_ o 8 h h' → Go φ l m_mo_lowest (go_rm rd_mo_lowest rw_mo_lowest 0 0) (0, 0) 143 [some (mv_R o), some (mv_I (v : Int)), some (mv_I s)] [mv_I 0] h' n)
    (k3 : V (2 * v) = 0 → V 158 ≤ V (2 * v) → ∀ h' : mv_H, mo_V h' o (I, tx, va_up S v 0, ps, cs, bs) (V) → fr_ o 8 h h' → Go φ l m_mo_lowest (go_rm rd_mo_lowest rw_mo_lowest 0 0) (0, 0) 143 [some (mv_R o), some (mv_I (v : Int)), some (mv_I s)] [mv_I 1] h' n)
    (k4 : V (2 * v) = 0 → V (2 * v) < V 158 → V 158 ≤ V ((2 * v) + 1) → ∀ h' : mv_H, mo_V h' o (I, tx, va_up S v 0, ps, cs, bs) (V) → fr_ o 8 h h' → Go φ l m_mo_lowest (go_rm rd_mo_lowest rw_mo_lowest 0 0) (0, 0) 143 [some (mv_R o), some (mv_I (v : Int)), some (mv_I s)] [mv_I 1] h' n)
    (k5 : V (2 * v) = 0 → V (2 * v) < V 158 → V ((2 * v) + 1) < V 158 → ∀ h' : mv_H, mo_V h' o (I, tx, va_up S v 0, ps, cs, bs) (V) → fr_ o 8 h h' → Go φ l m_mo_lowest (go_rm rd_mo_lowest rw_mo_lowest 0 0) (0, 0) 143 [some (mv_R o), some (mv_I (v : Int)), some (mv_I s)] [mv_I 0] h' n) :
    Go φ l m_mo_lowest (go_rm rd_mo_lowest rw_mo_lowest 0 0) (0, 0) 88 [some (mv_R o), some (mv_I (v : Int)), some (mv_I s)] [] h n := by
  refine go_aload_n (q := 89) d_mo_lowest_88 rfl rfl rfl ?_
  refine go_getf (q := 92) f_mo_23 d_mo_lowest_89 rfl (mv_c0 hV) rfl ?_
  refine go_iload_n (q := 93) d_mo_lowest_92 rfl rfl rfl ?_
  refine go_aload_n (q := 94) d_mo_lowest_93 rfl rfl rfl ?_
  refine go_getf (q := 97) f_mo_20 d_mo_lowest_94 rfl (mv_c0 hV) rfl ?_
  refine go_iconst (q := 98) d_mo_lowest_97 rfl ?_
  refine go_iload_n (q := 99) d_mo_lowest_98 rfl rfl rfl ?_
  refine go_imul (q := 100) d_mo_lowest_99 rfl ?_
  obtain ⟨D_1, U_2, hm_3, hM_4⟩ := id hV
  have q_5 := hM_4.2.1 (2 * v)
  have q_6 : U_2 (2 * v) = 0 ↔ V (2 * v) = 0 := by
    have z_ := mo_U0 hM_4 (r := 2 * v) (by omega)
    rw [(show V (2 * v) = V (2 * v) from rfl)] at z_
    exact z_
  refine go_iald (i := 2 * v) (q := 101) d_mo_lowest_100 rfl (MD_c3 hm_3) (by omega) (by omega) (by omega) ?_
  refine go_if_ne (t := 108) (q := 104) d_mo_lowest_101 (by decide) rfl (by omega) (fun c7 => ?_) (fun c7 => ?_)
  · have c8 : ¬ V (2 * v) = 0 := (by omega : ¬ V (2 * v) = 0)
    refine go_iload_n (q := 109) d_mo_lowest_108 rfl rfl rfl ?_
    refine go_iast (i := v) (q := 110) d_mo_lowest_109 rfl (mv_c4 hV) (by omega) (by omega) (by omega) ?_
    have hV_10 := mv_u4 hV (va_up S v s)
    have fr_11 : fr_ o 8 h (va_up h (o + 4) (mv_A 0 75 (va_up S v s))) := fun z_ hz => va_up_ne _ _ (by omega)
    generalize va_up h (o + 4) (mv_A 0 75 (va_up S v s)) = h_9 at hV_10 fr_11 ⊢
    refine go_aload_n (q := 111) d_mo_lowest_110 rfl rfl rfl ?_
    refine go_iconst (q := 112) d_mo_lowest_111 rfl ?_
    refine go_iload_n (q := 113) d_mo_lowest_112 rfl rfl rfl ?_
    refine go_imul (q := 114) d_mo_lowest_113 rfl ?_
    refine go_sipush (q := 117) d_mo_lowest_114 rfl (by decide) ?_
    refine cl_compare (a := 2 * v) (b := 158) (q := 120) rfl d_mo_lowest_117 rfl hV_10 (by omega) (by omega) (Nat.le_of_ble_eq_true rfl) ⟨by decide, by decide, by decide, by decide⟩ ?_
    rw [(show V (2 * v) = V (2 * v) from rfl), (show V 158 = V 158 from rfl)]
    refine go_if_ge (t := 142) (q := 123) d_mo_lowest_120 (by decide) rfl cm_rng (fun c12 => ?_) (fun c12 => ?_)
    · have c13 : V 158 ≤ V (2 * v) := cm_gep c12
      refine go_iconst (q := 143) d_mo_lowest_142 rfl ?_
      exact k0 c8 c13 _ hV_10 fr_11
    · have c14 : V (2 * v) < V 158 := cm_gen c12
      refine go_aload_n (q := 124) d_mo_lowest_123 rfl rfl rfl ?_
      refine go_iconst (q := 125) d_mo_lowest_124 rfl ?_
      refine go_iload_n (q := 126) d_mo_lowest_125 rfl rfl rfl ?_
      refine go_imul (q := 127) d_mo_lowest_126 rfl ?_
      refine go_iconst (q := 128) d_mo_lowest_127 rfl ?_
      refine go_iadd (q := 129) d_mo_lowest_128 rfl ?_
      refine go_sipush (q := 132) d_mo_lowest_129 rfl (by decide) ?_
      refine cl_compare (a := (2 * v) + 1) (b := 158) (q := 135) rfl d_mo_lowest_132 rfl hV_10 (by omega) (by omega) (Nat.le_of_ble_eq_true rfl) ⟨by decide, by decide, by decide, by decide⟩ ?_
      rw [(show V ((2 * v) + 1) = V ((2 * v) + 1) from rfl), (show V 158 = V 158 from rfl)]
      refine go_if_ge (t := 142) (q := 138) d_mo_lowest_135 (by decide) rfl cm_rng (fun c15 => ?_) (fun c15 => ?_)
      · have c16 : V 158 ≤ V ((2 * v) + 1) := cm_gep c15
        refine go_iconst (q := 143) d_mo_lowest_142 rfl ?_
        exact k1 c8 c14 c16 _ hV_10 fr_11
      · have c17 : V ((2 * v) + 1) < V 158 := cm_gen c15
        refine go_iconst (q := 139) d_mo_lowest_138 rfl ?_
        refine go_goto (q := 143) d_mo_lowest_139 (by decide) ?_
        exact k2 c8 c14 c17 _ hV_10 fr_11
  · have c18 : V (2 * v) = 0 := (by omega : V (2 * v) = 0)
    refine go_iconst (q := 105) d_mo_lowest_104 rfl ?_
    refine go_goto (q := 109) d_mo_lowest_105 (by decide) ?_
    refine go_iast (i := v) (q := 110) d_mo_lowest_109 rfl (mv_c4 hV) (by omega) (by omega) (by omega) ?_
    have hV_20 := mv_u4 hV (va_up S v 0)
    have fr_21 : fr_ o 8 h (va_up h (o + 4) (mv_A 0 75 (va_up S v 0))) := fun z_ hz => va_up_ne _ _ (by omega)
    generalize va_up h (o + 4) (mv_A 0 75 (va_up S v 0)) = h_19 at hV_20 fr_21 ⊢
    refine go_aload_n (q := 111) d_mo_lowest_110 rfl rfl rfl ?_
    refine go_iconst (q := 112) d_mo_lowest_111 rfl ?_
    refine go_iload_n (q := 113) d_mo_lowest_112 rfl rfl rfl ?_
    refine go_imul (q := 114) d_mo_lowest_113 rfl ?_
    refine go_sipush (q := 117) d_mo_lowest_114 rfl (by decide) ?_
    refine cl_compare (a := 2 * v) (b := 158) (q := 120) rfl d_mo_lowest_117 rfl hV_20 (by omega) (by omega) (Nat.le_of_ble_eq_true rfl) ⟨by decide, by decide, by decide, by decide⟩ ?_
    rw [(show V (2 * v) = V (2 * v) from rfl), (show V 158 = V 158 from rfl)]
    refine go_if_ge (t := 142) (q := 123) d_mo_lowest_120 (by decide) rfl cm_rng (fun c22 => ?_) (fun c22 => ?_)
    · have c23 : V 158 ≤ V (2 * v) := cm_gep c22
      refine go_iconst (q := 143) d_mo_lowest_142 rfl ?_
      exact k3 c18 c23 _ hV_20 fr_21
    · have c24 : V (2 * v) < V 158 := cm_gen c22
      refine go_aload_n (q := 124) d_mo_lowest_123 rfl rfl rfl ?_
      refine go_iconst (q := 125) d_mo_lowest_124 rfl ?_
      refine go_iload_n (q := 126) d_mo_lowest_125 rfl rfl rfl ?_
      refine go_imul (q := 127) d_mo_lowest_126 rfl ?_
      refine go_iconst (q := 128) d_mo_lowest_127 rfl ?_
      refine go_iadd (q := 129) d_mo_lowest_128 rfl ?_
      refine go_sipush (q := 132) d_mo_lowest_129 rfl (by decide) ?_
      refine cl_compare (a := (2 * v) + 1) (b := 158) (q := 135) rfl d_mo_lowest_132 rfl hV_20 (by omega) (by omega) (Nat.le_of_ble_eq_true rfl) ⟨by decide, by decide, by decide, by decide⟩ ?_
      rw [(show V ((2 * v) + 1) = V ((2 * v) + 1) from rfl), (show V 158 = V 158 from rfl)]
      refine go_if_ge (t := 142) (q := 138) d_mo_lowest_135 (by decide) rfl cm_rng (fun c25 => ?_) (fun c25 => ?_)
      · have c26 : V 158 ≤ V ((2 * v) + 1) := cm_gep c25
        refine go_iconst (q := 143) d_mo_lowest_142 rfl ?_
        exact k4 c18 c24 c26 _ hV_20 fr_21
      · have c27 : V ((2 * v) + 1) < V 158 := cm_gen c25
        refine go_iconst (q := 139) d_mo_lowest_138 rfl ?_
        refine go_goto (q := 143) d_mo_lowest_139 (by decide) ?_
        exact k5 c18 c24 c27 _ hV_20 fr_21

set_option maxRecDepth 4000 in
theorem sw_formOf {φ : go_F} {l : Launch} {h : mv_H} {n : Nat} {o : Nat} {I tx S ps cs bs : Nat → Int} {V : Nat → Nat} {v : Nat} (hV : mo_V h o (I, tx, S, ps, cs, bs) V) (hv : v < 75)
    (k0 : V (2 * v + 1) = 1 → V 159 ≤ V (2 * v) → Go φ l m_mo_formOf (go_rm rd_mo_formOf rw_mo_formOf 0 0) (0, 0) 30 [some (mv_R o), some (mv_I (v : Int))] [mv_I 1] h n)
    (k1 : V (2 * v + 1) = 1 → V (2 * v) < V 159 → Go φ l m_mo_formOf (go_rm rd_mo_formOf rw_mo_formOf 0 0) (0, 0) 30 [some (mv_R o), some (mv_I (v : Int))] [mv_I 0] h n)
    (k2 : ¬ V (2 * v + 1) = 1 → Go φ l m_mo_formOf (go_rm rd_mo_formOf rw_mo_formOf 0 0) (0, 0) 30 [some (mv_R o), some (mv_I (v : Int))] [mv_I 2] h n) :
    Go φ l m_mo_formOf (go_rm rd_mo_formOf rw_mo_formOf 0 0) (0, 0) 0 [some (mv_R o), some (mv_I (v : Int))] [] h n := by
  refine go_aload_n (q := 1) d_mo_formOf_0 rfl rfl rfl ?_
  refine go_iload_n (q := 2) d_mo_formOf_1 rfl rfl rfl ?_
  refine cl_isWhole (v := v) (q := 5) rfl d_mo_formOf_2 rfl hV (by omega) (Nat.le_of_ble_eq_true rfl) ⟨by decide, by decide, by decide, by decide⟩ ?_
  rw [(show V (2 * v + 1) = V (2 * v + 1) from rfl)]
  refine go_if_ne (t := 12) (q := 8) d_mo_formOf_5 (by decide) rfl it_rng (fun c1 => ?_) (fun c1 => ?_)
  · have c2 : V (2 * v + 1) = 1 := it_nep c1
    refine go_aload_n (q := 13) d_mo_formOf_12 rfl rfl rfl ?_
    refine go_iconst (q := 14) d_mo_formOf_13 rfl ?_
    refine go_iload_n (q := 15) d_mo_formOf_14 rfl rfl rfl ?_
    refine go_imul (q := 16) d_mo_formOf_15 rfl ?_
    refine go_sipush (q := 19) d_mo_formOf_16 rfl (by decide) ?_
    refine cl_compare (a := 2 * v) (b := 159) (q := 22) rfl d_mo_formOf_19 rfl hV (by omega) (by omega) (Nat.le_of_ble_eq_true rfl) ⟨by decide, by decide, by decide, by decide⟩ ?_
    rw [(show V (2 * v) = V (2 * v) from rfl), (show V 159 = V 159 from rfl)]
    refine go_if_ge (t := 29) (q := 25) d_mo_formOf_22 (by decide) rfl cm_rng (fun c3 => ?_) (fun c3 => ?_)
    · have c4 : V 159 ≤ V (2 * v) := cm_gep c3
      refine go_iconst (q := 30) d_mo_formOf_29 rfl ?_
      exact k0 c2 c4
    · have c5 : V (2 * v) < V 159 := cm_gen c3
      refine go_iconst (q := 26) d_mo_formOf_25 rfl ?_
      refine go_goto (q := 30) d_mo_formOf_26 (by decide) ?_
      exact k1 c2 c5
  · have c6 : ¬ V (2 * v + 1) = 1 := it_nen c1
    refine go_iconst (q := 9) d_mo_formOf_8 rfl ?_
    refine go_goto (q := 30) d_mo_formOf_9 (by decide) ?_
    exact k2 c6

set_option maxRecDepth 4000 in
theorem sw_sum {φ : go_F} {l : Launch} {h : mv_H} {n : Nat} {o : Nat} {I tx S ps cs bs : Nat → Int} {V : Nat → Nat} {v w : Nat} {t : Int} (hV : mo_V h o (I, tx, S, ps, cs, bs) V) (hv : v < 75) (hw : w < 75) (hs1 : V (2 * v) * V ((2 * w) + 1) < 10000 ^ 40) (hs2 : V (2 * w) * V ((2 * v) + 1) < 10000 ^ 40) (hs3 : V ((2 * v) + 1) * V ((2 * w) + 1) < 10000 ^ 40) (hs4 : V (2 * v) * V ((2 * w) + 1) + V (2 * w) * V ((2 * v) + 1) < 10000 ^ 40) (ht : -1 ≤ t ∧ t ≤ 1) (hS : ∀ i, -1 ≤ S i ∧ S i ≤ 1)
    (k0 : (S v) * ((S w) * t) < 0 → (V (2 * v)) * (V ((2 * w) + 1)) < (V (2 * w)) * (V ((2 * v) + 1)) → ∀ h' : mv_H, mo_V h' o (I, tx, S, ps, cs, bs) (va_up (va_up (va_up (va_up (va_up V 150 ((V (2 * v)) * (V ((2 * w) + 1)))) 151 ((V (2 * w)) * (V ((2 * v) + 1)))) 152 ((V ((2 * v) + 1)) * (V ((2 * w) + 1)))) 151 (((V (2 * w)) * (V ((2 * v) + 1))) - ((V (2 * v)) * (V ((2 * w) + 1))))) 150 (((V (2 * w)) * (V ((2 * v) + 1))) - ((V (2 * v)) * (V ((2 * w) + 1))))) → fr_ o 8 h h' → Go φ l m_mo_sum (go_rm rd_mo_sum rw_mo_sum 0 0) (0, 0) 156 [some (mv_R o), some (mv_I (v : Int)), some (mv_I (w : Int)), some (mv_I t), some (mv_I (S v)), some (mv_I ((S w) * t))] [mv_I ((S w) * t), mv_I (v : Int), mv_R o] h' n)
    (k1 : (S v) * ((S w) * t) < 0 → (V (2 * w)) * (V ((2 * v) + 1)) ≤ (V (2 * v)) * (V ((2 * w) + 1)) → ∀ h' : mv_H, mo_V h' o (I, tx, S, ps, cs, bs) (va_up (va_up (va_up (va_up V 150 ((V (2 * v)) * (V ((2 * w) + 1)))) 151 ((V (2 * w)) * (V ((2 * v) + 1)))) 152 ((V ((2 * v) + 1)) * (V ((2 * w) + 1)))) 150 (((V (2 * v)) * (V ((2 * w) + 1))) - ((V (2 * w)) * (V ((2 * v) + 1))))) → fr_ o 8 h h' → Go φ l m_mo_sum (go_rm rd_mo_sum rw_mo_sum 0 0) (0, 0) 128 [some (mv_R o), some (mv_I (v : Int)), some (mv_I (w : Int)), some (mv_I t), some (mv_I (S v)), some (mv_I ((S w) * t))] [mv_I (S v), mv_I (v : Int), mv_R o] h' n)
    (k2 : ¬ (S v) * ((S w) * t) < 0 → ¬ S v = 0 → ∀ h' : mv_H, mo_V h' o (I, tx, S, ps, cs, bs) (va_up (va_up (va_up (va_up V 150 ((V (2 * v)) * (V ((2 * w) + 1)))) 151 ((V (2 * w)) * (V ((2 * v) + 1)))) 152 ((V ((2 * v) + 1)) * (V ((2 * w) + 1)))) 150 (((V (2 * v)) * (V ((2 * w) + 1))) + ((V (2 * w)) * (V ((2 * v) + 1))))) → fr_ o 8 h h' → Go φ l m_mo_sum (go_rm rd_mo_sum rw_mo_sum 0 0) (0, 0) 97 [some (mv_R o), some (mv_I (v : Int)), some (mv_I (w : Int)), some (mv_I t), some (mv_I (S v)), some (mv_I ((S w) * t))] [mv_I (S v), mv_I (v : Int), mv_R o] h' n)
    (k3 : ¬ (S v) * ((S w) * t) < 0 → S v = 0 → ∀ h' : mv_H, mo_V h' o (I, tx, S, ps, cs, bs) (va_up (va_up (va_up (va_up V 150 ((V (2 * v)) * (V ((2 * w) + 1)))) 151 ((V (2 * w)) * (V ((2 * v) + 1)))) 152 ((V ((2 * v) + 1)) * (V ((2 * w) + 1)))) 150 (((V (2 * v)) * (V ((2 * w) + 1))) + ((V (2 * w)) * (V ((2 * v) + 1))))) → fr_ o 8 h h' → Go φ l m_mo_sum (go_rm rd_mo_sum rw_mo_sum 0 0) (0, 0) 97 [some (mv_R o), some (mv_I (v : Int)), some (mv_I (w : Int)), some (mv_I t), some (mv_I (S v)), some (mv_I ((S w) * t))] [mv_I ((S w) * t), mv_I (v : Int), mv_R o] h' n) :
    Go φ l m_mo_sum (go_rm rd_mo_sum rw_mo_sum 0 0) (0, 0) 0 [some (mv_R o), some (mv_I (v : Int)), some (mv_I (w : Int)), some (mv_I t), none, none] [] h n := by
  refine go_aload_n (q := 1) d_mo_sum_0 rfl rfl rfl ?_
  refine go_iconst (q := 2) d_mo_sum_1 rfl ?_
  refine go_iload_n (q := 3) d_mo_sum_2 rfl rfl rfl ?_
  refine go_imul (q := 4) d_mo_sum_3 rfl ?_
  refine go_iconst (q := 5) d_mo_sum_4 rfl ?_
  refine go_iload_n (q := 6) d_mo_sum_5 rfl rfl rfl ?_
  refine go_imul (q := 7) d_mo_sum_6 rfl ?_
  refine go_iconst (q := 8) d_mo_sum_7 rfl ?_
  refine go_iadd (q := 9) d_mo_sum_8 rfl ?_
  refine go_sipush (q := 12) d_mo_sum_9 rfl (by decide) ?_
  refine cl_multiply (a := 2 * v) (b := (2 * w) + 1) (t := 150) (q := 15) rfl d_mo_sum_12 rfl hV (by omega) (by omega) (by omega) (by omega) (by omega) (by rw [(show V (2 * v) = V (2 * v) from rfl), (show V ((2 * w) + 1) = V ((2 * w) + 1) from rfl)]; assumption) (Nat.le_of_ble_eq_true rfl) ⟨by decide, by decide, by decide, by decide⟩ (fun h_1 hV_2 fr_3 => ?_)
  have hV_4 : mo_V h_1 o (I, tx, S, ps, cs, bs) (va_up V 150 ((V (2 * v)) * (V ((2 * w) + 1)))) := by
    have e_ : (V) (2 * v) * (V) ((2 * w) + 1) = (V (2 * v)) * (V ((2 * w) + 1)) := by rw [(show V (2 * v) = V (2 * v) from rfl), (show V ((2 * w) + 1) = V ((2 * w) + 1) from rfl)]
    rw [← e_]
    exact hV_2
  refine go_aload_n (q := 16) d_mo_sum_15 rfl rfl rfl ?_
  refine go_iconst (q := 17) d_mo_sum_16 rfl ?_
  refine go_iload_n (q := 18) d_mo_sum_17 rfl rfl rfl ?_
  refine go_imul (q := 19) d_mo_sum_18 rfl ?_
  refine go_iconst (q := 20) d_mo_sum_19 rfl ?_
  refine go_iload_n (q := 21) d_mo_sum_20 rfl rfl rfl ?_
  refine go_imul (q := 22) d_mo_sum_21 rfl ?_
  refine go_iconst (q := 23) d_mo_sum_22 rfl ?_
  refine go_iadd (q := 24) d_mo_sum_23 rfl ?_
  refine go_sipush (q := 27) d_mo_sum_24 rfl (by decide) ?_
  refine cl_multiply (a := 2 * w) (b := (2 * v) + 1) (t := 151) (q := 30) rfl d_mo_sum_27 rfl hV_4 (by omega) (by omega) (by omega) (by omega) (by omega) (by rw [(show (va_up V 150 ((V (2 * v)) * (V ((2 * w) + 1)))) (2 * w) = V (2 * w) from ((va_up_ne _ _ (by omega)).trans rfl)), (show (va_up V 150 ((V (2 * v)) * (V ((2 * w) + 1)))) ((2 * v) + 1) = V ((2 * v) + 1) from ((va_up_ne _ _ (by omega)).trans rfl))]; assumption) (Nat.le_of_ble_eq_true rfl) ⟨by decide, by decide, by decide, by decide⟩ (fun h_5 hV_6 fr_7 => ?_)
  have hV_8 : mo_V h_5 o (I, tx, S, ps, cs, bs) (va_up (va_up V 150 ((V (2 * v)) * (V ((2 * w) + 1)))) 151 ((V (2 * w)) * (V ((2 * v) + 1)))) := by
    have e_ : (va_up V 150 ((V (2 * v)) * (V ((2 * w) + 1)))) (2 * w) * (va_up V 150 ((V (2 * v)) * (V ((2 * w) + 1)))) ((2 * v) + 1) = (V (2 * w)) * (V ((2 * v) + 1)) := by rw [(show (va_up V 150 ((V (2 * v)) * (V ((2 * w) + 1)))) (2 * w) = V (2 * w) from ((va_up_ne _ _ (by omega)).trans rfl)), (show (va_up V 150 ((V (2 * v)) * (V ((2 * w) + 1)))) ((2 * v) + 1) = V ((2 * v) + 1) from ((va_up_ne _ _ (by omega)).trans rfl))]
    rw [← e_]
    exact hV_6
  refine go_aload_n (q := 31) d_mo_sum_30 rfl rfl rfl ?_
  refine go_iconst (q := 32) d_mo_sum_31 rfl ?_
  refine go_iload_n (q := 33) d_mo_sum_32 rfl rfl rfl ?_
  refine go_imul (q := 34) d_mo_sum_33 rfl ?_
  refine go_iconst (q := 35) d_mo_sum_34 rfl ?_
  refine go_iadd (q := 36) d_mo_sum_35 rfl ?_
  refine go_iconst (q := 37) d_mo_sum_36 rfl ?_
  refine go_iload_n (q := 38) d_mo_sum_37 rfl rfl rfl ?_
  refine go_imul (q := 39) d_mo_sum_38 rfl ?_
  refine go_iconst (q := 40) d_mo_sum_39 rfl ?_
  refine go_iadd (q := 41) d_mo_sum_40 rfl ?_
  refine go_sipush (q := 44) d_mo_sum_41 rfl (by decide) ?_
  refine cl_multiply (a := (2 * v) + 1) (b := (2 * w) + 1) (t := 152) (q := 47) rfl d_mo_sum_44 rfl hV_8 (by omega) (by omega) (by omega) (by omega) (by omega) (by rw [(show (va_up (va_up V 150 ((V (2 * v)) * (V ((2 * w) + 1)))) 151 ((V (2 * w)) * (V ((2 * v) + 1)))) ((2 * v) + 1) = V ((2 * v) + 1) from ((va_up_ne _ _ (by omega)).trans ((va_up_ne _ _ (by omega)).trans rfl))), (show (va_up (va_up V 150 ((V (2 * v)) * (V ((2 * w) + 1)))) 151 ((V (2 * w)) * (V ((2 * v) + 1)))) ((2 * w) + 1) = V ((2 * w) + 1) from ((va_up_ne _ _ (by omega)).trans ((va_up_ne _ _ (by omega)).trans rfl)))]; assumption) (Nat.le_of_ble_eq_true rfl) ⟨by decide, by decide, by decide, by decide⟩ (fun h_9 hV_10 fr_11 => ?_)
  have hV_12 : mo_V h_9 o (I, tx, S, ps, cs, bs) (va_up (va_up (va_up V 150 ((V (2 * v)) * (V ((2 * w) + 1)))) 151 ((V (2 * w)) * (V ((2 * v) + 1)))) 152 ((V ((2 * v) + 1)) * (V ((2 * w) + 1)))) := by
    have e_ : (va_up (va_up V 150 ((V (2 * v)) * (V ((2 * w) + 1)))) 151 ((V (2 * w)) * (V ((2 * v) + 1)))) ((2 * v) + 1) * (va_up (va_up V 150 ((V (2 * v)) * (V ((2 * w) + 1)))) 151 ((V (2 * w)) * (V ((2 * v) + 1)))) ((2 * w) + 1) = (V ((2 * v) + 1)) * (V ((2 * w) + 1)) := by rw [(show (va_up (va_up V 150 ((V (2 * v)) * (V ((2 * w) + 1)))) 151 ((V (2 * w)) * (V ((2 * v) + 1)))) ((2 * v) + 1) = V ((2 * v) + 1) from ((va_up_ne _ _ (by omega)).trans ((va_up_ne _ _ (by omega)).trans rfl))), (show (va_up (va_up V 150 ((V (2 * v)) * (V ((2 * w) + 1)))) 151 ((V (2 * w)) * (V ((2 * v) + 1)))) ((2 * w) + 1) = V ((2 * w) + 1) from ((va_up_ne _ _ (by omega)).trans ((va_up_ne _ _ (by omega)).trans rfl)))]
    rw [← e_]
    exact hV_10
  refine go_aload_n (q := 48) d_mo_sum_47 rfl rfl rfl ?_
  refine go_getf (q := 51) f_mo_23 d_mo_sum_48 rfl (mv_c0 hV_12) rfl ?_
  refine go_iload_n (q := 52) d_mo_sum_51 rfl rfl rfl ?_
  refine go_iald (i := v) (q := 53) d_mo_sum_52 rfl (mv_c4 hV_12) (by omega) (by omega) (by omega) ?_
  have q_13 := hS v
  refine go_istore (q := 55) (L' := [some (mv_R o), some (mv_I (v : Int)), some (mv_I (w : Int)), some (mv_I t), some (mv_I (S v)), none]) d_mo_sum_53 rfl (by decide) rfl ?_
  refine go_aload_n (q := 56) d_mo_sum_55 rfl rfl rfl ?_
  refine go_getf (q := 59) f_mo_23 d_mo_sum_56 rfl (mv_c0 hV_12) rfl ?_
  refine go_iload_n (q := 60) d_mo_sum_59 rfl rfl rfl ?_
  refine go_iald (i := w) (q := 61) d_mo_sum_60 rfl (mv_c4 hV_12) (by omega) (by omega) (by omega) ?_
  have q_14 := hS w
  refine go_iload_n (q := 62) d_mo_sum_61 rfl rfl rfl ?_
  refine go_imul (q := 63) d_mo_sum_62 rfl ?_
  refine go_istore (q := 65) (L' := [some (mv_R o), some (mv_I (v : Int)), some (mv_I (w : Int)), some (mv_I t), some (mv_I (S v)), some (mv_I ((S w) * t))]) d_mo_sum_63 rfl (by decide) rfl ?_
  refine go_iload (q := 67) d_mo_sum_65 rfl rfl ?_
  refine go_iload (q := 69) d_mo_sum_67 rfl rfl ?_
  refine go_imul (q := 70) d_mo_sum_69 rfl ?_
  have hp1 := gn_s1 (hS w) ht
  have hp2 := gn_s1 (hS v) hp1
  refine go_if_lt (t := 101) (q := 73) d_mo_sum_70 (by decide) rfl (by omega) (fun c15 => ?_) (fun c15 => ?_)
  ·
    refine go_aload_n (q := 102) d_mo_sum_101 rfl rfl rfl ?_
    refine go_sipush (q := 105) d_mo_sum_102 rfl (by decide) ?_
    refine go_sipush (q := 108) d_mo_sum_105 rfl (by decide) ?_
    refine cl_compare (a := 150) (b := 151) (q := 111) rfl d_mo_sum_108 rfl hV_12 (by omega) (by omega) (Nat.le_of_ble_eq_true rfl) ⟨by decide, by decide, by decide, by decide⟩ ?_
    rw [(show (va_up (va_up (va_up V 150 ((V (2 * v)) * (V ((2 * w) + 1)))) 151 ((V (2 * w)) * (V ((2 * v) + 1)))) 152 ((V ((2 * v) + 1)) * (V ((2 * w) + 1)))) 150 = (V (2 * v)) * (V ((2 * w) + 1)) from ((va_up_ne _ _ (by omega)).trans ((va_up_ne _ _ (by omega)).trans (va_up_self _ _ _)))), (show (va_up (va_up (va_up V 150 ((V (2 * v)) * (V ((2 * w) + 1)))) 151 ((V (2 * w)) * (V ((2 * v) + 1)))) 152 ((V ((2 * v) + 1)) * (V ((2 * w) + 1)))) 151 = (V (2 * w)) * (V ((2 * v) + 1)) from ((va_up_ne _ _ (by omega)).trans (va_up_self _ _ _)))]
    refine go_if_lt (t := 132) (q := 114) d_mo_sum_111 (by decide) rfl cm_rng (fun c16 => ?_) (fun c16 => ?_)
    · have c17 : (V (2 * v)) * (V ((2 * w) + 1)) < (V (2 * w)) * (V ((2 * v) + 1)) := cm_ltp c16
      refine go_aload_n (q := 133) d_mo_sum_132 rfl rfl rfl ?_
      refine go_sipush (q := 136) d_mo_sum_133 rfl (by decide) ?_
      refine go_sipush (q := 139) d_mo_sum_136 rfl (by decide) ?_
      refine cl_takeOff (a := 151) (b := 150) (q := 142) rfl d_mo_sum_139 rfl hV_12 (by omega) (by omega) (by rw [(show (va_up (va_up (va_up V 150 ((V (2 * v)) * (V ((2 * w) + 1)))) 151 ((V (2 * w)) * (V ((2 * v) + 1)))) 152 ((V ((2 * v) + 1)) * (V ((2 * w) + 1)))) 151 = (V (2 * w)) * (V ((2 * v) + 1)) from ((va_up_ne _ _ (by omega)).trans (va_up_self _ _ _))), (show (va_up (va_up (va_up V 150 ((V (2 * v)) * (V ((2 * w) + 1)))) 151 ((V (2 * w)) * (V ((2 * v) + 1)))) 152 ((V ((2 * v) + 1)) * (V ((2 * w) + 1)))) 150 = (V (2 * v)) * (V ((2 * w) + 1)) from ((va_up_ne _ _ (by omega)).trans ((va_up_ne _ _ (by omega)).trans (va_up_self _ _ _))))]; omega) (Nat.le_of_ble_eq_true rfl) ⟨by decide, by decide, by decide, by decide⟩ (fun h_18 hV_19 fr_20 => ?_)
      have hV_21 : mo_V h_18 o (I, tx, S, ps, cs, bs) (va_up (va_up (va_up (va_up V 150 ((V (2 * v)) * (V ((2 * w) + 1)))) 151 ((V (2 * w)) * (V ((2 * v) + 1)))) 152 ((V ((2 * v) + 1)) * (V ((2 * w) + 1)))) 151 (((V (2 * w)) * (V ((2 * v) + 1))) - ((V (2 * v)) * (V ((2 * w) + 1))))) := by
        have e_ : (va_up (va_up (va_up V 150 ((V (2 * v)) * (V ((2 * w) + 1)))) 151 ((V (2 * w)) * (V ((2 * v) + 1)))) 152 ((V ((2 * v) + 1)) * (V ((2 * w) + 1)))) 151 - (va_up (va_up (va_up V 150 ((V (2 * v)) * (V ((2 * w) + 1)))) 151 ((V (2 * w)) * (V ((2 * v) + 1)))) 152 ((V ((2 * v) + 1)) * (V ((2 * w) + 1)))) 150 = ((V (2 * w)) * (V ((2 * v) + 1))) - ((V (2 * v)) * (V ((2 * w) + 1))) := by rw [(show (va_up (va_up (va_up V 150 ((V (2 * v)) * (V ((2 * w) + 1)))) 151 ((V (2 * w)) * (V ((2 * v) + 1)))) 152 ((V ((2 * v) + 1)) * (V ((2 * w) + 1)))) 151 = (V (2 * w)) * (V ((2 * v) + 1)) from ((va_up_ne _ _ (by omega)).trans (va_up_self _ _ _))), (show (va_up (va_up (va_up V 150 ((V (2 * v)) * (V ((2 * w) + 1)))) 151 ((V (2 * w)) * (V ((2 * v) + 1)))) 152 ((V ((2 * v) + 1)) * (V ((2 * w) + 1)))) 150 = (V (2 * v)) * (V ((2 * w) + 1)) from ((va_up_ne _ _ (by omega)).trans ((va_up_ne _ _ (by omega)).trans (va_up_self _ _ _))))]
        rw [← e_]
        exact hV_19
      refine go_aload_n (q := 143) d_mo_sum_142 rfl rfl rfl ?_
      refine go_sipush (q := 146) d_mo_sum_143 rfl (by decide) ?_
      refine go_sipush (q := 149) d_mo_sum_146 rfl (by decide) ?_
      refine cl_copy (a := 151) (b := 150) (q := 152) rfl d_mo_sum_149 rfl hV_21 (by omega) (by omega) (Nat.le_of_ble_eq_true rfl) ⟨by decide, by decide, by decide, by decide⟩ (fun h_22 hV_23 fr_24 => ?_)
      have hV_25 : mo_V h_22 o (I, tx, S, ps, cs, bs) (va_up (va_up (va_up (va_up (va_up V 150 ((V (2 * v)) * (V ((2 * w) + 1)))) 151 ((V (2 * w)) * (V ((2 * v) + 1)))) 152 ((V ((2 * v) + 1)) * (V ((2 * w) + 1)))) 151 (((V (2 * w)) * (V ((2 * v) + 1))) - ((V (2 * v)) * (V ((2 * w) + 1))))) 150 (((V (2 * w)) * (V ((2 * v) + 1))) - ((V (2 * v)) * (V ((2 * w) + 1))))) := by
        have e_ : (va_up (va_up (va_up (va_up V 150 ((V (2 * v)) * (V ((2 * w) + 1)))) 151 ((V (2 * w)) * (V ((2 * v) + 1)))) 152 ((V ((2 * v) + 1)) * (V ((2 * w) + 1)))) 151 (((V (2 * w)) * (V ((2 * v) + 1))) - ((V (2 * v)) * (V ((2 * w) + 1))))) 151 = ((V (2 * w)) * (V ((2 * v) + 1))) - ((V (2 * v)) * (V ((2 * w) + 1))) := by rw [(show (va_up (va_up (va_up (va_up V 150 ((V (2 * v)) * (V ((2 * w) + 1)))) 151 ((V (2 * w)) * (V ((2 * v) + 1)))) 152 ((V ((2 * v) + 1)) * (V ((2 * w) + 1)))) 151 (((V (2 * w)) * (V ((2 * v) + 1))) - ((V (2 * v)) * (V ((2 * w) + 1))))) 151 = ((V (2 * w)) * (V ((2 * v) + 1))) - ((V (2 * v)) * (V ((2 * w) + 1))) from (va_up_self _ _ _))]
        rw [← e_]
        exact hV_23
      refine go_aload_n (q := 153) d_mo_sum_152 rfl rfl rfl ?_
      refine go_iload_n (q := 154) d_mo_sum_153 rfl rfl rfl ?_
      refine go_iload (q := 156) d_mo_sum_154 rfl rfl ?_
      exact k0 c15 c17 _ hV_25 (fr_.tr (fr_.tr (fr_.tr (fr_.tr fr_3 fr_7) fr_11) fr_20) fr_24)
    · have c26 : (V (2 * w)) * (V ((2 * v) + 1)) ≤ (V (2 * v)) * (V ((2 * w) + 1)) := cm_ltn c16
      refine go_aload_n (q := 115) d_mo_sum_114 rfl rfl rfl ?_
      refine go_sipush (q := 118) d_mo_sum_115 rfl (by decide) ?_
      refine go_sipush (q := 121) d_mo_sum_118 rfl (by decide) ?_
      refine cl_takeOff (a := 150) (b := 151) (q := 124) rfl d_mo_sum_121 rfl hV_12 (by omega) (by omega) (by rw [(show (va_up (va_up (va_up V 150 ((V (2 * v)) * (V ((2 * w) + 1)))) 151 ((V (2 * w)) * (V ((2 * v) + 1)))) 152 ((V ((2 * v) + 1)) * (V ((2 * w) + 1)))) 150 = (V (2 * v)) * (V ((2 * w) + 1)) from ((va_up_ne _ _ (by omega)).trans ((va_up_ne _ _ (by omega)).trans (va_up_self _ _ _)))), (show (va_up (va_up (va_up V 150 ((V (2 * v)) * (V ((2 * w) + 1)))) 151 ((V (2 * w)) * (V ((2 * v) + 1)))) 152 ((V ((2 * v) + 1)) * (V ((2 * w) + 1)))) 151 = (V (2 * w)) * (V ((2 * v) + 1)) from ((va_up_ne _ _ (by omega)).trans (va_up_self _ _ _)))]; omega) (Nat.le_of_ble_eq_true rfl) ⟨by decide, by decide, by decide, by decide⟩ (fun h_27 hV_28 fr_29 => ?_)
      have hV_30 : mo_V h_27 o (I, tx, S, ps, cs, bs) (va_up (va_up (va_up (va_up V 150 ((V (2 * v)) * (V ((2 * w) + 1)))) 151 ((V (2 * w)) * (V ((2 * v) + 1)))) 152 ((V ((2 * v) + 1)) * (V ((2 * w) + 1)))) 150 (((V (2 * v)) * (V ((2 * w) + 1))) - ((V (2 * w)) * (V ((2 * v) + 1))))) := by
        have e_ : (va_up (va_up (va_up V 150 ((V (2 * v)) * (V ((2 * w) + 1)))) 151 ((V (2 * w)) * (V ((2 * v) + 1)))) 152 ((V ((2 * v) + 1)) * (V ((2 * w) + 1)))) 150 - (va_up (va_up (va_up V 150 ((V (2 * v)) * (V ((2 * w) + 1)))) 151 ((V (2 * w)) * (V ((2 * v) + 1)))) 152 ((V ((2 * v) + 1)) * (V ((2 * w) + 1)))) 151 = ((V (2 * v)) * (V ((2 * w) + 1))) - ((V (2 * w)) * (V ((2 * v) + 1))) := by rw [(show (va_up (va_up (va_up V 150 ((V (2 * v)) * (V ((2 * w) + 1)))) 151 ((V (2 * w)) * (V ((2 * v) + 1)))) 152 ((V ((2 * v) + 1)) * (V ((2 * w) + 1)))) 150 = (V (2 * v)) * (V ((2 * w) + 1)) from ((va_up_ne _ _ (by omega)).trans ((va_up_ne _ _ (by omega)).trans (va_up_self _ _ _)))), (show (va_up (va_up (va_up V 150 ((V (2 * v)) * (V ((2 * w) + 1)))) 151 ((V (2 * w)) * (V ((2 * v) + 1)))) 152 ((V ((2 * v) + 1)) * (V ((2 * w) + 1)))) 151 = (V (2 * w)) * (V ((2 * v) + 1)) from ((va_up_ne _ _ (by omega)).trans (va_up_self _ _ _)))]
        rw [← e_]
        exact hV_28
      refine go_aload_n (q := 125) d_mo_sum_124 rfl rfl rfl ?_
      refine go_iload_n (q := 126) d_mo_sum_125 rfl rfl rfl ?_
      refine go_iload (q := 128) d_mo_sum_126 rfl rfl ?_
      exact k1 c15 c26 _ hV_30 (fr_.tr (fr_.tr (fr_.tr fr_3 fr_7) fr_11) fr_29)
  ·
    refine go_aload_n (q := 74) d_mo_sum_73 rfl rfl rfl ?_
    refine go_sipush (q := 77) d_mo_sum_74 rfl (by decide) ?_
    refine go_sipush (q := 80) d_mo_sum_77 rfl (by decide) ?_
    refine cl_addTo (a := 150) (b := 151) (q := 83) rfl d_mo_sum_80 rfl hV_12 (by omega) (by omega) (by rw [(show (va_up (va_up (va_up V 150 ((V (2 * v)) * (V ((2 * w) + 1)))) 151 ((V (2 * w)) * (V ((2 * v) + 1)))) 152 ((V ((2 * v) + 1)) * (V ((2 * w) + 1)))) 150 = (V (2 * v)) * (V ((2 * w) + 1)) from ((va_up_ne _ _ (by omega)).trans ((va_up_ne _ _ (by omega)).trans (va_up_self _ _ _)))), (show (va_up (va_up (va_up V 150 ((V (2 * v)) * (V ((2 * w) + 1)))) 151 ((V (2 * w)) * (V ((2 * v) + 1)))) 152 ((V ((2 * v) + 1)) * (V ((2 * w) + 1)))) 151 = (V (2 * w)) * (V ((2 * v) + 1)) from ((va_up_ne _ _ (by omega)).trans (va_up_self _ _ _)))]; omega) (Nat.le_of_ble_eq_true rfl) ⟨by decide, by decide, by decide, by decide⟩ (fun h_31 hV_32 fr_33 => ?_)
    have hV_34 : mo_V h_31 o (I, tx, S, ps, cs, bs) (va_up (va_up (va_up (va_up V 150 ((V (2 * v)) * (V ((2 * w) + 1)))) 151 ((V (2 * w)) * (V ((2 * v) + 1)))) 152 ((V ((2 * v) + 1)) * (V ((2 * w) + 1)))) 150 (((V (2 * v)) * (V ((2 * w) + 1))) + ((V (2 * w)) * (V ((2 * v) + 1))))) := by
      have e_ : (va_up (va_up (va_up V 150 ((V (2 * v)) * (V ((2 * w) + 1)))) 151 ((V (2 * w)) * (V ((2 * v) + 1)))) 152 ((V ((2 * v) + 1)) * (V ((2 * w) + 1)))) 150 + (va_up (va_up (va_up V 150 ((V (2 * v)) * (V ((2 * w) + 1)))) 151 ((V (2 * w)) * (V ((2 * v) + 1)))) 152 ((V ((2 * v) + 1)) * (V ((2 * w) + 1)))) 151 = ((V (2 * v)) * (V ((2 * w) + 1))) + ((V (2 * w)) * (V ((2 * v) + 1))) := by rw [(show (va_up (va_up (va_up V 150 ((V (2 * v)) * (V ((2 * w) + 1)))) 151 ((V (2 * w)) * (V ((2 * v) + 1)))) 152 ((V ((2 * v) + 1)) * (V ((2 * w) + 1)))) 150 = (V (2 * v)) * (V ((2 * w) + 1)) from ((va_up_ne _ _ (by omega)).trans ((va_up_ne _ _ (by omega)).trans (va_up_self _ _ _)))), (show (va_up (va_up (va_up V 150 ((V (2 * v)) * (V ((2 * w) + 1)))) 151 ((V (2 * w)) * (V ((2 * v) + 1)))) 152 ((V ((2 * v) + 1)) * (V ((2 * w) + 1)))) 151 = (V (2 * w)) * (V ((2 * v) + 1)) from ((va_up_ne _ _ (by omega)).trans (va_up_self _ _ _)))]
      rw [← e_]
      exact hV_32
    refine go_aload_n (q := 84) d_mo_sum_83 rfl rfl rfl ?_
    refine go_iload_n (q := 85) d_mo_sum_84 rfl rfl rfl ?_
    refine go_iload (q := 87) d_mo_sum_85 rfl rfl ?_
    refine go_if_ne (t := 95) (q := 90) d_mo_sum_87 (by decide) rfl (by omega) (fun c35 => ?_) (fun c35 => ?_)
    ·
      refine go_iload (q := 97) d_mo_sum_95 rfl rfl ?_
      exact k2 c15 c35 _ hV_34 (fr_.tr (fr_.tr (fr_.tr fr_3 fr_7) fr_11) fr_33)
    ·
      refine go_iload (q := 92) d_mo_sum_90 rfl rfl ?_
      refine go_goto (q := 97) d_mo_sum_92 (by decide) ?_
      exact k3 c15 c35 _ hV_34 (fr_.tr (fr_.tr (fr_.tr fr_3 fr_7) fr_11) fr_33)

set_option maxRecDepth 4000 in
theorem sw_product {φ : go_F} {l : Launch} {h : mv_H} {n : Nat} {o : Nat} {I tx S ps cs bs : Nat → Int} {V : Nat → Nat} {v w : Nat} (hV : mo_V h o (I, tx, S, ps, cs, bs) V) (hv : v < 75) (hw : w < 75) (hs1 : V (2 * v) * V (2 * w) < 10000 ^ 40) (hs3 : V ((2 * v) + 1) * V ((2 * w) + 1) < 10000 ^ 40) (hS : ∀ i, -1 ≤ S i ∧ S i ≤ 1)
    (k0 : ∀ h' : mv_H, mo_V h' o (I, tx, S, ps, cs, bs) (va_up (va_up V 150 ((V (2 * v)) * (V (2 * w)))) 152 ((V ((2 * v) + 1)) * (V ((2 * w) + 1)))) → fr_ o 8 h h' → Go φ l m_mo_product (go_rm rd_mo_product rw_mo_product 0 0) (0, 0) 47 [some (mv_R o), some (mv_I (v : Int)), some (mv_I (w : Int)), some (mv_I ((S v) * (S w)))] [mv_I ((S v) * (S w)), mv_I (v : Int), mv_R o] h' n) :
    Go φ l m_mo_product (go_rm rd_mo_product rw_mo_product 0 0) (0, 0) 0 [some (mv_R o), some (mv_I (v : Int)), some (mv_I (w : Int)), none] [] h n := by
  refine go_aload_n (q := 1) d_mo_product_0 rfl rfl rfl ?_
  refine go_getf (q := 4) f_mo_23 d_mo_product_1 rfl (mv_c0 hV) rfl ?_
  refine go_iload_n (q := 5) d_mo_product_4 rfl rfl rfl ?_
  refine go_iald (i := v) (q := 6) d_mo_product_5 rfl (mv_c4 hV) (by omega) (by omega) (by omega) ?_
  have q_1 := hS v
  refine go_aload_n (q := 7) d_mo_product_6 rfl rfl rfl ?_
  refine go_getf (q := 10) f_mo_23 d_mo_product_7 rfl (mv_c0 hV) rfl ?_
  refine go_iload_n (q := 11) d_mo_product_10 rfl rfl rfl ?_
  refine go_iald (i := w) (q := 12) d_mo_product_11 rfl (mv_c4 hV) (by omega) (by omega) (by omega) ?_
  have q_2 := hS w
  refine go_imul (q := 13) d_mo_product_12 rfl ?_
  refine go_istore_n (q := 14) (L' := [some (mv_R o), some (mv_I (v : Int)), some (mv_I (w : Int)), some (mv_I ((S v) * (S w)))]) d_mo_product_13 rfl rfl (by decide) rfl ?_
  refine go_aload_n (q := 15) d_mo_product_14 rfl rfl rfl ?_
  refine go_iconst (q := 16) d_mo_product_15 rfl ?_
  refine go_iload_n (q := 17) d_mo_product_16 rfl rfl rfl ?_
  refine go_imul (q := 18) d_mo_product_17 rfl ?_
  refine go_iconst (q := 19) d_mo_product_18 rfl ?_
  refine go_iload_n (q := 20) d_mo_product_19 rfl rfl rfl ?_
  refine go_imul (q := 21) d_mo_product_20 rfl ?_
  refine go_sipush (q := 24) d_mo_product_21 rfl (by decide) ?_
  refine cl_multiply (a := 2 * v) (b := 2 * w) (t := 150) (q := 27) rfl d_mo_product_24 rfl hV (by omega) (by omega) (by omega) (by omega) (by omega) (by rw [(show V (2 * v) = V (2 * v) from rfl), (show V (2 * w) = V (2 * w) from rfl)]; assumption) (Nat.le_of_ble_eq_true rfl) ⟨by decide, by decide, by decide, by decide⟩ (fun h_3 hV_4 fr_5 => ?_)
  have hV_6 : mo_V h_3 o (I, tx, S, ps, cs, bs) (va_up V 150 ((V (2 * v)) * (V (2 * w)))) := by
    have e_ : (V) (2 * v) * (V) (2 * w) = (V (2 * v)) * (V (2 * w)) := by rw [(show V (2 * v) = V (2 * v) from rfl), (show V (2 * w) = V (2 * w) from rfl)]
    rw [← e_]
    exact hV_4
  refine go_aload_n (q := 28) d_mo_product_27 rfl rfl rfl ?_
  refine go_iconst (q := 29) d_mo_product_28 rfl ?_
  refine go_iload_n (q := 30) d_mo_product_29 rfl rfl rfl ?_
  refine go_imul (q := 31) d_mo_product_30 rfl ?_
  refine go_iconst (q := 32) d_mo_product_31 rfl ?_
  refine go_iadd (q := 33) d_mo_product_32 rfl ?_
  refine go_iconst (q := 34) d_mo_product_33 rfl ?_
  refine go_iload_n (q := 35) d_mo_product_34 rfl rfl rfl ?_
  refine go_imul (q := 36) d_mo_product_35 rfl ?_
  refine go_iconst (q := 37) d_mo_product_36 rfl ?_
  refine go_iadd (q := 38) d_mo_product_37 rfl ?_
  refine go_sipush (q := 41) d_mo_product_38 rfl (by decide) ?_
  refine cl_multiply (a := (2 * v) + 1) (b := (2 * w) + 1) (t := 152) (q := 44) rfl d_mo_product_41 rfl hV_6 (by omega) (by omega) (by omega) (by omega) (by omega) (by rw [(show (va_up V 150 ((V (2 * v)) * (V (2 * w)))) ((2 * v) + 1) = V ((2 * v) + 1) from ((va_up_ne _ _ (by omega)).trans rfl)), (show (va_up V 150 ((V (2 * v)) * (V (2 * w)))) ((2 * w) + 1) = V ((2 * w) + 1) from ((va_up_ne _ _ (by omega)).trans rfl))]; assumption) (Nat.le_of_ble_eq_true rfl) ⟨by decide, by decide, by decide, by decide⟩ (fun h_7 hV_8 fr_9 => ?_)
  have hV_10 : mo_V h_7 o (I, tx, S, ps, cs, bs) (va_up (va_up V 150 ((V (2 * v)) * (V (2 * w)))) 152 ((V ((2 * v) + 1)) * (V ((2 * w) + 1)))) := by
    have e_ : (va_up V 150 ((V (2 * v)) * (V (2 * w)))) ((2 * v) + 1) * (va_up V 150 ((V (2 * v)) * (V (2 * w)))) ((2 * w) + 1) = (V ((2 * v) + 1)) * (V ((2 * w) + 1)) := by rw [(show (va_up V 150 ((V (2 * v)) * (V (2 * w)))) ((2 * v) + 1) = V ((2 * v) + 1) from ((va_up_ne _ _ (by omega)).trans rfl)), (show (va_up V 150 ((V (2 * v)) * (V (2 * w)))) ((2 * w) + 1) = V ((2 * w) + 1) from ((va_up_ne _ _ (by omega)).trans rfl))]
    rw [← e_]
    exact hV_8
  refine go_aload_n (q := 45) d_mo_product_44 rfl rfl rfl ?_
  refine go_iload_n (q := 46) d_mo_product_45 rfl rfl rfl ?_
  refine go_iload_n (q := 47) d_mo_product_46 rfl rfl rfl ?_
  exact k0  _ hV_10 (fr_.tr fr_5 fr_9)

set_option maxRecDepth 4000 in
theorem sw_ratio {φ : go_F} {l : Launch} {h : mv_H} {n : Nat} {o : Nat} {I tx S ps cs bs : Nat → Int} {V : Nat → Nat} {v w : Nat} (hV : mo_V h o (I, tx, S, ps, cs, bs) V) (hv : v < 75) (hw : w < 75) (hs1 : V (2 * v) * V ((2 * w) + 1) < 10000 ^ 40) (hs2 : V ((2 * v) + 1) * V (2 * w) < 10000 ^ 40) (hS : ∀ i, -1 ≤ S i ∧ S i ≤ 1)
    (k0 : ¬ S w = 0 → ∀ h' : mv_H, mo_V h' o (I, tx, S, ps, cs, bs) (va_up (va_up V 150 ((V (2 * v)) * (V ((2 * w) + 1)))) 152 ((V ((2 * v) + 1)) * (V (2 * w)))) → fr_ o 8 h h' → Go φ l m_mo_ratio (go_rm rd_mo_ratio rw_mo_ratio 0 0) (0, 0) 58 [some (mv_R o), some (mv_I (v : Int)), some (mv_I (w : Int)), some (mv_I ((S v) * (S w)))] [mv_I ((S v) * (S w)), mv_I (v : Int), mv_R o] h' n)
    (k1 : S w = 0 → Go φ l m_mo_ratio (go_rm rd_mo_ratio rw_mo_ratio 0 0) (0, 0) 10 [some (mv_R o), some (mv_I (v : Int)), some (mv_I (w : Int)), none] [mv_I 2] h n) :
    Go φ l m_mo_ratio (go_rm rd_mo_ratio rw_mo_ratio 0 0) (0, 0) 0 [some (mv_R o), some (mv_I (v : Int)), some (mv_I (w : Int)), none] [] h n := by
  refine go_aload_n (q := 1) d_mo_ratio_0 rfl rfl rfl ?_
  refine go_getf (q := 4) f_mo_23 d_mo_ratio_1 rfl (mv_c0 hV) rfl ?_
  refine go_iload_n (q := 5) d_mo_ratio_4 rfl rfl rfl ?_
  refine go_iald (i := w) (q := 6) d_mo_ratio_5 rfl (mv_c4 hV) (by omega) (by omega) (by omega) ?_
  have q_1 := hS w
  refine go_if_ne (t := 11) (q := 9) d_mo_ratio_6 (by decide) rfl (by omega) (fun c2 => ?_) (fun c2 => ?_)
  ·
    refine go_aload_n (q := 12) d_mo_ratio_11 rfl rfl rfl ?_
    refine go_getf (q := 15) f_mo_23 d_mo_ratio_12 rfl (mv_c0 hV) rfl ?_
    refine go_iload_n (q := 16) d_mo_ratio_15 rfl rfl rfl ?_
    refine go_iald (i := v) (q := 17) d_mo_ratio_16 rfl (mv_c4 hV) (by omega) (by omega) (by omega) ?_
    have q_3 := hS v
    refine go_aload_n (q := 18) d_mo_ratio_17 rfl rfl rfl ?_
    refine go_getf (q := 21) f_mo_23 d_mo_ratio_18 rfl (mv_c0 hV) rfl ?_
    refine go_iload_n (q := 22) d_mo_ratio_21 rfl rfl rfl ?_
    refine go_iald (i := w) (q := 23) d_mo_ratio_22 rfl (mv_c4 hV) (by omega) (by omega) (by omega) ?_
    have q_4 := hS w
    refine go_imul (q := 24) d_mo_ratio_23 rfl ?_
    refine go_istore_n (q := 25) (L' := [some (mv_R o), some (mv_I (v : Int)), some (mv_I (w : Int)), some (mv_I ((S v) * (S w)))]) d_mo_ratio_24 rfl rfl (by decide) rfl ?_
    refine go_aload_n (q := 26) d_mo_ratio_25 rfl rfl rfl ?_
    refine go_iconst (q := 27) d_mo_ratio_26 rfl ?_
    refine go_iload_n (q := 28) d_mo_ratio_27 rfl rfl rfl ?_
    refine go_imul (q := 29) d_mo_ratio_28 rfl ?_
    refine go_iconst (q := 30) d_mo_ratio_29 rfl ?_
    refine go_iload_n (q := 31) d_mo_ratio_30 rfl rfl rfl ?_
    refine go_imul (q := 32) d_mo_ratio_31 rfl ?_
    refine go_iconst (q := 33) d_mo_ratio_32 rfl ?_
    refine go_iadd (q := 34) d_mo_ratio_33 rfl ?_
    refine go_sipush (q := 37) d_mo_ratio_34 rfl (by decide) ?_
    refine cl_multiply (a := 2 * v) (b := (2 * w) + 1) (t := 150) (q := 40) rfl d_mo_ratio_37 rfl hV (by omega) (by omega) (by omega) (by omega) (by omega) (by rw [(show V (2 * v) = V (2 * v) from rfl), (show V ((2 * w) + 1) = V ((2 * w) + 1) from rfl)]; assumption) (Nat.le_of_ble_eq_true rfl) ⟨by decide, by decide, by decide, by decide⟩ (fun h_5 hV_6 fr_7 => ?_)
    have hV_8 : mo_V h_5 o (I, tx, S, ps, cs, bs) (va_up V 150 ((V (2 * v)) * (V ((2 * w) + 1)))) := by
      have e_ : (V) (2 * v) * (V) ((2 * w) + 1) = (V (2 * v)) * (V ((2 * w) + 1)) := by rw [(show V (2 * v) = V (2 * v) from rfl), (show V ((2 * w) + 1) = V ((2 * w) + 1) from rfl)]
      rw [← e_]
      exact hV_6
    refine go_aload_n (q := 41) d_mo_ratio_40 rfl rfl rfl ?_
    refine go_iconst (q := 42) d_mo_ratio_41 rfl ?_
    refine go_iload_n (q := 43) d_mo_ratio_42 rfl rfl rfl ?_
    refine go_imul (q := 44) d_mo_ratio_43 rfl ?_
    refine go_iconst (q := 45) d_mo_ratio_44 rfl ?_
    refine go_iadd (q := 46) d_mo_ratio_45 rfl ?_
    refine go_iconst (q := 47) d_mo_ratio_46 rfl ?_
    refine go_iload_n (q := 48) d_mo_ratio_47 rfl rfl rfl ?_
    refine go_imul (q := 49) d_mo_ratio_48 rfl ?_
    refine go_sipush (q := 52) d_mo_ratio_49 rfl (by decide) ?_
    refine cl_multiply (a := (2 * v) + 1) (b := 2 * w) (t := 152) (q := 55) rfl d_mo_ratio_52 rfl hV_8 (by omega) (by omega) (by omega) (by omega) (by omega) (by rw [(show (va_up V 150 ((V (2 * v)) * (V ((2 * w) + 1)))) ((2 * v) + 1) = V ((2 * v) + 1) from ((va_up_ne _ _ (by omega)).trans rfl)), (show (va_up V 150 ((V (2 * v)) * (V ((2 * w) + 1)))) (2 * w) = V (2 * w) from ((va_up_ne _ _ (by omega)).trans rfl))]; assumption) (Nat.le_of_ble_eq_true rfl) ⟨by decide, by decide, by decide, by decide⟩ (fun h_9 hV_10 fr_11 => ?_)
    have hV_12 : mo_V h_9 o (I, tx, S, ps, cs, bs) (va_up (va_up V 150 ((V (2 * v)) * (V ((2 * w) + 1)))) 152 ((V ((2 * v) + 1)) * (V (2 * w)))) := by
      have e_ : (va_up V 150 ((V (2 * v)) * (V ((2 * w) + 1)))) ((2 * v) + 1) * (va_up V 150 ((V (2 * v)) * (V ((2 * w) + 1)))) (2 * w) = (V ((2 * v) + 1)) * (V (2 * w)) := by rw [(show (va_up V 150 ((V (2 * v)) * (V ((2 * w) + 1)))) ((2 * v) + 1) = V ((2 * v) + 1) from ((va_up_ne _ _ (by omega)).trans rfl)), (show (va_up V 150 ((V (2 * v)) * (V ((2 * w) + 1)))) (2 * w) = V (2 * w) from ((va_up_ne _ _ (by omega)).trans rfl))]
      rw [← e_]
      exact hV_10
    refine go_aload_n (q := 56) d_mo_ratio_55 rfl rfl rfl ?_
    refine go_iload_n (q := 57) d_mo_ratio_56 rfl rfl rfl ?_
    refine go_iload_n (q := 58) d_mo_ratio_57 rfl rfl rfl ?_
    exact k0 c2 _ hV_12 (fr_.tr fr_7 fr_11)
  ·
    refine go_iconst (q := 10) d_mo_ratio_9 rfl ?_
    exact k1 c2

set_option maxRecDepth 4000 in
theorem sw_order {φ : go_F} {l : Launch} {h : mv_H} {n : Nat} {o : Nat} {I tx S ps cs bs : Nat → Int} {V : Nat → Nat} {v w : Nat} (hV : mo_V h o (I, tx, S, ps, cs, bs) V) (hv : v < 75) (hw : w < 75) (hs1 : V (2 * v) * V ((2 * w) + 1) < 10000 ^ 40) (hs2 : V (2 * w) * V ((2 * v) + 1) < 10000 ^ 40) (hS : ∀ i, -1 ≤ S i ∧ S i ≤ 1)
    (k0 : S v = S w → ∀ h' : mv_H, mo_V h' o (I, tx, S, ps, cs, bs) (va_up (va_up V 150 ((V (2 * v)) * (V ((2 * w) + 1)))) 151 ((V (2 * w)) * (V ((2 * v) + 1)))) → fr_ o 8 h h' → Go φ l m_mo_order (go_rm rd_mo_order rw_mo_order 0 0) (0, 0) 83 [some (mv_R o), some (mv_I (v : Int)), some (mv_I (w : Int))] [mv_I ((S v) * (cm_ ((V (2 * v)) * (V ((2 * w) + 1))) ((V (2 * w)) * (V ((2 * v) + 1)))))] h' n)
    (k1 : ¬ S v = S w → S w ≤ S v → Go φ l m_mo_order (go_rm rd_mo_order rw_mo_order 0 0) (0, 0) 35 [some (mv_R o), some (mv_I (v : Int)), some (mv_I (w : Int))] [mv_I 1] h n)
    (k2 : ¬ S v = S w → ¬ S w ≤ S v → Go φ l m_mo_order (go_rm rd_mo_order rw_mo_order 0 0) (0, 0) 35 [some (mv_R o), some (mv_I (v : Int)), some (mv_I (w : Int))] [mv_I (-1)] h n) :
    Go φ l m_mo_order (go_rm rd_mo_order rw_mo_order 0 0) (0, 0) 0 [some (mv_R o), some (mv_I (v : Int)), some (mv_I (w : Int))] [] h n := by
  refine go_aload_n (q := 1) d_mo_order_0 rfl rfl rfl ?_
  refine go_getf (q := 4) f_mo_23 d_mo_order_1 rfl (mv_c0 hV) rfl ?_
  refine go_iload_n (q := 5) d_mo_order_4 rfl rfl rfl ?_
  refine go_iald (i := v) (q := 6) d_mo_order_5 rfl (mv_c4 hV) (by omega) (by omega) (by omega) ?_
  have q_1 := hS v
  refine go_aload_n (q := 7) d_mo_order_6 rfl rfl rfl ?_
  refine go_getf (q := 10) f_mo_23 d_mo_order_7 rfl (mv_c0 hV) rfl ?_
  refine go_iload_n (q := 11) d_mo_order_10 rfl rfl rfl ?_
  refine go_iald (i := w) (q := 12) d_mo_order_11 rfl (mv_c4 hV) (by omega) (by omega) (by omega) ?_
  have q_2 := hS w
  refine go_icmp_eq (t := 36) (q := 15) d_mo_order_12 (by decide) rfl (by omega) (by omega) (fun c3 => ?_) (fun c3 => ?_)
  ·
    refine go_aload_n (q := 37) d_mo_order_36 rfl rfl rfl ?_
    refine go_iconst (q := 38) d_mo_order_37 rfl ?_
    refine go_iload_n (q := 39) d_mo_order_38 rfl rfl rfl ?_
    refine go_imul (q := 40) d_mo_order_39 rfl ?_
    refine go_iconst (q := 41) d_mo_order_40 rfl ?_
    refine go_iload_n (q := 42) d_mo_order_41 rfl rfl rfl ?_
    refine go_imul (q := 43) d_mo_order_42 rfl ?_
    refine go_iconst (q := 44) d_mo_order_43 rfl ?_
    refine go_iadd (q := 45) d_mo_order_44 rfl ?_
    refine go_sipush (q := 48) d_mo_order_45 rfl (by decide) ?_
    refine cl_multiply (a := 2 * v) (b := (2 * w) + 1) (t := 150) (q := 51) rfl d_mo_order_48 rfl hV (by omega) (by omega) (by omega) (by omega) (by omega) (by rw [(show V (2 * v) = V (2 * v) from rfl), (show V ((2 * w) + 1) = V ((2 * w) + 1) from rfl)]; assumption) (Nat.le_of_ble_eq_true rfl) ⟨by decide, by decide, by decide, by decide⟩ (fun h_4 hV_5 fr_6 => ?_)
    have hV_7 : mo_V h_4 o (I, tx, S, ps, cs, bs) (va_up V 150 ((V (2 * v)) * (V ((2 * w) + 1)))) := by
      have e_ : (V) (2 * v) * (V) ((2 * w) + 1) = (V (2 * v)) * (V ((2 * w) + 1)) := by rw [(show V (2 * v) = V (2 * v) from rfl), (show V ((2 * w) + 1) = V ((2 * w) + 1) from rfl)]
      rw [← e_]
      exact hV_5
    refine go_aload_n (q := 52) d_mo_order_51 rfl rfl rfl ?_
    refine go_iconst (q := 53) d_mo_order_52 rfl ?_
    refine go_iload_n (q := 54) d_mo_order_53 rfl rfl rfl ?_
    refine go_imul (q := 55) d_mo_order_54 rfl ?_
    refine go_iconst (q := 56) d_mo_order_55 rfl ?_
    refine go_iload_n (q := 57) d_mo_order_56 rfl rfl rfl ?_
    refine go_imul (q := 58) d_mo_order_57 rfl ?_
    refine go_iconst (q := 59) d_mo_order_58 rfl ?_
    refine go_iadd (q := 60) d_mo_order_59 rfl ?_
    refine go_sipush (q := 63) d_mo_order_60 rfl (by decide) ?_
    refine cl_multiply (a := 2 * w) (b := (2 * v) + 1) (t := 151) (q := 66) rfl d_mo_order_63 rfl hV_7 (by omega) (by omega) (by omega) (by omega) (by omega) (by rw [(show (va_up V 150 ((V (2 * v)) * (V ((2 * w) + 1)))) (2 * w) = V (2 * w) from ((va_up_ne _ _ (by omega)).trans rfl)), (show (va_up V 150 ((V (2 * v)) * (V ((2 * w) + 1)))) ((2 * v) + 1) = V ((2 * v) + 1) from ((va_up_ne _ _ (by omega)).trans rfl))]; assumption) (Nat.le_of_ble_eq_true rfl) ⟨by decide, by decide, by decide, by decide⟩ (fun h_8 hV_9 fr_10 => ?_)
    have hV_11 : mo_V h_8 o (I, tx, S, ps, cs, bs) (va_up (va_up V 150 ((V (2 * v)) * (V ((2 * w) + 1)))) 151 ((V (2 * w)) * (V ((2 * v) + 1)))) := by
      have e_ : (va_up V 150 ((V (2 * v)) * (V ((2 * w) + 1)))) (2 * w) * (va_up V 150 ((V (2 * v)) * (V ((2 * w) + 1)))) ((2 * v) + 1) = (V (2 * w)) * (V ((2 * v) + 1)) := by rw [(show (va_up V 150 ((V (2 * v)) * (V ((2 * w) + 1)))) (2 * w) = V (2 * w) from ((va_up_ne _ _ (by omega)).trans rfl)), (show (va_up V 150 ((V (2 * v)) * (V ((2 * w) + 1)))) ((2 * v) + 1) = V ((2 * v) + 1) from ((va_up_ne _ _ (by omega)).trans rfl))]
      rw [← e_]
      exact hV_9
    refine go_aload_n (q := 67) d_mo_order_66 rfl rfl rfl ?_
    refine go_getf (q := 70) f_mo_23 d_mo_order_67 rfl (mv_c0 hV_11) rfl ?_
    refine go_iload_n (q := 71) d_mo_order_70 rfl rfl rfl ?_
    refine go_iald (i := v) (q := 72) d_mo_order_71 rfl (mv_c4 hV_11) (by omega) (by omega) (by omega) ?_
    have q_12 := hS v
    refine go_aload_n (q := 73) d_mo_order_72 rfl rfl rfl ?_
    refine go_sipush (q := 76) d_mo_order_73 rfl (by decide) ?_
    refine go_sipush (q := 79) d_mo_order_76 rfl (by decide) ?_
    refine cl_compare (a := 150) (b := 151) (q := 82) rfl d_mo_order_79 rfl hV_11 (by omega) (by omega) (Nat.le_of_ble_eq_true rfl) ⟨by decide, by decide, by decide, by decide⟩ ?_
    rw [(show (va_up (va_up V 150 ((V (2 * v)) * (V ((2 * w) + 1)))) 151 ((V (2 * w)) * (V ((2 * v) + 1)))) 150 = (V (2 * v)) * (V ((2 * w) + 1)) from ((va_up_ne _ _ (by omega)).trans (va_up_self _ _ _))), (show (va_up (va_up V 150 ((V (2 * v)) * (V ((2 * w) + 1)))) 151 ((V (2 * w)) * (V ((2 * v) + 1)))) 151 = (V (2 * w)) * (V ((2 * v) + 1)) from (va_up_self _ _ _))]
    refine go_imul (q := 83) d_mo_order_82 rfl ?_
    exact k0 c3 _ hV_11 (fr_.tr fr_6 fr_10)
  ·
    refine go_aload_n (q := 16) d_mo_order_15 rfl rfl rfl ?_
    refine go_getf (q := 19) f_mo_23 d_mo_order_16 rfl (mv_c0 hV) rfl ?_
    refine go_iload_n (q := 20) d_mo_order_19 rfl rfl rfl ?_
    refine go_iald (i := v) (q := 21) d_mo_order_20 rfl (mv_c4 hV) (by omega) (by omega) (by omega) ?_
    have q_13 := hS v
    refine go_aload_n (q := 22) d_mo_order_21 rfl rfl rfl ?_
    refine go_getf (q := 25) f_mo_23 d_mo_order_22 rfl (mv_c0 hV) rfl ?_
    refine go_iload_n (q := 26) d_mo_order_25 rfl rfl rfl ?_
    refine go_iald (i := w) (q := 27) d_mo_order_26 rfl (mv_c4 hV) (by omega) (by omega) (by omega) ?_
    have q_14 := hS w
    refine go_icmp_ge (t := 34) (q := 30) d_mo_order_27 (by decide) rfl (by omega) (by omega) (fun c15 => ?_) (fun c15 => ?_)
    ·
      refine go_iconst (q := 35) d_mo_order_34 rfl ?_
      exact k1 c3 c15
    ·
      refine go_iconst (q := 31) d_mo_order_30 rfl ?_
      refine go_goto (q := 35) d_mo_order_31 (by decide) ?_
      exact k2 c3 c15

