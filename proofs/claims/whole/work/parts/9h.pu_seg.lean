set_option maxRecDepth 4000 in
theorem so_wr_0 {φ : go_F} {l : Launch} {h : mv_H} {n : Nat} {o : Nat} {I tx S ps cs bs : Nat → Int} {V : Nat → Nat}  (hV : mo_V h o (I, tx, S, ps, cs, bs) V) 
    (k0 : Go φ l m_mo_work (go_rm rd_mo_work rw_mo_work 0 0) (0, 0) 2 [some (mv_R o), none] [mv_R o, mv_R o] h n) :
    Go φ l m_mo_work (go_rm rd_mo_work rw_mo_work 0 0) (0, 0) 0 [some (mv_R o), none] [] h n := by
  refine go_aload_n (q := 1) d_mo_work_0 rfl rfl rfl ?_
  refine go_aload_n (q := 2) d_mo_work_1 rfl rfl rfl ?_
  exact k0 

set_option maxRecDepth 4000 in
theorem so_wr_5 {φ : go_F} {l : Launch} {h : mv_H} {n : Nat} {o : Nat} {I tx S ps cs bs : Nat → Int} {V : Nat → Nat} {z : Int} (hV : mo_V h o (I, tx, S, ps, cs, bs) V) (hz : -1 ≤ z ∧ z ≤ 120)
    (k0 : z < 0 → ∀ h' : mv_H, mo_V h' o (va_up (va_up I 2 z) 0 0, tx, S, ps, cs, bs) (V) → fr_ o 8 h h' → Go φ l m_mo_work (go_rm rd_mo_work rw_mo_work 0 0) (0, 0) 34 [some (mv_R o), none] [mv_R o] h' n)
    (k1 : ¬ z < 0 → ∀ h' : mv_H, mo_V h' o (va_up (va_up I 2 z) 0 1, tx, S, ps, cs, bs) (V) → fr_ o 8 h h' → Go φ l m_mo_work (go_rm rd_mo_work rw_mo_work 0 0) (0, 0) 32 [some (mv_R o), none] [mv_I 0] h' n) :
    Go φ l m_mo_work (go_rm rd_mo_work rw_mo_work 0 0) (0, 0) 5 [some (mv_R o), none] [mv_I z, mv_R o] h n := by
  refine go_putf (q := 8) (v := mv_I z) f_mo_13 d_mo_work_5 rfl (mv_c0 hV) (Nat.le_of_ble_eq_true rfl) (go_fitI _) ?_
  have hV_2 := mv_u0 hV (va_up I 2 z)
  refine go_eq (h' := va_up h o (mv_O 8 [mv_I ((va_up I 2 z) 0), mv_I ((va_up I 2 z) 1), mv_R (o + 1), mv_I ((va_up I 2 z) 2), mv_R (o + 2), mv_R (o + 3), mv_R (o + 4), mv_R (o + 5), mv_R (o + 6), mv_R (o + 7), mv_I ((va_up I 2 z) 3), mv_I ((va_up I 2 z) 4), mv_I ((va_up I 2 z) 5)])) ?_
  have fr_3 : fr_ o 8 h (va_up h o (mv_O 8 [mv_I ((va_up I 2 z) 0), mv_I ((va_up I 2 z) 1), mv_R (o + 1), mv_I ((va_up I 2 z) 2), mv_R (o + 2), mv_R (o + 3), mv_R (o + 4), mv_R (o + 5), mv_R (o + 6), mv_R (o + 7), mv_I ((va_up I 2 z) 3), mv_I ((va_up I 2 z) 4), mv_I ((va_up I 2 z) 5)])) := fun z_ hz => va_up_ne _ _ (by omega)
  generalize va_up h o (mv_O 8 [mv_I ((va_up I 2 z) 0), mv_I ((va_up I 2 z) 1), mv_R (o + 1), mv_I ((va_up I 2 z) 2), mv_R (o + 2), mv_R (o + 3), mv_R (o + 4), mv_R (o + 5), mv_R (o + 6), mv_R (o + 7), mv_I ((va_up I 2 z) 3), mv_I ((va_up I 2 z) 4), mv_I ((va_up I 2 z) 5)]) = h_1 at hV_2 fr_3 ⊢
  refine go_aload_n (q := 9) d_mo_work_8 rfl rfl rfl ?_
  refine go_aload_n (q := 10) d_mo_work_9 rfl rfl rfl ?_
  refine go_getf (v := mv_I z) (q := 13) f_mo_13 d_mo_work_10 rfl (mv_c0 hV_2) rfl ?_
  refine go_if_lt (t := 20) (q := 16) d_mo_work_13 (by decide) rfl (by omega) (fun c4 => ?_) (fun c4 => ?_)
  ·
    refine go_iconst (q := 21) d_mo_work_20 rfl ?_
    refine go_putf (q := 24) (v := mv_I 0) f_mo_42 d_mo_work_21 rfl (mv_c0 hV_2) (Nat.le_of_ble_eq_true rfl) (go_fitI _) ?_
    have hV_6 := mv_u0 hV_2 (va_up (va_up I 2 z) 0 0)
    refine go_eq (h' := va_up h_1 o (mv_O 8 [mv_I ((va_up (va_up I 2 z) 0 0) 0), mv_I ((va_up (va_up I 2 z) 0 0) 1), mv_R (o + 1), mv_I ((va_up (va_up I 2 z) 0 0) 2), mv_R (o + 2), mv_R (o + 3), mv_R (o + 4), mv_R (o + 5), mv_R (o + 6), mv_R (o + 7), mv_I ((va_up (va_up I 2 z) 0 0) 3), mv_I ((va_up (va_up I 2 z) 0 0) 4), mv_I ((va_up (va_up I 2 z) 0 0) 5)])) ?_
    have fr_7 : fr_ o 8 h_1 (va_up h_1 o (mv_O 8 [mv_I ((va_up (va_up I 2 z) 0 0) 0), mv_I ((va_up (va_up I 2 z) 0 0) 1), mv_R (o + 1), mv_I ((va_up (va_up I 2 z) 0 0) 2), mv_R (o + 2), mv_R (o + 3), mv_R (o + 4), mv_R (o + 5), mv_R (o + 6), mv_R (o + 7), mv_I ((va_up (va_up I 2 z) 0 0) 3), mv_I ((va_up (va_up I 2 z) 0 0) 4), mv_I ((va_up (va_up I 2 z) 0 0) 5)])) := fun z_ hz => va_up_ne _ _ (by omega)
    generalize va_up h_1 o (mv_O 8 [mv_I ((va_up (va_up I 2 z) 0 0) 0), mv_I ((va_up (va_up I 2 z) 0 0) 1), mv_R (o + 1), mv_I ((va_up (va_up I 2 z) 0 0) 2), mv_R (o + 2), mv_R (o + 3), mv_R (o + 4), mv_R (o + 5), mv_R (o + 6), mv_R (o + 7), mv_I ((va_up (va_up I 2 z) 0 0) 3), mv_I ((va_up (va_up I 2 z) 0 0) 4), mv_I ((va_up (va_up I 2 z) 0 0) 5)]) = h_5 at hV_6 fr_7 ⊢
    refine go_aload_n (q := 25) d_mo_work_24 rfl rfl rfl ?_
    refine go_getf (v := mv_I 0) (q := 28) f_mo_42 d_mo_work_25 rfl (mv_c0 hV_6) rfl ?_
    refine go_if_le (t := 33) (q := 31) d_mo_work_28 (by decide) rfl (by omega) (fun c8 => ?_) (fun c8 => ?_)
    ·
      refine go_aload_n (q := 34) d_mo_work_33 rfl rfl rfl ?_
      exact k0 c4 _ hV_6 (fr_.tr fr_3 fr_7)
    ·
      exfalso; omega
  ·
    refine go_iconst (q := 17) d_mo_work_16 rfl ?_
    refine go_goto (q := 21) d_mo_work_17 (by decide) ?_
    refine go_putf (q := 24) (v := mv_I 1) f_mo_42 d_mo_work_21 rfl (mv_c0 hV_2) (Nat.le_of_ble_eq_true rfl) (go_fitI _) ?_
    have hV_10 := mv_u0 hV_2 (va_up (va_up I 2 z) 0 1)
    refine go_eq (h' := va_up h_1 o (mv_O 8 [mv_I ((va_up (va_up I 2 z) 0 1) 0), mv_I ((va_up (va_up I 2 z) 0 1) 1), mv_R (o + 1), mv_I ((va_up (va_up I 2 z) 0 1) 2), mv_R (o + 2), mv_R (o + 3), mv_R (o + 4), mv_R (o + 5), mv_R (o + 6), mv_R (o + 7), mv_I ((va_up (va_up I 2 z) 0 1) 3), mv_I ((va_up (va_up I 2 z) 0 1) 4), mv_I ((va_up (va_up I 2 z) 0 1) 5)])) ?_
    have fr_11 : fr_ o 8 h_1 (va_up h_1 o (mv_O 8 [mv_I ((va_up (va_up I 2 z) 0 1) 0), mv_I ((va_up (va_up I 2 z) 0 1) 1), mv_R (o + 1), mv_I ((va_up (va_up I 2 z) 0 1) 2), mv_R (o + 2), mv_R (o + 3), mv_R (o + 4), mv_R (o + 5), mv_R (o + 6), mv_R (o + 7), mv_I ((va_up (va_up I 2 z) 0 1) 3), mv_I ((va_up (va_up I 2 z) 0 1) 4), mv_I ((va_up (va_up I 2 z) 0 1) 5)])) := fun z_ hz => va_up_ne _ _ (by omega)
    generalize va_up h_1 o (mv_O 8 [mv_I ((va_up (va_up I 2 z) 0 1) 0), mv_I ((va_up (va_up I 2 z) 0 1) 1), mv_R (o + 1), mv_I ((va_up (va_up I 2 z) 0 1) 2), mv_R (o + 2), mv_R (o + 3), mv_R (o + 4), mv_R (o + 5), mv_R (o + 6), mv_R (o + 7), mv_I ((va_up (va_up I 2 z) 0 1) 3), mv_I ((va_up (va_up I 2 z) 0 1) 4), mv_I ((va_up (va_up I 2 z) 0 1) 5)]) = h_9 at hV_10 fr_11 ⊢
    refine go_aload_n (q := 25) d_mo_work_24 rfl rfl rfl ?_
    refine go_getf (v := mv_I 1) (q := 28) f_mo_42 d_mo_work_25 rfl (mv_c0 hV_10) rfl ?_
    refine go_if_le (t := 33) (q := 31) d_mo_work_28 (by decide) rfl (by omega) (fun c12 => ?_) (fun c12 => ?_)
    ·
      exfalso; omega
    ·
      refine go_iconst (q := 32) d_mo_work_31 rfl ?_
      exact k1 c4 _ hV_10 (fr_.tr fr_3 fr_11)

set_option maxRecDepth 4000 in
theorem so_wr_37 {φ : go_F} {l : Launch} {h : mv_H} {n : Nat} {o : Nat} {I tx S ps cs bs : Nat → Int} {V : Nat → Nat} {z : Int} (hV : mo_V h o (I, tx, S, ps, cs, bs) V) (hz : 0 ≤ z ∧ z ≤ 3)
    (k0 : z ≤ 0 → ∀ h' : mv_H, mo_V h' o (va_up I 0 0, tx, va_up S 72 (S 0), ps, cs, bs) (va_up (va_up V (2 * 72) (V (2 * 0))) (2 * 72 + 1) (V (2 * 0 + 1))) → fr_ o 8 h h' → Go φ l m_mo_work (go_rm rd_mo_work rw_mo_work 0 0) (0, 0) 72 [some (mv_R o), some (mv_I z)] [mv_I 72, mv_R o] h' n)
    (k1 : ¬ z ≤ 0 → z + 1 ≤ 0 → ∀ h' : mv_H, mo_V h' o (va_up I 0 (z + 1), tx, va_up S 72 (S 0), ps, cs, bs) (va_up (va_up V (2 * 72) (V (2 * 0))) (2 * 72 + 1) (V (2 * 0 + 1))) → fr_ o 8 h h' → Go φ l m_mo_work (go_rm rd_mo_work rw_mo_work 0 0) (0, 0) 72 [some (mv_R o), some (mv_I z)] [mv_I 72, mv_R o] h' n)
    (k2 : ¬ z ≤ 0 → ¬ z + 1 ≤ 0 → ∀ h' : mv_H, mo_V h' o (va_up I 0 (z + 1), tx, S, ps, cs, bs) (V) → fr_ o 8 h h' → Go φ l m_mo_work (go_rm rd_mo_work rw_mo_work 0 0) (0, 0) 61 [some (mv_R o), some (mv_I z)] [mv_I 0] h' n) :
    Go φ l m_mo_work (go_rm rd_mo_work rw_mo_work 0 0) (0, 0) 37 [some (mv_R o), none] [mv_I z] h n := by
  refine go_istore_n (q := 38) (L' := [some (mv_R o), some (mv_I z)]) d_mo_work_37 rfl rfl (by decide) rfl ?_
  refine go_aload_n (q := 39) d_mo_work_38 rfl rfl rfl ?_
  refine go_iload_n (q := 40) d_mo_work_39 rfl rfl rfl ?_
  refine go_if_le (t := 49) (q := 43) d_mo_work_40 (by decide) rfl (by omega) (fun c1 => ?_) (fun c1 => ?_)
  ·
    refine go_iconst (q := 50) d_mo_work_49 rfl ?_
    refine go_putf (q := 53) (v := mv_I 0) f_mo_42 d_mo_work_50 rfl (mv_c0 hV) (Nat.le_of_ble_eq_true rfl) (go_fitI _) ?_
    have hV_3 := mv_u0 hV (va_up I 0 0)
    refine go_eq (h' := va_up h o (mv_O 8 [mv_I ((va_up I 0 0) 0), mv_I ((va_up I 0 0) 1), mv_R (o + 1), mv_I ((va_up I 0 0) 2), mv_R (o + 2), mv_R (o + 3), mv_R (o + 4), mv_R (o + 5), mv_R (o + 6), mv_R (o + 7), mv_I ((va_up I 0 0) 3), mv_I ((va_up I 0 0) 4), mv_I ((va_up I 0 0) 5)])) ?_
    have fr_4 : fr_ o 8 h (va_up h o (mv_O 8 [mv_I ((va_up I 0 0) 0), mv_I ((va_up I 0 0) 1), mv_R (o + 1), mv_I ((va_up I 0 0) 2), mv_R (o + 2), mv_R (o + 3), mv_R (o + 4), mv_R (o + 5), mv_R (o + 6), mv_R (o + 7), mv_I ((va_up I 0 0) 3), mv_I ((va_up I 0 0) 4), mv_I ((va_up I 0 0) 5)])) := fun z_ hz => va_up_ne _ _ (by omega)
    generalize va_up h o (mv_O 8 [mv_I ((va_up I 0 0) 0), mv_I ((va_up I 0 0) 1), mv_R (o + 1), mv_I ((va_up I 0 0) 2), mv_R (o + 2), mv_R (o + 3), mv_R (o + 4), mv_R (o + 5), mv_R (o + 6), mv_R (o + 7), mv_I ((va_up I 0 0) 3), mv_I ((va_up I 0 0) 4), mv_I ((va_up I 0 0) 5)]) = h_2 at hV_3 fr_4 ⊢
    refine go_aload_n (q := 54) d_mo_work_53 rfl rfl rfl ?_
    refine go_getf (v := mv_I 0) (q := 57) f_mo_42 d_mo_work_54 rfl (mv_c0 hV_3) rfl ?_
    refine go_if_le (t := 62) (q := 60) d_mo_work_57 (by decide) rfl (by omega) (fun c5 => ?_) (fun c5 => ?_)
    ·
      refine go_aload_n (q := 63) d_mo_work_62 rfl rfl rfl ?_
      refine go_iconst (q := 64) d_mo_work_63 rfl ?_
      refine go_bipush (q := 66) d_mo_work_64 rfl (by decide) ?_
      refine cl_copyValue (a := 0) (b := 72) (q := 69) rfl d_mo_work_66 rfl hV_3 (by omega) (by omega) (Nat.le_of_ble_eq_true rfl) ⟨by decide, by decide, by decide, by decide⟩ (fun h_6 hV_7 fr_8 => ?_)
      have hV_9 : mo_V h_6 o (va_up I 0 0, tx, va_up S 72 (S 0), ps, cs, bs) (va_up (va_up V (2 * 72) (V (2 * 0))) (2 * 72 + 1) (V (2 * 0 + 1))) := by
        rw [(show V (2 * 0) = V (2 * 0) from rfl), (show V (2 * 0 + 1) = V (2 * 0 + 1) from rfl)] at hV_7
        exact hV_7
      refine go_aload_n (q := 70) d_mo_work_69 rfl rfl rfl ?_
      refine go_bipush (q := 72) d_mo_work_70 rfl (by decide) ?_
      exact k0 c1 _ hV_9 (fr_.tr fr_4 fr_8)
    ·
      exfalso; omega
  ·
    refine go_iload_n (q := 44) d_mo_work_43 rfl rfl rfl ?_
    refine go_iconst (q := 45) d_mo_work_44 rfl ?_
    refine go_iadd (q := 46) d_mo_work_45 rfl ?_
    refine go_goto (q := 50) d_mo_work_46 (by decide) ?_
    refine go_putf (q := 53) (v := mv_I (z + 1)) f_mo_42 d_mo_work_50 rfl (mv_c0 hV) (Nat.le_of_ble_eq_true rfl) (go_fitI _) ?_
    have hV_11 := mv_u0 hV (va_up I 0 (z + 1))
    refine go_eq (h' := va_up h o (mv_O 8 [mv_I ((va_up I 0 (z + 1)) 0), mv_I ((va_up I 0 (z + 1)) 1), mv_R (o + 1), mv_I ((va_up I 0 (z + 1)) 2), mv_R (o + 2), mv_R (o + 3), mv_R (o + 4), mv_R (o + 5), mv_R (o + 6), mv_R (o + 7), mv_I ((va_up I 0 (z + 1)) 3), mv_I ((va_up I 0 (z + 1)) 4), mv_I ((va_up I 0 (z + 1)) 5)])) ?_
    have fr_12 : fr_ o 8 h (va_up h o (mv_O 8 [mv_I ((va_up I 0 (z + 1)) 0), mv_I ((va_up I 0 (z + 1)) 1), mv_R (o + 1), mv_I ((va_up I 0 (z + 1)) 2), mv_R (o + 2), mv_R (o + 3), mv_R (o + 4), mv_R (o + 5), mv_R (o + 6), mv_R (o + 7), mv_I ((va_up I 0 (z + 1)) 3), mv_I ((va_up I 0 (z + 1)) 4), mv_I ((va_up I 0 (z + 1)) 5)])) := fun z_ hz => va_up_ne _ _ (by omega)
    generalize va_up h o (mv_O 8 [mv_I ((va_up I 0 (z + 1)) 0), mv_I ((va_up I 0 (z + 1)) 1), mv_R (o + 1), mv_I ((va_up I 0 (z + 1)) 2), mv_R (o + 2), mv_R (o + 3), mv_R (o + 4), mv_R (o + 5), mv_R (o + 6), mv_R (o + 7), mv_I ((va_up I 0 (z + 1)) 3), mv_I ((va_up I 0 (z + 1)) 4), mv_I ((va_up I 0 (z + 1)) 5)]) = h_10 at hV_11 fr_12 ⊢
    refine go_aload_n (q := 54) d_mo_work_53 rfl rfl rfl ?_
    refine go_getf (v := mv_I (z + 1)) (q := 57) f_mo_42 d_mo_work_54 rfl (mv_c0 hV_11) rfl ?_
    refine go_if_le (t := 62) (q := 60) d_mo_work_57 (by decide) rfl (by omega) (fun c13 => ?_) (fun c13 => ?_)
    ·
      refine go_aload_n (q := 63) d_mo_work_62 rfl rfl rfl ?_
      refine go_iconst (q := 64) d_mo_work_63 rfl ?_
      refine go_bipush (q := 66) d_mo_work_64 rfl (by decide) ?_
      refine cl_copyValue (a := 0) (b := 72) (q := 69) rfl d_mo_work_66 rfl hV_11 (by omega) (by omega) (Nat.le_of_ble_eq_true rfl) ⟨by decide, by decide, by decide, by decide⟩ (fun h_14 hV_15 fr_16 => ?_)
      have hV_17 : mo_V h_14 o (va_up I 0 (z + 1), tx, va_up S 72 (S 0), ps, cs, bs) (va_up (va_up V (2 * 72) (V (2 * 0))) (2 * 72 + 1) (V (2 * 0 + 1))) := by
        rw [(show V (2 * 0) = V (2 * 0) from rfl), (show V (2 * 0 + 1) = V (2 * 0 + 1) from rfl)] at hV_15
        exact hV_15
      refine go_aload_n (q := 70) d_mo_work_69 rfl rfl rfl ?_
      refine go_bipush (q := 72) d_mo_work_70 rfl (by decide) ?_
      exact k1 c1 c13 _ hV_17 (fr_.tr fr_12 fr_16)
    ·
      refine go_iconst (q := 61) d_mo_work_60 rfl ?_
      exact k2 c1 c13 _ hV_11 fr_12

set_option maxRecDepth 4000 in
theorem so_ke_0 {φ : go_F} {l : Launch} {h : mv_H} {n : Nat} {o : Nat} {I tx S ps cs bs : Nat → Int} {V : Nat → Nat} {v : Int} (hV : mo_V h o (I, tx, S, ps, cs, bs) V) (hv : -2147483648 ≤ v ∧ v ≤ 2147483647)
    (k0 : ¬ (0 ≤ v ∧ v < 8) → ∀ h' : mv_H, mo_V h' o (va_up I 0 1, tx, S, ps, cs, bs) (V) → fr_ o 8 h h' → Go φ l m_mo_keep (go_rm rd_mo_keep rw_mo_keep 0 0) (0, 0) 24 [some (mv_R o), some (mv_I v), none] [mv_I 0] h' n)
    (k1 : (0 ≤ v ∧ v < 8) → ∀ h' : mv_H, mo_V h' o (va_up I 0 0, tx, S, ps, cs, bs) (V) → fr_ o 8 h h' → Go φ l m_mo_keep (go_rm rd_mo_keep rw_mo_keep 0 0) (0, 0) 26 [some (mv_R o), some (mv_I v), none] [mv_R o] h' n) :
    Go φ l m_mo_keep (go_rm rd_mo_keep rw_mo_keep 0 0) (0, 0) 0 [some (mv_R o), some (mv_I v), none] [] h n := by
  refine go_aload_n (q := 1) d_mo_keep_0 rfl rfl rfl ?_
  refine go_iload_n (q := 2) d_mo_keep_1 rfl rfl rfl ?_
  refine cl_isVariable (v := v) (q := 5) rfl d_mo_keep_2 rfl (by omega) (Nat.le_of_ble_eq_true rfl) ⟨by decide, by decide, by decide, by decide⟩ ?_
  refine go_if_eq (t := 12) (q := 8) d_mo_keep_5 (by decide) rfl it_rng (fun c1 => ?_) (fun c1 => ?_)
  · have c2 : ¬ (0 ≤ v ∧ v < 8) := it_eqp c1
    refine go_iconst (q := 13) d_mo_keep_12 rfl ?_
    refine go_putf (q := 16) (v := mv_I 1) f_mo_42 d_mo_keep_13 rfl (mv_c0 hV) (Nat.le_of_ble_eq_true rfl) (go_fitI _) ?_
    have hV_4 := mv_u0 hV (va_up I 0 1)
    refine go_eq (h' := va_up h o (mv_O 8 [mv_I ((va_up I 0 1) 0), mv_I ((va_up I 0 1) 1), mv_R (o + 1), mv_I ((va_up I 0 1) 2), mv_R (o + 2), mv_R (o + 3), mv_R (o + 4), mv_R (o + 5), mv_R (o + 6), mv_R (o + 7), mv_I ((va_up I 0 1) 3), mv_I ((va_up I 0 1) 4), mv_I ((va_up I 0 1) 5)])) ?_
    have fr_5 : fr_ o 8 h (va_up h o (mv_O 8 [mv_I ((va_up I 0 1) 0), mv_I ((va_up I 0 1) 1), mv_R (o + 1), mv_I ((va_up I 0 1) 2), mv_R (o + 2), mv_R (o + 3), mv_R (o + 4), mv_R (o + 5), mv_R (o + 6), mv_R (o + 7), mv_I ((va_up I 0 1) 3), mv_I ((va_up I 0 1) 4), mv_I ((va_up I 0 1) 5)])) := fun z_ hz => va_up_ne _ _ (by omega)
    generalize va_up h o (mv_O 8 [mv_I ((va_up I 0 1) 0), mv_I ((va_up I 0 1) 1), mv_R (o + 1), mv_I ((va_up I 0 1) 2), mv_R (o + 2), mv_R (o + 3), mv_R (o + 4), mv_R (o + 5), mv_R (o + 6), mv_R (o + 7), mv_I ((va_up I 0 1) 3), mv_I ((va_up I 0 1) 4), mv_I ((va_up I 0 1) 5)]) = h_3 at hV_4 fr_5 ⊢
    refine go_aload_n (q := 17) d_mo_keep_16 rfl rfl rfl ?_
    refine go_getf (v := mv_I 1) (q := 20) f_mo_42 d_mo_keep_17 rfl (mv_c0 hV_4) rfl ?_
    refine go_if_le (t := 25) (q := 23) d_mo_keep_20 (by decide) rfl (by omega) (fun c6 => ?_) (fun c6 => ?_)
    ·
      exfalso; omega
    ·
      refine go_iconst (q := 24) d_mo_keep_23 rfl ?_
      exact k0 c2 _ hV_4 fr_5
  · have c7 : (0 ≤ v ∧ v < 8) := it_eqn c1
    refine go_iconst (q := 9) d_mo_keep_8 rfl ?_
    refine go_goto (q := 13) d_mo_keep_9 (by decide) ?_
    refine go_putf (q := 16) (v := mv_I 0) f_mo_42 d_mo_keep_13 rfl (mv_c0 hV) (Nat.le_of_ble_eq_true rfl) (go_fitI _) ?_
    have hV_9 := mv_u0 hV (va_up I 0 0)
    refine go_eq (h' := va_up h o (mv_O 8 [mv_I ((va_up I 0 0) 0), mv_I ((va_up I 0 0) 1), mv_R (o + 1), mv_I ((va_up I 0 0) 2), mv_R (o + 2), mv_R (o + 3), mv_R (o + 4), mv_R (o + 5), mv_R (o + 6), mv_R (o + 7), mv_I ((va_up I 0 0) 3), mv_I ((va_up I 0 0) 4), mv_I ((va_up I 0 0) 5)])) ?_
    have fr_10 : fr_ o 8 h (va_up h o (mv_O 8 [mv_I ((va_up I 0 0) 0), mv_I ((va_up I 0 0) 1), mv_R (o + 1), mv_I ((va_up I 0 0) 2), mv_R (o + 2), mv_R (o + 3), mv_R (o + 4), mv_R (o + 5), mv_R (o + 6), mv_R (o + 7), mv_I ((va_up I 0 0) 3), mv_I ((va_up I 0 0) 4), mv_I ((va_up I 0 0) 5)])) := fun z_ hz => va_up_ne _ _ (by omega)
    generalize va_up h o (mv_O 8 [mv_I ((va_up I 0 0) 0), mv_I ((va_up I 0 0) 1), mv_R (o + 1), mv_I ((va_up I 0 0) 2), mv_R (o + 2), mv_R (o + 3), mv_R (o + 4), mv_R (o + 5), mv_R (o + 6), mv_R (o + 7), mv_I ((va_up I 0 0) 3), mv_I ((va_up I 0 0) 4), mv_I ((va_up I 0 0) 5)]) = h_8 at hV_9 fr_10 ⊢
    refine go_aload_n (q := 17) d_mo_keep_16 rfl rfl rfl ?_
    refine go_getf (v := mv_I 0) (q := 20) f_mo_42 d_mo_keep_17 rfl (mv_c0 hV_9) rfl ?_
    refine go_if_le (t := 25) (q := 23) d_mo_keep_20 (by decide) rfl (by omega) (fun c11 => ?_) (fun c11 => ?_)
    ·
      refine go_aload_n (q := 26) d_mo_keep_25 rfl rfl rfl ?_
      exact k1 c7 _ hV_9 fr_10
    ·
      exfalso; omega

set_option maxRecDepth 4000 in
theorem so_ke_29 {φ : go_F} {l : Launch} {h : mv_H} {n : Nat} {o : Nat} {I tx S ps cs bs : Nat → Int} {V : Nat → Nat} {v : Nat} {z : Int} (hV : mo_V h o (I, tx, S, ps, cs, bs) V) (hv : v < 8) (hc : 0 ≤ I 0 ∧ I 0 ≤ 4)
    (k0 : I 0 ≤ 0 → ∀ h' : mv_H, mo_V h' o (va_up I 1 0, tx, va_up S (64 + v) (S 72), ps, cs, bs) (va_up (va_up V (2 * (64 + v)) (V (2 * 72))) (2 * (64 + v) + 1) (V (2 * 72 + 1))) → fr_ o 8 h h' → Go φ l m_mo_keep (go_rm rd_mo_keep rw_mo_keep 0 0) (0, 0) 65 [some (mv_R o), some (mv_I (v : Int)), some (mv_I z)] [mv_I z] h' n)
    (k1 : ¬ I 0 ≤ 0 → ∀ h' : mv_H, mo_V h' o (va_up I 0 ((I 0) + 1), tx, S, ps, cs, bs) (V) → fr_ o 8 h h' → Go φ l m_mo_keep (go_rm rd_mo_keep rw_mo_keep 0 0) (0, 0) 48 [some (mv_R o), some (mv_I (v : Int)), some (mv_I z)] [mv_I 0] h' n) :
    Go φ l m_mo_keep (go_rm rd_mo_keep rw_mo_keep 0 0) (0, 0) 29 [some (mv_R o), some (mv_I (v : Int)), none] [mv_I z] h n := by
  refine go_istore_n (q := 30) (L' := [some (mv_R o), some (mv_I (v : Int)), some (mv_I z)]) d_mo_keep_29 rfl rfl (by decide) rfl ?_
  refine go_aload_n (q := 31) d_mo_keep_30 rfl rfl rfl ?_
  refine go_getf (v := mv_I (I 0)) (q := 34) f_mo_42 d_mo_keep_31 rfl (mv_c0 hV) rfl ?_
  refine go_if_le (t := 49) (q := 37) d_mo_keep_34 (by decide) rfl (by omega) (fun c1 => ?_) (fun c1 => ?_)
  ·
    refine go_aload_n (q := 50) d_mo_keep_49 rfl rfl rfl ?_
    refine go_bipush (q := 52) d_mo_keep_50 rfl (by decide) ?_
    refine go_bipush (q := 54) d_mo_keep_52 rfl (by decide) ?_
    refine go_iload_n (q := 55) d_mo_keep_54 rfl rfl rfl ?_
    refine go_iadd (q := 56) d_mo_keep_55 rfl ?_
    refine cl_copyValue (a := 72) (b := 64 + v) (q := 59) rfl d_mo_keep_56 rfl hV (by omega) (by omega) (Nat.le_of_ble_eq_true rfl) ⟨by decide, by decide, by decide, by decide⟩ (fun h_2 hV_3 fr_4 => ?_)
    have hV_5 : mo_V h_2 o (I, tx, va_up S (64 + v) (S 72), ps, cs, bs) (va_up (va_up V (2 * (64 + v)) (V (2 * 72))) (2 * (64 + v) + 1) (V (2 * 72 + 1))) := by
      rw [(show V (2 * 72) = V (2 * 72) from rfl), (show V (2 * 72 + 1) = V (2 * 72 + 1) from rfl)] at hV_3
      exact hV_3
    refine go_aload_n (q := 60) d_mo_keep_59 rfl rfl rfl ?_
    refine go_iconst (q := 61) d_mo_keep_60 rfl ?_
    refine go_putf (q := 64) (v := mv_I 0) f_mo_93 d_mo_keep_61 rfl (mv_c0 hV_5) (Nat.le_of_ble_eq_true rfl) (go_fitI _) ?_
    have hV_7 := mv_u0 hV_5 (va_up I 1 0)
    refine go_eq (h' := va_up h_2 o (mv_O 8 [mv_I ((va_up I 1 0) 0), mv_I ((va_up I 1 0) 1), mv_R (o + 1), mv_I ((va_up I 1 0) 2), mv_R (o + 2), mv_R (o + 3), mv_R (o + 4), mv_R (o + 5), mv_R (o + 6), mv_R (o + 7), mv_I ((va_up I 1 0) 3), mv_I ((va_up I 1 0) 4), mv_I ((va_up I 1 0) 5)])) ?_
    have fr_8 : fr_ o 8 h_2 (va_up h_2 o (mv_O 8 [mv_I ((va_up I 1 0) 0), mv_I ((va_up I 1 0) 1), mv_R (o + 1), mv_I ((va_up I 1 0) 2), mv_R (o + 2), mv_R (o + 3), mv_R (o + 4), mv_R (o + 5), mv_R (o + 6), mv_R (o + 7), mv_I ((va_up I 1 0) 3), mv_I ((va_up I 1 0) 4), mv_I ((va_up I 1 0) 5)])) := fun z_ hz => va_up_ne _ _ (by omega)
    generalize va_up h_2 o (mv_O 8 [mv_I ((va_up I 1 0) 0), mv_I ((va_up I 1 0) 1), mv_R (o + 1), mv_I ((va_up I 1 0) 2), mv_R (o + 2), mv_R (o + 3), mv_R (o + 4), mv_R (o + 5), mv_R (o + 6), mv_R (o + 7), mv_I ((va_up I 1 0) 3), mv_I ((va_up I 1 0) 4), mv_I ((va_up I 1 0) 5)]) = h_6 at hV_7 fr_8 ⊢
    refine go_iload_n (q := 65) d_mo_keep_64 rfl rfl rfl ?_
    exact k0 c1 _ hV_7 (fr_.tr fr_4 fr_8)
  ·
    refine go_aload_n (q := 38) d_mo_keep_37 rfl rfl rfl ?_
    refine go_aload_n (q := 39) d_mo_keep_38 rfl rfl rfl ?_
    refine go_getf (v := mv_I (I 0)) (q := 42) f_mo_42 d_mo_keep_39 rfl (mv_c0 hV) rfl ?_
    refine go_iconst (q := 43) d_mo_keep_42 rfl ?_
    refine go_iadd (q := 44) d_mo_keep_43 rfl ?_
    refine go_putf (q := 47) (v := mv_I ((I 0) + 1)) f_mo_42 d_mo_keep_44 rfl (mv_c0 hV) (Nat.le_of_ble_eq_true rfl) (go_fitI _) ?_
    have hV_10 := mv_u0 hV (va_up I 0 ((I 0) + 1))
    refine go_eq (h' := va_up h o (mv_O 8 [mv_I ((va_up I 0 ((I 0) + 1)) 0), mv_I ((va_up I 0 ((I 0) + 1)) 1), mv_R (o + 1), mv_I ((va_up I 0 ((I 0) + 1)) 2), mv_R (o + 2), mv_R (o + 3), mv_R (o + 4), mv_R (o + 5), mv_R (o + 6), mv_R (o + 7), mv_I ((va_up I 0 ((I 0) + 1)) 3), mv_I ((va_up I 0 ((I 0) + 1)) 4), mv_I ((va_up I 0 ((I 0) + 1)) 5)])) ?_
    have fr_11 : fr_ o 8 h (va_up h o (mv_O 8 [mv_I ((va_up I 0 ((I 0) + 1)) 0), mv_I ((va_up I 0 ((I 0) + 1)) 1), mv_R (o + 1), mv_I ((va_up I 0 ((I 0) + 1)) 2), mv_R (o + 2), mv_R (o + 3), mv_R (o + 4), mv_R (o + 5), mv_R (o + 6), mv_R (o + 7), mv_I ((va_up I 0 ((I 0) + 1)) 3), mv_I ((va_up I 0 ((I 0) + 1)) 4), mv_I ((va_up I 0 ((I 0) + 1)) 5)])) := fun z_ hz => va_up_ne _ _ (by omega)
    generalize va_up h o (mv_O 8 [mv_I ((va_up I 0 ((I 0) + 1)) 0), mv_I ((va_up I 0 ((I 0) + 1)) 1), mv_R (o + 1), mv_I ((va_up I 0 ((I 0) + 1)) 2), mv_R (o + 2), mv_R (o + 3), mv_R (o + 4), mv_R (o + 5), mv_R (o + 6), mv_R (o + 7), mv_I ((va_up I 0 ((I 0) + 1)) 3), mv_I ((va_up I 0 ((I 0) + 1)) 4), mv_I ((va_up I 0 ((I 0) + 1)) 5)]) = h_9 at hV_10 fr_11 ⊢
    refine go_iconst (q := 48) d_mo_keep_47 rfl ?_
    exact k1 c1 _ hV_10 fr_11

set_option maxRecDepth 4000 in
theorem so_ag_0 {φ : go_F} {l : Launch} {h : mv_H} {n : Nat} {o : Nat} {I tx S ps cs bs : Nat → Int} {V : Nat → Nat} {v : Int} (hV : mo_V h o (I, tx, S, ps, cs, bs) V) (hv : -2147483648 ≤ v ∧ v ≤ 2147483647)
    (k0 : ¬ (0 ≤ v ∧ v < 8) → ∀ h' : mv_H, mo_V h' o (va_up I 0 1, tx, S, ps, cs, bs) (V) → fr_ o 8 h h' → Go φ l m_mo_against (go_rm rd_mo_against rw_mo_against 0 0) (0, 0) 37 [some (mv_R o), some (mv_I v)] [mv_I 0] h' n)
    (k1 : (0 ≤ v ∧ v < 8) → ∀ h' : mv_H, mo_V h' o (va_up I 0 0, tx, S, ps, cs, bs) (V) → fr_ o 8 h h' → Go φ l m_mo_against (go_rm rd_mo_against rw_mo_against 0 0) (0, 0) 34 [some (mv_R o), some (mv_I v)] [mv_I (64 + v), mv_I 72, mv_R o] h' n) :
    Go φ l m_mo_against (go_rm rd_mo_against rw_mo_against 0 0) (0, 0) 0 [some (mv_R o), some (mv_I v)] [] h n := by
  refine go_aload_n (q := 1) d_mo_against_0 rfl rfl rfl ?_
  refine go_iload_n (q := 2) d_mo_against_1 rfl rfl rfl ?_
  refine cl_isVariable (v := v) (q := 5) rfl d_mo_against_2 rfl (by omega) (Nat.le_of_ble_eq_true rfl) ⟨by decide, by decide, by decide, by decide⟩ ?_
  refine go_if_eq (t := 12) (q := 8) d_mo_against_5 (by decide) rfl it_rng (fun c1 => ?_) (fun c1 => ?_)
  · have c2 : ¬ (0 ≤ v ∧ v < 8) := it_eqp c1
    refine go_iconst (q := 13) d_mo_against_12 rfl ?_
    refine go_putf (q := 16) (v := mv_I 1) f_mo_42 d_mo_against_13 rfl (mv_c0 hV) (Nat.le_of_ble_eq_true rfl) (go_fitI _) ?_
    have hV_4 := mv_u0 hV (va_up I 0 1)
    refine go_eq (h' := va_up h o (mv_O 8 [mv_I ((va_up I 0 1) 0), mv_I ((va_up I 0 1) 1), mv_R (o + 1), mv_I ((va_up I 0 1) 2), mv_R (o + 2), mv_R (o + 3), mv_R (o + 4), mv_R (o + 5), mv_R (o + 6), mv_R (o + 7), mv_I ((va_up I 0 1) 3), mv_I ((va_up I 0 1) 4), mv_I ((va_up I 0 1) 5)])) ?_
    have fr_5 : fr_ o 8 h (va_up h o (mv_O 8 [mv_I ((va_up I 0 1) 0), mv_I ((va_up I 0 1) 1), mv_R (o + 1), mv_I ((va_up I 0 1) 2), mv_R (o + 2), mv_R (o + 3), mv_R (o + 4), mv_R (o + 5), mv_R (o + 6), mv_R (o + 7), mv_I ((va_up I 0 1) 3), mv_I ((va_up I 0 1) 4), mv_I ((va_up I 0 1) 5)])) := fun z_ hz => va_up_ne _ _ (by omega)
    generalize va_up h o (mv_O 8 [mv_I ((va_up I 0 1) 0), mv_I ((va_up I 0 1) 1), mv_R (o + 1), mv_I ((va_up I 0 1) 2), mv_R (o + 2), mv_R (o + 3), mv_R (o + 4), mv_R (o + 5), mv_R (o + 6), mv_R (o + 7), mv_I ((va_up I 0 1) 3), mv_I ((va_up I 0 1) 4), mv_I ((va_up I 0 1) 5)]) = h_3 at hV_4 fr_5 ⊢
    refine go_aload_n (q := 17) d_mo_against_16 rfl rfl rfl ?_
    refine go_getf (v := mv_I 1) (q := 20) f_mo_42 d_mo_against_17 rfl (mv_c0 hV_4) rfl ?_
    refine go_if_le (t := 27) (q := 23) d_mo_against_20 (by decide) rfl (by omega) (fun c6 => ?_) (fun c6 => ?_)
    ·
      exfalso; omega
    ·
      refine go_iconst (q := 24) d_mo_against_23 rfl ?_
      refine go_goto (q := 37) d_mo_against_24 (by decide) ?_
      exact k0 c2 _ hV_4 fr_5
  · have c7 : (0 ≤ v ∧ v < 8) := it_eqn c1
    refine go_iconst (q := 9) d_mo_against_8 rfl ?_
    refine go_goto (q := 13) d_mo_against_9 (by decide) ?_
    refine go_putf (q := 16) (v := mv_I 0) f_mo_42 d_mo_against_13 rfl (mv_c0 hV) (Nat.le_of_ble_eq_true rfl) (go_fitI _) ?_
    have hV_9 := mv_u0 hV (va_up I 0 0)
    refine go_eq (h' := va_up h o (mv_O 8 [mv_I ((va_up I 0 0) 0), mv_I ((va_up I 0 0) 1), mv_R (o + 1), mv_I ((va_up I 0 0) 2), mv_R (o + 2), mv_R (o + 3), mv_R (o + 4), mv_R (o + 5), mv_R (o + 6), mv_R (o + 7), mv_I ((va_up I 0 0) 3), mv_I ((va_up I 0 0) 4), mv_I ((va_up I 0 0) 5)])) ?_
    have fr_10 : fr_ o 8 h (va_up h o (mv_O 8 [mv_I ((va_up I 0 0) 0), mv_I ((va_up I 0 0) 1), mv_R (o + 1), mv_I ((va_up I 0 0) 2), mv_R (o + 2), mv_R (o + 3), mv_R (o + 4), mv_R (o + 5), mv_R (o + 6), mv_R (o + 7), mv_I ((va_up I 0 0) 3), mv_I ((va_up I 0 0) 4), mv_I ((va_up I 0 0) 5)])) := fun z_ hz => va_up_ne _ _ (by omega)
    generalize va_up h o (mv_O 8 [mv_I ((va_up I 0 0) 0), mv_I ((va_up I 0 0) 1), mv_R (o + 1), mv_I ((va_up I 0 0) 2), mv_R (o + 2), mv_R (o + 3), mv_R (o + 4), mv_R (o + 5), mv_R (o + 6), mv_R (o + 7), mv_I ((va_up I 0 0) 3), mv_I ((va_up I 0 0) 4), mv_I ((va_up I 0 0) 5)]) = h_8 at hV_9 fr_10 ⊢
    refine go_aload_n (q := 17) d_mo_against_16 rfl rfl rfl ?_
    refine go_getf (v := mv_I 0) (q := 20) f_mo_42 d_mo_against_17 rfl (mv_c0 hV_9) rfl ?_
    refine go_if_le (t := 27) (q := 23) d_mo_against_20 (by decide) rfl (by omega) (fun c11 => ?_) (fun c11 => ?_)
    ·
      refine go_aload_n (q := 28) d_mo_against_27 rfl rfl rfl ?_
      refine go_bipush (q := 30) d_mo_against_28 rfl (by decide) ?_
      refine go_bipush (q := 32) d_mo_against_30 rfl (by decide) ?_
      refine go_iload_n (q := 33) d_mo_against_32 rfl rfl rfl ?_
      refine go_iadd (q := 34) d_mo_against_33 rfl ?_
      exact k1 c7 _ hV_9 fr_10
    ·
      exfalso; omega

set_option maxRecDepth 4000 in
theorem so_fe_0 {φ : go_F} {l : Launch} {h : mv_H} {n : Nat} {o : Nat} {I tx S ps cs bs : Nat → Int} {V : Nat → Nat} {v : Int} (hV : mo_V h o (I, tx, S, ps, cs, bs) V) (hv : -2147483648 ≤ v ∧ v ≤ 2147483647)
    (k0 : ¬ (0 ≤ v ∧ v < 8) → ∀ h' : mv_H, mo_V h' o (va_up I 0 1, tx, S, ps, cs, bs) (V) → fr_ o 8 h h' → Go φ l m_mo_fetch (go_rm rd_mo_fetch rw_mo_fetch 0 0) (0, 0) 24 [some (mv_R o), some (mv_I v)] [mv_I 0] h' n)
    (k1 : (0 ≤ v ∧ v < 8) → ∀ h' : mv_H, mo_V h' o (va_up I 0 0, tx, S, ps, cs, bs) (V) → fr_ o 8 h h' → Go φ l m_mo_fetch (go_rm rd_mo_fetch rw_mo_fetch 0 0) (0, 0) 25 [some (mv_R o), some (mv_I v)] [] h' n) :
    Go φ l m_mo_fetch (go_rm rd_mo_fetch rw_mo_fetch 0 0) (0, 0) 0 [some (mv_R o), some (mv_I v)] [] h n := by
  refine go_aload_n (q := 1) d_mo_fetch_0 rfl rfl rfl ?_
  refine go_iload_n (q := 2) d_mo_fetch_1 rfl rfl rfl ?_
  refine cl_isVariable (v := v) (q := 5) rfl d_mo_fetch_2 rfl (by omega) (Nat.le_of_ble_eq_true rfl) ⟨by decide, by decide, by decide, by decide⟩ ?_
  refine go_if_eq (t := 12) (q := 8) d_mo_fetch_5 (by decide) rfl it_rng (fun c1 => ?_) (fun c1 => ?_)
  · have c2 : ¬ (0 ≤ v ∧ v < 8) := it_eqp c1
    refine go_iconst (q := 13) d_mo_fetch_12 rfl ?_
    refine go_putf (q := 16) (v := mv_I 1) f_mo_42 d_mo_fetch_13 rfl (mv_c0 hV) (Nat.le_of_ble_eq_true rfl) (go_fitI _) ?_
    have hV_4 := mv_u0 hV (va_up I 0 1)
    refine go_eq (h' := va_up h o (mv_O 8 [mv_I ((va_up I 0 1) 0), mv_I ((va_up I 0 1) 1), mv_R (o + 1), mv_I ((va_up I 0 1) 2), mv_R (o + 2), mv_R (o + 3), mv_R (o + 4), mv_R (o + 5), mv_R (o + 6), mv_R (o + 7), mv_I ((va_up I 0 1) 3), mv_I ((va_up I 0 1) 4), mv_I ((va_up I 0 1) 5)])) ?_
    have fr_5 : fr_ o 8 h (va_up h o (mv_O 8 [mv_I ((va_up I 0 1) 0), mv_I ((va_up I 0 1) 1), mv_R (o + 1), mv_I ((va_up I 0 1) 2), mv_R (o + 2), mv_R (o + 3), mv_R (o + 4), mv_R (o + 5), mv_R (o + 6), mv_R (o + 7), mv_I ((va_up I 0 1) 3), mv_I ((va_up I 0 1) 4), mv_I ((va_up I 0 1) 5)])) := fun z_ hz => va_up_ne _ _ (by omega)
    generalize va_up h o (mv_O 8 [mv_I ((va_up I 0 1) 0), mv_I ((va_up I 0 1) 1), mv_R (o + 1), mv_I ((va_up I 0 1) 2), mv_R (o + 2), mv_R (o + 3), mv_R (o + 4), mv_R (o + 5), mv_R (o + 6), mv_R (o + 7), mv_I ((va_up I 0 1) 3), mv_I ((va_up I 0 1) 4), mv_I ((va_up I 0 1) 5)]) = h_3 at hV_4 fr_5 ⊢
    refine go_aload_n (q := 17) d_mo_fetch_16 rfl rfl rfl ?_
    refine go_getf (v := mv_I 1) (q := 20) f_mo_42 d_mo_fetch_17 rfl (mv_c0 hV_4) rfl ?_
    refine go_if_le (t := 25) (q := 23) d_mo_fetch_20 (by decide) rfl (by omega) (fun c6 => ?_) (fun c6 => ?_)
    ·
      exfalso; omega
    ·
      refine go_iconst (q := 24) d_mo_fetch_23 rfl ?_
      exact k0 c2 _ hV_4 fr_5
  · have c7 : (0 ≤ v ∧ v < 8) := it_eqn c1
    refine go_iconst (q := 9) d_mo_fetch_8 rfl ?_
    refine go_goto (q := 13) d_mo_fetch_9 (by decide) ?_
    refine go_putf (q := 16) (v := mv_I 0) f_mo_42 d_mo_fetch_13 rfl (mv_c0 hV) (Nat.le_of_ble_eq_true rfl) (go_fitI _) ?_
    have hV_9 := mv_u0 hV (va_up I 0 0)
    refine go_eq (h' := va_up h o (mv_O 8 [mv_I ((va_up I 0 0) 0), mv_I ((va_up I 0 0) 1), mv_R (o + 1), mv_I ((va_up I 0 0) 2), mv_R (o + 2), mv_R (o + 3), mv_R (o + 4), mv_R (o + 5), mv_R (o + 6), mv_R (o + 7), mv_I ((va_up I 0 0) 3), mv_I ((va_up I 0 0) 4), mv_I ((va_up I 0 0) 5)])) ?_
    have fr_10 : fr_ o 8 h (va_up h o (mv_O 8 [mv_I ((va_up I 0 0) 0), mv_I ((va_up I 0 0) 1), mv_R (o + 1), mv_I ((va_up I 0 0) 2), mv_R (o + 2), mv_R (o + 3), mv_R (o + 4), mv_R (o + 5), mv_R (o + 6), mv_R (o + 7), mv_I ((va_up I 0 0) 3), mv_I ((va_up I 0 0) 4), mv_I ((va_up I 0 0) 5)])) := fun z_ hz => va_up_ne _ _ (by omega)
    generalize va_up h o (mv_O 8 [mv_I ((va_up I 0 0) 0), mv_I ((va_up I 0 0) 1), mv_R (o + 1), mv_I ((va_up I 0 0) 2), mv_R (o + 2), mv_R (o + 3), mv_R (o + 4), mv_R (o + 5), mv_R (o + 6), mv_R (o + 7), mv_I ((va_up I 0 0) 3), mv_I ((va_up I 0 0) 4), mv_I ((va_up I 0 0) 5)]) = h_8 at hV_9 fr_10 ⊢
    refine go_aload_n (q := 17) d_mo_fetch_16 rfl rfl rfl ?_
    refine go_getf (v := mv_I 0) (q := 20) f_mo_42 d_mo_fetch_17 rfl (mv_c0 hV_9) rfl ?_
    refine go_if_le (t := 25) (q := 23) d_mo_fetch_20 (by decide) rfl (by omega) (fun c11 => ?_) (fun c11 => ?_)
    ·
      exact k1 c7 _ hV_9 fr_10
    ·
      exfalso; omega

set_option maxRecDepth 4000 in
theorem so_fe_25 {φ : go_F} {l : Launch} {h : mv_H} {n : Nat} {o : Nat} {I tx S ps cs bs : Nat → Int} {V : Nat → Nat} {v : Nat} (hV : mo_V h o (I, tx, S, ps, cs, bs) V) (hv : v < 8)
    (k0 : ∀ h' : mv_H, mo_V h' o (I, tx, va_up S 72 (S (64 + v)), ps, cs, bs) (va_up (va_up V (2 * 72) (V (2 * (64 + v)))) (2 * 72 + 1) (V (2 * (64 + v) + 1))) → fr_ o 8 h h' → Go φ l m_mo_fetch (go_rm rd_mo_fetch rw_mo_fetch 0 0) (0, 0) 38 [some (mv_R o), some (mv_I (v : Int))] [mv_I 72, mv_R o] h' n) :
    Go φ l m_mo_fetch (go_rm rd_mo_fetch rw_mo_fetch 0 0) (0, 0) 25 [some (mv_R o), some (mv_I (v : Int))] [] h n := by
  refine go_aload_n (q := 26) d_mo_fetch_25 rfl rfl rfl ?_
  refine go_bipush (q := 28) d_mo_fetch_26 rfl (by decide) ?_
  refine go_iload_n (q := 29) d_mo_fetch_28 rfl rfl rfl ?_
  refine go_iadd (q := 30) d_mo_fetch_29 rfl ?_
  refine go_bipush (q := 32) d_mo_fetch_30 rfl (by decide) ?_
  refine cl_copyValue (a := 64 + v) (b := 72) (q := 35) rfl d_mo_fetch_32 rfl hV (by omega) (by omega) (Nat.le_of_ble_eq_true rfl) ⟨by decide, by decide, by decide, by decide⟩ (fun h_1 hV_2 fr_3 => ?_)
  have hV_4 : mo_V h_1 o (I, tx, va_up S 72 (S (64 + v)), ps, cs, bs) (va_up (va_up V (2 * 72) (V (2 * (64 + v)))) (2 * 72 + 1) (V (2 * (64 + v) + 1))) := by
    rw [(show V (2 * (64 + v)) = V (2 * (64 + v)) from rfl), (show V (2 * (64 + v) + 1) = V (2 * (64 + v) + 1) from rfl)] at hV_2
    exact hV_2
  refine go_aload_n (q := 36) d_mo_fetch_35 rfl rfl rfl ?_
  refine go_bipush (q := 38) d_mo_fetch_36 rfl (by decide) ?_
  exact k0  _ hV_4 fr_3

set_option maxRecDepth 4000 in
theorem so_th {φ : go_F} {l : Launch} {h : mv_H} {n : Nat} {o : Nat} {I tx S ps cs bs : Nat → Int} {V : Nat → Nat}  (hV : mo_V h o (I, tx, S, ps, cs, bs) V) 
    (k0 : Go φ l m_mo_thrown (go_rm rd_mo_thrown rw_mo_thrown 0 0) (0, 0) 4 [some (mv_R o)] [mv_I (I 0)] h n) :
    Go φ l m_mo_thrown (go_rm rd_mo_thrown rw_mo_thrown 0 0) (0, 0) 0 [some (mv_R o)] [] h n := by
  refine go_aload_n (q := 1) d_mo_thrown_0 rfl rfl rfl ?_
  refine go_getf (v := mv_I (I 0)) (q := 4) f_mo_42 d_mo_thrown_1 rfl (mv_c0 hV) rfl ?_
  exact k0 

