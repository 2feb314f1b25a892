set_option maxRecDepth 4000 in
theorem so_st_0 {φ : go_F} {l : Launch} {h : mv_H} {n : Nat} {o : Nat} {I tx S ps cs bs : Nat → Int} {V : Nat → Nat} {p len k : Nat} (hV : mo_V h o (I, tx, S, ps, cs, bs) V) (hL : I 1 = (len : Int)) (hl : len ≤ 120) (hp : p ≤ len) (ht : ∀ i, 0 ≤ tx i ∧ tx i ≤ 127) (hI : I 3 = (k : Int) ∧ k ≤ 12)
    (k0 : ¬ ch_ tx len p = 40 → ch_ tx len p < 97 → ¬ ch_ tx len p = 45 → (48 ≤ ch_ tx len p ∧ ch_ tx len p ≤ 57) → Go φ l m_mo_overStart (go_rm rd_mo_overStart rw_mo_overStart 0 0) (0, 0) 125 [some (mv_R o), some (mv_I (p : Int)), some (mv_I (ch_ tx len p)), some (mv_I (p : Int))] [] h n)
    (k1 : ¬ ch_ tx len p = 40 → ch_ tx len p < 97 → ¬ ch_ tx len p = 45 → ¬ (48 ≤ ch_ tx len p ∧ ch_ tx len p ≤ 57) → Go φ l m_mo_overStart (go_rm rd_mo_overStart rw_mo_overStart 0 0) (0, 0) 124 [some (mv_R o), some (mv_I (p : Int)), some (mv_I (ch_ tx len p)), some (mv_I (p : Int))] [mv_I ((-1) - (p : Int))] h n)
    (k2 : ¬ ch_ tx len p = 40 → ch_ tx len p < 97 → ch_ tx len p = 45 → (48 ≤ ch_ tx len (p + 1) ∧ ch_ tx len (p + 1) ≤ 57) → Go φ l m_mo_overStart (go_rm rd_mo_overStart rw_mo_overStart 0 0) (0, 0) 125 [some (mv_R o), some (mv_I (p : Int)), some (mv_I (ch_ tx len p)), some (mv_I ((p : Int) + 1))] [] h n)
    (k3 : ¬ ch_ tx len p = 40 → ch_ tx len p < 97 → ch_ tx len p = 45 → ¬ (48 ≤ ch_ tx len (p + 1) ∧ ch_ tx len (p + 1) ≤ 57) → Go φ l m_mo_overStart (go_rm rd_mo_overStart rw_mo_overStart 0 0) (0, 0) 124 [some (mv_R o), some (mv_I (p : Int)), some (mv_I (ch_ tx len p)), some (mv_I ((p : Int) + 1))] [mv_I ((-1) - ((p : Int) + 1))] h n)
    (k4 : ¬ ch_ tx len p = 40 → ¬ ch_ tx len p < 97 → 104 < ch_ tx len p → ¬ ch_ tx len p = 45 → (48 ≤ ch_ tx len p ∧ ch_ tx len p ≤ 57) → Go φ l m_mo_overStart (go_rm rd_mo_overStart rw_mo_overStart 0 0) (0, 0) 125 [some (mv_R o), some (mv_I (p : Int)), some (mv_I (ch_ tx len p)), some (mv_I (p : Int))] [] h n)
    (k5 : ¬ ch_ tx len p = 40 → ¬ ch_ tx len p < 97 → 104 < ch_ tx len p → ¬ ch_ tx len p = 45 → ¬ (48 ≤ ch_ tx len p ∧ ch_ tx len p ≤ 57) → Go φ l m_mo_overStart (go_rm rd_mo_overStart rw_mo_overStart 0 0) (0, 0) 124 [some (mv_R o), some (mv_I (p : Int)), some (mv_I (ch_ tx len p)), some (mv_I (p : Int))] [mv_I ((-1) - (p : Int))] h n)
    (k6 : ¬ ch_ tx len p = 40 → ¬ ch_ tx len p < 97 → 104 < ch_ tx len p → ch_ tx len p = 45 → (48 ≤ ch_ tx len (p + 1) ∧ ch_ tx len (p + 1) ≤ 57) → Go φ l m_mo_overStart (go_rm rd_mo_overStart rw_mo_overStart 0 0) (0, 0) 125 [some (mv_R o), some (mv_I (p : Int)), some (mv_I (ch_ tx len p)), some (mv_I ((p : Int) + 1))] [] h n)
    (k7 : ¬ ch_ tx len p = 40 → ¬ ch_ tx len p < 97 → 104 < ch_ tx len p → ch_ tx len p = 45 → ¬ (48 ≤ ch_ tx len (p + 1) ∧ ch_ tx len (p + 1) ≤ 57) → Go φ l m_mo_overStart (go_rm rd_mo_overStart rw_mo_overStart 0 0) (0, 0) 124 [some (mv_R o), some (mv_I (p : Int)), some (mv_I (ch_ tx len p)), some (mv_I ((p : Int) + 1))] [mv_I ((-1) - ((p : Int) + 1))] h n)
    (k8 : ¬ ch_ tx len p = 40 → ¬ ch_ tx len p < 97 → ¬ 104 < ch_ tx len p → Go φ l m_mo_overStart (go_rm rd_mo_overStart rw_mo_overStart 0 0) (0, 0) 98 [some (mv_R o), some (mv_I (p : Int)), some (mv_I (ch_ tx len p)), none] [mv_I ((p : Int) + 1)] h n)
    (k9 : ch_ tx len p = 40 → ¬ I 3 = 12 → (0 ≤ opx_ (ch_ tx len (p + 1)) 0 13) → ∀ h' : mv_H, mo_V h' o (va_up I 3 ((I 3) + 1), tx, S, va_up ps (k + 1) (ch_ tx len (p + 1)), va_up cs (k + 1) 0, bs) (V) → fr_ o 8 h h' → Go φ l m_mo_overStart (go_rm rd_mo_overStart rw_mo_overStart 0 0) (0, 0) 82 [some (mv_R o), some (mv_I (p : Int)), some (mv_I (ch_ tx len p)), none] [mv_I ((p : Int) + 2)] h' n)
    (k10 : ch_ tx len p = 40 → ¬ I 3 = 12 → ¬ (0 ≤ opx_ (ch_ tx len (p + 1)) 0 13) → Go φ l m_mo_overStart (go_rm rd_mo_overStart rw_mo_overStart 0 0) (0, 0) 42 [some (mv_R o), some (mv_I (p : Int)), some (mv_I (ch_ tx len p)), none] [mv_I ((-2) - (p : Int))] h n)
    (k11 : ch_ tx len p = 40 → I 3 = 12 → Go φ l m_mo_overStart (go_rm rd_mo_overStart rw_mo_overStart 0 0) (0, 0) 24 [some (mv_R o), some (mv_I (p : Int)), some (mv_I (ch_ tx len p)), none] [mv_I ((-1) - (p : Int))] h n) :
    Go φ l m_mo_overStart (go_rm rd_mo_overStart rw_mo_overStart 0 0) (0, 0) 0 [some (mv_R o), some (mv_I (p : Int)), none, none] [] h n := by
  refine go_aload_n (q := 1) d_mo_overStart_0 rfl rfl rfl ?_
  refine go_iload_n (q := 2) d_mo_overStart_1 rfl rfl rfl ?_
  refine cl_charAt (p := p) (len := len) (q := 5) rfl d_mo_overStart_2 rfl hV (show I 1 = (len : Int) from hL) (by omega) (by omega) (by omega) (Nat.le_of_ble_eq_true rfl) ⟨by decide, by decide, by decide, by decide⟩ ?_
  have q_1 := ch_b ht len p
  refine go_istore_n (q := 6) (L' := [some (mv_R o), some (mv_I (p : Int)), some (mv_I (ch_ tx len p)), none]) d_mo_overStart_5 rfl rfl (by decide) rfl ?_
  refine go_iload_n (q := 7) d_mo_overStart_6 rfl rfl rfl ?_
  refine go_bipush (q := 9) d_mo_overStart_7 rfl (by decide) ?_
  refine go_icmp_ne (t := 83) (q := 12) d_mo_overStart_9 (by decide) rfl (by omega) (by omega) (fun c2 => ?_) (fun c2 => ?_)
  ·
    refine go_iload_n (q := 84) d_mo_overStart_83 rfl rfl rfl ?_
    refine go_bipush (q := 86) d_mo_overStart_84 rfl (by decide) ?_
    refine go_icmp_lt (t := 99) (q := 89) d_mo_overStart_86 (by decide) rfl (by omega) (by omega) (fun c3 => ?_) (fun c3 => ?_)
    ·
      refine go_iload_n (q := 100) d_mo_overStart_99 rfl rfl rfl ?_
      refine go_bipush (q := 102) d_mo_overStart_100 rfl (by decide) ?_
      refine go_icmp_ne (t := 111) (q := 105) d_mo_overStart_102 (by decide) rfl (by omega) (by omega) (fun c4 => ?_) (fun c4 => ?_)
      ·
        refine go_iload_n (q := 112) d_mo_overStart_111 rfl rfl rfl ?_
        refine go_istore_n (q := 113) (L' := [some (mv_R o), some (mv_I (p : Int)), some (mv_I (ch_ tx len p)), some (mv_I (p : Int))]) d_mo_overStart_112 rfl rfl (by decide) rfl ?_
        refine go_aload_n (q := 114) d_mo_overStart_113 rfl rfl rfl ?_
        refine go_iload_n (q := 115) d_mo_overStart_114 rfl rfl rfl ?_
        refine cl_isDigit (p := p) (len := len) (q := 118) rfl d_mo_overStart_115 rfl hV (show I 1 = (len : Int) from hL) (by omega) ht (by omega) (Nat.le_of_ble_eq_true rfl) ⟨by decide, by decide, by decide, by decide⟩ ?_
        refine go_if_ne (t := 125) (q := 121) d_mo_overStart_118 (by decide) rfl it_rng (fun c5 => ?_) (fun c5 => ?_)
        · have c6 : (48 ≤ ch_ tx len p ∧ ch_ tx len p ≤ 57) := it_nep c5
          exact k0 c2 c3 c4 c6
        · have c7 : ¬ (48 ≤ ch_ tx len p ∧ ch_ tx len p ≤ 57) := it_nen c5
          refine go_iconst (q := 122) d_mo_overStart_121 rfl ?_
          refine go_iload_n (q := 123) d_mo_overStart_122 rfl rfl rfl ?_
          refine go_isub (q := 124) d_mo_overStart_123 rfl ?_
          exact k1 c2 c3 c4 c7
      ·
        refine go_iload_n (q := 106) d_mo_overStart_105 rfl rfl rfl ?_
        refine go_iconst (q := 107) d_mo_overStart_106 rfl ?_
        refine go_iadd (q := 108) d_mo_overStart_107 rfl ?_
        refine go_goto (q := 112) d_mo_overStart_108 (by decide) ?_
        refine go_istore_n (q := 113) (L' := [some (mv_R o), some (mv_I (p : Int)), some (mv_I (ch_ tx len p)), some (mv_I ((p : Int) + 1))]) d_mo_overStart_112 rfl rfl (by decide) rfl ?_
        refine go_aload_n (q := 114) d_mo_overStart_113 rfl rfl rfl ?_
        refine go_iload_n (q := 115) d_mo_overStart_114 rfl rfl rfl ?_
        refine cl_isDigit (p := p + 1) (len := len) (q := 118) rfl d_mo_overStart_115 rfl hV (show I 1 = (len : Int) from hL) (by omega) ht (by omega) (Nat.le_of_ble_eq_true rfl) ⟨by decide, by decide, by decide, by decide⟩ ?_
        refine go_if_ne (t := 125) (q := 121) d_mo_overStart_118 (by decide) rfl it_rng (fun c8 => ?_) (fun c8 => ?_)
        · have c9 : (48 ≤ ch_ tx len (p + 1) ∧ ch_ tx len (p + 1) ≤ 57) := it_nep c8
          exact k2 c2 c3 c4 c9
        · have c10 : ¬ (48 ≤ ch_ tx len (p + 1) ∧ ch_ tx len (p + 1) ≤ 57) := it_nen c8
          refine go_iconst (q := 122) d_mo_overStart_121 rfl ?_
          refine go_iload_n (q := 123) d_mo_overStart_122 rfl rfl rfl ?_
          refine go_isub (q := 124) d_mo_overStart_123 rfl ?_
          exact k3 c2 c3 c4 c10
    ·
      refine go_iload_n (q := 90) d_mo_overStart_89 rfl rfl rfl ?_
      refine go_bipush (q := 92) d_mo_overStart_90 rfl (by decide) ?_
      refine go_icmp_gt (t := 99) (q := 95) d_mo_overStart_92 (by decide) rfl (by omega) (by omega) (fun c11 => ?_) (fun c11 => ?_)
      ·
        refine go_iload_n (q := 100) d_mo_overStart_99 rfl rfl rfl ?_
        refine go_bipush (q := 102) d_mo_overStart_100 rfl (by decide) ?_
        refine go_icmp_ne (t := 111) (q := 105) d_mo_overStart_102 (by decide) rfl (by omega) (by omega) (fun c12 => ?_) (fun c12 => ?_)
        ·
          refine go_iload_n (q := 112) d_mo_overStart_111 rfl rfl rfl ?_
          refine go_istore_n (q := 113) (L' := [some (mv_R o), some (mv_I (p : Int)), some (mv_I (ch_ tx len p)), some (mv_I (p : Int))]) d_mo_overStart_112 rfl rfl (by decide) rfl ?_
          refine go_aload_n (q := 114) d_mo_overStart_113 rfl rfl rfl ?_
          refine go_iload_n (q := 115) d_mo_overStart_114 rfl rfl rfl ?_
          refine cl_isDigit (p := p) (len := len) (q := 118) rfl d_mo_overStart_115 rfl hV (show I 1 = (len : Int) from hL) (by omega) ht (by omega) (Nat.le_of_ble_eq_true rfl) ⟨by decide, by decide, by decide, by decide⟩ ?_
          refine go_if_ne (t := 125) (q := 121) d_mo_overStart_118 (by decide) rfl it_rng (fun c13 => ?_) (fun c13 => ?_)
          · have c14 : (48 ≤ ch_ tx len p ∧ ch_ tx len p ≤ 57) := it_nep c13
            exact k4 c2 c3 c11 c12 c14
          · have c15 : ¬ (48 ≤ ch_ tx len p ∧ ch_ tx len p ≤ 57) := it_nen c13
            refine go_iconst (q := 122) d_mo_overStart_121 rfl ?_
            refine go_iload_n (q := 123) d_mo_overStart_122 rfl rfl rfl ?_
            refine go_isub (q := 124) d_mo_overStart_123 rfl ?_
            exact k5 c2 c3 c11 c12 c15
        ·
          refine go_iload_n (q := 106) d_mo_overStart_105 rfl rfl rfl ?_
          refine go_iconst (q := 107) d_mo_overStart_106 rfl ?_
          refine go_iadd (q := 108) d_mo_overStart_107 rfl ?_
          refine go_goto (q := 112) d_mo_overStart_108 (by decide) ?_
          refine go_istore_n (q := 113) (L' := [some (mv_R o), some (mv_I (p : Int)), some (mv_I (ch_ tx len p)), some (mv_I ((p : Int) + 1))]) d_mo_overStart_112 rfl rfl (by decide) rfl ?_
          refine go_aload_n (q := 114) d_mo_overStart_113 rfl rfl rfl ?_
          refine go_iload_n (q := 115) d_mo_overStart_114 rfl rfl rfl ?_
          refine cl_isDigit (p := p + 1) (len := len) (q := 118) rfl d_mo_overStart_115 rfl hV (show I 1 = (len : Int) from hL) (by omega) ht (by omega) (Nat.le_of_ble_eq_true rfl) ⟨by decide, by decide, by decide, by decide⟩ ?_
          refine go_if_ne (t := 125) (q := 121) d_mo_overStart_118 (by decide) rfl it_rng (fun c16 => ?_) (fun c16 => ?_)
          · have c17 : (48 ≤ ch_ tx len (p + 1) ∧ ch_ tx len (p + 1) ≤ 57) := it_nep c16
            exact k6 c2 c3 c11 c12 c17
          · have c18 : ¬ (48 ≤ ch_ tx len (p + 1) ∧ ch_ tx len (p + 1) ≤ 57) := it_nen c16
            refine go_iconst (q := 122) d_mo_overStart_121 rfl ?_
            refine go_iload_n (q := 123) d_mo_overStart_122 rfl rfl rfl ?_
            refine go_isub (q := 124) d_mo_overStart_123 rfl ?_
            exact k7 c2 c3 c11 c12 c18
      ·
        refine go_iload_n (q := 96) d_mo_overStart_95 rfl rfl rfl ?_
        refine go_iconst (q := 97) d_mo_overStart_96 rfl ?_
        refine go_iadd (q := 98) d_mo_overStart_97 rfl ?_
        exact k8 c2 c3 c11
  ·
    refine go_aload_n (q := 13) d_mo_overStart_12 rfl rfl rfl ?_
    refine go_getf (v := mv_I (I 3)) (q := 16) f_mo_103 d_mo_overStart_13 rfl (mv_c0 hV) rfl ?_
    refine go_bipush (q := 18) d_mo_overStart_16 rfl (by decide) ?_
    refine go_icmp_ne (t := 25) (q := 21) d_mo_overStart_18 (by decide) rfl (by omega) (by omega) (fun c19 => ?_) (fun c19 => ?_)
    ·
      refine go_aload_n (q := 26) d_mo_overStart_25 rfl rfl rfl ?_
      refine go_iload_n (q := 27) d_mo_overStart_26 rfl rfl rfl ?_
      refine go_iconst (q := 28) d_mo_overStart_27 rfl ?_
      refine go_iadd (q := 29) d_mo_overStart_28 rfl ?_
      refine cl_charAt (p := p + 1) (len := len) (q := 32) rfl d_mo_overStart_29 rfl hV (show I 1 = (len : Int) from hL) (by omega) (by omega) (by omega) (Nat.le_of_ble_eq_true rfl) ⟨by decide, by decide, by decide, by decide⟩ ?_
      have q_20 := ch_b ht len (p + 1)
      refine cl_isOp (c := ch_ tx len (p + 1)) (q := 35) rfl d_mo_overStart_32 rfl (by omega) (Nat.le_of_ble_eq_true rfl) ⟨by decide, by decide, by decide, by decide⟩ ?_
      refine go_if_ne (t := 43) (q := 38) d_mo_overStart_35 (by decide) rfl it_rng (fun c21 => ?_) (fun c21 => ?_)
      · have c22 : (0 ≤ opx_ (ch_ tx len (p + 1)) 0 13) := it_nep c21
        refine go_aload_n (q := 44) d_mo_overStart_43 rfl rfl rfl ?_
        refine go_aload_n (q := 45) d_mo_overStart_44 rfl rfl rfl ?_
        refine go_getf (v := mv_I (I 3)) (q := 48) f_mo_103 d_mo_overStart_45 rfl (mv_c0 hV) rfl ?_
        refine go_iconst (q := 49) d_mo_overStart_48 rfl ?_
        refine go_iadd (q := 50) d_mo_overStart_49 rfl ?_
        refine go_putf (q := 53) (v := mv_I ((I 3) + 1)) f_mo_103 d_mo_overStart_50 rfl (mv_c0 hV) (Nat.le_of_ble_eq_true rfl) (go_fitI _) ?_
        have hV_24 := mv_u0 hV (va_up I 3 ((I 3) + 1))
        refine go_eq (h' := va_up h o (mv_O 8 [mv_I ((va_up I 3 ((I 3) + 1)) 0), mv_I ((va_up I 3 ((I 3) + 1)) 1), mv_R (o + 1), mv_I ((va_up I 3 ((I 3) + 1)) 2), mv_R (o + 2), mv_R (o + 3), mv_R (o + 4), mv_R (o + 5), mv_R (o + 6), mv_R (o + 7), mv_I ((va_up I 3 ((I 3) + 1)) 3), mv_I ((va_up I 3 ((I 3) + 1)) 4), mv_I ((va_up I 3 ((I 3) + 1)) 5)])) ?_
        have fr_25 : fr_ o 8 h (va_up h o (mv_O 8 [mv_I ((va_up I 3 ((I 3) + 1)) 0), mv_I ((va_up I 3 ((I 3) + 1)) 1), mv_R (o + 1), mv_I ((va_up I 3 ((I 3) + 1)) 2), mv_R (o + 2), mv_R (o + 3), mv_R (o + 4), mv_R (o + 5), mv_R (o + 6), mv_R (o + 7), mv_I ((va_up I 3 ((I 3) + 1)) 3), mv_I ((va_up I 3 ((I 3) + 1)) 4), mv_I ((va_up I 3 ((I 3) + 1)) 5)])) := fun z_ hz => va_up_ne _ _ (by omega)
        generalize va_up h o (mv_O 8 [mv_I ((va_up I 3 ((I 3) + 1)) 0), mv_I ((va_up I 3 ((I 3) + 1)) 1), mv_R (o + 1), mv_I ((va_up I 3 ((I 3) + 1)) 2), mv_R (o + 2), mv_R (o + 3), mv_R (o + 4), mv_R (o + 5), mv_R (o + 6), mv_R (o + 7), mv_I ((va_up I 3 ((I 3) + 1)) 3), mv_I ((va_up I 3 ((I 3) + 1)) 4), mv_I ((va_up I 3 ((I 3) + 1)) 5)]) = h_23 at hV_24 fr_25 ⊢
        refine go_aload_n (q := 54) d_mo_overStart_53 rfl rfl rfl ?_
        refine go_getf (v := mv_R (o + 5)) (q := 57) f_mo_26 d_mo_overStart_54 rfl (mv_c0 hV_24) rfl ?_
        refine go_aload_n (q := 58) d_mo_overStart_57 rfl rfl rfl ?_
        refine go_getf (v := mv_I ((I 3) + 1)) (q := 61) f_mo_103 d_mo_overStart_58 rfl (mv_c0 hV_24) rfl ?_
        refine go_aload_n (q := 62) d_mo_overStart_61 rfl rfl rfl ?_
        refine go_iload_n (q := 63) d_mo_overStart_62 rfl rfl rfl ?_
        refine go_iconst (q := 64) d_mo_overStart_63 rfl ?_
        refine go_iadd (q := 65) d_mo_overStart_64 rfl ?_
        refine cl_charAt (p := p + 1) (len := len) (q := 68) rfl d_mo_overStart_65 rfl hV_24 (show (va_up I 3 ((I 3) + 1)) 1 = (len : Int) from hL) (by omega) (by omega) (by omega) (Nat.le_of_ble_eq_true rfl) ⟨by decide, by decide, by decide, by decide⟩ ?_
        have q_26 := ch_b ht len (p + 1)
        refine go_iast (i := k + 1) (q := 69) d_mo_overStart_68 rfl (mv_c5 hV_24) (by omega) (by omega) (by omega) ?_
        have hV_28 := mv_u5 hV_24 (va_up ps (k + 1) (ch_ tx len (p + 1)))
        have fr_29 : fr_ o 8 h_23 (va_up h_23 (o + 5) (mv_A 0 13 (va_up ps (k + 1) (ch_ tx len (p + 1))))) := fun z_ hz => va_up_ne _ _ (by omega)
        generalize va_up h_23 (o + 5) (mv_A 0 13 (va_up ps (k + 1) (ch_ tx len (p + 1)))) = h_27 at hV_28 fr_29 ⊢
        refine go_aload_n (q := 70) d_mo_overStart_69 rfl rfl rfl ?_
        refine go_getf (v := mv_R (o + 6)) (q := 73) f_mo_29 d_mo_overStart_70 rfl (mv_c0 hV_28) rfl ?_
        refine go_aload_n (q := 74) d_mo_overStart_73 rfl rfl rfl ?_
        refine go_getf (v := mv_I ((I 3) + 1)) (q := 77) f_mo_103 d_mo_overStart_74 rfl (mv_c0 hV_28) rfl ?_
        refine go_iconst (q := 78) d_mo_overStart_77 rfl ?_
        refine go_iast (i := k + 1) (q := 79) d_mo_overStart_78 rfl (mv_c6 hV_28) (by omega) (by omega) (by omega) ?_
        have hV_31 := mv_u6 hV_28 (va_up cs (k + 1) 0)
        have fr_32 : fr_ o 8 h_27 (va_up h_27 (o + 6) (mv_A 0 13 (va_up cs (k + 1) 0))) := fun z_ hz => va_up_ne _ _ (by omega)
        generalize va_up h_27 (o + 6) (mv_A 0 13 (va_up cs (k + 1) 0)) = h_30 at hV_31 fr_32 ⊢
        refine go_iload_n (q := 80) d_mo_overStart_79 rfl rfl rfl ?_
        refine go_iconst (q := 81) d_mo_overStart_80 rfl ?_
        refine go_iadd (q := 82) d_mo_overStart_81 rfl ?_
        exact k9 c2 c19 c22 _ hV_31 (fr_.tr (fr_.tr fr_25 fr_29) fr_32)
      · have c33 : ¬ (0 ≤ opx_ (ch_ tx len (p + 1)) 0 13) := it_nen c21
        refine go_bipush (q := 40) d_mo_overStart_38 rfl (by decide) ?_
        refine go_iload_n (q := 41) d_mo_overStart_40 rfl rfl rfl ?_
        refine go_isub (q := 42) d_mo_overStart_41 rfl ?_
        exact k10 c2 c19 c33
    ·
      refine go_iconst (q := 22) d_mo_overStart_21 rfl ?_
      refine go_iload_n (q := 23) d_mo_overStart_22 rfl rfl rfl ?_
      refine go_isub (q := 24) d_mo_overStart_23 rfl ?_
      exact k11 c2 c19

set_option maxRecDepth 4000 in
theorem so_st_125 {φ : go_F} {l : Launch} {h : mv_H} {n : Nat} {o : Nat} {I tx S ps cs bs : Nat → Int} {V : Nat → Nat} {p a len : Nat} {c : Int} (hV : mo_V h o (I, tx, S, ps, cs, bs) V) (hL : I 1 = (len : Int)) (hl : len ≤ 120) (ha : a ≤ len) (ht : ∀ i, 0 ≤ tx i ∧ tx i ≤ 127)
    (k0 : ¬ (48 ≤ ch_ tx len a ∧ ch_ tx len a ≤ 57) → Go φ l m_mo_overStart (go_rm rd_mo_overStart rw_mo_overStart 0 0) (0, 0) 141 [some (mv_R o), some (mv_I (p : Int)), some (mv_I c), some (mv_I (a : Int))] [mv_I (a : Int)] h n)
    (k1 : (48 ≤ ch_ tx len a ∧ ch_ tx len a ≤ 57) → Go φ l m_mo_overStart (go_rm rd_mo_overStart rw_mo_overStart 0 0) (0, 0) 125 [some (mv_R o), some (mv_I (p : Int)), some (mv_I c), some (mv_I ((a : Int) + 1))] [] h n) :
    Go φ l m_mo_overStart (go_rm rd_mo_overStart rw_mo_overStart 0 0) (0, 0) 125 [some (mv_R o), some (mv_I (p : Int)), some (mv_I c), some (mv_I (a : Int))] [] h n := by
  refine go_aload_n (q := 126) d_mo_overStart_125 rfl rfl rfl ?_
  refine go_iload_n (q := 127) d_mo_overStart_126 rfl rfl rfl ?_
  refine cl_isDigit (p := a) (len := len) (q := 130) rfl d_mo_overStart_127 rfl hV (show I 1 = (len : Int) from hL) (by omega) ht (by omega) (Nat.le_of_ble_eq_true rfl) ⟨by decide, by decide, by decide, by decide⟩ ?_
  refine go_if_eq (t := 140) (q := 133) d_mo_overStart_130 (by decide) rfl it_rng (fun c1 => ?_) (fun c1 => ?_)
  · have c2 : ¬ (48 ≤ ch_ tx len a ∧ ch_ tx len a ≤ 57) := it_eqp c1
    refine go_iload_n (q := 141) d_mo_overStart_140 rfl rfl rfl ?_
    exact k0 c2
  · have c3 : (48 ≤ ch_ tx len a ∧ ch_ tx len a ≤ 57) := it_eqn c1
    refine go_iload_n (q := 134) d_mo_overStart_133 rfl rfl rfl ?_
    refine go_iconst (q := 135) d_mo_overStart_134 rfl ?_
    refine go_iadd (q := 136) d_mo_overStart_135 rfl ?_
    refine go_istore_n (q := 137) (L' := [some (mv_R o), some (mv_I (p : Int)), some (mv_I c), some (mv_I ((a : Int) + 1))]) d_mo_overStart_136 rfl rfl (by decide) rfl ?_
    refine go_goto (q := 125) d_mo_overStart_137 (by decide) ?_
    exact k1 c3

set_option maxRecDepth 4000 in
theorem so_en_0 {φ : go_F} {l : Launch} {h : mv_H} {n : Nat} {o : Nat} {I tx S ps cs bs : Nat → Int} {V : Nat → Nat} {p : Nat} (hV : mo_V h o (I, tx, S, ps, cs, bs) V) 
    (k0 : Go φ l m_mo_overEnds (go_rm rd_mo_overEnds rw_mo_overEnds 0 0) (0, 0) 2 [some (mv_R o), some (mv_I (p : Int)), some (mv_I (p : Int))] [] h n) :
    Go φ l m_mo_overEnds (go_rm rd_mo_overEnds rw_mo_overEnds 0 0) (0, 0) 0 [some (mv_R o), some (mv_I (p : Int)), none] [] h n := by
  refine go_iload_n (q := 1) d_mo_overEnds_0 rfl rfl rfl ?_
  refine go_istore_n (q := 2) (L' := [some (mv_R o), some (mv_I (p : Int)), some (mv_I (p : Int))]) d_mo_overEnds_1 rfl rfl (by decide) rfl ?_
  exact k0 

set_option maxRecDepth 4000 in
theorem so_en_2 {φ : go_F} {l : Launch} {h : mv_H} {n : Nat} {o : Nat} {I tx S ps cs bs : Nat → Int} {V : Nat → Nat} {p a len k : Nat} (hV : mo_V h o (I, tx, S, ps, cs, bs) V) (hL : I 1 = (len : Int)) (hl : len ≤ 120) (ha : a ≤ len) (ht : ∀ i, 0 ≤ tx i ∧ tx i ≤ 127) (hI : I 3 = (k : Int) ∧ k ≤ 12) (hps : ∀ i, 0 ≤ ps i ∧ ps i ≤ 127) (hcs : ∀ i, 0 ≤ cs i ∧ cs i ≤ 120)
    (k0 : I 3 ≤ 0 → Go φ l m_mo_overEnds (go_rm rd_mo_overEnds rw_mo_overEnds 0 0) (0, 0) 64 [some (mv_R o), some (mv_I (p : Int)), some (mv_I (a : Int))] [] h n)
    (k1 : ¬ I 3 ≤ 0 → ¬ ch_ tx len a = 41 → Go φ l m_mo_overEnds (go_rm rd_mo_overEnds rw_mo_overEnds 0 0) (0, 0) 64 [some (mv_R o), some (mv_I (p : Int)), some (mv_I (a : Int))] [] h n)
    (k2 : ¬ I 3 ≤ 0 → ch_ tx len a = 41 → ls_ (ps k) ≤ cs k → ∀ h' : mv_H, mo_V h' o (va_up I 3 ((I 3) - 1), tx, S, ps, cs, bs) (V) → fr_ o 8 h h' → Go φ l m_mo_overEnds (go_rm rd_mo_overEnds rw_mo_overEnds 0 0) (0, 0) 2 [some (mv_R o), some (mv_I (p : Int)), some (mv_I ((a : Int) + 1))] [] h' n)
    (k3 : ¬ I 3 ≤ 0 → ch_ tx len a = 41 → ¬ ls_ (ps k) ≤ cs k → Go φ l m_mo_overEnds (go_rm rd_mo_overEnds rw_mo_overEnds 0 0) (0, 0) 46 [some (mv_R o), some (mv_I (p : Int)), some (mv_I (a : Int))] [mv_I ((-1) - (a : Int))] h n) :
    Go φ l m_mo_overEnds (go_rm rd_mo_overEnds rw_mo_overEnds 0 0) (0, 0) 2 [some (mv_R o), some (mv_I (p : Int)), some (mv_I (a : Int))] [] h n := by
  refine go_aload_n (q := 3) d_mo_overEnds_2 rfl rfl rfl ?_
  refine go_getf (v := mv_I (I 3)) (q := 6) f_mo_103 d_mo_overEnds_3 rfl (mv_c0 hV) rfl ?_
  refine go_if_le (t := 64) (q := 9) d_mo_overEnds_6 (by decide) rfl (by omega) (fun c1 => ?_) (fun c1 => ?_)
  ·
    exact k0 c1
  ·
    refine go_aload_n (q := 10) d_mo_overEnds_9 rfl rfl rfl ?_
    refine go_iload_n (q := 11) d_mo_overEnds_10 rfl rfl rfl ?_
    refine cl_charAt (p := a) (len := len) (q := 14) rfl d_mo_overEnds_11 rfl hV (show I 1 = (len : Int) from hL) (by omega) (by omega) (by omega) (Nat.le_of_ble_eq_true rfl) ⟨by decide, by decide, by decide, by decide⟩ ?_
    have q_2 := ch_b ht len a
    refine go_bipush (q := 16) d_mo_overEnds_14 rfl (by decide) ?_
    refine go_icmp_ne (t := 64) (q := 19) d_mo_overEnds_16 (by decide) rfl (by omega) (by omega) (fun c3 => ?_) (fun c3 => ?_)
    ·
      exact k1 c1 c3
    ·
      refine go_aload_n (q := 20) d_mo_overEnds_19 rfl rfl rfl ?_
      refine go_getf (v := mv_R (o + 6)) (q := 23) f_mo_29 d_mo_overEnds_20 rfl (mv_c0 hV) rfl ?_
      refine go_aload_n (q := 24) d_mo_overEnds_23 rfl rfl rfl ?_
      refine go_getf (v := mv_I (I 3)) (q := 27) f_mo_103 d_mo_overEnds_24 rfl (mv_c0 hV) rfl ?_
      refine go_iald (i := k) (q := 28) d_mo_overEnds_27 rfl (mv_c6 hV) (by omega) (by omega) (by omega) ?_
      have q_4 := hcs k
      refine go_aload_n (q := 29) d_mo_overEnds_28 rfl rfl rfl ?_
      refine go_getf (v := mv_R (o + 5)) (q := 32) f_mo_26 d_mo_overEnds_29 rfl (mv_c0 hV) rfl ?_
      refine go_aload_n (q := 33) d_mo_overEnds_32 rfl rfl rfl ?_
      refine go_getf (v := mv_I (I 3)) (q := 36) f_mo_103 d_mo_overEnds_33 rfl (mv_c0 hV) rfl ?_
      refine go_iald (i := k) (q := 37) d_mo_overEnds_36 rfl (mv_c5 hV) (by omega) (by omega) (by omega) ?_
      have q_5 := hps k
      refine cl_least (c := ps k) (q := 40) rfl d_mo_overEnds_37 rfl (by omega) (Nat.le_of_ble_eq_true rfl) ⟨by decide, by decide, by decide, by decide⟩ ?_
      have q_6 := ls_b (ps k)
      refine go_icmp_ge (t := 47) (q := 43) d_mo_overEnds_40 (by decide) rfl (by omega) (by omega) (fun c7 => ?_) (fun c7 => ?_)
      ·
        refine go_aload_n (q := 48) d_mo_overEnds_47 rfl rfl rfl ?_
        refine go_aload_n (q := 49) d_mo_overEnds_48 rfl rfl rfl ?_
        refine go_getf (v := mv_I (I 3)) (q := 52) f_mo_103 d_mo_overEnds_49 rfl (mv_c0 hV) rfl ?_
        refine go_iconst (q := 53) d_mo_overEnds_52 rfl ?_
        refine go_isub (q := 54) d_mo_overEnds_53 rfl ?_
        refine go_putf (q := 57) (v := mv_I ((I 3) - 1)) f_mo_103 d_mo_overEnds_54 rfl (mv_c0 hV) (Nat.le_of_ble_eq_true rfl) (go_fitI _) ?_
        have hV_9 := mv_u0 hV (va_up I 3 ((I 3) - 1))
        refine go_eq (h' := va_up h o (mv_O 8 [mv_I ((va_up I 3 ((I 3) - 1)) 0), mv_I ((va_up I 3 ((I 3) - 1)) 1), mv_R (o + 1), mv_I ((va_up I 3 ((I 3) - 1)) 2), mv_R (o + 2), mv_R (o + 3), mv_R (o + 4), mv_R (o + 5), mv_R (o + 6), mv_R (o + 7), mv_I ((va_up I 3 ((I 3) - 1)) 3), mv_I ((va_up I 3 ((I 3) - 1)) 4), mv_I ((va_up I 3 ((I 3) - 1)) 5)])) ?_
        have fr_10 : fr_ o 8 h (va_up h o (mv_O 8 [mv_I ((va_up I 3 ((I 3) - 1)) 0), mv_I ((va_up I 3 ((I 3) - 1)) 1), mv_R (o + 1), mv_I ((va_up I 3 ((I 3) - 1)) 2), mv_R (o + 2), mv_R (o + 3), mv_R (o + 4), mv_R (o + 5), mv_R (o + 6), mv_R (o + 7), mv_I ((va_up I 3 ((I 3) - 1)) 3), mv_I ((va_up I 3 ((I 3) - 1)) 4), mv_I ((va_up I 3 ((I 3) - 1)) 5)])) := fun z_ hz => va_up_ne _ _ (by omega)
        generalize va_up h o (mv_O 8 [mv_I ((va_up I 3 ((I 3) - 1)) 0), mv_I ((va_up I 3 ((I 3) - 1)) 1), mv_R (o + 1), mv_I ((va_up I 3 ((I 3) - 1)) 2), mv_R (o + 2), mv_R (o + 3), mv_R (o + 4), mv_R (o + 5), mv_R (o + 6), mv_R (o + 7), mv_I ((va_up I 3 ((I 3) - 1)) 3), mv_I ((va_up I 3 ((I 3) - 1)) 4), mv_I ((va_up I 3 ((I 3) - 1)) 5)]) = h_8 at hV_9 fr_10 ⊢
        refine go_iload_n (q := 58) d_mo_overEnds_57 rfl rfl rfl ?_
        refine go_iconst (q := 59) d_mo_overEnds_58 rfl ?_
        refine go_iadd (q := 60) d_mo_overEnds_59 rfl ?_
        refine go_istore_n (q := 61) (L' := [some (mv_R o), some (mv_I (p : Int)), some (mv_I ((a : Int) + 1))]) d_mo_overEnds_60 rfl rfl (by decide) rfl ?_
        refine go_goto (q := 2) d_mo_overEnds_61 (by decide) ?_
        exact k2 c1 c3 c7 _ hV_9 fr_10
      ·
        refine go_iconst (q := 44) d_mo_overEnds_43 rfl ?_
        refine go_iload_n (q := 45) d_mo_overEnds_44 rfl rfl rfl ?_
        refine go_isub (q := 46) d_mo_overEnds_45 rfl ?_
        exact k3 c1 c3 c7

set_option maxRecDepth 4000 in
theorem so_en_64 {φ : go_F} {l : Launch} {h : mv_H} {n : Nat} {o : Nat} {I tx S ps cs bs : Nat → Int} {V : Nat → Nat} {p a len k : Nat} (hV : mo_V h o (I, tx, S, ps, cs, bs) V) (hL : I 1 = (len : Int)) (hl : len ≤ 120) (ha : a ≤ len) (ht : ∀ i, 0 ≤ tx i ∧ tx i ≤ 127) (hI : I 3 = (k : Int) ∧ k ≤ 12) (hps : ∀ i, 0 ≤ ps i ∧ ps i ≤ 127) (hcs : ∀ i, 0 ≤ cs i ∧ cs i ≤ 120)
    (k0 : ¬ I 3 = 0 → ¬ ch_ tx len a = 32 → Go φ l m_mo_overEnds (go_rm rd_mo_overEnds rw_mo_overEnds 0 0) (0, 0) 126 [some (mv_R o), some (mv_I (p : Int)), some (mv_I (a : Int))] [mv_I ((-1) - (a : Int))] h n)
    (k1 : ¬ I 3 = 0 → ch_ tx len a = 32 → ¬ cs k = ms_ (ps k) → ∀ h' : mv_H, mo_V h' o (I, tx, S, ps, va_up cs k ((cs k) + 1), bs) (V) → fr_ o 8 h h' → Go φ l m_mo_overEnds (go_rm rd_mo_overEnds rw_mo_overEnds 0 0) (0, 0) 150 [some (mv_R o), some (mv_I (p : Int)), some (mv_I (a : Int))] [mv_I ((a : Int) + 1)] h' n)
    (k2 : ¬ I 3 = 0 → ch_ tx len a = 32 → cs k = ms_ (ps k) → Go φ l m_mo_overEnds (go_rm rd_mo_overEnds rw_mo_overEnds 0 0) (0, 0) 126 [some (mv_R o), some (mv_I (p : Int)), some (mv_I (a : Int))] [mv_I ((-1) - (a : Int))] h n)
    (k3 : I 3 = 0 → ¬ (a : Int) = I 1 → Go φ l m_mo_overEnds (go_rm rd_mo_overEnds rw_mo_overEnds 0 0) (0, 0) 88 [some (mv_R o), some (mv_I (p : Int)), some (mv_I (a : Int))] [mv_I ((-1) - (a : Int))] h n)
    (k4 : I 3 = 0 → (a : Int) = I 1 → Go φ l m_mo_overEnds (go_rm rd_mo_overEnds rw_mo_overEnds 0 0) (0, 0) 88 [some (mv_R o), some (mv_I (p : Int)), some (mv_I (a : Int))] [mv_I 1000] h n) :
    Go φ l m_mo_overEnds (go_rm rd_mo_overEnds rw_mo_overEnds 0 0) (0, 0) 64 [some (mv_R o), some (mv_I (p : Int)), some (mv_I (a : Int))] [] h n := by
  refine go_aload_n (q := 65) d_mo_overEnds_64 rfl rfl rfl ?_
  refine go_getf (v := mv_I (I 3)) (q := 68) f_mo_103 d_mo_overEnds_65 rfl (mv_c0 hV) rfl ?_
  refine go_if_ne (t := 89) (q := 71) d_mo_overEnds_68 (by decide) rfl (by omega) (fun c1 => ?_) (fun c1 => ?_)
  ·
    refine go_aload_n (q := 90) d_mo_overEnds_89 rfl rfl rfl ?_
    refine go_iload_n (q := 91) d_mo_overEnds_90 rfl rfl rfl ?_
    refine cl_charAt (p := a) (len := len) (q := 94) rfl d_mo_overEnds_91 rfl hV (show I 1 = (len : Int) from hL) (by omega) (by omega) (by omega) (Nat.le_of_ble_eq_true rfl) ⟨by decide, by decide, by decide, by decide⟩ ?_
    have q_2 := ch_b ht len a
    refine go_bipush (q := 96) d_mo_overEnds_94 rfl (by decide) ?_
    refine go_icmp_ne (t := 123) (q := 99) d_mo_overEnds_96 (by decide) rfl (by omega) (by omega) (fun c3 => ?_) (fun c3 => ?_)
    ·
      refine go_iconst (q := 124) d_mo_overEnds_123 rfl ?_
      refine go_iload_n (q := 125) d_mo_overEnds_124 rfl rfl rfl ?_
      refine go_isub (q := 126) d_mo_overEnds_125 rfl ?_
      exact k0 c1 c3
    ·
      refine go_aload_n (q := 100) d_mo_overEnds_99 rfl rfl rfl ?_
      refine go_getf (v := mv_R (o + 6)) (q := 103) f_mo_29 d_mo_overEnds_100 rfl (mv_c0 hV) rfl ?_
      refine go_aload_n (q := 104) d_mo_overEnds_103 rfl rfl rfl ?_
      refine go_getf (v := mv_I (I 3)) (q := 107) f_mo_103 d_mo_overEnds_104 rfl (mv_c0 hV) rfl ?_
      refine go_iald (i := k) (q := 108) d_mo_overEnds_107 rfl (mv_c6 hV) (by omega) (by omega) (by omega) ?_
      have q_4 := hcs k
      refine go_aload_n (q := 109) d_mo_overEnds_108 rfl rfl rfl ?_
      refine go_getf (v := mv_R (o + 5)) (q := 112) f_mo_26 d_mo_overEnds_109 rfl (mv_c0 hV) rfl ?_
      refine go_aload_n (q := 113) d_mo_overEnds_112 rfl rfl rfl ?_
      refine go_getf (v := mv_I (I 3)) (q := 116) f_mo_103 d_mo_overEnds_113 rfl (mv_c0 hV) rfl ?_
      refine go_iald (i := k) (q := 117) d_mo_overEnds_116 rfl (mv_c5 hV) (by omega) (by omega) (by omega) ?_
      have q_5 := hps k
      refine cl_most (c := ps k) (q := 120) rfl d_mo_overEnds_117 rfl (by omega) (Nat.le_of_ble_eq_true rfl) ⟨by decide, by decide, by decide, by decide⟩ ?_
      have q_6 := ms_b (ps k)
      refine go_icmp_ne (t := 127) (q := 123) d_mo_overEnds_120 (by decide) rfl (by omega) (by omega) (fun c7 => ?_) (fun c7 => ?_)
      ·
        refine go_aload_n (q := 128) d_mo_overEnds_127 rfl rfl rfl ?_
        refine go_getf (v := mv_R (o + 6)) (q := 131) f_mo_29 d_mo_overEnds_128 rfl (mv_c0 hV) rfl ?_
        refine go_aload_n (q := 132) d_mo_overEnds_131 rfl rfl rfl ?_
        refine go_getf (v := mv_I (I 3)) (q := 135) f_mo_103 d_mo_overEnds_132 rfl (mv_c0 hV) rfl ?_
        refine go_aload_n (q := 136) d_mo_overEnds_135 rfl rfl rfl ?_
        refine go_getf (v := mv_R (o + 6)) (q := 139) f_mo_29 d_mo_overEnds_136 rfl (mv_c0 hV) rfl ?_
        refine go_aload_n (q := 140) d_mo_overEnds_139 rfl rfl rfl ?_
        refine go_getf (v := mv_I (I 3)) (q := 143) f_mo_103 d_mo_overEnds_140 rfl (mv_c0 hV) rfl ?_
        refine go_iald (i := k) (q := 144) d_mo_overEnds_143 rfl (mv_c6 hV) (by omega) (by omega) (by omega) ?_
        have q_8 := hcs k
        refine go_iconst (q := 145) d_mo_overEnds_144 rfl ?_
        refine go_iadd (q := 146) d_mo_overEnds_145 rfl ?_
        refine go_iast (i := k) (q := 147) d_mo_overEnds_146 rfl (mv_c6 hV) (by omega) (by omega) (by omega) ?_
        have hV_10 := mv_u6 hV (va_up cs k ((cs k) + 1))
        have fr_11 : fr_ o 8 h (va_up h (o + 6) (mv_A 0 13 (va_up cs k ((cs k) + 1)))) := fun z_ hz => va_up_ne _ _ (by omega)
        generalize va_up h (o + 6) (mv_A 0 13 (va_up cs k ((cs k) + 1))) = h_9 at hV_10 fr_11 ⊢
        refine go_iload_n (q := 148) d_mo_overEnds_147 rfl rfl rfl ?_
        refine go_iconst (q := 149) d_mo_overEnds_148 rfl ?_
        refine go_iadd (q := 150) d_mo_overEnds_149 rfl ?_
        exact k1 c1 c3 c7 _ hV_10 fr_11
      ·
        refine go_iconst (q := 124) d_mo_overEnds_123 rfl ?_
        refine go_iload_n (q := 125) d_mo_overEnds_124 rfl rfl rfl ?_
        refine go_isub (q := 126) d_mo_overEnds_125 rfl ?_
        exact k2 c1 c3 c7
  ·
    refine go_iload_n (q := 72) d_mo_overEnds_71 rfl rfl rfl ?_
    refine go_aload_n (q := 73) d_mo_overEnds_72 rfl rfl rfl ?_
    refine go_getf (v := mv_I (I 1)) (q := 76) f_mo_93 d_mo_overEnds_73 rfl (mv_c0 hV) rfl ?_
    refine go_icmp_ne (t := 85) (q := 79) d_mo_overEnds_76 (by decide) rfl (by omega) (by omega) (fun c12 => ?_) (fun c12 => ?_)
    ·
      refine go_iconst (q := 86) d_mo_overEnds_85 rfl ?_
      refine go_iload_n (q := 87) d_mo_overEnds_86 rfl rfl rfl ?_
      refine go_isub (q := 88) d_mo_overEnds_87 rfl ?_
      exact k3 c1 c12
    ·
      refine go_sipush (q := 82) d_mo_overEnds_79 rfl (by decide) ?_
      refine go_goto (q := 88) d_mo_overEnds_82 (by decide) ?_
      exact k4 c1 c12

set_option maxRecDepth 4000 in
theorem so_fo_0 {φ : go_F} {l : Launch} {h : mv_H} {n : Nat} {o : Nat} {I tx S ps cs bs : Nat → Int} {V : Nat → Nat}  (hV : mo_V h o (I, tx, S, ps, cs, bs) V) 
    (k0 : ∀ h' : mv_H, mo_V h' o (va_up I 3 0, tx, S, ps, cs, bs) (V) → fr_ o 8 h h' → Go φ l m_mo_faultOf (go_rm rd_mo_faultOf rw_mo_faultOf 0 0) (0, 0) 7 [some (mv_R o), some (mv_I 0)] [] h' n) :
    Go φ l m_mo_faultOf (go_rm rd_mo_faultOf rw_mo_faultOf 0 0) (0, 0) 0 [some (mv_R o), none] [] h n := by
  refine go_aload_n (q := 1) d_mo_faultOf_0 rfl rfl rfl ?_
  refine go_iconst (q := 2) d_mo_faultOf_1 rfl ?_
  refine go_putf (q := 5) (v := mv_I 0) f_mo_103 d_mo_faultOf_2 rfl (mv_c0 hV) (Nat.le_of_ble_eq_true rfl) (go_fitI _) ?_
  have hV_2 := mv_u0 hV (va_up I 3 0)
  refine go_eq (h' := va_up h o (mv_O 8 [mv_I ((va_up I 3 0) 0), mv_I ((va_up I 3 0) 1), mv_R (o + 1), mv_I ((va_up I 3 0) 2), mv_R (o + 2), mv_R (o + 3), mv_R (o + 4), mv_R (o + 5), mv_R (o + 6), mv_R (o + 7), mv_I ((va_up I 3 0) 3), mv_I ((va_up I 3 0) 4), mv_I ((va_up I 3 0) 5)])) ?_
  have fr_3 : fr_ o 8 h (va_up h o (mv_O 8 [mv_I ((va_up I 3 0) 0), mv_I ((va_up I 3 0) 1), mv_R (o + 1), mv_I ((va_up I 3 0) 2), mv_R (o + 2), mv_R (o + 3), mv_R (o + 4), mv_R (o + 5), mv_R (o + 6), mv_R (o + 7), mv_I ((va_up I 3 0) 3), mv_I ((va_up I 3 0) 4), mv_I ((va_up I 3 0) 5)])) := fun z_ hz => va_up_ne _ _ (by omega)
  generalize va_up h o (mv_O 8 [mv_I ((va_up I 3 0) 0), mv_I ((va_up I 3 0) 1), mv_R (o + 1), mv_I ((va_up I 3 0) 2), mv_R (o + 2), mv_R (o + 3), mv_R (o + 4), mv_R (o + 5), mv_R (o + 6), mv_R (o + 7), mv_I ((va_up I 3 0) 3), mv_I ((va_up I 3 0) 4), mv_I ((va_up I 3 0) 5)]) = h_1 at hV_2 fr_3 ⊢
  refine go_iconst (q := 6) d_mo_faultOf_5 rfl ?_
  refine go_istore_n (q := 7) (L' := [some (mv_R o), some (mv_I 0)]) d_mo_faultOf_6 rfl rfl (by decide) rfl ?_
  exact k0  _ hV_2 fr_3

set_option maxRecDepth 4000 in
theorem so_fo_7 {φ : go_F} {l : Launch} {h : mv_H} {n : Nat} {o : Nat} {I tx S ps cs bs : Nat → Int} {V : Nat → Nat} {p : Int} (hV : mo_V h o (I, tx, S, ps, cs, bs) V) (hp : -2000 ≤ p ∧ p ≤ 2000)
    (k0 : p < 0 → Go φ l m_mo_faultOf (go_rm rd_mo_faultOf rw_mo_faultOf 0 0) (0, 0) 41 [some (mv_R o), some (mv_I p)] [] h n)
    (k1 : ¬ p < 0 → 1000 ≤ p → Go φ l m_mo_faultOf (go_rm rd_mo_faultOf rw_mo_faultOf 0 0) (0, 0) 41 [some (mv_R o), some (mv_I p)] [] h n)
    (k2 : ¬ p < 0 → ¬ 1000 ≤ p → Go φ l m_mo_faultOf (go_rm rd_mo_faultOf rw_mo_faultOf 0 0) (0, 0) 20 [some (mv_R o), some (mv_I p)] [mv_I p, mv_R o] h n) :
    Go φ l m_mo_faultOf (go_rm rd_mo_faultOf rw_mo_faultOf 0 0) (0, 0) 7 [some (mv_R o), some (mv_I p)] [] h n := by
  refine go_iload_n (q := 8) d_mo_faultOf_7 rfl rfl rfl ?_
  refine go_if_lt (t := 41) (q := 11) d_mo_faultOf_8 (by decide) rfl (by omega) (fun c1 => ?_) (fun c1 => ?_)
  ·
    exact k0 c1
  ·
    refine go_iload_n (q := 12) d_mo_faultOf_11 rfl rfl rfl ?_
    refine go_sipush (q := 15) d_mo_faultOf_12 rfl (by decide) ?_
    refine go_icmp_ge (t := 41) (q := 18) d_mo_faultOf_15 (by decide) rfl (by omega) (by omega) (fun c2 => ?_) (fun c2 => ?_)
    ·
      exact k1 c1 c2
    ·
      refine go_aload_n (q := 19) d_mo_faultOf_18 rfl rfl rfl ?_
      refine go_iload_n (q := 20) d_mo_faultOf_19 rfl rfl rfl ?_
      exact k2 c1 c2

set_option maxRecDepth 4000 in
theorem so_fo_23 {φ : go_F} {l : Launch} {h : mv_H} {n : Nat} {o : Nat} {I tx S ps cs bs : Nat → Int} {V : Nat → Nat} {p z : Int} (hV : mo_V h o (I, tx, S, ps, cs, bs) V) (hz : -2000 ≤ z ∧ z ≤ 2000)
    (k0 : 0 ≤ z → Go φ l m_mo_faultOf (go_rm rd_mo_faultOf rw_mo_faultOf 0 0) (0, 0) 34 [some (mv_R o), some (mv_I z)] [mv_I z, mv_R o] h n)
    (k1 : ¬ 0 ≤ z → Go φ l m_mo_faultOf (go_rm rd_mo_faultOf rw_mo_faultOf 0 0) (0, 0) 7 [some (mv_R o), some (mv_I z)] [] h n) :
    Go φ l m_mo_faultOf (go_rm rd_mo_faultOf rw_mo_faultOf 0 0) (0, 0) 23 [some (mv_R o), some (mv_I p)] [mv_I z] h n := by
  refine go_istore_n (q := 24) (L' := [some (mv_R o), some (mv_I z)]) d_mo_faultOf_23 rfl rfl (by decide) rfl ?_
  refine go_iload_n (q := 25) d_mo_faultOf_24 rfl rfl rfl ?_
  refine go_if_ge (t := 32) (q := 28) d_mo_faultOf_25 (by decide) rfl (by omega) (fun c1 => ?_) (fun c1 => ?_)
  ·
    refine go_aload_n (q := 33) d_mo_faultOf_32 rfl rfl rfl ?_
    refine go_iload_n (q := 34) d_mo_faultOf_33 rfl rfl rfl ?_
    exact k0 c1
  ·
    refine go_iload_n (q := 29) d_mo_faultOf_28 rfl rfl rfl ?_
    refine go_goto (q := 37) d_mo_faultOf_29 (by decide) ?_
    refine go_istore_n (q := 38) (L' := [some (mv_R o), some (mv_I z)]) d_mo_faultOf_37 rfl rfl (by decide) rfl ?_
    refine go_goto (q := 7) d_mo_faultOf_38 (by decide) ?_
    exact k1 c1

set_option maxRecDepth 4000 in
theorem so_fo_37 {φ : go_F} {l : Launch} {h : mv_H} {n : Nat} {o : Nat} {I tx S ps cs bs : Nat → Int} {V : Nat → Nat} {p z : Int} (hV : mo_V h o (I, tx, S, ps, cs, bs) V) 
    (k0 : Go φ l m_mo_faultOf (go_rm rd_mo_faultOf rw_mo_faultOf 0 0) (0, 0) 7 [some (mv_R o), some (mv_I z)] [] h n) :
    Go φ l m_mo_faultOf (go_rm rd_mo_faultOf rw_mo_faultOf 0 0) (0, 0) 37 [some (mv_R o), some (mv_I p)] [mv_I z] h n := by
  refine go_istore_n (q := 38) (L' := [some (mv_R o), some (mv_I z)]) d_mo_faultOf_37 rfl rfl (by decide) rfl ?_
  refine go_goto (q := 7) d_mo_faultOf_38 (by decide) ?_
  exact k0 

set_option maxRecDepth 4000 in
theorem so_fo_41 {φ : go_F} {l : Launch} {h : mv_H} {n : Nat} {o : Nat} {I tx S ps cs bs : Nat → Int} {V : Nat → Nat} {p : Int} (hV : mo_V h o (I, tx, S, ps, cs, bs) V) (hp : -2000 ≤ p ∧ p ≤ 2000)
    (k0 : 0 ≤ p → Go φ l m_mo_faultOf (go_rm rd_mo_faultOf rw_mo_faultOf 0 0) (0, 0) 52 [some (mv_R o), some (mv_I p)] [mv_I (-1)] h n)
    (k1 : ¬ 0 ≤ p → Go φ l m_mo_faultOf (go_rm rd_mo_faultOf rw_mo_faultOf 0 0) (0, 0) 52 [some (mv_R o), some (mv_I p)] [mv_I ((-1) - p)] h n) :
    Go φ l m_mo_faultOf (go_rm rd_mo_faultOf rw_mo_faultOf 0 0) (0, 0) 41 [some (mv_R o), some (mv_I p)] [] h n := by
  refine go_iload_n (q := 42) d_mo_faultOf_41 rfl rfl rfl ?_
  refine go_if_ge (t := 51) (q := 45) d_mo_faultOf_42 (by decide) rfl (by omega) (fun c1 => ?_) (fun c1 => ?_)
  ·
    refine go_iconst (q := 52) d_mo_faultOf_51 rfl ?_
    exact k0 c1
  ·
    refine go_iconst (q := 46) d_mo_faultOf_45 rfl ?_
    refine go_iload_n (q := 47) d_mo_faultOf_46 rfl rfl rfl ?_
    refine go_isub (q := 48) d_mo_faultOf_47 rfl ?_
    refine go_goto (q := 52) d_mo_faultOf_48 (by decide) ?_
    exact k1 c1

