set_option maxRecDepth 4000 in
theorem sk_settleAt {φ : go_F} {l : Launch} {h : mv_H} {n : Nat} {I tx wr ga gb mo mf mg : Nat → Int} {B : Nat → Int} {V : Nat → Nat} {x : Nat} {b : Int} (hV : pn_V h (I, tx, wr, ga, gb, mo, mf, mg) B V) (hb : 0 ≤ b ∧ b ≤ 1) (hx : 18 ≤ x ∧ x ≤ 32 ∧ x % 2 = 0) (rx : ro_ x)
    (k0 : ¬ V x < 2 ^ 240 → Go φ l m_ca_settleAt (go_rm rd_ca_settleAt rw_ca_settleAt 0 0) (0, 0) 18 [some (mv_R 16), some (mv_R 40), some (mv_I b), some (mv_R x)] [mv_I 1] h n)
    (k1 : V x < 2 ^ 240 → V 34 < 2 ^ 240 → b = 0 → ∀ h' : mv_H, pn_V h' (I, tx, wr, ga, gb, mo, mf, mg) (va_up B 40 0) (va_up (va_up V 41 (V x)) 43 (V 34)) → fr_ 1 389 h h' → Go φ l m_ca_settleAt (go_rm rd_ca_settleAt rw_ca_settleAt 0 0) (0, 0) 59 [some (mv_R 16), some (mv_R 40), some (mv_I b), some (mv_R x)] [mv_I 0] h' n)
    (k2 : V x < 2 ^ 240 → V 34 < 2 ^ 240 → ¬ b = 0 → V x = 0 → ∀ h' : mv_H, pn_V h' (I, tx, wr, ga, gb, mo, mf, mg) (va_up B 40 0) (va_up (va_up V 41 (V x)) 43 (V 34)) → fr_ 1 389 h h' → Go φ l m_ca_settleAt (go_rm rd_ca_settleAt rw_ca_settleAt 0 0) (0, 0) 59 [some (mv_R 16), some (mv_R 40), some (mv_I b), some (mv_R x)] [mv_I 0] h' n)
    (k3 : V x < 2 ^ 240 → V 34 < 2 ^ 240 → ¬ b = 0 → ¬ V x = 0 → ∀ h' : mv_H, pn_V h' (I, tx, wr, ga, gb, mo, mf, mg) (va_up B 40 1) (va_up (va_up V 41 (V x)) 43 (V 34)) → fr_ 1 389 h h' → Go φ l m_ca_settleAt (go_rm rd_ca_settleAt rw_ca_settleAt 0 0) (0, 0) 59 [some (mv_R 16), some (mv_R 40), some (mv_I b), some (mv_R x)] [mv_I 0] h' n)
    (k4 : V x < 2 ^ 240 → ¬ V 34 < 2 ^ 240 → Go φ l m_ca_settleAt (go_rm rd_ca_settleAt rw_ca_settleAt 0 0) (0, 0) 18 [some (mv_R 16), some (mv_R 40), some (mv_I b), some (mv_R x)] [mv_I 1] h n) :
    Go φ l m_ca_settleAt (go_rm rd_ca_settleAt rw_ca_settleAt 0 0) (0, 0) 0 [some (mv_R 16), some (mv_R 40), some (mv_I b), some (mv_R x)] [] h n := by
  refine go_aload_n (q := 1) d_ca_settleAt_0 rfl rfl rfl ?_
  refine cp_isTooLarge (p := x) (q := 4) l_ca_100 d_ca_settleAt_1 rfl hV rx (Nat.le_of_ble_eq_true rfl) ⟨by decide, by decide, by decide, by decide⟩ ?_
  rw [(show V x = V x from rfl)]
  refine go_if_ne (t := 17) (q := 7) d_ca_settleAt_4 (by decide) rfl iz_rng (fun c1 => ?_) (fun c1 => ?_)
  · have c2 : ¬ V x < 2 ^ 240 := iz_nep c1
    refine go_iconst (q := 18) d_ca_settleAt_17 rfl ?_
    exact k0 c2
  · have c3 : V x < 2 ^ 240 := iz_nen c1
    refine go_aload_n (q := 8) d_ca_settleAt_7 rfl rfl rfl ?_
    refine go_getf (q := 11) f_ca_36 d_ca_settleAt_8 rfl (pn_c16 hV) rfl ?_
    refine cp_isTooLarge (p := 34) (q := 14) l_ca_100 d_ca_settleAt_11 rfl hV (by unfold ro_; decide) (Nat.le_of_ble_eq_true rfl) ⟨by decide, by decide, by decide, by decide⟩ ?_
    rw [(show V 34 = V 34 from rfl)]
    refine go_if_eq (t := 19) (q := 17) d_ca_settleAt_14 (by decide) rfl iz_rng (fun c4 => ?_) (fun c4 => ?_)
    · have c5 : V 34 < 2 ^ 240 := iz_eqp c4
      refine go_aload_n (q := 20) d_ca_settleAt_19 rfl rfl rfl ?_
      refine go_getf (q := 23) f_ca_54 d_ca_settleAt_20 rfl (pn_cf hV (a := 40) fa_t) rfl ?_
      refine go_aload_n (q := 24) d_ca_settleAt_23 rfl rfl rfl ?_
      refine cp_copy (p := 41) (r := x) (q := 27) l_ca_84 d_ca_settleAt_24 rfl hV (by unfold ro_; decide) rx (by omega) (by rw [(show V x = V x from rfl), (show rn_ 41 = 8 from rfl)]; rw [w_240]; assumption) (Nat.le_of_ble_eq_true rfl) ⟨by decide, by decide, by decide, by decide⟩ (fun h_6 hV_7 fr_8 => ?_)
      have hV_9 : pn_V h_6 (I, tx, wr, ga, gb, mo, mf, mg) B (va_up V 41 (V x)) := by
        try rw [(show V x = V x from rfl)] at hV_7
        exact hV_7
      refine go_aload_n (q := 28) d_ca_settleAt_27 rfl rfl rfl ?_
      refine go_getf (q := 31) f_ca_42 d_ca_settleAt_28 rfl (pn_cf hV_9 (a := 40) fa_t) rfl ?_
      refine go_aload_n (q := 32) d_ca_settleAt_31 rfl rfl rfl ?_
      refine go_getf (q := 35) f_ca_36 d_ca_settleAt_32 rfl (pn_c16 hV_9) rfl ?_
      refine cp_copy (p := 43) (r := 34) (q := 38) l_ca_84 d_ca_settleAt_35 rfl hV_9 (by unfold ro_; decide) (by unfold ro_; decide) (by omega) (by rw [(show (va_up V 41 (V x)) 34 = V 34 from ((va_up_ne _ _ (by omega)).trans rfl)), (show rn_ 43 = 8 from rfl)]; rw [w_240]; assumption) (Nat.le_of_ble_eq_true rfl) ⟨by decide, by decide, by decide, by decide⟩ (fun h_10 hV_11 fr_12 => ?_)
      have hV_13 : pn_V h_10 (I, tx, wr, ga, gb, mo, mf, mg) B (va_up (va_up V 41 (V x)) 43 (V 34)) := by
        try rw [(show (va_up V 41 (V x)) 34 = V 34 from ((va_up_ne _ _ (by omega)).trans rfl))] at hV_11
        exact hV_11
      refine go_aload_n (q := 39) d_ca_settleAt_38 rfl rfl rfl ?_
      refine go_iload_n (q := 40) d_ca_settleAt_39 rfl rfl rfl ?_
      refine go_if_eq (t := 54) (q := 43) d_ca_settleAt_40 (by decide) rfl (by omega) (fun c14 => ?_) (fun c14 => ?_)
      ·
        refine go_iconst (q := 55) d_ca_settleAt_54 rfl ?_
        refine go_putf (q := 58) (v := mv_I 0) f_ca_61 d_ca_settleAt_55 rfl (pn_cf hV_13 (a := 40) fa_t) (Nat.le_of_ble_eq_true rfl) (go_fitZ (by omega)) ?_
        refine go_eq (h' := va_up h_10 40 (mv_O 2 [mv_R (40 + 1), mv_R (40 + 3), mv_I 0])) ?_
        have hV_16 := pn_uf hV_13 (a := 40) (x := 0) (by unfold fa_; omega) (by omega)
        have fr_17 : fr_ 1 389 h_10 (va_up h_10 40 (mv_O 2 [mv_R (40 + 1), mv_R (40 + 3), mv_I 0])) := fun z_ hz => va_up_ne _ _ (by omega)
        generalize va_up h_10 40 (mv_O 2 [mv_R (40 + 1), mv_R (40 + 3), mv_I 0]) = h_15 at hV_16 fr_17 ⊢
        refine go_iconst (q := 59) d_ca_settleAt_58 rfl ?_
        exact k1 c3 c5 c14 _ hV_16 (fr_.tr (fr_.tr fr_8 fr_12) fr_17)
      ·
        refine go_aload_n (q := 44) d_ca_settleAt_43 rfl rfl rfl ?_
        refine cp_isZero (p := x) (q := 47) l_ca_103 d_ca_settleAt_44 rfl hV_13 rx (Nat.le_of_ble_eq_true rfl) ⟨by decide, by decide, by decide, by decide⟩ ?_
        rw [(show (va_up (va_up V 41 (V x)) 43 (V 34)) x = V x from ((va_up_ne _ _ (by omega)).trans ((va_up_ne _ _ (by omega)).trans rfl)))]
        refine go_if_ne (t := 54) (q := 50) d_ca_settleAt_47 (by decide) rfl it_rng (fun c18 => ?_) (fun c18 => ?_)
        · have c19 : V x = 0 := it_nep c18
          refine go_iconst (q := 55) d_ca_settleAt_54 rfl ?_
          refine go_putf (q := 58) (v := mv_I 0) f_ca_61 d_ca_settleAt_55 rfl (pn_cf hV_13 (a := 40) fa_t) (Nat.le_of_ble_eq_true rfl) (go_fitZ (by omega)) ?_
          refine go_eq (h' := va_up h_10 40 (mv_O 2 [mv_R (40 + 1), mv_R (40 + 3), mv_I 0])) ?_
          have hV_21 := pn_uf hV_13 (a := 40) (x := 0) (by unfold fa_; omega) (by omega)
          have fr_22 : fr_ 1 389 h_10 (va_up h_10 40 (mv_O 2 [mv_R (40 + 1), mv_R (40 + 3), mv_I 0])) := fun z_ hz => va_up_ne _ _ (by omega)
          generalize va_up h_10 40 (mv_O 2 [mv_R (40 + 1), mv_R (40 + 3), mv_I 0]) = h_20 at hV_21 fr_22 ⊢
          refine go_iconst (q := 59) d_ca_settleAt_58 rfl ?_
          exact k2 c3 c5 c14 c19 _ hV_21 (fr_.tr (fr_.tr fr_8 fr_12) fr_22)
        · have c23 : ¬ V x = 0 := it_nen c18
          refine go_iconst (q := 51) d_ca_settleAt_50 rfl ?_
          refine go_goto (q := 55) d_ca_settleAt_51 (by decide) ?_
          refine go_putf (q := 58) (v := mv_I 1) f_ca_61 d_ca_settleAt_55 rfl (pn_cf hV_13 (a := 40) fa_t) (Nat.le_of_ble_eq_true rfl) (go_fitZ (by omega)) ?_
          refine go_eq (h' := va_up h_10 40 (mv_O 2 [mv_R (40 + 1), mv_R (40 + 3), mv_I 1])) ?_
          have hV_25 := pn_uf hV_13 (a := 40) (x := 1) (by unfold fa_; omega) (by omega)
          have fr_26 : fr_ 1 389 h_10 (va_up h_10 40 (mv_O 2 [mv_R (40 + 1), mv_R (40 + 3), mv_I 1])) := fun z_ hz => va_up_ne _ _ (by omega)
          generalize va_up h_10 40 (mv_O 2 [mv_R (40 + 1), mv_R (40 + 3), mv_I 1]) = h_24 at hV_25 fr_26 ⊢
          refine go_iconst (q := 59) d_ca_settleAt_58 rfl ?_
          exact k3 c3 c5 c14 c23 _ hV_25 (fr_.tr (fr_.tr fr_8 fr_12) fr_26)
    · have c27 : ¬ V 34 < 2 ^ 240 := iz_eqn c4
      refine go_iconst (q := 18) d_ca_settleAt_17 rfl ?_
      exact k4 c3 c27

set_option maxRecDepth 4000 in
theorem sk_addSpare {φ : go_F} {l : Launch} {h : mv_H} {n : Nat} {I tx wr ga gb mo mf mg : Nat → Int} {B : Nat → Int} {V : Nat → Nat} {b c : Int} (hV : pn_V h (I, tx, wr, ga, gb, mo, mf, mg) B V) (hb : 0 ≤ b ∧ b ≤ 1) (hc : 0 ≤ c ∧ c ≤ 1) (hs : V 32 + V 36 < 1073741824 ^ 18) (hs2 : V 36 < 1073741824 ^ 18)
    (k0 : ¬ b = c → V 32 < V 36 → ∀ h' : mv_H, pn_V h' (I, tx, wr, ga, gb, mo, mf, mg) B (va_up (va_up V 36 ((V 36) - (V 32))) 32 ((V 36) - (V 32))) → fr_ 1 389 h h' → Go φ l m_ca_addSpare (go_rm rd_ca_addSpare rw_ca_addSpare 0 0) (0, 0) 68 [some (mv_R 16), some (mv_I b), some (mv_I c)] [mv_I c] h' n)
    (k1 : ¬ b = c → V 36 ≤ V 32 → ∀ h' : mv_H, pn_V h' (I, tx, wr, ga, gb, mo, mf, mg) B (va_up V 32 ((V 32) - (V 36))) → fr_ 1 389 h h' → Go φ l m_ca_addSpare (go_rm rd_ca_addSpare rw_ca_addSpare 0 0) (0, 0) 44 [some (mv_R 16), some (mv_I b), some (mv_I c)] [mv_I b] h' n)
    (k2 : b = c → ∀ h' : mv_H, pn_V h' (I, tx, wr, ga, gb, mo, mf, mg) B (va_up V 32 ((V 32) + (V 36))) → fr_ 1 389 h h' → Go φ l m_ca_addSpare (go_rm rd_ca_addSpare rw_ca_addSpare 0 0) (0, 0) 17 [some (mv_R 16), some (mv_I b), some (mv_I c)] [mv_I b] h' n) :
    Go φ l m_ca_addSpare (go_rm rd_ca_addSpare rw_ca_addSpare 0 0) (0, 0) 0 [some (mv_R 16), some (mv_I b), some (mv_I c)] [] h n := by
  refine go_iload_n (q := 1) d_ca_addSpare_0 rfl rfl rfl ?_
  refine go_iload_n (q := 2) d_ca_addSpare_1 rfl rfl rfl ?_
  refine go_icmp_ne (t := 18) (q := 5) d_ca_addSpare_2 (by decide) rfl (by omega) (by omega) (fun c1 => ?_) (fun c1 => ?_)
  ·
    refine go_aload_n (q := 19) d_ca_addSpare_18 rfl rfl rfl ?_
    refine go_getf (q := 22) f_ca_33 d_ca_addSpare_19 rfl (pn_c16 hV) rfl ?_
    refine go_aload_n (q := 23) d_ca_addSpare_22 rfl rfl rfl ?_
    refine go_getf (q := 26) f_ca_39 d_ca_addSpare_23 rfl (pn_c16 hV) rfl ?_
    refine cp_compare (p := 32) (r := 36) (q := 29) l_ca_77 d_ca_addSpare_26 rfl hV (by unfold ro_; decide) (by unfold ro_; decide) (Nat.le_of_ble_eq_true rfl) ⟨by decide, by decide, by decide, by decide⟩ ?_
    rw [(show V 32 = V 32 from rfl), (show V 36 = V 36 from rfl)]
    refine go_if_lt (t := 45) (q := 32) d_ca_addSpare_29 (by decide) rfl cm_rng (fun c2 => ?_) (fun c2 => ?_)
    · have c3 : V 32 < V 36 := cm_ltp c2
      refine go_aload_n (q := 46) d_ca_addSpare_45 rfl rfl rfl ?_
      refine go_getf (q := 49) f_ca_39 d_ca_addSpare_46 rfl (pn_c16 hV) rfl ?_
      refine go_aload_n (q := 50) d_ca_addSpare_49 rfl rfl rfl ?_
      refine go_getf (q := 53) f_ca_33 d_ca_addSpare_50 rfl (pn_c16 hV) rfl ?_
      refine cp_subtract (p := 36) (r := 32) (q := 56) l_ca_81 d_ca_addSpare_53 rfl hV (by unfold ro_; decide) (by unfold ro_; decide) (by omega) (by rw [(show V 36 = V 36 from rfl), (show V 32 = V 32 from rfl)]; first | assumption | omega) (Nat.le_of_ble_eq_true rfl) ⟨by decide, by decide, by decide, by decide⟩ (fun h_4 hV_5 fr_6 => ?_)
      have hV_7 : pn_V h_4 (I, tx, wr, ga, gb, mo, mf, mg) B (va_up V 36 ((V 36) - (V 32))) := by
        try rw [(show V 36 = V 36 from rfl)] at hV_5
        try rw [(show V 32 = V 32 from rfl)] at hV_5
        exact hV_5
      refine go_aload_n (q := 57) d_ca_addSpare_56 rfl rfl rfl ?_
      refine go_getf (q := 60) f_ca_33 d_ca_addSpare_57 rfl (pn_c16 hV_7) rfl ?_
      refine go_aload_n (q := 61) d_ca_addSpare_60 rfl rfl rfl ?_
      refine go_getf (q := 64) f_ca_39 d_ca_addSpare_61 rfl (pn_c16 hV_7) rfl ?_
      refine cp_copy (p := 32) (r := 36) (q := 67) l_ca_84 d_ca_addSpare_64 rfl hV_7 (by unfold ro_; decide) (by unfold ro_; decide) (by omega) (by rw [(show (va_up V 36 ((V 36) - (V 32))) 36 = (V 36) - (V 32) from (va_up_self _ _ _)), (show rn_ 32 = 18 from rfl)]; omega) (Nat.le_of_ble_eq_true rfl) ⟨by decide, by decide, by decide, by decide⟩ (fun h_8 hV_9 fr_10 => ?_)
      have hV_11 : pn_V h_8 (I, tx, wr, ga, gb, mo, mf, mg) B (va_up (va_up V 36 ((V 36) - (V 32))) 32 ((V 36) - (V 32))) := by
        try rw [(show (va_up V 36 ((V 36) - (V 32))) 36 = (V 36) - (V 32) from (va_up_self _ _ _))] at hV_9
        exact hV_9
      refine go_iload_n (q := 68) d_ca_addSpare_67 rfl rfl rfl ?_
      exact k0 c1 c3 _ hV_11 (fr_.tr fr_6 fr_10)
    · have c12 : V 36 ≤ V 32 := cm_ltn c2
      refine go_aload_n (q := 33) d_ca_addSpare_32 rfl rfl rfl ?_
      refine go_getf (q := 36) f_ca_33 d_ca_addSpare_33 rfl (pn_c16 hV) rfl ?_
      refine go_aload_n (q := 37) d_ca_addSpare_36 rfl rfl rfl ?_
      refine go_getf (q := 40) f_ca_39 d_ca_addSpare_37 rfl (pn_c16 hV) rfl ?_
      refine cp_subtract (p := 32) (r := 36) (q := 43) l_ca_81 d_ca_addSpare_40 rfl hV (by unfold ro_; decide) (by unfold ro_; decide) (by omega) (by rw [(show V 32 = V 32 from rfl), (show V 36 = V 36 from rfl)]; first | assumption | omega) (Nat.le_of_ble_eq_true rfl) ⟨by decide, by decide, by decide, by decide⟩ (fun h_13 hV_14 fr_15 => ?_)
      have hV_16 : pn_V h_13 (I, tx, wr, ga, gb, mo, mf, mg) B (va_up V 32 ((V 32) - (V 36))) := by
        try rw [(show V 32 = V 32 from rfl)] at hV_14
        try rw [(show V 36 = V 36 from rfl)] at hV_14
        exact hV_14
      refine go_iload_n (q := 44) d_ca_addSpare_43 rfl rfl rfl ?_
      exact k1 c1 c12 _ hV_16 fr_15
  ·
    refine go_aload_n (q := 6) d_ca_addSpare_5 rfl rfl rfl ?_
    refine go_getf (q := 9) f_ca_33 d_ca_addSpare_6 rfl (pn_c16 hV) rfl ?_
    refine go_aload_n (q := 10) d_ca_addSpare_9 rfl rfl rfl ?_
    refine go_getf (q := 13) f_ca_39 d_ca_addSpare_10 rfl (pn_c16 hV) rfl ?_
    refine cp_add (p := 32) (r := 36) (q := 16) l_ca_73 d_ca_addSpare_13 rfl hV (by unfold ro_; decide) (by unfold ro_; decide) (by omega) (by rw [(show V 32 = V 32 from rfl), (show V 36 = V 36 from rfl), (show rn_ 32 = 18 from rfl)]; first | assumption | omega) (Nat.le_of_ble_eq_true rfl) ⟨by decide, by decide, by decide, by decide⟩ (fun h_17 hV_18 fr_19 => ?_)
    have hV_20 : pn_V h_17 (I, tx, wr, ga, gb, mo, mf, mg) B (va_up V 32 ((V 32) + (V 36))) := by
      try rw [(show V 32 = V 32 from rfl)] at hV_18
      try rw [(show V 36 = V 36 from rfl)] at hV_18
      exact hV_18
    refine go_iload_n (q := 17) d_ca_addSpare_16 rfl rfl rfl ?_
    exact k2 c1 _ hV_20 fr_19

set_option maxRecDepth 4000 in
theorem sk_compare {φ : go_F} {l : Launch} {h : mv_H} {n : Nat} {I tx wr ga gb mo mf mg : Nat → Int} {B : Nat → Int} {V : Nat → Nat} {o a : Nat} (hV : pn_V h (I, tx, wr, ga, gb, mo, mf, mg) B V) (ho : o = 3 ∨ o = 40 ∨ (50 ≤ o ∧ o < 390 ∧ o % 5 = 0)) (ha : a = 3 ∨ a = 40 ∨ (50 ≤ a ∧ a < 390 ∧ a % 5 = 0)) (p1 : ∃ i j, V (o + 1) < 1073741824 ^ i ∧ V (a + 3) < 1073741824 ^ j ∧ i + j ≤ 18) (p2 : ∃ i j, V (a + 1) < 1073741824 ^ i ∧ V (o + 3) < 1073741824 ^ j ∧ i + j ≤ 18)
    (k0 : B o = B a → B o = 0 → ∀ h' : mv_H, pn_V h' (I, tx, wr, ga, gb, mo, mf, mg) B (va_up (va_up V 32 ((V (o + 1)) * (V (a + 3)))) 34 ((V (a + 1)) * (V (o + 3)))) → fr_ 1 389 h h' → Go φ l m_ca_compare (go_rm rd_ca_compare rw_ca_compare 0 0) (0, 0) 86 [some (mv_R 16), some (mv_R o), some (mv_R a)] [mv_I (cm_ ((V (o + 1)) * (V (a + 3))) ((V (a + 1)) * (V (o + 3))))] h' n)
    (k1 : B o = B a → ¬ B o = 0 → ∀ h' : mv_H, pn_V h' (I, tx, wr, ga, gb, mo, mf, mg) B (va_up (va_up V 32 ((V (o + 1)) * (V (a + 3)))) 34 ((V (a + 1)) * (V (o + 3)))) → fr_ 1 389 h h' → Go φ l m_ca_compare (go_rm rd_ca_compare rw_ca_compare 0 0) (0, 0) 86 [some (mv_R 16), some (mv_R o), some (mv_R a)] [mv_I (cm_ ((V (a + 1)) * (V (o + 3))) ((V (o + 1)) * (V (a + 3))))] h' n)
    (k2 : ¬ B o = B a → B o = 0 → Go φ l m_ca_compare (go_rm rd_ca_compare rw_ca_compare 0 0) (0, 0) 23 [some (mv_R 16), some (mv_R o), some (mv_R a)] [mv_I 1] h n)
    (k3 : ¬ B o = B a → ¬ B o = 0 → Go φ l m_ca_compare (go_rm rd_ca_compare rw_ca_compare 0 0) (0, 0) 23 [some (mv_R 16), some (mv_R o), some (mv_R a)] [mv_I (-1)] h n) :
    Go φ l m_ca_compare (go_rm rd_ca_compare rw_ca_compare 0 0) (0, 0) 0 [some (mv_R 16), some (mv_R o), some (mv_R a)] [] h n := by
  refine go_aload_n (q := 1) d_ca_compare_0 rfl rfl rfl ?_
  refine go_getf (q := 4) f_ca_61 d_ca_compare_1 rfl (pn_cf hV (a := o) ho) rfl ?_
  rw [(show B o = B o from rfl)]
  have q_1 := hV.2.1 o
  rw [(show B o = B o from rfl)] at q_1
  refine go_aload_n (q := 5) d_ca_compare_4 rfl rfl rfl ?_
  refine go_getf (q := 8) f_ca_61 d_ca_compare_5 rfl (pn_cf hV (a := a) ha) rfl ?_
  rw [(show B a = B a from rfl)]
  have q_2 := hV.2.1 a
  rw [(show B a = B a from rfl)] at q_2
  refine go_icmp_eq (t := 24) (q := 11) d_ca_compare_8 (by decide) rfl (by omega) (by omega) (fun c3 => ?_) (fun c3 => ?_)
  ·
    refine go_aload_n (q := 25) d_ca_compare_24 rfl rfl rfl ?_
    refine go_getf (q := 28) f_ca_33 d_ca_compare_25 rfl (pn_c16 hV) rfl ?_
    refine go_aload_n (q := 29) d_ca_compare_28 rfl rfl rfl ?_
    refine go_getf (q := 32) f_ca_54 d_ca_compare_29 rfl (pn_cf hV (a := o) ho) rfl ?_
    refine go_aload_n (q := 33) d_ca_compare_32 rfl rfl rfl ?_
    refine go_getf (q := 36) f_ca_42 d_ca_compare_33 rfl (pn_cf hV (a := a) ha) rfl ?_
    refine cp_becomeProduct (p := 32) (x := o + 1) (y := a + 3) (q := 39) l_ca_57 d_ca_compare_36 rfl hV (by unfold ro_; decide) (fa_n (a := o) ho).1 (fa_n (a := a) ha).2.1 (by omega) (by rw [(show V (o + 1) = V (o + 1) from rfl), (show V (a + 3) = V (a + 3) from rfl), (show rn_ 32 = 18 from rfl)]; assumption) (Nat.le_of_ble_eq_true rfl) ⟨by decide, by decide, by decide, by decide⟩ (fun h_4 hV_5 fr_6 => ?_)
    have hV_7 : pn_V h_4 (I, tx, wr, ga, gb, mo, mf, mg) B (va_up V 32 ((V (o + 1)) * (V (a + 3)))) := by
      try rw [(show V (o + 1) = V (o + 1) from rfl)] at hV_5
      try rw [(show V (a + 3) = V (a + 3) from rfl)] at hV_5
      exact hV_5
    refine go_aload_n (q := 40) d_ca_compare_39 rfl rfl rfl ?_
    refine go_getf (q := 43) f_ca_36 d_ca_compare_40 rfl (pn_c16 hV_7) rfl ?_
    refine go_aload_n (q := 44) d_ca_compare_43 rfl rfl rfl ?_
    refine go_getf (q := 47) f_ca_54 d_ca_compare_44 rfl (pn_cf hV_7 (a := a) ha) rfl ?_
    refine go_aload_n (q := 48) d_ca_compare_47 rfl rfl rfl ?_
    refine go_getf (q := 51) f_ca_42 d_ca_compare_48 rfl (pn_cf hV_7 (a := o) ho) rfl ?_
    refine cp_becomeProduct (p := 34) (x := a + 1) (y := o + 3) (q := 54) l_ca_57 d_ca_compare_51 rfl hV_7 (by unfold ro_; decide) (fa_n (a := a) ha).1 (fa_n (a := o) ho).2.1 (by omega) (by rw [(show (va_up V 32 ((V (o + 1)) * (V (a + 3)))) (a + 1) = V (a + 1) from ((va_up_ne _ _ (by omega)).trans rfl)), (show (va_up V 32 ((V (o + 1)) * (V (a + 3)))) (o + 3) = V (o + 3) from ((va_up_ne _ _ (by omega)).trans rfl)), (show rn_ 34 = 18 from rfl)]; assumption) (Nat.le_of_ble_eq_true rfl) ⟨by decide, by decide, by decide, by decide⟩ (fun h_8 hV_9 fr_10 => ?_)
    have hV_11 : pn_V h_8 (I, tx, wr, ga, gb, mo, mf, mg) B (va_up (va_up V 32 ((V (o + 1)) * (V (a + 3)))) 34 ((V (a + 1)) * (V (o + 3)))) := by
      try rw [(show (va_up V 32 ((V (o + 1)) * (V (a + 3)))) (a + 1) = V (a + 1) from ((va_up_ne _ _ (by omega)).trans rfl))] at hV_9
      try rw [(show (va_up V 32 ((V (o + 1)) * (V (a + 3)))) (o + 3) = V (o + 3) from ((va_up_ne _ _ (by omega)).trans rfl))] at hV_9
      exact hV_9
    refine go_aload_n (q := 55) d_ca_compare_54 rfl rfl rfl ?_
    refine go_getf (q := 58) f_ca_61 d_ca_compare_55 rfl (pn_cf hV_11 (a := o) ho) rfl ?_
    rw [(show B o = B o from rfl)]
    have q_12 := hV_11.2.1 o
    rw [(show B o = B o from rfl)] at q_12
    refine go_if_eq (t := 75) (q := 61) d_ca_compare_58 (by decide) rfl (by omega) (fun c13 => ?_) (fun c13 => ?_)
    ·
      refine go_aload_n (q := 76) d_ca_compare_75 rfl rfl rfl ?_
      refine go_getf (q := 79) f_ca_33 d_ca_compare_76 rfl (pn_c16 hV_11) rfl ?_
      refine go_aload_n (q := 80) d_ca_compare_79 rfl rfl rfl ?_
      refine go_getf (q := 83) f_ca_36 d_ca_compare_80 rfl (pn_c16 hV_11) rfl ?_
      refine cp_compare (p := 32) (r := 34) (q := 86) l_ca_77 d_ca_compare_83 rfl hV_11 (by unfold ro_; decide) (by unfold ro_; decide) (Nat.le_of_ble_eq_true rfl) ⟨by decide, by decide, by decide, by decide⟩ ?_
      rw [(show (va_up (va_up V 32 ((V (o + 1)) * (V (a + 3)))) 34 ((V (a + 1)) * (V (o + 3)))) 32 = (V (o + 1)) * (V (a + 3)) from ((va_up_ne _ _ (by omega)).trans (va_up_self _ _ _))), (show (va_up (va_up V 32 ((V (o + 1)) * (V (a + 3)))) 34 ((V (a + 1)) * (V (o + 3)))) 34 = (V (a + 1)) * (V (o + 3)) from (va_up_self _ _ _))]
      exact k0 c3 c13 _ hV_11 (fr_.tr fr_6 fr_10)
    ·
      refine go_aload_n (q := 62) d_ca_compare_61 rfl rfl rfl ?_
      refine go_getf (q := 65) f_ca_36 d_ca_compare_62 rfl (pn_c16 hV_11) rfl ?_
      refine go_aload_n (q := 66) d_ca_compare_65 rfl rfl rfl ?_
      refine go_getf (q := 69) f_ca_33 d_ca_compare_66 rfl (pn_c16 hV_11) rfl ?_
      refine cp_compare (p := 34) (r := 32) (q := 72) l_ca_77 d_ca_compare_69 rfl hV_11 (by unfold ro_; decide) (by unfold ro_; decide) (Nat.le_of_ble_eq_true rfl) ⟨by decide, by decide, by decide, by decide⟩ ?_
      rw [(show (va_up (va_up V 32 ((V (o + 1)) * (V (a + 3)))) 34 ((V (a + 1)) * (V (o + 3)))) 34 = (V (a + 1)) * (V (o + 3)) from (va_up_self _ _ _)), (show (va_up (va_up V 32 ((V (o + 1)) * (V (a + 3)))) 34 ((V (a + 1)) * (V (o + 3)))) 32 = (V (o + 1)) * (V (a + 3)) from ((va_up_ne _ _ (by omega)).trans (va_up_self _ _ _)))]
      refine go_goto (q := 86) d_ca_compare_72 (by decide) ?_
      exact k1 c3 c13 _ hV_11 (fr_.tr fr_6 fr_10)
  ·
    refine go_aload_n (q := 12) d_ca_compare_11 rfl rfl rfl ?_
    refine go_getf (q := 15) f_ca_61 d_ca_compare_12 rfl (pn_cf hV (a := o) ho) rfl ?_
    rw [(show B o = B o from rfl)]
    have q_14 := hV.2.1 o
    rw [(show B o = B o from rfl)] at q_14
    refine go_if_eq (t := 22) (q := 18) d_ca_compare_15 (by decide) rfl (by omega) (fun c15 => ?_) (fun c15 => ?_)
    ·
      refine go_iconst (q := 23) d_ca_compare_22 rfl ?_
      exact k2 c3 c15
    ·
      refine go_iconst (q := 19) d_ca_compare_18 rfl ?_
      refine go_goto (q := 23) d_ca_compare_19 (by decide) ?_
      exact k3 c3 c15

set_option maxRecDepth 4000 in
theorem sk_join {φ : go_F} {l : Launch} {h : mv_H} {n : Nat} {I tx wr ga gb mo mf mg : Nat → Int} {B : Nat → Int} {V : Nat → Nat} {a : Nat} (hV : pn_V h (I, tx, wr, ga, gb, mo, mf, mg) B V) (ha : 50 ≤ a ∧ a < 390 ∧ a % 5 = 0) (hs : V 41 * V (a + 1) < 2 ^ 1000)
    (k0 : V (a + 3) = 1 → ∀ (s_6 : Nat), ∀ (t_7 : Nat), ∀ h' : mv_H, pn_V h' (I, tx, wr, ga, gb, mo, mf, mg) B (va_up (va_up (va_up (va_up V 22 s_6) 24 t_7) 32 (Nat.gcd (V 41) (V (a + 1)))) 34 1) → fr_ 1 389 h h' → Go φ l m_ca_joinGreatest (go_rm rd_ca_joinGreatest rw_ca_joinGreatest 0 0) (0, 0) 43 [some (mv_R 16), some (mv_R 40), some (mv_R a)] [mv_R 32, mv_I 0, mv_R 40, mv_R 16] h' n)
    (k1 : ¬ V (a + 3) = 1 → Go φ l m_ca_joinGreatest (go_rm rd_ca_joinGreatest rw_ca_joinGreatest 0 0) (0, 0) 8 [some (mv_R 16), some (mv_R 40), some (mv_R a)] [mv_I 3] h n) :
    Go φ l m_ca_joinGreatest (go_rm rd_ca_joinGreatest rw_ca_joinGreatest 0 0) (0, 0) 0 [some (mv_R 16), some (mv_R 40), some (mv_R a)] [] h n := by
  refine go_aload_n (q := 1) d_ca_joinGreatest_0 rfl rfl rfl ?_
  refine cp_fr_isWhole (a := a) (q := 4) l_ca_87 d_ca_joinGreatest_1 rfl hV (Or.inr (Or.inr ha)) (Nat.le_of_ble_eq_true rfl) ⟨by decide, by decide, by decide, by decide⟩ ?_
  rw [(show V (a + 3) = V (a + 3) from rfl)]
  refine go_if_ne (t := 9) (q := 7) d_ca_joinGreatest_4 (by decide) rfl it_rng (fun c1 => ?_) (fun c1 => ?_)
  · have c2 : V (a + 3) = 1 := it_nep c1
    refine go_aload_n (q := 10) d_ca_joinGreatest_9 rfl rfl rfl ?_
    refine go_getf (q := 13) f_ca_12 d_ca_joinGreatest_10 rfl (pn_c16 hV) rfl ?_
    refine go_aload_n (q := 14) d_ca_joinGreatest_13 rfl rfl rfl ?_
    refine go_getf (q := 17) f_ca_54 d_ca_joinGreatest_14 rfl (pn_cf hV (a := 40) fa_t) rfl ?_
    refine go_aload_n (q := 18) d_ca_joinGreatest_17 rfl rfl rfl ?_
    refine go_getf (q := 21) f_ca_54 d_ca_joinGreatest_18 rfl (pn_cf hV (a := a) (Or.inr (Or.inr ha))) rfl ?_
    refine go_aload_n (q := 22) d_ca_joinGreatest_21 rfl rfl rfl ?_
    refine go_getf (q := 25) f_ca_33 d_ca_joinGreatest_22 rfl (pn_c16 hV) rfl ?_
    refine cp_findGreatest (x := 41) (y := a + 1) (qq := 32) (q := 28) l_ca_47 d_ca_joinGreatest_25 rfl hV (by unfold ro_; decide) (fa_n (a := a) (Or.inr (Or.inr ha))).1 (by unfold ro_; decide) (by omega) (show rn_ 32 = 18 from rfl) (by rw [(show V 41 = V 41 from rfl), (show V (a + 1) = V (a + 1) from rfl)]; assumption) (Nat.le_of_ble_eq_true rfl) ⟨by decide, by decide, by decide, by decide⟩ (fun s_6 t_7 h_3 hV_4 fr_5 => ?_)
    have hV_8 : pn_V h_3 (I, tx, wr, ga, gb, mo, mf, mg) B (va_up (va_up (va_up V 22 s_6) 24 t_7) 32 (Nat.gcd (V 41) (V (a + 1)))) := by
      try rw [(show V 41 = V 41 from rfl)] at hV_4
      try rw [(show V (a + 1) = V (a + 1) from rfl)] at hV_4
      exact hV_4
    refine go_aload_n (q := 29) d_ca_joinGreatest_28 rfl rfl rfl ?_
    refine go_getf (q := 32) f_ca_36 d_ca_joinGreatest_29 rfl (pn_c16 hV_8) rfl ?_
    refine go_iconst (q := 33) d_ca_joinGreatest_32 rfl ?_
    refine cp_become (p := 34) (v := 1) (q := 36) l_ca_94 d_ca_joinGreatest_33 rfl hV_8 (by unfold ro_; decide) (by omega) (Nat.le_of_ble_eq_true rfl) ⟨by decide, by decide, by decide, by decide⟩ (fun h_9 hV_10 fr_11 => ?_)
    have hV_12 : pn_V h_9 (I, tx, wr, ga, gb, mo, mf, mg) B (va_up (va_up (va_up (va_up V 22 s_6) 24 t_7) 32 (Nat.gcd (V 41) (V (a + 1)))) 34 1) := hV_10
    refine go_aload_n (q := 37) d_ca_joinGreatest_36 rfl rfl rfl ?_
    refine go_aload_n (q := 38) d_ca_joinGreatest_37 rfl rfl rfl ?_
    refine go_iconst (q := 39) d_ca_joinGreatest_38 rfl ?_
    refine go_aload_n (q := 40) d_ca_joinGreatest_39 rfl rfl rfl ?_
    refine go_getf (q := 43) f_ca_33 d_ca_joinGreatest_40 rfl (pn_c16 hV_12) rfl ?_
    exact k0 c2 s_6 t_7 _ hV_12 (fr_.tr fr_5 fr_11)
  · have c13 : ¬ V (a + 3) = 1 := it_nen c1
    refine go_iconst (q := 8) d_ca_joinGreatest_7 rfl ?_
    exact k1 c13

set_option maxRecDepth 4000 in
theorem sk_dw {φ : go_F} {l : Launch} {h : mv_H} {n : Nat} {I tx wr ga gb mo mf mg : Nat → Int} {B : Nat → Int} {V : Nat → Nat} {a : Nat} {b : Int} (hV : pn_V h (I, tx, wr, ga, gb, mo, mf, mg) B V) (ha : 50 ≤ a ∧ a < 390 ∧ a % 5 = 0) (hb : 0 ≤ b ∧ b ≤ 1) (hs : V 41 < 1073741824 ^ 17)
    (k0 : ¬ V 43 = 1 → Go φ l m_ca_divideWhole (go_rm rd_ca_divideWhole rw_ca_divideWhole 0 0) (0, 0) 15 [some (mv_R 16), some (mv_R 40), some (mv_R a), some (mv_I b)] [mv_I 3] h n)
    (k1 : V 43 = 1 → V (a + 3) = 1 → ¬ V (a + 1) = 0 → ∀ (s_11 : Nat), b = 0 → B 40 = B a → ∀ h' : mv_H, pn_V h' (I, tx, wr, ga, gb, mo, mf, mg) B (va_up (va_up (va_up (va_up V 20 s_11) 18 ((V 41) % (V (a + 1)))) 32 ((V 41) / (V (a + 1)))) 34 1) → fr_ 1 389 h h' → Go φ l m_ca_divideWhole (go_rm rd_ca_divideWhole rw_ca_divideWhole 0 0) (0, 0) 95 [some (mv_R 16), some (mv_R 40), some (mv_R a), some (mv_I b)] [mv_R 32, mv_I 0, mv_R 40, mv_R 16] h' n)
    (k2 : V 43 = 1 → V (a + 3) = 1 → ¬ V (a + 1) = 0 → ∀ (s_11 : Nat), b = 0 → ¬ B 40 = B a → ∀ h' : mv_H, pn_V h' (I, tx, wr, ga, gb, mo, mf, mg) B (va_up (va_up (va_up (va_up V 20 s_11) 18 ((V 41) % (V (a + 1)))) 32 ((V 41) / (V (a + 1)))) 34 1) → fr_ 1 389 h h' → Go φ l m_ca_divideWhole (go_rm rd_ca_divideWhole rw_ca_divideWhole 0 0) (0, 0) 95 [some (mv_R 16), some (mv_R 40), some (mv_R a), some (mv_I b)] [mv_R 32, mv_I 1, mv_R 40, mv_R 16] h' n)
    (k3 : V 43 = 1 → V (a + 3) = 1 → ¬ V (a + 1) = 0 → ∀ (s_11 : Nat), ¬ b = 0 → ∀ h' : mv_H, pn_V h' (I, tx, wr, ga, gb, mo, mf, mg) B (va_up (va_up (va_up (va_up V 20 s_11) 18 ((V 41) % (V (a + 1)))) 32 ((V 41) / (V (a + 1)))) 34 1) → fr_ 1 389 h h' → Go φ l m_ca_divideWhole (go_rm rd_ca_divideWhole rw_ca_divideWhole 0 0) (0, 0) 69 [some (mv_R 16), some (mv_R 40), some (mv_R a), some (mv_I b)] [mv_R 18, mv_I (B 40), mv_R 40, mv_R 16] h' n)
    (k4 : V 43 = 1 → V (a + 3) = 1 → V (a + 1) = 0 → Go φ l m_ca_divideWhole (go_rm rd_ca_divideWhole rw_ca_divideWhole 0 0) (0, 0) 24 [some (mv_R 16), some (mv_R 40), some (mv_R a), some (mv_I b)] [mv_I 2] h n)
    (k5 : V 43 = 1 → ¬ V (a + 3) = 1 → Go φ l m_ca_divideWhole (go_rm rd_ca_divideWhole rw_ca_divideWhole 0 0) (0, 0) 15 [some (mv_R 16), some (mv_R 40), some (mv_R a), some (mv_I b)] [mv_I 3] h n) :
    Go φ l m_ca_divideWhole (go_rm rd_ca_divideWhole rw_ca_divideWhole 0 0) (0, 0) 0 [some (mv_R 16), some (mv_R 40), some (mv_R a), some (mv_I b)] [] h n := by
  refine go_aload_n (q := 1) d_ca_divideWhole_0 rfl rfl rfl ?_
  refine cp_fr_isWhole (a := 40) (q := 4) l_ca_87 d_ca_divideWhole_1 rfl hV fa_t (Nat.le_of_ble_eq_true rfl) ⟨by decide, by decide, by decide, by decide⟩ ?_
  rw [(show V 43 = V 43 from rfl)]
  refine go_if_eq (t := 14) (q := 7) d_ca_divideWhole_4 (by decide) rfl it_rng (fun c1 => ?_) (fun c1 => ?_)
  · have c2 : ¬ V 43 = 1 := it_eqp c1
    refine go_iconst (q := 15) d_ca_divideWhole_14 rfl ?_
    exact k0 c2
  · have c3 : V 43 = 1 := it_eqn c1
    refine go_aload_n (q := 8) d_ca_divideWhole_7 rfl rfl rfl ?_
    refine cp_fr_isWhole (a := a) (q := 11) l_ca_87 d_ca_divideWhole_8 rfl hV (Or.inr (Or.inr ha)) (Nat.le_of_ble_eq_true rfl) ⟨by decide, by decide, by decide, by decide⟩ ?_
    rw [(show V (a + 3) = V (a + 3) from rfl)]
    refine go_if_ne (t := 16) (q := 14) d_ca_divideWhole_11 (by decide) rfl it_rng (fun c4 => ?_) (fun c4 => ?_)
    · have c5 : V (a + 3) = 1 := it_nep c4
      refine go_aload_n (q := 17) d_ca_divideWhole_16 rfl rfl rfl ?_
      refine cp_fr_isZero (a := a) (q := 20) l_ca_91 d_ca_divideWhole_17 rfl hV (Or.inr (Or.inr ha)) (Nat.le_of_ble_eq_true rfl) ⟨by decide, by decide, by decide, by decide⟩ ?_
      rw [(show V (a + 1) = V (a + 1) from rfl)]
      refine go_if_eq (t := 25) (q := 23) d_ca_divideWhole_20 (by decide) rfl it_rng (fun c6 => ?_) (fun c6 => ?_)
      · have c7 : ¬ V (a + 1) = 0 := it_eqp c6
        refine go_aload_n (q := 26) d_ca_divideWhole_25 rfl rfl rfl ?_
        refine go_getf (q := 29) f_ca_12 d_ca_divideWhole_26 rfl (pn_c16 hV) rfl ?_
        refine go_aload_n (q := 30) d_ca_divideWhole_29 rfl rfl rfl ?_
        refine go_getf (q := 33) f_ca_54 d_ca_divideWhole_30 rfl (pn_cf hV (a := 40) fa_t) rfl ?_
        refine go_aload_n (q := 34) d_ca_divideWhole_33 rfl rfl rfl ?_
        refine go_getf (q := 37) f_ca_54 d_ca_divideWhole_34 rfl (pn_cf hV (a := a) (Or.inr (Or.inr ha))) rfl ?_
        refine go_aload_n (q := 38) d_ca_divideWhole_37 rfl rfl rfl ?_
        refine go_getf (q := 41) f_ca_33 d_ca_divideWhole_38 rfl (pn_c16 hV) rfl ?_
        refine cp_divide (x := 41) (y := a + 1) (qq := 32) (q := 44) l_ca_51 d_ca_divideWhole_41 rfl hV (by unfold ro_; decide) (fa_n (a := a) (Or.inr (Or.inr ha))).1 (by unfold ro_; decide) (by omega) (show rn_ 32 = 18 from rfl) (by rw [(show V 41 = V 41 from rfl)]; assumption) (Nat.le_of_ble_eq_true rfl) ⟨by decide, by decide, by decide, by decide⟩ (fun s_11 h_8 hV_9 fr_10 => ?_)
        have hV_12 : pn_V h_8 (I, tx, wr, ga, gb, mo, mf, mg) B (va_up (va_up (va_up V 20 s_11) 18 ((V 41) % (V (a + 1)))) 32 ((V 41) / (V (a + 1)))) := by
          try rw [(show V 41 = V 41 from rfl)] at hV_9
          try rw [(show V (a + 1) = V (a + 1) from rfl)] at hV_9
          exact hV_9
        refine go_aload_n (q := 45) d_ca_divideWhole_44 rfl rfl rfl ?_
        refine go_getf (q := 48) f_ca_36 d_ca_divideWhole_45 rfl (pn_c16 hV_12) rfl ?_
        refine go_iconst (q := 49) d_ca_divideWhole_48 rfl ?_
        refine cp_become (p := 34) (v := 1) (q := 52) l_ca_94 d_ca_divideWhole_49 rfl hV_12 (by unfold ro_; decide) (by omega) (Nat.le_of_ble_eq_true rfl) ⟨by decide, by decide, by decide, by decide⟩ (fun h_13 hV_14 fr_15 => ?_)
        have hV_16 : pn_V h_13 (I, tx, wr, ga, gb, mo, mf, mg) B (va_up (va_up (va_up (va_up V 20 s_11) 18 ((V 41) % (V (a + 1)))) 32 ((V 41) / (V (a + 1)))) 34 1) := hV_14
        refine go_iload_n (q := 53) d_ca_divideWhole_52 rfl rfl rfl ?_
        refine go_if_eq (t := 73) (q := 56) d_ca_divideWhole_53 (by decide) rfl (by omega) (fun c17 => ?_) (fun c17 => ?_)
        ·
          refine go_aload_n (q := 74) d_ca_divideWhole_73 rfl rfl rfl ?_
          refine go_aload_n (q := 75) d_ca_divideWhole_74 rfl rfl rfl ?_
          refine go_aload_n (q := 76) d_ca_divideWhole_75 rfl rfl rfl ?_
          refine go_getf (q := 79) f_ca_61 d_ca_divideWhole_76 rfl (pn_cf hV_16 (a := 40) fa_t) rfl ?_
          rw [(show B 40 = B 40 from rfl)]
          have q_18 := hV_16.2.1 40
          rw [(show B 40 = B 40 from rfl)] at q_18
          refine go_aload_n (q := 80) d_ca_divideWhole_79 rfl rfl rfl ?_
          refine go_getf (q := 83) f_ca_61 d_ca_divideWhole_80 rfl (pn_cf hV_16 (a := a) (Or.inr (Or.inr ha))) rfl ?_
          rw [(show B a = B a from rfl)]
          have q_19 := hV_16.2.1 a
          rw [(show B a = B a from rfl)] at q_19
          refine go_icmp_eq (t := 90) (q := 86) d_ca_divideWhole_83 (by decide) rfl (by omega) (by omega) (fun c20 => ?_) (fun c20 => ?_)
          ·
            refine go_iconst (q := 91) d_ca_divideWhole_90 rfl ?_
            refine go_aload_n (q := 92) d_ca_divideWhole_91 rfl rfl rfl ?_
            refine go_getf (q := 95) f_ca_33 d_ca_divideWhole_92 rfl (pn_c16 hV_16) rfl ?_
            exact k1 c3 c5 c7 s_11 c17 c20 _ hV_16 (fr_.tr fr_10 fr_15)
          ·
            refine go_iconst (q := 87) d_ca_divideWhole_86 rfl ?_
            refine go_goto (q := 91) d_ca_divideWhole_87 (by decide) ?_
            refine go_aload_n (q := 92) d_ca_divideWhole_91 rfl rfl rfl ?_
            refine go_getf (q := 95) f_ca_33 d_ca_divideWhole_92 rfl (pn_c16 hV_16) rfl ?_
            exact k2 c3 c5 c7 s_11 c17 c20 _ hV_16 (fr_.tr fr_10 fr_15)
        ·
          refine go_aload_n (q := 57) d_ca_divideWhole_56 rfl rfl rfl ?_
          refine go_aload_n (q := 58) d_ca_divideWhole_57 rfl rfl rfl ?_
          refine go_aload_n (q := 59) d_ca_divideWhole_58 rfl rfl rfl ?_
          refine go_getf (q := 62) f_ca_61 d_ca_divideWhole_59 rfl (pn_cf hV_16 (a := 40) fa_t) rfl ?_
          rw [(show B 40 = B 40 from rfl)]
          have q_21 := hV_16.2.1 40
          rw [(show B 40 = B 40 from rfl)] at q_21
          refine go_aload_n (q := 63) d_ca_divideWhole_62 rfl rfl rfl ?_
          refine go_getf (q := 66) f_ca_12 d_ca_divideWhole_63 rfl (pn_c16 hV_16) rfl ?_
          refine go_getf (q := 69) f_ca_97 d_ca_divideWhole_66 rfl (pn_c17 hV_16) rfl ?_
          exact k3 c3 c5 c7 s_11 c17 _ hV_16 (fr_.tr fr_10 fr_15)
      · have c22 : V (a + 1) = 0 := it_eqn c6
        refine go_iconst (q := 24) d_ca_divideWhole_23 rfl ?_
        exact k4 c3 c5 c22
    · have c23 : ¬ V (a + 3) = 1 := it_nen c4
      refine go_iconst (q := 15) d_ca_divideWhole_14 rfl ?_
      exact k5 c3 c23

set_option maxRecDepth 4000 in
theorem sk_mul {φ : go_F} {l : Launch} {h : mv_H} {n : Nat} {I tx wr ga gb mo mf mg : Nat → Int} {B : Nat → Int} {V : Nat → Nat} {x y : Nat} {b : Int} (hV : pn_V h (I, tx, wr, ga, gb, mo, mf, mg) B V) (rx : ro_ x) (ry : ro_ y) (hx : 50 ≤ x ∧ x < 390 ∧ (x % 5 = 1 ∨ x % 5 = 3)) (hy : 50 ≤ y ∧ y < 390 ∧ (y % 5 = 1 ∨ y % 5 = 3)) (hb : 0 ≤ b ∧ b ≤ 1) (s1 : V 41 * V y < 2 ^ 1000) (s2 : V 41 < 1073741824 ^ 17) (s3 : V y < 1073741824 ^ 17) (s4 : V x * V 43 < 2 ^ 1000) (s5 : V x < 1073741824 ^ 17) (s6 : V 43 < 1073741824 ^ 17) (s7 : ∃ i j, V 41 / (Nat.gcd (V 41) (V y)) < 1073741824 ^ i ∧ V x / (Nat.gcd (V x) (V 43)) < 1073741824 ^ j ∧ i + j ≤ 18) (s8 : ∃ i j, V y / (Nat.gcd (V 41) (V y)) < 1073741824 ^ i ∧ V 43 / (Nat.gcd (V x) (V 43)) < 1073741824 ^ j ∧ i + j ≤ 18)
    (k0 : ∀ (s_4 : Nat), ∀ (t_5 : Nat), ∀ (s_10 : Nat), ∀ (s_15 : Nat), ∀ (s_20 : Nat), ∀ (t_21 : Nat), ∀ (s_26 : Nat), ∀ (s_35 : Nat), B 40 = b → ∀ h' : mv_H, pn_V h' (I, tx, wr, ga, gb, mo, mf, mg) B (va_up (va_up (va_up (va_up (va_up (va_up (va_up (va_up (va_up (va_up (va_up (va_up (va_up (va_up (va_up (va_up (va_up (va_up (va_up (va_up V 22 s_4) 24 t_5) 26 (Nat.gcd (V 41) (V y))) 20 s_10) 18 ((V 41) % (Nat.gcd (V 41) (V y)))) 28 ((V 41) / (Nat.gcd (V 41) (V y)))) 20 s_15) 18 ((V y) % (Nat.gcd (V 41) (V y)))) 30 ((V y) / (Nat.gcd (V 41) (V y)))) 22 s_20) 24 t_21) 26 (Nat.gcd (V x) (V 43))) 20 s_26) 18 ((V x) % (Nat.gcd (V x) (V 43)))) 36 ((V x) / (Nat.gcd (V x) (V 43)))) 32 (((V 41) / (Nat.gcd (V 41) (V y))) * ((V x) / (Nat.gcd (V x) (V 43))))) 20 s_35) 18 ((V 43) % (Nat.gcd (V x) (V 43)))) 36 ((V 43) / (Nat.gcd (V x) (V 43)))) 34 (((V y) / (Nat.gcd (V 41) (V y))) * ((V 43) / (Nat.gcd (V x) (V 43))))) → fr_ 1 389 h h' → Go φ l m_ca_multiply (go_rm rd_ca_multiply rw_ca_multiply 0 0) (0, 0) 152 [some (mv_R 16), some (mv_R 40), some (mv_R x), some (mv_R y), some (mv_I b)] [mv_R 32, mv_I 0, mv_R 40, mv_R 16] h' n)
    (k1 : ∀ (s_4 : Nat), ∀ (t_5 : Nat), ∀ (s_10 : Nat), ∀ (s_15 : Nat), ∀ (s_20 : Nat), ∀ (t_21 : Nat), ∀ (s_26 : Nat), ∀ (s_35 : Nat), ¬ B 40 = b → ∀ h' : mv_H, pn_V h' (I, tx, wr, ga, gb, mo, mf, mg) B (va_up (va_up (va_up (va_up (va_up (va_up (va_up (va_up (va_up (va_up (va_up (va_up (va_up (va_up (va_up (va_up (va_up (va_up (va_up (va_up V 22 s_4) 24 t_5) 26 (Nat.gcd (V 41) (V y))) 20 s_10) 18 ((V 41) % (Nat.gcd (V 41) (V y)))) 28 ((V 41) / (Nat.gcd (V 41) (V y)))) 20 s_15) 18 ((V y) % (Nat.gcd (V 41) (V y)))) 30 ((V y) / (Nat.gcd (V 41) (V y)))) 22 s_20) 24 t_21) 26 (Nat.gcd (V x) (V 43))) 20 s_26) 18 ((V x) % (Nat.gcd (V x) (V 43)))) 36 ((V x) / (Nat.gcd (V x) (V 43)))) 32 (((V 41) / (Nat.gcd (V 41) (V y))) * ((V x) / (Nat.gcd (V x) (V 43))))) 20 s_35) 18 ((V 43) % (Nat.gcd (V x) (V 43)))) 36 ((V 43) / (Nat.gcd (V x) (V 43)))) 34 (((V y) / (Nat.gcd (V 41) (V y))) * ((V 43) / (Nat.gcd (V x) (V 43))))) → fr_ 1 389 h h' → Go φ l m_ca_multiply (go_rm rd_ca_multiply rw_ca_multiply 0 0) (0, 0) 152 [some (mv_R 16), some (mv_R 40), some (mv_R x), some (mv_R y), some (mv_I b)] [mv_R 32, mv_I 1, mv_R 40, mv_R 16] h' n) :
    Go φ l m_ca_multiply (go_rm rd_ca_multiply rw_ca_multiply 0 0) (0, 0) 0 [some (mv_R 16), some (mv_R 40), some (mv_R x), some (mv_R y), some (mv_I b)] [] h n := by
  refine go_aload_n (q := 1) d_ca_multiply_0 rfl rfl rfl ?_
  refine go_getf (q := 4) f_ca_12 d_ca_multiply_1 rfl (pn_c16 hV) rfl ?_
  refine go_aload_n (q := 5) d_ca_multiply_4 rfl rfl rfl ?_
  refine go_getf (q := 8) f_ca_54 d_ca_multiply_5 rfl (pn_cf hV (a := 40) fa_t) rfl ?_
  refine go_aload_n (q := 9) d_ca_multiply_8 rfl rfl rfl ?_
  refine go_aload_n (q := 10) d_ca_multiply_9 rfl rfl rfl ?_
  refine go_getf (q := 13) f_ca_23 d_ca_multiply_10 rfl (pn_c16 hV) rfl ?_
  refine cp_findGreatest (x := 41) (y := y) (qq := 26) (q := 16) l_ca_47 d_ca_multiply_13 rfl hV (by unfold ro_; decide) ry (by unfold ro_; decide) (by omega) (show rn_ 26 = 18 from rfl) (by rw [(show V 41 = V 41 from rfl), (show V y = V y from rfl)]; assumption) (Nat.le_of_ble_eq_true rfl) ⟨by decide, by decide, by decide, by decide⟩ (fun s_4 t_5 h_1 hV_2 fr_3 => ?_)
  have hV_6 : pn_V h_1 (I, tx, wr, ga, gb, mo, mf, mg) B (va_up (va_up (va_up V 22 s_4) 24 t_5) 26 (Nat.gcd (V 41) (V y))) := by
    try rw [(show V 41 = V 41 from rfl)] at hV_2
    try rw [(show V y = V y from rfl)] at hV_2
    exact hV_2
  refine go_aload_n (q := 17) d_ca_multiply_16 rfl rfl rfl ?_
  refine go_getf (q := 20) f_ca_12 d_ca_multiply_17 rfl (pn_c16 hV_6) rfl ?_
  refine go_aload_n (q := 21) d_ca_multiply_20 rfl rfl rfl ?_
  refine go_getf (q := 24) f_ca_54 d_ca_multiply_21 rfl (pn_cf hV_6 (a := 40) fa_t) rfl ?_
  refine go_aload_n (q := 25) d_ca_multiply_24 rfl rfl rfl ?_
  refine go_getf (q := 28) f_ca_23 d_ca_multiply_25 rfl (pn_c16 hV_6) rfl ?_
  refine go_aload_n (q := 29) d_ca_multiply_28 rfl rfl rfl ?_
  refine go_getf (q := 32) f_ca_27 d_ca_multiply_29 rfl (pn_c16 hV_6) rfl ?_
  refine cp_divide (x := 41) (y := 26) (qq := 28) (q := 35) l_ca_51 d_ca_multiply_32 rfl hV_6 (by unfold ro_; decide) (by unfold ro_; decide) (by unfold ro_; decide) (by omega) (show rn_ 28 = 18 from rfl) (by rw [(show (va_up (va_up (va_up V 22 s_4) 24 t_5) 26 (Nat.gcd (V 41) (V y))) 41 = V 41 from ((va_up_ne _ _ (by omega)).trans ((va_up_ne _ _ (by omega)).trans ((va_up_ne _ _ (by omega)).trans rfl))))]; assumption) (Nat.le_of_ble_eq_true rfl) ⟨by decide, by decide, by decide, by decide⟩ (fun s_10 h_7 hV_8 fr_9 => ?_)
  have hV_11 : pn_V h_7 (I, tx, wr, ga, gb, mo, mf, mg) B (va_up (va_up (va_up (va_up (va_up (va_up V 22 s_4) 24 t_5) 26 (Nat.gcd (V 41) (V y))) 20 s_10) 18 ((V 41) % (Nat.gcd (V 41) (V y)))) 28 ((V 41) / (Nat.gcd (V 41) (V y)))) := by
    try rw [(show (va_up (va_up (va_up V 22 s_4) 24 t_5) 26 (Nat.gcd (V 41) (V y))) 41 = V 41 from ((va_up_ne _ _ (by omega)).trans ((va_up_ne _ _ (by omega)).trans ((va_up_ne _ _ (by omega)).trans rfl))))] at hV_8
    try rw [(show (va_up (va_up (va_up V 22 s_4) 24 t_5) 26 (Nat.gcd (V 41) (V y))) 26 = Nat.gcd (V 41) (V y) from (va_up_self _ _ _))] at hV_8
    exact hV_8
  refine go_aload_n (q := 36) d_ca_multiply_35 rfl rfl rfl ?_
  refine go_getf (q := 39) f_ca_12 d_ca_multiply_36 rfl (pn_c16 hV_11) rfl ?_
  refine go_aload_n (q := 40) d_ca_multiply_39 rfl rfl rfl ?_
  refine go_aload_n (q := 41) d_ca_multiply_40 rfl rfl rfl ?_
  refine go_getf (q := 44) f_ca_23 d_ca_multiply_41 rfl (pn_c16 hV_11) rfl ?_
  refine go_aload_n (q := 45) d_ca_multiply_44 rfl rfl rfl ?_
  refine go_getf (q := 48) f_ca_30 d_ca_multiply_45 rfl (pn_c16 hV_11) rfl ?_
  refine cp_divide (x := y) (y := 26) (qq := 30) (q := 51) l_ca_51 d_ca_multiply_48 rfl hV_11 ry (by unfold ro_; decide) (by unfold ro_; decide) (by omega) (show rn_ 30 = 18 from rfl) (by rw [(show (va_up (va_up (va_up (va_up (va_up (va_up V 22 s_4) 24 t_5) 26 (Nat.gcd (V 41) (V y))) 20 s_10) 18 ((V 41) % (Nat.gcd (V 41) (V y)))) 28 ((V 41) / (Nat.gcd (V 41) (V y)))) y = V y from ((va_up_ne _ _ (by omega)).trans ((va_up_ne _ _ (by omega)).trans ((va_up_ne _ _ (by omega)).trans ((va_up_ne _ _ (by omega)).trans ((va_up_ne _ _ (by omega)).trans ((va_up_ne _ _ (by omega)).trans rfl)))))))]; assumption) (Nat.le_of_ble_eq_true rfl) ⟨by decide, by decide, by decide, by decide⟩ (fun s_15 h_12 hV_13 fr_14 => ?_)
  have hV_16 : pn_V h_12 (I, tx, wr, ga, gb, mo, mf, mg) B (va_up (va_up (va_up (va_up (va_up (va_up (va_up (va_up (va_up V 22 s_4) 24 t_5) 26 (Nat.gcd (V 41) (V y))) 20 s_10) 18 ((V 41) % (Nat.gcd (V 41) (V y)))) 28 ((V 41) / (Nat.gcd (V 41) (V y)))) 20 s_15) 18 ((V y) % (Nat.gcd (V 41) (V y)))) 30 ((V y) / (Nat.gcd (V 41) (V y)))) := by
    try rw [(show (va_up (va_up (va_up (va_up (va_up (va_up V 22 s_4) 24 t_5) 26 (Nat.gcd (V 41) (V y))) 20 s_10) 18 ((V 41) % (Nat.gcd (V 41) (V y)))) 28 ((V 41) / (Nat.gcd (V 41) (V y)))) y = V y from ((va_up_ne _ _ (by omega)).trans ((va_up_ne _ _ (by omega)).trans ((va_up_ne _ _ (by omega)).trans ((va_up_ne _ _ (by omega)).trans ((va_up_ne _ _ (by omega)).trans ((va_up_ne _ _ (by omega)).trans rfl)))))))] at hV_13
    try rw [(show (va_up (va_up (va_up (va_up (va_up (va_up V 22 s_4) 24 t_5) 26 (Nat.gcd (V 41) (V y))) 20 s_10) 18 ((V 41) % (Nat.gcd (V 41) (V y)))) 28 ((V 41) / (Nat.gcd (V 41) (V y)))) 26 = Nat.gcd (V 41) (V y) from ((va_up_ne _ _ (by omega)).trans ((va_up_ne _ _ (by omega)).trans ((va_up_ne _ _ (by omega)).trans (va_up_self _ _ _)))))] at hV_13
    exact hV_13
  refine go_aload_n (q := 52) d_ca_multiply_51 rfl rfl rfl ?_
  refine go_getf (q := 55) f_ca_12 d_ca_multiply_52 rfl (pn_c16 hV_16) rfl ?_
  refine go_aload_n (q := 56) d_ca_multiply_55 rfl rfl rfl ?_
  refine go_aload_n (q := 57) d_ca_multiply_56 rfl rfl rfl ?_
  refine go_getf (q := 60) f_ca_42 d_ca_multiply_57 rfl (pn_cf hV_16 (a := 40) fa_t) rfl ?_
  refine go_aload_n (q := 61) d_ca_multiply_60 rfl rfl rfl ?_
  refine go_getf (q := 64) f_ca_23 d_ca_multiply_61 rfl (pn_c16 hV_16) rfl ?_
  refine cp_findGreatest (x := x) (y := 43) (qq := 26) (q := 67) l_ca_47 d_ca_multiply_64 rfl hV_16 rx (by unfold ro_; decide) (by unfold ro_; decide) (by omega) (show rn_ 26 = 18 from rfl) (by rw [(show (va_up (va_up (va_up (va_up (va_up (va_up (va_up (va_up (va_up V 22 s_4) 24 t_5) 26 (Nat.gcd (V 41) (V y))) 20 s_10) 18 ((V 41) % (Nat.gcd (V 41) (V y)))) 28 ((V 41) / (Nat.gcd (V 41) (V y)))) 20 s_15) 18 ((V y) % (Nat.gcd (V 41) (V y)))) 30 ((V y) / (Nat.gcd (V 41) (V y)))) x = V x from ((va_up_ne _ _ (by omega)).trans ((va_up_ne _ _ (by omega)).trans ((va_up_ne _ _ (by omega)).trans ((va_up_ne _ _ (by omega)).trans ((va_up_ne _ _ (by omega)).trans ((va_up_ne _ _ (by omega)).trans ((va_up_ne _ _ (by omega)).trans ((va_up_ne _ _ (by omega)).trans ((va_up_ne _ _ (by omega)).trans rfl)))))))))), (show (va_up (va_up (va_up (va_up (va_up (va_up (va_up (va_up (va_up V 22 s_4) 24 t_5) 26 (Nat.gcd (V 41) (V y))) 20 s_10) 18 ((V 41) % (Nat.gcd (V 41) (V y)))) 28 ((V 41) / (Nat.gcd (V 41) (V y)))) 20 s_15) 18 ((V y) % (Nat.gcd (V 41) (V y)))) 30 ((V y) / (Nat.gcd (V 41) (V y)))) 43 = V 43 from ((va_up_ne _ _ (by omega)).trans ((va_up_ne _ _ (by omega)).trans ((va_up_ne _ _ (by omega)).trans ((va_up_ne _ _ (by omega)).trans ((va_up_ne _ _ (by omega)).trans ((va_up_ne _ _ (by omega)).trans ((va_up_ne _ _ (by omega)).trans ((va_up_ne _ _ (by omega)).trans ((va_up_ne _ _ (by omega)).trans rfl))))))))))]; assumption) (Nat.le_of_ble_eq_true rfl) ⟨by decide, by decide, by decide, by decide⟩ (fun s_20 t_21 h_17 hV_18 fr_19 => ?_)
  have hV_22 : pn_V h_17 (I, tx, wr, ga, gb, mo, mf, mg) B (va_up (va_up (va_up (va_up (va_up (va_up (va_up (va_up (va_up (va_up (va_up (va_up V 22 s_4) 24 t_5) 26 (Nat.gcd (V 41) (V y))) 20 s_10) 18 ((V 41) % (Nat.gcd (V 41) (V y)))) 28 ((V 41) / (Nat.gcd (V 41) (V y)))) 20 s_15) 18 ((V y) % (Nat.gcd (V 41) (V y)))) 30 ((V y) / (Nat.gcd (V 41) (V y)))) 22 s_20) 24 t_21) 26 (Nat.gcd (V x) (V 43))) := by
    try rw [(show (va_up (va_up (va_up (va_up (va_up (va_up (va_up (va_up (va_up V 22 s_4) 24 t_5) 26 (Nat.gcd (V 41) (V y))) 20 s_10) 18 ((V 41) % (Nat.gcd (V 41) (V y)))) 28 ((V 41) / (Nat.gcd (V 41) (V y)))) 20 s_15) 18 ((V y) % (Nat.gcd (V 41) (V y)))) 30 ((V y) / (Nat.gcd (V 41) (V y)))) x = V x from ((va_up_ne _ _ (by omega)).trans ((va_up_ne _ _ (by omega)).trans ((va_up_ne _ _ (by omega)).trans ((va_up_ne _ _ (by omega)).trans ((va_up_ne _ _ (by omega)).trans ((va_up_ne _ _ (by omega)).trans ((va_up_ne _ _ (by omega)).trans ((va_up_ne _ _ (by omega)).trans ((va_up_ne _ _ (by omega)).trans rfl))))))))))] at hV_18
    try rw [(show (va_up (va_up (va_up (va_up (va_up (va_up (va_up (va_up (va_up V 22 s_4) 24 t_5) 26 (Nat.gcd (V 41) (V y))) 20 s_10) 18 ((V 41) % (Nat.gcd (V 41) (V y)))) 28 ((V 41) / (Nat.gcd (V 41) (V y)))) 20 s_15) 18 ((V y) % (Nat.gcd (V 41) (V y)))) 30 ((V y) / (Nat.gcd (V 41) (V y)))) 43 = V 43 from ((va_up_ne _ _ (by omega)).trans ((va_up_ne _ _ (by omega)).trans ((va_up_ne _ _ (by omega)).trans ((va_up_ne _ _ (by omega)).trans ((va_up_ne _ _ (by omega)).trans ((va_up_ne _ _ (by omega)).trans ((va_up_ne _ _ (by omega)).trans ((va_up_ne _ _ (by omega)).trans ((va_up_ne _ _ (by omega)).trans rfl))))))))))] at hV_18
    exact hV_18
  refine go_aload_n (q := 68) d_ca_multiply_67 rfl rfl rfl ?_
  refine go_getf (q := 71) f_ca_12 d_ca_multiply_68 rfl (pn_c16 hV_22) rfl ?_
  refine go_aload_n (q := 72) d_ca_multiply_71 rfl rfl rfl ?_
  refine go_aload_n (q := 73) d_ca_multiply_72 rfl rfl rfl ?_
  refine go_getf (q := 76) f_ca_23 d_ca_multiply_73 rfl (pn_c16 hV_22) rfl ?_
  refine go_aload_n (q := 77) d_ca_multiply_76 rfl rfl rfl ?_
  refine go_getf (q := 80) f_ca_39 d_ca_multiply_77 rfl (pn_c16 hV_22) rfl ?_
  refine cp_divide (x := x) (y := 26) (qq := 36) (q := 83) l_ca_51 d_ca_multiply_80 rfl hV_22 rx (by unfold ro_; decide) (by unfold ro_; decide) (by omega) (show rn_ 36 = 18 from rfl) (by rw [(show (va_up (va_up (va_up (va_up (va_up (va_up (va_up (va_up (va_up (va_up (va_up (va_up V 22 s_4) 24 t_5) 26 (Nat.gcd (V 41) (V y))) 20 s_10) 18 ((V 41) % (Nat.gcd (V 41) (V y)))) 28 ((V 41) / (Nat.gcd (V 41) (V y)))) 20 s_15) 18 ((V y) % (Nat.gcd (V 41) (V y)))) 30 ((V y) / (Nat.gcd (V 41) (V y)))) 22 s_20) 24 t_21) 26 (Nat.gcd (V x) (V 43))) x = V x from ((va_up_ne _ _ (by omega)).trans ((va_up_ne _ _ (by omega)).trans ((va_up_ne _ _ (by omega)).trans ((va_up_ne _ _ (by omega)).trans ((va_up_ne _ _ (by omega)).trans ((va_up_ne _ _ (by omega)).trans ((va_up_ne _ _ (by omega)).trans ((va_up_ne _ _ (by omega)).trans ((va_up_ne _ _ (by omega)).trans ((va_up_ne _ _ (by omega)).trans ((va_up_ne _ _ (by omega)).trans ((va_up_ne _ _ (by omega)).trans rfl)))))))))))))]; assumption) (Nat.le_of_ble_eq_true rfl) ⟨by decide, by decide, by decide, by decide⟩ (fun s_26 h_23 hV_24 fr_25 => ?_)
  have hV_27 : pn_V h_23 (I, tx, wr, ga, gb, mo, mf, mg) B (va_up (va_up (va_up (va_up (va_up (va_up (va_up (va_up (va_up (va_up (va_up (va_up (va_up (va_up (va_up V 22 s_4) 24 t_5) 26 (Nat.gcd (V 41) (V y))) 20 s_10) 18 ((V 41) % (Nat.gcd (V 41) (V y)))) 28 ((V 41) / (Nat.gcd (V 41) (V y)))) 20 s_15) 18 ((V y) % (Nat.gcd (V 41) (V y)))) 30 ((V y) / (Nat.gcd (V 41) (V y)))) 22 s_20) 24 t_21) 26 (Nat.gcd (V x) (V 43))) 20 s_26) 18 ((V x) % (Nat.gcd (V x) (V 43)))) 36 ((V x) / (Nat.gcd (V x) (V 43)))) := by
    try rw [(show (va_up (va_up (va_up (va_up (va_up (va_up (va_up (va_up (va_up (va_up (va_up (va_up V 22 s_4) 24 t_5) 26 (Nat.gcd (V 41) (V y))) 20 s_10) 18 ((V 41) % (Nat.gcd (V 41) (V y)))) 28 ((V 41) / (Nat.gcd (V 41) (V y)))) 20 s_15) 18 ((V y) % (Nat.gcd (V 41) (V y)))) 30 ((V y) / (Nat.gcd (V 41) (V y)))) 22 s_20) 24 t_21) 26 (Nat.gcd (V x) (V 43))) x = V x from ((va_up_ne _ _ (by omega)).trans ((va_up_ne _ _ (by omega)).trans ((va_up_ne _ _ (by omega)).trans ((va_up_ne _ _ (by omega)).trans ((va_up_ne _ _ (by omega)).trans ((va_up_ne _ _ (by omega)).trans ((va_up_ne _ _ (by omega)).trans ((va_up_ne _ _ (by omega)).trans ((va_up_ne _ _ (by omega)).trans ((va_up_ne _ _ (by omega)).trans ((va_up_ne _ _ (by omega)).trans ((va_up_ne _ _ (by omega)).trans rfl)))))))))))))] at hV_24
    try rw [(show (va_up (va_up (va_up (va_up (va_up (va_up (va_up (va_up (va_up (va_up (va_up (va_up V 22 s_4) 24 t_5) 26 (Nat.gcd (V 41) (V y))) 20 s_10) 18 ((V 41) % (Nat.gcd (V 41) (V y)))) 28 ((V 41) / (Nat.gcd (V 41) (V y)))) 20 s_15) 18 ((V y) % (Nat.gcd (V 41) (V y)))) 30 ((V y) / (Nat.gcd (V 41) (V y)))) 22 s_20) 24 t_21) 26 (Nat.gcd (V x) (V 43))) 26 = Nat.gcd (V x) (V 43) from (va_up_self _ _ _))] at hV_24
    exact hV_24
  refine go_aload_n (q := 84) d_ca_multiply_83 rfl rfl rfl ?_
  refine go_getf (q := 87) f_ca_33 d_ca_multiply_84 rfl (pn_c16 hV_27) rfl ?_
  refine go_aload_n (q := 88) d_ca_multiply_87 rfl rfl rfl ?_
  refine go_getf (q := 91) f_ca_27 d_ca_multiply_88 rfl (pn_c16 hV_27) rfl ?_
  refine go_aload_n (q := 92) d_ca_multiply_91 rfl rfl rfl ?_
  refine go_getf (q := 95) f_ca_39 d_ca_multiply_92 rfl (pn_c16 hV_27) rfl ?_
  refine cp_becomeProduct (p := 32) (x := 28) (y := 36) (q := 98) l_ca_57 d_ca_multiply_95 rfl hV_27 (by unfold ro_; decide) (by unfold ro_; decide) (by unfold ro_; decide) (by omega) (by rw [(show (va_up (va_up (va_up (va_up (va_up (va_up (va_up (va_up (va_up (va_up (va_up (va_up (va_up (va_up (va_up V 22 s_4) 24 t_5) 26 (Nat.gcd (V 41) (V y))) 20 s_10) 18 ((V 41) % (Nat.gcd (V 41) (V y)))) 28 ((V 41) / (Nat.gcd (V 41) (V y)))) 20 s_15) 18 ((V y) % (Nat.gcd (V 41) (V y)))) 30 ((V y) / (Nat.gcd (V 41) (V y)))) 22 s_20) 24 t_21) 26 (Nat.gcd (V x) (V 43))) 20 s_26) 18 ((V x) % (Nat.gcd (V x) (V 43)))) 36 ((V x) / (Nat.gcd (V x) (V 43)))) 28 = (V 41) / (Nat.gcd (V 41) (V y)) from ((va_up_ne _ _ (by omega)).trans ((va_up_ne _ _ (by omega)).trans ((va_up_ne _ _ (by omega)).trans ((va_up_ne _ _ (by omega)).trans ((va_up_ne _ _ (by omega)).trans ((va_up_ne _ _ (by omega)).trans ((va_up_ne _ _ (by omega)).trans ((va_up_ne _ _ (by omega)).trans ((va_up_ne _ _ (by omega)).trans (va_up_self _ _ _))))))))))), (show (va_up (va_up (va_up (va_up (va_up (va_up (va_up (va_up (va_up (va_up (va_up (va_up (va_up (va_up (va_up V 22 s_4) 24 t_5) 26 (Nat.gcd (V 41) (V y))) 20 s_10) 18 ((V 41) % (Nat.gcd (V 41) (V y)))) 28 ((V 41) / (Nat.gcd (V 41) (V y)))) 20 s_15) 18 ((V y) % (Nat.gcd (V 41) (V y)))) 30 ((V y) / (Nat.gcd (V 41) (V y)))) 22 s_20) 24 t_21) 26 (Nat.gcd (V x) (V 43))) 20 s_26) 18 ((V x) % (Nat.gcd (V x) (V 43)))) 36 ((V x) / (Nat.gcd (V x) (V 43)))) 36 = (V x) / (Nat.gcd (V x) (V 43)) from (va_up_self _ _ _)), (show rn_ 32 = 18 from rfl)]; assumption) (Nat.le_of_ble_eq_true rfl) ⟨by decide, by decide, by decide, by decide⟩ (fun h_28 hV_29 fr_30 => ?_)
  have hV_31 : pn_V h_28 (I, tx, wr, ga, gb, mo, mf, mg) B (va_up (va_up (va_up (va_up (va_up (va_up (va_up (va_up (va_up (va_up (va_up (va_up (va_up (va_up (va_up (va_up V 22 s_4) 24 t_5) 26 (Nat.gcd (V 41) (V y))) 20 s_10) 18 ((V 41) % (Nat.gcd (V 41) (V y)))) 28 ((V 41) / (Nat.gcd (V 41) (V y)))) 20 s_15) 18 ((V y) % (Nat.gcd (V 41) (V y)))) 30 ((V y) / (Nat.gcd (V 41) (V y)))) 22 s_20) 24 t_21) 26 (Nat.gcd (V x) (V 43))) 20 s_26) 18 ((V x) % (Nat.gcd (V x) (V 43)))) 36 ((V x) / (Nat.gcd (V x) (V 43)))) 32 (((V 41) / (Nat.gcd (V 41) (V y))) * ((V x) / (Nat.gcd (V x) (V 43))))) := by
    try rw [(show (va_up (va_up (va_up (va_up (va_up (va_up (va_up (va_up (va_up (va_up (va_up (va_up (va_up (va_up (va_up V 22 s_4) 24 t_5) 26 (Nat.gcd (V 41) (V y))) 20 s_10) 18 ((V 41) % (Nat.gcd (V 41) (V y)))) 28 ((V 41) / (Nat.gcd (V 41) (V y)))) 20 s_15) 18 ((V y) % (Nat.gcd (V 41) (V y)))) 30 ((V y) / (Nat.gcd (V 41) (V y)))) 22 s_20) 24 t_21) 26 (Nat.gcd (V x) (V 43))) 20 s_26) 18 ((V x) % (Nat.gcd (V x) (V 43)))) 36 ((V x) / (Nat.gcd (V x) (V 43)))) 28 = (V 41) / (Nat.gcd (V 41) (V y)) from ((va_up_ne _ _ (by omega)).trans ((va_up_ne _ _ (by omega)).trans ((va_up_ne _ _ (by omega)).trans ((va_up_ne _ _ (by omega)).trans ((va_up_ne _ _ (by omega)).trans ((va_up_ne _ _ (by omega)).trans ((va_up_ne _ _ (by omega)).trans ((va_up_ne _ _ (by omega)).trans ((va_up_ne _ _ (by omega)).trans (va_up_self _ _ _)))))))))))] at hV_29
    try rw [(show (va_up (va_up (va_up (va_up (va_up (va_up (va_up (va_up (va_up (va_up (va_up (va_up (va_up (va_up (va_up V 22 s_4) 24 t_5) 26 (Nat.gcd (V 41) (V y))) 20 s_10) 18 ((V 41) % (Nat.gcd (V 41) (V y)))) 28 ((V 41) / (Nat.gcd (V 41) (V y)))) 20 s_15) 18 ((V y) % (Nat.gcd (V 41) (V y)))) 30 ((V y) / (Nat.gcd (V 41) (V y)))) 22 s_20) 24 t_21) 26 (Nat.gcd (V x) (V 43))) 20 s_26) 18 ((V x) % (Nat.gcd (V x) (V 43)))) 36 ((V x) / (Nat.gcd (V x) (V 43)))) 36 = (V x) / (Nat.gcd (V x) (V 43)) from (va_up_self _ _ _))] at hV_29
    exact hV_29
  refine go_aload_n (q := 99) d_ca_multiply_98 rfl rfl rfl ?_
  refine go_getf (q := 102) f_ca_12 d_ca_multiply_99 rfl (pn_c16 hV_31) rfl ?_
  refine go_aload_n (q := 103) d_ca_multiply_102 rfl rfl rfl ?_
  refine go_getf (q := 106) f_ca_42 d_ca_multiply_103 rfl (pn_cf hV_31 (a := 40) fa_t) rfl ?_
  refine go_aload_n (q := 107) d_ca_multiply_106 rfl rfl rfl ?_
  refine go_getf (q := 110) f_ca_23 d_ca_multiply_107 rfl (pn_c16 hV_31) rfl ?_
  refine go_aload_n (q := 111) d_ca_multiply_110 rfl rfl rfl ?_
  refine go_getf (q := 114) f_ca_39 d_ca_multiply_111 rfl (pn_c16 hV_31) rfl ?_
  refine cp_divide (x := 43) (y := 26) (qq := 36) (q := 117) l_ca_51 d_ca_multiply_114 rfl hV_31 (by unfold ro_; decide) (by unfold ro_; decide) (by unfold ro_; decide) (by omega) (show rn_ 36 = 18 from rfl) (by rw [(show (va_up (va_up (va_up (va_up (va_up (va_up (va_up (va_up (va_up (va_up (va_up (va_up (va_up (va_up (va_up (va_up V 22 s_4) 24 t_5) 26 (Nat.gcd (V 41) (V y))) 20 s_10) 18 ((V 41) % (Nat.gcd (V 41) (V y)))) 28 ((V 41) / (Nat.gcd (V 41) (V y)))) 20 s_15) 18 ((V y) % (Nat.gcd (V 41) (V y)))) 30 ((V y) / (Nat.gcd (V 41) (V y)))) 22 s_20) 24 t_21) 26 (Nat.gcd (V x) (V 43))) 20 s_26) 18 ((V x) % (Nat.gcd (V x) (V 43)))) 36 ((V x) / (Nat.gcd (V x) (V 43)))) 32 (((V 41) / (Nat.gcd (V 41) (V y))) * ((V x) / (Nat.gcd (V x) (V 43))))) 43 = V 43 from ((va_up_ne _ _ (by omega)).trans ((va_up_ne _ _ (by omega)).trans ((va_up_ne _ _ (by omega)).trans ((va_up_ne _ _ (by omega)).trans ((va_up_ne _ _ (by omega)).trans ((va_up_ne _ _ (by omega)).trans ((va_up_ne _ _ (by omega)).trans ((va_up_ne _ _ (by omega)).trans ((va_up_ne _ _ (by omega)).trans ((va_up_ne _ _ (by omega)).trans ((va_up_ne _ _ (by omega)).trans ((va_up_ne _ _ (by omega)).trans ((va_up_ne _ _ (by omega)).trans ((va_up_ne _ _ (by omega)).trans ((va_up_ne _ _ (by omega)).trans ((va_up_ne _ _ (by omega)).trans rfl)))))))))))))))))]; assumption) (Nat.le_of_ble_eq_true rfl) ⟨by decide, by decide, by decide, by decide⟩ (fun s_35 h_32 hV_33 fr_34 => ?_)
  have hV_36 : pn_V h_32 (I, tx, wr, ga, gb, mo, mf, mg) B (va_up (va_up (va_up (va_up (va_up (va_up (va_up (va_up (va_up (va_up (va_up (va_up (va_up (va_up (va_up (va_up (va_up (va_up (va_up V 22 s_4) 24 t_5) 26 (Nat.gcd (V 41) (V y))) 20 s_10) 18 ((V 41) % (Nat.gcd (V 41) (V y)))) 28 ((V 41) / (Nat.gcd (V 41) (V y)))) 20 s_15) 18 ((V y) % (Nat.gcd (V 41) (V y)))) 30 ((V y) / (Nat.gcd (V 41) (V y)))) 22 s_20) 24 t_21) 26 (Nat.gcd (V x) (V 43))) 20 s_26) 18 ((V x) % (Nat.gcd (V x) (V 43)))) 36 ((V x) / (Nat.gcd (V x) (V 43)))) 32 (((V 41) / (Nat.gcd (V 41) (V y))) * ((V x) / (Nat.gcd (V x) (V 43))))) 20 s_35) 18 ((V 43) % (Nat.gcd (V x) (V 43)))) 36 ((V 43) / (Nat.gcd (V x) (V 43)))) := by
    try rw [(show (va_up (va_up (va_up (va_up (va_up (va_up (va_up (va_up (va_up (va_up (va_up (va_up (va_up (va_up (va_up (va_up V 22 s_4) 24 t_5) 26 (Nat.gcd (V 41) (V y))) 20 s_10) 18 ((V 41) % (Nat.gcd (V 41) (V y)))) 28 ((V 41) / (Nat.gcd (V 41) (V y)))) 20 s_15) 18 ((V y) % (Nat.gcd (V 41) (V y)))) 30 ((V y) / (Nat.gcd (V 41) (V y)))) 22 s_20) 24 t_21) 26 (Nat.gcd (V x) (V 43))) 20 s_26) 18 ((V x) % (Nat.gcd (V x) (V 43)))) 36 ((V x) / (Nat.gcd (V x) (V 43)))) 32 (((V 41) / (Nat.gcd (V 41) (V y))) * ((V x) / (Nat.gcd (V x) (V 43))))) 43 = V 43 from ((va_up_ne _ _ (by omega)).trans ((va_up_ne _ _ (by omega)).trans ((va_up_ne _ _ (by omega)).trans ((va_up_ne _ _ (by omega)).trans ((va_up_ne _ _ (by omega)).trans ((va_up_ne _ _ (by omega)).trans ((va_up_ne _ _ (by omega)).trans ((va_up_ne _ _ (by omega)).trans ((va_up_ne _ _ (by omega)).trans ((va_up_ne _ _ (by omega)).trans ((va_up_ne _ _ (by omega)).trans ((va_up_ne _ _ (by omega)).trans ((va_up_ne _ _ (by omega)).trans ((va_up_ne _ _ (by omega)).trans ((va_up_ne _ _ (by omega)).trans ((va_up_ne _ _ (by omega)).trans rfl)))))))))))))))))] at hV_33
    try rw [(show (va_up (va_up (va_up (va_up (va_up (va_up (va_up (va_up (va_up (va_up (va_up (va_up (va_up (va_up (va_up (va_up V 22 s_4) 24 t_5) 26 (Nat.gcd (V 41) (V y))) 20 s_10) 18 ((V 41) % (Nat.gcd (V 41) (V y)))) 28 ((V 41) / (Nat.gcd (V 41) (V y)))) 20 s_15) 18 ((V y) % (Nat.gcd (V 41) (V y)))) 30 ((V y) / (Nat.gcd (V 41) (V y)))) 22 s_20) 24 t_21) 26 (Nat.gcd (V x) (V 43))) 20 s_26) 18 ((V x) % (Nat.gcd (V x) (V 43)))) 36 ((V x) / (Nat.gcd (V x) (V 43)))) 32 (((V 41) / (Nat.gcd (V 41) (V y))) * ((V x) / (Nat.gcd (V x) (V 43))))) 26 = Nat.gcd (V x) (V 43) from ((va_up_ne _ _ (by omega)).trans ((va_up_ne _ _ (by omega)).trans ((va_up_ne _ _ (by omega)).trans ((va_up_ne _ _ (by omega)).trans (va_up_self _ _ _))))))] at hV_33
    exact hV_33
  refine go_aload_n (q := 118) d_ca_multiply_117 rfl rfl rfl ?_
  refine go_getf (q := 121) f_ca_36 d_ca_multiply_118 rfl (pn_c16 hV_36) rfl ?_
  refine go_aload_n (q := 122) d_ca_multiply_121 rfl rfl rfl ?_
  refine go_getf (q := 125) f_ca_30 d_ca_multiply_122 rfl (pn_c16 hV_36) rfl ?_
  refine go_aload_n (q := 126) d_ca_multiply_125 rfl rfl rfl ?_
  refine go_getf (q := 129) f_ca_39 d_ca_multiply_126 rfl (pn_c16 hV_36) rfl ?_
  refine cp_becomeProduct (p := 34) (x := 30) (y := 36) (q := 132) l_ca_57 d_ca_multiply_129 rfl hV_36 (by unfold ro_; decide) (by unfold ro_; decide) (by unfold ro_; decide) (by omega) (by rw [(show (va_up (va_up (va_up (va_up (va_up (va_up (va_up (va_up (va_up (va_up (va_up (va_up (va_up (va_up (va_up (va_up (va_up (va_up (va_up V 22 s_4) 24 t_5) 26 (Nat.gcd (V 41) (V y))) 20 s_10) 18 ((V 41) % (Nat.gcd (V 41) (V y)))) 28 ((V 41) / (Nat.gcd (V 41) (V y)))) 20 s_15) 18 ((V y) % (Nat.gcd (V 41) (V y)))) 30 ((V y) / (Nat.gcd (V 41) (V y)))) 22 s_20) 24 t_21) 26 (Nat.gcd (V x) (V 43))) 20 s_26) 18 ((V x) % (Nat.gcd (V x) (V 43)))) 36 ((V x) / (Nat.gcd (V x) (V 43)))) 32 (((V 41) / (Nat.gcd (V 41) (V y))) * ((V x) / (Nat.gcd (V x) (V 43))))) 20 s_35) 18 ((V 43) % (Nat.gcd (V x) (V 43)))) 36 ((V 43) / (Nat.gcd (V x) (V 43)))) 30 = (V y) / (Nat.gcd (V 41) (V y)) from ((va_up_ne _ _ (by omega)).trans ((va_up_ne _ _ (by omega)).trans ((va_up_ne _ _ (by omega)).trans ((va_up_ne _ _ (by omega)).trans ((va_up_ne _ _ (by omega)).trans ((va_up_ne _ _ (by omega)).trans ((va_up_ne _ _ (by omega)).trans ((va_up_ne _ _ (by omega)).trans ((va_up_ne _ _ (by omega)).trans ((va_up_ne _ _ (by omega)).trans (va_up_self _ _ _)))))))))))), (show (va_up (va_up (va_up (va_up (va_up (va_up (va_up (va_up (va_up (va_up (va_up (va_up (va_up (va_up (va_up (va_up (va_up (va_up (va_up V 22 s_4) 24 t_5) 26 (Nat.gcd (V 41) (V y))) 20 s_10) 18 ((V 41) % (Nat.gcd (V 41) (V y)))) 28 ((V 41) / (Nat.gcd (V 41) (V y)))) 20 s_15) 18 ((V y) % (Nat.gcd (V 41) (V y)))) 30 ((V y) / (Nat.gcd (V 41) (V y)))) 22 s_20) 24 t_21) 26 (Nat.gcd (V x) (V 43))) 20 s_26) 18 ((V x) % (Nat.gcd (V x) (V 43)))) 36 ((V x) / (Nat.gcd (V x) (V 43)))) 32 (((V 41) / (Nat.gcd (V 41) (V y))) * ((V x) / (Nat.gcd (V x) (V 43))))) 20 s_35) 18 ((V 43) % (Nat.gcd (V x) (V 43)))) 36 ((V 43) / (Nat.gcd (V x) (V 43)))) 36 = (V 43) / (Nat.gcd (V x) (V 43)) from (va_up_self _ _ _)), (show rn_ 34 = 18 from rfl)]; assumption) (Nat.le_of_ble_eq_true rfl) ⟨by decide, by decide, by decide, by decide⟩ (fun h_37 hV_38 fr_39 => ?_)
  have hV_40 : pn_V h_37 (I, tx, wr, ga, gb, mo, mf, mg) B (va_up (va_up (va_up (va_up (va_up (va_up (va_up (va_up (va_up (va_up (va_up (va_up (va_up (va_up (va_up (va_up (va_up (va_up (va_up (va_up V 22 s_4) 24 t_5) 26 (Nat.gcd (V 41) (V y))) 20 s_10) 18 ((V 41) % (Nat.gcd (V 41) (V y)))) 28 ((V 41) / (Nat.gcd (V 41) (V y)))) 20 s_15) 18 ((V y) % (Nat.gcd (V 41) (V y)))) 30 ((V y) / (Nat.gcd (V 41) (V y)))) 22 s_20) 24 t_21) 26 (Nat.gcd (V x) (V 43))) 20 s_26) 18 ((V x) % (Nat.gcd (V x) (V 43)))) 36 ((V x) / (Nat.gcd (V x) (V 43)))) 32 (((V 41) / (Nat.gcd (V 41) (V y))) * ((V x) / (Nat.gcd (V x) (V 43))))) 20 s_35) 18 ((V 43) % (Nat.gcd (V x) (V 43)))) 36 ((V 43) / (Nat.gcd (V x) (V 43)))) 34 (((V y) / (Nat.gcd (V 41) (V y))) * ((V 43) / (Nat.gcd (V x) (V 43))))) := by
    try rw [(show (va_up (va_up (va_up (va_up (va_up (va_up (va_up (va_up (va_up (va_up (va_up (va_up (va_up (va_up (va_up (va_up (va_up (va_up (va_up V 22 s_4) 24 t_5) 26 (Nat.gcd (V 41) (V y))) 20 s_10) 18 ((V 41) % (Nat.gcd (V 41) (V y)))) 28 ((V 41) / (Nat.gcd (V 41) (V y)))) 20 s_15) 18 ((V y) % (Nat.gcd (V 41) (V y)))) 30 ((V y) / (Nat.gcd (V 41) (V y)))) 22 s_20) 24 t_21) 26 (Nat.gcd (V x) (V 43))) 20 s_26) 18 ((V x) % (Nat.gcd (V x) (V 43)))) 36 ((V x) / (Nat.gcd (V x) (V 43)))) 32 (((V 41) / (Nat.gcd (V 41) (V y))) * ((V x) / (Nat.gcd (V x) (V 43))))) 20 s_35) 18 ((V 43) % (Nat.gcd (V x) (V 43)))) 36 ((V 43) / (Nat.gcd (V x) (V 43)))) 30 = (V y) / (Nat.gcd (V 41) (V y)) from ((va_up_ne _ _ (by omega)).trans ((va_up_ne _ _ (by omega)).trans ((va_up_ne _ _ (by omega)).trans ((va_up_ne _ _ (by omega)).trans ((va_up_ne _ _ (by omega)).trans ((va_up_ne _ _ (by omega)).trans ((va_up_ne _ _ (by omega)).trans ((va_up_ne _ _ (by omega)).trans ((va_up_ne _ _ (by omega)).trans ((va_up_ne _ _ (by omega)).trans (va_up_self _ _ _))))))))))))] at hV_38
    try rw [(show (va_up (va_up (va_up (va_up (va_up (va_up (va_up (va_up (va_up (va_up (va_up (va_up (va_up (va_up (va_up (va_up (va_up (va_up (va_up V 22 s_4) 24 t_5) 26 (Nat.gcd (V 41) (V y))) 20 s_10) 18 ((V 41) % (Nat.gcd (V 41) (V y)))) 28 ((V 41) / (Nat.gcd (V 41) (V y)))) 20 s_15) 18 ((V y) % (Nat.gcd (V 41) (V y)))) 30 ((V y) / (Nat.gcd (V 41) (V y)))) 22 s_20) 24 t_21) 26 (Nat.gcd (V x) (V 43))) 20 s_26) 18 ((V x) % (Nat.gcd (V x) (V 43)))) 36 ((V x) / (Nat.gcd (V x) (V 43)))) 32 (((V 41) / (Nat.gcd (V 41) (V y))) * ((V x) / (Nat.gcd (V x) (V 43))))) 20 s_35) 18 ((V 43) % (Nat.gcd (V x) (V 43)))) 36 ((V 43) / (Nat.gcd (V x) (V 43)))) 36 = (V 43) / (Nat.gcd (V x) (V 43)) from (va_up_self _ _ _))] at hV_38
    exact hV_38
  refine go_aload_n (q := 133) d_ca_multiply_132 rfl rfl rfl ?_
  refine go_aload_n (q := 134) d_ca_multiply_133 rfl rfl rfl ?_
  refine go_aload_n (q := 135) d_ca_multiply_134 rfl rfl rfl ?_
  refine go_getf (q := 138) f_ca_61 d_ca_multiply_135 rfl (pn_cf hV_40 (a := 40) fa_t) rfl ?_
  rw [(show B 40 = B 40 from rfl)]
  have q_41 := hV_40.2.1 40
  rw [(show B 40 = B 40 from rfl)] at q_41
  refine go_iload (q := 140) d_ca_multiply_138 rfl rfl ?_
  refine go_icmp_eq (t := 147) (q := 143) d_ca_multiply_140 (by decide) rfl (by omega) (by omega) (fun c42 => ?_) (fun c42 => ?_)
  ·
    refine go_iconst (q := 148) d_ca_multiply_147 rfl ?_
    refine go_aload_n (q := 149) d_ca_multiply_148 rfl rfl rfl ?_
    refine go_getf (q := 152) f_ca_33 d_ca_multiply_149 rfl (pn_c16 hV_40) rfl ?_
    exact k0 s_4 t_5 s_10 s_15 s_20 t_21 s_26 s_35 c42 _ hV_40 (fr_.tr (fr_.tr (fr_.tr (fr_.tr (fr_.tr (fr_.tr (fr_.tr fr_3 fr_9) fr_14) fr_19) fr_25) fr_30) fr_34) fr_39)
  ·
    refine go_iconst (q := 144) d_ca_multiply_143 rfl ?_
    refine go_goto (q := 148) d_ca_multiply_144 (by decide) ?_
    refine go_aload_n (q := 149) d_ca_multiply_148 rfl rfl rfl ?_
    refine go_getf (q := 152) f_ca_33 d_ca_multiply_149 rfl (pn_c16 hV_40) rfl ?_
    exact k1 s_4 t_5 s_10 s_15 s_20 t_21 s_26 s_35 c42 _ hV_40 (fr_.tr (fr_.tr (fr_.tr (fr_.tr (fr_.tr (fr_.tr (fr_.tr fr_3 fr_9) fr_14) fr_19) fr_25) fr_30) fr_34) fr_39)

set_option maxRecDepth 4000 in
theorem sk_add_0 {φ : go_F} {l : Launch} {h : mv_H} {n : Nat} {I tx wr ga gb mo mf mg : Nat → Int} {B : Nat → Int} {V : Nat → Nat} {a : Nat} {b : Int} (hV : pn_V h (I, tx, wr, ga, gb, mo, mf, mg) B V) (ha : 50 ≤ a ∧ a < 390 ∧ a % 5 = 0) (hb : 0 ≤ b ∧ b ≤ 1) (s1 : V 43 * V (a + 3) < 2 ^ 1000) (s2 : V 43 < 1073741824 ^ 17) (s3 : V (a + 3) < 1073741824 ^ 17) (s4 : ∃ i j, V 41 < 1073741824 ^ i ∧ V (a + 3) / (Nat.gcd (V 43) (V (a + 3))) < 1073741824 ^ j ∧ i + j ≤ 18) (s5 : ∃ i j, V (a + 1) < 1073741824 ^ i ∧ V 43 / (Nat.gcd (V 43) (V (a + 3))) < 1073741824 ^ j ∧ i + j ≤ 18)
    (k0 : ∀ (s_4 : Nat), ∀ (t_5 : Nat), ∀ (s_10 : Nat), ∀ (s_15 : Nat), B a = b → ∀ h' : mv_H, pn_V h' (I, tx, wr, ga, gb, mo, mf, mg) B (va_up (va_up (va_up (va_up (va_up (va_up (va_up (va_up (va_up (va_up (va_up V 22 s_4) 24 t_5) 26 (Nat.gcd (V 43) (V (a + 3)))) 20 s_10) 18 ((V 43) % (Nat.gcd (V 43) (V (a + 3))))) 28 ((V 43) / (Nat.gcd (V 43) (V (a + 3))))) 20 s_15) 18 ((V (a + 3)) % (Nat.gcd (V 43) (V (a + 3))))) 30 ((V (a + 3)) / (Nat.gcd (V 43) (V (a + 3))))) 32 ((V 41) * ((V (a + 3)) / (Nat.gcd (V 43) (V (a + 3)))))) 36 ((V (a + 1)) * ((V 43) / (Nat.gcd (V 43) (V (a + 3)))))) → fr_ 1 389 h h' → Go φ l m_ca_add (go_rm rd_ca_add rw_ca_add 0 0) (0, 0) 105 [some (mv_R 16), some (mv_R 40), some (mv_R a), some (mv_I b), none] [mv_I 0, mv_I (B 40), mv_R 16] h' n)
    (k1 : ∀ (s_4 : Nat), ∀ (t_5 : Nat), ∀ (s_10 : Nat), ∀ (s_15 : Nat), ¬ B a = b → ∀ h' : mv_H, pn_V h' (I, tx, wr, ga, gb, mo, mf, mg) B (va_up (va_up (va_up (va_up (va_up (va_up (va_up (va_up (va_up (va_up (va_up V 22 s_4) 24 t_5) 26 (Nat.gcd (V 43) (V (a + 3)))) 20 s_10) 18 ((V 43) % (Nat.gcd (V 43) (V (a + 3))))) 28 ((V 43) / (Nat.gcd (V 43) (V (a + 3))))) 20 s_15) 18 ((V (a + 3)) % (Nat.gcd (V 43) (V (a + 3))))) 30 ((V (a + 3)) / (Nat.gcd (V 43) (V (a + 3))))) 32 ((V 41) * ((V (a + 3)) / (Nat.gcd (V 43) (V (a + 3)))))) 36 ((V (a + 1)) * ((V 43) / (Nat.gcd (V 43) (V (a + 3)))))) → fr_ 1 389 h h' → Go φ l m_ca_add (go_rm rd_ca_add rw_ca_add 0 0) (0, 0) 105 [some (mv_R 16), some (mv_R 40), some (mv_R a), some (mv_I b), none] [mv_I 1, mv_I (B 40), mv_R 16] h' n) :
    Go φ l m_ca_add (go_rm rd_ca_add rw_ca_add 0 0) (0, 0) 0 [some (mv_R 16), some (mv_R 40), some (mv_R a), some (mv_I b), none] [] h n := by
  refine go_aload_n (q := 1) d_ca_add_0 rfl rfl rfl ?_
  refine go_getf (q := 4) f_ca_12 d_ca_add_1 rfl (pn_c16 hV) rfl ?_
  refine go_aload_n (q := 5) d_ca_add_4 rfl rfl rfl ?_
  refine go_getf (q := 8) f_ca_42 d_ca_add_5 rfl (pn_cf hV (a := 40) fa_t) rfl ?_
  refine go_aload_n (q := 9) d_ca_add_8 rfl rfl rfl ?_
  refine go_getf (q := 12) f_ca_42 d_ca_add_9 rfl (pn_cf hV (a := a) (Or.inr (Or.inr ha))) rfl ?_
  refine go_aload_n (q := 13) d_ca_add_12 rfl rfl rfl ?_
  refine go_getf (q := 16) f_ca_23 d_ca_add_13 rfl (pn_c16 hV) rfl ?_
  refine cp_findGreatest (x := 43) (y := a + 3) (qq := 26) (q := 19) l_ca_47 d_ca_add_16 rfl hV (by unfold ro_; decide) (fa_n (a := a) (Or.inr (Or.inr ha))).2.1 (by unfold ro_; decide) (by omega) (show rn_ 26 = 18 from rfl) (by rw [(show V 43 = V 43 from rfl), (show V (a + 3) = V (a + 3) from rfl)]; assumption) (Nat.le_of_ble_eq_true rfl) ⟨by decide, by decide, by decide, by decide⟩ (fun s_4 t_5 h_1 hV_2 fr_3 => ?_)
  have hV_6 : pn_V h_1 (I, tx, wr, ga, gb, mo, mf, mg) B (va_up (va_up (va_up V 22 s_4) 24 t_5) 26 (Nat.gcd (V 43) (V (a + 3)))) := by
    try rw [(show V 43 = V 43 from rfl)] at hV_2
    try rw [(show V (a + 3) = V (a + 3) from rfl)] at hV_2
    exact hV_2
  refine go_aload_n (q := 20) d_ca_add_19 rfl rfl rfl ?_
  refine go_getf (q := 23) f_ca_12 d_ca_add_20 rfl (pn_c16 hV_6) rfl ?_
  refine go_aload_n (q := 24) d_ca_add_23 rfl rfl rfl ?_
  refine go_getf (q := 27) f_ca_42 d_ca_add_24 rfl (pn_cf hV_6 (a := 40) fa_t) rfl ?_
  refine go_aload_n (q := 28) d_ca_add_27 rfl rfl rfl ?_
  refine go_getf (q := 31) f_ca_23 d_ca_add_28 rfl (pn_c16 hV_6) rfl ?_
  refine go_aload_n (q := 32) d_ca_add_31 rfl rfl rfl ?_
  refine go_getf (q := 35) f_ca_27 d_ca_add_32 rfl (pn_c16 hV_6) rfl ?_
  refine cp_divide (x := 43) (y := 26) (qq := 28) (q := 38) l_ca_51 d_ca_add_35 rfl hV_6 (by unfold ro_; decide) (by unfold ro_; decide) (by unfold ro_; decide) (by omega) (show rn_ 28 = 18 from rfl) (by rw [(show (va_up (va_up (va_up V 22 s_4) 24 t_5) 26 (Nat.gcd (V 43) (V (a + 3)))) 43 = V 43 from ((va_up_ne _ _ (by omega)).trans ((va_up_ne _ _ (by omega)).trans ((va_up_ne _ _ (by omega)).trans rfl))))]; assumption) (Nat.le_of_ble_eq_true rfl) ⟨by decide, by decide, by decide, by decide⟩ (fun s_10 h_7 hV_8 fr_9 => ?_)
  have hV_11 : pn_V h_7 (I, tx, wr, ga, gb, mo, mf, mg) B (va_up (va_up (va_up (va_up (va_up (va_up V 22 s_4) 24 t_5) 26 (Nat.gcd (V 43) (V (a + 3)))) 20 s_10) 18 ((V 43) % (Nat.gcd (V 43) (V (a + 3))))) 28 ((V 43) / (Nat.gcd (V 43) (V (a + 3))))) := by
    try rw [(show (va_up (va_up (va_up V 22 s_4) 24 t_5) 26 (Nat.gcd (V 43) (V (a + 3)))) 43 = V 43 from ((va_up_ne _ _ (by omega)).trans ((va_up_ne _ _ (by omega)).trans ((va_up_ne _ _ (by omega)).trans rfl))))] at hV_8
    try rw [(show (va_up (va_up (va_up V 22 s_4) 24 t_5) 26 (Nat.gcd (V 43) (V (a + 3)))) 26 = Nat.gcd (V 43) (V (a + 3)) from (va_up_self _ _ _))] at hV_8
    exact hV_8
  refine go_aload_n (q := 39) d_ca_add_38 rfl rfl rfl ?_
  refine go_getf (q := 42) f_ca_12 d_ca_add_39 rfl (pn_c16 hV_11) rfl ?_
  refine go_aload_n (q := 43) d_ca_add_42 rfl rfl rfl ?_
  refine go_getf (q := 46) f_ca_42 d_ca_add_43 rfl (pn_cf hV_11 (a := a) (Or.inr (Or.inr ha))) rfl ?_
  refine go_aload_n (q := 47) d_ca_add_46 rfl rfl rfl ?_
  refine go_getf (q := 50) f_ca_23 d_ca_add_47 rfl (pn_c16 hV_11) rfl ?_
  refine go_aload_n (q := 51) d_ca_add_50 rfl rfl rfl ?_
  refine go_getf (q := 54) f_ca_30 d_ca_add_51 rfl (pn_c16 hV_11) rfl ?_
  refine cp_divide (x := a + 3) (y := 26) (qq := 30) (q := 57) l_ca_51 d_ca_add_54 rfl hV_11 (fa_n (a := a) (Or.inr (Or.inr ha))).2.1 (by unfold ro_; decide) (by unfold ro_; decide) (by omega) (show rn_ 30 = 18 from rfl) (by rw [(show (va_up (va_up (va_up (va_up (va_up (va_up V 22 s_4) 24 t_5) 26 (Nat.gcd (V 43) (V (a + 3)))) 20 s_10) 18 ((V 43) % (Nat.gcd (V 43) (V (a + 3))))) 28 ((V 43) / (Nat.gcd (V 43) (V (a + 3))))) (a + 3) = V (a + 3) from ((va_up_ne _ _ (by omega)).trans ((va_up_ne _ _ (by omega)).trans ((va_up_ne _ _ (by omega)).trans ((va_up_ne _ _ (by omega)).trans ((va_up_ne _ _ (by omega)).trans ((va_up_ne _ _ (by omega)).trans rfl)))))))]; assumption) (Nat.le_of_ble_eq_true rfl) ⟨by decide, by decide, by decide, by decide⟩ (fun s_15 h_12 hV_13 fr_14 => ?_)
  have hV_16 : pn_V h_12 (I, tx, wr, ga, gb, mo, mf, mg) B (va_up (va_up (va_up (va_up (va_up (va_up (va_up (va_up (va_up V 22 s_4) 24 t_5) 26 (Nat.gcd (V 43) (V (a + 3)))) 20 s_10) 18 ((V 43) % (Nat.gcd (V 43) (V (a + 3))))) 28 ((V 43) / (Nat.gcd (V 43) (V (a + 3))))) 20 s_15) 18 ((V (a + 3)) % (Nat.gcd (V 43) (V (a + 3))))) 30 ((V (a + 3)) / (Nat.gcd (V 43) (V (a + 3))))) := by
    try rw [(show (va_up (va_up (va_up (va_up (va_up (va_up V 22 s_4) 24 t_5) 26 (Nat.gcd (V 43) (V (a + 3)))) 20 s_10) 18 ((V 43) % (Nat.gcd (V 43) (V (a + 3))))) 28 ((V 43) / (Nat.gcd (V 43) (V (a + 3))))) (a + 3) = V (a + 3) from ((va_up_ne _ _ (by omega)).trans ((va_up_ne _ _ (by omega)).trans ((va_up_ne _ _ (by omega)).trans ((va_up_ne _ _ (by omega)).trans ((va_up_ne _ _ (by omega)).trans ((va_up_ne _ _ (by omega)).trans rfl)))))))] at hV_13
    try rw [(show (va_up (va_up (va_up (va_up (va_up (va_up V 22 s_4) 24 t_5) 26 (Nat.gcd (V 43) (V (a + 3)))) 20 s_10) 18 ((V 43) % (Nat.gcd (V 43) (V (a + 3))))) 28 ((V 43) / (Nat.gcd (V 43) (V (a + 3))))) 26 = Nat.gcd (V 43) (V (a + 3)) from ((va_up_ne _ _ (by omega)).trans ((va_up_ne _ _ (by omega)).trans ((va_up_ne _ _ (by omega)).trans (va_up_self _ _ _)))))] at hV_13
    exact hV_13
  refine go_aload_n (q := 58) d_ca_add_57 rfl rfl rfl ?_
  refine go_getf (q := 61) f_ca_33 d_ca_add_58 rfl (pn_c16 hV_16) rfl ?_
  refine go_aload_n (q := 62) d_ca_add_61 rfl rfl rfl ?_
  refine go_getf (q := 65) f_ca_54 d_ca_add_62 rfl (pn_cf hV_16 (a := 40) fa_t) rfl ?_
  refine go_aload_n (q := 66) d_ca_add_65 rfl rfl rfl ?_
  refine go_getf (q := 69) f_ca_30 d_ca_add_66 rfl (pn_c16 hV_16) rfl ?_
  refine cp_becomeProduct (p := 32) (x := 41) (y := 30) (q := 72) l_ca_57 d_ca_add_69 rfl hV_16 (by unfold ro_; decide) (by unfold ro_; decide) (by unfold ro_; decide) (by omega) (by rw [(show (va_up (va_up (va_up (va_up (va_up (va_up (va_up (va_up (va_up V 22 s_4) 24 t_5) 26 (Nat.gcd (V 43) (V (a + 3)))) 20 s_10) 18 ((V 43) % (Nat.gcd (V 43) (V (a + 3))))) 28 ((V 43) / (Nat.gcd (V 43) (V (a + 3))))) 20 s_15) 18 ((V (a + 3)) % (Nat.gcd (V 43) (V (a + 3))))) 30 ((V (a + 3)) / (Nat.gcd (V 43) (V (a + 3))))) 41 = V 41 from ((va_up_ne _ _ (by omega)).trans ((va_up_ne _ _ (by omega)).trans ((va_up_ne _ _ (by omega)).trans ((va_up_ne _ _ (by omega)).trans ((va_up_ne _ _ (by omega)).trans ((va_up_ne _ _ (by omega)).trans ((va_up_ne _ _ (by omega)).trans ((va_up_ne _ _ (by omega)).trans ((va_up_ne _ _ (by omega)).trans rfl)))))))))), (show (va_up (va_up (va_up (va_up (va_up (va_up (va_up (va_up (va_up V 22 s_4) 24 t_5) 26 (Nat.gcd (V 43) (V (a + 3)))) 20 s_10) 18 ((V 43) % (Nat.gcd (V 43) (V (a + 3))))) 28 ((V 43) / (Nat.gcd (V 43) (V (a + 3))))) 20 s_15) 18 ((V (a + 3)) % (Nat.gcd (V 43) (V (a + 3))))) 30 ((V (a + 3)) / (Nat.gcd (V 43) (V (a + 3))))) 30 = (V (a + 3)) / (Nat.gcd (V 43) (V (a + 3))) from (va_up_self _ _ _)), (show rn_ 32 = 18 from rfl)]; assumption) (Nat.le_of_ble_eq_true rfl) ⟨by decide, by decide, by decide, by decide⟩ (fun h_17 hV_18 fr_19 => ?_)
  have hV_20 : pn_V h_17 (I, tx, wr, ga, gb, mo, mf, mg) B (va_up (va_up (va_up (va_up (va_up (va_up (va_up (va_up (va_up (va_up V 22 s_4) 24 t_5) 26 (Nat.gcd (V 43) (V (a + 3)))) 20 s_10) 18 ((V 43) % (Nat.gcd (V 43) (V (a + 3))))) 28 ((V 43) / (Nat.gcd (V 43) (V (a + 3))))) 20 s_15) 18 ((V (a + 3)) % (Nat.gcd (V 43) (V (a + 3))))) 30 ((V (a + 3)) / (Nat.gcd (V 43) (V (a + 3))))) 32 ((V 41) * ((V (a + 3)) / (Nat.gcd (V 43) (V (a + 3)))))) := by
    try rw [(show (va_up (va_up (va_up (va_up (va_up (va_up (va_up (va_up (va_up V 22 s_4) 24 t_5) 26 (Nat.gcd (V 43) (V (a + 3)))) 20 s_10) 18 ((V 43) % (Nat.gcd (V 43) (V (a + 3))))) 28 ((V 43) / (Nat.gcd (V 43) (V (a + 3))))) 20 s_15) 18 ((V (a + 3)) % (Nat.gcd (V 43) (V (a + 3))))) 30 ((V (a + 3)) / (Nat.gcd (V 43) (V (a + 3))))) 41 = V 41 from ((va_up_ne _ _ (by omega)).trans ((va_up_ne _ _ (by omega)).trans ((va_up_ne _ _ (by omega)).trans ((va_up_ne _ _ (by omega)).trans ((va_up_ne _ _ (by omega)).trans ((va_up_ne _ _ (by omega)).trans ((va_up_ne _ _ (by omega)).trans ((va_up_ne _ _ (by omega)).trans ((va_up_ne _ _ (by omega)).trans rfl))))))))))] at hV_18
    try rw [(show (va_up (va_up (va_up (va_up (va_up (va_up (va_up (va_up (va_up V 22 s_4) 24 t_5) 26 (Nat.gcd (V 43) (V (a + 3)))) 20 s_10) 18 ((V 43) % (Nat.gcd (V 43) (V (a + 3))))) 28 ((V 43) / (Nat.gcd (V 43) (V (a + 3))))) 20 s_15) 18 ((V (a + 3)) % (Nat.gcd (V 43) (V (a + 3))))) 30 ((V (a + 3)) / (Nat.gcd (V 43) (V (a + 3))))) 30 = (V (a + 3)) / (Nat.gcd (V 43) (V (a + 3))) from (va_up_self _ _ _))] at hV_18
    exact hV_18
  refine go_aload_n (q := 73) d_ca_add_72 rfl rfl rfl ?_
  refine go_getf (q := 76) f_ca_39 d_ca_add_73 rfl (pn_c16 hV_20) rfl ?_
  refine go_aload_n (q := 77) d_ca_add_76 rfl rfl rfl ?_
  refine go_getf (q := 80) f_ca_54 d_ca_add_77 rfl (pn_cf hV_20 (a := a) (Or.inr (Or.inr ha))) rfl ?_
  refine go_aload_n (q := 81) d_ca_add_80 rfl rfl rfl ?_
  refine go_getf (q := 84) f_ca_27 d_ca_add_81 rfl (pn_c16 hV_20) rfl ?_
  refine cp_becomeProduct (p := 36) (x := a + 1) (y := 28) (q := 87) l_ca_57 d_ca_add_84 rfl hV_20 (by unfold ro_; decide) (fa_n (a := a) (Or.inr (Or.inr ha))).1 (by unfold ro_; decide) (by omega) (by rw [(show (va_up (va_up (va_up (va_up (va_up (va_up (va_up (va_up (va_up (va_up V 22 s_4) 24 t_5) 26 (Nat.gcd (V 43) (V (a + 3)))) 20 s_10) 18 ((V 43) % (Nat.gcd (V 43) (V (a + 3))))) 28 ((V 43) / (Nat.gcd (V 43) (V (a + 3))))) 20 s_15) 18 ((V (a + 3)) % (Nat.gcd (V 43) (V (a + 3))))) 30 ((V (a + 3)) / (Nat.gcd (V 43) (V (a + 3))))) 32 ((V 41) * ((V (a + 3)) / (Nat.gcd (V 43) (V (a + 3)))))) (a + 1) = V (a + 1) from ((va_up_ne _ _ (by omega)).trans ((va_up_ne _ _ (by omega)).trans ((va_up_ne _ _ (by omega)).trans ((va_up_ne _ _ (by omega)).trans ((va_up_ne _ _ (by omega)).trans ((va_up_ne _ _ (by omega)).trans ((va_up_ne _ _ (by omega)).trans ((va_up_ne _ _ (by omega)).trans ((va_up_ne _ _ (by omega)).trans ((va_up_ne _ _ (by omega)).trans rfl))))))))))), (show (va_up (va_up (va_up (va_up (va_up (va_up (va_up (va_up (va_up (va_up V 22 s_4) 24 t_5) 26 (Nat.gcd (V 43) (V (a + 3)))) 20 s_10) 18 ((V 43) % (Nat.gcd (V 43) (V (a + 3))))) 28 ((V 43) / (Nat.gcd (V 43) (V (a + 3))))) 20 s_15) 18 ((V (a + 3)) % (Nat.gcd (V 43) (V (a + 3))))) 30 ((V (a + 3)) / (Nat.gcd (V 43) (V (a + 3))))) 32 ((V 41) * ((V (a + 3)) / (Nat.gcd (V 43) (V (a + 3)))))) 28 = (V 43) / (Nat.gcd (V 43) (V (a + 3))) from ((va_up_ne _ _ (by omega)).trans ((va_up_ne _ _ (by omega)).trans ((va_up_ne _ _ (by omega)).trans ((va_up_ne _ _ (by omega)).trans (va_up_self _ _ _)))))), (show rn_ 36 = 18 from rfl)]; assumption) (Nat.le_of_ble_eq_true rfl) ⟨by decide, by decide, by decide, by decide⟩ (fun h_21 hV_22 fr_23 => ?_)
  have hV_24 : pn_V h_21 (I, tx, wr, ga, gb, mo, mf, mg) B (va_up (va_up (va_up (va_up (va_up (va_up (va_up (va_up (va_up (va_up (va_up V 22 s_4) 24 t_5) 26 (Nat.gcd (V 43) (V (a + 3)))) 20 s_10) 18 ((V 43) % (Nat.gcd (V 43) (V (a + 3))))) 28 ((V 43) / (Nat.gcd (V 43) (V (a + 3))))) 20 s_15) 18 ((V (a + 3)) % (Nat.gcd (V 43) (V (a + 3))))) 30 ((V (a + 3)) / (Nat.gcd (V 43) (V (a + 3))))) 32 ((V 41) * ((V (a + 3)) / (Nat.gcd (V 43) (V (a + 3)))))) 36 ((V (a + 1)) * ((V 43) / (Nat.gcd (V 43) (V (a + 3)))))) := by
    try rw [(show (va_up (va_up (va_up (va_up (va_up (va_up (va_up (va_up (va_up (va_up V 22 s_4) 24 t_5) 26 (Nat.gcd (V 43) (V (a + 3)))) 20 s_10) 18 ((V 43) % (Nat.gcd (V 43) (V (a + 3))))) 28 ((V 43) / (Nat.gcd (V 43) (V (a + 3))))) 20 s_15) 18 ((V (a + 3)) % (Nat.gcd (V 43) (V (a + 3))))) 30 ((V (a + 3)) / (Nat.gcd (V 43) (V (a + 3))))) 32 ((V 41) * ((V (a + 3)) / (Nat.gcd (V 43) (V (a + 3)))))) (a + 1) = V (a + 1) from ((va_up_ne _ _ (by omega)).trans ((va_up_ne _ _ (by omega)).trans ((va_up_ne _ _ (by omega)).trans ((va_up_ne _ _ (by omega)).trans ((va_up_ne _ _ (by omega)).trans ((va_up_ne _ _ (by omega)).trans ((va_up_ne _ _ (by omega)).trans ((va_up_ne _ _ (by omega)).trans ((va_up_ne _ _ (by omega)).trans ((va_up_ne _ _ (by omega)).trans rfl)))))))))))] at hV_22
    try rw [(show (va_up (va_up (va_up (va_up (va_up (va_up (va_up (va_up (va_up (va_up V 22 s_4) 24 t_5) 26 (Nat.gcd (V 43) (V (a + 3)))) 20 s_10) 18 ((V 43) % (Nat.gcd (V 43) (V (a + 3))))) 28 ((V 43) / (Nat.gcd (V 43) (V (a + 3))))) 20 s_15) 18 ((V (a + 3)) % (Nat.gcd (V 43) (V (a + 3))))) 30 ((V (a + 3)) / (Nat.gcd (V 43) (V (a + 3))))) 32 ((V 41) * ((V (a + 3)) / (Nat.gcd (V 43) (V (a + 3)))))) 28 = (V 43) / (Nat.gcd (V 43) (V (a + 3))) from ((va_up_ne _ _ (by omega)).trans ((va_up_ne _ _ (by omega)).trans ((va_up_ne _ _ (by omega)).trans ((va_up_ne _ _ (by omega)).trans (va_up_self _ _ _))))))] at hV_22
    exact hV_22
  refine go_aload_n (q := 88) d_ca_add_87 rfl rfl rfl ?_
  refine go_aload_n (q := 89) d_ca_add_88 rfl rfl rfl ?_
  refine go_getf (q := 92) f_ca_61 d_ca_add_89 rfl (pn_cf hV_24 (a := 40) fa_t) rfl ?_
  rw [(show B 40 = B 40 from rfl)]
  have q_25 := hV_24.2.1 40
  rw [(show B 40 = B 40 from rfl)] at q_25
  refine go_aload_n (q := 93) d_ca_add_92 rfl rfl rfl ?_
  refine go_getf (q := 96) f_ca_61 d_ca_add_93 rfl (pn_cf hV_24 (a := a) (Or.inr (Or.inr ha))) rfl ?_
  rw [(show B a = B a from rfl)]
  have q_26 := hV_24.2.1 a
  rw [(show B a = B a from rfl)] at q_26
  refine go_iload_n (q := 97) d_ca_add_96 rfl rfl rfl ?_
  refine go_icmp_eq (t := 104) (q := 100) d_ca_add_97 (by decide) rfl (by omega) (by omega) (fun c27 => ?_) (fun c27 => ?_)
  ·
    refine go_iconst (q := 105) d_ca_add_104 rfl ?_
    exact k0 s_4 t_5 s_10 s_15 c27 _ hV_24 (fr_.tr (fr_.tr (fr_.tr (fr_.tr fr_3 fr_9) fr_14) fr_19) fr_23)
  ·
    refine go_iconst (q := 101) d_ca_add_100 rfl ?_
    refine go_goto (q := 105) d_ca_add_101 (by decide) ?_
    exact k1 s_4 t_5 s_10 s_15 c27 _ hV_24 (fr_.tr (fr_.tr (fr_.tr (fr_.tr fr_3 fr_9) fr_14) fr_19) fr_23)

set_option maxRecDepth 4000 in
theorem sk_add_108 {φ : go_F} {l : Launch} {h : mv_H} {n : Nat} {I tx wr ga gb mo mf mg : Nat → Int} {B : Nat → Int} {V : Nat → Nat} {a : Nat} {b e : Int} (hV : pn_V h (I, tx, wr, ga, gb, mo, mf, mg) B V) (ha : 50 ≤ a ∧ a < 390 ∧ a % 5 = 0) (s1 : V 32 * V 26 < 2 ^ 1000) (s3 : V (a + 3) < 1073741824 ^ 17) (s4 : ∃ i j, V 28 < 1073741824 ^ i ∧ V (a + 3) / (Nat.gcd (V 32) (V 26)) < 1073741824 ^ j ∧ i + j ≤ 18) (s2 : V 32 < 1073741824 ^ 17)
    (k0 : ∀ (s_4 : Nat), ∀ (t_5 : Nat), ∀ (s_10 : Nat), ∀ (s_19 : Nat), ∀ h' : mv_H, pn_V h' (I, tx, wr, ga, gb, mo, mf, mg) B (va_up (va_up (va_up (va_up (va_up (va_up (va_up (va_up (va_up (va_up V 22 s_4) 24 t_5) 36 (Nat.gcd (V 32) (V 26))) 20 s_10) 18 ((V (a + 3)) % (Nat.gcd (V 32) (V 26)))) 30 ((V (a + 3)) / (Nat.gcd (V 32) (V 26)))) 34 ((V 28) * ((V (a + 3)) / (Nat.gcd (V 32) (V 26))))) 20 s_19) 18 ((V 32) % (Nat.gcd (V 32) (V 26)))) 26 ((V 32) / (Nat.gcd (V 32) (V 26)))) → fr_ 1 389 h h' → Go φ l m_ca_add (go_rm rd_ca_add rw_ca_add 0 0) (0, 0) 190 [some (mv_R 16), some (mv_R 40), some (mv_R a), some (mv_I b), some (mv_I e)] [mv_R 26, mv_I e, mv_R 40, mv_R 16] h' n) :
    Go φ l m_ca_add (go_rm rd_ca_add rw_ca_add 0 0) (0, 0) 108 [some (mv_R 16), some (mv_R 40), some (mv_R a), some (mv_I b), none] [mv_I e] h n := by
  refine go_istore (q := 110) (L' := [some (mv_R 16), some (mv_R 40), some (mv_R a), some (mv_I b), some (mv_I e)]) d_ca_add_108 rfl (by decide) rfl ?_
  refine go_aload_n (q := 111) d_ca_add_110 rfl rfl rfl ?_
  refine go_getf (q := 114) f_ca_12 d_ca_add_111 rfl (pn_c16 hV) rfl ?_
  refine go_aload_n (q := 115) d_ca_add_114 rfl rfl rfl ?_
  refine go_getf (q := 118) f_ca_33 d_ca_add_115 rfl (pn_c16 hV) rfl ?_
  refine go_aload_n (q := 119) d_ca_add_118 rfl rfl rfl ?_
  refine go_getf (q := 122) f_ca_23 d_ca_add_119 rfl (pn_c16 hV) rfl ?_
  refine go_aload_n (q := 123) d_ca_add_122 rfl rfl rfl ?_
  refine go_getf (q := 126) f_ca_39 d_ca_add_123 rfl (pn_c16 hV) rfl ?_
  refine cp_findGreatest (x := 32) (y := 26) (qq := 36) (q := 129) l_ca_47 d_ca_add_126 rfl hV (by unfold ro_; decide) (by unfold ro_; decide) (by unfold ro_; decide) (by omega) (show rn_ 36 = 18 from rfl) (by rw [(show V 32 = V 32 from rfl), (show V 26 = V 26 from rfl)]; assumption) (Nat.le_of_ble_eq_true rfl) ⟨by decide, by decide, by decide, by decide⟩ (fun s_4 t_5 h_1 hV_2 fr_3 => ?_)
  have hV_6 : pn_V h_1 (I, tx, wr, ga, gb, mo, mf, mg) B (va_up (va_up (va_up V 22 s_4) 24 t_5) 36 (Nat.gcd (V 32) (V 26))) := by
    try rw [(show V 32 = V 32 from rfl)] at hV_2
    try rw [(show V 26 = V 26 from rfl)] at hV_2
    exact hV_2
  refine go_aload_n (q := 130) d_ca_add_129 rfl rfl rfl ?_
  refine go_getf (q := 133) f_ca_12 d_ca_add_130 rfl (pn_c16 hV_6) rfl ?_
  refine go_aload_n (q := 134) d_ca_add_133 rfl rfl rfl ?_
  refine go_getf (q := 137) f_ca_42 d_ca_add_134 rfl (pn_cf hV_6 (a := a) (Or.inr (Or.inr ha))) rfl ?_
  refine go_aload_n (q := 138) d_ca_add_137 rfl rfl rfl ?_
  refine go_getf (q := 141) f_ca_39 d_ca_add_138 rfl (pn_c16 hV_6) rfl ?_
  refine go_aload_n (q := 142) d_ca_add_141 rfl rfl rfl ?_
  refine go_getf (q := 145) f_ca_30 d_ca_add_142 rfl (pn_c16 hV_6) rfl ?_
  refine cp_divide (x := a + 3) (y := 36) (qq := 30) (q := 148) l_ca_51 d_ca_add_145 rfl hV_6 (fa_n (a := a) (Or.inr (Or.inr ha))).2.1 (by unfold ro_; decide) (by unfold ro_; decide) (by omega) (show rn_ 30 = 18 from rfl) (by rw [(show (va_up (va_up (va_up V 22 s_4) 24 t_5) 36 (Nat.gcd (V 32) (V 26))) (a + 3) = V (a + 3) from ((va_up_ne _ _ (by omega)).trans ((va_up_ne _ _ (by omega)).trans ((va_up_ne _ _ (by omega)).trans rfl))))]; assumption) (Nat.le_of_ble_eq_true rfl) ⟨by decide, by decide, by decide, by decide⟩ (fun s_10 h_7 hV_8 fr_9 => ?_)
  have hV_11 : pn_V h_7 (I, tx, wr, ga, gb, mo, mf, mg) B (va_up (va_up (va_up (va_up (va_up (va_up V 22 s_4) 24 t_5) 36 (Nat.gcd (V 32) (V 26))) 20 s_10) 18 ((V (a + 3)) % (Nat.gcd (V 32) (V 26)))) 30 ((V (a + 3)) / (Nat.gcd (V 32) (V 26)))) := by
    try rw [(show (va_up (va_up (va_up V 22 s_4) 24 t_5) 36 (Nat.gcd (V 32) (V 26))) (a + 3) = V (a + 3) from ((va_up_ne _ _ (by omega)).trans ((va_up_ne _ _ (by omega)).trans ((va_up_ne _ _ (by omega)).trans rfl))))] at hV_8
    try rw [(show (va_up (va_up (va_up V 22 s_4) 24 t_5) 36 (Nat.gcd (V 32) (V 26))) 36 = Nat.gcd (V 32) (V 26) from (va_up_self _ _ _))] at hV_8
    exact hV_8
  refine go_aload_n (q := 149) d_ca_add_148 rfl rfl rfl ?_
  refine go_getf (q := 152) f_ca_36 d_ca_add_149 rfl (pn_c16 hV_11) rfl ?_
  refine go_aload_n (q := 153) d_ca_add_152 rfl rfl rfl ?_
  refine go_getf (q := 156) f_ca_27 d_ca_add_153 rfl (pn_c16 hV_11) rfl ?_
  refine go_aload_n (q := 157) d_ca_add_156 rfl rfl rfl ?_
  refine go_getf (q := 160) f_ca_30 d_ca_add_157 rfl (pn_c16 hV_11) rfl ?_
  refine cp_becomeProduct (p := 34) (x := 28) (y := 30) (q := 163) l_ca_57 d_ca_add_160 rfl hV_11 (by unfold ro_; decide) (by unfold ro_; decide) (by unfold ro_; decide) (by omega) (by rw [(show (va_up (va_up (va_up (va_up (va_up (va_up V 22 s_4) 24 t_5) 36 (Nat.gcd (V 32) (V 26))) 20 s_10) 18 ((V (a + 3)) % (Nat.gcd (V 32) (V 26)))) 30 ((V (a + 3)) / (Nat.gcd (V 32) (V 26)))) 28 = V 28 from ((va_up_ne _ _ (by omega)).trans ((va_up_ne _ _ (by omega)).trans ((va_up_ne _ _ (by omega)).trans ((va_up_ne _ _ (by omega)).trans ((va_up_ne _ _ (by omega)).trans ((va_up_ne _ _ (by omega)).trans rfl))))))), (show (va_up (va_up (va_up (va_up (va_up (va_up V 22 s_4) 24 t_5) 36 (Nat.gcd (V 32) (V 26))) 20 s_10) 18 ((V (a + 3)) % (Nat.gcd (V 32) (V 26)))) 30 ((V (a + 3)) / (Nat.gcd (V 32) (V 26)))) 30 = (V (a + 3)) / (Nat.gcd (V 32) (V 26)) from (va_up_self _ _ _)), (show rn_ 34 = 18 from rfl)]; assumption) (Nat.le_of_ble_eq_true rfl) ⟨by decide, by decide, by decide, by decide⟩ (fun h_12 hV_13 fr_14 => ?_)
  have hV_15 : pn_V h_12 (I, tx, wr, ga, gb, mo, mf, mg) B (va_up (va_up (va_up (va_up (va_up (va_up (va_up V 22 s_4) 24 t_5) 36 (Nat.gcd (V 32) (V 26))) 20 s_10) 18 ((V (a + 3)) % (Nat.gcd (V 32) (V 26)))) 30 ((V (a + 3)) / (Nat.gcd (V 32) (V 26)))) 34 ((V 28) * ((V (a + 3)) / (Nat.gcd (V 32) (V 26))))) := by
    try rw [(show (va_up (va_up (va_up (va_up (va_up (va_up V 22 s_4) 24 t_5) 36 (Nat.gcd (V 32) (V 26))) 20 s_10) 18 ((V (a + 3)) % (Nat.gcd (V 32) (V 26)))) 30 ((V (a + 3)) / (Nat.gcd (V 32) (V 26)))) 28 = V 28 from ((va_up_ne _ _ (by omega)).trans ((va_up_ne _ _ (by omega)).trans ((va_up_ne _ _ (by omega)).trans ((va_up_ne _ _ (by omega)).trans ((va_up_ne _ _ (by omega)).trans ((va_up_ne _ _ (by omega)).trans rfl)))))))] at hV_13
    try rw [(show (va_up (va_up (va_up (va_up (va_up (va_up V 22 s_4) 24 t_5) 36 (Nat.gcd (V 32) (V 26))) 20 s_10) 18 ((V (a + 3)) % (Nat.gcd (V 32) (V 26)))) 30 ((V (a + 3)) / (Nat.gcd (V 32) (V 26)))) 30 = (V (a + 3)) / (Nat.gcd (V 32) (V 26)) from (va_up_self _ _ _))] at hV_13
    exact hV_13
  refine go_aload_n (q := 164) d_ca_add_163 rfl rfl rfl ?_
  refine go_getf (q := 167) f_ca_12 d_ca_add_164 rfl (pn_c16 hV_15) rfl ?_
  refine go_aload_n (q := 168) d_ca_add_167 rfl rfl rfl ?_
  refine go_getf (q := 171) f_ca_33 d_ca_add_168 rfl (pn_c16 hV_15) rfl ?_
  refine go_aload_n (q := 172) d_ca_add_171 rfl rfl rfl ?_
  refine go_getf (q := 175) f_ca_39 d_ca_add_172 rfl (pn_c16 hV_15) rfl ?_
  refine go_aload_n (q := 176) d_ca_add_175 rfl rfl rfl ?_
  refine go_getf (q := 179) f_ca_23 d_ca_add_176 rfl (pn_c16 hV_15) rfl ?_
  refine cp_divide (x := 32) (y := 36) (qq := 26) (q := 182) l_ca_51 d_ca_add_179 rfl hV_15 (by unfold ro_; decide) (by unfold ro_; decide) (by unfold ro_; decide) (by omega) (show rn_ 26 = 18 from rfl) (by rw [(show (va_up (va_up (va_up (va_up (va_up (va_up (va_up V 22 s_4) 24 t_5) 36 (Nat.gcd (V 32) (V 26))) 20 s_10) 18 ((V (a + 3)) % (Nat.gcd (V 32) (V 26)))) 30 ((V (a + 3)) / (Nat.gcd (V 32) (V 26)))) 34 ((V 28) * ((V (a + 3)) / (Nat.gcd (V 32) (V 26))))) 32 = V 32 from ((va_up_ne _ _ (by omega)).trans ((va_up_ne _ _ (by omega)).trans ((va_up_ne _ _ (by omega)).trans ((va_up_ne _ _ (by omega)).trans ((va_up_ne _ _ (by omega)).trans ((va_up_ne _ _ (by omega)).trans ((va_up_ne _ _ (by omega)).trans rfl))))))))]; assumption) (Nat.le_of_ble_eq_true rfl) ⟨by decide, by decide, by decide, by decide⟩ (fun s_19 h_16 hV_17 fr_18 => ?_)
  have hV_20 : pn_V h_16 (I, tx, wr, ga, gb, mo, mf, mg) B (va_up (va_up (va_up (va_up (va_up (va_up (va_up (va_up (va_up (va_up V 22 s_4) 24 t_5) 36 (Nat.gcd (V 32) (V 26))) 20 s_10) 18 ((V (a + 3)) % (Nat.gcd (V 32) (V 26)))) 30 ((V (a + 3)) / (Nat.gcd (V 32) (V 26)))) 34 ((V 28) * ((V (a + 3)) / (Nat.gcd (V 32) (V 26))))) 20 s_19) 18 ((V 32) % (Nat.gcd (V 32) (V 26)))) 26 ((V 32) / (Nat.gcd (V 32) (V 26)))) := by
    try rw [(show (va_up (va_up (va_up (va_up (va_up (va_up (va_up V 22 s_4) 24 t_5) 36 (Nat.gcd (V 32) (V 26))) 20 s_10) 18 ((V (a + 3)) % (Nat.gcd (V 32) (V 26)))) 30 ((V (a + 3)) / (Nat.gcd (V 32) (V 26)))) 34 ((V 28) * ((V (a + 3)) / (Nat.gcd (V 32) (V 26))))) 32 = V 32 from ((va_up_ne _ _ (by omega)).trans ((va_up_ne _ _ (by omega)).trans ((va_up_ne _ _ (by omega)).trans ((va_up_ne _ _ (by omega)).trans ((va_up_ne _ _ (by omega)).trans ((va_up_ne _ _ (by omega)).trans ((va_up_ne _ _ (by omega)).trans rfl))))))))] at hV_17
    try rw [(show (va_up (va_up (va_up (va_up (va_up (va_up (va_up V 22 s_4) 24 t_5) 36 (Nat.gcd (V 32) (V 26))) 20 s_10) 18 ((V (a + 3)) % (Nat.gcd (V 32) (V 26)))) 30 ((V (a + 3)) / (Nat.gcd (V 32) (V 26)))) 34 ((V 28) * ((V (a + 3)) / (Nat.gcd (V 32) (V 26))))) 36 = Nat.gcd (V 32) (V 26) from ((va_up_ne _ _ (by omega)).trans ((va_up_ne _ _ (by omega)).trans ((va_up_ne _ _ (by omega)).trans ((va_up_ne _ _ (by omega)).trans (va_up_self _ _ _))))))] at hV_17
    exact hV_17
  refine go_aload_n (q := 183) d_ca_add_182 rfl rfl rfl ?_
  refine go_aload_n (q := 184) d_ca_add_183 rfl rfl rfl ?_
  refine go_iload (q := 186) d_ca_add_184 rfl rfl ?_
  refine go_aload_n (q := 187) d_ca_add_186 rfl rfl rfl ?_
  refine go_getf (q := 190) f_ca_23 d_ca_add_187 rfl (pn_c16 hV_20) rfl ?_
  exact k0 s_4 t_5 s_10 s_19 _ hV_20 (fr_.tr (fr_.tr (fr_.tr fr_3 fr_9) fr_14) fr_18)

