set_option maxRecDepth 4000 in
theorem sg_start {φ : go_F} {l : Launch} {h : mv_H} {n : Nat} {I tx wr ga gb mo mf mg : Nat → Int} {B : Nat → Int} {V : Nat → Nat} {c : Int} (hV : pn_V h (I, tx, wr, ga, gb, mo, mf, mg) B V) (hc : 0 ≤ c ∧ c ≤ 127) (hI : 0 ≤ I 3 ∧ I 3 ≤ 12)
    (k0 : ¬ (48 ≤ c ∧ c ≤ 57) → ¬ (97 ≤ c ∧ c ≤ 104) → ¬ c = 45 → ¬ c = 40 → Go φ l m_gr_behindStart (go_rm rd_gr_behindStart rw_gr_behindStart 0 0) (0, 0) 46 [some (mv_R 12), some (mv_I c)] [mv_I 5] h n)
    (k1 : ¬ (48 ≤ c ∧ c ≤ 57) → ¬ (97 ≤ c ∧ c ≤ 104) → ¬ c = 45 → c = 40 → 12 ≤ I 3 → Go φ l m_gr_behindStart (go_rm rd_gr_behindStart rw_gr_behindStart 0 0) (0, 0) 46 [some (mv_R 12), some (mv_I c)] [mv_I 5] h n)
    (k2 : ¬ (48 ≤ c ∧ c ≤ 57) → ¬ (97 ≤ c ∧ c ≤ 104) → ¬ c = 45 → c = 40 → ¬ 12 ≤ I 3 → Go φ l m_gr_behindStart (go_rm rd_gr_behindStart rw_gr_behindStart 0 0) (0, 0) 46 [some (mv_R 12), some (mv_I c)] [mv_I 1] h n)
    (k3 : ¬ (48 ≤ c ∧ c ≤ 57) → ¬ (97 ≤ c ∧ c ≤ 104) → c = 45 → Go φ l m_gr_behindStart (go_rm rd_gr_behindStart rw_gr_behindStart 0 0) (0, 0) 25 [some (mv_R 12), some (mv_I c)] [mv_I 2] h n)
    (k4 : ¬ (48 ≤ c ∧ c ≤ 57) → (97 ≤ c ∧ c ≤ 104) → Go φ l m_gr_behindStart (go_rm rd_gr_behindStart rw_gr_behindStart 0 0) (0, 0) 17 [some (mv_R 12), some (mv_I c)] [mv_I 4] h n)
    (k5 : (48 ≤ c ∧ c ≤ 57) → Go φ l m_gr_behindStart (go_rm rd_gr_behindStart rw_gr_behindStart 0 0) (0, 0) 8 [some (mv_R 12), some (mv_I c)] [mv_I 3] h n) :
    Go φ l m_gr_behindStart (go_rm rd_gr_behindStart rw_gr_behindStart 0 0) (0, 0) 0 [some (mv_R 12), some (mv_I c)] [] h n := by
  refine go_iload_n (q := 1) d_gr_behindStart_0 rfl rfl rfl ?_
  refine cp_pn_isDigit (c := c) (q := 4) l_gr_33 d_gr_behindStart_1 rfl (by omega) (Nat.le_of_ble_eq_true rfl) ⟨by decide, by decide, by decide, by decide⟩ ?_
  refine go_if_eq (t := 9) (q := 7) d_gr_behindStart_4 (by decide) rfl it_rng (fun c1 => ?_) (fun c1 => ?_)
  · have c2 : ¬ (48 ≤ c ∧ c ≤ 57) := it_eqp c1
    refine go_iload_n (q := 10) d_gr_behindStart_9 rfl rfl rfl ?_
    refine cp_pn_isVariable (c := c) (q := 13) l_gr_40 d_gr_behindStart_10 rfl (by omega) (Nat.le_of_ble_eq_true rfl) ⟨by decide, by decide, by decide, by decide⟩ ?_
    refine go_if_eq (t := 18) (q := 16) d_gr_behindStart_13 (by decide) rfl it_rng (fun c3 => ?_) (fun c3 => ?_)
    · have c4 : ¬ (97 ≤ c ∧ c ≤ 104) := it_eqp c3
      refine go_iload_n (q := 19) d_gr_behindStart_18 rfl rfl rfl ?_
      refine go_bipush (q := 21) d_gr_behindStart_19 rfl (by decide) ?_
      refine go_icmp_ne (t := 26) (q := 24) d_gr_behindStart_21 (by decide) rfl (by omega) (by omega) (fun c5 => ?_) (fun c5 => ?_)
      ·
        refine go_iload_n (q := 27) d_gr_behindStart_26 rfl rfl rfl ?_
        refine go_bipush (q := 29) d_gr_behindStart_27 rfl (by decide) ?_
        refine go_icmp_ne (t := 45) (q := 32) d_gr_behindStart_29 (by decide) rfl (by omega) (by omega) (fun c6 => ?_) (fun c6 => ?_)
        ·
          refine go_iconst (q := 46) d_gr_behindStart_45 rfl ?_
          exact k0 c2 c4 c5 c6
        ·
          refine go_aload_n (q := 33) d_gr_behindStart_32 rfl rfl rfl ?_
          refine go_getf (q := 36) f_gr_18 d_gr_behindStart_33 rfl (pn_c12 hV) rfl ?_
          refine go_bipush (q := 38) d_gr_behindStart_36 rfl (by decide) ?_
          refine go_icmp_ge (t := 45) (q := 41) d_gr_behindStart_38 (by decide) rfl (by omega) (by omega) (fun c7 => ?_) (fun c7 => ?_)
          ·
            refine go_iconst (q := 46) d_gr_behindStart_45 rfl ?_
            exact k1 c2 c4 c5 c6 c7
          ·
            refine go_iconst (q := 42) d_gr_behindStart_41 rfl ?_
            refine go_goto (q := 46) d_gr_behindStart_42 (by decide) ?_
            exact k2 c2 c4 c5 c6 c7
      ·
        refine go_iconst (q := 25) d_gr_behindStart_24 rfl ?_
        exact k3 c2 c4 c5
    · have c8 : (97 ≤ c ∧ c ≤ 104) := it_eqn c3
      refine go_iconst (q := 17) d_gr_behindStart_16 rfl ?_
      exact k4 c2 c8
  · have c9 : (48 ≤ c ∧ c ≤ 57) := it_eqn c1
    refine go_iconst (q := 8) d_gr_behindStart_7 rfl ?_
    exact k5 c9

set_option maxRecDepth 4000 in
theorem sg_op_6 {φ : go_F} {l : Launch} {h : mv_H} {n : Nat} {I tx wr ga gb mo mf mg : Nat → Int} {B : Nat → Int} {V : Nat → Nat} {c z : Int} (hV : pn_V h (I, tx, wr, ga, gb, mo, mf, mg) B V) (hz : -1 ≤ z ∧ z ≤ 12) (hI : 0 ≤ I 3 ∧ I 3 < 12)
    (k0 : 0 ≤ z → ∀ h' : mv_H, pn_V h' (va_up I 3 ((I 3) + 1), tx, wr, va_up ga ((I 3).toNat) z, va_up gb ((I 3).toNat) 0, mo, mf, mg) B V → fr_ 1 389 h h' → Go φ l m_gr_behindOperator (go_rm rd_gr_behindOperator rw_gr_behindOperator 0 0) (0, 0) 44 [some (mv_R 12), some (mv_I c), some (mv_I z)] [mv_I 4] h' n)
    (k1 : ¬ 0 ≤ z → Go φ l m_gr_behindOperator (go_rm rd_gr_behindOperator rw_gr_behindOperator 0 0) (0, 0) 12 [some (mv_R 12), some (mv_I c), some (mv_I z)] [mv_I 5] h n) :
    Go φ l m_gr_behindOperator (go_rm rd_gr_behindOperator rw_gr_behindOperator 0 0) (0, 0) 6 [some (mv_R 12), some (mv_I c), none] [mv_I z] h n := by
  refine go_istore_n (q := 7) (L' := [some (mv_R 12), some (mv_I c), some (mv_I z)]) d_gr_behindOperator_6 rfl rfl (by decide) rfl ?_
  refine go_iload_n (q := 8) d_gr_behindOperator_7 rfl rfl rfl ?_
  refine go_if_ge (t := 13) (q := 11) d_gr_behindOperator_8 (by decide) rfl (by omega) (fun c1 => ?_) (fun c1 => ?_)
  ·
    refine go_aload_n (q := 14) d_gr_behindOperator_13 rfl rfl rfl ?_
    refine go_getf (q := 17) f_gr_9 d_gr_behindOperator_14 rfl (pn_c12 hV) rfl ?_
    refine go_aload_n (q := 18) d_gr_behindOperator_17 rfl rfl rfl ?_
    refine go_getf (q := 21) f_gr_18 d_gr_behindOperator_18 rfl (pn_c12 hV) rfl ?_
    refine go_iload_n (q := 22) d_gr_behindOperator_21 rfl rfl rfl ?_
    refine go_iast (i := (I 3).toNat) (q := 23) d_gr_behindOperator_22 rfl (pn_c13 hV) (by omega) (by omega) (by omega) ?_
    have hV_3 := pn_u13 hV (va_up ga ((I 3).toNat) z)
    have fr_4 : fr_ 1 389 h (va_up h 13 (mv_A 0 12 (va_up ga ((I 3).toNat) z))) := fun z_ hz => va_up_ne _ _ (by omega)
    generalize va_up h 13 (mv_A 0 12 (va_up ga ((I 3).toNat) z)) = h_2 at hV_3 fr_4 ⊢
    refine go_aload_n (q := 24) d_gr_behindOperator_23 rfl rfl rfl ?_
    refine go_getf (q := 27) f_gr_15 d_gr_behindOperator_24 rfl (pn_c12 hV_3) rfl ?_
    refine go_aload_n (q := 28) d_gr_behindOperator_27 rfl rfl rfl ?_
    refine go_getf (q := 31) f_gr_18 d_gr_behindOperator_28 rfl (pn_c12 hV_3) rfl ?_
    refine go_iconst (q := 32) d_gr_behindOperator_31 rfl ?_
    refine go_iast (i := (I 3).toNat) (q := 33) d_gr_behindOperator_32 rfl (pn_c14 hV_3) (by omega) (by omega) (by omega) ?_
    have hV_6 := pn_u14 hV_3 (va_up gb ((I 3).toNat) 0)
    have fr_7 : fr_ 1 389 h_2 (va_up h_2 14 (mv_A 0 12 (va_up gb ((I 3).toNat) 0))) := fun z_ hz => va_up_ne _ _ (by omega)
    generalize va_up h_2 14 (mv_A 0 12 (va_up gb ((I 3).toNat) 0)) = h_5 at hV_6 fr_7 ⊢
    refine go_aload_n (q := 34) d_gr_behindOperator_33 rfl rfl rfl ?_
    refine go_dup (q := 35) d_gr_behindOperator_34 rfl rfl ?_
    refine go_getf (q := 38) f_gr_18 d_gr_behindOperator_35 rfl (pn_c12 hV_6) rfl ?_
    refine go_iconst (q := 39) d_gr_behindOperator_38 rfl ?_
    refine go_iadd (q := 40) d_gr_behindOperator_39 rfl ?_
    refine go_putf (q := 43) (v := mv_I ((I 3) + 1)) f_gr_18 d_gr_behindOperator_40 rfl (pn_c12 hV_6) (Nat.le_of_ble_eq_true rfl) (go_fitI _) ?_
    refine go_eq (h' := va_up h_5 12 (mv_O 3 [mv_R 13, mv_R 14, mv_I ((va_up I 3 ((I 3) + 1)) 3)])) ?_
    have hV_9 := pn_u12 hV_6 (va_up I 3 ((I 3) + 1)) (fun i_ h_3 => va_up_ne _ _ h_3)
    have fr_10 : fr_ 1 389 h_5 (va_up h_5 12 (mv_O 3 [mv_R 13, mv_R 14, mv_I ((va_up I 3 ((I 3) + 1)) 3)])) := fun z_ hz => va_up_ne _ _ (by omega)
    generalize va_up h_5 12 (mv_O 3 [mv_R 13, mv_R 14, mv_I ((va_up I 3 ((I 3) + 1)) 3)]) = h_8 at hV_9 fr_10 ⊢
    refine go_iconst (q := 44) d_gr_behindOperator_43 rfl ?_
    exact k0 c1 _ hV_9 (fr_.tr (fr_.tr fr_4 fr_7) fr_10)
  ·
    refine go_iconst (q := 12) d_gr_behindOperator_11 rfl ?_
    exact k1 c1

set_option maxRecDepth 4000 in
theorem sg_part_0 {φ : go_F} {l : Launch} {h : mv_H} {n : Nat} {I tx wr ga gb mo mf mg : Nat → Int} {B : Nat → Int} {V : Nat → Nat} {c : Int} (hV : pn_V h (I, tx, wr, ga, gb, mo, mf, mg) B V) (hc : 0 ≤ c ∧ c ≤ 127) (hI : 0 ≤ I 3 ∧ I 3 ≤ 12)
    (k0 : ¬ I 3 = 0 → Go φ l m_gr_behindPart (go_rm rd_gr_behindPart rw_gr_behindPart 0 0) (0, 0) 33 [some (mv_R 12), some (mv_I c), some (mv_I (ga ((I 3).toNat - 1))), some (mv_I (gb ((I 3).toNat - 1)))] [] h n)
    (k1 : I 3 = 0 → Go φ l m_gr_behindPart (go_rm rd_gr_behindPart rw_gr_behindPart 0 0) (0, 0) 8 [some (mv_R 12), some (mv_I c), none, none] [mv_I 5] h n) :
    Go φ l m_gr_behindPart (go_rm rd_gr_behindPart rw_gr_behindPart 0 0) (0, 0) 0 [some (mv_R 12), some (mv_I c), none, none] [] h n := by
  refine go_aload_n (q := 1) d_gr_behindPart_0 rfl rfl rfl ?_
  refine go_getf (q := 4) f_gr_18 d_gr_behindPart_1 rfl (pn_c12 hV) rfl ?_
  refine go_if_ne (t := 9) (q := 7) d_gr_behindPart_4 (by decide) rfl (by omega) (fun c1 => ?_) (fun c1 => ?_)
  ·
    refine go_aload_n (q := 10) d_gr_behindPart_9 rfl rfl rfl ?_
    refine go_getf (q := 13) f_gr_9 d_gr_behindPart_10 rfl (pn_c12 hV) rfl ?_
    refine go_aload_n (q := 14) d_gr_behindPart_13 rfl rfl rfl ?_
    refine go_getf (q := 17) f_gr_18 d_gr_behindPart_14 rfl (pn_c12 hV) rfl ?_
    refine go_iconst (q := 18) d_gr_behindPart_17 rfl ?_
    refine go_isub (q := 19) d_gr_behindPart_18 rfl ?_
    refine go_iald (i := (I 3).toNat - 1) (q := 20) d_gr_behindPart_19 rfl (pn_c13 hV) (by omega) (by omega) (by omega) ?_
    refine go_istore_n (q := 21) (L' := [some (mv_R 12), some (mv_I c), some (mv_I (ga ((I 3).toNat - 1))), none]) d_gr_behindPart_20 rfl rfl (by decide) rfl ?_
    refine go_aload_n (q := 22) d_gr_behindPart_21 rfl rfl rfl ?_
    refine go_getf (q := 25) f_gr_15 d_gr_behindPart_22 rfl (pn_c12 hV) rfl ?_
    refine go_aload_n (q := 26) d_gr_behindPart_25 rfl rfl rfl ?_
    refine go_getf (q := 29) f_gr_18 d_gr_behindPart_26 rfl (pn_c12 hV) rfl ?_
    refine go_iconst (q := 30) d_gr_behindPart_29 rfl ?_
    refine go_isub (q := 31) d_gr_behindPart_30 rfl ?_
    refine go_iald (i := (I 3).toNat - 1) (q := 32) d_gr_behindPart_31 rfl (pn_c14 hV) (by omega) (by omega) (by omega) ?_
    refine go_istore_n (q := 33) (L' := [some (mv_R 12), some (mv_I c), some (mv_I (ga ((I 3).toNat - 1))), some (mv_I (gb ((I 3).toNat - 1)))]) d_gr_behindPart_32 rfl rfl (by decide) rfl ?_
    exact k0 c1
  ·
    refine go_iconst (q := 8) d_gr_behindPart_7 rfl ?_
    exact k1 c1

set_option maxRecDepth 4000 in
theorem sg_part_33 {φ : go_F} {l : Launch} {h : mv_H} {n : Nat} {I tx wr ga gb mo mf mg : Nat → Int} {B : Nat → Int} {V : Nat → Nat} {c o b : Int} (hV : pn_V h (I, tx, wr, ga, gb, mo, mf, mg) B V) (hc : 0 ≤ c ∧ c ≤ 127) (hI : 0 < I 3 ∧ I 3 ≤ 12) (ho : 0 ≤ o ∧ o ≤ 12) (hb : 0 ≤ b ∧ b ≤ 120)
    (k0 : ¬ c = 32 → ¬ c = 41 → Go φ l m_gr_behindPart (go_rm rd_gr_behindPart rw_gr_behindPart 0 0) (0, 0) 93 [some (mv_R 12), some (mv_I c), some (mv_I o), some (mv_I b)] [mv_I 5] h n)
    (k1 : ¬ c = 32 → c = 41 → b < cx_fewI o.toNat → Go φ l m_gr_behindPart (go_rm rd_gr_behindPart rw_gr_behindPart 0 0) (0, 0) 93 [some (mv_R 12), some (mv_I c), some (mv_I o), some (mv_I b)] [mv_I 5] h n)
    (k2 : ¬ c = 32 → c = 41 → ¬ b < cx_fewI o.toNat → ∀ h' : mv_H, pn_V h' (va_up I 3 ((I 3) - 1), tx, wr, ga, gb, mo, mf, mg) B V → fr_ 1 389 h h' → Go φ l m_gr_behindPart (go_rm rd_gr_behindPart rw_gr_behindPart 0 0) (0, 0) 91 [some (mv_R 12), some (mv_I c), some (mv_I o), some (mv_I b)] [mv_I 4] h' n)
    (k3 : c = 32 → cx_mostI o.toNat ≤ b → ¬ c = 41 → Go φ l m_gr_behindPart (go_rm rd_gr_behindPart rw_gr_behindPart 0 0) (0, 0) 93 [some (mv_R 12), some (mv_I c), some (mv_I o), some (mv_I b)] [mv_I 5] h n)
    (k4 : c = 32 → cx_mostI o.toNat ≤ b → c = 41 → b < cx_fewI o.toNat → Go φ l m_gr_behindPart (go_rm rd_gr_behindPart rw_gr_behindPart 0 0) (0, 0) 93 [some (mv_R 12), some (mv_I c), some (mv_I o), some (mv_I b)] [mv_I 5] h n)
    (k5 : c = 32 → cx_mostI o.toNat ≤ b → c = 41 → ¬ b < cx_fewI o.toNat → ∀ h' : mv_H, pn_V h' (va_up I 3 ((I 3) - 1), tx, wr, ga, gb, mo, mf, mg) B V → fr_ 1 389 h h' → Go φ l m_gr_behindPart (go_rm rd_gr_behindPart rw_gr_behindPart 0 0) (0, 0) 91 [some (mv_R 12), some (mv_I c), some (mv_I o), some (mv_I b)] [mv_I 4] h' n)
    (k6 : c = 32 → ¬ cx_mostI o.toNat ≤ b → ∀ h' : mv_H, pn_V h' (I, tx, wr, ga, va_up gb ((I 3).toNat - 1) ((gb ((I 3).toNat - 1)) + 1), mo, mf, mg) B V → fr_ 1 389 h h' → Go φ l m_gr_behindPart (go_rm rd_gr_behindPart rw_gr_behindPart 0 0) (0, 0) 64 [some (mv_R 12), some (mv_I c), some (mv_I o), some (mv_I b)] [mv_I 0] h' n) :
    Go φ l m_gr_behindPart (go_rm rd_gr_behindPart rw_gr_behindPart 0 0) (0, 0) 33 [some (mv_R 12), some (mv_I c), some (mv_I o), some (mv_I b)] [] h n := by
  refine go_iload_n (q := 34) d_gr_behindPart_33 rfl rfl rfl ?_
  refine go_bipush (q := 36) d_gr_behindPart_34 rfl (by decide) ?_
  refine go_icmp_ne (t := 65) (q := 39) d_gr_behindPart_36 (by decide) rfl (by omega) (by omega) (fun c1 => ?_) (fun c1 => ?_)
  ·
    refine go_iload_n (q := 66) d_gr_behindPart_65 rfl rfl rfl ?_
    refine go_bipush (q := 68) d_gr_behindPart_66 rfl (by decide) ?_
    refine go_icmp_ne (t := 92) (q := 71) d_gr_behindPart_68 (by decide) rfl (by omega) (by omega) (fun c2 => ?_) (fun c2 => ?_)
    ·
      refine go_iconst (q := 93) d_gr_behindPart_92 rfl ?_
      exact k0 c1 c2
    ·
      refine go_iload_n (q := 72) d_gr_behindPart_71 rfl rfl rfl ?_
      refine go_getsM (v := mv_X 0) (j := 0) (q := 75) (Or.inr ⟨rfl, rfl⟩) rfl d_gr_behindPart_72 rfl ?_
      refine go_iload_n (q := 76) d_gr_behindPart_75 rfl rfl rfl ?_
      refine go_taldF (i := o.toNat) (q := 77) d_gr_behindPart_76 rfl (by omega) (by omega) ?_
      have q_3 := cx_BF o.toNat (by omega)
      refine go_icmp_lt (t := 92) (q := 80) d_gr_behindPart_77 (by decide) rfl (by omega) (by omega) (fun c4 => ?_) (fun c4 => ?_)
      ·
        refine go_iconst (q := 93) d_gr_behindPart_92 rfl ?_
        exact k1 c1 c2 c4
      ·
        refine go_aload_n (q := 81) d_gr_behindPart_80 rfl rfl rfl ?_
        refine go_dup (q := 82) d_gr_behindPart_81 rfl rfl ?_
        refine go_getf (q := 85) f_gr_18 d_gr_behindPart_82 rfl (pn_c12 hV) rfl ?_
        refine go_iconst (q := 86) d_gr_behindPart_85 rfl ?_
        refine go_isub (q := 87) d_gr_behindPart_86 rfl ?_
        refine go_putf (q := 90) (v := mv_I ((I 3) - 1)) f_gr_18 d_gr_behindPart_87 rfl (pn_c12 hV) (Nat.le_of_ble_eq_true rfl) (go_fitI _) ?_
        refine go_eq (h' := va_up h 12 (mv_O 3 [mv_R 13, mv_R 14, mv_I ((va_up I 3 ((I 3) - 1)) 3)])) ?_
        have hV_6 := pn_u12 hV (va_up I 3 ((I 3) - 1)) (fun i_ h_3 => va_up_ne _ _ h_3)
        have fr_7 : fr_ 1 389 h (va_up h 12 (mv_O 3 [mv_R 13, mv_R 14, mv_I ((va_up I 3 ((I 3) - 1)) 3)])) := fun z_ hz => va_up_ne _ _ (by omega)
        generalize va_up h 12 (mv_O 3 [mv_R 13, mv_R 14, mv_I ((va_up I 3 ((I 3) - 1)) 3)]) = h_5 at hV_6 fr_7 ⊢
        refine go_iconst (q := 91) d_gr_behindPart_90 rfl ?_
        exact k2 c1 c2 c4 _ hV_6 fr_7
  ·
    refine go_iload_n (q := 40) d_gr_behindPart_39 rfl rfl rfl ?_
    refine go_getsM (v := mv_X 1) (j := 0) (q := 43) (Or.inl ⟨rfl, rfl⟩) rfl d_gr_behindPart_40 rfl ?_
    refine go_iload_n (q := 44) d_gr_behindPart_43 rfl rfl rfl ?_
    refine go_taldM (i := o.toNat) (q := 45) d_gr_behindPart_44 rfl (by omega) (by omega) ?_
    have q_8 := cx_BM o.toNat (by omega)
    refine go_icmp_ge (t := 65) (q := 48) d_gr_behindPart_45 (by decide) rfl (by omega) (by omega) (fun c9 => ?_) (fun c9 => ?_)
    ·
      refine go_iload_n (q := 66) d_gr_behindPart_65 rfl rfl rfl ?_
      refine go_bipush (q := 68) d_gr_behindPart_66 rfl (by decide) ?_
      refine go_icmp_ne (t := 92) (q := 71) d_gr_behindPart_68 (by decide) rfl (by omega) (by omega) (fun c10 => ?_) (fun c10 => ?_)
      ·
        refine go_iconst (q := 93) d_gr_behindPart_92 rfl ?_
        exact k3 c1 c9 c10
      ·
        refine go_iload_n (q := 72) d_gr_behindPart_71 rfl rfl rfl ?_
        refine go_getsM (v := mv_X 0) (j := 0) (q := 75) (Or.inr ⟨rfl, rfl⟩) rfl d_gr_behindPart_72 rfl ?_
        refine go_iload_n (q := 76) d_gr_behindPart_75 rfl rfl rfl ?_
        refine go_taldF (i := o.toNat) (q := 77) d_gr_behindPart_76 rfl (by omega) (by omega) ?_
        have q_11 := cx_BF o.toNat (by omega)
        refine go_icmp_lt (t := 92) (q := 80) d_gr_behindPart_77 (by decide) rfl (by omega) (by omega) (fun c12 => ?_) (fun c12 => ?_)
        ·
          refine go_iconst (q := 93) d_gr_behindPart_92 rfl ?_
          exact k4 c1 c9 c10 c12
        ·
          refine go_aload_n (q := 81) d_gr_behindPart_80 rfl rfl rfl ?_
          refine go_dup (q := 82) d_gr_behindPart_81 rfl rfl ?_
          refine go_getf (q := 85) f_gr_18 d_gr_behindPart_82 rfl (pn_c12 hV) rfl ?_
          refine go_iconst (q := 86) d_gr_behindPart_85 rfl ?_
          refine go_isub (q := 87) d_gr_behindPart_86 rfl ?_
          refine go_putf (q := 90) (v := mv_I ((I 3) - 1)) f_gr_18 d_gr_behindPart_87 rfl (pn_c12 hV) (Nat.le_of_ble_eq_true rfl) (go_fitI _) ?_
          refine go_eq (h' := va_up h 12 (mv_O 3 [mv_R 13, mv_R 14, mv_I ((va_up I 3 ((I 3) - 1)) 3)])) ?_
          have hV_14 := pn_u12 hV (va_up I 3 ((I 3) - 1)) (fun i_ h_3 => va_up_ne _ _ h_3)
          have fr_15 : fr_ 1 389 h (va_up h 12 (mv_O 3 [mv_R 13, mv_R 14, mv_I ((va_up I 3 ((I 3) - 1)) 3)])) := fun z_ hz => va_up_ne _ _ (by omega)
          generalize va_up h 12 (mv_O 3 [mv_R 13, mv_R 14, mv_I ((va_up I 3 ((I 3) - 1)) 3)]) = h_13 at hV_14 fr_15 ⊢
          refine go_iconst (q := 91) d_gr_behindPart_90 rfl ?_
          exact k5 c1 c9 c10 c12 _ hV_14 fr_15
    ·
      refine go_aload_n (q := 49) d_gr_behindPart_48 rfl rfl rfl ?_
      refine go_getf (q := 52) f_gr_15 d_gr_behindPart_49 rfl (pn_c12 hV) rfl ?_
      refine go_aload_n (q := 53) d_gr_behindPart_52 rfl rfl rfl ?_
      refine go_getf (q := 56) f_gr_18 d_gr_behindPart_53 rfl (pn_c12 hV) rfl ?_
      refine go_iconst (q := 57) d_gr_behindPart_56 rfl ?_
      refine go_isub (q := 58) d_gr_behindPart_57 rfl ?_
      refine go_dup2 (q := 59) d_gr_behindPart_58 rfl rfl rfl ?_
      refine go_iald (i := (I 3).toNat - 1) (q := 60) d_gr_behindPart_59 rfl (pn_c14 hV) (by omega) (by omega) (by omega) ?_
      refine go_iconst (q := 61) d_gr_behindPart_60 rfl ?_
      refine go_iadd (q := 62) d_gr_behindPart_61 rfl ?_
      refine go_iast (i := (I 3).toNat - 1) (q := 63) d_gr_behindPart_62 rfl (pn_c14 hV) (by omega) (by omega) (by omega) ?_
      have hV_17 := pn_u14 hV (va_up gb ((I 3).toNat - 1) ((gb ((I 3).toNat - 1)) + 1))
      have fr_18 : fr_ 1 389 h (va_up h 14 (mv_A 0 12 (va_up gb ((I 3).toNat - 1) ((gb ((I 3).toNat - 1)) + 1)))) := fun z_ hz => va_up_ne _ _ (by omega)
      generalize va_up h 14 (mv_A 0 12 (va_up gb ((I 3).toNat - 1) ((gb ((I 3).toNat - 1)) + 1))) = h_16 at hV_17 fr_18 ⊢
      refine go_iconst (q := 64) d_gr_behindPart_63 rfl ?_
      exact k6 c1 c9 _ hV_17 fr_18

set_option maxRecDepth 4000 in
theorem sg_behind_44 {φ : go_F} {l : Launch} {h : mv_H} {n : Nat} {I tx wr ga gb mo mf mg : Nat → Int} {B : Nat → Int} {V : Nat → Nat} {s c : Int} (hV : pn_V h (I, tx, wr, ga, gb, mo, mf, mg) B V) (hc : 0 ≤ c ∧ c ≤ 127)
    (k0 : ¬ (48 ≤ c ∧ c ≤ 57) → Go φ l m_gr_behind (go_rm rd_gr_behind rw_gr_behind 0 0) (0, 0) 56 [some (mv_R 12), some (mv_I s), some (mv_I c)] [mv_I 5] h n)
    (k1 : (48 ≤ c ∧ c ≤ 57) → Go φ l m_gr_behind (go_rm rd_gr_behind rw_gr_behind 0 0) (0, 0) 56 [some (mv_R 12), some (mv_I s), some (mv_I c)] [mv_I 3] h n) :
    Go φ l m_gr_behind (go_rm rd_gr_behind rw_gr_behind 0 0) (0, 0) 44 [some (mv_R 12), some (mv_I s), some (mv_I c)] [] h n := by
  refine go_iload_n (q := 45) d_gr_behind_44 rfl rfl rfl ?_
  refine cp_pn_isDigit (c := c) (q := 48) l_gr_33 d_gr_behind_45 rfl (by omega) (Nat.le_of_ble_eq_true rfl) ⟨by decide, by decide, by decide, by decide⟩ ?_
  refine go_if_eq (t := 55) (q := 51) d_gr_behind_48 (by decide) rfl it_rng (fun c1 => ?_) (fun c1 => ?_)
  · have c2 : ¬ (48 ≤ c ∧ c ≤ 57) := it_eqp c1
    refine go_iconst (q := 56) d_gr_behind_55 rfl ?_
    exact k0 c2
  · have c3 : (48 ≤ c ∧ c ≤ 57) := it_eqn c1
    refine go_iconst (q := 52) d_gr_behind_51 rfl ?_
    refine go_goto (q := 56) d_gr_behind_52 (by decide) ?_
    exact k1 c3

set_option maxRecDepth 4000 in
theorem sg_behind_57 {φ : go_F} {l : Launch} {h : mv_H} {n : Nat} {I tx wr ga gb mo mf mg : Nat → Int} {B : Nat → Int} {V : Nat → Nat} {s c : Int} (hV : pn_V h (I, tx, wr, ga, gb, mo, mf, mg) B V) (hc : 0 ≤ c ∧ c ≤ 127)
    (k0 : ¬ (48 ≤ c ∧ c ≤ 57) → Go φ l m_gr_behind (go_rm rd_gr_behind rw_gr_behind 0 0) (0, 0) 70 [some (mv_R 12), some (mv_I s), some (mv_I c)] [mv_I c, mv_R 12] h n)
    (k1 : (48 ≤ c ∧ c ≤ 57) → Go φ l m_gr_behind (go_rm rd_gr_behind rw_gr_behind 0 0) (0, 0) 73 [some (mv_R 12), some (mv_I s), some (mv_I c)] [mv_I 3] h n) :
    Go φ l m_gr_behind (go_rm rd_gr_behind rw_gr_behind 0 0) (0, 0) 57 [some (mv_R 12), some (mv_I s), some (mv_I c)] [] h n := by
  refine go_iload_n (q := 58) d_gr_behind_57 rfl rfl rfl ?_
  refine cp_pn_isDigit (c := c) (q := 61) l_gr_33 d_gr_behind_58 rfl (by omega) (Nat.le_of_ble_eq_true rfl) ⟨by decide, by decide, by decide, by decide⟩ ?_
  refine go_if_eq (t := 68) (q := 64) d_gr_behind_61 (by decide) rfl it_rng (fun c1 => ?_) (fun c1 => ?_)
  · have c2 : ¬ (48 ≤ c ∧ c ≤ 57) := it_eqp c1
    refine go_aload_n (q := 69) d_gr_behind_68 rfl rfl rfl ?_
    refine go_iload_n (q := 70) d_gr_behind_69 rfl rfl rfl ?_
    exact k0 c2
  · have c3 : (48 ≤ c ∧ c ≤ 57) := it_eqn c1
    refine go_iconst (q := 65) d_gr_behind_64 rfl ?_
    refine go_goto (q := 73) d_gr_behind_65 (by decide) ?_
    exact k1 c3

set_option maxRecDepth 4000 in
theorem sg_fo_0 {φ : go_F} {l : Launch} {h : mv_H} {n : Nat} {I tx wr ga gb mo mf mg : Nat → Int} {B : Nat → Int} {V : Nat → Nat} {len : Nat} (hV : pn_V h (I, tx, wr, ga, gb, mo, mf, mg) B V) 
    (k0 : ∀ h' : mv_H, pn_V h' (va_up I 3 0, tx, wr, ga, gb, mo, mf, mg) B V → fr_ 1 389 h h' → Go φ l m_gr_faultOf (go_rm rd_gr_faultOf rw_gr_faultOf 0 0) (0, 0) 10 [some (mv_R 12), some (mv_R 2), some (mv_I (len : Int)), some (mv_I 0), some (mv_I 0)] [] h' n) :
    Go φ l m_gr_faultOf (go_rm rd_gr_faultOf rw_gr_faultOf 0 0) (0, 0) 0 [some (mv_R 12), some (mv_R 2), some (mv_I (len : Int)), none, none] [] h n := by
  refine go_aload_n (q := 1) d_gr_faultOf_0 rfl rfl rfl ?_
  refine go_iconst (q := 2) d_gr_faultOf_1 rfl ?_
  refine go_putf (q := 5) (v := mv_I 0) f_gr_18 d_gr_faultOf_2 rfl (pn_c12 hV) (Nat.le_of_ble_eq_true rfl) (go_fitI _) ?_
  refine go_eq (h' := va_up h 12 (mv_O 3 [mv_R 13, mv_R 14, mv_I ((va_up I 3 0) 3)])) ?_
  have hV_2 := pn_u12 hV (va_up I 3 0) (fun i_ h_3 => va_up_ne _ _ h_3)
  have fr_3 : fr_ 1 389 h (va_up h 12 (mv_O 3 [mv_R 13, mv_R 14, mv_I ((va_up I 3 0) 3)])) := fun z_ hz => va_up_ne _ _ (by omega)
  generalize va_up h 12 (mv_O 3 [mv_R 13, mv_R 14, mv_I ((va_up I 3 0) 3)]) = h_1 at hV_2 fr_3 ⊢
  refine go_iconst (q := 6) d_gr_faultOf_5 rfl ?_
  refine go_istore_n (q := 7) (L' := [some (mv_R 12), some (mv_R 2), some (mv_I (len : Int)), some (mv_I 0), none]) d_gr_faultOf_6 rfl rfl (by decide) rfl ?_
  refine go_iconst (q := 8) d_gr_faultOf_7 rfl ?_
  refine go_istore (q := 10) (L' := [some (mv_R 12), some (mv_R 2), some (mv_I (len : Int)), some (mv_I 0), some (mv_I 0)]) d_gr_faultOf_8 rfl (by decide) rfl ?_
  exact k0  _ hV_2 fr_3

set_option maxRecDepth 4000 in
theorem sg_fo_10 {φ : go_F} {l : Launch} {h : mv_H} {n : Nat} {I tx wr ga gb mo mf mg : Nat → Int} {B : Nat → Int} {V : Nat → Nat} {len p : Nat} {s : Int} (hV : pn_V h (I, tx, wr, ga, gb, mo, mf, mg) B V) (hl : len ≤ 120 ∧ p ≤ len)
    (k0 : (len : Int) ≤ (p : Int) → Go φ l m_gr_faultOf (go_rm rd_gr_faultOf rw_gr_faultOf 0 0) (0, 0) 40 [some (mv_R 12), some (mv_R 2), some (mv_I (len : Int)), some (mv_I s), some (mv_I (p : Int))] [] h n)
    (k1 : ¬ (len : Int) ≤ (p : Int) → Go φ l m_gr_faultOf (go_rm rd_gr_faultOf rw_gr_faultOf 0 0) (0, 0) 22 [some (mv_R 12), some (mv_R 2), some (mv_I (len : Int)), some (mv_I s), some (mv_I (p : Int))] [mv_I (tx p), mv_I s, mv_R 12] h n) :
    Go φ l m_gr_faultOf (go_rm rd_gr_faultOf rw_gr_faultOf 0 0) (0, 0) 10 [some (mv_R 12), some (mv_R 2), some (mv_I (len : Int)), some (mv_I s), some (mv_I (p : Int))] [] h n := by
  refine go_iload (q := 12) d_gr_faultOf_10 rfl rfl ?_
  refine go_iload_n (q := 13) d_gr_faultOf_12 rfl rfl rfl ?_
  refine go_icmp_ge (t := 40) (q := 16) d_gr_faultOf_13 (by decide) rfl (by omega) (by omega) (fun c1 => ?_) (fun c1 => ?_)
  ·
    exact k0 c1
  ·
    refine go_aload_n (q := 17) d_gr_faultOf_16 rfl rfl rfl ?_
    refine go_iload_n (q := 18) d_gr_faultOf_17 rfl rfl rfl ?_
    refine go_aload_n (q := 19) d_gr_faultOf_18 rfl rfl rfl ?_
    refine go_iload (q := 21) d_gr_faultOf_19 rfl rfl ?_
    refine go_cald (i := p) (q := 22) d_gr_faultOf_21 rfl (pn_c2 hV) (by omega) (by omega) (by omega) ?_
    exact k1 c1

set_option maxRecDepth 4000 in
theorem sg_fo_25 {φ : go_F} {l : Launch} {h : mv_H} {n : Nat} {I tx wr ga gb mo mf mg : Nat → Int} {B : Nat → Int} {V : Nat → Nat} {len p : Nat} {s z : Int} (hV : pn_V h (I, tx, wr, ga, gb, mo, mf, mg) B V) (hz : 0 ≤ z ∧ z ≤ 5)
    (k0 : ¬ z = 5 → Go φ l m_gr_faultOf (go_rm rd_gr_faultOf rw_gr_faultOf 0 0) (0, 0) 10 [some (mv_R 12), some (mv_R 2), some (mv_I (len : Int)), some (mv_I z), some (mv_I ((p : Int) + 1))] [] h n)
    (k1 : z = 5 → Go φ l m_gr_faultOf (go_rm rd_gr_faultOf rw_gr_faultOf 0 0) (0, 0) 33 [some (mv_R 12), some (mv_R 2), some (mv_I (len : Int)), some (mv_I z), some (mv_I (p : Int))] [mv_I (p : Int)] h n) :
    Go φ l m_gr_faultOf (go_rm rd_gr_faultOf rw_gr_faultOf 0 0) (0, 0) 25 [some (mv_R 12), some (mv_R 2), some (mv_I (len : Int)), some (mv_I s), some (mv_I (p : Int))] [mv_I z] h n := by
  refine go_istore_n (q := 26) (L' := [some (mv_R 12), some (mv_R 2), some (mv_I (len : Int)), some (mv_I z), some (mv_I (p : Int))]) d_gr_faultOf_25 rfl rfl (by decide) rfl ?_
  refine go_iload_n (q := 27) d_gr_faultOf_26 rfl rfl rfl ?_
  refine go_iconst (q := 28) d_gr_faultOf_27 rfl ?_
  refine go_icmp_ne (t := 34) (q := 31) d_gr_faultOf_28 (by decide) rfl (by omega) (by omega) (fun c1 => ?_) (fun c1 => ?_)
  ·
    refine go_iinc (q := 37) (L' := [some (mv_R 12), some (mv_R 2), some (mv_I (len : Int)), some (mv_I z), some (mv_I ((p : Int) + 1))]) d_gr_faultOf_34 rfl (by decide) rfl rfl ?_
    refine go_goto (q := 10) d_gr_faultOf_37 (by decide) ?_
    exact k0 c1
  ·
    refine go_iload (q := 33) d_gr_faultOf_31 rfl rfl ?_
    exact k1 c1

set_option maxRecDepth 4000 in
theorem sg_fo_40 {φ : go_F} {l : Launch} {h : mv_H} {n : Nat} {I tx wr ga gb mo mf mg : Nat → Int} {B : Nat → Int} {V : Nat → Nat} {len p : Nat} {s : Int} (hV : pn_V h (I, tx, wr, ga, gb, mo, mf, mg) B V) (hI : 0 ≤ I 3 ∧ I 3 ≤ 12) (hz : 0 ≤ s ∧ s ≤ 5)
    (k0 : ¬ I 3 = 0 → Go φ l m_gr_faultOf (go_rm rd_gr_faultOf rw_gr_faultOf 0 0) (0, 0) 74 [some (mv_R 12), some (mv_R 2), some (mv_I (len : Int)), some (mv_I s), some (mv_I 0)] [mv_I (len : Int)] h n)
    (k1 : I 3 = 0 → s = 3 → Go φ l m_gr_faultOf (go_rm rd_gr_faultOf rw_gr_faultOf 0 0) (0, 0) 74 [some (mv_R 12), some (mv_R 2), some (mv_I (len : Int)), some (mv_I s), some (mv_I 1)] [mv_I (-1)] h n)
    (k2 : I 3 = 0 → ¬ s = 3 → ¬ s = 4 → Go φ l m_gr_faultOf (go_rm rd_gr_faultOf rw_gr_faultOf 0 0) (0, 0) 74 [some (mv_R 12), some (mv_R 2), some (mv_I (len : Int)), some (mv_I s), some (mv_I 0)] [mv_I (len : Int)] h n)
    (k3 : I 3 = 0 → ¬ s = 3 → s = 4 → Go φ l m_gr_faultOf (go_rm rd_gr_faultOf rw_gr_faultOf 0 0) (0, 0) 74 [some (mv_R 12), some (mv_R 2), some (mv_I (len : Int)), some (mv_I s), some (mv_I 1)] [mv_I (-1)] h n) :
    Go φ l m_gr_faultOf (go_rm rd_gr_faultOf rw_gr_faultOf 0 0) (0, 0) 40 [some (mv_R 12), some (mv_R 2), some (mv_I (len : Int)), some (mv_I s), some (mv_I (p : Int))] [] h n := by
  refine go_aload_n (q := 41) d_gr_faultOf_40 rfl rfl rfl ?_
  refine go_getf (q := 44) f_gr_18 d_gr_faultOf_41 rfl (pn_c12 hV) rfl ?_
  refine go_if_ne (t := 61) (q := 47) d_gr_faultOf_44 (by decide) rfl (by omega) (fun c1 => ?_) (fun c1 => ?_)
  ·
    refine go_iconst (q := 62) d_gr_faultOf_61 rfl ?_
    refine go_istore (q := 64) (L' := [some (mv_R 12), some (mv_R 2), some (mv_I (len : Int)), some (mv_I s), some (mv_I 0)]) d_gr_faultOf_62 rfl (by decide) rfl ?_
    refine go_iload (q := 66) d_gr_faultOf_64 rfl rfl ?_
    refine go_if_eq (t := 73) (q := 69) d_gr_faultOf_66 (by decide) rfl (by omega) (fun c2 => ?_) (fun c2 => ?_)
    ·
      refine go_iload_n (q := 74) d_gr_faultOf_73 rfl rfl rfl ?_
      exact k0 c1
    ·
      exfalso; omega
  ·
    refine go_iload_n (q := 48) d_gr_faultOf_47 rfl rfl rfl ?_
    refine go_iconst (q := 49) d_gr_faultOf_48 rfl ?_
    refine go_icmp_eq (t := 57) (q := 52) d_gr_faultOf_49 (by decide) rfl (by omega) (by omega) (fun c3 => ?_) (fun c3 => ?_)
    ·
      refine go_iconst (q := 58) d_gr_faultOf_57 rfl ?_
      refine go_goto (q := 62) d_gr_faultOf_58 (by decide) ?_
      refine go_istore (q := 64) (L' := [some (mv_R 12), some (mv_R 2), some (mv_I (len : Int)), some (mv_I s), some (mv_I 1)]) d_gr_faultOf_62 rfl (by decide) rfl ?_
      refine go_iload (q := 66) d_gr_faultOf_64 rfl rfl ?_
      refine go_if_eq (t := 73) (q := 69) d_gr_faultOf_66 (by decide) rfl (by omega) (fun c4 => ?_) (fun c4 => ?_)
      ·
        exfalso; omega
      ·
        refine go_iconst (q := 70) d_gr_faultOf_69 rfl ?_
        refine go_goto (q := 74) d_gr_faultOf_70 (by decide) ?_
        exact k1 c1 c3
    ·
      refine go_iload_n (q := 53) d_gr_faultOf_52 rfl rfl rfl ?_
      refine go_iconst (q := 54) d_gr_faultOf_53 rfl ?_
      refine go_icmp_ne (t := 61) (q := 57) d_gr_faultOf_54 (by decide) rfl (by omega) (by omega) (fun c5 => ?_) (fun c5 => ?_)
      ·
        refine go_iconst (q := 62) d_gr_faultOf_61 rfl ?_
        refine go_istore (q := 64) (L' := [some (mv_R 12), some (mv_R 2), some (mv_I (len : Int)), some (mv_I s), some (mv_I 0)]) d_gr_faultOf_62 rfl (by decide) rfl ?_
        refine go_iload (q := 66) d_gr_faultOf_64 rfl rfl ?_
        refine go_if_eq (t := 73) (q := 69) d_gr_faultOf_66 (by decide) rfl (by omega) (fun c6 => ?_) (fun c6 => ?_)
        ·
          refine go_iload_n (q := 74) d_gr_faultOf_73 rfl rfl rfl ?_
          exact k2 c1 c3 c5
        ·
          exfalso; omega
      ·
        refine go_iconst (q := 58) d_gr_faultOf_57 rfl ?_
        refine go_goto (q := 62) d_gr_faultOf_58 (by decide) ?_
        refine go_istore (q := 64) (L' := [some (mv_R 12), some (mv_R 2), some (mv_I (len : Int)), some (mv_I s), some (mv_I 1)]) d_gr_faultOf_62 rfl (by decide) rfl ?_
        refine go_iload (q := 66) d_gr_faultOf_64 rfl rfl ?_
        refine go_if_eq (t := 73) (q := 69) d_gr_faultOf_66 (by decide) rfl (by omega) (fun c7 => ?_) (fun c7 => ?_)
        ·
          exfalso; omega
        ·
          refine go_iconst (q := 70) d_gr_faultOf_69 rfl ?_
          refine go_goto (q := 74) d_gr_faultOf_70 (by decide) ?_
          exact k3 c1 c3 c5

