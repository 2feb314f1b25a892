set_option maxRecDepth 4000 in
theorem sf_kind_0 {φ : go_F} {l : Launch} {h : mv_H} {n : Nat} {I tx wr ga gb mo mf mg : Nat → Int} {B : Nat → Int} {V : Nat → Nat} {a : Nat} (hV : pn_V h (I, tx, wr, ga, gb, mo, mf, mg) B V) (ha : a = 3 ∨ a = 40 ∨ (50 ≤ a ∧ a < 390 ∧ a % 5 = 0))
    (k0 : V (a + 3) = 1 → Go φ l m_fr_kind (go_rm rd_fr_kind rw_fr_kind 0 0) (0, 0) 9 [some (mv_R a), none] [] h n)
    (k1 : ¬ V (a + 3) = 1 → Go φ l m_fr_kind (go_rm rd_fr_kind rw_fr_kind 0 0) (0, 0) 8 [some (mv_R a), none] [mv_I 2] h n) :
    Go φ l m_fr_kind (go_rm rd_fr_kind rw_fr_kind 0 0) (0, 0) 0 [some (mv_R a), none] [] h n := by
  refine go_aload_n (q := 1) d_fr_kind_0 rfl rfl rfl ?_
  refine cp_fr_isWhole (a := a) (q := 4) l_fr_42 d_fr_kind_1 rfl hV ha (Nat.le_of_ble_eq_true rfl) ⟨by decide, by decide, by decide, by decide⟩ ?_
  rw [(show V (a + 3) = V (a + 3) from rfl)]
  refine go_if_ne (t := 9) (q := 7) d_fr_kind_4 (by decide) rfl it_rng (fun c1 => ?_) (fun c1 => ?_)
  · have c2 : V (a + 3) = 1 := it_nep c1
    exact k0 c2
  · have c3 : ¬ V (a + 3) = 1 := it_nen c1
    refine go_iconst (q := 8) d_fr_kind_7 rfl ?_
    exact k1 c3

set_option maxRecDepth 4000 in
theorem sf_kind_44 {φ : go_F} {l : Launch} {R : Room} {u : Nat × Nat} {h : mv_H} {n : Nat} {a : Nat}  
    (k0 : Go φ l m_fr_kind R u 59 [some (mv_R a), some (mv_I 1)] [mv_I 0] h n) :
    Go φ l m_fr_kind R u 44 [some (mv_R a), none] [] h n := by
  refine go_iconst (q := 45) d_fr_kind_44 rfl ?_
  refine go_goto (q := 49) d_fr_kind_45 (by decide) ?_
  refine go_istore_n (q := 50) (L' := [some (mv_R a), some (mv_I 1)]) d_fr_kind_49 rfl rfl (by decide) rfl ?_
  refine go_iload_n (q := 51) d_fr_kind_50 rfl rfl rfl ?_
  refine go_if_eq (t := 58) (q := 54) d_fr_kind_51 (by decide) rfl (by omega) (fun c1 => ?_) (fun c1 => ?_)
  ·
    exfalso; omega
  ·
    refine go_iconst (q := 55) d_fr_kind_54 rfl ?_
    refine go_goto (q := 59) d_fr_kind_55 (by decide) ?_
    exact k0 

set_option maxRecDepth 4000 in
theorem sf_kind_48 {φ : go_F} {l : Launch} {R : Room} {u : Nat × Nat} {h : mv_H} {n : Nat} {a : Nat}  
    (k0 : Go φ l m_fr_kind R u 59 [some (mv_R a), some (mv_I 0)] [mv_I 1] h n) :
    Go φ l m_fr_kind R u 48 [some (mv_R a), none] [] h n := by
  refine go_iconst (q := 49) d_fr_kind_48 rfl ?_
  refine go_istore_n (q := 50) (L' := [some (mv_R a), some (mv_I 0)]) d_fr_kind_49 rfl rfl (by decide) rfl ?_
  refine go_iload_n (q := 51) d_fr_kind_50 rfl rfl rfl ?_
  refine go_if_eq (t := 58) (q := 54) d_fr_kind_51 (by decide) rfl (by omega) (fun c1 => ?_) (fun c1 => ?_)
  ·
    refine go_iconst (q := 59) d_fr_kind_58 rfl ?_
    exact k0 
  ·
    exfalso; omega

set_option maxRecDepth 4000 in
theorem sf_side {φ : go_F} {l : Launch} {h : mv_H} {n : Nat} {I tx wr ga gb mo mf mg : Nat → Int} {B : Nat → Int} {V : Nat → Nat} {a : Nat} (hV : pn_V h (I, tx, wr, ga, gb, mo, mf, mg) B V) (ha : a = 3 ∨ a = 40 ∨ (50 ≤ a ∧ a < 390 ∧ a % 5 = 0))
    (k0 : B a = 0 → ¬ V (a + 1) = 0 → Go φ l m_fr_side (go_rm rd_fr_side rw_fr_side 0 0) (0, 0) 23 [some (mv_R a)] [mv_I 1] h n)
    (k1 : B a = 0 → V (a + 1) = 0 → Go φ l m_fr_side (go_rm rd_fr_side rw_fr_side 0 0) (0, 0) 23 [some (mv_R a)] [mv_I 0] h n)
    (k2 : ¬ B a = 0 → Go φ l m_fr_side (go_rm rd_fr_side rw_fr_side 0 0) (0, 0) 23 [some (mv_R a)] [mv_I (-1)] h n) :
    Go φ l m_fr_side (go_rm rd_fr_side rw_fr_side 0 0) (0, 0) 0 [some (mv_R a)] [] h n := by
  refine go_aload_n (q := 1) d_fr_side_0 rfl rfl rfl ?_
  refine go_getf (q := 4) f_fr_26 d_fr_side_1 rfl (pn_cf hV (a := a) ha) rfl ?_
  rw [(show B a = B a from rfl)]
  have q_1 := hV.2.1 a
  rw [(show B a = B a from rfl)] at q_1
  refine go_if_eq (t := 11) (q := 7) d_fr_side_4 (by decide) rfl (by omega) (fun c2 => ?_) (fun c2 => ?_)
  ·
    refine go_aload_n (q := 12) d_fr_side_11 rfl rfl rfl ?_
    refine cp_fr_isZero (a := a) (q := 15) l_fr_41 d_fr_side_12 rfl hV ha (Nat.le_of_ble_eq_true rfl) ⟨by decide, by decide, by decide, by decide⟩ ?_
    rw [(show V (a + 1) = V (a + 1) from rfl)]
    refine go_if_eq (t := 22) (q := 18) d_fr_side_15 (by decide) rfl it_rng (fun c3 => ?_) (fun c3 => ?_)
    · have c4 : ¬ V (a + 1) = 0 := it_eqp c3
      refine go_iconst (q := 23) d_fr_side_22 rfl ?_
      exact k0 c2 c4
    · have c5 : V (a + 1) = 0 := it_eqn c3
      refine go_iconst (q := 19) d_fr_side_18 rfl ?_
      refine go_goto (q := 23) d_fr_side_19 (by decide) ?_
      exact k1 c2 c5
  ·
    refine go_iconst (q := 8) d_fr_side_7 rfl ?_
    refine go_goto (q := 23) d_fr_side_8 (by decide) ?_
    exact k2 c2

set_option maxRecDepth 4000 in
theorem sp_form {φ : go_F} {l : Launch} {h : mv_H} {n : Nat} {I tx wr ga gb mo mf mg : Nat → Int} {B : Nat → Int} {V : Nat → Nat}  (hV : pn_V h (I, tx, wr, ga, gb, mo, mf, mg) B V) 
    (k0 : Go φ l m_pn_form (go_rm rd_pn_form rw_pn_form 0 0) (0, 0) 4 [some (mv_R 1)] [mv_R 3] h n) :
    Go φ l m_pn_form (go_rm rd_pn_form rw_pn_form 0 0) (0, 0) 0 [some (mv_R 1)] [] h n := by
  refine go_aload_n (q := 1) d_pn_form_0 rfl rfl rfl ?_
  refine go_getf (v := mv_R 3) (q := 4) f_pn_20 d_pn_form_1 rfl (pn_c1 hV) rfl ?_
  exact k0 

set_option maxRecDepth 4000 in
theorem sp_sign {φ : go_F} {l : Launch} {h : mv_H} {n : Nat} {I tx wr ga gb mo mf mg : Nat → Int} {B : Nat → Int} {V : Nat → Nat}  (hV : pn_V h (I, tx, wr, ga, gb, mo, mf, mg) B V) 
    (k0 : Go φ l m_pn_sign (go_rm rd_pn_sign rw_pn_sign 0 0) (0, 0) 4 [some (mv_R 1)] [mv_R 3] h n) :
    Go φ l m_pn_sign (go_rm rd_pn_sign rw_pn_sign 0 0) (0, 0) 0 [some (mv_R 1)] [] h n := by
  refine go_aload_n (q := 1) d_pn_sign_0 rfl rfl rfl ?_
  refine go_getf (v := mv_R 3) (q := 4) f_pn_20 d_pn_sign_1 rfl (pn_c1 hV) rfl ?_
  exact k0 

set_option maxRecDepth 4000 in
theorem sp_digit {φ : go_F} {l : Launch} {h : mv_H} {n : Nat} {I tx wr ga gb mo mf mg : Nat → Int} {B : Nat → Int} {V : Nat → Nat} {i : Int} (hV : pn_V h (I, tx, wr, ga, gb, mo, mf, mg) B V) 
    (k0 : Go φ l m_pn_digit (go_rm rd_pn_digit rw_pn_digit 0 0) (0, 0) 5 [some (mv_R 1), some (mv_I i)] [mv_I i, mv_R 8] h n) :
    Go φ l m_pn_digit (go_rm rd_pn_digit rw_pn_digit 0 0) (0, 0) 0 [some (mv_R 1), some (mv_I i)] [] h n := by
  refine go_aload_n (q := 1) d_pn_digit_0 rfl rfl rfl ?_
  refine go_getf (v := mv_R 8) (q := 4) f_pn_27 d_pn_digit_1 rfl (pn_c1 hV) rfl ?_
  refine go_iload_n (q := 5) d_pn_digit_4 rfl rfl rfl ?_
  exact k0 

set_option maxRecDepth 4000 in
theorem sp_bits {φ : go_F} {l : Launch} {h : mv_H} {n : Nat} {I tx wr ga gb mo mf mg : Nat → Int} {B : Nat → Int} {V : Nat → Nat} {p i : Int} (hV : pn_V h (I, tx, wr, ga, gb, mo, mf, mg) B V) (hp : -2147483648 ≤ p ∧ p ≤ 2147483647)
    (k0 : ¬ p = 0 → Go φ l m_pn_bits (go_rm rd_pn_bits rw_pn_bits 0 0) (0, 0) 26 [some (mv_R 1), some (mv_I p), some (mv_I i)] [mv_I i, mv_R 6] h n)
    (k1 : p = 0 → Go φ l m_pn_bits (go_rm rd_pn_bits rw_pn_bits 0 0) (0, 0) 12 [some (mv_R 1), some (mv_I p), some (mv_I i)] [mv_I i, mv_R 4] h n) :
    Go φ l m_pn_bits (go_rm rd_pn_bits rw_pn_bits 0 0) (0, 0) 0 [some (mv_R 1), some (mv_I p), some (mv_I i)] [] h n := by
  refine go_iload_n (q := 1) d_pn_bits_0 rfl rfl rfl ?_
  refine go_if_ne (t := 18) (q := 4) d_pn_bits_1 (by decide) rfl (by omega) (fun c1 => ?_) (fun c1 => ?_)
  ·
    refine go_aload_n (q := 19) d_pn_bits_18 rfl rfl rfl ?_
    refine go_getf (v := mv_R 3) (q := 22) f_pn_20 d_pn_bits_19 rfl (pn_c1 hV) rfl ?_
    refine go_getf (q := 25) f_pn_103 d_pn_bits_22 rfl (pn_cf hV (a := 3) fa_r) rfl ?_
    refine go_iload_n (q := 26) d_pn_bits_25 rfl rfl rfl ?_
    exact k0 c1
  ·
    refine go_aload_n (q := 5) d_pn_bits_4 rfl rfl rfl ?_
    refine go_getf (v := mv_R 3) (q := 8) f_pn_20 d_pn_bits_5 rfl (pn_c1 hV) rfl ?_
    refine go_getf (q := 11) f_pn_93 d_pn_bits_8 rfl (pn_cf hV (a := 3) fa_r) rfl ?_
    refine go_iload_n (q := 12) d_pn_bits_11 rfl rfl rfl ?_
    exact k1 c1

set_option maxRecDepth 4000 in
theorem so_form {φ : go_F} {l : Launch} {h : mv_H} {n : Nat} {o : Nat} {I tx S ps cs bs : Nat → Int} {V : Nat → Nat}  (hV : mo_V h o (I, tx, S, ps, cs, bs) V) 
    (k0 : ∀ h' : mv_H, mo_V h' o (va_up I 0 0, tx, S, ps, cs, bs) (V) → fr_ o 8 h h' → Go φ l m_mo_form (go_rm rd_mo_form rw_mo_form 0 0) (0, 0) 8 [some (mv_R o)] [mv_I 72, mv_R o] h' n) :
    Go φ l m_mo_form (go_rm rd_mo_form rw_mo_form 0 0) (0, 0) 0 [some (mv_R o)] [] h n := by
  refine go_aload_n (q := 1) d_mo_form_0 rfl rfl rfl ?_
  refine go_iconst (q := 2) d_mo_form_1 rfl ?_
  refine go_putf (q := 5) (v := mv_I 0) f_mo_42 d_mo_form_2 rfl (mv_c0 hV) (Nat.le_of_ble_eq_true rfl) (go_fitI _) ?_
  have hV_2 := mv_u0 hV (va_up I 0 0)
  refine go_eq (h' := va_up h o (mv_O 8 [mv_I ((va_up I 0 0) 0), mv_I ((va_up I 0 0) 1), mv_R (o + 1), mv_I ((va_up I 0 0) 2), mv_R (o + 2), mv_R (o + 3), mv_R (o + 4), mv_R (o + 5), mv_R (o + 6), mv_R (o + 7), mv_I ((va_up I 0 0) 3), mv_I ((va_up I 0 0) 4), mv_I ((va_up I 0 0) 5)])) ?_
  have fr_3 : fr_ o 8 h (va_up h o (mv_O 8 [mv_I ((va_up I 0 0) 0), mv_I ((va_up I 0 0) 1), mv_R (o + 1), mv_I ((va_up I 0 0) 2), mv_R (o + 2), mv_R (o + 3), mv_R (o + 4), mv_R (o + 5), mv_R (o + 6), mv_R (o + 7), mv_I ((va_up I 0 0) 3), mv_I ((va_up I 0 0) 4), mv_I ((va_up I 0 0) 5)])) := fun z_ hz => va_up_ne _ _ (by omega)
  generalize va_up h o (mv_O 8 [mv_I ((va_up I 0 0) 0), mv_I ((va_up I 0 0) 1), mv_R (o + 1), mv_I ((va_up I 0 0) 2), mv_R (o + 2), mv_R (o + 3), mv_R (o + 4), mv_R (o + 5), mv_R (o + 6), mv_R (o + 7), mv_I ((va_up I 0 0) 3), mv_I ((va_up I 0 0) 4), mv_I ((va_up I 0 0) 5)]) = h_1 at hV_2 fr_3 ⊢
  refine go_aload_n (q := 6) d_mo_form_5 rfl rfl rfl ?_
  refine go_bipush (q := 8) d_mo_form_6 rfl (by decide) ?_
  exact k0  _ hV_2 fr_3

set_option maxRecDepth 4000 in
theorem so_sign {φ : go_F} {l : Launch} {h : mv_H} {n : Nat} {o : Nat} {I tx S ps cs bs : Nat → Int} {V : Nat → Nat}  (hV : mo_V h o (I, tx, S, ps, cs, bs) V) 
    (k0 : ∀ h' : mv_H, mo_V h' o (va_up I 0 0, tx, S, ps, cs, bs) (V) → fr_ o 8 h h' → Go φ l m_mo_sign (go_rm rd_mo_sign rw_mo_sign 0 0) (0, 0) 12 [some (mv_R o)] [mv_I (S 72)] h' n) :
    Go φ l m_mo_sign (go_rm rd_mo_sign rw_mo_sign 0 0) (0, 0) 0 [some (mv_R o)] [] h n := by
  refine go_aload_n (q := 1) d_mo_sign_0 rfl rfl rfl ?_
  refine go_iconst (q := 2) d_mo_sign_1 rfl ?_
  refine go_putf (q := 5) (v := mv_I 0) f_mo_42 d_mo_sign_2 rfl (mv_c0 hV) (Nat.le_of_ble_eq_true rfl) (go_fitI _) ?_
  have hV_2 := mv_u0 hV (va_up I 0 0)
  refine go_eq (h' := va_up h o (mv_O 8 [mv_I ((va_up I 0 0) 0), mv_I ((va_up I 0 0) 1), mv_R (o + 1), mv_I ((va_up I 0 0) 2), mv_R (o + 2), mv_R (o + 3), mv_R (o + 4), mv_R (o + 5), mv_R (o + 6), mv_R (o + 7), mv_I ((va_up I 0 0) 3), mv_I ((va_up I 0 0) 4), mv_I ((va_up I 0 0) 5)])) ?_
  have fr_3 : fr_ o 8 h (va_up h o (mv_O 8 [mv_I ((va_up I 0 0) 0), mv_I ((va_up I 0 0) 1), mv_R (o + 1), mv_I ((va_up I 0 0) 2), mv_R (o + 2), mv_R (o + 3), mv_R (o + 4), mv_R (o + 5), mv_R (o + 6), mv_R (o + 7), mv_I ((va_up I 0 0) 3), mv_I ((va_up I 0 0) 4), mv_I ((va_up I 0 0) 5)])) := fun z_ hz => va_up_ne _ _ (by omega)
  generalize va_up h o (mv_O 8 [mv_I ((va_up I 0 0) 0), mv_I ((va_up I 0 0) 1), mv_R (o + 1), mv_I ((va_up I 0 0) 2), mv_R (o + 2), mv_R (o + 3), mv_R (o + 4), mv_R (o + 5), mv_R (o + 6), mv_R (o + 7), mv_I ((va_up I 0 0) 3), mv_I ((va_up I 0 0) 4), mv_I ((va_up I 0 0) 5)]) = h_1 at hV_2 fr_3 ⊢
  refine go_aload_n (q := 6) d_mo_sign_5 rfl rfl rfl ?_
  refine go_getf (v := mv_R (o + 4)) (q := 9) f_mo_23 d_mo_sign_6 rfl (mv_c0 hV_2) rfl ?_
  refine go_bipush (q := 11) d_mo_sign_9 rfl (by decide) ?_
  refine go_iald (i := 72) (q := 12) d_mo_sign_11 rfl (mv_c4 hV_2) (by omega) (by omega) (by omega) ?_
  exact k0  _ hV_2 fr_3

set_option maxRecDepth 4000 in
theorem so_bi_0 {φ : go_F} {l : Launch} {h : mv_H} {n : Nat} {o : Nat} {I tx S ps cs bs : Nat → Int} {V : Nat → Nat} {p i : Int} (hV : mo_V h o (I, tx, S, ps, cs, bs) V) (hp : -2147483648 ≤ p ∧ p ≤ 2147483647) (hi : -2147483648 ≤ i ∧ i ≤ 2147483647)
    (k0 : i < 0 → ∀ h' : mv_H, mo_V h' o (va_up I 0 0, tx, S, ps, cs, bs) (V) → fr_ o 8 h h' → Go φ l m_mo_bits (go_rm rd_mo_bits rw_mo_bits 0 0) (0, 0) 16 [some (mv_R o), some (mv_I p), some (mv_I i), none, none] [mv_I 0] h' n)
    (k1 : ¬ i < 0 → i ≤ 7 → ¬ p = 0 → ∀ h' : mv_H, mo_V h' o (va_up I 0 0, tx, S, ps, cs, bs) (va_up V 150 (V 145)) → fr_ o 8 h h' → Go φ l m_mo_bits (go_rm rd_mo_bits rw_mo_bits 0 0) (0, 0) 39 [some (mv_R o), some (mv_I p), some (mv_I i), some (mv_I 0), none] [] h' n)
    (k2 : ¬ i < 0 → i ≤ 7 → p = 0 → ∀ h' : mv_H, mo_V h' o (va_up I 0 0, tx, S, ps, cs, bs) (va_up V 150 (V 144)) → fr_ o 8 h h' → Go φ l m_mo_bits (go_rm rd_mo_bits rw_mo_bits 0 0) (0, 0) 39 [some (mv_R o), some (mv_I p), some (mv_I i), some (mv_I 0), none] [] h' n)
    (k3 : ¬ i < 0 → ¬ i ≤ 7 → ∀ h' : mv_H, mo_V h' o (va_up I 0 0, tx, S, ps, cs, bs) (V) → fr_ o 8 h h' → Go φ l m_mo_bits (go_rm rd_mo_bits rw_mo_bits 0 0) (0, 0) 16 [some (mv_R o), some (mv_I p), some (mv_I i), none, none] [mv_I 0] h' n) :
    Go φ l m_mo_bits (go_rm rd_mo_bits rw_mo_bits 0 0) (0, 0) 0 [some (mv_R o), some (mv_I p), some (mv_I i), none, none] [] h n := by
  refine go_aload_n (q := 1) d_mo_bits_0 rfl rfl rfl ?_
  refine go_iconst (q := 2) d_mo_bits_1 rfl ?_
  refine go_putf (q := 5) (v := mv_I 0) f_mo_42 d_mo_bits_2 rfl (mv_c0 hV) (Nat.le_of_ble_eq_true rfl) (go_fitI _) ?_
  have hV_2 := mv_u0 hV (va_up I 0 0)
  refine go_eq (h' := va_up h o (mv_O 8 [mv_I ((va_up I 0 0) 0), mv_I ((va_up I 0 0) 1), mv_R (o + 1), mv_I ((va_up I 0 0) 2), mv_R (o + 2), mv_R (o + 3), mv_R (o + 4), mv_R (o + 5), mv_R (o + 6), mv_R (o + 7), mv_I ((va_up I 0 0) 3), mv_I ((va_up I 0 0) 4), mv_I ((va_up I 0 0) 5)])) ?_
  have fr_3 : fr_ o 8 h (va_up h o (mv_O 8 [mv_I ((va_up I 0 0) 0), mv_I ((va_up I 0 0) 1), mv_R (o + 1), mv_I ((va_up I 0 0) 2), mv_R (o + 2), mv_R (o + 3), mv_R (o + 4), mv_R (o + 5), mv_R (o + 6), mv_R (o + 7), mv_I ((va_up I 0 0) 3), mv_I ((va_up I 0 0) 4), mv_I ((va_up I 0 0) 5)])) := fun z_ hz => va_up_ne _ _ (by omega)
  generalize va_up h o (mv_O 8 [mv_I ((va_up I 0 0) 0), mv_I ((va_up I 0 0) 1), mv_R (o + 1), mv_I ((va_up I 0 0) 2), mv_R (o + 2), mv_R (o + 3), mv_R (o + 4), mv_R (o + 5), mv_R (o + 6), mv_R (o + 7), mv_I ((va_up I 0 0) 3), mv_I ((va_up I 0 0) 4), mv_I ((va_up I 0 0) 5)]) = h_1 at hV_2 fr_3 ⊢
  refine go_iload_n (q := 6) d_mo_bits_5 rfl rfl rfl ?_
  refine go_if_lt (t := 15) (q := 9) d_mo_bits_6 (by decide) rfl (by omega) (fun c4 => ?_) (fun c4 => ?_)
  ·
    refine go_iconst (q := 16) d_mo_bits_15 rfl ?_
    exact k0 c4 _ hV_2 fr_3
  ·
    refine go_iload_n (q := 10) d_mo_bits_9 rfl rfl rfl ?_
    refine go_bipush (q := 12) d_mo_bits_10 rfl (by decide) ?_
    refine go_icmp_le (t := 17) (q := 15) d_mo_bits_12 (by decide) rfl (by omega) (by omega) (fun c5 => ?_) (fun c5 => ?_)
    ·
      refine go_aload_n (q := 18) d_mo_bits_17 rfl rfl rfl ?_
      refine go_iload_n (q := 19) d_mo_bits_18 rfl rfl rfl ?_
      refine go_if_ne (t := 28) (q := 22) d_mo_bits_19 (by decide) rfl (by omega) (fun c6 => ?_) (fun c6 => ?_)
      ·
        refine go_sipush (q := 31) d_mo_bits_28 rfl (by decide) ?_
        refine go_sipush (q := 34) d_mo_bits_31 rfl (by decide) ?_
        refine cl_copy (a := 145) (b := 150) (q := 37) rfl d_mo_bits_34 rfl hV_2 (by omega) (by omega) (Nat.le_of_ble_eq_true rfl) ⟨by decide, by decide, by decide, by decide⟩ (fun h_7 hV_8 fr_9 => ?_)
        have hV_10 : mo_V h_7 o (va_up I 0 0, tx, S, ps, cs, bs) (va_up V 150 (V 145)) := by
          have e_ : (V) 145 = V 145 := by rw [(show V 145 = V 145 from rfl)]
          rw [← e_]
          exact hV_8
        refine go_iconst (q := 38) d_mo_bits_37 rfl ?_
        refine go_istore_n (q := 39) (L' := [some (mv_R o), some (mv_I p), some (mv_I i), some (mv_I 0), none]) d_mo_bits_38 rfl rfl (by decide) rfl ?_
        exact k1 c4 c5 c6 _ hV_10 (fr_.tr fr_3 fr_9)
      ·
        refine go_sipush (q := 25) d_mo_bits_22 rfl (by decide) ?_
        refine go_goto (q := 31) d_mo_bits_25 (by decide) ?_
        refine go_sipush (q := 34) d_mo_bits_31 rfl (by decide) ?_
        refine cl_copy (a := 144) (b := 150) (q := 37) rfl d_mo_bits_34 rfl hV_2 (by omega) (by omega) (Nat.le_of_ble_eq_true rfl) ⟨by decide, by decide, by decide, by decide⟩ (fun h_11 hV_12 fr_13 => ?_)
        have hV_14 : mo_V h_11 o (va_up I 0 0, tx, S, ps, cs, bs) (va_up V 150 (V 144)) := by
          have e_ : (V) 144 = V 144 := by rw [(show V 144 = V 144 from rfl)]
          rw [← e_]
          exact hV_12
        refine go_iconst (q := 38) d_mo_bits_37 rfl ?_
        refine go_istore_n (q := 39) (L' := [some (mv_R o), some (mv_I p), some (mv_I i), some (mv_I 0), none]) d_mo_bits_38 rfl rfl (by decide) rfl ?_
        exact k2 c4 c5 c6 _ hV_14 (fr_.tr fr_3 fr_13)
    ·
      refine go_iconst (q := 16) d_mo_bits_15 rfl ?_
      exact k3 c4 c5 _ hV_2 fr_3

set_option maxRecDepth 4000 in
theorem so_bi_39 {φ : go_F} {l : Launch} {h : mv_H} {n : Nat} {o : Nat} {I tx S ps cs bs : Nat → Int} {V : Nat → Nat} {p : Int} {i k : Nat} (hV : mo_V h o (I, tx, S, ps, cs, bs) V) (hi : i ≤ 7 ∧ k ≤ 2 * i)
    (k0 : 2 * (i : Int) ≤ (k : Int) → Go φ l m_mo_bits (go_rm rd_mo_bits rw_mo_bits 0 0) (0, 0) 62 [some (mv_R o), some (mv_I p), some (mv_I (i : Int)), some (mv_I (k : Int)), none] [] h n)
    (k1 : ¬ 2 * (i : Int) ≤ (k : Int) → ∀ h' : mv_H, mo_V h' o (I, tx, S, ps, cs, bs) (va_up V 150 ((V 150) / 65536)) → fr_ o 8 h h' → Go φ l m_mo_bits (go_rm rd_mo_bits rw_mo_bits 0 0) (0, 0) 39 [some (mv_R o), some (mv_I p), some (mv_I (i : Int)), some (mv_I ((k : Int) + 1)), none] [] h' n) :
    Go φ l m_mo_bits (go_rm rd_mo_bits rw_mo_bits 0 0) (0, 0) 39 [some (mv_R o), some (mv_I p), some (mv_I (i : Int)), some (mv_I (k : Int)), none] [] h n := by
  refine go_iload_n (q := 40) d_mo_bits_39 rfl rfl rfl ?_
  refine go_iconst (q := 41) d_mo_bits_40 rfl ?_
  refine go_iload_n (q := 42) d_mo_bits_41 rfl rfl rfl ?_
  refine go_imul (q := 43) d_mo_bits_42 rfl ?_
  refine go_icmp_ge (t := 62) (q := 46) d_mo_bits_43 (by decide) rfl (by omega) (by omega) (fun c1 => ?_) (fun c1 => ?_)
  ·
    exact k0 c1
  ·
    refine go_aload_n (q := 47) d_mo_bits_46 rfl rfl rfl ?_
    refine go_sipush (q := 50) d_mo_bits_47 rfl (by decide) ?_
    refine go_ldc (z := 65536) (q := 52) d_mo_bits_50 rfl tw_5_91 (by decide) ?_
    refine cl_divideSmall (r := 150) (y := 65536) (q := 55) rfl d_mo_bits_52 rfl hV (by omega) (by omega) (Nat.le_of_ble_eq_true rfl) ⟨by decide, by decide, by decide, by decide⟩ (fun h_2 hV_3 fr_4 => ?_)
    have hV_5 : mo_V h_2 o (I, tx, S, ps, cs, bs) (va_up V 150 ((V 150) / 65536)) := by
      have e_ : (V) 150 / 65536 = (V 150) / 65536 := by rw [(show V 150 = V 150 from rfl)]
      rw [← e_]
      exact hV_3
    rw [(show V 150 = V 150 from rfl)]
    refine go_pop (q := 56) d_mo_bits_55 rfl rfl ?_
    refine go_iinc (q := 59) (L' := [some (mv_R o), some (mv_I p), some (mv_I (i : Int)), some (mv_I ((k : Int) + 1)), none]) d_mo_bits_56 rfl (by decide) rfl rfl ?_
    refine go_goto (q := 39) d_mo_bits_59 (by decide) ?_
    exact k1 c1 _ hV_5 fr_4

