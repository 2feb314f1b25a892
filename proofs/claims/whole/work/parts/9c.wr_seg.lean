set_option maxRecDepth 4000 in
theorem sz_put {φ : go_F} {l : Launch} {h : mv_H} {n : Nat} {I tx wr ga gb mo mf mg : Nat → Int} {B : Nat → Int} {V : Nat → Nat} {c : Int} {s : Nat} (hV : pn_V h (I, tx, wr, ga, gb, mo, mf, mg) B V) (hc : 0 ≤ c ∧ c ≤ 127) (hs : I 2 = (s : Int) + 1 ∧ s < 148)
    (k0 : ∀ h' : mv_H, pn_V h' (va_up I 2 ((I 2) - 1), tx, va_up wr s c, ga, gb, mo, mf, mg) B V → fr_ 1 389 h h' → Go φ l m_wr_put (go_rm rd_wr_put rw_wr_put 0 0) (0, 0) 20 [some (mv_R 8), some (mv_I c)] [] h' n) :
    Go φ l m_wr_put (go_rm rd_wr_put rw_wr_put 0 0) (0, 0) 0 [some (mv_R 8), some (mv_I c)] [] h n := by
  refine go_aload_n (q := 1) d_wr_put_0 rfl rfl rfl ?_
  refine go_dup (q := 2) d_wr_put_1 rfl rfl ?_
  refine go_getf (v := mv_I (I 2)) (q := 5) f_wr_24 d_wr_put_2 rfl (pn_c8 hV) rfl ?_
  refine go_iconst (q := 6) d_wr_put_5 rfl ?_
  refine go_isub (q := 7) d_wr_put_6 rfl ?_
  refine go_putf (q := 10) (v := mv_I ((I 2) - 1)) f_wr_24 d_wr_put_7 rfl (pn_c8 hV) (Nat.le_of_ble_eq_true rfl) (go_fitI _) ?_
  refine go_eq (h' := va_up h 8 (mv_O 6 [mv_R 9, mv_R 10, mv_I ((va_up I 2 ((I 2) - 1)) 2)])) ?_
  have hV_2 := pn_u8 hV (va_up I 2 ((I 2) - 1)) (fun i_ h_2 => va_up_ne _ _ h_2)
  have fr_3 : fr_ 1 389 h (va_up h 8 (mv_O 6 [mv_R 9, mv_R 10, mv_I ((va_up I 2 ((I 2) - 1)) 2)])) := fun z_ hz => va_up_ne _ _ (by omega)
  generalize va_up h 8 (mv_O 6 [mv_R 9, mv_R 10, mv_I ((va_up I 2 ((I 2) - 1)) 2)]) = h_1 at hV_2 fr_3 ⊢
  refine go_aload_n (q := 11) d_wr_put_10 rfl rfl rfl ?_
  refine go_getf (v := mv_R 9) (q := 14) f_wr_11 d_wr_put_11 rfl (pn_c8 hV_2) rfl ?_
  refine go_aload_n (q := 15) d_wr_put_14 rfl rfl rfl ?_
  refine go_getf (v := mv_I ((I 2) - 1)) (q := 18) f_wr_24 d_wr_put_15 rfl (pn_c8 hV_2) rfl ?_
  refine go_iload_n (q := 19) d_wr_put_18 rfl rfl rfl ?_
  refine go_cast (i := s) (q := 20) d_wr_put_19 rfl (pn_c9 hV_2) (by omega) (by omega) (by omega) (by omega) ?_
  have hV_5 := pn_u9 hV_2 (va_up wr s c)
  have fr_6 : fr_ 1 389 h_1 (va_up h_1 9 (mv_A 2 148 (va_up wr s c))) := fun z_ hz => va_up_ne _ _ (by omega)
  generalize va_up h_1 9 (mv_A 2 148 (va_up wr s c)) = h_4 at hV_5 fr_6 ⊢
  exact k0  _ hV_5 (fr_.tr fr_3 fr_6)

set_option maxRecDepth 4000 in
theorem sz_pa_0 {φ : go_F} {l : Launch} {h : mv_H} {n : Nat} {I tx wr ga gb mo mf mg : Nat → Int} {B : Nat → Int} {V : Nat → Nat} {p : Nat} (hV : pn_V h (I, tx, wr, ga, gb, mo, mf, mg) B V) (hp : p = 4 ∨ p = 6) (rp : ro_ p) (hv : V p < 1073741824 ^ 8)
    (k0 : ∀ h' : mv_H, pn_V h' (I, tx, wr, ga, gb, mo, mf, mg) B (va_up (va_up V 10 (V p)) 10 ((V p) / 10)) → fr_ 1 389 h h' → Go φ l m_wr_putAmount (go_rm rd_wr_putAmount rw_wr_putAmount 0 0) (0, 0) 22 [some (mv_R 8), some (mv_R p), none] [mv_I (48 + (((V p) % 10 : Nat) : Int)), mv_R 8] h' n) :
    Go φ l m_wr_putAmount (go_rm rd_wr_putAmount rw_wr_putAmount 0 0) (0, 0) 0 [some (mv_R 8), some (mv_R p), none] [] h n := by
  refine go_aload_n (q := 1) d_wr_putAmount_0 rfl rfl rfl ?_
  refine go_getf (v := mv_R 10) (q := 4) f_wr_20 d_wr_putAmount_1 rfl (pn_c8 hV) rfl ?_
  refine go_aload_n (q := 5) d_wr_putAmount_4 rfl rfl rfl ?_
  refine cp_copy (p := 10) (r := p) (q := 8) l_wr_52 d_wr_putAmount_5 rfl hV (by unfold ro_; decide) rp (by omega) (by rw [(show V p = V p from rfl), (show rn_ 10 = 8 from rfl)]; first | assumption | omega) (Nat.le_of_ble_eq_true rfl) ⟨by decide, by decide, by decide, by decide⟩ (fun h_1 hV_2 fr_3 => ?_)
  have hV_4 : pn_V h_1 (I, tx, wr, ga, gb, mo, mf, mg) B (va_up V 10 (V p)) := by
    try rw [(show V p = V p from rfl)] at hV_2
    exact hV_2
  refine go_aload_n (q := 9) d_wr_putAmount_8 rfl rfl rfl ?_
  refine go_bipush (q := 11) d_wr_putAmount_9 rfl (by decide) ?_
  refine go_aload_n (q := 12) d_wr_putAmount_11 rfl rfl rfl ?_
  refine go_getf (v := mv_R 10) (q := 15) f_wr_20 d_wr_putAmount_12 rfl (pn_c8 hV_4) rfl ?_
  refine go_bipush (q := 17) d_wr_putAmount_15 rfl (by decide) ?_
  refine cp_divideBy (p := 10) (x := 10) (q := 20) l_wr_55 d_wr_putAmount_17 rfl hV_4 (by unfold ro_; decide) (by omega) (Nat.le_of_ble_eq_true rfl) ⟨by decide, by decide, by decide, by decide⟩ (fun h_5 hV_6 fr_7 => ?_)
  rw [(show (va_up V 10 (V p)) 10 = V p from (va_up_self _ _ _))]
  have hV_8 : pn_V h_5 (I, tx, wr, ga, gb, mo, mf, mg) B (va_up (va_up V 10 (V p)) 10 ((V p) / 10)) := by
    try rw [(show (va_up V 10 (V p)) 10 = V p from (va_up_self _ _ _))] at hV_6
    exact hV_6
  refine go_iadd (q := 21) d_wr_putAmount_20 rfl ?_
  refine go_i2c (q := 22) d_wr_putAmount_21 rfl (by omega) ?_
  exact k0  _ hV_8 (fr_.tr fr_3 fr_7)

set_option maxRecDepth 4000 in
theorem sz_pa_25 {φ : go_F} {l : Launch} {h : mv_H} {n : Nat} {I tx wr ga gb mo mf mg : Nat → Int} {B : Nat → Int} {V : Nat → Nat} {p : Nat} (hV : pn_V h (I, tx, wr, ga, gb, mo, mf, mg) B V) 
    (k0 : Go φ l m_wr_putAmount (go_rm rd_wr_putAmount rw_wr_putAmount 0 0) (0, 0) 27 [some (mv_R 8), some (mv_R p), some (mv_I 1)] [] h n) :
    Go φ l m_wr_putAmount (go_rm rd_wr_putAmount rw_wr_putAmount 0 0) (0, 0) 25 [some (mv_R 8), some (mv_R p), none] [] h n := by
  refine go_iconst (q := 26) d_wr_putAmount_25 rfl ?_
  refine go_istore_n (q := 27) (L' := [some (mv_R 8), some (mv_R p), some (mv_I 1)]) d_wr_putAmount_26 rfl rfl (by decide) rfl ?_
  exact k0 

set_option maxRecDepth 4000 in
theorem sz_pa_27 {φ : go_F} {l : Launch} {h : mv_H} {n : Nat} {I tx wr ga gb mo mf mg : Nat → Int} {B : Nat → Int} {V : Nat → Nat} {p k : Nat} (hV : pn_V h (I, tx, wr, ga, gb, mo, mf, mg) B V) (hk : k ≤ 73)
    (k0 : 73 ≤ (k : Int) → Go φ l m_wr_putAmount (go_rm rd_wr_putAmount rw_wr_putAmount 0 0) (0, 0) 66 [some (mv_R 8), some (mv_R p), some (mv_I (k : Int))] [] h n)
    (k1 : ¬ 73 ≤ (k : Int) → V 10 = 0 → Go φ l m_wr_putAmount (go_rm rd_wr_putAmount rw_wr_putAmount 0 0) (0, 0) 66 [some (mv_R 8), some (mv_R p), some (mv_I (k : Int))] [] h n)
    (k2 : ¬ 73 ≤ (k : Int) → ¬ V 10 = 0 → ∀ h' : mv_H, pn_V h' (I, tx, wr, ga, gb, mo, mf, mg) B (va_up V 10 ((V 10) / 10)) → fr_ 1 389 h h' → Go φ l m_wr_putAmount (go_rm rd_wr_putAmount rw_wr_putAmount 0 0) (0, 0) 57 [some (mv_R 8), some (mv_R p), some (mv_I (k : Int))] [mv_I (48 + (((V 10) % 10 : Nat) : Int)), mv_R 8] h' n) :
    Go φ l m_wr_putAmount (go_rm rd_wr_putAmount rw_wr_putAmount 0 0) (0, 0) 27 [some (mv_R 8), some (mv_R p), some (mv_I (k : Int))] [] h n := by
  refine go_iload_n (q := 28) d_wr_putAmount_27 rfl rfl rfl ?_
  refine go_bipush (q := 30) d_wr_putAmount_28 rfl (by decide) ?_
  refine go_icmp_ge (t := 66) (q := 33) d_wr_putAmount_30 (by decide) rfl (by omega) (by omega) (fun c1 => ?_) (fun c1 => ?_)
  ·
    exact k0 c1
  ·
    refine go_aload_n (q := 34) d_wr_putAmount_33 rfl rfl rfl ?_
    refine go_getf (v := mv_R 10) (q := 37) f_wr_20 d_wr_putAmount_34 rfl (pn_c8 hV) rfl ?_
    refine cp_isZero (p := 10) (q := 40) l_wr_59 d_wr_putAmount_37 rfl hV (by unfold ro_; decide) (Nat.le_of_ble_eq_true rfl) ⟨by decide, by decide, by decide, by decide⟩ ?_
    rw [(show V 10 = V 10 from rfl)]
    refine go_if_ne (t := 66) (q := 43) d_wr_putAmount_40 (by decide) rfl it_rng (fun c2 => ?_) (fun c2 => ?_)
    · have c3 : V 10 = 0 := it_nep c2
      exact k1 c1 c3
    · have c4 : ¬ V 10 = 0 := it_nen c2
      refine go_aload_n (q := 44) d_wr_putAmount_43 rfl rfl rfl ?_
      refine go_bipush (q := 46) d_wr_putAmount_44 rfl (by decide) ?_
      refine go_aload_n (q := 47) d_wr_putAmount_46 rfl rfl rfl ?_
      refine go_getf (v := mv_R 10) (q := 50) f_wr_20 d_wr_putAmount_47 rfl (pn_c8 hV) rfl ?_
      refine go_bipush (q := 52) d_wr_putAmount_50 rfl (by decide) ?_
      refine cp_divideBy (p := 10) (x := 10) (q := 55) l_wr_55 d_wr_putAmount_52 rfl hV (by unfold ro_; decide) (by omega) (Nat.le_of_ble_eq_true rfl) ⟨by decide, by decide, by decide, by decide⟩ (fun h_5 hV_6 fr_7 => ?_)
      rw [(show V 10 = V 10 from rfl)]
      have hV_8 : pn_V h_5 (I, tx, wr, ga, gb, mo, mf, mg) B (va_up V 10 ((V 10) / 10)) := by
        try rw [(show V 10 = V 10 from rfl)] at hV_6
        exact hV_6
      refine go_iadd (q := 56) d_wr_putAmount_55 rfl ?_
      refine go_i2c (q := 57) d_wr_putAmount_56 rfl (by omega) ?_
      exact k2 c1 c4 _ hV_8 fr_7

set_option maxRecDepth 4000 in
theorem sz_pa_60 {φ : go_F} {l : Launch} {h : mv_H} {n : Nat} {I tx wr ga gb mo mf mg : Nat → Int} {B : Nat → Int} {V : Nat → Nat} {p k : Nat} (hV : pn_V h (I, tx, wr, ga, gb, mo, mf, mg) B V) 
    (k0 : Go φ l m_wr_putAmount (go_rm rd_wr_putAmount rw_wr_putAmount 0 0) (0, 0) 27 [some (mv_R 8), some (mv_R p), some (mv_I ((k : Int) + 1))] [] h n) :
    Go φ l m_wr_putAmount (go_rm rd_wr_putAmount rw_wr_putAmount 0 0) (0, 0) 60 [some (mv_R 8), some (mv_R p), some (mv_I (k : Int))] [] h n := by
  refine go_iinc (q := 63) (L' := [some (mv_R 8), some (mv_R p), some (mv_I ((k : Int) + 1))]) d_wr_putAmount_60 rfl (by decide) rfl rfl ?_
  refine go_goto (q := 27) d_wr_putAmount_63 (by decide) ?_
  exact k0 

set_option maxRecDepth 4000 in
theorem sz_wr_0 {φ : go_F} {l : Launch} {h : mv_H} {n : Nat} {I tx wr ga gb mo mf mg : Nat → Int} {B : Nat → Int} {V : Nat → Nat}  (hV : pn_V h (I, tx, wr, ga, gb, mo, mf, mg) B V) 
    (k0 : V 6 = 1 → ∀ h' : mv_H, pn_V h' (va_up I 2 148, tx, wr, ga, gb, mo, mf, mg) B V → fr_ 1 389 h h' → Go φ l m_wr_write (go_rm rd_wr_write rw_wr_write 0 0) (0, 0) 28 [some (mv_R 8), some (mv_R 3)] [] h' n)
    (k1 : ¬ V 6 = 1 → ∀ h' : mv_H, pn_V h' (va_up I 2 148, tx, wr, ga, gb, mo, mf, mg) B V → fr_ 1 389 h h' → Go φ l m_wr_write (go_rm rd_wr_write rw_wr_write 0 0) (0, 0) 19 [some (mv_R 8), some (mv_R 3)] [mv_R 6, mv_R 8] h' n) :
    Go φ l m_wr_write (go_rm rd_wr_write rw_wr_write 0 0) (0, 0) 0 [some (mv_R 8), some (mv_R 3)] [] h n := by
  refine go_aload_n (q := 1) d_wr_write_0 rfl rfl rfl ?_
  refine go_sipush (q := 4) d_wr_write_1 rfl (by decide) ?_
  refine go_putf (q := 7) (v := mv_I 148) f_wr_24 d_wr_write_4 rfl (pn_c8 hV) (Nat.le_of_ble_eq_true rfl) (go_fitI _) ?_
  refine go_eq (h' := va_up h 8 (mv_O 6 [mv_R 9, mv_R 10, mv_I ((va_up I 2 148) 2)])) ?_
  have hV_2 := pn_u8 hV (va_up I 2 148) (fun i_ h_2 => va_up_ne _ _ h_2)
  have fr_3 : fr_ 1 389 h (va_up h 8 (mv_O 6 [mv_R 9, mv_R 10, mv_I ((va_up I 2 148) 2)])) := fun z_ hz => va_up_ne _ _ (by omega)
  generalize va_up h 8 (mv_O 6 [mv_R 9, mv_R 10, mv_I ((va_up I 2 148) 2)]) = h_1 at hV_2 fr_3 ⊢
  refine go_aload_n (q := 8) d_wr_write_7 rfl rfl rfl ?_
  refine cp_fr_isWhole (a := 3) (q := 11) l_wr_28 d_wr_write_8 rfl hV_2 fa_r (Nat.le_of_ble_eq_true rfl) ⟨by decide, by decide, by decide, by decide⟩ ?_
  rw [(show V 6 = V 6 from rfl)]
  refine go_if_ne (t := 28) (q := 14) d_wr_write_11 (by decide) rfl it_rng (fun c4 => ?_) (fun c4 => ?_)
  · have c5 : V 6 = 1 := it_nep c4
    exact k0 c5 _ hV_2 fr_3
  · have c6 : ¬ V 6 = 1 := it_nen c4
    refine go_aload_n (q := 15) d_wr_write_14 rfl rfl rfl ?_
    refine go_aload_n (q := 16) d_wr_write_15 rfl rfl rfl ?_
    refine go_getf (q := 19) f_wr_34 d_wr_write_16 rfl (pn_cf hV_2 (a := 3) fa_r) rfl ?_
    exact k1 c6 _ hV_2 fr_3

set_option maxRecDepth 4000 in
theorem sz_wr_22 {φ : go_F} {l : Launch} {h : mv_H} {n : Nat} {I tx wr ga gb mo mf mg : Nat → Int} {B : Nat → Int} {V : Nat → Nat}  (hV : pn_V h (I, tx, wr, ga, gb, mo, mf, mg) B V) 
    (k0 : Go φ l m_wr_write (go_rm rd_wr_write rw_wr_write 0 0) (0, 0) 25 [some (mv_R 8), some (mv_R 3)] [mv_I 47, mv_R 8] h n) :
    Go φ l m_wr_write (go_rm rd_wr_write rw_wr_write 0 0) (0, 0) 22 [some (mv_R 8), some (mv_R 3)] [] h n := by
  refine go_aload_n (q := 23) d_wr_write_22 rfl rfl rfl ?_
  refine go_bipush (q := 25) d_wr_write_23 rfl (by decide) ?_
  exact k0 

set_option maxRecDepth 4000 in
theorem sz_wr_28 {φ : go_F} {l : Launch} {h : mv_H} {n : Nat} {I tx wr ga gb mo mf mg : Nat → Int} {B : Nat → Int} {V : Nat → Nat}  (hV : pn_V h (I, tx, wr, ga, gb, mo, mf, mg) B V) 
    (k0 : Go φ l m_wr_write (go_rm rd_wr_write rw_wr_write 0 0) (0, 0) 33 [some (mv_R 8), some (mv_R 3)] [mv_R 4, mv_R 8] h n) :
    Go φ l m_wr_write (go_rm rd_wr_write rw_wr_write 0 0) (0, 0) 28 [some (mv_R 8), some (mv_R 3)] [] h n := by
  refine go_aload_n (q := 29) d_wr_write_28 rfl rfl rfl ?_
  refine go_aload_n (q := 30) d_wr_write_29 rfl rfl rfl ?_
  refine go_getf (q := 33) f_wr_45 d_wr_write_30 rfl (pn_cf hV (a := 3) fa_r) rfl ?_
  exact k0 

set_option maxRecDepth 4000 in
theorem sz_wr_36 {φ : go_F} {l : Launch} {h : mv_H} {n : Nat} {I tx wr ga gb mo mf mg : Nat → Int} {B : Nat → Int} {V : Nat → Nat}  (hV : pn_V h (I, tx, wr, ga, gb, mo, mf, mg) B V) 
    (k0 : B 3 = 0 → Go φ l m_wr_write (go_rm rd_wr_write rw_wr_write 0 0) (0, 0) 49 [some (mv_R 8), some (mv_R 3)] [] h n)
    (k1 : ¬ B 3 = 0 → Go φ l m_wr_write (go_rm rd_wr_write rw_wr_write 0 0) (0, 0) 46 [some (mv_R 8), some (mv_R 3)] [mv_I 45, mv_R 8] h n) :
    Go φ l m_wr_write (go_rm rd_wr_write rw_wr_write 0 0) (0, 0) 36 [some (mv_R 8), some (mv_R 3)] [] h n := by
  refine go_aload_n (q := 37) d_wr_write_36 rfl rfl rfl ?_
  refine go_getf (q := 40) f_wr_48 d_wr_write_37 rfl (pn_cf hV (a := 3) fa_r) rfl ?_
  rw [(show B 3 = B 3 from rfl)]
  have q_1 := hV.2.1 3
  rw [(show B 3 = B 3 from rfl)] at q_1
  refine go_if_eq (t := 49) (q := 43) d_wr_write_40 (by decide) rfl (by omega) (fun c2 => ?_) (fun c2 => ?_)
  ·
    exact k0 c2
  ·
    refine go_aload_n (q := 44) d_wr_write_43 rfl rfl rfl ?_
    refine go_bipush (q := 46) d_wr_write_44 rfl (by decide) ?_
    exact k1 c2

set_option maxRecDepth 4000 in
theorem sz_ch {φ : go_F} {l : Launch} {h : mv_H} {n : Nat} {I tx wr ga gb mo mf mg : Nat → Int} {B : Nat → Int} {V : Nat → Nat} {i : Int} {s : Nat} (hV : pn_V h (I, tx, wr, ga, gb, mo, mf, mg) B V) (hi : -2147483648 ≤ i ∧ i ≤ 2147483647) (hs : I 2 = (s : Int) ∧ s ≤ 148)
    (k0 : i < 0 → Go φ l m_wr_character (go_rm rd_wr_character rw_wr_character 0 0) (0, 0) 31 [some (mv_R 8), some (mv_I i)] [mv_I 0] h n)
    (k1 : ¬ i < 0 → 148 - (I 2) ≤ i → Go φ l m_wr_character (go_rm rd_wr_character rw_wr_character 0 0) (0, 0) 31 [some (mv_R 8), some (mv_I i)] [mv_I 0] h n)
    (k2 : ¬ i < 0 → ¬ 148 - (I 2) ≤ i → Go φ l m_wr_character (go_rm rd_wr_character rw_wr_character 0 0) (0, 0) 31 [some (mv_R 8), some (mv_I i)] [mv_I (wr (s + i.toNat))] h n) :
    Go φ l m_wr_character (go_rm rd_wr_character rw_wr_character 0 0) (0, 0) 0 [some (mv_R 8), some (mv_I i)] [] h n := by
  refine go_iload_n (q := 1) d_wr_character_0 rfl rfl rfl ?_
  refine go_if_lt (t := 30) (q := 4) d_wr_character_1 (by decide) rfl (by omega) (fun c1 => ?_) (fun c1 => ?_)
  ·
    refine go_iconst (q := 31) d_wr_character_30 rfl ?_
    exact k0 c1
  ·
    refine go_iload_n (q := 5) d_wr_character_4 rfl rfl rfl ?_
    refine go_sipush (q := 8) d_wr_character_5 rfl (by decide) ?_
    refine go_aload_n (q := 9) d_wr_character_8 rfl rfl rfl ?_
    refine go_getf (v := mv_I (I 2)) (q := 12) f_wr_24 d_wr_character_9 rfl (pn_c8 hV) rfl ?_
    refine go_isub (q := 13) d_wr_character_12 rfl ?_
    refine go_icmp_ge (t := 30) (q := 16) d_wr_character_13 (by decide) rfl (by omega) (by omega) (fun c2 => ?_) (fun c2 => ?_)
    ·
      refine go_iconst (q := 31) d_wr_character_30 rfl ?_
      exact k1 c1 c2
    ·
      refine go_aload_n (q := 17) d_wr_character_16 rfl rfl rfl ?_
      refine go_getf (v := mv_R 9) (q := 20) f_wr_11 d_wr_character_17 rfl (pn_c8 hV) rfl ?_
      refine go_aload_n (q := 21) d_wr_character_20 rfl rfl rfl ?_
      refine go_getf (v := mv_I (I 2)) (q := 24) f_wr_24 d_wr_character_21 rfl (pn_c8 hV) rfl ?_
      refine go_iload_n (q := 25) d_wr_character_24 rfl rfl rfl ?_
      refine go_iadd (q := 26) d_wr_character_25 rfl ?_
      refine go_cald (i := s + i.toNat) (q := 27) d_wr_character_26 rfl (pn_c9 hV) (by omega) (by omega) (by omega) ?_
      refine go_goto (q := 31) d_wr_character_27 (by decide) ?_
      exact k2 c1 c2

set_option maxRecDepth 4000 in
theorem sp_st_0 {φ : go_F} {l : Launch} {h : mv_H} {n : Nat} {I tx wr ga gb mo mf mg : Nat → Int} {B : Nat → Int} {V : Nat → Nat} {a : Nat} (hV : pn_V h (I, tx, wr, ga, gb, mo, mf, mg) B V) (ha : 50 ≤ a ∧ a < 390 ∧ a % 5 = 0)
    (k0 : ∀ h' : mv_H, pn_V h' (I, tx, wr, ga, gb, mo, mf, mg) (va_up B 3 (B a)) (va_up (va_up V 4 (V (a + 1))) 6 (V (a + 3))) → fr_ 1 389 h h' → Go φ l m_pn_settle (go_rm rd_pn_settle rw_pn_settle 0 0) (0, 0) 16 [some (mv_R 1), some (mv_R a)] [mv_R 3, mv_R 8] h' n) :
    Go φ l m_pn_settle (go_rm rd_pn_settle rw_pn_settle 0 0) (0, 0) 0 [some (mv_R 1), some (mv_R a)] [] h n := by
  refine go_aload_n (q := 1) d_pn_settle_0 rfl rfl rfl ?_
  refine go_getf (v := mv_R 3) (q := 4) f_pn_20 d_pn_settle_1 rfl (pn_c1 hV) rfl ?_
  refine go_aload_n (q := 5) d_pn_settle_4 rfl rfl rfl ?_
  refine cp_fr_copy (a := 3) (c := a) (q := 8) l_pn_78 d_pn_settle_5 rfl hV fa_r (Or.inr (Or.inr ha)) (by omega) (Nat.le_of_ble_eq_true rfl) ⟨by decide, by decide, by decide, by decide⟩ (fun h_1 hV_2 fr_3 => ?_)
  have hV_4 : pn_V h_1 (I, tx, wr, ga, gb, mo, mf, mg) (va_up B 3 (B a)) (va_up (va_up V 4 (V (a + 1))) 6 (V (a + 3))) := by
    try rw [(show V (a + 1) = V (a + 1) from rfl)] at hV_2
    try rw [(show V (a + 3) = V (a + 3) from rfl)] at hV_2
    try rw [(show B a = B a from rfl)] at hV_2
    exact hV_2
  refine go_aload_n (q := 9) d_pn_settle_8 rfl rfl rfl ?_
  refine go_getf (v := mv_R 8) (q := 12) f_pn_27 d_pn_settle_9 rfl (pn_c1 hV_4) rfl ?_
  refine go_aload_n (q := 13) d_pn_settle_12 rfl rfl rfl ?_
  refine go_getf (v := mv_R 3) (q := 16) f_pn_20 d_pn_settle_13 rfl (pn_c1 hV_4) rfl ?_
  exact k0  _ hV_4 fr_3

set_option maxRecDepth 4000 in
theorem sp_st_19 {φ : go_F} {l : Launch} {h : mv_H} {n : Nat} {I tx wr ga gb mo mf mg : Nat → Int} {B : Nat → Int} {V : Nat → Nat} {a : Nat} (hV : pn_V h (I, tx, wr, ga, gb, mo, mf, mg) B V) 
    (k0 : Go φ l m_pn_settle (go_rm rd_pn_settle rw_pn_settle 0 0) (0, 0) 23 [some (mv_R 1), some (mv_R a)] [mv_R 3] h n) :
    Go φ l m_pn_settle (go_rm rd_pn_settle rw_pn_settle 0 0) (0, 0) 19 [some (mv_R 1), some (mv_R a)] [] h n := by
  refine go_aload_n (q := 20) d_pn_settle_19 rfl rfl rfl ?_
  refine go_getf (v := mv_R 3) (q := 23) f_pn_20 d_pn_settle_20 rfl (pn_c1 hV) rfl ?_
  exact k0 

set_option maxRecDepth 4000 in
theorem so_di_0 {φ : go_F} {l : Launch} {h : mv_H} {n : Nat} {o : Nat} {I tx S ps cs bs : Nat → Int} {V : Nat → Nat} {i : Int} (hV : mo_V h o (I, tx, S, ps, cs, bs) V) 
    (k0 : ∀ h' : mv_H, mo_V h' o (va_up I 0 0, tx, S, ps, cs, bs) (V) → fr_ o 8 h h' → Go φ l m_mo_digit (go_rm rd_mo_digit rw_mo_digit 0 0) (0, 0) 9 [some (mv_R o), some (mv_I i), none, none, none] [mv_I 144, mv_R o] h' n) :
    Go φ l m_mo_digit (go_rm rd_mo_digit rw_mo_digit 0 0) (0, 0) 0 [some (mv_R o), some (mv_I i), none, none, none] [] h n := by
  refine go_aload_n (q := 1) d_mo_digit_0 rfl rfl rfl ?_
  refine go_iconst (q := 2) d_mo_digit_1 rfl ?_
  refine go_putf (q := 5) (v := mv_I 0) f_mo_42 d_mo_digit_2 rfl (mv_c0 hV) (Nat.le_of_ble_eq_true rfl) (go_fitI _) ?_
  have hV_2 := mv_u0 hV (va_up I 0 0)
  refine go_eq (h' := va_up h o (mv_O 8 [mv_I ((va_up I 0 0) 0), mv_I ((va_up I 0 0) 1), mv_R (o + 1), mv_I ((va_up I 0 0) 2), mv_R (o + 2), mv_R (o + 3), mv_R (o + 4), mv_R (o + 5), mv_R (o + 6), mv_R (o + 7), mv_I ((va_up I 0 0) 3), mv_I ((va_up I 0 0) 4), mv_I ((va_up I 0 0) 5)])) ?_
  have fr_3 : fr_ o 8 h (va_up h o (mv_O 8 [mv_I ((va_up I 0 0) 0), mv_I ((va_up I 0 0) 1), mv_R (o + 1), mv_I ((va_up I 0 0) 2), mv_R (o + 2), mv_R (o + 3), mv_R (o + 4), mv_R (o + 5), mv_R (o + 6), mv_R (o + 7), mv_I ((va_up I 0 0) 3), mv_I ((va_up I 0 0) 4), mv_I ((va_up I 0 0) 5)])) := fun z_ hz => va_up_ne _ _ (by omega)
  generalize va_up h o (mv_O 8 [mv_I ((va_up I 0 0) 0), mv_I ((va_up I 0 0) 1), mv_R (o + 1), mv_I ((va_up I 0 0) 2), mv_R (o + 2), mv_R (o + 3), mv_R (o + 4), mv_R (o + 5), mv_R (o + 6), mv_R (o + 7), mv_I ((va_up I 0 0) 3), mv_I ((va_up I 0 0) 4), mv_I ((va_up I 0 0) 5)]) = h_1 at hV_2 fr_3 ⊢
  refine go_aload_n (q := 6) d_mo_digit_5 rfl rfl rfl ?_
  refine go_sipush (q := 9) d_mo_digit_6 rfl (by decide) ?_
  exact k0  _ hV_2 fr_3

set_option maxRecDepth 4000 in
theorem so_di_12 {φ : go_F} {l : Launch} {h : mv_H} {n : Nat} {o : Nat} {I tx S ps cs bs : Nat → Int} {V : Nat → Nat} {i : Int} {L : Nat} (hV : mo_V h o (I, tx, S, ps, cs, bs) V) 
    (k0 : Go φ l m_mo_digit (go_rm rd_mo_digit rw_mo_digit 0 0) (0, 0) 17 [some (mv_R o), some (mv_I i), some (mv_I (L : Int)), none, none] [mv_I 145, mv_R o] h n) :
    Go φ l m_mo_digit (go_rm rd_mo_digit rw_mo_digit 0 0) (0, 0) 12 [some (mv_R o), some (mv_I i), none, none, none] [mv_I (L : Int)] h n := by
  refine go_istore_n (q := 13) (L' := [some (mv_R o), some (mv_I i), some (mv_I (L : Int)), none, none]) d_mo_digit_12 rfl rfl (by decide) rfl ?_
  refine go_aload_n (q := 14) d_mo_digit_13 rfl rfl rfl ?_
  refine go_sipush (q := 17) d_mo_digit_14 rfl (by decide) ?_
  exact k0 

set_option maxRecDepth 4000 in
theorem so_di_20 {φ : go_F} {l : Launch} {h : mv_H} {n : Nat} {o : Nat} {I tx S ps cs bs : Nat → Int} {V : Nat → Nat} {i : Int} {L K : Nat} (hV : mo_V h o (I, tx, S, ps, cs, bs) V) (hS : ∀ i, -1 ≤ S i ∧ S i ≤ 1)
    (k0 : 0 ≤ S 72 → Go φ l m_mo_digit (go_rm rd_mo_digit rw_mo_digit 0 0) (0, 0) 40 [some (mv_R o), some (mv_I i), some (mv_I (L : Int)), some (mv_I (K : Int)), some (mv_I i)] [] h n)
    (k1 : ¬ 0 ≤ S 72 → Go φ l m_mo_digit (go_rm rd_mo_digit rw_mo_digit 0 0) (0, 0) 40 [some (mv_R o), some (mv_I i), some (mv_I (L : Int)), some (mv_I (K : Int)), some (mv_I (i - 1))] [] h n) :
    Go φ l m_mo_digit (go_rm rd_mo_digit rw_mo_digit 0 0) (0, 0) 20 [some (mv_R o), some (mv_I i), some (mv_I (L : Int)), none, none] [mv_I (K : Int)] h n := by
  refine go_istore_n (q := 21) (L' := [some (mv_R o), some (mv_I i), some (mv_I (L : Int)), some (mv_I (K : Int)), none]) d_mo_digit_20 rfl rfl (by decide) rfl ?_
  refine go_aload_n (q := 22) d_mo_digit_21 rfl rfl rfl ?_
  refine go_getf (v := mv_R (o + 4)) (q := 25) f_mo_23 d_mo_digit_22 rfl (mv_c0 hV) rfl ?_
  refine go_bipush (q := 27) d_mo_digit_25 rfl (by decide) ?_
  refine go_iald (i := 72) (q := 28) d_mo_digit_27 rfl (mv_c4 hV) (by omega) (by omega) (by omega) ?_
  have q_1 := hS 72
  refine go_if_ge (t := 37) (q := 31) d_mo_digit_28 (by decide) rfl (by omega) (fun c2 => ?_) (fun c2 => ?_)
  ·
    refine go_iload_n (q := 38) d_mo_digit_37 rfl rfl rfl ?_
    refine go_istore (q := 40) (L' := [some (mv_R o), some (mv_I i), some (mv_I (L : Int)), some (mv_I (K : Int)), some (mv_I i)]) d_mo_digit_38 rfl (by decide) rfl ?_
    exact k0 c2
  ·
    refine go_iload_n (q := 32) d_mo_digit_31 rfl rfl rfl ?_
    refine go_iconst (q := 33) d_mo_digit_32 rfl ?_
    refine go_isub (q := 34) d_mo_digit_33 rfl ?_
    refine go_goto (q := 38) d_mo_digit_34 (by decide) ?_
    refine go_istore (q := 40) (L' := [some (mv_R o), some (mv_I i), some (mv_I (L : Int)), some (mv_I (K : Int)), some (mv_I (i - 1))]) d_mo_digit_38 rfl (by decide) rfl ?_
    exact k1 c2

set_option maxRecDepth 4000 in
theorem so_di_40 {φ : go_F} {l : Launch} {h : mv_H} {n : Nat} {o : Nat} {I tx S ps cs bs : Nat → Int} {V : Nat → Nat} {i k : Int} {L K : Nat} (hV : mo_V h o (I, tx, S, ps, cs, bs) V) (hi : -2147483648 ≤ i ∧ i ≤ 2147483647) (hk : 0 ≤ i → -1 ≤ k ∧ k ≤ 2147483647) (hL : L ≤ 200 ∧ K ≤ 200)
    (k0 : 0 ≤ i → 0 ≤ k → (L : Int) ≤ k → V (2 * 72 + 1) = 1 → Go φ l m_mo_digit (go_rm rd_mo_digit rw_mo_digit 0 0) (0, 0) 96 [some (mv_R o), some (mv_I i), some (mv_I (L : Int)), some (mv_I (K : Int)), some (mv_I k)] [mv_I 0] h n)
    (k1 : 0 ≤ i → 0 ≤ k → (L : Int) ≤ k → ¬ V (2 * 72 + 1) = 1 → k ≤ (L : Int) + (K : Int) → ¬ k = (L : Int) → Go φ l m_mo_digit (go_rm rd_mo_digit rw_mo_digit 0 0) (0, 0) 120 [some (mv_R o), some (mv_I i), some (mv_I (L : Int)), some (mv_I (K : Int)), some (mv_I k)] [mv_I (((L : Int) + (K : Int)) - k), mv_I 145, mv_R o, mv_I 48] h n)
    (k2 : 0 ≤ i → 0 ≤ k → (L : Int) ≤ k → ¬ V (2 * 72 + 1) = 1 → k ≤ (L : Int) + (K : Int) → k = (L : Int) → Go φ l m_mo_digit (go_rm rd_mo_digit rw_mo_digit 0 0) (0, 0) 125 [some (mv_R o), some (mv_I i), some (mv_I (L : Int)), some (mv_I (K : Int)), some (mv_I k)] [mv_I 47] h n)
    (k3 : 0 ≤ i → 0 ≤ k → (L : Int) ≤ k → ¬ V (2 * 72 + 1) = 1 → ¬ k ≤ (L : Int) + (K : Int) → Go φ l m_mo_digit (go_rm rd_mo_digit rw_mo_digit 0 0) (0, 0) 96 [some (mv_R o), some (mv_I i), some (mv_I (L : Int)), some (mv_I (K : Int)), some (mv_I k)] [mv_I 0] h n)
    (k4 : 0 ≤ i → 0 ≤ k → ¬ (L : Int) ≤ k → Go φ l m_mo_digit (go_rm rd_mo_digit rw_mo_digit 0 0) (0, 0) 72 [some (mv_R o), some (mv_I i), some (mv_I (L : Int)), some (mv_I (K : Int)), some (mv_I k)] [mv_I (((L : Int) - 1) - k), mv_I 144, mv_R o, mv_I 48] h n)
    (k5 : 0 ≤ i → ¬ 0 ≤ k → Go φ l m_mo_digit (go_rm rd_mo_digit rw_mo_digit 0 0) (0, 0) 53 [some (mv_R o), some (mv_I i), some (mv_I (L : Int)), some (mv_I (K : Int)), some (mv_I k)] [mv_I 45] h n)
    (k6 : ¬ 0 ≤ i → Go φ l m_mo_digit (go_rm rd_mo_digit rw_mo_digit 0 0) (0, 0) 45 [some (mv_R o), some (mv_I i), some (mv_I (L : Int)), some (mv_I (K : Int)), some (mv_I k)] [mv_I 0] h n) :
    Go φ l m_mo_digit (go_rm rd_mo_digit rw_mo_digit 0 0) (0, 0) 40 [some (mv_R o), some (mv_I i), some (mv_I (L : Int)), some (mv_I (K : Int)), some (mv_I k)] [] h n := by
  refine go_iload_n (q := 41) d_mo_digit_40 rfl rfl rfl ?_
  refine go_if_ge (t := 46) (q := 44) d_mo_digit_41 (by decide) rfl (by omega) (fun c1 => ?_) (fun c1 => ?_)
  ·
    have hk_ := hk (by omega)
    refine go_iload (q := 48) d_mo_digit_46 rfl rfl ?_
    refine go_if_ge (t := 54) (q := 51) d_mo_digit_48 (by decide) rfl (by omega) (fun c2 => ?_) (fun c2 => ?_)
    ·
      refine go_iload (q := 56) d_mo_digit_54 rfl rfl ?_
      refine go_iload_n (q := 57) d_mo_digit_56 rfl rfl rfl ?_
      refine go_icmp_ge (t := 78) (q := 60) d_mo_digit_57 (by decide) rfl (by omega) (by omega) (fun c3 => ?_) (fun c3 => ?_)
      ·
        refine go_aload_n (q := 79) d_mo_digit_78 rfl rfl rfl ?_
        refine go_bipush (q := 81) d_mo_digit_79 rfl (by decide) ?_
        refine cl_isWhole (v := 72) (q := 84) rfl d_mo_digit_81 rfl hV (by omega) (Nat.le_of_ble_eq_true rfl) ⟨by decide, by decide, by decide, by decide⟩ ?_
        rw [(show V (2 * 72 + 1) = V (2 * 72 + 1) from rfl)]
        refine go_if_ne (t := 95) (q := 87) d_mo_digit_84 (by decide) rfl it_rng (fun c4 => ?_) (fun c4 => ?_)
        · have c5 : V (2 * 72 + 1) = 1 := it_nep c4
          refine go_iconst (q := 96) d_mo_digit_95 rfl ?_
          exact k0 c1 c2 c3 c5
        · have c6 : ¬ V (2 * 72 + 1) = 1 := it_nen c4
          refine go_iload (q := 89) d_mo_digit_87 rfl rfl ?_
          refine go_iload_n (q := 90) d_mo_digit_89 rfl rfl rfl ?_
          refine go_iload_n (q := 91) d_mo_digit_90 rfl rfl rfl ?_
          refine go_iadd (q := 92) d_mo_digit_91 rfl ?_
          refine go_icmp_le (t := 97) (q := 95) d_mo_digit_92 (by decide) rfl (by omega) (by omega) (fun c7 => ?_) (fun c7 => ?_)
          ·
            refine go_iload (q := 99) d_mo_digit_97 rfl rfl ?_
            refine go_iload_n (q := 100) d_mo_digit_99 rfl rfl rfl ?_
            refine go_icmp_ne (t := 108) (q := 103) d_mo_digit_100 (by decide) rfl (by omega) (by omega) (fun c8 => ?_) (fun c8 => ?_)
            ·
              refine go_bipush (q := 110) d_mo_digit_108 rfl (by decide) ?_
              refine go_aload_n (q := 111) d_mo_digit_110 rfl rfl rfl ?_
              refine go_sipush (q := 114) d_mo_digit_111 rfl (by decide) ?_
              refine go_iload_n (q := 115) d_mo_digit_114 rfl rfl rfl ?_
              refine go_iload_n (q := 116) d_mo_digit_115 rfl rfl rfl ?_
              refine go_iadd (q := 117) d_mo_digit_116 rfl ?_
              refine go_iload (q := 119) d_mo_digit_117 rfl rfl ?_
              refine go_isub (q := 120) d_mo_digit_119 rfl ?_
              exact k1 c1 c2 c3 c6 c7 c8
            ·
              refine go_bipush (q := 105) d_mo_digit_103 rfl (by decide) ?_
              refine go_goto (q := 125) d_mo_digit_105 (by decide) ?_
              exact k2 c1 c2 c3 c6 c7 c8
          ·
            refine go_iconst (q := 96) d_mo_digit_95 rfl ?_
            exact k3 c1 c2 c3 c6 c7
      ·
        refine go_bipush (q := 62) d_mo_digit_60 rfl (by decide) ?_
        refine go_aload_n (q := 63) d_mo_digit_62 rfl rfl rfl ?_
        refine go_sipush (q := 66) d_mo_digit_63 rfl (by decide) ?_
        refine go_iload_n (q := 67) d_mo_digit_66 rfl rfl rfl ?_
        refine go_iconst (q := 68) d_mo_digit_67 rfl ?_
        refine go_isub (q := 69) d_mo_digit_68 rfl ?_
        refine go_iload (q := 71) d_mo_digit_69 rfl rfl ?_
        refine go_isub (q := 72) d_mo_digit_71 rfl ?_
        exact k4 c1 c2 c3
    ·
      refine go_bipush (q := 53) d_mo_digit_51 rfl (by decide) ?_
      exact k5 c1 c2
  ·
    refine go_iconst (q := 45) d_mo_digit_44 rfl ?_
    exact k6 c1

