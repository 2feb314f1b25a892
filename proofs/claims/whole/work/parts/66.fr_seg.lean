set_option maxRecDepth 4000 in
theorem sf_become {φ : go_F} {l : Launch} {h : mv_H} {n : Nat} {I tx wr ga gb mo mf mg : Nat → Int} {B : Nat → Int} {V : Nat → Nat} {a v : Nat} (hV : pn_V h (I, tx, wr, ga, gb, mo, mf, mg) B V) (ha : a = 3 ∨ a = 40 ∨ (50 ≤ a ∧ a < 390 ∧ a % 5 = 0)) (hv : v ≤ 1073741823)
    (k0 : ∀ h' : mv_H, pn_V h' (I, tx, wr, ga, gb, mo, mf, mg) (va_up B a 0) (va_up (va_up V (a + 1) v) (a + 3) 1) → fr_ 1 389 h h' → Go φ l m_fr_become (go_rm rd_fr_become rw_fr_become 0 0) (0, 0) 21 [some (mv_R a), some (mv_I (v : Int))] [] h' n) :
    Go φ l m_fr_become (go_rm rd_fr_become rw_fr_become 0 0) (0, 0) 0 [some (mv_R a), some (mv_I (v : Int))] [] h n := by
  refine go_aload_n (q := 1) d_fr_become_0 rfl rfl rfl ?_
  refine go_getf (q := 4) f_fr_14 d_fr_become_1 rfl (pn_cf hV (a := a) ha) rfl ?_
  refine go_iload_n (q := 5) d_fr_become_4 rfl rfl rfl ?_
  refine cp_become (p := a + 1) (v := v) (q := 8) l_fr_23 d_fr_become_5 rfl hV (fa_n (a := a) ha).1 (by omega) (Nat.le_of_ble_eq_true rfl) ⟨by decide, by decide, by decide, by decide⟩ (fun h_1 hV_2 fr_3 => ?_)
  have hV_4 : pn_V h_1 (I, tx, wr, ga, gb, mo, mf, mg) B (va_up V (a + 1) v) := hV_2
  refine go_aload_n (q := 9) d_fr_become_8 rfl rfl rfl ?_
  refine go_getf (q := 12) f_fr_20 d_fr_become_9 rfl (pn_cf hV_4 (a := a) ha) rfl ?_
  refine go_iconst (q := 13) d_fr_become_12 rfl ?_
  refine cp_become (p := a + 3) (v := 1) (q := 16) l_fr_23 d_fr_become_13 rfl hV_4 (fa_n (a := a) ha).2.1 (by omega) (Nat.le_of_ble_eq_true rfl) ⟨by decide, by decide, by decide, by decide⟩ (fun h_5 hV_6 fr_7 => ?_)
  have hV_8 : pn_V h_5 (I, tx, wr, ga, gb, mo, mf, mg) B (va_up (va_up V (a + 1) v) (a + 3) 1) := hV_6
  refine go_aload_n (q := 17) d_fr_become_16 rfl rfl rfl ?_
  refine go_iconst (q := 18) d_fr_become_17 rfl ?_
  refine go_putf (q := 21) (v := mv_I 0) f_fr_26 d_fr_become_18 rfl (pn_cf hV_8 (a := a) ha) (Nat.le_of_ble_eq_true rfl) (go_fitZ (by omega)) ?_
  refine go_eq (h' := va_up h_5 a (mv_O 2 [mv_R (a + 1), mv_R (a + 3), mv_I 0])) ?_
  have hV_10 := pn_uf hV_8 (a := a) (x := 0) (by unfold fa_; omega) (by omega)
  have fr_11 : fr_ 1 389 h_5 (va_up h_5 a (mv_O 2 [mv_R (a + 1), mv_R (a + 3), mv_I 0])) := fun z_ hz => va_up_ne _ _ (by omega)
  generalize va_up h_5 a (mv_O 2 [mv_R (a + 1), mv_R (a + 3), mv_I 0]) = h_9 at hV_10 fr_11 ⊢
  exact k0  _ hV_10 (fr_.tr (fr_.tr fr_3 fr_7) fr_11)

set_option maxRecDepth 4000 in
theorem sf_copy {φ : go_F} {l : Launch} {h : mv_H} {n : Nat} {I tx wr ga gb mo mf mg : Nat → Int} {B : Nat → Int} {V : Nat → Nat} {a c : Nat} (hV : pn_V h (I, tx, wr, ga, gb, mo, mf, mg) B V) (ha : a = 3 ∨ a = 40 ∨ (50 ≤ a ∧ a < 390 ∧ a % 5 = 0)) (hc : c = 3 ∨ c = 40 ∨ (50 ≤ c ∧ c < 390 ∧ c % 5 = 0)) (hn : a ≠ c)
    (k0 : ∀ h' : mv_H, pn_V h' (I, tx, wr, ga, gb, mo, mf, mg) (va_up B a (B c)) (va_up (va_up V (a + 1) (V (c + 1))) (a + 3) (V (c + 3))) → fr_ 1 389 h h' → Go φ l m_fr_copy (go_rm rd_fr_copy rw_fr_copy 0 0) (0, 0) 30 [some (mv_R a), some (mv_R c)] [] h' n) :
    Go φ l m_fr_copy (go_rm rd_fr_copy rw_fr_copy 0 0) (0, 0) 0 [some (mv_R a), some (mv_R c)] [] h n := by
  refine go_aload_n (q := 1) d_fr_copy_0 rfl rfl rfl ?_
  refine go_getf (q := 4) f_fr_14 d_fr_copy_1 rfl (pn_cf hV (a := a) ha) rfl ?_
  refine go_aload_n (q := 5) d_fr_copy_4 rfl rfl rfl ?_
  refine go_getf (q := 8) f_fr_14 d_fr_copy_5 rfl (pn_cf hV (a := c) hc) rfl ?_
  refine cp_copy (p := a + 1) (r := c + 1) (q := 11) l_fr_30 d_fr_copy_8 rfl hV (fa_n (a := a) ha).1 (fa_n (a := c) hc).1 (by omega) (by rw [(show V (c + 1) = V (c + 1) from rfl), (show rn_ (a + 1) = 8 from if_neg (by omega))]; exact (fr_b hV (a := c) hc).1) (Nat.le_of_ble_eq_true rfl) ⟨by decide, by decide, by decide, by decide⟩ (fun h_1 hV_2 fr_3 => ?_)
  have hV_4 : pn_V h_1 (I, tx, wr, ga, gb, mo, mf, mg) B (va_up V (a + 1) (V (c + 1))) := by
    try rw [(show V (c + 1) = V (c + 1) from rfl)] at hV_2
    exact hV_2
  refine go_aload_n (q := 12) d_fr_copy_11 rfl rfl rfl ?_
  refine go_getf (q := 15) f_fr_20 d_fr_copy_12 rfl (pn_cf hV_4 (a := a) ha) rfl ?_
  refine go_aload_n (q := 16) d_fr_copy_15 rfl rfl rfl ?_
  refine go_getf (q := 19) f_fr_20 d_fr_copy_16 rfl (pn_cf hV_4 (a := c) hc) rfl ?_
  refine cp_copy (p := a + 3) (r := c + 3) (q := 22) l_fr_30 d_fr_copy_19 rfl hV_4 (fa_n (a := a) ha).2.1 (fa_n (a := c) hc).2.1 (by omega) (by rw [(show (va_up V (a + 1) (V (c + 1))) (c + 3) = V (c + 3) from ((va_up_ne _ _ (by omega)).trans rfl)), (show rn_ (a + 3) = 8 from if_neg (by omega))]; exact (fr_b hV (a := c) hc).2) (Nat.le_of_ble_eq_true rfl) ⟨by decide, by decide, by decide, by decide⟩ (fun h_5 hV_6 fr_7 => ?_)
  have hV_8 : pn_V h_5 (I, tx, wr, ga, gb, mo, mf, mg) B (va_up (va_up V (a + 1) (V (c + 1))) (a + 3) (V (c + 3))) := by
    try rw [(show (va_up V (a + 1) (V (c + 1))) (c + 3) = V (c + 3) from ((va_up_ne _ _ (by omega)).trans rfl))] at hV_6
    exact hV_6
  refine go_aload_n (q := 23) d_fr_copy_22 rfl rfl rfl ?_
  refine go_aload_n (q := 24) d_fr_copy_23 rfl rfl rfl ?_
  refine go_getf (q := 27) f_fr_26 d_fr_copy_24 rfl (pn_cf hV_8 (a := c) hc) rfl ?_
  rw [(show B c = B c from rfl)]
  have q_9 := hV_8.2.1 c
  rw [(show B c = B c from rfl)] at q_9
  refine go_putf (q := 30) (v := mv_I (B c)) f_fr_26 d_fr_copy_27 rfl (pn_cf hV_8 (a := a) ha) (Nat.le_of_ble_eq_true rfl) (go_fitZ (by omega)) ?_
  refine go_eq (h' := va_up h_5 a (mv_O 2 [mv_R (a + 1), mv_R (a + 3), mv_I (B c)])) ?_
  have hV_11 := pn_uf hV_8 (a := a) (x := B c) (by unfold fa_; omega) (by omega)
  have fr_12 : fr_ 1 389 h_5 (va_up h_5 a (mv_O 2 [mv_R (a + 1), mv_R (a + 3), mv_I (B c)])) := fun z_ hz => va_up_ne _ _ (by omega)
  generalize va_up h_5 a (mv_O 2 [mv_R (a + 1), mv_R (a + 3), mv_I (B c)]) = h_10 at hV_11 fr_12 ⊢
  exact k0  _ hV_11 (fr_.tr (fr_.tr fr_3 fr_7) fr_12)

set_option maxRecDepth 4000 in
theorem sf_isWhole {φ : go_F} {l : Launch} {h : mv_H} {n : Nat} {I tx wr ga gb mo mf mg : Nat → Int} {B : Nat → Int} {V : Nat → Nat} {a : Nat} (hV : pn_V h (I, tx, wr, ga, gb, mo, mf, mg) B V) (ha : a = 3 ∨ a = 40 ∨ (50 ≤ a ∧ a < 390 ∧ a % 5 = 0))
    (k0 : Go φ l m_fr_isWhole (go_rm rd_fr_isWhole rw_fr_isWhole 0 0) (0, 0) 7 [some (mv_R a)] [mv_I (if V (a + 3) = 1 then 1 else 0)] h n) :
    Go φ l m_fr_isWhole (go_rm rd_fr_isWhole rw_fr_isWhole 0 0) (0, 0) 0 [some (mv_R a)] [] h n := by
  refine go_aload_n (q := 1) d_fr_isWhole_0 rfl rfl rfl ?_
  refine go_getf (q := 4) f_fr_20 d_fr_isWhole_1 rfl (pn_cf hV (a := a) ha) rfl ?_
  refine cp_isOne (p := a + 3) (q := 7) l_fr_34 d_fr_isWhole_4 rfl hV (fa_n (a := a) ha).2.1 (Nat.le_of_ble_eq_true rfl) ⟨by decide, by decide, by decide, by decide⟩ ?_
  rw [(show V (a + 3) = V (a + 3) from rfl)]
  exact k0 

set_option maxRecDepth 4000 in
theorem sf_isZero {φ : go_F} {l : Launch} {h : mv_H} {n : Nat} {I tx wr ga gb mo mf mg : Nat → Int} {B : Nat → Int} {V : Nat → Nat} {a : Nat} (hV : pn_V h (I, tx, wr, ga, gb, mo, mf, mg) B V) (ha : a = 3 ∨ a = 40 ∨ (50 ≤ a ∧ a < 390 ∧ a % 5 = 0))
    (k0 : Go φ l m_fr_isZero (go_rm rd_fr_isZero rw_fr_isZero 0 0) (0, 0) 7 [some (mv_R a)] [mv_I (if V (a + 1) = 0 then 1 else 0)] h n) :
    Go φ l m_fr_isZero (go_rm rd_fr_isZero rw_fr_isZero 0 0) (0, 0) 0 [some (mv_R a)] [] h n := by
  refine go_aload_n (q := 1) d_fr_isZero_0 rfl rfl rfl ?_
  refine go_getf (q := 4) f_fr_14 d_fr_isZero_1 rfl (pn_cf hV (a := a) ha) rfl ?_
  refine cp_isZero (p := a + 1) (q := 7) l_fr_38 d_fr_isZero_4 rfl hV (fa_n (a := a) ha).1 (Nat.le_of_ble_eq_true rfl) ⟨by decide, by decide, by decide, by decide⟩ ?_
  rw [(show V (a + 1) = V (a + 1) from rfl)]
  exact k0 

