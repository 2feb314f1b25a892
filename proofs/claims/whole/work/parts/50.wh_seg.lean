def WO (h : mv_H) (p : Nat) (N : Nat) (f : Nat → Int) (s : Int) : Prop := h p = mv_O 5 [mv_R (p + 1), mv_I s] ∧ h (p + 1) = mv_A 0 N f
theorem WO_c0 {h : mv_H} {p : Nat} {N : Nat} {f : Nat → Int} {s : Int} (hm : WO h p N f s) : h p = mv_O 5 [mv_R (p + 1), mv_I s] := hm.1
theorem WO_c1 {h : mv_H} {p : Nat} {N : Nat} {f : Nat → Int} {s : Int} (hm : WO h p N f s) : h (p + 1) = mv_A 0 N f := hm.2
theorem WO_k {h : mv_H} {p : Nat} {N : Nat} {f : Nat → Int} {s : Int} {h' : mv_H} (hm : WO h p N f s) (hk : ∀ j, p ≤ j → j < p + 2 → h' j = h j) : WO h' p N f s := ⟨(hk _ (by omega) (by omega)).trans (WO_c0 hm), (hk _ (by omega) (by omega)).trans (WO_c1 hm)⟩
theorem WO_u0 {h : mv_H} {p : Nat} {N : Nat} {f : Nat → Int} {s : Int} (hm : WO h p N f s) (s' : Int) : WO (va_up h p (mv_O 5 [mv_R (p + 1), mv_I s'])) p N f s' := ⟨va_up_self _ _ _, (va_up_ne _ _ (by omega)).trans (WO_c1 hm)⟩
theorem WO_u1 {h : mv_H} {p : Nat} {N : Nat} {f : Nat → Int} {s : Int} (hm : WO h p N f s) (f' : Nat → Int) : WO (va_up h (p + 1) (mv_A 0 N f')) p N f' s := ⟨(va_up_ne _ _ (by omega)).trans (WO_c0 hm), va_up_self _ _ _⟩
set_option maxRecDepth 4000 in
theorem sc_become {φ : go_F} {l : Launch} {R : Room} {u : Nat × Nat} {h : mv_H} {n : Nat} {p N : Nat} {f : Nat → Int} {s : Int} {v : Int} (hm_p : WO h p N f s) (hN : 0 < N ∧ N < 100) (hv : 0 ≤ v ∧ v ≤ 1073741823)
    (k0 : ¬ v = 0 → ∀ h' : mv_H, WO h' p N (va_up f 0 v) 1 → (∀ z_, (z_ < p ∨ p + 2 ≤ z_) → h' z_ = h z_) → Go φ l m_wh_become R u 20 [some (mv_R p), some (mv_I v)] [] h' n)
    (k1 : v = 0 → ∀ h' : mv_H, WO h' p N (va_up f 0 v) 0 → (∀ z_, (z_ < p ∨ p + 2 ≤ z_) → h' z_ = h z_) → Go φ l m_wh_become R u 20 [some (mv_R p), some (mv_I v)] [] h' n) :
    Go φ l m_wh_become R u 0 [some (mv_R p), some (mv_I v)] [] h n := by
  refine go_aload_n (q := 1) d_wh_become_0 rfl rfl rfl ?_
  refine go_getf (q := 4) f_wh_9 d_wh_become_1 rfl (WO_c0 hm_p) rfl ?_
  refine go_iconst (q := 5) d_wh_become_4 rfl ?_
  refine go_iload_n (q := 6) d_wh_become_5 rfl rfl rfl ?_
  refine go_iast (i := 0) (q := 7) d_wh_become_6 rfl (WO_c1 hm_p) (by omega) (by omega) (by omega) ?_
  have hm_3 := WO_u1 hm_p (va_up f 0 v)
  have fr_2 : ∀ z_, z_ ≠ (p + 1) → va_up h (p + 1) (mv_A 0 N (va_up f 0 v)) z_ = h z_ := fun z_ hj => va_up_ne _ _ hj
  generalize va_up h (p + 1) (mv_A 0 N (va_up f 0 v)) = h_1 at hm_3 fr_2 ⊢
  refine go_aload_n (q := 8) d_wh_become_7 rfl rfl rfl ?_
  refine go_iload_n (q := 9) d_wh_become_8 rfl rfl rfl ?_
  refine go_if_ne (t := 16) (q := 12) d_wh_become_9 (by decide) rfl (by omega) (fun c4 => ?_) (fun c4 => ?_)
  ·
    refine go_iconst (q := 17) d_wh_become_16 rfl ?_
    refine go_putf (q := 20) (v := mv_I 1) f_wh_15 d_wh_become_17 rfl (WO_c0 hm_3) (Nat.le_of_ble_eq_true rfl) (go_fitI _) ?_
    refine go_eq (h' := va_up h_1 p (mv_O 5 [mv_R (p + 1), mv_I 1])) ?_
    have hm_7 := WO_u0 hm_3 1
    have fr_6 : ∀ z_, z_ ≠ p → va_up h_1 p (mv_O 5 [mv_R (p + 1), mv_I 1]) z_ = h_1 z_ := fun z_ hj => va_up_ne _ _ hj
    generalize va_up h_1 p (mv_O 5 [mv_R (p + 1), mv_I 1]) = h_5 at hm_7 fr_6 ⊢
    exact k0 c4 _ hm_7 (fun z_ g0 => ((fr_6 z_ (by omega)).trans (fr_2 z_ (by omega))))
  ·
    refine go_iconst (q := 13) d_wh_become_12 rfl ?_
    refine go_goto (q := 17) d_wh_become_13 (by decide) ?_
    refine go_putf (q := 20) (v := mv_I 0) f_wh_15 d_wh_become_17 rfl (WO_c0 hm_3) (Nat.le_of_ble_eq_true rfl) (go_fitI _) ?_
    refine go_eq (h' := va_up h_1 p (mv_O 5 [mv_R (p + 1), mv_I 0])) ?_
    have hm_10 := WO_u0 hm_3 0
    have fr_9 : ∀ z_, z_ ≠ p → va_up h_1 p (mv_O 5 [mv_R (p + 1), mv_I 0]) z_ = h_1 z_ := fun z_ hj => va_up_ne _ _ hj
    generalize va_up h_1 p (mv_O 5 [mv_R (p + 1), mv_I 0]) = h_8 at hm_10 fr_9 ⊢
    exact k1 c4 _ hm_10 (fun z_ g0 => ((fr_9 z_ (by omega)).trans (fr_2 z_ (by omega))))

set_option maxRecDepth 4000 in
theorem sc_isZero {φ : go_F} {l : Launch} {R : Room} {u : Nat × Nat} {h : mv_H} {n : Nat} {p N : Nat} {f : Nat → Int} {s : Int} (hm_p : WO h p N f s) (hs : 0 ≤ s ∧ s ≤ N) (hN : N < 100)
    (k0 : ¬ s = 0 → Go φ l m_wh_isZero R u 12 [some (mv_R p)] [mv_I 0] h n)
    (k1 : s = 0 → Go φ l m_wh_isZero R u 12 [some (mv_R p)] [mv_I 1] h n) :
    Go φ l m_wh_isZero R u 0 [some (mv_R p)] [] h n := by
  refine go_aload_n (q := 1) d_wh_isZero_0 rfl rfl rfl ?_
  refine go_getf (q := 4) f_wh_15 d_wh_isZero_1 rfl (WO_c0 hm_p) rfl ?_
  refine go_if_ne (t := 11) (q := 7) d_wh_isZero_4 (by decide) rfl (by omega) (fun c1 => ?_) (fun c1 => ?_)
  ·
    refine go_iconst (q := 12) d_wh_isZero_11 rfl ?_
    exact k0 c1
  ·
    refine go_iconst (q := 8) d_wh_isZero_7 rfl ?_
    refine go_goto (q := 12) d_wh_isZero_8 (by decide) ?_
    exact k1 c1

set_option maxRecDepth 4000 in
theorem sc_isOne {φ : go_F} {l : Launch} {R : Room} {u : Nat × Nat} {h : mv_H} {n : Nat} {p N : Nat} {f : Nat → Int} {s : Int} (hm_p : WO h p N f s) (hs : 0 ≤ s ∧ s ≤ N) (hN : N < 100) (hf : ∀ j, 0 ≤ f j ∧ f j ≤ 1073741823)
    (k0 : ¬ s = 1 → Go φ l m_wh_isOne R u 23 [some (mv_R p)] [mv_I 0] h n)
    (k1 : s = 1 → ¬ f 0 = 1 → Go φ l m_wh_isOne R u 23 [some (mv_R p)] [mv_I 0] h n)
    (k2 : s = 1 → f 0 = 1 → Go φ l m_wh_isOne R u 23 [some (mv_R p)] [mv_I 1] h n) :
    Go φ l m_wh_isOne R u 0 [some (mv_R p)] [] h n := by
  refine go_aload_n (q := 1) d_wh_isOne_0 rfl rfl rfl ?_
  refine go_getf (q := 4) f_wh_15 d_wh_isOne_1 rfl (WO_c0 hm_p) rfl ?_
  refine go_iconst (q := 5) d_wh_isOne_4 rfl ?_
  refine go_icmp_ne (t := 22) (q := 8) d_wh_isOne_5 (by decide) rfl (by omega) (by omega) (fun c1 => ?_) (fun c1 => ?_)
  ·
    refine go_iconst (q := 23) d_wh_isOne_22 rfl ?_
    exact k0 c1
  ·
    refine go_aload_n (q := 9) d_wh_isOne_8 rfl rfl rfl ?_
    refine go_getf (q := 12) f_wh_9 d_wh_isOne_9 rfl (WO_c0 hm_p) rfl ?_
    refine go_iconst (q := 13) d_wh_isOne_12 rfl ?_
    refine go_iald (i := 0) (q := 14) d_wh_isOne_13 rfl (WO_c1 hm_p) (by omega) (by omega) (by omega) ?_
    have q_2 := hf 0
    refine go_iconst (q := 15) d_wh_isOne_14 rfl ?_
    refine go_icmp_ne (t := 22) (q := 18) d_wh_isOne_15 (by decide) rfl (by omega) (by omega) (fun c3 => ?_) (fun c3 => ?_)
    ·
      refine go_iconst (q := 23) d_wh_isOne_22 rfl ?_
      exact k1 c1 c3
    ·
      refine go_iconst (q := 19) d_wh_isOne_18 rfl ?_
      refine go_goto (q := 23) d_wh_isOne_19 (by decide) ?_
      exact k2 c1 c3

set_option maxRecDepth 4000 in
theorem sc_isTooLarge {φ : go_F} {l : Launch} {R : Room} {u : Nat × Nat} {h : mv_H} {n : Nat} {p N : Nat} {f : Nat → Int} {s : Int} (hm_p : WO h p N f s) (hs : 0 ≤ s ∧ s ≤ N) (hN : N < 100)
    (k0 : s ≤ 8 → Go φ l m_wh_isTooLarge R u 14 [some (mv_R p)] [mv_I 0] h n)
    (k1 : ¬ s ≤ 8 → Go φ l m_wh_isTooLarge R u 14 [some (mv_R p)] [mv_I 1] h n) :
    Go φ l m_wh_isTooLarge R u 0 [some (mv_R p)] [] h n := by
  refine go_aload_n (q := 1) d_wh_isTooLarge_0 rfl rfl rfl ?_
  refine go_getf (q := 4) f_wh_15 d_wh_isTooLarge_1 rfl (WO_c0 hm_p) rfl ?_
  refine go_bipush (q := 6) d_wh_isTooLarge_4 rfl (by decide) ?_
  refine go_icmp_le (t := 13) (q := 9) d_wh_isTooLarge_6 (by decide) rfl (by omega) (by omega) (fun c1 => ?_) (fun c1 => ?_)
  ·
    refine go_iconst (q := 14) d_wh_isTooLarge_13 rfl ?_
    exact k0 c1
  ·
    refine go_iconst (q := 10) d_wh_isTooLarge_9 rfl ?_
    refine go_goto (q := 14) d_wh_isTooLarge_10 (by decide) ?_
    exact k1 c1

set_option maxRecDepth 4000 in
theorem sc_limb {φ : go_F} {l : Launch} {R : Room} {u : Nat × Nat} {h : mv_H} {n : Nat} {p N : Nat} {f : Nat → Int} {s : Int} {i : Int} (hm_p : WO h p N f s) (hs : 0 ≤ s ∧ s ≤ N) (hN : N < 100) (hi : -2147483648 ≤ i ∧ i ≤ 2147483647)
    (k0 : i < 0 → Go φ l m_wh_limb R u 22 [some (mv_R p), some (mv_I i)] [mv_I 0] h n)
    (k1 : ¬ i < 0 → s ≤ i → Go φ l m_wh_limb R u 22 [some (mv_R p), some (mv_I i)] [mv_I 0] h n)
    (k2 : ¬ i < 0 → ¬ s ≤ i → Go φ l m_wh_limb R u 22 [some (mv_R p), some (mv_I i)] [mv_I (f i.toNat)] h n) :
    Go φ l m_wh_limb R u 0 [some (mv_R p), some (mv_I i)] [] h n := by
  refine go_iload_n (q := 1) d_wh_limb_0 rfl rfl rfl ?_
  refine go_if_lt (t := 21) (q := 4) d_wh_limb_1 (by decide) rfl (by omega) (fun c1 => ?_) (fun c1 => ?_)
  ·
    refine go_iconst (q := 22) d_wh_limb_21 rfl ?_
    exact k0 c1
  ·
    refine go_iload_n (q := 5) d_wh_limb_4 rfl rfl rfl ?_
    refine go_aload_n (q := 6) d_wh_limb_5 rfl rfl rfl ?_
    refine go_getf (q := 9) f_wh_15 d_wh_limb_6 rfl (WO_c0 hm_p) rfl ?_
    refine go_icmp_ge (t := 21) (q := 12) d_wh_limb_9 (by decide) rfl (by omega) (by omega) (fun c2 => ?_) (fun c2 => ?_)
    ·
      refine go_iconst (q := 22) d_wh_limb_21 rfl ?_
      exact k1 c1 c2
    ·
      refine go_aload_n (q := 13) d_wh_limb_12 rfl rfl rfl ?_
      refine go_getf (q := 16) f_wh_9 d_wh_limb_13 rfl (WO_c0 hm_p) rfl ?_
      refine go_iload_n (q := 17) d_wh_limb_16 rfl rfl rfl ?_
      refine go_iald (i := i.toNat) (q := 18) d_wh_limb_17 rfl (WO_c1 hm_p) (by omega) (by omega) (by omega) ?_
      refine go_goto (q := 22) d_wh_limb_18 (by decide) ?_
      exact k2 c1 c2

set_option maxRecDepth 4000 in
theorem sc_cutTo_0 {φ : go_F} {l : Launch} {R : Room} {u : Nat × Nat} {h : mv_H} {n : Nat} {p N : Nat} {f : Nat → Int} {s : Int} {m : Nat} (hm_p : WO h p N f s) 
    (k0 : ∀ h' : mv_H, WO h' p N f (m : Int) → (∀ z_, (z_ < p ∨ p + 2 ≤ z_) → h' z_ = h z_) → Go φ l m_wh_cutTo R u 5 [some (mv_R p), some (mv_I (m : Int))] [] h' n) :
    Go φ l m_wh_cutTo R u 0 [some (mv_R p), some (mv_I (m : Int))] [] h n := by
  refine go_aload_n (q := 1) d_wh_cutTo_0 rfl rfl rfl ?_
  refine go_iload_n (q := 2) d_wh_cutTo_1 rfl rfl rfl ?_
  refine go_putf (q := 5) (v := mv_I (m : Int)) f_wh_15 d_wh_cutTo_2 rfl (WO_c0 hm_p) (Nat.le_of_ble_eq_true rfl) (go_fitI _) ?_
  refine go_eq (h' := va_up h p (mv_O 5 [mv_R (p + 1), mv_I (m : Int)])) ?_
  have hm_3 := WO_u0 hm_p (m : Int)
  have fr_2 : ∀ z_, z_ ≠ p → va_up h p (mv_O 5 [mv_R (p + 1), mv_I (m : Int)]) z_ = h z_ := fun z_ hj => va_up_ne _ _ hj
  generalize va_up h p (mv_O 5 [mv_R (p + 1), mv_I (m : Int)]) = h_1 at hm_3 fr_2 ⊢
  exact k0  _ hm_3 (fun z_ g0 => (fr_2 z_ (by omega)))

set_option maxRecDepth 4000 in
theorem sc_cutTo_5 {φ : go_F} {l : Launch} {R : Room} {u : Nat × Nat} {h : mv_H} {n : Nat} {p N k m : Nat} {f : Nat → Int} (hm_p : WO h p N f (k : Int)) (hk : k ≤ N) (hN : N < 100) (hf : ∀ j, 0 ≤ f j ∧ f j ≤ 1073741823)
    (k0 : (k : Int) ≤ 0 → Go φ l m_wh_cutTo R u 39 [some (mv_R p), some (mv_I (m : Int))] [] h n)
    (k1 : ¬ (k : Int) ≤ 0 → ¬ f (k - 1) = 0 → Go φ l m_wh_cutTo R u 39 [some (mv_R p), some (mv_I (m : Int))] [] h n)
    (k2 : ¬ (k : Int) ≤ 0 → f (k - 1) = 0 → ∀ h' : mv_H, WO h' p N f ((k : Int) - 1) → (∀ z_, (z_ < p ∨ p + 2 ≤ z_) → h' z_ = h z_) → Go φ l m_wh_cutTo R u 5 [some (mv_R p), some (mv_I (m : Int))] [] h' n) :
    Go φ l m_wh_cutTo R u 5 [some (mv_R p), some (mv_I (m : Int))] [] h n := by
  refine go_aload_n (q := 6) d_wh_cutTo_5 rfl rfl rfl ?_
  refine go_getf (q := 9) f_wh_15 d_wh_cutTo_6 rfl (WO_c0 hm_p) rfl ?_
  refine go_if_le (t := 39) (q := 12) d_wh_cutTo_9 (by decide) rfl (by omega) (fun c1 => ?_) (fun c1 => ?_)
  ·
    exact k0 c1
  ·
    refine go_aload_n (q := 13) d_wh_cutTo_12 rfl rfl rfl ?_
    refine go_getf (q := 16) f_wh_9 d_wh_cutTo_13 rfl (WO_c0 hm_p) rfl ?_
    refine go_aload_n (q := 17) d_wh_cutTo_16 rfl rfl rfl ?_
    refine go_getf (q := 20) f_wh_15 d_wh_cutTo_17 rfl (WO_c0 hm_p) rfl ?_
    refine go_iconst (q := 21) d_wh_cutTo_20 rfl ?_
    refine go_isub (q := 22) d_wh_cutTo_21 rfl ?_
    refine go_iald (i := k - 1) (q := 23) d_wh_cutTo_22 rfl (WO_c1 hm_p) (by omega) (by omega) (by omega) ?_
    have q_2 := hf (k - 1)
    refine go_if_ne (t := 39) (q := 26) d_wh_cutTo_23 (by decide) rfl (by omega) (fun c3 => ?_) (fun c3 => ?_)
    ·
      exact k1 c1 c3
    ·
      refine go_aload_n (q := 27) d_wh_cutTo_26 rfl rfl rfl ?_
      refine go_dup (q := 28) d_wh_cutTo_27 rfl rfl ?_
      refine go_getf (q := 31) f_wh_15 d_wh_cutTo_28 rfl (WO_c0 hm_p) rfl ?_
      refine go_iconst (q := 32) d_wh_cutTo_31 rfl ?_
      refine go_isub (q := 33) d_wh_cutTo_32 rfl ?_
      refine go_putf (q := 36) (v := mv_I ((k : Int) - 1)) f_wh_15 d_wh_cutTo_33 rfl (WO_c0 hm_p) (Nat.le_of_ble_eq_true rfl) (go_fitI _) ?_
      refine go_eq (h' := va_up h p (mv_O 5 [mv_R (p + 1), mv_I ((k : Int) - 1)])) ?_
      have hm_6 := WO_u0 hm_p ((k : Int) - 1)
      have fr_5 : ∀ z_, z_ ≠ p → va_up h p (mv_O 5 [mv_R (p + 1), mv_I ((k : Int) - 1)]) z_ = h z_ := fun z_ hj => va_up_ne _ _ hj
      generalize va_up h p (mv_O 5 [mv_R (p + 1), mv_I ((k : Int) - 1)]) = h_4 at hm_6 fr_5 ⊢
      refine go_goto (q := 5) d_wh_cutTo_36 (by decide) ?_
      exact k2 c1 c3 _ hm_6 (fun z_ g0 => (fr_5 z_ (by omega)))

set_option maxRecDepth 4000 in
theorem sc_compare_0 {φ : go_F} {l : Launch} {R : Room} {u : Nat × Nat} {h : mv_H} {n : Nat} {p r N K : Nat} {f g : Nat → Int} {s t : Int} (hm_p : WO h p N f s) (hm_r : WO h r K g t) (hs : 0 ≤ s ∧ s ≤ N) (hN : N < 100) (ht : 0 ≤ t ∧ t ≤ K) (hK : K < 100)
    (k0 : s = t → Go φ l m_wh_compare R u 35 [some (mv_R p), some (mv_R r), some (mv_I (s - 1))] [] h n)
    (k1 : ¬ s = t → t ≤ s → Go φ l m_wh_compare R u 27 [some (mv_R p), some (mv_R r), none] [mv_I 1] h n)
    (k2 : ¬ s = t → ¬ t ≤ s → Go φ l m_wh_compare R u 27 [some (mv_R p), some (mv_R r), none] [mv_I (-1)] h n) :
    Go φ l m_wh_compare R u 0 [some (mv_R p), some (mv_R r), none] [] h n := by
  refine go_aload_n (q := 1) d_wh_compare_0 rfl rfl rfl ?_
  refine go_getf (q := 4) f_wh_15 d_wh_compare_1 rfl (WO_c0 hm_p) rfl ?_
  refine go_aload_n (q := 5) d_wh_compare_4 rfl rfl rfl ?_
  refine go_getf (q := 8) f_wh_15 d_wh_compare_5 rfl (WO_c0 hm_r) rfl ?_
  refine go_icmp_eq (t := 28) (q := 11) d_wh_compare_8 (by decide) rfl (by omega) (by omega) (fun c1 => ?_) (fun c1 => ?_)
  ·
    refine go_aload_n (q := 29) d_wh_compare_28 rfl rfl rfl ?_
    refine go_getf (q := 32) f_wh_15 d_wh_compare_29 rfl (WO_c0 hm_p) rfl ?_
    refine go_iconst (q := 33) d_wh_compare_32 rfl ?_
    refine go_isub (q := 34) d_wh_compare_33 rfl ?_
    refine go_istore_n (q := 35) (L' := [some (mv_R p), some (mv_R r), some (mv_I (s - 1))]) d_wh_compare_34 rfl rfl (by decide) rfl ?_
    exact k0 c1
  ·
    refine go_aload_n (q := 12) d_wh_compare_11 rfl rfl rfl ?_
    refine go_getf (q := 15) f_wh_15 d_wh_compare_12 rfl (WO_c0 hm_p) rfl ?_
    refine go_aload_n (q := 16) d_wh_compare_15 rfl rfl rfl ?_
    refine go_getf (q := 19) f_wh_15 d_wh_compare_16 rfl (WO_c0 hm_r) rfl ?_
    refine go_icmp_ge (t := 26) (q := 22) d_wh_compare_19 (by decide) rfl (by omega) (by omega) (fun c2 => ?_) (fun c2 => ?_)
    ·
      refine go_iconst (q := 27) d_wh_compare_26 rfl ?_
      exact k1 c1 c2
    ·
      refine go_iconst (q := 23) d_wh_compare_22 rfl ?_
      refine go_goto (q := 27) d_wh_compare_23 (by decide) ?_
      exact k2 c1 c2

set_option maxRecDepth 4000 in
theorem sc_compare_35 {φ : go_F} {l : Launch} {R : Room} {u : Nat × Nat} {h : mv_H} {n : Nat} {p r N K : Nat} {f g : Nat → Int} {s t : Int} {k : Int} (hm_p : WO h p N f s) (hm_r : WO h r K g t) (hs : 0 ≤ s ∧ s ≤ N) (hN : N < 100) (ht : 0 ≤ t ∧ t ≤ K) (hK : K < 100) (hf : ∀ j, 0 ≤ f j ∧ f j ≤ 1073741823) (hg : ∀ j, 0 ≤ g j ∧ g j ≤ 1073741823) (hk : -1 ≤ k ∧ k < s ∧ s = t)
    (k0 : k < 0 → Go φ l m_wh_compare R u 82 [some (mv_R p), some (mv_R r), some (mv_I k)] [mv_I 0] h n)
    (k1 : ¬ k < 0 → f k.toNat = g k.toNat → Go φ l m_wh_compare R u 35 [some (mv_R p), some (mv_R r), some (mv_I (k + (-1)))] [] h n)
    (k2 : ¬ k < 0 → ¬ f k.toNat = g k.toNat → g k.toNat ≤ f k.toNat → Go φ l m_wh_compare R u 74 [some (mv_R p), some (mv_R r), some (mv_I k)] [mv_I 1] h n)
    (k3 : ¬ k < 0 → ¬ f k.toNat = g k.toNat → ¬ g k.toNat ≤ f k.toNat → Go φ l m_wh_compare R u 74 [some (mv_R p), some (mv_R r), some (mv_I k)] [mv_I (-1)] h n) :
    Go φ l m_wh_compare R u 35 [some (mv_R p), some (mv_R r), some (mv_I k)] [] h n := by
  refine go_iload_n (q := 36) d_wh_compare_35 rfl rfl rfl ?_
  refine go_if_lt (t := 81) (q := 39) d_wh_compare_36 (by decide) rfl (by omega) (fun c1 => ?_) (fun c1 => ?_)
  ·
    refine go_iconst (q := 82) d_wh_compare_81 rfl ?_
    exact k0 c1
  ·
    refine go_aload_n (q := 40) d_wh_compare_39 rfl rfl rfl ?_
    refine go_getf (q := 43) f_wh_9 d_wh_compare_40 rfl (WO_c0 hm_p) rfl ?_
    refine go_iload_n (q := 44) d_wh_compare_43 rfl rfl rfl ?_
    refine go_iald (i := k.toNat) (q := 45) d_wh_compare_44 rfl (WO_c1 hm_p) (by omega) (by omega) (by omega) ?_
    have q_2 := hf k.toNat
    refine go_aload_n (q := 46) d_wh_compare_45 rfl rfl rfl ?_
    refine go_getf (q := 49) f_wh_9 d_wh_compare_46 rfl (WO_c0 hm_r) rfl ?_
    refine go_iload_n (q := 50) d_wh_compare_49 rfl rfl rfl ?_
    refine go_iald (i := k.toNat) (q := 51) d_wh_compare_50 rfl (WO_c1 hm_r) (by omega) (by omega) (by omega) ?_
    have q_3 := hg k.toNat
    refine go_icmp_eq (t := 75) (q := 54) d_wh_compare_51 (by decide) rfl (by omega) (by omega) (fun c4 => ?_) (fun c4 => ?_)
    ·
      refine go_iinc (q := 78) (L' := [some (mv_R p), some (mv_R r), some (mv_I (k + (-1)))]) d_wh_compare_75 rfl (by decide) rfl rfl ?_
      refine go_goto (q := 35) d_wh_compare_78 (by decide) ?_
      exact k1 c1 c4
    ·
      refine go_aload_n (q := 55) d_wh_compare_54 rfl rfl rfl ?_
      refine go_getf (q := 58) f_wh_9 d_wh_compare_55 rfl (WO_c0 hm_p) rfl ?_
      refine go_iload_n (q := 59) d_wh_compare_58 rfl rfl rfl ?_
      refine go_iald (i := k.toNat) (q := 60) d_wh_compare_59 rfl (WO_c1 hm_p) (by omega) (by omega) (by omega) ?_
      have q_5 := hf k.toNat
      refine go_aload_n (q := 61) d_wh_compare_60 rfl rfl rfl ?_
      refine go_getf (q := 64) f_wh_9 d_wh_compare_61 rfl (WO_c0 hm_r) rfl ?_
      refine go_iload_n (q := 65) d_wh_compare_64 rfl rfl rfl ?_
      refine go_iald (i := k.toNat) (q := 66) d_wh_compare_65 rfl (WO_c1 hm_r) (by omega) (by omega) (by omega) ?_
      have q_6 := hg k.toNat
      refine go_icmp_ge (t := 73) (q := 69) d_wh_compare_66 (by decide) rfl (by omega) (by omega) (fun c7 => ?_) (fun c7 => ?_)
      ·
        refine go_iconst (q := 74) d_wh_compare_73 rfl ?_
        exact k2 c1 c4 c7
      ·
        refine go_iconst (q := 70) d_wh_compare_69 rfl ?_
        refine go_goto (q := 74) d_wh_compare_70 (by decide) ?_
        exact k3 c1 c4 c7

set_option maxRecDepth 4000 in
theorem sc_add_11 {φ : go_F} {l : Launch} {R : Room} {u : Nat × Nat} {h : mv_H} {n : Nat} {p r N K : Nat} {f g : Nat → Int} {s t : Int} {m : Int} (hm_p : WO h p N f s) (hm_r : WO h r K g t) 
    (k0 : Go φ l m_wh_add R u 17 [some (mv_R p), some (mv_R r), some (mv_I m), some (mv_I 0), some (mv_I 0), none] [] h n) :
    Go φ l m_wh_add R u 11 [some (mv_R p), some (mv_R r), none, none, none, none] [mv_I m] h n := by
  refine go_istore_n (q := 12) (L' := [some (mv_R p), some (mv_R r), some (mv_I m), none, none, none]) d_wh_add_11 rfl rfl (by decide) rfl ?_
  refine go_iconst (q := 13) d_wh_add_12 rfl ?_
  refine go_istore_n (q := 14) (L' := [some (mv_R p), some (mv_R r), some (mv_I m), some (mv_I 0), none, none]) d_wh_add_13 rfl rfl (by decide) rfl ?_
  refine go_iconst (q := 15) d_wh_add_14 rfl ?_
  refine go_istore (q := 17) (L' := [some (mv_R p), some (mv_R r), some (mv_I m), some (mv_I 0), some (mv_I 0), none]) d_wh_add_15 rfl (by decide) rfl ?_
  exact k0 

set_option maxRecDepth 4000 in
theorem sc_add_17 {φ : go_F} {l : Launch} {R : Room} {u : Nat × Nat} {h : mv_H} {n : Nat} {p r N K : Nat} {f g : Nat → Int} {s t : Int} {m c : Int} {k : Nat} (hm_p : WO h p N f s) (hm_r : WO h r K g t) (hs : 0 ≤ s ∧ s ≤ N) (hN : N < 100) (ht : 0 ≤ t ∧ t ≤ K) (hK : K < 100) (hf : ∀ j, 0 ≤ f j ∧ f j ≤ 1073741823) (hg : ∀ j, 0 ≤ g j ∧ g j ≤ 1073741823) (hdis : p + 1 < r ∨ r + 1 < p) (hm : 0 ≤ m ∧ m ≤ N) (hc : 0 ≤ c ∧ c ≤ 1) (hk : k ≤ N)
    (k0 : m ≤ (k : Int) → Go φ l m_wh_add R u 92 [some (mv_R p), some (mv_R r), some (mv_I m), some (mv_I c), some (mv_I (k : Int)), none] [] h n)
    (k1 : ¬ m ≤ (k : Int) → s ≤ (k : Int) → t ≤ (k : Int) → ∀ h' : mv_H, WO h' p N (va_up f k (((0 + 0) + c) % 1073741824)) s → WO h' r K g t → (∀ z_, (z_ < p ∨ p + 2 ≤ z_) → h' z_ = h z_) → Go φ l m_wh_add R u 17 [some (mv_R p), some (mv_R r), some (mv_I m), some (mv_I (((0 + 0) + c) / 1073741824)), some (mv_I ((k : Int) + 1)), none] [] h' n)
    (k2 : ¬ m ≤ (k : Int) → s ≤ (k : Int) → ¬ t ≤ (k : Int) → ∀ h' : mv_H, WO h' p N (va_up f k (((0 + (g k)) + c) % 1073741824)) s → WO h' r K g t → (∀ z_, (z_ < p ∨ p + 2 ≤ z_) → h' z_ = h z_) → Go φ l m_wh_add R u 17 [some (mv_R p), some (mv_R r), some (mv_I m), some (mv_I (((0 + (g k)) + c) / 1073741824)), some (mv_I ((k : Int) + 1)), none] [] h' n)
    (k3 : ¬ m ≤ (k : Int) → ¬ s ≤ (k : Int) → t ≤ (k : Int) → ∀ h' : mv_H, WO h' p N (va_up f k ((((f k) + 0) + c) % 1073741824)) s → WO h' r K g t → (∀ z_, (z_ < p ∨ p + 2 ≤ z_) → h' z_ = h z_) → Go φ l m_wh_add R u 17 [some (mv_R p), some (mv_R r), some (mv_I m), some (mv_I ((((f k) + 0) + c) / 1073741824)), some (mv_I ((k : Int) + 1)), none] [] h' n)
    (k4 : ¬ m ≤ (k : Int) → ¬ s ≤ (k : Int) → ¬ t ≤ (k : Int) → ∀ h' : mv_H, WO h' p N (va_up f k ((((f k) + (g k)) + c) % 1073741824)) s → WO h' r K g t → (∀ z_, (z_ < p ∨ p + 2 ≤ z_) → h' z_ = h z_) → Go φ l m_wh_add R u 17 [some (mv_R p), some (mv_R r), some (mv_I m), some (mv_I ((((f k) + (g k)) + c) / 1073741824)), some (mv_I ((k : Int) + 1)), none] [] h' n) :
    Go φ l m_wh_add R u 17 [some (mv_R p), some (mv_R r), some (mv_I m), some (mv_I c), some (mv_I (k : Int)), none] [] h n := by
  refine go_iload (q := 19) d_wh_add_17 rfl rfl ?_
  refine go_iload_n (q := 20) d_wh_add_19 rfl rfl rfl ?_
  refine go_icmp_ge (t := 92) (q := 23) d_wh_add_20 (by decide) rfl (by omega) (by omega) (fun c1 => ?_) (fun c1 => ?_)
  ·
    exact k0 c1
  ·
    refine go_iload (q := 25) d_wh_add_23 rfl rfl ?_
    refine go_aload_n (q := 26) d_wh_add_25 rfl rfl rfl ?_
    refine go_getf (q := 29) f_wh_15 d_wh_add_26 rfl (WO_c0 hm_p) rfl ?_
    refine go_icmp_ge (t := 42) (q := 32) d_wh_add_29 (by decide) rfl (by omega) (by omega) (fun c2 => ?_) (fun c2 => ?_)
    ·
      refine go_iconst (q := 43) d_wh_add_42 rfl ?_
      refine go_iload (q := 45) d_wh_add_43 rfl rfl ?_
      refine go_aload_n (q := 46) d_wh_add_45 rfl rfl rfl ?_
      refine go_getf (q := 49) f_wh_15 d_wh_add_46 rfl (WO_c0 hm_r) rfl ?_
      refine go_icmp_ge (t := 62) (q := 52) d_wh_add_49 (by decide) rfl (by omega) (by omega) (fun c3 => ?_) (fun c3 => ?_)
      ·
        refine go_iconst (q := 63) d_wh_add_62 rfl ?_
        refine go_iadd (q := 64) d_wh_add_63 rfl ?_
        refine go_iload_n (q := 65) d_wh_add_64 rfl rfl rfl ?_
        refine go_iadd (q := 66) d_wh_add_65 rfl ?_
        refine go_istore (q := 68) (L' := [some (mv_R p), some (mv_R r), some (mv_I m), some (mv_I c), some (mv_I (k : Int)), some (mv_I ((0 + 0) + c))]) d_wh_add_66 rfl (by decide) rfl ?_
        refine go_aload_n (q := 69) d_wh_add_68 rfl rfl rfl ?_
        refine go_getf (q := 72) f_wh_9 d_wh_add_69 rfl (WO_c0 hm_p) rfl ?_
        refine go_iload (q := 74) d_wh_add_72 rfl rfl ?_
        refine go_iload (q := 76) d_wh_add_74 rfl rfl ?_
        refine go_ldc (z := 1073741823) (q := 78) d_wh_add_76 rfl tw_3_66 (by decide) ?_
        refine go_iand (z := ((0 + 0) + c) % 1073741824) (q := 79) d_wh_add_78 rfl (gn_mask 30 (by decide) (by decide) (by decide)) ?_
        refine go_iast (i := k) (q := 80) d_wh_add_79 rfl (WO_c1 hm_p) (by omega) (by omega) (by omega) ?_
        have hm_6 := WO_u1 hm_p (va_up f k (((0 + 0) + c) % 1073741824))
        have fr_5 : ∀ z_, z_ ≠ (p + 1) → va_up h (p + 1) (mv_A 0 N (va_up f k (((0 + 0) + c) % 1073741824))) z_ = h z_ := fun z_ hj => va_up_ne _ _ hj
        generalize va_up h (p + 1) (mv_A 0 N (va_up f k (((0 + 0) + c) % 1073741824))) = h_4 at hm_6 fr_5 ⊢
        have hm_7 := WO_k hm_r (h' := h_4) (fun z_ ha hb => fr_5 z_ (by omega))
        refine go_iload (q := 82) d_wh_add_80 rfl rfl ?_
        refine go_bipush (q := 84) d_wh_add_82 rfl (by decide) ?_
        refine go_iushr (z := ((0 + 0) + c) / 1073741824) (q := 85) d_wh_add_84 rfl (gn_ushr 30 (by decide) rfl (by decide) (by omega)) ?_
        refine go_istore_n (q := 86) (L' := [some (mv_R p), some (mv_R r), some (mv_I m), some (mv_I (((0 + 0) + c) / 1073741824)), some (mv_I (k : Int)), some (mv_I ((0 + 0) + c))]) d_wh_add_85 rfl rfl (by decide) rfl ?_
        refine go_iinc (q := 89) (L' := [some (mv_R p), some (mv_R r), some (mv_I m), some (mv_I (((0 + 0) + c) / 1073741824)), some (mv_I ((k : Int) + 1)), some (mv_I ((0 + 0) + c))]) d_wh_add_86 rfl (by decide) rfl rfl ?_
        refine go_goto (q := 17) d_wh_add_89 (by decide) ?_
        refine go_fg 5 (L' := [some (mv_R p), some (mv_R r), some (mv_I m), some (mv_I (((0 + 0) + c) / 1073741824)), some (mv_I ((k : Int) + 1)), none]) rfl ?_
        exact k1 c1 c2 c3 _ hm_6 hm_7 (fun z_ g0 => (fr_5 z_ (by omega)))
      ·
        refine go_aload_n (q := 53) d_wh_add_52 rfl rfl rfl ?_
        refine go_getf (q := 56) f_wh_9 d_wh_add_53 rfl (WO_c0 hm_r) rfl ?_
        refine go_iload (q := 58) d_wh_add_56 rfl rfl ?_
        refine go_iald (i := k) (q := 59) d_wh_add_58 rfl (WO_c1 hm_r) (by omega) (by omega) (by omega) ?_
        have q_8 := hg k
        refine go_goto (q := 63) d_wh_add_59 (by decide) ?_
        refine go_iadd (q := 64) d_wh_add_63 rfl ?_
        refine go_iload_n (q := 65) d_wh_add_64 rfl rfl rfl ?_
        refine go_iadd (q := 66) d_wh_add_65 rfl ?_
        refine go_istore (q := 68) (L' := [some (mv_R p), some (mv_R r), some (mv_I m), some (mv_I c), some (mv_I (k : Int)), some (mv_I ((0 + (g k)) + c))]) d_wh_add_66 rfl (by decide) rfl ?_
        refine go_aload_n (q := 69) d_wh_add_68 rfl rfl rfl ?_
        refine go_getf (q := 72) f_wh_9 d_wh_add_69 rfl (WO_c0 hm_p) rfl ?_
        refine go_iload (q := 74) d_wh_add_72 rfl rfl ?_
        refine go_iload (q := 76) d_wh_add_74 rfl rfl ?_
        refine go_ldc (z := 1073741823) (q := 78) d_wh_add_76 rfl tw_3_66 (by decide) ?_
        refine go_iand (z := ((0 + (g k)) + c) % 1073741824) (q := 79) d_wh_add_78 rfl (gn_mask 30 (by decide) (by decide) (by decide)) ?_
        refine go_iast (i := k) (q := 80) d_wh_add_79 rfl (WO_c1 hm_p) (by omega) (by omega) (by omega) ?_
        have hm_11 := WO_u1 hm_p (va_up f k (((0 + (g k)) + c) % 1073741824))
        have fr_10 : ∀ z_, z_ ≠ (p + 1) → va_up h (p + 1) (mv_A 0 N (va_up f k (((0 + (g k)) + c) % 1073741824))) z_ = h z_ := fun z_ hj => va_up_ne _ _ hj
        generalize va_up h (p + 1) (mv_A 0 N (va_up f k (((0 + (g k)) + c) % 1073741824))) = h_9 at hm_11 fr_10 ⊢
        have hm_12 := WO_k hm_r (h' := h_9) (fun z_ ha hb => fr_10 z_ (by omega))
        refine go_iload (q := 82) d_wh_add_80 rfl rfl ?_
        refine go_bipush (q := 84) d_wh_add_82 rfl (by decide) ?_
        refine go_iushr (z := ((0 + (g k)) + c) / 1073741824) (q := 85) d_wh_add_84 rfl (gn_ushr 30 (by decide) rfl (by decide) (by omega)) ?_
        refine go_istore_n (q := 86) (L' := [some (mv_R p), some (mv_R r), some (mv_I m), some (mv_I (((0 + (g k)) + c) / 1073741824)), some (mv_I (k : Int)), some (mv_I ((0 + (g k)) + c))]) d_wh_add_85 rfl rfl (by decide) rfl ?_
        refine go_iinc (q := 89) (L' := [some (mv_R p), some (mv_R r), some (mv_I m), some (mv_I (((0 + (g k)) + c) / 1073741824)), some (mv_I ((k : Int) + 1)), some (mv_I ((0 + (g k)) + c))]) d_wh_add_86 rfl (by decide) rfl rfl ?_
        refine go_goto (q := 17) d_wh_add_89 (by decide) ?_
        refine go_fg 5 (L' := [some (mv_R p), some (mv_R r), some (mv_I m), some (mv_I (((0 + (g k)) + c) / 1073741824)), some (mv_I ((k : Int) + 1)), none]) rfl ?_
        exact k2 c1 c2 c3 _ hm_11 hm_12 (fun z_ g0 => (fr_10 z_ (by omega)))
    ·
      refine go_aload_n (q := 33) d_wh_add_32 rfl rfl rfl ?_
      refine go_getf (q := 36) f_wh_9 d_wh_add_33 rfl (WO_c0 hm_p) rfl ?_
      refine go_iload (q := 38) d_wh_add_36 rfl rfl ?_
      refine go_iald (i := k) (q := 39) d_wh_add_38 rfl (WO_c1 hm_p) (by omega) (by omega) (by omega) ?_
      have q_13 := hf k
      refine go_goto (q := 43) d_wh_add_39 (by decide) ?_
      refine go_iload (q := 45) d_wh_add_43 rfl rfl ?_
      refine go_aload_n (q := 46) d_wh_add_45 rfl rfl rfl ?_
      refine go_getf (q := 49) f_wh_15 d_wh_add_46 rfl (WO_c0 hm_r) rfl ?_
      refine go_icmp_ge (t := 62) (q := 52) d_wh_add_49 (by decide) rfl (by omega) (by omega) (fun c14 => ?_) (fun c14 => ?_)
      ·
        refine go_iconst (q := 63) d_wh_add_62 rfl ?_
        refine go_iadd (q := 64) d_wh_add_63 rfl ?_
        refine go_iload_n (q := 65) d_wh_add_64 rfl rfl rfl ?_
        refine go_iadd (q := 66) d_wh_add_65 rfl ?_
        refine go_istore (q := 68) (L' := [some (mv_R p), some (mv_R r), some (mv_I m), some (mv_I c), some (mv_I (k : Int)), some (mv_I (((f k) + 0) + c))]) d_wh_add_66 rfl (by decide) rfl ?_
        refine go_aload_n (q := 69) d_wh_add_68 rfl rfl rfl ?_
        refine go_getf (q := 72) f_wh_9 d_wh_add_69 rfl (WO_c0 hm_p) rfl ?_
        refine go_iload (q := 74) d_wh_add_72 rfl rfl ?_
        refine go_iload (q := 76) d_wh_add_74 rfl rfl ?_
        refine go_ldc (z := 1073741823) (q := 78) d_wh_add_76 rfl tw_3_66 (by decide) ?_
        refine go_iand (z := (((f k) + 0) + c) % 1073741824) (q := 79) d_wh_add_78 rfl (gn_mask 30 (by decide) (by decide) (by decide)) ?_
        refine go_iast (i := k) (q := 80) d_wh_add_79 rfl (WO_c1 hm_p) (by omega) (by omega) (by omega) ?_
        have hm_17 := WO_u1 hm_p (va_up f k ((((f k) + 0) + c) % 1073741824))
        have fr_16 : ∀ z_, z_ ≠ (p + 1) → va_up h (p + 1) (mv_A 0 N (va_up f k ((((f k) + 0) + c) % 1073741824))) z_ = h z_ := fun z_ hj => va_up_ne _ _ hj
        generalize va_up h (p + 1) (mv_A 0 N (va_up f k ((((f k) + 0) + c) % 1073741824))) = h_15 at hm_17 fr_16 ⊢
        have hm_18 := WO_k hm_r (h' := h_15) (fun z_ ha hb => fr_16 z_ (by omega))
        refine go_iload (q := 82) d_wh_add_80 rfl rfl ?_
        refine go_bipush (q := 84) d_wh_add_82 rfl (by decide) ?_
        refine go_iushr (z := (((f k) + 0) + c) / 1073741824) (q := 85) d_wh_add_84 rfl (gn_ushr 30 (by decide) rfl (by decide) (by omega)) ?_
        refine go_istore_n (q := 86) (L' := [some (mv_R p), some (mv_R r), some (mv_I m), some (mv_I ((((f k) + 0) + c) / 1073741824)), some (mv_I (k : Int)), some (mv_I (((f k) + 0) + c))]) d_wh_add_85 rfl rfl (by decide) rfl ?_
        refine go_iinc (q := 89) (L' := [some (mv_R p), some (mv_R r), some (mv_I m), some (mv_I ((((f k) + 0) + c) / 1073741824)), some (mv_I ((k : Int) + 1)), some (mv_I (((f k) + 0) + c))]) d_wh_add_86 rfl (by decide) rfl rfl ?_
        refine go_goto (q := 17) d_wh_add_89 (by decide) ?_
        refine go_fg 5 (L' := [some (mv_R p), some (mv_R r), some (mv_I m), some (mv_I ((((f k) + 0) + c) / 1073741824)), some (mv_I ((k : Int) + 1)), none]) rfl ?_
        exact k3 c1 c2 c14 _ hm_17 hm_18 (fun z_ g0 => (fr_16 z_ (by omega)))
      ·
        refine go_aload_n (q := 53) d_wh_add_52 rfl rfl rfl ?_
        refine go_getf (q := 56) f_wh_9 d_wh_add_53 rfl (WO_c0 hm_r) rfl ?_
        refine go_iload (q := 58) d_wh_add_56 rfl rfl ?_
        refine go_iald (i := k) (q := 59) d_wh_add_58 rfl (WO_c1 hm_r) (by omega) (by omega) (by omega) ?_
        have q_19 := hg k
        refine go_goto (q := 63) d_wh_add_59 (by decide) ?_
        refine go_iadd (q := 64) d_wh_add_63 rfl ?_
        refine go_iload_n (q := 65) d_wh_add_64 rfl rfl rfl ?_
        refine go_iadd (q := 66) d_wh_add_65 rfl ?_
        refine go_istore (q := 68) (L' := [some (mv_R p), some (mv_R r), some (mv_I m), some (mv_I c), some (mv_I (k : Int)), some (mv_I (((f k) + (g k)) + c))]) d_wh_add_66 rfl (by decide) rfl ?_
        refine go_aload_n (q := 69) d_wh_add_68 rfl rfl rfl ?_
        refine go_getf (q := 72) f_wh_9 d_wh_add_69 rfl (WO_c0 hm_p) rfl ?_
        refine go_iload (q := 74) d_wh_add_72 rfl rfl ?_
        refine go_iload (q := 76) d_wh_add_74 rfl rfl ?_
        refine go_ldc (z := 1073741823) (q := 78) d_wh_add_76 rfl tw_3_66 (by decide) ?_
        refine go_iand (z := (((f k) + (g k)) + c) % 1073741824) (q := 79) d_wh_add_78 rfl (gn_mask 30 (by decide) (by decide) (by decide)) ?_
        refine go_iast (i := k) (q := 80) d_wh_add_79 rfl (WO_c1 hm_p) (by omega) (by omega) (by omega) ?_
        have hm_22 := WO_u1 hm_p (va_up f k ((((f k) + (g k)) + c) % 1073741824))
        have fr_21 : ∀ z_, z_ ≠ (p + 1) → va_up h (p + 1) (mv_A 0 N (va_up f k ((((f k) + (g k)) + c) % 1073741824))) z_ = h z_ := fun z_ hj => va_up_ne _ _ hj
        generalize va_up h (p + 1) (mv_A 0 N (va_up f k ((((f k) + (g k)) + c) % 1073741824))) = h_20 at hm_22 fr_21 ⊢
        have hm_23 := WO_k hm_r (h' := h_20) (fun z_ ha hb => fr_21 z_ (by omega))
        refine go_iload (q := 82) d_wh_add_80 rfl rfl ?_
        refine go_bipush (q := 84) d_wh_add_82 rfl (by decide) ?_
        refine go_iushr (z := (((f k) + (g k)) + c) / 1073741824) (q := 85) d_wh_add_84 rfl (gn_ushr 30 (by decide) rfl (by decide) (by omega)) ?_
        refine go_istore_n (q := 86) (L' := [some (mv_R p), some (mv_R r), some (mv_I m), some (mv_I ((((f k) + (g k)) + c) / 1073741824)), some (mv_I (k : Int)), some (mv_I (((f k) + (g k)) + c))]) d_wh_add_85 rfl rfl (by decide) rfl ?_
        refine go_iinc (q := 89) (L' := [some (mv_R p), some (mv_R r), some (mv_I m), some (mv_I ((((f k) + (g k)) + c) / 1073741824)), some (mv_I ((k : Int) + 1)), some (mv_I (((f k) + (g k)) + c))]) d_wh_add_86 rfl (by decide) rfl rfl ?_
        refine go_goto (q := 17) d_wh_add_89 (by decide) ?_
        refine go_fg 5 (L' := [some (mv_R p), some (mv_R r), some (mv_I m), some (mv_I ((((f k) + (g k)) + c) / 1073741824)), some (mv_I ((k : Int) + 1)), none]) rfl ?_
        exact k4 c1 c2 c14 _ hm_22 hm_23 (fun z_ g0 => (fr_21 z_ (by omega)))

set_option maxRecDepth 4000 in
theorem sc_add_92 {φ : go_F} {l : Launch} {R : Room} {u : Nat × Nat} {h : mv_H} {n : Nat} {p r N K : Nat} {f g : Nat → Int} {s t : Int} {m c : Int} {k : Nat} (hm_p : WO h p N f s) (hm_r : WO h r K g t) (hdis : p + 1 < r ∨ r + 1 < p) (hc : 0 ≤ c ∧ c ≤ 1) (hm : 0 ≤ m ∧ (0 < c → m < N) ∧ N < 100)
    (k0 : c = 0 → ∀ h' : mv_H, WO h' p N f m → WO h' r K g t → (∀ z_, (z_ < p ∨ p + 2 ≤ z_) → h' z_ = h z_) → Go φ l m_wh_add R u 121 [some (mv_R p), some (mv_R r), some (mv_I m), some (mv_I c), some (mv_I (k : Int)), none] [] h' n)
    (k1 : ¬ c = 0 → ∀ h' : mv_H, WO h' p N (va_up f m.toNat c) (m + 1) → WO h' r K g t → (∀ z_, (z_ < p ∨ p + 2 ≤ z_) → h' z_ = h z_) → Go φ l m_wh_add R u 121 [some (mv_R p), some (mv_R r), some (mv_I m), some (mv_I c), some (mv_I (k : Int)), none] [] h' n) :
    Go φ l m_wh_add R u 92 [some (mv_R p), some (mv_R r), some (mv_I m), some (mv_I c), some (mv_I (k : Int)), none] [] h n := by
  refine go_aload_n (q := 93) d_wh_add_92 rfl rfl rfl ?_
  refine go_iload_n (q := 94) d_wh_add_93 rfl rfl rfl ?_
  refine go_putf (q := 97) (v := mv_I m) f_wh_15 d_wh_add_94 rfl (WO_c0 hm_p) (Nat.le_of_ble_eq_true rfl) (go_fitI _) ?_
  refine go_eq (h' := va_up h p (mv_O 5 [mv_R (p + 1), mv_I m])) ?_
  have hm_3 := WO_u0 hm_p m
  have fr_2 : ∀ z_, z_ ≠ p → va_up h p (mv_O 5 [mv_R (p + 1), mv_I m]) z_ = h z_ := fun z_ hj => va_up_ne _ _ hj
  generalize va_up h p (mv_O 5 [mv_R (p + 1), mv_I m]) = h_1 at hm_3 fr_2 ⊢
  have hm_4 := WO_k hm_r (h' := h_1) (fun z_ ha hb => fr_2 z_ (by omega))
  refine go_iload_n (q := 98) d_wh_add_97 rfl rfl rfl ?_
  refine go_if_eq (t := 121) (q := 101) d_wh_add_98 (by decide) rfl (by omega) (fun c5 => ?_) (fun c5 => ?_)
  ·
    exact k0 c5 _ hm_3 hm_4 (fun z_ g0 => (fr_2 z_ (by omega)))
  ·
    refine go_aload_n (q := 102) d_wh_add_101 rfl rfl rfl ?_
    refine go_getf (q := 105) f_wh_9 d_wh_add_102 rfl (WO_c0 hm_3) rfl ?_
    refine go_aload_n (q := 106) d_wh_add_105 rfl rfl rfl ?_
    refine go_getf (q := 109) f_wh_15 d_wh_add_106 rfl (WO_c0 hm_3) rfl ?_
    refine go_iload_n (q := 110) d_wh_add_109 rfl rfl rfl ?_
    refine go_iast (i := m.toNat) (q := 111) d_wh_add_110 rfl (WO_c1 hm_3) (by omega) (by omega) (by omega) ?_
    have hm_8 := WO_u1 hm_3 (va_up f m.toNat c)
    have fr_7 : ∀ z_, z_ ≠ (p + 1) → va_up h_1 (p + 1) (mv_A 0 N (va_up f m.toNat c)) z_ = h_1 z_ := fun z_ hj => va_up_ne _ _ hj
    generalize va_up h_1 (p + 1) (mv_A 0 N (va_up f m.toNat c)) = h_6 at hm_8 fr_7 ⊢
    have hm_9 := WO_k hm_4 (h' := h_6) (fun z_ ha hb => fr_7 z_ (by omega))
    refine go_aload_n (q := 112) d_wh_add_111 rfl rfl rfl ?_
    refine go_dup (q := 113) d_wh_add_112 rfl rfl ?_
    refine go_getf (q := 116) f_wh_15 d_wh_add_113 rfl (WO_c0 hm_8) rfl ?_
    refine go_iconst (q := 117) d_wh_add_116 rfl ?_
    refine go_iadd (q := 118) d_wh_add_117 rfl ?_
    refine go_putf (q := 121) (v := mv_I (m + 1)) f_wh_15 d_wh_add_118 rfl (WO_c0 hm_8) (Nat.le_of_ble_eq_true rfl) (go_fitI _) ?_
    refine go_eq (h' := va_up h_6 p (mv_O 5 [mv_R (p + 1), mv_I (m + 1)])) ?_
    have hm_12 := WO_u0 hm_8 (m + 1)
    have fr_11 : ∀ z_, z_ ≠ p → va_up h_6 p (mv_O 5 [mv_R (p + 1), mv_I (m + 1)]) z_ = h_6 z_ := fun z_ hj => va_up_ne _ _ hj
    generalize va_up h_6 p (mv_O 5 [mv_R (p + 1), mv_I (m + 1)]) = h_10 at hm_12 fr_11 ⊢
    have hm_13 := WO_k hm_9 (h' := h_10) (fun z_ ha hb => fr_11 z_ (by omega))
    exact k1 c5 _ hm_12 hm_13 (fun z_ g0 => (((fr_11 z_ (by omega)).trans (fr_7 z_ (by omega))).trans (fr_2 z_ (by omega))))

set_option maxRecDepth 4000 in
theorem sc_sub_0 {φ : go_F} {l : Launch} {R : Room} {u : Nat × Nat} {h : mv_H} {n : Nat} {p r N K : Nat} {f g : Nat → Int} {s t : Int} (hm_p : WO h p N f s) (hm_r : WO h r K g t) 
    (k0 : Go φ l m_wh_subtract R u 4 [some (mv_R p), some (mv_R r), some (mv_I 0), some (mv_I 0), none] [] h n) :
    Go φ l m_wh_subtract R u 0 [some (mv_R p), some (mv_R r), none, none, none] [] h n := by
  refine go_iconst (q := 1) d_wh_subtract_0 rfl ?_
  refine go_istore_n (q := 2) (L' := [some (mv_R p), some (mv_R r), some (mv_I 0), none, none]) d_wh_subtract_1 rfl rfl (by decide) rfl ?_
  refine go_iconst (q := 3) d_wh_subtract_2 rfl ?_
  refine go_istore_n (q := 4) (L' := [some (mv_R p), some (mv_R r), some (mv_I 0), some (mv_I 0), none]) d_wh_subtract_3 rfl rfl (by decide) rfl ?_
  exact k0 

set_option maxRecDepth 4000 in
theorem sc_sub_4 {φ : go_F} {l : Launch} {R : Room} {u : Nat × Nat} {h : mv_H} {n : Nat} {p r N K : Nat} {f g : Nat → Int} {s t : Int} {c : Int} {k : Nat} (hm_p : WO h p N f s) (hm_r : WO h r K g t) (hs : 0 ≤ s ∧ s ≤ N) (hN : N < 100) (ht : 0 ≤ t ∧ t ≤ K) (hK : K < 100) (hf : ∀ j, 0 ≤ f j ∧ f j ≤ 1073741823) (hg : ∀ j, 0 ≤ g j ∧ g j ≤ 1073741823) (hdis : p + 1 < r ∨ r + 1 < p) (hc : 0 ≤ c ∧ c ≤ 1) (hk : k ≤ N)
    (k0 : s ≤ (k : Int) → Go φ l m_wh_subtract R u 69 [some (mv_R p), some (mv_R r), some (mv_I c), some (mv_I (k : Int)), none] [] h n)
    (k1 : ¬ s ≤ (k : Int) → t ≤ (k : Int) → 0 ≤ ((f k) - 0) - c → ∀ h' : mv_H, WO h' p N (va_up f k ((((f k) - 0) - c) % 1073741824)) s → WO h' r K g t → (∀ z_, (z_ < p ∨ p + 2 ≤ z_) → h' z_ = h z_) → Go φ l m_wh_subtract R u 4 [some (mv_R p), some (mv_R r), some (mv_I 0), some (mv_I ((k : Int) + 1)), none] [] h' n)
    (k2 : ¬ s ≤ (k : Int) → t ≤ (k : Int) → ¬ 0 ≤ ((f k) - 0) - c → ∀ h' : mv_H, WO h' p N (va_up f k ((((f k) - 0) - c) % 1073741824)) s → WO h' r K g t → (∀ z_, (z_ < p ∨ p + 2 ≤ z_) → h' z_ = h z_) → Go φ l m_wh_subtract R u 4 [some (mv_R p), some (mv_R r), some (mv_I 1), some (mv_I ((k : Int) + 1)), none] [] h' n)
    (k3 : ¬ s ≤ (k : Int) → ¬ t ≤ (k : Int) → 0 ≤ ((f k) - (g k)) - c → ∀ h' : mv_H, WO h' p N (va_up f k ((((f k) - (g k)) - c) % 1073741824)) s → WO h' r K g t → (∀ z_, (z_ < p ∨ p + 2 ≤ z_) → h' z_ = h z_) → Go φ l m_wh_subtract R u 4 [some (mv_R p), some (mv_R r), some (mv_I 0), some (mv_I ((k : Int) + 1)), none] [] h' n)
    (k4 : ¬ s ≤ (k : Int) → ¬ t ≤ (k : Int) → ¬ 0 ≤ ((f k) - (g k)) - c → ∀ h' : mv_H, WO h' p N (va_up f k ((((f k) - (g k)) - c) % 1073741824)) s → WO h' r K g t → (∀ z_, (z_ < p ∨ p + 2 ≤ z_) → h' z_ = h z_) → Go φ l m_wh_subtract R u 4 [some (mv_R p), some (mv_R r), some (mv_I 1), some (mv_I ((k : Int) + 1)), none] [] h' n) :
    Go φ l m_wh_subtract R u 4 [some (mv_R p), some (mv_R r), some (mv_I c), some (mv_I (k : Int)), none] [] h n := by
  refine go_iload_n (q := 5) d_wh_subtract_4 rfl rfl rfl ?_
  refine go_aload_n (q := 6) d_wh_subtract_5 rfl rfl rfl ?_
  refine go_getf (q := 9) f_wh_15 d_wh_subtract_6 rfl (WO_c0 hm_p) rfl ?_
  refine go_icmp_ge (t := 69) (q := 12) d_wh_subtract_9 (by decide) rfl (by omega) (by omega) (fun c1 => ?_) (fun c1 => ?_)
  ·
    exact k0 c1
  ·
    refine go_aload_n (q := 13) d_wh_subtract_12 rfl rfl rfl ?_
    refine go_getf (q := 16) f_wh_9 d_wh_subtract_13 rfl (WO_c0 hm_p) rfl ?_
    refine go_iload_n (q := 17) d_wh_subtract_16 rfl rfl rfl ?_
    refine go_iald (i := k) (q := 18) d_wh_subtract_17 rfl (WO_c1 hm_p) (by omega) (by omega) (by omega) ?_
    have q_2 := hf k
    refine go_iload_n (q := 19) d_wh_subtract_18 rfl rfl rfl ?_
    refine go_aload_n (q := 20) d_wh_subtract_19 rfl rfl rfl ?_
    refine go_getf (q := 23) f_wh_15 d_wh_subtract_20 rfl (WO_c0 hm_r) rfl ?_
    refine go_icmp_ge (t := 35) (q := 26) d_wh_subtract_23 (by decide) rfl (by omega) (by omega) (fun c3 => ?_) (fun c3 => ?_)
    ·
      refine go_iconst (q := 36) d_wh_subtract_35 rfl ?_
      refine go_isub (q := 37) d_wh_subtract_36 rfl ?_
      refine go_iload_n (q := 38) d_wh_subtract_37 rfl rfl rfl ?_
      refine go_isub (q := 39) d_wh_subtract_38 rfl ?_
      refine go_istore (q := 41) (L' := [some (mv_R p), some (mv_R r), some (mv_I c), some (mv_I (k : Int)), some (mv_I (((f k) - 0) - c))]) d_wh_subtract_39 rfl (by decide) rfl ?_
      refine go_aload_n (q := 42) d_wh_subtract_41 rfl rfl rfl ?_
      refine go_getf (q := 45) f_wh_9 d_wh_subtract_42 rfl (WO_c0 hm_p) rfl ?_
      refine go_iload_n (q := 46) d_wh_subtract_45 rfl rfl rfl ?_
      refine go_iload (q := 48) d_wh_subtract_46 rfl rfl ?_
      refine go_ldc (z := 1073741823) (q := 50) d_wh_subtract_48 rfl tw_3_66 (by decide) ?_
      refine go_iand (z := (((f k) - 0) - c) % 1073741824) (q := 51) d_wh_subtract_50 rfl (gn_mask 30 (by decide) (by decide) (by decide)) ?_
      refine go_iast (i := k) (q := 52) d_wh_subtract_51 rfl (WO_c1 hm_p) (by omega) (by omega) (by omega) ?_
      have hm_6 := WO_u1 hm_p (va_up f k ((((f k) - 0) - c) % 1073741824))
      have fr_5 : ∀ z_, z_ ≠ (p + 1) → va_up h (p + 1) (mv_A 0 N (va_up f k ((((f k) - 0) - c) % 1073741824))) z_ = h z_ := fun z_ hj => va_up_ne _ _ hj
      generalize va_up h (p + 1) (mv_A 0 N (va_up f k ((((f k) - 0) - c) % 1073741824))) = h_4 at hm_6 fr_5 ⊢
      have hm_7 := WO_k hm_r (h' := h_4) (fun z_ ha hb => fr_5 z_ (by omega))
      refine go_iload (q := 54) d_wh_subtract_52 rfl rfl ?_
      refine go_if_ge (t := 61) (q := 57) d_wh_subtract_54 (by decide) rfl (by omega) (fun c8 => ?_) (fun c8 => ?_)
      ·
        refine go_iconst (q := 62) d_wh_subtract_61 rfl ?_
        refine go_istore_n (q := 63) (L' := [some (mv_R p), some (mv_R r), some (mv_I 0), some (mv_I (k : Int)), some (mv_I (((f k) - 0) - c))]) d_wh_subtract_62 rfl rfl (by decide) rfl ?_
        refine go_iinc (q := 66) (L' := [some (mv_R p), some (mv_R r), some (mv_I 0), some (mv_I ((k : Int) + 1)), some (mv_I (((f k) - 0) - c))]) d_wh_subtract_63 rfl (by decide) rfl rfl ?_
        refine go_goto (q := 4) d_wh_subtract_66 (by decide) ?_
        refine go_fg 4 (L' := [some (mv_R p), some (mv_R r), some (mv_I 0), some (mv_I ((k : Int) + 1)), none]) rfl ?_
        exact k1 c1 c3 c8 _ hm_6 hm_7 (fun z_ g0 => (fr_5 z_ (by omega)))
      ·
        refine go_iconst (q := 58) d_wh_subtract_57 rfl ?_
        refine go_goto (q := 62) d_wh_subtract_58 (by decide) ?_
        refine go_istore_n (q := 63) (L' := [some (mv_R p), some (mv_R r), some (mv_I 1), some (mv_I (k : Int)), some (mv_I (((f k) - 0) - c))]) d_wh_subtract_62 rfl rfl (by decide) rfl ?_
        refine go_iinc (q := 66) (L' := [some (mv_R p), some (mv_R r), some (mv_I 1), some (mv_I ((k : Int) + 1)), some (mv_I (((f k) - 0) - c))]) d_wh_subtract_63 rfl (by decide) rfl rfl ?_
        refine go_goto (q := 4) d_wh_subtract_66 (by decide) ?_
        refine go_fg 4 (L' := [some (mv_R p), some (mv_R r), some (mv_I 1), some (mv_I ((k : Int) + 1)), none]) rfl ?_
        exact k2 c1 c3 c8 _ hm_6 hm_7 (fun z_ g0 => (fr_5 z_ (by omega)))
    ·
      refine go_aload_n (q := 27) d_wh_subtract_26 rfl rfl rfl ?_
      refine go_getf (q := 30) f_wh_9 d_wh_subtract_27 rfl (WO_c0 hm_r) rfl ?_
      refine go_iload_n (q := 31) d_wh_subtract_30 rfl rfl rfl ?_
      refine go_iald (i := k) (q := 32) d_wh_subtract_31 rfl (WO_c1 hm_r) (by omega) (by omega) (by omega) ?_
      have q_9 := hg k
      refine go_goto (q := 36) d_wh_subtract_32 (by decide) ?_
      refine go_isub (q := 37) d_wh_subtract_36 rfl ?_
      refine go_iload_n (q := 38) d_wh_subtract_37 rfl rfl rfl ?_
      refine go_isub (q := 39) d_wh_subtract_38 rfl ?_
      refine go_istore (q := 41) (L' := [some (mv_R p), some (mv_R r), some (mv_I c), some (mv_I (k : Int)), some (mv_I (((f k) - (g k)) - c))]) d_wh_subtract_39 rfl (by decide) rfl ?_
      refine go_aload_n (q := 42) d_wh_subtract_41 rfl rfl rfl ?_
      refine go_getf (q := 45) f_wh_9 d_wh_subtract_42 rfl (WO_c0 hm_p) rfl ?_
      refine go_iload_n (q := 46) d_wh_subtract_45 rfl rfl rfl ?_
      refine go_iload (q := 48) d_wh_subtract_46 rfl rfl ?_
      refine go_ldc (z := 1073741823) (q := 50) d_wh_subtract_48 rfl tw_3_66 (by decide) ?_
      refine go_iand (z := (((f k) - (g k)) - c) % 1073741824) (q := 51) d_wh_subtract_50 rfl (gn_mask 30 (by decide) (by decide) (by decide)) ?_
      refine go_iast (i := k) (q := 52) d_wh_subtract_51 rfl (WO_c1 hm_p) (by omega) (by omega) (by omega) ?_
      have hm_12 := WO_u1 hm_p (va_up f k ((((f k) - (g k)) - c) % 1073741824))
      have fr_11 : ∀ z_, z_ ≠ (p + 1) → va_up h (p + 1) (mv_A 0 N (va_up f k ((((f k) - (g k)) - c) % 1073741824))) z_ = h z_ := fun z_ hj => va_up_ne _ _ hj
      generalize va_up h (p + 1) (mv_A 0 N (va_up f k ((((f k) - (g k)) - c) % 1073741824))) = h_10 at hm_12 fr_11 ⊢
      have hm_13 := WO_k hm_r (h' := h_10) (fun z_ ha hb => fr_11 z_ (by omega))
      refine go_iload (q := 54) d_wh_subtract_52 rfl rfl ?_
      refine go_if_ge (t := 61) (q := 57) d_wh_subtract_54 (by decide) rfl (by omega) (fun c14 => ?_) (fun c14 => ?_)
      ·
        refine go_iconst (q := 62) d_wh_subtract_61 rfl ?_
        refine go_istore_n (q := 63) (L' := [some (mv_R p), some (mv_R r), some (mv_I 0), some (mv_I (k : Int)), some (mv_I (((f k) - (g k)) - c))]) d_wh_subtract_62 rfl rfl (by decide) rfl ?_
        refine go_iinc (q := 66) (L' := [some (mv_R p), some (mv_R r), some (mv_I 0), some (mv_I ((k : Int) + 1)), some (mv_I (((f k) - (g k)) - c))]) d_wh_subtract_63 rfl (by decide) rfl rfl ?_
        refine go_goto (q := 4) d_wh_subtract_66 (by decide) ?_
        refine go_fg 4 (L' := [some (mv_R p), some (mv_R r), some (mv_I 0), some (mv_I ((k : Int) + 1)), none]) rfl ?_
        exact k3 c1 c3 c14 _ hm_12 hm_13 (fun z_ g0 => (fr_11 z_ (by omega)))
      ·
        refine go_iconst (q := 58) d_wh_subtract_57 rfl ?_
        refine go_goto (q := 62) d_wh_subtract_58 (by decide) ?_
        refine go_istore_n (q := 63) (L' := [some (mv_R p), some (mv_R r), some (mv_I 1), some (mv_I (k : Int)), some (mv_I (((f k) - (g k)) - c))]) d_wh_subtract_62 rfl rfl (by decide) rfl ?_
        refine go_iinc (q := 66) (L' := [some (mv_R p), some (mv_R r), some (mv_I 1), some (mv_I ((k : Int) + 1)), some (mv_I (((f k) - (g k)) - c))]) d_wh_subtract_63 rfl (by decide) rfl rfl ?_
        refine go_goto (q := 4) d_wh_subtract_66 (by decide) ?_
        refine go_fg 4 (L' := [some (mv_R p), some (mv_R r), some (mv_I 1), some (mv_I ((k : Int) + 1)), none]) rfl ?_
        exact k4 c1 c3 c14 _ hm_12 hm_13 (fun z_ g0 => (fr_11 z_ (by omega)))

set_option maxRecDepth 4000 in
theorem sc_sub_69 {φ : go_F} {l : Launch} {R : Room} {u : Nat × Nat} {h : mv_H} {n : Nat} {p r N K : Nat} {f g : Nat → Int} {s t : Int} {c : Int} {k : Nat} (hm_p : WO h p N f s) (hm_r : WO h r K g t) 
    (k0 : Go φ l m_wh_subtract R u 74 [some (mv_R p), some (mv_R r), some (mv_I c), some (mv_I (k : Int)), none] [mv_I s, mv_R p] h n) :
    Go φ l m_wh_subtract R u 69 [some (mv_R p), some (mv_R r), some (mv_I c), some (mv_I (k : Int)), none] [] h n := by
  refine go_aload_n (q := 70) d_wh_subtract_69 rfl rfl rfl ?_
  refine go_aload_n (q := 71) d_wh_subtract_70 rfl rfl rfl ?_
  refine go_getf (q := 74) f_wh_15 d_wh_subtract_71 rfl (WO_c0 hm_p) rfl ?_
  exact k0 

set_option maxRecDepth 4000 in
theorem sc_tp_0 {φ : go_F} {l : Launch} {R : Room} {u : Nat × Nat} {h : mv_H} {n : Nat} {p N : Nat} {f : Nat → Int} {s : Int} {x y : Int} (hm_p : WO h p N f s) (hy : 0 ≤ y ∧ y ≤ 1073741823)
    (k0 : Go φ l m_wh_timesPlus R u 6 [some (mv_R p), some (mv_I x), some (mv_I y), some (mv_L y), none, some (mv_I 0), none, none] [] h n) :
    Go φ l m_wh_timesPlus R u 0 [some (mv_R p), some (mv_I x), some (mv_I y), none, none, none, none, none] [] h n := by
  refine go_iload_n (q := 1) d_wh_timesPlus_0 rfl rfl rfl ?_
  refine go_i2l (q := 2) d_wh_timesPlus_1 rfl (by omega) ?_
  refine go_lstore_n (q := 3) (L' := [some (mv_R p), some (mv_I x), some (mv_I y), some (mv_L y), none, none, none, none]) d_wh_timesPlus_2 rfl rfl (by decide) rfl ?_
  refine go_iconst (q := 4) d_wh_timesPlus_3 rfl ?_
  refine go_istore (q := 6) (L' := [some (mv_R p), some (mv_I x), some (mv_I y), some (mv_L y), none, some (mv_I 0), none, none]) d_wh_timesPlus_4 rfl (by decide) rfl ?_
  exact k0 

set_option maxRecDepth 4000 in
theorem sc_tp_6 {φ : go_F} {l : Launch} {R : Room} {u : Nat × Nat} {h : mv_H} {n : Nat} {p N : Nat} {f : Nat → Int} {s : Int} {x y c : Int} {k : Nat} (hm_p : WO h p N f s) (hs : 0 ≤ s ∧ s ≤ N) (hN : N < 100) (hf : ∀ j, 0 ≤ f j ∧ f j ≤ 1073741823) (hx : 0 ≤ x ∧ x ≤ 1073741824) (hc : 0 ≤ c ∧ c ≤ 1073741824) (hk : k ≤ N)
    (k0 : s ≤ (k : Int) → Go φ l m_wh_timesPlus R u 56 [some (mv_R p), some (mv_I x), some (mv_I y), some (mv_L c), none, some (mv_I (k : Int)), none, none] [] h n)
    (k1 : ¬ s ≤ (k : Int) → ∀ h' : mv_H, WO h' p N (va_up f k ((((f k) * x) + c) % 1073741824)) s → (∀ z_, (z_ < p ∨ p + 2 ≤ z_) → h' z_ = h z_) → Go φ l m_wh_timesPlus R u 6 [some (mv_R p), some (mv_I x), some (mv_I y), some (mv_L ((((f k) * x) + c) / 1073741824)), none, some (mv_I ((k : Int) + 1)), none, none] [] h' n) :
    Go φ l m_wh_timesPlus R u 6 [some (mv_R p), some (mv_I x), some (mv_I y), some (mv_L c), none, some (mv_I (k : Int)), none, none] [] h n := by
  refine go_iload (q := 8) d_wh_timesPlus_6 rfl rfl ?_
  refine go_aload_n (q := 9) d_wh_timesPlus_8 rfl rfl rfl ?_
  refine go_getf (q := 12) f_wh_15 d_wh_timesPlus_9 rfl (WO_c0 hm_p) rfl ?_
  refine go_icmp_ge (t := 56) (q := 15) d_wh_timesPlus_12 (by decide) rfl (by omega) (by omega) (fun c1 => ?_) (fun c1 => ?_)
  ·
    exact k0 c1
  ·
    refine go_aload_n (q := 16) d_wh_timesPlus_15 rfl rfl rfl ?_
    refine go_getf (q := 19) f_wh_9 d_wh_timesPlus_16 rfl (WO_c0 hm_p) rfl ?_
    refine go_iload (q := 21) d_wh_timesPlus_19 rfl rfl ?_
    refine go_iald (i := k) (q := 22) d_wh_timesPlus_21 rfl (WO_c1 hm_p) (by omega) (by omega) (by omega) ?_
    have q_2 := hf k
    refine go_i2l (q := 23) d_wh_timesPlus_22 rfl (by omega) ?_
    have hp_ := gn_mulx (hf k) hx
    refine go_iload_n (q := 24) d_wh_timesPlus_23 rfl rfl rfl ?_
    refine go_i2l (q := 25) d_wh_timesPlus_24 rfl (by omega) ?_
    refine go_lmul (q := 26) d_wh_timesPlus_25 rfl ?_
    refine go_lload_n (q := 27) d_wh_timesPlus_26 rfl rfl rfl ?_
    refine go_ladd (q := 28) d_wh_timesPlus_27 rfl ?_
    refine go_lstore (q := 30) (L' := [some (mv_R p), some (mv_I x), some (mv_I y), some (mv_L c), none, some (mv_I (k : Int)), some (mv_L (((f k) * x) + c)), none]) d_wh_timesPlus_28 rfl (by decide) rfl ?_
    refine go_aload_n (q := 31) d_wh_timesPlus_30 rfl rfl rfl ?_
    refine go_getf (q := 34) f_wh_9 d_wh_timesPlus_31 rfl (WO_c0 hm_p) rfl ?_
    refine go_iload (q := 36) d_wh_timesPlus_34 rfl rfl ?_
    refine go_lload (q := 38) d_wh_timesPlus_36 rfl rfl ?_
    refine go_ldc2 (z := 1073741823) (q := 41) d_wh_timesPlus_38 rfl tw_3_85 (by decide) ?_
    refine go_land (z := (((f k) * x) + c) % 1073741824) (q := 42) d_wh_timesPlus_41 rfl (gn_maskL 30 (by decide) (by decide) (by decide) (by omega)) ?_
    refine go_l2i (q := 43) d_wh_timesPlus_42 rfl ?_
    refine go_iast (i := k) (q := 44) d_wh_timesPlus_43 rfl (WO_c1 hm_p) (by omega) (by omega) (by omega) ?_
    have hm_5 := WO_u1 hm_p (va_up f k ((((f k) * x) + c) % 1073741824))
    have fr_4 : ∀ z_, z_ ≠ (p + 1) → va_up h (p + 1) (mv_A 0 N (va_up f k ((((f k) * x) + c) % 1073741824))) z_ = h z_ := fun z_ hj => va_up_ne _ _ hj
    generalize va_up h (p + 1) (mv_A 0 N (va_up f k ((((f k) * x) + c) % 1073741824))) = h_3 at hm_5 fr_4 ⊢
    refine go_lload (q := 46) d_wh_timesPlus_44 rfl rfl ?_
    refine go_bipush (q := 48) d_wh_timesPlus_46 rfl (by decide) ?_
    refine go_lushr (z := (((f k) * x) + c) / 1073741824) (q := 49) d_wh_timesPlus_48 rfl (gn_ushrL 30 (by decide) rfl (by decide) (by omega)) ?_
    refine go_lstore_n (q := 50) (L' := [some (mv_R p), some (mv_I x), some (mv_I y), some (mv_L ((((f k) * x) + c) / 1073741824)), none, some (mv_I (k : Int)), some (mv_L (((f k) * x) + c)), none]) d_wh_timesPlus_49 rfl rfl (by decide) rfl ?_
    refine go_iinc (q := 53) (L' := [some (mv_R p), some (mv_I x), some (mv_I y), some (mv_L ((((f k) * x) + c) / 1073741824)), none, some (mv_I ((k : Int) + 1)), some (mv_L (((f k) * x) + c)), none]) d_wh_timesPlus_50 rfl (by decide) rfl rfl ?_
    refine go_goto (q := 6) d_wh_timesPlus_53 (by decide) ?_
    refine go_fg 6 (L' := [some (mv_R p), some (mv_I x), some (mv_I y), some (mv_L ((((f k) * x) + c) / 1073741824)), none, some (mv_I ((k : Int) + 1)), none, none]) rfl ?_
    exact k1 c1 _ hm_5 (fun z_ g0 => (fr_4 z_ (by omega)))

set_option maxRecDepth 4000 in
theorem sc_tp_56 {φ : go_F} {l : Launch} {R : Room} {u : Nat × Nat} {h : mv_H} {n : Nat} {p N : Nat} {f : Nat → Int} {s : Int} {x y c : Int} {k : Nat} (hm_p : WO h p N f s) (hN : N < 100) (hs : 0 ≤ s ∧ (0 < c → s < N)) (hc : 0 ≤ c ∧ c ≤ 1073741824)
    (k0 : (if 0 < c then 1 else if c = 0 then 0 else -1) = 0 → Go φ l m_wh_timesPlus R u 83 [some (mv_R p), some (mv_I x), some (mv_I y), some (mv_L c), none, some (mv_I (k : Int)), none, none] [] h n)
    (k1 : ¬ (if 0 < c then 1 else if c = 0 then 0 else -1) = 0 → ∀ h' : mv_H, WO h' p N (va_up f s.toNat c) (s + 1) → (∀ z_, (z_ < p ∨ p + 2 ≤ z_) → h' z_ = h z_) → Go φ l m_wh_timesPlus R u 83 [some (mv_R p), some (mv_I x), some (mv_I y), some (mv_L c), none, some (mv_I (k : Int)), none, none] [] h' n) :
    Go φ l m_wh_timesPlus R u 56 [some (mv_R p), some (mv_I x), some (mv_I y), some (mv_L c), none, some (mv_I (k : Int)), none, none] [] h n := by
  refine go_lload_n (q := 57) d_wh_timesPlus_56 rfl rfl rfl ?_
  refine go_lconst (z := 0) (q := 58) d_wh_timesPlus_57 rfl (by decide) ?_
  refine go_lcmp (q := 59) d_wh_timesPlus_58 rfl (by omega) (by omega) ?_
  refine go_if_eq (t := 83) (q := 62) d_wh_timesPlus_59 (by decide) rfl (by omega) (fun c1 => ?_) (fun c1 => ?_)
  ·
    exact k0 c1
  ·
    refine go_aload_n (q := 63) d_wh_timesPlus_62 rfl rfl rfl ?_
    refine go_getf (q := 66) f_wh_9 d_wh_timesPlus_63 rfl (WO_c0 hm_p) rfl ?_
    refine go_aload_n (q := 67) d_wh_timesPlus_66 rfl rfl rfl ?_
    refine go_getf (q := 70) f_wh_15 d_wh_timesPlus_67 rfl (WO_c0 hm_p) rfl ?_
    refine go_lload_n (q := 71) d_wh_timesPlus_70 rfl rfl rfl ?_
    refine go_l2i (q := 72) d_wh_timesPlus_71 rfl ?_
    refine go_iast (i := s.toNat) (q := 73) d_wh_timesPlus_72 rfl (WO_c1 hm_p) (by omega) (by omega) (by omega) ?_
    have hm_4 := WO_u1 hm_p (va_up f s.toNat c)
    have fr_3 : ∀ z_, z_ ≠ (p + 1) → va_up h (p + 1) (mv_A 0 N (va_up f s.toNat c)) z_ = h z_ := fun z_ hj => va_up_ne _ _ hj
    generalize va_up h (p + 1) (mv_A 0 N (va_up f s.toNat c)) = h_2 at hm_4 fr_3 ⊢
    refine go_aload_n (q := 74) d_wh_timesPlus_73 rfl rfl rfl ?_
    refine go_dup (q := 75) d_wh_timesPlus_74 rfl rfl ?_
    refine go_getf (q := 78) f_wh_15 d_wh_timesPlus_75 rfl (WO_c0 hm_4) rfl ?_
    refine go_iconst (q := 79) d_wh_timesPlus_78 rfl ?_
    refine go_iadd (q := 80) d_wh_timesPlus_79 rfl ?_
    refine go_putf (q := 83) (v := mv_I (s + 1)) f_wh_15 d_wh_timesPlus_80 rfl (WO_c0 hm_4) (Nat.le_of_ble_eq_true rfl) (go_fitI _) ?_
    refine go_eq (h' := va_up h_2 p (mv_O 5 [mv_R (p + 1), mv_I (s + 1)])) ?_
    have hm_7 := WO_u0 hm_4 (s + 1)
    have fr_6 : ∀ z_, z_ ≠ p → va_up h_2 p (mv_O 5 [mv_R (p + 1), mv_I (s + 1)]) z_ = h_2 z_ := fun z_ hj => va_up_ne _ _ hj
    generalize va_up h_2 p (mv_O 5 [mv_R (p + 1), mv_I (s + 1)]) = h_5 at hm_7 fr_6 ⊢
    exact k1 c1 _ hm_7 (fun z_ g0 => ((fr_6 z_ (by omega)).trans (fr_3 z_ (by omega))))

set_option maxRecDepth 4000 in
theorem sc_db_0 {φ : go_F} {l : Launch} {R : Room} {u : Nat × Nat} {h : mv_H} {n : Nat} {p N : Nat} {f : Nat → Int} {s : Int} {y : Int} (hm_p : WO h p N f s) 
    (k0 : Go φ l m_wh_divideBy R u 10 [some (mv_R p), some (mv_I y), some (mv_L 0), none, some (mv_I (s - 1)), none, none] [] h n) :
    Go φ l m_wh_divideBy R u 0 [some (mv_R p), some (mv_I y), none, none, none, none, none] [] h n := by
  refine go_lconst (z := 0) (q := 1) d_wh_divideBy_0 rfl (by decide) ?_
  refine go_lstore_n (q := 2) (L' := [some (mv_R p), some (mv_I y), some (mv_L 0), none, none, none, none]) d_wh_divideBy_1 rfl rfl (by decide) rfl ?_
  refine go_aload_n (q := 3) d_wh_divideBy_2 rfl rfl rfl ?_
  refine go_getf (q := 6) f_wh_15 d_wh_divideBy_3 rfl (WO_c0 hm_p) rfl ?_
  refine go_iconst (q := 7) d_wh_divideBy_6 rfl ?_
  refine go_isub (q := 8) d_wh_divideBy_7 rfl ?_
  refine go_istore (q := 10) (L' := [some (mv_R p), some (mv_I y), some (mv_L 0), none, some (mv_I (s - 1)), none, none]) d_wh_divideBy_8 rfl (by decide) rfl ?_
  exact k0 

set_option maxRecDepth 4000 in
theorem sc_db_10 {φ : go_F} {l : Launch} {R : Room} {u : Nat × Nat} {h : mv_H} {n : Nat} {p N : Nat} {f : Nat → Int} {s : Int} {y e k : Int} (hm_p : WO h p N f s) (hs : 0 ≤ s ∧ s ≤ N) (hN : N < 100) (hf : ∀ j, 0 ≤ f j ∧ f j ≤ 1073741823) (hy : 0 < y ∧ y ≤ 1073741824) (he : 0 ≤ e ∧ e < y) (hk : -1 ≤ k ∧ k < N)
    (k0 : k < 0 → Go φ l m_wh_divideBy R u 55 [some (mv_R p), some (mv_I y), some (mv_L e), none, some (mv_I k), none, none] [] h n)
    (k1 : ¬ k < 0 → ∀ h' : mv_H, WO h' p N (va_up f k.toNat ((e * 1073741824 + f k.toNat) / y)) s → (∀ z_, (z_ < p ∨ p + 2 ≤ z_) → h' z_ = h z_) → Go φ l m_wh_divideBy R u 10 [some (mv_R p), some (mv_I y), some (mv_L ((e * 1073741824 + f k.toNat) % y)), none, some (mv_I (k + (-1))), none, none] [] h' n) :
    Go φ l m_wh_divideBy R u 10 [some (mv_R p), some (mv_I y), some (mv_L e), none, some (mv_I k), none, none] [] h n := by
  refine go_iload (q := 12) d_wh_divideBy_10 rfl rfl ?_
  refine go_if_lt (t := 55) (q := 15) d_wh_divideBy_12 (by decide) rfl (by omega) (fun c1 => ?_) (fun c1 => ?_)
  ·
    exact k0 c1
  ·
    refine go_lload_n (q := 16) d_wh_divideBy_15 rfl rfl rfl ?_
    refine go_bipush (q := 18) d_wh_divideBy_16 rfl (by decide) ?_
    refine go_lshl (z := e * 1073741824) (q := 19) d_wh_divideBy_18 rfl (gn_shlL 30 (by decide) rfl (by decide) (by omega)) ?_
    refine go_aload_n (q := 20) d_wh_divideBy_19 rfl rfl rfl ?_
    refine go_getf (q := 23) f_wh_9 d_wh_divideBy_20 rfl (WO_c0 hm_p) rfl ?_
    refine go_iload (q := 25) d_wh_divideBy_23 rfl rfl ?_
    refine go_iald (i := k.toNat) (q := 26) d_wh_divideBy_25 rfl (WO_c1 hm_p) (by omega) (by omega) (by omega) ?_
    have q_2 := hf k.toNat
    refine go_i2l (q := 27) d_wh_divideBy_26 rfl (by omega) ?_
    refine go_lor (z := e * 1073741824 + f k.toNat) (q := 28) d_wh_divideBy_27 rfl (gn_orL 30 (by decide) (by omega) he.1 rfl (by omega)) ?_
    refine go_lstore (q := 30) (L' := [some (mv_R p), some (mv_I y), some (mv_L e), none, some (mv_I k), some (mv_L (e * 1073741824 + f k.toNat)), none]) d_wh_divideBy_28 rfl (by decide) rfl ?_
    refine go_aload_n (q := 31) d_wh_divideBy_30 rfl rfl rfl ?_
    refine go_getf (q := 34) f_wh_9 d_wh_divideBy_31 rfl (WO_c0 hm_p) rfl ?_
    refine go_iload (q := 36) d_wh_divideBy_34 rfl rfl ?_
    refine go_lload (q := 38) d_wh_divideBy_36 rfl rfl ?_
    refine go_iload_n (q := 39) d_wh_divideBy_38 rfl rfl rfl ?_
    refine go_i2l (q := 40) d_wh_divideBy_39 rfl (by omega) ?_
    refine go_ldiv (z := (e * 1073741824 + f k.toNat) / y) (q := 41) d_wh_divideBy_40 rfl (gn_ne0L (by omega)) (gn_divL (by omega) (by omega)) ?_
    refine go_l2i (q := 42) d_wh_divideBy_41 rfl ?_
    refine go_iast (i := k.toNat) (q := 43) d_wh_divideBy_42 rfl (WO_c1 hm_p) (by omega) (by omega) (by omega) ?_
    have hm_5 := WO_u1 hm_p (va_up f k.toNat ((e * 1073741824 + f k.toNat) / y))
    have fr_4 : ∀ z_, z_ ≠ (p + 1) → va_up h (p + 1) (mv_A 0 N (va_up f k.toNat ((e * 1073741824 + f k.toNat) / y))) z_ = h z_ := fun z_ hj => va_up_ne _ _ hj
    generalize va_up h (p + 1) (mv_A 0 N (va_up f k.toNat ((e * 1073741824 + f k.toNat) / y))) = h_3 at hm_5 fr_4 ⊢
    refine go_lload (q := 45) d_wh_divideBy_43 rfl rfl ?_
    refine go_iload_n (q := 46) d_wh_divideBy_45 rfl rfl rfl ?_
    refine go_i2l (q := 47) d_wh_divideBy_46 rfl (by omega) ?_
    refine go_lrem (z := (e * 1073741824 + f k.toNat) % y) (q := 48) d_wh_divideBy_47 rfl (gn_ne0L (by omega)) (gn_remL (by omega) (by omega)) ?_
    refine go_lstore_n (q := 49) (L' := [some (mv_R p), some (mv_I y), some (mv_L ((e * 1073741824 + f k.toNat) % y)), none, some (mv_I k), some (mv_L (e * 1073741824 + f k.toNat)), none]) d_wh_divideBy_48 rfl rfl (by decide) rfl ?_
    refine go_iinc (q := 52) (L' := [some (mv_R p), some (mv_I y), some (mv_L ((e * 1073741824 + f k.toNat) % y)), none, some (mv_I (k + (-1))), some (mv_L (e * 1073741824 + f k.toNat)), none]) d_wh_divideBy_49 rfl (by decide) rfl rfl ?_
    refine go_goto (q := 10) d_wh_divideBy_52 (by decide) ?_
    refine go_fg 5 (L' := [some (mv_R p), some (mv_I y), some (mv_L ((e * 1073741824 + f k.toNat) % y)), none, some (mv_I (k + (-1))), none, none]) rfl ?_
    exact k1 c1 _ hm_5 (fun z_ g0 => (fr_4 z_ (by omega)))

set_option maxRecDepth 4000 in
theorem sc_db_55 {φ : go_F} {l : Launch} {R : Room} {u : Nat × Nat} {h : mv_H} {n : Nat} {p N : Nat} {f : Nat → Int} {s : Int} {y e k : Int} (hm_p : WO h p N f s) 
    (k0 : Go φ l m_wh_divideBy R u 60 [some (mv_R p), some (mv_I y), some (mv_L e), none, some (mv_I k), none, none] [mv_I s, mv_R p] h n) :
    Go φ l m_wh_divideBy R u 55 [some (mv_R p), some (mv_I y), some (mv_L e), none, some (mv_I k), none, none] [] h n := by
  refine go_aload_n (q := 56) d_wh_divideBy_55 rfl rfl rfl ?_
  refine go_aload_n (q := 57) d_wh_divideBy_56 rfl rfl rfl ?_
  refine go_getf (q := 60) f_wh_15 d_wh_divideBy_57 rfl (WO_c0 hm_p) rfl ?_
  exact k0 

set_option maxRecDepth 4000 in
theorem sc_db_63 {φ : go_F} {l : Launch} {R : Room} {u : Nat × Nat} {h : mv_H} {n : Nat} {p N : Nat} {f : Nat → Int} {s : Int} {y e k : Int} (hm_p : WO h p N f s) 
    (k0 : Go φ l m_wh_divideBy R u 65 [some (mv_R p), some (mv_I y), some (mv_L e), none, some (mv_I k), none, none] [mv_I e] h n) :
    Go φ l m_wh_divideBy R u 63 [some (mv_R p), some (mv_I y), some (mv_L e), none, some (mv_I k), none, none] [] h n := by
  refine go_lload_n (q := 64) d_wh_divideBy_63 rfl rfl rfl ?_
  refine go_l2i (q := 65) d_wh_divideBy_64 rfl ?_
  exact k0 

