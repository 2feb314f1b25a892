/-! the model's rows of digits: each row is a natural number -/
def mo_RW (D U : Nat → Int) (r v : Nat) : Prop := (∀ k : Nat, k < 40 → U r ≤ (k : Int) → D (40 * r + k) = 0) ∧ (0 < U r → D (40 * r + (U r).toNat - 1) ≠ 0) ∧ nv 10000 (fun k => (D (40 * r + k)).toNat) 40 = v
def mo_MN (D U : Nat → Int) (V : Nat → Nat) : Prop := (∀ j, 0 ≤ D j ∧ D j ≤ 9999) ∧ (∀ j, 0 ≤ U j ∧ U j ≤ 40) ∧ ∀ r, r < 160 → mo_RW D U r (V r)
def mo_V (h : mv_H) (o : Nat) (X : mo_X) (V : Nat → Nat) : Prop := ∃ D U, MD h o X D U ∧ mo_MN D U V
theorem mo_RW_lt {D U : Nat → Int} {r v : Nat} (hD : ∀ j, 0 ≤ D j ∧ D j ≤ 9999) (h : mo_RW D U r v) : v < 10000 ^ 40 := by
  rw [← h.2.2]
  exact nv_lt (fun k _ => by have := hD (40 * r + k); omega)
theorem mo_MN_up {D U D' U' : Nat → Int} {V : Nat → Nat} {r v : Nat} (hM : mo_MN D U V) (hd : ∀ j, 0 ≤ D' j ∧ D' j ≤ 9999) (hu : ∀ j, 0 ≤ U' j ∧ U' j ≤ 40) (ho : ∀ j, (j < 40 * r ∨ 40 * r + 40 ≤ j) → D' j = D j) (hu2 : ∀ i, i ≠ r → U' i = U i) (hR : mo_RW D' U' r v) : mo_MN D' U' (va_up V r v) := by
  refine ⟨hd, hu, fun i hi => ?_⟩
  by_cases hir : i = r
  · subst hir
    rw [va_up_self]
    exact hR
  · rw [va_up_ne _ _ hir]
    have hd' : ∀ k, k < 40 → D' (40 * i + k) = D (40 * i + k) := fun k hk => ho _ (by omega)
    obtain ⟨h1, h2, h3⟩ := hM.2.2 i hi
    have hU := hM.2.1 i
    refine ⟨fun k hk hk2 => ?_, fun h => ?_, ?_⟩
    · rw [hd' k hk]
      exact h1 k hk (by rw [← hu2 i hir]; exact hk2)
    · rw [hu2 i hir] at h ⊢
      rw [show 40 * i + (U i).toNat - 1 = 40 * i + ((U i).toNat - 1) by omega, hd' _ (by omega), ← show 40 * i + (U i).toNat - 1 = 40 * i + ((U i).toNat - 1) by omega]
      exact h2 h
    · rw [← h3]
      exact nv_congr fun k hk => by rw [hd' k hk]
section MoNum
variable {φ : go_F} {l : Launch} {R : Room} {u : Nat × Nat} {h : mv_H} {n o : Nat} {X : mo_X} {D U : Nat → Int} {V : Nat → Nat}
theorem lp_trim {r m : Nat} (hm : MD h o X D U) (hD : ∀ j, 0 ≤ D j ∧ D j ≤ 9999) (hr : r < 160) : ∀ (k : Nat), k ≤ 40 →
    (∀ k' : Nat, k' ≤ k → (∀ i, k' ≤ i → i < k → D (40 * r + i) = 0) → (0 < k' → D (40 * r + k' - 1) ≠ 0) → Go φ l m_mo_trim R u 29 [some (mv_R o), some (mv_I (r : Int)), some (mv_I (m : Int)), some (mv_I (k' : Int))] [] h n) →
    Go φ l m_mo_trim R u 2 [some (mv_R o), some (mv_I (r : Int)), some (mv_I (m : Int)), some (mv_I (k : Int))] [] h n
  | 0, hk, kx => sg_trim_2 hm hr hk hD (fun _ => kx 0 (Nat.le_refl _) (fun i _ h => absurd h (Nat.not_lt_zero i)) (fun h => absurd h (Nat.lt_irrefl 0))) (fun c => absurd (by omega) c) (fun c => absurd (by omega) c)
  | k + 1, hk, kx => by
    refine sg_trim_2 hm hr hk hD (fun c => absurd c (by omega)) (fun _ c => ?_) (fun _ c => ?_)
    · exact kx (k + 1) (Nat.le_refl _) (fun i a b => absurd b (by omega)) (fun _ => c)
    · have e : ((k + 1 : Nat) : Int) - 1 = (k : Int) := by omega
      rw [e]
      refine lp_trim hm hD hr k (by omega) (fun k' h1 h2 h3 => kx k' (by omega) (fun i a b => ?_) h3)
      by_cases hi : i = k
      · subst hi; exact c
      · exact h2 i a (by omega)
theorem tm_trim {r m : Nat} (hm : MD h o X D U) (hD : ∀ j, 0 ≤ D j ∧ D j ≤ 9999) (hr : r < 160) (hk : m ≤ 40) : Fn l m_mo_trim rd_mo_trim rw_mo_trim 0 0 [mv_R o, mv_I (r : Int), mv_I (m : Int)] h n
    (fun v h' n' => v = none ∧ n' = n ∧ ∃ k : Nat, k ≤ m ∧ (∀ i, k ≤ i → i < m → D (40 * r + i) = 0) ∧ (0 < k → D (40 * r + k - 1) ≠ 0) ∧ MD h' o X D (va_up U r (k : Int)) ∧ fr_ o 8 h h') := by
  refine fn_of rfl (Nat.le_of_ble_eq_true rfl) rfl ?_
  refine sg_trim_0 hm (lp_trim hm hD hr m hk fun k h1 h2 h3 => ?_)
  exact sg_trim_29 hm hr fun h' hm' hf => go_vret d_mo_trim_36 rfl go_le0 ⟨rfl, rfl, k, h1, h2, h3, hm', hf⟩
/-- behind a call of trim: the row r, of which every digit from m on is 0, is the number that its digits make -/
theorem mo_trimmed {V : Nat → Nat} {D0 U0 : Nat → Int} {r m v k : Nat} (hM : mo_MN D0 U0 V) (hD : ∀ j, 0 ≤ D j ∧ D j ≤ 9999) (hU : ∀ j, 0 ≤ U j ∧ U j ≤ 40) (ho : ∀ j, (j < 40 * r ∨ 40 * r + 40 ≤ j) → D j = D0 j) (hu2 : ∀ i, i ≠ r → U i = U0 i) (hm : m ≤ 40) (hz : ∀ i, m ≤ i → i < 40 → D (40 * r + i) = 0) (h1 : k ≤ m) (h2 : ∀ i, k ≤ i → i < m → D (40 * r + i) = 0) (h3 : 0 < k → D (40 * r + k - 1) ≠ 0) (hv : nv 10000 (fun k => (D (40 * r + k)).toNat) 40 = v) : mo_MN D (va_up U r (k : Int)) (va_up V r v) := by
  refine mo_MN_up hM hD (fun j => ?_) ho (fun i hi => by rw [va_up_ne _ _ hi]; exact hu2 i hi) ⟨fun i hi hi2 => ?_, fun hp => ?_, hv⟩
  · by_cases hj : j = r
    · subst hj; rw [va_up_self]; omega
    · rw [va_up_ne _ _ hj]; exact hU j
  · rw [va_up_self] at hi2
    by_cases him : i < m
    · exact h2 i (by omega) him
    · exact hz i (by omega) hi
  · rw [va_up_self] at hp ⊢
    rw [Int.toNat_natCast]
    exact h3 (by omega)
theorem lp_set {r : Nat} {v : Int} (hr : r < 160) : ∀ (j k : Nat), k + j = 40 → ∀ {h : mv_H} {D : Nat → Int}, MD h o X D U →
    (∀ (h' : mv_H) (D' : Nat → Int), MD h' o X D' U → fr_ o 8 h h' → (∀ i, D' i = if 40 * r + k ≤ i ∧ i < 40 * r + 40 then 0 else D i) → Go φ l m_mo_set R u 36 [some (mv_R o), some (mv_I (r : Int)), some (mv_I v), some (mv_I ((40 : Nat) : Int))] [] h' n) →
    Go φ l m_mo_set R u 12 [some (mv_R o), some (mv_I (r : Int)), some (mv_I v), some (mv_I (k : Int))] [] h n
  | 0, k, hk, h, D, hm, kx => sg_set_12 hm hr (by omega) (fun _ => by
      have hk' : k = 40 := by omega
      subst hk'
      exact kx h D hm fr_.rf (fun i => by rw [if_neg (by omega)])) (fun c => absurd (by omega) c)
  | j + 1, k, hk, h, D, hm, kx => sg_set_12 hm hr (by omega) (fun c => absurd c (by omega)) (fun _ h' hm' hf => lp_set hr j (k + 1) (by omega) hm' (fun h'' D' hm'' hf' hi => kx h'' D' hm'' (fr_.tr hf hf') (fun i => by
      rw [hi i]
      unfold va_up
      by_cases e1 : i = 40 * r + k
      · rw [if_neg (by omega), if_pos e1, if_pos (by omega)]
      · by_cases e2 : 40 * r + k ≤ i ∧ i < 40 * r + 40
        · rw [if_pos (by omega), if_pos e2]
        · rw [if_neg (by omega), if_neg e1, if_neg e2])))
theorem tm_set {r v : Nat} (hV : mo_V h o X V) (hr : r < 160) (hv : v ≤ 9999) : Fn l m_mo_set rd_mo_set rw_mo_set 0 0 [mv_R o, mv_I (r : Int), mv_I (v : Int)] h n
    (fun w h' n' => w = none ∧ n' = n ∧ mo_V h' o X (va_up V r v) ∧ fr_ o 8 h h') := by
  obtain ⟨D, U, hm, hM⟩ := hV
  refine fn_of rfl (Nat.le_of_ble_eq_true rfl) rfl ?_
  refine sg_set_0 hm hr fun h1 hm1 hf1 => lp_set hr 39 1 (by omega) hm1 fun h2 D2 hm2 hf2 hi => ?_
  have hd : ∀ j, D2 j = if j = 40 * r then (v : Int) else if 40 * r ≤ j ∧ j < 40 * r + 40 then 0 else D j := by
    intro j
    rw [hi j]
    unfold va_up
    by_cases e1 : j = 40 * r
    · rw [if_neg (by omega), if_pos e1, if_pos e1]
    · by_cases e2 : 40 * r ≤ j ∧ j < 40 * r + 40
      · rw [if_pos (by omega), if_neg e1, if_pos e2]
      · rw [if_neg (by omega), if_neg e1, if_neg e1, if_neg e2]
  have hdg : ∀ j, 0 ≤ D2 j ∧ D2 j ≤ 9999 := by
    intro j
    have := hM.1 j
    rw [hd j]
    split
    · omega
    · split
      · omega
      · exact this
  have hz : ∀ i, 1 ≤ i → i < 40 → D2 (40 * r + i) = 0 := fun i a b => by rw [hd, if_neg (by omega), if_pos (by omega)]
  have h0 : D2 (40 * r) = (v : Int) := by rw [hd, if_pos rfl]
  have hnv : nv 10000 (fun k => (D2 (40 * r + k)).toNat) 40 = v := by
    rw [nv_ext (m := 1) (by omega) (fun k a b => by show (D2 (40 * r + k)).toNat = 0; rw [hz k a b]; rfl)]
    show 0 + (D2 (40 * r + 0)).toNat * 10000 ^ 0 = v
    rw [Nat.add_zero, h0]
    simp
  have key : ∀ (x : Nat), (x = 1 ∧ ¬ (v : Int) = 0) ∨ (x = 0 ∧ (v : Int) = 0) → mo_MN D2 (va_up U r (x : Int)) (va_up V r v) := fun x hx =>
    mo_trimmed (m := 1) hM hdg hM.2.1 (fun j hj => by rw [hd, if_neg (by omega), if_neg (by omega)]) (fun _ _ => rfl) (by omega) hz (by omega) (fun i a b => by
      have : i = 0 := by omega
      subst this
      rw [Nat.add_zero, h0]
      omega) (fun hp => by
      have : x = 1 := by omega
      subst this
      rw [Nat.add_sub_cancel, h0]
      omega) hnv
  exact sg_set_36 hm2 hr (by omega) (fun c h3 hm3 hf3 => go_vret d_mo_set_51 rfl go_le0 ⟨rfl, rfl, ⟨_, _, hm3, key 1 (Or.inl ⟨rfl, c⟩)⟩, fr_.tr hf1 (fr_.tr hf2 hf3)⟩)
    (fun c h3 hm3 hf3 => go_vret d_mo_set_51 rfl go_le0 ⟨rfl, rfl, ⟨_, _, hm3, key 0 (Or.inr ⟨rfl, c⟩)⟩, fr_.tr hf1 (fr_.tr hf2 hf3)⟩)
end MoNum
