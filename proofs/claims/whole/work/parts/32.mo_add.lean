/-! the model's rows: copy, compare, addTo, takeOff -/
theorem nv_1 {B : Nat} {f g r : Nat → Nat} {k c : Nat} (h : nv B r k + c * B ^ k = nv B f k + nv B g k) : nv B r k + c * B ^ k = nv B f k + nv B g k := h
section MoAdd
variable {φ : go_F} {l : Launch} {R : Room} {u : Nat × Nat} {h : mv_H} {n o : Nat} {X : mo_X} {D U : Nat → Int} {V : Nat → Nat}
theorem lp_copy {a b : Nat} (ha : a < 160) (hb : b < 160) : ∀ (j k : Nat), k + j = 40 → ∀ {h : mv_H} {D : Nat → Int}, MD h o X D U →
    (∀ (h' : mv_H) (D' : Nat → Int), MD h' o X D' U → fr_ o 8 h h' → (∀ i, D' i = if 40 * b + k ≤ i ∧ i < 40 * b + 40 then D (40 * a + (i - 40 * b)) else D i) → Go φ l m_mo_copy R u 36 [some (mv_R o), some (mv_I (a : Int)), some (mv_I (b : Int)), some (mv_I ((40 : Nat) : Int))] [] h' n) →
    Go φ l m_mo_copy R u 2 [some (mv_R o), some (mv_I (a : Int)), some (mv_I (b : Int)), some (mv_I (k : Int))] [] h n
  | 0, k, hk, h, D, hm, kx => sg_copy_2 hm ha hb (by omega) (fun _ => by
      have hk' : k = 40 := by omega
      subst hk'
      exact kx h D hm fr_.rf (fun i => by rw [if_neg (by omega)])) (fun c => absurd (by omega) c)
  | j + 1, k, hk, h, D, hm, kx => sg_copy_2 hm ha hb (by omega) (fun c => absurd c (by omega)) (fun _ h' hm' hf => lp_copy ha hb j (k + 1) (by omega) hm' (fun h'' D' hm'' hf' hi => kx h'' D' hm'' (fr_.tr hf hf') (fun i => by
      rw [hi i]
      unfold va_up
      by_cases e1 : i = 40 * b + k
      · rw [if_neg (by omega), if_pos e1, if_pos (by omega)]
        congr 1
        omega
      · by_cases e2 : 40 * b + k ≤ i ∧ i < 40 * b + 40
        · rw [if_pos (by omega), if_pos e2]
          by_cases e3 : 40 * a + (i - 40 * b) = 40 * b + k
          · exfalso; omega
          · rw [if_neg e3]
        · rw [if_neg (by omega), if_neg e1, if_neg e2])))
theorem tm_copy {a b : Nat} (hV : mo_V h o X V) (ha : a < 160) (hb : b < 160) : Fn l m_mo_copy rd_mo_copy rw_mo_copy 0 0 [mv_R o, mv_I (a : Int), mv_I (b : Int)] h n
    (fun w h' n' => w = none ∧ n' = n ∧ mo_V h' o X (va_up V b (V a)) ∧ fr_ o 8 h h') := by
  obtain ⟨D, U, hm, hM⟩ := hV
  refine fn_of rfl (Nat.le_of_ble_eq_true rfl) rfl ?_
  refine sg_copy_0 hm (lp_copy ha hb 40 0 (by omega) hm fun h2 D2 hm2 hf2 hi => ?_)
  have hrow : ∀ k, k < 40 → D2 (40 * b + k) = D (40 * a + k) := fun k hk => by
    rw [hi, if_pos (by omega)]
    congr 1
    omega
  obtain ⟨h1, h2', h3⟩ := hM.2.2 a ha
  have hUa := hM.2.1 a
  refine sg_copy_36 hm2 ha hb fun h3' hm3 hf3 => go_vret d_mo_copy_48 rfl go_le0 ⟨rfl, rfl, ⟨_, _, hm3, mo_MN_up hM (fun j => ?_) (fun j => ?_) (fun j hj => ?_) (fun i hib => va_up_ne _ _ hib) ⟨fun k hk hk2 => ?_, fun hp => ?_, ?_⟩⟩, fr_.tr hf2 hf3⟩
  · rw [hi j]
    split
    · exact hM.1 _
    · exact hM.1 _
  · unfold va_up
    split
    · exact hM.2.1 _
    · exact hM.2.1 _
  · rw [hi j, if_neg (by omega)]
  · rw [va_up_self] at hk2
    rw [hrow k hk]
    exact h1 k hk hk2
  · rw [va_up_self] at hp ⊢
    rw [show 40 * b + (U a).toNat - 1 = 40 * b + ((U a).toNat - 1) by omega, hrow _ (by omega), ← show 40 * a + (U a).toNat - 1 = 40 * a + ((U a).toNat - 1) by omega]
    exact h2' hp
  · rw [← h3]
    exact nv_congr fun k hk => by rw [hrow k hk]
/-- adding: what holds behind k digits, c the carry -/
def ad_I (D0 D : Nat → Int) (a b k : Nat) (c : Int) : Prop := (∀ j, 0 ≤ D j ∧ D j ≤ 9999) ∧ (0 ≤ c ∧ c ≤ 1) ∧ (∀ i, (i < 40 * a ∨ 40 * a + k ≤ i) → D i = D0 i) ∧
  nv 10000 (fun i => (D (40 * a + i)).toNat) k + c.toNat * 10000 ^ k = nv 10000 (fun i => (D0 (40 * a + i)).toNat) k + nv 10000 (fun i => (D0 (40 * b + i)).toNat) k
theorem ad_step {D0 D : Nat → Int} {a b k : Nat} {c : Int} (h : ad_I D0 D a b k c) (hk : k < 40) : ad_I D0 (va_up D (40 * a + k) ((D (40 * a + k) + D (40 * b + k) + c) % 10000)) a b (k + 1) ((D (40 * a + k) + D (40 * b + k) + c) / 10000) := by
  obtain ⟨h1, h2, h3, h4⟩ := h
  have ea : D (40 * a + k) = D0 (40 * a + k) := h3 _ (by omega)
  have eb : D (40 * b + k) = D0 (40 * b + k) := h3 _ (by omega)
  have ba := h1 (40 * a + k)
  have bb := h1 (40 * b + k)
  rw [ea, eb] at *
  refine ⟨fun j => ?_, by omega, fun i hi => ?_, ?_⟩
  · unfold va_up
    split
    · omega
    · exact h1 j
  · rw [va_up_ne _ _ (by omega)]
    exact h3 i (by omega)
  · have e1 : nv 10000 (fun i => (va_up D (40 * a + k) ((D0 (40 * a + k) + D0 (40 * b + k) + c) % 10000) (40 * a + i)).toNat) k = nv 10000 (fun i => (D (40 * a + i)).toNat) k := nv_congr fun i hi => by rw [va_up_ne _ _ (by omega)]
    rw [← e1] at h4
    have := nv_addc h4 (by
      show (va_up D (40 * a + k) ((D0 (40 * a + k) + D0 (40 * b + k) + c) % 10000) (40 * a + k)).toNat = ((D0 (40 * a + k)).toNat + (D0 (40 * b + k)).toNat + c.toNat) % 10000
      rw [va_up_self]
      omega)
    rw [← this]
    congr 2
    show ((D0 (40 * a + k) + D0 (40 * b + k) + c) / 10000).toNat = ((D0 (40 * a + k)).toNat + (D0 (40 * b + k)).toNat + c.toNat) / 10000
    omega
theorem lp_addTo {a b : Nat} {m : Int} {D0 : Nat → Int} (ha : a < 160) (hb : b < 160) (hm0 : 0 ≤ m ∧ m ≤ 40) : ∀ (j k : Nat), k + j = 40 → (k : Int) ≤ m + 1 → ∀ {h : mv_H} {D : Nat → Int} {c : Int}, MD h o X D U → ad_I D0 D a b k c →
    (∀ (h' : mv_H) (D' : Nat → Int) (c' : Int) (k' : Nat), MD h' o X D' U → fr_ o 8 h h' → ad_I D0 D' a b k' c' → k' ≤ 40 → ((k' : Int) = m + 1 ∨ (k' = 40 ∧ m = 40)) → Go φ l m_mo_addTo R u 112 [some (mv_R o), some (mv_I (a : Int)), some (mv_I (b : Int)), some (mv_I m), some (mv_I c'), some (mv_I (k' : Int)), none] [] h' n) →
    Go φ l m_mo_addTo R u 37 [some (mv_R o), some (mv_I (a : Int)), some (mv_I (b : Int)), some (mv_I m), some (mv_I c), some (mv_I (k : Int)), none] [] h n
  | 0, k, hk, hk1, h, D, c, hm, hi, kx => sg_addTo_37 hm ha hb hm0 hi.2.1 (by omega) hi.1 (fun _ => kx h D c k hm fr_.rf hi (by omega) (by omega)) (fun _ _ => kx h D c k hm fr_.rf hi (by omega) (by omega)) (fun _ c => absurd (by omega) c)
  | j + 1, k, hk, hk1, h, D, c, hm, hi, kx => sg_addTo_37 hm ha hb hm0 hi.2.1 (by omega) hi.1 (fun _ => kx h D c k hm fr_.rf hi (by omega) (by omega)) (fun _ c => absurd c (by omega)) (fun c1 _ h' hm' hf => lp_addTo ha hb hm0 j (k + 1) (by omega) (by omega) hm' (ad_step hi (by omega)) (fun h'' D' c' k' hm'' hf' => kx h'' D' c' k' hm'' (fr_.tr hf hf')))
theorem tm_addTo {a b : Nat} (hV : mo_V h o X V) (ha : a < 160) (hb : b < 160) (hs : V a + V b < 10000 ^ 40) : Fn l m_mo_addTo rd_mo_addTo rw_mo_addTo 0 0 [mv_R o, mv_I (a : Int), mv_I (b : Int)] h n
    (fun w h' n' => w = none ∧ n' = n ∧ mo_V h' o X (va_up V a (V a + V b)) ∧ fr_ o 8 h h') := by
  obtain ⟨D, U, hm, hM⟩ := hV
  refine fn_of rfl (Nat.le_of_ble_eq_true rfl) rfl ?_
  obtain ⟨a1, a2, a3⟩ := hM.2.2 a ha
  obtain ⟨b1, b2, b3⟩ := hM.2.2 b hb
  have hUa := hM.2.1 a
  have hUb := hM.2.1 b
  have rest : ∀ (m : Int), 0 ≤ m ∧ m ≤ 40 → U a ≤ m → U b ≤ m → Go (go_f 0 0 fun w h' n' => w = none ∧ n' = n ∧ mo_V h' o X (va_up V a (V a + V b)) ∧ fr_ o 8 h h') l m_mo_addTo (go_rm rd_mo_addTo rw_mo_addTo 0 0) (0, 0) 37 [some (mv_R o), some (mv_I (a : Int)), some (mv_I (b : Int)), some (mv_I m), some (mv_I 0), some (mv_I ((0 : Nat) : Int)), none] [] h n := by
    intro m hm0 hma hmb
    refine lp_addTo (D0 := D) ha hb hm0 40 0 (by omega) (by omega) hm ⟨hM.1, by omega, fun i _ => rfl, by simp [nv]⟩ (fun h1 D1 c1 k1 hm1 hf1 hi hk1 hk2 => ?_)
    obtain ⟨i1, i2, i3, i4⟩ := hi
    have hz : ∀ i, k1 ≤ i → i < 40 → D1 (40 * a + i) = 0 := fun i p q => by
      rw [i3 _ (by omega)]
      exact a1 i q (by omega)
    -- the sum of all digits
    have ea : nv 10000 (fun i => (D (40 * a + i)).toNat) 40 = nv 10000 (fun i => (D (40 * a + i)).toNat) k1 := nv_ext hk1 (fun i p q => by
      show (D (40 * a + i)).toNat = 0
      rw [a1 i q (by omega)]; rfl)
    have eb : nv 10000 (fun i => (D (40 * b + i)).toNat) 40 = nv 10000 (fun i => (D (40 * b + i)).toNat) k1 := nv_ext hk1 (fun i p q => by
      show (D (40 * b + i)).toNat = 0
      rw [b1 i q (by omega)]; rfl)
    have er : nv 10000 (fun i => (D1 (40 * a + i)).toNat) 40 = nv 10000 (fun i => (D1 (40 * a + i)).toNat) k1 := nv_ext hk1 (fun i p q => by
      show (D1 (40 * a + i)).toNat = 0
      rw [hz i p q]; rfl)
    have hc0 : c1.toNat = 0 := by
      have hsum : nv 10000 (fun i => (D1 (40 * a + i)).toNat) k1 + c1.toNat * 10000 ^ k1 = V a + V b := by
        rw [i4, ← ea, ← eb, a3, b3]
      have hcc : c1.toNat = 0 ∨ c1.toNat = 1 := by omega
      rcases hcc with hcc | hcc
      · exact hcc
      · exfalso
        rw [hcc, Nat.one_mul] at hsum
        rcases hk2 with hk2 | hk2
        · -- the digits from m on are 0
          have hk3 : k1 - 1 + 1 = k1 := by omega
          have la := nv_lt (B := 10000) (n := k1 - 1) (f := fun i => (D (40 * a + i)).toNat) (fun i hi => by have := hM.1 (40 * a + i); show (D (40 * a + i)).toNat < 10000; omega)
          have lb := nv_lt (B := 10000) (n := k1 - 1) (f := fun i => (D (40 * b + i)).toNat) (fun i hi => by have := hM.1 (40 * b + i); show (D (40 * b + i)).toNat < 10000; omega)
          have ea2 : nv 10000 (fun i => (D (40 * a + i)).toNat) k1 = nv 10000 (fun i => (D (40 * a + i)).toNat) (k1 - 1) := nv_ext (by omega) (fun i p q => by
            show (D (40 * a + i)).toNat = 0
            rw [a1 i (by omega) (by omega)]; rfl)
          have eb2 : nv 10000 (fun i => (D (40 * b + i)).toNat) k1 = nv 10000 (fun i => (D (40 * b + i)).toNat) (k1 - 1) := nv_ext (by omega) (fun i p q => by
            show (D (40 * b + i)).toNat = 0
            rw [b1 i (by omega) (by omega)]; rfl)
          have hp : 10000 ^ k1 = 10000 ^ (k1 - 1) * 10000 := by rw [← Nat.pow_succ, show (k1 - 1).succ = k1 by omega]
          have h5 : V a + V b = nv 10000 (fun i => (D (40 * a + i)).toNat) (k1 - 1) + nv 10000 (fun i => (D (40 * b + i)).toNat) (k1 - 1) := by rw [← ea2, ← eb2, ← ea, ← eb, a3, b3]
          omega
        · obtain ⟨hk2, -⟩ := hk2
          subst hk2
          omega
    have hval : nv 10000 (fun i => (D1 (40 * a + i)).toNat) 40 = V a + V b := by
      rw [er]
      rw [hc0, Nat.zero_mul, Nat.add_zero, ← ea, ← eb, a3, b3] at i4
      exact i4
    have call : ∀ (q : Nat), q = k1 → Go (go_f 0 0 fun w h' n' => w = none ∧ n' = n ∧ mo_V h' o X (va_up V a (V a + V b)) ∧ fr_ o 8 h h') l m_mo_addTo (go_rm rd_mo_addTo rw_mo_addTo 0 0) (0, 0) 128 [some (mv_R o), some (mv_I (a : Int)), some (mv_I (b : Int)), some (mv_I m), some (mv_I c1), some (mv_I (k1 : Int)), none] [mv_I (q : Int), mv_I (a : Int), mv_R o] h1 n := by
      intro q hq
      subst hq
      refine go_callV (M' := m_mo_trim) (d := rd_mo_trim) (w := rw_mo_trim) (mc := 0) (ms := 0) (as := [mv_I (a : Int), mv_I (q : Int)]) (b := o) (rest := []) (q := 131) g_mo_trim i_mo_trim v_mo_trim l_mo_45 d_mo_addTo_128 rfl rfl rfl (MD_c0 hm1) rfl (by decide) ⟨by decide, by decide, by decide, by decide⟩ (tm_trim hm1 i1 ha hk1) ?_
      rintro v h2 n2 ⟨rfl, rfl, kk, p1, p2, p3, hm2, hf2⟩ -
      refine go_vret d_mo_addTo_131 rfl go_le0 ⟨rfl, rfl, ⟨_, _, hm2, mo_trimmed hM i1 hM.2.1 (fun j hj => i3 j (by omega)) (fun _ _ => rfl) hk1 hz p1 p2 p3 hval⟩, fr_.tr hf1 hf2⟩
    refine sg_addTo_112 hm1 hm0 (fun c => call 40 (by omega)) (fun c => ?_)
    have e : m + 1 = ((k1 : Nat) : Int) := by omega
    rw [e]
    exact call k1 rfl
  refine sg_addTo_0 hm ha hb hM.1 hM.2.1 (fun c => ?_) (fun c => ?_)
  · exact rest (U b) (by omega) (by omega) (by omega)
  · exact rest (U a) (by omega) (by omega) (by omega)
end MoAdd
