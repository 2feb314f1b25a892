/-! the model's rows: times, multiply, shift, divideSmall -/
section MoMul
variable {φ : go_F} {l : Launch} {R : Room} {u : Nat × Nat} {h : mv_H} {n o : Nat} {X : mo_X} {D U : Nat → Int} {V : Nat → Nat}
/-- times: behind k digits -/
def ti_I (D0 D : Nat → Int) (b t k : Nat) (y c : Int) : Prop := (∀ j, 0 ≤ D j ∧ D j ≤ 9999) ∧ (0 ≤ c ∧ c ≤ 9999) ∧ (∀ i, (i < 40 * t ∨ 40 * t + k ≤ i) → D i = D0 i) ∧
  nv 10000 (fun i => (D (40 * t + i)).toNat) k + c.toNat * 10000 ^ k = nv 10000 (fun i => (D0 (40 * b + i)).toNat) k * y.toNat + 0
theorem ti_step {D0 D : Nat → Int} {b t k : Nat} {y c x : Int} (h : ti_I D0 D b t k y c) (hd : 0 ≤ D0 (40 * b + k) ∧ D0 (40 * b + k) ≤ 9999) (hy : 0 ≤ y ∧ y ≤ 9999) (hx : x = D0 (40 * b + k) * y + c) : ti_I D0 (va_up D (40 * t + k) (x % 10000)) b t (k + 1) y (x / 10000) := by
  obtain ⟨h1, h2, h3, h4⟩ := h
  have hp := gn_mul9 hd hy
  refine ⟨fun j => ?_, by omega, fun i hi => ?_, ?_⟩
  · unfold va_up
    split
    · omega
    · exact h1 j
  · rw [va_up_ne _ _ (by omega)]
    exact h3 i (by omega)
  · have e1 : nv 10000 (fun i => (va_up D (40 * t + k) (x % 10000) (40 * t + i)).toNat) k = nv 10000 (fun i => (D (40 * t + i)).toNat) k := nv_congr fun i hi => by rw [va_up_ne _ _ (by omega)]
    have e2 : x.toNat = (D0 (40 * b + k)).toNat * y.toNat + c.toNat := by
      have e3 : ((D0 (40 * b + k)).toNat * y.toNat : Int) = D0 (40 * b + k) * y := by
        rw [Int.toNat_of_nonneg hd.1, Int.toNat_of_nonneg hy.1]
      omega
    rw [← e1] at h4
    have := nv_mulc h4 (by
      show (va_up D (40 * t + k) (x % 10000) (40 * t + k)).toNat = ((D0 (40 * b + k)).toNat * y.toNat + c.toNat) % 10000
      rw [va_up_self, ← e2]
      omega)
    rw [← this]
    congr 2
    show (x / 10000).toNat = ((D0 (40 * b + k)).toNat * y.toNat + c.toNat) / 10000
    rw [← e2]
    omega
theorem lp_times {b t : Nat} {y : Int} {D0 : Nat → Int} (hb : b < 160) (ht : t < 160) (htb : t ≠ b) (hy : 0 ≤ y ∧ y ≤ 9999) (hU : ∀ j, 0 ≤ U j ∧ U j ≤ 40) (hz : ∀ k : Nat, k < 40 → U b ≤ (k : Int) → D0 (40 * b + k) = 0) (hs : nv 10000 (fun i => (D0 (40 * b + i)).toNat) 40 * y.toNat < 10000 ^ 40) :
    ∀ (j k : Nat), k + j = 40 → ∀ {h : mv_H} {D : Nat → Int} {c : Int}, MD h o X D U → ti_I D0 D b t k y c →
    (∀ (h' : mv_H) (D' : Nat → Int) (c' : Int) (k' : Nat), MD h' o X D' U → fr_ o 8 h h' → ti_I D0 D' b t k' y c' → c' = 0 → k' ≤ 40 → U b ≤ (k' : Int) → Go φ l m_mo_times R u 94 [some (mv_R o), some (mv_I (b : Int)), some (mv_I y), some (mv_I (t : Int)), some (mv_I c'), some (mv_I (k' : Int)), none] [] h' n) →
    Go φ l m_mo_times R u 12 [some (mv_R o), some (mv_I (b : Int)), some (mv_I y), some (mv_I (t : Int)), some (mv_I c), some (mv_I (k : Int)), none] [] h n
  | 0, k, hk, h, D, c, hm, hi, kx => by
    have hk' : k = 40 := by omega
    subst hk'
    have hUb := hU b
    have hc0 : c = 0 := by
      have h4 := hi.2.2.2
      have h2 := hi.2.1
      by_cases hc : c = 0
      · exact hc
      · have h5 : 1 * 10000 ^ 40 ≤ c.toNat * 10000 ^ 40 := Nat.mul_le_mul_right _ (by omega)
        exfalso
        omega
    refine sg_times_12 hm hb ht (by omega) hi.2.1 hy (fun q => ?_) hi.1 hU (fun q => absurd q (by omega)) (fun _ _ => kx h D c 40 hm fr_.rf hi hc0 (by omega) (by omega)) (fun _ q => absurd q (by omega))
    exfalso
    omega
  | j + 1, k, hk, h, D, c, hm, hi, kx => by
    have hUb := hU b
    have e1 : D (40 * b + k) = D0 (40 * b + k) := hi.2.2.1 _ (by omega)
    refine sg_times_12 hm hb ht (by omega) hi.2.1 hy (fun q => by omega) hi.1 hU (fun c1 h' hm' hf => ?_) (fun c1 c2 => ?_) (fun c1 c2 h' hm' hf => ?_)
    · exact lp_times hb ht htb hy hU hz hs j (k + 1) (by omega) hm' (ti_step hi (by rw [← e1]; exact hi.1 _) hy (by rw [e1])) (fun h'' D' c' k' hm'' hf' => kx h'' D' c' k' hm'' (fr_.tr hf hf'))
    · exact kx h D c k hm fr_.rf hi (by have := hi.2.1; omega) (by omega) (by omega)
    · exact lp_times hb ht htb hy hU hz hs j (k + 1) (by omega) hm' (ti_step hi (by rw [← e1]; exact hi.1 _) hy (by rw [hz k (by omega) (by omega), Int.zero_mul])) (fun h'' D' c' k' hm'' hf' => kx h'' D' c' k' hm'' (fr_.tr hf hf'))
theorem tm_times {b t y : Nat} (hV : mo_V h o X V) (hb : b < 160) (ht : t < 160) (htb : t ≠ b) (hy : y ≤ 9999) (hs : V b * y < 10000 ^ 40) : Fn l m_mo_times rd_mo_times rw_mo_times 0 0 [mv_R o, mv_I (b : Int), mv_I (y : Int), mv_I (t : Int)] h n
    (fun w h' n' => w = none ∧ n' = n ∧ mo_V h' o X (va_up V t (V b * y)) ∧ fr_ o 8 h h') := by
  obtain ⟨D00, U00, hm00, hM00⟩ := id hV
  refine fn_of rfl (Nat.le_of_ble_eq_true rfl) rfl ?_
  refine sg_times_0 hm00 ?_
  refine go_callV (M' := m_mo_set) (d := rd_mo_set) (w := rw_mo_set) (mc := 0) (ms := 0) (as := [mv_I (t : Int), mv_I ((0 : Nat) : Int)]) (b := o) (rest := []) (q := 6) g_mo_set i_mo_set v_mo_set l_mo_35 d_mo_times_3 rfl rfl rfl (MD_c0 hm00) rfl (by decide) ⟨by decide, by decide, by decide, by decide⟩ (tm_set hV ht (by omega)) ?_
  rintro v h1 n1 ⟨rfl, rfl, ⟨D, U, hm, hM⟩, hf0⟩ -
  have rb := hM.2.2 b hb
  have rt := hM.2.2 t ht
  rw [va_up_self] at rt
  rw [va_up_ne _ _ (Ne.symm htb)] at rb
  have hUb := hM.2.1 b
  have hUt := hM.2.1 t
  have hUt0 : U t = 0 := by
    by_cases hp : 0 < U t
    · have := mo_ge hM.1 hUt rt hp
      have h3 : 0 < 10000 ^ ((U t).toNat - 1) := Nat.pow_pos (by decide)
      omega
    · omega
  have hzt : ∀ i, i < 40 → D (40 * t + i) = 0 := fun i hi => rt.1 i hi (by omega)
  refine sg_times_6 hm ?_
  refine lp_times (D0 := D) hb ht htb (by omega) hM.2.1 rb.1 (by rw [rb.2.2]; simpa using hs) 40 0 (by omega) hm ⟨hM.1, by omega, fun i _ => rfl, by simp [nv]⟩ (fun h2 D2 c2 k2 hm2 hf2 hi hc2 hk2 hkU => ?_)
  obtain ⟨i1, i2, i3, i4⟩ := hi
  subst hc2
  have hz : ∀ i, k2 ≤ i → i < 40 → D2 (40 * t + i) = 0 := fun i p q => by
    rw [i3 _ (by omega)]
    exact hzt i q
  have hval : nv 10000 (fun i => (D2 (40 * t + i)).toNat) 40 = V b * y := by
    rw [nv_ext (m := k2) hk2 (fun i p q => by show (D2 (40 * t + i)).toNat = 0; rw [hz i p q]; rfl)]
    rw [mo_ext rb hk2 hkU] at i4
    simpa using i4
  refine sg_times_94 hm2 ?_
  refine go_callV (M' := m_mo_trim) (d := rd_mo_trim) (w := rw_mo_trim) (mc := 0) (ms := 0) (as := [mv_I (t : Int), mv_I ((40 : Nat) : Int)]) (b := o) (rest := []) (q := 101) g_mo_trim i_mo_trim v_mo_trim l_mo_45 d_mo_times_98 rfl rfl rfl (MD_c0 hm2) rfl (by decide) ⟨by decide, by decide, by decide, by decide⟩ (tm_trim hm2 i1 ht (by omega)) ?_
  rintro v h3 n3 ⟨rfl, rfl, kk, p1, p2, p3, hm3, hf3⟩ -
  have hM' := mo_trimmed hM i1 hM.2.1 (fun j hj => i3 j (by omega)) (fun _ _ => rfl) (Nat.le_refl 40) (fun i p q => absurd q (by omega)) p1 p2 p3 hval
  rw [bx_uu] at hM'
  exact go_vret d_mo_times_101 rfl go_le0 ⟨rfl, rfl, ⟨_, _, hm3, hM'⟩, fr_.tr hf0 (fr_.tr hf2 hf3)⟩
end MoMul
