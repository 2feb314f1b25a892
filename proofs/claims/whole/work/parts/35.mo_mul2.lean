/-! the model's rows: multiply, shift, divideSmall -/
def mu_I (D0 D : Nat → Int) (a b t i j : Nat) (c : Int) : Prop := (∀ j, 0 ≤ D j ∧ D j ≤ 9999) ∧ (0 ≤ c ∧ c ≤ 9999) ∧ (∀ x, (x < 40 * t ∨ 40 * t + 40 ≤ x) → D x = D0 x) ∧
  nv 10000 (fun k => (D (40 * t + k)).toNat) 40 + c.toNat * 10000 ^ (i + j) = nv 10000 (fun k => (D0 (40 * a + k)).toNat) i * nv 10000 (fun k => (D0 (40 * b + k)).toNat) 40 + (D0 (40 * a + i)).toNat * nv 10000 (fun k => (D0 (40 * b + k)).toNat) j * 10000 ^ i
theorem mu_alg {N T t m d f g c G Q Bi Bj : Nat} (e1 : N + t * (Bi * Bj) = T + m * (Bi * Bj)) (e2 : m + 10000 * d = t + f * g + c) (e3 : T + c * (Bi * Bj) = Q + f * G * Bi) : N + d * (Bi * Bj * 10000) = Q + f * (G + g * Bj) * Bi := by
  have e4 : (m + 10000 * d) * (Bi * Bj) = (t + f * g + c) * (Bi * Bj) := by rw [e2]
  grind
theorem mu_step {D0 D : Nat → Int} {a b t i j : Nat} {c x : Int} (h : mu_I D0 D a b t i j c) (hij : i + j < 40) (hd1 : 0 ≤ D0 (40 * a + i) ∧ D0 (40 * a + i) ≤ 9999) (hd2 : 0 ≤ D0 (40 * b + j) ∧ D0 (40 * b + j) ≤ 9999) (hx : x = D (40 * t + i + j) + D0 (40 * a + i) * D0 (40 * b + j) + c) : mu_I D0 (va_up D (40 * t + i + j) (x % 10000)) a b t i (j + 1) (x / 10000) := by
  obtain ⟨h1, h2, h3, h4⟩ := h
  have hp := gn_mul9 hd1 hd2
  have hb := h1 (40 * t + i + j)
  refine ⟨fun k => ?_, by omega, fun k hk => ?_, ?_⟩
  · unfold va_up
    split
    · omega
    · exact h1 k
  · rw [va_up_ne _ _ (by omega)]
    exact h3 k hk
  · have e1 := nv_up (B := 10000) (n := 40) (p := i + j) (f := fun k => (D (40 * t + k)).toNat) (g := fun k => (va_up D (40 * t + i + j) (x % 10000) (40 * t + k)).toNat) (x := (x % 10000).toNat) hij (fun k hk hkp => by
      show (va_up D (40 * t + i + j) (x % 10000) (40 * t + k)).toNat = (D (40 * t + k)).toNat
      rw [va_up_ne _ _ (by omega)]) (by
      show (va_up D (40 * t + i + j) (x % 10000) (40 * t + (i + j))).toNat = (x % 10000).toNat
      rw [show 40 * t + (i + j) = 40 * t + i + j by omega, va_up_self])
    have e2 : (x % 10000).toNat + 10000 * (x / 10000).toNat = (D (40 * t + (i + j))).toNat + (D0 (40 * a + i)).toNat * (D0 (40 * b + j)).toNat + c.toNat := by
      have e3 : ((D0 (40 * a + i)).toNat * (D0 (40 * b + j)).toNat : Int) = D0 (40 * a + i) * D0 (40 * b + j) := by
        rw [Int.toNat_of_nonneg hd1.1, Int.toNat_of_nonneg hd2.1]
      rw [show 40 * t + (i + j) = 40 * t + i + j by omega]
      omega
    rw [Nat.pow_add] at e1 h4
    rw [show i + (j + 1) = i + j + 1 by omega, Nat.pow_succ, Nat.pow_add]
    exact mu_alg e1 e2 h4
theorem mu_bound {D0 D : Nat → Int} {a b t i j : Nat} {c : Int} {U : Nat → Int} {x y : Nat} (h : mu_I D0 D a b t i j c) (hD0 : ∀ j, 0 ≤ D0 j ∧ D0 j ≤ 9999) (hU : ∀ j, 0 ≤ U j ∧ U j ≤ 40) (ra : mo_RW D0 U a x) (rb : mo_RW D0 U b y) (hs : x * y < 10000 ^ 40) (hi : (i : Int) < U a) (hj : j ≤ 40) (hc : (j : Int) < U b ∨ 0 < c) : i + j < 40 := by
  have hUa := hU a
  have hUb := hU b
  have hlt : 10000 ^ (i + j) < 10000 ^ 40 := by
    by_cases hjb : (j : Int) < U b
    · have h1 := mo_ge hD0 hUa ra (by omega)
      have h2 := mo_ge hD0 hUb rb (by omega)
      have h3 : 10000 ^ i ≤ 10000 ^ ((U a).toNat - 1) := Nat.pow_le_pow_right (by decide) (by omega)
      have h4 : 10000 ^ j ≤ 10000 ^ ((U b).toNat - 1) := Nat.pow_le_pow_right (by decide) (by omega)
      have h5 : 10000 ^ i * 10000 ^ j ≤ x * y := Nat.mul_le_mul (by omega) (by omega)
      rw [Nat.pow_add]
      omega
    · have hc' : 0 < c := by omega
      have h4 := h.2.2.2
      have h5 : 1 * 10000 ^ (i + j) ≤ c.toNat * 10000 ^ (i + j) := Nat.mul_le_mul_right _ (by omega)
      have h6 : (D0 (40 * a + i)).toNat * nv 10000 (fun k => (D0 (40 * b + k)).toNat) j * 10000 ^ i ≤ (D0 (40 * a + i)).toNat * nv 10000 (fun k => (D0 (40 * b + k)).toNat) 40 * 10000 ^ i := Nat.mul_le_mul_right _ (Nat.mul_le_mul_left _ (nv_mono hj))
      have h7 : nv 10000 (fun k => (D0 (40 * a + k)).toNat) (i + 1) ≤ nv 10000 (fun k => (D0 (40 * a + k)).toNat) 40 := nv_mono (by omega)
      rw [ra.2.2, show nv 10000 (fun k => (D0 (40 * a + k)).toNat) (i + 1) = nv 10000 (fun k => (D0 (40 * a + k)).toNat) i + (D0 (40 * a + i)).toNat * 10000 ^ i from rfl] at h7
      rw [rb.2.2] at h4 h6
      have h8 := Nat.mul_le_mul_right y h7
      have h9 : (D0 (40 * a + i)).toNat * y * 10000 ^ i = (D0 (40 * a + i)).toNat * 10000 ^ i * y := Nat.mul_right_comm _ _ _
      rw [Nat.add_mul] at h8
      omega
  exact (Nat.pow_lt_pow_iff_right (by decide)).mp hlt
section MoMul2
variable {φ : go_F} {l : Launch} {R : Room} {u : Nat × Nat} {h : mv_H} {n o : Nat} {X : mo_X} {D U : Nat → Int} {V : Nat → Nat}
theorem lp_mul26 {a b t i x y : Nat} {D0 : Nat → Int} (ha : a < 160) (hb : b < 160) (ht : t < 160) (hta : t ≠ a) (htb : t ≠ b) (hD0 : ∀ j, 0 ≤ D0 j ∧ D0 j ≤ 9999) (hU : ∀ j, 0 ≤ U j ∧ U j ≤ 40) (ra : mo_RW D0 U a x) (rb : mo_RW D0 U b y) (hs : x * y < 10000 ^ 40) (hi0 : (i : Int) < U a) :
    ∀ (q j : Nat), i + j + q = 40 → ∀ {h : mv_H} {D : Nat → Int} {c : Int}, MD h o X D U → mu_I D0 D a b t i j c →
    (∀ (h' : mv_H) (D' : Nat → Int) (c' : Int) (j' : Nat), MD h' o X D' U → fr_ o 8 h h' → mu_I D0 D' a b t i j' c' → c' = 0 → j' ≤ 40 → U b ≤ (j' : Int) → Go φ l m_mo_multiply R u 134 [some (mv_R o), some (mv_I (a : Int)), some (mv_I (b : Int)), some (mv_I (t : Int)), some (mv_I (i : Int)), some (mv_I c'), some (mv_I (j' : Int)), none, none] [] h' n) →
    Go φ l m_mo_multiply R u 26 [some (mv_R o), some (mv_I (a : Int)), some (mv_I (b : Int)), some (mv_I (t : Int)), some (mv_I (i : Int)), some (mv_I c), some (mv_I (j : Int)), none, none] [] h n
  | 0, j, hq, h, D, c, hm, hi, kx => by
    have hUa := hU a
    have hbd := mu_bound hi hD0 hU ra rb hs hi0 (by omega)
    have h2 := hi.2.1
    refine sg_multiply_26 hm ha hb ht (by omega) (by omega) hi.2.1 hbd hi.1 hU (fun c1 => ?_) (fun c1 c2 => kx h D c j hm fr_.rf hi (by omega) (by omega) (by omega)) (fun c1 c2 => ?_)
    · have := hbd (Or.inl c1)
      omega
    · have := hbd (Or.inr (by omega))
      omega
  | q + 1, j, hq, h, D, c, hm, hi, kx => by
    have hUa := hU a
    have hUb := hU b
    have hbd := mu_bound hi hD0 hU ra rb hs hi0 (by omega)
    have h2 := hi.2.1
    have e1 : D (40 * a + i) = D0 (40 * a + i) := hi.2.2.1 _ (by omega)
    refine sg_multiply_26 hm ha hb ht (by omega) (by omega) hi.2.1 hbd hi.1 hU (fun c1 h' hm' hf => ?_) (fun c1 c2 => kx h D c j hm fr_.rf hi (by omega) (by omega) (by omega)) (fun c1 c2 h' hm' hf => ?_)
    · have e2 : D (40 * b + j) = D0 (40 * b + j) := hi.2.2.1 _ (by omega)
      exact lp_mul26 ha hb ht hta htb hD0 hU ra rb hs hi0 q (j + 1) (by omega) hm' (mu_step hi (by omega) (hD0 _) (hD0 _) (by rw [e1, e2])) (fun h'' D' c' j' hm'' hf' => kx h'' D' c' j' hm'' (fr_.tr hf hf'))
    · have hij := hbd (Or.inr (by omega))
      have e2 : D0 (40 * b + j) = 0 := rb.1 j (by omega) (by omega)
      exact lp_mul26 ha hb ht hta htb hD0 hU ra rb hs hi0 q (j + 1) (by omega) hm' (mu_step hi (by omega) (hD0 _) (hD0 _) (by rw [e1, e2])) (fun h'' D' c' j' hm'' hf' => kx h'' D' c' j' hm'' (fr_.tr hf hf'))
theorem lp_mul9 {a b t x y : Nat} {D0 : Nat → Int} (ha : a < 160) (hb : b < 160) (ht : t < 160) (hta : t ≠ a) (htb : t ≠ b) (hD0 : ∀ j, 0 ≤ D0 j ∧ D0 j ≤ 9999) (hU : ∀ j, 0 ≤ U j ∧ U j ≤ 40) (ra : mo_RW D0 U a x) (rb : mo_RW D0 U b y) (hs : x * y < 10000 ^ 40) :
    ∀ (q i : Nat), (i : Int) + q = U a → ∀ {h : mv_H} {D : Nat → Int}, MD h o X D U → (∀ j, 0 ≤ D j ∧ D j ≤ 9999) → (∀ x, (x < 40 * t ∨ 40 * t + 40 ≤ x) → D x = D0 x) → nv 10000 (fun k => (D (40 * t + k)).toNat) 40 = nv 10000 (fun k => (D0 (40 * a + k)).toNat) i * y →
    (∀ (h' : mv_H) (D' : Nat → Int), MD h' o X D' U → fr_ o 8 h h' → (∀ j, 0 ≤ D' j ∧ D' j ≤ 9999) → (∀ x, (x < 40 * t ∨ 40 * t + 40 ≤ x) → D' x = D0 x) → nv 10000 (fun k => (D' (40 * t + k)).toNat) 40 = x * y → Go φ l m_mo_multiply R u 140 [some (mv_R o), some (mv_I (a : Int)), some (mv_I (b : Int)), some (mv_I (t : Int)), some (mv_I (((U a).toNat : Nat) : Int)), none, none, none, none] [] h' n) →
    Go φ l m_mo_multiply R u 9 [some (mv_R o), some (mv_I (a : Int)), some (mv_I (b : Int)), some (mv_I (t : Int)), some (mv_I (i : Int)), none, none, none, none] [] h n := by
  intro q
  induction q with
  | zero =>
    intro i hq h D hm h1 h2 h3 kx
    have hUa := hU a
    have e : i = (U a).toNat := by omega
    subst e
    rw [mo_ext ra (by omega) (by omega)] at h3
    exact sg_multiply_9 hm ha (by omega) hU (fun _ => kx h D hm fr_.rf h1 h2 h3) (fun c => absurd (by omega) c)
  | succ q ih =>
    intro i hq h D hm h1 h2 h3 kx
    have hUa := hU a
    refine sg_multiply_9 hm ha (by omega) hU (fun c => absurd c (by omega)) (fun c => ?_)
    refine lp_mul26 (D0 := D0) ha hb ht hta htb hD0 hU ra rb hs (by omega) (40 - i) 0 (by omega) hm ⟨h1, by omega, h2, by rw [h3, rb.2.2]; simp [nv]⟩ (fun h' D' c' j' hm' hf' hi' hc' hj' hUj => ?_)
    obtain ⟨i1, i2, i3, i4⟩ := hi'
    subst hc'
    refine sg_multiply_134 hm' (ih (i + 1) (by omega) hm' i1 i3 ?_ (fun h'' D'' hm'' hf'' => kx h'' D'' hm'' (fr_.tr hf' hf'')))
    rw [rb.2.2, mo_ext rb hj' hUj, show (0 : Int).toNat = 0 from rfl, Nat.zero_mul, Nat.add_zero] at i4
    rw [show nv 10000 (fun k => (D0 (40 * a + k)).toNat) (i + 1) = nv 10000 (fun k => (D0 (40 * a + k)).toNat) i + (D0 (40 * a + i)).toNat * 10000 ^ i from rfl, Nat.add_mul, Nat.mul_right_comm (D0 (40 * a + i)).toNat]
    exact i4
theorem tm_multiply {a b t : Nat} (hV : mo_V h o X V) (ha : a < 160) (hb : b < 160) (ht : t < 160) (hta : t ≠ a) (htb : t ≠ b) (hs : V a * V b < 10000 ^ 40) : Fn l m_mo_multiply rd_mo_multiply rw_mo_multiply 0 0 [mv_R o, mv_I (a : Int), mv_I (b : Int), mv_I (t : Int)] h n
    (fun w h' n' => w = none ∧ n' = n ∧ mo_V h' o X (va_up V t (V a * V b)) ∧ fr_ o 8 h h') := by
  obtain ⟨D00, U00, hm00, hM00⟩ := id hV
  refine fn_of rfl (Nat.le_of_ble_eq_true rfl) rfl ?_
  refine sg_multiply_0 hm00 ?_
  refine go_callV (M' := m_mo_set) (d := rd_mo_set) (w := rw_mo_set) (mc := 0) (ms := 0) (as := [mv_I (t : Int), mv_I ((0 : Nat) : Int)]) (b := o) (rest := []) (q := 6) g_mo_set i_mo_set v_mo_set l_mo_35 d_mo_multiply_3 rfl rfl rfl (MD_c0 hm00) rfl (by decide) ⟨by decide, by decide, by decide, by decide⟩ (tm_set hV ht (by omega)) ?_
  rintro v h1 n1 ⟨rfl, rfl, ⟨D, U, hm, hM⟩, hf0⟩ -
  have ra := hM.2.2 a ha
  have rb := hM.2.2 b hb
  have rt := hM.2.2 t ht
  rw [va_up_self] at rt
  rw [va_up_ne _ _ (Ne.symm hta)] at ra
  rw [va_up_ne _ _ (Ne.symm htb)] at rb
  have hUa := hM.2.1 a
  refine sg_multiply_6 hm (lp_mul9 (D0 := D) ha hb ht hta htb hM.1 hM.2.1 ra rb hs (U a).toNat 0 (by omega) hm hM.1 (fun _ _ => rfl) (by rw [rt.2.2]; simp [nv]) (fun h2 D2 hm2 hf2 i1 i3 hval => ?_))
  refine sg_multiply_140 hm2 ?_
  refine go_callV (M' := m_mo_trim) (d := rd_mo_trim) (w := rw_mo_trim) (mc := 0) (ms := 0) (as := [mv_I (t : Int), mv_I ((40 : Nat) : Int)]) (b := o) (rest := []) (q := 147) g_mo_trim i_mo_trim v_mo_trim l_mo_45 d_mo_multiply_144 rfl rfl rfl (MD_c0 hm2) rfl (by decide) ⟨by decide, by decide, by decide, by decide⟩ (tm_trim hm2 i1 ht (by omega)) ?_
  rintro v h3 n3 ⟨rfl, rfl, kk, p1, p2, p3, hm3, hf3⟩ -
  have hM' := mo_trimmed hM i1 hM.2.1 i3 (fun _ _ => rfl) (Nat.le_refl 40) (fun i p q => absurd q (by omega)) p1 p2 p3 hval
  rw [bx_uu] at hM'
  exact go_vret d_mo_multiply_147 rfl go_le0 ⟨rfl, rfl, ⟨_, _, hm3, hM'⟩, fr_.tr hf0 (fr_.tr hf2 hf3)⟩
theorem lp_shift {r u0 : Nat} {v : Int} {D0 : Nat → Int} (hr : r < 160) (hu : u0 < 40) : ∀ (k : Nat), k ≤ u0 → ∀ {h : mv_H} {D : Nat → Int}, MD h o X D U → (∀ i, D i = if 40 * r + k < i ∧ i ≤ 40 * r + u0 then D0 (i - 1) else D0 i) →
    (∀ (h' : mv_H) (D' : Nat → Int), MD h' o X D' U → fr_ o 8 h h' → (∀ i, D' i = if 40 * r < i ∧ i ≤ 40 * r + u0 then D0 (i - 1) else D0 i) → Go φ l m_mo_shift R u 41 [some (mv_R o), some (mv_I (r : Int)), some (mv_I v), some (mv_I ((0 : Nat) : Int))] [] h' n) →
    Go φ l m_mo_shift R u 7 [some (mv_R o), some (mv_I (r : Int)), some (mv_I v), some (mv_I (k : Int))] [] h n
  | 0, hk, h, D, hm, hi, kx => sg_shift_7 hm hr (by omega) (fun _ => kx h D hm fr_.rf (fun i => by rw [hi i]; rfl)) (fun c => absurd (by omega) c)
  | k + 1, hk, h, D, hm, hi, kx => by
    refine sg_shift_7 hm hr (by omega) (fun c => absurd c (by omega)) (fun _ h' hm' hf => ?_)
    have e : ((k + 1 : Nat) : Int) + (-1) = (k : Int) := by omega
    rw [e]
    refine lp_shift hr hu k (by omega) hm' (fun i => ?_) (fun h'' D' hm'' hf' => kx h'' D' hm'' (fr_.tr hf hf'))
    unfold va_up
    by_cases e1 : i = 40 * r + (k + 1)
    · rw [if_pos e1, if_pos (by omega), hi, if_neg (by omega), e1]
    · rw [if_neg e1, hi i]
      by_cases e2 : 40 * r + k < i ∧ i ≤ 40 * r + u0
      · rw [if_pos (by omega), if_pos e2]
      · rw [if_neg (by omega), if_neg e2]
theorem tm_shift {r v : Nat} (hV : mo_V h o X V) (hr : r < 160) (hv : v ≤ 9999) (hs : V r < 10000 ^ 39) : Fn l m_mo_shift rd_mo_shift rw_mo_shift 0 0 [mv_R o, mv_I (r : Int), mv_I (v : Int)] h n
    (fun w h' n' => w = none ∧ n' = n ∧ mo_V h' o X (va_up V r (v + 10000 * V r)) ∧ fr_ o 8 h h') := by
  obtain ⟨D, U, hm, hM⟩ := hV
  refine fn_of rfl (Nat.le_of_ble_eq_true rfl) rfl ?_
  have rr := hM.2.2 r hr
  have hUr := hM.2.1 r
  have hu : U r < 40 := by
    by_cases hp : 0 < U r
    · have h1 := mo_ge hM.1 hUr rr hp
      have h2 : (U r).toNat - 1 < 39 := (Nat.pow_lt_pow_iff_right (a := 10000) (by decide)).mp (by omega)
      omega
    · omega
  have e : U r = (((U r).toNat : Nat) : Int) := by omega
  refine sg_shift_0 hm hr ?_
  rw [show mv_I (U r) = mv_I (((U r).toNat : Nat) : Int) by rw [← e]]
  refine lp_shift (D0 := D) (u0 := (U r).toNat) hr (by omega) (U r).toNat (Nat.le_refl _) hm (fun i => by rw [if_neg (by omega)]) (fun h1 D1 hm1 hf1 hi => ?_)
  refine sg_shift_41 hm1 hr (fun h2 hm2 hf2 => ?_)
  have hd : ∀ i, va_up D1 (40 * r) (v : Int) i = if i = 40 * r then (v : Int) else if 40 * r < i ∧ i ≤ 40 * r + (U r).toNat then D (i - 1) else D i := fun i => by
    unfold va_up
    by_cases e1 : i = 40 * r
    · rw [if_pos e1, if_pos e1]
    · rw [if_neg e1, if_neg e1, hi i]
  have hdg : ∀ j, 0 ≤ va_up D1 (40 * r) (v : Int) j ∧ va_up D1 (40 * r) (v : Int) j ≤ 9999 := fun j => by
    rw [hd j]
    split
    · omega
    · split
      · exact hM.1 _
      · exact hM.1 _
  have hz : ∀ i, (U r).toNat + 1 ≤ i → i < 40 → va_up D1 (40 * r) (v : Int) (40 * r + i) = 0 := fun i p q => by
    rw [hd, if_neg (by omega), if_neg (by omega)]
    exact rr.1 i q (by omega)
  have hval : nv 10000 (fun k => (va_up D1 (40 * r) (v : Int) (40 * r + k)).toNat) 40 = v + 10000 * V r := by
    rw [nv_low]
    have e1 : (va_up D1 (40 * r) (v : Int) (40 * r + 0)).toNat = v := by rw [Nat.add_zero, hd, if_pos rfl]; simp
    have e2 : nv 10000 (fun k => (va_up D1 (40 * r) (v : Int) (40 * r + (k + 1))).toNat) 39 = V r := by
      rw [← mo_ext rr (k := 39) (by omega) (by omega)]
      refine nv_congr fun k hk => ?_
      show (va_up D1 (40 * r) (v : Int) (40 * r + (k + 1))).toNat = (D (40 * r + k)).toNat
      rw [hd, if_neg (by omega)]
      by_cases e3 : k < (U r).toNat
      · rw [if_pos (by omega)]; rfl
      · rw [if_neg (by omega)]
        by_cases e4 : k + 1 < 40
        · rw [rr.1 (k + 1) e4 (by omega), rr.1 k (by omega) (by omega)]
        · omega
    show (va_up D1 (40 * r) (v : Int) (40 * r + 0)).toNat + _ = _
    rw [e1, e2]
  rw [show mv_I (U r + 1) = mv_I (((U r).toNat + 1 : Nat) : Int) by rw [show U r + 1 = (((U r).toNat + 1 : Nat) : Int) by omega]]
  refine go_callV (M' := m_mo_trim) (d := rd_mo_trim) (w := rw_mo_trim) (mc := 0) (ms := 0) (as := [mv_I (r : Int), mv_I (((U r).toNat + 1 : Nat) : Int)]) (b := o) (rest := []) (q := 64) g_mo_trim i_mo_trim v_mo_trim l_mo_45 d_mo_shift_61 rfl rfl rfl (MD_c0 hm2) rfl (by decide) ⟨by decide, by decide, by decide, by decide⟩ (tm_trim hm2 hdg hr (by omega)) ?_
  rintro w h3 n3 ⟨rfl, rfl, kk, p1, p2, p3, hm3, hf3⟩ -
  exact go_vret d_mo_shift_64 rfl go_le0 ⟨rfl, rfl, ⟨_, _, hm3, mo_trimmed hM hdg hM.2.1 (fun j hj => by rw [hd, if_neg (by omega), if_neg (by omega)]) (fun _ _ => rfl) (by omega) hz p1 p2 p3 hval⟩, fr_.tr hf1 (fr_.tr hf2 hf3)⟩
end MoMul2
