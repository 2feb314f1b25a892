/-! the Calculator: its answers are those of the q_ functions -/
/-- the value of the fraction at a: sign, numerator, denominator -/
def kq_ (B : Nat → Int) (V : Nat → Nat) (a : Nat) : Int × Nat × Nat := (if V (a + 1) = 0 then 0 else if B a = 0 then 1 else -1, V (a + 1), V (a + 3))
def wf_ (B : Nat → Int) (V : Nat → Nat) (a : Nat) : Prop := q_ok (kq_ B V a) ∧ (V (a + 1) = 0 → B a = 0)
theorem wf_gcd {B : Nat → Int} {V : Nat → Nat} {a : Nat} (h : wf_ B V a) : Nat.gcd (V (a + 1)) (V (a + 3)) = 1 ∧ 0 < V (a + 3) := ⟨h.1.2.2.1, h.1.2.2.2⟩
theorem wf_d0 {B : Nat → Int} {V : Nat → Nat} {a : Nat} (h : wf_ B V a) (h0 : V (a + 1) = 0) : V (a + 3) = 1 := by
  have := (wf_gcd h).1
  rw [h0, Nat.gcd_zero_left] at this
  exact this
theorem q_lw0 {s s' : Int} {d : Nat} : q_lw s 0 d = q_lw s' 0 d := by
  unfold q_lw
  rw [Nat.zero_div, if_pos rfl, if_pos rfl]
/-! number theory -/
theorem nt_cop {c T U top : Nat} (h1 : c ∣ top) (h2 : c ∣ U) (h : top + U = T ∨ top = T + U ∨ top + T = U) : c ∣ T := by
  rcases h with h | h | h
  · rw [← h]
    exact Nat.dvd_add h1 h2
  · rw [h] at h1
    exact (Nat.dvd_add_iff_left h2).mpr h1
  · rw [← h] at h2
    exact (Nat.dvd_add_iff_right h1).mpr h2
theorem nt_one {a b : Nat} (h : ∀ c, c ∣ a → c ∣ b → c = 1) : Nat.gcd a b = 1 := h _ (Nat.gcd_dvd_left a b) (Nat.gcd_dvd_right a b)
theorem nt_add {n1 d1 n2 d2 top g : Nat} (h1 : Nat.gcd n1 d1 = 1) (h2 : Nat.gcd n2 d2 = 1) (hd1 : 0 < d1) (hd2 : 0 < d2) (hg : g = Nat.gcd d1 d2) (ht : top + n2 * (d1 / g) = n1 * (d2 / g) ∨ top = n1 * (d2 / g) + n2 * (d1 / g) ∨ top + n1 * (d2 / g) = n2 * (d1 / g)) :
    g * top / Nat.gcd (g * top) (d1 * d2) = top / Nat.gcd top g ∧ d1 * d2 / Nat.gcd (g * top) (d1 * d2) = d1 / g * (d2 / Nat.gcd top g) := by
  have hg0 : 0 < g := by rw [hg]; exact Nat.gcd_pos_of_pos_left _ hd1
  have g1 : g ∣ d1 := by rw [hg]; exact Nat.gcd_dvd_left _ _
  have g2 : g ∣ d2 := by rw [hg]; exact Nat.gcd_dvd_right _ _
  have co : Nat.gcd (d1 / g) (d2 / g) = 1 := by
    rw [hg]
    exact Nat.coprime_div_gcd_div_gcd (by rw [← hg]; exact hg0)
  have e1 : d1 / g ∣ d1 := Nat.div_dvd_of_dvd g1
  have e2 : d2 / g ∣ d2 := Nat.div_dvd_of_dvd g2
  have co1 : Nat.Coprime (n1 * (d2 / g)) (d1 / g) := Nat.Coprime.mul_left (Nat.Coprime.coprime_dvd_right e1 h1) (Nat.Coprime.symm co)
  have co2 : Nat.Coprime (n2 * (d1 / g)) (d2 / g) := Nat.Coprime.mul_left (Nat.Coprime.coprime_dvd_right e2 h2) co
  have ct1 : Nat.Coprime top (d1 / g) := nt_one fun c c1 c2 => by
    have c3 : c ∣ n1 * (d2 / g) := nt_cop c1 (Nat.dvd_trans c2 (Nat.dvd_mul_left _ _)) ht
    have c4 : c ∣ Nat.gcd (n1 * (d2 / g)) (d1 / g) := Nat.dvd_gcd c3 c2
    rw [co1] at c4
    exact Nat.dvd_one.mp c4
  have ct2 : Nat.Coprime top (d2 / g) := nt_one fun c c1 c2 => by
    have ht' : top + n1 * (d2 / g) = n2 * (d1 / g) ∨ top = n2 * (d1 / g) + n1 * (d2 / g) ∨ top + n2 * (d1 / g) = n1 * (d2 / g) := by omega
    have c3 : c ∣ n2 * (d1 / g) := nt_cop c1 (Nat.dvd_trans c2 (Nat.dvd_mul_left _ _)) ht'
    have c4 : c ∣ Nat.gcd (n2 * (d1 / g)) (d2 / g) := Nat.dvd_gcd c3 c2
    rw [co2] at c4
    exact Nat.dvd_one.mp c4
  have hD : d1 * d2 = g * (d1 / g * (d2 / g * g)) := by
    rw [Nat.div_mul_cancel g2, ← Nat.mul_assoc, Nat.mul_comm g, Nat.div_mul_cancel g1]
  have hG : Nat.gcd (g * top) (d1 * d2) = g * Nat.gcd top g := by
    rw [hD, Nat.gcd_mul_left, Nat.Coprime.gcd_mul_left_cancel_right _ (Nat.Coprime.symm ct1), Nat.Coprime.gcd_mul_left_cancel_right _ (Nat.Coprime.symm ct2)]
  have hg2 : 0 < Nat.gcd top g := Nat.gcd_pos_of_pos_right _ hg0
  rw [hG]
  constructor
  · exact Nat.mul_div_mul_left _ _ hg0
  · have k1 : Nat.gcd top g ∣ d2 := Nat.dvd_trans (Nat.gcd_dvd_right _ _) g2
    have k2 : d1 * d2 = g * (d1 / g * d2) := by rw [← Nat.mul_assoc, Nat.mul_comm g, Nat.div_mul_cancel g1]
    rw [k2, Nat.mul_div_mul_left _ _ hg0, Nat.mul_div_assoc _ k1]
theorem nt_mul {n1 d1 n d : Nat} (h1 : Nat.gcd n1 d1 = 1) (h2 : Nat.gcd n d = 1) (hd1 : 0 < d1) (hd : 0 < d) :
    n1 * n / Nat.gcd (n1 * n) (d1 * d) = n1 / Nat.gcd n1 d * (n / Nat.gcd n d1) ∧ d1 * d / Nat.gcd (n1 * n) (d1 * d) = d / Nat.gcd n1 d * (d1 / Nat.gcd n d1) := by
  obtain ⟨g1, hg1⟩ : ∃ g1, g1 = Nat.gcd n1 d := ⟨_, rfl⟩
  obtain ⟨g2, hg2⟩ : ∃ g2, g2 = Nat.gcd n d1 := ⟨_, rfl⟩
  have p1 : 0 < g1 := by rw [hg1]; exact Nat.gcd_pos_of_pos_right _ hd
  have p2 : 0 < g2 := by rw [hg2]; exact Nat.gcd_pos_of_pos_right _ hd1
  have a1 : g1 ∣ n1 := by rw [hg1]; exact Nat.gcd_dvd_left _ _
  have a2 : g1 ∣ d := by rw [hg1]; exact Nat.gcd_dvd_right _ _
  have a3 : g2 ∣ n := by rw [hg2]; exact Nat.gcd_dvd_left _ _
  have a4 : g2 ∣ d1 := by rw [hg2]; exact Nat.gcd_dvd_right _ _
  have c1 : Nat.Coprime (n1 / g1) (d / g1) := by rw [hg1]; exact Nat.coprime_div_gcd_div_gcd (by rw [← hg1]; exact p1)
  have c2 : Nat.Coprime (n / g2) (d1 / g2) := by rw [hg2]; exact Nat.coprime_div_gcd_div_gcd (by rw [← hg2]; exact p2)
  have c3 : Nat.Coprime (n1 / g1) (d1 / g2) := Nat.Coprime.coprime_dvd_left (Nat.div_dvd_of_dvd a1) (Nat.Coprime.coprime_dvd_right (Nat.div_dvd_of_dvd a4) h1)
  have c4 : Nat.Coprime (n / g2) (d / g1) := Nat.Coprime.coprime_dvd_left (Nat.div_dvd_of_dvd a3) (Nat.Coprime.coprime_dvd_right (Nat.div_dvd_of_dvd a2) h2)
  have c5 : Nat.Coprime (n1 / g1 * (n / g2)) (d / g1 * (d1 / g2)) := Nat.Coprime.mul_left (Nat.Coprime.mul_right c1 c3) (Nat.Coprime.mul_right c4 c2)
  have e1 : n1 * n = g1 * g2 * (n1 / g1 * (n / g2)) := by
    have b1 := Nat.div_mul_cancel a1
    have b2 := Nat.div_mul_cancel a3
    generalize n1 / g1 = u at *
    generalize n / g2 = w at *
    rw [← b1, ← b2]
    grind
  have e2 : d1 * d = g1 * g2 * (d / g1 * (d1 / g2)) := by
    have b1 := Nat.div_mul_cancel a2
    have b2 := Nat.div_mul_cancel a4
    generalize d / g1 = u at *
    generalize d1 / g2 = w at *
    rw [← b1, ← b2]
    grind
  have hG : Nat.gcd (n1 * n) (d1 * d) = g1 * g2 := by
    rw [e1, e2, Nat.gcd_mul_left, c5, Nat.mul_one]
  rw [← hg1, ← hg2, hG]
  constructor
  · rw [e1]
    exact Nat.mul_div_cancel_left _ (Nat.mul_pos p1 p2)
  · rw [e2]
    exact Nat.mul_div_cancel_left _ (Nat.mul_pos p1 p2)
theorem nt_sg {s t : Int} {a n : Nat} {b : Int} (h : s = if n = 0 then 0 else if b = 0 then 1 else -1) : (n = 0 → s = 0) ∧ (n ≠ 0 → b = 0 → s = 1) ∧ (n ≠ 0 → b ≠ 0 → s = -1) := by
  refine ⟨fun e => by rw [h, if_pos e], fun e1 e2 => by rw [h, if_neg e1, if_pos e2], fun e1 e2 => by rw [h, if_neg e1, if_neg e2]⟩
/-- how the class adds -/
def ka_ (b c : Int) (T U : Nat) : Nat × Int := if b = c then (T + U, b) else if U ≤ T then (T - U, b) else (U - T, c)
theorem ka_le {b c : Int} {T U : Nat} (h : b ≠ c) (k : U ≤ T) : ka_ b c T U = (T - U, b) := by
  unfold ka_
  rw [if_neg h, if_pos k]
theorem ka_gt {b c : Int} {T U : Nat} (h : b ≠ c) (k : ¬ U ≤ T) : ka_ b c T U = (U - T, c) := by
  unfold ka_
  rw [if_neg h, if_neg k]
theorem ka_add {x y : Int × Nat × Nat} {t b c e : Int} {T U g : Nat} (hb : b = 0 ∨ b = 1) (hc : c = 0 ∨ c = 1) (hx : x.1 = if x.2.1 = 0 then 0 else if b = 0 then 1 else -1) (hy : y.1 = if y.2.1 = 0 then 0 else if c = 0 then 1 else -1) (hx0 : x.2.1 = 0 → b = 0) (ht : (t = 1 ∧ e = c) ∨ (t = -1 ∧ e = 1 - c)) (hg : 0 < g) (h1 : x.2.1 * y.2.2 = g * T) (h2 : y.2.1 * x.2.2 = g * U) (p1 : 0 < x.2.2) (p2 : 0 < y.2.2) :
    q_add x y t = q_lw (if (ka_ b e T U).2 = 0 then 1 else -1) (g * (ka_ b e T U).1) (x.2.2 * y.2.2) := by
  have hs1 := nt_sg (s := x.1) (t := t) (a := 0) hx
  have hs2 := nt_sg (s := y.1) (t := t) (a := 0) hy
  have hle : y.2.1 * x.2.2 ≤ x.2.1 * y.2.2 ↔ U ≤ T := by
    rw [h1, h2]
    exact Nat.mul_le_mul_left_iff hg
  have hsub1 : x.2.1 * y.2.2 - y.2.1 * x.2.2 = g * (T - U) := by rw [h1, h2, Nat.mul_sub]
  have hsub2 : y.2.1 * x.2.2 - x.2.1 * y.2.2 = g * (U - T) := by rw [h1, h2, Nat.mul_sub]
  have hadd : x.2.1 * y.2.2 + y.2.1 * x.2.2 = g * (T + U) := by rw [h1, h2, Nat.mul_add]
  have hT0 : x.2.1 = 0 → T = 0 := fun z => by
    rw [z, Nat.zero_mul] at h1
    rcases Nat.eq_zero_or_pos T with a | a
    · exact a
    · exact absurd h1.symm (Nat.ne_of_gt (Nat.mul_pos hg a))
  have hU0 : y.2.1 = 0 → U = 0 := fun z => by
    rw [z, Nat.zero_mul] at h2
    rcases Nat.eq_zero_or_pos U with a | a
    · exact a
    · exact absurd h2.symm (Nat.ne_of_gt (Nat.mul_pos hg a))
  unfold q_add
  rw [hsub1, hsub2, hadd]
  by_cases zx : x.2.1 = 0
  · have sx := hs1.1 zx
    have t0 := hT0 zx
    have b0 := hx0 zx
    rw [sx, Int.zero_mul, if_neg (by decide), if_pos rfl]
    subst t0
    subst b0
    by_cases zy : y.2.1 = 0
    · have u0 := hU0 zy
      subst u0
      have : (ka_ 0 e 0 0).1 = 0 := by unfold ka_; split <;> rfl
      rw [this, Nat.add_zero, Nat.mul_zero]
      exact q_lw0
    · rcases Nat.eq_zero_or_pos U with u0 | u0
      · subst u0
        have : (ka_ 0 e 0 0).1 = 0 := by unfold ka_; split <;> rfl
        rw [this, Nat.add_zero, Nat.mul_zero]
        exact q_lw0
      · have hsy : y.1 * t = if e = 0 then 1 else -1 := by
          rcases hc with c0 | c0 <;> rcases ht with ⟨t0, e0⟩ | ⟨t0, e0⟩ <;> subst c0 <;> subst t0 <;> subst e0
          · rw [hs2.2.1 zy rfl]; rfl
          · rw [hs2.2.1 zy rfl]; rfl
          · rw [hs2.2.2 zy (by decide)]; rfl
          · rw [hs2.2.2 zy (by decide)]; rfl
        rw [hsy]
        by_cases e0 : (0 : Int) = e
        · subst e0
          rfl
        · rw [ka_gt e0 (by omega)]
          show q_lw (if e = 0 then 1 else -1) (g * (0 + U)) _ = q_lw (if e = 0 then 1 else -1) (g * (U - 0)) _
          rw [Nat.zero_add, Nat.sub_zero]
  · by_cases zy : y.2.1 = 0
    · have sy := hs2.1 zy
      have u0 := hU0 zy
      subst u0
      rw [sy, Int.zero_mul, Int.mul_zero, if_neg (by decide)]
      have sx : x.1 = if b = 0 then 1 else -1 := by
        by_cases b0 : b = 0
        · rw [if_pos b0]; exact hs1.2.1 zx b0
        · rw [if_neg b0]; exact hs1.2.2 zx b0
      have sx0 : ¬ x.1 = 0 := by
        rw [sx]
        split <;> decide
      rw [if_neg sx0, sx]
      have k1 : ka_ b e T 0 = (T, b) := by
        unfold ka_
        split
        · rfl
        · rw [if_pos (Nat.zero_le _)]; rfl
      rw [k1, Nat.add_zero]
    · rcases hb with b0 | b0 <;> rcases hc with c0 | c0 <;> rcases ht with ⟨t0, e0⟩ | ⟨t0, e0⟩ <;> subst b0 <;> subst c0 <;> subst t0 <;> subst e0
      · rw [hs1.2.1 zx rfl, hs2.2.1 zy rfl]; rfl
      · rw [hs1.2.1 zx rfl, hs2.2.1 zy rfl]
        by_cases k : U ≤ T
        · rw [ka_le (by decide) k, if_pos (by decide), if_pos (hle.mpr k)]; rfl
        · rw [ka_gt (by decide) k, if_pos (by decide), if_neg (fun z => k (hle.mp z))]; rfl
      · rw [hs1.2.1 zx rfl, hs2.2.2 zy (by decide)]
        by_cases k : U ≤ T
        · rw [ka_le (by decide) k, if_pos (by decide), if_pos (hle.mpr k)]; rfl
        · rw [ka_gt (by decide) k, if_pos (by decide), if_neg (fun z => k (hle.mp z))]; rfl
      · rw [hs1.2.1 zx rfl, hs2.2.2 zy (by decide)]; rfl
      · rw [hs1.2.2 zx (by decide), hs2.2.1 zy rfl]
        by_cases k : U ≤ T
        · rw [ka_le (by decide) k, if_pos (by decide), if_pos (hle.mpr k)]; rfl
        · rw [ka_gt (by decide) k, if_pos (by decide), if_neg (fun z => k (hle.mp z))]; rfl
      · rw [hs1.2.2 zx (by decide), hs2.2.1 zy rfl]; rfl
      · rw [hs1.2.2 zx (by decide), hs2.2.2 zy (by decide)]; rfl
      · rw [hs1.2.2 zx (by decide), hs2.2.2 zy (by decide)]
        by_cases k : U ≤ T
        · rw [ka_le (by decide) k, if_pos (by decide), if_pos (hle.mpr k)]; rfl
        · rw [ka_gt (by decide) k, if_pos (by decide), if_neg (fun z => k (hle.mp z))]; rfl
/-- only the Calculator's rows and the total may have changed -/
def cs_ (B B' : Nat → Int) (V V' : Nat → Nat) : Prop := (∀ i, (i < 16 ∨ 38 ≤ i) → i ≠ 41 → i ≠ 43 → V' i = V i) ∧ ∀ i, i ≠ 40 → B' i = B i
