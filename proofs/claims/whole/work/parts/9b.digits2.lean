/-! a number written out -/
def Dl (v L : Nat) : Prop := 1 ≤ L ∧ v < 10 ^ L ∧ (L = 1 ∨ 10 ^ (L - 1) ≤ v)
theorem Dl_u {v L K : Nat} (h1 : Dl v L) (h2 : Dl v K) : L = K := by
  have key : ∀ {L K : Nat}, Dl v L → Dl v K → ¬ L < K := by
    intro L K h1 h2 hlt
    obtain ⟨a1, a2, a3⟩ := h1
    obtain ⟨b1, b2, b3⟩ := h2
    have : 10 ^ L ≤ 10 ^ (K - 1) := Nat.pow_le_pow_right (by decide) (by omega)
    omega
  have := key h1 h2
  have := key h2 h1
  omega
theorem Dl_73 {v L : Nat} (h : Dl v L) (hv : v < 2 ^ 240) : L ≤ 73 := by
  obtain ⟨a1, a2, a3⟩ := h
  by_cases c : L ≤ 73
  · exact c
  · have h1 : (10 : Nat) ^ 73 ≤ 10 ^ (L - 1) := Nat.pow_le_pow_right (by decide) (by omega)
    have h2 : (2 : Nat) ^ 240 < 10 ^ 73 := by decide +kernel
    omega
theorem Dl_ex (v : Nat) : ∃ L, Dl v L := by
  have key : ∀ d, v < 10 ^ (d + 1) → ∃ L, Dl v L := by
    intro d
    induction d with
    | zero => intro h; exact ⟨1, Nat.le_refl _, h, Or.inl rfl⟩
    | succ d ih =>
      intro h
      by_cases c : v < 10 ^ (d + 1)
      · exact ih c
      · exact ⟨d + 2, by omega, h, Or.inr (by rw [show d + 2 - 1 = d + 1 by omega]; omega)⟩
  refine key v ?_
  have h1 : v < 2 ^ v := Nat.lt_two_pow_self
  have h2 : (2 : Nat) ^ v ≤ 10 ^ v := Nat.pow_le_pow_left (by decide) v
  have h3 : (10 : Nat) ^ v ≤ 10 ^ (v + 1) := Nat.pow_le_pow_right (by decide) (by omega)
  omega
def dg_ (v k : Nat) : Nat := v / 10 ^ k % 10
theorem dg_b (v k : Nat) : dg_ v k ≤ 9 := by
  have : dg_ v k < 10 := Nat.mod_lt _ (by decide)
  omega
def dk_ (n d L K : Nat) (k : Int) : Int := if k < 0 then 45 else if k < (L : Int) then 48 + (dg_ n (L - 1 - k.toNat) : Int) else if d = 1 ∨ (L : Int) + (K : Int) < k then 0 else if k = (L : Int) then 47 else 48 + (dg_ d (L + K - k.toNat) : Int)
/-- the character at place i -/
def di_ (s : Int) (n d L K : Nat) (i : Int) : Int := if i < 0 then 0 else dk_ n d L K (if s < 0 then i - 1 else i)
theorem dk_b (n d L K : Nat) (k : Int) : 0 ≤ dk_ n d L K k ∧ dk_ n d L K k ≤ 127 := by
  have h1 := dg_b n (L - 1 - k.toNat)
  have h2 := dg_b d (L + K - k.toNat)
  unfold dk_
  split
  · omega
  · split
    · omega
    · split
      · omega
      · split <;> omega
theorem di_b (s : Int) (n d L K : Nat) (i : Int) : 0 ≤ di_ s n d L K i ∧ di_ s n d L K i ≤ 127 := by
  have := dk_b n d L K (if s < 0 then i - 1 else i)
  unfold di_
  split
  · omega
  · exact this
/-- how many characters -/
def wt_ (s : Int) (d L K : Nat) : Nat := (if s < 0 then 1 else 0) + L + (if d = 1 then 0 else 1 + K)
/-- the row wr from place 'start' on is the value x written out -/
def wrv_ (start : Int) (wr : Nat → Int) (x : qv_) : Prop :=
  ∃ L K : Nat, Dl x.2.1 L ∧ Dl x.2.2 K ∧ L ≤ 73 ∧ K ≤ 73 ∧ start = 148 - (wt_ x.1 x.2.2 L K : Int) ∧ ∀ j : Nat, j < wt_ x.1 x.2.2 L K → wr (148 - wt_ x.1 x.2.2 L K + j) = di_ x.1 x.2.1 x.2.2 L K (j : Int)
/-- behind the end there is nothing -/
theorem di_0 {s : Int} {n d L K : Nat} {i : Int} (h : (wt_ s d L K : Int) ≤ i) (h0 : 0 ≤ i) : di_ s n d L K i = 0 := by
  unfold wt_ at h
  unfold di_ dk_
  rw [if_neg (by omega)]
  by_cases cs : s < 0
  · rw [if_pos cs] at h ⊢
    by_cases cd : d = 1
    · rw [if_pos cd] at h
      rw [if_neg (by omega), if_neg (by omega), if_pos (Or.inl cd)]
    · rw [if_neg cd] at h
      rw [if_neg (by omega), if_neg (by omega), if_pos (Or.inr (by omega))]
  · rw [if_neg cs] at h ⊢
    by_cases cd : d = 1
    · rw [if_pos cd] at h
      rw [if_neg (by omega), if_neg (by omega), if_pos (Or.inl cd)]
    · rw [if_neg cd] at h
      rw [if_neg (by omega), if_neg (by omega), if_pos (Or.inr (by omega))]
/-- k digits of v stand before place s -/
def wa_ (wr : Nat → Int) (s v k : Nat) : Nat → Int := fun j => if s ≤ j + k ∧ j < s then 48 + (dg_ v (s - 1 - j) : Int) else wr j
theorem wa_0 {wr : Nat → Int} {s v : Nat} : wa_ wr s v 0 = wr := by
  funext j
  exact if_neg (by omega)
theorem wa_s {wr : Nat → Int} {s v k : Nat} (h : k < s) : va_up (wa_ wr s v k) (s - k - 1) (48 + (dg_ v k : Int)) = wa_ wr s v (k + 1) := by
  funext j
  unfold va_up wa_
  by_cases e : j = s - k - 1
  · subst e
    rw [if_pos rfl, if_pos (by omega), show s - 1 - (s - k - 1) = k by omega]
  · rw [if_neg e]
    by_cases c : s ≤ j + k ∧ j < s
    · rw [if_pos c, if_pos (by omega)]
    · rw [if_neg c, if_neg (by omega)]
theorem wa_in {wr : Nat → Int} {s v k j m : Nat} (h : s ≤ j + k ∧ j < s) (hm : s - 1 - j = m) : wa_ wr s v k j = 48 + (dg_ v m : Int) := by
  unfold wa_
  rw [if_pos h, hm]
theorem wa_out {wr : Nat → Int} {s v k j : Nat} (h : ¬ (s ≤ j + k ∧ j < s)) : wa_ wr s v k j = wr j := if_neg h
/-- the sign before the digits -/
theorem wv_sign {X : Nat → Int} {s : Int} {n d L K b : Nat} (hd : ∀ k : Nat, k < L + (if d = 1 then 0 else 1 + K) → X (b + k) = dk_ n d L K (k : Int)) (hs : ¬ s < 0) : ∀ j : Nat, j < wt_ s d L K → X (b + j) = di_ s n d L K (j : Int) := by
  intro j hj
  unfold wt_ at hj
  rw [if_neg hs] at hj
  unfold di_
  rw [if_neg (by omega), if_neg hs]
  exact hd j (by omega)
theorem wv_minus {X : Nat → Int} {s : Int} {n d L K b : Nat} (hd : ∀ k : Nat, k < L + (if d = 1 then 0 else 1 + K) → X (b + 1 + k) = dk_ n d L K (k : Int)) (hs : s < 0) : ∀ j : Nat, j < wt_ s d L K → va_up X b 45 (b + j) = di_ s n d L K (j : Int) := by
  intro j hj
  unfold wt_ at hj
  rw [if_pos hs] at hj
  unfold di_
  rw [if_neg (by omega), if_pos hs]
  by_cases e : j = 0
  · subst e
    rw [Nat.add_zero, va_up_self]
    unfold dk_
    rw [if_pos (by decide)]
  · rw [va_up_ne _ _ (by omega)]
    have := hd (j - 1) (by omega)
    rw [show b + 1 + (j - 1) = b + j by omega, show ((j - 1 : Nat) : Int) = (j : Int) - 1 by omega] at this
    exact this
theorem wv_whole {wr : Nat → Int} {n d L K : Nat} (hd : d = 1) (hL : L ≤ 73) : ∀ k : Nat, k < L + (if d = 1 then 0 else 1 + K) → wa_ wr 148 n L (148 - L + k) = dk_ n d L K (k : Int) := by
  intro k hk
  rw [if_pos hd] at hk
  unfold dk_
  rw [if_neg (by omega), if_pos (by omega), Int.toNat_natCast]
  exact wa_in (by omega) (by omega)
theorem wv_frac {wr : Nat → Int} {n d L K : Nat} (hd : ¬ d = 1) (hL : L ≤ 73) (hK : K ≤ 73) (hK1 : 1 ≤ K) : ∀ k : Nat, k < L + (if d = 1 then 0 else 1 + K) → wa_ (va_up (wa_ wr 148 d K) (147 - K) 47) (147 - K) n L (147 - K - L + k) = dk_ n d L K (k : Int) := by
  intro k hk
  rw [if_neg hd] at hk
  unfold dk_
  rw [if_neg (by omega)]
  by_cases c1 : k < L
  · rw [if_pos (by omega), Int.toNat_natCast]
    exact wa_in (by omega) (by omega)
  · rw [if_neg (by omega), if_neg (by omega), wa_out (by omega)]
    by_cases c2 : k = L
    · rw [if_pos (by omega), show 147 - K - L + k = 147 - K by omega, va_up_self]
    · rw [if_neg (by omega), va_up_ne _ _ (by omega), Int.toNat_natCast]
      exact wa_in (by omega) (by omega)
/-! digits to base 10000 -/
theorem nv_dgt {B : Nat} (hB : 0 < B) : ∀ (i n : Nat) (f : Nat → Nat), (∀ k, k < n → f k < B) → i < n → nv B f n / B ^ i % B = f i := by
  intro i
  induction i with
  | zero =>
    intro n f hf hn
    obtain ⟨m, rfl⟩ : ∃ m, n = m + 1 := ⟨n - 1, by omega⟩
    rw [Nat.pow_zero, Nat.div_one, nv_low, Nat.add_mul_mod_self_left]
    exact Nat.mod_eq_of_lt (hf 0 hn)
  | succ i ih =>
    intro n f hf hn
    obtain ⟨m, rfl⟩ : ∃ m, n = m + 1 := ⟨n - 1, by omega⟩
    rw [nv_low, Nat.pow_succ, Nat.mul_comm (B ^ i) B, ← Nat.div_div_eq_div_mul, Nat.add_mul_div_left _ _ hB, Nat.div_eq_of_lt (hf 0 (by omega)), Nat.zero_add]
    exact ih m (fun k => f (k + 1)) (fun k hk => hf (k + 1) (by omega)) (by omega)
