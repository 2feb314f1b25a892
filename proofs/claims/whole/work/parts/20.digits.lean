/-! numbers by their digits to a base B, the lowest first -/
def nv (B : Nat) (f : Nat → Nat) : Nat → Nat
  | 0 => 0
  | k + 1 => nv B f k + f k * B ^ k
theorem nv_congr {B : Nat} {f g : Nat → Nat} : ∀ {n : Nat}, (∀ k, k < n → f k = g k) → nv B f n = nv B g n
  | 0, _ => rfl
  | n + 1, h => by
    unfold nv
    rw [nv_congr (n := n) (fun k hk => h k (by omega)), h n (by omega)]
theorem nv_lt {B : Nat} {f : Nat → Nat} : ∀ {n : Nat}, (∀ k, k < n → f k < B) → nv B f n < B ^ n
  | 0, _ => by simp [nv]
  | n + 1, h => by
    have ih := nv_lt (n := n) (fun k hk => h k (by omega))
    have h1 := Nat.mul_le_mul_right (B ^ n) (Nat.succ_le_of_lt (h n (by omega)))
    have h2 : (f n).succ * B ^ n = f n * B ^ n + B ^ n := Nat.succ_mul _ _
    unfold nv
    rw [Nat.pow_succ, Nat.mul_comm (B ^ n) B]
    omega
theorem nv_zero {B : Nat} {f : Nat → Nat} : ∀ {n : Nat}, (∀ k, k < n → f k = 0) → nv B f n = 0
  | 0, _ => rfl
  | n + 1, h => by
    unfold nv
    rw [nv_zero (n := n) (fun k hk => h k (by omega)), h n (by omega)]
    simp
/-- zeros above add nothing -/
theorem nv_ext {B : Nat} {f : Nat → Nat} {m : Nat} : ∀ {n : Nat}, m ≤ n → (∀ k, m ≤ k → k < n → f k = 0) → nv B f n = nv B f m
  | 0, h, _ => by
    have : m = 0 := by omega
    subst this
    rfl
  | n + 1, h, h0 => by
    by_cases hm : m = n + 1
    · subst hm; rfl
    · rw [show nv B f (n + 1) = nv B f n + f n * B ^ n from rfl, h0 n (by omega) (by omega), nv_ext (n := n) (by omega) (fun k h1 h2 => h0 k h1 (by omega))]
      simp
theorem nv_ge {B : Nat} {f : Nat → Nat} {n k : Nat} (hk : k < n) : f k * B ^ k ≤ nv B f n := by
  induction n with
  | zero => omega
  | succ n ih =>
    unfold nv
    by_cases h : k = n
    · subst h; omega
    · have := ih (by omega)
      omega
theorem nv_top {B : Nat} {f : Nat → Nat} {n : Nat} (hn : 0 < n) (ht : f (n - 1) ≠ 0) : B ^ (n - 1) ≤ nv B f n := by
  have h1 : f (n - 1) * B ^ (n - 1) ≤ nv B f n := nv_ge (by omega)
  have h2 : 1 * B ^ (n - 1) ≤ f (n - 1) * B ^ (n - 1) := Nat.mul_le_mul_right _ (by omega)
  omega
theorem nv_low {B : Nat} {f : Nat → Nat} (n : Nat) : nv B f (n + 1) = f 0 + B * nv B (fun k => f (k + 1)) n := by
  induction n with
  | zero => simp [nv]
  | succ n ih =>
    rw [show nv B f (n + 1 + 1) = nv B f (n + 1) + f (n + 1) * B ^ (n + 1) from rfl, ih, show nv B (fun k => f (k + 1)) (n + 1) = nv B (fun k => f (k + 1)) n + f (n + 1) * B ^ n from rfl, Nat.pow_succ]
    grind
/-- the higher digit decides -/
theorem nv_cmp {B : Nat} {f g : Nat → Nat} {j : Nat} : ∀ {n : Nat}, j < n → (∀ k, k < n → f k < B) → (∀ k, j < k → k < n → f k = g k) → f j < g j → nv B f n < nv B g n
  | 0, h, _, _, _ => by omega
  | n + 1, h, hf, he, hlt => by
    unfold nv
    by_cases hj : j = n
    · subst hj
      have h1 := nv_lt (n := j) (fun k hk => hf k (by omega))
      have h2 := Nat.mul_le_mul_right (B ^ j) (Nat.succ_le_of_lt hlt)
      have h3 : (f j).succ * B ^ j = f j * B ^ j + B ^ j := Nat.succ_mul _ _
      omega
    · have ih := nv_cmp (n := n) (by omega) (fun k hk => hf k (by omega)) (fun k h1 h2 => he k h1 (by omega)) hlt
      rw [he n (by omega) (by omega)]
      omega
theorem nv_inj {B : Nat} {f g : Nat → Nat} {n : Nat} (hf : ∀ k, k < n → f k < B) (hg : ∀ k, k < n → g k < B) (h : nv B f n = nv B g n) : ∀ k, k < n → f k = g k := by
  induction n with
  | zero => intro k hk; omega
  | succ n ih =>
    have htop : f n = g n := by
      rcases Nat.lt_trichotomy (f n) (g n) with h1 | h1 | h1
      · have := nv_cmp (B := B) (j := n) (n := n + 1) (by omega) hf (fun k a b => by omega) h1
        omega
      · exact h1
      · have := nv_cmp (B := B) (j := n) (n := n + 1) (by omega) hg (fun k a b => by omega) h1
        omega
    have h2 : nv B f n = nv B g n := by
      unfold nv at h
      rw [htop] at h
      omega
    intro k hk
    by_cases hkn : k = n
    · subst hkn; exact htop
    · exact ih (fun k hk => hf k (by omega)) (fun k hk => hg k (by omega)) h2 k (by omega)
/-- adding, a digit with its carry -/
theorem nv_addc {B c k : Nat} {f g r : Nat → Nat} (h : nv B r k + c * B ^ k = nv B f k + nv B g k) (hr : r k = (f k + g k + c) % B) : nv B r (k + 1) + (f k + g k + c) / B * B ^ (k + 1) = nv B f (k + 1) + nv B g (k + 1) := by
  have h1 := Nat.mod_add_div (f k + g k + c) B
  unfold nv
  rw [hr, Nat.pow_succ]
  generalize (f k + g k + c) % B = x at *
  generalize (f k + g k + c) / B = y at *
  generalize B ^ k = P at *
  have h2 : (x + B * y) * P = (f k + g k + c) * P := by rw [h1]
  grind
/-- taking off, a digit with its borrow -/
theorem nv_subb {B b b' k : Nat} {f g r : Nat → Nat} (h : nv B r k + nv B g k = nv B f k + b * B ^ k) (hr : r k + g k + b = f k + b' * B) : nv B r (k + 1) + nv B g (k + 1) = nv B f (k + 1) + b' * B ^ (k + 1) := by
  unfold nv
  rw [Nat.pow_succ]
  generalize B ^ k = P at *
  have h2 : (r k + g k + b) * P = (f k + b' * B) * P := by rw [hr]
  grind
/-- times a small number, a digit with its carry -/
theorem nv_mulc {B c k m a : Nat} {f r : Nat → Nat} (h : nv B r k + c * B ^ k = nv B f k * m + a) (hr : r k = (f k * m + c) % B) : nv B r (k + 1) + (f k * m + c) / B * B ^ (k + 1) = nv B f (k + 1) * m + a := by
  have h1 := Nat.mod_add_div (f k * m + c) B
  unfold nv
  rw [hr, Nat.pow_succ]
  generalize (f k * m + c) % B = x at *
  generalize (f k * m + c) / B = y at *
  generalize B ^ k = P at *
  have h2 : (x + B * y) * P = (f k * m + c) * P := by rw [h1]
  grind
/-- the number from digit k up, of n digits -/
def nh (B : Nat) (f : Nat → Nat) (k n : Nat) : Nat := nv B (fun j => f (k + j)) (n - k)
theorem nh_step {B : Nat} {f : Nat → Nat} {k n : Nat} (h : k < n) : nh B f k n = f k + B * nh B f (k + 1) n := by
  unfold nh
  rw [show n - k = n - (k + 1) + 1 by omega, nv_low]
  have h1 : (fun j => f (k + (j + 1))) = fun j => f (k + 1 + j) := by
    funext j
    rw [show k + (j + 1) = k + 1 + j by omega]
  simp only [Nat.add_zero]
  rw [h1]
theorem nh_0 {B : Nat} {f : Nat → Nat} {n : Nat} : nh B f 0 n = nv B f n := by
  unfold nh
  rw [Nat.sub_zero]
  exact nv_congr fun k _ => by rw [Nat.zero_add]
theorem nh_n {B : Nat} {f : Nat → Nat} {n : Nat} : nh B f n n = 0 := by
  unfold nh
  rw [Nat.sub_self]
  rfl
/-- short division: from the top, a digit and what is left -/
theorem nh_div {B d left k n : Nat} {f r : Nat → Nat} (hk : k < n) (h : nh B f (k + 1) n = nh B r (k + 1) n * d + left) (hr : r k = (left * B + f k) / d) : nh B f k n = nh B r k n * d + (left * B + f k) % d := by
  have h1 := Nat.mod_add_div (left * B + f k) d
  rw [nh_step hk, nh_step hk, h, hr]
  generalize (left * B + f k) % d = x at *
  generalize (left * B + f k) / d = y at *
  grind
/-- one digit is written anew -/
theorem nv_up {B x p : Nat} {f g : Nat → Nat} : ∀ {n : Nat}, p < n → (∀ k, k < n → k ≠ p → g k = f k) → g p = x → nv B g n + f p * B ^ p = nv B f n + x * B ^ p
  | 0, h, _, _ => absurd h (Nat.not_lt_zero _)
  | n + 1, h, hg, hx => by
    rw [show nv B g (n + 1) = nv B g n + g n * B ^ n from rfl, show nv B f (n + 1) = nv B f n + f n * B ^ n from rfl]
    by_cases hp : p = n
    · subst hp
      rw [nv_congr (f := g) (g := f) (fun k hk => hg k (by omega) (by omega)), hx]
      omega
    · rw [hg n (by omega) (fun e => hp e.symm)]
      have := nv_up (B := B) (n := n) (by omega) (fun k hk hkp => hg k (by omega) hkp) hx
      omega
theorem nv_mono {B : Nat} {f : Nat → Nat} {m n : Nat} (h : m ≤ n) : nv B f m ≤ nv B f n := by
  induction n with
  | zero =>
    have : m = 0 := by omega
    subst this
    exact Nat.le_refl _
  | succ n ih =>
    by_cases hm : m = n + 1
    · subst hm; exact Nat.le_refl _
    · have := ih (by omega)
      rw [show nv B f (n + 1) = nv B f n + f n * B ^ n from rfl]
      omega
