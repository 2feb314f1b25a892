/-! the characters of a row of type -/
theorem gn_ushrZ {a b p : Int} (k : Nat) (hk : k < 64) (hb : b = (k : Int)) (hp : p = ((2 ^ k : Nat) : Int)) : ((Int64.ofInt a).toUInt64 >>> ((Int32.ofInt b).toInt64.toUInt64 &&& Int64.toUInt64 63)).toInt64 = Int64.ofInt ((a % 18446744073709551616) / p) := by
  subst hb
  subst hp
  have h : (0 : Int) ≤ a % 18446744073709551616 := Int.emod_nonneg _ (by decide)
  have h2 : a % 18446744073709551616 < 18446744073709551616 := Int.emod_lt_of_pos _ (by decide)
  rw [gn_lz (a := a), gn_nI, wb_shr (by omega) hk, ← gn_lN, Int.natCast_ediv, Int.toNat_of_nonneg h]
def cb_ (z : Int) (i : Nat) : Int := (z % 18446744073709551616) / ((2 ^ (8 * i) : Nat) : Int) % 256
theorem cb_b (z : Int) (i : Nat) : 0 ≤ cb_ z i ∧ cb_ z i ≤ 255 := by
  have h1 := Int.emod_nonneg ((z % 18446744073709551616) / ((2 ^ (8 * i) : Nat) : Int)) (show (256 : Int) ≠ 0 by decide)
  have h2 := Int.emod_lt_of_pos ((z % 18446744073709551616) / ((2 ^ (8 * i) : Nat) : Int)) (show (0 : Int) < 256 by decide)
  unfold cb_
  omega
theorem cb_eq {z : Int} {i : Nat} (hi : i < 8) : z / ((2 ^ (8 * i) : Nat) : Int) % 256 = cb_ z i := by
  unfold cb_
  have h : i = 0 ∨ i = 1 ∨ i = 2 ∨ i = 3 ∨ i = 4 ∨ i = 5 ∨ i = 6 ∨ i = 7 := by omega
  rcases h with h | h | h | h | h | h | h | h <;> subst h
  · show z / 1 % 256 = z % 18446744073709551616 / 1 % 256
    omega
  · show z / 256 % 256 = z % 18446744073709551616 / 256 % 256
    omega
  · show z / 65536 % 256 = z % 18446744073709551616 / 65536 % 256
    omega
  · show z / 16777216 % 256 = z % 18446744073709551616 / 16777216 % 256
    omega
  · show z / 4294967296 % 256 = z % 18446744073709551616 / 4294967296 % 256
    omega
  · show z / 1099511627776 % 256 = z % 18446744073709551616 / 1099511627776 % 256
    omega
  · show z / 281474976710656 % 256 = z % 18446744073709551616 / 281474976710656 % 256
    omega
  · show z / 72057594037927936 % 256 = z % 18446744073709551616 / 72057594037927936 % 256
    omega
/-- how many characters the row has -/
def nb_ (z : Int) (n : Nat) : Prop := n ≤ 8 ∧ (∀ i, i < n → cb_ z i ≠ 0) ∧ (n = 8 ∨ cb_ z n = 0)
theorem nb_ex (z : Int) : ∃ n, nb_ z n := by
  have key : ∀ d i, i + d = 8 → (∀ j, j < i → cb_ z j ≠ 0) → ∃ n, nb_ z n := by
    intro d
    induction d with
    | zero => intro i hi hj; exact ⟨i, by omega, hj, Or.inl (by omega)⟩
    | succ d ih =>
      intro i hi hj
      by_cases c : cb_ z i = 0
      · exact ⟨i, by omega, hj, Or.inr c⟩
      · refine ih (i + 1) (by omega) (fun j h => ?_)
        by_cases e : j = i
        · rw [e]; exact c
        · exact hj j (by omega)
  exact key 8 0 (by omega) (fun j h => absurd h (by omega))
def gd_ (z : Int) (n : Nat) : Prop := ∀ i, i < n → 32 ≤ cb_ z i ∧ cb_ z i ≤ 126
/-- the text behind n characters that were added -/
def tu_ (t : Nat → Int) (len : Nat) (z : Int) (n : Nat) : Nat → Int := fun j => if len ≤ j ∧ j < len + n then cb_ z (j - len) else t j
theorem tu_0 {t : Nat → Int} {len : Nat} {z : Int} : tu_ t len z 0 = t := by
  funext j
  exact if_neg (by omega)
theorem tu_s {t : Nat → Int} {len : Nat} {z : Int} {n : Nat} : va_up (tu_ t len z n) (len + n) (cb_ z n) = tu_ t len z (n + 1) := by
  funext j
  unfold va_up tu_
  by_cases e : j = len + n
  · subst e
    rw [if_pos rfl, if_pos (by omega), show len + n - len = n by omega]
  · rw [if_neg e]
    by_cases c : len ≤ j ∧ j < len + n
    · rw [if_pos c, if_pos (by omega)]
    · rw [if_neg c, if_neg (by omega)]
