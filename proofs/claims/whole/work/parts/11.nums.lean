/-! machine numbers and integers -/
abbrev g3_2 (a : Int) : Prop := -2147483648 ≤ a ∧ a ≤ 2147483647
theorem gn_ti {a : Int} (ha : -2147483648 ≤ a ∧ a ≤ 2147483647) : (Int32.ofInt a).toInt = a := Int32.toInt_ofInt_of_le (by omega) (by omega)
theorem gn_ti64 {a : Int} (ha : -9223372036854775808 ≤ a ∧ a ≤ 9223372036854775807) : (Int64.ofInt a).toInt = a := Int64.toInt_ofInt_of_le (by omega) (by omega)
theorem gn_eq {a b : Int} (ha : -2147483648 ≤ a ∧ a ≤ 2147483647) (hb : -2147483648 ≤ b ∧ b ≤ 2147483647) : Int32.ofInt a = Int32.ofInt b ↔ a = b := by
  rw [← Int32.toInt_inj, gn_ti ha, gn_ti hb]
theorem gn_lt {a b : Int} (ha : -2147483648 ≤ a ∧ a ≤ 2147483647) (hb : -2147483648 ≤ b ∧ b ≤ 2147483647) : Int32.ofInt a < Int32.ofInt b ↔ a < b := by
  rw [Int32.lt_iff_toInt_lt, gn_ti ha, gn_ti hb]
theorem gn_le {a b : Int} (ha : -2147483648 ≤ a ∧ a ≤ 2147483647) (hb : -2147483648 ≤ b ∧ b ≤ 2147483647) : Int32.ofInt a ≤ Int32.ofInt b ↔ a ≤ b := by
  rw [Int32.le_iff_toInt_le, gn_ti ha, gn_ti hb]
theorem gn_eq0 {a : Int} (ha : -2147483648 ≤ a ∧ a ≤ 2147483647) : Int32.ofInt a = 0 ↔ a = 0 := by
  rw [← Int32.toInt_inj, gn_ti ha]
  simp
theorem gn_lt0 {a : Int} (ha : -2147483648 ≤ a ∧ a ≤ 2147483647) : Int32.ofInt a < 0 ↔ a < 0 := by
  rw [Int32.lt_iff_toInt_lt, gn_ti ha]
  simp
theorem gn_ge0 {a : Int} (ha : -2147483648 ≤ a ∧ a ≤ 2147483647) : 0 ≤ Int32.ofInt a ↔ 0 ≤ a := by
  rw [Int32.le_iff_toInt_le, gn_ti ha]
  simp
theorem gn_gt0 {a : Int} (ha : -2147483648 ≤ a ∧ a ≤ 2147483647) : 0 < Int32.ofInt a ↔ 0 < a := by
  rw [Int32.lt_iff_toInt_lt, gn_ti ha]
  simp
theorem gn_le0 {a : Int} (ha : -2147483648 ≤ a ∧ a ≤ 2147483647) : Int32.ofInt a ≤ 0 ↔ a ≤ 0 := by
  rw [Int32.le_iff_toInt_le, gn_ti ha]
  simp
theorem gn_nI (k : Nat) : Int32.ofInt (k : Int) = nI k := Int32.ofInt_eq_ofNat
theorem gn_lN (k : Nat) : Int64.ofInt (k : Int) = lN k := Int64.ofInt_eq_ofNat
theorem gn_in {a : Int} {k N : Nat} (ha : a = (k : Int)) (hk : k < N) (hN : N < 2147483648) : vp_in (Int32.ofInt a) N ∧ (Int32.ofInt a).toNatClampNeg = k := by
  subst ha
  rw [gn_nI]
  exact ⟨vp_in_nI hk (by omega), nI_clamp (by omega)⟩
theorem gn_i2c {a : Int} (ha : 0 ≤ a ∧ a ≤ 65535) : ((Int32.ofInt a).toUInt32 % 65536).toInt32 = Int32.ofInt a := by
  obtain ⟨k, rfl⟩ := Int.eq_ofNat_of_zero_le ha.1
  rw [gn_nI, pk_char, pk_tn (by omega), Nat.mod_eq_of_lt (by omega)]
theorem gn_lcmp {a b : Int} (ha : -9223372036854775808 ≤ a ∧ a ≤ 9223372036854775807) (hb : -9223372036854775808 ≤ b ∧ b ≤ 9223372036854775807) : lg_cmp (Int64.ofInt a) (Int64.ofInt b) = Int32.ofInt (if b < a then 1 else if a = b then 0 else -1) := by
  unfold lg_cmp
  simp only [gt_iff_lt, Int64.lt_iff_toInt_lt, ← Int64.toInt_inj, gn_ti64 ha, gn_ti64 hb]
  by_cases h1 : b < a
  · rw [if_pos h1, if_pos h1]; rfl
  · rw [if_neg h1, if_neg h1]
    by_cases h2 : a = b
    · rw [if_pos h2, if_pos h2]; rfl
    · rw [if_neg h2, if_neg h2]; rfl
theorem gn_ne0 {b : Int} (h : 0 < b ∧ b ≤ 2147483647) : ¬ Int32.ofInt b = 0 := fun z => by
  have := (gn_eq0 ⟨by omega, h.2⟩).mp z
  omega
theorem gn_ne0L {b : Int} (h : 0 < b ∧ b ≤ 9223372036854775807) : ¬ Int64.ofInt b = 0 := fun z => by
  have h1 : (Int64.ofInt b).toInt = b := gn_ti64 ⟨by omega, h.2⟩
  rw [z] at h1
  have h2 : (0 : Int64).toInt = 0 := by decide
  omega
/-- '/' and '%' of numbers that aren't negative -/
theorem gn_div {a b : Int} (ha : 0 ≤ a ∧ a ≤ 2147483647) (hb : 0 < b ∧ b ≤ 2147483647) : Int32.ofInt a / Int32.ofInt b = Int32.ofInt (a / b) := by
  obtain ⟨x, rfl⟩ := Int.eq_ofNat_of_zero_le ha.1
  obtain ⟨y, rfl⟩ := Int.eq_ofNat_of_zero_le (Int.le_of_lt hb.1)
  rw [gn_nI, gn_nI, pk_div (by omega) (by omega) (by omega), ← Int.natCast_ediv, gn_nI]
theorem gn_rem {a b : Int} (ha : 0 ≤ a ∧ a ≤ 2147483647) (hb : 0 < b ∧ b ≤ 2147483647) : Int32.ofInt a - Int32.ofInt a / Int32.ofInt b * Int32.ofInt b = Int32.ofInt (a % b) := by
  obtain ⟨x, rfl⟩ := Int.eq_ofNat_of_zero_le ha.1
  obtain ⟨y, rfl⟩ := Int.eq_ofNat_of_zero_le (Int.le_of_lt hb.1)
  rw [gn_nI, gn_nI, pk_rem (by omega) (by omega) (by omega), ← Int.natCast_emod, gn_nI]
theorem gn_divL {a b : Int} (ha : 0 ≤ a ∧ a ≤ 9223372036854775807) (hb : 0 < b ∧ b ≤ 9223372036854775807) : Int64.ofInt a / Int64.ofInt b = Int64.ofInt (a / b) := by
  obtain ⟨x, rfl⟩ := Int.eq_ofNat_of_zero_le ha.1
  obtain ⟨y, rfl⟩ := Int.eq_ofNat_of_zero_le (Int.le_of_lt hb.1)
  rw [gn_lN, gn_lN, pk_lDiv (by omega) (by omega) (by omega), ← Int.natCast_ediv, gn_lN]
theorem gn_remL {a b : Int} (ha : 0 ≤ a ∧ a ≤ 9223372036854775807) (hb : 0 < b ∧ b ≤ 9223372036854775807) : Int64.ofInt a - Int64.ofInt a / Int64.ofInt b * Int64.ofInt b = Int64.ofInt (a % b) := by
  obtain ⟨x, rfl⟩ := Int.eq_ofNat_of_zero_le ha.1
  obtain ⟨y, rfl⟩ := Int.eq_ofNat_of_zero_le (Int.le_of_lt hb.1)
  rw [gn_lN, gn_lN, pk_lRem (by omega) (by omega) (by omega), ← Int.natCast_emod, gn_lN]
theorem gn_char {x : Int} (hx : 0 ≤ x ∧ x ≤ 65535) : vp_nar .char (Int32.ofInt x) = Int32.ofInt x := by
  obtain ⟨k, rfl⟩ := Int.eq_ofNat_of_zero_le hx.1
  unfold vp_nar
  rw [gn_nI, (pk_charN (q := k) (by omega)).1]
