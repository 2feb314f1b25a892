/-! further rules of the pure machine -/
/-- a local is forgotten -/
theorem go_fg {φ : go_F} {l : Launch} {M : go_M} {R : Room} {u : Nat × Nat} {pc n : Nat} {L L' : List (Option mv_V)} {st : List mv_V} {h : mv_H} (i : Nat) (hL : L.set i none = L') (k : Go φ l M R u pc L' st h n) : Go φ l M R u pc L st h n := by
  subst hL
  have key : ∀ (j : Nat) (v : mv_V), (L.set i none)[j]? = some (some v) → L[j]? = some (some v) := by
    intro j v hj
    by_cases hji : j = i
    · subst hji
      rw [List.getElem?_set_self'] at hj
      cases hl : L[j]? with
      | none => rw [hl] at hj; cases hj
      | some x => rw [hl] at hj; cases hj
    · rwa [List.getElem?_set_ne (Ne.symm hji)] at hj
  intro p e s m args below meth c D ca zt A n0 ad0 C H locs ls ad hS hP hD hl hn ha oh ol os
  exact k p e s m args below meth c D ca zt A n0 ad0 C H locs ls ad hS hP hD ⟨hl.1, hl.2.1, fun j v hj => hl.2.2 j v (key j v hj)⟩ hn ha oh (fun j v hj => ol j v (key j v hj)) os
/-- nothing changed outside the k cells from o on -/
def fr_ (o k : Nat) (h h' : mv_H) : Prop := ∀ j, (j < o ∨ o + k ≤ j) → h' j = h j
theorem fr_.rf {o k : Nat} {h : mv_H} : fr_ o k h h := fun _ _ => rfl
theorem fr_.tr {o k : Nat} {h h' h'' : mv_H} (a : fr_ o k h h') (b : fr_ o k h' h'') : fr_ o k h h'' := fun j hj => (b j hj).trans (a j hj)
theorem go_le0 : (0, 0).1 ≤ 0 ∧ (0, 0).2 ≤ 0 := ⟨Nat.le_refl _, Nat.le_refl _⟩
/-- masks and shifts -/
theorem gn_bv {a : Int} : (Int32.ofInt a).toBitVec = BitVec.ofInt 32 a := rfl
theorem gn_mask {a b p : Int} (k : Nat) (hk : k < 32) (hb : b = ((2 ^ k - 1 : Nat) : Int)) (hp : p = ((2 ^ k : Nat) : Int)) : Int32.ofInt a &&& Int32.ofInt b = Int32.ofInt (a % p) := by
  subst hb
  subst hp
  have hlt : 2 ^ k < 2 ^ 32 := Nat.pow_lt_pow_right (by decide) hk
  have h1 := pk_and (Int32.ofInt a) (m := Int32.ofInt ((2 ^ k - 1 : Nat) : Int)) k (by
    rw [gn_bv, BitVec.ofInt_natCast, BitVec.toNat_ofNat]
    exact Nat.mod_eq_of_lt (by omega))
  rw [h1, gn_bv, BitVec.toNat_ofInt, ← gn_nI]
  congr 1
  have hp : ((2 ^ k : Nat) : Int) ∣ ((2 ^ 32 : Nat) : Int) := Int.natCast_dvd_natCast.mpr (Nat.pow_dvd_pow 2 (by omega))
  have h3 : (0 : Int) ≤ a % ((2 ^ 32 : Nat) : Int) := Int.emod_nonneg _ (by decide)
  rw [Int.natCast_emod, Int.toNat_of_nonneg h3]
  exact Int.emod_emod_of_dvd a hp
theorem gn_mul9 {x y : Int} (hx : 0 ≤ x ∧ x ≤ 9999) (hy : 0 ≤ y ∧ y ≤ 9999) : 0 ≤ x * y ∧ x * y ≤ 99980001 := by
  refine ⟨Int.mul_nonneg hx.1 hy.1, ?_⟩
  have := Int.mul_le_mul hx.2 hy.2 hy.1 (by omega)
  omega
