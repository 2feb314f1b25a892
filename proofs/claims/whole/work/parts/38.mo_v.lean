/-! the model's object over rows as numbers; small rows for branches -/
section MoV
variable {h : mv_H} {o : Nat} {I tx S ps cs bs : Nat → Int} {V : Nat → Nat}
theorem mv_c0 (hV : mo_V h o (I, tx, S, ps, cs, bs) V) : h o = mv_O 8 [mv_I (I 0), mv_I (I 1), mv_R (o + 1), mv_I (I 2), mv_R (o + 2), mv_R (o + 3), mv_R (o + 4), mv_R (o + 5), mv_R (o + 6), mv_R (o + 7), mv_I (I 3), mv_I (I 4), mv_I (I 5)] := by
  obtain ⟨D, U, hm, -⟩ := hV
  exact MD_c0 hm
theorem mv_c1 (hV : mo_V h o (I, tx, S, ps, cs, bs) V) : h (o + 1) = mv_A 0 121 tx := by
  obtain ⟨D, U, hm, -⟩ := hV
  exact MD_c1 hm
theorem mv_c4 (hV : mo_V h o (I, tx, S, ps, cs, bs) V) : h (o + 4) = mv_A 0 75 S := by
  obtain ⟨D, U, hm, -⟩ := hV
  exact MD_c4 hm
theorem mv_c5 (hV : mo_V h o (I, tx, S, ps, cs, bs) V) : h (o + 5) = mv_A 0 13 ps := by
  obtain ⟨D, U, hm, -⟩ := hV
  exact MD_c5 hm
theorem mv_c6 (hV : mo_V h o (I, tx, S, ps, cs, bs) V) : h (o + 6) = mv_A 0 13 cs := by
  obtain ⟨D, U, hm, -⟩ := hV
  exact MD_c6 hm
theorem mv_c7 (hV : mo_V h o (I, tx, S, ps, cs, bs) V) : h (o + 7) = mv_A 0 13 bs := by
  obtain ⟨D, U, hm, -⟩ := hV
  exact MD_c7 hm
theorem mv_u0 (hV : mo_V h o (I, tx, S, ps, cs, bs) V) (I' : Nat → Int) : mo_V (va_up h o (mv_O 8 [mv_I (I' 0), mv_I (I' 1), mv_R (o + 1), mv_I (I' 2), mv_R (o + 2), mv_R (o + 3), mv_R (o + 4), mv_R (o + 5), mv_R (o + 6), mv_R (o + 7), mv_I (I' 3), mv_I (I' 4), mv_I (I' 5)])) o (I', tx, S, ps, cs, bs) V := by
  obtain ⟨D, U, hm, hM⟩ := hV
  exact ⟨D, U, MO_u0 (MD_MO.mp hm) I', hM⟩
theorem mv_u1 (hV : mo_V h o (I, tx, S, ps, cs, bs) V) (f : Nat → Int) : mo_V (va_up h (o + 1) (mv_A 0 121 f)) o (I, f, S, ps, cs, bs) V := by
  obtain ⟨D, U, hm, hM⟩ := hV
  exact ⟨D, U, MO_u1 (MD_MO.mp hm) f, hM⟩
theorem mv_u4 (hV : mo_V h o (I, tx, S, ps, cs, bs) V) (f : Nat → Int) : mo_V (va_up h (o + 4) (mv_A 0 75 f)) o (I, tx, f, ps, cs, bs) V := by
  obtain ⟨D, U, hm, hM⟩ := hV
  exact ⟨D, U, MO_u4 (MD_MO.mp hm) f, hM⟩
theorem mv_u5 (hV : mo_V h o (I, tx, S, ps, cs, bs) V) (f : Nat → Int) : mo_V (va_up h (o + 5) (mv_A 0 13 f)) o (I, tx, S, f, cs, bs) V := by
  obtain ⟨D, U, hm, hM⟩ := hV
  exact ⟨D, U, MO_u5 (MD_MO.mp hm) f, hM⟩
theorem mv_u6 (hV : mo_V h o (I, tx, S, ps, cs, bs) V) (f : Nat → Int) : mo_V (va_up h (o + 6) (mv_A 0 13 f)) o (I, tx, S, ps, f, bs) V := by
  obtain ⟨D, U, hm, hM⟩ := hV
  exact ⟨D, U, MO_u6 (MD_MO.mp hm) f, hM⟩
theorem mv_u7 (hV : mo_V h o (I, tx, S, ps, cs, bs) V) (f : Nat → Int) : mo_V (va_up h (o + 7) (mv_A 0 13 f)) o (I, tx, S, ps, cs, f) V := by
  obtain ⟨D, U, hm, hM⟩ := hV
  exact ⟨D, U, MO_u7 (MD_MO.mp hm) f, hM⟩
end MoV
theorem cm_rng {x y : Nat} : -2147483648 ≤ cm_ x y ∧ cm_ x y ≤ 2147483647 := by
  unfold cm_
  split
  · omega
  · split <;> omega
theorem cm_iff (x y : Nat) : (cm_ x y < 0 ↔ x < y) ∧ (cm_ x y = 0 ↔ x = y) ∧ (0 < cm_ x y ↔ y < x) := by
  unfold cm_
  split
  · omega
  · split <;> omega
theorem cm_ltp {x y : Nat} (h : cm_ x y < 0) : x < y := (cm_iff x y).1.mp h
theorem cm_ltn {x y : Nat} (h : ¬ cm_ x y < 0) : y ≤ x := Nat.le_of_not_lt fun q => h ((cm_iff x y).1.mpr q)
theorem cm_gep {x y : Nat} (h : 0 ≤ cm_ x y) : y ≤ x := cm_ltn (by omega)
theorem cm_gen {x y : Nat} (h : ¬ 0 ≤ cm_ x y) : x < y := cm_ltp (by omega)
theorem cm_gtp {x y : Nat} (h : 0 < cm_ x y) : y < x := (cm_iff x y).2.2.mp h
theorem cm_gtn {x y : Nat} (h : ¬ 0 < cm_ x y) : x ≤ y := Nat.le_of_not_lt fun q => h ((cm_iff x y).2.2.mpr q)
theorem cm_lep {x y : Nat} (h : cm_ x y ≤ 0) : x ≤ y := cm_gtn (by omega)
theorem cm_len {x y : Nat} (h : ¬ cm_ x y ≤ 0) : y < x := cm_gtp (by omega)
theorem cm_eqp {x y : Nat} (h : cm_ x y = 0) : x = y := (cm_iff x y).2.1.mp h
theorem cm_eqn {x y : Nat} (h : ¬ cm_ x y = 0) : ¬ x = y := fun q => h ((cm_iff x y).2.1.mpr q)
theorem cm_nep {x y : Nat} (h : ¬ cm_ x y = 0) : ¬ x = y := cm_eqn h
theorem cm_nen {x y : Nat} (h : cm_ x y = 0) : x = y := cm_eqp h
theorem it_rng {p : Prop} {d : Decidable p} : -2147483648 ≤ (if p then (1 : Int) else 0) ∧ (if p then (1 : Int) else 0) ≤ 2147483647 := by
  split <;> omega
theorem it_nep {p : Prop} {d : Decidable p} (h : ¬ (if p then (1 : Int) else 0) = 0) : p := by
  by_cases hp : p
  · exact hp
  · rw [if_neg hp] at h; exact absurd rfl h
theorem it_nen {p : Prop} {d : Decidable p} (h : (if p then (1 : Int) else 0) = 0) : ¬ p := fun hp => by
  rw [if_pos hp] at h
  exact absurd h (by decide)
theorem it_eqp {p : Prop} {d : Decidable p} (h : (if p then (1 : Int) else 0) = 0) : ¬ p := it_nen h
theorem it_eqn {p : Prop} {d : Decidable p} (h : ¬ (if p then (1 : Int) else 0) = 0) : p := it_nep h
