/-! longs: masks, shifts, 'or'; Math.max, Math.min, System.arraycopy -/
theorem gn_maskL {a b p : Int} (k : Nat) (hk : k < 64) (hb : b = ((2 ^ k - 1 : Nat) : Int)) (hp : p = ((2 ^ k : Nat) : Int)) (ha : 0 ≤ a ∧ a ≤ 9223372036854775807) : Int64.ofInt a &&& Int64.ofInt b = Int64.ofInt (a % p) := by
  subst hb
  subst hp
  obtain ⟨x, rfl⟩ := Int.eq_ofNat_of_zero_le ha.1
  rw [gn_lN, gn_lN, wb_mask (by omega) hk, ← Int.natCast_emod, gn_lN]
theorem gn_ushrL {a b p : Int} (k : Nat) (hk : k < 64) (hb : b = (k : Int)) (hp : p = ((2 ^ k : Nat) : Int)) (ha : 0 ≤ a ∧ a ≤ 9223372036854775807) : ((Int64.ofInt a).toUInt64 >>> ((Int32.ofInt b).toInt64.toUInt64 &&& Int64.toUInt64 63)).toInt64 = Int64.ofInt (a / p) := by
  subst hb
  subst hp
  obtain ⟨x, rfl⟩ := Int.eq_ofNat_of_zero_le ha.1
  rw [gn_lN, gn_nI, wb_shr (by omega) hk, ← Int.natCast_ediv, gn_lN]
theorem gn_shlL {a b p : Int} (k : Nat) (hk : k < 64) (hb : b = (k : Int)) (hp : p = ((2 ^ k : Nat) : Int)) (ha : 0 ≤ a) : Int64.ofInt a <<< ((Int32.ofInt b).toInt64 &&& 63) = Int64.ofInt (a * p) := by
  subst hb
  subst hp
  obtain ⟨x, rfl⟩ := Int.eq_ofNat_of_zero_le ha
  rw [gn_lN, gn_nI, wb_shl x hk, ← Int.natCast_mul, gn_lN]
theorem gn_orL {a b c p : Int} (k : Nat) (hp : p = ((2 ^ k : Nat) : Int)) (hb : 0 ≤ b ∧ b < p) (hc : 0 ≤ c) (ha : a = c * p) (h : a + b ≤ 9223372036854775807) : Int64.ofInt a ||| Int64.ofInt b = Int64.ofInt (a + b) := by
  subst ha
  subst hp
  obtain ⟨x, rfl⟩ := Int.eq_ofNat_of_zero_le hc
  obtain ⟨y, rfl⟩ := Int.eq_ofNat_of_zero_le hb.1
  rw [← Int.natCast_mul] at h ⊢
  rw [← Int.natCast_add] at h ⊢
  rw [gn_lN, gn_lN, gn_lN]
  exact g_or rfl (by omega) (by omega)
theorem gn_sh : ∀ k, k < 32 → (((nI k).toUInt32 &&& Int32.toUInt32 31).toBitVec % 32).toNat = k := by decide +kernel
theorem gn_ushr {a b p : Int} (k : Nat) (hk : k < 32) (hb : b = (k : Int)) (hp : p = ((2 ^ k : Nat) : Int)) (ha : 0 ≤ a ∧ a ≤ 2147483647) : ((Int32.ofInt a).toUInt32 >>> ((Int32.ofInt b).toUInt32 &&& Int32.toUInt32 31)).toInt32 = Int32.ofInt (a / p) := by
  subst hb
  subst hp
  obtain ⟨x, rfl⟩ := Int.eq_ofNat_of_zero_le ha.1
  rw [gn_nI, gn_nI, pk_ushrN (by omega) (nI k) k (gn_sh k hk), ← Int.natCast_ediv, gn_nI]
section GoJdk
variable {φ : go_F} {l : Launch} {M : go_M} {R : Room} {u : Nat × Nat} {pc q n : Nat} {L : List (Option mv_V)} {rest : List mv_V} {h : mv_H}
theorem go_mmax {idx : Nat} {a b : Int} (hw1 : Cond.methodLink M.1.cls idx Lib.Math.max.name ∈ go_T) (hw2 : Cond.static Lib.Math.max.name ∈ go_T) (hw3 : Cond.initialized "java/lang/Math" ∈ go_T) (hw4 : Cond.code Lib.Math.max.name Lib.Math.max.code 2 (some .int) ∈ go_T) (hd : decode M.2.1 pc = .ok (.invokestatic idx, 3)) (hp : pc + 3 = q) (ha0 : -2147483648 ≤ a ∧ a ≤ 2147483647) (hb0 : -2147483648 ≤ b ∧ b ≤ 2147483647) (hR : 1 ≤ R.frames ∧ (rest.map mv_k).sum + 13 ≤ R.locals ∧ u.1 ≤ R.cells ∧ u.2 ≤ R.slots) (k : Go φ l M R u q L (mv_I (if a < b then b else a) :: rest) h n) : Go φ l M R u pc L (mv_I b :: mv_I a :: rest) h n := by
  subst hp
  intro p e s m args below meth c D ca zt A n0 ad0 C H locs ls ad hS hP hD hl hn ha oh ol os
  obtain ⟨c1, c2, c3, c4, c5, c6, c7, c8, k0, c10⟩ := id C
  refine va_mmax c1 c2 (by rw [c3]; exact hl.1.symm) c7 (c8 _ hw1) (c8 _ hw2) (c8 _ hw3) (c8 _ hw4) hR.1 (by rw [mv_sum]; exact hR.2.1) hR.2.2.1 hR.2.2.2 hd ?_
  have e1 : (if Int32.ofInt a < Int32.ofInt b then Int32.ofInt b else Int32.ofInt a) = Int32.ofInt (if a < b then b else a) := by
    by_cases hlt : a < b
    · rw [if_pos hlt, if_pos ((gn_lt ha0 hb0).mpr hlt)]
    · rw [if_neg hlt, if_neg (fun z => hlt ((gn_lt ha0 hb0).mp z))]
  rw [e1]
  exact k p e s m args below meth c D ca zt A n0 ad0 C H locs ls ad hS hP hD hl hn ha oh ol (ok_S.cons trivial os.tl.tl)
theorem go_acopy {idx r0 r1 N0 N1 sp dp cn : Nat} {f g : Nat → Int} {a b c0 : Int} (hw1 : Cond.methodLink M.1.cls idx arraycopyName ∈ go_T) (hw2 : Cond.native arraycopyName ∈ go_T) (hw3 : Cond.static arraycopyName ∈ go_T) (hw4 : Cond.initialized "java/lang/System" ∈ go_T) (hd : decode M.2.1 pc = .ok (.invokestatic idx, 3)) (hp : pc + 3 = q) (hh0 : h r0 = mv_A 0 N0 f) (hh1 : h r1 = mv_A 0 N1 g) (ea : a = (sp : Int)) (eb : b = (dp : Int)) (ec : c0 = (cn : Int)) (h1 : sp + cn ≤ N0) (h2 : dp + cn ≤ N1) (hN : N0 < 2147483648 ∧ N1 < 2147483648) (hR : 1 ≤ R.frames ∧ (rest.map mv_k).sum + (nativeFrameWords "java/lang/System" "arraycopy" 5 + 11) ≤ R.locals)
    (k : Go φ l M R u q L rest (va_up h r1 (mv_A 0 N1 (va_cpy f g sp dp cn))) n) : Go φ l M R u pc L (mv_I c0 :: mv_I b :: mv_R r1 :: mv_I a :: mv_R r0 :: rest) h n := by
  subst hp; subst ea; subst eb; subst ec
  intro p e s m args below meth c D ca zt A n0 ad0 C H locs ls ad hS hP hD hl hn ha oh ol os
  obtain ⟨c1, c2, c3, c4, c5, c6, c7, c8, k0, c10⟩ := id C
  have hr1 : 0 < r1 ∧ r1 < n := os.tl.tl.hd
  have hr0 : 0 < r0 ∧ r0 < n := os.tl.tl.tl.tl.hd
  have he0 : (mv_W ca zt ad h n)[r0 - 1]? = some (ad r0, .inl (ca 0, N0, .inl fun j => Int32.ofInt (f j))) := mv_W_is hr0 hh0
  have he1 : (mv_W ca zt ad h n)[r1 - 1]? = some (ad r1, .inl (ca 0, N1, .inl fun j => Int32.ofInt (g j))) := mv_W_is hr1 hh1
  have g0 : ∀ x : Nat, x < 2147483648 → ¬ Int32.ofInt (x : Int) < 0 ∧ (Int32.ofInt (x : Int)).toNatClampNeg = x := fun x hx => by
    rw [gn_nI]
    exact ⟨nI_pos (by omega), nI_clamp (by omega)⟩
  obtain ⟨a1, a2⟩ := g0 sp (by omega)
  obtain ⟨b1, b2⟩ := g0 dp (by omega)
  obtain ⟨d1, d2⟩ := g0 cn (by omega)
  have hset : ∀ (P : va_W → Prop), P ((mv_W ca zt ad h n).set (r1 - 1) (ad r1, .inl (ca 0, N1, .inl (va_cpy (fun j => Int32.ofInt (f j)) (fun j => Int32.ofInt (g j)) sp dp cn)))) → P (mv_W ca zt ad (va_up h r1 (mv_A 0 N1 (va_cpy f g sp dp cn))) n) := by
    intro P hp
    rw [← mv_W_set hr1.1]
    show P ((mv_W ca zt ad h n).set (r1 - 1) (ad r1, .inl (ca 0, N1, .inl fun j => Int32.ofInt (va_cpy f g sp dp cn j))))
    have hf : (fun j => Int32.ofInt (va_cpy f g sp dp cn j)) = va_cpy (fun j => Int32.ofInt (f j)) (fun j => Int32.ofInt (g j)) sp dp cn := by
      funext j
      unfold va_cpy
      split <;> rfl
    rw [hf]
    exact hp
  refine va_copyi (ty := .int) c1 c2 (by rw [c3]; exact hl.1.symm) c7 (c8 _ hw1) (c8 _ hw2) (c8 _ hw3) (c8 _ hw4) k0.1 hP hD hS (r0 - 1) (r1 - 1) 0 0 he0 he1 rfl rfl rfl a1 b1 d1 (by rw [a2, d2]; exact h1) (by rw [b2, d2]; exact h2) (fun _ _ => rfl) hR.1 (by rw [mv_sum]; exact hR.2) hd (fun H1 locs1 hP1 hD1 hS1 => ?_)
  rw [a2, b2, d2] at hP1 hD1
  exact k p e s m args below meth c D ca zt A n0 ad0 C H1 locs1 ls ad hS1 (hset (fun w => va_P D vwCl w H1) hP1) (hset (fun w => va_D A w) hD1) hl hn ha (oh.up trivial) ol os.tl.tl.tl.tl.tl
end GoJdk
