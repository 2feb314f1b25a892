/-! more rules: ldc_w, switches, Math.min, Integer.bitCount; shifts, masks and 'or' of any numbers -/
theorem gn_tn32 {a : Int} : (Int32.ofInt a).toBitVec.toNat = (a % 4294967296).toNat := by
  rw [gn_bv, BitVec.toNat_ofInt]
  rfl
theorem gn_s31 : ∀ k, k < 32 → ((nI k &&& 31).toBitVec.smod 32).toNat = k := by decide +kernel
theorem gn_shl32 {a b p : Int} (k : Nat) (hk : k < 32) (hb : b = (k : Int)) (hp : p = ((2 ^ k : Nat) : Int)) : Int32.ofInt a <<< (Int32.ofInt b &&& 31) = Int32.ofInt (a * p) := by
  subst hb
  subst hp
  apply Int32.toBitVec_inj.mp
  apply BitVec.eq_of_toNat_eq
  rw [gn_nI, pk_shl _ _ k (gn_s31 k hk), gn_tn32, gn_tn32]
  have h1 : (0 : Int) ≤ a % 4294967296 := Int.emod_nonneg _ (by decide)
  have h2 : (((a % 4294967296).toNat * 2 ^ k % 2 ^ 32 : Nat) : Int) = a * ((2 ^ k : Nat) : Int) % 4294967296 := by
    rw [Int.natCast_emod, Int.natCast_mul, Int.toNat_of_nonneg h1]
    show a % 4294967296 * ((2 ^ k : Nat) : Int) % 4294967296 = _
    rw [Int.mul_emod, Int.emod_emod_of_dvd _ (Int.dvd_refl _), ← Int.mul_emod]
  omega
theorem gn_or32 {a b c p : Int} (k : Nat) (hp : p = ((2 ^ k : Nat) : Int)) (ha : 0 ≤ a ∧ a < p) (hc : 0 ≤ c) (hb : b = c * p) (h : a + b ≤ 2147483647) : Int32.ofInt a ||| Int32.ofInt b = Int32.ofInt (a + b) := by
  subst hb
  subst hp
  obtain ⟨x, rfl⟩ := Int.eq_ofNat_of_zero_le ha.1
  obtain ⟨y, rfl⟩ := Int.eq_ofNat_of_zero_le hc
  rw [← Int.natCast_mul] at h ⊢
  rw [← Int.natCast_add] at h ⊢
  rw [gn_nI, gn_nI, gn_nI]
  have h1 : x ||| y * 2 ^ k = x + y * 2 ^ k := by
    rw [Nat.or_comm, ← Nat.shiftLeft_eq, ← Nat.shiftLeft_add_eq_or_of_lt (by omega), Nat.add_comm]
  apply Int32.toBitVec_inj.mp
  apply BitVec.eq_of_toNat_eq
  show ((nI x).toBitVec ||| (nI (y * 2 ^ k)).toBitVec).toNat = _
  rw [BitVec.toNat_or, pk_tn (by omega), pk_tn (by omega), pk_tn (by omega), h1]
theorem gn_lown {m j : Nat} (h : 2 * m + 1 < 2 ^ j) : (2 * m + 1) &&& (2 ^ j - (2 * m + 1)) = 1 := by
  apply Nat.eq_of_testBit_eq
  intro i
  rw [Nat.testBit_and, Nat.testBit_two_pow_sub_succ (by omega)]
  cases i with
  | zero =>
    have hj : 0 < j := by
      rcases Nat.eq_zero_or_pos j with e | e
      · subst e; simp at h
      · exact e
    simp [Nat.testBit_zero, hj]
  | succ i =>
    rw [Nat.testBit_succ, Nat.testBit_succ, Nat.testBit_succ, show (2 * m + 1) / 2 = m by omega, show 2 * m / 2 = m by omega, show 1 / 2 = 0 by omega, Nat.zero_testBit]
    cases m.testBit i <;> simp
/-- the lowest bit -/
theorem gn_low {a : Int} {m k : Nat} (hk : k < 31) (ha : a = ((2 ^ k * (2 * m + 1) : Nat) : Int)) (h : a ≤ 2147483647) : Int32.ofInt a &&& Int32.ofInt (-a) = Int32.ofInt ((2 ^ k : Nat) : Int) := by
  subst ha
  have hb : 2 ^ k * (2 * m + 1) < 2 ^ 31 := by omega
  have hp : 2 ^ 32 = 2 ^ k * 2 ^ (32 - k) := by rw [← Nat.pow_add]; congr 1; omega
  have h0 : 2 ^ k * 1 ≤ 2 ^ k * (2 * m + 1) := Nat.mul_le_mul_left _ (by omega)
  have hk0 : 0 < 2 ^ k := Nat.two_pow_pos k
  have hm : 2 * m + 1 < 2 ^ (32 - k) := by
    refine Nat.lt_of_mul_lt_mul_left (a := 2 ^ k) ?_
    rw [← hp]
    omega
  have e1 : (Int32.ofInt ((2 ^ k * (2 * m + 1) : Nat) : Int)).toBitVec.toNat = 2 ^ k * (2 * m + 1) := by rw [gn_tn32]; omega
  have e2 : (Int32.ofInt (-((2 ^ k * (2 * m + 1) : Nat) : Int))).toBitVec.toNat = 2 ^ k * (2 ^ (32 - k) - (2 * m + 1)) := by
    rw [gn_tn32, Nat.mul_sub, ← hp]
    omega
  apply Int32.toBitVec_inj.mp
  apply BitVec.eq_of_toNat_eq
  show ((Int32.ofInt ((2 ^ k * (2 * m + 1) : Nat) : Int)).toBitVec &&& (Int32.ofInt (-((2 ^ k * (2 * m + 1) : Nat) : Int))).toBitVec).toNat = _
  rw [BitVec.toNat_and, e1, e2, Nat.mul_comm, Nat.mul_comm (2 ^ k) (2 ^ (32 - k) - (2 * m + 1)), ← Nat.shiftLeft_eq, ← Nat.shiftLeft_eq, ← Nat.shiftLeft_and_distrib, gn_lown hm, Nat.shiftLeft_eq, Nat.one_mul, gn_tn32]
  omega
theorem gn_lz {a : Int} : Int64.ofInt a = lN (a % 18446744073709551616).toNat := by
  have h : (0 : Int) ≤ a % 18446744073709551616 := Int.emod_nonneg _ (by decide)
  rw [← gn_lN, Int.toNat_of_nonneg h]
  apply Int64.toBitVec_inj.mp
  apply BitVec.eq_of_toNat_eq
  show (BitVec.ofInt 64 a).toNat = (BitVec.ofInt 64 (a % 18446744073709551616)).toNat
  rw [BitVec.toNat_ofInt, BitVec.toNat_ofInt]
  show (a % 18446744073709551616).toNat = (a % 18446744073709551616 % 18446744073709551616).toNat
  rw [Int.emod_emod_of_dvd _ (Int.dvd_refl _)]
theorem gn_maskZ {a b p : Int} (k : Nat) (hk : k < 64) (hb : b = ((2 ^ k - 1 : Nat) : Int)) (hp : p = ((2 ^ k : Nat) : Int)) : Int64.ofInt a &&& Int64.ofInt b = Int64.ofInt (a % p) := by
  subst hb
  subst hp
  have h : (0 : Int) ≤ a % 18446744073709551616 := Int.emod_nonneg _ (by decide)
  have h2 : a % 18446744073709551616 < 18446744073709551616 := Int.emod_lt_of_pos _ (by decide)
  have hd : ((2 ^ k : Nat) : Int) ∣ 18446744073709551616 := Int.natCast_dvd_natCast.mpr (Nat.pow_dvd_pow 2 (show k ≤ 64 by omega))
  rw [gn_lN, gn_lz, wb_mask (by omega) hk, ← gn_lN, Int.natCast_emod, Int.toNat_of_nonneg h, Int.emod_emod_of_dvd a hd]
theorem gn_s63 : ∀ k, k < 64 → (((nI k).toInt64 &&& 63).toBitVec.smod 64).toNat = k := by decide +kernel
theorem gn_shrL {a b p : Int} (k : Nat) (hk : k < 64) (hb : b = (k : Int)) (hp : p = ((2 ^ k : Nat) : Int)) (ha : -9223372036854775808 ≤ a ∧ a ≤ 9223372036854775807) : Int64.ofInt a >>> ((Int32.ofInt b).toInt64 &&& 63) = Int64.ofInt (a / p) := by
  subst hb
  subst hp
  apply Int64.toInt_inj.mp
  have hp0 : (0 : Int) < ((2 ^ k : Nat) : Int) := by
    have := Nat.two_pow_pos k
    omega
  have h1 : (Int64.ofInt a >>> ((Int32.ofInt (k : Int)).toInt64 &&& 63)).toInt = (Int64.ofInt a).toInt >>> k := by
    show ((Int64.ofInt a).toBitVec.sshiftRight ((((Int32.ofInt (k : Int)).toInt64 &&& 63).toBitVec.smod 64).toNat)).toInt = _
    rw [gn_nI, gn_s63 k hk, BitVec.toInt_sshiftRight]
    rfl
  have h2 : a / ((2 ^ k : Nat) : Int) * ((2 ^ k : Nat) : Int) + a % ((2 ^ k : Nat) : Int) = a := by rw [Int.mul_comm]; exact Int.mul_ediv_add_emod _ _
  have h3 : -9223372036854775808 ≤ a / ((2 ^ k : Nat) : Int) ∧ a / ((2 ^ k : Nat) : Int) ≤ 9223372036854775807 := by
    constructor
    · rw [Int.le_ediv_iff_mul_le hp0]
      have := Int.mul_le_mul_of_nonneg_left (show (1 : Int) ≤ ((2 ^ k : Nat) : Int) by omega) (show (0 : Int) ≤ 9223372036854775808 by decide)
      omega
    · by_cases hn : 0 ≤ a
      · exact Int.le_trans (Int.ediv_le_self _ hn) ha.2
      · have := Int.ediv_neg_of_neg_of_pos (show a < 0 by omega) hp0
        omega
  rw [h1, gn_ti64 ha, gn_ti64 h3, Int.shiftRight_eq_div_pow]
theorem gn_muly {x y : Int} (hx : 0 ≤ x ∧ x ≤ 1073741823) (hy : 0 ≤ y ∧ y ≤ 1073741823) : 0 ≤ x * y ∧ x * y ≤ 1152921502459363329 := by
  refine ⟨Int.mul_nonneg hx.1 hy.1, ?_⟩
  have := Int.mul_le_mul hx.2 hy.2 hy.1 (by omega)
  omega
section GoMore2
variable {φ : go_F} {l : Launch} {M : go_M} {R : Room} {u : Nat × Nat} {pc q n : Nat} {L : List (Option mv_V)} {st rest : List mv_V} {h : mv_H}
theorem go_ldcw {i : Nat} {z : Int} {x : Int32} (hd : decode M.2.1 pc = .ok (.ldc_w i, 3)) (hp : pc + 3 = q) (hw : Cond.constant M.1.cls i x ∈ go_T) (hz : x = Int32.ofInt z) (k : Go φ l M R u q L (mv_I z :: st) h n) : Go φ l M R u pc L st h n := by
  subst hp
  intro p e s m args below meth c D ca zt A n0 ad0 C H locs ls ad hS hP hD hl hn ha oh ol os
  intro T hT X
  obtain ⟨t, a, b⟩ := k p e s m args below meth c D ca zt A n0 ad0 C H locs ls ad hS hP hD hl hn ha oh ol (ok_S.cons trivial os) T hT X
  refine ⟨t, X.ldcWInt C.1 C.2.2.2.2.2.2.1 (C.2.2.2.2.2.2.2.1 _ hw) (g := F0 m pc ls (st.map (mv_c zt ad))) rfl (by rw [C.2.1]; exact hd) t ?_, b⟩
  rw [hz]
  exact a
theorem go_lsw {d len : Nat} {df a off : Int} {ps : Array (Int × Int)} {z : Int} (hd : decode M.2.1 pc = .ok (.lookupswitch df ps, len)) (hs : (ps.toList.zip (ps.toList.drop 1)).all (fun (a, next) => a.1 < next.1) = true) (hz : -2147483648 ≤ z ∧ z ≤ 2147483647) (hf : ps.find? (·.1 == z) = some (a, off)) (hq : (pc : Int) + off = (d : Int)) (k : Go φ l M R u d L st h n) : Go φ l M R u pc L (mv_I z :: st) h n := by
  intro p e s m args below meth c D ca zt A n0 ad0 C H locs ls ad hS hP hD hl hn ha oh ol os
  intro T hT X
  obtain ⟨t, a1, b⟩ := k p e s m args below meth c D ca zt A n0 ad0 C H locs ls ad hS hP hD hl hn ha oh ol os.tl T hT X
  refine ⟨t, X.lookupswitchHit C.1 (g := F0 m pc ls (Value.int (Int32.ofInt z) :: st.map (mv_c zt ad))) rfl (rest := st.map (mv_c zt ad)) rfl (by rw [C.2.1]; exact hd) hs (a := a) (off := off) (by rw [gn_ti hz]; exact hf) (by show 0 ≤ (pc : Int) + off; omega) t ?_, b⟩
  have e : ((pc : Int) + off).toNat = d := by omega
  show Steps _ _ _ (T.setTop (F0 m ((pc : Int) + off).toNat ls (st.map (mv_c zt ad)))) _
  rw [e]
  exact a1
theorem go_lswd {d len : Nat} {df : Int} {ps : Array (Int × Int)} {z : Int} (hd : decode M.2.1 pc = .ok (.lookupswitch df ps, len)) (hs : (ps.toList.zip (ps.toList.drop 1)).all (fun (a, next) => a.1 < next.1) = true) (hz : -2147483648 ≤ z ∧ z ≤ 2147483647) (hf : ps.find? (·.1 == z) = none) (hq : (pc : Int) + df = (d : Int)) (k : Go φ l M R u d L st h n) : Go φ l M R u pc L (mv_I z :: st) h n := by
  intro p e s m args below meth c D ca zt A n0 ad0 C H locs ls ad hS hP hD hl hn ha oh ol os
  intro T hT X
  obtain ⟨t, a1, b⟩ := k p e s m args below meth c D ca zt A n0 ad0 C H locs ls ad hS hP hD hl hn ha oh ol os.tl T hT X
  refine ⟨t, X.lookupswitchMiss C.1 (g := F0 m pc ls (Value.int (Int32.ofInt z) :: st.map (mv_c zt ad))) rfl (rest := st.map (mv_c zt ad)) rfl (by rw [C.2.1]; exact hd) hs (by rw [gn_ti hz]; exact hf) (by show 0 ≤ (pc : Int) + df; omega) t ?_, b⟩
  have e : ((pc : Int) + df).toNat = d := by omega
  show Steps _ _ _ (T.setTop (F0 m ((pc : Int) + df).toNat ls (st.map (mv_c zt ad)))) _
  rw [e]
  exact a1
theorem go_tsw {d len : Nat} {df lo hi off : Int} {os0 : Array Int} {z : Int} (hd : decode M.2.1 pc = .ok (.tableswitch df lo hi os0, len)) (hz : -2147483648 ≤ z ∧ z ≤ 2147483647) (hin : lo ≤ z ∧ z ≤ hi) (hf : os0[(z - lo).toNat]? = some off) (hq : (pc : Int) + off = (d : Int)) (k : Go φ l M R u d L st h n) : Go φ l M R u pc L (mv_I z :: st) h n := by
  intro p e s m args below meth c D ca zt A n0 ad0 C H locs ls ad hS hP hD hl hn ha oh ol os
  intro T hT X
  obtain ⟨t, a1, b⟩ := k p e s m args below meth c D ca zt A n0 ad0 C H locs ls ad hS hP hD hl hn ha oh ol os.tl T hT X
  refine ⟨t, X.tableswitchIn C.1 (g := F0 m pc ls (Value.int (Int32.ofInt z) :: st.map (mv_c zt ad))) rfl (rest := st.map (mv_c zt ad)) rfl (by rw [C.2.1]; exact hd) (by rw [gn_ti hz]; omega) (off := off) (by rw [gn_ti hz]; exact hf) (by show 0 ≤ (pc : Int) + off; omega) t ?_, b⟩
  have e : ((pc : Int) + off).toNat = d := by omega
  show Steps _ _ _ (T.setTop (F0 m ((pc : Int) + off).toNat ls (st.map (mv_c zt ad)))) _
  rw [e]
  exact a1
theorem go_tswd {d len : Nat} {df lo hi : Int} {os0 : Array Int} {z : Int} (hd : decode M.2.1 pc = .ok (.tableswitch df lo hi os0, len)) (hz : -2147483648 ≤ z ∧ z ≤ 2147483647) (hin : z < lo ∨ hi < z) (hq : (pc : Int) + df = (d : Int)) (k : Go φ l M R u d L st h n) : Go φ l M R u pc L (mv_I z :: st) h n := by
  intro p e s m args below meth c D ca zt A n0 ad0 C H locs ls ad hS hP hD hl hn ha oh ol os
  intro T hT X
  obtain ⟨t, a1, b⟩ := k p e s m args below meth c D ca zt A n0 ad0 C H locs ls ad hS hP hD hl hn ha oh ol os.tl T hT X
  refine ⟨t, X.tableswitchOut C.1 (g := F0 m pc ls (Value.int (Int32.ofInt z) :: st.map (mv_c zt ad))) rfl (rest := st.map (mv_c zt ad)) rfl (by rw [C.2.1]; exact hd) (by rw [gn_ti hz]; omega) (by show 0 ≤ (pc : Int) + df; omega) t ?_, b⟩
  have e : ((pc : Int) + df).toNat = d := by omega
  show Steps _ _ _ (T.setTop (F0 m ((pc : Int) + df).toNat ls (st.map (mv_c zt ad)))) _
  rw [e]
  exact a1
theorem go_mmin {idx : Nat} {a b : Int} (hw1 : Cond.methodLink M.1.cls idx Lib.Math.min.name ∈ go_T) (hw2 : Cond.static Lib.Math.min.name ∈ go_T) (hw3 : Cond.initialized "java/lang/Math" ∈ go_T) (hw4 : Cond.code Lib.Math.min.name Lib.Math.min.code 2 (some .int) ∈ go_T) (hd : decode M.2.1 pc = .ok (.invokestatic idx, 3)) (hp : pc + 3 = q) (ha0 : -2147483648 ≤ a ∧ a ≤ 2147483647) (hb0 : -2147483648 ≤ b ∧ b ≤ 2147483647) (hR : 1 ≤ R.frames ∧ (rest.map mv_k).sum + 13 ≤ R.locals ∧ u.1 ≤ R.cells ∧ u.2 ≤ R.slots) (k : Go φ l M R u q L (mv_I (if b < a then b else a) :: rest) h n) : Go φ l M R u pc L (mv_I b :: mv_I a :: rest) h n := by
  subst hp
  intro p e s m args below meth c D ca zt A n0 ad0 C H locs ls ad hS hP hD hl hn ha oh ol os
  obtain ⟨c1, c2, c3, c4, c5, c6, c7, c8, k0, c10⟩ := id C
  refine va_mmin c1 c2 (by rw [c3]; exact hl.1.symm) c7 (c8 _ hw1) (c8 _ hw2) (c8 _ hw3) (c8 _ hw4) hR.1 (by rw [mv_sum]; exact hR.2.1) hR.2.2.1 hR.2.2.2 hd ?_
  have e1 : (if Int32.ofInt b < Int32.ofInt a then Int32.ofInt b else Int32.ofInt a) = Int32.ofInt (if b < a then b else a) := by
    by_cases hlt : b < a
    · rw [if_pos hlt, if_pos ((gn_lt hb0 ha0).mpr hlt)]
    · rw [if_neg hlt, if_neg (fun z => hlt ((gn_lt hb0 ha0).mp z))]
  rw [e1]
  exact k p e s m args below meth c D ca zt A n0 ad0 C H locs ls ad hS hP hD hl hn ha oh ol (ok_S.cons trivial os.tl.tl)
theorem go_mminL {idx : Nat} {a b : Int} (hw1 : Cond.methodLink M.1.cls idx Lib.MathLoose.min_long.x ∈ go_T) (hw2 : Cond.static Lib.MathLoose.min_long.x ∈ go_T) (hw3 : Cond.initialized "java/lang/Math" ∈ go_T) (hw4 : Cond.code Lib.MathLoose.min_long.x Lib.MathLoose.min_long.code 4 (some .long) ∈ go_T) (hd : decode M.2.1 pc = .ok (.invokestatic idx, 3)) (hp : pc + 3 = q) (ha0 : -9223372036854775808 ≤ a ∧ a ≤ 9223372036854775807) (hb0 : -9223372036854775808 ≤ b ∧ b ≤ 9223372036854775807) (hR : 1 ≤ R.frames ∧ (rest.map mv_k).sum + 15 ≤ R.locals ∧ u.1 ≤ R.cells ∧ u.2 ≤ R.slots) (k : Go φ l M R u q L (mv_L (if b < a then b else a) :: rest) h n) : Go φ l M R u pc L (mv_L b :: mv_L a :: rest) h n := by
  subst hp
  intro p e s m args below meth c D ca zt A n0 ad0 C H locs ls ad hS hP hD hl hn ha oh ol os
  obtain ⟨c1, c2, c3, c4, c5, c6, c7, c8, k0, c10⟩ := id C
  refine va_mmin_long c1 c2 (by rw [c3]; exact hl.1.symm) c7 (c8 _ hw1) (c8 _ hw2) (c8 _ hw3) (c8 _ hw4) hR.1 (by rw [mv_sum]; exact hR.2.1) hR.2.2.1 hR.2.2.2 hd ?_
  have e1 : (if Int64.ofInt b < Int64.ofInt a then Int64.ofInt b else Int64.ofInt a) = Int64.ofInt (if b < a then b else a) := by
    by_cases hlt : b < a
    · rw [if_pos hlt, if_pos (by rw [Int64.lt_iff_toInt_lt, gn_ti64 ha0, gn_ti64 hb0]; exact hlt)]
    · rw [if_neg hlt, if_neg (by rw [Int64.lt_iff_toInt_lt, gn_ti64 ha0, gn_ti64 hb0]; exact hlt)]
  rw [e1]
  exact k p e s m args below meth c D ca zt A n0 ad0 C H locs ls ad hS hP hD hl hn ha oh ol (ok_S.cons trivial os.tl.tl)
end GoMore2
