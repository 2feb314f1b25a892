/-! the law's own rules: the script (no cell of the world: mv_X 9), the switch, the row of two ints, the end -/
def go_xs (N : Nat) (xs : Nat → Int32) (Φ : go_F) : go_F := fun below args s A D ca zt n0 ad0 t => (va_X (zt 9) N xs s s.heap ∧ zt 9 < s.heap.size ∧ ¬ A (zt 9)) → Φ below args s A D ca zt n0 ad0 t
abbrev go_xx (N : Nat) (xs : Nat → Int32) (Φ : go_F) : go_F := go_xf (go_xs N xs Φ)
section LaRules
variable {Φ : go_F} {l : Launch} {M : go_M} {R : Room} {u : Nat × Nat} {pc q N : Nat} {xs : Nat → Int32} {L : List (Option mv_V)} {st : List mv_V} {h : mv_H} {n : Nat}
theorem go_sld {a : Int} {i : Nat} (hd : decode M.2.1 pc = .ok (.iaload, 1)) (hp : pc + 1 = q) (ha0 : a = (i : Int)) (hi : i < N) (hN : N < 2147483648) (k : Go (go_xx N xs Φ) l M R u q L (mv_I (xs i).toInt :: st) h n) : Go (go_xx N xs Φ) l M R u pc L (mv_I a :: mv_X 9 :: st) h n := by
  subst hp
  intro p e s m args below meth c D ca zt A n0 ad0 C H locs ls ad hS hP hD hl hn ha oh ol os
  rcases Classical.em (¬ (va_X (zt 9) N xs s s.heap ∧ zt 9 < s.heap.size ∧ ¬ A (zt 9))) with hx | hx
  · intro T hT X0
    exact ⟨_, Steps.refl _, fun _ h => absurd h hx⟩
  obtain ⟨x1, x2, x3⟩ := Classical.not_not.mp hx
  obtain ⟨g1, g2⟩ := gn_in ha0 hi hN
  have kk := k p e s m args below meth c D ca zt A n0 ad0 C H locs ls ad hS hP hD hl hn ha oh ol (ok_S.cons trivial os.tl.tl)
  refine va_sld C.1 C.2.1 x1 x2 x3 hS g1 hd ?_
  rw [g2]
  have e : (mv_I (xs i).toInt :: st).map (mv_c zt ad) = .int (xs i) :: st.map (mv_c zt ad) := by
    show Value.int (Int32.ofInt (xs i).toInt) :: _ = _
    rw [Int32.ofInt_toInt]
  rw [e] at kk
  exact kk
theorem go_slen (hd : decode M.2.1 pc = .ok (.arraylength, 1)) (hp : pc + 1 = q) (k : Go (go_xx N xs Φ) l M R u q L (mv_I (N : Int) :: st) h n) : Go (go_xx N xs Φ) l M R u pc L (mv_X 9 :: st) h n := by
  subst hp
  intro p e s m args below meth c D ca zt A n0 ad0 C H locs ls ad hS hP hD hl hn ha oh ol os
  rcases Classical.em (¬ (va_X (zt 9) N xs s s.heap ∧ zt 9 < s.heap.size ∧ ¬ A (zt 9))) with hx | hx
  · intro T hT X0
    exact ⟨_, Steps.refl _, fun _ h => absurd h hx⟩
  obtain ⟨x1, x2, x3⟩ := Classical.not_not.mp hx
  have kk := k p e s m args below meth c D ca zt A n0 ad0 C H locs ls ad hS hP hD hl hn ha oh ol (ok_S.cons trivial os.tl)
  refine va_slen C.1 C.2.1 x1 x2 x3 hS hd ?_
  have e : (mv_I (N : Int) :: st).map (mv_c zt ad) = .int (Int32.ofNat N) :: st.map (mv_c zt ad) := by
    show Value.int (Int32.ofInt (N : Int)) :: _ = _
    rw [Int32.ofInt_eq_ofNat]
  rw [e] at kk
  exact kk
theorem go_tabI {φ : go_F} {dflt lo hi off a : Int} {offs : Array Int} {len tgt : Nat} (hd : decode M.2.1 pc = .ok (.tableswitch dflt lo hi offs, len)) (hr : -2147483648 ≤ a ∧ a ≤ 2147483647) (h1 : lo ≤ a ∧ a ≤ hi) (ho : offs[(a - lo).toNat]? = some off) (ht : (pc : Int) + off = (tgt : Int)) (k : Go φ l M R u tgt L st h n) : Go φ l M R u pc L (mv_I a :: st) h n := by
  intro p e s m args below meth c D ca zt A n0 ad0 C H locs ls ad hS hP hD hl hn ha oh ol os
  exact lv_tableIn (x := Int32.ofInt a) C.1 C.2.1 hd (by rw [gn_ti hr]; omega) (by rw [gn_ti hr]; omega) (by rw [gn_ti hr]; exact ho) ht (k p e s m args below meth c D ca zt A n0 ad0 C H locs ls ad hS hP hD hl hn ha oh ol os.tl)
theorem go_tabO {φ : go_F} {dflt lo hi a : Int} {offs : Array Int} {len tgt : Nat} (hd : decode M.2.1 pc = .ok (.tableswitch dflt lo hi offs, len)) (hr : -2147483648 ≤ a ∧ a ≤ 2147483647) (h1 : a < lo ∨ hi < a) (ht : (pc : Int) + dflt = (tgt : Int)) (k : Go φ l M R u tgt L st h n) : Go φ l M R u pc L (mv_I a :: st) h n := by
  intro p e s m args below meth c D ca zt A n0 ad0 C H locs ls ad hS hP hD hl hn ha oh ol os
  exact lv_tableOut (x := Int32.ofInt a) C.1 C.2.1 hd (by rw [gn_ti hr]; exact h1) ht (k p e s m args below meth c D ca zt A n0 ad0 C H locs ls ad hS hP hD hl hn ha oh ol os.tl)
/-- the row of two ints -/
def wz_ (a b : Int) : Int := ((Int64.ofInt a <<< ((Int32.ofInt 32).toInt64 &&& 63)) ||| (Int64.ofInt b &&& Int64.ofInt 4294967295)).toInt
theorem wz_b (a b : Int) : -9223372036854775808 ≤ wz_ a b ∧ wz_ a b ≤ 9223372036854775807 := by
  have h1 := Int64.le_toInt ((Int64.ofInt a <<< ((Int32.ofInt 32).toInt64 &&& 63)) ||| (Int64.ofInt b &&& Int64.ofInt 4294967295))
  have h2 := Int64.toInt_lt ((Int64.ofInt a <<< ((Int32.ofInt 32).toInt64 &&& 63)) ||| (Int64.ofInt b &&& Int64.ofInt 4294967295))
  unfold wz_
  omega
/-- i2l, 32, lshl, (the second int), i2l, the mask, land, lor: from the two ints -/
theorem go_row1 {φ : go_F} {a : Int} {q2 q3 : Nat} (d0 : decode M.2.1 pc = .ok (.i2l, 1)) (d1 : decode M.2.1 (pc + 1) = .ok (.bipush 32, 2)) (d2 : decode M.2.1 (pc + 3) = .ok (.lshl, 1)) (hp : pc + 4 = q) (ha : -2147483648 ≤ a ∧ a ≤ 2147483647) (k : Go φ l M R u q L (mv_L (Int64.ofInt a <<< ((Int32.ofInt 32).toInt64 &&& 63)).toInt :: st) h n) : Go φ l M R u pc L (mv_I a :: st) h n := by
  refine go_i2l d0 rfl ha ?_
  refine go_bipush d1 rfl (by decide) ?_
  exact go_lshl d2 hp (Int64.ofInt_toInt _).symm k
theorem go_row2 {φ : go_F} {a b : Int} {i : Nat} (d0 : decode M.2.1 pc = .ok (.i2l, 1)) (d1 : decode M.2.1 (pc + 1) = .ok (.ldc2_w i, 3)) (hw : Cond.constantLong M.1.cls i 4294967295 ∈ go_T) (d2 : decode M.2.1 (pc + 4) = .ok (.land, 1)) (d3 : decode M.2.1 (pc + 5) = .ok (.lor, 1)) (hp : pc + 6 = q) (hb : -2147483648 ≤ b ∧ b ≤ 2147483647) (k : Go φ l M R u q L (mv_L (wz_ a b) :: st) h n) : Go φ l M R u pc L (mv_I b :: mv_L (Int64.ofInt a <<< ((Int32.ofInt 32).toInt64 &&& 63)).toInt :: st) h n := by
  refine go_i2l d0 rfl hb ?_
  refine go_ldc2 (z := 4294967295) d1 rfl hw rfl ?_
  refine go_land d2 rfl (Int64.ofInt_toInt _).symm ?_
  refine go_lor d3 hp ?_ k
  rw [Int64.ofInt_toInt, Int64.ofInt_toInt]
  exact (Int64.ofInt_toInt _).symm
/-- the law's end -/
def go_le (b : Nat) : go_F := fun below args s A _ _ _ _ _ t => (args = #[Value.ref b] ∧ ∀ q, A q → s.heap.size ≤ q) → lw_Z below #[Value.ref b] s t
theorem go_lend {b : Nat} (hd : decode code pc = .ok (.ireturn, 1)) (hu : u.1 ≤ 601024 ∧ u.2 ≤ 7293034) : Go (go_xx N xs (go_le b)) l m_la_law room_1 u pc L [mv_I 1] h n := by
  intro p e s m args below meth c D ca zt A n0 ad0 C H locs ls ad hS hP hD hl hn ha oh ol os
  obtain ⟨c1, c2, c3, c4, c5, c6, c7, c8, k0, c10⟩ := id C
  intro T hT X
  rcases Classical.em (¬ (args = #[Value.ref b] ∧ ∀ q, A q → s.heap.size ≤ q)) with hx | hx
  · exact ⟨_, Steps.refl _, fun _ _ h => absurd h hx⟩
  obtain ⟨x1, x2⟩ := Classical.not_not.mp hx
  subst x1
  have Xw : Stand p l e room_1 s m #[Value.ref b] below meth c T [] 601024 7293034 := { X with same := X.same.weaken (fun y hy hlt => absurd (x2 y.base (hS.2.2 y hy)) (Nat.not_le.mpr hlt)) hu.1 hu.2 }
  obtain ⟨t, a1, b1⟩ := lw_ret (l := l) c1 c2 c4 c5 hd T hT Xw
  exact ⟨t, a1, fun _ _ _ => b1⟩
end LaRules
