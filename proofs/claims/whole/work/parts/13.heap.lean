/-! THE PURE MACHINE, part 3: fields, arrays, new cells. -/
/-- what the tables say of a class of the world: its number ci, its name, fields and types -/
def go_cls (ci : Nat) (C : String) (T : u_T) (N : Nat) (ty : Nat → FieldType) : Prop :=
  vwCl[ci]? = some (C, T, N) ∧ (∀ w ∈ u_ws C T N, w ∈ go_T) ∧ (∀ k, k < N → parseFieldDescriptor (T k).2.2.1 = some (ty k)) ∧ ∀ a, a < N → ∀ b, b < N → a ≠ b → (T a).2.1 ≠ (T b).2.1
/-- what 'idx' names in the class 'own': the field k of the class ci, its type, and whether it is final -/
def go_fld (own : String) (idx ci k : Nat) (ty : FieldType) (fin : Bool) : Prop := ∃ (C : String) (T : u_T) (N : Nat) (ty0 : Nat → FieldType), go_cls ci C T N ty0 ∧ k < N ∧ ty0 k = ty ∧ (T k).2.2.2 = fin ∧
  (Cond.fieldLink own idx (T k).1 (T k).2.1 (T k).2.2.1 ∈ go_T ∨ ∃ host, Cond.fieldLinkNest own idx (T k).1 (T k).2.1 (T k).2.2.1 host ∈ go_N)
/-- a final field of the class's own -/
def go_flF (own : String) (idx ci k : Nat) (ty : FieldType) : Prop := ∃ (C : String) (T : u_T) (N : Nat) (ty0 : Nat → FieldType), go_cls ci C T N ty0 ∧ k < N ∧ ty0 k = ty ∧ (T k).2.2.2 = true ∧ (T k).1 = own ∧ Cond.fieldLink own idx (T k).1 (T k).2.1 (T k).2.2.1 ∈ go_T
theorem go_fitI (z : Int) (zt ad : Nat → Nat) : narrow .int (mv_c zt ad (mv_I z)) = mv_c zt ad (mv_I z) ∧ fits .int (mv_c zt ad (mv_I z)) = true := ⟨rfl, rfl⟩
theorem go_fitZ {z : Int} (hz : z = 0 ∨ z = 1) (zt ad : Nat → Nat) : narrow .boolean (mv_c zt ad (mv_I z)) = mv_c zt ad (mv_I z) ∧ fits .boolean (mv_c zt ad (mv_I z)) = true := by
  rcases hz with rfl | rfl
  · exact ⟨by show narrow .boolean (.int (Int32.ofInt 0)) = .int (Int32.ofInt 0); decide, by show fits .boolean (.int (Int32.ofInt 0)) = true; decide⟩
  · exact ⟨by show narrow .boolean (.int (Int32.ofInt 1)) = .int (Int32.ofInt 1); decide, by show fits .boolean (.int (Int32.ofInt 1)) = true; decide⟩
theorem go_fitR (C : String) (r : Nat) (zt ad : Nat → Nat) : narrow (.object C) (mv_c zt ad (mv_R r)) = mv_c zt ad (mv_R r) ∧ fits (.object C) (mv_c zt ad (mv_R r)) = true := ⟨rfl, rfl⟩
theorem go_fitA (C : FieldType) (r : Nat) (zt ad : Nat → Nat) : narrow (.array C) (mv_c zt ad (mv_R r)) = mv_c zt ad (mv_R r) ∧ fits (.array C) (mv_c zt ad (mv_R r)) = true := ⟨rfl, rfl⟩
section GoHeap
variable {φ : go_F} {l : Launch} {M : go_M} {R : Room} {u : Nat × Nat} {pc q : Nat} {L : List (Option mv_V)} {st : List mv_V} {h : mv_H} {n : Nat}
theorem go_getf {idx ci k r : Nat} {ty : FieldType} {fin : Bool} {fs : List mv_V} {v : mv_V} (hf : go_fld M.1.cls idx ci k ty fin) (hd : decode M.2.1 pc = .ok (.getfield idx, 3)) (hp : pc + 3 = q) (hh : h r = mv_O ci fs) (hv : fs[k]? = some v) (kk : Go φ l M R u q L (v :: st) h n) : Go φ l M R u pc L (mv_R r :: st) h n := by
  subst hp
  obtain ⟨C', T, N, ty0, ⟨hc, hin, hty, hnm⟩, hk, -, -, hlink⟩ := hf
  intro p e s m args below meth c D ca zt A n0 ad0 C H locs ls ad hS hP hD hl hn ha oh ol os
  have hr : 0 < r ∧ r < n := os.hd
  have he : (mv_W ca zt ad h n)[r - 1]? = some (ad r, .inr (ci, fs.map (mv_c zt ad))) := mv_W_is hr hh
  have hv' : (fs.map (mv_c zt ad))[k]? = some (mv_c zt ad v) := by rw [List.getElem?_map, hv]; rfl
  have ov : ok_V n v := by
    have := oh.2 r hr
    rw [hh] at this
    exact this v (List.mem_of_getElem? hv)
  have kk' := kk p e s m args below meth c D ca zt A n0 ad0 C H locs ls ad hS hP hD hl hn ha oh ol (ok_S.cons ov os.tl)
  obtain ⟨c1, c2, c3, c4, c5, c6, c7, c8, ⟨k1, k2, k3⟩, c10⟩ := C
  rcases hlink with hl1 | ⟨host, hl1⟩
  · exact va_get c1 c2 c8 hin c7 k1 hP (r - 1) he hc k hk (c8 _ hl1) (fun _ z => z) hv' hd kk'
  · exact va_getN c1 c2 c8 hin c7 k1 hP (r - 1) he hc k hk (va_Nw.use rfl (k2 _ hl1)) (fun _ z => z) hv' hd kk'
theorem go_putf {idx ci k r : Nat} {ty : FieldType} {fs : List mv_V} {v : mv_V} (hf : go_fld M.1.cls idx ci k ty false) (hd : decode M.2.1 pc = .ok (.putfield idx, 3)) (hp : pc + 3 = q) (hh : h r = mv_O ci fs) (hk0 : k < fs.length) (hfit : ∀ zt ad, narrow ty (mv_c zt ad v) = mv_c zt ad v ∧ fits ty (mv_c zt ad v) = true) (kk : Go φ l M R u q L st (va_up h r (mv_O ci (fs.set k v))) n) : Go φ l M R u pc L (v :: mv_R r :: st) h n := by
  subst hp
  obtain ⟨C', T, N, ty0, ⟨hc, hin, hty, hnm⟩, hk, ht, hfin, hlink⟩ := hf
  intro p e s m args below meth c D ca zt A n0 ad0 C H locs ls ad hS hP hD hl hn ha oh ol os
  have hr : 0 < r ∧ r < n := os.tl.hd
  have he : (mv_W ca zt ad h n)[r - 1]? = some (ad r, .inr (ci, fs.map (mv_c zt ad))) := mv_W_is hr hh
  have hl' : k < (fs.map (mv_c zt ad)).length := by simpa using hk0
  have hset : ∀ (P : va_W → Prop), P ((mv_W ca zt ad h n).set (r - 1) (ad r, .inr (ci, (fs.map (mv_c zt ad)).set k (mv_c zt ad v)))) → P (mv_W ca zt ad (va_up h r (mv_O ci (fs.set k v))) n) := by
    intro P hp
    rw [← mv_W_set hr.1]
    show P ((mv_W ca zt ad h n).set (r - 1) (ad r, .inr (ci, (fs.set k v).map (mv_c zt ad))))
    rw [List.map_set]
    exact hp
  have oh' : ok_H n (va_up h r (mv_O ci (fs.set k v))) := by
    refine oh.up fun w hw => ?_
    have h1 := oh.2 r hr
    rw [hh] at h1
    rcases List.mem_or_eq_of_mem_set hw with hw | rfl
    · exact h1 w hw
    · exact os.hd
  have kk' : ∀ (H1 : Heap) (locs1 : List Loc), va_P D vwCl ((mv_W ca zt ad h n).set (r - 1) (ad r, .inr (ci, (fs.map (mv_c zt ad)).set k (mv_c zt ad v)))) H1 → va_D A ((mv_W ca zt ad h n).set (r - 1) (ad r, .inr (ci, (fs.map (mv_c zt ad)).set k (mv_c zt ad v)))) → va_S A s.heap H1 locs1 → W p l e R s m args below meth c H1 locs1 u.1 u.2 (φ below args s A D ca zt n0 ad0) (F0 m (pc + 3) ls (st.map (mv_c zt ad))) :=
    fun H1 locs1 hP1 hD1 hS1 => kk p e s m args below meth c D ca zt A n0 ad0 C H1 locs1 ls ad hS1 (hset (fun w => va_P D vwCl w H1) hP1) (hset (fun w => va_D A w) hD1) hl hn ha oh' ol os.tl.tl
  obtain ⟨c1, c2, c3, c4, c5, c6, c7, c8, ⟨k1, k2, k3⟩, c10⟩ := C
  have hd0 : parseFieldDescriptor (T k).2.2.1 = some ty := by rw [hty k hk, ht]
  rcases hlink with hl1 | ⟨host, hl1⟩
  · exact va_put c1 c2 c8 hin ty0 hty hnm c7 k1 hP hD hS (r - 1) he hc k hk (c8 _ hl1) (fun _ z => z) hfin hd0 (hfit zt ad).1 (hfit zt ad).2 hl' hd kk'
  · exact va_putN c1 c2 c8 hin ty0 hty hnm c7 k1 hP hD hS (r - 1) he hc k hk (va_Nw.use rfl (k2 _ hl1)) (fun _ z => z) hfin hd0 (hfit zt ad).1 (hfit zt ad).2 hl' hd kk'
theorem go_putF {idx ci k r : Nat} {ty : FieldType} {fs : List mv_V} {v : mv_V} (hf : go_flF M.1.cls idx ci k ty) (hi : M.1.name = "<init>") (hd : decode M.2.1 pc = .ok (.putfield idx, 3)) (hp : pc + 3 = q) (hh : h r = mv_O ci fs) (hk0 : k < fs.length) (hfit : ∀ zt ad, narrow ty (mv_c zt ad v) = mv_c zt ad v ∧ fits ty (mv_c zt ad v) = true) (kk : Go φ l M R u q L st (va_up h r (mv_O ci (fs.set k v))) n) : Go φ l M R u pc L (v :: mv_R r :: st) h n := by
  subst hp
  obtain ⟨C', T, N, ty0, ⟨hc, hin, hty, hnm⟩, hk, ht, hfin, hdec, hl1⟩ := hf
  intro p e s m args below meth c D ca zt A n0 ad0 C H locs ls ad hS hP hD hl hn ha oh ol os
  have hr : 0 < r ∧ r < n := os.tl.hd
  have he : (mv_W ca zt ad h n)[r - 1]? = some (ad r, .inr (ci, fs.map (mv_c zt ad))) := mv_W_is hr hh
  have hl' : k < (fs.map (mv_c zt ad)).length := by simpa using hk0
  have hset : ∀ (P : va_W → Prop), P ((mv_W ca zt ad h n).set (r - 1) (ad r, .inr (ci, (fs.map (mv_c zt ad)).set k (mv_c zt ad v)))) → P (mv_W ca zt ad (va_up h r (mv_O ci (fs.set k v))) n) := by
    intro P hp
    rw [← mv_W_set hr.1]
    show P ((mv_W ca zt ad h n).set (r - 1) (ad r, .inr (ci, (fs.set k v).map (mv_c zt ad))))
    rw [List.map_set]
    exact hp
  have oh' : ok_H n (va_up h r (mv_O ci (fs.set k v))) := by
    refine oh.up fun w hw => ?_
    have h1 := oh.2 r hr
    rw [hh] at h1
    rcases List.mem_or_eq_of_mem_set hw with hw | rfl
    · exact h1 w hw
    · exact os.hd
  have kk' : ∀ (H1 : Heap) (locs1 : List Loc), va_P D vwCl ((mv_W ca zt ad h n).set (r - 1) (ad r, .inr (ci, (fs.map (mv_c zt ad)).set k (mv_c zt ad v)))) H1 → va_D A ((mv_W ca zt ad h n).set (r - 1) (ad r, .inr (ci, (fs.map (mv_c zt ad)).set k (mv_c zt ad v)))) → va_S A s.heap H1 locs1 → W p l e R s m args below meth c H1 locs1 u.1 u.2 (φ below args s A D ca zt n0 ad0) (F0 m (pc + 3) ls (st.map (mv_c zt ad))) :=
    fun H1 locs1 hP1 hD1 hS1 => kk p e s m args below meth c D ca zt A n0 ad0 C H1 locs1 ls ad hS1 (hset (fun w => va_P D vwCl w H1) hP1) (hset (fun w => va_D A w) hD1) hl hn ha oh' ol os.tl.tl
  obtain ⟨c1, c2, c3, c4, c5, c6, c7, c8, ⟨k1, k2, k3⟩, c10⟩ := C
  have hd0 : parseFieldDescriptor (T k).2.2.1 = some ty := by rw [hty k hk, ht]
  exact va_putF c1 c2 c8 hin ty0 hty hnm c7 k1 hP hD hS (r - 1) he hc k hk (c8 _ hl1) (fun _ z => z) hfin (c6.trans hi) hdec hd0 (hfit zt ad).1 (hfit zt ad).2 hl' hd kk'
theorem go_iald {r i N : Nat} {f : Nat → Int} {a : Int} (hd : decode M.2.1 pc = .ok (.iaload, 1)) (hp : pc + 1 = q) (hh : h r = mv_A 0 N f) (ha0 : a = (i : Int)) (hi : i < N) (hN : N < 2147483648) (kk : Go φ l M R u q L (mv_I (f i) :: st) h n) : Go φ l M R u pc L (mv_I a :: mv_R r :: st) h n := by
  subst hp
  intro p e s m args below meth c D ca zt A n0 ad0 C H locs ls ad hS hP hD hl hn ha oh ol os
  have hr : 0 < r ∧ r < n := os.tl.hd
  have he : (mv_W ca zt ad h n)[r - 1]? = some (ad r, .inl (ca 0, N, .inl fun j => Int32.ofInt (f j))) := mv_W_is hr hh
  obtain ⟨g1, g2⟩ := gn_in ha0 hi hN
  have kk' := kk p e s m args below meth c D ca zt A n0 ad0 C H locs ls ad hS hP hD hl hn ha oh ol (ok_S.cons trivial os.tl.tl)
  exact va_iald C.1 C.2.1 C.2.2.2.2.2.2.2.2.1.1 hP (r - 1) 0 he rfl g1 hd (by rw [g2]; exact kk')
theorem go_cald {r i N : Nat} {f : Nat → Int} {a : Int} (hd : decode M.2.1 pc = .ok (.caload, 1)) (hp : pc + 1 = q) (hh : h r = mv_A 2 N f) (ha0 : a = (i : Int)) (hi : i < N) (hN : N < 2147483648) (kk : Go φ l M R u q L (mv_I (f i) :: st) h n) : Go φ l M R u pc L (mv_I a :: mv_R r :: st) h n := by
  subst hp
  intro p e s m args below meth c D ca zt A n0 ad0 C H locs ls ad hS hP hD hl hn ha oh ol os
  have hr : 0 < r ∧ r < n := os.tl.hd
  have he : (mv_W ca zt ad h n)[r - 1]? = some (ad r, .inl (ca 2, N, .inl fun j => Int32.ofInt (f j))) := mv_W_is hr hh
  obtain ⟨g1, g2⟩ := gn_in ha0 hi hN
  have kk' := kk p e s m args below meth c D ca zt A n0 ad0 C H locs ls ad hS hP hD hl hn ha oh ol (ok_S.cons trivial os.tl.tl)
  exact va_cald C.1 C.2.1 C.2.2.2.2.2.2.2.2.1.1 hP (r - 1) 2 he rfl g1 hd (by rw [g2]; exact kk')
theorem go_lald {r i N : Nat} {f : Nat → Int} {a : Int} (hd : decode M.2.1 pc = .ok (.laload, 1)) (hp : pc + 1 = q) (hh : h r = mv_A 1 N f) (ha0 : a = (i : Int)) (hi : i < N) (hN : N < 2147483648) (kk : Go φ l M R u q L (mv_L (f i) :: st) h n) : Go φ l M R u pc L (mv_I a :: mv_R r :: st) h n := by
  subst hp
  intro p e s m args below meth c D ca zt A n0 ad0 C H locs ls ad hS hP hD hl hn ha oh ol os
  have hr : 0 < r ∧ r < n := os.tl.hd
  have he : (mv_W ca zt ad h n)[r - 1]? = some (ad r, .inl (ca 1, N, .inr (.inl fun j => Int64.ofInt (f j)))) := mv_W_is hr hh
  obtain ⟨g1, g2⟩ := gn_in ha0 hi hN
  have kk' := kk p e s m args below meth c D ca zt A n0 ad0 C H locs ls ad hS hP hD hl hn ha oh ol (ok_S.cons trivial os.tl.tl)
  exact va_lald C.1 C.2.1 C.2.2.2.2.2.2.2.2.1.1 hP (r - 1) 1 he rfl g1 hd (by rw [g2]; exact kk')
theorem go_iast {r i N : Nat} {f : Nat → Int} {a x : Int} (hd : decode M.2.1 pc = .ok (.iastore, 1)) (hp : pc + 1 = q) (hh : h r = mv_A 0 N f) (ha0 : a = (i : Int)) (hi : i < N) (hN : N < 2147483648) (kk : Go φ l M R u q L st (va_up h r (mv_A 0 N (va_up f i x))) n) : Go φ l M R u pc L (mv_I x :: mv_I a :: mv_R r :: st) h n := by
  subst hp
  intro p e s m args below meth c D ca zt A n0 ad0 C H locs ls ad hS hP hD hl hn ha oh ol os
  have hr : 0 < r ∧ r < n := os.tl.tl.hd
  have he : (mv_W ca zt ad h n)[r - 1]? = some (ad r, .inl (ca 0, N, .inl (fun j => Int32.ofInt (f j)))) := mv_W_is hr hh
  obtain ⟨g1, g2⟩ := gn_in ha0 hi hN
  have hset : ∀ (P : va_W → Prop), P ((mv_W ca zt ad h n).set (r - 1) (ad r, .inl (ca 0, N, .inl (upd (fun j => Int32.ofInt (f j)) i (Int32.ofInt x))))) → P (mv_W ca zt ad (va_up h r (mv_A 0 N (va_up f i x))) n) := by
    intro P hp
    rw [← mv_W_set hr.1]
    show P ((mv_W ca zt ad h n).set (r - 1) (ad r, .inl (ca 0, N, .inl (fun j => Int32.ofInt (va_up f i x j)))))
    have hf : (fun j => Int32.ofInt (va_up f i x j)) = upd (fun j => Int32.ofInt (f j)) i (Int32.ofInt x) := by
      funext j
      unfold upd va_up
      by_cases hj : j = i
      · rw [if_pos hj, if_pos hj]
      · rw [if_neg hj, if_neg hj]
    rw [hf]
    exact hp
  exact va_iast C.1 C.2.1 C.2.2.2.2.2.2.2.2.1.1 hP hD hS (r - 1) 0 he rfl g1 hd (fun H1 locs1 hP1 hD1 hS1 => by
    rw [g2] at hP1 hD1
    exact kk p e s m args below meth c D ca zt A n0 ad0 C H1 locs1 ls ad hS1 (hset (fun w => va_P D vwCl w H1) hP1) (hset (fun w => va_D A w) hD1) hl hn ha (oh.up trivial) ol os.tl.tl.tl)
theorem go_cast {r i N : Nat} {f : Nat → Int} {a x : Int} (hd : decode M.2.1 pc = .ok (.castore, 1)) (hp : pc + 1 = q) (hh : h r = mv_A 2 N f) (ha0 : a = (i : Int)) (hi : i < N) (hN : N < 2147483648) (hx : 0 ≤ x ∧ x ≤ 65535) (kk : Go φ l M R u q L st (va_up h r (mv_A 2 N (va_up f i x))) n) : Go φ l M R u pc L (mv_I x :: mv_I a :: mv_R r :: st) h n := by
  subst hp
  intro p e s m args below meth c D ca zt A n0 ad0 C H locs ls ad hS hP hD hl hn ha oh ol os
  have hr : 0 < r ∧ r < n := os.tl.tl.hd
  have he : (mv_W ca zt ad h n)[r - 1]? = some (ad r, .inl (ca 2, N, .inl (fun j => Int32.ofInt (f j)))) := mv_W_is hr hh
  obtain ⟨g1, g2⟩ := gn_in ha0 hi hN
  have hset : ∀ (P : va_W → Prop), P ((mv_W ca zt ad h n).set (r - 1) (ad r, .inl (ca 2, N, .inl (upd (fun j => Int32.ofInt (f j)) i (vp_nar .char (Int32.ofInt x)))))) → P (mv_W ca zt ad (va_up h r (mv_A 2 N (va_up f i x))) n) := by
    intro P hp
    rw [← mv_W_set hr.1]
    show P ((mv_W ca zt ad h n).set (r - 1) (ad r, .inl (ca 2, N, .inl (fun j => Int32.ofInt (va_up f i x j)))))
    have hf : (fun j => Int32.ofInt (va_up f i x j)) = upd (fun j => Int32.ofInt (f j)) i (vp_nar .char (Int32.ofInt x)) := by
      rw [gn_char hx]
      funext j
      unfold upd va_up
      by_cases hj : j = i
      · rw [if_pos hj, if_pos hj]
      · rw [if_neg hj, if_neg hj]
    rw [hf]
    exact hp
  exact va_cast C.1 C.2.1 C.2.2.2.2.2.2.2.2.1.1 hP hD hS (r - 1) 2 he rfl g1 hd (fun H1 locs1 hP1 hD1 hS1 => by
    rw [g2] at hP1 hD1
    exact kk p e s m args below meth c D ca zt A n0 ad0 C H1 locs1 ls ad hS1 (hset (fun w => va_P D vwCl w H1) hP1) (hset (fun w => va_D A w) hD1) hl hn ha (oh.up trivial) ol os.tl.tl.tl)
theorem go_last {r i N : Nat} {f : Nat → Int} {a x : Int} (hd : decode M.2.1 pc = .ok (.lastore, 1)) (hp : pc + 1 = q) (hh : h r = mv_A 1 N f) (ha0 : a = (i : Int)) (hi : i < N) (hN : N < 2147483648) (kk : Go φ l M R u q L st (va_up h r (mv_A 1 N (va_up f i x))) n) : Go φ l M R u pc L (mv_L x :: mv_I a :: mv_R r :: st) h n := by
  subst hp
  intro p e s m args below meth c D ca zt A n0 ad0 C H locs ls ad hS hP hD hl hn ha oh ol os
  have hr : 0 < r ∧ r < n := os.tl.tl.hd
  have he : (mv_W ca zt ad h n)[r - 1]? = some (ad r, .inl (ca 1, N, .inr (.inl (fun j => Int64.ofInt (f j))))) := mv_W_is hr hh
  obtain ⟨g1, g2⟩ := gn_in ha0 hi hN
  have hset : ∀ (P : va_W → Prop), P ((mv_W ca zt ad h n).set (r - 1) (ad r, .inl (ca 1, N, .inr (.inl (vp_updL (fun j => Int64.ofInt (f j)) i (Int64.ofInt x)))))) → P (mv_W ca zt ad (va_up h r (mv_A 1 N (va_up f i x))) n) := by
    intro P hp
    rw [← mv_W_set hr.1]
    show P ((mv_W ca zt ad h n).set (r - 1) (ad r, .inl (ca 1, N, .inr (.inl (fun j => Int64.ofInt (va_up f i x j))))))
    have hf : (fun j => Int64.ofInt (va_up f i x j)) = vp_updL (fun j => Int64.ofInt (f j)) i (Int64.ofInt x) := by
      funext j
      unfold vp_updL va_up
      by_cases hj : j = i
      · rw [if_pos hj, if_pos hj]
      · rw [if_neg hj, if_neg hj]
    rw [hf]
    exact hp
  exact va_last C.1 C.2.1 C.2.2.2.2.2.2.2.2.1.1 hP hD hS (r - 1) 1 he rfl g1 hd (fun H1 locs1 hP1 hD1 hS1 => by
    rw [g2] at hP1 hD1
    exact kk p e s m args below meth c D ca zt A n0 ad0 C H1 locs1 ls ad hS1 (hset (fun w => va_P D vwCl w H1) hP1) (hset (fun w => va_D A w) hD1) hl hn ha (oh.up trivial) ol os.tl.tl.tl)
theorem go_alen {r t N : Nat} {f : Nat → Int} {ty : FieldType} (hd : decode M.2.1 pc = .ok (.arraylength, 1)) (hp : pc + 1 = q) (hh : h r = mv_A t N f) (ht : ∀ ca, (cx_ty ca)[t]? = some (ca t, ty)) (kk : Go φ l M R u q L (mv_I (N : Int) :: st) h n) : Go φ l M R u pc L (mv_R r :: st) h n := by
  subst hp
  intro p e s m args below meth c D ca zt A n0 ad0 C H locs ls ad hS hP hD hl hn ha oh ol os
  have hr : 0 < r ∧ r < n := os.hd
  have he : (mv_W ca zt ad h n)[r - 1]? = some (ad r, .inl (ca t, N, mv_a t f)) := mv_W_is hr hh
  have kk' := kk p e s m args below meth c D ca zt A n0 ad0 C H locs ls ad hS hP hD hl hn ha oh ol (ok_S.cons trivial os.tl)
  exact va_alen C.1 C.2.1 C.2.2.2.2.2.2.2.2.1.1 hP (r - 1) t he (ht ca) Int32.ofInt_eq_ofNat.symm hd kk'
theorem go_aald {r i N j : Nat} {f : Nat → Option Nat} {a : Int} (hd : decode M.2.1 pc = .ok (.aaload, 1)) (hp : pc + 1 = q) (hh : h r = mv_Q 3 N f) (ha0 : a = (i : Int)) (hi : i < N) (hN : N < 2147483648) (hj : f i = some j) (kk : Go φ l M R u q L (mv_R j :: st) h n) : Go φ l M R u pc L (mv_I a :: mv_R r :: st) h n := by
  subst hp
  intro p e s m args below meth c D ca zt A n0 ad0 C H locs ls ad hS hP hD hl hn ha oh ol os
  have hr : 0 < r ∧ r < n := os.tl.hd
  have he : (mv_W ca zt ad h n)[r - 1]? = some (ad r, .inl (ca 3, N, .inr (.inr (.inr (.inr fun j => (f j).map ad))))) := mv_W_is hr hh
  obtain ⟨g1, g2⟩ := gn_in ha0 hi hN
  have oj : ok_V n (mv_R j) := by
    have h1 := oh.2 r hr
    rw [hh] at h1
    exact h1 i j hj
  have kk' := kk p e s m args below meth c D ca zt A n0 ad0 C H locs ls ad hS hP hD hl hn ha oh ol (ok_S.cons oj os.tl.tl)
  exact va_aldq C.1 C.2.1 C.2.2.2.2.2.2.2.2.1.1 hP (r - 1) 3 he rfl g1 hd (by rw [g2, hj]; exact kk')
theorem go_aast {r i N j ci : Nat} {f : Nat → Option Nat} {a : Int} {fs : List mv_V} {T : u_T} {N0 : Nat} (hd : decode M.2.1 pc = .ok (.aastore, 1)) (hp : pc + 1 = q) (hh : h r = mv_Q 3 N f) (ha0 : a = (i : Int)) (hi : i < N) (hN : N < 2147483648) (hj : h j = mv_O ci fs) (hc : vwCl[ci]? = some (cx_RF, T, N0)) (kk : Go φ l M R u q L st (va_up h r (mv_Q 3 N (va_up f i (some j)))) n) : Go φ l M R u pc L (mv_R j :: mv_I a :: mv_R r :: st) h n := by
  subst hp
  intro p e s m args below meth c D ca zt A n0 ad0 C H locs ls ad hS hP hD hl hn ha oh ol os
  have hr : 0 < r ∧ r < n := os.tl.tl.hd
  have hjn : 0 < j ∧ j < n := os.hd
  have he : (mv_W ca zt ad h n)[r - 1]? = some (ad r, .inl (ca 3, N, .inr (.inr (.inr (.inr fun j => (f j).map ad))))) := mv_W_is hr hh
  have hej : (mv_W ca zt ad h n)[j - 1]? = some (ad j, .inr (ci, fs.map (mv_c zt ad))) := mv_W_is hjn hj
  obtain ⟨g1, g2⟩ := gn_in ha0 hi hN
  have hset : ∀ (P : va_W → Prop), P ((mv_W ca zt ad h n).set (r - 1) (ad r, .inl (ca 3, N, .inr (.inr (.inr (.inr (va_up (fun j => (f j).map ad) i (some (ad j))))))))) → P (mv_W ca zt ad (va_up h r (mv_Q 3 N (va_up f i (some j)))) n) := by
    intro P hp
    rw [← mv_W_set hr.1]
    show P ((mv_W ca zt ad h n).set (r - 1) (ad r, .inl (ca 3, N, .inr (.inr (.inr (.inr fun k => (va_up f i (some j) k).map ad))))))
    have hf : (fun k => (va_up f i (some j) k).map ad) = va_up (fun j => (f j).map ad) i (some (ad j)) := by
      funext k
      unfold va_up
      by_cases hk : k = i
      · rw [if_pos hk, if_pos hk]; rfl
      · rw [if_neg hk, if_neg hk]
    rw [hf]
    exact hp
  have oh' : ok_H n (va_up h r (mv_Q 3 N (va_up f i (some j)))) := by
    refine oh.up fun k i' hk => ?_
    have h1 := oh.2 r hr
    rw [hh] at h1
    unfold va_up at hk
    by_cases hki : k = i
    · rw [if_pos hki] at hk
      cases hk
      exact hjn
    · rw [if_neg hki] at hk
      exact h1 k i' hk
  exact va_astq C.1 C.2.1 C.2.2.2.2.2.2.2.2.1.1 hP hD hS (r - 1) 3 (j - 1) ci he rfl hej hc g1 hd (fun H1 locs1 hP1 hD1 hS1 => by
    rw [g2] at hP1 hD1
    exact kk p e s m args below meth c D ca zt A n0 ad0 C H1 locs1 ls ad hS1 (hset (fun w => va_P D vwCl w H1) hP1) (hset (fun w => va_D A w) hD1) hl hn ha oh' ol os.tl.tl.tl)
/-- a new cell: what the world is then -/
theorem go_born {x : mv_E} {zt ad : Nat → Nat} {ca : Nat → ClassId} {a : Nat} {ls : Array Slot} {n0 : Nat} {ad0 : Nat → Nat} {nL : Nat} {e : va_E} (hl : mv_ls zt ad ls nL L) (hn : n0 ≤ n) (ha : ∀ i, i < n0 → ad i = ad0 i) (oh : ok_H n h) (ol : ok_L n L) (os : ok_S n st) (ox : ok_E (n + 1) x) (he : mv_e ca zt (va_up ad n a) x = e) :
    mv_W ca zt ad h n ++ [(a, e)] = mv_W ca zt (va_up ad n a) (va_up h n x) (n + 1) ∧ mv_ls zt (va_up ad n a) ls nL L ∧ n0 ≤ n + 1 ∧ (∀ i, i < n0 → va_up ad n a i = ad0 i) ∧ ok_H (n + 1) (va_up h n x) ∧ ok_L (n + 1) L ∧ ok_S (n + 1) (mv_R n :: st) ∧ Value.ref a :: st.map (mv_c zt ad) = (mv_R n :: st).map (mv_c zt (va_up ad n a)) := by
  have hx : ∀ i, i < n → va_up ad n a i = ad i := fun i hi => va_up_ne _ _ (Nat.ne_of_lt hi)
  refine ⟨mv_W_push oh he, hl.congr ol hx, Nat.le_succ_of_le hn, fun i hi => (hx i (Nat.lt_of_lt_of_le hi hn)).trans (ha i hi), oh.push ox, ol.mono (Nat.le_succ n), ok_S.cons ⟨oh.1, Nat.lt_succ_self n⟩ (os.mono (Nat.le_succ n)), ?_⟩
  rw [List.map_cons, mv_map_congr os hx]
  show _ = Value.ref (va_up ad n a n) :: _
  rw [va_up_self]
theorem go_new {idx ci N : Nat} {C' : String} {T : u_T} {ty0 : Nat → FieldType} {fs : List mv_V} (hc : go_cls ci C' T N ty0) (hw1 : Cond.classLink M.1.cls idx C' ∈ go_T) (hw2 : Cond.instantiable C' N ∈ go_T) (hw3 : Cond.initialized C' ∈ go_T) (hd : decode M.2.1 pc = .ok (.new idx, 3)) (hp : pc + 3 = q) (hfs : ∀ j, j < N → ∀ zt ad, defaultValue (ty0 j) = vp_V (fs.map (mv_c zt ad)) j) (hok : ok_S 0 fs) (hr1 : u.1 + 1 ≤ R.cells) (hr2 : u.2 + N ≤ R.slots)
    (kk : Go φ l M R (u.1 + 1, u.2 + N) q L (mv_R n :: st) (va_up h n (mv_O ci fs)) (n + 1)) : Go φ l M R u pc L st h n := by
  subst hp
  obtain ⟨hci, hin, hty, hnm⟩ := hc
  intro p e s m args below meth c D ca zt A n0 ad0 C H locs ls ad hS hP hD hl hn ha oh ol os
  obtain ⟨c1, c2, c3, c4, c5, c6, c7, c8, ⟨k1, k2, k3⟩, c10⟩ := id C
  refine va_new (fs := fs.map (mv_c zt ad)) c1 c2 c8 hin ty0 hty c7 (c8 _ hw1) (c8 _ hw2) (c8 _ hw3) k1 hP hD hS c10 hci (fun j hj => hfs j hj zt ad) hr1 hr2 hd (fun a H1 hP1 hD1 hS1 => ?_)
  have he : mv_e ca zt (va_up ad n a) (mv_O ci fs) = .inr (ci, fs.map (mv_c zt ad)) := by
    show (Sum.inr (ci, fs.map (mv_c zt (va_up ad n a))) : va_E) = _
    rw [mv_map_congr hok (fun i hi => absurd hi (Nat.not_lt_zero i))]
  obtain ⟨b1, b2, b3, b4, b5, b6, b7, b8⟩ := go_born (x := mv_O ci fs) (a := a) hl hn ha oh ol os (fun v hv => (hok v hv).mono (Nat.zero_le _)) he
  rw [b1] at hP1 hD1
  rw [b8]
  exact kk p e s m args below meth c D ca zt A n0 ad0 C H1 locs ls (va_up ad n a) hS1 hP1 hD1 b2 b3 b4 b5 b6 b7
theorem go_newI {N : Nat} {a : Int} (hw : Cond.arrayClass .int ∈ go_T) (hd : decode M.2.1 pc = .ok (.newarray .int, 2)) (hp : pc + 2 = q) (ha0 : a = (N : Int)) (hN : N * componentBytes .int ≤ 536870912) (hN2 : N < 2147483648) (hr1 : u.1 + 1 ≤ R.cells) (hr2 : u.2 + N ≤ R.slots)
    (kk : Go φ l M R (u.1 + 1, u.2 + N) q L (mv_R n :: st) (va_up h n (mv_A 0 N (fun _ => 0))) (n + 1)) : Go φ l M R u pc L (mv_I a :: st) h n := by
  subst hp
  subst ha0
  intro p e s m args below meth c D ca zt A n0 ad0 C H locs ls ad hS hP hD hl hn ha oh ol os
  obtain ⟨c1, c2, c3, c4, c5, c6, c7, c8, ⟨k1, k2, k3⟩, c10⟩ := id C
  have g1 : ¬ (Int32.ofInt (N : Int)) < 0 := by rw [gn_nI]; exact nI_pos (by omega)
  have g2 : (Int32.ofInt (N : Int)).toNatClampNeg = N := by rw [gn_nI]; exact nI_clamp (by omega)
  refine va_newa (atype := .int) (ty := .int) (a0 := (N, .inl (fun _ => Int32.ofInt 0))) c1 c2 (c8 _ hw) rfl k1 hP hD hS c10 (fun cA => rfl) g1 g2 hN hr1 hr2 hd (fun a cA H1 hK1 hP1 hD1 hS1 => ?_)
  have e1 : s.vm.findClass ("[" ++ (FieldType.int).toString) = some cA := (hK1.2 4 (cA, .int) rfl).2
  have e2 : s.vm.findClass ("[" ++ (FieldType.int).toString) = some (ca 0) := (k1.2 0 (ca 0, .int) rfl).2
  have e3 : cA = ca 0 := Option.some.inj (e1.symm.trans e2)
  subst e3
  obtain ⟨b1, b2, b3, b4, b5, b6, b7, b8⟩ := go_born (ca := ca) (x := mv_A 0 N (fun _ => 0)) (a := a) hl hn ha oh ol os.tl trivial rfl
  replace hP1 : va_P D vwCl (mv_W ca zt ad h n ++ [(a, mv_e ca zt (va_up ad n a) (mv_A 0 N (fun _ => 0)))]) H1 := hP1
  replace hD1 : va_D A (mv_W ca zt ad h n ++ [(a, mv_e ca zt (va_up ad n a) (mv_A 0 N (fun _ => 0)))]) := hD1
  rw [b1] at hP1 hD1
  rw [b8]
  exact kk p e s m args below meth c D ca zt A n0 ad0 C H1 locs ls (va_up ad n a) hS1 hP1 hD1 b2 b3 b4 b5 b6 b7
theorem go_newL {N : Nat} {a : Int} (hw : Cond.arrayClass .long ∈ go_T) (hd : decode M.2.1 pc = .ok (.newarray .long, 2)) (hp : pc + 2 = q) (ha0 : a = (N : Int)) (hN : N * componentBytes .long ≤ 536870912) (hN2 : N < 2147483648) (hr1 : u.1 + 1 ≤ R.cells) (hr2 : u.2 + N ≤ R.slots)
    (kk : Go φ l M R (u.1 + 1, u.2 + N) q L (mv_R n :: st) (va_up h n (mv_A 1 N (fun _ => 0))) (n + 1)) : Go φ l M R u pc L (mv_I a :: st) h n := by
  subst hp
  subst ha0
  intro p e s m args below meth c D ca zt A n0 ad0 C H locs ls ad hS hP hD hl hn ha oh ol os
  obtain ⟨c1, c2, c3, c4, c5, c6, c7, c8, ⟨k1, k2, k3⟩, c10⟩ := id C
  have g1 : ¬ (Int32.ofInt (N : Int)) < 0 := by rw [gn_nI]; exact nI_pos (by omega)
  have g2 : (Int32.ofInt (N : Int)).toNatClampNeg = N := by rw [gn_nI]; exact nI_clamp (by omega)
  refine va_newa (atype := .long) (ty := .long) (a0 := (N, .inr (.inl (fun _ => Int64.ofInt 0)))) c1 c2 (c8 _ hw) rfl k1 hP hD hS c10 (fun cA => rfl) g1 g2 hN hr1 hr2 hd (fun a cA H1 hK1 hP1 hD1 hS1 => ?_)
  have e1 : s.vm.findClass ("[" ++ (FieldType.long).toString) = some cA := (hK1.2 4 (cA, .long) rfl).2
  have e2 : s.vm.findClass ("[" ++ (FieldType.long).toString) = some (ca 1) := (k1.2 1 (ca 1, .long) rfl).2
  have e3 : cA = ca 1 := Option.some.inj (e1.symm.trans e2)
  subst e3
  obtain ⟨b1, b2, b3, b4, b5, b6, b7, b8⟩ := go_born (ca := ca) (x := mv_A 1 N (fun _ => 0)) (a := a) hl hn ha oh ol os.tl trivial rfl
  replace hP1 : va_P D vwCl (mv_W ca zt ad h n ++ [(a, mv_e ca zt (va_up ad n a) (mv_A 1 N (fun _ => 0)))]) H1 := hP1
  replace hD1 : va_D A (mv_W ca zt ad h n ++ [(a, mv_e ca zt (va_up ad n a) (mv_A 1 N (fun _ => 0)))]) := hD1
  rw [b1] at hP1 hD1
  rw [b8]
  exact kk p e s m args below meth c D ca zt A n0 ad0 C H1 locs ls (va_up ad n a) hS1 hP1 hD1 b2 b3 b4 b5 b6 b7
theorem go_newC {N : Nat} {a : Int} (hw : Cond.arrayClass .char ∈ go_T) (hd : decode M.2.1 pc = .ok (.newarray .char, 2)) (hp : pc + 2 = q) (ha0 : a = (N : Int)) (hN : N * componentBytes .char ≤ 536870912) (hN2 : N < 2147483648) (hr1 : u.1 + 1 ≤ R.cells) (hr2 : u.2 + N ≤ R.slots)
    (kk : Go φ l M R (u.1 + 1, u.2 + N) q L (mv_R n :: st) (va_up h n (mv_A 2 N (fun _ => 0))) (n + 1)) : Go φ l M R u pc L (mv_I a :: st) h n := by
  subst hp
  subst ha0
  intro p e s m args below meth c D ca zt A n0 ad0 C H locs ls ad hS hP hD hl hn ha oh ol os
  obtain ⟨c1, c2, c3, c4, c5, c6, c7, c8, ⟨k1, k2, k3⟩, c10⟩ := id C
  have g1 : ¬ (Int32.ofInt (N : Int)) < 0 := by rw [gn_nI]; exact nI_pos (by omega)
  have g2 : (Int32.ofInt (N : Int)).toNatClampNeg = N := by rw [gn_nI]; exact nI_clamp (by omega)
  refine va_newa (atype := .char) (ty := .char) (a0 := (N, .inl (fun _ => Int32.ofInt 0))) c1 c2 (c8 _ hw) rfl k1 hP hD hS c10 (fun cA => rfl) g1 g2 hN hr1 hr2 hd (fun a cA H1 hK1 hP1 hD1 hS1 => ?_)
  have e1 : s.vm.findClass ("[" ++ (FieldType.char).toString) = some cA := (hK1.2 4 (cA, .char) rfl).2
  have e2 : s.vm.findClass ("[" ++ (FieldType.char).toString) = some (ca 2) := (k1.2 2 (ca 2, .char) rfl).2
  have e3 : cA = ca 2 := Option.some.inj (e1.symm.trans e2)
  subst e3
  obtain ⟨b1, b2, b3, b4, b5, b6, b7, b8⟩ := go_born (ca := ca) (x := mv_A 2 N (fun _ => 0)) (a := a) hl hn ha oh ol os.tl trivial rfl
  replace hP1 : va_P D vwCl (mv_W ca zt ad h n ++ [(a, mv_e ca zt (va_up ad n a) (mv_A 2 N (fun _ => 0)))]) H1 := hP1
  replace hD1 : va_D A (mv_W ca zt ad h n ++ [(a, mv_e ca zt (va_up ad n a) (mv_A 2 N (fun _ => 0)))]) := hD1
  rw [b1] at hP1 hD1
  rw [b8]
  exact kk p e s m args below meth c D ca zt A n0 ad0 C H1 locs ls (va_up ad n a) hS1 hP1 hD1 b2 b3 b4 b5 b6 b7
theorem go_newQ {N idx : Nat} {a : Int} (hw1 : Cond.classLink M.1.cls idx cx_RF ∈ go_T) (hd : decode M.2.1 pc = .ok (.anewarray idx, 3)) (hp : pc + 3 = q) (ha0 : a = (N : Int)) (hN : N * 4 ≤ 536870912) (hN2 : N < 2147483648) (hr1 : u.1 + 1 ≤ R.cells) (hr2 : u.2 + N ≤ R.slots)
    (kk : Go φ l M R (u.1 + 1, u.2 + N) q L (mv_R n :: st) (va_up h n (mv_Q 3 N (fun _ => none))) (n + 1)) : Go φ l M R u pc L (mv_I a :: st) h n := by
  subst hp
  subst ha0
  intro p e s m args below meth c D ca zt A n0 ad0 C H locs ls ad hS hP hD hl hn ha oh ol os
  obtain ⟨c1, c2, c3, c4, c5, c6, c7, c8, ⟨k1, k2, k3⟩, c10⟩ := id C
  have g1 : ¬ (Int32.ofInt (N : Int)) < 0 := by rw [gn_nI]; exact nI_pos (by omega)
  have g2 : (Int32.ofInt (N : Int)).toNatClampNeg = N := by rw [gn_nI]; exact nI_clamp (by omega)
  refine va_newq c1 c2 c7 (c8 _ hw1) k3.2.2.2.2.2.2.2.2.2 k1 hP hD hS c10 g1 g2 hN hr1 hr2 hd (fun a cA H1 hK1 hP1 hD1 hS1 => ?_)
  obtain ⟨kA, comp, f1, f2, f3, e1⟩ := (hK1.2 4 (cA, .object cx_RF) rfl).2
  obtain ⟨kA', comp', f1', f2', f3', e2⟩ := (k1.2 3 (ca 3, .object cx_RF) rfl).2
  have e3 : cA = ca 3 := Option.some.inj (e1.symm.trans e2)
  subst e3
  obtain ⟨b1, b2, b3, b4, b5, b6, b7, b8⟩ := go_born (ca := ca) (x := mv_Q 3 N (fun _ => none)) (a := a) hl hn ha oh ol os.tl (fun j i hj => by cases hj) rfl
  replace hP1 : va_P D vwCl (mv_W ca zt ad h n ++ [(a, mv_e ca zt (va_up ad n a) (mv_Q 3 N (fun _ => none)))]) H1 := hP1
  replace hD1 : va_D A (mv_W ca zt ad h n ++ [(a, mv_e ca zt (va_up ad n a) (mv_Q 3 N (fun _ => none)))]) := hD1
  rw [b1] at hP1 hD1
  rw [b8]
  exact kk p e s m args below meth c D ca zt A n0 ad0 C H1 locs ls (va_up ad n a) hS1 hP1 hD1 b2 b3 b4 b5 b6 b7
end GoHeap
