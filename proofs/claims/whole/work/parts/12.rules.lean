/-! THE PURE MACHINE, part 2: the judgement 'Go' (from here the method comes to its end), and a rule for each instruction. -/
abbrev go_M : Type := MethodName × ByteArray × Nat × Option FieldType
abbrev go_F : Type := List Frame → Array Value → State → (Nat → Prop) → va_G → (Nat → ClassId) → (Nat → Nat) → Nat → (Nat → Nat) → State → Prop
def go_rm (d w mc ms : Nat) : Room := { frames := d, cells := mc, slots := ms, locals := w }
/-- what holds in a method's whole walk -/
def go_C (M : go_M) (p : Program) (s : State) (m : MethodId) (args : Array Value) (meth : Method) (c : Code) (D : va_G) (ca : Nat → ClassId) (zt : Nat → Nat) (A : Nat → Prop) : Prop :=
  p.tables.exec = Jvm.exec ∧ c.code = M.2.1 ∧ c.maxLocals = M.2.2.1 ∧ meth.sig.returnType = M.2.2.2 ∧ meth.locks = false ∧ meth.name = M.1.name ∧ s.vm.findClass M.1.cls = some m.cls ∧ (∀ w ∈ go_T, w.before args s = true) ∧ cx_K D ca zt A s s.heap ∧ ∀ q, s.heap.size ≤ q → A q
/-- from pc, with locals L, stack st, the world of n cells h, and u cells and slots made, the walk ends as φ says -/
def Go (φ : go_F) (l : Launch) (M : go_M) (R : Room) (u : Nat × Nat) (pc : Nat) (L : List (Option mv_V)) (st : List mv_V) (h : mv_H) (n : Nat) : Prop :=
  ∀ (p : Program) (e : Env) (s : State) (m : MethodId) (args : Array Value) (below : List Frame) (meth : Method) (c : Code) (D : va_G) (ca : Nat → ClassId) (zt : Nat → Nat) (A : Nat → Prop) (n0 : Nat) (ad0 : Nat → Nat), go_C M p s m args meth c D ca zt A →
  ∀ (H : Heap) (locs : List Loc) (ls : Array Slot) (ad : Nat → Nat), va_S A s.heap H locs → va_P D vwCl (mv_W ca zt ad h n) H → va_D A (mv_W ca zt ad h n) → mv_ls zt ad ls M.2.2.1 L → n0 ≤ n → (∀ i, i < n0 → ad i = ad0 i) → ok_H n h → ok_L n L → ok_S n st →
  W p l e R s m args below meth c H locs u.1 u.2 (φ below args s A D ca zt n0 ad0) (F0 m pc ls (st.map (mv_c zt ad)))
section GoRules
variable {φ : go_F} {l : Launch} {M : go_M} {R : Room} {u : Nat × Nat} {pc q : Nat} {L L' : List (Option mv_V)} {st : List mv_V} {h : mv_H} {n : Nat}
/-- the state may be written otherwise -/
theorem go_eq {pc' : Nat} {st' : List mv_V} {h' : mv_H} {u' : Nat × Nat} (k : Go φ l M R u' pc' L' st' h' n) (e1 : pc' = pc := by rfl) (e2 : L' = L := by rfl) (e3 : st' = st := by rfl) (e4 : h' = h := by rfl) (e5 : u' = u := by rfl) : Go φ l M R u pc L st h n := by
  subst e1; subst e2; subst e3; subst e4; subst e5; exact k
/-- an instruction that turns the stack's top xs into ys -/
theorem go_pure {xs ys : List mv_V} (hok : ok_S n xs → ok_S n ys)
    (row : ∀ (p : Program) (e : Env) (s : State) (m : MethodId) (args : Array Value) (below : List Frame) (meth : Method) (c : Code) (H : Heap) (locs : List Loc) (Q : State → Prop) (ls : Array Slot) (zt ad : Nat → Nat) (rest : List Value) (cells slots : Nat), p.tables.exec = Jvm.exec → c.code = M.2.1 →
      W p l e R s m args below meth c H locs cells slots Q (F0 m q ls (ys.map (mv_c zt ad) ++ rest)) → W p l e R s m args below meth c H locs cells slots Q (F0 m pc ls (xs.map (mv_c zt ad) ++ rest)))
    (k : Go φ l M R u q L (ys ++ st) h n) : Go φ l M R u pc L (xs ++ st) h n := by
  intro p e s m args below meth c D ca zt A n0 ad0 C H locs ls ad hS hP hD hl hn ha oh ol os
  rw [List.map_append]
  refine row p e s m args below meth c H locs _ ls zt ad _ _ _ C.1 C.2.1 ?_
  rw [← List.map_append]
  exact k p e s m args below meth c D ca zt A n0 ad0 C H locs ls ad hS hP hD hl hn ha oh ol (ok_S.app (hok os.left) os.right)
theorem go_okI {z : Int} : ok_S n [mv_I z] := ok_S.cons trivial ok_S.nil
theorem go_okL {z : Int} : ok_S n [mv_L z] := ok_S.cons trivial ok_S.nil
theorem go_iconst {z : Int} (hd : decode M.2.1 pc = .ok (.iconst z, 1)) (hp : pc + 1 = q) (k : Go φ l M R u q L (mv_I z :: st) h n) : Go φ l M R u pc L st h n := by
  subst hp
  exact go_pure (xs := []) (ys := [mv_I z]) (fun _ => go_okI) (fun p e s m args below meth c H locs Q ls zt ad rest _ _ hx hb k => lv_iconst hx hb hd rfl k) k
theorem go_bipush {z : Int} (hd : decode M.2.1 pc = .ok (.bipush z, 2)) (hp : pc + 2 = q) (hz : (Int8.ofInt z).toInt32 = Int32.ofInt z) (k : Go φ l M R u q L (mv_I z :: st) h n) : Go φ l M R u pc L st h n := by
  subst hp
  exact go_pure (xs := []) (ys := [mv_I z]) (fun _ => go_okI) (fun p e s m args below meth c H locs Q ls zt ad rest _ _ hx hb k => lv_bipush hx hb hd hz k) k
theorem go_sipush {z : Int} (hd : decode M.2.1 pc = .ok (.sipush z, 3)) (hp : pc + 3 = q) (hz : (Int16.ofInt z).toInt32 = Int32.ofInt z) (k : Go φ l M R u q L (mv_I z :: st) h n) : Go φ l M R u pc L st h n := by
  subst hp
  exact go_pure (xs := []) (ys := [mv_I z]) (fun _ => go_okI) (fun p e s m args below meth c H locs Q ls zt ad rest _ _ hx hb k => lv_sipush hx hb hd hz k) k
theorem go_lconst {i : Fin 2} {z : Int} (hd : decode M.2.1 pc = .ok (.lconst i, 1)) (hp : pc + 1 = q) (hz : Int64.ofNat (i : Nat) = Int64.ofInt z) (k : Go φ l M R u q L (mv_L z :: st) h n) : Go φ l M R u pc L st h n := by
  subst hp
  exact go_pure (xs := []) (ys := [mv_L z]) (fun _ => go_okL) (fun p e s m args below meth c H locs Q ls zt ad rest _ _ hx hb k => lv_lconst hx hb hd hz k) k
theorem go_null (hd : decode M.2.1 pc = .ok (.aconst_null, 1)) (hp : pc + 1 = q) (k : Go φ l M R u q L (mv_N :: st) h n) : Go φ l M R u pc L st h n := by
  subst hp
  exact go_pure (xs := []) (ys := [mv_N]) (fun _ => ok_S.cons trivial ok_S.nil) (fun p e s m args below meth c H locs Q ls zt ad rest _ _ hx hb k => lv_null hx hb hd k) k
theorem go_ldc {i : Nat} {z : Int} {x : Int32} (hd : decode M.2.1 pc = .ok (.ldc i, 2)) (hp : pc + 2 = q) (hw : Cond.constant M.1.cls i x ∈ go_T) (hz : x = Int32.ofInt z) (k : Go φ l M R u q L (mv_I z :: st) h n) : Go φ l M R u pc L st h n := by
  subst hp
  intro p e s m args below meth c D ca zt A n0 ad0 C H locs ls ad hS hP hD hl hn ha oh ol os
  refine lv_ldc C.1 C.2.1 C.2.2.2.2.2.2.1 (C.2.2.2.2.2.2.2.1 _ hw) hd ?_
  rw [hz]
  exact k p e s m args below meth c D ca zt A n0 ad0 C H locs ls ad hS hP hD hl hn ha oh ol (ok_S.cons trivial os)
theorem go_ldc2 {i : Nat} {z : Int} {x : Int64} (hd : decode M.2.1 pc = .ok (.ldc2_w i, 3)) (hp : pc + 3 = q) (hw : Cond.constantLong M.1.cls i x ∈ go_T) (hz : x = Int64.ofInt z) (k : Go φ l M R u q L (mv_L z :: st) h n) : Go φ l M R u pc L st h n := by
  subst hp
  intro p e s m args below meth c D ca zt A n0 ad0 C H locs ls ad hS hP hD hl hn ha oh ol os
  refine lv_ldc2 C.1 C.2.1 C.2.2.2.2.2.2.1 (C.2.2.2.2.2.2.2.1 _ hw) hd ?_
  rw [hz]
  exact k p e s m args below meth c D ca zt A n0 ad0 C H locs ls ad hS hP hD hl hn ha oh ol (ok_S.cons trivial os)
theorem go_iload_n {j : Fin 4} {i : Nat} {z : Int} (hd : decode M.2.1 pc = .ok (.iload_n j, 1)) (hi : (j : Nat) = i) (hp : pc + 1 = q) (hL : L[i]? = some (some (mv_I z))) (k : Go φ l M R u q L (mv_I z :: st) h n) : Go φ l M R u pc L st h n := by
  subst hp
  intro p e s m args below meth c D ca zt A n0 ad0 C H locs ls ad hS hP hD hl hn ha oh ol os
  refine lv_iload_n C.1 C.2.1 hd hi (hl.2.2 _ _ hL) ?_
  exact k p e s m args below meth c D ca zt A n0 ad0 C H locs ls ad hS hP hD hl hn ha oh ol (ok_S.cons (ol _ _ hL) os)
theorem go_lload_n {j : Fin 4} {i : Nat} {z : Int} (hd : decode M.2.1 pc = .ok (.lload_n j, 1)) (hi : (j : Nat) = i) (hp : pc + 1 = q) (hL : L[i]? = some (some (mv_L z))) (k : Go φ l M R u q L (mv_L z :: st) h n) : Go φ l M R u pc L st h n := by
  subst hp
  intro p e s m args below meth c D ca zt A n0 ad0 C H locs ls ad hS hP hD hl hn ha oh ol os
  refine lv_lload_n C.1 C.2.1 hd hi (hl.2.2 _ _ hL) ?_
  exact k p e s m args below meth c D ca zt A n0 ad0 C H locs ls ad hS hP hD hl hn ha oh ol (ok_S.cons (ol _ _ hL) os)
theorem go_aload_n {j : Fin 4} {i : Nat} {r : Nat} (hd : decode M.2.1 pc = .ok (.aload_n j, 1)) (hi : (j : Nat) = i) (hp : pc + 1 = q) (hL : L[i]? = some (some (mv_R r))) (k : Go φ l M R u q L (mv_R r :: st) h n) : Go φ l M R u pc L st h n := by
  subst hp
  intro p e s m args below meth c D ca zt A n0 ad0 C H locs ls ad hS hP hD hl hn ha oh ol os
  refine lv_aload_n C.1 C.2.1 hd hi (hl.2.2 _ _ hL) ?_
  exact k p e s m args below meth c D ca zt A n0 ad0 C H locs ls ad hS hP hD hl hn ha oh ol (ok_S.cons (ol _ _ hL) os)
theorem go_aload_nX {j : Fin 4} {i : Nat} {r : Nat} (hd : decode M.2.1 pc = .ok (.aload_n j, 1)) (hi : (j : Nat) = i) (hp : pc + 1 = q) (hL : L[i]? = some (some (mv_X r))) (k : Go φ l M R u q L (mv_X r :: st) h n) : Go φ l M R u pc L st h n := by
  subst hp
  intro p e s m args below meth c D ca zt A n0 ad0 C H locs ls ad hS hP hD hl hn ha oh ol os
  refine lv_aload_n C.1 C.2.1 hd hi (hl.2.2 _ _ hL) ?_
  exact k p e s m args below meth c D ca zt A n0 ad0 C H locs ls ad hS hP hD hl hn ha oh ol (ok_S.cons (ol _ _ hL) os)
theorem go_aload_nN {j : Fin 4} {i : Nat}  (hd : decode M.2.1 pc = .ok (.aload_n j, 1)) (hi : (j : Nat) = i) (hp : pc + 1 = q) (hL : L[i]? = some (some (mv_N))) (k : Go φ l M R u q L (mv_N :: st) h n) : Go φ l M R u pc L st h n := by
  subst hp
  intro p e s m args below meth c D ca zt A n0 ad0 C H locs ls ad hS hP hD hl hn ha oh ol os
  refine lv_aload_nN C.1 C.2.1 hd hi (hl.2.2 _ _ hL) ?_
  exact k p e s m args below meth c D ca zt A n0 ad0 C H locs ls ad hS hP hD hl hn ha oh ol (ok_S.cons (ol _ _ hL) os)
theorem go_iload {i : Nat} {z : Int} (hd : decode M.2.1 pc = .ok (.iload i, 2)) (hp : pc + 2 = q) (hL : L[i]? = some (some (mv_I z))) (k : Go φ l M R u q L (mv_I z :: st) h n) : Go φ l M R u pc L st h n := by
  subst hp
  intro p e s m args below meth c D ca zt A n0 ad0 C H locs ls ad hS hP hD hl hn ha oh ol os
  refine lv_iload C.1 C.2.1 hd (hl.2.2 _ _ hL) ?_
  exact k p e s m args below meth c D ca zt A n0 ad0 C H locs ls ad hS hP hD hl hn ha oh ol (ok_S.cons (ol _ _ hL) os)
theorem go_lload {i : Nat} {z : Int} (hd : decode M.2.1 pc = .ok (.lload i, 2)) (hp : pc + 2 = q) (hL : L[i]? = some (some (mv_L z))) (k : Go φ l M R u q L (mv_L z :: st) h n) : Go φ l M R u pc L st h n := by
  subst hp
  intro p e s m args below meth c D ca zt A n0 ad0 C H locs ls ad hS hP hD hl hn ha oh ol os
  refine lv_lload C.1 C.2.1 hd (hl.2.2 _ _ hL) ?_
  exact k p e s m args below meth c D ca zt A n0 ad0 C H locs ls ad hS hP hD hl hn ha oh ol (ok_S.cons (ol _ _ hL) os)
theorem go_aload {i : Nat} {r : Nat} (hd : decode M.2.1 pc = .ok (.aload i, 2)) (hp : pc + 2 = q) (hL : L[i]? = some (some (mv_R r))) (k : Go φ l M R u q L (mv_R r :: st) h n) : Go φ l M R u pc L st h n := by
  subst hp
  intro p e s m args below meth c D ca zt A n0 ad0 C H locs ls ad hS hP hD hl hn ha oh ol os
  refine lv_aload C.1 C.2.1 hd (hl.2.2 _ _ hL) ?_
  exact k p e s m args below meth c D ca zt A n0 ad0 C H locs ls ad hS hP hD hl hn ha oh ol (ok_S.cons (ol _ _ hL) os)
theorem go_aloadX {i : Nat} {r : Nat} (hd : decode M.2.1 pc = .ok (.aload i, 2)) (hp : pc + 2 = q) (hL : L[i]? = some (some (mv_X r))) (k : Go φ l M R u q L (mv_X r :: st) h n) : Go φ l M R u pc L st h n := by
  subst hp
  intro p e s m args below meth c D ca zt A n0 ad0 C H locs ls ad hS hP hD hl hn ha oh ol os
  refine lv_aload C.1 C.2.1 hd (hl.2.2 _ _ hL) ?_
  exact k p e s m args below meth c D ca zt A n0 ad0 C H locs ls ad hS hP hD hl hn ha oh ol (ok_S.cons (ol _ _ hL) os)
theorem go_aloadN {i : Nat}  (hd : decode M.2.1 pc = .ok (.aload i, 2)) (hp : pc + 2 = q) (hL : L[i]? = some (some (mv_N))) (k : Go φ l M R u q L (mv_N :: st) h n) : Go φ l M R u pc L st h n := by
  subst hp
  intro p e s m args below meth c D ca zt A n0 ad0 C H locs ls ad hS hP hD hl hn ha oh ol os
  refine lv_aloadN C.1 C.2.1 hd (hl.2.2 _ _ hL) ?_
  exact k p e s m args below meth c D ca zt A n0 ad0 C H locs ls ad hS hP hD hl hn ha oh ol (ok_S.cons (ol _ _ hL) os)
theorem go_istore_n {j : Fin 4} {i : Nat} {z : Int} (hd : decode M.2.1 pc = .ok (.istore_n j, 1)) (hi : (j : Nat) = i) (hp : pc + 1 = q) (hn0 : i < M.2.2.1) (hL : mv_st L i (mv_I z) = L') (k : Go φ l M R u q L' st h n) : Go φ l M R u pc L (mv_I z :: st) h n := by
  subst hp
  subst hL
  intro p e s m args below meth c D ca zt A n0 ad0 C H locs ls ad hS hP hD hl hn ha oh ol os
  refine lv_istore_n C.1 C.2.1 hd hi hl.has hn0 rfl (fun ls' hl' => ?_)
  exact k p e s m args below meth c D ca zt A n0 ad0 C H locs ls' ad hS hP hD (mv_ls_st1 (v := mv_I z) hl') hn ha oh (ol.st os.hd) os.tl
theorem go_lstore_n {j : Fin 4} {i : Nat} {z : Int} (hd : decode M.2.1 pc = .ok (.lstore_n j, 1)) (hi : (j : Nat) = i) (hp : pc + 1 = q) (hn0 : i + 1 < M.2.2.1) (hL : mv_st L i (mv_L z) = L') (k : Go φ l M R u q L' st h n) : Go φ l M R u pc L (mv_L z :: st) h n := by
  subst hp
  subst hL
  intro p e s m args below meth c D ca zt A n0 ad0 C H locs ls ad hS hP hD hl hn ha oh ol os
  refine lv_lstore_n C.1 C.2.1 hd hi hl.has hn0 rfl (fun ls' hl' => ?_)
  exact k p e s m args below meth c D ca zt A n0 ad0 C H locs ls' ad hS hP hD (mv_ls_st2 rfl (v := mv_L z) hl') hn ha oh (ol.st os.hd) os.tl
theorem go_astore_n {j : Fin 4} {i : Nat} {r : Nat} (hd : decode M.2.1 pc = .ok (.astore_n j, 1)) (hi : (j : Nat) = i) (hp : pc + 1 = q) (hn0 : i < M.2.2.1) (hL : mv_st L i (mv_R r) = L') (k : Go φ l M R u q L' st h n) : Go φ l M R u pc L (mv_R r :: st) h n := by
  subst hp
  subst hL
  intro p e s m args below meth c D ca zt A n0 ad0 C H locs ls ad hS hP hD hl hn ha oh ol os
  refine lv_astore_n C.1 C.2.1 hd hi hl.has hn0 rfl (fun ls' hl' => ?_)
  exact k p e s m args below meth c D ca zt A n0 ad0 C H locs ls' ad hS hP hD (mv_ls_st1 (v := mv_R r) hl') hn ha oh (ol.st os.hd) os.tl
theorem go_istore {i : Nat} {z : Int} (hd : decode M.2.1 pc = .ok (.istore i, 2)) (hp : pc + 2 = q) (hn0 : i < M.2.2.1) (hL : mv_st L i (mv_I z) = L') (k : Go φ l M R u q L' st h n) : Go φ l M R u pc L (mv_I z :: st) h n := by
  subst hp
  subst hL
  intro p e s m args below meth c D ca zt A n0 ad0 C H locs ls ad hS hP hD hl hn ha oh ol os
  refine lv_istore C.1 C.2.1 hd hl.has hn0 rfl (fun ls' hl' => ?_)
  exact k p e s m args below meth c D ca zt A n0 ad0 C H locs ls' ad hS hP hD (mv_ls_st1 (v := mv_I z) hl') hn ha oh (ol.st os.hd) os.tl
theorem go_lstore {i : Nat} {z : Int} (hd : decode M.2.1 pc = .ok (.lstore i, 2)) (hp : pc + 2 = q) (hn0 : i + 1 < M.2.2.1) (hL : mv_st L i (mv_L z) = L') (k : Go φ l M R u q L' st h n) : Go φ l M R u pc L (mv_L z :: st) h n := by
  subst hp
  subst hL
  intro p e s m args below meth c D ca zt A n0 ad0 C H locs ls ad hS hP hD hl hn ha oh ol os
  refine lv_lstore C.1 C.2.1 hd hl.has hn0 rfl (fun ls' hl' => ?_)
  exact k p e s m args below meth c D ca zt A n0 ad0 C H locs ls' ad hS hP hD (mv_ls_st2 rfl (v := mv_L z) hl') hn ha oh (ol.st os.hd) os.tl
theorem go_astore {i : Nat} {r : Nat} (hd : decode M.2.1 pc = .ok (.astore i, 2)) (hp : pc + 2 = q) (hn0 : i < M.2.2.1) (hL : mv_st L i (mv_R r) = L') (k : Go φ l M R u q L' st h n) : Go φ l M R u pc L (mv_R r :: st) h n := by
  subst hp
  subst hL
  intro p e s m args below meth c D ca zt A n0 ad0 C H locs ls ad hS hP hD hl hn ha oh ol os
  refine lv_astore C.1 C.2.1 hd hl.has hn0 rfl (fun ls' hl' => ?_)
  exact k p e s m args below meth c D ca zt A n0 ad0 C H locs ls' ad hS hP hD (mv_ls_st1 (v := mv_R r) hl') hn ha oh (ol.st os.hd) os.tl
theorem go_iinc {i : Nat} {d z : Int} (hd : decode M.2.1 pc = .ok (.iinc i d, 3)) (hp : pc + 3 = q) (hn0 : i < M.2.2.1) (hv : L[i]? = some (some (mv_I z))) (hL : mv_st L i (mv_I (z + d)) = L') (k : Go φ l M R u q L' st h n) : Go φ l M R u pc L st h n := by
  subst hp
  subst hL
  intro p e s m args below meth c D ca zt A n0 ad0 C H locs ls ad hS hP hD hl hn ha oh ol os
  obtain ⟨kk, hkk⟩ := List.getElem?_of_mem (mv_al_in (zt := zt) (ad := ad) hv)
  refine lv_iinc (v := Int32.ofInt (z + d)) C.1 C.2.1 hd hl.has hkk (Int32.ofInt_add z d).symm hn0 rfl (fun ls' hl' => ?_)
  exact k p e s m args below meth c D ca zt A n0 ad0 C H locs ls' ad hS hP hD (mv_ls_st1 (v := mv_I (z + d)) hl') hn ha oh (ol.st trivial) os
theorem go_iadd {a b : Int} (hd : decode M.2.1 pc = .ok (.iadd, 1)) (hp : pc + 1 = q) (k : Go φ l M R u q L (mv_I (a + b) :: st) h n) : Go φ l M R u pc L (mv_I b :: mv_I a :: st) h n := by
  subst hp
  exact go_pure (xs := [mv_I b, mv_I a]) (ys := [mv_I (a + b)]) (fun _ => go_okI) (fun p e s m args below meth c H locs Q ls zt ad rest _ _ hx hb k => lv_iadd hx hb hd (by rw [← Int32.ofInt_add]; exact k)) k
theorem go_isub {a b : Int} (hd : decode M.2.1 pc = .ok (.isub, 1)) (hp : pc + 1 = q) (k : Go φ l M R u q L (mv_I (a - b) :: st) h n) : Go φ l M R u pc L (mv_I b :: mv_I a :: st) h n := by
  subst hp
  exact go_pure (xs := [mv_I b, mv_I a]) (ys := [mv_I (a - b)]) (fun _ => go_okI) (fun p e s m args below meth c H locs Q ls zt ad rest _ _ hx hb k => lv_isub hx hb hd (by rw [← Int32.ofInt_sub]; exact k)) k
theorem go_imul {a b : Int} (hd : decode M.2.1 pc = .ok (.imul, 1)) (hp : pc + 1 = q) (k : Go φ l M R u q L (mv_I (a * b) :: st) h n) : Go φ l M R u pc L (mv_I b :: mv_I a :: st) h n := by
  subst hp
  exact go_pure (xs := [mv_I b, mv_I a]) (ys := [mv_I (a * b)]) (fun _ => go_okI) (fun p e s m args below meth c H locs Q ls zt ad rest _ _ hx hb k => lv_imul hx hb hd (by rw [← Int32.ofInt_mul]; exact k)) k
theorem go_ladd {a b : Int} (hd : decode M.2.1 pc = .ok (.ladd, 1)) (hp : pc + 1 = q) (k : Go φ l M R u q L (mv_L (a + b) :: st) h n) : Go φ l M R u pc L (mv_L b :: mv_L a :: st) h n := by
  subst hp
  exact go_pure (xs := [mv_L b, mv_L a]) (ys := [mv_L (a + b)]) (fun _ => go_okL) (fun p e s m args below meth c H locs Q ls zt ad rest _ _ hx hb k => lv_ladd hx hb hd (by rw [← Int64.ofInt_add]; exact k)) k
theorem go_lsub {a b : Int} (hd : decode M.2.1 pc = .ok (.lsub, 1)) (hp : pc + 1 = q) (k : Go φ l M R u q L (mv_L (a - b) :: st) h n) : Go φ l M R u pc L (mv_L b :: mv_L a :: st) h n := by
  subst hp
  exact go_pure (xs := [mv_L b, mv_L a]) (ys := [mv_L (a - b)]) (fun _ => go_okL) (fun p e s m args below meth c H locs Q ls zt ad rest _ _ hx hb k => lv_lsub hx hb hd (by rw [← Int64.ofInt_sub]; exact k)) k
theorem go_lmul {a b : Int} (hd : decode M.2.1 pc = .ok (.lmul, 1)) (hp : pc + 1 = q) (k : Go φ l M R u q L (mv_L (a * b) :: st) h n) : Go φ l M R u pc L (mv_L b :: mv_L a :: st) h n := by
  subst hp
  exact go_pure (xs := [mv_L b, mv_L a]) (ys := [mv_L (a * b)]) (fun _ => go_okL) (fun p e s m args below meth c H locs Q ls zt ad rest _ _ hx hb k => lv_lmul hx hb hd (by rw [← Int64.ofInt_mul]; exact k)) k
theorem go_ineg {a : Int} (hd : decode M.2.1 pc = .ok (.ineg, 1)) (hp : pc + 1 = q) (k : Go φ l M R u q L (mv_I (-a) :: st) h n) : Go φ l M R u pc L (mv_I a :: st) h n := by
  subst hp
  exact go_pure (xs := [mv_I a]) (ys := [mv_I (-a)]) (fun _ => go_okI) (fun p e s m args below meth c H locs Q ls zt ad rest _ _ hx hb k => lv_ineg hx hb hd (by rw [← Int32.ofInt_neg]; exact k)) k
theorem go_l2i {a : Int} (hd : decode M.2.1 pc = .ok (.l2i, 1)) (hp : pc + 1 = q) (k : Go φ l M R u q L (mv_I a :: st) h n) : Go φ l M R u pc L (mv_L a :: st) h n := by
  subst hp
  exact go_pure (xs := [mv_L a]) (ys := [mv_I a]) (fun _ => go_okI) (fun p e s m args below meth c H locs Q ls zt ad rest _ _ hx hb k => lv_l2i hx hb hd Int64.toInt32_ofInt k) k
theorem go_i2l {a : Int} (hd : decode M.2.1 pc = .ok (.i2l, 1)) (hp : pc + 1 = q) (ha : -2147483648 ≤ a ∧ a ≤ 2147483647) (k : Go φ l M R u q L (mv_L a :: st) h n) : Go φ l M R u pc L (mv_I a :: st) h n := by
  subst hp
  exact go_pure (xs := [mv_I a]) (ys := [mv_L a]) (fun _ => go_okL) (fun p e s m args below meth c H locs Q ls zt ad rest _ _ hx hb k => lv_i2l hx hb hd (Int32.toInt64_ofInt ha.1 ha.2) k) k
theorem go_i2c {a : Int} (hd : decode M.2.1 pc = .ok (.i2c, 1)) (hp : pc + 1 = q) (ha : 0 ≤ a ∧ a ≤ 65535) (k : Go φ l M R u q L (mv_I a :: st) h n) : Go φ l M R u pc L (mv_I a :: st) h n := by
  subst hp
  exact go_pure (xs := [mv_I a]) (ys := [mv_I a]) (fun _ => go_okI) (fun p e s m args below meth c H locs Q ls zt ad rest _ _ hx hb k => lv_i2c hx hb hd (gn_i2c ha) k) k
theorem go_idiv {a b z : Int} (hd : decode M.2.1 pc = .ok (.idiv, 1)) (hp : pc + 1 = q) (hne : ¬ Int32.ofInt b = 0) (hz : Int32.ofInt a / Int32.ofInt b = Int32.ofInt z) (k : Go φ l M R u q L (mv_I z :: st) h n) : Go φ l M R u pc L (mv_I b :: mv_I a :: st) h n := by
  subst hp
  exact go_pure (xs := [mv_I b, mv_I a]) (ys := [mv_I z]) (fun _ => go_okI) (fun p e s m args below meth c H locs Q ls zt ad rest _ _ hx hb k => lv_idiv hx hb hd hne (by rw [hz]; exact k)) k
theorem go_irem {a b z : Int} (hd : decode M.2.1 pc = .ok (.irem, 1)) (hp : pc + 1 = q) (hne : ¬ Int32.ofInt b = 0) (hz : Int32.ofInt a - Int32.ofInt a / Int32.ofInt b * Int32.ofInt b = Int32.ofInt z) (k : Go φ l M R u q L (mv_I z :: st) h n) : Go φ l M R u pc L (mv_I b :: mv_I a :: st) h n := by
  subst hp
  exact go_pure (xs := [mv_I b, mv_I a]) (ys := [mv_I z]) (fun _ => go_okI) (fun p e s m args below meth c H locs Q ls zt ad rest _ _ hx hb k => lv_irem hx hb hd hne (by rw [hz]; exact k)) k
theorem go_iand {a b z : Int} (hd : decode M.2.1 pc = .ok (.iand, 1)) (hp : pc + 1 = q) (hz : Int32.ofInt a &&& Int32.ofInt b = Int32.ofInt z) (k : Go φ l M R u q L (mv_I z :: st) h n) : Go φ l M R u pc L (mv_I b :: mv_I a :: st) h n := by
  subst hp
  exact go_pure (xs := [mv_I b, mv_I a]) (ys := [mv_I z]) (fun _ => go_okI) (fun p e s m args below meth c H locs Q ls zt ad rest _ _ hx hb k => lv_iand hx hb hd (by rw [hz]; exact k)) k
theorem go_ior {a b z : Int} (hd : decode M.2.1 pc = .ok (.ior, 1)) (hp : pc + 1 = q) (hz : Int32.ofInt a ||| Int32.ofInt b = Int32.ofInt z) (k : Go φ l M R u q L (mv_I z :: st) h n) : Go φ l M R u pc L (mv_I b :: mv_I a :: st) h n := by
  subst hp
  exact go_pure (xs := [mv_I b, mv_I a]) (ys := [mv_I z]) (fun _ => go_okI) (fun p e s m args below meth c H locs Q ls zt ad rest _ _ hx hb k => lv_ior hx hb hd (by rw [hz]; exact k)) k
theorem go_ixor {a b z : Int} (hd : decode M.2.1 pc = .ok (.ixor, 1)) (hp : pc + 1 = q) (hz : Int32.ofInt a ^^^ Int32.ofInt b = Int32.ofInt z) (k : Go φ l M R u q L (mv_I z :: st) h n) : Go φ l M R u pc L (mv_I b :: mv_I a :: st) h n := by
  subst hp
  exact go_pure (xs := [mv_I b, mv_I a]) (ys := [mv_I z]) (fun _ => go_okI) (fun p e s m args below meth c H locs Q ls zt ad rest _ _ hx hb k => lv_ixor hx hb hd (by rw [hz]; exact k)) k
theorem go_ishl {a b z : Int} (hd : decode M.2.1 pc = .ok (.ishl, 1)) (hp : pc + 1 = q) (hz : Int32.ofInt a <<< (Int32.ofInt b &&& 31) = Int32.ofInt z) (k : Go φ l M R u q L (mv_I z :: st) h n) : Go φ l M R u pc L (mv_I b :: mv_I a :: st) h n := by
  subst hp
  exact go_pure (xs := [mv_I b, mv_I a]) (ys := [mv_I z]) (fun _ => go_okI) (fun p e s m args below meth c H locs Q ls zt ad rest _ _ hx hb k => lv_ishl hx hb hd (by rw [hz]; exact k)) k
theorem go_ishr {a b z : Int} (hd : decode M.2.1 pc = .ok (.ishr, 1)) (hp : pc + 1 = q) (hz : Int32.ofInt a >>> (Int32.ofInt b &&& 31) = Int32.ofInt z) (k : Go φ l M R u q L (mv_I z :: st) h n) : Go φ l M R u pc L (mv_I b :: mv_I a :: st) h n := by
  subst hp
  exact go_pure (xs := [mv_I b, mv_I a]) (ys := [mv_I z]) (fun _ => go_okI) (fun p e s m args below meth c H locs Q ls zt ad rest _ _ hx hb k => lv_ishr hx hb hd (by rw [hz]; exact k)) k
theorem go_iushr {a b z : Int} (hd : decode M.2.1 pc = .ok (.iushr, 1)) (hp : pc + 1 = q) (hz : ((Int32.ofInt a).toUInt32 >>> ((Int32.ofInt b).toUInt32 &&& Int32.toUInt32 31)).toInt32 = Int32.ofInt z) (k : Go φ l M R u q L (mv_I z :: st) h n) : Go φ l M R u pc L (mv_I b :: mv_I a :: st) h n := by
  subst hp
  exact go_pure (xs := [mv_I b, mv_I a]) (ys := [mv_I z]) (fun _ => go_okI) (fun p e s m args below meth c H locs Q ls zt ad rest _ _ hx hb k => lv_iushr hx hb hd hz k) k
theorem go_ldiv {a b z : Int} (hd : decode M.2.1 pc = .ok (.ldiv, 1)) (hp : pc + 1 = q) (hne : ¬ Int64.ofInt b = 0) (hz : Int64.ofInt a / Int64.ofInt b = Int64.ofInt z) (k : Go φ l M R u q L (mv_L z :: st) h n) : Go φ l M R u pc L (mv_L b :: mv_L a :: st) h n := by
  subst hp
  exact go_pure (xs := [mv_L b, mv_L a]) (ys := [mv_L z]) (fun _ => go_okL) (fun p e s m args below meth c H locs Q ls zt ad rest _ _ hx hb k => lv_ldiv hx hb hd hne (by rw [hz]; exact k)) k
theorem go_lrem {a b z : Int} (hd : decode M.2.1 pc = .ok (.lrem, 1)) (hp : pc + 1 = q) (hne : ¬ Int64.ofInt b = 0) (hz : Int64.ofInt a - Int64.ofInt a / Int64.ofInt b * Int64.ofInt b = Int64.ofInt z) (k : Go φ l M R u q L (mv_L z :: st) h n) : Go φ l M R u pc L (mv_L b :: mv_L a :: st) h n := by
  subst hp
  exact go_pure (xs := [mv_L b, mv_L a]) (ys := [mv_L z]) (fun _ => go_okL) (fun p e s m args below meth c H locs Q ls zt ad rest _ _ hx hb k => lv_lrem hx hb hd hne (by rw [hz]; exact k)) k
theorem go_land {a b z : Int} (hd : decode M.2.1 pc = .ok (.land, 1)) (hp : pc + 1 = q) (hz : Int64.ofInt a &&& Int64.ofInt b = Int64.ofInt z) (k : Go φ l M R u q L (mv_L z :: st) h n) : Go φ l M R u pc L (mv_L b :: mv_L a :: st) h n := by
  subst hp
  exact go_pure (xs := [mv_L b, mv_L a]) (ys := [mv_L z]) (fun _ => go_okL) (fun p e s m args below meth c H locs Q ls zt ad rest _ _ hx hb k => lv_land hx hb hd (by rw [hz]; exact k)) k
theorem go_lor {a b z : Int} (hd : decode M.2.1 pc = .ok (.lor, 1)) (hp : pc + 1 = q) (hz : Int64.ofInt a ||| Int64.ofInt b = Int64.ofInt z) (k : Go φ l M R u q L (mv_L z :: st) h n) : Go φ l M R u pc L (mv_L b :: mv_L a :: st) h n := by
  subst hp
  exact go_pure (xs := [mv_L b, mv_L a]) (ys := [mv_L z]) (fun _ => go_okL) (fun p e s m args below meth c H locs Q ls zt ad rest _ _ hx hb k => lv_lor hx hb hd (by rw [hz]; exact k)) k
theorem go_lushr {a b z : Int} (hd : decode M.2.1 pc = .ok (.lushr, 1)) (hp : pc + 1 = q) (hz : ((Int64.ofInt a).toUInt64 >>> ((Int32.ofInt b).toInt64.toUInt64 &&& Int64.toUInt64 63)).toInt64 = Int64.ofInt z) (k : Go φ l M R u q L (mv_L z :: st) h n) : Go φ l M R u pc L (mv_I b :: mv_L a :: st) h n := by
  subst hp
  exact go_pure (xs := [mv_I b, mv_L a]) (ys := [mv_L z]) (fun _ => go_okL) (fun p e s m args below meth c H locs Q ls zt ad rest _ _ hx hb k => lv_lushr hx hb hd hz k) k
theorem go_lshl {a b z : Int} (hd : decode M.2.1 pc = .ok (.lshl, 1)) (hp : pc + 1 = q) (hz : Int64.ofInt a <<< ((Int32.ofInt b).toInt64 &&& 63) = Int64.ofInt z) (k : Go φ l M R u q L (mv_L z :: st) h n) : Go φ l M R u pc L (mv_I b :: mv_L a :: st) h n := by
  subst hp
  exact go_pure (xs := [mv_I b, mv_L a]) (ys := [mv_L z]) (fun _ => go_okL) (fun p e s m args below meth c H locs Q ls zt ad rest _ _ hx hb k => lv_lshl hx hb hd hz k) k
theorem go_lshr {a b z : Int} (hd : decode M.2.1 pc = .ok (.lshr, 1)) (hp : pc + 1 = q) (hz : Int64.ofInt a >>> ((Int32.ofInt b).toInt64 &&& 63) = Int64.ofInt z) (k : Go φ l M R u q L (mv_L z :: st) h n) : Go φ l M R u pc L (mv_I b :: mv_L a :: st) h n := by
  subst hp
  exact go_pure (xs := [mv_I b, mv_L a]) (ys := [mv_L z]) (fun _ => go_okL) (fun p e s m args below meth c H locs Q ls zt ad rest _ _ hx hb k => lv_lshr hx hb hd hz k) k
theorem go_lcmp {a b : Int} (hd : decode M.2.1 pc = .ok (.lcmp, 1)) (hp : pc + 1 = q) (ha : -9223372036854775808 ≤ a ∧ a ≤ 9223372036854775807) (hb0 : -9223372036854775808 ≤ b ∧ b ≤ 9223372036854775807) (k : Go φ l M R u q L (mv_I (if b < a then 1 else if a = b then 0 else -1) :: st) h n) : Go φ l M R u pc L (mv_L b :: mv_L a :: st) h n := by
  subst hp
  exact go_pure (xs := [mv_L b, mv_L a]) (ys := [mv_I (if b < a then 1 else if a = b then 0 else -1)]) (fun _ => go_okI) (fun p e s m args below meth c H locs Q ls zt ad rest _ _ hx hb k => W.lcmp hx hb hd (by rw [gn_lcmp ha hb0]; exact k)) k
theorem go_dup {v : mv_V} (hd : decode M.2.1 pc = .ok (.dup, 1)) (hp : pc + 1 = q) (hv : mv_k v = 1) (k : Go φ l M R u q L (v :: v :: st) h n) : Go φ l M R u pc L (v :: st) h n := by
  subst hp
  exact go_pure (xs := [v]) (ys := [v, v]) (fun o => ok_S.cons o.hd o) (fun p e s m args below meth c H locs Q ls zt ad rest _ _ hx hb k => lv_dup hx hb hd ((mv_cat zt ad v).trans hv) k) k
theorem go_pop {v : mv_V} (hd : decode M.2.1 pc = .ok (.pop, 1)) (hp : pc + 1 = q) (hv : mv_k v = 1) (k : Go φ l M R u q L st h n) : Go φ l M R u pc L (v :: st) h n := by
  subst hp
  exact go_pure (xs := [v]) (ys := []) (fun _ => ok_S.nil) (fun p e s m args below meth c H locs Q ls zt ad rest _ _ hx hb k => lv_pop hx hb hd ((mv_cat zt ad v).trans hv) k) k
theorem go_dup_x1 {v w : mv_V} (hd : decode M.2.1 pc = .ok (.dup_x1, 1)) (hp : pc + 1 = q) (hv : mv_k v = 1) (hw : mv_k w = 1) (k : Go φ l M R u q L (v :: w :: v :: st) h n) : Go φ l M R u pc L (v :: w :: st) h n := by
  subst hp
  exact go_pure (xs := [v, w]) (ys := [v, w, v]) (fun o => ok_S.cons o.hd (ok_S.cons o.tl.hd (ok_S.cons o.hd ok_S.nil))) (fun p e s m args below meth c H locs Q ls zt ad rest _ _ hx hb k => lv_dup_x1 hx hb hd ((mv_cat zt ad v).trans hv) ((mv_cat zt ad w).trans hw) k) k
theorem go_dup_x2 {v w x : mv_V} (hd : decode M.2.1 pc = .ok (.dup_x2, 1)) (hp : pc + 1 = q) (hv : mv_k v = 1) (hw : mv_k w = 1) (hx : mv_k x = 1) (k : Go φ l M R u q L (v :: w :: x :: v :: st) h n) : Go φ l M R u pc L (v :: w :: x :: st) h n := by
  subst hp
  exact go_pure (xs := [v, w, x]) (ys := [v, w, x, v]) (fun o => ok_S.cons o.hd (ok_S.cons o.tl.hd (ok_S.cons o.tl.tl.hd (ok_S.cons o.hd ok_S.nil)))) (fun p e s m args below meth c H locs Q ls zt ad rest _ _ hx' hb k => lv_dup_x2 hx' hb hd ((mv_cat zt ad v).trans hv) ((mv_cat zt ad w).trans hw) ((mv_cat zt ad x).trans hx) k) k
theorem go_dup2 {v w : mv_V} (hd : decode M.2.1 pc = .ok (.dup2, 1)) (hp : pc + 1 = q) (hv : mv_k v = 1) (hw : mv_k w = 1) (k : Go φ l M R u q L (v :: w :: v :: w :: st) h n) : Go φ l M R u pc L (v :: w :: st) h n := by
  subst hp
  exact go_pure (xs := [v, w]) (ys := [v, w, v, w]) (fun o => ok_S.cons o.hd (ok_S.cons o.tl.hd o)) (fun p e s m args below meth c H locs Q ls zt ad rest _ _ hx hb k => lv_dup2_11 hx hb hd ((mv_cat zt ad v).trans hv) ((mv_cat zt ad w).trans hw) k) k
theorem go_goto {off : Int} (hd : decode M.2.1 pc = .ok (.goto off, 3)) (hp : (pc : Int) + off = (q : Int)) (k : Go φ l M R u q L st h n) : Go φ l M R u pc L st h n :=
  go_pure (xs := []) (ys := []) (fun o => o) (fun p e s m args below meth c H locs Q ls zt ad rest _ _ hx hb k => lv_goto hx hb hd hp k) k
theorem go_if_eq {a off : Int} {t : Nat} (hd : decode M.2.1 pc = .ok (.ifCond .eq off, 3)) (ht : (pc : Int) + off = (t : Int)) (hp : pc + 3 = q) (ha : -2147483648 ≤ a ∧ a ≤ 2147483647) (kt : a = 0 → Go φ l M R u t L st h n) (kf : ¬ a = 0 → Go φ l M R u q L st h n) : Go φ l M R u pc L (mv_I a :: st) h n := by
  subst hp
  intro p e s m args below meth c D ca zt A n0 ad0 C H locs ls ad hS hP hD hl hn hadr oh ol os
  exact lv_if_eq C.1 C.2.1 hd ht (fun z => kt ((gn_eq0 ha).mp z) p e s m args below meth c D ca zt A n0 ad0 C H locs ls ad hS hP hD hl hn hadr oh ol os.tl) (fun z => kf (fun w => z ((gn_eq0 ha).mpr w)) p e s m args below meth c D ca zt A n0 ad0 C H locs ls ad hS hP hD hl hn hadr oh ol os.tl)
theorem go_icmp_eq {a b off : Int} {t : Nat} (hd : decode M.2.1 pc = .ok (.if_icmp .eq off, 3)) (ht : (pc : Int) + off = (t : Int)) (hp : pc + 3 = q) (ha : -2147483648 ≤ a ∧ a ≤ 2147483647) (hb0 : -2147483648 ≤ b ∧ b ≤ 2147483647) (kt : a = b → Go φ l M R u t L st h n) (kf : ¬ a = b → Go φ l M R u q L st h n) : Go φ l M R u pc L (mv_I b :: mv_I a :: st) h n := by
  subst hp
  intro p e s m args below meth c D ca zt A n0 ad0 C H locs ls ad hS hP hD hl hn hadr oh ol os
  exact lv_icmp_eq C.1 C.2.1 hd ht (fun z => kt ((gn_eq ha hb0).mp z) p e s m args below meth c D ca zt A n0 ad0 C H locs ls ad hS hP hD hl hn hadr oh ol os.tl.tl) (fun z => kf (fun w => z ((gn_eq ha hb0).mpr w)) p e s m args below meth c D ca zt A n0 ad0 C H locs ls ad hS hP hD hl hn hadr oh ol os.tl.tl)
theorem go_if_ne {a off : Int} {t : Nat} (hd : decode M.2.1 pc = .ok (.ifCond .ne off, 3)) (ht : (pc : Int) + off = (t : Int)) (hp : pc + 3 = q) (ha : -2147483648 ≤ a ∧ a ≤ 2147483647) (kt : ¬ a = 0 → Go φ l M R u t L st h n) (kf : a = 0 → Go φ l M R u q L st h n) : Go φ l M R u pc L (mv_I a :: st) h n := by
  subst hp
  intro p e s m args below meth c D ca zt A n0 ad0 C H locs ls ad hS hP hD hl hn hadr oh ol os
  exact lv_if_ne C.1 C.2.1 hd ht (fun z => kt (fun w => z ((gn_eq0 ha).mpr w)) p e s m args below meth c D ca zt A n0 ad0 C H locs ls ad hS hP hD hl hn hadr oh ol os.tl) (fun z => kf ((gn_eq0 ha).mp z) p e s m args below meth c D ca zt A n0 ad0 C H locs ls ad hS hP hD hl hn hadr oh ol os.tl)
theorem go_icmp_ne {a b off : Int} {t : Nat} (hd : decode M.2.1 pc = .ok (.if_icmp .ne off, 3)) (ht : (pc : Int) + off = (t : Int)) (hp : pc + 3 = q) (ha : -2147483648 ≤ a ∧ a ≤ 2147483647) (hb0 : -2147483648 ≤ b ∧ b ≤ 2147483647) (kt : ¬ a = b → Go φ l M R u t L st h n) (kf : a = b → Go φ l M R u q L st h n) : Go φ l M R u pc L (mv_I b :: mv_I a :: st) h n := by
  subst hp
  intro p e s m args below meth c D ca zt A n0 ad0 C H locs ls ad hS hP hD hl hn hadr oh ol os
  exact lv_icmp_ne C.1 C.2.1 hd ht (fun z => kt (fun w => z ((gn_eq ha hb0).mpr w)) p e s m args below meth c D ca zt A n0 ad0 C H locs ls ad hS hP hD hl hn hadr oh ol os.tl.tl) (fun z => kf ((gn_eq ha hb0).mp z) p e s m args below meth c D ca zt A n0 ad0 C H locs ls ad hS hP hD hl hn hadr oh ol os.tl.tl)
theorem go_if_lt {a off : Int} {t : Nat} (hd : decode M.2.1 pc = .ok (.ifCond .lt off, 3)) (ht : (pc : Int) + off = (t : Int)) (hp : pc + 3 = q) (ha : -2147483648 ≤ a ∧ a ≤ 2147483647) (kt : a < 0 → Go φ l M R u t L st h n) (kf : ¬ a < 0 → Go φ l M R u q L st h n) : Go φ l M R u pc L (mv_I a :: st) h n := by
  subst hp
  intro p e s m args below meth c D ca zt A n0 ad0 C H locs ls ad hS hP hD hl hn hadr oh ol os
  exact lv_if_lt C.1 C.2.1 hd ht (fun z => kt ((gn_lt0 ha).mp z) p e s m args below meth c D ca zt A n0 ad0 C H locs ls ad hS hP hD hl hn hadr oh ol os.tl) (fun z => kf (fun w => z ((gn_lt0 ha).mpr w)) p e s m args below meth c D ca zt A n0 ad0 C H locs ls ad hS hP hD hl hn hadr oh ol os.tl)
theorem go_icmp_lt {a b off : Int} {t : Nat} (hd : decode M.2.1 pc = .ok (.if_icmp .lt off, 3)) (ht : (pc : Int) + off = (t : Int)) (hp : pc + 3 = q) (ha : -2147483648 ≤ a ∧ a ≤ 2147483647) (hb0 : -2147483648 ≤ b ∧ b ≤ 2147483647) (kt : a < b → Go φ l M R u t L st h n) (kf : ¬ a < b → Go φ l M R u q L st h n) : Go φ l M R u pc L (mv_I b :: mv_I a :: st) h n := by
  subst hp
  intro p e s m args below meth c D ca zt A n0 ad0 C H locs ls ad hS hP hD hl hn hadr oh ol os
  exact lv_icmp_lt C.1 C.2.1 hd ht (fun z => kt ((gn_lt ha hb0).mp z) p e s m args below meth c D ca zt A n0 ad0 C H locs ls ad hS hP hD hl hn hadr oh ol os.tl.tl) (fun z => kf (fun w => z ((gn_lt ha hb0).mpr w)) p e s m args below meth c D ca zt A n0 ad0 C H locs ls ad hS hP hD hl hn hadr oh ol os.tl.tl)
theorem go_if_ge {a off : Int} {t : Nat} (hd : decode M.2.1 pc = .ok (.ifCond .ge off, 3)) (ht : (pc : Int) + off = (t : Int)) (hp : pc + 3 = q) (ha : -2147483648 ≤ a ∧ a ≤ 2147483647) (kt : 0 ≤ a → Go φ l M R u t L st h n) (kf : ¬ 0 ≤ a → Go φ l M R u q L st h n) : Go φ l M R u pc L (mv_I a :: st) h n := by
  subst hp
  intro p e s m args below meth c D ca zt A n0 ad0 C H locs ls ad hS hP hD hl hn hadr oh ol os
  exact lv_if_ge C.1 C.2.1 hd ht (fun z => kt ((gn_ge0 ha).mp z) p e s m args below meth c D ca zt A n0 ad0 C H locs ls ad hS hP hD hl hn hadr oh ol os.tl) (fun z => kf (fun w => z ((gn_ge0 ha).mpr w)) p e s m args below meth c D ca zt A n0 ad0 C H locs ls ad hS hP hD hl hn hadr oh ol os.tl)
theorem go_icmp_ge {a b off : Int} {t : Nat} (hd : decode M.2.1 pc = .ok (.if_icmp .ge off, 3)) (ht : (pc : Int) + off = (t : Int)) (hp : pc + 3 = q) (ha : -2147483648 ≤ a ∧ a ≤ 2147483647) (hb0 : -2147483648 ≤ b ∧ b ≤ 2147483647) (kt : b ≤ a → Go φ l M R u t L st h n) (kf : ¬ b ≤ a → Go φ l M R u q L st h n) : Go φ l M R u pc L (mv_I b :: mv_I a :: st) h n := by
  subst hp
  intro p e s m args below meth c D ca zt A n0 ad0 C H locs ls ad hS hP hD hl hn hadr oh ol os
  exact lv_icmp_ge C.1 C.2.1 hd ht (fun z => kt ((gn_le hb0 ha).mp z) p e s m args below meth c D ca zt A n0 ad0 C H locs ls ad hS hP hD hl hn hadr oh ol os.tl.tl) (fun z => kf (fun w => z ((gn_le hb0 ha).mpr w)) p e s m args below meth c D ca zt A n0 ad0 C H locs ls ad hS hP hD hl hn hadr oh ol os.tl.tl)
theorem go_if_gt {a off : Int} {t : Nat} (hd : decode M.2.1 pc = .ok (.ifCond .gt off, 3)) (ht : (pc : Int) + off = (t : Int)) (hp : pc + 3 = q) (ha : -2147483648 ≤ a ∧ a ≤ 2147483647) (kt : 0 < a → Go φ l M R u t L st h n) (kf : ¬ 0 < a → Go φ l M R u q L st h n) : Go φ l M R u pc L (mv_I a :: st) h n := by
  subst hp
  intro p e s m args below meth c D ca zt A n0 ad0 C H locs ls ad hS hP hD hl hn hadr oh ol os
  exact lv_if_gt C.1 C.2.1 hd ht (fun z => kt ((gn_gt0 ha).mp z) p e s m args below meth c D ca zt A n0 ad0 C H locs ls ad hS hP hD hl hn hadr oh ol os.tl) (fun z => kf (fun w => z ((gn_gt0 ha).mpr w)) p e s m args below meth c D ca zt A n0 ad0 C H locs ls ad hS hP hD hl hn hadr oh ol os.tl)
theorem go_icmp_gt {a b off : Int} {t : Nat} (hd : decode M.2.1 pc = .ok (.if_icmp .gt off, 3)) (ht : (pc : Int) + off = (t : Int)) (hp : pc + 3 = q) (ha : -2147483648 ≤ a ∧ a ≤ 2147483647) (hb0 : -2147483648 ≤ b ∧ b ≤ 2147483647) (kt : b < a → Go φ l M R u t L st h n) (kf : ¬ b < a → Go φ l M R u q L st h n) : Go φ l M R u pc L (mv_I b :: mv_I a :: st) h n := by
  subst hp
  intro p e s m args below meth c D ca zt A n0 ad0 C H locs ls ad hS hP hD hl hn hadr oh ol os
  exact lv_icmp_gt C.1 C.2.1 hd ht (fun z => kt ((gn_lt hb0 ha).mp z) p e s m args below meth c D ca zt A n0 ad0 C H locs ls ad hS hP hD hl hn hadr oh ol os.tl.tl) (fun z => kf (fun w => z ((gn_lt hb0 ha).mpr w)) p e s m args below meth c D ca zt A n0 ad0 C H locs ls ad hS hP hD hl hn hadr oh ol os.tl.tl)
theorem go_if_le {a off : Int} {t : Nat} (hd : decode M.2.1 pc = .ok (.ifCond .le off, 3)) (ht : (pc : Int) + off = (t : Int)) (hp : pc + 3 = q) (ha : -2147483648 ≤ a ∧ a ≤ 2147483647) (kt : a ≤ 0 → Go φ l M R u t L st h n) (kf : ¬ a ≤ 0 → Go φ l M R u q L st h n) : Go φ l M R u pc L (mv_I a :: st) h n := by
  subst hp
  intro p e s m args below meth c D ca zt A n0 ad0 C H locs ls ad hS hP hD hl hn hadr oh ol os
  exact lv_if_le C.1 C.2.1 hd ht (fun z => kt ((gn_le0 ha).mp z) p e s m args below meth c D ca zt A n0 ad0 C H locs ls ad hS hP hD hl hn hadr oh ol os.tl) (fun z => kf (fun w => z ((gn_le0 ha).mpr w)) p e s m args below meth c D ca zt A n0 ad0 C H locs ls ad hS hP hD hl hn hadr oh ol os.tl)
theorem go_icmp_le {a b off : Int} {t : Nat} (hd : decode M.2.1 pc = .ok (.if_icmp .le off, 3)) (ht : (pc : Int) + off = (t : Int)) (hp : pc + 3 = q) (ha : -2147483648 ≤ a ∧ a ≤ 2147483647) (hb0 : -2147483648 ≤ b ∧ b ≤ 2147483647) (kt : a ≤ b → Go φ l M R u t L st h n) (kf : ¬ a ≤ b → Go φ l M R u q L st h n) : Go φ l M R u pc L (mv_I b :: mv_I a :: st) h n := by
  subst hp
  intro p e s m args below meth c D ca zt A n0 ad0 C H locs ls ad hS hP hD hl hn hadr oh ol os
  exact lv_icmp_le C.1 C.2.1 hd ht (fun z => kt ((gn_le ha hb0).mp z) p e s m args below meth c D ca zt A n0 ad0 C H locs ls ad hS hP hD hl hn hadr oh ol os.tl.tl) (fun z => kf (fun w => z ((gn_le ha hb0).mpr w)) p e s m args below meth c D ca zt A n0 ad0 C H locs ls ad hS hP hD hl hn hadr oh ol os.tl.tl)
end GoRules
