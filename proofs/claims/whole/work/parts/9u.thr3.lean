/-! exceptions: a call whose callee throws -/
def po_T (Qc : Array Value → State → Outcome → State → Prop) (mc ms : Nat) (free : Addr → Prop) : Jvm.Free.Pt → Array Value → Addr → Jvm.Free.Pt → Prop := fun A a v B =>
  ∃ (g : JFrame) (mk : MethodId) (t : State) (L : List Loc), B.U.heap = t.heap ∧ B.U.vm = t.vm ∧ Qc a (A.U.calling g mk a) (.threw v) t ∧ B.locs = A.locs ++ L ∧ (∀ q ∈ L, free q.base) ∧ B.cells = A.cells + mc ∧ B.slots = A.slots + ms
theorem bk_T {l : Launch} {R : Room} {p : Program} {e : Env} {below : List Frame} {s : State} {sargs : Array Value} {y : MethodName} {len W : Nat} {ws : List Cond} {rm : Room} {Pc : Array Value → State → Prop} {Qc : Array Value → State → Outcome → State → Prop} {mc ms : Nat} {free : Addr → Prop} {bytes : ByteArray} {maxL : Nat} {ret : Option FieldType}
    (hM : MetT l y ws rm Pc Qc mc ms free) (hblind : FrameBlind Pc) (hrc : rm.cells = mc) (hrs : rm.slots = ms) (hframes : rm.frames + 1 ≤ R.frames) (hlocals : W + (maxL + 11) + rm.locals ≤ R.locals)
    (hws : ∀ w ∈ ws, ∀ a' U, s.WarmedH U.vm → w.before a' U = true) (hcode : Cond.code y bytes maxL ret ∈ ws) (hinit : ∀ a' U, s.WarmedH U.vm → (Cond.initialized y.cls).before a' U = true) :
    Jvm.Free.BackT l R p e below s sargs y len W (PreOf R mc ms Pc) (po_T Qc mc ms free) := by
  refine Jvm.Free.BackT.of_free (S := headSpec ws rm) (P := Pc) (K := fun _ _ _ _ _ => True) (Q := fun a st o t => Qc a st o t ∧ ∃ L, Jvm.Free.FrameEndT st o t L mc ms ∧ ∀ q ∈ L, free q.base) (bytes := bytes) (maxL := maxL) (ret := ret)
    (E := fun _ _ _ _ L k n => k = mc ∧ n = ms ∧ ∀ q ∈ L, free q.base) hM hframes hlocals ?_ ?_ (fun _ _ _ _ _ _ _ _ _ => trivial) ?_ ?_
  · intro m meth c A a X hp
    exact ⟨atoms_intro fun w hw => hws w hw _ _ X.warmed, hws _ hcode _ _ X.warmed, hinit _ _ X.warmed, by rw [show (headSpec ws rm).room.cells = mc from hrc]; exact hp.1, by rw [show (headSpec ws rm).room.slots = ms from hrs]; exact hp.2.1⟩
  · intro m meth c A a g mk X hp
    exact hblind _ _ _ _ hp.2.2
  · intro a st o t ⟨hq, L, hF, hL⟩
    exact ⟨L, mc, ms, hF, rfl, rfl, hL⟩
  · intro m meth c A a g mk v t L k n X hp hq hF ⟨e1, e2, hL⟩
    subst e1; subst e2
    exact ⟨g, mk, t, L, rfl, rfl, hq.1, rfl, hL, rfl, rfl⟩
/-- what a call that throws leaves -/
def ru_T (p : Program) (l : Launch) (e : Env) (R : Room) (s : State) (m : MethodId) (args : Array Value) (below : List Frame) (meth : Method) (c : Code) (H : Heap) (locs : List Loc) (cells slots mc ms : Nat) (g : JFrame) (rest : List Value) (Qa : State → Outcome → State → Prop) (free : Addr → Prop) : Prop :=
  ∀ T : State, T.heap = H → Stand p l e R s m args below meth c T locs cells slots → ∃ (v : Addr) (st₀ t T' : State) (L : List Loc), st₀.heap = H ∧ s.WarmedH st₀.vm ∧ Stand p l e R s m args below meth c T' (locs ++ L) (cells + mc) (slots + ms) ∧ (∀ q ∈ L, free q.base) ∧ T'.heap = t.heap ∧ T'.vm = t.vm ∧ Qa st₀ (.threw v) t ∧
    Steps p.tables e below (T.setTop g) ((T'.setTop { g with stack := rest }).pushFrame (.throwing v))
theorem fb_x {D : va_G} {ca : Nat → ClassId} {zt ad : Nat → Nat} {as : List mv_V} {h : mv_H} {n sz : Nat} : FrameBlind (fun a U => fn_P D ca zt ad as h n sz a U ∧ ex_ U) := fun a U g mk q => ⟨fn_blind a U g mk q.1, q.2⟩
section ThrCalls
variable {l : Launch} {M M' : go_M} {R : Room} {u : Nat × Nat} {pc idx np : Nat} {X : String} {h : mv_H} {n d w mc ms : Nat} {as rest : List mv_V} {Q : mv_H → Nat → Prop}
variable {p : Program} {e : Env} {s : State} {m : MethodId} {args : Array Value} {below : List Frame} {meth : Method} {c : Code} {D : va_G} {ca : Nat → ClassId} {zt : Nat → Nat} {A : Nat → Prop} {H : Heap} {locs : List Loc} {ls : Array Slot} {ad : Nat → Nat} {nL : Nat} {cc : ByteArray}
theorem ru_S (c1 : p.tables.exec = Jvm.exec) (c2 : c.code = cc) (hsz : ls.size = c.maxLocals) (c7 : s.vm.findClass M.1.cls = some m.cls) (c8 : ∀ w ∈ go_T, w.before args s = true) (k0 : cx_K D ca zt A s s.heap) (hS : va_S A s.heap H locs) (hP : va_P D vwCl (mv_W ca zt ad h n) H) (hD : va_D A (mv_W ca zt ad h n)) (hFc : ∀ q, va_A (mv_W ca zt ad h n) H.size q → A q) (hx : ex_ s) (oh : ok_H n h) (os : ok_S n as)
    (hm : go_met M' np) (hv1 : Cond.static M'.1 ∈ go_T) (hlk : Cond.methodLink M.1.cls idx M'.1 ∈ go_T) (hd : decode cc pc = .ok (.invokestatic idx, 3)) (hnp : as.length = np) (hw : (rest.map mv_k).sum ≤ 8) (hR : go_fit R u M'.2.2.1 d w mc ms) (hF : FnT l M' X d w mc ms as h n Q) :
    ru_T p l e R s m args below meth c H locs u.1 u.2 mc ms (F0 m pc ls ((as.map (mv_c zt ad)).reverse ++ rest.map (mv_c zt ad))) (rest.map (mv_c zt ad)) (fn_T D ca zt ad n (va_A (mv_W ca zt ad h n) H.size) X Q (as.map (mv_c zt ad)).toArray) (va_A (mv_W ca zt ad h n) H.size) := by
  obtain ⟨m1, m2, m3, m4⟩ := hm
  obtain ⟨r1, r2, r3, r4⟩ := hR
  have hM := hF D ca zt ad H.size oh os
  have hG : GoodIn go_T (Cond.code M'.1 M'.2.1 M'.2.2.1 M'.2.2.2 :: go_T) := go_good m1
  have hw' : ((rest.map (mv_c zt ad)).map fun v => v.category).sum ≤ 8 := by rw [mv_sum]; exact hw
  have hlen : ∀ sig, parseMethodDescriptor M'.1.desc = some sig → (as.map (mv_c zt ad)).length = sig.parameters.length := fun sig hs => by
    rw [hs] at m4
    rw [List.length_map, hnp]
    exact (Option.some.inj m4).symm
  intro T hT X0
  have hK := bk_T (p := p) (e := e) (below := below) (sargs := args) (len := 3) (W := 8) hM fb_x rfl rfl r1 r2 (fun w hw a' U hW => word_at hW (hG w hw).2 (c8 w (hG w hw).1)) List.mem_cons_self (fun a' U hW => word_at hW (hG _ (List.mem_cons_of_mem _ m2)).2 (c8 _ m2))
  obtain ⟨mk, methM, hnamed, hmethM, -⟩ : ∃ (mk : MethodId) (methM : Method), s.methodNamed? M'.1 = some mk ∧ s.vm.method? mk = some methM ∧ True := by
    have hc := c8 _ m1
    cases hmk : s.methodNamed? M'.1 with
    | none => simp [Cond.before, Cond.holds, Cond.value, hmk] at hc
    | some mk =>
      obtain ⟨meth', c', q1, -⟩ := Cond.code_spec hmk hc
      exact ⟨mk, meth', rfl, q1, trivial⟩
  obtain ⟨meth', c', q1, -, -, -, -, -, -, hsig⟩ := Cond.code_spec hnamed (c8 _ m1)
  cases hmethM.symm.trans q1
  obtain ⟨v, vm₁, ⟨BU, Bl, Bc, Bs⟩, hWv, XB, ⟨g0, mk0, t0, L0, e1, e2, hq, eL, hLf, ec, es⟩, steps⟩ := X0.staticThrows c1 c7 (c8 _ hlk) (c8 _ hv1) (c8 _ m2) hnamed hmethM hsig m3 hK (g := F0 m pc ls ((as.map (mv_c zt ad)).reverse ++ rest.map (mv_c zt ad))) rfl hsz (Steps.refl _) hlen rfl (lv_room hw') (by rw [c2]; exact hd)
    (fun vm₁ hW => ⟨r3, r4, ⟨rfl, by show T.heap.size = _; rw [hT], by show va_P D vwCl _ T.heap; rw [hT]; exact hP, hD.weaken (fun _ _ _ _ => trivial), cx_call k0 hS hFc hT hW⟩, ex_m (U := T.setVm vm₁) hx k0 hW hS hT⟩)
  dsimp only [Jvm.Free.Pt.U, Jvm.Free.Pt.locs, Jvm.Free.Pt.cells, Jvm.Free.Pt.slots] at XB e1 e2 hq eL ec es steps
  rw [eL, ec, es] at XB
  exact ⟨v, (T.setVm vm₁).calling g0 mk0 _, t0, BU, L0, hT, hWv, XB, hLf, e1, e2, hq, steps⟩
theorem ru_V {b ci : Nat} {fs : List mv_V} {Tt : u_T} {N : Nat} (c1 : p.tables.exec = Jvm.exec) (c2 : c.code = cc) (hsz : ls.size = c.maxLocals) (c7 : s.vm.findClass M.1.cls = some m.cls) (c8 : ∀ w ∈ go_T, w.before args s = true) (k0 : cx_K D ca zt A s s.heap) (hS : va_S A s.heap H locs) (hP : va_P D vwCl (mv_W ca zt ad h n) H) (hD : va_D A (mv_W ca zt ad h n)) (hFc : ∀ q, va_A (mv_W ca zt ad h n) H.size q → A q) (hx : ex_ s) (oh : ok_H n h) (os : ok_S n (mv_R b :: as))
    (hm : go_met M' np) (hv1 : Cond.instanceMethod M'.1 ∈ go_T) (hv2 : Cond.selects M'.1.cls M'.1 M'.1 ∈ go_T) (hlk : Cond.methodLink M.1.cls idx M'.1 ∈ go_T) (hd : decode cc pc = .ok (.invokevirtual idx, 3)) (hnp : as.length = np) (hh : h b = mv_O ci fs) (hci : vwCl[ci]? = some (M'.1.cls, Tt, N)) (hw : (rest.map mv_k).sum ≤ 8) (hR : go_fit R u M'.2.2.1 d w mc ms) (hF : FnT l M' X d w mc ms (mv_R b :: as) h n Q) :
    ru_T p l e R s m args below meth c H locs u.1 u.2 mc ms (F0 m pc ls ((as.map (mv_c zt ad)).reverse ++ Value.ref (ad b) :: rest.map (mv_c zt ad))) (rest.map (mv_c zt ad)) (fn_T D ca zt ad n (va_A (mv_W ca zt ad h n) H.size) X Q ((mv_R b :: as).map (mv_c zt ad)).toArray) (va_A (mv_W ca zt ad h n) H.size) := by
  obtain ⟨m1, m2, m3, m4⟩ := hm
  obtain ⟨r1, r2, r3, r4⟩ := hR
  have hM := hF D ca zt ad H.size oh os
  have hG : GoodIn go_T (Cond.code M'.1 M'.2.1 M'.2.2.1 M'.2.2.2 :: go_T) := go_good m1
  have hw' : ((rest.map (mv_c zt ad)).map fun v => v.category).sum ≤ 8 := by rw [mv_sum]; exact hw
  have hlen : ∀ sig, parseMethodDescriptor M'.1.desc = some sig → (as.map (mv_c zt ad)).length = sig.parameters.length := fun sig hs => by
    rw [hs] at m4
    rw [List.length_map, hnp]
    exact (Option.some.inj m4).symm
  have he : (mv_W ca zt ad h n)[b - 1]? = some (ad b, .inr (ci, fs.map (mv_c zt ad))) := mv_W_is os.hd hh
  obtain ⟨cellB, hcB, hoB, hclB⟩ := va_recv k0.1 hP hci he
  intro T hT X0
  have hK := bk_T (p := p) (e := e) (below := below) (sargs := args) (len := 3) (W := 8) hM fb_x rfl rfl r1 r2 (fun w hw a' U hW => word_at hW (hG w hw).2 (c8 w (hG w hw).1)) List.mem_cons_self (fun a' U hW => word_at hW (hG _ (List.mem_cons_of_mem _ m2)).2 (c8 _ m2))
  have hnf : Jvm.Free.NotFace s M'.1 := fun r0 hn => by
    obtain ⟨c2, r2, m2, q1, q2, q3, q4, kP, hkP, hkPi⟩ := Cond.selects_spec (c8 _ hv2)
    cases hn.symm.trans q3
    exact ⟨kP, hkP, hkPi⟩
  obtain ⟨v, vm₁, ⟨BU, Bl, Bc, Bs⟩, hWv, XB, ⟨g0, mk0, t0, L0, e1, e2, hq, eL, hLf, ec, es⟩, steps⟩ := X0.virtualThrows c1 c7 (c8 _ hlk) (xd_w (c8 _ hv1) (c8 _ m1)) hnf (c8 _ hv2) (c8 _ hv1) m3 hK hclB ⟨cellB, by rw [hT]; exact hcB, rfl, hoB⟩ (g := F0 m pc ls ((as.map (mv_c zt ad)).reverse ++ Value.ref (ad b) :: rest.map (mv_c zt ad))) rfl hsz (Steps.refl _) hlen rfl (lv_room hw') (by rw [c2]; exact hd)
    (fun vm₁ hW => ⟨r3, r4, ⟨rfl, by show T.heap.size = _; rw [hT], by show va_P D vwCl _ T.heap; rw [hT]; exact hP, hD.weaken (fun _ _ _ _ => trivial), cx_call k0 hS hFc hT hW⟩, ex_m (U := T.setVm vm₁) hx k0 hW hS hT⟩)
  dsimp only [Jvm.Free.Pt.U, Jvm.Free.Pt.locs, Jvm.Free.Pt.cells, Jvm.Free.Pt.slots] at XB e1 e2 hq eL ec es steps
  rw [eL, ec, es] at XB
  exact ⟨v, (T.setVm vm₁).calling g0 mk0 _, t0, BU, L0, hT, hWv, XB, hLf, e1, e2, hq, steps⟩
end ThrCalls
