/-! exceptions: a method that throws -/
theorem he_al {s U : State} (h : s.vm.Alike U.vm) {m : MethodId} {below : List Frame} (hh : s.hears m below = true) : U.hears m below = true := by
  have hm : ∀ k, U.vm.method? k = s.vm.method? k := fun k => h.method? k
  cases below with
  | nil =>
    simp only [State.hears] at hh ⊢
    rw [hm]
    exact hh
  | cons f r =>
    cases f <;> simp only [State.hears, State.code?_eq, hm] at hh ⊢ <;> exact hh
/-- the method stands anew where it is: over the heap as it is now -/
theorem st_re {p : Program} {l : Launch} {e : Env} {R : Room} {s : State} {m : MethodId} {args : Array Value} {below : List Frame} {meth : Method} {c : Code} {T : State} {locs : List Loc} {cells slots : Nat} (X : Stand p l e R s m args below meth c T locs cells slots) (h1 : cells ≤ R.cells) (h2 : slots ≤ R.slots) :
    Stand p l e (go_rm R.frames R.locals (R.cells - cells) (R.slots - slots)) (T.setFrames (.invoking m args :: below)) m args below meth c T [] 0 0 := by
  obtain ⟨g₀, hfr⟩ := X.frames_eq
  have hcur := State.cur_lt_of_frames hfr
  obtain ⟨t, ht, -⟩ := State.frames_cons hfr
  have hf' : (T.setFrames (.invoking m args :: below)).frames = .invoking m args :: below := State.frames_setFrames _ hcur
  have hr := X.room
  have hlu : s.localsInUse = (T.setFrames (.invoking m args :: below)).localsInUse := by
    rw [State.localsInUse_invoking X.frames X.method X.code, State.localsInUse_invoking hf' (s := T.setFrames (.invoking m args :: below)) X.method' X.code]
  have hlen : (T.setFrames (.invoking m args :: below)).frames.length = s.frames.length := by rw [hf', X.frames]
  have hb := X.book
  have hz := X.heapSize
  have hu := X.used
  refine ⟨X.admits, X.cas, X.clock, hf', ?_, he_al (U := T.setFrames (.invoking m args :: below)) X.warmed.alike X.hears, X.method', X.code, X.here, X.tail, State.WarmedH.refl (T.setFrames (.invoking m args :: below)), (State.stackLimits_setFrames _ _ _).symm, (State.stackBytes_setFrames _ _).symm, ?_⟩
  · simp only [State.hasRoom, Bool.and_eq_true, decide_eq_true_eq] at hr ⊢
    rw [hlen, ← hlu, State.stackLimits_setFrames, State.stackBytes_setFrames, X.limits, X.bytes]
    obtain ⟨⟨⟨⟨r1, r2⟩, r3⟩, r4⟩, r5⟩ := hr
    refine ⟨⟨⟨⟨r1, r2⟩, ?_⟩, ?_⟩, hb⟩
    · show T.heap.size + (R.cells - cells) ≤ _
      omega
    · show T.slotsUsed + (R.slots - slots) ≤ _
      omega
  · have h := (State.sameButNew.refl T ht).setFrames (.invoking m args :: below) hcur
    refine ⟨?_, Nat.le_refl _, Nat.le_refl _, ?_, ?_, fun a c hc => ⟨c, hc, rfl, rfl, fun _ _ => rfl⟩⟩
    · show T = { (T.setFrames (.invoking m args :: below)).setFrames T.frames with heap := T.heap, slotsUsed := T.slotsUsed }
      rw [State.setFrames_setFrames, State.setFrames_self ht]
    · show T.slotsUsed = T.slotsUsed + ((T.heap.toList.drop T.heap.size).map (·.slots.size)).sum
      rw [List.drop_of_length_le (by simp)]
      rfl
    · show ((T.heap.toList.drop T.heap.size).map (·.slots.size)).sum ≤ 0
      rw [List.drop_of_length_le (by simp)]
      exact Nat.le_refl _
/-- where nothing old is free, old cells are as they were -/
theorem sb_0 {s t : State} {k n : Nat} (h : s.sameButNew t [] k n) {a : Nat} (ha : a < s.heap.size) : t.heap[a]? = s.heap[a]? := by
  have hc : s.heap[a]? = some s.heap[a] := Array.getElem?_eq_getElem ha
  obtain ⟨c', h1, h2, h3, h4⟩ := h.2.2.2.2.2 a _ hc
  rw [h1, hc, h2]
  have : c'.slots = (s.heap[a]).slots := Array.ext_getElem? fun i => h4 i List.not_mem_nil
  rw [this]
def go_H (M : go_M) (s : State) : Prop := (∀ (m : MethodId) (args : Array Value) (below : List Frame), s.frames = .invoking m args :: below → s.methodNamed? M.1 = some m) ∧ ex_ s
def fn_T (D : va_G) (ca : Nat → ClassId) (zt ad : Nat → Nat) (n : Nat) (A : Nat → Prop) (cls : String) (Q : mv_H → Nat → Prop) : Array Value → State → Outcome → State → Prop := fun _ st oc t =>
  (∃ (x : Addr) (ce : Cell) (h' : mv_H) (n' : Nat) (ad' : Nat → Nat), oc = .threw x ∧ t.heap[x]? = some ce ∧ ce.vm = .none ∧ st.vm.findClass cls = some ce.cls ∧ Q h' n' ∧ n ≤ n' ∧ (∀ i, i < n → ad' i = ad i) ∧ ok_H n' h' ∧ va_P D vwCl (mv_W ca zt ad' h' n') t.heap ∧ va_D A (mv_W ca zt ad' h' n')) ∧ va_F A st t
def MetT (l : Launch) (y : MethodName) (ws : List Cond) (rm : Room) (Pc : Array Value → State → Prop) (Qc : Array Value → State → Outcome → State → Prop) (mc ms : Nat) (free : Addr → Prop) : Prop :=
  MetFree l y (headSpec ws rm) Pc (fun _ _ _ _ _ => True) (fun a st o t => Qc a st o t ∧ ∃ L, Jvm.Free.FrameEndT st o t L mc ms ∧ ∀ q ∈ L, free q.base)
/-- the method M, called with 'as' in the world of the n cells h, throws an object of the class cls, and Q holds of the cells then -/
def FnT (l : Launch) (M : go_M) (cls : String) (d w mc ms : Nat) (as : List mv_V) (h : mv_H) (n : Nat) (Q : mv_H → Nat → Prop) : Prop :=
  ∀ (D : va_G) (ca : Nat → ClassId) (zt ad : Nat → Nat) (sz : Nat), ok_H n h → ok_S n as →
    MetT l M.1 (Cond.code M.1 M.2.1 M.2.2.1 M.2.2.2 :: go_T) (go_rm d w mc ms) (fun a U => fn_P D ca zt ad as h n sz a U ∧ ex_ U) (fn_T D ca zt ad n (va_A (mv_W ca zt ad h n) sz) cls Q) mc ms (va_A (mv_W ca zt ad h n) sz)
def go_th (M : go_M) (cls : String) (mc ms : Nat) (Q : mv_H → Nat → Prop) : go_F := fun below args s A D ca zt n0 ad0 t =>
  go_H M s → ∃ o, t.status = .running ∧ Ended t below o ∧ fn_T D ca zt ad0 n0 A cls Q args s o t ∧ ∃ L, Jvm.Free.FrameEndT s o t L mc ms ∧ ∀ q ∈ L, A q.base
theorem fnT_of {l : Launch} {M : go_M} {cls : String} {d w mc ms : Nat} {as : List mv_V} {h : mv_H} {n : Nat} {Q : mv_H → Nat → Prop} {L : List (Option mv_V)} (hy : plainName M.1.cls = true) (hlen : (mv_sl as).length ≤ M.2.2.1) (hL : mv_en as M.2.2.1 = L) (hb : Go (go_th M cls mc ms Q) l M (go_rm d w mc ms) (0, 0) 0 L [] h n) : FnT l M cls d w mc ms as h n Q := by
  subst hL
  intro D ca zt ad sz oh oa
  refine MetFree.of_bodyS (code := M.2.1) (maxLocals := M.2.2.1) (ret := M.2.2.2) hy ?_ ?_
  · intro args s m h hn
    obtain ⟨meth, c, h1, h2, h3, h4, h5, h6, -, -⟩ := Cond.code_spec hn (atoms_spec (ws := Cond.code M.1 M.2.1 M.2.2.1 M.2.2.2 :: go_T) h _ List.mem_cons_self)
    exact ⟨meth, c, h1, h2, h3, h4, h5, h6⟩
  · intro p e s m args below meth c s₁ B hml hv _
    obtain ⟨⟨rfl, hsz, hP, hD0, hK⟩, hx⟩ := hv
    subst hsz
    have hD := hD0.self (sz := s.heap.size)
    have hts := atoms_spec (ws := Cond.code M.1 M.2.1 M.2.2.1 M.2.2.2 :: go_T) B.pre
    have hl := lv_entry (as.map (mv_c zt ad)) (n := M.2.2.1) (by rw [mv_sl_len]; exact hlen)
    have hh0 : s₁.heap = s.heap := by rw [B.state]; rfl
    have K : W p l e (headSpec (Cond.code M.1 M.2.1 M.2.2.1 M.2.2.2 :: go_T) (go_rm d w mc ms)).room s m (as.map (mv_c zt ad)).toArray below meth c s.heap [] 0 0 (go_th M cls mc ms Q below (as.map (mv_c zt ad)).toArray s (va_A (mv_W ca zt ad h n) s.heap.size) D ca zt n ad) (entryFrame m (as.map (mv_c zt ad)).toArray M.2.2.1) := by
      rw [lg_entry_eq]
      exact hb p e s m _ below meth c D ca zt (va_A (mv_W ca zt ad h n) s.heap.size) n ad ⟨B.exec, B.bytes, hml, B.returns, B.notSynchronized, (name_of_methodNamed B.named B.method).1, findClass_of_methodNamed B.named, fun w hw => hts w (List.mem_cons_of_mem _ hw), hK, fun q hq => Or.inr hq⟩ s.heap [] _ ad va_S.rf hP hD (mv_ls_en hl) (Nat.le_refl _) (fun _ _ => rfl) oh (ok_L_en oa) ok_S.nil
    obtain ⟨t, a1, b⟩ := K s₁ hh0 (Stand.of_body B)
    obtain ⟨o, b1, b2, b3, b4⟩ := b ⟨fun m' args' below' hf => by
      have := B.frames.symm.trans hf
      injection this with e1 e2
      injection e1 with e3 e4
      rw [← e3]
      exact B.named, hx⟩
    exact ⟨t, o, a1, b1, b2, b3, b4⟩
theorem fnT_mono {l : Launch} {M : go_M} {cls : String} {d w mc ms : Nat} {as : List mv_V} {h : mv_H} {n : Nat} {Q Q' : mv_H → Nat → Prop} (hF : FnT l M cls d w mc ms as h n Q) (hq : ∀ h' n', Q h' n' → Q' h' n') : FnT l M cls d w mc ms as h n Q' := by
  intro D ca zt ad sz oh oa
  have hM := hF D ca zt ad sz oh oa
  intro p e ha hc hk s m args below hf happ hP hK
  obtain ⟨k, o, h1, h2, h3, ⟨⟨x, ce, h', n', ad', q1, q2, q3, q4, q5, q6⟩, hF2⟩, h5⟩ := hM p e ha hc hk s m args below hf happ hP hK
  exact ⟨k, o, h1, h2, h3, ⟨⟨x, ce, h', n', ad', q1, q2, q3, q4, hq _ _ q5, q6⟩, hF2⟩, h5⟩
