/-! exceptions: what the walk must know of their classes -/
def xn_ : List String := ["java/lang/IllegalArgumentException", "java/lang/UnsupportedOperationException", "java/lang/ArithmeticException", "java/lang/IllegalStateException", "java/lang/IndexOutOfBoundsException"]
def xt_ : String := "java/lang/Throwable"
def et_ : List String := ["java/lang/RuntimeException", "java/lang/Exception"]
/-- a static of Throwable lies where the tables say -/
def xl_ (n d : String) (U : State) : Prop := ∃ (c i : Nat) (k : Class) (f : Field) (a : Nat) (cell : Cell), U.vm.findClass xt_ = some c ∧ U.fieldFound? xt_ n d = some (c, k, i, f) ∧ f.isStatic = true ∧ k.statics = some a ∧ U.heap[a]? = some cell ∧ cell.vm.isStatics = true ∧ cell.cls = c ∧ f.slot < cell.slots.size ∧ k.staticTypes[f.slot]? = some f.type
/-- no two of the five classes fit each other; Throwable's two statics lie; the constructors are declared -/
def ex_ (U : State) : Prop :=
  (∀ X ∈ xn_, ∃ c, U.vm.findClass X = some c) ∧ (∀ X ∈ xn_, ∀ Y ∈ xn_, X ≠ Y → ∀ c t, U.vm.findClass X = some c → U.vm.findClass Y = some t → U.vm.assignable c t = false) ∧ xl_ "UNASSIGNED_STACK" "[Ljava/lang/StackTraceElement;" U ∧ xl_ "SUPPRESSED_SENTINEL" "Ljava/util/List;" U
theorem xl_m {n d : String} {s U : State} (h : xl_ n d s) (hW : s.vm.Alike U.vm) {A : Nat → Prop} (hz : va_Zq xt_ n d A s s.heap) (hk : ∀ q, q < s.heap.size → ¬ A q → U.heap[q]? = s.heap[q]?) : xl_ n d U := by
  obtain ⟨c, i, k, f, a, cell, hc, hi, hst, ha, hcell, hs, hcls, hlt, hty⟩ := h
  obtain ⟨k', hi', hek⟩ := State.fieldFound?_setVm hW hi
  have hna : ¬ A a := by
    rcases hz with ⟨cf, kf, fi, f', a', cell', g1, g2, g3, g4, g5, g6, g7, g8⟩ | ⟨t, cf, kf, fi, f', a', cell', g1, g2, g3, g4, g5, g6, g7, g8⟩
    · cases hi.symm.trans g1
      cases ha.symm.trans g4
      exact g8
    · cases hi.symm.trans g1
      cases ha.symm.trans g4
      exact g8
  refine ⟨c, i, k', f, a, cell, by rw [hW.findClass]; exact hc, hi', hst, by rw [hek]; exact ha, ?_, hs, hcls, hlt, by rw [hek]; exact hty⟩
  rw [hk a (Array.getElem?_eq_some_iff.mp hcell).1 hna]
  exact hcell
theorem ex_m {s U : State} {D : va_G} {ca : Nat → ClassId} {zt : Nat → Nat} {A : Nat → Prop} (h : ex_ s) (hk : cx_K D ca zt A s s.heap) (hW : s.WarmedH U.vm) {H : Heap} {locs : List Loc} (hS : va_S A s.heap H locs) (hU : U.heap = H) : ex_ U := by
  subst hU
  obtain ⟨h1, h2, h3, h4⟩ := h
  obtain ⟨-, -, -, -, -, -, -, -, -, z8, z9, -⟩ := hk
  have ha := hW.alike
  refine ⟨fun X hX => ?_, fun X hX Y hY hn c t hc ht => ?_, xl_m h3 ha z8 hS.2.1, xl_m h4 ha z9 hS.2.1⟩
  · rw [ha.findClass]
    exact h1 X hX
  · rw [ha.findClass] at hc ht
    rw [ha.assignable]
    exact h2 X hX Y hY hn c t hc ht
theorem xl_w {n d : String} {s : State} (h : xl_ n d s) (args : Array Value) : (Cond.laysStatic xt_ n d).before args s = true := by
  obtain ⟨c, i, k, f, a, cell, hc, hi, hst, ha, hcell, hs, hcls, hlt, hty⟩ := h
  exact Cond.laysStatic_of hc hi hst ha hcell hs hcls hlt hty
theorem xr_w {n d : String} {s : State} {A : Nat → Prop} (hz : va_Zq xt_ n d A s s.heap) (args : Array Value) : (Cond.isRef (.static xt_ n d)).before args s = true := by
  rcases hz with ⟨cf, kf, fi, f', a', cell', g1, g2, g3, g4, g5, g6, g7, g8⟩ | ⟨t, cf, kf, fi, f', a', cell', g1, g2, g3, g4, g5, g6, g7, g8⟩
  · simp [Cond.before, Cond.holds, Cond.value, Term.eval, State.fieldNamed?, g1, g2, g4, g5, g6, g7]
  · simp [Cond.before, Cond.holds, Cond.value, Term.eval, State.fieldNamed?, g1, g2, g4, g5, g6, g7]
theorem xc_w {X : String} {s : State} {c : ClassId} (hc : s.vm.findClass X = some c) (args : Array Value) : (Cond.castable X X).before args s = true := by
  have : s.vm.assignable c c = true := by
    show s.vm.assignableAux (255 + 1) c c = true
    rw [Vm.assignableAux]
    simp
  simp [Cond.before, Cond.holds, Cond.value, hc, this]
theorem xd_w {x : MethodName} {s : State} {args : Array Value} {b : ByteArray} {mL : Nat} {ret : Option FieldType} (hi : (Cond.instanceMethod x).before args s = true) (hc : (Cond.code x b mL ret).before args s = true) : (Cond.declares x).before args s = true := by
  obtain ⟨r0, r, hn, hm, hst, hsig⟩ := va_Decl.of hi hc
  simp [Cond.before, Cond.holds, Cond.value, hn, hm, hst, hsig]
def es_ (X : String) : List Cond := [.isRef (.static xt_ "UNASSIGNED_STACK" "[Ljava/lang/StackTraceElement;"), .isRef (.static xt_ "SUPPRESSED_SENTINEL" "Ljava/util/List;"), .laysStatic xt_ "UNASSIGNED_STACK" "[Ljava/lang/StackTraceElement;", .laysStatic xt_ "SUPPRESSED_SENTINEL" "Ljava/util/List;", .castable X X,
  .declares ⟨"java/lang/RuntimeException", "<init>", "()V"⟩, .declares ⟨"java/lang/Exception", "<init>", "()V"⟩, .declares ⟨"java/lang/Throwable", "<init>", "()V"⟩]
def ea_ (ic : Nat) (X : String) : Prop := X ∈ xn_ ∧ ∀ a ∈ Bundle.ownAtoms0 "PromotedNumbers" ic X et_, a ∈ go_T ∨ a ∈ es_ X
theorem ea_IB : ea_ 118 "java/lang/IndexOutOfBoundsException" := ⟨by decide, by decide +kernel⟩
theorem ea_IA : ea_ 124 "java/lang/IllegalArgumentException" := ⟨by decide, by decide +kernel⟩
theorem ea_UO : ea_ 127 "java/lang/UnsupportedOperationException" := ⟨by decide, by decide +kernel⟩
theorem ea_AR : ea_ 130 "java/lang/ArithmeticException" := ⟨by decide, by decide +kernel⟩
theorem ea_IS : ea_ 133 "java/lang/IllegalStateException" := ⟨by decide, by decide +kernel⟩
/-- all words of a throw -/
theorem ea_all {ic : Nat} {X : String} (he : ea_ ic X) {args : Array Value} {s : State} {D : va_G} {ca : Nat → ClassId} {zt : Nat → Nat} {A : Nat → Prop} (hw : ∀ w ∈ go_T, w.before args s = true) (hk : cx_K D ca zt A s s.heap) (hx : ex_ s) : ∀ a ∈ Bundle.ownAtoms0 "PromotedNumbers" ic X et_, a.before args s = true := by
  intro a ha
  obtain ⟨hX, he⟩ := he
  obtain ⟨-, -, -, -, -, -, -, -, -, z8, z9, -⟩ := hk
  rcases he a ha with h | h
  · exact hw a h
  · obtain ⟨c, hc⟩ := hx.1 X hX
    simp only [es_, List.mem_cons, List.not_mem_nil, or_false] at h
    rcases h with rfl | rfl | rfl | rfl | rfl | rfl | rfl | rfl
    · exact xr_w z8 args
    · exact xr_w z9 args
    · exact xl_w hx.2.2.1 args
    · exact xl_w hx.2.2.2 args
    · exact xc_w hc args
    · exact xd_w (hw _ i_jRuntimeException_init) (hw _ g_jRuntimeException_init.1)
    · exact xd_w (hw _ i_jException_init) (hw _ g_jException_init.1)
    · exact xd_w (hw _ i_jThrowable_init) (hw _ g_jThrowable_init.1)
