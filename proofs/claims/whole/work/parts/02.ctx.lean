/-! what every method's walk takes along: the classes of arrays, the nest's words, statics and a text that nobody writes -/
def cx_ty (ca : Nat → ClassId) : List (ClassId × FieldType) := [(ca 0, .int), (ca 1, .long), (ca 2, .char), (ca 3, .object cx_RF)]
def cx_few : List Int32 := [0, 0, 1, 1, 2, 2, 0, 2, 1, 1, 2, 2, 3]
def cx_most : List Int32 := [120, 120, 120, 120, 2, 2, 120, 2, 1, 1, 2, 2, 3]
def cx_ops : List Int32 := [43, 42, 45, 47, 113, 114, 103, 94, 110, 100, 60, 61, 63]
def cx_Z (zt : Nat → Nat) (A : Nat → Prop) (U : State) (H : Heap) : Prop :=
  va_Z "PromotedNumbers" "FEWEST" "[I" (.ref (zt 0)) A U H ∧ va_T .int (zt 0) 13 (fun j => .int (cx_few.getD j 0)) A U H ∧
  va_Z "PromotedNumbers" "MOST" "[I" (.ref (zt 1)) A U H ∧ va_T .int (zt 1) 13 (fun j => .int (cx_most.getD j 0)) A U H ∧
  vk_R "PromotedNumbers$Grammar" 43 "+*-/qrg^nd<=?" (zt 2) U ∧ vk_S 1 [13] [cx_ops] (fun _ => zt 2) (fun _ => zt 3) A U H ∧
  va_Z "java/lang/String" "COMPACT_STRINGS" "Z" (.int 1) A U H ∧
  va_Zq "java/lang/Throwable" "UNASSIGNED_STACK" "[Ljava/lang/StackTraceElement;" A U H ∧ va_Zq "java/lang/Throwable" "SUPPRESSED_SENTINEL" "Ljava/util/List;" A U H ∧ va_AO cx_RF U
theorem zz_moved {zt : Nat → Nat} {A : Nat → Prop} {s U : State} {H : Heap} (hW : s.WarmedH U.vm) (h : cx_Z zt A s H) : cx_Z zt A U H := by
  obtain ⟨h1, h2, h3, h4, h5, h6, h7, h8, h9, h10⟩ := h
  have hv := hW.alike
  exact ⟨h1.moved hv, h2.moved hv, h3.moved hv, h4.moved hv, h5.warm hW, h6.moved hv, h7.moved hv, h8.moved hv, h9.moved hv, h10.moved hv⟩
theorem zz_kept {zt : Nat → Nat} {A : Nat → Prop} {U : State} {H H1 : Heap} (h : cx_Z zt A U H) (hq : ∀ a : Nat, a < H.size → ¬ A a → H1[a]? = H[a]?) : cx_Z zt A U H1 := by
  obtain ⟨h1, h2, h3, h4, h5, h6, h7, h8, h9, h10⟩ := h
  exact ⟨h1.kept hq, h2.kept hq, h3.kept hq, h4.kept hq, h5, h6.kept hq, h7.kept hq, h8.kept hq, h9.kept hq, h10⟩
theorem zz_narrow {zt : Nat → Nat} {A B : Nat → Prop} {U : State} {H : Heap} (hAB : ∀ q, B q → A q) (h : cx_Z zt A U H) : cx_Z zt B U H := by
  obtain ⟨h1, h2, h3, h4, h5, h6, h7, h8, h9, h10⟩ := h
  exact ⟨h1.narrow hAB, h2.narrow hAB, h3.narrow hAB, h4.narrow hAB, h5, h6.narrow hAB, h7.narrow hAB, h8.narrow hAB, h9.narrow hAB, h10⟩
theorem zz_same {zt : Nat → Nat} {A : Nat → Prop} {u U : State} {H : Heap} (hv : u.vm = U.vm) (h : cx_Z zt A u H) : cx_Z zt A U H := by
  obtain ⟨h1, h2, h3, h4, h5, h6, h7, h8, h9, h10⟩ := h
  have hva : u.vm.Alike U.vm := hv ▸ Vm.Alike.refl u.vm
  exact ⟨h1.moved hva, h2.moved hva, h3.moved hva, h4.moved hva, h5.same hv.symm, h6.moved hva, h7.moved hva, h8.moved hva, h9.moved hva, h10.moved hva⟩
def cx_K (D : va_G) (ca : Nat → ClassId) (zt : Nat → Nat) (A : Nat → Prop) (U : State) (H : Heap) : Prop :=
  va_K D vwCl (cx_ty ca) U ∧ (∀ w ∈ go_N, va_Nw w U) ∧ cx_Z zt A U H
