/-! a call of a method with handlers, and the law's end -/
def go_xf (Ψ : go_F) : go_F := fun below args s A D ca zt n0 ad0 t => ex_ s → Ψ below args s A D ca zt n0 ad0 t
theorem go_callSW {Ψ : go_F} {l : Launch} {M M' : go_M} {hh : List (Nat × Nat × Nat × Nat)} {R : Room} {u : Nat × Nat} {pc q idx np : Nat} {L : List (Option mv_V)} {st : List mv_V} {h : mv_H} {n d w mc ms : Nat} {as rest : List mv_V} {Q : Option mv_V → mv_H → Nat → Prop} (hcw : Cond.codeWith M'.1 M'.2.1 M'.2.2.1 M'.2.2.2 hh ∈ go_T) (hin : Cond.initialized M'.1.cls ∈ go_T) (hy : M'.1.cls ≠ "java/lang/invoke/MethodHandle" ∧ M'.1.cls ≠ "java/lang/invoke/VarHandle") (hpm : (parseMethodDescriptor M'.1.desc).map (fun d => d.parameters.length) = some np) (hv1 : Cond.static M'.1 ∈ go_T) (hlk : Cond.methodLink M.1.cls idx M'.1 ∈ go_T) (hd : decode M.2.1 pc = .ok (.invokestatic idx, 3)) (hp : pc + 3 = q) (hst : st = as.reverse ++ rest) (hnp : as.length = np) (hw : (rest.map mv_k).sum ≤ 8) (hR : go_fit R u M'.2.2.1 d w mc ms)
    (hF : FnW l M' hh d w mc ms as h n Q) (k : ∀ v h' n', Q v h' n' → n ≤ n' → Go (go_xf Ψ) l M R (u.1 + mc, u.2 + ms) q L (v.toList ++ rest) h' n') : Go (go_xf Ψ) l M R u pc L st h n := by
  subst hp
  subst hst
  intro p e s m args below meth c D ca zt A n0 ad0 C H locs ls ad hS hP hD hl hn ha oh ol os
  obtain ⟨c1, c2, c3, c4, c5, c6, c7, c8, k0, c10⟩ := id C
  obtain ⟨r1, r2, r3, r4⟩ := hR
  have hFc := go_free (D := D) hS hD c10
  have hM := hF D ca zt ad H.size oh os.left.rev
  have hG : GoodIn go_T (Cond.codeWith M'.1 M'.2.1 M'.2.2.1 M'.2.2.2 hh :: go_T) := go_good hcw
  have hlen : ∀ sig, parseMethodDescriptor M'.1.desc = some sig → (as.map (mv_c zt ad)).length = sig.parameters.length := fun sig hs => by
    rw [hs] at hpm
    rw [List.length_map, hnp]
    exact (Option.some.inj hpm).symm
  have hsv : (as.reverse ++ rest).map (mv_c zt ad) = (as.map (mv_c zt ad)).reverse ++ rest.map (mv_c zt ad) := by
    rw [List.map_append, List.map_reverse]
  have hw' : ((rest.map (mv_c zt ad)).map fun v => v.category).sum ≤ 8 := by rw [mv_sum]; exact hw
  rw [hsv]
  rcases Classical.em (¬ ex_ s) with hx | hx
  · intro T hT X0
    exact ⟨_, Steps.refl _, fun h => absurd h hx⟩
  have hx : ex_ s := Classical.not_not.mp hx
  refine go_back C hS hD hl hn ha ol os.right (x := (as.map (mv_c zt ad)).toArray) ?_ k
  intro T hT X0
  have hK := va_backW (p := p) (e := e) (below := below) (sargs := args) (len := 3) (W := 8) hM fb_x rfl rfl r1 r2 (fun w hw a' U hW => word_at hW (hG w hw).2 (c8 w (hG w hw).1)) List.mem_cons_self (fun a' U hW => word_at hW (hG _ (List.mem_cons_of_mem _ hin)).2 (c8 _ hin))
  obtain ⟨mk, methM, cM, hnamed, hmethM, -, -, -, -, -, -, hsig⟩ := Cond.codeWith_spec (c8 _ hcw)
  obtain ⟨v, vm₁, ⟨U', l2, c2', s2⟩, hW₁, X', ⟨g', mk', t, L', e1, e2, hq, h1, hL, h2, h3⟩, st⟩ := X0.staticBack c1 c7 (c8 _ hlk) (c8 _ hv1) (c8 _ hin) hnamed hmethM hsig hy hK (g := F0 m pc ls ((as.map (mv_c zt ad)).reverse ++ rest.map (mv_c zt ad))) rfl (hl.1.trans c3.symm) (Steps.refl _) hlen rfl (lv_room hw') (by rw [c2]; exact hd)
    (fun vm₁ hW => ⟨r3, r4, ⟨rfl, by show T.heap.size = _; rw [hT], by show va_P D vwCl _ T.heap; rw [hT]; exact hP, hD.weaken (fun _ _ _ _ => trivial), cx_call k0 hS hFc hT hW⟩, ex_m (U := T.setVm vm₁) hx k0 hW hS hT⟩)
  dsimp only [Jvm.Free.Pt.U, Jvm.Free.Pt.locs, Jvm.Free.Pt.cells, Jvm.Free.Pt.slots] at X' e1 e2 h1 h2 h3 st
  subst h1; subst h2; subst h3
  exact ⟨v, (T.setVm vm₁).calling g' mk' _, t, U', L', hT, X', hL, e1, e2, hq, fun tg h => st.trans h⟩
