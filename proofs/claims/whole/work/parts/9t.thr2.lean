/-! exceptions: new, dup, invokespecial, athrow -/
theorem tr_off {l : Launch} {e : Env} (hl : l.stackTraces = false) (ha : l.admits e) : e.platform.stackTraces = false := by
  obtain ⟨-, -, -, -, hp, -⟩ := ha
  rw [hp]
  exact hl
theorem go_throw {l : Launch} {M : go_M} {R : Room} {u : Nat × Nat} {pc i1 ic mc ms : Nat} {X : String} {L : List (Option mv_V)} {h : mv_H} {n : Nat} {Q : mv_H → Nat → Prop} (hM : M.1.cls = "PromotedNumbers") (hcode : Cond.code M.1 M.2.1 M.2.2.1 M.2.2.2 ∈ go_T) (he : ea_ ic X) (hw1 : Cond.classLink "PromotedNumbers" i1 X ∈ go_T) (hw2 : Cond.instantiable X 6 ∈ go_T) (hw3 : Cond.initialized X ∈ go_T) (hfit : Bundle.fit X = true)
    (d0 : decode M.2.1 pc = .ok (.new i1, 3)) (d1 : decode M.2.1 (pc + 3) = .ok (.dup, 1)) (d2 : decode M.2.1 (pc + 4) = .ok (.invokespecial ic, 3)) (d3 : decode M.2.1 (pc + 7) = .ok (.athrow, 1)) (hl : l.stackTraces = false) (hR : 6 ≤ R.frames ∧ 90 ≤ R.locals) (hr1 : u.1 + 1 ≤ R.cells) (hr2 : u.2 + 6 ≤ R.slots) (hu : u.1 + 1 ≤ mc ∧ u.2 + 6 ≤ ms) (hQ : Q h n) : Go (go_th M X mc ms Q) l M R u pc L [] h n := by
  intro p e s m args below meth c D ca zt A n0 ad0 C H locs ls ad hS hP hD hls hn ha oh ol os
  obtain ⟨c1, c2, c3, c4, c5, c6, c7, c8, k0, c10⟩ := id C
  intro T hT X0
  rcases Classical.em (¬ go_H M s) with hyp | hyp
  · exact ⟨_, Steps.refl _, fun h => absurd h hyp⟩
  have hyp : go_H M s := Classical.not_not.mp hyp
  have hnamed := hyp.1 m args below X0.frames
  obtain ⟨meth', c', q1, q2, -, -, -, -, hempty, -⟩ := Cond.code_spec hnamed (c8 _ hcode)
  cases X0.method.symm.trans q1
  cases X0.code.symm.trans q2
  have hout : ∀ x ∈ c.exceptionTable.toList, covers x (pc + 4 + 3) = false := by
    intro x hx
    rw [Array.isEmpty_iff] at hempty
    rw [hempty] at hx
    exact absurd hx List.not_mem_nil
  have X1 := st_re X0 (by omega) (by omega)
  have hW' : s.WarmedH (T.setFrames (.invoking m args :: below)).vm := X0.warmed
  have hown' : (T.setFrames (.invoking m args :: below)).vm.findClass "PromotedNumbers" = some m.cls := by
    rw [hW'.alike.findClass, ← hM]
    exact c7
  have hw' : ∀ w ∈ go_T, w.before args (T.setFrames (.invoking m args :: below)) = true := fun w hw => word_at hW' ((go_good hcode) w (List.mem_cons_of_mem _ hw)).2 (c8 w hw)
  have k0' : cx_K D ca zt A (T.setFrames (.invoking m args :: below)) (T.setFrames (.invoking m args :: below)).heap := cx_call k0 hS (fun _ h => h) hT hW'
  have x0' : ex_ (T.setFrames (.invoking m args :: below)) := ex_m hyp.2 k0 hW' hS hT
  obtain ⟨cX, hcX⟩ := x0'.1 X he.1
  have K : W p l e (go_rm R.frames R.locals (R.cells - u.1) (R.slots - u.2)) (T.setFrames (.invoking m args :: below)) m args below meth c H [] 0 0 (fun t => ∃ (a : Addr) (ce : Cell), t.status = .running ∧ Ended t below (.threw a) ∧ (T.setFrames (.invoking m args :: below)).WarmedH t.vm ∧ (T.setFrames (.invoking m args :: below)).sameButNew ({ t with vm := (T.setFrames (.invoking m args :: below)).vm } : State) [] 1 6 ∧ t.heap[a]? = some ce ∧ ce.vm = .none ∧ (T.setFrames (.invoking m args :: below)).vm.findClass X = some ce.cls) (F0 m pc ls []) := by
    refine W.newcK c1 c2 hown' (hw' _ hw1) (hw' _ hw2) (hw' _ hw3) rfl d0 (by show 0 + 1 ≤ R.cells - u.1; omega) (by show 0 + 6 ≤ R.slots - u.2; omega) hcX rfl fun H1 kC hk e1 z1 o1 => ?_
    refine lv_dup c1 c2 d1 rfl ?_
    intro T1 hT1 X2
    obtain ⟨U, st, run, ended, hWU, hsame, ce, hce, hoc⟩ := X2.ctorThrow0 c1 (tr_off hl X2.admits) (own := "PromotedNumbers") (cls := X) (names := et_) (ic := ic) hown' hfit (by decide) (ea_all he hw' k0' x0') (fun x hx => absurd hx List.not_mem_nil) hcX hk (by rw [hT1]; exact e1) (by rw [← hT]; exact Nat.le_refl _) (g := F0 m (pc + 3 + 1) ls [.ref H.size, .ref H.size]) rfl (hls.1.trans c3.symm) rfl rfl (rest := []) rfl (by rw [c2]; exact d2) (by rw [c2]; exact d3) hout (by show 2 + 3 < R.frames; omega) (by show 2 * 0 + (1 + 0) + (13 * (2 + 1) + 41) ≤ R.locals; omega) c5
    exact ⟨U, st, _, ce, run, ended, hWU, hsame, hce, hoc.vm, hoc.cls⟩
  obtain ⟨t, st, a, ce, run, ended, hWt, hsame, hce, hvm, hcls⟩ := K T hT X1
  have hkeep : ∀ q, q < T.heap.size → t.heap[q]? = T.heap[q]? := fun q hq => sb_0 hsame hq
  have hTsame : T.sameButNew ({ t with vm := T.vm } : State) [] 1 6 := ⟨by
    have h1 := hsame.1
    rw [State.setFrames_setFrames] at h1
    exact h1, hsame.2⟩
  have hs2 := X0.same.trans (hTsame.setVm s.vm)
  rw [List.append_nil] at hs2
  refine ⟨t, st, fun _ => ⟨.threw a, run, ended, ⟨⟨a, ce, h, n, ad, rfl, hce, hvm, ?_, hQ, hn, ha, oh, ?_, hD⟩, ?_⟩, locs, ⟨⟨a, rfl⟩, State.WarmedH.trans X0.warmed hWt, hs2.weaken (fun y hy _ => hy) hu.1 hu.2⟩, hS.2.2⟩⟩
  · rw [← hW'.alike.findClass]
    exact hcls
  · refine hP.kept fun k q hk => ?_
    rw [hkeep _ (by rw [hT]; exact (hP k q hk).lt), hT]
  · subst hT
    refine ⟨Nat.le_trans hS.1 hsame.2.1, fun q hq hA => ?_⟩
    rw [hkeep q (Nat.lt_of_lt_of_le hq hS.1)]
    exact hS.2.1 q hq hA
