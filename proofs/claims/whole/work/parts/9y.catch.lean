/-! exceptions: a method with handlers (the law's helpers) -/
def go_w (M : go_M) (mc ms : Nat) (Q : Option mv_V → mv_H → Nat → Prop) : go_F := fun below args s A D ca zt n0 ad0 t => go_H M s → MQ below (fn_Q D ca zt ad0 n0 A Q) args s mc ms A t
def FnW (l : Launch) (M : go_M) (hh : List (Nat × Nat × Nat × Nat)) (d w mc ms : Nat) (as : List mv_V) (h : mv_H) (n : Nat) (Q : Option mv_V → mv_H → Nat → Prop) : Prop :=
  ∀ (D : va_G) (ca : Nat → ClassId) (zt ad : Nat → Nat) (sz : Nat), ok_H n h → ok_S n as →
    Met l M.1 (Cond.codeWith M.1 M.2.1 M.2.2.1 M.2.2.2 hh :: go_T) (go_rm d w mc ms) (fun a U => fn_P D ca zt ad as h n sz a U ∧ ex_ U) (fn_Q D ca zt ad n (va_A (mv_W ca zt ad h n) sz) Q) mc ms (va_A (mv_W ca zt ad h n) sz)
theorem go_phi {φ φ' : go_F} {l : Launch} {M : go_M} {R : Room} {u : Nat × Nat} {pc n : Nat} {L : List (Option mv_V)} {st : List mv_V} {h : mv_H} (hφ : ∀ below args s A D ca zt n0 ad0 t, φ below args s A D ca zt n0 ad0 t → φ' below args s A D ca zt n0 ad0 t) (k : Go φ l M R u pc L st h n) : Go φ' l M R u pc L st h n := by
  intro p e s m args below meth c D ca zt A n0 ad0 C H locs ls ad hS hP hD hl hn ha oh ol os T hT X
  obtain ⟨t, a, b⟩ := k p e s m args below meth c D ca zt A n0 ad0 C H locs ls ad hS hP hD hl hn ha oh ol os T hT X
  exact ⟨t, a, hφ _ _ _ _ _ _ _ _ _ _ b⟩
theorem go_fw {l : Launch} {M : go_M} {R : Room} {u : Nat × Nat} {pc n mc ms : Nat} {Q : Option mv_V → mv_H → Nat → Prop} {L : List (Option mv_V)} {st : List mv_V} {h : mv_H} (k : Go (go_f mc ms Q) l M R u pc L st h n) : Go (go_w M mc ms Q) l M R u pc L st h n := go_phi (fun _ _ _ _ _ _ _ _ _ _ b _ => b) k
theorem fnW_of {l : Launch} {M : go_M} {hh : List (Nat × Nat × Nat × Nat)} {d w mc ms : Nat} {as : List mv_V} {h : mv_H} {n : Nat} {Q : Option mv_V → mv_H → Nat → Prop} {L : List (Option mv_V)} (hy : plainName M.1.cls = true) (hlen : (mv_sl as).length ≤ M.2.2.1) (hL : mv_en as M.2.2.1 = L) (hb : Go (go_w M mc ms Q) l M (go_rm d w mc ms) (0, 0) 0 L [] h n) : FnW l M hh d w mc ms as h n Q := by
  subst hL
  intro D ca zt ad sz oh oa
  refine va_MetW (cc := M.2.1) (maxL := M.2.2.1) (ret := M.2.2.2) (hh := hh) hy rfl ?_
  intro p e s m args below meth c s₁ B hml hv
  obtain ⟨⟨rfl, hsz, hP, hD0, hK⟩, hx⟩ := hv
  subst hsz
  have hD := hD0.self (sz := s.heap.size)
  have hts := atoms_spec (ws := Cond.codeWith M.1 M.2.1 M.2.2.1 M.2.2.2 hh :: go_T) B.pre
  have hl := lv_entry (as.map (mv_c zt ad)) (n := M.2.2.1) (by rw [mv_sl_len]; exact hlen)
  rw [lg_entry_eq]
  intro T hT X
  obtain ⟨t, a, b⟩ := hb p e s m _ below meth c D ca zt (va_A (mv_W ca zt ad h n) s.heap.size) n ad ⟨B.exec, B.bytes, hml, B.returns, B.notSynchronized, (name_of_methodNamed B.named B.method).1, findClass_of_methodNamed B.named, fun w hw => hts w (List.mem_cons_of_mem _ hw), hK, fun q hq => Or.inr hq⟩ s.heap [] _ ad va_S.rf hP hD (mv_ls_en hl) (Nat.le_refl _) (fun _ _ => rfl) oh (ok_L_en oa) ok_S.nil T hT X
  refine ⟨t, a, b ⟨fun m' args' below' hf => ?_, hx⟩⟩
  have := B.frames.symm.trans hf
  injection this with e1 e2
  injection e1 with e3 e4
  rw [← e3]
  exact B.named
theorem as_self {s : State} {c : ClassId} : s.vm.assignable c c = true := by
  show s.vm.assignableAux (255 + 1) c c = true
  rw [Vm.assignableAux]
  simp
/-- the callee throws; a row of the table takes it; its handler puts it away -/
theorem go_catchV {l : Launch} {M M' : go_M} {hh hp hr : List (Nat × Nat × Nat × Nat)} {a0 b0 hpc ct : Nat} {R : Room} {u : Nat × Nat} {pc idx np : Nat} {X : String} {L : List (Option mv_V)} {st : List mv_V} {h : mv_H} {n d w mc ms mc' ms' : Nat} {as rest : List mv_V} {Q' : mv_H → Nat → Prop} {Q : Option mv_V → mv_H → Nat → Prop} {b ci : Nat} {fs : List mv_V} {Tt : u_T} {N : Nat} {j : Fin 4}
    (hcw : Cond.codeWith M.1 M.2.1 M.2.2.1 M.2.2.2 hh ∈ go_T) (hsp : hh = hp ++ (a0, b0, hpc, ct) :: hr) (hps : ∀ y ∈ hp, y.2.2.2 ≠ 0 ∧ ∃ Y ∈ xn_, X ≠ Y ∧ Cond.classLink M.1.cls y.2.2.2 Y ∈ go_T) (hct : ct ≠ 0) (hcl : Cond.classLink M.1.cls ct X ∈ go_T) (hX : X ∈ xn_) (hcov : a0 ≤ pc ∧ pc < b0)
    (hm : go_met M' np) (hv1 : Cond.instanceMethod M'.1 ∈ go_T) (hv2 : Cond.selects M'.1.cls M'.1 M'.1 ∈ go_T) (hlk : Cond.methodLink M.1.cls idx M'.1 ∈ go_T) (hd : decode M.2.1 pc = .ok (.invokevirtual idx, 3)) (hst : st = as.reverse ++ mv_R b :: rest) (hnp : as.length = np) (hh' : h b = mv_O ci fs) (hci : vwCl[ci]? = some (M'.1.cls, Tt, N)) (hw : (rest.map mv_k).sum ≤ 8) (hR : go_fit R u M'.2.2.1 d w mc' ms')
    (hF : FnT l M' X d w mc' ms' (mv_R b :: as) h n Q') (hda : decode M.2.1 hpc = .ok (.astore_n j, 1)) (hj : (j : Nat) < M.2.2.1)
    (k : ∀ h' n', Q' h' n' → n ≤ n' → Go (go_w M mc ms Q) l M R (u.1 + mc', u.2 + ms') (hpc + 1) [] [] h' n') : Go (go_w M mc ms Q) l M R u pc L st h n := by
  subst hst
  intro p e s m args below meth c D ca zt A n0 ad0 C H locs ls ad hS hP hD hl hn ha oh ol os
  obtain ⟨c1, c2, c3, c4, c5, c6, c7, c8, k0, c10⟩ := id C
  have hFc := go_free (D := D) hS hD c10
  have hsv : (as.reverse ++ mv_R b :: rest).map (mv_c zt ad) = (as.map (mv_c zt ad)).reverse ++ Value.ref (ad b) :: rest.map (mv_c zt ad) := by
    rw [List.map_append, List.map_reverse]; rfl
  rw [hsv]
  intro T hT X0
  rcases Classical.em (¬ go_H M s) with hyp | hyp
  · exact ⟨_, Steps.refl _, fun h => absurd h hyp⟩
  have hyp : go_H M s := Classical.not_not.mp hyp
  have hnamed := hyp.1 m args below X0.frames
  obtain ⟨m9, meth', c', q0, q1, q2, -, -, htab, -, -, -⟩ := Cond.codeWith_spec (c8 _ hcw)
  cases hnamed.symm.trans q0
  cases X0.method.symm.trans q1
  cases X0.code.symm.trans q2
  obtain ⟨v, st₀, t, T', L1, h0, hW0, X', hL, e1, e2, ⟨⟨y, ce, h', n', ad', q1, q2, q3, q4, q5, q6, q7, q8, q9, q10⟩, hz, hkp⟩, stp⟩ := ru_V c1 c2 (hl.1.trans c3.symm) c7 c8 k0 hS hP hD hFc hyp.2 oh (ok_S.cons os.right.hd os.left.rev) hm hv1 hv2 hlk hd hnp hh' hci hw hR hF T hT X0
  obtain rfl : v = y := by injection q1
  rw [h0] at hz hkp
  have hfx : s.vm.findClass X = some ce.cls := by
    rw [← hW0.alike.findClass]
    exact q4
  rw [hsp] at htab
  obtain ⟨l1, l2, hl1, g1, g2⟩ := List.map_eq_append_iff.mp htab
  obtain ⟨x, l3, rfl, gx, g3⟩ := List.map_eq_cons_iff.mp g2
  have x1 : x.startPc = a0 := congrArg (fun z => z.1) gx
  have x2 : x.endPc = b0 := congrArg (fun z => z.2.1) gx
  have x3 : x.handlerPc = hpc := congrArg (fun z => z.2.2.1) gx
  have x4 : x.catchType = ct := congrArg (fun z => z.2.2.2) gx
  obtain ⟨hend, hk0⟩ := X'.catches_of_link c7 (x := x) (by rw [x4]; exact hct) (by rw [x4]; exact c8 _ hcl) hfx as_self
  obtain ⟨vm', XV, st2⟩ := X'.thenCaughtThrough v (g := F0 m pc ls (rest.map (mv_c zt ad))) rfl stp (cell := ce) (by rw [e1]; exact q2) (by rw [q3]; rfl) hk0 l1 x l3 hl1 (fun y hy => by
    obtain ⟨hy0, Y, hY, hne, hlY⟩ := hps _ (by rw [← g1]; exact List.mem_map_of_mem hy)
    obtain ⟨cY, hcY, hcl⟩ := Cond.classLink_spec c7 (c8 _ hlY) e.platform (by rw [X'.admits.platform])
    exact Or.inr ⟨hy0, cY, hcl, hyp.2.2.1 X hX Y hY hne _ _ hfx hcY⟩) (by simp [covers, x1, x2, hcov]) hend
  have hS' : va_S A s.heap T'.heap (locs ++ L1) := ⟨Nat.le_trans hS.1 (by rw [e1]; exact hz), fun q h1 h2 => by
      rw [e1, hkp q (Nat.lt_of_lt_of_le h1 hS.1) (fun z => h2 (hFc q z))]; exact hS.2.1 q h1 h2, fun q hq => by
      rcases List.mem_append.mp hq with h | h
      · exact hS.2.2 q h
      · exact hFc _ (hL q h)⟩
  have K : W p l e R s m args below meth c T'.heap (locs ++ L1) (u.1 + mc') (u.2 + ms') (go_w M mc ms Q below args s A D ca zt n0 ad0) (F0 m hpc ls [.ref v]) := by
    refine lv_astore_n c1 c2 hda rfl (lv := []) ⟨hl.1, hl.2.1, fun q hq => absurd hq List.not_mem_nil⟩ hj rfl (fun ls' hl' => ?_)
    exact k h' n' q5 q6 p e s m args below meth c D ca zt A n0 ad0 C T'.heap (locs ++ L1) ls' ad' hS' (by rw [e1]; exact q9) (q10.weaken fun _ q _ z => hFc q.1 z) ⟨hl'.1, hl'.2.1, fun i v hv => by simp at hv⟩ (Nat.le_trans hn q6) (fun i hi => (q7 i (Nat.lt_of_lt_of_le hi hn)).trans (ha i hi)) q8 (fun i v hv => by simp at hv) ok_S.nil
  obtain ⟨t2, a2, b2⟩ := K (T'.setVm vm') rfl XV
  rw [x3] at st2
  exact ⟨t2, st2.trans a2, b2⟩
