/-! exceptions: a method without handlers whose callee throws, throws -/
theorem go_pass {l : Launch} {M : go_M} {R : Room} {u : Nat × Nat} {pc : Nat} {X : String} {h : mv_H} {n n0 mc ms mc' ms' : Nat} {Q Q' : mv_H → Nat → Prop} {p : Program} {e : Env} {s : State} {m : MethodId} {args : Array Value} {below : List Frame} {meth : Method} {c : Code} {D : va_G} {ca : Nat → ClassId} {zt : Nat → Nat} {A : Nat → Prop} {H : Heap} {locs : List Loc} {ls : Array Slot} {ad ad0 : Nat → Nat} {stv restv : List Value} {x : Array Value}
    (C : go_C M p s m args meth c D ca zt A) (hcode : Cond.code M.1 M.2.1 M.2.2.1 M.2.2.2 ∈ go_T) (hS : va_S A s.heap H locs) (hD : va_D A (mv_W ca zt ad h n)) (hn : n0 ≤ n) (ha : ∀ i, i < n0 → ad i = ad0 i) (hu : u.1 + mc' ≤ mc ∧ u.2 + ms' ≤ ms) (hq : ∀ h' n', Q' h' n' → Q h' n')
    (run : go_H M s → ru_T p l e R s m args below meth c H locs u.1 u.2 mc' ms' (F0 m pc ls stv) restv (fn_T D ca zt ad n (va_A (mv_W ca zt ad h n) H.size) X Q' x) (va_A (mv_W ca zt ad h n) H.size)) :
    W p l e R s m args below meth c H locs u.1 u.2 (go_th M X mc ms Q below args s A D ca zt n0 ad0) (F0 m pc ls stv) := by
  have hFc := go_free (D := D) hS hD C.2.2.2.2.2.2.2.2.2
  obtain ⟨c1, c2, c3, c4, c5, c6, c7, c8, k0, c10⟩ := id C
  intro T hT X0
  rcases Classical.em (¬ go_H M s) with hyp | hyp
  · exact ⟨_, Steps.refl _, fun h => absurd h hyp⟩
  have hyp : go_H M s := Classical.not_not.mp hyp
  have hnamed := hyp.1 m args below X0.frames
  obtain ⟨meth', c', q1, q2, -, -, -, -, hempty, -⟩ := Cond.code_spec hnamed (c8 _ hcode)
  cases X0.method.symm.trans q1
  cases X0.code.symm.trans q2
  have hout : ∀ x ∈ c.exceptionTable.toList, covers x pc = false := by
    intro x hx
    rw [Array.isEmpty_iff] at hempty
    rw [hempty] at hx
    exact absurd hx List.not_mem_nil
  obtain ⟨v, st₀, t, T', L1, h0, hW0, X', hL, e1, e2, ⟨⟨y, ce, h', n', ad', q1, q2, q3, q4, q5, q6, q7, q8, q9, q10⟩, hz, hkp⟩, st⟩ := run hyp T hT X0
  obtain rfl : v = y := by injection q1
  rw [h0] at hz hkp
  obtain ⟨w1, w2, w3, w4, w5⟩ := X'.leaveThrown v (g := F0 m pc ls restv) rfl rfl rfl hout c5
  refine ⟨_, st.trans w1, fun _ => ⟨.threw v, w2, w3, ⟨⟨v, ce, h', n', ad', rfl, ?_, q3, ?_, hq _ _ q5, Nat.le_trans hn q6, fun i hi => (q7 i (Nat.lt_of_lt_of_le hi hn)).trans (ha i hi), q8, ?_, q10.weaken fun _ q _ z => hFc q.1 z⟩, ?_, ?_⟩, locs ++ L1, ⟨⟨v, rfl⟩, w4, w5.weaken (fun y hy _ => hy) hu.1 hu.2⟩, ?_⟩⟩
  · show T'.heap[v]? = some ce
    rw [e1]
    exact q2
  · rw [← hW0.alike.findClass]
    exact q4
  · show va_P D vwCl (mv_W ca zt ad' h' n') T'.heap
    rw [e1]
    exact q9
  · show s.heap.size ≤ T'.heap.size
    rw [e1]
    exact Nat.le_trans hS.1 hz
  · intro q h1 h2
    show T'.heap[q]? = s.heap[q]?
    rw [e1, hkp q (Nat.lt_of_lt_of_le h1 hS.1) (fun z => h2 (hFc q z))]
    exact hS.2.1 q h1 h2
  · intro q hq
    rcases List.mem_append.mp hq with h | h
    · exact hS.2.2 q h
    · exact hFc _ (hL q h)
section ThrGo
variable {l : Launch} {M M' : go_M} {R : Room} {u : Nat × Nat} {pc idx np : Nat} {X : String} {L : List (Option mv_V)} {st : List mv_V} {h : mv_H} {n d w mc ms mc' ms' : Nat} {as rest : List mv_V} {Q Q' : mv_H → Nat → Prop}
theorem go_passS (hcode : Cond.code M.1 M.2.1 M.2.2.1 M.2.2.2 ∈ go_T) (hm : go_met M' np) (hv1 : Cond.static M'.1 ∈ go_T) (hlk : Cond.methodLink M.1.cls idx M'.1 ∈ go_T) (hd : decode M.2.1 pc = .ok (.invokestatic idx, 3)) (hst : st = as.reverse ++ rest) (hnp : as.length = np) (hw : (rest.map mv_k).sum ≤ 8) (hR : go_fit R u M'.2.2.1 d w mc' ms') (hu : u.1 + mc' ≤ mc ∧ u.2 + ms' ≤ ms)
    (hF : FnT l M' X d w mc' ms' as h n Q') (hq : ∀ h' n', Q' h' n' → Q h' n') : Go (go_th M X mc ms Q) l M R u pc L st h n := by
  subst hst
  intro p e s m args below meth c D ca zt A n0 ad0 C H locs ls ad hS hP hD hl hn ha oh ol os
  obtain ⟨c1, c2, c3, c4, c5, c6, c7, c8, k0, c10⟩ := id C
  have hsv : (as.reverse ++ rest).map (mv_c zt ad) = (as.map (mv_c zt ad)).reverse ++ rest.map (mv_c zt ad) := by
    rw [List.map_append, List.map_reverse]
  rw [hsv]
  exact go_pass C hcode hS hD hn ha hu hq fun hyp => ru_S c1 c2 (hl.1.trans c3.symm) c7 c8 k0 hS hP hD (go_free (D := D) hS hD c10) hyp.2 oh os.left.rev hm hv1 hlk hd hnp hw hR hF
theorem go_passV {b ci : Nat} {fs : List mv_V} {Tt : u_T} {N : Nat} (hcode : Cond.code M.1 M.2.1 M.2.2.1 M.2.2.2 ∈ go_T) (hm : go_met M' np) (hv1 : Cond.instanceMethod M'.1 ∈ go_T) (hv2 : Cond.selects M'.1.cls M'.1 M'.1 ∈ go_T) (hlk : Cond.methodLink M.1.cls idx M'.1 ∈ go_T) (hd : decode M.2.1 pc = .ok (.invokevirtual idx, 3)) (hst : st = as.reverse ++ mv_R b :: rest) (hnp : as.length = np) (hh : h b = mv_O ci fs) (hci : vwCl[ci]? = some (M'.1.cls, Tt, N)) (hw : (rest.map mv_k).sum ≤ 8) (hR : go_fit R u M'.2.2.1 d w mc' ms') (hu : u.1 + mc' ≤ mc ∧ u.2 + ms' ≤ ms)
    (hF : FnT l M' X d w mc' ms' (mv_R b :: as) h n Q') (hq : ∀ h' n', Q' h' n' → Q h' n') : Go (go_th M X mc ms Q) l M R u pc L st h n := by
  subst hst
  intro p e s m args below meth c D ca zt A n0 ad0 C H locs ls ad hS hP hD hl hn ha oh ol os
  obtain ⟨c1, c2, c3, c4, c5, c6, c7, c8, k0, c10⟩ := id C
  have hsv : (as.reverse ++ mv_R b :: rest).map (mv_c zt ad) = (as.map (mv_c zt ad)).reverse ++ Value.ref (ad b) :: rest.map (mv_c zt ad) := by
    rw [List.map_append, List.map_reverse]; rfl
  rw [hsv]
  exact go_pass C hcode hS hD hn ha hu hq fun hyp => ru_V c1 c2 (hl.1.trans c3.symm) c7 c8 k0 hS hP hD (go_free (D := D) hS hD c10) hyp.2 oh (ok_S.cons os.right.hd os.left.rev) hm hv1 hv2 hlk hd hnp hh hci hw hR hF
end ThrGo
