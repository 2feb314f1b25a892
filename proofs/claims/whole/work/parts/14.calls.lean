/-! THE PURE MACHINE, part 4: methods ('Fn': a method's contract), their ends, and calls. -/
def fn_Q (D : va_G) (ca : Nat → ClassId) (zt ad : Nat → Nat) (n : Nat) (A : Nat → Prop) (Q : Option mv_V → mv_H → Nat → Prop) : Array Value → State → Outcome → State → Prop := fun _ st oc t =>
  (∃ (v : Option mv_V) (h' : mv_H) (n' : Nat) (ad' : Nat → Nat), oc = .returned (v.map (mv_c zt ad')) ∧ Q v h' n' ∧ n ≤ n' ∧ (∀ i, i < n → ad' i = ad i) ∧ ok_H n' h' ∧ ok_S n' v.toList ∧ va_P D vwCl (mv_W ca zt ad' h' n') t.heap ∧ va_D A (mv_W ca zt ad' h' n')) ∧ va_F A st t
def fn_P (D : va_G) (ca : Nat → ClassId) (zt ad : Nat → Nat) (as : List mv_V) (h : mv_H) (n sz : Nat) : Array Value → State → Prop :=
  va_Pc (as.map (mv_c zt ad)) fun U => U.heap.size = sz ∧ va_P D vwCl (mv_W ca zt ad h n) U.heap ∧ va_D (fun _ => True) (mv_W ca zt ad h n) ∧ cx_K D ca zt (va_A (mv_W ca zt ad h n) sz) U U.heap
/-- the method M, called with 'as' in the world of the n cells h, with d frames, w words of locals, mc cells and ms slots of room, returns, and Q holds of its answer, the cells and their number then -/
def Fn (l : Launch) (M : go_M) (d w mc ms : Nat) (as : List mv_V) (h : mv_H) (n : Nat) (Q : Option mv_V → mv_H → Nat → Prop) : Prop :=
  ∀ (D : va_G) (ca : Nat → ClassId) (zt ad : Nat → Nat) (sz : Nat), ok_H n h → ok_S n as →
    Met l M.1 (Cond.code M.1 M.2.1 M.2.2.1 M.2.2.2 :: go_T) (go_rm d w mc ms) (fn_P D ca zt ad as h n sz) (fn_Q D ca zt ad n (va_A (mv_W ca zt ad h n) sz) Q) mc ms (va_A (mv_W ca zt ad h n) sz)
def go_f (mc ms : Nat) (Q : Option mv_V → mv_H → Nat → Prop) : go_F := fun below args s A D ca zt n0 ad0 => MQ below (fn_Q D ca zt ad0 n0 A Q) args s mc ms A
theorem fn_of {l : Launch} {M : go_M} {d w mc ms : Nat} {as : List mv_V} {h : mv_H} {n : Nat} {Q : Option mv_V → mv_H → Nat → Prop} {L : List (Option mv_V)} (hy : plainName M.1.cls = true) (hlen : (mv_sl as).length ≤ M.2.2.1) (hL : mv_en as M.2.2.1 = L) (hb : Go (go_f mc ms Q) l M (go_rm d w mc ms) (0, 0) 0 L [] h n) : Fn l M d w mc ms as h n Q := by
  subst hL
  intro D ca zt ad sz oh oa
  refine Met.ofW (cc := M.2.1) (maxL := M.2.2.1) (ret := M.2.2.2) hy rfl ?_
  intro p e s m args below meth c s₁ B hml hv
  obtain ⟨rfl, hsz, hP, hD0, hK⟩ := hv
  subst hsz
  have hD := hD0.self (sz := s.heap.size)
  have hts := atoms_spec (ws := Cond.code M.1 M.2.1 M.2.2.1 M.2.2.2 :: go_T) B.pre
  have hl := lv_entry (as.map (mv_c zt ad)) (n := M.2.2.1) (by rw [mv_sl_len]; exact hlen)
  rw [lg_entry_eq]
  exact hb p e s m _ below meth c D ca zt (va_A (mv_W ca zt ad h n) s.heap.size) n ad ⟨B.exec, B.bytes, hml, B.returns, B.notSynchronized, (name_of_methodNamed B.named B.method).1, findClass_of_methodNamed B.named, fun w hw => hts w (List.mem_cons_of_mem _ hw), hK, fun q hq => Or.inr hq⟩ s.heap [] _ ad va_S.rf hP hD (mv_ls_en hl) (Nat.le_refl _) (fun _ _ => rfl) oh (ok_L_en oa) ok_S.nil
theorem fn_mono {l : Launch} {M : go_M} {d w mc ms : Nat} {as : List mv_V} {h : mv_H} {n : Nat} {Q Q' : Option mv_V → mv_H → Nat → Prop} (hF : Fn l M d w mc ms as h n Q) (hq : ∀ v h' n', Q v h' n' → Q' v h' n') : Fn l M d w mc ms as h n Q' := by
  intro D ca zt ad sz oh oa
  have hM := hF D ca zt ad sz oh oa
  intro p e ha hc hk s m args below hf happ hP hK
  obtain ⟨k, o, h1, h2, h3, ⟨⟨v, h', n', ad', q1, q2, q3⟩, hF2⟩, h5⟩ := hM p e ha hc hk s m args below hf happ hP hK
  exact ⟨k, o, h1, h2, h3, ⟨⟨v, h', n', ad', q1, hq _ _ _ q2, q3⟩, hF2⟩, h5⟩
section GoEnds
variable {l : Launch} {M : go_M} {R : Room} {u : Nat × Nat} {pc mc ms : Nat} {L : List (Option mv_V)} {h : mv_H} {n : Nat} {Q : Option mv_V → mv_H → Nat → Prop}
theorem go_vret (hd : decode M.2.1 pc = .ok (.return_, 1)) (hr : M.2.2.2 = none) (hu : u.1 ≤ mc ∧ u.2 ≤ ms) (hQ : Q none h n) : Go (go_f mc ms Q) l M R u pc L [] h n := by
  intro p e s m args below meth c D ca zt A n0 ad0 C H locs ls ad hS hP hD hl hn ha oh ol os
  refine W.widen hu.1 hu.2 ?_
  exact W.vret (hlocks := C.2.2.2.2.1) C.1 C.2.1 (C.2.2.2.1.trans hr) (fun t ht hW => ⟨⟨none, h, n, ad, rfl, hQ, hn, ha, oh, ok_S.nil, by rw [ht]; exact hP, hD⟩, hS.F ht⟩) hS.2.2 hd
theorem go_iret {z : Int} (hd : decode M.2.1 pc = .ok (.ireturn, 1)) (hr : M.2.2.2 = some .int) (hu : u.1 ≤ mc ∧ u.2 ≤ ms) (hQ : Q (some (mv_I z)) h n) : Go (go_f mc ms Q) l M R u pc L [mv_I z] h n := by
  intro p e s m args below meth c D ca zt A n0 ad0 C H locs ls ad hS hP hD hl hn ha oh ol os
  refine W.widen hu.1 hu.2 ?_
  exact W.iret (hlocks := C.2.2.2.2.1) C.1 C.2.1 (C.2.2.2.1.trans hr) (fun t ht hW => ⟨⟨some (mv_I z), h, n, ad, rfl, hQ, hn, ha, oh, os, by rw [ht]; exact hP, hD⟩, hS.F ht⟩) hS.2.2 hd
theorem go_zret {z : Int} {ty : FieldType} (hd : decode M.2.1 pc = .ok (.ireturn, 1)) (hr : M.2.2.2 = some ty) (hn0 : narrow ty (.int (Int32.ofInt z)) = .int (Int32.ofInt z)) (hu : u.1 ≤ mc ∧ u.2 ≤ ms) (hQ : Q (some (mv_I z)) h n) : Go (go_f mc ms Q) l M R u pc L [mv_I z] h n := by
  intro p e s m args below meth c D ca zt A n0 ad0 C H locs ls ad hS hP hD hl hn ha oh ol os
  refine W.widen hu.1 hu.2 ?_
  exact W.zret (hlocks := C.2.2.2.2.1) C.1 C.2.1 (C.2.2.2.1.trans hr) hn0 (fun t ht hW => ⟨⟨some (mv_I z), h, n, ad, rfl, hQ, hn, ha, oh, os, by rw [ht]; exact hP, hD⟩, hS.F ht⟩) hS.2.2 hd
theorem go_aret {r : Nat} {C0 : String} (hd : decode M.2.1 pc = .ok (.areturn, 1)) (hr : M.2.2.2 = some (.object C0)) (hu : u.1 ≤ mc ∧ u.2 ≤ ms) (hQ : Q (some (mv_R r)) h n) : Go (go_f mc ms Q) l M R u pc L [mv_R r] h n := by
  intro p e s m args below meth c D ca zt A n0 ad0 C H locs ls ad hS hP hD hl hn ha oh ol os
  refine W.widen hu.1 hu.2 ?_
  exact W.aret (hlocks := C.2.2.2.2.1) C.1 C.2.1 (C.2.2.2.1.trans hr) (Or.inl ⟨C0, rfl⟩) (Or.inr ⟨_, rfl⟩) (fun t ht hW => ⟨⟨some (mv_R r), h, n, ad, rfl, hQ, hn, ha, oh, os, by rw [ht]; exact hP, hD⟩, hS.F ht⟩) hS.2.2 hd
end GoEnds
/-! calls -/
/-- what the tables say of a method that is called -/
def go_met (M : go_M) (np : Nat) : Prop := Cond.code M.1 M.2.1 M.2.2.1 M.2.2.2 ∈ go_T ∧ Cond.initialized M.1.cls ∈ go_T ∧ (M.1.cls ≠ "java/lang/invoke/MethodHandle" ∧ M.1.cls ≠ "java/lang/invoke/VarHandle") ∧ (parseMethodDescriptor M.1.desc).map (fun d => d.parameters.length) = some np
/-- what 'idx' names in the class 'own' -/
def go_lnk (own : String) (idx : Nat) (M : go_M) : Prop := Cond.methodLink own idx M.1 ∈ go_T ∨ ∃ host, Cond.methodLinkNest own idx M.1 host ∈ go_N
/-- room for a call -/
def go_fit (R : Room) (u : Nat × Nat) (maxL d w mc ms : Nat) : Prop := d + 1 ≤ R.frames ∧ 8 + (maxL + 11) + w ≤ R.locals ∧ u.1 + mc ≤ R.cells ∧ u.2 + ms ≤ R.slots
theorem cx_call {D : va_G} {ca : Nat → ClassId} {zt : Nat → Nat} {A A' : Nat → Prop} {s U : State} {H : Heap} {locs : List Loc} (h : cx_K D ca zt A s s.heap) (hS : va_S A s.heap H locs) (hA : ∀ q, A' q → A q) (hU : U.heap = H) (hW : s.WarmedH U.vm) : cx_K D ca zt A' U U.heap := by
  subst hU
  exact ⟨va_K.moved hW.alike h.1, fun w hw => go_N_warm w hw hW (h.2.1 w hw), zz_moved hW (zz_narrow hA (zz_kept h.2.2 fun a h1 h2 => hS.2.1 a h1 h2))⟩
theorem cx_blind {D : va_G} {ca : Nat → ClassId} {zt : Nat → Nat} {A : Nat → Prop} {U : State} (h : cx_K D ca zt A U U.heap) (g : JFrame) (mk : MethodId) (a : Array Value) : cx_K D ca zt A (U.calling g mk a) (U.calling g mk a).heap :=
  ⟨va_K.moved (u := U) (U := U.calling g mk a) (Vm.Alike.refl U.vm) h.1, fun w hw => go_N_same w hw (u := U) (U := U.calling g mk a) rfl (h.2.1 w hw), zz_same (u := U) (U := U.calling g mk a) rfl h.2.2⟩
theorem fn_blind {D : va_G} {ca : Nat → ClassId} {zt ad : Nat → Nat} {as : List mv_V} {h : mv_H} {n sz : Nat} : FrameBlind (fn_P D ca zt ad as h n sz) := by
  intro a U g mk q
  obtain ⟨q0, q1, qP, qD, qK⟩ := q
  exact ⟨q0, q1, qP, qD, cx_blind qK g mk a⟩
theorem go_free {D : va_G} {ca : Nat → ClassId} {zt ad : Nat → Nat} {A : Nat → Prop} {s : State} {h : mv_H} {n : Nat} {H : Heap} {locs : List Loc} (hS : va_S A s.heap H locs) (hD : va_D A (mv_W ca zt ad h n)) (hA : ∀ q, s.heap.size ≤ q → A q) : ∀ q, va_A (mv_W ca zt ad h n) H.size q → A q := by
  intro q hq
  rcases hq with ⟨k, e, hk⟩ | hq
  · exact hD.2 k (q, e) hk
  · exact hA q (Nat.le_trans hS.1 hq)
section GoCalls
variable {φ : go_F} {l : Launch} {M M' : go_M} {R : Room} {u : Nat × Nat} {pc q : Nat} {L : List (Option mv_V)} {st : List mv_V} {h : mv_H} {n d w mc ms : Nat} {as rest : List mv_V} {Q : Option mv_V → mv_H → Nat → Prop}
/-- behind a call -/
theorem go_back {p : Program} {e : Env} {s : State} {m : MethodId} {args : Array Value} {below : List Frame} {meth : Method} {c : Code} {D : va_G} {ca : Nat → ClassId} {zt : Nat → Nat} {A : Nat → Prop} {n0 : Nat} {ad0 : Nat → Nat} (C : go_C M p s m args meth c D ca zt A)
    {H : Heap} {locs : List Loc} {ls : Array Slot} {ad : Nat → Nat} (hS : va_S A s.heap H locs) (hD : va_D A (mv_W ca zt ad h n)) (hl : mv_ls zt ad ls M.2.2.1 L) (hn : n0 ≤ n) (ha : ∀ i, i < n0 → ad i = ad0 i) (ol : ok_L n L) (os : ok_S n rest) {x : Array Value} {stv : List Value}
    (run : va_Run p l e R s m args below meth c H locs u.1 u.2 mc ms (F0 m pc ls stv) (rest.map (mv_c zt ad)) (fn_Q D ca zt ad n (va_A (mv_W ca zt ad h n) H.size) Q x) (va_A (mv_W ca zt ad h n) H.size))
    (k : ∀ v h' n', Q v h' n' → n ≤ n' → Go φ l M R (u.1 + mc, u.2 + ms) (pc + 3) L (v.toList ++ rest) h' n') : W p l e R s m args below meth c H locs u.1 u.2 (φ below args s A D ca zt n0 ad0) (F0 m pc ls stv) := by
  have hFc := go_free (D := D) hS hD C.2.2.2.2.2.2.2.2.2
  intro T hT X
  obtain ⟨v, st₀, t, T', L1, h0, X', hL, e1, e2, ⟨⟨v', h', n', ad', hv, hq, hnn, hadd, oh', ov, hP', hD'⟩, hz, hkp⟩, st⟩ := run T hT X
  have hv : v = v'.map (mv_c zt ad') := by injection hv
  subst hv
  rw [h0] at hz hkp
  have hS' : va_S A s.heap T'.heap (locs ++ L1) := ⟨Nat.le_trans hS.1 (by rw [e1]; exact hz), fun q h1 h2 => by
      rw [e1, hkp q (Nat.lt_of_lt_of_le h1 hS.1) (fun z => h2 (hFc q z))]; exact hS.2.1 q h1 h2, fun q hq => by
      rcases List.mem_append.mp hq with h | h
      · exact hS.2.2 q h
      · exact hFc _ (hL q h)⟩
  obtain ⟨t2, a1, b1⟩ := k v' h' n' hq hnn p e s m args below meth c D ca zt A n0 ad0 C T'.heap (locs ++ L1) ls ad' hS' (by rw [e1]; exact hP') (hD'.weaken fun _ q _ z => hFc q.1 z) (hl.congr ol hadd) (Nat.le_trans hn hnn) (fun i hi => (hadd i (Nat.lt_of_lt_of_le hi hn)).trans (ha i hi)) oh' (ol.mono hnn) (ov.app (os.mono hnn)) T' rfl X'
  refine ⟨t2, st t2 ?_, b1⟩
  have hst : (v'.toList ++ rest).map (mv_c zt ad') = (v'.map (mv_c zt ad')).toList ++ rest.map (mv_c zt ad) := by
    rw [List.map_append, mv_map_congr os hadd]
    cases v' <;> rfl
  rw [hst] at a1
  exact a1
theorem go_callV {idx np b ci : Nat} {fs : List mv_V} {T : u_T} {N : Nat} (hm : go_met M' np) (hv1 : Cond.instanceMethod M'.1 ∈ go_T) (hv2 : Cond.selects M'.1.cls M'.1 M'.1 ∈ go_T) (hlk : go_lnk M.1.cls idx M') (hd : decode M.2.1 pc = .ok (.invokevirtual idx, 3)) (hp : pc + 3 = q) (hst : st = as.reverse ++ mv_R b :: rest) (hnp : as.length = np) (hh : h b = mv_O ci fs) (hci : vwCl[ci]? = some (M'.1.cls, T, N)) (hw : (rest.map mv_k).sum ≤ 8) (hR : go_fit R u M'.2.2.1 d w mc ms)
    (hF : Fn l M' d w mc ms (mv_R b :: as) h n Q) (k : ∀ v h' n', Q v h' n' → n ≤ n' → Go φ l M R (u.1 + mc, u.2 + ms) q L (v.toList ++ rest) h' n') : Go φ l M R u pc L st h n := by
  subst hp
  subst hst
  intro p e s m args below meth c D ca zt A n0 ad0 C H locs ls ad hS hP hD hl hn ha oh ol os
  obtain ⟨c1, c2, c3, c4, c5, c6, c7, c8, k0, c10⟩ := id C
  obtain ⟨m1, m2, m3, m4⟩ := hm
  obtain ⟨r1, r2, r3, r4⟩ := hR
  have hFc := go_free (D := D) hS hD c10
  have hb : 0 < b ∧ b < n := os.right.hd
  have he : (mv_W ca zt ad h n)[b - 1]? = some (ad b, .inr (ci, fs.map (mv_c zt ad))) := mv_W_is hb hh
  have hM := hF D ca zt ad H.size oh (ok_S.cons os.right.hd os.left.rev)
  have hG : GoodIn go_T (Cond.code M'.1 M'.2.1 M'.2.2.1 M'.2.2.2 :: go_T) := go_good m1
  have hpre : PreV s H M'.1.cls (ad b) (fn_P D ca zt ad (mv_R b :: as) h n H.size) (as.map (mv_c zt ad)) :=
    ⟨fn_blind, va_recv k0.1 hP hci he, fun U hU hW => ⟨rfl, by rw [hU], by rw [hU]; exact hP, hD.weaken (fun _ _ _ _ => trivial), cx_call k0 hS hFc hU hW⟩⟩
  have hlen : ∀ sig, parseMethodDescriptor M'.1.desc = some sig → np = sig.parameters.length := fun sig hs => by
    rw [hs] at m4
    exact (Option.some.inj m4).symm
  have hsv : (as.reverse ++ mv_R b :: rest).map (mv_c zt ad) = (as.map (mv_c zt ad)).reverse ++ Value.ref (ad b) :: rest.map (mv_c zt ad) := by
    rw [List.map_append, List.map_reverse]; rfl
  have hw' : ((rest.map (mv_c zt ad)).map fun v => v.category).sum ≤ 8 := by rw [mv_sum]; exact hw
  rw [hsv]
  rcases hlk with hl1 | ⟨host, hl1⟩
  · refine go_back C hS hD hl hn ha ol os.right.tl (va_runV (As := as.map (mv_c zt ad)) (rest := rest.map (mv_c zt ad)) ⟨c1, c2, c3, c7, c8⟩ hM ⟨⟨rfl, rfl, r1, r2, pay_in c8 hG, List.mem_cons_self, c8 _ m1, c8 _ m2, m3, hlen, c8 _ hl1⟩, c8 _ hv1, c8 _ hv2⟩ hpre rfl (by simpa using hnp) hl.1 rfl (lv_room hw') hd ⟨r3, r4⟩) k
  · refine go_back C hS hD hl hn ha ol os.right.tl (va_runVN (As := as.map (mv_c zt ad)) (rest := rest.map (mv_c zt ad)) ⟨c1, c2, c3, c7, c8⟩ hM ⟨⟨⟨rfl, rfl, r1, r2, pay_in c8 hG, List.mem_cons_self⟩, c8 _ m1, c8 _ m2, m3, hlen, va_Nw.use rfl (k0.2.1 _ hl1)⟩, c8 _ hv1, c8 _ hv2⟩ hpre rfl (by simpa using hnp) hl.1 rfl (lv_room hw') hd ⟨r3, r4⟩) k
theorem go_callS {idx np : Nat} (hm : go_met M' np) (hv1 : Cond.static M'.1 ∈ go_T) (hlk : go_lnk M.1.cls idx M') (hd : decode M.2.1 pc = .ok (.invokestatic idx, 3)) (hp : pc + 3 = q) (hst : st = as.reverse ++ rest) (hnp : as.length = np) (hw : (rest.map mv_k).sum ≤ 8) (hR : go_fit R u M'.2.2.1 d w mc ms)
    (hF : Fn l M' d w mc ms as h n Q) (k : ∀ v h' n', Q v h' n' → n ≤ n' → Go φ l M R (u.1 + mc, u.2 + ms) q L (v.toList ++ rest) h' n') : Go φ l M R u pc L st h n := by
  subst hp
  subst hst
  intro p e s m args below meth c D ca zt A n0 ad0 C H locs ls ad hS hP hD hl hn ha oh ol os
  obtain ⟨c1, c2, c3, c4, c5, c6, c7, c8, k0, c10⟩ := id C
  obtain ⟨m1, m2, m3, m4⟩ := hm
  obtain ⟨r1, r2, r3, r4⟩ := hR
  have hFc := go_free (D := D) hS hD c10
  have hM := hF D ca zt ad H.size oh os.left.rev
  have hG : GoodIn go_T (Cond.code M'.1 M'.2.1 M'.2.2.1 M'.2.2.2 :: go_T) := go_good m1
  have hpre : PreS s H (fn_P D ca zt ad as h n H.size) (as.map (mv_c zt ad)) :=
    ⟨fn_blind, fun U hU hW => ⟨rfl, by rw [hU], by rw [hU]; exact hP, hD.weaken (fun _ _ _ _ => trivial), cx_call k0 hS hFc hU hW⟩⟩
  have hlen : ∀ sig, parseMethodDescriptor M'.1.desc = some sig → np = sig.parameters.length := fun sig hs => by
    rw [hs] at m4
    exact (Option.some.inj m4).symm
  have hsv : (as.reverse ++ rest).map (mv_c zt ad) = (as.map (mv_c zt ad)).reverse ++ rest.map (mv_c zt ad) := by
    rw [List.map_append, List.map_reverse]
  have hw' : ((rest.map (mv_c zt ad)).map fun v => v.category).sum ≤ 8 := by rw [mv_sum]; exact hw
  rw [hsv]
  rcases hlk with hl1 | ⟨host, hl1⟩
  · refine go_back C hS hD hl hn ha ol os.right (va_runS (As := as.map (mv_c zt ad)) (rest := rest.map (mv_c zt ad)) ⟨c1, c2, c3, c7, c8⟩ hM ⟨⟨rfl, rfl, r1, r2, pay_in c8 hG, List.mem_cons_self, c8 _ m1, c8 _ m2, m3, hlen, c8 _ hl1⟩, c8 _ hv1⟩ hpre rfl (by simpa using hnp) hl.1 rfl (lv_room hw') hd ⟨r3, r4⟩) k
  · refine go_back C hS hD hl hn ha ol os.right (va_runSN (As := as.map (mv_c zt ad)) (rest := rest.map (mv_c zt ad)) ⟨c1, c2, c3, c7, c8⟩ hM ⟨⟨⟨rfl, rfl, r1, r2, pay_in c8 hG, List.mem_cons_self⟩, c8 _ m1, c8 _ m2, m3, hlen, va_Nw.use rfl (k0.2.1 _ hl1)⟩, c8 _ hv1, trivial⟩ hpre rfl (by simpa using hnp) hl.1 rfl (lv_room hw') hd ⟨r3, r4⟩) k
theorem go_callI {idx np b : Nat} (hm : go_met M' np) (hv0 : M'.2.2.2 = none) (hv1 : Cond.instanceMethod M'.1 ∈ go_T) (hv2 : M'.1.name = "<init>") (hlk : go_lnk M.1.cls idx M') (hd : decode M.2.1 pc = .ok (.invokespecial idx, 3)) (hp : pc + 3 = q) (hst : st = as.reverse ++ mv_R b :: rest) (hnp : as.length = np) (hw : (rest.map mv_k).sum ≤ 8) (hR : go_fit R u M'.2.2.1 d w mc ms)
    (hF : Fn l M' d w mc ms (mv_R b :: as) h n Q) (k : ∀ v h' n', Q v h' n' → n ≤ n' → Go φ l M R (u.1 + mc, u.2 + ms) q L (v.toList ++ rest) h' n') : Go φ l M R u pc L st h n := by
  subst hp
  subst hst
  intro p e s m args below meth c D ca zt A n0 ad0 C H locs ls ad hS hP hD hl hn ha oh ol os
  obtain ⟨c1, c2, c3, c4, c5, c6, c7, c8, k0, c10⟩ := id C
  obtain ⟨m1, m2, m3, m4⟩ := hm
  obtain ⟨r1, r2, r3, r4⟩ := hR
  have hFc := go_free (D := D) hS hD c10
  have hM := hF D ca zt ad H.size oh (ok_S.cons os.right.hd os.left.rev)
  have hG : GoodIn go_T (Cond.code M'.1 M'.2.1 M'.2.2.1 M'.2.2.2 :: go_T) := go_good m1
  have hpre : PreS s H (fn_P D ca zt ad (mv_R b :: as) h n H.size) (.ref (ad b) :: as.map (mv_c zt ad)) :=
    ⟨fn_blind, fun U hU hW => ⟨rfl, by rw [hU], by rw [hU]; exact hP, hD.weaken (fun _ _ _ _ => trivial), cx_call k0 hS hFc hU hW⟩⟩
  have hlen : ∀ sig, parseMethodDescriptor M'.1.desc = some sig → np = sig.parameters.length := fun sig hs => by
    rw [hs] at m4
    exact (Option.some.inj m4).symm
  have hsv : (as.reverse ++ mv_R b :: rest).map (mv_c zt ad) = (as.map (mv_c zt ad)).reverse ++ Value.ref (ad b) :: rest.map (mv_c zt ad) := by
    rw [List.map_append, List.map_reverse]; rfl
  have hw' : ((rest.map (mv_c zt ad)).map fun v => v.category).sum ≤ 8 := by rw [mv_sum]; exact hw
  rw [hsv]
  rw [hv0] at hM hG m1
  rcases hlk with hl1 | ⟨host, hl1⟩
  · refine go_back C hS hD hl hn ha ol os.right.tl (va_runI (As := as.map (mv_c zt ad)) (rest := rest.map (mv_c zt ad)) ⟨c1, c2, c3, c7, c8⟩ hM ⟨⟨rfl, rfl, r1, r2, pay_in c8 hG, List.mem_cons_self, c8 _ m1, c8 _ m2, m3, hlen, c8 _ hl1⟩, hv2, c8 _ hv1⟩ hpre rfl (by simpa using hnp) hl.1 rfl (lv_room hw') hd ⟨r3, r4⟩) k
  · refine go_back C hS hD hl hn ha ol os.right.tl (va_runIN (As := as.map (mv_c zt ad)) (rest := rest.map (mv_c zt ad)) ⟨c1, c2, c3, c7, c8⟩ hM ⟨⟨⟨rfl, rfl, r1, r2, pay_in c8 hG, List.mem_cons_self⟩, c8 _ m1, c8 _ m2, m3, hlen, va_Nw.use rfl (k0.2.1 _ hl1)⟩, hv2, c8 _ hv1⟩ hpre rfl (by simpa using hnp) hl.1 rfl (lv_room hw') hd ⟨r3, r4⟩) k
theorem go_oinit {idx b : Nat} (hw1 : Cond.methodLink M.1.cls idx objectInit ∈ go_T) (hw2 : Cond.instanceMethod objectInit ∈ go_T) (hw3 : Cond.code objectInit ⟨#[0xb1]⟩ 1 none ∈ go_T) (hd : decode M.2.1 pc = .ok (.invokespecial idx, 3)) (hp : pc + 3 = q) (hR : 1 ≤ R.frames ∧ (rest.map mv_k).sum + 12 ≤ R.locals) (k : Go φ l M R u q L rest h n) : Go φ l M R u pc L (mv_R b :: rest) h n := by
  subst hp
  intro p e s m args below meth c D ca zt A n0 ad0 C H locs ls ad hS hP hD hl hn ha oh ol os
  obtain ⟨c1, c2, c3, c4, c5, c6, c7, c8, k0, c10⟩ := id C
  refine W.objInit c1 c2 c7 (c8 _ hw1) (c8 _ hw2) (c8 _ hw3) rfl (by rw [c3]; exact hl.1) rfl hd hR.1 ?_ ?_
  · rw [mv_sum]
    have : (F0 m pc ls (mv_c zt ad (mv_R b) :: rest.map (mv_c zt ad))).monitorRoom = 0 := rfl
    simpa [this] using hR.2
  · exact k p e s m args below meth c D ca zt A n0 ad0 C H locs ls ad hS hP hD hl hn ha oh ol os.tl
end GoCalls
