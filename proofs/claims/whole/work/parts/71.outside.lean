/-! what lies outside the world: the tables FEWEST and MOST, the operators' text -/
section GoOut
variable {φ : go_F} {l : Launch} {M M' : go_M} {R : Room} {u : Nat × Nat} {pc q n : Nat} {L : List (Option mv_V)} {st rest : List mv_V} {h : mv_H} {d w mc ms : Nat} {as : List mv_V} {Q : Option mv_V → mv_H → Nat → Prop}
theorem go_ldcS (hc : M.1.cls = "PromotedNumbers$Grammar") (hd : decode M.2.1 pc = .ok (.ldc 43, 2)) (hp : pc + 2 = q) (k : Go φ l M R u q L (mv_X 2 :: st) h n) : Go φ l M R u pc L st h n := by
  subst hp
  intro p e s m args below meth c D ca zt A n0 ad0 C H locs ls ad hS hP hD hl hn ha oh ol os
  obtain ⟨c1, c2, c3, c4, c5, c6, c7, c8, k0, c10⟩ := id C
  rw [hc] at c7
  exact va_ldcS c1 c2 c7 k0.2.2.2.2.2.2.1 hd (k p e s m args below meth c D ca zt A n0 ad0 C H locs ls ad hS hP hD hl hn ha oh ol (ok_S.cons trivial os))
theorem go_getsM {v : mv_V} {idx j : Nat} (hv : (v = mv_X 1 ∧ idx = 51) ∨ (v = mv_X 0 ∧ idx = 54)) (hc : M.1.cls = "PromotedNumbers$Grammar") (hd : decode M.2.1 pc = .ok (.getstatic idx, 3)) (hp : pc + 3 = q) (k : Go φ l M R u q L (v :: st) h n) : Go φ l M R u pc L st h n := by
  subst hp
  intro p e s m args below meth c D ca zt A n0 ad0 C H locs ls ad hS hP hD hl hn ha oh ol os
  obtain ⟨c1, c2, c3, c4, c5, c6, c7, c8, k0, c10⟩ := id C
  rw [hc] at c7
  rcases hv with ⟨rfl, rfl⟩ | ⟨rfl, rfl⟩
  · exact va_getsN c1 c2 k0.2.2.2.2.1 hS c7 (va_Nw.use rfl (k0.2.1 _ nw_2_192)) (fun _ z => z) hd (k p e s m args below meth c D ca zt A n0 ad0 C H locs ls ad hS hP hD hl hn ha oh ol (ok_S.cons trivial os))
  · exact va_getsN c1 c2 k0.2.2.1 hS c7 (va_Nw.use rfl (k0.2.1 _ nw_2_194)) (fun _ z => z) hd (k p e s m args below meth c D ca zt A n0 ad0 C H locs ls ad hS hP hD hl hn ha oh ol (ok_S.cons trivial os))
theorem go_getsC (hc : M.1.cls = "java/lang/String") (hd : decode M.2.1 pc = .ok (.getstatic 38, 3)) (hp : pc + 3 = q) (k : Go φ l M R u q L (mv_I 1 :: st) h n) : Go φ l M R u pc L st h n := by
  subst hp
  intro p e s m args below meth c D ca zt A n0 ad0 C H locs ls ad hS hP hD hl hn ha oh ol os
  obtain ⟨c1, c2, c3, c4, c5, c6, c7, c8, k0, c10⟩ := id C
  rw [hc] at c7
  exact va_gets c1 c2 k0.2.2.2.2.2.2.2.2.1 hS c7 (c8 _ tw_2_114) (fun _ z => z) hd (k p e s m args below meth c D ca zt A n0 ad0 C H locs ls ad hS hP hD hl hn ha oh ol (ok_S.cons trivial os))
/-- the tables, as integers -/
def cx_fewI (j : Nat) : Int := [0, 0, 1, 1, 2, 2, 0, 2, 1, 1, 2, 2, 3].getD j 0
def cx_mostI (j : Nat) : Int := [120, 120, 120, 120, 2, 2, 120, 2, 1, 1, 2, 2, 3].getD j 0
def cx_opsI (j : Nat) : Int := [43, 42, 45, 47, 113, 114, 103, 94, 110, 100, 60, 61, 63].getD j 0
theorem cx_fewE : ∀ j, j < 13 → cx_few.getD j 0 = Int32.ofInt (cx_fewI j) := by decide
theorem cx_mostE : ∀ j, j < 13 → cx_most.getD j 0 = Int32.ofInt (cx_mostI j) := by decide
theorem cx_opsE : ∀ j, j < 13 → cx_ops.getD j 0 = Int32.ofInt (cx_opsI j) := by decide
theorem go_taldF {a : Int} {i : Nat} (hd : decode M.2.1 pc = .ok (.iaload, 1)) (hp : pc + 1 = q) (ha0 : a = (i : Int)) (hi : i < 13) (k : Go φ l M R u q L (mv_I (cx_fewI i) :: st) h n) : Go φ l M R u pc L (mv_I a :: mv_X 0 :: st) h n := by
  subst hp
  intro p e s m args below meth c D ca zt A n0 ad0 C H locs ls ad hS hP hD hl hn ha oh ol os
  obtain ⟨c1, c2, c3, c4, c5, c6, c7, c8, k0, c10⟩ := id C
  obtain ⟨g1, g2⟩ := gn_in (N := 13) ha0 hi (by omega)
  exact va_ti c1 c2 k0.2.2.2.1 hS g1 (v := .int (Int32.ofInt (cx_fewI i))) (by rw [g2, cx_fewE i hi]) hd (k p e s m args below meth c D ca zt A n0 ad0 C H locs ls ad hS hP hD hl hn ha oh ol (ok_S.cons trivial os.tl.tl))
theorem go_taldM {a : Int} {i : Nat} (hd : decode M.2.1 pc = .ok (.iaload, 1)) (hp : pc + 1 = q) (ha0 : a = (i : Int)) (hi : i < 13) (k : Go φ l M R u q L (mv_I (cx_mostI i) :: st) h n) : Go φ l M R u pc L (mv_I a :: mv_X 1 :: st) h n := by
  subst hp
  intro p e s m args below meth c D ca zt A n0 ad0 C H locs ls ad hS hP hD hl hn ha oh ol os
  obtain ⟨c1, c2, c3, c4, c5, c6, c7, c8, k0, c10⟩ := id C
  obtain ⟨g1, g2⟩ := gn_in (N := 13) ha0 hi (by omega)
  exact va_ti c1 c2 k0.2.2.2.2.2.1 hS g1 (v := .int (Int32.ofInt (cx_mostI i))) (by rw [g2, cx_mostE i hi]) hd (k p e s m args below meth c D ca zt A n0 ad0 C H locs ls ad hS hP hD hl hn ha oh ol (ok_S.cons trivial os.tl.tl))
theorem go_tbld {a : Int} {i : Nat} (hd : decode M.2.1 pc = .ok (.baload, 1)) (hp : pc + 1 = q) (ha0 : a = (i : Int)) (hi : i < 13) (k : Go φ l M R u q L (mv_I (cx_opsI i) :: st) h n) : Go φ l M R u pc L (mv_I a :: mv_X 3 :: st) h n := by
  subst hp
  intro p e s m args below meth c D ca zt A n0 ad0 C H locs ls ad hS hP hD hl hn ha oh ol os
  obtain ⟨c1, c2, c3, c4, c5, c6, c7, c8, k0, c10⟩ := id C
  obtain ⟨g1, g2⟩ := gn_in (N := 13) ha0 hi (by omega)
  exact va_tb c1 c2 (k0.2.2.2.2.2.2.2.1.1 0 (by decide)).2.2.2 hS g1 (v := .int (Int32.ofInt (cx_opsI i))) (by rw [g2]; exact congrArg Value.int (cx_opsE i hi)) hd (k p e s m args below meth c D ca zt A n0 ad0 C H locs ls ad hS hP hD hl hn ha oh ol (ok_S.cons trivial os.tl.tl))
theorem go_tlen (hd : decode M.2.1 pc = .ok (.arraylength, 1)) (hp : pc + 1 = q) (k : Go φ l M R u q L (mv_I 13 :: st) h n) : Go φ l M R u pc L (mv_X 3 :: st) h n := by
  subst hp
  intro p e s m args below meth c D ca zt A n0 ad0 C H locs ls ad hS hP hD hl hn ha oh ol os
  obtain ⟨c1, c2, c3, c4, c5, c6, c7, c8, k0, c10⟩ := id C
  exact va_tlen c1 c2 (k0.2.2.2.2.2.2.2.1.1 0 (by decide)).2.2.2 hS (v := Int32.ofInt 13) (by decide) hd (k p e s m args below meth c D ca zt A n0 ad0 C H locs ls ad hS hP hD hl hn ha oh ol (ok_S.cons trivial os.tl))
theorem go_getfS {idx : Nat} {v : mv_V} (hv : (v = mv_X 3 ∧ idx = 9) ∨ (v = mv_I 0 ∧ idx = 15)) (hc : M.1.cls = "java/lang/String") (hd : decode M.2.1 pc = .ok (.getfield idx, 3)) (hp : pc + 3 = q) (k : Go φ l M R u q L (v :: st) h n) : Go φ l M R u pc L (mv_X 2 :: st) h n := by
  subst hp
  intro p e s m args below meth c D ca zt A n0 ad0 C H locs ls ad hS hP hD hl hn ha oh ol os
  obtain ⟨c1, c2, c3, c4, c5, c6, c7, c8, k0, c10⟩ := id C
  rw [hc] at c7
  rcases hv with ⟨rfl, rfl⟩ | ⟨rfl, rfl⟩
  · exact vk_getf c1 c2 (k0.2.2.2.2.2.2.2.1.1 0 (by decide)).2.2.1 hS c7 (c8 _ tw_5_104) (fun _ z => z) hd (k p e s m args below meth c D ca zt A n0 ad0 C H locs ls ad hS hP hD hl hn ha oh ol (ok_S.cons trivial os.tl))
  · exact vk_getf c1 c2 (k0.2.2.2.2.2.2.2.1.1 0 (by decide)).2.1 hS c7 (c8 _ tw_5_103) (fun _ z => z) hd (k p e s m args below meth c D ca zt A n0 ad0 C H locs ls ad hS hP hD hl hn ha oh ol (ok_S.cons trivial os.tl))
/-- a call of a method of the text -/
theorem go_callX {idx np : Nat} (hc : M'.1.cls = "java/lang/String") (hm : go_met M' np) (hv1 : Cond.instanceMethod M'.1 ∈ go_T) (hv2 : Cond.selects M'.1.cls M'.1 M'.1 ∈ go_T) (hlk : go_lnk M.1.cls idx M') (hd : decode M.2.1 pc = .ok (.invokevirtual idx, 3)) (hp : pc + 3 = q) (hst : st = as.reverse ++ mv_X 2 :: rest) (hnp : as.length = np) (hw : (rest.map mv_k).sum ≤ 8) (hR : go_fit R u M'.2.2.1 d w mc ms)
    (hF : Fn l M' d w mc ms (mv_X 2 :: as) h n Q) (k : ∀ v h' n', Q v h' n' → n ≤ n' → Go φ l M R (u.1 + mc, u.2 + ms) q L (v.toList ++ rest) h' n') : Go φ l M R u pc L st h n := by
  subst hp
  subst hst
  intro p e s m args below meth c D ca zt A n0 ad0 C H locs ls ad hS hP hD hl hn ha oh ol os
  obtain ⟨c1, c2, c3, c4, c5, c6, c7, c8, k0, c10⟩ := id C
  obtain ⟨m1, m2, m3, m4⟩ := hm
  obtain ⟨r1, r2, r3, r4⟩ := hR
  have hFc := go_free (D := D) hS hD c10
  have hM := hF D ca zt ad H.size oh (ok_S.cons os.right.hd os.left.rev)
  have hG : GoodIn go_T (Cond.code M'.1 M'.2.1 M'.2.2.1 M'.2.2.2 :: go_T) := go_good m1
  have hpre : PreV s H M'.1.cls (zt 2) (fn_P D ca zt ad (mv_X 2 :: as) h n H.size) (as.map (mv_c zt ad)) :=
    ⟨fn_blind, by rw [hc]; exact vk_recv k0.2.2.2.2.2.2.2.1 (i := 0) (by decide) hS, fun U hU hW => ⟨rfl, by rw [hU], by rw [hU]; exact hP, hD.weaken (fun _ _ _ _ => trivial), cx_call k0 hS hFc hU hW⟩⟩
  have hlen : ∀ sig, parseMethodDescriptor M'.1.desc = some sig → np = sig.parameters.length := fun sig hs => by
    rw [hs] at m4
    exact (Option.some.inj m4).symm
  have hsv : (as.reverse ++ mv_X 2 :: rest).map (mv_c zt ad) = (as.map (mv_c zt ad)).reverse ++ Value.ref (zt 2) :: rest.map (mv_c zt ad) := by
    rw [List.map_append, List.map_reverse]; rfl
  have hw' : ((rest.map (mv_c zt ad)).map fun v => v.category).sum ≤ 8 := by rw [mv_sum]; exact hw
  rw [hsv]
  rcases hlk with hl1 | ⟨host, hl1⟩
  · refine go_back C hS hD hl hn ha ol os.right.tl (va_runV (As := as.map (mv_c zt ad)) (rest := rest.map (mv_c zt ad)) ⟨c1, c2, c3, c7, c8⟩ hM ⟨⟨rfl, rfl, r1, r2, pay_in c8 hG, List.mem_cons_self, c8 _ m1, c8 _ m2, m3, hlen, c8 _ hl1⟩, c8 _ hv1, c8 _ hv2⟩ hpre rfl (by simpa using hnp) hl.1 rfl (lv_room hw') hd ⟨r3, r4⟩) k
  · refine go_back C hS hD hl hn ha ol os.right.tl (va_runVN (As := as.map (mv_c zt ad)) (rest := rest.map (mv_c zt ad)) ⟨c1, c2, c3, c7, c8⟩ hM ⟨⟨⟨rfl, rfl, r1, r2, pay_in c8 hG, List.mem_cons_self⟩, c8 _ m1, c8 _ m2, m3, hlen, va_Nw.use rfl (k0.2.1 _ hl1)⟩, c8 _ hv1, c8 _ hv2⟩ hpre rfl (by simpa using hnp) hl.1 rfl (lv_room hw') hd ⟨r3, r4⟩) k
end GoOut
