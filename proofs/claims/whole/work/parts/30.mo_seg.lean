abbrev mo_X : Type := (Nat → Int) × (Nat → Int) × (Nat → Int) × (Nat → Int) × (Nat → Int) × (Nat → Int)
def MO (h : mv_H) (o : Nat) (I : Nat → Int) (tx : Nat → Int) (S : Nat → Int) (ps : Nat → Int) (cs : Nat → Int) (bs : Nat → Int) (D : Nat → Int) (U : Nat → Int) : Prop := h o = mv_O 8 [mv_I (I 0), mv_I (I 1), mv_R (o + 1), mv_I (I 2), mv_R (o + 2), mv_R (o + 3), mv_R (o + 4), mv_R (o + 5), mv_R (o + 6), mv_R (o + 7), mv_I (I 3), mv_I (I 4), mv_I (I 5)] ∧ h (o + 1) = mv_A 0 121 tx ∧ h (o + 2) = mv_A 0 6400 D ∧ h (o + 3) = mv_A 0 160 U ∧ h (o + 4) = mv_A 0 75 S ∧ h (o + 5) = mv_A 0 13 ps ∧ h (o + 6) = mv_A 0 13 cs ∧ h (o + 7) = mv_A 0 13 bs
theorem MO_c0 {h : mv_H} {o : Nat} {I : Nat → Int} {tx : Nat → Int} {S : Nat → Int} {ps : Nat → Int} {cs : Nat → Int} {bs : Nat → Int} {D : Nat → Int} {U : Nat → Int} (hm : MO h o I tx S ps cs bs D U) : h o = mv_O 8 [mv_I (I 0), mv_I (I 1), mv_R (o + 1), mv_I (I 2), mv_R (o + 2), mv_R (o + 3), mv_R (o + 4), mv_R (o + 5), mv_R (o + 6), mv_R (o + 7), mv_I (I 3), mv_I (I 4), mv_I (I 5)] := hm.1
theorem MO_c1 {h : mv_H} {o : Nat} {I : Nat → Int} {tx : Nat → Int} {S : Nat → Int} {ps : Nat → Int} {cs : Nat → Int} {bs : Nat → Int} {D : Nat → Int} {U : Nat → Int} (hm : MO h o I tx S ps cs bs D U) : h (o + 1) = mv_A 0 121 tx := hm.2.1
theorem MO_c2 {h : mv_H} {o : Nat} {I : Nat → Int} {tx : Nat → Int} {S : Nat → Int} {ps : Nat → Int} {cs : Nat → Int} {bs : Nat → Int} {D : Nat → Int} {U : Nat → Int} (hm : MO h o I tx S ps cs bs D U) : h (o + 2) = mv_A 0 6400 D := hm.2.2.1
theorem MO_c3 {h : mv_H} {o : Nat} {I : Nat → Int} {tx : Nat → Int} {S : Nat → Int} {ps : Nat → Int} {cs : Nat → Int} {bs : Nat → Int} {D : Nat → Int} {U : Nat → Int} (hm : MO h o I tx S ps cs bs D U) : h (o + 3) = mv_A 0 160 U := hm.2.2.2.1
theorem MO_c4 {h : mv_H} {o : Nat} {I : Nat → Int} {tx : Nat → Int} {S : Nat → Int} {ps : Nat → Int} {cs : Nat → Int} {bs : Nat → Int} {D : Nat → Int} {U : Nat → Int} (hm : MO h o I tx S ps cs bs D U) : h (o + 4) = mv_A 0 75 S := hm.2.2.2.2.1
theorem MO_c5 {h : mv_H} {o : Nat} {I : Nat → Int} {tx : Nat → Int} {S : Nat → Int} {ps : Nat → Int} {cs : Nat → Int} {bs : Nat → Int} {D : Nat → Int} {U : Nat → Int} (hm : MO h o I tx S ps cs bs D U) : h (o + 5) = mv_A 0 13 ps := hm.2.2.2.2.2.1
theorem MO_c6 {h : mv_H} {o : Nat} {I : Nat → Int} {tx : Nat → Int} {S : Nat → Int} {ps : Nat → Int} {cs : Nat → Int} {bs : Nat → Int} {D : Nat → Int} {U : Nat → Int} (hm : MO h o I tx S ps cs bs D U) : h (o + 6) = mv_A 0 13 cs := hm.2.2.2.2.2.2.1
theorem MO_c7 {h : mv_H} {o : Nat} {I : Nat → Int} {tx : Nat → Int} {S : Nat → Int} {ps : Nat → Int} {cs : Nat → Int} {bs : Nat → Int} {D : Nat → Int} {U : Nat → Int} (hm : MO h o I tx S ps cs bs D U) : h (o + 7) = mv_A 0 13 bs := hm.2.2.2.2.2.2.2
theorem MO_k {h : mv_H} {o : Nat} {I : Nat → Int} {tx : Nat → Int} {S : Nat → Int} {ps : Nat → Int} {cs : Nat → Int} {bs : Nat → Int} {D : Nat → Int} {U : Nat → Int} {h' : mv_H} (hm : MO h o I tx S ps cs bs D U) (hk : ∀ j, o ≤ j → j < o + 8 → h' j = h j) : MO h' o I tx S ps cs bs D U := ⟨(hk _ (by omega) (by omega)).trans (MO_c0 hm), (hk _ (by omega) (by omega)).trans (MO_c1 hm), (hk _ (by omega) (by omega)).trans (MO_c2 hm), (hk _ (by omega) (by omega)).trans (MO_c3 hm), (hk _ (by omega) (by omega)).trans (MO_c4 hm), (hk _ (by omega) (by omega)).trans (MO_c5 hm), (hk _ (by omega) (by omega)).trans (MO_c6 hm), (hk _ (by omega) (by omega)).trans (MO_c7 hm)⟩
theorem MO_u0 {h : mv_H} {o : Nat} {I : Nat → Int} {tx : Nat → Int} {S : Nat → Int} {ps : Nat → Int} {cs : Nat → Int} {bs : Nat → Int} {D : Nat → Int} {U : Nat → Int} (hm : MO h o I tx S ps cs bs D U) (I' : Nat → Int) : MO (va_up h o (mv_O 8 [mv_I (I' 0), mv_I (I' 1), mv_R (o + 1), mv_I (I' 2), mv_R (o + 2), mv_R (o + 3), mv_R (o + 4), mv_R (o + 5), mv_R (o + 6), mv_R (o + 7), mv_I (I' 3), mv_I (I' 4), mv_I (I' 5)])) o I' tx S ps cs bs D U := ⟨va_up_self _ _ _, (va_up_ne _ _ (by omega)).trans (MO_c1 hm), (va_up_ne _ _ (by omega)).trans (MO_c2 hm), (va_up_ne _ _ (by omega)).trans (MO_c3 hm), (va_up_ne _ _ (by omega)).trans (MO_c4 hm), (va_up_ne _ _ (by omega)).trans (MO_c5 hm), (va_up_ne _ _ (by omega)).trans (MO_c6 hm), (va_up_ne _ _ (by omega)).trans (MO_c7 hm)⟩
theorem MO_u1 {h : mv_H} {o : Nat} {I : Nat → Int} {tx : Nat → Int} {S : Nat → Int} {ps : Nat → Int} {cs : Nat → Int} {bs : Nat → Int} {D : Nat → Int} {U : Nat → Int} (hm : MO h o I tx S ps cs bs D U) (tx' : Nat → Int) : MO (va_up h (o + 1) (mv_A 0 121 tx')) o I tx' S ps cs bs D U := ⟨(va_up_ne _ _ (by omega)).trans (MO_c0 hm), va_up_self _ _ _, (va_up_ne _ _ (by omega)).trans (MO_c2 hm), (va_up_ne _ _ (by omega)).trans (MO_c3 hm), (va_up_ne _ _ (by omega)).trans (MO_c4 hm), (va_up_ne _ _ (by omega)).trans (MO_c5 hm), (va_up_ne _ _ (by omega)).trans (MO_c6 hm), (va_up_ne _ _ (by omega)).trans (MO_c7 hm)⟩
theorem MO_u2 {h : mv_H} {o : Nat} {I : Nat → Int} {tx : Nat → Int} {S : Nat → Int} {ps : Nat → Int} {cs : Nat → Int} {bs : Nat → Int} {D : Nat → Int} {U : Nat → Int} (hm : MO h o I tx S ps cs bs D U) (D' : Nat → Int) : MO (va_up h (o + 2) (mv_A 0 6400 D')) o I tx S ps cs bs D' U := ⟨(va_up_ne _ _ (by omega)).trans (MO_c0 hm), (va_up_ne _ _ (by omega)).trans (MO_c1 hm), va_up_self _ _ _, (va_up_ne _ _ (by omega)).trans (MO_c3 hm), (va_up_ne _ _ (by omega)).trans (MO_c4 hm), (va_up_ne _ _ (by omega)).trans (MO_c5 hm), (va_up_ne _ _ (by omega)).trans (MO_c6 hm), (va_up_ne _ _ (by omega)).trans (MO_c7 hm)⟩
theorem MO_u3 {h : mv_H} {o : Nat} {I : Nat → Int} {tx : Nat → Int} {S : Nat → Int} {ps : Nat → Int} {cs : Nat → Int} {bs : Nat → Int} {D : Nat → Int} {U : Nat → Int} (hm : MO h o I tx S ps cs bs D U) (U' : Nat → Int) : MO (va_up h (o + 3) (mv_A 0 160 U')) o I tx S ps cs bs D U' := ⟨(va_up_ne _ _ (by omega)).trans (MO_c0 hm), (va_up_ne _ _ (by omega)).trans (MO_c1 hm), (va_up_ne _ _ (by omega)).trans (MO_c2 hm), va_up_self _ _ _, (va_up_ne _ _ (by omega)).trans (MO_c4 hm), (va_up_ne _ _ (by omega)).trans (MO_c5 hm), (va_up_ne _ _ (by omega)).trans (MO_c6 hm), (va_up_ne _ _ (by omega)).trans (MO_c7 hm)⟩
theorem MO_u4 {h : mv_H} {o : Nat} {I : Nat → Int} {tx : Nat → Int} {S : Nat → Int} {ps : Nat → Int} {cs : Nat → Int} {bs : Nat → Int} {D : Nat → Int} {U : Nat → Int} (hm : MO h o I tx S ps cs bs D U) (S' : Nat → Int) : MO (va_up h (o + 4) (mv_A 0 75 S')) o I tx S' ps cs bs D U := ⟨(va_up_ne _ _ (by omega)).trans (MO_c0 hm), (va_up_ne _ _ (by omega)).trans (MO_c1 hm), (va_up_ne _ _ (by omega)).trans (MO_c2 hm), (va_up_ne _ _ (by omega)).trans (MO_c3 hm), va_up_self _ _ _, (va_up_ne _ _ (by omega)).trans (MO_c5 hm), (va_up_ne _ _ (by omega)).trans (MO_c6 hm), (va_up_ne _ _ (by omega)).trans (MO_c7 hm)⟩
theorem MO_u5 {h : mv_H} {o : Nat} {I : Nat → Int} {tx : Nat → Int} {S : Nat → Int} {ps : Nat → Int} {cs : Nat → Int} {bs : Nat → Int} {D : Nat → Int} {U : Nat → Int} (hm : MO h o I tx S ps cs bs D U) (ps' : Nat → Int) : MO (va_up h (o + 5) (mv_A 0 13 ps')) o I tx S ps' cs bs D U := ⟨(va_up_ne _ _ (by omega)).trans (MO_c0 hm), (va_up_ne _ _ (by omega)).trans (MO_c1 hm), (va_up_ne _ _ (by omega)).trans (MO_c2 hm), (va_up_ne _ _ (by omega)).trans (MO_c3 hm), (va_up_ne _ _ (by omega)).trans (MO_c4 hm), va_up_self _ _ _, (va_up_ne _ _ (by omega)).trans (MO_c6 hm), (va_up_ne _ _ (by omega)).trans (MO_c7 hm)⟩
theorem MO_u6 {h : mv_H} {o : Nat} {I : Nat → Int} {tx : Nat → Int} {S : Nat → Int} {ps : Nat → Int} {cs : Nat → Int} {bs : Nat → Int} {D : Nat → Int} {U : Nat → Int} (hm : MO h o I tx S ps cs bs D U) (cs' : Nat → Int) : MO (va_up h (o + 6) (mv_A 0 13 cs')) o I tx S ps cs' bs D U := ⟨(va_up_ne _ _ (by omega)).trans (MO_c0 hm), (va_up_ne _ _ (by omega)).trans (MO_c1 hm), (va_up_ne _ _ (by omega)).trans (MO_c2 hm), (va_up_ne _ _ (by omega)).trans (MO_c3 hm), (va_up_ne _ _ (by omega)).trans (MO_c4 hm), (va_up_ne _ _ (by omega)).trans (MO_c5 hm), va_up_self _ _ _, (va_up_ne _ _ (by omega)).trans (MO_c7 hm)⟩
theorem MO_u7 {h : mv_H} {o : Nat} {I : Nat → Int} {tx : Nat → Int} {S : Nat → Int} {ps : Nat → Int} {cs : Nat → Int} {bs : Nat → Int} {D : Nat → Int} {U : Nat → Int} (hm : MO h o I tx S ps cs bs D U) (bs' : Nat → Int) : MO (va_up h (o + 7) (mv_A 0 13 bs')) o I tx S ps cs bs' D U := ⟨(va_up_ne _ _ (by omega)).trans (MO_c0 hm), (va_up_ne _ _ (by omega)).trans (MO_c1 hm), (va_up_ne _ _ (by omega)).trans (MO_c2 hm), (va_up_ne _ _ (by omega)).trans (MO_c3 hm), (va_up_ne _ _ (by omega)).trans (MO_c4 hm), (va_up_ne _ _ (by omega)).trans (MO_c5 hm), (va_up_ne _ _ (by omega)).trans (MO_c6 hm), va_up_self _ _ _⟩
def MD (h : mv_H) (o : Nat) (X : mo_X) (D : Nat → Int) (U : Nat → Int) : Prop := h o = mv_O 8 [mv_I (X.1 0), mv_I (X.1 1), mv_R (o + 1), mv_I (X.1 2), mv_R (o + 2), mv_R (o + 3), mv_R (o + 4), mv_R (o + 5), mv_R (o + 6), mv_R (o + 7), mv_I (X.1 3), mv_I (X.1 4), mv_I (X.1 5)] ∧ h (o + 1) = mv_A 0 121 X.2.1 ∧ h (o + 2) = mv_A 0 6400 D ∧ h (o + 3) = mv_A 0 160 U ∧ h (o + 4) = mv_A 0 75 X.2.2.1 ∧ h (o + 5) = mv_A 0 13 X.2.2.2.1 ∧ h (o + 6) = mv_A 0 13 X.2.2.2.2.1 ∧ h (o + 7) = mv_A 0 13 X.2.2.2.2.2
theorem MD_c0 {h : mv_H} {o : Nat} {X : mo_X} {D : Nat → Int} {U : Nat → Int} (hm : MD h o X D U) : h o = mv_O 8 [mv_I (X.1 0), mv_I (X.1 1), mv_R (o + 1), mv_I (X.1 2), mv_R (o + 2), mv_R (o + 3), mv_R (o + 4), mv_R (o + 5), mv_R (o + 6), mv_R (o + 7), mv_I (X.1 3), mv_I (X.1 4), mv_I (X.1 5)] := hm.1
theorem MD_c1 {h : mv_H} {o : Nat} {X : mo_X} {D : Nat → Int} {U : Nat → Int} (hm : MD h o X D U) : h (o + 1) = mv_A 0 121 X.2.1 := hm.2.1
theorem MD_c2 {h : mv_H} {o : Nat} {X : mo_X} {D : Nat → Int} {U : Nat → Int} (hm : MD h o X D U) : h (o + 2) = mv_A 0 6400 D := hm.2.2.1
theorem MD_c3 {h : mv_H} {o : Nat} {X : mo_X} {D : Nat → Int} {U : Nat → Int} (hm : MD h o X D U) : h (o + 3) = mv_A 0 160 U := hm.2.2.2.1
theorem MD_c4 {h : mv_H} {o : Nat} {X : mo_X} {D : Nat → Int} {U : Nat → Int} (hm : MD h o X D U) : h (o + 4) = mv_A 0 75 X.2.2.1 := hm.2.2.2.2.1
theorem MD_c5 {h : mv_H} {o : Nat} {X : mo_X} {D : Nat → Int} {U : Nat → Int} (hm : MD h o X D U) : h (o + 5) = mv_A 0 13 X.2.2.2.1 := hm.2.2.2.2.2.1
theorem MD_c6 {h : mv_H} {o : Nat} {X : mo_X} {D : Nat → Int} {U : Nat → Int} (hm : MD h o X D U) : h (o + 6) = mv_A 0 13 X.2.2.2.2.1 := hm.2.2.2.2.2.2.1
theorem MD_c7 {h : mv_H} {o : Nat} {X : mo_X} {D : Nat → Int} {U : Nat → Int} (hm : MD h o X D U) : h (o + 7) = mv_A 0 13 X.2.2.2.2.2 := hm.2.2.2.2.2.2.2
theorem MD_k {h : mv_H} {o : Nat} {X : mo_X} {D : Nat → Int} {U : Nat → Int} {h' : mv_H} (hm : MD h o X D U) (hk : ∀ j, o ≤ j → j < o + 8 → h' j = h j) : MD h' o X D U := ⟨(hk _ (by omega) (by omega)).trans (MD_c0 hm), (hk _ (by omega) (by omega)).trans (MD_c1 hm), (hk _ (by omega) (by omega)).trans (MD_c2 hm), (hk _ (by omega) (by omega)).trans (MD_c3 hm), (hk _ (by omega) (by omega)).trans (MD_c4 hm), (hk _ (by omega) (by omega)).trans (MD_c5 hm), (hk _ (by omega) (by omega)).trans (MD_c6 hm), (hk _ (by omega) (by omega)).trans (MD_c7 hm)⟩
theorem MD_u2 {h : mv_H} {o : Nat} {X : mo_X} {D : Nat → Int} {U : Nat → Int} (hm : MD h o X D U) (D' : Nat → Int) : MD (va_up h (o + 2) (mv_A 0 6400 D')) o X D' U := ⟨(va_up_ne _ _ (by omega)).trans (MD_c0 hm), (va_up_ne _ _ (by omega)).trans (MD_c1 hm), va_up_self _ _ _, (va_up_ne _ _ (by omega)).trans (MD_c3 hm), (va_up_ne _ _ (by omega)).trans (MD_c4 hm), (va_up_ne _ _ (by omega)).trans (MD_c5 hm), (va_up_ne _ _ (by omega)).trans (MD_c6 hm), (va_up_ne _ _ (by omega)).trans (MD_c7 hm)⟩
theorem MD_u3 {h : mv_H} {o : Nat} {X : mo_X} {D : Nat → Int} {U : Nat → Int} (hm : MD h o X D U) (U' : Nat → Int) : MD (va_up h (o + 3) (mv_A 0 160 U')) o X D U' := ⟨(va_up_ne _ _ (by omega)).trans (MD_c0 hm), (va_up_ne _ _ (by omega)).trans (MD_c1 hm), (va_up_ne _ _ (by omega)).trans (MD_c2 hm), va_up_self _ _ _, (va_up_ne _ _ (by omega)).trans (MD_c4 hm), (va_up_ne _ _ (by omega)).trans (MD_c5 hm), (va_up_ne _ _ (by omega)).trans (MD_c6 hm), (va_up_ne _ _ (by omega)).trans (MD_c7 hm)⟩
theorem MD_MO {h : mv_H} {o : Nat} {X : mo_X} {D U : Nat → Int} : MD h o X D U ↔ MO h o X.1 X.2.1 X.2.2.1 X.2.2.2.1 X.2.2.2.2.1 X.2.2.2.2.2 D U := Iff.rfl
set_option maxRecDepth 4000 in
theorem sg_set_0 {φ : go_F} {l : Launch} {R : Room} {u : Nat × Nat} {h : mv_H} {n : Nat} {o : Nat} {X : mo_X} {D U : Nat → Int} {r : Nat} {v : Int} (hm_m : MD h o X D U) (hr : r < 160)
    (k0 : ∀ h' : mv_H, MD h' o X (va_up D (40 * r) v) U → (∀ j, (j < o ∨ o + 8 ≤ j) → h' j = h j) → Go φ l m_mo_set R u 12 [some (mv_R o), some (mv_I (r : Int)), some (mv_I v), some (mv_I 1)] [] h' n) :
    Go φ l m_mo_set R u 0 [some (mv_R o), some (mv_I (r : Int)), some (mv_I v), none] [] h n := by
  refine go_aload_n (q := 1) d_mo_set_0 rfl rfl rfl ?_
  refine go_getf (q := 4) f_mo_17 d_mo_set_1 rfl (MD_c0 hm_m) rfl ?_
  refine go_bipush (q := 6) d_mo_set_4 rfl (by decide) ?_
  refine go_iload_n (q := 7) d_mo_set_6 rfl rfl rfl ?_
  refine go_imul (q := 8) d_mo_set_7 rfl ?_
  refine go_iload_n (q := 9) d_mo_set_8 rfl rfl rfl ?_
  refine go_iast (i := 40 * r) (q := 10) d_mo_set_9 rfl (MD_c2 hm_m) (by omega) (by omega) (by omega) ?_
  have hm_3 := MD_u2 hm_m (va_up D (40 * r) v)
  have fr_2 : ∀ j, j ≠ (o + 2) → va_up h (o + 2) (mv_A 0 6400 (va_up D (40 * r) v)) j = h j := fun j hj => va_up_ne _ _ hj
  generalize va_up h (o + 2) (mv_A 0 6400 (va_up D (40 * r) v)) = h_1 at hm_3 fr_2 ⊢
  refine go_iconst (q := 11) d_mo_set_10 rfl ?_
  refine go_istore_n (q := 12) (L' := [some (mv_R o), some (mv_I (r : Int)), some (mv_I v), some (mv_I 1)]) d_mo_set_11 rfl rfl (by decide) rfl ?_
  exact k0  _ hm_3 (fun j g0 => (fr_2 j (by omega)))

set_option maxRecDepth 4000 in
theorem sg_set_12 {φ : go_F} {l : Launch} {R : Room} {u : Nat × Nat} {h : mv_H} {n : Nat} {o : Nat} {X : mo_X} {D U : Nat → Int} {r k : Nat} {v : Int} (hm_m : MD h o X D U) (hr : r < 160) (hk : k ≤ 40)
    (k0 : 40 ≤ (k : Int) → Go φ l m_mo_set R u 36 [some (mv_R o), some (mv_I (r : Int)), some (mv_I v), some (mv_I (k : Int))] [] h n)
    (k1 : ¬ 40 ≤ (k : Int) → ∀ h' : mv_H, MD h' o X (va_up D ((40 * r) + k) 0) U → (∀ j, (j < o ∨ o + 8 ≤ j) → h' j = h j) → Go φ l m_mo_set R u 12 [some (mv_R o), some (mv_I (r : Int)), some (mv_I v), some (mv_I ((k : Int) + 1))] [] h' n) :
    Go φ l m_mo_set R u 12 [some (mv_R o), some (mv_I (r : Int)), some (mv_I v), some (mv_I (k : Int))] [] h n := by
  refine go_iload_n (q := 13) d_mo_set_12 rfl rfl rfl ?_
  refine go_bipush (q := 15) d_mo_set_13 rfl (by decide) ?_
  refine go_icmp_ge (t := 36) (q := 18) d_mo_set_15 (by decide) rfl (by omega) (by omega) (fun c1 => ?_) (fun c1 => ?_)
  ·
    exact k0 c1
  ·
    refine go_aload_n (q := 19) d_mo_set_18 rfl rfl rfl ?_
    refine go_getf (q := 22) f_mo_17 d_mo_set_19 rfl (MD_c0 hm_m) rfl ?_
    refine go_bipush (q := 24) d_mo_set_22 rfl (by decide) ?_
    refine go_iload_n (q := 25) d_mo_set_24 rfl rfl rfl ?_
    refine go_imul (q := 26) d_mo_set_25 rfl ?_
    refine go_iload_n (q := 27) d_mo_set_26 rfl rfl rfl ?_
    refine go_iadd (q := 28) d_mo_set_27 rfl ?_
    refine go_iconst (q := 29) d_mo_set_28 rfl ?_
    refine go_iast (i := (40 * r) + k) (q := 30) d_mo_set_29 rfl (MD_c2 hm_m) (by omega) (by omega) (by omega) ?_
    have hm_4 := MD_u2 hm_m (va_up D ((40 * r) + k) 0)
    have fr_3 : ∀ j, j ≠ (o + 2) → va_up h (o + 2) (mv_A 0 6400 (va_up D ((40 * r) + k) 0)) j = h j := fun j hj => va_up_ne _ _ hj
    generalize va_up h (o + 2) (mv_A 0 6400 (va_up D ((40 * r) + k) 0)) = h_2 at hm_4 fr_3 ⊢
    refine go_iinc (q := 33) (L' := [some (mv_R o), some (mv_I (r : Int)), some (mv_I v), some (mv_I ((k : Int) + 1))]) d_mo_set_30 rfl (by decide) rfl rfl ?_
    refine go_goto (q := 12) d_mo_set_33 (by decide) ?_
    exact k1 c1 _ hm_4 (fun j g0 => (fr_3 j (by omega)))

set_option maxRecDepth 4000 in
theorem sg_set_36 {φ : go_F} {l : Launch} {R : Room} {u : Nat × Nat} {h : mv_H} {n : Nat} {o : Nat} {X : mo_X} {D U : Nat → Int} {r k : Nat} {v : Int} (hm_m : MD h o X D U) (hr : r < 160) (hv : 0 ≤ v ∧ v ≤ 9999)
    (k0 : ¬ v = 0 → ∀ h' : mv_H, MD h' o X D (va_up U r 1) → (∀ j, (j < o ∨ o + 8 ≤ j) → h' j = h j) → Go φ l m_mo_set R u 51 [some (mv_R o), some (mv_I (r : Int)), some (mv_I v), some (mv_I (k : Int))] [] h' n)
    (k1 : v = 0 → ∀ h' : mv_H, MD h' o X D (va_up U r 0) → (∀ j, (j < o ∨ o + 8 ≤ j) → h' j = h j) → Go φ l m_mo_set R u 51 [some (mv_R o), some (mv_I (r : Int)), some (mv_I v), some (mv_I (k : Int))] [] h' n) :
    Go φ l m_mo_set R u 36 [some (mv_R o), some (mv_I (r : Int)), some (mv_I v), some (mv_I (k : Int))] [] h n := by
  refine go_aload_n (q := 37) d_mo_set_36 rfl rfl rfl ?_
  refine go_getf (q := 40) f_mo_20 d_mo_set_37 rfl (MD_c0 hm_m) rfl ?_
  refine go_iload_n (q := 41) d_mo_set_40 rfl rfl rfl ?_
  refine go_iload_n (q := 42) d_mo_set_41 rfl rfl rfl ?_
  refine go_if_ne (t := 49) (q := 45) d_mo_set_42 (by decide) rfl (by omega) (fun c1 => ?_) (fun c1 => ?_)
  ·
    refine go_iconst (q := 50) d_mo_set_49 rfl ?_
    refine go_iast (i := r) (q := 51) d_mo_set_50 rfl (MD_c3 hm_m) (by omega) (by omega) (by omega) ?_
    have hm_4 := MD_u3 hm_m (va_up U r 1)
    have fr_3 : ∀ j, j ≠ (o + 3) → va_up h (o + 3) (mv_A 0 160 (va_up U r 1)) j = h j := fun j hj => va_up_ne _ _ hj
    generalize va_up h (o + 3) (mv_A 0 160 (va_up U r 1)) = h_2 at hm_4 fr_3 ⊢
    exact k0 c1 _ hm_4 (fun j g0 => (fr_3 j (by omega)))
  ·
    refine go_iconst (q := 46) d_mo_set_45 rfl ?_
    refine go_goto (q := 50) d_mo_set_46 (by decide) ?_
    refine go_iast (i := r) (q := 51) d_mo_set_50 rfl (MD_c3 hm_m) (by omega) (by omega) (by omega) ?_
    have hm_7 := MD_u3 hm_m (va_up U r 0)
    have fr_6 : ∀ j, j ≠ (o + 3) → va_up h (o + 3) (mv_A 0 160 (va_up U r 0)) j = h j := fun j hj => va_up_ne _ _ hj
    generalize va_up h (o + 3) (mv_A 0 160 (va_up U r 0)) = h_5 at hm_7 fr_6 ⊢
    exact k1 c1 _ hm_7 (fun j g0 => (fr_6 j (by omega)))

set_option maxRecDepth 4000 in
theorem sg_copy_0 {φ : go_F} {l : Launch} {R : Room} {u : Nat × Nat} {h : mv_H} {n : Nat} {o : Nat} {X : mo_X} {D U : Nat → Int} {a b : Nat} (hm_m : MD h o X D U) 
    (k0 : Go φ l m_mo_copy R u 2 [some (mv_R o), some (mv_I (a : Int)), some (mv_I (b : Int)), some (mv_I 0)] [] h n) :
    Go φ l m_mo_copy R u 0 [some (mv_R o), some (mv_I (a : Int)), some (mv_I (b : Int)), none] [] h n := by
  refine go_iconst (q := 1) d_mo_copy_0 rfl ?_
  refine go_istore_n (q := 2) (L' := [some (mv_R o), some (mv_I (a : Int)), some (mv_I (b : Int)), some (mv_I 0)]) d_mo_copy_1 rfl rfl (by decide) rfl ?_
  exact k0 

set_option maxRecDepth 4000 in
theorem sg_copy_2 {φ : go_F} {l : Launch} {R : Room} {u : Nat × Nat} {h : mv_H} {n : Nat} {o : Nat} {X : mo_X} {D U : Nat → Int} {a b k : Nat} (hm_m : MD h o X D U) (ha : a < 160) (hb : b < 160) (hk : k ≤ 40)
    (k0 : 40 ≤ (k : Int) → Go φ l m_mo_copy R u 36 [some (mv_R o), some (mv_I (a : Int)), some (mv_I (b : Int)), some (mv_I (k : Int))] [] h n)
    (k1 : ¬ 40 ≤ (k : Int) → ∀ h' : mv_H, MD h' o X (va_up D ((40 * b) + k) (D ((40 * a) + k))) U → (∀ j, (j < o ∨ o + 8 ≤ j) → h' j = h j) → Go φ l m_mo_copy R u 2 [some (mv_R o), some (mv_I (a : Int)), some (mv_I (b : Int)), some (mv_I ((k : Int) + 1))] [] h' n) :
    Go φ l m_mo_copy R u 2 [some (mv_R o), some (mv_I (a : Int)), some (mv_I (b : Int)), some (mv_I (k : Int))] [] h n := by
  refine go_iload_n (q := 3) d_mo_copy_2 rfl rfl rfl ?_
  refine go_bipush (q := 5) d_mo_copy_3 rfl (by decide) ?_
  refine go_icmp_ge (t := 36) (q := 8) d_mo_copy_5 (by decide) rfl (by omega) (by omega) (fun c1 => ?_) (fun c1 => ?_)
  ·
    exact k0 c1
  ·
    refine go_aload_n (q := 9) d_mo_copy_8 rfl rfl rfl ?_
    refine go_getf (q := 12) f_mo_17 d_mo_copy_9 rfl (MD_c0 hm_m) rfl ?_
    refine go_bipush (q := 14) d_mo_copy_12 rfl (by decide) ?_
    refine go_iload_n (q := 15) d_mo_copy_14 rfl rfl rfl ?_
    refine go_imul (q := 16) d_mo_copy_15 rfl ?_
    refine go_iload_n (q := 17) d_mo_copy_16 rfl rfl rfl ?_
    refine go_iadd (q := 18) d_mo_copy_17 rfl ?_
    refine go_aload_n (q := 19) d_mo_copy_18 rfl rfl rfl ?_
    refine go_getf (q := 22) f_mo_17 d_mo_copy_19 rfl (MD_c0 hm_m) rfl ?_
    refine go_bipush (q := 24) d_mo_copy_22 rfl (by decide) ?_
    refine go_iload_n (q := 25) d_mo_copy_24 rfl rfl rfl ?_
    refine go_imul (q := 26) d_mo_copy_25 rfl ?_
    refine go_iload_n (q := 27) d_mo_copy_26 rfl rfl rfl ?_
    refine go_iadd (q := 28) d_mo_copy_27 rfl ?_
    refine go_iald (i := (40 * a) + k) (q := 29) d_mo_copy_28 rfl (MD_c2 hm_m) (by omega) (by omega) (by omega) ?_
    refine go_iast (i := (40 * b) + k) (q := 30) d_mo_copy_29 rfl (MD_c2 hm_m) (by omega) (by omega) (by omega) ?_
    have hm_4 := MD_u2 hm_m (va_up D ((40 * b) + k) (D ((40 * a) + k)))
    have fr_3 : ∀ j, j ≠ (o + 2) → va_up h (o + 2) (mv_A 0 6400 (va_up D ((40 * b) + k) (D ((40 * a) + k)))) j = h j := fun j hj => va_up_ne _ _ hj
    generalize va_up h (o + 2) (mv_A 0 6400 (va_up D ((40 * b) + k) (D ((40 * a) + k)))) = h_2 at hm_4 fr_3 ⊢
    refine go_iinc (q := 33) (L' := [some (mv_R o), some (mv_I (a : Int)), some (mv_I (b : Int)), some (mv_I ((k : Int) + 1))]) d_mo_copy_30 rfl (by decide) rfl rfl ?_
    refine go_goto (q := 2) d_mo_copy_33 (by decide) ?_
    exact k1 c1 _ hm_4 (fun j g0 => (fr_3 j (by omega)))

set_option maxRecDepth 4000 in
theorem sg_copy_36 {φ : go_F} {l : Launch} {R : Room} {u : Nat × Nat} {h : mv_H} {n : Nat} {o : Nat} {X : mo_X} {D U : Nat → Int} {a b k : Nat} (hm_m : MD h o X D U) (ha : a < 160) (hb : b < 160)
    (k0 : ∀ h' : mv_H, MD h' o X D (va_up U b (U a)) → (∀ j, (j < o ∨ o + 8 ≤ j) → h' j = h j) → Go φ l m_mo_copy R u 48 [some (mv_R o), some (mv_I (a : Int)), some (mv_I (b : Int)), some (mv_I (k : Int))] [] h' n) :
    Go φ l m_mo_copy R u 36 [some (mv_R o), some (mv_I (a : Int)), some (mv_I (b : Int)), some (mv_I (k : Int))] [] h n := by
  refine go_aload_n (q := 37) d_mo_copy_36 rfl rfl rfl ?_
  refine go_getf (q := 40) f_mo_20 d_mo_copy_37 rfl (MD_c0 hm_m) rfl ?_
  refine go_iload_n (q := 41) d_mo_copy_40 rfl rfl rfl ?_
  refine go_aload_n (q := 42) d_mo_copy_41 rfl rfl rfl ?_
  refine go_getf (q := 45) f_mo_20 d_mo_copy_42 rfl (MD_c0 hm_m) rfl ?_
  refine go_iload_n (q := 46) d_mo_copy_45 rfl rfl rfl ?_
  refine go_iald (i := a) (q := 47) d_mo_copy_46 rfl (MD_c3 hm_m) (by omega) (by omega) (by omega) ?_
  refine go_iast (i := b) (q := 48) d_mo_copy_47 rfl (MD_c3 hm_m) (by omega) (by omega) (by omega) ?_
  have hm_3 := MD_u3 hm_m (va_up U b (U a))
  have fr_2 : ∀ j, j ≠ (o + 3) → va_up h (o + 3) (mv_A 0 160 (va_up U b (U a))) j = h j := fun j hj => va_up_ne _ _ hj
  generalize va_up h (o + 3) (mv_A 0 160 (va_up U b (U a))) = h_1 at hm_3 fr_2 ⊢
  exact k0  _ hm_3 (fun j g0 => (fr_2 j (by omega)))

set_option maxRecDepth 4000 in
theorem sg_trim_0 {φ : go_F} {l : Launch} {R : Room} {u : Nat × Nat} {h : mv_H} {n : Nat} {o : Nat} {X : mo_X} {D U : Nat → Int} {r k : Nat} (hm_m : MD h o X D U) 
    (k0 : Go φ l m_mo_trim R u 2 [some (mv_R o), some (mv_I (r : Int)), some (mv_I (k : Int)), some (mv_I (k : Int))] [] h n) :
    Go φ l m_mo_trim R u 0 [some (mv_R o), some (mv_I (r : Int)), some (mv_I (k : Int)), none] [] h n := by
  refine go_iload_n (q := 1) d_mo_trim_0 rfl rfl rfl ?_
  refine go_istore_n (q := 2) (L' := [some (mv_R o), some (mv_I (r : Int)), some (mv_I (k : Int)), some (mv_I (k : Int))]) d_mo_trim_1 rfl rfl (by decide) rfl ?_
  exact k0 

set_option maxRecDepth 4000 in
theorem sg_trim_2 {φ : go_F} {l : Launch} {R : Room} {u : Nat × Nat} {h : mv_H} {n : Nat} {o : Nat} {X : mo_X} {D U : Nat → Int} {r m k : Nat} (hm_m : MD h o X D U) (hr : r < 160) (hk : k ≤ 40) (hD : ∀ j, 0 ≤ D j ∧ D j ≤ 9999)
    (k0 : (k : Int) ≤ 0 → Go φ l m_mo_trim R u 29 [some (mv_R o), some (mv_I (r : Int)), some (mv_I (m : Int)), some (mv_I (k : Int))] [] h n)
    (k1 : ¬ (k : Int) ≤ 0 → ¬ D (((40 * r) + k) - 1) = 0 → Go φ l m_mo_trim R u 29 [some (mv_R o), some (mv_I (r : Int)), some (mv_I (m : Int)), some (mv_I (k : Int))] [] h n)
    (k2 : ¬ (k : Int) ≤ 0 → D (((40 * r) + k) - 1) = 0 → Go φ l m_mo_trim R u 2 [some (mv_R o), some (mv_I (r : Int)), some (mv_I (m : Int)), some (mv_I ((k : Int) - 1))] [] h n) :
    Go φ l m_mo_trim R u 2 [some (mv_R o), some (mv_I (r : Int)), some (mv_I (m : Int)), some (mv_I (k : Int))] [] h n := by
  refine go_iload_n (q := 3) d_mo_trim_2 rfl rfl rfl ?_
  refine go_if_le (t := 29) (q := 6) d_mo_trim_3 (by decide) rfl (by omega) (fun c1 => ?_) (fun c1 => ?_)
  ·
    exact k0 c1
  ·
    refine go_aload_n (q := 7) d_mo_trim_6 rfl rfl rfl ?_
    refine go_getf (q := 10) f_mo_17 d_mo_trim_7 rfl (MD_c0 hm_m) rfl ?_
    refine go_bipush (q := 12) d_mo_trim_10 rfl (by decide) ?_
    refine go_iload_n (q := 13) d_mo_trim_12 rfl rfl rfl ?_
    refine go_imul (q := 14) d_mo_trim_13 rfl ?_
    refine go_iload_n (q := 15) d_mo_trim_14 rfl rfl rfl ?_
    refine go_iadd (q := 16) d_mo_trim_15 rfl ?_
    refine go_iconst (q := 17) d_mo_trim_16 rfl ?_
    refine go_isub (q := 18) d_mo_trim_17 rfl ?_
    refine go_iald (i := ((40 * r) + k) - 1) (q := 19) d_mo_trim_18 rfl (MD_c2 hm_m) (by omega) (by omega) (by omega) ?_
    have q_2 := hD (((40 * r) + k) - 1)
    refine go_if_ne (t := 29) (q := 22) d_mo_trim_19 (by decide) rfl (by omega) (fun c3 => ?_) (fun c3 => ?_)
    ·
      exact k1 c1 c3
    ·
      refine go_iload_n (q := 23) d_mo_trim_22 rfl rfl rfl ?_
      refine go_iconst (q := 24) d_mo_trim_23 rfl ?_
      refine go_isub (q := 25) d_mo_trim_24 rfl ?_
      refine go_istore_n (q := 26) (L' := [some (mv_R o), some (mv_I (r : Int)), some (mv_I (m : Int)), some (mv_I ((k : Int) - 1))]) d_mo_trim_25 rfl rfl (by decide) rfl ?_
      refine go_goto (q := 2) d_mo_trim_26 (by decide) ?_
      exact k2 c1 c3

set_option maxRecDepth 4000 in
theorem sg_trim_29 {φ : go_F} {l : Launch} {R : Room} {u : Nat × Nat} {h : mv_H} {n : Nat} {o : Nat} {X : mo_X} {D U : Nat → Int} {r m k : Nat} (hm_m : MD h o X D U) (hr : r < 160)
    (k0 : ∀ h' : mv_H, MD h' o X D (va_up U r (k : Int)) → (∀ j, (j < o ∨ o + 8 ≤ j) → h' j = h j) → Go φ l m_mo_trim R u 36 [some (mv_R o), some (mv_I (r : Int)), some (mv_I (m : Int)), some (mv_I (k : Int))] [] h' n) :
    Go φ l m_mo_trim R u 29 [some (mv_R o), some (mv_I (r : Int)), some (mv_I (m : Int)), some (mv_I (k : Int))] [] h n := by
  refine go_aload_n (q := 30) d_mo_trim_29 rfl rfl rfl ?_
  refine go_getf (q := 33) f_mo_20 d_mo_trim_30 rfl (MD_c0 hm_m) rfl ?_
  refine go_iload_n (q := 34) d_mo_trim_33 rfl rfl rfl ?_
  refine go_iload_n (q := 35) d_mo_trim_34 rfl rfl rfl ?_
  refine go_iast (i := r) (q := 36) d_mo_trim_35 rfl (MD_c3 hm_m) (by omega) (by omega) (by omega) ?_
  have hm_3 := MD_u3 hm_m (va_up U r (k : Int))
  have fr_2 : ∀ j, j ≠ (o + 3) → va_up h (o + 3) (mv_A 0 160 (va_up U r (k : Int))) j = h j := fun j hj => va_up_ne _ _ hj
  generalize va_up h (o + 3) (mv_A 0 160 (va_up U r (k : Int))) = h_1 at hm_3 fr_2 ⊢
  exact k0  _ hm_3 (fun j g0 => (fr_2 j (by omega)))

set_option maxRecDepth 4000 in
theorem sg_compare_0 {φ : go_F} {l : Launch} {R : Room} {u : Nat × Nat} {h : mv_H} {n : Nat} {o : Nat} {X : mo_X} {D U : Nat → Int} {a b : Nat} (hm_m : MD h o X D U) (ha : a < 160) (hb : b < 160) (hD : ∀ j, 0 ≤ D j ∧ D j ≤ 9999) (hU : ∀ j, 0 ≤ U j ∧ U j ≤ 40)
    (k0 : U a = U b → Go φ l m_mo_compare R u 45 [some (mv_R o), some (mv_I (a : Int)), some (mv_I (b : Int)), some (mv_I ((U a) - 1))] [] h n)
    (k1 : ¬ U a = U b → U b ≤ U a → Go φ l m_mo_compare R u 35 [some (mv_R o), some (mv_I (a : Int)), some (mv_I (b : Int)), none] [mv_I 1] h n)
    (k2 : ¬ U a = U b → ¬ U b ≤ U a → Go φ l m_mo_compare R u 35 [some (mv_R o), some (mv_I (a : Int)), some (mv_I (b : Int)), none] [mv_I (-1)] h n) :
    Go φ l m_mo_compare R u 0 [some (mv_R o), some (mv_I (a : Int)), some (mv_I (b : Int)), none] [] h n := by
  refine go_aload_n (q := 1) d_mo_compare_0 rfl rfl rfl ?_
  refine go_getf (q := 4) f_mo_20 d_mo_compare_1 rfl (MD_c0 hm_m) rfl ?_
  refine go_iload_n (q := 5) d_mo_compare_4 rfl rfl rfl ?_
  refine go_iald (i := a) (q := 6) d_mo_compare_5 rfl (MD_c3 hm_m) (by omega) (by omega) (by omega) ?_
  have q_1 := hU a
  refine go_aload_n (q := 7) d_mo_compare_6 rfl rfl rfl ?_
  refine go_getf (q := 10) f_mo_20 d_mo_compare_7 rfl (MD_c0 hm_m) rfl ?_
  refine go_iload_n (q := 11) d_mo_compare_10 rfl rfl rfl ?_
  refine go_iald (i := b) (q := 12) d_mo_compare_11 rfl (MD_c3 hm_m) (by omega) (by omega) (by omega) ?_
  have q_2 := hU b
  refine go_icmp_eq (t := 36) (q := 15) d_mo_compare_12 (by decide) rfl (by omega) (by omega) (fun c3 => ?_) (fun c3 => ?_)
  ·
    refine go_aload_n (q := 37) d_mo_compare_36 rfl rfl rfl ?_
    refine go_getf (q := 40) f_mo_20 d_mo_compare_37 rfl (MD_c0 hm_m) rfl ?_
    refine go_iload_n (q := 41) d_mo_compare_40 rfl rfl rfl ?_
    refine go_iald (i := a) (q := 42) d_mo_compare_41 rfl (MD_c3 hm_m) (by omega) (by omega) (by omega) ?_
    have q_4 := hU a
    refine go_iconst (q := 43) d_mo_compare_42 rfl ?_
    refine go_isub (q := 44) d_mo_compare_43 rfl ?_
    refine go_istore_n (q := 45) (L' := [some (mv_R o), some (mv_I (a : Int)), some (mv_I (b : Int)), some (mv_I ((U a) - 1))]) d_mo_compare_44 rfl rfl (by decide) rfl ?_
    exact k0 c3
  ·
    refine go_aload_n (q := 16) d_mo_compare_15 rfl rfl rfl ?_
    refine go_getf (q := 19) f_mo_20 d_mo_compare_16 rfl (MD_c0 hm_m) rfl ?_
    refine go_iload_n (q := 20) d_mo_compare_19 rfl rfl rfl ?_
    refine go_iald (i := a) (q := 21) d_mo_compare_20 rfl (MD_c3 hm_m) (by omega) (by omega) (by omega) ?_
    have q_5 := hU a
    refine go_aload_n (q := 22) d_mo_compare_21 rfl rfl rfl ?_
    refine go_getf (q := 25) f_mo_20 d_mo_compare_22 rfl (MD_c0 hm_m) rfl ?_
    refine go_iload_n (q := 26) d_mo_compare_25 rfl rfl rfl ?_
    refine go_iald (i := b) (q := 27) d_mo_compare_26 rfl (MD_c3 hm_m) (by omega) (by omega) (by omega) ?_
    have q_6 := hU b
    refine go_icmp_ge (t := 34) (q := 30) d_mo_compare_27 (by decide) rfl (by omega) (by omega) (fun c7 => ?_) (fun c7 => ?_)
    ·
      refine go_iconst (q := 35) d_mo_compare_34 rfl ?_
      exact k1 c3 c7
    ·
      refine go_iconst (q := 31) d_mo_compare_30 rfl ?_
      refine go_goto (q := 35) d_mo_compare_31 (by decide) ?_
      exact k2 c3 c7

set_option maxRecDepth 4000 in
theorem sg_compare_45 {φ : go_F} {l : Launch} {R : Room} {u : Nat × Nat} {h : mv_H} {n : Nat} {o : Nat} {X : mo_X} {D U : Nat → Int} {a b : Nat} {k : Int} (hm_m : MD h o X D U) (ha : a < 160) (hb : b < 160) (hk : -1 ≤ k ∧ k < 40) (hD : ∀ j, 0 ≤ D j ∧ D j ≤ 9999) (hU : ∀ j, 0 ≤ U j ∧ U j ≤ 40)
    (k0 : k < 0 → Go φ l m_mo_compare R u 81 [some (mv_R o), some (mv_I (a : Int)), some (mv_I (b : Int)), some (mv_I k)] [] h n)
    (k1 : ¬ k < 0 → ¬ D (40 * a + k.toNat) = D (40 * b + k.toNat) → Go φ l m_mo_compare R u 81 [some (mv_R o), some (mv_I (a : Int)), some (mv_I (b : Int)), some (mv_I k)] [] h n)
    (k2 : ¬ k < 0 → D (40 * a + k.toNat) = D (40 * b + k.toNat) → Go φ l m_mo_compare R u 45 [some (mv_R o), some (mv_I (a : Int)), some (mv_I (b : Int)), some (mv_I (k - 1))] [] h n) :
    Go φ l m_mo_compare R u 45 [some (mv_R o), some (mv_I (a : Int)), some (mv_I (b : Int)), some (mv_I k)] [] h n := by
  refine go_iload_n (q := 46) d_mo_compare_45 rfl rfl rfl ?_
  refine go_if_lt (t := 81) (q := 49) d_mo_compare_46 (by decide) rfl (by omega) (fun c1 => ?_) (fun c1 => ?_)
  ·
    exact k0 c1
  ·
    refine go_aload_n (q := 50) d_mo_compare_49 rfl rfl rfl ?_
    refine go_getf (q := 53) f_mo_17 d_mo_compare_50 rfl (MD_c0 hm_m) rfl ?_
    refine go_bipush (q := 55) d_mo_compare_53 rfl (by decide) ?_
    refine go_iload_n (q := 56) d_mo_compare_55 rfl rfl rfl ?_
    refine go_imul (q := 57) d_mo_compare_56 rfl ?_
    refine go_iload_n (q := 58) d_mo_compare_57 rfl rfl rfl ?_
    refine go_iadd (q := 59) d_mo_compare_58 rfl ?_
    refine go_iald (i := 40 * a + k.toNat) (q := 60) d_mo_compare_59 rfl (MD_c2 hm_m) (by omega) (by omega) (by omega) ?_
    have q_2 := hD (40 * a + k.toNat)
    refine go_aload_n (q := 61) d_mo_compare_60 rfl rfl rfl ?_
    refine go_getf (q := 64) f_mo_17 d_mo_compare_61 rfl (MD_c0 hm_m) rfl ?_
    refine go_bipush (q := 66) d_mo_compare_64 rfl (by decide) ?_
    refine go_iload_n (q := 67) d_mo_compare_66 rfl rfl rfl ?_
    refine go_imul (q := 68) d_mo_compare_67 rfl ?_
    refine go_iload_n (q := 69) d_mo_compare_68 rfl rfl rfl ?_
    refine go_iadd (q := 70) d_mo_compare_69 rfl ?_
    refine go_iald (i := 40 * b + k.toNat) (q := 71) d_mo_compare_70 rfl (MD_c2 hm_m) (by omega) (by omega) (by omega) ?_
    have q_3 := hD (40 * b + k.toNat)
    refine go_icmp_ne (t := 81) (q := 74) d_mo_compare_71 (by decide) rfl (by omega) (by omega) (fun c4 => ?_) (fun c4 => ?_)
    ·
      exact k1 c1 c4
    ·
      refine go_iload_n (q := 75) d_mo_compare_74 rfl rfl rfl ?_
      refine go_iconst (q := 76) d_mo_compare_75 rfl ?_
      refine go_isub (q := 77) d_mo_compare_76 rfl ?_
      refine go_istore_n (q := 78) (L' := [some (mv_R o), some (mv_I (a : Int)), some (mv_I (b : Int)), some (mv_I (k - 1))]) d_mo_compare_77 rfl rfl (by decide) rfl ?_
      refine go_goto (q := 45) d_mo_compare_78 (by decide) ?_
      exact k2 c1 c4

set_option maxRecDepth 4000 in
theorem sg_compare_81 {φ : go_F} {l : Launch} {R : Room} {u : Nat × Nat} {h : mv_H} {n : Nat} {o : Nat} {X : mo_X} {D U : Nat → Int} {a b : Nat} {k : Int} (hm_m : MD h o X D U) (ha : a < 160) (hb : b < 160) (hk : -1 ≤ k ∧ k < 40) (hD : ∀ j, 0 ≤ D j ∧ D j ≤ 9999) (hU : ∀ j, 0 ≤ U j ∧ U j ≤ 40)
    (k0 : 0 ≤ k → D (40 * b + k.toNat) ≤ D (40 * a + k.toNat) → Go φ l m_mo_compare R u 119 [some (mv_R o), some (mv_I (a : Int)), some (mv_I (b : Int)), some (mv_I k)] [mv_I 1] h n)
    (k1 : 0 ≤ k → ¬ D (40 * b + k.toNat) ≤ D (40 * a + k.toNat) → Go φ l m_mo_compare R u 119 [some (mv_R o), some (mv_I (a : Int)), some (mv_I (b : Int)), some (mv_I k)] [mv_I (-1)] h n)
    (k2 : ¬ 0 ≤ k → Go φ l m_mo_compare R u 119 [some (mv_R o), some (mv_I (a : Int)), some (mv_I (b : Int)), some (mv_I k)] [mv_I 0] h n) :
    Go φ l m_mo_compare R u 81 [some (mv_R o), some (mv_I (a : Int)), some (mv_I (b : Int)), some (mv_I k)] [] h n := by
  refine go_iload_n (q := 82) d_mo_compare_81 rfl rfl rfl ?_
  refine go_if_ge (t := 89) (q := 85) d_mo_compare_82 (by decide) rfl (by omega) (fun c1 => ?_) (fun c1 => ?_)
  ·
    refine go_aload_n (q := 90) d_mo_compare_89 rfl rfl rfl ?_
    refine go_getf (q := 93) f_mo_17 d_mo_compare_90 rfl (MD_c0 hm_m) rfl ?_
    refine go_bipush (q := 95) d_mo_compare_93 rfl (by decide) ?_
    refine go_iload_n (q := 96) d_mo_compare_95 rfl rfl rfl ?_
    refine go_imul (q := 97) d_mo_compare_96 rfl ?_
    refine go_iload_n (q := 98) d_mo_compare_97 rfl rfl rfl ?_
    refine go_iadd (q := 99) d_mo_compare_98 rfl ?_
    refine go_iald (i := 40 * a + k.toNat) (q := 100) d_mo_compare_99 rfl (MD_c2 hm_m) (by omega) (by omega) (by omega) ?_
    have q_2 := hD (40 * a + k.toNat)
    refine go_aload_n (q := 101) d_mo_compare_100 rfl rfl rfl ?_
    refine go_getf (q := 104) f_mo_17 d_mo_compare_101 rfl (MD_c0 hm_m) rfl ?_
    refine go_bipush (q := 106) d_mo_compare_104 rfl (by decide) ?_
    refine go_iload_n (q := 107) d_mo_compare_106 rfl rfl rfl ?_
    refine go_imul (q := 108) d_mo_compare_107 rfl ?_
    refine go_iload_n (q := 109) d_mo_compare_108 rfl rfl rfl ?_
    refine go_iadd (q := 110) d_mo_compare_109 rfl ?_
    refine go_iald (i := 40 * b + k.toNat) (q := 111) d_mo_compare_110 rfl (MD_c2 hm_m) (by omega) (by omega) (by omega) ?_
    have q_3 := hD (40 * b + k.toNat)
    refine go_icmp_ge (t := 118) (q := 114) d_mo_compare_111 (by decide) rfl (by omega) (by omega) (fun c4 => ?_) (fun c4 => ?_)
    ·
      refine go_iconst (q := 119) d_mo_compare_118 rfl ?_
      exact k0 c1 c4
    ·
      refine go_iconst (q := 115) d_mo_compare_114 rfl ?_
      refine go_goto (q := 119) d_mo_compare_115 (by decide) ?_
      exact k1 c1 c4
  ·
    refine go_iconst (q := 86) d_mo_compare_85 rfl ?_
    refine go_goto (q := 119) d_mo_compare_86 (by decide) ?_
    exact k2 c1

set_option maxRecDepth 4000 in
theorem sg_addTo_0 {φ : go_F} {l : Launch} {R : Room} {u : Nat × Nat} {h : mv_H} {n : Nat} {o : Nat} {X : mo_X} {D U : Nat → Int} {a b : Nat} (hm_m : MD h o X D U) (ha : a < 160) (hb : b < 160) (hD : ∀ j, 0 ≤ D j ∧ D j ≤ 9999) (hU : ∀ j, 0 ≤ U j ∧ U j ≤ 40)
    (k0 : U a ≤ U b → Go φ l m_mo_addTo R u 37 [some (mv_R o), some (mv_I (a : Int)), some (mv_I (b : Int)), some (mv_I (U b)), some (mv_I 0), some (mv_I 0), none] [] h n)
    (k1 : ¬ U a ≤ U b → Go φ l m_mo_addTo R u 37 [some (mv_R o), some (mv_I (a : Int)), some (mv_I (b : Int)), some (mv_I (U a)), some (mv_I 0), some (mv_I 0), none] [] h n) :
    Go φ l m_mo_addTo R u 0 [some (mv_R o), some (mv_I (a : Int)), some (mv_I (b : Int)), none, none, none, none] [] h n := by
  refine go_aload_n (q := 1) d_mo_addTo_0 rfl rfl rfl ?_
  refine go_getf (q := 4) f_mo_20 d_mo_addTo_1 rfl (MD_c0 hm_m) rfl ?_
  refine go_iload_n (q := 5) d_mo_addTo_4 rfl rfl rfl ?_
  refine go_iald (i := a) (q := 6) d_mo_addTo_5 rfl (MD_c3 hm_m) (by omega) (by omega) (by omega) ?_
  have q_1 := hU a
  refine go_aload_n (q := 7) d_mo_addTo_6 rfl rfl rfl ?_
  refine go_getf (q := 10) f_mo_20 d_mo_addTo_7 rfl (MD_c0 hm_m) rfl ?_
  refine go_iload_n (q := 11) d_mo_addTo_10 rfl rfl rfl ?_
  refine go_iald (i := b) (q := 12) d_mo_addTo_11 rfl (MD_c3 hm_m) (by omega) (by omega) (by omega) ?_
  have q_2 := hU b
  refine go_icmp_le (t := 24) (q := 15) d_mo_addTo_12 (by decide) rfl (by omega) (by omega) (fun c3 => ?_) (fun c3 => ?_)
  ·
    refine go_aload_n (q := 25) d_mo_addTo_24 rfl rfl rfl ?_
    refine go_getf (q := 28) f_mo_20 d_mo_addTo_25 rfl (MD_c0 hm_m) rfl ?_
    refine go_iload_n (q := 29) d_mo_addTo_28 rfl rfl rfl ?_
    refine go_iald (i := b) (q := 30) d_mo_addTo_29 rfl (MD_c3 hm_m) (by omega) (by omega) (by omega) ?_
    have q_4 := hU b
    refine go_istore_n (q := 31) (L' := [some (mv_R o), some (mv_I (a : Int)), some (mv_I (b : Int)), some (mv_I (U b)), none, none, none]) d_mo_addTo_30 rfl rfl (by decide) rfl ?_
    refine go_iconst (q := 32) d_mo_addTo_31 rfl ?_
    refine go_istore (q := 34) (L' := [some (mv_R o), some (mv_I (a : Int)), some (mv_I (b : Int)), some (mv_I (U b)), some (mv_I 0), none, none]) d_mo_addTo_32 rfl (by decide) rfl ?_
    refine go_iconst (q := 35) d_mo_addTo_34 rfl ?_
    refine go_istore (q := 37) (L' := [some (mv_R o), some (mv_I (a : Int)), some (mv_I (b : Int)), some (mv_I (U b)), some (mv_I 0), some (mv_I 0), none]) d_mo_addTo_35 rfl (by decide) rfl ?_
    exact k0 c3
  ·
    refine go_aload_n (q := 16) d_mo_addTo_15 rfl rfl rfl ?_
    refine go_getf (q := 19) f_mo_20 d_mo_addTo_16 rfl (MD_c0 hm_m) rfl ?_
    refine go_iload_n (q := 20) d_mo_addTo_19 rfl rfl rfl ?_
    refine go_iald (i := a) (q := 21) d_mo_addTo_20 rfl (MD_c3 hm_m) (by omega) (by omega) (by omega) ?_
    have q_5 := hU a
    refine go_goto (q := 30) d_mo_addTo_21 (by decide) ?_
    refine go_istore_n (q := 31) (L' := [some (mv_R o), some (mv_I (a : Int)), some (mv_I (b : Int)), some (mv_I (U a)), none, none, none]) d_mo_addTo_30 rfl rfl (by decide) rfl ?_
    refine go_iconst (q := 32) d_mo_addTo_31 rfl ?_
    refine go_istore (q := 34) (L' := [some (mv_R o), some (mv_I (a : Int)), some (mv_I (b : Int)), some (mv_I (U a)), some (mv_I 0), none, none]) d_mo_addTo_32 rfl (by decide) rfl ?_
    refine go_iconst (q := 35) d_mo_addTo_34 rfl ?_
    refine go_istore (q := 37) (L' := [some (mv_R o), some (mv_I (a : Int)), some (mv_I (b : Int)), some (mv_I (U a)), some (mv_I 0), some (mv_I 0), none]) d_mo_addTo_35 rfl (by decide) rfl ?_
    exact k1 c3

set_option maxRecDepth 4000 in
theorem sg_addTo_37 {φ : go_F} {l : Launch} {R : Room} {u : Nat × Nat} {h : mv_H} {n : Nat} {o : Nat} {X : mo_X} {D U : Nat → Int} {a b k : Nat} {m c : Int} (hm_m : MD h o X D U) (ha : a < 160) (hb : b < 160) (hm : 0 ≤ m ∧ m ≤ 40) (hc : 0 ≤ c ∧ c ≤ 1) (hk : k ≤ 40) (hD : ∀ j, 0 ≤ D j ∧ D j ≤ 9999)
    (k0 : m < (k : Int) → Go φ l m_mo_addTo R u 112 [some (mv_R o), some (mv_I (a : Int)), some (mv_I (b : Int)), some (mv_I m), some (mv_I c), some (mv_I (k : Int)), none] [] h n)
    (k1 : ¬ m < (k : Int) → 40 ≤ (k : Int) → Go φ l m_mo_addTo R u 112 [some (mv_R o), some (mv_I (a : Int)), some (mv_I (b : Int)), some (mv_I m), some (mv_I c), some (mv_I (k : Int)), none] [] h n)
    (k2 : ¬ m < (k : Int) → ¬ 40 ≤ (k : Int) → ∀ h' : mv_H, MD h' o X (va_up D ((40 * a) + k) ((((D ((40 * a) + k)) + (D ((40 * b) + k))) + c) % 10000)) U → (∀ j, (j < o ∨ o + 8 ≤ j) → h' j = h j) → Go φ l m_mo_addTo R u 37 [some (mv_R o), some (mv_I (a : Int)), some (mv_I (b : Int)), some (mv_I m), some (mv_I ((((D ((40 * a) + k)) + (D ((40 * b) + k))) + c) / 10000)), some (mv_I ((k : Int) + 1)), none] [] h' n) :
    Go φ l m_mo_addTo R u 37 [some (mv_R o), some (mv_I (a : Int)), some (mv_I (b : Int)), some (mv_I m), some (mv_I c), some (mv_I (k : Int)), none] [] h n := by
  refine go_iload (q := 39) d_mo_addTo_37 rfl rfl ?_
  refine go_iload_n (q := 40) d_mo_addTo_39 rfl rfl rfl ?_
  refine go_icmp_gt (t := 112) (q := 43) d_mo_addTo_40 (by decide) rfl (by omega) (by omega) (fun c1 => ?_) (fun c1 => ?_)
  ·
    exact k0 c1
  ·
    refine go_iload (q := 45) d_mo_addTo_43 rfl rfl ?_
    refine go_bipush (q := 47) d_mo_addTo_45 rfl (by decide) ?_
    refine go_icmp_ge (t := 112) (q := 50) d_mo_addTo_47 (by decide) rfl (by omega) (by omega) (fun c2 => ?_) (fun c2 => ?_)
    ·
      exact k1 c1 c2
    ·
      refine go_aload_n (q := 51) d_mo_addTo_50 rfl rfl rfl ?_
      refine go_getf (q := 54) f_mo_17 d_mo_addTo_51 rfl (MD_c0 hm_m) rfl ?_
      refine go_bipush (q := 56) d_mo_addTo_54 rfl (by decide) ?_
      refine go_iload_n (q := 57) d_mo_addTo_56 rfl rfl rfl ?_
      refine go_imul (q := 58) d_mo_addTo_57 rfl ?_
      refine go_iload (q := 60) d_mo_addTo_58 rfl rfl ?_
      refine go_iadd (q := 61) d_mo_addTo_60 rfl ?_
      refine go_iald (i := (40 * a) + k) (q := 62) d_mo_addTo_61 rfl (MD_c2 hm_m) (by omega) (by omega) (by omega) ?_
      have q_3 := hD ((40 * a) + k)
      refine go_aload_n (q := 63) d_mo_addTo_62 rfl rfl rfl ?_
      refine go_getf (q := 66) f_mo_17 d_mo_addTo_63 rfl (MD_c0 hm_m) rfl ?_
      refine go_bipush (q := 68) d_mo_addTo_66 rfl (by decide) ?_
      refine go_iload_n (q := 69) d_mo_addTo_68 rfl rfl rfl ?_
      refine go_imul (q := 70) d_mo_addTo_69 rfl ?_
      refine go_iload (q := 72) d_mo_addTo_70 rfl rfl ?_
      refine go_iadd (q := 73) d_mo_addTo_72 rfl ?_
      refine go_iald (i := (40 * b) + k) (q := 74) d_mo_addTo_73 rfl (MD_c2 hm_m) (by omega) (by omega) (by omega) ?_
      have q_4 := hD ((40 * b) + k)
      refine go_iadd (q := 75) d_mo_addTo_74 rfl ?_
      refine go_iload (q := 77) d_mo_addTo_75 rfl rfl ?_
      refine go_iadd (q := 78) d_mo_addTo_77 rfl ?_
      refine go_istore (q := 80) (L' := [some (mv_R o), some (mv_I (a : Int)), some (mv_I (b : Int)), some (mv_I m), some (mv_I c), some (mv_I (k : Int)), some (mv_I (((D ((40 * a) + k)) + (D ((40 * b) + k))) + c))]) d_mo_addTo_78 rfl (by decide) rfl ?_
      refine go_aload_n (q := 81) d_mo_addTo_80 rfl rfl rfl ?_
      refine go_getf (q := 84) f_mo_17 d_mo_addTo_81 rfl (MD_c0 hm_m) rfl ?_
      refine go_bipush (q := 86) d_mo_addTo_84 rfl (by decide) ?_
      refine go_iload_n (q := 87) d_mo_addTo_86 rfl rfl rfl ?_
      refine go_imul (q := 88) d_mo_addTo_87 rfl ?_
      refine go_iload (q := 90) d_mo_addTo_88 rfl rfl ?_
      refine go_iadd (q := 91) d_mo_addTo_90 rfl ?_
      refine go_iload (q := 93) d_mo_addTo_91 rfl rfl ?_
      refine go_sipush (q := 96) d_mo_addTo_93 rfl (by decide) ?_
      refine go_irem (z := (((D ((40 * a) + k)) + (D ((40 * b) + k))) + c) % 10000) (q := 97) d_mo_addTo_96 rfl (gn_ne0 (by omega)) (gn_rem (by omega) (by omega)) ?_
      refine go_iast (i := (40 * a) + k) (q := 98) d_mo_addTo_97 rfl (MD_c2 hm_m) (by omega) (by omega) (by omega) ?_
      have hm_7 := MD_u2 hm_m (va_up D ((40 * a) + k) ((((D ((40 * a) + k)) + (D ((40 * b) + k))) + c) % 10000))
      have fr_6 : ∀ j, j ≠ (o + 2) → va_up h (o + 2) (mv_A 0 6400 (va_up D ((40 * a) + k) ((((D ((40 * a) + k)) + (D ((40 * b) + k))) + c) % 10000))) j = h j := fun j hj => va_up_ne _ _ hj
      generalize va_up h (o + 2) (mv_A 0 6400 (va_up D ((40 * a) + k) ((((D ((40 * a) + k)) + (D ((40 * b) + k))) + c) % 10000))) = h_5 at hm_7 fr_6 ⊢
      refine go_iload (q := 100) d_mo_addTo_98 rfl rfl ?_
      refine go_sipush (q := 103) d_mo_addTo_100 rfl (by decide) ?_
      refine go_idiv (z := (((D ((40 * a) + k)) + (D ((40 * b) + k))) + c) / 10000) (q := 104) d_mo_addTo_103 rfl (gn_ne0 (by omega)) (gn_div (by omega) (by omega)) ?_
      refine go_istore (q := 106) (L' := [some (mv_R o), some (mv_I (a : Int)), some (mv_I (b : Int)), some (mv_I m), some (mv_I ((((D ((40 * a) + k)) + (D ((40 * b) + k))) + c) / 10000)), some (mv_I (k : Int)), some (mv_I (((D ((40 * a) + k)) + (D ((40 * b) + k))) + c))]) d_mo_addTo_104 rfl (by decide) rfl ?_
      refine go_iinc (q := 109) (L' := [some (mv_R o), some (mv_I (a : Int)), some (mv_I (b : Int)), some (mv_I m), some (mv_I ((((D ((40 * a) + k)) + (D ((40 * b) + k))) + c) / 10000)), some (mv_I ((k : Int) + 1)), some (mv_I (((D ((40 * a) + k)) + (D ((40 * b) + k))) + c))]) d_mo_addTo_106 rfl (by decide) rfl rfl ?_
      refine go_goto (q := 37) d_mo_addTo_109 (by decide) ?_
      refine go_fg 6 (L' := [some (mv_R o), some (mv_I (a : Int)), some (mv_I (b : Int)), some (mv_I m), some (mv_I ((((D ((40 * a) + k)) + (D ((40 * b) + k))) + c) / 10000)), some (mv_I ((k : Int) + 1)), none]) rfl ?_
      exact k2 c1 c2 _ hm_7 (fun j g0 => (fr_6 j (by omega)))

set_option maxRecDepth 4000 in
theorem sg_addTo_112 {φ : go_F} {l : Launch} {R : Room} {u : Nat × Nat} {h : mv_H} {n : Nat} {o : Nat} {X : mo_X} {D U : Nat → Int} {a b k : Nat} {m c : Int} (hm_m : MD h o X D U) (hm : 0 ≤ m ∧ m ≤ 40)
    (k0 : 40 ≤ m → Go φ l m_mo_addTo R u 128 [some (mv_R o), some (mv_I (a : Int)), some (mv_I (b : Int)), some (mv_I m), some (mv_I c), some (mv_I (k : Int)), none] [mv_I 40, mv_I (a : Int), mv_R o] h n)
    (k1 : ¬ 40 ≤ m → Go φ l m_mo_addTo R u 128 [some (mv_R o), some (mv_I (a : Int)), some (mv_I (b : Int)), some (mv_I m), some (mv_I c), some (mv_I (k : Int)), none] [mv_I (m + 1), mv_I (a : Int), mv_R o] h n) :
    Go φ l m_mo_addTo R u 112 [some (mv_R o), some (mv_I (a : Int)), some (mv_I (b : Int)), some (mv_I m), some (mv_I c), some (mv_I (k : Int)), none] [] h n := by
  refine go_aload_n (q := 113) d_mo_addTo_112 rfl rfl rfl ?_
  refine go_iload_n (q := 114) d_mo_addTo_113 rfl rfl rfl ?_
  refine go_iload_n (q := 115) d_mo_addTo_114 rfl rfl rfl ?_
  refine go_bipush (q := 117) d_mo_addTo_115 rfl (by decide) ?_
  refine go_icmp_ge (t := 126) (q := 120) d_mo_addTo_117 (by decide) rfl (by omega) (by omega) (fun c1 => ?_) (fun c1 => ?_)
  ·
    refine go_bipush (q := 128) d_mo_addTo_126 rfl (by decide) ?_
    exact k0 c1
  ·
    refine go_iload_n (q := 121) d_mo_addTo_120 rfl rfl rfl ?_
    refine go_iconst (q := 122) d_mo_addTo_121 rfl ?_
    refine go_iadd (q := 123) d_mo_addTo_122 rfl ?_
    refine go_goto (q := 128) d_mo_addTo_123 (by decide) ?_
    exact k1 c1

