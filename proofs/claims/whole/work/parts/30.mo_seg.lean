abbrev mo_X : Type := (Nat → Int) × (Nat → Int) × (Nat → Int) × (Nat → Int) × (Nat → Int) × (Nat → Int)
def MO (h : mv_H) (o : Nat) (I : Nat → Int) (tx : Nat → Int) (S : Nat → Int) (ps : Nat → Int) (cs : Nat → Int) (bs : Nat → Int) (D : Nat → Int) (U : Nat → Int) : Prop := h o = mv_O 8 [mv_I (I 0), mv_I (I 1), mv_R (o + 1), mv_I (I 2), mv_R (o + 2), mv_R (o + 3), mv_R (o + 4), mv_R (o + 5), mv_R (o + 6), mv_R (o + 7), mv_I (I 3), mv_I (I 4), mv_I (I 5)] ∧ h (o + 1) = mv_A 0 121 tx ∧ h (o + 2) = mv_A 0 6400 D ∧ h (o + 3) = mv_A 0 160 U ∧ h (o + 4) = mv_A 0 75 S ∧ h (o + 5) = mv_A 0 13 ps ∧ h (o + 6) = mv_A 0 13 cs ∧ h (o + 7) = mv_A 0 13 bs
theorem MO_c0 {h : mv_H} {o : Nat} {I : Nat → Int} {tx : Nat → Int} {S : Nat → Int} {ps : Nat → Int} {cs : Nat → Int} {bs : Nat → Int} {D : Nat → Int} {U : Nat → Int} (hm : MO h o I tx S ps cs bs D U) : h o = mv_O 8 [mv_I (I 0), mv_I (I 1), mv_R (o + 1), mv_I (I 2), mv_R (o + 2), mv_R (o + 3), mv_R (o + 4), mv_R (o + 5), mv_R (o + 6), mv_R (o + 7), mv_I (I 3), mv_I (I 4), mv_I (I 5)] := hm.1
theorem MO_c1 {h : mv_H} {o : Nat} {I : Nat → Int} {tx : Nat → Int} {S : Nat → Int} {ps : Nat → Int} {cs : Nat → Int} {bs : Nat → Int} {D : Nat → Int} {U : Nat → Int} (hm : MO h o I tx S ps cs bs D U) : h (o + 1) = mv_A 0 121 tx := hm.2.1
theorem MO_c2 {h : mv_H} {o : Nat} {I : Nat → Int} {tx : Nat → Int} {S : Nat → Int} {ps : Nat → Int} {cs : Nat → Int} {bs : Nat → Int} {D : Nat → Int} {U : Nat → Int} (hm : MO h o I tx S ps cs bs D U) : h (o + 2) = mv_A 0 6400 D := hm.2.2.1
theorem MO_c3 {h : mv_H} {o : Nat} {I : Nat → Int} {tx : Nat → Int} {S : Nat → Int} {ps : Nat → Int} {cs : Nat → Int} {bs : Nat → Int} {D : Nat → Int} {U : Nat → Int} (hm : MO h o I tx S ps cs bs D U) : h (o + 3) = mv_A 0 160 U := hm.2.2.2.1
theorem MO_c4 {h : mv_H} {o : Nat} {I : Nat → Int} {tx : Nat → Int} {S : Nat → Int} {ps : Nat → Int} {cs : Nat → Int} {bs : Nat → Int} {D : Nat → Int} {U : Nat → Int} (hm : MO h o I tx S ps cs bs D U) : h (o + 4) = mv_A 0 75 S := hm.2.2.2.2.1
theorem MO_c5 {h : mv_H} {o : Nat} {I : Nat → Int} {tx : Nat → Int} {S : Nat → Int} {ps : Nat → Int} {cs : Nat → Int} {bs : Nat → Int} {D : Nat → Int} {U : Nat → Int} (hm : MO h o I tx S ps cs bs D U) : h (o + 5) = mv_A 0 13 ps := hm.2.2.2.2.2.1
theorem MO_c6 {h : mv_H} {o : Nat} {I : Nat → Int} {tx : Nat → Int} {S : Nat → Int} {ps : Nat → Int} {cs : Nat → Int} {bs : Nat → Int} {D : Nat → Int} {U : Nat → Int} (hm : MO h o I tx S ps cs bs D U) : h (o + 6) = mv_A 0 13 cs := hm.2.2.2.2.2.2.1
theorem MO_c7 {h : mv_H} {o : Nat} {I : Nat → Int} {tx : Nat → Int} {S : Nat → Int} {ps : Nat → Int} {cs : Nat → Int} {bs : Nat → Int} {D : Nat → Int} {U : Nat → Int} (hm : MO h o I tx S ps cs bs D U) : h (o + 7) = mv_A 0 13 bs := hm.2.2.2.2.2.2.2
theorem MO_k {h : mv_H} {o : Nat} {I : Nat → Int} {tx : Nat → Int} {S : Nat → Int} {ps : Nat → Int} {cs : Nat → Int} {bs : Nat → Int} {D : Nat → Int} {U : Nat → Int} {h' : mv_H} (hm : MO h o I tx S ps cs bs D U) (hk : ∀ j, o ≤ j → j < o + 8 → h' j = h j) : MO h' o I tx S ps cs bs D U := ⟨(hk _ (by omega) (by omega)).trans (MO_c0 hm), (hk _ (by omega) (by omega)).trans (MO_c1 hm), (hk _ (by omega) (by omega)).trans (MO_c2 hm), (hk _ (by omega) (by omega)).trans (MO_c3 hm), (hk _ (by omega) (by omega)).trans (MO_c4 hm), (hk _ (by omega) (by omega)).trans (MO_c5 hm), (hk _ (by omega) (by omega)).trans (MO_c6 hm), (hk _ (by omega) (by omega)).trans (MO_c7 hm)⟩
theorem MO_u0 {h : mv_H} {o : Nat} {I : Nat → Int} {tx : Nat → Int} {S : Nat → Int} {ps : Nat → Int} {cs : Nat → Int} {bs : Nat → Int} {D : Nat → Int} {U : Nat → Int} (hm : MO h o I tx S ps cs bs D U) (I' : Nat → Int) : MO (va_up h o (mv_O 8 [mv_I (I' 0), mv_I (I' 1), mv_R (o + 1), mv_I (I' 2), mv_R (o + 2), mv_R (o + 3), mv_R (o + 4), mv_R (o + 5), mv_R (o + 6), mv_R (o + 7), mv_I (I' 3), mv_I (I' 4), mv_I (I' 5)])) o I' tx S ps cs bs D U := ⟨va_up_self _ _ _, (va_up_ne _ _ (by omega)).trans (MO_c1 hm), (va_up_ne _ _ (by omega)).trans (MO_c2 hm), (va_up_ne _ _ (by omega)).trans (MO_c3 hm), (va_up_ne _ _ (by omega)).trans (MO_c4 hm), (va_up_ne _ _ (by omega)).trans (MO_c5 hm), (va_up_ne _ _ (by omega)).trans (MO_c6 hm), (va_up_ne _ _ (by omega)).trans (MO_c7 hm)⟩
theorem MO_u1 {h : mv_H} {o : Nat} {I : Nat → Int} {tx : Nat → Int} {S : Nat → Int} {ps : Nat → Int} {cs : Nat → Int} {bs : Nat → Int} {D : Nat → Int} {U : Nat → Int} (hm : MO h o I tx S ps cs bs D U) (tx' : Nat → Int) : MO (va_up h (o + 1) (mv_A 0 121 tx')) o I tx' S ps cs bs D U := ⟨(va_up_ne _ _ (by omega)).trans (MO_c0 hm), va_up_self _ _ _, (va_up_ne _ _ (by omega)).trans (MO_c2 hm), (va_up_ne _ _ (by omega)).trans (MO_c3 hm), (va_up_ne _ _ (by omega)).trans (MO_c4 hm), (va_up_ne _ _ (by omega)).trans (MO_c5 hm), (va_up_ne _ _ (by omega)).trans (MO_c6 hm), (va_up_ne _ _ (by omega)).trans (MO_c7 hm)⟩
theorem MO_u2 {h : mv_H} {o : Nat} {I : Nat → Int} {tx : Nat → Int} {S : Nat → Int} {ps : Nat → Int} {cs : Nat → Int} {bs : Nat → Int} {D : Nat → Int} {U : Nat → Int} (hm : MO h o I tx S ps cs bs D U) (D' : Nat → Int) : MO (va_up h (o + 2) (mv_A 0 6400 D')) o I tx S ps cs bs D' U := ⟨(va_up_ne _ _ (by omega)).trans (MO_c0 hm), (va_up_ne _ _ (by omega)).trans (MO_c1 hm), va_up_self _ _ _, (va_up_ne _ _ (by omega)).trans (MO_c3 hm), (va_up_ne _ _ (by omega)).trans (MO_c4 hm), (va_up_ne _ _ (by omega)).trans (MO_c5 hm), (va_up_ne _ _ (by omega)).trans (MO_c6 hm), (va_up_ne _ _ (by omega)).trans (MO_c7 hm)⟩
theorem MO_u3 {h : mv_H} {o : Nat} {I : Nat → Int} {tx : Nat → Int} {S : Nat → Int} {ps : Nat → Int} {cs : Nat → Int} {bs : Nat → Int} {D : Nat → Int} {U : Nat → Int} (hm : MO h o I tx S ps cs bs D U) (U' : Nat → Int) : MO (va_up h (o + 3) (mv_A 0 160 U')) o I tx S ps cs bs D U' := ⟨(va_up_ne _ _ (by omega)).trans (MO_c0 hm), (va_up_ne _ _ (by omega)).trans (MO_c1 hm), (va_up_ne _ _ (by omega)).trans (MO_c2 hm), va_up_self _ _ _, (va_up_ne _ _ (by omega)).trans (MO_c4 hm), (va_up_ne _ _ (by omega)).trans (MO_c5 hm), (va_up_ne _ _ (by omega)).trans (MO_c6 hm), (va_up_ne _ _ (by omega)).trans (MO_c7 hm)⟩
theorem MO_u4 {h : mv_H} {o : Nat} {I : Nat → Int} {tx : Nat → Int} {S : Nat → Int} {ps : Nat → Int} {cs : Nat → Int} {bs : Nat → Int} {D : Nat → Int} {U : Nat → Int} (hm : MO h o I tx S ps cs bs D U) (S' : Nat → Int) : MO (va_up h (o + 4) (mv_A 0 75 S')) o I tx S' ps cs bs D U := ⟨(va_up_ne _ _ (by omega)).trans (MO_c0 hm), (va_up_ne _ _ (by omega)).trans (MO_c1 hm), (va_up_ne _ _ (by omega)).trans (MO_c2 hm), (va_up_ne _ _ (by omega)).trans (MO_c3 hm), va_up_self _ _ _, (va_up_ne _ _ (by omega)).trans (MO_c5 hm), (va_up_ne _ _ (by omega)).trans (MO_c6 hm), (va_up_ne _ _ (by omega)).trans (MO_c7 hm)⟩
theorem MO_u5 {h : mv_H} {o : Nat} {I : Nat → Int} {tx : Nat → Int} {S : Nat → Int} {ps : Nat → Int} {cs : Nat → Int} {bs : Nat → Int} {D : Nat → Int} {U : Nat → Int} (hm : MO h o I tx S ps cs bs D U) (ps' : Nat → Int) : MO (va_up h (o + 5) (mv_A 0 13 ps')) o I tx S ps' cs bs D U := ⟨(va_up_ne _ _ (by omega)).trans (MO_c0 hm), (va_up_ne _ _ (by omega)).trans (MO_c1 hm), (va_up_ne _ _ (by omega)).trans (MO_c2 hm), (va_up_ne _ _ (by omega)).trans (MO_c3 hm), (va_up_ne _ _ (by omega)).trans (MO_c4 hm), va_up_self _ _ _, (va_up_ne _ _ (by omega)).trans (MO_c6 hm), (va_up_ne _ _ (by omega)).trans (MO_c7 hm)⟩
theorem MO_u6 {h : mv_H} {o : Nat} {I : Nat → Int} {tx : Nat → Int} {S : Nat → Int} {ps : Nat → Int} {cs : Nat → Int} {bs : Nat → Int} {D : Nat → Int} {U : Nat → Int} (hm : MO h o I tx S ps cs bs D U) (cs' : Nat → Int) : MO (va_up h (o + 6) (mv_A 0 13 cs')) o I tx S ps cs' bs D U := ⟨(va_up_ne _ _ (by omega)).trans (MO_c0 hm), (va_up_ne _ _ (by omega)).trans (MO_c1 hm), (va_up_ne _ _ (by omega)).trans (MO_c2 hm), (va_up_ne _ _ (by omega)).trans (MO_c3 hm), (va_up_ne _ _ (by omega)).trans (MO_c4 hm), (va_up_ne _ _ (by omega)).trans (MO_c5 hm), va_up_self _ _ _, (va_up_ne _ _ (by omega)).trans (MO_c7 hm)⟩
theorem MO_u7 {h : mv_H} {o : Nat} {I : Nat → Int} {tx : Nat → Int} {S : Nat → Int} {ps : Nat → Int} {cs : Nat → Int} {bs : Nat → Int} {D : Nat → Int} {U : Nat → Int} (hm : MO h o I tx S ps cs bs D U) (bs' : Nat → Int) : MO (va_up h (o + 7) (mv_A 0 13 bs')) o I tx S ps cs bs' D U := ⟨(va_up_ne _ _ (by omega)).trans (MO_c0 hm), (va_up_ne _ _ (by omega)).trans (MO_c1 hm), (va_up_ne _ _ (by omega)).trans (MO_c2 hm), (va_up_ne _ _ (by omega)).trans (MO_c3 hm), (va_up_ne _ _ (by omega)).trans (MO_c4 hm), (va_up_ne _ _ (by omega)).trans (MO_c5 hm), (va_up_ne _ _ (by omega)).trans (MO_c6 hm), va_up_self _ _ _⟩
def MD (h : mv_H) (o : Nat) (X : mo_X) (D : Nat → Int) (U : Nat → Int) : Prop := h o = mv_O 8 [mv_I (X.1 0), mv_I (X.1 1), mv_R (o + 1), mv_I (X.1 2), mv_R (o + 2), mv_R (o + 3), mv_R (o + 4), mv_R (o + 5), mv_R (o + 6), mv_R (o + 7), mv_I (X.1 3), mv_I (X.1 4), mv_I (X.1 5)] ∧ h (o + 1) = mv_A 0 121 X.2.1 ∧ h (o + 2) = mv_A 0 6400 D ∧ h (o + 3) = mv_A 0 160 U ∧ h (o + 4) = mv_A 0 75 X.2.2.1 ∧ h (o + 5) = mv_A 0 13 X.2.2.2.1 ∧ h (o + 6) = mv_A 0 13 X.2.2.2.2.1 ∧ h (o + 7) = mv_A 0 13 X.2.2.2.2.2
theorem MD_c0 {h : mv_H} {o : Nat} {X : mo_X} {D : Nat → Int} {U : Nat → Int} (hm : MD h o X D U) : h o = mv_O 8 [mv_I (X.1 0), mv_I (X.1 1), mv_R (o + 1), mv_I (X.1 2), mv_R (o + 2), mv_R (o + 3), mv_R (o + 4), mv_R (o + 5), mv_R (o + 6), mv_R (o + 7), mv_I (X.1 3), mv_I (X.1 4), mv_I (X.1 5)] := hm.1
theorem MD_c1 {h : mv_H} {o : Nat} {X : mo_X} {D : Nat → Int} {U : Nat → Int} (hm : MD h o X D U) : h (o + 1) = mv_A 0 121 X.2.1 := hm.2.1
theorem MD_c2 {h : mv_H} {o : Nat} {X : mo_X} {D : Nat → Int} {U : Nat → Int} (hm : MD h o X D U) : h (o + 2) = mv_A 0 6400 D := hm.2.2.1
theorem MD_c3 {h : mv_H} {o : Nat} {X : mo_X} {D : Nat → Int} {U : Nat → Int} (hm : MD h o X D U) : h (o + 3) = mv_A 0 160 U := hm.2.2.2.1
theorem MD_c4 {h : mv_H} {o : Nat} {X : mo_X} {D : Nat → Int} {U : Nat → Int} (hm : MD h o X D U) : h (o + 4) = mv_A 0 75 X.2.2.1 := hm.2.2.2.2.1
theorem MD_c5 {h : mv_H} {o : Nat} {X : mo_X} {D : Nat → Int} {U : Nat → Int} (hm : MD h o X D U) : h (o + 5) = mv_A 0 13 X.2.2.2.1 := hm.2.2.2.2.2.1
theorem MD_c6 {h : mv_H} {o : Nat} {X : mo_X} {D : Nat → Int} {U : Nat → Int} (hm : MD h o X D U) : h (o + 6) = mv_A 0 13 X.2.2.2.2.1 := hm.2.2.2.2.2.2.1
theorem MD_c7 {h : mv_H} {o : Nat} {X : mo_X} {D : Nat → Int} {U : Nat → Int} (hm : MD h o X D U) : h (o + 7) = mv_A 0 13 X.2.2.2.2.2 := hm.2.2.2.2.2.2.2
theorem MD_k {h : mv_H} {o : Nat} {X : mo_X} {D : Nat → Int} {U : Nat → Int} {h' : mv_H} (hm : MD h o X D U) (hk : ∀ j, o ≤ j → j < o + 8 → h' j = h j) : MD h' o X D U := ⟨(hk _ (by omega) (by omega)).trans (MD_c0 hm), (hk _ (by omega) (by omega)).trans (MD_c1 hm), (hk _ (by omega) (by omega)).trans (MD_c2 hm), (hk _ (by omega) (by omega)).trans (MD_c3 hm), (hk _ (by omega) (by omega)).trans (MD_c4 hm), (hk _ (by omega) (by omega)).trans (MD_c5 hm), (hk _ (by omega) (by omega)).trans (MD_c6 hm), (hk _ (by omega) (by omega)).trans (MD_c7 hm)⟩
theorem MD_u2 {h : mv_H} {o : Nat} {X : mo_X} {D : Nat → Int} {U : Nat → Int} (hm : MD h o X D U) (D' : Nat → Int) : MD (va_up h (o + 2) (mv_A 0 6400 D')) o X D' U := ⟨(va_up_ne _ _ (by omega)).trans (MD_c0 hm), (va_up_ne _ _ (by omega)).trans (MD_c1 hm), va_up_self _ _ _, (va_up_ne _ _ (by omega)).trans (MD_c3 hm), (va_up_ne _ _ (by omega)).trans (MD_c4 hm), (va_up_ne _ _ (by omega)).trans (MD_c5 hm), (va_up_ne _ _ (by omega)).trans (MD_c6 hm), (va_up_ne _ _ (by omega)).trans (MD_c7 hm)⟩
theorem MD_u3 {h : mv_H} {o : Nat} {X : mo_X} {D : Nat → Int} {U : Nat → Int} (hm : MD h o X D U) (U' : Nat → Int) : MD (va_up h (o + 3) (mv_A 0 160 U')) o X D U' := ⟨(va_up_ne _ _ (by omega)).trans (MD_c0 hm), (va_up_ne _ _ (by omega)).trans (MD_c1 hm), (va_up_ne _ _ (by omega)).trans (MD_c2 hm), va_up_self _ _ _, (va_up_ne _ _ (by omega)).trans (MD_c4 hm), (va_up_ne _ _ (by omega)).trans (MD_c5 hm), (va_up_ne _ _ (by omega)).trans (MD_c6 hm), (va_up_ne _ _ (by omega)).trans (MD_c7 hm)⟩
theorem MD_MO {h : mv_H} {o : Nat} {X : mo_X} {D U : Nat → Int} : MD h o X D U ↔ MO h o X.1 X.2.1 X.2.2.1 X.2.2.2.1 X.2.2.2.2.1 X.2.2.2.2.2 D U := Iff.rfl
set_option maxRecDepth 4000 in
theorem sg_set_0 {φ : go_F} {l : Launch} {R : Room} {u : Nat × Nat} {h : mv_H} {n : Nat} {o : Nat} {X : mo_X} {D U : Nat → Int} {r : Nat} {v : Int} (hm_m : MD h o X D U) (hr : r < 160)
    (k0 : ∀ h' : mv_H, MD h' o X (va_up D (40 * r) v) U → (∀ z_, (z_ < o ∨ o + 8 ≤ z_) → h' z_ = h z_) → Go φ l m_mo_set R u 12 [some (mv_R o), some (mv_I (r : Int)), some (mv_I v), some (mv_I 1)] [] h' n) :
    Go φ l m_mo_set R u 0 [some (mv_R o), some (mv_I (r : Int)), some (mv_I v), none] [] h n := by
  refine go_aload_n (q := 1) d_mo_set_0 rfl rfl rfl ?_
  refine go_getf (q := 4) f_mo_17 d_mo_set_1 rfl (MD_c0 hm_m) rfl ?_
  refine go_bipush (q := 6) d_mo_set_4 rfl (by decide) ?_
  refine go_iload_n (q := 7) d_mo_set_6 rfl rfl rfl ?_
  refine go_imul (q := 8) d_mo_set_7 rfl ?_
  refine go_iload_n (q := 9) d_mo_set_8 rfl rfl rfl ?_
  refine go_iast (i := 40 * r) (q := 10) d_mo_set_9 rfl (MD_c2 hm_m) (by omega) (by omega) (by omega) ?_
  have hm_3 := MD_u2 hm_m (va_up D (40 * r) v)
  have fr_2 : ∀ z_, z_ ≠ (o + 2) → va_up h (o + 2) (mv_A 0 6400 (va_up D (40 * r) v)) z_ = h z_ := fun z_ hj => va_up_ne _ _ hj
  generalize va_up h (o + 2) (mv_A 0 6400 (va_up D (40 * r) v)) = h_1 at hm_3 fr_2 ⊢
  refine go_iconst (q := 11) d_mo_set_10 rfl ?_
  refine go_istore_n (q := 12) (L' := [some (mv_R o), some (mv_I (r : Int)), some (mv_I v), some (mv_I 1)]) d_mo_set_11 rfl rfl (by decide) rfl ?_
  exact k0  _ hm_3 (fun z_ g0 => (fr_2 z_ (by omega)))

set_option maxRecDepth 4000 in
theorem sg_set_12 {φ : go_F} {l : Launch} {R : Room} {u : Nat × Nat} {h : mv_H} {n : Nat} {o : Nat} {X : mo_X} {D U : Nat → Int} {r k : Nat} {v : Int} (hm_m : MD h o X D U) (hr : r < 160) (hk : k ≤ 40)
    (k0 : 40 ≤ (k : Int) → Go φ l m_mo_set R u 36 [some (mv_R o), some (mv_I (r : Int)), some (mv_I v), some (mv_I (k : Int))] [] h n)
    (k1 : ¬ 40 ≤ (k : Int) → ∀ h' : mv_H, MD h' o X (va_up D ((40 * r) + k) 0) U → (∀ z_, (z_ < o ∨ o + 8 ≤ z_) → h' z_ = h z_) → Go φ l m_mo_set R u 12 [some (mv_R o), some (mv_I (r : Int)), some (mv_I v), some (mv_I ((k : Int) + 1))] [] h' n) :
    Go φ l m_mo_set R u 12 [some (mv_R o), some (mv_I (r : Int)), some (mv_I v), some (mv_I (k : Int))] [] h n := by
  refine go_iload_n (q := 13) d_mo_set_12 rfl rfl rfl ?_
  refine go_bipush (q := 15) d_mo_set_13 rfl (by decide) ?_
  refine go_icmp_ge (t := 36) (q := 18) d_mo_set_15 (by decide) rfl (by omega) (by omega) (fun c1 => ?_) (fun c1 => ?_)
  ·
    exact k0 c1
  ·
    refine go_aload_n (q := 19) d_mo_set_18 rfl rfl rfl ?_
    refine go_getf (q := 22) f_mo_17 d_mo_set_19 rfl (MD_c0 hm_m) rfl ?_
    refine go_bipush (q := 24) d_mo_set_22 rfl (by decide) ?_
    refine go_iload_n (q := 25) d_mo_set_24 rfl rfl rfl ?_
    refine go_imul (q := 26) d_mo_set_25 rfl ?_
    refine go_iload_n (q := 27) d_mo_set_26 rfl rfl rfl ?_
    refine go_iadd (q := 28) d_mo_set_27 rfl ?_
    refine go_iconst (q := 29) d_mo_set_28 rfl ?_
    refine go_iast (i := (40 * r) + k) (q := 30) d_mo_set_29 rfl (MD_c2 hm_m) (by omega) (by omega) (by omega) ?_
    have hm_4 := MD_u2 hm_m (va_up D ((40 * r) + k) 0)
    have fr_3 : ∀ z_, z_ ≠ (o + 2) → va_up h (o + 2) (mv_A 0 6400 (va_up D ((40 * r) + k) 0)) z_ = h z_ := fun z_ hj => va_up_ne _ _ hj
    generalize va_up h (o + 2) (mv_A 0 6400 (va_up D ((40 * r) + k) 0)) = h_2 at hm_4 fr_3 ⊢
    refine go_iinc (q := 33) (L' := [some (mv_R o), some (mv_I (r : Int)), some (mv_I v), some (mv_I ((k : Int) + 1))]) d_mo_set_30 rfl (by decide) rfl rfl ?_
    refine go_goto (q := 12) d_mo_set_33 (by decide) ?_
    exact k1 c1 _ hm_4 (fun z_ g0 => (fr_3 z_ (by omega)))

set_option maxRecDepth 4000 in
theorem sg_set_36 {φ : go_F} {l : Launch} {R : Room} {u : Nat × Nat} {h : mv_H} {n : Nat} {o : Nat} {X : mo_X} {D U : Nat → Int} {r k : Nat} {v : Int} (hm_m : MD h o X D U) (hr : r < 160) (hv : 0 ≤ v ∧ v ≤ 9999)
    (k0 : ¬ v = 0 → ∀ h' : mv_H, MD h' o X D (va_up U r 1) → (∀ z_, (z_ < o ∨ o + 8 ≤ z_) → h' z_ = h z_) → Go φ l m_mo_set R u 51 [some (mv_R o), some (mv_I (r : Int)), some (mv_I v), some (mv_I (k : Int))] [] h' n)
    (k1 : v = 0 → ∀ h' : mv_H, MD h' o X D (va_up U r 0) → (∀ z_, (z_ < o ∨ o + 8 ≤ z_) → h' z_ = h z_) → Go φ l m_mo_set R u 51 [some (mv_R o), some (mv_I (r : Int)), some (mv_I v), some (mv_I (k : Int))] [] h' n) :
    Go φ l m_mo_set R u 36 [some (mv_R o), some (mv_I (r : Int)), some (mv_I v), some (mv_I (k : Int))] [] h n := by
  refine go_aload_n (q := 37) d_mo_set_36 rfl rfl rfl ?_
  refine go_getf (q := 40) f_mo_20 d_mo_set_37 rfl (MD_c0 hm_m) rfl ?_
  refine go_iload_n (q := 41) d_mo_set_40 rfl rfl rfl ?_
  refine go_iload_n (q := 42) d_mo_set_41 rfl rfl rfl ?_
  refine go_if_ne (t := 49) (q := 45) d_mo_set_42 (by decide) rfl (by omega) (fun c1 => ?_) (fun c1 => ?_)
  ·
    refine go_iconst (q := 50) d_mo_set_49 rfl ?_
    refine go_iast (i := r) (q := 51) d_mo_set_50 rfl (MD_c3 hm_m) (by omega) (by omega) (by omega) ?_
    have hm_4 := MD_u3 hm_m (va_up U r 1)
    have fr_3 : ∀ z_, z_ ≠ (o + 3) → va_up h (o + 3) (mv_A 0 160 (va_up U r 1)) z_ = h z_ := fun z_ hj => va_up_ne _ _ hj
    generalize va_up h (o + 3) (mv_A 0 160 (va_up U r 1)) = h_2 at hm_4 fr_3 ⊢
    exact k0 c1 _ hm_4 (fun z_ g0 => (fr_3 z_ (by omega)))
  ·
    refine go_iconst (q := 46) d_mo_set_45 rfl ?_
    refine go_goto (q := 50) d_mo_set_46 (by decide) ?_
    refine go_iast (i := r) (q := 51) d_mo_set_50 rfl (MD_c3 hm_m) (by omega) (by omega) (by omega) ?_
    have hm_7 := MD_u3 hm_m (va_up U r 0)
    have fr_6 : ∀ z_, z_ ≠ (o + 3) → va_up h (o + 3) (mv_A 0 160 (va_up U r 0)) z_ = h z_ := fun z_ hj => va_up_ne _ _ hj
    generalize va_up h (o + 3) (mv_A 0 160 (va_up U r 0)) = h_5 at hm_7 fr_6 ⊢
    exact k1 c1 _ hm_7 (fun z_ g0 => (fr_6 z_ (by omega)))

set_option maxRecDepth 4000 in
theorem sg_copy_0 {φ : go_F} {l : Launch} {R : Room} {u : Nat × Nat} {h : mv_H} {n : Nat} {o : Nat} {X : mo_X} {D U : Nat → Int} {a b : Nat} (hm_m : MD h o X D U) 
    (k0 : Go φ l m_mo_copy R u 2 [some (mv_R o), some (mv_I (a : Int)), some (mv_I (b : Int)), some (mv_I 0)] [] h n) :
    Go φ l m_mo_copy R u 0 [some (mv_R o), some (mv_I (a : Int)), some (mv_I (b : Int)), none] [] h n := by
  refine go_iconst (q := 1) d_mo_copy_0 rfl ?_
  refine go_istore_n (q := 2) (L' := [some (mv_R o), some (mv_I (a : Int)), some (mv_I (b : Int)), some (mv_I 0)]) d_mo_copy_1 rfl rfl (by decide) rfl ?_
  exact k0 

set_option maxRecDepth 4000 in
theorem sg_copy_2 {φ : go_F} {l : Launch} {R : Room} {u : Nat × Nat} {h : mv_H} {n : Nat} {o : Nat} {X : mo_X} {D U : Nat → Int} {a b k : Nat} (hm_m : MD h o X D U) (ha : a < 160) (hb : b < 160) (hk : k ≤ 40)
    (k0 : 40 ≤ (k : Int) → Go φ l m_mo_copy R u 36 [some (mv_R o), some (mv_I (a : Int)), some (mv_I (b : Int)), some (mv_I (k : Int))] [] h n)
    (k1 : ¬ 40 ≤ (k : Int) → ∀ h' : mv_H, MD h' o X (va_up D ((40 * b) + k) (D ((40 * a) + k))) U → (∀ z_, (z_ < o ∨ o + 8 ≤ z_) → h' z_ = h z_) → Go φ l m_mo_copy R u 2 [some (mv_R o), some (mv_I (a : Int)), some (mv_I (b : Int)), some (mv_I ((k : Int) + 1))] [] h' n) :
    Go φ l m_mo_copy R u 2 [some (mv_R o), some (mv_I (a : Int)), some (mv_I (b : Int)), some (mv_I (k : Int))] [] h n := by
  refine go_iload_n (q := 3) d_mo_copy_2 rfl rfl rfl ?_
  refine go_bipush (q := 5) d_mo_copy_3 rfl (by decide) ?_
  refine go_icmp_ge (t := 36) (q := 8) d_mo_copy_5 (by decide) rfl (by omega) (by omega) (fun c1 => ?_) (fun c1 => ?_)
  ·
    exact k0 c1
  ·
    refine go_aload_n (q := 9) d_mo_copy_8 rfl rfl rfl ?_
    refine go_getf (q := 12) f_mo_17 d_mo_copy_9 rfl (MD_c0 hm_m) rfl ?_
    refine go_bipush (q := 14) d_mo_copy_12 rfl (by decide) ?_
    refine go_iload_n (q := 15) d_mo_copy_14 rfl rfl rfl ?_
    refine go_imul (q := 16) d_mo_copy_15 rfl ?_
    refine go_iload_n (q := 17) d_mo_copy_16 rfl rfl rfl ?_
    refine go_iadd (q := 18) d_mo_copy_17 rfl ?_
    refine go_aload_n (q := 19) d_mo_copy_18 rfl rfl rfl ?_
    refine go_getf (q := 22) f_mo_17 d_mo_copy_19 rfl (MD_c0 hm_m) rfl ?_
    refine go_bipush (q := 24) d_mo_copy_22 rfl (by decide) ?_
    refine go_iload_n (q := 25) d_mo_copy_24 rfl rfl rfl ?_
    refine go_imul (q := 26) d_mo_copy_25 rfl ?_
    refine go_iload_n (q := 27) d_mo_copy_26 rfl rfl rfl ?_
    refine go_iadd (q := 28) d_mo_copy_27 rfl ?_
    refine go_iald (i := (40 * a) + k) (q := 29) d_mo_copy_28 rfl (MD_c2 hm_m) (by omega) (by omega) (by omega) ?_
    refine go_iast (i := (40 * b) + k) (q := 30) d_mo_copy_29 rfl (MD_c2 hm_m) (by omega) (by omega) (by omega) ?_
    have hm_4 := MD_u2 hm_m (va_up D ((40 * b) + k) (D ((40 * a) + k)))
    have fr_3 : ∀ z_, z_ ≠ (o + 2) → va_up h (o + 2) (mv_A 0 6400 (va_up D ((40 * b) + k) (D ((40 * a) + k)))) z_ = h z_ := fun z_ hj => va_up_ne _ _ hj
    generalize va_up h (o + 2) (mv_A 0 6400 (va_up D ((40 * b) + k) (D ((40 * a) + k)))) = h_2 at hm_4 fr_3 ⊢
    refine go_iinc (q := 33) (L' := [some (mv_R o), some (mv_I (a : Int)), some (mv_I (b : Int)), some (mv_I ((k : Int) + 1))]) d_mo_copy_30 rfl (by decide) rfl rfl ?_
    refine go_goto (q := 2) d_mo_copy_33 (by decide) ?_
    exact k1 c1 _ hm_4 (fun z_ g0 => (fr_3 z_ (by omega)))

set_option maxRecDepth 4000 in
theorem sg_copy_36 {φ : go_F} {l : Launch} {R : Room} {u : Nat × Nat} {h : mv_H} {n : Nat} {o : Nat} {X : mo_X} {D U : Nat → Int} {a b k : Nat} (hm_m : MD h o X D U) (ha : a < 160) (hb : b < 160)
    (k0 : ∀ h' : mv_H, MD h' o X D (va_up U b (U a)) → (∀ z_, (z_ < o ∨ o + 8 ≤ z_) → h' z_ = h z_) → Go φ l m_mo_copy R u 48 [some (mv_R o), some (mv_I (a : Int)), some (mv_I (b : Int)), some (mv_I (k : Int))] [] h' n) :
    Go φ l m_mo_copy R u 36 [some (mv_R o), some (mv_I (a : Int)), some (mv_I (b : Int)), some (mv_I (k : Int))] [] h n := by
  refine go_aload_n (q := 37) d_mo_copy_36 rfl rfl rfl ?_
  refine go_getf (q := 40) f_mo_20 d_mo_copy_37 rfl (MD_c0 hm_m) rfl ?_
  refine go_iload_n (q := 41) d_mo_copy_40 rfl rfl rfl ?_
  refine go_aload_n (q := 42) d_mo_copy_41 rfl rfl rfl ?_
  refine go_getf (q := 45) f_mo_20 d_mo_copy_42 rfl (MD_c0 hm_m) rfl ?_
  refine go_iload_n (q := 46) d_mo_copy_45 rfl rfl rfl ?_
  refine go_iald (i := a) (q := 47) d_mo_copy_46 rfl (MD_c3 hm_m) (by omega) (by omega) (by omega) ?_
  refine go_iast (i := b) (q := 48) d_mo_copy_47 rfl (MD_c3 hm_m) (by omega) (by omega) (by omega) ?_
  have hm_3 := MD_u3 hm_m (va_up U b (U a))
  have fr_2 : ∀ z_, z_ ≠ (o + 3) → va_up h (o + 3) (mv_A 0 160 (va_up U b (U a))) z_ = h z_ := fun z_ hj => va_up_ne _ _ hj
  generalize va_up h (o + 3) (mv_A 0 160 (va_up U b (U a))) = h_1 at hm_3 fr_2 ⊢
  exact k0  _ hm_3 (fun z_ g0 => (fr_2 z_ (by omega)))

set_option maxRecDepth 4000 in
theorem sg_trim_0 {φ : go_F} {l : Launch} {R : Room} {u : Nat × Nat} {h : mv_H} {n : Nat} {o : Nat} {X : mo_X} {D U : Nat → Int} {r k : Nat} (hm_m : MD h o X D U) 
    (k0 : Go φ l m_mo_trim R u 2 [some (mv_R o), some (mv_I (r : Int)), some (mv_I (k : Int)), some (mv_I (k : Int))] [] h n) :
    Go φ l m_mo_trim R u 0 [some (mv_R o), some (mv_I (r : Int)), some (mv_I (k : Int)), none] [] h n := by
  refine go_iload_n (q := 1) d_mo_trim_0 rfl rfl rfl ?_
  refine go_istore_n (q := 2) (L' := [some (mv_R o), some (mv_I (r : Int)), some (mv_I (k : Int)), some (mv_I (k : Int))]) d_mo_trim_1 rfl rfl (by decide) rfl ?_
  exact k0 

set_option maxRecDepth 4000 in
theorem sg_trim_2 {φ : go_F} {l : Launch} {R : Room} {u : Nat × Nat} {h : mv_H} {n : Nat} {o : Nat} {X : mo_X} {D U : Nat → Int} {r m k : Nat} (hm_m : MD h o X D U) (hr : r < 160) (hk : k ≤ 40) (hD : ∀ j, 0 ≤ D j ∧ D j ≤ 9999)
    (k0 : (k : Int) ≤ 0 → Go φ l m_mo_trim R u 29 [some (mv_R o), some (mv_I (r : Int)), some (mv_I (m : Int)), some (mv_I (k : Int))] [] h n)
    (k1 : ¬ (k : Int) ≤ 0 → ¬ D (((40 * r) + k) - 1) = 0 → Go φ l m_mo_trim R u 29 [some (mv_R o), some (mv_I (r : Int)), some (mv_I (m : Int)), some (mv_I (k : Int))] [] h n)
    (k2 : ¬ (k : Int) ≤ 0 → D (((40 * r) + k) - 1) = 0 → Go φ l m_mo_trim R u 2 [some (mv_R o), some (mv_I (r : Int)), some (mv_I (m : Int)), some (mv_I ((k : Int) - 1))] [] h n) :
    Go φ l m_mo_trim R u 2 [some (mv_R o), some (mv_I (r : Int)), some (mv_I (m : Int)), some (mv_I (k : Int))] [] h n := by
  refine go_iload_n (q := 3) d_mo_trim_2 rfl rfl rfl ?_
  refine go_if_le (t := 29) (q := 6) d_mo_trim_3 (by decide) rfl (by omega) (fun c1 => ?_) (fun c1 => ?_)
  ·
    exact k0 c1
  ·
    refine go_aload_n (q := 7) d_mo_trim_6 rfl rfl rfl ?_
    refine go_getf (q := 10) f_mo_17 d_mo_trim_7 rfl (MD_c0 hm_m) rfl ?_
    refine go_bipush (q := 12) d_mo_trim_10 rfl (by decide) ?_
    refine go_iload_n (q := 13) d_mo_trim_12 rfl rfl rfl ?_
    refine go_imul (q := 14) d_mo_trim_13 rfl ?_
    refine go_iload_n (q := 15) d_mo_trim_14 rfl rfl rfl ?_
    refine go_iadd (q := 16) d_mo_trim_15 rfl ?_
    refine go_iconst (q := 17) d_mo_trim_16 rfl ?_
    refine go_isub (q := 18) d_mo_trim_17 rfl ?_
    refine go_iald (i := ((40 * r) + k) - 1) (q := 19) d_mo_trim_18 rfl (MD_c2 hm_m) (by omega) (by omega) (by omega) ?_
    have q_2 := hD (((40 * r) + k) - 1)
    refine go_if_ne (t := 29) (q := 22) d_mo_trim_19 (by decide) rfl (by omega) (fun c3 => ?_) (fun c3 => ?_)
    ·
      exact k1 c1 c3
    ·
      refine go_iload_n (q := 23) d_mo_trim_22 rfl rfl rfl ?_
      refine go_iconst (q := 24) d_mo_trim_23 rfl ?_
      refine go_isub (q := 25) d_mo_trim_24 rfl ?_
      refine go_istore_n (q := 26) (L' := [some (mv_R o), some (mv_I (r : Int)), some (mv_I (m : Int)), some (mv_I ((k : Int) - 1))]) d_mo_trim_25 rfl rfl (by decide) rfl ?_
      refine go_goto (q := 2) d_mo_trim_26 (by decide) ?_
      exact k2 c1 c3

set_option maxRecDepth 4000 in
theorem sg_trim_29 {φ : go_F} {l : Launch} {R : Room} {u : Nat × Nat} {h : mv_H} {n : Nat} {o : Nat} {X : mo_X} {D U : Nat → Int} {r m k : Nat} (hm_m : MD h o X D U) (hr : r < 160)
    (k0 : ∀ h' : mv_H, MD h' o X D (va_up U r (k : Int)) → (∀ z_, (z_ < o ∨ o + 8 ≤ z_) → h' z_ = h z_) → Go φ l m_mo_trim R u 36 [some (mv_R o), some (mv_I (r : Int)), some (mv_I (m : Int)), some (mv_I (k : Int))] [] h' n) :
    Go φ l m_mo_trim R u 29 [some (mv_R o), some (mv_I (r : Int)), some (mv_I (m : Int)), some (mv_I (k : Int))] [] h n := by
  refine go_aload_n (q := 30) d_mo_trim_29 rfl rfl rfl ?_
  refine go_getf (q := 33) f_mo_20 d_mo_trim_30 rfl (MD_c0 hm_m) rfl ?_
  refine go_iload_n (q := 34) d_mo_trim_33 rfl rfl rfl ?_
  refine go_iload_n (q := 35) d_mo_trim_34 rfl rfl rfl ?_
  refine go_iast (i := r) (q := 36) d_mo_trim_35 rfl (MD_c3 hm_m) (by omega) (by omega) (by omega) ?_
  have hm_3 := MD_u3 hm_m (va_up U r (k : Int))
  have fr_2 : ∀ z_, z_ ≠ (o + 3) → va_up h (o + 3) (mv_A 0 160 (va_up U r (k : Int))) z_ = h z_ := fun z_ hj => va_up_ne _ _ hj
  generalize va_up h (o + 3) (mv_A 0 160 (va_up U r (k : Int))) = h_1 at hm_3 fr_2 ⊢
  exact k0  _ hm_3 (fun z_ g0 => (fr_2 z_ (by omega)))

set_option maxRecDepth 4000 in
theorem sg_compare_0 {φ : go_F} {l : Launch} {R : Room} {u : Nat × Nat} {h : mv_H} {n : Nat} {o : Nat} {X : mo_X} {D U : Nat → Int} {a b : Nat} (hm_m : MD h o X D U) (ha : a < 160) (hb : b < 160) (hD : ∀ j, 0 ≤ D j ∧ D j ≤ 9999) (hU : ∀ j, 0 ≤ U j ∧ U j ≤ 40)
    (k0 : U a = U b → Go φ l m_mo_compare R u 45 [some (mv_R o), some (mv_I (a : Int)), some (mv_I (b : Int)), some (mv_I ((U a) - 1))] [] h n)
    (k1 : ¬ U a = U b → U b ≤ U a → Go φ l m_mo_compare R u 35 [some (mv_R o), some (mv_I (a : Int)), some (mv_I (b : Int)), none] [mv_I 1] h n)
    (k2 : ¬ U a = U b → ¬ U b ≤ U a → Go φ l m_mo_compare R u 35 [some (mv_R o), some (mv_I (a : Int)), some (mv_I (b : Int)), none] [mv_I (-1)] h n) :
    Go φ l m_mo_compare R u 0 [some (mv_R o), some (mv_I (a : Int)), some (mv_I (b : Int)), none] [] h n := by
  refine go_aload_n (q := 1) d_mo_compare_0 rfl rfl rfl ?_
  refine go_getf (q := 4) f_mo_20 d_mo_compare_1 rfl (MD_c0 hm_m) rfl ?_
  refine go_iload_n (q := 5) d_mo_compare_4 rfl rfl rfl ?_
  refine go_iald (i := a) (q := 6) d_mo_compare_5 rfl (MD_c3 hm_m) (by omega) (by omega) (by omega) ?_
  have q_1 := hU a
  refine go_aload_n (q := 7) d_mo_compare_6 rfl rfl rfl ?_
  refine go_getf (q := 10) f_mo_20 d_mo_compare_7 rfl (MD_c0 hm_m) rfl ?_
  refine go_iload_n (q := 11) d_mo_compare_10 rfl rfl rfl ?_
  refine go_iald (i := b) (q := 12) d_mo_compare_11 rfl (MD_c3 hm_m) (by omega) (by omega) (by omega) ?_
  have q_2 := hU b
  refine go_icmp_eq (t := 36) (q := 15) d_mo_compare_12 (by decide) rfl (by omega) (by omega) (fun c3 => ?_) (fun c3 => ?_)
  ·
    refine go_aload_n (q := 37) d_mo_compare_36 rfl rfl rfl ?_
    refine go_getf (q := 40) f_mo_20 d_mo_compare_37 rfl (MD_c0 hm_m) rfl ?_
    refine go_iload_n (q := 41) d_mo_compare_40 rfl rfl rfl ?_
    refine go_iald (i := a) (q := 42) d_mo_compare_41 rfl (MD_c3 hm_m) (by omega) (by omega) (by omega) ?_
    have q_4 := hU a
    refine go_iconst (q := 43) d_mo_compare_42 rfl ?_
    refine go_isub (q := 44) d_mo_compare_43 rfl ?_
    refine go_istore_n (q := 45) (L' := [some (mv_R o), some (mv_I (a : Int)), some (mv_I (b : Int)), some (mv_I ((U a) - 1))]) d_mo_compare_44 rfl rfl (by decide) rfl ?_
    exact k0 c3
  ·
    refine go_aload_n (q := 16) d_mo_compare_15 rfl rfl rfl ?_
    refine go_getf (q := 19) f_mo_20 d_mo_compare_16 rfl (MD_c0 hm_m) rfl ?_
    refine go_iload_n (q := 20) d_mo_compare_19 rfl rfl rfl ?_
    refine go_iald (i := a) (q := 21) d_mo_compare_20 rfl (MD_c3 hm_m) (by omega) (by omega) (by omega) ?_
    have q_5 := hU a
    refine go_aload_n (q := 22) d_mo_compare_21 rfl rfl rfl ?_
    refine go_getf (q := 25) f_mo_20 d_mo_compare_22 rfl (MD_c0 hm_m) rfl ?_
    refine go_iload_n (q := 26) d_mo_compare_25 rfl rfl rfl ?_
    refine go_iald (i := b) (q := 27) d_mo_compare_26 rfl (MD_c3 hm_m) (by omega) (by omega) (by omega) ?_
    have q_6 := hU b
    refine go_icmp_ge (t := 34) (q := 30) d_mo_compare_27 (by decide) rfl (by omega) (by omega) (fun c7 => ?_) (fun c7 => ?_)
    ·
      refine go_iconst (q := 35) d_mo_compare_34 rfl ?_
      exact k1 c3 c7
    ·
      refine go_iconst (q := 31) d_mo_compare_30 rfl ?_
      refine go_goto (q := 35) d_mo_compare_31 (by decide) ?_
      exact k2 c3 c7

set_option maxRecDepth 4000 in
theorem sg_compare_45 {φ : go_F} {l : Launch} {R : Room} {u : Nat × Nat} {h : mv_H} {n : Nat} {o : Nat} {X : mo_X} {D U : Nat → Int} {a b : Nat} {k : Int} (hm_m : MD h o X D U) (ha : a < 160) (hb : b < 160) (hk : -1 ≤ k ∧ k < 40) (hD : ∀ j, 0 ≤ D j ∧ D j ≤ 9999) (hU : ∀ j, 0 ≤ U j ∧ U j ≤ 40)
    (k0 : k < 0 → Go φ l m_mo_compare R u 81 [some (mv_R o), some (mv_I (a : Int)), some (mv_I (b : Int)), some (mv_I k)] [] h n)
    (k1 : ¬ k < 0 → ¬ D (40 * a + k.toNat) = D (40 * b + k.toNat) → Go φ l m_mo_compare R u 81 [some (mv_R o), some (mv_I (a : Int)), some (mv_I (b : Int)), some (mv_I k)] [] h n)
    (k2 : ¬ k < 0 → D (40 * a + k.toNat) = D (40 * b + k.toNat) → Go φ l m_mo_compare R u 45 [some (mv_R o), some (mv_I (a : Int)), some (mv_I (b : Int)), some (mv_I (k - 1))] [] h n) :
    Go φ l m_mo_compare R u 45 [some (mv_R o), some (mv_I (a : Int)), some (mv_I (b : Int)), some (mv_I k)] [] h n := by
  refine go_iload_n (q := 46) d_mo_compare_45 rfl rfl rfl ?_
  refine go_if_lt (t := 81) (q := 49) d_mo_compare_46 (by decide) rfl (by omega) (fun c1 => ?_) (fun c1 => ?_)
  ·
    exact k0 c1
  ·
    refine go_aload_n (q := 50) d_mo_compare_49 rfl rfl rfl ?_
    refine go_getf (q := 53) f_mo_17 d_mo_compare_50 rfl (MD_c0 hm_m) rfl ?_
    refine go_bipush (q := 55) d_mo_compare_53 rfl (by decide) ?_
    refine go_iload_n (q := 56) d_mo_compare_55 rfl rfl rfl ?_
    refine go_imul (q := 57) d_mo_compare_56 rfl ?_
    refine go_iload_n (q := 58) d_mo_compare_57 rfl rfl rfl ?_
    refine go_iadd (q := 59) d_mo_compare_58 rfl ?_
    refine go_iald (i := 40 * a + k.toNat) (q := 60) d_mo_compare_59 rfl (MD_c2 hm_m) (by omega) (by omega) (by omega) ?_
    have q_2 := hD (40 * a + k.toNat)
    refine go_aload_n (q := 61) d_mo_compare_60 rfl rfl rfl ?_
    refine go_getf (q := 64) f_mo_17 d_mo_compare_61 rfl (MD_c0 hm_m) rfl ?_
    refine go_bipush (q := 66) d_mo_compare_64 rfl (by decide) ?_
    refine go_iload_n (q := 67) d_mo_compare_66 rfl rfl rfl ?_
    refine go_imul (q := 68) d_mo_compare_67 rfl ?_
    refine go_iload_n (q := 69) d_mo_compare_68 rfl rfl rfl ?_
    refine go_iadd (q := 70) d_mo_compare_69 rfl ?_
    refine go_iald (i := 40 * b + k.toNat) (q := 71) d_mo_compare_70 rfl (MD_c2 hm_m) (by omega) (by omega) (by omega) ?_
    have q_3 := hD (40 * b + k.toNat)
    refine go_icmp_ne (t := 81) (q := 74) d_mo_compare_71 (by decide) rfl (by omega) (by omega) (fun c4 => ?_) (fun c4 => ?_)
    ·
      exact k1 c1 c4
    ·
      refine go_iload_n (q := 75) d_mo_compare_74 rfl rfl rfl ?_
      refine go_iconst (q := 76) d_mo_compare_75 rfl ?_
      refine go_isub (q := 77) d_mo_compare_76 rfl ?_
      refine go_istore_n (q := 78) (L' := [some (mv_R o), some (mv_I (a : Int)), some (mv_I (b : Int)), some (mv_I (k - 1))]) d_mo_compare_77 rfl rfl (by decide) rfl ?_
      refine go_goto (q := 45) d_mo_compare_78 (by decide) ?_
      exact k2 c1 c4

set_option maxRecDepth 4000 in
theorem sg_compare_81 {φ : go_F} {l : Launch} {R : Room} {u : Nat × Nat} {h : mv_H} {n : Nat} {o : Nat} {X : mo_X} {D U : Nat → Int} {a b : Nat} {k : Int} (hm_m : MD h o X D U) (ha : a < 160) (hb : b < 160) (hk : -1 ≤ k ∧ k < 40) (hD : ∀ j, 0 ≤ D j ∧ D j ≤ 9999) (hU : ∀ j, 0 ≤ U j ∧ U j ≤ 40)
    (k0 : 0 ≤ k → D (40 * b + k.toNat) ≤ D (40 * a + k.toNat) → Go φ l m_mo_compare R u 119 [some (mv_R o), some (mv_I (a : Int)), some (mv_I (b : Int)), some (mv_I k)] [mv_I 1] h n)
    (k1 : 0 ≤ k → ¬ D (40 * b + k.toNat) ≤ D (40 * a + k.toNat) → Go φ l m_mo_compare R u 119 [some (mv_R o), some (mv_I (a : Int)), some (mv_I (b : Int)), some (mv_I k)] [mv_I (-1)] h n)
    (k2 : ¬ 0 ≤ k → Go φ l m_mo_compare R u 119 [some (mv_R o), some (mv_I (a : Int)), some (mv_I (b : Int)), some (mv_I k)] [mv_I 0] h n) :
    Go φ l m_mo_compare R u 81 [some (mv_R o), some (mv_I (a : Int)), some (mv_I (b : Int)), some (mv_I k)] [] h n := by
  refine go_iload_n (q := 82) d_mo_compare_81 rfl rfl rfl ?_
  refine go_if_ge (t := 89) (q := 85) d_mo_compare_82 (by decide) rfl (by omega) (fun c1 => ?_) (fun c1 => ?_)
  ·
    refine go_aload_n (q := 90) d_mo_compare_89 rfl rfl rfl ?_
    refine go_getf (q := 93) f_mo_17 d_mo_compare_90 rfl (MD_c0 hm_m) rfl ?_
    refine go_bipush (q := 95) d_mo_compare_93 rfl (by decide) ?_
    refine go_iload_n (q := 96) d_mo_compare_95 rfl rfl rfl ?_
    refine go_imul (q := 97) d_mo_compare_96 rfl ?_
    refine go_iload_n (q := 98) d_mo_compare_97 rfl rfl rfl ?_
    refine go_iadd (q := 99) d_mo_compare_98 rfl ?_
    refine go_iald (i := 40 * a + k.toNat) (q := 100) d_mo_compare_99 rfl (MD_c2 hm_m) (by omega) (by omega) (by omega) ?_
    have q_2 := hD (40 * a + k.toNat)
    refine go_aload_n (q := 101) d_mo_compare_100 rfl rfl rfl ?_
    refine go_getf (q := 104) f_mo_17 d_mo_compare_101 rfl (MD_c0 hm_m) rfl ?_
    refine go_bipush (q := 106) d_mo_compare_104 rfl (by decide) ?_
    refine go_iload_n (q := 107) d_mo_compare_106 rfl rfl rfl ?_
    refine go_imul (q := 108) d_mo_compare_107 rfl ?_
    refine go_iload_n (q := 109) d_mo_compare_108 rfl rfl rfl ?_
    refine go_iadd (q := 110) d_mo_compare_109 rfl ?_
    refine go_iald (i := 40 * b + k.toNat) (q := 111) d_mo_compare_110 rfl (MD_c2 hm_m) (by omega) (by omega) (by omega) ?_
    have q_3 := hD (40 * b + k.toNat)
    refine go_icmp_ge (t := 118) (q := 114) d_mo_compare_111 (by decide) rfl (by omega) (by omega) (fun c4 => ?_) (fun c4 => ?_)
    ·
      refine go_iconst (q := 119) d_mo_compare_118 rfl ?_
      exact k0 c1 c4
    ·
      refine go_iconst (q := 115) d_mo_compare_114 rfl ?_
      refine go_goto (q := 119) d_mo_compare_115 (by decide) ?_
      exact k1 c1 c4
  ·
    refine go_iconst (q := 86) d_mo_compare_85 rfl ?_
    refine go_goto (q := 119) d_mo_compare_86 (by decide) ?_
    exact k2 c1

set_option maxRecDepth 4000 in
theorem sg_addTo_0 {φ : go_F} {l : Launch} {R : Room} {u : Nat × Nat} {h : mv_H} {n : Nat} {o : Nat} {X : mo_X} {D U : Nat → Int} {a b : Nat} (hm_m : MD h o X D U) (ha : a < 160) (hb : b < 160) (hD : ∀ j, 0 ≤ D j ∧ D j ≤ 9999) (hU : ∀ j, 0 ≤ U j ∧ U j ≤ 40)
    (k0 : U a ≤ U b → Go φ l m_mo_addTo R u 37 [some (mv_R o), some (mv_I (a : Int)), some (mv_I (b : Int)), some (mv_I (U b)), some (mv_I 0), some (mv_I 0), none] [] h n)
    (k1 : ¬ U a ≤ U b → Go φ l m_mo_addTo R u 37 [some (mv_R o), some (mv_I (a : Int)), some (mv_I (b : Int)), some (mv_I (U a)), some (mv_I 0), some (mv_I 0), none] [] h n) :
    Go φ l m_mo_addTo R u 0 [some (mv_R o), some (mv_I (a : Int)), some (mv_I (b : Int)), none, none, none, none] [] h n := by
  refine go_aload_n (q := 1) d_mo_addTo_0 rfl rfl rfl ?_
  refine go_getf (q := 4) f_mo_20 d_mo_addTo_1 rfl (MD_c0 hm_m) rfl ?_
  refine go_iload_n (q := 5) d_mo_addTo_4 rfl rfl rfl ?_
  refine go_iald (i := a) (q := 6) d_mo_addTo_5 rfl (MD_c3 hm_m) (by omega) (by omega) (by omega) ?_
  have q_1 := hU a
  refine go_aload_n (q := 7) d_mo_addTo_6 rfl rfl rfl ?_
  refine go_getf (q := 10) f_mo_20 d_mo_addTo_7 rfl (MD_c0 hm_m) rfl ?_
  refine go_iload_n (q := 11) d_mo_addTo_10 rfl rfl rfl ?_
  refine go_iald (i := b) (q := 12) d_mo_addTo_11 rfl (MD_c3 hm_m) (by omega) (by omega) (by omega) ?_
  have q_2 := hU b
  refine go_icmp_le (t := 24) (q := 15) d_mo_addTo_12 (by decide) rfl (by omega) (by omega) (fun c3 => ?_) (fun c3 => ?_)
  ·
    refine go_aload_n (q := 25) d_mo_addTo_24 rfl rfl rfl ?_
    refine go_getf (q := 28) f_mo_20 d_mo_addTo_25 rfl (MD_c0 hm_m) rfl ?_
    refine go_iload_n (q := 29) d_mo_addTo_28 rfl rfl rfl ?_
    refine go_iald (i := b) (q := 30) d_mo_addTo_29 rfl (MD_c3 hm_m) (by omega) (by omega) (by omega) ?_
    have q_4 := hU b
    refine go_istore_n (q := 31) (L' := [some (mv_R o), some (mv_I (a : Int)), some (mv_I (b : Int)), some (mv_I (U b)), none, none, none]) d_mo_addTo_30 rfl rfl (by decide) rfl ?_
    refine go_iconst (q := 32) d_mo_addTo_31 rfl ?_
    refine go_istore (q := 34) (L' := [some (mv_R o), some (mv_I (a : Int)), some (mv_I (b : Int)), some (mv_I (U b)), some (mv_I 0), none, none]) d_mo_addTo_32 rfl (by decide) rfl ?_
    refine go_iconst (q := 35) d_mo_addTo_34 rfl ?_
    refine go_istore (q := 37) (L' := [some (mv_R o), some (mv_I (a : Int)), some (mv_I (b : Int)), some (mv_I (U b)), some (mv_I 0), some (mv_I 0), none]) d_mo_addTo_35 rfl (by decide) rfl ?_
    exact k0 c3
  ·
    refine go_aload_n (q := 16) d_mo_addTo_15 rfl rfl rfl ?_
    refine go_getf (q := 19) f_mo_20 d_mo_addTo_16 rfl (MD_c0 hm_m) rfl ?_
    refine go_iload_n (q := 20) d_mo_addTo_19 rfl rfl rfl ?_
    refine go_iald (i := a) (q := 21) d_mo_addTo_20 rfl (MD_c3 hm_m) (by omega) (by omega) (by omega) ?_
    have q_5 := hU a
    refine go_goto (q := 30) d_mo_addTo_21 (by decide) ?_
    refine go_istore_n (q := 31) (L' := [some (mv_R o), some (mv_I (a : Int)), some (mv_I (b : Int)), some (mv_I (U a)), none, none, none]) d_mo_addTo_30 rfl rfl (by decide) rfl ?_
    refine go_iconst (q := 32) d_mo_addTo_31 rfl ?_
    refine go_istore (q := 34) (L' := [some (mv_R o), some (mv_I (a : Int)), some (mv_I (b : Int)), some (mv_I (U a)), some (mv_I 0), none, none]) d_mo_addTo_32 rfl (by decide) rfl ?_
    refine go_iconst (q := 35) d_mo_addTo_34 rfl ?_
    refine go_istore (q := 37) (L' := [some (mv_R o), some (mv_I (a : Int)), some (mv_I (b : Int)), some (mv_I (U a)), some (mv_I 0), some (mv_I 0), none]) d_mo_addTo_35 rfl (by decide) rfl ?_
    exact k1 c3

set_option maxRecDepth 4000 in
theorem sg_addTo_37 {φ : go_F} {l : Launch} {R : Room} {u : Nat × Nat} {h : mv_H} {n : Nat} {o : Nat} {X : mo_X} {D U : Nat → Int} {a b k : Nat} {m c : Int} (hm_m : MD h o X D U) (ha : a < 160) (hb : b < 160) (hm : 0 ≤ m ∧ m ≤ 40) (hc : 0 ≤ c ∧ c ≤ 1) (hk : k ≤ 40) (hD : ∀ j, 0 ≤ D j ∧ D j ≤ 9999)
    (k0 : m < (k : Int) → Go φ l m_mo_addTo R u 112 [some (mv_R o), some (mv_I (a : Int)), some (mv_I (b : Int)), some (mv_I m), some (mv_I c), some (mv_I (k : Int)), none] [] h n)
    (k1 : ¬ m < (k : Int) → 40 ≤ (k : Int) → Go φ l m_mo_addTo R u 112 [some (mv_R o), some (mv_I (a : Int)), some (mv_I (b : Int)), some (mv_I m), some (mv_I c), some (mv_I (k : Int)), none] [] h n)
    (k2 : ¬ m < (k : Int) → ¬ 40 ≤ (k : Int) → ∀ h' : mv_H, MD h' o X (va_up D ((40 * a) + k) ((((D ((40 * a) + k)) + (D ((40 * b) + k))) + c) % 10000)) U → (∀ z_, (z_ < o ∨ o + 8 ≤ z_) → h' z_ = h z_) → Go φ l m_mo_addTo R u 37 [some (mv_R o), some (mv_I (a : Int)), some (mv_I (b : Int)), some (mv_I m), some (mv_I ((((D ((40 * a) + k)) + (D ((40 * b) + k))) + c) / 10000)), some (mv_I ((k : Int) + 1)), none] [] h' n) :
    Go φ l m_mo_addTo R u 37 [some (mv_R o), some (mv_I (a : Int)), some (mv_I (b : Int)), some (mv_I m), some (mv_I c), some (mv_I (k : Int)), none] [] h n := by
  refine go_iload (q := 39) d_mo_addTo_37 rfl rfl ?_
  refine go_iload_n (q := 40) d_mo_addTo_39 rfl rfl rfl ?_
  refine go_icmp_gt (t := 112) (q := 43) d_mo_addTo_40 (by decide) rfl (by omega) (by omega) (fun c1 => ?_) (fun c1 => ?_)
  ·
    exact k0 c1
  ·
    refine go_iload (q := 45) d_mo_addTo_43 rfl rfl ?_
    refine go_bipush (q := 47) d_mo_addTo_45 rfl (by decide) ?_
    refine go_icmp_ge (t := 112) (q := 50) d_mo_addTo_47 (by decide) rfl (by omega) (by omega) (fun c2 => ?_) (fun c2 => ?_)
    ·
      exact k1 c1 c2
    ·
      refine go_aload_n (q := 51) d_mo_addTo_50 rfl rfl rfl ?_
      refine go_getf (q := 54) f_mo_17 d_mo_addTo_51 rfl (MD_c0 hm_m) rfl ?_
      refine go_bipush (q := 56) d_mo_addTo_54 rfl (by decide) ?_
      refine go_iload_n (q := 57) d_mo_addTo_56 rfl rfl rfl ?_
      refine go_imul (q := 58) d_mo_addTo_57 rfl ?_
      refine go_iload (q := 60) d_mo_addTo_58 rfl rfl ?_
      refine go_iadd (q := 61) d_mo_addTo_60 rfl ?_
      refine go_iald (i := (40 * a) + k) (q := 62) d_mo_addTo_61 rfl (MD_c2 hm_m) (by omega) (by omega) (by omega) ?_
      have q_3 := hD ((40 * a) + k)
      refine go_aload_n (q := 63) d_mo_addTo_62 rfl rfl rfl ?_
      refine go_getf (q := 66) f_mo_17 d_mo_addTo_63 rfl (MD_c0 hm_m) rfl ?_
      refine go_bipush (q := 68) d_mo_addTo_66 rfl (by decide) ?_
      refine go_iload_n (q := 69) d_mo_addTo_68 rfl rfl rfl ?_
      refine go_imul (q := 70) d_mo_addTo_69 rfl ?_
      refine go_iload (q := 72) d_mo_addTo_70 rfl rfl ?_
      refine go_iadd (q := 73) d_mo_addTo_72 rfl ?_
      refine go_iald (i := (40 * b) + k) (q := 74) d_mo_addTo_73 rfl (MD_c2 hm_m) (by omega) (by omega) (by omega) ?_
      have q_4 := hD ((40 * b) + k)
      refine go_iadd (q := 75) d_mo_addTo_74 rfl ?_
      refine go_iload (q := 77) d_mo_addTo_75 rfl rfl ?_
      refine go_iadd (q := 78) d_mo_addTo_77 rfl ?_
      refine go_istore (q := 80) (L' := [some (mv_R o), some (mv_I (a : Int)), some (mv_I (b : Int)), some (mv_I m), some (mv_I c), some (mv_I (k : Int)), some (mv_I (((D ((40 * a) + k)) + (D ((40 * b) + k))) + c))]) d_mo_addTo_78 rfl (by decide) rfl ?_
      refine go_aload_n (q := 81) d_mo_addTo_80 rfl rfl rfl ?_
      refine go_getf (q := 84) f_mo_17 d_mo_addTo_81 rfl (MD_c0 hm_m) rfl ?_
      refine go_bipush (q := 86) d_mo_addTo_84 rfl (by decide) ?_
      refine go_iload_n (q := 87) d_mo_addTo_86 rfl rfl rfl ?_
      refine go_imul (q := 88) d_mo_addTo_87 rfl ?_
      refine go_iload (q := 90) d_mo_addTo_88 rfl rfl ?_
      refine go_iadd (q := 91) d_mo_addTo_90 rfl ?_
      refine go_iload (q := 93) d_mo_addTo_91 rfl rfl ?_
      refine go_sipush (q := 96) d_mo_addTo_93 rfl (by decide) ?_
      refine go_irem (z := (((D ((40 * a) + k)) + (D ((40 * b) + k))) + c) % 10000) (q := 97) d_mo_addTo_96 rfl (gn_ne0 (by omega)) (gn_rem (by omega) (by omega)) ?_
      refine go_iast (i := (40 * a) + k) (q := 98) d_mo_addTo_97 rfl (MD_c2 hm_m) (by omega) (by omega) (by omega) ?_
      have hm_7 := MD_u2 hm_m (va_up D ((40 * a) + k) ((((D ((40 * a) + k)) + (D ((40 * b) + k))) + c) % 10000))
      have fr_6 : ∀ z_, z_ ≠ (o + 2) → va_up h (o + 2) (mv_A 0 6400 (va_up D ((40 * a) + k) ((((D ((40 * a) + k)) + (D ((40 * b) + k))) + c) % 10000))) z_ = h z_ := fun z_ hj => va_up_ne _ _ hj
      generalize va_up h (o + 2) (mv_A 0 6400 (va_up D ((40 * a) + k) ((((D ((40 * a) + k)) + (D ((40 * b) + k))) + c) % 10000))) = h_5 at hm_7 fr_6 ⊢
      refine go_iload (q := 100) d_mo_addTo_98 rfl rfl ?_
      refine go_sipush (q := 103) d_mo_addTo_100 rfl (by decide) ?_
      refine go_idiv (z := (((D ((40 * a) + k)) + (D ((40 * b) + k))) + c) / 10000) (q := 104) d_mo_addTo_103 rfl (gn_ne0 (by omega)) (gn_div (by omega) (by omega)) ?_
      refine go_istore (q := 106) (L' := [some (mv_R o), some (mv_I (a : Int)), some (mv_I (b : Int)), some (mv_I m), some (mv_I ((((D ((40 * a) + k)) + (D ((40 * b) + k))) + c) / 10000)), some (mv_I (k : Int)), some (mv_I (((D ((40 * a) + k)) + (D ((40 * b) + k))) + c))]) d_mo_addTo_104 rfl (by decide) rfl ?_
      refine go_iinc (q := 109) (L' := [some (mv_R o), some (mv_I (a : Int)), some (mv_I (b : Int)), some (mv_I m), some (mv_I ((((D ((40 * a) + k)) + (D ((40 * b) + k))) + c) / 10000)), some (mv_I ((k : Int) + 1)), some (mv_I (((D ((40 * a) + k)) + (D ((40 * b) + k))) + c))]) d_mo_addTo_106 rfl (by decide) rfl rfl ?_
      refine go_goto (q := 37) d_mo_addTo_109 (by decide) ?_
      refine go_fg 6 (L' := [some (mv_R o), some (mv_I (a : Int)), some (mv_I (b : Int)), some (mv_I m), some (mv_I ((((D ((40 * a) + k)) + (D ((40 * b) + k))) + c) / 10000)), some (mv_I ((k : Int) + 1)), none]) rfl ?_
      exact k2 c1 c2 _ hm_7 (fun z_ g0 => (fr_6 z_ (by omega)))

set_option maxRecDepth 4000 in
theorem sg_addTo_112 {φ : go_F} {l : Launch} {R : Room} {u : Nat × Nat} {h : mv_H} {n : Nat} {o : Nat} {X : mo_X} {D U : Nat → Int} {a b k : Nat} {m c : Int} (hm_m : MD h o X D U) (hm : 0 ≤ m ∧ m ≤ 40)
    (k0 : 40 ≤ m → Go φ l m_mo_addTo R u 128 [some (mv_R o), some (mv_I (a : Int)), some (mv_I (b : Int)), some (mv_I m), some (mv_I c), some (mv_I (k : Int)), none] [mv_I 40, mv_I (a : Int), mv_R o] h n)
    (k1 : ¬ 40 ≤ m → Go φ l m_mo_addTo R u 128 [some (mv_R o), some (mv_I (a : Int)), some (mv_I (b : Int)), some (mv_I m), some (mv_I c), some (mv_I (k : Int)), none] [mv_I (m + 1), mv_I (a : Int), mv_R o] h n) :
    Go φ l m_mo_addTo R u 112 [some (mv_R o), some (mv_I (a : Int)), some (mv_I (b : Int)), some (mv_I m), some (mv_I c), some (mv_I (k : Int)), none] [] h n := by
  refine go_aload_n (q := 113) d_mo_addTo_112 rfl rfl rfl ?_
  refine go_iload_n (q := 114) d_mo_addTo_113 rfl rfl rfl ?_
  refine go_iload_n (q := 115) d_mo_addTo_114 rfl rfl rfl ?_
  refine go_bipush (q := 117) d_mo_addTo_115 rfl (by decide) ?_
  refine go_icmp_ge (t := 126) (q := 120) d_mo_addTo_117 (by decide) rfl (by omega) (by omega) (fun c1 => ?_) (fun c1 => ?_)
  ·
    refine go_bipush (q := 128) d_mo_addTo_126 rfl (by decide) ?_
    exact k0 c1
  ·
    refine go_iload_n (q := 121) d_mo_addTo_120 rfl rfl rfl ?_
    refine go_iconst (q := 122) d_mo_addTo_121 rfl ?_
    refine go_iadd (q := 123) d_mo_addTo_122 rfl ?_
    refine go_goto (q := 128) d_mo_addTo_123 (by decide) ?_
    exact k1 c1

set_option maxRecDepth 4000 in
theorem sg_takeOff_0 {φ : go_F} {l : Launch} {R : Room} {u : Nat × Nat} {h : mv_H} {n : Nat} {o : Nat} {X : mo_X} {D U : Nat → Int} {a b : Nat} (hm_m : MD h o X D U) 
    (k0 : Go φ l m_mo_takeOff R u 5 [some (mv_R o), some (mv_I (a : Int)), some (mv_I (b : Int)), some (mv_I 0), some (mv_I 0), none] [] h n) :
    Go φ l m_mo_takeOff R u 0 [some (mv_R o), some (mv_I (a : Int)), some (mv_I (b : Int)), none, none, none] [] h n := by
  refine go_iconst (q := 1) d_mo_takeOff_0 rfl ?_
  refine go_istore_n (q := 2) (L' := [some (mv_R o), some (mv_I (a : Int)), some (mv_I (b : Int)), some (mv_I 0), none, none]) d_mo_takeOff_1 rfl rfl (by decide) rfl ?_
  refine go_iconst (q := 3) d_mo_takeOff_2 rfl ?_
  refine go_istore (q := 5) (L' := [some (mv_R o), some (mv_I (a : Int)), some (mv_I (b : Int)), some (mv_I 0), some (mv_I 0), none]) d_mo_takeOff_3 rfl (by decide) rfl ?_
  exact k0 

set_option maxRecDepth 4000 in
theorem sg_takeOff_5 {φ : go_F} {l : Launch} {R : Room} {u : Nat × Nat} {h : mv_H} {n : Nat} {o : Nat} {X : mo_X} {D U : Nat → Int} {a b k : Nat} {c : Int} (hm_m : MD h o X D U) (ha : a < 160) (hb : b < 160) (hc : 0 ≤ c ∧ c ≤ 1) (hk : k ≤ 40) (hD : ∀ j, 0 ≤ D j ∧ D j ≤ 9999) (hU : ∀ j, 0 ≤ U j ∧ U j ≤ 40)
    (k0 : U a ≤ (k : Int) → Go φ l m_mo_takeOff R u 90 [some (mv_R o), some (mv_I (a : Int)), some (mv_I (b : Int)), some (mv_I c), some (mv_I (k : Int)), none] [] h n)
    (k1 : ¬ U a ≤ (k : Int) → 0 ≤ ((D ((40 * a) + k)) - (D ((40 * b) + k))) - c → ∀ h' : mv_H, MD h' o X (va_up D ((40 * a) + k) (((D ((40 * a) + k)) - (D ((40 * b) + k))) - c)) U → (∀ z_, (z_ < o ∨ o + 8 ≤ z_) → h' z_ = h z_) → Go φ l m_mo_takeOff R u 5 [some (mv_R o), some (mv_I (a : Int)), some (mv_I (b : Int)), some (mv_I 0), some (mv_I ((k : Int) + 1)), none] [] h' n)
    (k2 : ¬ U a ≤ (k : Int) → ¬ 0 ≤ ((D ((40 * a) + k)) - (D ((40 * b) + k))) - c → ∀ h' : mv_H, MD h' o X (va_up D ((40 * a) + k) ((((D ((40 * a) + k)) - (D ((40 * b) + k))) - c) + 10000)) U → (∀ z_, (z_ < o ∨ o + 8 ≤ z_) → h' z_ = h z_) → Go φ l m_mo_takeOff R u 5 [some (mv_R o), some (mv_I (a : Int)), some (mv_I (b : Int)), some (mv_I 1), some (mv_I ((k : Int) + 1)), none] [] h' n) :
    Go φ l m_mo_takeOff R u 5 [some (mv_R o), some (mv_I (a : Int)), some (mv_I (b : Int)), some (mv_I c), some (mv_I (k : Int)), none] [] h n := by
  refine go_iload (q := 7) d_mo_takeOff_5 rfl rfl ?_
  refine go_aload_n (q := 8) d_mo_takeOff_7 rfl rfl rfl ?_
  refine go_getf (q := 11) f_mo_20 d_mo_takeOff_8 rfl (MD_c0 hm_m) rfl ?_
  refine go_iload_n (q := 12) d_mo_takeOff_11 rfl rfl rfl ?_
  refine go_iald (i := a) (q := 13) d_mo_takeOff_12 rfl (MD_c3 hm_m) (by omega) (by omega) (by omega) ?_
  have q_1 := hU a
  refine go_icmp_ge (t := 90) (q := 16) d_mo_takeOff_13 (by decide) rfl (by omega) (by omega) (fun c2 => ?_) (fun c2 => ?_)
  ·
    exact k0 c2
  ·
    refine go_aload_n (q := 17) d_mo_takeOff_16 rfl rfl rfl ?_
    refine go_getf (q := 20) f_mo_17 d_mo_takeOff_17 rfl (MD_c0 hm_m) rfl ?_
    refine go_bipush (q := 22) d_mo_takeOff_20 rfl (by decide) ?_
    refine go_iload_n (q := 23) d_mo_takeOff_22 rfl rfl rfl ?_
    refine go_imul (q := 24) d_mo_takeOff_23 rfl ?_
    refine go_iload (q := 26) d_mo_takeOff_24 rfl rfl ?_
    refine go_iadd (q := 27) d_mo_takeOff_26 rfl ?_
    refine go_iald (i := (40 * a) + k) (q := 28) d_mo_takeOff_27 rfl (MD_c2 hm_m) (by omega) (by omega) (by omega) ?_
    have q_3 := hD ((40 * a) + k)
    refine go_aload_n (q := 29) d_mo_takeOff_28 rfl rfl rfl ?_
    refine go_getf (q := 32) f_mo_17 d_mo_takeOff_29 rfl (MD_c0 hm_m) rfl ?_
    refine go_bipush (q := 34) d_mo_takeOff_32 rfl (by decide) ?_
    refine go_iload_n (q := 35) d_mo_takeOff_34 rfl rfl rfl ?_
    refine go_imul (q := 36) d_mo_takeOff_35 rfl ?_
    refine go_iload (q := 38) d_mo_takeOff_36 rfl rfl ?_
    refine go_iadd (q := 39) d_mo_takeOff_38 rfl ?_
    refine go_iald (i := (40 * b) + k) (q := 40) d_mo_takeOff_39 rfl (MD_c2 hm_m) (by omega) (by omega) (by omega) ?_
    have q_4 := hD ((40 * b) + k)
    refine go_isub (q := 41) d_mo_takeOff_40 rfl ?_
    refine go_iload_n (q := 42) d_mo_takeOff_41 rfl rfl rfl ?_
    refine go_isub (q := 43) d_mo_takeOff_42 rfl ?_
    refine go_istore (q := 45) (L' := [some (mv_R o), some (mv_I (a : Int)), some (mv_I (b : Int)), some (mv_I c), some (mv_I (k : Int)), some (mv_I (((D ((40 * a) + k)) - (D ((40 * b) + k))) - c))]) d_mo_takeOff_43 rfl (by decide) rfl ?_
    refine go_iload (q := 47) d_mo_takeOff_45 rfl rfl ?_
    refine go_if_ge (t := 54) (q := 50) d_mo_takeOff_47 (by decide) rfl (by omega) (fun c5 => ?_) (fun c5 => ?_)
    ·
      refine go_iconst (q := 55) d_mo_takeOff_54 rfl ?_
      refine go_istore_n (q := 56) (L' := [some (mv_R o), some (mv_I (a : Int)), some (mv_I (b : Int)), some (mv_I 0), some (mv_I (k : Int)), some (mv_I (((D ((40 * a) + k)) - (D ((40 * b) + k))) - c))]) d_mo_takeOff_55 rfl rfl (by decide) rfl ?_
      refine go_aload_n (q := 57) d_mo_takeOff_56 rfl rfl rfl ?_
      refine go_getf (q := 60) f_mo_17 d_mo_takeOff_57 rfl (MD_c0 hm_m) rfl ?_
      refine go_bipush (q := 62) d_mo_takeOff_60 rfl (by decide) ?_
      refine go_iload_n (q := 63) d_mo_takeOff_62 rfl rfl rfl ?_
      refine go_imul (q := 64) d_mo_takeOff_63 rfl ?_
      refine go_iload (q := 66) d_mo_takeOff_64 rfl rfl ?_
      refine go_iadd (q := 67) d_mo_takeOff_66 rfl ?_
      refine go_iload (q := 69) d_mo_takeOff_67 rfl rfl ?_
      refine go_if_ge (t := 81) (q := 72) d_mo_takeOff_69 (by decide) rfl (by omega) (fun c6 => ?_) (fun c6 => ?_)
      ·
        refine go_iload (q := 83) d_mo_takeOff_81 rfl rfl ?_
        refine go_iast (i := (40 * a) + k) (q := 84) d_mo_takeOff_83 rfl (MD_c2 hm_m) (by omega) (by omega) (by omega) ?_
        have hm_9 := MD_u2 hm_m (va_up D ((40 * a) + k) (((D ((40 * a) + k)) - (D ((40 * b) + k))) - c))
        have fr_8 : ∀ z_, z_ ≠ (o + 2) → va_up h (o + 2) (mv_A 0 6400 (va_up D ((40 * a) + k) (((D ((40 * a) + k)) - (D ((40 * b) + k))) - c))) z_ = h z_ := fun z_ hj => va_up_ne _ _ hj
        generalize va_up h (o + 2) (mv_A 0 6400 (va_up D ((40 * a) + k) (((D ((40 * a) + k)) - (D ((40 * b) + k))) - c))) = h_7 at hm_9 fr_8 ⊢
        refine go_iinc (q := 87) (L' := [some (mv_R o), some (mv_I (a : Int)), some (mv_I (b : Int)), some (mv_I 0), some (mv_I ((k : Int) + 1)), some (mv_I (((D ((40 * a) + k)) - (D ((40 * b) + k))) - c))]) d_mo_takeOff_84 rfl (by decide) rfl rfl ?_
        refine go_goto (q := 5) d_mo_takeOff_87 (by decide) ?_
        refine go_fg 5 (L' := [some (mv_R o), some (mv_I (a : Int)), some (mv_I (b : Int)), some (mv_I 0), some (mv_I ((k : Int) + 1)), none]) rfl ?_
        exact k1 c2 c5 _ hm_9 (fun z_ g0 => (fr_8 z_ (by omega)))
      ·
        exfalso; omega
    ·
      refine go_iconst (q := 51) d_mo_takeOff_50 rfl ?_
      refine go_goto (q := 55) d_mo_takeOff_51 (by decide) ?_
      refine go_istore_n (q := 56) (L' := [some (mv_R o), some (mv_I (a : Int)), some (mv_I (b : Int)), some (mv_I 1), some (mv_I (k : Int)), some (mv_I (((D ((40 * a) + k)) - (D ((40 * b) + k))) - c))]) d_mo_takeOff_55 rfl rfl (by decide) rfl ?_
      refine go_aload_n (q := 57) d_mo_takeOff_56 rfl rfl rfl ?_
      refine go_getf (q := 60) f_mo_17 d_mo_takeOff_57 rfl (MD_c0 hm_m) rfl ?_
      refine go_bipush (q := 62) d_mo_takeOff_60 rfl (by decide) ?_
      refine go_iload_n (q := 63) d_mo_takeOff_62 rfl rfl rfl ?_
      refine go_imul (q := 64) d_mo_takeOff_63 rfl ?_
      refine go_iload (q := 66) d_mo_takeOff_64 rfl rfl ?_
      refine go_iadd (q := 67) d_mo_takeOff_66 rfl ?_
      refine go_iload (q := 69) d_mo_takeOff_67 rfl rfl ?_
      refine go_if_ge (t := 81) (q := 72) d_mo_takeOff_69 (by decide) rfl (by omega) (fun c10 => ?_) (fun c10 => ?_)
      ·
        exfalso; omega
      ·
        refine go_iload (q := 74) d_mo_takeOff_72 rfl rfl ?_
        refine go_sipush (q := 77) d_mo_takeOff_74 rfl (by decide) ?_
        refine go_iadd (q := 78) d_mo_takeOff_77 rfl ?_
        refine go_goto (q := 83) d_mo_takeOff_78 (by decide) ?_
        refine go_iast (i := (40 * a) + k) (q := 84) d_mo_takeOff_83 rfl (MD_c2 hm_m) (by omega) (by omega) (by omega) ?_
        have hm_13 := MD_u2 hm_m (va_up D ((40 * a) + k) ((((D ((40 * a) + k)) - (D ((40 * b) + k))) - c) + 10000))
        have fr_12 : ∀ z_, z_ ≠ (o + 2) → va_up h (o + 2) (mv_A 0 6400 (va_up D ((40 * a) + k) ((((D ((40 * a) + k)) - (D ((40 * b) + k))) - c) + 10000))) z_ = h z_ := fun z_ hj => va_up_ne _ _ hj
        generalize va_up h (o + 2) (mv_A 0 6400 (va_up D ((40 * a) + k) ((((D ((40 * a) + k)) - (D ((40 * b) + k))) - c) + 10000))) = h_11 at hm_13 fr_12 ⊢
        refine go_iinc (q := 87) (L' := [some (mv_R o), some (mv_I (a : Int)), some (mv_I (b : Int)), some (mv_I 1), some (mv_I ((k : Int) + 1)), some (mv_I (((D ((40 * a) + k)) - (D ((40 * b) + k))) - c))]) d_mo_takeOff_84 rfl (by decide) rfl rfl ?_
        refine go_goto (q := 5) d_mo_takeOff_87 (by decide) ?_
        refine go_fg 5 (L' := [some (mv_R o), some (mv_I (a : Int)), some (mv_I (b : Int)), some (mv_I 1), some (mv_I ((k : Int) + 1)), none]) rfl ?_
        exact k2 c2 c5 _ hm_13 (fun z_ g0 => (fr_12 z_ (by omega)))

set_option maxRecDepth 4000 in
theorem sg_takeOff_90 {φ : go_F} {l : Launch} {R : Room} {u : Nat × Nat} {h : mv_H} {n : Nat} {o : Nat} {X : mo_X} {D U : Nat → Int} {a b k : Nat} {c : Int} (hm_m : MD h o X D U) (ha : a < 160)
    (k0 : Go φ l m_mo_takeOff R u 98 [some (mv_R o), some (mv_I (a : Int)), some (mv_I (b : Int)), some (mv_I c), some (mv_I (k : Int)), none] [mv_I (U a), mv_I (a : Int), mv_R o] h n) :
    Go φ l m_mo_takeOff R u 90 [some (mv_R o), some (mv_I (a : Int)), some (mv_I (b : Int)), some (mv_I c), some (mv_I (k : Int)), none] [] h n := by
  refine go_aload_n (q := 91) d_mo_takeOff_90 rfl rfl rfl ?_
  refine go_iload_n (q := 92) d_mo_takeOff_91 rfl rfl rfl ?_
  refine go_aload_n (q := 93) d_mo_takeOff_92 rfl rfl rfl ?_
  refine go_getf (q := 96) f_mo_20 d_mo_takeOff_93 rfl (MD_c0 hm_m) rfl ?_
  refine go_iload_n (q := 97) d_mo_takeOff_96 rfl rfl rfl ?_
  refine go_iald (i := a) (q := 98) d_mo_takeOff_97 rfl (MD_c3 hm_m) (by omega) (by omega) (by omega) ?_
  exact k0 

set_option maxRecDepth 4000 in
theorem sg_multiply_0 {φ : go_F} {l : Launch} {R : Room} {u : Nat × Nat} {h : mv_H} {n : Nat} {o : Nat} {X : mo_X} {D U : Nat → Int} {a b t : Nat} (hm_m : MD h o X D U) 
    (k0 : Go φ l m_mo_multiply R u 3 [some (mv_R o), some (mv_I (a : Int)), some (mv_I (b : Int)), some (mv_I (t : Int)), none, none, none, none, none] [mv_I 0, mv_I (t : Int), mv_R o] h n) :
    Go φ l m_mo_multiply R u 0 [some (mv_R o), some (mv_I (a : Int)), some (mv_I (b : Int)), some (mv_I (t : Int)), none, none, none, none, none] [] h n := by
  refine go_aload_n (q := 1) d_mo_multiply_0 rfl rfl rfl ?_
  refine go_iload_n (q := 2) d_mo_multiply_1 rfl rfl rfl ?_
  refine go_iconst (q := 3) d_mo_multiply_2 rfl ?_
  exact k0 

set_option maxRecDepth 4000 in
theorem sg_multiply_6 {φ : go_F} {l : Launch} {R : Room} {u : Nat × Nat} {h : mv_H} {n : Nat} {o : Nat} {X : mo_X} {D U : Nat → Int} {a b t : Nat} (hm_m : MD h o X D U) 
    (k0 : Go φ l m_mo_multiply R u 9 [some (mv_R o), some (mv_I (a : Int)), some (mv_I (b : Int)), some (mv_I (t : Int)), some (mv_I 0), none, none, none, none] [] h n) :
    Go φ l m_mo_multiply R u 6 [some (mv_R o), some (mv_I (a : Int)), some (mv_I (b : Int)), some (mv_I (t : Int)), none, none, none, none, none] [] h n := by
  refine go_iconst (q := 7) d_mo_multiply_6 rfl ?_
  refine go_istore (q := 9) (L' := [some (mv_R o), some (mv_I (a : Int)), some (mv_I (b : Int)), some (mv_I (t : Int)), some (mv_I 0), none, none, none, none]) d_mo_multiply_7 rfl (by decide) rfl ?_
  exact k0 

set_option maxRecDepth 4000 in
theorem sg_multiply_9 {φ : go_F} {l : Launch} {R : Room} {u : Nat × Nat} {h : mv_H} {n : Nat} {o : Nat} {X : mo_X} {D U : Nat → Int} {a b t i : Nat} (hm_m : MD h o X D U) (ha : a < 160) (hi : i ≤ 40) (hU : ∀ j, 0 ≤ U j ∧ U j ≤ 40)
    (k0 : U a ≤ (i : Int) → Go φ l m_mo_multiply R u 140 [some (mv_R o), some (mv_I (a : Int)), some (mv_I (b : Int)), some (mv_I (t : Int)), some (mv_I (i : Int)), none, none, none, none] [] h n)
    (k1 : ¬ U a ≤ (i : Int) → Go φ l m_mo_multiply R u 26 [some (mv_R o), some (mv_I (a : Int)), some (mv_I (b : Int)), some (mv_I (t : Int)), some (mv_I (i : Int)), some (mv_I 0), some (mv_I 0), none, none] [] h n) :
    Go φ l m_mo_multiply R u 9 [some (mv_R o), some (mv_I (a : Int)), some (mv_I (b : Int)), some (mv_I (t : Int)), some (mv_I (i : Int)), none, none, none, none] [] h n := by
  refine go_iload (q := 11) d_mo_multiply_9 rfl rfl ?_
  refine go_aload_n (q := 12) d_mo_multiply_11 rfl rfl rfl ?_
  refine go_getf (q := 15) f_mo_20 d_mo_multiply_12 rfl (MD_c0 hm_m) rfl ?_
  refine go_iload_n (q := 16) d_mo_multiply_15 rfl rfl rfl ?_
  refine go_iald (i := a) (q := 17) d_mo_multiply_16 rfl (MD_c3 hm_m) (by omega) (by omega) (by omega) ?_
  have q_1 := hU a
  refine go_icmp_ge (t := 140) (q := 20) d_mo_multiply_17 (by decide) rfl (by omega) (by omega) (fun c2 => ?_) (fun c2 => ?_)
  ·
    exact k0 c2
  ·
    refine go_iconst (q := 21) d_mo_multiply_20 rfl ?_
    refine go_istore (q := 23) (L' := [some (mv_R o), some (mv_I (a : Int)), some (mv_I (b : Int)), some (mv_I (t : Int)), some (mv_I (i : Int)), some (mv_I 0), none, none, none]) d_mo_multiply_21 rfl (by decide) rfl ?_
    refine go_iconst (q := 24) d_mo_multiply_23 rfl ?_
    refine go_istore (q := 26) (L' := [some (mv_R o), some (mv_I (a : Int)), some (mv_I (b : Int)), some (mv_I (t : Int)), some (mv_I (i : Int)), some (mv_I 0), some (mv_I 0), none, none]) d_mo_multiply_24 rfl (by decide) rfl ?_
    exact k1 c2

set_option maxRecDepth 4000 in
theorem sg_multiply_26 {φ : go_F} {l : Launch} {R : Room} {u : Nat × Nat} {h : mv_H} {n : Nat} {o : Nat} {X : mo_X} {D U : Nat → Int} {a b t i j : Nat} {c : Int} (hm_m : MD h o X D U) (ha : a < 160) (hb : b < 160) (ht : t < 160) (hi : i < 40) (hj : j ≤ 40) (hc : 0 ≤ c ∧ c ≤ 9999) (hij : (j : Int) < U b ∨ 0 < c → i + j < 40) (hD : ∀ j, 0 ≤ D j ∧ D j ≤ 9999) (hU : ∀ j, 0 ≤ U j ∧ U j ≤ 40)
    (k0 : (j : Int) < U b → ∀ h' : mv_H, MD h' o X (va_up D (((40 * t) + i) + j) ((((D (((40 * t) + i) + j)) + ((D ((40 * a) + i)) * (D ((40 * b) + j)))) + c) % 10000)) U → (∀ z_, (z_ < o ∨ o + 8 ≤ z_) → h' z_ = h z_) → Go φ l m_mo_multiply R u 26 [some (mv_R o), some (mv_I (a : Int)), some (mv_I (b : Int)), some (mv_I (t : Int)), some (mv_I (i : Int)), some (mv_I ((((D (((40 * t) + i) + j)) + ((D ((40 * a) + i)) * (D ((40 * b) + j)))) + c) / 10000)), some (mv_I ((j : Int) + 1)), none, none] [] h' n)
    (k1 : ¬ (j : Int) < U b → c ≤ 0 → Go φ l m_mo_multiply R u 134 [some (mv_R o), some (mv_I (a : Int)), some (mv_I (b : Int)), some (mv_I (t : Int)), some (mv_I (i : Int)), some (mv_I c), some (mv_I (j : Int)), none, none] [] h n)
    (k2 : ¬ (j : Int) < U b → ¬ c ≤ 0 → ∀ h' : mv_H, MD h' o X (va_up D (((40 * t) + i) + j) ((((D (((40 * t) + i) + j)) + ((D ((40 * a) + i)) * 0)) + c) % 10000)) U → (∀ z_, (z_ < o ∨ o + 8 ≤ z_) → h' z_ = h z_) → Go φ l m_mo_multiply R u 26 [some (mv_R o), some (mv_I (a : Int)), some (mv_I (b : Int)), some (mv_I (t : Int)), some (mv_I (i : Int)), some (mv_I ((((D (((40 * t) + i) + j)) + ((D ((40 * a) + i)) * 0)) + c) / 10000)), some (mv_I ((j : Int) + 1)), none, none] [] h' n) :
    Go φ l m_mo_multiply R u 26 [some (mv_R o), some (mv_I (a : Int)), some (mv_I (b : Int)), some (mv_I (t : Int)), some (mv_I (i : Int)), some (mv_I c), some (mv_I (j : Int)), none, none] [] h n := by
  refine go_iload (q := 28) d_mo_multiply_26 rfl rfl ?_
  refine go_aload_n (q := 29) d_mo_multiply_28 rfl rfl rfl ?_
  refine go_getf (q := 32) f_mo_20 d_mo_multiply_29 rfl (MD_c0 hm_m) rfl ?_
  refine go_iload_n (q := 33) d_mo_multiply_32 rfl rfl rfl ?_
  refine go_iald (i := b) (q := 34) d_mo_multiply_33 rfl (MD_c3 hm_m) (by omega) (by omega) (by omega) ?_
  have q_1 := hU b
  refine go_icmp_lt (t := 42) (q := 37) d_mo_multiply_34 (by decide) rfl (by omega) (by omega) (fun c2 => ?_) (fun c2 => ?_)
  ·
    refine go_bipush (q := 44) d_mo_multiply_42 rfl (by decide) ?_
    refine go_iload_n (q := 45) d_mo_multiply_44 rfl rfl rfl ?_
    refine go_imul (q := 46) d_mo_multiply_45 rfl ?_
    refine go_iload (q := 48) d_mo_multiply_46 rfl rfl ?_
    refine go_iadd (q := 49) d_mo_multiply_48 rfl ?_
    refine go_iload (q := 51) d_mo_multiply_49 rfl rfl ?_
    refine go_iadd (q := 52) d_mo_multiply_51 rfl ?_
    refine go_istore (q := 54) (L' := [some (mv_R o), some (mv_I (a : Int)), some (mv_I (b : Int)), some (mv_I (t : Int)), some (mv_I (i : Int)), some (mv_I c), some (mv_I (j : Int)), some (mv_I (((40 * (t : Int)) + (i : Int)) + (j : Int))), none]) d_mo_multiply_52 rfl (by decide) rfl ?_
    refine go_aload_n (q := 55) d_mo_multiply_54 rfl rfl rfl ?_
    refine go_getf (q := 58) f_mo_17 d_mo_multiply_55 rfl (MD_c0 hm_m) rfl ?_
    refine go_iload (q := 60) d_mo_multiply_58 rfl rfl ?_
    refine go_iald (i := ((40 * t) + i) + j) (q := 61) d_mo_multiply_60 rfl (MD_c2 hm_m) (by omega) (by omega) (by omega) ?_
    have q_3 := hD (((40 * t) + i) + j)
    refine go_aload_n (q := 62) d_mo_multiply_61 rfl rfl rfl ?_
    refine go_getf (q := 65) f_mo_17 d_mo_multiply_62 rfl (MD_c0 hm_m) rfl ?_
    refine go_bipush (q := 67) d_mo_multiply_65 rfl (by decide) ?_
    refine go_iload_n (q := 68) d_mo_multiply_67 rfl rfl rfl ?_
    refine go_imul (q := 69) d_mo_multiply_68 rfl ?_
    refine go_iload (q := 71) d_mo_multiply_69 rfl rfl ?_
    refine go_iadd (q := 72) d_mo_multiply_71 rfl ?_
    refine go_iald (i := (40 * a) + i) (q := 73) d_mo_multiply_72 rfl (MD_c2 hm_m) (by omega) (by omega) (by omega) ?_
    have q_4 := hD ((40 * a) + i)
    refine go_iload (q := 75) d_mo_multiply_73 rfl rfl ?_
    refine go_aload_n (q := 76) d_mo_multiply_75 rfl rfl rfl ?_
    refine go_getf (q := 79) f_mo_20 d_mo_multiply_76 rfl (MD_c0 hm_m) rfl ?_
    refine go_iload_n (q := 80) d_mo_multiply_79 rfl rfl rfl ?_
    refine go_iald (i := b) (q := 81) d_mo_multiply_80 rfl (MD_c3 hm_m) (by omega) (by omega) (by omega) ?_
    have q_5 := hU b
    refine go_icmp_ge (t := 99) (q := 84) d_mo_multiply_81 (by decide) rfl (by omega) (by omega) (fun c6 => ?_) (fun c6 => ?_)
    ·
      exfalso; omega
    ·
      refine go_aload_n (q := 85) d_mo_multiply_84 rfl rfl rfl ?_
      refine go_getf (q := 88) f_mo_17 d_mo_multiply_85 rfl (MD_c0 hm_m) rfl ?_
      refine go_bipush (q := 90) d_mo_multiply_88 rfl (by decide) ?_
      refine go_iload_n (q := 91) d_mo_multiply_90 rfl rfl rfl ?_
      refine go_imul (q := 92) d_mo_multiply_91 rfl ?_
      refine go_iload (q := 94) d_mo_multiply_92 rfl rfl ?_
      refine go_iadd (q := 95) d_mo_multiply_94 rfl ?_
      refine go_iald (i := (40 * b) + j) (q := 96) d_mo_multiply_95 rfl (MD_c2 hm_m) (by omega) (by omega) (by omega) ?_
      have q_7 := hD ((40 * b) + j)
      refine go_goto (q := 100) d_mo_multiply_96 (by decide) ?_
      refine go_imul (q := 101) d_mo_multiply_100 rfl ?_
      refine go_iadd (q := 102) d_mo_multiply_101 rfl ?_
      refine go_iload (q := 104) d_mo_multiply_102 rfl rfl ?_
      refine go_iadd (q := 105) d_mo_multiply_104 rfl ?_
      have hp_ := gn_mul9 (hD ((40 * a) + i)) (hD ((40 * b) + j))
      refine go_istore (q := 107) (L' := [some (mv_R o), some (mv_I (a : Int)), some (mv_I (b : Int)), some (mv_I (t : Int)), some (mv_I (i : Int)), some (mv_I c), some (mv_I (j : Int)), some (mv_I (((40 * (t : Int)) + (i : Int)) + (j : Int))), some (mv_I (((D (((40 * t) + i) + j)) + ((D ((40 * a) + i)) * (D ((40 * b) + j)))) + c))]) d_mo_multiply_105 rfl (by decide) rfl ?_
      refine go_aload_n (q := 108) d_mo_multiply_107 rfl rfl rfl ?_
      refine go_getf (q := 111) f_mo_17 d_mo_multiply_108 rfl (MD_c0 hm_m) rfl ?_
      refine go_iload (q := 113) d_mo_multiply_111 rfl rfl ?_
      refine go_iload (q := 115) d_mo_multiply_113 rfl rfl ?_
      refine go_sipush (q := 118) d_mo_multiply_115 rfl (by decide) ?_
      refine go_irem (z := (((D (((40 * t) + i) + j)) + ((D ((40 * a) + i)) * (D ((40 * b) + j)))) + c) % 10000) (q := 119) d_mo_multiply_118 rfl (gn_ne0 (by omega)) (gn_rem (by omega) (by omega)) ?_
      refine go_iast (i := ((40 * t) + i) + j) (q := 120) d_mo_multiply_119 rfl (MD_c2 hm_m) (by omega) (by omega) (by omega) ?_
      have hm_10 := MD_u2 hm_m (va_up D (((40 * t) + i) + j) ((((D (((40 * t) + i) + j)) + ((D ((40 * a) + i)) * (D ((40 * b) + j)))) + c) % 10000))
      have fr_9 : ∀ z_, z_ ≠ (o + 2) → va_up h (o + 2) (mv_A 0 6400 (va_up D (((40 * t) + i) + j) ((((D (((40 * t) + i) + j)) + ((D ((40 * a) + i)) * (D ((40 * b) + j)))) + c) % 10000))) z_ = h z_ := fun z_ hj => va_up_ne _ _ hj
      generalize va_up h (o + 2) (mv_A 0 6400 (va_up D (((40 * t) + i) + j) ((((D (((40 * t) + i) + j)) + ((D ((40 * a) + i)) * (D ((40 * b) + j)))) + c) % 10000))) = h_8 at hm_10 fr_9 ⊢
      refine go_iload (q := 122) d_mo_multiply_120 rfl rfl ?_
      refine go_sipush (q := 125) d_mo_multiply_122 rfl (by decide) ?_
      refine go_idiv (z := (((D (((40 * t) + i) + j)) + ((D ((40 * a) + i)) * (D ((40 * b) + j)))) + c) / 10000) (q := 126) d_mo_multiply_125 rfl (gn_ne0 (by omega)) (gn_div (by omega) (by omega)) ?_
      refine go_istore (q := 128) (L' := [some (mv_R o), some (mv_I (a : Int)), some (mv_I (b : Int)), some (mv_I (t : Int)), some (mv_I (i : Int)), some (mv_I ((((D (((40 * t) + i) + j)) + ((D ((40 * a) + i)) * (D ((40 * b) + j)))) + c) / 10000)), some (mv_I (j : Int)), some (mv_I (((40 * (t : Int)) + (i : Int)) + (j : Int))), some (mv_I (((D (((40 * t) + i) + j)) + ((D ((40 * a) + i)) * (D ((40 * b) + j)))) + c))]) d_mo_multiply_126 rfl (by decide) rfl ?_
      refine go_iinc (q := 131) (L' := [some (mv_R o), some (mv_I (a : Int)), some (mv_I (b : Int)), some (mv_I (t : Int)), some (mv_I (i : Int)), some (mv_I ((((D (((40 * t) + i) + j)) + ((D ((40 * a) + i)) * (D ((40 * b) + j)))) + c) / 10000)), some (mv_I ((j : Int) + 1)), some (mv_I (((40 * (t : Int)) + (i : Int)) + (j : Int))), some (mv_I (((D (((40 * t) + i) + j)) + ((D ((40 * a) + i)) * (D ((40 * b) + j)))) + c))]) d_mo_multiply_128 rfl (by decide) rfl rfl ?_
      refine go_goto (q := 26) d_mo_multiply_131 (by decide) ?_
      refine go_fg 7 (L' := [some (mv_R o), some (mv_I (a : Int)), some (mv_I (b : Int)), some (mv_I (t : Int)), some (mv_I (i : Int)), some (mv_I ((((D (((40 * t) + i) + j)) + ((D ((40 * a) + i)) * (D ((40 * b) + j)))) + c) / 10000)), some (mv_I ((j : Int) + 1)), none, some (mv_I (((D (((40 * t) + i) + j)) + ((D ((40 * a) + i)) * (D ((40 * b) + j)))) + c))]) rfl ?_
      refine go_fg 8 (L' := [some (mv_R o), some (mv_I (a : Int)), some (mv_I (b : Int)), some (mv_I (t : Int)), some (mv_I (i : Int)), some (mv_I ((((D (((40 * t) + i) + j)) + ((D ((40 * a) + i)) * (D ((40 * b) + j)))) + c) / 10000)), some (mv_I ((j : Int) + 1)), none, none]) rfl ?_
      exact k0 c2 _ hm_10 (fun z_ g0 => (fr_9 z_ (by omega)))
  ·
    refine go_iload (q := 39) d_mo_multiply_37 rfl rfl ?_
    refine go_if_le (t := 134) (q := 42) d_mo_multiply_39 (by decide) rfl (by omega) (fun c11 => ?_) (fun c11 => ?_)
    ·
      exact k1 c2 c11
    ·
      refine go_bipush (q := 44) d_mo_multiply_42 rfl (by decide) ?_
      refine go_iload_n (q := 45) d_mo_multiply_44 rfl rfl rfl ?_
      refine go_imul (q := 46) d_mo_multiply_45 rfl ?_
      refine go_iload (q := 48) d_mo_multiply_46 rfl rfl ?_
      refine go_iadd (q := 49) d_mo_multiply_48 rfl ?_
      refine go_iload (q := 51) d_mo_multiply_49 rfl rfl ?_
      refine go_iadd (q := 52) d_mo_multiply_51 rfl ?_
      refine go_istore (q := 54) (L' := [some (mv_R o), some (mv_I (a : Int)), some (mv_I (b : Int)), some (mv_I (t : Int)), some (mv_I (i : Int)), some (mv_I c), some (mv_I (j : Int)), some (mv_I (((40 * (t : Int)) + (i : Int)) + (j : Int))), none]) d_mo_multiply_52 rfl (by decide) rfl ?_
      refine go_aload_n (q := 55) d_mo_multiply_54 rfl rfl rfl ?_
      refine go_getf (q := 58) f_mo_17 d_mo_multiply_55 rfl (MD_c0 hm_m) rfl ?_
      refine go_iload (q := 60) d_mo_multiply_58 rfl rfl ?_
      refine go_iald (i := ((40 * t) + i) + j) (q := 61) d_mo_multiply_60 rfl (MD_c2 hm_m) (by omega) (by omega) (by omega) ?_
      have q_12 := hD (((40 * t) + i) + j)
      refine go_aload_n (q := 62) d_mo_multiply_61 rfl rfl rfl ?_
      refine go_getf (q := 65) f_mo_17 d_mo_multiply_62 rfl (MD_c0 hm_m) rfl ?_
      refine go_bipush (q := 67) d_mo_multiply_65 rfl (by decide) ?_
      refine go_iload_n (q := 68) d_mo_multiply_67 rfl rfl rfl ?_
      refine go_imul (q := 69) d_mo_multiply_68 rfl ?_
      refine go_iload (q := 71) d_mo_multiply_69 rfl rfl ?_
      refine go_iadd (q := 72) d_mo_multiply_71 rfl ?_
      refine go_iald (i := (40 * a) + i) (q := 73) d_mo_multiply_72 rfl (MD_c2 hm_m) (by omega) (by omega) (by omega) ?_
      have q_13 := hD ((40 * a) + i)
      refine go_iload (q := 75) d_mo_multiply_73 rfl rfl ?_
      refine go_aload_n (q := 76) d_mo_multiply_75 rfl rfl rfl ?_
      refine go_getf (q := 79) f_mo_20 d_mo_multiply_76 rfl (MD_c0 hm_m) rfl ?_
      refine go_iload_n (q := 80) d_mo_multiply_79 rfl rfl rfl ?_
      refine go_iald (i := b) (q := 81) d_mo_multiply_80 rfl (MD_c3 hm_m) (by omega) (by omega) (by omega) ?_
      have q_14 := hU b
      refine go_icmp_ge (t := 99) (q := 84) d_mo_multiply_81 (by decide) rfl (by omega) (by omega) (fun c15 => ?_) (fun c15 => ?_)
      ·
        refine go_iconst (q := 100) d_mo_multiply_99 rfl ?_
        refine go_imul (q := 101) d_mo_multiply_100 rfl ?_
        refine go_iadd (q := 102) d_mo_multiply_101 rfl ?_
        refine go_iload (q := 104) d_mo_multiply_102 rfl rfl ?_
        refine go_iadd (q := 105) d_mo_multiply_104 rfl ?_
        have hp_ := gn_mul9 (hD ((40 * a) + i)) (hD ((40 * b) + j))
        refine go_istore (q := 107) (L' := [some (mv_R o), some (mv_I (a : Int)), some (mv_I (b : Int)), some (mv_I (t : Int)), some (mv_I (i : Int)), some (mv_I c), some (mv_I (j : Int)), some (mv_I (((40 * (t : Int)) + (i : Int)) + (j : Int))), some (mv_I (((D (((40 * t) + i) + j)) + ((D ((40 * a) + i)) * 0)) + c))]) d_mo_multiply_105 rfl (by decide) rfl ?_
        refine go_aload_n (q := 108) d_mo_multiply_107 rfl rfl rfl ?_
        refine go_getf (q := 111) f_mo_17 d_mo_multiply_108 rfl (MD_c0 hm_m) rfl ?_
        refine go_iload (q := 113) d_mo_multiply_111 rfl rfl ?_
        refine go_iload (q := 115) d_mo_multiply_113 rfl rfl ?_
        refine go_sipush (q := 118) d_mo_multiply_115 rfl (by decide) ?_
        refine go_irem (z := (((D (((40 * t) + i) + j)) + ((D ((40 * a) + i)) * 0)) + c) % 10000) (q := 119) d_mo_multiply_118 rfl (gn_ne0 (by omega)) (gn_rem (by omega) (by omega)) ?_
        refine go_iast (i := ((40 * t) + i) + j) (q := 120) d_mo_multiply_119 rfl (MD_c2 hm_m) (by omega) (by omega) (by omega) ?_
        have hm_18 := MD_u2 hm_m (va_up D (((40 * t) + i) + j) ((((D (((40 * t) + i) + j)) + ((D ((40 * a) + i)) * 0)) + c) % 10000))
        have fr_17 : ∀ z_, z_ ≠ (o + 2) → va_up h (o + 2) (mv_A 0 6400 (va_up D (((40 * t) + i) + j) ((((D (((40 * t) + i) + j)) + ((D ((40 * a) + i)) * 0)) + c) % 10000))) z_ = h z_ := fun z_ hj => va_up_ne _ _ hj
        generalize va_up h (o + 2) (mv_A 0 6400 (va_up D (((40 * t) + i) + j) ((((D (((40 * t) + i) + j)) + ((D ((40 * a) + i)) * 0)) + c) % 10000))) = h_16 at hm_18 fr_17 ⊢
        refine go_iload (q := 122) d_mo_multiply_120 rfl rfl ?_
        refine go_sipush (q := 125) d_mo_multiply_122 rfl (by decide) ?_
        refine go_idiv (z := (((D (((40 * t) + i) + j)) + ((D ((40 * a) + i)) * 0)) + c) / 10000) (q := 126) d_mo_multiply_125 rfl (gn_ne0 (by omega)) (gn_div (by omega) (by omega)) ?_
        refine go_istore (q := 128) (L' := [some (mv_R o), some (mv_I (a : Int)), some (mv_I (b : Int)), some (mv_I (t : Int)), some (mv_I (i : Int)), some (mv_I ((((D (((40 * t) + i) + j)) + ((D ((40 * a) + i)) * 0)) + c) / 10000)), some (mv_I (j : Int)), some (mv_I (((40 * (t : Int)) + (i : Int)) + (j : Int))), some (mv_I (((D (((40 * t) + i) + j)) + ((D ((40 * a) + i)) * 0)) + c))]) d_mo_multiply_126 rfl (by decide) rfl ?_
        refine go_iinc (q := 131) (L' := [some (mv_R o), some (mv_I (a : Int)), some (mv_I (b : Int)), some (mv_I (t : Int)), some (mv_I (i : Int)), some (mv_I ((((D (((40 * t) + i) + j)) + ((D ((40 * a) + i)) * 0)) + c) / 10000)), some (mv_I ((j : Int) + 1)), some (mv_I (((40 * (t : Int)) + (i : Int)) + (j : Int))), some (mv_I (((D (((40 * t) + i) + j)) + ((D ((40 * a) + i)) * 0)) + c))]) d_mo_multiply_128 rfl (by decide) rfl rfl ?_
        refine go_goto (q := 26) d_mo_multiply_131 (by decide) ?_
        refine go_fg 7 (L' := [some (mv_R o), some (mv_I (a : Int)), some (mv_I (b : Int)), some (mv_I (t : Int)), some (mv_I (i : Int)), some (mv_I ((((D (((40 * t) + i) + j)) + ((D ((40 * a) + i)) * 0)) + c) / 10000)), some (mv_I ((j : Int) + 1)), none, some (mv_I (((D (((40 * t) + i) + j)) + ((D ((40 * a) + i)) * 0)) + c))]) rfl ?_
        refine go_fg 8 (L' := [some (mv_R o), some (mv_I (a : Int)), some (mv_I (b : Int)), some (mv_I (t : Int)), some (mv_I (i : Int)), some (mv_I ((((D (((40 * t) + i) + j)) + ((D ((40 * a) + i)) * 0)) + c) / 10000)), some (mv_I ((j : Int) + 1)), none, none]) rfl ?_
        exact k2 c2 c11 _ hm_18 (fun z_ g0 => (fr_17 z_ (by omega)))
      ·
        exfalso; omega

set_option maxRecDepth 4000 in
theorem sg_multiply_134 {φ : go_F} {l : Launch} {R : Room} {u : Nat × Nat} {h : mv_H} {n : Nat} {o : Nat} {X : mo_X} {D U : Nat → Int} {a b t i j : Nat} {c : Int} (hm_m : MD h o X D U) 
    (k0 : Go φ l m_mo_multiply R u 9 [some (mv_R o), some (mv_I (a : Int)), some (mv_I (b : Int)), some (mv_I (t : Int)), some (mv_I ((i : Int) + 1)), none, none, none, none] [] h n) :
    Go φ l m_mo_multiply R u 134 [some (mv_R o), some (mv_I (a : Int)), some (mv_I (b : Int)), some (mv_I (t : Int)), some (mv_I (i : Int)), some (mv_I c), some (mv_I (j : Int)), none, none] [] h n := by
  refine go_iinc (q := 137) (L' := [some (mv_R o), some (mv_I (a : Int)), some (mv_I (b : Int)), some (mv_I (t : Int)), some (mv_I ((i : Int) + 1)), some (mv_I c), some (mv_I (j : Int)), none, none]) d_mo_multiply_134 rfl (by decide) rfl rfl ?_
  refine go_goto (q := 9) d_mo_multiply_137 (by decide) ?_
  refine go_fg 5 (L' := [some (mv_R o), some (mv_I (a : Int)), some (mv_I (b : Int)), some (mv_I (t : Int)), some (mv_I ((i : Int) + 1)), none, some (mv_I (j : Int)), none, none]) rfl ?_
  refine go_fg 6 (L' := [some (mv_R o), some (mv_I (a : Int)), some (mv_I (b : Int)), some (mv_I (t : Int)), some (mv_I ((i : Int) + 1)), none, none, none, none]) rfl ?_
  exact k0 

set_option maxRecDepth 4000 in
theorem sg_multiply_140 {φ : go_F} {l : Launch} {R : Room} {u : Nat × Nat} {h : mv_H} {n : Nat} {o : Nat} {X : mo_X} {D U : Nat → Int} {a b t i : Nat} (hm_m : MD h o X D U) 
    (k0 : Go φ l m_mo_multiply R u 144 [some (mv_R o), some (mv_I (a : Int)), some (mv_I (b : Int)), some (mv_I (t : Int)), some (mv_I (i : Int)), none, none, none, none] [mv_I 40, mv_I (t : Int), mv_R o] h n) :
    Go φ l m_mo_multiply R u 140 [some (mv_R o), some (mv_I (a : Int)), some (mv_I (b : Int)), some (mv_I (t : Int)), some (mv_I (i : Int)), none, none, none, none] [] h n := by
  refine go_aload_n (q := 141) d_mo_multiply_140 rfl rfl rfl ?_
  refine go_iload_n (q := 142) d_mo_multiply_141 rfl rfl rfl ?_
  refine go_bipush (q := 144) d_mo_multiply_142 rfl (by decide) ?_
  exact k0 

set_option maxRecDepth 4000 in
theorem sg_shift_0 {φ : go_F} {l : Launch} {R : Room} {u : Nat × Nat} {h : mv_H} {n : Nat} {o : Nat} {X : mo_X} {D U : Nat → Int} {r : Nat} {v : Int} (hm_m : MD h o X D U) (hr : r < 160)
    (k0 : Go φ l m_mo_shift R u 7 [some (mv_R o), some (mv_I (r : Int)), some (mv_I v), some (mv_I (U r))] [] h n) :
    Go φ l m_mo_shift R u 0 [some (mv_R o), some (mv_I (r : Int)), some (mv_I v), none] [] h n := by
  refine go_aload_n (q := 1) d_mo_shift_0 rfl rfl rfl ?_
  refine go_getf (q := 4) f_mo_20 d_mo_shift_1 rfl (MD_c0 hm_m) rfl ?_
  refine go_iload_n (q := 5) d_mo_shift_4 rfl rfl rfl ?_
  refine go_iald (i := r) (q := 6) d_mo_shift_5 rfl (MD_c3 hm_m) (by omega) (by omega) (by omega) ?_
  refine go_istore_n (q := 7) (L' := [some (mv_R o), some (mv_I (r : Int)), some (mv_I v), some (mv_I (U r))]) d_mo_shift_6 rfl rfl (by decide) rfl ?_
  exact k0 

set_option maxRecDepth 4000 in
theorem sg_shift_7 {φ : go_F} {l : Launch} {R : Room} {u : Nat × Nat} {h : mv_H} {n : Nat} {o : Nat} {X : mo_X} {D U : Nat → Int} {r k : Nat} {v : Int} (hm_m : MD h o X D U) (hr : r < 160) (hk : k < 40)
    (k0 : (k : Int) ≤ 0 → Go φ l m_mo_shift R u 41 [some (mv_R o), some (mv_I (r : Int)), some (mv_I v), some (mv_I (k : Int))] [] h n)
    (k1 : ¬ (k : Int) ≤ 0 → ∀ h' : mv_H, MD h' o X (va_up D ((40 * r) + k) (D (((40 * r) + k) - 1))) U → (∀ z_, (z_ < o ∨ o + 8 ≤ z_) → h' z_ = h z_) → Go φ l m_mo_shift R u 7 [some (mv_R o), some (mv_I (r : Int)), some (mv_I v), some (mv_I ((k : Int) + (-1)))] [] h' n) :
    Go φ l m_mo_shift R u 7 [some (mv_R o), some (mv_I (r : Int)), some (mv_I v), some (mv_I (k : Int))] [] h n := by
  refine go_iload_n (q := 8) d_mo_shift_7 rfl rfl rfl ?_
  refine go_if_le (t := 41) (q := 11) d_mo_shift_8 (by decide) rfl (by omega) (fun c1 => ?_) (fun c1 => ?_)
  ·
    exact k0 c1
  ·
    refine go_aload_n (q := 12) d_mo_shift_11 rfl rfl rfl ?_
    refine go_getf (q := 15) f_mo_17 d_mo_shift_12 rfl (MD_c0 hm_m) rfl ?_
    refine go_bipush (q := 17) d_mo_shift_15 rfl (by decide) ?_
    refine go_iload_n (q := 18) d_mo_shift_17 rfl rfl rfl ?_
    refine go_imul (q := 19) d_mo_shift_18 rfl ?_
    refine go_iload_n (q := 20) d_mo_shift_19 rfl rfl rfl ?_
    refine go_iadd (q := 21) d_mo_shift_20 rfl ?_
    refine go_aload_n (q := 22) d_mo_shift_21 rfl rfl rfl ?_
    refine go_getf (q := 25) f_mo_17 d_mo_shift_22 rfl (MD_c0 hm_m) rfl ?_
    refine go_bipush (q := 27) d_mo_shift_25 rfl (by decide) ?_
    refine go_iload_n (q := 28) d_mo_shift_27 rfl rfl rfl ?_
    refine go_imul (q := 29) d_mo_shift_28 rfl ?_
    refine go_iload_n (q := 30) d_mo_shift_29 rfl rfl rfl ?_
    refine go_iadd (q := 31) d_mo_shift_30 rfl ?_
    refine go_iconst (q := 32) d_mo_shift_31 rfl ?_
    refine go_isub (q := 33) d_mo_shift_32 rfl ?_
    refine go_iald (i := ((40 * r) + k) - 1) (q := 34) d_mo_shift_33 rfl (MD_c2 hm_m) (by omega) (by omega) (by omega) ?_
    refine go_iast (i := (40 * r) + k) (q := 35) d_mo_shift_34 rfl (MD_c2 hm_m) (by omega) (by omega) (by omega) ?_
    have hm_4 := MD_u2 hm_m (va_up D ((40 * r) + k) (D (((40 * r) + k) - 1)))
    have fr_3 : ∀ z_, z_ ≠ (o + 2) → va_up h (o + 2) (mv_A 0 6400 (va_up D ((40 * r) + k) (D (((40 * r) + k) - 1)))) z_ = h z_ := fun z_ hj => va_up_ne _ _ hj
    generalize va_up h (o + 2) (mv_A 0 6400 (va_up D ((40 * r) + k) (D (((40 * r) + k) - 1)))) = h_2 at hm_4 fr_3 ⊢
    refine go_iinc (q := 38) (L' := [some (mv_R o), some (mv_I (r : Int)), some (mv_I v), some (mv_I ((k : Int) + (-1)))]) d_mo_shift_35 rfl (by decide) rfl rfl ?_
    refine go_goto (q := 7) d_mo_shift_38 (by decide) ?_
    exact k1 c1 _ hm_4 (fun z_ g0 => (fr_3 z_ (by omega)))

set_option maxRecDepth 4000 in
theorem sg_shift_41 {φ : go_F} {l : Launch} {R : Room} {u : Nat × Nat} {h : mv_H} {n : Nat} {o : Nat} {X : mo_X} {D U : Nat → Int} {r k : Nat} {v : Int} (hm_m : MD h o X D U) (hr : r < 160)
    (k0 : ∀ h' : mv_H, MD h' o X (va_up D (40 * r) v) U → (∀ z_, (z_ < o ∨ o + 8 ≤ z_) → h' z_ = h z_) → Go φ l m_mo_shift R u 61 [some (mv_R o), some (mv_I (r : Int)), some (mv_I v), some (mv_I (k : Int))] [mv_I ((U r) + 1), mv_I (r : Int), mv_R o] h' n) :
    Go φ l m_mo_shift R u 41 [some (mv_R o), some (mv_I (r : Int)), some (mv_I v), some (mv_I (k : Int))] [] h n := by
  refine go_aload_n (q := 42) d_mo_shift_41 rfl rfl rfl ?_
  refine go_getf (q := 45) f_mo_17 d_mo_shift_42 rfl (MD_c0 hm_m) rfl ?_
  refine go_bipush (q := 47) d_mo_shift_45 rfl (by decide) ?_
  refine go_iload_n (q := 48) d_mo_shift_47 rfl rfl rfl ?_
  refine go_imul (q := 49) d_mo_shift_48 rfl ?_
  refine go_iload_n (q := 50) d_mo_shift_49 rfl rfl rfl ?_
  refine go_iast (i := 40 * r) (q := 51) d_mo_shift_50 rfl (MD_c2 hm_m) (by omega) (by omega) (by omega) ?_
  have hm_3 := MD_u2 hm_m (va_up D (40 * r) v)
  have fr_2 : ∀ z_, z_ ≠ (o + 2) → va_up h (o + 2) (mv_A 0 6400 (va_up D (40 * r) v)) z_ = h z_ := fun z_ hj => va_up_ne _ _ hj
  generalize va_up h (o + 2) (mv_A 0 6400 (va_up D (40 * r) v)) = h_1 at hm_3 fr_2 ⊢
  refine go_aload_n (q := 52) d_mo_shift_51 rfl rfl rfl ?_
  refine go_iload_n (q := 53) d_mo_shift_52 rfl rfl rfl ?_
  refine go_aload_n (q := 54) d_mo_shift_53 rfl rfl rfl ?_
  refine go_getf (q := 57) f_mo_20 d_mo_shift_54 rfl (MD_c0 hm_3) rfl ?_
  refine go_iload_n (q := 58) d_mo_shift_57 rfl rfl rfl ?_
  refine go_iald (i := r) (q := 59) d_mo_shift_58 rfl (MD_c3 hm_3) (by omega) (by omega) (by omega) ?_
  refine go_iconst (q := 60) d_mo_shift_59 rfl ?_
  refine go_iadd (q := 61) d_mo_shift_60 rfl ?_
  exact k0  _ hm_3 (fun z_ g0 => (fr_2 z_ (by omega)))

set_option maxRecDepth 4000 in
theorem sg_dsm_0 {φ : go_F} {l : Launch} {R : Room} {u : Nat × Nat} {h : mv_H} {n : Nat} {o : Nat} {X : mo_X} {D U : Nat → Int} {r : Nat} {y : Int} (hm_m : MD h o X D U) (hr : r < 160)
    (k0 : Go φ l m_mo_divideSmall R u 12 [some (mv_R o), some (mv_I (r : Int)), some (mv_I y), some (mv_I 0), some (mv_I ((U r) - 1)), none] [] h n) :
    Go φ l m_mo_divideSmall R u 0 [some (mv_R o), some (mv_I (r : Int)), some (mv_I y), none, none, none] [] h n := by
  refine go_iconst (q := 1) d_mo_divideSmall_0 rfl ?_
  refine go_istore_n (q := 2) (L' := [some (mv_R o), some (mv_I (r : Int)), some (mv_I y), some (mv_I 0), none, none]) d_mo_divideSmall_1 rfl rfl (by decide) rfl ?_
  refine go_aload_n (q := 3) d_mo_divideSmall_2 rfl rfl rfl ?_
  refine go_getf (q := 6) f_mo_20 d_mo_divideSmall_3 rfl (MD_c0 hm_m) rfl ?_
  refine go_iload_n (q := 7) d_mo_divideSmall_6 rfl rfl rfl ?_
  refine go_iald (i := r) (q := 8) d_mo_divideSmall_7 rfl (MD_c3 hm_m) (by omega) (by omega) (by omega) ?_
  refine go_iconst (q := 9) d_mo_divideSmall_8 rfl ?_
  refine go_isub (q := 10) d_mo_divideSmall_9 rfl ?_
  refine go_istore (q := 12) (L' := [some (mv_R o), some (mv_I (r : Int)), some (mv_I y), some (mv_I 0), some (mv_I ((U r) - 1)), none]) d_mo_divideSmall_10 rfl (by decide) rfl ?_
  exact k0 

set_option maxRecDepth 4000 in
theorem sg_dsm_12 {φ : go_F} {l : Launch} {R : Room} {u : Nat × Nat} {h : mv_H} {n : Nat} {o : Nat} {X : mo_X} {D U : Nat → Int} {r : Nat} {y e k : Int} (hm_m : MD h o X D U) (hr : r < 160) (hk : -1 ≤ k ∧ k < 40) (hy : 0 < y ∧ y ≤ 65536) (he : 0 ≤ e ∧ e < y) (hD : ∀ j, 0 ≤ D j ∧ D j ≤ 9999)
    (k0 : k < 0 → Go φ l m_mo_divideSmall R u 64 [some (mv_R o), some (mv_I (r : Int)), some (mv_I y), some (mv_I e), some (mv_I k), none] [] h n)
    (k1 : ¬ k < 0 → ∀ h' : mv_H, MD h' o X (va_up D (40 * r + k.toNat) (((e * 10000) + (D (40 * r + k.toNat))) / y)) U → (∀ z_, (z_ < o ∨ o + 8 ≤ z_) → h' z_ = h z_) → Go φ l m_mo_divideSmall R u 12 [some (mv_R o), some (mv_I (r : Int)), some (mv_I y), some (mv_I (((e * 10000) + (D (40 * r + k.toNat))) % y)), some (mv_I (k + (-1))), none] [] h' n) :
    Go φ l m_mo_divideSmall R u 12 [some (mv_R o), some (mv_I (r : Int)), some (mv_I y), some (mv_I e), some (mv_I k), none] [] h n := by
  refine go_iload (q := 14) d_mo_divideSmall_12 rfl rfl ?_
  refine go_if_lt (t := 64) (q := 17) d_mo_divideSmall_14 (by decide) rfl (by omega) (fun c1 => ?_) (fun c1 => ?_)
  ·
    exact k0 c1
  ·
    refine go_iload_n (q := 18) d_mo_divideSmall_17 rfl rfl rfl ?_
    refine go_sipush (q := 21) d_mo_divideSmall_18 rfl (by decide) ?_
    refine go_imul (q := 22) d_mo_divideSmall_21 rfl ?_
    refine go_aload_n (q := 23) d_mo_divideSmall_22 rfl rfl rfl ?_
    refine go_getf (q := 26) f_mo_17 d_mo_divideSmall_23 rfl (MD_c0 hm_m) rfl ?_
    refine go_bipush (q := 28) d_mo_divideSmall_26 rfl (by decide) ?_
    refine go_iload_n (q := 29) d_mo_divideSmall_28 rfl rfl rfl ?_
    refine go_imul (q := 30) d_mo_divideSmall_29 rfl ?_
    refine go_iload (q := 32) d_mo_divideSmall_30 rfl rfl ?_
    refine go_iadd (q := 33) d_mo_divideSmall_32 rfl ?_
    refine go_iald (i := 40 * r + k.toNat) (q := 34) d_mo_divideSmall_33 rfl (MD_c2 hm_m) (by omega) (by omega) (by omega) ?_
    have q_2 := hD (40 * r + k.toNat)
    refine go_iadd (q := 35) d_mo_divideSmall_34 rfl ?_
    refine go_istore (q := 37) (L' := [some (mv_R o), some (mv_I (r : Int)), some (mv_I y), some (mv_I e), some (mv_I k), some (mv_I ((e * 10000) + (D (40 * r + k.toNat))))]) d_mo_divideSmall_35 rfl (by decide) rfl ?_
    refine go_aload_n (q := 38) d_mo_divideSmall_37 rfl rfl rfl ?_
    refine go_getf (q := 41) f_mo_17 d_mo_divideSmall_38 rfl (MD_c0 hm_m) rfl ?_
    refine go_bipush (q := 43) d_mo_divideSmall_41 rfl (by decide) ?_
    refine go_iload_n (q := 44) d_mo_divideSmall_43 rfl rfl rfl ?_
    refine go_imul (q := 45) d_mo_divideSmall_44 rfl ?_
    refine go_iload (q := 47) d_mo_divideSmall_45 rfl rfl ?_
    refine go_iadd (q := 48) d_mo_divideSmall_47 rfl ?_
    refine go_iload (q := 50) d_mo_divideSmall_48 rfl rfl ?_
    refine go_iload_n (q := 51) d_mo_divideSmall_50 rfl rfl rfl ?_
    refine go_idiv (z := ((e * 10000) + (D (40 * r + k.toNat))) / y) (q := 52) d_mo_divideSmall_51 rfl (gn_ne0 (by omega)) (gn_div (by omega) (by omega)) ?_
    refine go_iast (i := 40 * r + k.toNat) (q := 53) d_mo_divideSmall_52 rfl (MD_c2 hm_m) (by omega) (by omega) (by omega) ?_
    have hm_5 := MD_u2 hm_m (va_up D (40 * r + k.toNat) (((e * 10000) + (D (40 * r + k.toNat))) / y))
    have fr_4 : ∀ z_, z_ ≠ (o + 2) → va_up h (o + 2) (mv_A 0 6400 (va_up D (40 * r + k.toNat) (((e * 10000) + (D (40 * r + k.toNat))) / y))) z_ = h z_ := fun z_ hj => va_up_ne _ _ hj
    generalize va_up h (o + 2) (mv_A 0 6400 (va_up D (40 * r + k.toNat) (((e * 10000) + (D (40 * r + k.toNat))) / y))) = h_3 at hm_5 fr_4 ⊢
    refine go_iload (q := 55) d_mo_divideSmall_53 rfl rfl ?_
    refine go_iload_n (q := 56) d_mo_divideSmall_55 rfl rfl rfl ?_
    refine go_irem (z := ((e * 10000) + (D (40 * r + k.toNat))) % y) (q := 57) d_mo_divideSmall_56 rfl (gn_ne0 (by omega)) (gn_rem (by omega) (by omega)) ?_
    refine go_istore_n (q := 58) (L' := [some (mv_R o), some (mv_I (r : Int)), some (mv_I y), some (mv_I (((e * 10000) + (D (40 * r + k.toNat))) % y)), some (mv_I k), some (mv_I ((e * 10000) + (D (40 * r + k.toNat))))]) d_mo_divideSmall_57 rfl rfl (by decide) rfl ?_
    refine go_iinc (q := 61) (L' := [some (mv_R o), some (mv_I (r : Int)), some (mv_I y), some (mv_I (((e * 10000) + (D (40 * r + k.toNat))) % y)), some (mv_I (k + (-1))), some (mv_I ((e * 10000) + (D (40 * r + k.toNat))))]) d_mo_divideSmall_58 rfl (by decide) rfl rfl ?_
    refine go_goto (q := 12) d_mo_divideSmall_61 (by decide) ?_
    refine go_fg 5 (L' := [some (mv_R o), some (mv_I (r : Int)), some (mv_I y), some (mv_I (((e * 10000) + (D (40 * r + k.toNat))) % y)), some (mv_I (k + (-1))), none]) rfl ?_
    exact k1 c1 _ hm_5 (fun z_ g0 => (fr_4 z_ (by omega)))

set_option maxRecDepth 4000 in
theorem sg_dsm_64 {φ : go_F} {l : Launch} {R : Room} {u : Nat × Nat} {h : mv_H} {n : Nat} {o : Nat} {X : mo_X} {D U : Nat → Int} {r : Nat} {y e k : Int} (hm_m : MD h o X D U) (hr : r < 160)
    (k0 : Go φ l m_mo_divideSmall R u 72 [some (mv_R o), some (mv_I (r : Int)), some (mv_I y), some (mv_I e), some (mv_I k), none] [mv_I (U r), mv_I (r : Int), mv_R o] h n) :
    Go φ l m_mo_divideSmall R u 64 [some (mv_R o), some (mv_I (r : Int)), some (mv_I y), some (mv_I e), some (mv_I k), none] [] h n := by
  refine go_aload_n (q := 65) d_mo_divideSmall_64 rfl rfl rfl ?_
  refine go_iload_n (q := 66) d_mo_divideSmall_65 rfl rfl rfl ?_
  refine go_aload_n (q := 67) d_mo_divideSmall_66 rfl rfl rfl ?_
  refine go_getf (q := 70) f_mo_20 d_mo_divideSmall_67 rfl (MD_c0 hm_m) rfl ?_
  refine go_iload_n (q := 71) d_mo_divideSmall_70 rfl rfl rfl ?_
  refine go_iald (i := r) (q := 72) d_mo_divideSmall_71 rfl (MD_c3 hm_m) (by omega) (by omega) (by omega) ?_
  exact k0 

set_option maxRecDepth 4000 in
theorem sg_dsm_75 {φ : go_F} {l : Launch} {R : Room} {u : Nat × Nat} {h : mv_H} {n : Nat} {o : Nat} {X : mo_X} {D U : Nat → Int} {r : Nat} {y e k : Int} (hm_m : MD h o X D U) 
    (k0 : Go φ l m_mo_divideSmall R u 76 [some (mv_R o), some (mv_I (r : Int)), some (mv_I y), some (mv_I e), some (mv_I k), none] [mv_I e] h n) :
    Go φ l m_mo_divideSmall R u 75 [some (mv_R o), some (mv_I (r : Int)), some (mv_I y), some (mv_I e), some (mv_I k), none] [] h n := by
  refine go_iload_n (q := 76) d_mo_divideSmall_75 rfl rfl rfl ?_
  exact k0 

set_option maxRecDepth 4000 in
theorem sg_times_0 {φ : go_F} {l : Launch} {R : Room} {u : Nat × Nat} {h : mv_H} {n : Nat} {o : Nat} {X : mo_X} {D U : Nat → Int} {b t : Nat} {y : Int} (hm_m : MD h o X D U) 
    (k0 : Go φ l m_mo_times R u 3 [some (mv_R o), some (mv_I (b : Int)), some (mv_I y), some (mv_I (t : Int)), none, none, none] [mv_I 0, mv_I (t : Int), mv_R o] h n) :
    Go φ l m_mo_times R u 0 [some (mv_R o), some (mv_I (b : Int)), some (mv_I y), some (mv_I (t : Int)), none, none, none] [] h n := by
  refine go_aload_n (q := 1) d_mo_times_0 rfl rfl rfl ?_
  refine go_iload_n (q := 2) d_mo_times_1 rfl rfl rfl ?_
  refine go_iconst (q := 3) d_mo_times_2 rfl ?_
  exact k0 

set_option maxRecDepth 4000 in
theorem sg_times_6 {φ : go_F} {l : Launch} {R : Room} {u : Nat × Nat} {h : mv_H} {n : Nat} {o : Nat} {X : mo_X} {D U : Nat → Int} {b t : Nat} {y : Int} (hm_m : MD h o X D U) 
    (k0 : Go φ l m_mo_times R u 12 [some (mv_R o), some (mv_I (b : Int)), some (mv_I y), some (mv_I (t : Int)), some (mv_I 0), some (mv_I 0), none] [] h n) :
    Go φ l m_mo_times R u 6 [some (mv_R o), some (mv_I (b : Int)), some (mv_I y), some (mv_I (t : Int)), none, none, none] [] h n := by
  refine go_iconst (q := 7) d_mo_times_6 rfl ?_
  refine go_istore (q := 9) (L' := [some (mv_R o), some (mv_I (b : Int)), some (mv_I y), some (mv_I (t : Int)), some (mv_I 0), none, none]) d_mo_times_7 rfl (by decide) rfl ?_
  refine go_iconst (q := 10) d_mo_times_9 rfl ?_
  refine go_istore (q := 12) (L' := [some (mv_R o), some (mv_I (b : Int)), some (mv_I y), some (mv_I (t : Int)), some (mv_I 0), some (mv_I 0), none]) d_mo_times_10 rfl (by decide) rfl ?_
  exact k0 

set_option maxRecDepth 4000 in
theorem sg_times_12 {φ : go_F} {l : Launch} {R : Room} {u : Nat × Nat} {h : mv_H} {n : Nat} {o : Nat} {X : mo_X} {D U : Nat → Int} {b t k : Nat} {y c : Int} (hm_m : MD h o X D U) (hb : b < 160) (ht : t < 160) (hk : k ≤ 40) (hc : 0 ≤ c ∧ c ≤ 9999) (hy : 0 ≤ y ∧ y ≤ 9999) (hkk : (k : Int) < U b ∨ 0 < c → k < 40) (hD : ∀ j, 0 ≤ D j ∧ D j ≤ 9999) (hU : ∀ j, 0 ≤ U j ∧ U j ≤ 40)
    (k0 : (k : Int) < U b → ∀ h' : mv_H, MD h' o X (va_up D ((40 * t) + k) ((((D ((40 * b) + k)) * y) + c) % 10000)) U → (∀ z_, (z_ < o ∨ o + 8 ≤ z_) → h' z_ = h z_) → Go φ l m_mo_times R u 12 [some (mv_R o), some (mv_I (b : Int)), some (mv_I y), some (mv_I (t : Int)), some (mv_I ((((D ((40 * b) + k)) * y) + c) / 10000)), some (mv_I ((k : Int) + 1)), none] [] h' n)
    (k1 : ¬ (k : Int) < U b → c ≤ 0 → Go φ l m_mo_times R u 94 [some (mv_R o), some (mv_I (b : Int)), some (mv_I y), some (mv_I (t : Int)), some (mv_I c), some (mv_I (k : Int)), none] [] h n)
    (k2 : ¬ (k : Int) < U b → ¬ c ≤ 0 → ∀ h' : mv_H, MD h' o X (va_up D ((40 * t) + k) ((0 + c) % 10000)) U → (∀ z_, (z_ < o ∨ o + 8 ≤ z_) → h' z_ = h z_) → Go φ l m_mo_times R u 12 [some (mv_R o), some (mv_I (b : Int)), some (mv_I y), some (mv_I (t : Int)), some (mv_I ((0 + c) / 10000)), some (mv_I ((k : Int) + 1)), none] [] h' n) :
    Go φ l m_mo_times R u 12 [some (mv_R o), some (mv_I (b : Int)), some (mv_I y), some (mv_I (t : Int)), some (mv_I c), some (mv_I (k : Int)), none] [] h n := by
  refine go_iload (q := 14) d_mo_times_12 rfl rfl ?_
  refine go_aload_n (q := 15) d_mo_times_14 rfl rfl rfl ?_
  refine go_getf (q := 18) f_mo_20 d_mo_times_15 rfl (MD_c0 hm_m) rfl ?_
  refine go_iload_n (q := 19) d_mo_times_18 rfl rfl rfl ?_
  refine go_iald (i := b) (q := 20) d_mo_times_19 rfl (MD_c3 hm_m) (by omega) (by omega) (by omega) ?_
  have q_1 := hU b
  refine go_icmp_lt (t := 28) (q := 23) d_mo_times_20 (by decide) rfl (by omega) (by omega) (fun c2 => ?_) (fun c2 => ?_)
  ·
    refine go_iload (q := 30) d_mo_times_28 rfl rfl ?_
    refine go_aload_n (q := 31) d_mo_times_30 rfl rfl rfl ?_
    refine go_getf (q := 34) f_mo_20 d_mo_times_31 rfl (MD_c0 hm_m) rfl ?_
    refine go_iload_n (q := 35) d_mo_times_34 rfl rfl rfl ?_
    refine go_iald (i := b) (q := 36) d_mo_times_35 rfl (MD_c3 hm_m) (by omega) (by omega) (by omega) ?_
    have q_3 := hU b
    refine go_icmp_ge (t := 56) (q := 39) d_mo_times_36 (by decide) rfl (by omega) (by omega) (fun c4 => ?_) (fun c4 => ?_)
    ·
      exfalso; omega
    ·
      refine go_aload_n (q := 40) d_mo_times_39 rfl rfl rfl ?_
      refine go_getf (q := 43) f_mo_17 d_mo_times_40 rfl (MD_c0 hm_m) rfl ?_
      refine go_bipush (q := 45) d_mo_times_43 rfl (by decide) ?_
      refine go_iload_n (q := 46) d_mo_times_45 rfl rfl rfl ?_
      refine go_imul (q := 47) d_mo_times_46 rfl ?_
      refine go_iload (q := 49) d_mo_times_47 rfl rfl ?_
      refine go_iadd (q := 50) d_mo_times_49 rfl ?_
      refine go_iald (i := (40 * b) + k) (q := 51) d_mo_times_50 rfl (MD_c2 hm_m) (by omega) (by omega) (by omega) ?_
      have q_5 := hD ((40 * b) + k)
      refine go_iload_n (q := 52) d_mo_times_51 rfl rfl rfl ?_
      refine go_imul (q := 53) d_mo_times_52 rfl ?_
      refine go_goto (q := 57) d_mo_times_53 (by decide) ?_
      refine go_iload (q := 59) d_mo_times_57 rfl rfl ?_
      refine go_iadd (q := 60) d_mo_times_59 rfl ?_
      have hp_ := gn_mul9 (hD ((40 * b) + k)) hy
      refine go_istore (q := 62) (L' := [some (mv_R o), some (mv_I (b : Int)), some (mv_I y), some (mv_I (t : Int)), some (mv_I c), some (mv_I (k : Int)), some (mv_I (((D ((40 * b) + k)) * y) + c))]) d_mo_times_60 rfl (by decide) rfl ?_
      refine go_aload_n (q := 63) d_mo_times_62 rfl rfl rfl ?_
      refine go_getf (q := 66) f_mo_17 d_mo_times_63 rfl (MD_c0 hm_m) rfl ?_
      refine go_bipush (q := 68) d_mo_times_66 rfl (by decide) ?_
      refine go_iload_n (q := 69) d_mo_times_68 rfl rfl rfl ?_
      refine go_imul (q := 70) d_mo_times_69 rfl ?_
      refine go_iload (q := 72) d_mo_times_70 rfl rfl ?_
      refine go_iadd (q := 73) d_mo_times_72 rfl ?_
      refine go_iload (q := 75) d_mo_times_73 rfl rfl ?_
      refine go_sipush (q := 78) d_mo_times_75 rfl (by decide) ?_
      refine go_irem (z := (((D ((40 * b) + k)) * y) + c) % 10000) (q := 79) d_mo_times_78 rfl (gn_ne0 (by omega)) (gn_rem (by omega) (by omega)) ?_
      refine go_iast (i := (40 * t) + k) (q := 80) d_mo_times_79 rfl (MD_c2 hm_m) (by omega) (by omega) (by omega) ?_
      have hm_8 := MD_u2 hm_m (va_up D ((40 * t) + k) ((((D ((40 * b) + k)) * y) + c) % 10000))
      have fr_7 : ∀ z_, z_ ≠ (o + 2) → va_up h (o + 2) (mv_A 0 6400 (va_up D ((40 * t) + k) ((((D ((40 * b) + k)) * y) + c) % 10000))) z_ = h z_ := fun z_ hj => va_up_ne _ _ hj
      generalize va_up h (o + 2) (mv_A 0 6400 (va_up D ((40 * t) + k) ((((D ((40 * b) + k)) * y) + c) % 10000))) = h_6 at hm_8 fr_7 ⊢
      refine go_iload (q := 82) d_mo_times_80 rfl rfl ?_
      refine go_sipush (q := 85) d_mo_times_82 rfl (by decide) ?_
      refine go_idiv (z := (((D ((40 * b) + k)) * y) + c) / 10000) (q := 86) d_mo_times_85 rfl (gn_ne0 (by omega)) (gn_div (by omega) (by omega)) ?_
      refine go_istore (q := 88) (L' := [some (mv_R o), some (mv_I (b : Int)), some (mv_I y), some (mv_I (t : Int)), some (mv_I ((((D ((40 * b) + k)) * y) + c) / 10000)), some (mv_I (k : Int)), some (mv_I (((D ((40 * b) + k)) * y) + c))]) d_mo_times_86 rfl (by decide) rfl ?_
      refine go_iinc (q := 91) (L' := [some (mv_R o), some (mv_I (b : Int)), some (mv_I y), some (mv_I (t : Int)), some (mv_I ((((D ((40 * b) + k)) * y) + c) / 10000)), some (mv_I ((k : Int) + 1)), some (mv_I (((D ((40 * b) + k)) * y) + c))]) d_mo_times_88 rfl (by decide) rfl rfl ?_
      refine go_goto (q := 12) d_mo_times_91 (by decide) ?_
      refine go_fg 6 (L' := [some (mv_R o), some (mv_I (b : Int)), some (mv_I y), some (mv_I (t : Int)), some (mv_I ((((D ((40 * b) + k)) * y) + c) / 10000)), some (mv_I ((k : Int) + 1)), none]) rfl ?_
      exact k0 c2 _ hm_8 (fun z_ g0 => (fr_7 z_ (by omega)))
  ·
    refine go_iload (q := 25) d_mo_times_23 rfl rfl ?_
    refine go_if_le (t := 94) (q := 28) d_mo_times_25 (by decide) rfl (by omega) (fun c9 => ?_) (fun c9 => ?_)
    ·
      exact k1 c2 c9
    ·
      refine go_iload (q := 30) d_mo_times_28 rfl rfl ?_
      refine go_aload_n (q := 31) d_mo_times_30 rfl rfl rfl ?_
      refine go_getf (q := 34) f_mo_20 d_mo_times_31 rfl (MD_c0 hm_m) rfl ?_
      refine go_iload_n (q := 35) d_mo_times_34 rfl rfl rfl ?_
      refine go_iald (i := b) (q := 36) d_mo_times_35 rfl (MD_c3 hm_m) (by omega) (by omega) (by omega) ?_
      have q_10 := hU b
      refine go_icmp_ge (t := 56) (q := 39) d_mo_times_36 (by decide) rfl (by omega) (by omega) (fun c11 => ?_) (fun c11 => ?_)
      ·
        refine go_iconst (q := 57) d_mo_times_56 rfl ?_
        refine go_iload (q := 59) d_mo_times_57 rfl rfl ?_
        refine go_iadd (q := 60) d_mo_times_59 rfl ?_
        have hp_ := gn_mul9 (hD ((40 * b) + k)) hy
        refine go_istore (q := 62) (L' := [some (mv_R o), some (mv_I (b : Int)), some (mv_I y), some (mv_I (t : Int)), some (mv_I c), some (mv_I (k : Int)), some (mv_I (0 + c))]) d_mo_times_60 rfl (by decide) rfl ?_
        refine go_aload_n (q := 63) d_mo_times_62 rfl rfl rfl ?_
        refine go_getf (q := 66) f_mo_17 d_mo_times_63 rfl (MD_c0 hm_m) rfl ?_
        refine go_bipush (q := 68) d_mo_times_66 rfl (by decide) ?_
        refine go_iload_n (q := 69) d_mo_times_68 rfl rfl rfl ?_
        refine go_imul (q := 70) d_mo_times_69 rfl ?_
        refine go_iload (q := 72) d_mo_times_70 rfl rfl ?_
        refine go_iadd (q := 73) d_mo_times_72 rfl ?_
        refine go_iload (q := 75) d_mo_times_73 rfl rfl ?_
        refine go_sipush (q := 78) d_mo_times_75 rfl (by decide) ?_
        refine go_irem (z := (0 + c) % 10000) (q := 79) d_mo_times_78 rfl (gn_ne0 (by omega)) (gn_rem (by omega) (by omega)) ?_
        refine go_iast (i := (40 * t) + k) (q := 80) d_mo_times_79 rfl (MD_c2 hm_m) (by omega) (by omega) (by omega) ?_
        have hm_14 := MD_u2 hm_m (va_up D ((40 * t) + k) ((0 + c) % 10000))
        have fr_13 : ∀ z_, z_ ≠ (o + 2) → va_up h (o + 2) (mv_A 0 6400 (va_up D ((40 * t) + k) ((0 + c) % 10000))) z_ = h z_ := fun z_ hj => va_up_ne _ _ hj
        generalize va_up h (o + 2) (mv_A 0 6400 (va_up D ((40 * t) + k) ((0 + c) % 10000))) = h_12 at hm_14 fr_13 ⊢
        refine go_iload (q := 82) d_mo_times_80 rfl rfl ?_
        refine go_sipush (q := 85) d_mo_times_82 rfl (by decide) ?_
        refine go_idiv (z := (0 + c) / 10000) (q := 86) d_mo_times_85 rfl (gn_ne0 (by omega)) (gn_div (by omega) (by omega)) ?_
        refine go_istore (q := 88) (L' := [some (mv_R o), some (mv_I (b : Int)), some (mv_I y), some (mv_I (t : Int)), some (mv_I ((0 + c) / 10000)), some (mv_I (k : Int)), some (mv_I (0 + c))]) d_mo_times_86 rfl (by decide) rfl ?_
        refine go_iinc (q := 91) (L' := [some (mv_R o), some (mv_I (b : Int)), some (mv_I y), some (mv_I (t : Int)), some (mv_I ((0 + c) / 10000)), some (mv_I ((k : Int) + 1)), some (mv_I (0 + c))]) d_mo_times_88 rfl (by decide) rfl rfl ?_
        refine go_goto (q := 12) d_mo_times_91 (by decide) ?_
        refine go_fg 6 (L' := [some (mv_R o), some (mv_I (b : Int)), some (mv_I y), some (mv_I (t : Int)), some (mv_I ((0 + c) / 10000)), some (mv_I ((k : Int) + 1)), none]) rfl ?_
        exact k2 c2 c9 _ hm_14 (fun z_ g0 => (fr_13 z_ (by omega)))
      ·
        exfalso; omega

set_option maxRecDepth 4000 in
theorem sg_times_94 {φ : go_F} {l : Launch} {R : Room} {u : Nat × Nat} {h : mv_H} {n : Nat} {o : Nat} {X : mo_X} {D U : Nat → Int} {b t k : Nat} {y c : Int} (hm_m : MD h o X D U) 
    (k0 : Go φ l m_mo_times R u 98 [some (mv_R o), some (mv_I (b : Int)), some (mv_I y), some (mv_I (t : Int)), some (mv_I c), some (mv_I (k : Int)), none] [mv_I 40, mv_I (t : Int), mv_R o] h n) :
    Go φ l m_mo_times R u 94 [some (mv_R o), some (mv_I (b : Int)), some (mv_I y), some (mv_I (t : Int)), some (mv_I c), some (mv_I (k : Int)), none] [] h n := by
  refine go_aload_n (q := 95) d_mo_times_94 rfl rfl rfl ?_
  refine go_iload_n (q := 96) d_mo_times_95 rfl rfl rfl ?_
  refine go_bipush (q := 98) d_mo_times_96 rfl (by decide) ?_
  exact k0 

set_option maxRecDepth 4000 in
theorem sg_isOne_0 {φ : go_F} {l : Launch} {R : Room} {u : Nat × Nat} {h : mv_H} {n : Nat} {o : Nat} {X : mo_X} {D U : Nat → Int} {r : Nat} (hm_m : MD h o X D U) (hr : r < 160) (hD : ∀ j, 0 ≤ D j ∧ D j ≤ 9999) (hU : ∀ j, 0 ≤ U j ∧ U j ≤ 40)
    (k0 : ¬ U r = 1 → Go φ l m_mo_isOne R u 28 [some (mv_R o), some (mv_I (r : Int))] [mv_I 0] h n)
    (k1 : U r = 1 → ¬ D (40 * r) = 1 → Go φ l m_mo_isOne R u 28 [some (mv_R o), some (mv_I (r : Int))] [mv_I 0] h n)
    (k2 : U r = 1 → D (40 * r) = 1 → Go φ l m_mo_isOne R u 28 [some (mv_R o), some (mv_I (r : Int))] [mv_I 1] h n) :
    Go φ l m_mo_isOne R u 0 [some (mv_R o), some (mv_I (r : Int))] [] h n := by
  refine go_aload_n (q := 1) d_mo_isOne_0 rfl rfl rfl ?_
  refine go_getf (q := 4) f_mo_20 d_mo_isOne_1 rfl (MD_c0 hm_m) rfl ?_
  refine go_iload_n (q := 5) d_mo_isOne_4 rfl rfl rfl ?_
  refine go_iald (i := r) (q := 6) d_mo_isOne_5 rfl (MD_c3 hm_m) (by omega) (by omega) (by omega) ?_
  have q_1 := hU r
  refine go_iconst (q := 7) d_mo_isOne_6 rfl ?_
  refine go_icmp_ne (t := 27) (q := 10) d_mo_isOne_7 (by decide) rfl (by omega) (by omega) (fun c2 => ?_) (fun c2 => ?_)
  ·
    refine go_iconst (q := 28) d_mo_isOne_27 rfl ?_
    exact k0 c2
  ·
    refine go_aload_n (q := 11) d_mo_isOne_10 rfl rfl rfl ?_
    refine go_getf (q := 14) f_mo_17 d_mo_isOne_11 rfl (MD_c0 hm_m) rfl ?_
    refine go_bipush (q := 16) d_mo_isOne_14 rfl (by decide) ?_
    refine go_iload_n (q := 17) d_mo_isOne_16 rfl rfl rfl ?_
    refine go_imul (q := 18) d_mo_isOne_17 rfl ?_
    refine go_iald (i := 40 * r) (q := 19) d_mo_isOne_18 rfl (MD_c2 hm_m) (by omega) (by omega) (by omega) ?_
    have q_3 := hD (40 * r)
    refine go_iconst (q := 20) d_mo_isOne_19 rfl ?_
    refine go_icmp_ne (t := 27) (q := 23) d_mo_isOne_20 (by decide) rfl (by omega) (by omega) (fun c4 => ?_) (fun c4 => ?_)
    ·
      refine go_iconst (q := 28) d_mo_isOne_27 rfl ?_
      exact k1 c2 c4
    ·
      refine go_iconst (q := 24) d_mo_isOne_23 rfl ?_
      refine go_goto (q := 28) d_mo_isOne_24 (by decide) ?_
      exact k2 c2 c4

set_option maxRecDepth 4000 in
theorem sg_isEven_0 {φ : go_F} {l : Launch} {R : Room} {u : Nat × Nat} {h : mv_H} {n : Nat} {o : Nat} {X : mo_X} {D U : Nat → Int} {r : Nat} (hm_m : MD h o X D U) (hr : r < 160) (hD : ∀ j, 0 ≤ D j ∧ D j ≤ 9999)
    (k0 : ¬ (D (40 * r)) % 2 = 0 → Go φ l m_mo_isEven R u 19 [some (mv_R o), some (mv_I (r : Int))] [mv_I 0] h n)
    (k1 : (D (40 * r)) % 2 = 0 → Go φ l m_mo_isEven R u 19 [some (mv_R o), some (mv_I (r : Int))] [mv_I 1] h n) :
    Go φ l m_mo_isEven R u 0 [some (mv_R o), some (mv_I (r : Int))] [] h n := by
  refine go_aload_n (q := 1) d_mo_isEven_0 rfl rfl rfl ?_
  refine go_getf (q := 4) f_mo_17 d_mo_isEven_1 rfl (MD_c0 hm_m) rfl ?_
  refine go_bipush (q := 6) d_mo_isEven_4 rfl (by decide) ?_
  refine go_iload_n (q := 7) d_mo_isEven_6 rfl rfl rfl ?_
  refine go_imul (q := 8) d_mo_isEven_7 rfl ?_
  refine go_iald (i := 40 * r) (q := 9) d_mo_isEven_8 rfl (MD_c2 hm_m) (by omega) (by omega) (by omega) ?_
  have q_1 := hD (40 * r)
  refine go_iconst (q := 10) d_mo_isEven_9 rfl ?_
  refine go_irem (z := (D (40 * r)) % 2) (q := 11) d_mo_isEven_10 rfl (gn_ne0 (by omega)) (gn_rem (by omega) (by omega)) ?_
  refine go_if_ne (t := 18) (q := 14) d_mo_isEven_11 (by decide) rfl (by omega) (fun c2 => ?_) (fun c2 => ?_)
  ·
    refine go_iconst (q := 19) d_mo_isEven_18 rfl ?_
    exact k0 c2
  ·
    refine go_iconst (q := 15) d_mo_isEven_14 rfl ?_
    refine go_goto (q := 19) d_mo_isEven_15 (by decide) ?_
    exact k1 c2

