/-! Grammar: the automaton, and the class's faultOf -/
abbrev ga_S : Type := Int × Nat × (Nat → Int) × (Nat → Int)
def ga_part (o : Nat) (g b : Nat → Int) (c : Int) : ga_S :=
  if o = 0 then (5, o, g, b)
  else if c = 32 ∧ b (o - 1) < cx_mostI (g (o - 1)).toNat then (0, o, g, va_up b (o - 1) (b (o - 1) + 1))
  else if c = 41 ∧ cx_fewI (g (o - 1)).toNat ≤ b (o - 1) then (4, o - 1, g, b)
  else (5, o, g, b)
def ga_start (o : Nat) (c : Int) : Int := if 48 ≤ c ∧ c ≤ 57 then 3 else if 97 ≤ c ∧ c ≤ 104 then 4 else if c = 45 then 2 else if c = 40 ∧ o < 12 then 1 else 5
def ga_op (o : Nat) (g b : Nat → Int) (c : Int) : ga_S := if opx_ c 0 13 < 0 then (5, o, g, b) else (4, o + 1, va_up g o (opx_ c 0 13), va_up b o 0)
def ga_step (s : Int) (o : Nat) (g b : Nat → Int) (c : Int) : ga_S :=
  if s = 0 then (ga_start o c, o, g, b)
  else if s = 1 then ga_op o g b c
  else if s = 2 then (if 48 ≤ c ∧ c ≤ 57 then 3 else 5, o, g, b)
  else if s = 3 ∧ 48 ≤ c ∧ c ≤ 57 then (3, o, g, b)
  else ga_part o g b c
/-- what the automaton answers from the place len - k on -/
def gr_ (t : Nat → Int) (len : Nat) : Nat → Int → Nat → (Nat → Int) → (Nat → Int) → Int
  | 0, s, o, _, _ => if o = 0 ∧ (s = 3 ∨ s = 4) then -1 else (len : Int)
  | k + 1, s, o, g, b =>
    if (ga_step s o g b (t (len - (k + 1)))).1 = 5 then ((len - (k + 1) : Nat) : Int)
    else gr_ t len k (ga_step s o g b (t (len - (k + 1)))).1 (ga_step s o g b (t (len - (k + 1)))).2.1 (ga_step s o g b (t (len - (k + 1)))).2.2.1 (ga_step s o g b (t (len - (k + 1)))).2.2.2
def ga_ok (s : Int) (o : Nat) (g b : Nat → Int) : Prop := (0 ≤ s ∧ s ≤ 4) ∧ (o ≤ 12 ∧ (s = 1 → o < 12)) ∧ (∀ i, 0 ≤ g i ∧ g i ≤ 12) ∧ ∀ i, 0 ≤ b i ∧ b i ≤ 120
theorem opx_b {c : Int} : ∀ (k i : Nat), -1 ≤ opx_ c i k ∧ opx_ c i k < (i + k : Nat) ∧ (0 ≤ opx_ c i k → (i : Int) ≤ opx_ c i k ∧ cx_opsI (opx_ c i k).toNat = c)
  | 0, i => by
    refine ⟨by show (-1 : Int) ≤ -1; omega, by show (-1 : Int) < _; omega, fun h => absurd h (by show ¬ (0 : Int) ≤ -1; omega)⟩
  | k + 1, i => by
    by_cases h : cx_opsI i = c
    · have e : opx_ c i (k + 1) = (i : Int) := if_pos h
      rw [e]
      exact ⟨by omega, by omega, fun _ => ⟨by omega, by rw [Int.toNat_natCast]; exact h⟩⟩
    · have e : opx_ c i (k + 1) = opx_ c (i + 1) k := if_neg h
      rw [e]
      obtain ⟨h1, h2, h3⟩ := opx_b k (i + 1)
      exact ⟨h1, by omega, fun z => ⟨by have := (h3 z).1; omega, (h3 z).2⟩⟩
theorem ga_up {f : Nat → Int} {i : Nat} {x lo hi : Int} (h : ∀ i, lo ≤ f i ∧ f i ≤ hi) (hx : lo ≤ x ∧ x ≤ hi) : ∀ j, lo ≤ va_up f i x j ∧ va_up f i x j ≤ hi := by
  intro j
  unfold va_up
  split
  · exact hx
  · exact h j
theorem ga_inv {s : Int} {o : Nat} {g b : Nat → Int} {c : Int} (h : ga_ok s o g b) (hn : (ga_step s o g b c).1 ≠ 5) : ga_ok (ga_step s o g b c).1 (ga_step s o g b c).2.1 (ga_step s o g b c).2.2.1 (ga_step s o g b c).2.2.2 := by
  obtain ⟨h1, h2, h3, h4⟩ := h
  have part : (ga_part o g b c).1 ≠ 5 → ga_ok (ga_part o g b c).1 (ga_part o g b c).2.1 (ga_part o g b c).2.2.1 (ga_part o g b c).2.2.2 := by
    intro hp
    unfold ga_part at hp ⊢
    by_cases c0 : o = 0
    · rw [if_pos c0] at hp
      exact absurd rfl hp
    · rw [if_neg c0] at hp ⊢
      by_cases c1 : c = 32 ∧ b (o - 1) < cx_mostI (g (o - 1)).toNat
      · rw [if_pos c1]
        have := h3 (o - 1)
        have := h4 (o - 1)
        have := cx_BM (g (o - 1)).toNat (by omega)
        exact ⟨by show (0 : Int) ≤ 0 ∧ (0 : Int) ≤ 4; omega, ⟨h2.1, fun z => absurd z (show ¬ (0 : Int) = 1 by decide)⟩, h3, ga_up h4 (by omega)⟩
      · rw [if_neg c1] at hp ⊢
        by_cases c2 : c = 41 ∧ cx_fewI (g (o - 1)).toNat ≤ b (o - 1)
        · rw [if_pos c2]
          exact ⟨by show (0 : Int) ≤ 4 ∧ (4 : Int) ≤ 4; omega, ⟨by show o - 1 ≤ 12; omega, fun z => absurd z (show ¬ (4 : Int) = 1 by decide)⟩, h3, h4⟩
        · rw [if_neg c2] at hp
          exact absurd rfl hp
  unfold ga_step at hn ⊢
  by_cases s0 : s = 0
  · rw [if_pos s0] at hn ⊢
    unfold ga_start at hn ⊢
    show (0 ≤ _ ∧ _ ≤ (4 : Int)) ∧ (o ≤ 12 ∧ (_ = (1 : Int) → o < 12)) ∧ (∀ i, 0 ≤ g i ∧ g i ≤ 12) ∧ ∀ i, 0 ≤ b i ∧ b i ≤ 120
    refine ⟨?_, ⟨h2.1, ?_⟩, h3, h4⟩
    · show 0 ≤ (if 48 ≤ c ∧ c ≤ 57 then (3 : Int) else if 97 ≤ c ∧ c ≤ 104 then 4 else if c = 45 then 2 else if c = 40 ∧ o < 12 then 1 else 5) ∧ (if 48 ≤ c ∧ c ≤ 57 then (3 : Int) else if 97 ≤ c ∧ c ≤ 104 then 4 else if c = 45 then 2 else if c = 40 ∧ o < 12 then 1 else 5) ≤ 4
      change (if 48 ≤ c ∧ c ≤ 57 then (3 : Int) else if 97 ≤ c ∧ c ≤ 104 then 4 else if c = 45 then 2 else if c = 40 ∧ o < 12 then 1 else 5) ≠ 5 at hn
      split
      · omega
      · split
        · omega
        · split
          · omega
          · split
            · omega
            · next a1 a2 a3 a4 => rw [if_neg a1, if_neg a2, if_neg a3, if_neg a4] at hn; exact absurd rfl hn
    · show (if 48 ≤ c ∧ c ≤ 57 then (3 : Int) else if 97 ≤ c ∧ c ≤ 104 then 4 else if c = 45 then 2 else if c = 40 ∧ o < 12 then 1 else 5) = 1 → o < 12
      intro z
      by_cases a4 : c = 40 ∧ o < 12
      · exact a4.2
      · rw [if_neg a4] at z
        split at z
        · exact absurd z (by decide)
        · split at z
          · exact absurd z (by decide)
          · split at z <;> exact absurd z (by decide)
  · rw [if_neg s0] at hn ⊢
    by_cases s1 : s = 1
    · rw [if_pos s1] at hn ⊢
      have ho := h2.2 s1
      unfold ga_op at hn ⊢
      obtain ⟨x1, x2, x3⟩ := opx_b (c := c) 13 0
      by_cases c1 : opx_ c 0 13 < 0
      · rw [if_pos c1] at hn
        exact absurd rfl hn
      · rw [if_neg c1]
        exact ⟨by show (0 : Int) ≤ 4 ∧ (4 : Int) ≤ 4; omega, ⟨by show o + 1 ≤ 12; omega, fun z => absurd z (show ¬ (4 : Int) = 1 by decide)⟩, ga_up h3 (by omega), ga_up h4 (by omega)⟩
    · rw [if_neg s1] at hn ⊢
      by_cases s2 : s = 2
      · rw [if_pos s2] at hn ⊢
        by_cases c1 : 48 ≤ c ∧ c ≤ 57
        · rw [if_pos c1]
          exact ⟨by show (0 : Int) ≤ 3 ∧ (3 : Int) ≤ 4; omega, ⟨h2.1, fun z => absurd z (show ¬ (3 : Int) = 1 by decide)⟩, h3, h4⟩
        · rw [if_neg c1] at hn
          exact absurd rfl hn
      · rw [if_neg s2] at hn ⊢
        by_cases c1 : s = 3 ∧ 48 ≤ c ∧ c ≤ 57
        · rw [if_pos c1]
          exact ⟨by show (0 : Int) ≤ 3 ∧ (3 : Int) ≤ 4; omega, ⟨h2.1, fun z => absurd z (show ¬ (3 : Int) = 1 by decide)⟩, h3, h4⟩
        · rw [if_neg c1] at hn ⊢
          exact part hn
section GrVal
variable {φ : go_F} {l : Launch} {h : mv_H} {n : Nat} {I tx wr ga gb mo mf mg : Nat → Int} {B : Nat → Int} {V : Nat → Nat}
/-- the object behind a step of the automaton -/
def gq_ (h : mv_H) (n : Nat) (I tx wr mo mf mg : Nat → Int) (B : Nat → Int) (V : Nat → Nat) (x : ga_S) (w : Option mv_V) (h' : mv_H) (n' : Nat) : Prop :=
  w = some (mv_I x.1) ∧ n' = n ∧ fr_ 1 389 h h' ∧ ∃ I' : Nat → Int, I' 3 = (x.2.1 : Int) ∧ (∀ i, i ≠ 3 → I' i = I i) ∧ pn_V h' (I', tx, wr, x.2.2.1, x.2.2.2, mo, mf, mg) B V
theorem tg_start {c : Int} {o : Nat} (hV : pn_V h (I, tx, wr, ga, gb, mo, mf, mg) B V) (hc : 0 ≤ c ∧ c ≤ 127) (hI : I 3 = (o : Int)) (ho : o ≤ 12) : Fn l m_gr_behindStart rd_gr_behindStart rw_gr_behindStart 0 0 [mv_R 12, mv_I c] h n
    (fun w h' n' => w = some (mv_I (ga_start o c)) ∧ n' = n ∧ h' = h) := by
  refine fn_of rfl (Nat.le_of_ble_eq_true rfl) rfl ?_
  unfold ga_start
  refine sg_start hV hc (by omega) (fun c1 c2 c3 c4 => ?_) (fun c1 c2 c3 c4 c5 => ?_) (fun c1 c2 c3 c4 c5 => ?_) (fun c1 c2 c3 => ?_) (fun c1 c2 => ?_) (fun c1 => ?_)
  · exact go_iret d_gr_behindStart_46 rfl go_le0 ⟨by rw [if_neg c1, if_neg c2, if_neg c3, if_neg (by omega)], rfl, rfl⟩
  · exact go_iret d_gr_behindStart_46 rfl go_le0 ⟨by rw [if_neg c1, if_neg c2, if_neg c3, if_neg (by omega)], rfl, rfl⟩
  · exact go_iret d_gr_behindStart_46 rfl go_le0 ⟨by rw [if_neg c1, if_neg c2, if_neg c3, if_pos (by omega)], rfl, rfl⟩
  · exact go_iret d_gr_behindStart_25 rfl go_le0 ⟨by rw [if_neg c1, if_neg c2, if_pos c3], rfl, rfl⟩
  · exact go_iret d_gr_behindStart_17 rfl go_le0 ⟨by rw [if_neg c1, if_pos c2], rfl, rfl⟩
  · exact go_iret d_gr_behindStart_8 rfl go_le0 ⟨by rw [if_pos c1], rfl, rfl⟩
theorem tg_op {c : Int} {o : Nat} (hV : pn_V h (I, tx, wr, ga, gb, mo, mf, mg) B V) (hc : 0 ≤ c ∧ c ≤ 127) (hI : I 3 = (o : Int)) (ho : o < 12) : Fn l m_gr_behindOperator rd_gr_behindOperator rw_gr_behindOperator 0 0 [mv_R 12, mv_I c] h n
    (gq_ h n I tx wr mo mf mg B V (ga_op o ga gb c)) := by
  refine fn_of rfl (Nat.le_of_ble_eq_true rfl) rfl ?_
  refine go_ldcS (q := 2) rfl d_gr_behindOperator_0 rfl ?_
  refine go_iload_n (q := 3) d_gr_behindOperator_2 rfl rfl rfl ?_
  refine go_callX (M' := m_jString_indexOf0) (d := 3) (w := 70) (mc := 0) (ms := 0) (as := [mv_I c]) (rest := []) (q := 6) rfl g_jString_indexOf0 i_jString_indexOf0 v_jString_indexOf0 l_gr_45 d_gr_behindOperator_3 rfl rfl rfl (by decide) ⟨by decide, by decide, by decide, by decide⟩ (tj_io0 hc) ?_
  rintro v h1 n1 ⟨rfl, rfl, rfl⟩ -
  obtain ⟨x1, x2, x3⟩ := opx_b (c := c) 13 0
  refine go_u0 (sg_op_6 hV ⟨x1, by omega⟩ (by omega) (fun c1 h2 hV2 hf2 => ?_) (fun c1 => ?_))
  · have e : ga_op o ga gb c = (4, o + 1, va_up ga o (opx_ c 0 13), va_up gb o 0) := if_neg (by omega)
    rw [e]
    have eo : (I 3).toNat = o := by omega
    rw [eo] at hV2
    exact go_iret d_gr_behindOperator_44 rfl go_le0 ⟨rfl, rfl, hf2, va_up I 3 (I 3 + 1), by rw [va_up_self]; show I 3 + 1 = ((o + 1 : Nat) : Int); omega, fun i hi => va_up_ne _ _ hi, hV2⟩
  · have e : ga_op o ga gb c = (5, o, ga, gb) := if_pos (by omega)
    rw [e]
    exact go_iret d_gr_behindOperator_12 rfl go_le0 ⟨rfl, rfl, fr_.rf, I, hI, fun _ _ => rfl, hV⟩
theorem tg_part {c : Int} {o : Nat} (hV : pn_V h (I, tx, wr, ga, gb, mo, mf, mg) B V) (hc : 0 ≤ c ∧ c ≤ 127) (hI : I 3 = (o : Int)) (ho : o ≤ 12) (hg : ∀ i, 0 ≤ ga i ∧ ga i ≤ 12) (hb : ∀ i, 0 ≤ gb i ∧ gb i ≤ 120) : Fn l m_gr_behindPart rd_gr_behindPart rw_gr_behindPart 0 0 [mv_R 12, mv_I c] h n
    (gq_ h n I tx wr mo mf mg B V (ga_part o ga gb c)) := by
  refine fn_of rfl (Nat.le_of_ble_eq_true rfl) rfl ?_
  have eo : (I 3).toNat = o := by omega
  unfold ga_part
  refine sg_part_0 hV hc (by omega) (fun c0 => ?_) (fun c0 => ?_)
  · rw [if_neg (by omega), eo]
    have g1 := hg (o - 1)
    have b1 := hb (o - 1)
    have bad : ¬ (c = 32 ∧ gb (o - 1) < cx_mostI (ga (o - 1)).toNat) → ¬ (c = 41 ∧ cx_fewI (ga (o - 1)).toNat ≤ gb (o - 1)) → Go (go_f 0 0 (gq_ h n I tx wr mo mf mg B V (if c = 32 ∧ gb (o - 1) < cx_mostI (ga (o - 1)).toNat then (0, o, ga, va_up gb (o - 1) (gb (o - 1) + 1)) else if c = 41 ∧ cx_fewI (ga (o - 1)).toNat ≤ gb (o - 1) then (4, o - 1, ga, gb) else (5, o, ga, gb)))) l m_gr_behindPart (go_rm rd_gr_behindPart rw_gr_behindPart 0 0) (0, 0) 93 [some (mv_R 12), some (mv_I c), some (mv_I (ga (o - 1))), some (mv_I (gb (o - 1)))] [mv_I 5] h n := by
      intro k1 k2
      rw [if_neg k1, if_neg k2]
      exact go_iret d_gr_behindPart_93 rfl go_le0 ⟨rfl, rfl, fr_.rf, I, hI, fun _ _ => rfl, hV⟩
    refine sg_part_33 hV hc (by omega) g1 b1 (fun c1 c2 => bad (by omega) (by omega)) (fun c1 c2 c3 => bad (by omega) (by omega)) (fun c1 c2 c3 h1 hV1 hf1 => ?_) (fun c1 c2 c3 => bad (by omega) (by omega)) (fun c1 c2 c3 c4 => bad (by omega) (by omega)) (fun c1 c2 c3 => absurd c3 (by omega)) (fun c1 c2 h1 hV1 hf1 => ?_)
    · rw [if_neg (by omega), if_pos ⟨c2, by omega⟩]
      exact go_iret d_gr_behindPart_91 rfl go_le0 ⟨rfl, rfl, hf1, va_up I 3 (I 3 - 1), by rw [va_up_self]; show I 3 - 1 = ((o - 1 : Nat) : Int); omega, fun i hi => va_up_ne _ _ hi, hV1⟩
    · rw [if_pos ⟨c1, by omega⟩]
      rw [eo] at hV1
      exact go_iret d_gr_behindPart_64 rfl go_le0 ⟨rfl, rfl, hf1, I, hI, fun _ _ => rfl, hV1⟩
  · rw [if_pos (by omega)]
    exact go_iret d_gr_behindPart_8 rfl go_le0 ⟨rfl, rfl, fr_.rf, I, hI, fun _ _ => rfl, hV⟩
theorem tg_behind {s c : Int} {o : Nat} (hV : pn_V h (I, tx, wr, ga, gb, mo, mf, mg) B V) (hc : 0 ≤ c ∧ c ≤ 127) (hI : I 3 = (o : Int)) (hk : ga_ok s o ga gb) : Fn l m_gr_behind rd_gr_behind rw_gr_behind 0 0 [mv_R 12, mv_I s, mv_I c] h n
    (gq_ h n I tx wr mo mf mg B V (ga_step s o ga gb c)) := by
  obtain ⟨h1, h2, h3, h4⟩ := hk
  refine fn_of rfl (Nat.le_of_ble_eq_true rfl) rfl ?_
  refine go_iload_n (q := 1) d_gr_behind_0 rfl rfl rfl ?_
  have part : ∀ pc q (L : List (Option mv_V)) (hd : decode b_gr_behind pc = .ok (.invokevirtual 37, 3)) (hp : pc + 3 = q) (hq : decode b_gr_behind q = .ok (.ireturn, 1)), Go (go_f 0 0 (gq_ h n I tx wr mo mf mg B V (ga_part o ga gb c))) l m_gr_behind (go_rm rd_gr_behind rw_gr_behind 0 0) (0, 0) pc L [mv_I c, mv_R 12] h n := by
    intro pc q L hd hp hq
    refine go_callV (M' := m_gr_behindPart) (d := rd_gr_behindPart) (w := rw_gr_behindPart) (mc := 0) (ms := 0) (as := [mv_I c]) (b := 12) (rest := []) (q := q) g_gr_behindPart i_gr_behindPart v_gr_behindPart l_gr_37 hd hp rfl rfl (pn_c12 hV) rfl (Nat.le_of_ble_eq_true rfl) ⟨by decide, by decide, by decide, by decide⟩ (tg_part hV hc hI h2.1 h3 h4) ?_
    rintro v h1 n1 ⟨rfl, rfl, z⟩ -
    exact go_u0 (go_iret hq rfl go_le0 ⟨rfl, rfl, z⟩)
  unfold ga_step
  by_cases s0 : s = 0
  · subst s0
    rw [if_pos rfl]
    refine go_tsw (d := 32) (off := 31) d_gr_behind_1 (by omega) (by omega) rfl (by decide) ?_
    refine go_aload_n (q := 33) d_gr_behind_32 rfl rfl rfl ?_
    refine go_iload_n (q := 34) d_gr_behind_33 rfl rfl rfl ?_
    refine go_callV (M' := m_gr_behindStart) (d := rd_gr_behindStart) (w := rw_gr_behindStart) (mc := 0) (ms := 0) (as := [mv_I c]) (b := 12) (rest := []) (q := 37) g_gr_behindStart i_gr_behindStart v_gr_behindStart l_gr_26 d_gr_behind_34 rfl rfl rfl (pn_c12 hV) rfl (Nat.le_of_ble_eq_true rfl) ⟨by decide, by decide, by decide, by decide⟩ (tg_start hV hc hI h2.1) ?_
    rintro v h1 n1 ⟨rfl, rfl, rfl⟩ -
    exact go_u0 (go_iret d_gr_behind_37 rfl go_le0 ⟨rfl, rfl, fr_.rf, I, hI, fun _ _ => rfl, hV⟩)
  · rw [if_neg s0]
    by_cases s1 : s = 1
    · subst s1
      rw [if_pos rfl]
      refine go_tsw (d := 38) (off := 37) d_gr_behind_1 (by omega) (by omega) rfl (by decide) ?_
      refine go_aload_n (q := 39) d_gr_behind_38 rfl rfl rfl ?_
      refine go_iload_n (q := 40) d_gr_behind_39 rfl rfl rfl ?_
      refine go_callV (M' := m_gr_behindOperator) (d := rd_gr_behindOperator) (w := rw_gr_behindOperator) (mc := 0) (ms := 0) (as := [mv_I c]) (b := 12) (rest := []) (q := 43) g_gr_behindOperator i_gr_behindOperator v_gr_behindOperator l_gr_30 d_gr_behind_40 rfl rfl rfl (pn_c12 hV) rfl (Nat.le_of_ble_eq_true rfl) ⟨by decide, by decide, by decide, by decide⟩ (tg_op hV hc hI (h2.2 rfl)) ?_
      rintro v h1 n1 ⟨rfl, rfl, z⟩ -
      exact go_u0 (go_iret d_gr_behind_43 rfl go_le0 ⟨rfl, rfl, z⟩)
    · rw [if_neg s1]
      by_cases s2 : s = 2
      · subst s2
        rw [if_pos rfl]
        refine go_tsw (d := 44) (off := 43) d_gr_behind_1 (by omega) (by omega) rfl (by decide) ?_
        refine sg_behind_44 hV hc (fun c1 => ?_) (fun c1 => ?_)
        · rw [if_neg c1]
          exact go_iret d_gr_behind_56 rfl go_le0 ⟨rfl, rfl, fr_.rf, I, hI, fun _ _ => rfl, hV⟩
        · rw [if_pos c1]
          exact go_iret d_gr_behind_56 rfl go_le0 ⟨rfl, rfl, fr_.rf, I, hI, fun _ _ => rfl, hV⟩
      · rw [if_neg s2]
        by_cases s3 : s = 3
        · subst s3
          refine go_tsw (d := 57) (off := 56) d_gr_behind_1 (by omega) (by omega) rfl (by decide) ?_
          refine sg_behind_57 hV hc (fun c1 => ?_) (fun c1 => ?_)
          · rw [if_neg (fun z => c1 z.2)]
            exact part 70 73 _ d_gr_behind_70 rfl d_gr_behind_73
          · rw [if_pos ⟨rfl, c1⟩]
            exact go_iret d_gr_behind_73 rfl go_le0 ⟨rfl, rfl, fr_.rf, I, hI, fun _ _ => rfl, hV⟩
        · rw [if_neg (fun z => s3 z.1)]
          refine go_tswd (d := 74) d_gr_behind_1 (by omega) (by omega) (by decide) ?_
          refine go_aload_n (q := 75) d_gr_behind_74 rfl rfl rfl ?_
          refine go_iload_n (q := 76) d_gr_behind_75 rfl rfl rfl ?_
          exact part 76 79 _ d_gr_behind_76 rfl d_gr_behind_79
theorem lp_fo {len : Nat} (hl : len ≤ 120) (ht : ∀ i, 0 ≤ tx i ∧ tx i ≤ 127) (h0 : mv_H) : ∀ (k p : Nat), p + k = len → ∀ {h : mv_H} {I ga gb : Nat → Int} {s : Int} {o : Nat}, pn_V h (I, tx, wr, ga, gb, mo, mf, mg) B V → I 3 = (o : Int) → ga_ok s o ga gb → fr_ 1 389 h0 h → ∀ (I0 : Nat → Int), (∀ i, i ≠ 3 → I i = I0 i) →
    Go (go_f 0 0 fun w h' n' => w = some (mv_I (gr_ tx len k s o ga gb)) ∧ n' = n ∧ fr_ 1 389 h0 h' ∧ ∃ I' ga' gb' : Nat → Int, (∀ i, i ≠ 3 → I' i = I0 i) ∧ (∀ i, 0 ≤ ga' i ∧ ga' i ≤ 12) ∧ (∀ i, 0 ≤ gb' i ∧ gb' i ≤ 120) ∧ pn_V h' (I', tx, wr, ga', gb', mo, mf, mg) B V) l m_gr_faultOf (go_rm rd_gr_faultOf rw_gr_faultOf 0 0) (0, 0) 10 [some (mv_R 12), some (mv_R 2), some (mv_I (len : Int)), some (mv_I s), some (mv_I (p : Int))] [] h n := by
  intro k
  induction k with
  | zero =>
    intro p hp h I ga gb s o hV hI hk hf I0 hI0
    have e : p = len := by omega
    subst e
    refine sg_fo_10 hV ⟨hl, Nat.le_refl _⟩ (fun _ => ?_) (fun c => absurd (by omega) c)
    obtain ⟨h1, h2, h3, h4⟩ := hk
    have fin : ∀ (z y : Int), z = gr_ tx p 0 s o ga gb → Go (go_f 0 0 fun w h' n' => w = some (mv_I (gr_ tx p 0 s o ga gb)) ∧ n' = n ∧ fr_ 1 389 h0 h' ∧ ∃ I' ga' gb' : Nat → Int, (∀ i, i ≠ 3 → I' i = I0 i) ∧ (∀ i, 0 ≤ ga' i ∧ ga' i ≤ 12) ∧ (∀ i, 0 ≤ gb' i ∧ gb' i ≤ 120) ∧ pn_V h' (I', tx, wr, ga', gb', mo, mf, mg) B V) l m_gr_faultOf (go_rm rd_gr_faultOf rw_gr_faultOf 0 0) (0, 0) 74 [some (mv_R 12), some (mv_R 2), some (mv_I (p : Int)), some (mv_I s), some (mv_I y)] [mv_I z] h n := by
      intro z y hz
      exact go_iret d_gr_faultOf_74 rfl go_le0 ⟨by rw [hz], rfl, hf, I, ga, gb, hI0, h3, h4, hV⟩
    refine sg_fo_40 hV (by omega) (by omega) (fun c1 => fin _ _ ?_) (fun c1 c2 => fin _ _ ?_) (fun c1 c2 c3 => fin _ _ ?_) (fun c1 c2 c3 => fin _ _ ?_)
    · exact (if_neg (by omega)).symm
    · exact (if_pos (by omega)).symm
    · exact (if_neg (by omega)).symm
    · exact (if_pos (by omega)).symm
  | succ k ih =>
    intro p hp h I ga gb s o hV hI hk hf I0 hI0
    refine sg_fo_10 hV ⟨hl, by omega⟩ (fun c => absurd c (by omega)) (fun _ => ?_)
    refine go_callV (M' := m_gr_behind) (d := rd_gr_behind) (w := rw_gr_behind) (mc := 0) (ms := 0) (as := [mv_I s, mv_I (tx p)]) (b := 12) (rest := []) (q := 25) g_gr_behind i_gr_behind v_gr_behind l_gr_22 d_gr_faultOf_22 rfl rfl rfl (pn_c12 hV) rfl (Nat.le_of_ble_eq_true rfl) ⟨by decide, by decide, by decide, by decide⟩ (tg_behind hV (ht p) hI hk) ?_
    rintro v h1 n1 ⟨rfl, rfl, hf1, I1, hI1, hI2, hV1⟩ -
    have ep : len - (k + 1) = p := by omega
    have hrun : gr_ tx len (k + 1) s o ga gb = if (ga_step s o ga gb (tx p)).1 = 5 then (p : Int) else gr_ tx len k (ga_step s o ga gb (tx p)).1 (ga_step s o ga gb (tx p)).2.1 (ga_step s o ga gb (tx p)).2.2.1 (ga_step s o ga gb (tx p)).2.2.2 := by
      show (if (ga_step s o ga gb (tx (len - (k + 1)))).1 = 5 then ((len - (k + 1) : Nat) : Int) else gr_ tx len k (ga_step s o ga gb (tx (len - (k + 1)))).1 (ga_step s o ga gb (tx (len - (k + 1)))).2.1 (ga_step s o ga gb (tx (len - (k + 1)))).2.2.1 (ga_step s o ga gb (tx (len - (k + 1)))).2.2.2) = _
      rw [ep]
    have hfin : (ga_step s o ga gb (tx p)).1 = 5 → (∀ i, 0 ≤ (ga_step s o ga gb (tx p)).2.2.1 i ∧ (ga_step s o ga gb (tx p)).2.2.1 i ≤ 12) ∧ (∀ i, 0 ≤ (ga_step s o ga gb (tx p)).2.2.2 i ∧ (ga_step s o ga gb (tx p)).2.2.2 i ≤ 120) := by
      intro z
      have hk2 := hk
      obtain ⟨h1, h2, h3, h4⟩ := hk2
      have key : (ga_step s o ga gb (tx p)).2.2 = (ga, gb) := by
        unfold ga_step at z ⊢
        split
        · rfl
        · split
          · unfold ga_op
            next s0 s1 =>
              rw [if_neg s0, if_pos s1] at z
              unfold ga_op at z
              split
              · rfl
              · next q1 => rw [if_neg q1] at z; exact absurd z (show ¬ (4 : Int) = 5 by decide)
          · split
            · rfl
            · split
              · rfl
              · next s0 s1 s2 s3 =>
                rw [if_neg s0, if_neg s1, if_neg s2, if_neg s3] at z
                unfold ga_part at z ⊢
                split
                · rfl
                · next c0 =>
                  rw [if_neg c0] at z
                  split
                  · next c1 => rw [if_pos c1] at z; exact absurd z (show ¬ (0 : Int) = 5 by decide)
                  · split <;> rfl
      rw [key]
      exact ⟨h3, h4⟩
    by_cases e5 : (ga_step s o ga gb (tx p)).1 = 5
    · obtain ⟨b1, b2⟩ := hfin e5
      refine go_u0 (sg_fo_25 hV1 (by rw [e5]; omega) (fun c => absurd e5 c) (fun _ => ?_))
      exact go_iret d_gr_faultOf_33 rfl go_le0 ⟨by rw [hrun, if_pos e5], rfl, fr_.tr hf hf1, I1, _, _, fun i hi => (hI2 i hi).trans (hI0 i hi), b1, b2, hV1⟩
    · have hk1 := ga_inv hk e5
      have hr := hk1.1
      refine go_u0 (sg_fo_25 hV1 (by omega) (fun _ => ?_) (fun c => absurd c e5))
      rw [hrun, if_neg e5]
      exact ih (p + 1) (by omega) hV1 hI1 hk1 (fr_.tr hf hf1) I0 (fun i hi => (hI2 i hi).trans (hI0 i hi))
theorem tg_faultOf {len : Nat} (hV : pn_V h (I, tx, wr, ga, gb, mo, mf, mg) B V) (hl : len ≤ 120) (ht : ∀ i, 0 ≤ tx i ∧ tx i ≤ 127) (hg : ∀ i, 0 ≤ ga i ∧ ga i ≤ 12) (hb : ∀ i, 0 ≤ gb i ∧ gb i ≤ 120) : Fn l m_gr_faultOf rd_gr_faultOf rw_gr_faultOf 0 0 [mv_R 12, mv_R 2, mv_I (len : Int)] h n
    (fun w h' n' => w = some (mv_I (gr_ tx len len 0 0 ga gb)) ∧ n' = n ∧ fr_ 1 389 h h' ∧ ∃ I' ga' gb' : Nat → Int, (∀ i, i ≠ 3 → I' i = I i) ∧ (∀ i, 0 ≤ ga' i ∧ ga' i ≤ 12) ∧ (∀ i, 0 ≤ gb' i ∧ gb' i ≤ 120) ∧ pn_V h' (I', tx, wr, ga', gb', mo, mf, mg) B V) := by
  refine fn_of rfl (Nat.le_of_ble_eq_true rfl) rfl ?_
  refine sg_fo_0 hV fun h1 hV1 hf1 => ?_
  exact lp_fo hl ht h len 0 (by omega) hV1 (by rw [va_up_self]; rfl) ⟨by omega, ⟨by omega, fun z => absurd z (by decide)⟩, hg, hb⟩ hf1 I (fun i hi => va_up_ne _ _ hi)
end GrVal
