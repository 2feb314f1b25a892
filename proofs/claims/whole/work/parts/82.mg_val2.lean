/-! the model's faultOf: the same automaton -/
def gr_at (t : Nat → Int) (len p : Nat) (s : Int) (o : Nat) (g b : Nat → Int) : Int := gr_ t len (len - p) s o g b
theorem gr_end {t : Nat → Int} {len : Nat} {s : Int} {o : Nat} {g b : Nat → Int} : gr_at t len len s o g b = if o = 0 ∧ (s = 3 ∨ s = 4) then -1 else (len : Int) := by
  unfold gr_at
  rw [Nat.sub_self]
  rfl
theorem gr_bad {t : Nat → Int} {len p : Nat} {s : Int} {o : Nat} {g b : Nat → Int} (hp : p < len) (h : (ga_step s o g b (t p)).1 = 5) : gr_at t len p s o g b = (p : Int) := by
  unfold gr_at
  obtain ⟨d, hd⟩ : ∃ d, len - p = d + 1 := ⟨len - p - 1, by omega⟩
  have e : len - (d + 1) = p := by omega
  rw [hd]
  show (if (ga_step s o g b (t (len - (d + 1)))).1 = 5 then ((len - (d + 1) : Nat) : Int) else _) = _
  rw [e, if_pos h]
theorem gr_go {t : Nat → Int} {len p : Nat} {s : Int} {o : Nat} {g b : Nat → Int} {s' : Int} {o' : Nat} {g' b' : Nat → Int} (hp : p < len) (h : ga_step s o g b (t p) = (s', o', g', b')) (h5 : s' ≠ 5) : gr_at t len p s o g b = gr_at t len (p + 1) s' o' g' b' := by
  unfold gr_at
  obtain ⟨d, hd⟩ : ∃ d, len - p = d + 1 := ⟨len - p - 1, by omega⟩
  have e : len - (d + 1) = p := by omega
  have e2 : len - (p + 1) = d := by omega
  rw [hd, e2]
  show (if (ga_step s o g b (t (len - (d + 1)))).1 = 5 then _ else gr_ t len d _ _ _ _) = _
  rw [e, h, if_neg h5]
theorem gs_dig {s : Int} {o : Nat} {g b : Nat → Int} {c : Int} (hs : s = 0 ∨ s = 2 ∨ s = 3) (hc : 48 ≤ c ∧ c ≤ 57) : ga_step s o g b c = (3, o, g, b) := by
  unfold ga_step
  rcases hs with h | h | h <;> subst h
  · rw [if_pos rfl]; unfold ga_start; rw [if_pos hc]
  · rw [if_neg (by decide), if_neg (by decide), if_pos rfl, if_pos hc]
  · rw [if_neg (by decide), if_neg (by decide), if_neg (by decide), if_pos ⟨rfl, hc⟩]
theorem gs_part {s : Int} {o : Nat} {g b : Nat → Int} {c : Int} (hs : s = 4 ∨ (s = 3 ∧ ¬ (48 ≤ c ∧ c ≤ 57))) : ga_step s o g b c = ga_part o g b c := by
  unfold ga_step
  rcases hs with h | ⟨h, hn⟩ <;> subst h
  · rw [if_neg (by decide), if_neg (by decide), if_neg (by decide), if_neg (fun z => absurd z.1 (by decide))]
  · rw [if_neg (by decide), if_neg (by decide), if_neg (by decide), if_neg (fun z => hn z.2)]
theorem gs_start {o : Nat} {g b : Nat → Int} {c : Int} : ga_step 0 o g b c = (ga_start o c, o, g, b) := by unfold ga_step; rw [if_pos rfl]
theorem gs_op {o : Nat} {g b : Nat → Int} {c : Int} : ga_step 1 o g b c = ga_op o g b c := by unfold ga_step; rw [if_neg (by decide), if_pos rfl]
theorem gs_min {o : Nat} {g b : Nat → Int} {c : Int} : ga_step 2 o g b c = (if 48 ≤ c ∧ c ≤ 57 then 3 else 5, o, g, b) := by unfold ga_step; rw [if_neg (by decide), if_neg (by decide), if_pos rfl]
theorem ch_lt {t : Nat → Int} {len a : Nat} (h : ch_ t len a ≠ 0) : a < len ∧ ch_ t len a = t a := by
  unfold ch_ at h ⊢
  by_cases c : a < len
  · rw [if_pos c]; exact ⟨c, rfl⟩
  · rw [if_neg c] at h; exact absurd rfl h
theorem ch_end {t : Nat → Int} {len : Nat} : ch_ t len len = 0 := if_neg (Nat.lt_irrefl _)
theorem ch_in {t : Nat → Int} {len a : Nat} (h : a < len) : ch_ t len a = t a := if_pos h
/-- a place at which the automaton falls -/
theorem gr_no {t : Nat → Int} {len p : Nat} {s : Int} {o : Nat} {g b : Nat → Int} (hp : p ≤ len) (h : p < len → (ga_step s o g b (ch_ t len p)).1 = 5) (he : p = len → ¬ (o = 0 ∧ (s = 3 ∨ s = 4))) : gr_at t len p s o g b = (p : Int) := by
  by_cases c : p < len
  · refine gr_bad c ?_
    rw [← ch_in (t := t) c]
    exact h c
  · have e : p = len := by omega
    have := he e
    subst e
    rw [gr_end, if_neg this]
def gm_ (p : Nat) (I ps cs : Nat → Int) (k : Nat) (g b : Nat → Int) : Prop :=
  I 3 = (k : Int) ∧ k ≤ 12 ∧ ∀ i, i < k → (0 ≤ g i ∧ g i ≤ 12) ∧ ps (i + 1) = cx_opsI (g i).toNat ∧ cs (i + 1) = b i ∧ 0 ≤ b i ∧ b i ≤ cx_mostI (g i).toNat ∧ b i < (p : Int)
theorem gm_mono {p p' : Nat} {I ps cs : Nat → Int} {k : Nat} {g b : Nat → Int} (hk : gm_ p I ps cs k g b) (hp : p ≤ p') : gm_ p' I ps cs k g b :=
  ⟨hk.1, hk.2.1, fun i hi => by obtain ⟨a1, a2, a3, a4, a5, a6⟩ := hk.2.2 i hi; exact ⟨a1, a2, a3, a4, a5, by omega⟩⟩
theorem gm_open {p : Nat} {I ps cs : Nat → Int} {k : Nat} {g b : Nat → Int} {c : Int} (hk : gm_ p I ps cs k g b) (h12 : k < 12) (hc : 0 ≤ opx_ c 0 13) : gm_ (p + 2) (va_up I 3 (I 3 + 1)) (va_up ps (k + 1) c) (va_up cs (k + 1) 0) (k + 1) (va_up g k (opx_ c 0 13)) (va_up b k 0) := by
  obtain ⟨h1, h2, h3⟩ := hk
  obtain ⟨x1, x2, x3⟩ := opx_b (c := c) 13 0
  refine ⟨by rw [va_up_self]; omega, by omega, fun i hi => ?_⟩
  by_cases e : i = k
  · subst e
    rw [va_up_self, va_up_self, va_up_self, va_up_self]
    have := cx_BM (opx_ c 0 13).toNat (by omega)
    exact ⟨by omega, (x3 hc).2.symm, rfl, by omega, by omega, by omega⟩
  · obtain ⟨a1, a2, a3, a4, a5, a6⟩ := h3 i (by omega)
    rw [va_up_ne _ _ e, va_up_ne _ _ (show i + 1 ≠ k + 1 by omega), va_up_ne _ _ (show i + 1 ≠ k + 1 by omega), va_up_ne _ _ e]
    exact ⟨a1, a2, a3, a4, a5, by omega⟩
section MgVal2
variable {φ : go_F} {l : Launch} {M : go_M} {R : Room} {u : Nat × Nat} {pc q n o : Nat} {L : List (Option mv_V)} {rest : List mv_V} {h : mv_H} {I tx S ps cs bs : Nat → Int} {V : Nat → Nat}
/-- the model behind a walk that touches its brackets alone -/
def mb_ (h : mv_H) (n o : Nat) (I tx S bs : Nat → Int) (V : Nat → Nat) (h' : mv_H) (n' : Nat) (I' ps' cs' : Nat → Int) : Prop :=
  n' = n ∧ fr_ o 8 h h' ∧ mo_V h' o (I', tx, S, ps', cs', bs) V ∧ (∀ i, i ≠ 3 → I' i = I i) ∧ (∀ i, 0 ≤ ps' i ∧ ps' i ≤ 127) ∧ (∀ i, 0 ≤ cs' i ∧ cs' i ≤ 120)
def os_ (h : mv_H) (n o : Nat) (I tx S bs : Nat → Int) (V : Nat → Nat) (len p k : Nat) (g b : Nat → Int) (w : Option mv_V) (h' : mv_H) (n' : Nat) : Prop :=
  ∃ I' ps' cs' : Nat → Int, mb_ h n o I tx S bs V h' n' I' ps' cs' ∧
    ((∃ x : Nat, x ≤ len ∧ w = some (mv_I (-1 - (x : Int))) ∧ gr_at tx len p 0 k g b = (x : Int)) ∨
     (∃ (a : Nat) (s' : Int) (k' : Nat) (g' b' : Nat → Int), p < a ∧ a ≤ len ∧ w = some (mv_I (a : Int)) ∧ gm_ a I' ps' cs' k' g' b' ∧ (s' = 4 ∨ (s' = 3 ∧ ¬ (48 ≤ ch_ tx len a ∧ ch_ tx len a ≤ 57))) ∧ gr_at tx len p 0 k g b = gr_at tx len a s' k' g' b'))
theorem os_loop {p k len : Nat} {g b : Nat → Int} {c : Int} (hV : mo_V h o (I, tx, S, ps, cs, bs) V) (hL : I 1 = (len : Int)) (hl : len ≤ 120) (ht : ∀ i, 0 ≤ tx i ∧ tx i ≤ 127) (hk : gm_ p I ps cs k g b) (hps : ∀ i, 0 ≤ ps i ∧ ps i ≤ 127) (hcs : ∀ i, 0 ≤ cs i ∧ cs i ≤ 120) : ∀ (d a : Nat), len < a + d → a ≤ len → p ≤ a → (p < a ∨ (48 ≤ ch_ tx len a ∧ ch_ tx len a ≤ 57)) → gr_at tx len p 0 k g b = gr_at tx len a 3 k g b → Go (go_f 0 0 (os_ h n o I tx S bs V len p k g b)) l m_mo_overStart (go_rm rd_mo_overStart rw_mo_overStart 0 0) (0, 0) 125 [some (mv_R o), some (mv_I (p : Int)), some (mv_I c), some (mv_I (a : Int))] [] h n := by
  intro d
  induction d with
  | zero =>
    intro a hd ha
    omega
  | succ d ih =>
    intro a hd ha hpa hx he
    refine so_st_125 hV hL hl ha ht (fun c1 => ?_) (fun c1 => ?_)
    · refine go_iret d_mo_overStart_141 rfl go_le0 ⟨I, ps, cs, ⟨rfl, fr_.rf, hV, fun _ _ => rfl, hps, hcs⟩, Or.inr ⟨a, 3, k, g, b, ?_, ha, rfl, gm_mono hk hpa, Or.inr ⟨rfl, c1⟩, he⟩⟩
      rcases hx with hx | hx
      · exact hx
      · exact absurd hx c1
    · have t1 := ch_lt (t := tx) (len := len) (a := a) (by omega)
      have e : ((a : Int) + 1) = ((a + 1 : Nat) : Int) := by omega
      rw [e]
      exact ih (a + 1) (by omega) (by omega) (by omega) (Or.inl (by omega)) (he.trans (gr_go t1.1 (gs_dig (Or.inr (Or.inr rfl)) (by rw [← t1.2]; exact c1)) (by decide)))
theorem tm_overStart {p k len : Nat} {g b : Nat → Int} (hV : mo_V h o (I, tx, S, ps, cs, bs) V) (hL : I 1 = (len : Int)) (hl : len ≤ 120) (ht : ∀ i, 0 ≤ tx i ∧ tx i ≤ 127) (hp : p ≤ len) (hk : gm_ p I ps cs k g b) (hps : ∀ i, 0 ≤ ps i ∧ ps i ≤ 127) (hcs : ∀ i, 0 ≤ cs i ∧ cs i ≤ 120) :
    Fn l m_mo_overStart rd_mo_overStart rw_mo_overStart 0 0 [mv_R o, mv_I (p : Int)] h n (os_ h n o I tx S bs V len p k g b) := by
  refine fn_of rfl (Nat.le_of_ble_eq_true rfl) rfl ?_
  have hm : mb_ h n o I tx S bs V h n I ps cs := ⟨rfl, fr_.rf, hV, fun _ _ => rfl, hps, hcs⟩
  -- a digit behind a start or a minus sign
  have dig : ∀ a s, a ≤ len → (s = 0 ∨ s = 2 ∨ s = 3) → 48 ≤ ch_ tx len a ∧ ch_ tx len a ≤ 57 → gr_at tx len a s k g b = gr_at tx len a 3 k g b := fun a s ha hs hc => by
    have t1 := ch_lt (t := tx) (len := len) (a := a) (by omega)
    rw [t1.2] at hc
    rw [gr_go t1.1 (gs_dig hs hc) (by decide), gr_go t1.1 (gs_dig (Or.inr (Or.inr rfl)) hc) (by decide)]
  have bad : ∀ pc z, decode b_mo_overStart pc = .ok (.ireturn, 1) → ¬ (48 ≤ ch_ tx len p ∧ ch_ tx len p ≤ 57) → ¬ (97 ≤ ch_ tx len p ∧ ch_ tx len p ≤ 104) → ¬ ch_ tx len p = 45 → ¬ (ch_ tx len p = 40 ∧ k < 12) → z = -1 - (p : Int) → ∀ L, Go (go_f 0 0 (os_ h n o I tx S bs V len p k g b)) l m_mo_overStart (go_rm rd_mo_overStart rw_mo_overStart 0 0) (0, 0) pc L [mv_I z] h n := fun pc z hd a1 a2 a3 a4 hz L => by
    refine go_iret hd rfl go_le0 ⟨I, ps, cs, hm, Or.inl ⟨p, hp, by rw [hz], ?_⟩⟩
    refine gr_no hp (fun _ => ?_) (fun _ z => by have := z.2; omega)
    rw [gs_start]
    show ga_start k (ch_ tx len p) = 5
    unfold ga_start
    rw [if_neg a1, if_neg a2, if_neg a3, if_neg a4]
  have min1 : ch_ tx len p = 45 → p < len ∧ gr_at tx len p 0 k g b = gr_at tx len (p + 1) 2 k g b := fun hc => by
    have t1 := ch_lt (t := tx) (len := len) (a := p) (by omega)
    refine ⟨t1.1, gr_go t1.1 ?_ (by decide)⟩
    rw [gs_start, ← t1.2, hc]
    show (ga_start k 45, k, g, b) = (2, k, g, b)
    rfl
  have minB : ch_ tx len p = 45 → ¬ (48 ≤ ch_ tx len (p + 1) ∧ ch_ tx len (p + 1) ≤ 57) → ∀ L, Go (go_f 0 0 (os_ h n o I tx S bs V len p k g b)) l m_mo_overStart (go_rm rd_mo_overStart rw_mo_overStart 0 0) (0, 0) 124 L [mv_I ((-1) - ((p : Int) + 1))] h n := fun hc hn L => by
    obtain ⟨t1, t2⟩ := min1 hc
    refine go_iret d_mo_overStart_124 rfl go_le0 ⟨I, ps, cs, hm, Or.inl ⟨p + 1, by omega, rfl, ?_⟩⟩
    rw [t2]
    refine gr_no (by omega) (fun _ => ?_) (fun _ z => by have := z.2; omega)
    rw [gs_min, if_neg hn]
  have minG : ch_ tx len p = 45 → (48 ≤ ch_ tx len (p + 1) ∧ ch_ tx len (p + 1) ≤ 57) → Go (go_f 0 0 (os_ h n o I tx S bs V len p k g b)) l m_mo_overStart (go_rm rd_mo_overStart rw_mo_overStart 0 0) (0, 0) 125 [some (mv_R o), some (mv_I (p : Int)), some (mv_I (ch_ tx len p)), some (mv_I ((p : Int) + 1))] [] h n := fun hc hd => by
    obtain ⟨t1, t2⟩ := min1 hc
    exact os_loop hV hL hl ht hk hps hcs (len + 1) (p + 1) (by omega) (by omega) (by omega) (Or.inl (by omega)) (t2.trans (dig _ _ (by omega) (Or.inr (Or.inl rfl)) hd))
  have hk12 := hk.2.1
  refine so_st_0 (k := k) hV hL hl hp ht ⟨hk.1, hk.2.1⟩ (fun c1 c2 c3 c4 => ?_) (fun c1 c2 c3 c4 => ?_) (fun c1 c2 c3 c4 => ?_) (fun c1 c2 c3 c4 => ?_) (fun c1 c2 c3 c4 c5 => ?_) (fun c1 c2 c3 c4 c5 => ?_) (fun c1 c2 c3 c4 c5 => ?_) (fun c1 c2 c3 c4 c5 => ?_) (fun c1 c2 c3 => ?_) (fun c1 c2 c3 h1 hV1 hf1 => ?_) (fun c1 c2 c3 => ?_) (fun c1 c2 => ?_)
  · exact os_loop hV hL hl ht hk hps hcs (len + 1) p (by omega) hp (Nat.le_refl _) (Or.inr c4) (dig _ _ hp (Or.inl rfl) c4)
  · exact bad 124 _ d_mo_overStart_124 c4 (by omega) c3 (fun z => c1 z.1) rfl _
  · exact minG c3 c4
  · exact minB c3 c4 _
  · exact os_loop hV hL hl ht hk hps hcs (len + 1) p (by omega) hp (Nat.le_refl _) (Or.inr c5) (dig _ _ hp (Or.inl rfl) c5)
  · exact bad 124 _ d_mo_overStart_124 c5 (by omega) c4 (fun z => c1 z.1) rfl _
  · exact minG c4 c5
  · exact minB c4 c5 _
  · have t1 := ch_lt (t := tx) (len := len) (a := p) (by omega)
    refine go_iret d_mo_overStart_98 rfl go_le0 ⟨I, ps, cs, hm, Or.inr ⟨p + 1, 4, k, g, b, by omega, by omega, rfl, gm_mono hk (by omega), Or.inl rfl, gr_go t1.1 ?_ (by decide)⟩⟩
    rw [gs_start, ← t1.2]
    have : ga_start k (ch_ tx len p) = 4 := by
      unfold ga_start
      rw [if_neg (by omega), if_pos (by omega)]
    rw [this]
  · have t1 := ch_lt (t := tx) (len := len) (a := p) (by omega)
    have hx := opx_iff.mp c3
    have t2 := ch_lt (t := tx) (len := len) (a := p + 1) (by omega)
    have hk' : k < 12 := by have := hk.1; omega
    have hb := ch_b ht len (p + 1)
    have e2 : ((p : Int) + 2) = ((p + 2 : Nat) : Int) := by omega
    rw [e2]
    refine go_iret d_mo_overStart_82 rfl go_le0 ⟨_, _, _, ⟨rfl, hf1, hV1, fun i hi => va_up_ne _ _ hi, ga_up hps (by omega), ga_up hcs (by omega)⟩, Or.inr ⟨p + 2, 4, k + 1, va_up g k (opx_ (ch_ tx len (p + 1)) 0 13), va_up b k 0, by omega, by omega, rfl, gm_open hk hk' c3, Or.inl rfl, ?_⟩⟩
    have s1 : gr_at tx len p 0 k g b = gr_at tx len (p + 1) 1 k g b := by
      refine gr_go t1.1 ?_ (by decide)
      rw [gs_start, ← t1.2, c1]
      have : ga_start k 40 = 1 := by
        unfold ga_start
        rw [if_neg (by decide), if_neg (by decide), if_neg (by decide), if_pos ⟨rfl, hk'⟩]
      rw [this]
    rw [s1]
    refine gr_go t2.1 ?_ (by decide)
    rw [gs_op, ← t2.2]
    exact if_neg (by omega)
  · have t1 := ch_lt (t := tx) (len := len) (a := p) (by omega)
    have hk' : k < 12 := by have := hk.1; omega
    refine go_iret d_mo_overStart_42 rfl go_le0 ⟨I, ps, cs, hm, Or.inl ⟨p + 1, by omega, by rw [show (-2 : Int) - (p : Int) = -1 - ((p + 1 : Nat) : Int) by omega], ?_⟩⟩
    have s1 : gr_at tx len p 0 k g b = gr_at tx len (p + 1) 1 k g b := by
      refine gr_go t1.1 ?_ (by decide)
      rw [gs_start, ← t1.2, c1]
      have : ga_start k 40 = 1 := by
        unfold ga_start
        rw [if_neg (by decide), if_neg (by decide), if_neg (by decide), if_pos ⟨rfl, hk'⟩]
      rw [this]
    rw [s1]
    refine gr_no (by omega) (fun _ => ?_) (fun _ z => by have := z.2; omega)
    rw [gs_op]
    show (ga_op k g b (ch_ tx len (p + 1))).1 = 5
    unfold ga_op
    rw [if_pos (by omega)]
  · exact bad 24 _ d_mo_overStart_24 (by omega) (by omega) (by omega) (fun z => by have := z.2; have := hk.1; omega) rfl _
def oe_ (h : mv_H) (n o : Nat) (I tx S bs : Nat → Int) (V : Nat → Nat) (len a : Nat) (r : Int) (w : Option mv_V) (h' : mv_H) (n' : Nat) : Prop :=
  ∃ I' ps' cs' : Nat → Int, mb_ h n o I tx S bs V h' n' I' ps' cs' ∧
    ((∃ x : Nat, x ≤ len ∧ w = some (mv_I (-1 - (x : Int))) ∧ r = (x : Int)) ∨ (w = some (mv_I 1000) ∧ r = -1) ∨
     (∃ (a' : Nat) (k' : Nat) (g' b' : Nat → Int), a < a' ∧ a' ≤ len ∧ w = some (mv_I (a' : Int)) ∧ gm_ a' I' ps' cs' k' g' b' ∧ r = gr_at tx len a' 0 k' g' b'))
theorem oe_loop {p a0 len : Nat} {h0 : mv_H} {I0 : Nat → Int} {r : Int} (hl : len ≤ 120) (ht : ∀ i, 0 ≤ tx i ∧ tx i ≤ 127) : ∀ (d a : Nat) (h : mv_H) (I ps cs : Nat → Int) (s : Int) (k : Nat) (g b : Nat → Int), len < a + d → a ≤ len → a0 ≤ a → mb_ h0 n o I0 tx S bs V h n I ps cs → I 1 = (len : Int) → gm_ a I ps cs k g b → (s = 4 ∨ (s = 3 ∧ ¬ (48 ≤ ch_ tx len a ∧ ch_ tx len a ≤ 57))) → r = gr_at tx len a s k g b →
    Go (go_f 0 0 (oe_ h0 n o I0 tx S bs V len a0 r)) l m_mo_overEnds (go_rm rd_mo_overEnds rw_mo_overEnds 0 0) (0, 0) 2 [some (mv_R o), some (mv_I (p : Int)), some (mv_I (a : Int))] [] h n := by
  intro d
  induction d with
  | zero =>
    intro a h I ps cs s k g b hd ha
    omega
  | succ d ih =>
    intro a h I ps cs s k g b hd ha haa hm hL hk hs hr
    obtain ⟨-, hf, hV, hI, hps, hcs⟩ := hm
    have hm : mb_ h0 n o I0 tx S bs V h n I ps cs := ⟨rfl, hf, hV, hI, hps, hcs⟩
    have bad : ∀ pc, decode b_mo_overEnds pc = .ok (.ireturn, 1) → (a < len → (ga_part k g b (ch_ tx len a)).1 = 5) → (a = len → k ≠ 0) → ∀ L, Go (go_f 0 0 (oe_ h0 n o I0 tx S bs V len a0 r)) l m_mo_overEnds (go_rm rd_mo_overEnds rw_mo_overEnds 0 0) (0, 0) pc L [mv_I ((-1) - (a : Int))] h n := fun pc hd a1 a2 L => by
      refine go_iret hd rfl go_le0 ⟨I, ps, cs, hm, Or.inl ⟨a, ha, rfl, ?_⟩⟩
      rw [hr]
      exact gr_no ha (fun z => by rw [gs_part hs]; exact a1 z) (fun z y => a2 z y.1)
    have r64 : (¬ k = 0 → ¬ ch_ tx len a = 41) → Go (go_f 0 0 (oe_ h0 n o I0 tx S bs V len a0 r)) l m_mo_overEnds (go_rm rd_mo_overEnds rw_mo_overEnds 0 0) (0, 0) 64 [some (mv_R o), some (mv_I (p : Int)), some (mv_I (a : Int))] [] h n := fun h41 => by
      refine so_en_64 (k := k) hV hL hl ha ht ⟨hk.1, hk.2.1⟩ hps hcs (fun c1 c2 => ?_) (fun c1 c2 c3 h1 hV1 hf1 => ?_) (fun c1 c2 c3 => ?_) (fun c1 c2 => ?_) (fun c1 c2 => ?_)
      · have hk0 : ¬ k = 0 := by have := hk.1; omega
        refine bad 126 d_mo_overEnds_126 (fun _ => ?_) (fun _ => hk0) _
        unfold ga_part
        rw [if_neg hk0, if_neg (fun z => c2 z.1), if_neg (fun z => h41 hk0 z.1)]
      · have hk0 : ¬ k = 0 := by have := hk.1; omega
        have t1 := ch_lt (t := tx) (len := len) (a := a) (by omega)
        obtain ⟨j, hj⟩ : ∃ j, k = j + 1 := ⟨k - 1, by omega⟩
        subst hj
        obtain ⟨b1, b2, b3, b4, b5, b6⟩ := hk.2.2 j (by omega)
        rw [b3] at hV1
        rw [b3, b2] at c3
        have hms := ms_most (g j).toNat (by omega)
        have hlt : b j < cx_mostI (g j).toNat := by omega
        have e1 : ((a : Int) + 1) = ((a + 1 : Nat) : Int) := by omega
        rw [e1]
        refine go_iret d_mo_overEnds_150 rfl go_le0 ⟨I, ps, va_up cs (j + 1) (b j + 1), ⟨rfl, hf.tr hf1, hV1, hI, hps, ga_up hcs (by have := cx_BM (g j).toNat (by omega); omega)⟩, Or.inr (Or.inr ⟨a + 1, j + 1, g, va_up b j (b j + 1), by omega, by omega, rfl, ⟨hk.1, hk.2.1, fun i hi => ?_⟩, ?_⟩)⟩
        · by_cases e : i = j
          · subst e
            rw [va_up_self, va_up_self]
            exact ⟨b1, b2, rfl, by omega, by omega, by omega⟩
          · rw [va_up_ne _ _ (show i + 1 ≠ j + 1 by omega), va_up_ne _ _ e]
            obtain ⟨d1, d2, d3, d4, d5, d6⟩ := hk.2.2 i hi
            exact ⟨d1, d2, d3, d4, d5, by omega⟩
        · rw [hr]
          refine gr_go t1.1 ?_ (by decide)
          rw [← t1.2, gs_part hs]
          unfold ga_part
          rw [if_neg hk0]
          exact if_pos ⟨c2, hlt⟩
      · have hk0 : ¬ k = 0 := by have := hk.1; omega
        obtain ⟨j, hj⟩ : ∃ j, k = j + 1 := ⟨k - 1, by omega⟩
        subst hj
        obtain ⟨b1, b2, b3, b4, b5, b6⟩ := hk.2.2 j (by omega)
        rw [b3, b2] at c3
        have hms := ms_most (g j).toNat (by omega)
        have hlt : ¬ b j < cx_mostI (g j).toNat := by omega
        refine bad 126 d_mo_overEnds_126 (fun _ => ?_) (fun _ => hk0) _
        unfold ga_part
        rw [if_neg hk0, if_neg (fun z => hlt z.2), if_neg (fun z => h41 hk0 z.1)]
      · have hk0 : k = 0 := by have := hk.1; omega
        refine bad 88 d_mo_overEnds_88 (fun _ => ?_) (fun z => absurd (by omega) c2) _
        unfold ga_part
        rw [if_pos hk0]
      · have hk0 : k = 0 := by have := hk.1; omega
        refine go_iret d_mo_overEnds_88 rfl go_le0 ⟨I, ps, cs, hm, Or.inr (Or.inl ⟨rfl, ?_⟩)⟩
        have ea : a = len := by omega
        subst ea
        rw [hr, gr_end, if_pos ⟨hk0, by omega⟩]
    refine so_en_2 (k := k) hV hL hl ha ht ⟨hk.1, hk.2.1⟩ hps hcs (fun c1 => ?_) (fun c1 c2 => ?_) (fun c1 c2 c3 h1 hV1 hf1 => ?_) (fun c1 c2 c3 => ?_)
    · exact r64 (fun z => by have := hk.1; omega)
    · exact r64 (fun _ => c2)
    · have hk0 : ¬ k = 0 := by have := hk.1; omega
      have t1 := ch_lt (t := tx) (len := len) (a := a) (by omega)
      obtain ⟨j, hj⟩ : ∃ j, k = j + 1 := ⟨k - 1, by omega⟩
      subst hj
      obtain ⟨b1, b2, b3, b4, b5, b6⟩ := hk.2.2 j (by omega)
      rw [b3, b2, ls_few _ (by omega)] at c3
      have e1 : ((a : Int) + 1) = ((a + 1 : Nat) : Int) := by omega
      rw [e1]
      refine ih (a + 1) h1 _ ps cs 4 j g b (by omega) (by omega) (by omega) ⟨rfl, hf.tr hf1, hV1, fun i hi => (va_up_ne _ _ hi).trans (hI i hi), hps, hcs⟩ ((va_up_ne _ _ (by decide)).trans hL) ⟨?_, by have := hk.2.1; omega, fun i hi => (gm_mono hk (Nat.le_succ a)).2.2 i (by omega)⟩ (Or.inl rfl) ?_
      · rw [va_up_self]
        have := hk.1
        omega
      · rw [hr]
        refine gr_go t1.1 ?_ (by decide)
        rw [← t1.2, gs_part hs]
        unfold ga_part
        rw [if_neg hk0, if_neg (fun z => by have := z.1; omega)]
        exact if_pos ⟨c2, c3⟩
    · have hk0 : ¬ k = 0 := by have := hk.1; omega
      obtain ⟨j, hj⟩ : ∃ j, k = j + 1 := ⟨k - 1, by omega⟩
      subst hj
      obtain ⟨b1, b2, b3, b4, b5, b6⟩ := hk.2.2 j (by omega)
      rw [b3, b2, ls_few _ (by omega)] at c3
      refine bad 46 d_mo_overEnds_46 (fun _ => ?_) (fun _ => hk0) _
      unfold ga_part
      rw [if_neg hk0, if_neg (fun z => by have := z.1; omega), if_neg (fun z => c3 z.2)]
theorem tm_overEnds {a k len : Nat} {s : Int} {g b : Nat → Int} (hV : mo_V h o (I, tx, S, ps, cs, bs) V) (hL : I 1 = (len : Int)) (hl : len ≤ 120) (ht : ∀ i, 0 ≤ tx i ∧ tx i ≤ 127) (ha : a ≤ len) (hk : gm_ a I ps cs k g b) (hps : ∀ i, 0 ≤ ps i ∧ ps i ≤ 127) (hcs : ∀ i, 0 ≤ cs i ∧ cs i ≤ 120) (hs : s = 4 ∨ (s = 3 ∧ ¬ (48 ≤ ch_ tx len a ∧ ch_ tx len a ≤ 57))) :
    Fn l m_mo_overEnds rd_mo_overEnds rw_mo_overEnds 0 0 [mv_R o, mv_I (a : Int)] h n (oe_ h n o I tx S bs V len a (gr_at tx len a s k g b)) := by
  refine fn_of rfl (Nat.le_of_ble_eq_true rfl) rfl ?_
  refine so_en_0 hV ?_
  exact oe_loop hl ht (len + 1) a h I ps cs s k g b (by omega) ha (Nat.le_refl _) ⟨rfl, fr_.rf, hV, fun _ _ => rfl, hps, hcs⟩ hL hk hs rfl
/-- what the model's faultOf leaves -/
def mf_ (h : mv_H) (n o : Nat) (I tx S bs : Nat → Int) (V : Nat → Nat) (r : Int) (w : Option mv_V) (h' : mv_H) (n' : Nat) : Prop :=
  w = some (mv_I r) ∧ ∃ I' ps' cs' : Nat → Int, mb_ h n o I tx S bs V h' n' I' ps' cs'
theorem fo_loop {len : Nat} {h0 : mv_H} {I0 : Nat → Int} {r : Int} (hl : len ≤ 120) (ht : ∀ i, 0 ≤ tx i ∧ tx i ≤ 127) : ∀ (d p : Nat) (h : mv_H) (I ps cs : Nat → Int) (k : Nat) (g b : Nat → Int), len < p + d → p ≤ len → mb_ h0 n o I0 tx S bs V h n I ps cs → I 1 = (len : Int) → gm_ p I ps cs k g b → r = gr_at tx len p 0 k g b →
    Go (go_f 0 0 (mf_ h0 n o I0 tx S bs V r)) l m_mo_faultOf (go_rm rd_mo_faultOf rw_mo_faultOf 0 0) (0, 0) 7 [some (mv_R o), some (mv_I (p : Int))] [] h n := by
  have fin : ∀ (h : mv_H) (I ps cs : Nat → Int) (z : Int), mb_ h0 n o I0 tx S bs V h n I ps cs → (∃ x : Nat, x ≤ len ∧ z = -1 - (x : Int) ∧ r = (x : Int)) ∨ (z = 1000 ∧ r = -1) → Go (go_f 0 0 (mf_ h0 n o I0 tx S bs V r)) l m_mo_faultOf (go_rm rd_mo_faultOf rw_mo_faultOf 0 0) (0, 0) 7 [some (mv_R o), some (mv_I z)] [] h n := fun h I ps cs z hm hz => by
    have hz2 : -2000 ≤ z ∧ z ≤ 2000 := by
      rcases hz with ⟨x, h1, h2, h3⟩ | ⟨h2, h3⟩ <;> omega
    have r41 : Go (go_f 0 0 (mf_ h0 n o I0 tx S bs V r)) l m_mo_faultOf (go_rm rd_mo_faultOf rw_mo_faultOf 0 0) (0, 0) 41 [some (mv_R o), some (mv_I z)] [] h n := by
      refine so_fo_41 hm.2.2.1 hz2 (fun c => ?_) (fun c => ?_)
      · refine go_iret d_mo_faultOf_52 rfl go_le0 ⟨?_, I, ps, cs, hm⟩
        rcases hz with ⟨x, h1, h2, h3⟩ | ⟨h2, h3⟩
        · omega
        · rw [h3]
      · refine go_iret d_mo_faultOf_52 rfl go_le0 ⟨?_, I, ps, cs, hm⟩
        rcases hz with ⟨x, h1, h2, h3⟩ | ⟨h2, h3⟩
        · rw [h3, show (-1 : Int) - z = (x : Int) by omega]
        · omega
    refine so_fo_7 hm.2.2.1 hz2 (fun c => r41) (fun c c2 => r41) (fun c1 c2 => ?_)
    rcases hz with ⟨x, h1, h2, h3⟩ | ⟨h2, h3⟩ <;> omega
  intro d
  induction d with
  | zero =>
    intro p h I ps cs k g b hd hp
    omega
  | succ d ih =>
    intro p h I ps cs k g b hd hp hm hL hk hr
    obtain ⟨-, hf, hV, hI, hps, hcs⟩ := hm
    refine so_fo_7 hV (by omega) (fun c => by omega) (fun c c2 => by omega) (fun c1 c2 => ?_)
    obtain ⟨fs, hob⟩ := mo_Vob hV
    refine go_callV (M' := m_mo_overStart) (d := rd_mo_overStart) (w := rw_mo_overStart) (mc := 0) (ms := 0) (as := [mv_I (p : Int)]) (b := o) (rest := []) (q := 23) g_mo_overStart i_mo_overStart v_mo_overStart l_mo_115 d_mo_faultOf_20 rfl rfl rfl hob rfl (by decide) ⟨by decide, by decide, by decide, by decide⟩ (tm_overStart hV hL hl ht hp hk hps hcs) ?_
    rintro w h1 n1 ⟨I1, ps1, cs1, ⟨rfl, hf1, hV1, hI1, hps1, hcs1⟩, hw⟩ -
    have hm1 : mb_ h0 n1 o I0 tx S bs V h1 n1 I1 ps1 cs1 := ⟨rfl, hf.tr hf1, hV1, fun i hi => (hI1 i hi).trans (hI i hi), hps1, hcs1⟩
    rcases hw with ⟨x, hx, rfl, hxr⟩ | ⟨a, s', k', g', b', hpa, ha, rfl, hk', hs', har⟩
    · refine go_u0 (so_fo_23 hV1 (by omega) (fun c => by omega) (fun c => ?_))
      exact fin h1 I1 ps1 cs1 _ hm1 (Or.inl ⟨x, hx, rfl, hr.trans hxr⟩)
    · refine go_u0 (so_fo_23 hV1 (by omega) (fun c => ?_) (fun c => by omega))
      obtain ⟨fs1, hob1⟩ := mo_Vob hV1
      have hL1 : I1 1 = (len : Int) := (hI1 1 (by decide)).trans hL
      refine go_callV (M' := m_mo_overEnds) (d := rd_mo_overEnds) (w := rw_mo_overEnds) (mc := 0) (ms := 0) (as := [mv_I (a : Int)]) (b := o) (rest := []) (q := 37) g_mo_overEnds i_mo_overEnds v_mo_overEnds l_mo_118 d_mo_faultOf_34 rfl rfl rfl hob1 rfl (by decide) ⟨by decide, by decide, by decide, by decide⟩ (tm_overEnds hV1 hL1 hl ht ha hk' hps1 hcs1 hs') ?_
      rintro w h2 n2 ⟨I2, ps2, cs2, ⟨rfl, hf2, hV2, hI2, hps2, hcs2⟩, hw⟩ -
      have hm2 : mb_ h0 n2 o I0 tx S bs V h2 n2 I2 ps2 cs2 := ⟨rfl, hm1.2.1.tr hf2, hV2, fun i hi => (hI2 i hi).trans (hm1.2.2.2.1 i hi), hps2, hcs2⟩
      rcases hw with ⟨x, hx, rfl, hxr⟩ | ⟨rfl, hxr⟩ | ⟨a', k2, g2, b2, haa, ha', rfl, hk2, har2⟩
      · exact go_u0 (so_fo_37 hV2 (fin h2 I2 ps2 cs2 _ hm2 (Or.inl ⟨x, hx, rfl, hr.trans (har.trans hxr)⟩)))
      · exact go_u0 (so_fo_37 hV2 (fin h2 I2 ps2 cs2 _ hm2 (Or.inr ⟨rfl, hr.trans (har.trans hxr)⟩)))
      · exact go_u0 (so_fo_37 hV2 (ih a' h2 I2 ps2 cs2 k2 g2 b2 (by omega) ha' hm2 ((hI2 1 (by decide)).trans hL1) hk2 (hr.trans (har.trans har2))))
theorem tm_faultOf {len : Nat} {g b : Nat → Int} (hV : mo_V h o (I, tx, S, ps, cs, bs) V) (hL : I 1 = (len : Int)) (hl : len ≤ 120) (ht : ∀ i, 0 ≤ tx i ∧ tx i ≤ 127) (hps : ∀ i, 0 ≤ ps i ∧ ps i ≤ 127) (hcs : ∀ i, 0 ≤ cs i ∧ cs i ≤ 120) :
    Fn l m_mo_faultOf rd_mo_faultOf rw_mo_faultOf 0 0 [mv_R o] h n (mf_ h n o I tx S bs V (gr_ tx len len 0 0 g b)) := by
  refine fn_of rfl (Nat.le_of_ble_eq_true rfl) rfl ?_
  refine so_fo_0 hV (fun h1 hV1 hf1 => ?_)
  exact fo_loop hl ht (len + 1) 0 h1 _ ps cs 0 g b (by omega) (by omega) ⟨rfl, hf1, hV1, fun i hi => va_up_ne _ _ hi, hps, hcs⟩ ((va_up_ne _ _ (by decide)).trans hL) ⟨va_up_self _ _ _, by omega, fun i hi => absurd hi (by omega)⟩ rfl
end MgVal2
