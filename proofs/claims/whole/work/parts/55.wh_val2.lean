/-! the class's Whole: add, subtract, timesPlus, divideBy -/
theorem wl_pad {f : Nat → Int} {s : Nat} (k : Nat) : nb (fun i => if i < s then f i else 0) k = nb f (if k < s then k else s) := by
  split
  · exact nv_congr fun i hi => by
      show (if i < s then f i else 0).toNat = _
      rw [if_pos (by omega)]
  · rw [show nb f s = nb (fun i => if i < s then f i else 0) s from nv_congr fun i hi => by
      show _ = (if i < s then f i else 0).toNat
      rw [if_pos hi]]
    exact nv_ext (by omega) fun i a b => by
      show (if i < s then f i else 0).toNat = 0
      rw [if_neg (by omega)]; rfl
section WhVal2
variable {φ : go_F} {l : Launch} {M : go_M} {R : Room} {u : Nat × Nat} {pc q n p r N K v w : Nat} {L : List (Option mv_V)} {rest : List mv_V} {h : mv_H} {f g : Nat → Int}
/-- adding: behind k limbs, c the carry; f0 and g the two -/
def wa_I (f0 f g : Nat → Int) (s t k : Nat) (c : Int) : Prop := lm_ f ∧ (0 ≤ c ∧ c ≤ 1) ∧ (∀ i, k ≤ i → f i = f0 i) ∧ nb f k + c.toNat * 1073741824 ^ k = nb (fun i => if i < s then f0 i else 0) k + nb (fun i => if i < t then g i else 0) k
theorem wa_step {f0 f g : Nat → Int} {s t k : Nat} {c a b : Int} (h : wa_I f0 f g s t k c) (hg : lm_ g) (ha : a = if k < s then f k else 0) (hb : b = if k < t then g k else 0) : wa_I f0 (va_up f k ((a + b + c) % 1073741824)) g s t (k + 1) ((a + b + c) / 1073741824) := by
  obtain ⟨h1, h2, h3, h4⟩ := h
  have e3 := h3 k (Nat.le_refl _)
  have q1 := h1 k
  have q2 := hg k
  have ba : 0 ≤ a ∧ a ≤ 1073741823 := by rw [ha]; split <;> omega
  have bb : 0 ≤ b ∧ b ≤ 1073741823 := by rw [hb]; split <;> omega
  refine ⟨lm_up h1 (by omega), by omega, fun i hi => by rw [va_up_ne _ _ (by omega)]; exact h3 i (by omega), ?_⟩
  have e1 : nb (va_up f k ((a + b + c) % 1073741824)) k = nb f k := nb_up (Nat.le_refl _)
  rw [← e1] at h4
  have := nv_addc h4 (by
    show (va_up f k ((a + b + c) % 1073741824) k).toNat = ((if k < s then f0 k else 0).toNat + (if k < t then g k else 0).toNat + c.toNat) % 1073741824
    rw [va_up_self, ← e3, ← ha, ← hb]
    omega)
  rw [← this]
  congr 2
  show ((a + b + c) / 1073741824).toNat = ((if k < s then f0 k else 0).toNat + (if k < t then g k else 0).toNat + c.toNat) / 1073741824
  rw [← e3, ← ha, ← hb]
  omega
theorem lp_wadd {m s t : Nat} {f0 : Nat → Int} (hs : s ≤ N) (hN : N < 100) (ht : t ≤ K) (hK : K < 100) (hg : lm_ g) (hd : p + 1 < r ∨ r + 1 < p) (hm : m ≤ N) : ∀ (j k : Nat), k + j = m → ∀ {h : mv_H} {f : Nat → Int} {c : Int}, WO h p N f (s : Int) → WO h r K g (t : Int) → wa_I f0 f g s t k c →
    (∀ (h' : mv_H) (f' : Nat → Int) (c' : Int), WO h' p N f' (s : Int) → WO h' r K g (t : Int) → fr_ p 2 h h' → wa_I f0 f' g s t m c' → Go φ l m_wh_add R u 92 [some (mv_R p), some (mv_R r), some (mv_I (m : Int)), some (mv_I c'), some (mv_I (m : Int)), none] [] h' n) →
    Go φ l m_wh_add R u 17 [some (mv_R p), some (mv_R r), some (mv_I (m : Int)), some (mv_I c), some (mv_I (k : Int)), none] [] h n := by
  intro j
  induction j with
  | zero =>
    intro k hk h f c hp hr hi kx
    have e : k = m := by omega
    subst e
    exact sc_add_17 hp hr (by omega) hN (by omega) hK hi.1 hg hd (by omega) hi.2.1 (by omega) (fun _ => kx h f c hp hr fr_.rf hi) (fun c => absurd (by omega) c) (fun c => absurd (by omega) c) (fun c => absurd (by omega) c) (fun c => absurd (by omega) c)
  | succ j ih =>
    intro k hk h f c hp hr hi kx
    have go : ∀ (a b : Int), (a = if k < s then f k else 0) → (b = if k < t then g k else 0) → ∀ h', WO h' p N (va_up f k ((a + b + c) % 1073741824)) (s : Int) → WO h' r K g (t : Int) → fr_ p 2 h h' → Go φ l m_wh_add R u 17 [some (mv_R p), some (mv_R r), some (mv_I (m : Int)), some (mv_I ((a + b + c) / 1073741824)), some (mv_I ((k : Int) + 1)), none] [] h' n := by
      intro a b ha hb h' hp' hr' hf
      exact ih (k + 1) (by omega) hp' hr' (wa_step hi hg ha hb) (fun h'' f' c' a1 a2 a3 a4 => kx h'' f' c' a1 a2 (fr_.tr hf a3) a4)
    refine sc_add_17 hp hr (by omega) hN (by omega) hK hi.1 hg hd (by omega) hi.2.1 (by omega) (fun c => absurd c (by omega)) (fun _ c1 c2 h' hp' hr' hf => ?_) (fun _ c1 c2 h' hp' hr' hf => ?_) (fun _ c1 c2 h' hp' hr' hf => ?_) (fun _ c1 c2 h' hp' hr' hf => ?_)
    · exact go 0 0 (by rw [if_neg (by omega)]) (by rw [if_neg (by omega)]) h' hp' hr' hf
    · exact go 0 (g k) (by rw [if_neg (by omega)]) (by rw [if_pos (by omega)]) h' hp' hr' hf
    · exact go (f k) 0 (by rw [if_pos (by omega)]) (by rw [if_neg (by omega)]) h' hp' hr' hf
    · exact go (f k) (g k) (by rw [if_pos (by omega)]) (by rw [if_pos (by omega)]) h' hp' hr' hf
theorem tw_add (hp : WV h p N v) (hr : WV h r K w) (hd : p + 1 < r ∨ r + 1 < p) (hv : v + w < 1073741824 ^ N) : Fn l m_wh_add rd_wh_add rw_wh_add 0 0 [mv_R p, mv_R r] h n
    (fun x h' n' => x = none ∧ n' = n ∧ WV h' p N (v + w) ∧ fr_ p 2 h h') := by
  obtain ⟨f, s, hp, hw⟩ := hp
  obtain ⟨g, t, hr, hx⟩ := hr
  have hs := hw.1
  have ht := hx.1
  have ht2 := wl_le hx (k := N) (by omega)
  have hN := hw.2.1
  have hK := hx.2.1
  refine fn_of rfl (Nat.le_of_ble_eq_true rfl) rfl ?_
  refine sc_add_0 hp hr ?_
  refine go_mmax (q := 11) tw_3_152 tw_2_131 tw_1_12 tw_2_132 d_wh_add_8 rfl (by omega) (by omega) ⟨by decide, by decide, by decide, by decide⟩ ?_
  obtain ⟨m, hm⟩ : ∃ m : Nat, m = (if s < t then t else s) := ⟨_, rfl⟩
  have e : (if (s : Int) < (t : Int) then (t : Int) else (s : Int)) = (m : Int) := by
    rw [hm]
    by_cases c : s < t
    · rw [if_pos c, if_pos (by omega)]
    · rw [if_neg c, if_neg (by omega)]
  have hm1 : s ≤ m ∧ t ≤ m ∧ m ≤ N ∧ (m = s ∨ m = t) := by
    rw [hm]
    split <;> omega
  rw [e]
  refine sc_add_11 hp hr ?_
  refine lp_wadd (f0 := f) hs hN ht hK hx.2.2.1 hd hm1.2.2.1 m 0 (by omega) hp hr ⟨hw.2.2.1, by omega, fun _ _ => rfl, by simp [nb, nv]⟩ (fun h1 f1 c1 hp1 hr1 hf1 hi => ?_)
  obtain ⟨i1, i2, i3, i4⟩ := hi
  have hsum : nb f1 m + c1.toNat * 1073741824 ^ m = v + w := by
    rw [i4, wl_pad, wl_pad]
    congr 1
    · rw [← hw.2.2.2.2]
      by_cases c : m < s
      · omega
      · rw [if_neg c]
    · rw [← hx.2.2.2.2]
      by_cases c : m < t
      · omega
      · rw [if_neg c]
  have hpm : 0 < 1073741824 ^ m := Nat.pow_pos (by decide)
  have hl1 := nb_lt (k := m) i1
  refine sc_add_92 (f := f1) hp1 hr1 hd i2 ⟨by omega, fun hc => ?_, hN⟩ (fun c h2 hp2 hr2 hf2 => ?_) (fun c h2 hp2 hr2 hf2 => ?_)
  · rcases Nat.lt_or_ge m N with a | a
    · omega
    · exfalso
      have e1 : c1.toNat = 1 := by omega
      have e2 : m = N := by omega
      rw [e1, e2] at hsum
      omega
  · subst c
    have hval : nb f1 m = v + w := by simpa using hsum
    refine go_vret d_wh_add_121 rfl go_le0 ⟨rfl, rfl, ⟨f1, m, hp2, hm1.2.2.1, hN, i1, fun h0 h1 => ?_, hval⟩, fr_.tr hf1 hf2⟩
    -- the top limb isn't 0
    have hlow : nb f1 m = nb f1 (m - 1) := by
      have := nb_s (f := f1) (k := m - 1)
      rw [show m - 1 + 1 = m by omega, h1] at this
      simpa using this
    have hl2 := nb_lt (k := m - 1) i1
    rcases hm1.2.2.2 with e | e
    · have := wl_ge hw (by omega)
      rw [← e] at this
      omega
    · have := wl_ge hx (by omega)
      rw [← e] at this
      omega
  · have e1 : c1 = 1 := by omega
    subst e1
    have hlt : m < N := by
      rcases Nat.lt_or_ge m N with a | a
      · exact a
      · exfalso
        have e2 : m = N := by omega
        rw [e2] at hsum
        have : (1 : Int).toNat * 1073741824 ^ N = 1073741824 ^ N := by simp
        omega
    rw [Int.toNat_natCast] at hp2
    refine go_vret d_wh_add_121 rfl go_le0 ⟨rfl, rfl, ⟨_, m + 1, hp2, by omega, hN, lm_up i1 (by omega), fun h0 => ?_, ?_⟩, fr_.tr hf1 hf2⟩
    · rw [Nat.add_sub_cancel, va_up_self]
      decide
    · rw [nb_up1]
      exact hsum
/-- taking off -/
def wb_I (f0 f g : Nat → Int) (t k : Nat) (c : Int) : Prop := lm_ f ∧ (0 ≤ c ∧ c ≤ 1) ∧ (∀ i, k ≤ i → f i = f0 i) ∧ nb f k + nb (fun i => if i < t then g i else 0) k = nb f0 k + c.toNat * 1073741824 ^ k
theorem wb_step {f0 f g : Nat → Int} {t k : Nat} {c b c' : Int} (h : wb_I f0 f g t k c) (hg : lm_ g) (hb : b = if k < t then g k else 0) (hc : (c' = 0 ∧ 0 ≤ f k - b - c) ∨ (c' = 1 ∧ ¬ 0 ≤ f k - b - c)) : wb_I f0 (va_up f k ((f k - b - c) % 1073741824)) g t (k + 1) c' := by
  obtain ⟨h1, h2, h3, h4⟩ := h
  have e3 := h3 k (Nat.le_refl _)
  have q1 := h1 k
  have q2 := hg k
  have bb : 0 ≤ b ∧ b ≤ 1073741823 := by rw [hb]; split <;> omega
  refine ⟨lm_up h1 (by omega), by omega, fun i hi => by rw [va_up_ne _ _ (by omega)]; exact h3 i (by omega), ?_⟩
  have e1 : nb (va_up f k ((f k - b - c) % 1073741824)) k = nb f k := nb_up (Nat.le_refl _)
  rw [← e1] at h4
  exact nv_subb h4 (by
    show (va_up f k ((f k - b - c) % 1073741824) k).toNat + (if k < t then g k else 0).toNat + c.toNat = (f0 k).toNat + c'.toNat * 1073741824
    rw [va_up_self, ← e3, ← hb]
    omega)
theorem lp_wsub {s t : Nat} {f0 : Nat → Int} (hs : s ≤ N) (hN : N < 100) (ht : t ≤ K) (hK : K < 100) (hg : lm_ g) (hd : p + 1 < r ∨ r + 1 < p) : ∀ (j k : Nat), k + j = s → ∀ {h : mv_H} {f : Nat → Int} {c : Int}, WO h p N f (s : Int) → WO h r K g (t : Int) → wb_I f0 f g t k c →
    (∀ (h' : mv_H) (f' : Nat → Int) (c' : Int), WO h' p N f' (s : Int) → WO h' r K g (t : Int) → fr_ p 2 h h' → wb_I f0 f' g t s c' → Go φ l m_wh_subtract R u 69 [some (mv_R p), some (mv_R r), some (mv_I c'), some (mv_I (s : Int)), none] [] h' n) →
    Go φ l m_wh_subtract R u 4 [some (mv_R p), some (mv_R r), some (mv_I c), some (mv_I (k : Int)), none] [] h n := by
  intro j
  induction j with
  | zero =>
    intro k hk h f c hp hr hi kx
    have e : k = s := by omega
    subst e
    exact sc_sub_4 hp hr (by omega) hN (by omega) hK hi.1 hg hd hi.2.1 (by omega) (fun _ => kx h f c hp hr fr_.rf hi) (fun c => absurd (by omega) c) (fun c => absurd (by omega) c) (fun c => absurd (by omega) c) (fun c => absurd (by omega) c)
  | succ j ih =>
    intro k hk h f c hp hr hi kx
    have go : ∀ (b c' : Int), (b = if k < t then g k else 0) → ((c' = 0 ∧ 0 ≤ f k - b - c) ∨ (c' = 1 ∧ ¬ 0 ≤ f k - b - c)) → ∀ h', WO h' p N (va_up f k ((f k - b - c) % 1073741824)) (s : Int) → WO h' r K g (t : Int) → fr_ p 2 h h' → Go φ l m_wh_subtract R u 4 [some (mv_R p), some (mv_R r), some (mv_I c'), some (mv_I ((k : Int) + 1)), none] [] h' n := by
      intro b c' hb hc h' hp' hr' hf
      exact ih (k + 1) (by omega) hp' hr' (wb_step hi hg hb hc) (fun h'' f' c' a1 a2 a3 a4 => kx h'' f' c' a1 a2 (fr_.tr hf a3) a4)
    refine sc_sub_4 hp hr (by omega) hN (by omega) hK hi.1 hg hd hi.2.1 (by omega) (fun c => absurd c (by omega)) (fun _ c1 c2 h' hp' hr' hf => ?_) (fun _ c1 c2 h' hp' hr' hf => ?_) (fun _ c1 c2 h' hp' hr' hf => ?_) (fun _ c1 c2 h' hp' hr' hf => ?_)
    · exact go 0 0 (by rw [if_neg (by omega)]) (Or.inl ⟨rfl, c2⟩) h' hp' hr' hf
    · exact go 0 1 (by rw [if_neg (by omega)]) (Or.inr ⟨rfl, c2⟩) h' hp' hr' hf
    · exact go (g k) 0 (by rw [if_pos (by omega)]) (Or.inl ⟨rfl, c2⟩) h' hp' hr' hf
    · exact go (g k) 1 (by rw [if_pos (by omega)]) (Or.inr ⟨rfl, c2⟩) h' hp' hr' hf
theorem tw_subtract (hp : WV h p N v) (hr : WV h r K w) (hd : p + 1 < r ∨ r + 1 < p) (hv : w ≤ v) : Fn l m_wh_subtract rd_wh_subtract rw_wh_subtract 0 0 [mv_R p, mv_R r] h n
    (fun x h' n' => x = none ∧ n' = n ∧ WV h' p N (v - w) ∧ fr_ p 2 h h') := by
  obtain ⟨f, s, hp, hw⟩ := hp
  obtain ⟨g, t, hr, hx⟩ := hr
  have hs := hw.1
  have ht := hx.1
  have hN := hw.2.1
  have hK := hx.2.1
  have hts : t ≤ s := wl_le hx (Nat.lt_of_le_of_lt hv (wl_lt hw))
  refine fn_of rfl (Nat.le_of_ble_eq_true rfl) rfl ?_
  refine sc_sub_0 hp hr ?_
  refine lp_wsub (f0 := f) hs hN ht hK hx.2.2.1 hd s 0 (by omega) hp hr ⟨hw.2.2.1, by omega, fun _ _ => rfl, by simp [nb, nv]⟩ (fun h1 f1 c1 hp1 hr1 hf1 hi => ?_)
  obtain ⟨i1, i2, i3, i4⟩ := hi
  have e1 : nb (fun i => if i < t then g i else 0) s = w := by
    rw [wl_pad, ← hx.2.2.2.2]
    by_cases c : s < t
    · omega
    · rw [if_neg c]
  rw [e1, show nb f s = v from hw.2.2.2.2] at i4
  have hl1 := nb_lt (k := s) i1
  have hc0 : c1.toNat = 0 := by
    rcases (show c1.toNat = 0 ∨ c1.toNat = 1 by omega) with a | a
    · exact a
    · rw [a, Nat.one_mul] at i4
      omega
  rw [hc0, Nat.zero_mul, Nat.add_zero] at i4
  refine sc_sub_69 hp1 hr1 ?_
  refine cw_cutTo (q := 77) l_wh_36 d_wh_subtract_74 rfl hp1 hs hN i1 (by decide) ⟨by decide, by decide, by decide, by decide⟩ (fun h2 hv2 hf2 => ?_)
  refine go_vret d_wh_subtract_77 rfl go_le0 ⟨rfl, rfl, ?_, fr_.tr hf1 hf2⟩
  rw [show v - w = nb f1 s by omega]
  exact hv2
/-- times a factor, plus an addend -/
def wt_I (f0 f : Nat → Int) (x y k : Nat) (c : Int) : Prop := lm_ f ∧ (0 ≤ c ∧ c ≤ 1073741824) ∧ (∀ i, k ≤ i → f i = f0 i) ∧ nb f k + c.toNat * 1073741824 ^ k = nb f0 k * x + y
theorem wt_step {f0 f : Nat → Int} {x y k : Nat} {c : Int} (h : wt_I f0 f x y k c) (hx : x ≤ 1073741824) (hc : c ≤ 1073741823) : wt_I f0 (va_up f k ((f k * (x : Int) + c) % 1073741824)) x y (k + 1) ((f k * (x : Int) + c) / 1073741824) ∧ (f k * (x : Int) + c) / 1073741824 ≤ 1073741823 := by
  obtain ⟨h1, h2, h3, h4⟩ := h
  have e3 := h3 k (Nat.le_refl _)
  have q1 := h1 k
  have hm := gn_mulx (x := f k) (y := (x : Int)) (h1 k) (by omega)
  refine ⟨⟨lm_up h1 (by omega), by omega, fun i hi => by rw [va_up_ne _ _ (by omega)]; exact h3 i (by omega), ?_⟩, by omega⟩
  have e1 : nb (va_up f k ((f k * (x : Int) + c) % 1073741824)) k = nb f k := nb_up (Nat.le_refl _)
  rw [← e1] at h4
  obtain ⟨a, ha⟩ := Int.eq_ofNat_of_zero_le q1.1
  obtain ⟨b, hb⟩ := Int.eq_ofNat_of_zero_le h2.1
  have e4 : (f0 k).toNat = a := by rw [← e3, ha]; rfl
  have e5 : f k * (x : Int) + c = ((a * x + b : Nat) : Int) := by rw [ha, hb, Int.natCast_add, Int.natCast_mul]
  have e6 : c.toNat = b := by rw [hb]; rfl
  have := nv_mulc h4 (by
    show (va_up f k ((f k * (x : Int) + c) % 1073741824) k).toNat = ((f0 k).toNat * x + c.toNat) % 1073741824
    rw [va_up_self, e4, e5, e6]
    omega)
  rw [← this]
  congr 2
  show ((f k * (x : Int) + c) / 1073741824).toNat = ((f0 k).toNat * x + c.toNat) / 1073741824
  rw [e4, e5, e6]
  omega
theorem lp_wtp {s x : Nat} {y : Nat} {f0 : Nat → Int} (hs : s ≤ N) (hN : N < 100) (hx : x ≤ 1073741824) : ∀ (j k : Nat), k + j = s → ∀ {h : mv_H} {f : Nat → Int} {c : Int}, WO h p N f (s : Int) → wt_I f0 f x y k c → c ≤ 1073741823 →
    (∀ (h' : mv_H) (f' : Nat → Int) (c' : Int), WO h' p N f' (s : Int) → fr_ p 2 h h' → wt_I f0 f' x y s c' → c' ≤ 1073741823 → Go φ l m_wh_timesPlus R u 56 [some (mv_R p), some (mv_I (x : Int)), some (mv_I (y : Int)), some (mv_L c'), none, some (mv_I (s : Int)), none, none] [] h' n) →
    Go φ l m_wh_timesPlus R u 6 [some (mv_R p), some (mv_I (x : Int)), some (mv_I (y : Int)), some (mv_L c), none, some (mv_I (k : Int)), none, none] [] h n := by
  intro j
  induction j with
  | zero =>
    intro k hk h f c hp hi hc kx
    have e : k = s := by omega
    subst e
    exact sc_tp_6 hp (by omega) hN hi.1 (by omega) hi.2.1 (by omega) (fun _ => kx h f c hp fr_.rf hi hc) (fun c => absurd (by omega) c)
  | succ j ih =>
    intro k hk h f c hp hi hc kx
    refine sc_tp_6 hp (by omega) hN hi.1 (by omega) hi.2.1 (by omega) (fun c => absurd c (by omega)) (fun _ h' hp' hf => ?_)
    obtain ⟨s1, s2⟩ := wt_step hi hx hc
    exact ih (k + 1) (by omega) hp' s1 s2 (fun h'' f' c' a1 a3 a4 a5 => kx h'' f' c' a1 (fr_.tr hf a3) a4 a5)
/-- the limbs' part of timesPlus: f1 are the limbs behind the loop; limbs above are left alone, but for the carry's -/
theorem tw_tpW {s x y : Nat} (hp : WO h p N f (s : Int)) (hw : wl_ f s N v) (hx : 1 ≤ x ∧ x ≤ 1073741824) (hy : y ≤ 1073741823) (hv : v * x + y < 1073741824 ^ N) : Fn l m_wh_timesPlus rd_wh_timesPlus rw_wh_timesPlus 0 0 [mv_R p, mv_I (x : Int), mv_I (y : Int)] h n
    (fun z h' n' => z = none ∧ n' = n ∧ (∃ (f1 : Nat → Int) (s1 : Nat), WO h' p N f1 (s1 : Int) ∧ wl_ f1 s1 N (v * x + y) ∧ (∀ i, s < i → f1 i = f i) ∧ (s1 = s ∨ s1 = s + 1) ∧ (s1 = s → f1 s = f s)) ∧ fr_ p 2 h h') := by
  have hs := hw.1
  have hN := hw.2.1
  refine fn_of rfl (Nat.le_of_ble_eq_true rfl) rfl ?_
  refine sc_tp_0 hp (by omega) ?_
  refine lp_wtp (f0 := f) hs hN hx.2 s 0 (by omega) hp ⟨hw.2.2.1, by omega, fun _ _ => rfl, by simp [nb, nv]⟩ (by omega) (fun h1 f1 c1 hp1 hf1 hi hc1 => ?_)
  obtain ⟨i1, i2, i3, i4⟩ := hi
  rw [show nb f s = v from hw.2.2.2.2] at i4
  have hl1 := nb_lt (k := s) i1
  have hsz : 0 < c1 → s < N := fun hc => by
    rcases Nat.lt_or_ge s N with a | a
    · exact a
    · exfalso
      have e2 : s = N := by omega
      have h5 : 1 * 1073741824 ^ s ≤ c1.toNat * 1073741824 ^ s := Nat.mul_le_mul_right _ (by omega)
      rw [← e2] at hv
      omega
  refine sc_tp_56 hp1 hN ⟨by omega, fun hc => by have := hsz hc; omega⟩ i2 (fun c => ?_) (fun c h2 hp2 hf2 => ?_)
  · have c0 : c1 = 0 := by
      by_cases a : 0 < c1
      · rw [if_pos a] at c; omega
      · omega
    subst c0
    have hval : nb f1 s = v * x + y := by simpa using i4
    refine go_vret d_wh_timesPlus_83 rfl go_le0 ⟨rfl, rfl, ⟨f1, s, hp1, ⟨hs, hN, i1, fun h0 h1 => ?_, hval⟩, fun i hi => i3 i (by omega), Or.inl rfl, fun _ => i3 s (Nat.le_refl _)⟩, hf1⟩
    have hlow : nb f1 s = nb f1 (s - 1) := by
      have := nb_s (f := f1) (k := s - 1)
      rw [show s - 1 + 1 = s by omega, h1] at this
      simpa using this
    have hl2 := nb_lt (k := s - 1) i1
    have hg := wl_ge hw h0
    have h6 : v * 1 ≤ v * x := Nat.mul_le_mul_left _ hx.1
    omega
  · have c0 : 0 < c1 := by
      by_cases a : 0 < c1
      · exact a
      · exfalso
        rw [if_neg a, if_pos (by omega)] at c
        omega
    have hlt := hsz c0
    rw [Int.toNat_natCast] at hp2
    refine go_vret d_wh_timesPlus_83 rfl go_le0 ⟨rfl, rfl, ⟨_, s + 1, hp2, ⟨by omega, hN, lm_up i1 (by omega), fun h0 => ?_, ?_⟩, fun i hi => ?_, Or.inr rfl, fun e => absurd e (by omega)⟩, fr_.tr hf1 hf2⟩
    · rw [Nat.add_sub_cancel, va_up_self]
      omega
    · rw [nb_up1]
      exact i4
    · rw [va_up_ne _ _ (by omega)]
      exact i3 i (by omega)
theorem tw_timesPlus {x y : Nat} (hp : WV h p N v) (hx : 1 ≤ x ∧ x ≤ 1073741824) (hy : y ≤ 1073741823) (hv : v * x + y < 1073741824 ^ N) : Fn l m_wh_timesPlus rd_wh_timesPlus rw_wh_timesPlus 0 0 [mv_R p, mv_I (x : Int), mv_I (y : Int)] h n
    (fun z h' n' => z = none ∧ n' = n ∧ WV h' p N (v * x + y) ∧ fr_ p 2 h h') := by
  obtain ⟨f, s, hp, hw⟩ := hp
  refine fn_mono (tw_tpW hp hw hx hy hv) ?_
  rintro z h' n' ⟨rfl, rfl, ⟨f1, s1, a1, a2, -⟩, a3⟩
  exact ⟨rfl, rfl, ⟨f1, s1, a1, a2⟩, a3⟩
/-- dividing by a small number -/
def wd_I (f0 f : Nat → Int) (s d k : Nat) (e : Int) : Prop := lm_ f ∧ (0 ≤ e ∧ e < (d : Int)) ∧ (∀ i, i < k → f i = f0 i) ∧ nh 1073741824 (fun i => (f0 i).toNat) k s = nh 1073741824 (fun i => (f i).toNat) k s * d + e.toNat
theorem wd_step {f0 f : Nat → Int} {s d k : Nat} {e : Int} (h : wd_I f0 f s d (k + 1) e) (hk : k < s) (hd : d ≤ 1073741824) : wd_I f0 (va_up f k ((e * 1073741824 + f k) / (d : Int))) s d k ((e * 1073741824 + f k) % (d : Int)) := by
  obtain ⟨h1, h2, h3, h4⟩ := h
  have e3 := h3 k (by omega)
  have q1 := h1 k
  obtain ⟨a, ha⟩ := Int.eq_ofNat_of_zero_le q1.1
  obtain ⟨b, hb⟩ := Int.eq_ofNat_of_zero_le h2.1
  have hd0 : 0 < d := by omega
  have e5 : e * 1073741824 + f k = ((b * 1073741824 + a : Nat) : Int) := by rw [ha, hb]; omega
  have hq : (b * 1073741824 + a) / d < 1073741824 := by
    rw [Nat.div_lt_iff_lt_mul hd0]
    have h7 : (b + 1) * 1073741824 ≤ d * 1073741824 := Nat.mul_le_mul_right _ (by omega)
    omega
  have e6 : (e * 1073741824 + f k) / (d : Int) = (((b * 1073741824 + a) / d : Nat) : Int) := by rw [e5, Int.natCast_ediv]
  have e7 : (e * 1073741824 + f k) % (d : Int) = (((b * 1073741824 + a) % d : Nat) : Int) := by rw [e5, Int.natCast_emod]
  have hmod := Nat.mod_lt (b * 1073741824 + a) hd0
  rw [e6, e7]
  refine ⟨lm_up h1 ⟨Int.natCast_nonneg _, Int.ofNat_le.mpr (Nat.le_of_lt_succ hq)⟩, ⟨Int.natCast_nonneg _, Int.ofNat_lt.mpr hmod⟩, fun i hi => by rw [va_up_ne _ _ (by omega)]; exact h3 i (by omega), ?_⟩
  have e8 : nh 1073741824 (fun i => (va_up f k (((b * 1073741824 + a) / d : Nat) : Int) i).toNat) (k + 1) s = nh 1073741824 (fun i => (f i).toNat) (k + 1) s := nv_congr fun i hi => by
    show (va_up f k (((b * 1073741824 + a) / d : Nat) : Int) (k + 1 + i)).toNat = (f (k + 1 + i)).toNat
    rw [va_up_ne _ _ (by omega)]
  rw [← e8] at h4
  have e9 : (f0 k).toNat = a := by rw [← e3, ha]; rfl
  have e10 : e.toNat = b := by rw [hb]; rfl
  have := nh_div hk h4 (by
    show (va_up f k (((b * 1073741824 + a) / d : Nat) : Int) k).toNat = (e.toNat * 1073741824 + (f0 k).toNat) / d
    rw [va_up_self, e9, e10, Int.toNat_natCast])
  rw [this, e9, e10, Int.toNat_natCast]
theorem lp_wdb {s d : Nat} {f0 : Nat → Int} (hs : s ≤ N) (hN : N < 100) (hd : 0 < d ∧ d ≤ 1073741824) : ∀ (j : Nat), j ≤ s → ∀ {h : mv_H} {f : Nat → Int} {e : Int} (k : Int), k = (j : Int) - 1 → WO h p N f (s : Int) → wd_I f0 f s d j e →
    (∀ (h' : mv_H) (f' : Nat → Int) (e' : Int), WO h' p N f' (s : Int) → fr_ p 2 h h' → wd_I f0 f' s d 0 e' → Go φ l m_wh_divideBy R u 55 [some (mv_R p), some (mv_I (d : Int)), some (mv_L e'), none, some (mv_I (-1)), none, none] [] h' n) →
    Go φ l m_wh_divideBy R u 10 [some (mv_R p), some (mv_I (d : Int)), some (mv_L e), none, some (mv_I k), none, none] [] h n := by
  intro j
  induction j with
  | zero =>
    intro hj h f e k hk hp hi kx
    have e : k = -1 := by omega
    subst e
    exact sc_db_10 hp (by omega) hN hi.1 (by omega) hi.2.1 (by omega) (fun _ => kx h f _ hp fr_.rf hi) (fun c => absurd (by decide) c)
  | succ j ih =>
    intro hj h f e k hk hp hi kx
    have e : k = (j : Int) := by omega
    subst e
    refine sc_db_10 hp (by omega) hN hi.1 (by omega) hi.2.1 (by omega) (fun c => absurd c (by omega)) (fun _ h' hp' hf => ?_)
    rw [Int.toNat_natCast] at hp' ⊢
    exact ih (by omega) _ (by omega) hp' (wd_step hi (by omega) hd.2) (fun h'' f' c' a1 a3 a4 => kx h'' f' c' a1 (fr_.tr hf a3) a4)
theorem tw_divideBy {d : Nat} (hp : WV h p N v) (hd : 0 < d ∧ d ≤ 1073741824) : Fn l m_wh_divideBy rd_wh_divideBy rw_wh_divideBy 0 0 [mv_R p, mv_I (d : Int)] h n
    (fun z h' n' => z = some (mv_I ((v % d : Nat) : Int)) ∧ n' = n ∧ WV h' p N (v / d) ∧ fr_ p 2 h h') := by
  obtain ⟨f, s, hp, hw⟩ := hp
  have hs := hw.1
  have hN := hw.2.1
  refine fn_of rfl (Nat.le_of_ble_eq_true rfl) rfl ?_
  refine sc_db_0 hp ?_
  refine lp_wdb (f0 := f) hs hN hd s (Nat.le_refl _) _ rfl hp ⟨hw.2.2.1, by omega, fun _ _ => rfl, by rw [nh_n]; simp⟩ (fun h1 f1 e1 hp1 hf1 hi => ?_)
  obtain ⟨i1, i2, i3, i4⟩ := hi
  rw [nh_0, nh_0] at i4
  have i5 : v = nb f1 s * d + e1.toNat := by rw [← hw.2.2.2.2]; exact i4
  have hlt : e1.toNat < d := by omega
  have hdv : v / d = nb f1 s := by
    rw [i5, Nat.mul_comm, Nat.mul_add_div hd.1, Nat.div_eq_of_lt hlt, Nat.add_zero]
  have hmd : v % d = e1.toNat := by
    rw [i5, Nat.mul_comm, Nat.mul_add_mod, Nat.mod_eq_of_lt hlt]
  refine sc_db_55 hp1 ?_
  refine cw_cutTo (q := 63) l_wh_36 d_wh_divideBy_60 rfl hp1 hs hN i1 (by decide) ⟨by decide, by decide, by decide, by decide⟩ (fun h2 hv2 hf2 => ?_)
  obtain ⟨f2, s2, hp2, hw2⟩ := id hv2
  refine sc_db_63 hp2 ?_
  refine go_iret d_wh_divideBy_65 rfl go_le0 ⟨?_, rfl, ?_, fr_.tr hf1 hf2⟩
  · rw [hmd, Int.toNat_of_nonneg i2.1]
  · rw [hdv]
    exact hv2
end WhVal2
