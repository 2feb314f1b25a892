/-! the Divider: putBack, takeAway -/
abbrev nw (f : Nat → Int) (sh k : Nat) : Nat := nb (fun i => f (sh + i)) k
theorem nw_s {f : Nat → Int} {sh k : Nat} : nw f sh (k + 1) = nw f sh k + (f (sh + k)).toNat * 1073741824 ^ k := rfl
theorem nw_up {f : Nat → Int} {sh k : Nat} {x : Int} : nw (va_up f (sh + k) x) sh k = nw f sh k := nv_congr fun i hi => by
  show (va_up f (sh + k) x (sh + i)).toNat = (f (sh + i)).toNat
  rw [va_up_ne _ _ (by omega)]
theorem nw_up1 {f : Nat → Int} {sh k : Nat} {x : Int} : nw (va_up f (sh + k) x) sh (k + 1) = nw f sh k + x.toNat * 1073741824 ^ k := by
  rw [nw_s, nw_up, va_up_self]
theorem nw_lt {f : Nat → Int} {sh k : Nat} (hf : lm_ f) : nw f sh k < 1073741824 ^ k := nv_lt fun i _ => lm_lt hf _
theorem pb_alg {F G C Y P s d m : Nat} (hs : m + 1073741824 * d = s) (h : F + C * P = Y) : F + m * P + d * (P * 1073741824) + C * P = Y + s * P := by
  subst hs
  grind
section DiVal
variable {φ : go_F} {l : Launch} {M : go_M} {R : Room} {u : Nat × Nat} {pc q n t sh : Nat} {L : List (Option mv_V)} {rest : List mv_V} {h : mv_H} {f g : Nat → Int} {s : Int}
theorem lp_pb {f0 : Nat → Int} (hs : sh + t ≤ 17 ∧ 0 < t) (hg : lm_ g) : ∀ (j k : Nat), k + j = t → ∀ {h : mv_H} {f : Nat → Int} {c : Int}, DV h 17 → WO h 18 18 f s → WO h 20 18 g (t : Int) → lm_ f → (0 ≤ c ∧ c ≤ 1) → (∀ i, (i < sh ∨ sh + k ≤ i) → f i = f0 i) → nw f sh k + c.toNat * 1073741824 ^ k = nw f0 sh k + nb g k →
    (∀ (h' : mv_H) (f' : Nat → Int) (c' : Int), DV h' 17 → WO h' 18 18 f' s → WO h' 20 18 g (t : Int) → lm_ f' → (0 ≤ c' ∧ c' ≤ 1) → (∀ i, (i < sh ∨ sh + t ≤ i) → f' i = f0 i) → nw f' sh t + c'.toNat * 1073741824 ^ t = nw f0 sh t + nb g t → fr_ 18 2 h h' → Go φ l m_di_putBack R u 68 [some (mv_R 17), some (mv_I (sh : Int)), some (mv_I c'), some (mv_I (t : Int)), none] [] h' n) →
    Go φ l m_di_putBack R u 4 [some (mv_R 17), some (mv_I (sh : Int)), some (mv_I c), some (mv_I (k : Int)), none] [] h n := by
  intro j
  induction j with
  | zero =>
    intro k hk h f c hd ha hb hf hc ho hv kx
    have e : k = t := by omega
    subst e
    exact sd_pb_4 hd ha hb hs hf hg (by omega) hc (fun _ => kx h f c hd ha hb hf hc ho hv fr_.rf) (fun c => absurd (by omega) c)
  | succ j ih =>
    intro k hk h f c hd ha hb hf hc ho hv kx
    refine sd_pb_4 hd ha hb hs hf hg (by omega) hc (fun c => absurd c (by omega)) (fun _ h' hd' ha' hb' hr => ?_)
    have q1 := hf (sh + k)
    have q2 := hg k
    refine ih (k + 1) (by omega) hd' ha' hb' (lm_up hf (by omega)) (by omega) (fun i hi => by rw [va_up_ne _ _ (by omega)]; exact ho i (by omega)) ?_ (fun h'' f' c' a1 a2 a3 a4 a5 a6 a7 a8 => kx h'' f' c' a1 a2 a3 a4 a5 a6 a7 (fr_.tr hr a8))
    rw [nw_up1, nw_s (f := f0), nb_s (f := g), ← ho (sh + k) (by omega), Nat.pow_succ]
    obtain ⟨x, hx⟩ : ∃ x : Nat, x = (f (sh + k)).toNat + (g k).toNat + c.toNat := ⟨_, rfl⟩
    have e1 : ((f (sh + k) + g k + c) % 1073741824).toNat = x % 1073741824 := by omega
    have e2 : ((f (sh + k) + g k + c) / 1073741824).toNat = x / 1073741824 := by omega
    rw [e1, e2]
    have h1 := Nat.mod_add_div x 1073741824
    generalize x % 1073741824 = r at *
    generalize x / 1073741824 = z at *
    generalize 1073741824 ^ k = P at *
    have h2 : (r + 1073741824 * z) * P = ((f (sh + k)).toNat + (g k).toNat + c.toNat) * P := by rw [h1, hx]
    grind
theorem tw_putBack (hd : DV h 17) (ha : WO h 18 18 f s) (hb : WO h 20 18 g (t : Int)) (hs : sh + t ≤ 17 ∧ 0 < t) (hf : lm_ f) (hg : lm_ g) : Fn l m_di_putBack rd_di_putBack rw_di_putBack 0 0 [mv_R 17, mv_I (sh : Int)] h n
    (fun x h' n' => ∃ (c : Int) (f' : Nat → Int), x = some (mv_I c) ∧ (0 ≤ c ∧ c ≤ 1) ∧ n' = n ∧ DV h' 17 ∧ WO h' 18 18 f' s ∧ WO h' 20 18 g (t : Int) ∧ lm_ f' ∧ (∀ i, (i < sh ∨ sh + t ≤ i) → f' i = f i) ∧ nw f' sh t + c.toNat * 1073741824 ^ t = nw f sh t + nb g t ∧ fr_ 18 2 h h') := by
  refine fn_of rfl (Nat.le_of_ble_eq_true rfl) rfl ?_
  refine sd_pb_0 hd ha hb ?_
  refine lp_pb (f0 := f) hs hg t 0 (by omega) hd ha hb hf (by omega) (fun _ _ => rfl) (by simp [nb, nv]) (fun h1 f1 c1 hd1 ha1 hb1 hf1 hc1 ho1 hv1 hr1 => ?_)
  refine sd_pb_68 hd1 ha1 hb1 ?_
  exact go_iret d_di_putBack_69 rfl go_le0 ⟨c1, f1, rfl, hc1, rfl, hd1, ha1, hb1, hf1, ho1, hv1, hr1⟩
/-- what the guess is -/
theorem ta_hat {H D A dt Dl Hl P x : Nat} (hH : H = A * P + Hl) (hl : Hl < P) (hD : D = dt * P + Dl) (hdl : Dl < P) (hdt : 536870912 ≤ dt) (hlt : H < D * 1073741824) (hx : x = if 1073741823 < A / dt then 1073741823 else A / dt) : H / D ≤ x ∧ x ≤ H / D + 2 ∧ x ≤ 1073741823 := by
  have hP : 0 < P := by omega
  have hdP : 536870912 * P ≤ dt * P := Nat.mul_le_mul_right _ hdt
  have hD0 : 0 < D := by omega
  have hq1 : H / D < 1073741824 := by
    rw [Nat.div_lt_iff_lt_mul hD0, Nat.mul_comm]
    exact hlt
  have hqD : H / D * D ≤ H := Nat.div_mul_le_self H D
  have hq2 : H / D ≤ A / dt := by
    rw [Nat.le_div_iff_mul_le (by omega)]
    have h1 : H / D * (dt * P) ≤ H / D * D := Nat.mul_le_mul_left _ (by omega)
    have h2 : H / D * dt * P < (A + 1) * P := by
      rw [Nat.mul_assoc, Nat.succ_mul]
      omega
    have := Nat.lt_of_mul_lt_mul_right h2
    omega
  have hx1 : x ≤ A / dt ∧ x ≤ 1073741823 ∧ H / D ≤ x := by
    rw [hx]
    split <;> omega
  refine ⟨hx1.2.2, ?_, hx1.2.1⟩
  have h3 : x * dt ≤ A := Nat.le_trans (Nat.mul_le_mul_right _ hx1.1) (Nat.div_mul_le_self A dt)
  have h4 : x * dt * P ≤ A * P := Nat.mul_le_mul_right _ h3
  have h5 : x * Dl ≤ 1073741823 * P := Nat.mul_le_mul hx1.2.1 (Nat.le_of_lt hdl)
  have h6 : x * D = x * dt * P + x * Dl := by rw [hD, Nat.mul_add, Nat.mul_assoc]
  have h7 : x * D < H + 2 * D := by omega
  rcases Nat.lt_or_ge x 2 with c | c
  · generalize H / D = Q at *
    omega
  · have h8 : (x - 2) * D ≤ H := by
      have : (x - 2) * D + 2 * D = x * D := by rw [← Nat.add_mul]; congr 1; omega
      omega
    have := (Nat.le_div_iff_mul_le hD0).mpr h8
    generalize H / D = Q at *
    omega
/-- behind the guesses -/
theorem ta_end {W H D P : Nat} {c : Int} (h : (W : Int) + c * (P : Int) = (H : Int) - ((H / D : Nat) : Int) * (D : Int)) (hW : W < P) (hD : 0 < D) (hDP : D ≤ P) : W = H % D := by
  have h1 : (H : Int) - ((H / D : Nat) : Int) * (D : Int) = ((H % D : Nat) : Int) := by
    have := Nat.div_add_mod H D
    rw [← Int.natCast_mul, Nat.mul_comm]
    omega
  rw [h1] at h
  have h2 := Nat.mod_lt H hD
  rcases Int.lt_trichotomy c 0 with hc | hc | hc
  · exfalso
    have h3 : c * (P : Int) ≤ (-1) * (P : Int) := Int.mul_le_mul_of_nonneg_right (by omega) (Int.natCast_nonneg _)
    omega
  · subst hc
    rw [Int.zero_mul] at h
    omega
  · exfalso
    have h3 : 1 * (P : Int) ≤ c * (P : Int) := Int.mul_le_mul_of_nonneg_right (by omega) (Int.natCast_nonneg _)
    omega
theorem ta_ge {W H D P x : Nat} {c : Int} (h : (W : Int) + c * (P : Int) = (H : Int) - (x : Int) * (D : Int)) (hc : 0 ≤ c) (hD : 0 < D) : x ≤ H / D := by
  have h3 : 0 ≤ c * (P : Int) := Int.mul_nonneg hc (Int.natCast_nonneg _)
  rw [← Int.natCast_mul] at h
  exact (Nat.le_div_iff_mul_le hD).mpr (by omega)
theorem ta_step {F0 G W P a b : Nat} {X C left : Int} (h : (W : Int) + C * (P : Int) = (F0 : Int) - X * (G : Int)) (hl : left = (a : Int) - X * (b : Int) + C) : ((W + (left % 1073741824).toNat * P : Nat) : Int) + left / 1073741824 * ((P * 1073741824 : Nat) : Int) = ((F0 + a * P : Nat) : Int) - X * ((G + b * P : Nat) : Int) := by
  have h1 : (0 : Int) ≤ left % 1073741824 := Int.emod_nonneg _ (by decide)
  have h2 := Int.mul_ediv_add_emod left 1073741824
  rw [Int.natCast_add, Int.natCast_mul, Int.toNat_of_nonneg h1, Int.natCast_mul, Int.natCast_add, Int.natCast_mul, Int.natCast_add, Int.natCast_mul]
  generalize left % 1073741824 = r at *
  generalize left / 1073741824 = z at *
  have h3 : (1073741824 * z + r) * (P : Int) = ((a : Int) - X * (b : Int) + C) * (P : Int) := by rw [h2, hl]
  grind
theorem lp_ta71 {f0 : Nat → Int} {hd0 : Nat} {w : Int} {x : Nat} (hs : sh + t ≤ 17 ∧ 0 < t) (hg : lm_ g) (hx : x ≤ 1073741823) : ∀ (j k : Nat), k + j = t → ∀ {h : mv_H} {f : Nat → Int} {c : Int}, DV h 17 → WO h 18 18 f s → WO h 20 18 g (t : Int) → lm_ f → (-1073741823 ≤ c ∧ c ≤ 0) → (∀ i, (i < sh ∨ sh + k ≤ i) → f i = f0 i) → (nw f sh k : Int) + c * ((1073741824 ^ k : Nat) : Int) = (nw f0 sh k : Int) - (x : Int) * (nb g k : Int) →
    (∀ (h' : mv_H) (f' : Nat → Int) (c' : Int), DV h' 17 → WO h' 18 18 f' s → WO h' 20 18 g (t : Int) → lm_ f' → (-1073741823 ≤ c' ∧ c' ≤ 0) → (∀ i, (i < sh ∨ sh + t ≤ i) → f' i = f0 i) → (nw f' sh t : Int) + c' * ((1073741824 ^ t : Nat) : Int) = (nw f0 sh t : Int) - (x : Int) * (nb g t : Int) → fr_ 18 2 h h' → Go φ l m_di_takeAway R u 148 [some (mv_R 17), some (mv_I (sh : Int)), some (mv_I (hd0 : Int)), some (mv_L w), none, some (mv_L (x : Int)), none, some (mv_L c'), none, some (mv_I (t : Int)), none, none] [] h' n) →
    Go φ l m_di_takeAway R u 71 [some (mv_R 17), some (mv_I (sh : Int)), some (mv_I (hd0 : Int)), some (mv_L w), none, some (mv_L (x : Int)), none, some (mv_L c), none, some (mv_I (k : Int)), none, none] [] h n := by
  intro j
  induction j with
  | zero =>
    intro k hk h f c hd ha hb hf hc ho hv kx
    have e : k = t := by omega
    subst e
    exact sd_ta_71 hd ha hb hs hf hg (by omega) (by omega) hc (fun _ => kx h f c hd ha hb hf hc ho hv fr_.rf) (fun c => absurd (by omega) c)
  | succ j ih =>
    intro k hk h f c hd ha hb hf hc ho hv kx
    refine sd_ta_71 hd ha hb hs hf hg (by omega) (by omega) hc (fun c => absurd c (by omega)) (fun _ h' hd' ha' hb' hr => ?_)
    have q1 := hf (sh + k)
    have q2 := hg k
    have q3 := gn_muly (x := (x : Int)) (by omega) (hg k)
    refine ih (k + 1) (by omega) hd' ha' hb' (lm_up hf (by omega)) (by omega) (fun i hi => by rw [va_up_ne _ _ (by omega)]; exact ho i (by omega)) ?_ (fun h'' f' c' a1 a2 a3 a4 a5 a6 a7 a8 => kx h'' f' c' a1 a2 a3 a4 a5 a6 a7 (fr_.tr hr a8))
    rw [nw_up1, nw_s (f := f0), nb_s (f := g), ← ho (sh + k) (by omega), Nat.pow_succ]
    refine ta_step hv ?_
    rw [Int.toNat_of_nonneg q1.1, Int.toNat_of_nonneg q2.1]
theorem lp_ta166 {f0 : Nat → Int} {hd0 H : Nat} {w : Int} (hs : sh + t ≤ 17 ∧ 0 < t) (hg : lm_ g) (hD : 0 < nb g t) : ∀ (j k : Nat), k + j = 2 → ∀ {h : mv_H} {f : Nat → Int} {c : Int} (x : Nat), DV h 17 → WO h 18 18 f s → WO h 20 18 g (t : Int) → lm_ f → (-1073741823 ≤ c ∧ c ≤ 1073741823) → (∀ i, (i < sh ∨ sh + t ≤ i) → f i = f0 i) → (nw f sh t : Int) + c * ((1073741824 ^ t : Nat) : Int) = (H : Int) - (x : Int) * (nb g t : Int) → H / nb g t ≤ x → x + k ≤ H / nb g t + 2 →
    (∀ (h' : mv_H) (f' : Nat → Int) (c' : Int) (k' : Nat), DV h' 17 → WO h' 18 18 f' s → WO h' 20 18 g (t : Int) → lm_ f' → (∀ i, (i < sh ∨ sh + t ≤ i) → f' i = f0 i) → nw f' sh t = H % nb g t → fr_ 18 2 h h' → Go φ l m_di_takeAway R u 202 [some (mv_R 17), some (mv_I (sh : Int)), some (mv_I (hd0 : Int)), some (mv_L w), none, some (mv_L ((H / nb g t : Nat) : Int)), none, some (mv_L c'), none, some (mv_I (k' : Int)), none, none] [] h' n) → (go_fit R u 5 rd_di_putBack rw_di_putBack 0 0) →
    Go φ l m_di_takeAway R u 166 [some (mv_R 17), some (mv_I (sh : Int)), some (mv_I (hd0 : Int)), some (mv_L w), none, some (mv_L (x : Int)), none, some (mv_L c), none, some (mv_I (k : Int)), none, none] [] h n := by
  have fin : ∀ {f : Nat → Int} {c : Int} {x : Nat}, lm_ f → (nw f sh t : Int) + c * ((1073741824 ^ t : Nat) : Int) = (H : Int) - (x : Int) * (nb g t : Int) → x = H / nb g t → nw f sh t = H % nb g t := by
    intro f c x hf hv hx
    subst hx
    exact ta_end hv (nw_lt hf) hD (Nat.le_of_lt (nb_lt hg))
  intro j
  induction j with
  | zero =>
    intro k hk h f c x hd ha hb hf hc ho hv h1 h2 kx hR
    have e : k = 2 := by omega
    subst e
    have hx : x = H / nb g t := by omega
    refine sd_ta_166 hd ha hb (by omega) hc (fun _ => ?_) (fun c => absurd (by omega) c) (fun c => absurd (by omega) c)
    have := fin hf hv hx
    subst hx
    exact kx h f c 2 hd ha hb hf ho this fr_.rf
  | succ j ih =>
    intro k hk h f c x hd ha hb hf hc ho hv h1 h2 kx hR
    refine sd_ta_166 hd ha hb (by omega) hc (fun c => absurd c (by omega)) (fun _ c0 => ?_) (fun _ c0 => ?_)
    · have hc0 : 0 ≤ c := by
        by_cases a : 0 < c
        · omega
        · by_cases b : c = 0
          · omega
          · rw [if_neg a, if_neg b] at c0
            exact absurd c0 (by decide)
      have hx : x = H / nb g t := by
        have := ta_ge hv hc0 hD
        omega
      have := fin hf hv hx
      subst hx
      exact kx h f c k hd ha hb hf ho this fr_.rf
    · have hc0 : c < 0 := by
        by_cases a : 0 < c
        · rw [if_pos a] at c0
          exact absurd (by decide) c0
        · by_cases b : c = 0
          · rw [if_neg a, if_pos b] at c0
            exact absurd (by decide) c0
          · omega
      have hx : H / nb g t < x := by
        rcases Nat.lt_or_ge (H / nb g t) x with a | a
        · exact a
        · exfalso
          have e : x = H / nb g t := by omega
          have hz := nw_lt (sh := sh) (k := t) hf
          have h6 : (H : Int) - (x : Int) * (nb g t : Int) = ((H % nb g t : Nat) : Int) := by
            subst e
            have := Nat.div_add_mod H (nb g t)
            rw [← Int.natCast_mul, Nat.mul_comm]
            omega
          rw [h6] at hv
          have h3 : c * ((1073741824 ^ t : Nat) : Int) ≤ (-1) * ((1073741824 ^ t : Nat) : Int) := Int.mul_le_mul_of_nonneg_right (by omega) (Int.natCast_nonneg _)
          omega
      refine go_callV (M' := m_di_putBack) (d := rd_di_putBack) (w := rw_di_putBack) (mc := 0) (ms := 0) (as := [mv_I (sh : Int)]) (b := 17) (rest := [mv_L c]) (q := 186) g_di_putBack i_di_putBack v_di_putBack l_di_75 d_di_takeAway_183 rfl rfl rfl hd rfl (Nat.le_of_ble_eq_true rfl) hR (tw_putBack hd ha hb hs hf hg) ?_
      rintro v1 h1' n1 ⟨c1, f1, rfl, hc1, rfl, hd1, ha1, hb1, hf1, ho1, hv1, hr1⟩ -
      refine go_u0 (sd_ta_186 hd1 ha1 hb1 hc1 ?_)
      have hx0 : 0 < x := Nat.lt_of_le_of_lt (Nat.zero_le _) hx
      have ex : (x : Int) - 1 = ((x - 1 : Nat) : Int) := by omega
      rw [ex]
      refine ih (k + 1) (by omega) (x - 1) hd1 ha1 hb1 hf1 (by omega) (fun i hi => (ho1 i hi).trans (ho i hi)) ?_ (by omega) (by omega) (fun h'' f' c' k' a1 a2 a3 a4 a5 a6 a7 => kx h'' f' c' k' a1 a2 a3 a4 a5 a6 (fr_.tr hr1 a7)) hR
      rw [← ex]
      have e7 : (nw f1 sh t : Int) + c1 * ((1073741824 ^ t : Nat) : Int) = (nw f sh t : Int) + (nb g t : Int) := by
        have e8 : c1 * ((1073741824 ^ t : Nat) : Int) = ((c1.toNat * 1073741824 ^ t : Nat) : Int) := by rw [Int.natCast_mul, Int.toNat_of_nonneg hc1.1]
        rw [e8]
        omega
      rw [Int.add_mul, Int.sub_mul]
      omega
theorem tw_takeAway (hd : DV h 17) (ha : WO h 18 18 f s) (hb : WO h 20 18 g (t : Int)) (hs : sh + t ≤ 17 ∧ 0 < t) (hf : lm_ f) (hg : lm_ g) (hg0 : 536870912 ≤ g (t - 1)) (hH : nw f sh (t + 1) < nb g t * 1073741824) : Fn l m_di_takeAway rd_di_takeAway rw_di_takeAway 0 0 [mv_R 17, mv_I (sh : Int)] h n
    (fun x h' n' => ∃ f' : Nat → Int, x = some (mv_I ((nw f sh (t + 1) / nb g t : Nat) : Int)) ∧ n' = n ∧ DV h' 17 ∧ WO h' 18 18 f' s ∧ WO h' 20 18 g (t : Int) ∧ lm_ f' ∧ (∀ i, (i < sh ∨ sh + t ≤ i) → f' i = f i) ∧ nw f' sh t = nw f sh (t + 1) % nb g t ∧ fr_ 18 2 h h') := by
  have q1 := hf (sh + t)
  have q2 := hf (sh + t - 1)
  have q3 := hg (t - 1)
  obtain ⟨A, hA⟩ : ∃ A : Nat, A = (f (sh + t)).toNat * 1073741824 + (f (sh + t - 1)).toNat := ⟨_, rfl⟩
  obtain ⟨dt, hdt⟩ : ∃ dt : Nat, dt = (g (t - 1)).toNat := ⟨_, rfl⟩
  obtain ⟨x, hx⟩ : ∃ x : Nat, x = if 1073741823 < A / dt then 1073741823 else A / dt := ⟨_, rfl⟩
  have hAi : f (sh + t) * 1073741824 + f (sh + t - 1) = (A : Int) := by omega
  have hdi : g (t - 1) = (dt : Int) := by omega
  have e1 : nw f sh (t + 1) = A * 1073741824 ^ (t - 1) + nw f sh (t - 1) := by
    have a1 : nw f sh t = nw f sh (t - 1) + (f (sh + (t - 1))).toNat * 1073741824 ^ (t - 1) := by
      have := nw_s (f := f) (sh := sh) (k := t - 1)
      rwa [show t - 1 + 1 = t by omega] at this
    have a2 : 1073741824 ^ t = 1073741824 ^ (t - 1) * 1073741824 := by rw [← Nat.pow_succ, show (t - 1).succ = t by omega]
    rw [nw_s, a1, a2, hA, show sh + (t - 1) = sh + t - 1 by omega]
    generalize 1073741824 ^ (t - 1) = P
    grind
  have e2 : nb g t = dt * 1073741824 ^ (t - 1) + nb g (t - 1) := by
    have := nb_s (f := g) (k := t - 1)
    rw [show t - 1 + 1 = t by omega] at this
    rw [this, hdt]
    omega
  obtain ⟨x1, x2, x3⟩ := ta_hat e1 (nw_lt hf) e2 (nb_lt hg) (by omega) hH hx
  have hD : 0 < nb g t := by
    rcases Nat.eq_zero_or_pos (nb g t) with a | a
    · rw [a, Nat.zero_mul] at hH
      omega
    · exact a
  have hxi : (if (1073741823 : Int) < (A : Int) / (dt : Int) then (1073741823 : Int) else (A : Int) / (dt : Int)) = (x : Int) := by
    rw [hx, ← Int.natCast_ediv]
    by_cases c : 1073741823 < A / dt
    · rw [if_pos c, if_pos (by omega)]; rfl
    · rw [if_neg c, if_neg (by omega)]
  have hAd : (A : Int) / (dt : Int) ≤ 9223372036854775807 := by
    have h1 : A / dt ≤ A := Nat.div_le_self _ _
    rw [← Int.natCast_ediv]
    omega
  have hAd0 : 0 ≤ (A : Int) / (dt : Int) := by
    rw [← Int.natCast_ediv]
    exact Int.natCast_nonneg _
  refine fn_of rfl (Nat.le_of_ble_eq_true rfl) rfl ?_
  refine sd_ta_0 hd ha hb hs hf hg (by omega) ?_
  rw [hAi, hdi]
  refine go_mminL (q := 63) tw_3_97 tw_3_98 tw_1_12 tw_3_99 d_di_takeAway_60 rfl (by omega) (by omega) ⟨by decide, by decide, by decide, by decide⟩ ?_
  rw [hxi, ← Int.natCast_add]
  refine sd_ta_63 hd ha hb ?_
  refine lp_ta71 (f0 := f) hs hg x3 t 0 (by omega) hd ha hb hf (by omega) (fun _ _ => rfl) (by simp [nb, nv]) (fun h1 f1 c1 hd1 ha1 hb1 hf1 hc1 ho1 hv1 hr1 => ?_)
  refine sd_ta_148 hd1 ha1 hb1 hf1 hs.1 hc1 ?_
  have q4 := hf1 (sh + t)
  refine lp_ta166 (f0 := f) (H := nw f sh (t + 1)) hs hg hD 2 0 (by omega) x hd1 ha1 hb1 hf1 (by omega) ho1 ?_ x1 (by omega) (fun h2 f2 c2 k2 hd2 ha2 hb2 hf2 ho2 hv2 hr2 => ?_) ⟨by decide, by decide, by decide, by decide⟩
  · rw [ho1 (sh + t) (by omega), nw_s, Int.natCast_add, Int.natCast_mul, Int.toNat_of_nonneg q1.1, Int.add_mul]
    omega
  · refine sd_ta_202 hd2 ha2 hb2 ?_
    exact go_iret d_di_takeAway_205 rfl go_le0 ⟨f2, rfl, rfl, hd2, ha2, hb2, hf2, ho2, hv2, fr_.tr hr1 hr2⟩
end DiVal
