/-! the model's rows: common (the greatest common divisor) -/
theorem gc_odd {y : Nat} (h : ¬ y % 2 = 0) : Nat.Coprime 2 y := by
  have h1 : Nat.gcd 2 y ∣ 2 := Nat.gcd_dvd_left 2 y
  have h2 : Nat.gcd 2 y ∣ y := Nat.gcd_dvd_right 2 y
  have h3 : Nat.gcd 2 y ≤ 2 := Nat.le_of_dvd (by decide) h1
  have h4 : 0 < Nat.gcd 2 y := Nat.gcd_pos_of_pos_left _ (by decide)
  have h5 : Nat.gcd 2 y = 1 ∨ Nat.gcd 2 y = 2 := by omega
  rcases h5 with h5 | h5
  · exact h5
  · rw [h5] at h2
    obtain ⟨c, hc⟩ := h2
    omega
theorem gc_half {x y : Nat} (hx : x % 2 = 0) (hy : ¬ y % 2 = 0) : Nat.gcd (x / 2) y = Nat.gcd x y := by
  have h1 : x = 2 * (x / 2) := by omega
  conv => rhs; rw [h1]
  exact ((gc_odd hy).gcd_mul_left_cancel (x / 2)).symm
theorem gc_both {x y : Nat} (hx : x % 2 = 0) (hy : y % 2 = 0) : 2 * Nat.gcd (x / 2) (y / 2) = Nat.gcd x y := by
  have h1 : x = 2 * (x / 2) := by omega
  have h2 : y = 2 * (y / 2) := by omega
  conv => rhs; rw [h1, h2]
  exact (Nat.gcd_mul_left 2 (x / 2) (y / 2)).symm
section MoGcd
variable {φ : go_F} {l : Launch} {h : mv_H} {n o : Nat} {I tx S ps cs bs : Nat → Int} {V : Nat → Nat}
theorem gc_lim : (10000 : Nat) ^ 40 < 2 ^ 600 := by decide +kernel
theorem lp_com18 {a b G : Nat} (hG : 0 < G → G < 10000 ^ 40) : ∀ (g w : Nat) {h : mv_H} {V : Nat → Nat}, V 154 + V 155 ≤ g → mo_V h o (I, tx, S, ps, cs, bs) V → 2 ^ w * Nat.gcd (V 154) (V 155) = G → w < 600 →
    (∀ (h' : mv_H) (V' : Nat → Nat) (w' : Nat), mo_V h' o (I, tx, S, ps, cs, bs) V' → fr_ o 8 h h' → (∀ i, i ≠ 154 → i ≠ 155 → V' i = V i) → 2 ^ w' * Nat.gcd (V' 154) (V' 155) = G → w' < 600 → (V' 154 = 0 ∨ V' 155 = 0) → Go φ l m_mo_common (go_rm rd_mo_common rw_mo_common 0 0) (0, 0) 156 [some (mv_R o), some (mv_I (a : Int)), some (mv_I (b : Int)), some (mv_I (w' : Int)), none, none] [] h' n) →
    Go φ l m_mo_common (go_rm rd_mo_common rw_mo_common 0 0) (0, 0) 18 [some (mv_R o), some (mv_I (a : Int)), some (mv_I (b : Int)), some (mv_I (w : Int)), none, none] [] h n := by
  intro g
  induction g with
  | zero =>
    intro w h V hg hV hi hw kx
    exact sv_common_18 hV hw (fun c => kx h V w hV fr_.rf (fun _ _ _ => rfl) hi hw (Or.inl c)) (fun c c2 => kx h V w hV fr_.rf (fun _ _ _ => rfl) hi hw (Or.inr c2)) (fun c => absurd (by omega) c) (fun c => absurd (by omega) c) (fun c => absurd (by omega) c) (fun c => absurd (by omega) c) (fun c => absurd (by omega) c)
  | succ g ih =>
    intro w h V hg hV hi hw kx
    have next : ∀ (w' x y : Nat) (h' : mv_H) (V' : Nat → Nat), mo_V h' o (I, tx, S, ps, cs, bs) V' → fr_ o 8 h h' → (∀ i, i ≠ 154 → i ≠ 155 → V' i = V i) → V' 154 = x → V' 155 = y → x + y ≤ g → 2 ^ w' * Nat.gcd x y = G → w' < 600 → Go φ l m_mo_common (go_rm rd_mo_common rw_mo_common 0 0) (0, 0) 18 [some (mv_R o), some (mv_I (a : Int)), some (mv_I (b : Int)), some (mv_I (w' : Int)), none, none] [] h' n := by
      intro w' x y h' V' a1 a2 a3 a4 a5 a6 a7 a8
      subst a4
      subst a5
      exact ih w' a6 a1 a7 a8 (fun h'' V'' w'' b1 b2 b3 => kx h'' V'' w'' b1 (fr_.tr a2 b2) (fun i i1 i2 => (b3 i i1 i2).trans (a3 i i1 i2)))
    refine sv_common_18 hV hw (fun c => kx h V w hV fr_.rf (fun _ _ _ => rfl) hi hw (Or.inl c)) (fun c c2 => kx h V w hV fr_.rf (fun _ _ _ => rfl) hi hw (Or.inr c2)) (fun c1 c2 c3 c4 h' hV' hf => ?_) (fun c1 c2 c3 c4 h' hV' hf => ?_) (fun c1 c2 c3 c4 c5 h' hV' hf => ?_) (fun c1 c2 c3 c4 c5 h' hV' hf => ?_) (fun c1 c2 c3 c4 h' hV' hf => ?_)
    · exact next w (V 154 / 2) (V 155) h' _ hV' hf (fun i i1 i2 => va_up_ne _ _ i1) (va_up_self _ _ _) (va_up_ne _ _ (by omega)) (by omega) (by rw [gc_half c3 c4]; exact hi) hw
    · have hb : 2 ^ (w + 1) * Nat.gcd (V 154 / 2) (V 155 / 2) = G := by
        rw [Nat.pow_succ, Nat.mul_assoc, gc_both c3 c4]
        exact hi
      have hgp : 0 < Nat.gcd (V 154 / 2) (V 155 / 2) := Nat.gcd_pos_of_pos_left _ (by omega)
      have hw' : w + 1 < 600 := by
        have h1 : 2 ^ (w + 1) * 1 ≤ 2 ^ (w + 1) * Nat.gcd (V 154 / 2) (V 155 / 2) := Nat.mul_le_mul_left _ hgp
        have h2 : 0 < 2 ^ (w + 1) := Nat.pow_pos (by decide)
        have h3 := hG (by omega)
        have h4 := gc_lim
        exact (Nat.pow_lt_pow_iff_right (a := 2) (by decide)).mp (by omega)
      exact next (w + 1) (V 154 / 2) (V 155 / 2) h' _ hV' hf (fun i i1 i2 => by rw [va_up_ne _ _ i2, va_up_ne _ _ i1]) (by rw [va_up_ne _ _ (by omega), va_up_self]) (va_up_self _ _ _) (by omega) hb hw'
    · exact next w (V 154 - V 155) (V 155) h' _ hV' hf (fun i i1 i2 => va_up_ne _ _ i1) (va_up_self _ _ _) (va_up_ne _ _ (by omega)) (by omega) (by rw [Nat.gcd_sub_self_left c5]; exact hi) hw
    · exact next w (V 154) (V 155 - V 154) h' _ hV' hf (fun i i1 i2 => va_up_ne _ _ i2) (va_up_ne _ _ (by omega)) (va_up_self _ _ _) (by omega) (by rw [Nat.gcd_sub_self_right (by omega)]; exact hi) hw
    · exact next w (V 154) (V 155 / 2) h' _ hV' hf (fun i i1 i2 => va_up_ne _ _ i2) (va_up_ne _ _ (by omega)) (va_up_self _ _ _) (by omega) (by rw [Nat.gcd_comm, gc_half c4 c3, Nat.gcd_comm]; exact hi) hw
theorem lp_com180 {a b G w g0 : Nat} (hG : 0 < G → G < 10000 ^ 40) (hw : w < 600) (hg : 2 ^ w * g0 = G) : ∀ (j k : Nat), k + j = w → ∀ {h : mv_H} {V : Nat → Nat}, mo_V h o (I, tx, S, ps, cs, bs) V → V 154 = 2 ^ k * g0 →
    (∀ (h' : mv_H) (V' : Nat → Nat), mo_V h' o (I, tx, S, ps, cs, bs) V' → fr_ o 8 h h' → (∀ i, i ≠ 154 → V' i = V i) → V' 154 = G → Go φ l m_mo_common (go_rm rd_mo_common rw_mo_common 0 0) (0, 0) 202 [some (mv_R o), some (mv_I (a : Int)), some (mv_I (b : Int)), some (mv_I (w : Int)), some (mv_I (w : Int)), none] [] h' n) →
    Go φ l m_mo_common (go_rm rd_mo_common rw_mo_common 0 0) (0, 0) 180 [some (mv_R o), some (mv_I (a : Int)), some (mv_I (b : Int)), some (mv_I (w : Int)), some (mv_I (k : Int)), none] [] h n := by
  intro j
  induction j with
  | zero =>
    intro k hk h V hV hv kx
    have e : k = w := by omega
    subst e
    exact sv_common_180 hV ⟨hw, by omega⟩ (fun q => absurd q (by omega)) (fun _ => kx h V hV fr_.rf (fun _ _ => rfl) (hv.trans hg)) (fun c => absurd (by omega) c)
  | succ j ih =>
    intro k hk h V hV hv kx
    have e2 : V 154 + V 154 = 2 ^ (k + 1) * g0 := by
      rw [hv, Nat.pow_succ]
      grind
    have hs : V 154 + V 154 < 10000 ^ 40 := by
      rw [e2]
      have h1 : 2 ^ (k + 1) * g0 ≤ 2 ^ w * g0 := Nat.mul_le_mul_right _ (Nat.pow_le_pow_right (by decide) (by omega))
      by_cases h0 : 0 < G
      · have := hG h0
        omega
      · omega
    refine sv_common_180 hV ⟨hw, by omega⟩ (fun _ => hs) (fun c => absurd c (by omega)) (fun _ h' hV' hf => ?_)
    refine ih (k + 1) (by omega) hV' ?_ (fun h'' V'' b1 b2 b3 => kx h'' V'' b1 (fr_.tr hf b2) (fun i hi => (b3 i hi).trans (va_up_ne _ _ hi)))
    rw [va_up_self, e2]
theorem tm_common {a b : Nat} (hV : mo_V h o (I, tx, S, ps, cs, bs) V) (hr : a < 154 ∧ b < 154) : Fn l m_mo_common rd_mo_common rw_mo_common 0 0 [mv_R o, mv_I (a : Int), mv_I (b : Int)] h n
    (fun w h' n' => w = none ∧ n' = n ∧ fr_ o 8 h h' ∧ ∃ V', mo_V h' o (I, tx, S, ps, cs, bs) V' ∧ V' 154 = Nat.gcd (V a) (V b) ∧ ∀ i, i ≠ 154 → i ≠ 155 → V' i = V i) := by
  refine fn_of rfl (Nat.le_of_ble_eq_true rfl) rfl ?_
  have hA := mo_Vlt hV (r := a) (by omega)
  have hB := mo_Vlt hV (r := b) (by omega)
  have hG : 0 < Nat.gcd (V a) (V b) → Nat.gcd (V a) (V b) < 10000 ^ 40 := by
    intro h0
    by_cases ha : 0 < V a
    · have := Nat.gcd_le_left (V b) ha
      omega
    · have h1 : V a = 0 := by omega
      rw [h1, Nat.gcd_zero_left]
      exact hB
  refine sv_common_0 hV hr (fun h1 hV1 hf1 => ?_)
  refine lp_com18 (a := a) (b := b) hG _ 0 (Nat.le_refl _) hV1 (by rw [va_up_ne _ _ (by omega), va_up_self, va_up_self]; simp) (by omega) (fun h2 V2 w2 hV2 hf2 ho2 hi2 hw2 hz2 => ?_)
  have ho3 : ∀ i, i ≠ 154 → i ≠ 155 → V2 i = V i := fun i i1 i2 => by rw [ho2 i i1 i2, va_up_ne _ _ i2, va_up_ne _ _ i1]
  have fin : ∀ (h3 : mv_H) (V3 : Nat → Nat), mo_V h3 o (I, tx, S, ps, cs, bs) V3 → fr_ o 8 h2 h3 → (∀ i, i ≠ 154 → V3 i = V2 i) → V3 154 = Nat.gcd (V2 154) (V2 155) → Go (go_f 0 0 fun w h' n' => w = none ∧ n' = n ∧ fr_ o 8 h h' ∧ ∃ V', mo_V h' o (I, tx, S, ps, cs, bs) V' ∧ V' 154 = Nat.gcd (V a) (V b) ∧ ∀ i, i ≠ 154 → i ≠ 155 → V' i = V i) l m_mo_common (go_rm rd_mo_common rw_mo_common 0 0) (0, 0) 180 [some (mv_R o), some (mv_I (a : Int)), some (mv_I (b : Int)), some (mv_I (w2 : Int)), some (mv_I ((0 : Nat) : Int)), none] [] h3 n := by
    intro h3 V3 hV3 hf3 ho hv3
    refine lp_com180 (g0 := Nat.gcd (V2 154) (V2 155)) hG hw2 hi2 w2 0 (by omega) hV3 (by rw [hv3]; simp) (fun h4 V4 hV4 hf4 ho4 hv4 => ?_)
    exact go_vret d_mo_common_202 rfl go_le0 ⟨rfl, rfl, fr_.tr hf1 (fr_.tr hf2 (fr_.tr hf3 hf4)), V4, hV4, hv4, fun i i1 i2 => by rw [ho4 i i1, ho i i1, ho3 i i1 i2]⟩
  refine sv_common_156 hV2 (fun c => ?_) (fun c h3 hV3 hf3 => ?_)
  · refine fin h2 V2 hV2 fr_.rf (fun _ _ => rfl) ?_
    rcases hz2 with hz | hz
    · exact absurd hz c
    · rw [hz, Nat.gcd_zero_right]
  · refine fin h3 _ hV3 hf3 (fun i hi => va_up_ne _ _ hi) ?_
    rw [va_up_self, c, Nat.gcd_zero_left]
end MoGcd
