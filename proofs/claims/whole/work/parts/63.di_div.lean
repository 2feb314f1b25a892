/-! the Divider: divide -/
theorem pn_d17 {h : mv_H} {X : pn_X} {B : Nat → Int} {V : Nat → Nat} (hV : pn_V h X B V) : DV h 17 := by
  obtain ⟨I, tx, wr, ga, gb, mo, mf, mg⟩ := X
  exact pn_c17 hV
theorem ro_out {p : Nat} (hp : ro_ p) (h1 : p ≠ 18) (h2 : p ≠ 20) : p + 1 < 17 ∨ 21 < p := by
  unfold ro_ at hp
  omega
theorem dn_top {v f : Nat} (h1 : 1 ≤ v) (h2 : v ≤ 1073741823) (hf : f = 1073741824 / (v + 1)) : 536870912 ≤ v * f ∧ 1 ≤ f ∧ f ≤ 536870912 ∧ (v + 1) * f ≤ 1073741824 := by
  have h3 := Nat.div_add_mod 1073741824 (v + 1)
  have h4 := Nat.mod_lt 1073741824 (show 0 < v + 1 by omega)
  rw [← hf] at h3
  have h5 : f ≤ 536870912 := by
    rw [hf]
    have : 1073741824 / (v + 1) ≤ 1073741824 / 2 := Nat.div_le_div_left (by omega) (by decide)
    omega
  have h6 : 1 ≤ f := by
    rw [hf]
    exact (Nat.le_div_iff_mul_le (by omega)).mpr (by omega)
  have h7 : (v + 1) * f = v * f + f := Nat.succ_mul _ _
  refine ⟨?_, h6, h5, by omega⟩
  rcases Nat.lt_or_ge v 536870912 with c | c
  · rcases Nat.lt_or_ge (v * f) 536870912 with d | d
    · exfalso
      have h8 : 536870912 + 1 - v ≤ f := by omega
      have h9 : v * (536870912 + 1 - v) ≤ v * f := Nat.mul_le_mul_left _ h8
      obtain ⟨a, rfl⟩ : ∃ a, v = a + 1 := ⟨v - 1, by omega⟩
      obtain ⟨e, he⟩ : ∃ e, 536870912 + 1 - (a + 1) = e + 1 := ⟨536870912 - (a + 1), by omega⟩
      rw [he] at h9
      have h10 : (a + 1) * (e + 1) = a * e + a + e + 1 := by grind
      omega
    · exact d
  · have h8 : v * 1 ≤ v * f := Nat.mul_le_mul_left _ h6
    omega
theorem dn_fin {x y f Q R0 : Nat} (hf : 0 < f) (h : x * f = Q * (y * f) + R0) (hR : R0 < y * f) : Q = x / y ∧ R0 / f = x % y := by
  have hy : 0 < y * f := by omega
  have h1 : x * f / (y * f) = Q := by
    rw [h, Nat.mul_comm Q, Nat.mul_add_div hy, Nat.div_eq_of_lt hR, Nat.add_zero]
  have h2 : x * f % (y * f) = R0 := by
    rw [h, Nat.mul_comm Q, Nat.mul_add_mod, Nat.mod_eq_of_lt hR]
  rw [Nat.mul_div_mul_right _ _ hf] at h1
  rw [Nat.mul_mod_mul_right] at h2
  exact ⟨h1.symm, by rw [← h2]; exact Nat.mul_div_cancel _ hf⟩
theorem wl_sz {f g : Nat → Int} {s t N K v : Nat} (h1 : wl_ f s N v) (h2 : wl_ g t K v) : s = t := by
  have a := wl_le h1 (wl_lt h2)
  have b := wl_le h2 (wl_lt h1)
  omega
theorem nw_low {f : Nat → Int} {i t : Nat} : nw f i (t + 1) = (f i).toNat + 1073741824 * nw f (i + 1) t := by
  have := nv_low (B := 1073741824) (f := fun k => (f (i + k)).toNat) t
  have e : nw f (i + 1) t = nv 1073741824 (fun k => (f (i + (k + 1))).toNat) t := nv_congr fun k _ => by
    show (f (i + 1 + k)).toNat = _
    rw [show i + 1 + k = i + (k + 1) by omega]
  rw [e]
  exact this
theorem dn_alg {X Q D W P F f0 q r : Nat} (hX : X = (Q * D + W) * (P * 1073741824) + (F + f0 * P)) (hH : f0 + 1073741824 * W = q * D + r) : X = ((q + 1073741824 * Q) * D + r) * P + F := by
  have h1 : (f0 + 1073741824 * W) * P = (q * D + r) * P := by rw [hH]
  rw [hX]
  grind
section DiDiv
variable {φ : go_F} {l : Launch} {M : go_M} {R : Room} {u : Nat × Nat} {pc q n x y qq K J a b : Nat} {L : List (Option mv_V)} {rest : List mv_V} {h : mv_H} {gx gy g : Nat → Int}
theorem lp_dv {s w c : Int} {m X : Nat} (hdis : (x + 1 < 17 ∨ 21 < x) ∧ (y + 1 < 17 ∨ 21 < y) ∧ (qq + 1 < 17 ∨ 21 < qq) ∧ (qq + 1 < x ∨ x + 1 < qq) ∧ (qq + 1 < y ∨ y + 1 < qq)) (hm : m + b ≤ 17 ∧ 0 < b) (hg : lm_ g) (hg0 : 536870912 ≤ g (b - 1)) (hR : go_fit R u 12 rd_di_takeAway rw_di_takeAway 0 0) : ∀ (j : Nat), j ≤ m + 1 → ∀ {h : mv_H} {f e : Nat → Int} (k : Int), k = (j : Int) - 1 → DV h 17 → WO h x K gx (a : Int) → WO h y J gy (b : Int) → WO h 18 18 f s → WO h 20 18 g (b : Int) → WO h qq 18 e c → lm_ f → lm_ e → nw f j b < nb g b → X = (nw e j (m + 1 - j) * nb g b + nw f j b) * 1073741824 ^ j + nb f j →
    (∀ (h' : mv_H) (f' e' : Nat → Int), DV h' 17 → WO h' x K gx (a : Int) → WO h' y J gy (b : Int) → WO h' 18 18 f' s → WO h' 20 18 g (b : Int) → WO h' qq 18 e' c → lm_ f' → lm_ e' → nb f' b < nb g b → X = nb e' (m + 1) * nb g b + nb f' b → (∀ z, (z < 18 ∨ 20 ≤ z) → (z < qq ∨ qq + 2 ≤ z) → h' z = h z) → Go φ l m_di_divide R u 123 [some (mv_R 17), some (mv_R x), some (mv_R y), some (mv_R qq), some (mv_I w), some (mv_I (-1))] [] h' n) →
    Go φ l m_di_divide R u 99 [some (mv_R 17), some (mv_R x), some (mv_R y), some (mv_R qq), some (mv_I w), some (mv_I k)] [] h n := by
  have n0 : ∀ (f : Nat → Int) k, nw f 0 k = nb f k := fun f k => nv_congr fun i _ => by
    show (f (0 + i)).toNat = _
    rw [Nat.zero_add]
  intro j
  induction j with
  | zero =>
    intro hj h f e k hk hd hx hy hr hw hq hf he hlt hX kx
    have ek : k = -1 := by omega
    subst ek
    rw [n0, n0, Nat.pow_zero, Nat.mul_one, Nat.sub_zero] at hX
    rw [n0] at hlt
    exact sd_dv_99 hd hq (by omega) (fun _ => kx h f e hd hx hy hr hw hq hf he hlt (by rw [hX]; rfl) (fun _ _ _ => rfl)) (fun c => absurd (by decide) c)
  | succ j ih =>
    intro hj h f e k hk hd hx hy hr hw hq hf he hlt hX kx
    have ek : k = (j : Int) := by omega
    subst ek
    refine sd_dv_99 hd hq (by omega) (fun c => absurd c (by omega)) (fun _ => ?_)
    have hH : nw f j (b + 1) < nb g b * 1073741824 := by
      rw [nw_low]
      have := hf j
      have h2 : (nw f (j + 1) b + 1) * 1073741824 ≤ nb g b * 1073741824 := Nat.mul_le_mul_right _ hlt
      omega
    refine go_callV (M' := m_di_takeAway) (d := rd_di_takeAway) (w := rw_di_takeAway) (mc := 0) (ms := 0) (as := [mv_I (j : Int)]) (b := 17) (rest := [mv_I (j : Int), mv_R (qq + 1)]) (q := 116) g_di_takeAway i_di_takeAway v_di_takeAway l_di_57 d_di_divide_113 rfl rfl rfl hd rfl (Nat.le_of_ble_eq_true rfl) hR (tw_takeAway hd hr hw ⟨by omega, hm.2⟩ hf hg hg0 hH) ?_
    rintro v1 h1 n1 ⟨f1, rfl, rfl, hd1, hr1, hw1, hf1, ho1, hv1, hfr1⟩ -
    have hx1 := WO_k hx (h' := h1) (fun z a1 a2 => hfr1 z (by omega))
    have hy1 := WO_k hy (h' := h1) (fun z a1 a2 => hfr1 z (by omega))
    have hq1 := WO_k hq (h' := h1) (fun z a1 a2 => hfr1 z (by omega))
    refine go_u0 (sd_dv_116 hd1 hx1 hy1 hr1 hw1 hq1 hdis (by omega) (fun h2 hd2 hx2 hy2 hr2 hw2 hq2 hfr2 => ?_))
    rw [Int.toNat_natCast] at hq2
    have hD : 0 < nb g b := Nat.lt_of_le_of_lt (Nat.zero_le _) hlt
    have hqb : nw f j (b + 1) / nb g b < 1073741824 := by
      rw [Nat.div_lt_iff_lt_mul hD, Nat.mul_comm]
      exact hH
    have hqi : lm_ (va_up e j ((nw f j (b + 1) / nb g b : Nat) : Int)) := lm_up he ⟨Int.natCast_nonneg _, Int.ofNat_le.mpr (Nat.le_of_lt_succ hqb)⟩
    refine ih (by omega) _ (by omega) hd2 hx2 hy2 hr2 hw2 hq2 hf1 hqi ?_ ?_ (fun h3 f3 e3 b1 b2 b3 b4 b5 b6 b7 b8 b9 b10 b11 => kx h3 f3 e3 b1 b2 b3 b4 b5 b6 b7 b8 b9 b10 (fun z z1 z2 => (b11 z z1 z2).trans ((hfr2 z z2).trans (hfr1 z (by omega)))))
    · rw [hv1]
      exact Nat.mod_lt _ hD
    · have e1 : nw (va_up e j ((nw f j (b + 1) / nb g b : Nat) : Int)) j (m + 1 - j) = nw f j (b + 1) / nb g b + 1073741824 * nw e (j + 1) (m + 1 - (j + 1)) := by
        rw [show m + 1 - j = m + 1 - (j + 1) + 1 by omega, nw_low, va_up_self, Int.toNat_natCast]
        congr 2
        exact nv_congr fun i _ => by
          show (va_up e j ((nw f j (b + 1) / nb g b : Nat) : Int) (j + 1 + i)).toNat = (e (j + 1 + i)).toNat
          rw [va_up_ne _ _ (by omega)]
      have e2 : nb f1 j = nb f j := nv_congr fun i hi => by
        show (f1 i).toNat = (f i).toNat
        rw [ho1 i (by omega)]
      rw [e1, hv1, e2]
      refine dn_alg (f0 := (f j).toNat) (W := nw f (j + 1) b) ?_ ?_
      · rw [hX, nb_s, Nat.pow_succ]
      · rw [← nw_low, Nat.mul_comm]
        exact (Nat.div_add_mod _ _).symm
theorem tw_divide {X : pn_X} {B : Nat → Int} {V : Nat → Nat} (hV : pn_V h X B V) (hx : ro_ x) (hy : ro_ y) (hq : ro_ qq) (hn : x ≠ 18 ∧ x ≠ 20 ∧ y ≠ 18 ∧ y ≠ 20 ∧ qq ≠ 18 ∧ qq ≠ 20 ∧ qq ≠ x ∧ qq ≠ y) (hq8 : rn_ qq = 18) (hv : V x < 1073741824 ^ 17) : Fn l m_di_divide rd_di_divide rw_di_divide 0 0 [mv_R 17, mv_R x, mv_R y, mv_R qq] h n
    (fun w h' n' => w = none ∧ n' = n ∧ fr_ 1 389 h h' ∧ ∃ V', pn_V h' X B V' ∧ V' qq = V x / V y ∧ V' 18 = V x % V y ∧ (∀ i, i ≠ qq → i ≠ 18 → i ≠ 20 → V' i = V i)) := by
  have r18 := ro_w (p := 18) (by omega)
  have r20 := ro_w (p := 20) (by omega)
  have B17 : (1073741824 : Nat) ^ 17 ≤ 1073741824 ^ 18 := Nat.pow_le_pow_right (by decide) (by decide)
  refine fn_of rfl (Nat.le_of_ble_eq_true rfl) rfl ?_
  refine sd_dv_0 (pn_d17 hV) ?_
  refine cp_copy (q := 8) l_di_29 d_di_divide_5 rfl hV r18.1 hx (by omega) (by rw [r18.2]; omega) (Nat.le_of_ble_eq_true rfl) ⟨by decide, by decide, by decide, by decide⟩ (fun h1 hV1 hf1 => ?_)
  refine sd_dv_8 (pn_d17 hV1) ?_
  refine cp_become (v := 0) (q := 13) l_di_33 d_di_divide_10 rfl hV1 hq (by omega) (Nat.le_of_ble_eq_true rfl) ⟨by decide, by decide, by decide, by decide⟩ (fun h2 hV2 hf2 => ?_)
  have e2x : va_up (va_up V 18 (V x)) qq 0 x = V x := by rw [va_up_ne _ _ (by omega), va_up_ne _ _ (by omega)]
  have e2y : va_up (va_up V 18 (V x)) qq 0 y = V y := by rw [va_up_ne _ _ (by omega), va_up_ne _ _ (by omega)]
  refine sd_dv_13 (pn_d17 hV2) ?_
  refine cp_isZero (q := 17) l_di_36 d_di_divide_14 rfl hV2 hy (Nat.le_of_ble_eq_true rfl) ⟨by decide, by decide, by decide, by decide⟩ ?_
  rw [e2y]
  have fin : (V y = 0 ∨ V x < V y) → Go (go_f 0 0 fun w h' n' => w = none ∧ n' = n ∧ fr_ 1 389 h h' ∧ ∃ V', pn_V h' X B V' ∧ V' qq = V x / V y ∧ V' 18 = V x % V y ∧ (∀ i, i ≠ qq → i ≠ 18 → i ≠ 20 → V' i = V i)) l m_di_divide (go_rm rd_di_divide rw_di_divide 0 0) (0, 0) 28 [some (mv_R 17), some (mv_R x), some (mv_R y), some (mv_R qq), none, none] [] h2 n := by
    intro hc
    refine go_vret d_di_divide_28 rfl go_le0 ⟨rfl, rfl, fr_.tr hf1 hf2, _, hV2, ?_, ?_, fun i a1 a2 _ => by rw [va_up_ne _ _ a1, va_up_ne _ _ a2]⟩
    · rw [va_up_self]
      rcases hc with c | c
      · rw [c, Nat.div_zero]
      · rw [Nat.div_eq_of_lt c]
    · rw [va_up_ne _ _ (by omega), va_up_self]
      rcases hc with c | c
      · rw [c, Nat.mod_zero]
      · rw [Nat.mod_eq_of_lt c]
  refine sd_dv_17 (pn_d17 hV2) (by split <;> omega) (fun c => fin (Or.inl ?_)) (fun c => ?_)
  · by_cases e : V y = 0
    · exact e
    · rw [if_neg e] at c
      exact absurd rfl c
  have hy0 : 0 < V y := by
    by_cases e : V y = 0
    · rw [if_pos e] at c
      exact absurd c (by decide)
    · omega
  refine cp_compare (q := 25) l_di_40 d_di_divide_22 rfl hV2 hx hy (Nat.le_of_ble_eq_true rfl) ⟨by decide, by decide, by decide, by decide⟩ ?_
  rw [e2x, e2y]
  refine sd_dv_25 (pn_d17 hV2) (by unfold cm_; split <;> (try split) <;> omega) (fun c2 => ?_) (fun c2 => fin (Or.inr ?_))
  rotate_left
  · unfold cm_ at c2
    by_cases e : V x < V y
    · exact e
    · rw [if_neg e] at c2
      split at c2 <;> exact absurd (by decide) c2
  have hxy : V y ≤ V x := by
    unfold cm_ at c2
    by_cases e : V x < V y
    · rw [if_pos e] at c2
      exact absurd c2 (by decide)
    · omega
  -- the divisor's limbs
  obtain ⟨gy, b, hy2, hwy⟩ : WV h2 y (rn_ y) (V y) := by have := pn_w hV2 hy; rwa [e2y] at this
  have hb0 := wl_p hwy hy0
  have hby := hwy.1
  have hJ := hwy.2.1
  have qt := hwy.2.2.1 (b - 1)
  have qt0 := hwy.2.2.2.1 hb0
  obtain ⟨ty, hty⟩ : ∃ ty : Nat, ty = (gy (b - 1)).toNat := ⟨_, rfl⟩
  have htyi : gy (b - 1) = (ty : Int) := by omega
  obtain ⟨fac, hfac⟩ : ∃ fac : Nat, fac = 1073741824 / (ty + 1) := ⟨_, rfl⟩
  obtain ⟨n1, n2, n3, n4⟩ := dn_top (v := ty) (by omega) (by omega) hfac
  have hyv : V y = nb gy (b - 1) + ty * 1073741824 ^ (b - 1) := by
    have := nb_s (f := gy) (k := b - 1)
    rw [show b - 1 + 1 = b by omega, ← hty] at this
    rw [← this]
    exact hwy.2.2.2.2.symm
  have hlo := nb_lt (k := b - 1) hwy.2.2.1
  have hpb : 1073741824 ^ b = 1073741824 ^ (b - 1) * 1073741824 := by rw [← Nat.pow_succ, show (b - 1).succ = b by omega]
  have hD1 : V y * fac < 1073741824 ^ b := by
    have a1 : V y < (ty + 1) * 1073741824 ^ (b - 1) := by rw [Nat.succ_mul]; omega
    have a2 : V y * fac < (ty + 1) * 1073741824 ^ (b - 1) * fac := Nat.mul_lt_mul_of_pos_right a1 n2
    have a3 : (ty + 1) * 1073741824 ^ (b - 1) * fac = (ty + 1) * fac * 1073741824 ^ (b - 1) := by grind
    have a4 : (ty + 1) * fac * 1073741824 ^ (b - 1) ≤ 1073741824 * 1073741824 ^ (b - 1) := Nat.mul_le_mul_right _ n4
    rw [hpb, Nat.mul_comm (1073741824 ^ (b - 1))]
    omega
  have hD2 : 536870912 * 1073741824 ^ (b - 1) ≤ V y * fac := by
    have a1 : ty * fac * 1073741824 ^ (b - 1) ≤ V y * fac := by
      rw [hyv, Nat.add_mul]
      have : ty * fac * 1073741824 ^ (b - 1) = ty * 1073741824 ^ (b - 1) * fac := by grind
      omega
    have a2 : 536870912 * 1073741824 ^ (b - 1) ≤ ty * fac * 1073741824 ^ (b - 1) := Nat.mul_le_mul_right _ n1
    omega
  have hb18 : b ≤ 18 := by have := rn_le y; omega
  have hB18 : 1073741824 ^ b ≤ 1073741824 ^ 18 := Nat.pow_le_pow_right (by decide) hb18
  refine sd_dv_29 (pn_d17 hV2) hy2 ⟨hb0, hby, hJ⟩ hwy.2.2.1 ?_
  have hfi : 1073741824 / (gy (b - 1) + 1) = (fac : Int) := by
    rw [htyi, hfac, Int.natCast_ediv]
    rfl
  rw [hfi]
  have hy18 : V y < 1073741824 ^ 18 := Nat.lt_of_lt_of_le (wl_lt hwy) hB18
  refine cp_copy (q := 55) l_di_29 d_di_divide_52 rfl hV2 r20.1 hy (by omega) (by rw [r20.2, e2y]; exact hy18) (Nat.le_of_ble_eq_true rfl) ⟨by decide, by decide, by decide, by decide⟩ (fun h3 hV3 hf3 => ?_)
  rw [e2y] at hV3
  refine sd_dv_55 (pn_d17 hV3) ?_
  refine cp_timesPlus (x := fac) (y := 0) (q := 65) l_di_53 d_di_divide_62 rfl hV3 r20.1 ⟨n2, by omega⟩ (by omega) (by rw [va_up_self, r20.2]; omega) (Nat.le_of_ble_eq_true rfl) ⟨by decide, by decide, by decide, by decide⟩ (fun h4 hV4 hf4 => ?_)
  rw [va_up_self] at hV4
  obtain ⟨V4, hV4e⟩ : ∃ V4 : Nat → Nat, V4 = va_up (va_up (va_up (va_up V 18 (V x)) qq 0) 20 (V y)) 20 (V y * fac + 0) := ⟨_, rfl⟩
  rw [← hV4e] at hV4
  have v4x : V4 x = V x := by rw [hV4e, va_up_ne _ _ (by omega), va_up_ne _ _ (by omega)]; exact e2x
  have v4y : V4 y = V y := by rw [hV4e, va_up_ne _ _ (by omega), va_up_ne _ _ (by omega)]; exact e2y
  have v418 : V4 18 = V x := by rw [hV4e, va_up_ne _ _ (by omega), va_up_ne _ _ (by omega), va_up_ne _ _ (by omega), va_up_self]
  have v420 : V4 20 = V y * fac := by rw [hV4e, va_up_self, Nat.add_zero]
  have v4o : ∀ i, i ≠ qq → i ≠ 18 → i ≠ 20 → V4 i = V i := fun i a1 a2 a3 => by rw [hV4e, va_up_ne _ _ a3, va_up_ne _ _ a3, va_up_ne _ _ a1, va_up_ne _ _ a2]
  -- the limbs
  obtain ⟨gx, a, hx4, hwx⟩ : WV h4 x (rn_ x) (V x) := by have := pn_w hV4 hx; rwa [v4x] at this
  obtain ⟨gy4, b4, hy4, hwy4⟩ : WV h4 y (rn_ y) (V y) := by have := pn_w hV4 hy; rwa [v4y] at this
  obtain ⟨f4, s4, hr4, hwr⟩ : WV h4 18 18 (V x) := by have := pn_w hV4 r18.1; rwa [v418, r18.2] at this
  obtain ⟨g, t, hw4, hwg⟩ : WV h4 20 18 (V y * fac) := by have := pn_w hV4 r20.1; rwa [v420, r20.2] at this
  obtain ⟨e4, c4, hq4, hwq⟩ : WV h4 qq 18 (V4 qq) := by have := pn_w hV4 hq; rwa [hq8] at this
  have eb : b4 = b := wl_sz hwy4 hwy
  subst eb
  have ea : s4 = a := wl_sz hwr hwx
  subst ea
  have et : t = b4 := by
    have a1 := wl_le hwg hD1
    have a2 : b4 ≤ t := by
      rcases Nat.lt_or_ge t b4 with c | c
      · exfalso
        have a3 := wl_lt hwg
        have a4 : 1073741824 ^ t ≤ 1073741824 ^ (b4 - 1) := Nat.pow_le_pow_right (by decide) (by omega)
        omega
      · exact c
    omega
  subst et
  have ha17 : s4 ≤ 17 := wl_le hwr hv
  have hba : t ≤ s4 := wl_le hwy4 (Nat.lt_of_le_of_lt hxy (wl_lt hwr))
  have hg0 : 536870912 ≤ g (t - 1) := by
    have a1 := nb_s (f := g) (k := t - 1)
    rw [show t - 1 + 1 = t by omega, hwg.2.2.2.2] at a1
    have a2 := nb_lt (k := t - 1) hwg.2.2.1
    rcases Nat.lt_or_ge (g (t - 1)).toNat 536870912 with c | c
    · exfalso
      have a3 : ((g (t - 1)).toNat + 1) * 1073741824 ^ (t - 1) ≤ 536870912 * 1073741824 ^ (t - 1) := Nat.mul_le_mul_right _ c
      rw [Nat.succ_mul] at a3
      omega
    · omega
  have hap : (x + 1 < 17 ∨ 21 < x) ∧ (y + 1 < 17 ∨ 21 < y) ∧ (qq + 1 < 17 ∨ 21 < qq) ∧ (qq + 1 < x ∨ x + 1 < qq) ∧ (qq + 1 < y ∨ y + 1 < qq) := by
    obtain ⟨m1, m2, m3, m4, m5, m6, m7, m8⟩ := hn
    exact ⟨ro_out hx m1 m2, ro_out hy m3 m4, ro_out hq m5 m6, ro_ap hq hx m7, ro_ap hq hy m8⟩
  refine sd_dv_65 (pn_d17 hV4) hx4 hr4 hap ha17 (fun h5 hd5 hx5 hr5 hf5 => ?_)
  have hy5 := WO_k hy4 (h' := h5) (fun z a1 a2 => hf5 z (by omega))
  have hw5 := WO_k hw4 (h' := h5) (fun z a1 a2 => hf5 z (by omega))
  have hq5 := WO_k hq4 (h' := h5) (fun z a1 a2 => hf5 z (by omega))
  have hwr5 : wl_ (va_up f4 s4 0) s4 18 (V x) := ⟨hwr.1, hwr.2.1, lm_up hwr.2.2.1 (by omega), fun h0 => by rw [va_up_ne _ _ (by omega)]; exact hwr.2.2.2.1 h0, by rw [nb_up (Nat.le_refl _)]; exact hwr.2.2.2.2⟩
  have hX18 : V x * fac + 0 < 1073741824 ^ 18 := by
    have a1 : V x * fac ≤ V x * 1073741824 := Nat.mul_le_mul_left _ (by omega)
    have a2 : V x * 1073741824 < 1073741824 ^ 17 * 1073741824 := Nat.mul_lt_mul_of_pos_right hv (by decide)
    have a3 : (1073741824 : Nat) ^ 18 = 1073741824 ^ 17 * 1073741824 := Nat.pow_succ _ _
    omega
  refine go_callV (M' := m_wh_timesPlus) (d := rd_wh_timesPlus) (w := rw_wh_timesPlus) (mc := 0) (ms := 0) (as := [mv_I (fac : Int), mv_I ((0 : Nat) : Int)]) (b := 18) (rest := []) (q := 88) g_wh_timesPlus i_wh_timesPlus v_wh_timesPlus l_di_53 d_di_divide_85 rfl rfl rfl (WO_c0 hr5) rfl (Nat.le_of_ble_eq_true rfl) ⟨by decide, by decide, by decide, by decide⟩ (tw_tpW hr5 hwr5 ⟨n2, by omega⟩ (by omega) hX18) ?_
  rintro v6 h6 n6 ⟨rfl, rfl, ⟨f6, s6, hr6, hwr6, ho6, hs6, ht6⟩, hf6⟩ -
  have hd6 : DV h6 17 := (hf6 17 (by omega)).trans hd5
  have hx6 := WO_k hx5 (h' := h6) (fun z a1 a2 => hf6 z (by omega))
  have hy6 := WO_k hy5 (h' := h6) (fun z a1 a2 => hf6 z (by omega))
  have hw6 := WO_k hw5 (h' := h6) (fun z a1 a2 => hf6 z (by omega))
  have hq6 := WO_k hq5 (h' := h6) (fun z a1 a2 => hf6 z (by omega))
  have hX6 : nb f6 (s4 + 1) = V x * fac := by
    rcases hs6 with e | e
    · have a1 := ht6 e
      rw [va_up_self] at a1
      rw [nb_s, a1]
      have := hwr6.2.2.2.2
      rw [e] at this
      rw [this]
      simp
    · have := hwr6.2.2.2.2
      rw [e] at this
      rw [this, Nat.add_zero]
  refine go_u0 (sd_dv_88 hd6 hx6 hy6 ?_)
  have hgn : nb g t = V y * fac := hwg.2.2.2.2
  have hsplit : ∀ k m, nb f6 (k + m) = nw f6 k m * 1073741824 ^ k + nb f6 k := by
    intro k m
    induction m with
    | zero => simp [nb, nv]
    | succ m ih =>
      rw [show k + (m + 1) = k + m + 1 by omega, nb_s, ih, nw_s, Nat.pow_add]
      generalize 1073741824 ^ k = P
      generalize 1073741824 ^ m = Q
      grind
  have hs0 := hsplit (s4 - t + 1) t
  rw [show s4 - t + 1 + t = s4 + 1 by omega, hX6] at hs0
  refine lp_dv (m := s4 - t) (X := V x * fac) hap ⟨by omega, hb0⟩ hwg.2.2.1 hg0 ⟨by decide, by decide, by decide, by decide⟩ (s4 - t + 1) (Nat.le_refl _) _ (by omega) hd6 hx6 hy6 hr6 hw6 hq6 hwr6.2.2.1 hwq.2.2.1 ?_ ?_ (fun h7 f7 e7 hd7 hx7 hy7 hr7 hw7 hq7 hf7 he7 hl7 hX7 hfr7 => ?_)
  · -- the topmost limbs are less than the divisor
    rw [hgn]
    have a1 : V x * fac < V y * fac * 1073741824 ^ (s4 - t + 1) := by
      have b1 := wl_lt hwr
      have b2 := wl_ge hwy4 hb0
      have b3 : V x * fac < 1073741824 ^ s4 * fac := Nat.mul_lt_mul_of_pos_right b1 n2
      have b4 : 1073741824 ^ (t - 1) * fac * 1073741824 ^ (s4 - t + 1) ≤ V y * fac * 1073741824 ^ (s4 - t + 1) := Nat.mul_le_mul_right _ (Nat.mul_le_mul_right _ b2)
      have b5 : 1073741824 ^ (t - 1) * fac * 1073741824 ^ (s4 - t + 1) = 1073741824 ^ s4 * fac := by
        have : 1073741824 ^ s4 = 1073741824 ^ (t - 1) * 1073741824 ^ (s4 - t + 1) := by rw [← Nat.pow_add]; congr 1; omega
        rw [this]
        grind
      omega
    have hP : 0 < 1073741824 ^ (s4 - t + 1) := Nat.pow_pos (by decide)
    refine Nat.lt_of_mul_lt_mul_right (a := 1073741824 ^ (s4 - t + 1)) ?_
    omega
  · rw [show s4 - t + 1 - (s4 - t + 1) = 0 by omega, show nw e4 (s4 - t + 1) 0 = 0 from rfl, Nat.zero_mul, Nat.zero_add]
    exact hs0
  · refine sd_dv_123 hd7 hx7 hy7 ?_
    have ei : (s4 : Int) - (t : Int) + 1 = ((s4 - t + 1 : Nat) : Int) := by omega
    rw [ei]
    refine cw_cutTo (q := 138) l_di_61 d_di_divide_135 rfl hq7 (by omega) (by omega) he7 (Nat.le_of_ble_eq_true rfl) ⟨by decide, by decide, by decide, by decide⟩ (fun h8 hq8' hf8 => ?_)
    have hd8 : DV h8 17 := (hf8 17 (by omega)).trans hd7
    have hy8 := WO_k hy7 (h' := h8) (fun z a1 a2 => hf8 z (by omega))
    have hr8 := WO_k hr7 (h' := h8) (fun z a1 a2 => hf8 z (by omega))
    refine sd_dv_138 hd8 hy8 ?_
    refine cw_cutTo (q := 149) l_di_61 d_di_divide_146 rfl hr8 hb18 (by omega) hf7 (Nat.le_of_ble_eq_true rfl) ⟨by decide, by decide, by decide, by decide⟩ (fun h9 hr9 hf9 => ?_)
    have hd9 : DV h9 17 := (hf9 17 (by omega)).trans hd8
    have hq9 := WV_fr hq8' hf9 (by omega)
    refine sd_dv_149 hd9 ?_
    refine cw_divideBy (x := fac) (q := 158) l_di_64 d_di_divide_155 rfl hr9 ⟨by omega, by omega⟩ (Nat.le_of_ble_eq_true rfl) ⟨by decide, by decide, by decide, by decide⟩ (fun h10 hr10 hf10 => ?_)
    have hd10 : DV h10 17 := (hf10 17 (by omega)).trans hd9
    have hq10 := WV_fr hq9 hf10 (by omega)
    rw [hgn] at hX7 hl7
    obtain ⟨k1, k2⟩ := dn_fin (by omega) hX7 hl7
    rw [k1] at hq10
    rw [k2] at hr10
    have hfr : ∀ z, (z < 18 ∨ 20 ≤ z) → (z < qq ∨ qq + 2 ≤ z) → h10 z = h4 z := fun z z1 z2 =>
      (hf10 z (by omega)).trans ((hf9 z (by omega)).trans ((hf8 z z2).trans ((hfr7 z z1 z2).trans ((hf6 z (by omega)).trans (hf5 z (by omega))))))
    refine sd_dv_158 hd10 ?_
    refine go_vret d_di_divide_159 rfl go_le0 ⟨rfl, rfl, fun z hz => ?_, va_up (va_up V4 qq (V x / V y)) 18 (V x % V y), pn_rows hV4 (fun z hz => ?_) (fun p hp => ?_), ?_, ?_, fun i a1 a2 a3 => ?_⟩
    · rw [hfr z (by omega) (ro_in hq (by omega)), hf4 z hz, hf3 z hz, hf2 z hz, hf1 z hz]
    · exact hfr z (ro_fx r18.1 hz) (ro_fx hq hz)
    · by_cases p18 : p = 18
      · subst p18
        rw [va_up_self, r18.2]
        exact hr10
      · rw [va_up_ne _ _ p18]
        by_cases pq : p = qq
        · subst pq
          rw [va_up_self, hq8]
          exact hq10
        · rw [va_up_ne _ _ pq]
          have z1 := ro_ap hp r18.1 p18
          have z2 := ro_ap hp hq pq
          exact WV_k (pn_w hV4 hp) (fun j j1 j2 => hfr j (by omega) (by omega))
    · rw [va_up_ne _ _ (by omega), va_up_self]
    · rw [va_up_self]
    · rw [va_up_ne _ _ a2, va_up_ne _ _ a1]
      exact v4o i a1 a2 a3
end DiDiv
