/-! the class's Whole: becomeProduct, dropTwos -/
theorem wp_step {f e : Nat → Int} {i k : Nat} {w c : Int} (hf : lm_ f) (he : lm_ e) (hw : 0 ≤ w ∧ w ≤ 1073741823) (hc : 0 ≤ c ∧ c ≤ 1073741823) :
    lm_ (va_up f (i + k) ((w * e k + f (i + k) + c) % 1073741824)) ∧ (0 ≤ (w * e k + f (i + k) + c) / 1073741824 ∧ (w * e k + f (i + k) + c) / 1073741824 ≤ 1073741823) ∧
    nb (va_up f (i + k) ((w * e k + f (i + k) + c) % 1073741824)) (i + k + 1) + ((w * e k + f (i + k) + c) / 1073741824).toNat * 1073741824 ^ (i + k + 1) = nb f (i + k) + c.toNat * 1073741824 ^ (i + k) + (f (i + k)).toNat * 1073741824 ^ (i + k) + w.toNat * (e k).toNat * 1073741824 ^ (i + k) := by
  have hm := gn_muly hw (he k)
  have q1 := hf (i + k)
  refine ⟨lm_up hf (by omega), by omega, ?_⟩
  rw [nb_up1]
  obtain ⟨a, ha⟩ := Int.eq_ofNat_of_zero_le hw.1
  obtain ⟨b, hb⟩ := Int.eq_ofNat_of_zero_le (he k).1
  obtain ⟨x, hx⟩ := Int.eq_ofNat_of_zero_le q1.1
  obtain ⟨y, hy⟩ := Int.eq_ofNat_of_zero_le hc.1
  have e5 : w * e k + f (i + k) + c = ((a * b + x + y : Nat) : Int) := by rw [ha, hb, hx, hy, Int.natCast_add, Int.natCast_add, Int.natCast_mul]
  rw [e5, ha, hb, hx, hy, Int.toNat_natCast, Int.toNat_natCast, Int.toNat_natCast, Int.toNat_natCast]
  have e6 : (((a * b + x + y : Nat) : Int) % 1073741824).toNat = (a * b + x + y) % 1073741824 := by omega
  have e7 : (((a * b + x + y : Nat) : Int) / 1073741824).toNat = (a * b + x + y) / 1073741824 := by omega
  rw [e6, e7, Nat.pow_succ]
  have h1 := Nat.mod_add_div (a * b + x + y) 1073741824
  generalize (a * b + x + y) % 1073741824 = r at *
  generalize (a * b + x + y) / 1073741824 = z at *
  generalize 1073741824 ^ (i + k) = P at *
  have h2 : (r + 1073741824 * z) * P = (a * b + x + y) * P := by rw [h1]
  grind
section WhVal3
variable {φ : go_F} {l : Launch} {M : go_M} {R : Room} {u : Nat × Nat} {pc q n p r N K J v w x y : Nat} {L : List (Option mv_V)} {rest : List mv_V} {h : mv_H} {f g e : Nat → Int}
theorem lp_bp2 {a b : Nat} {s : Int} (hd : (p + 1 < x ∨ x + 1 < p) ∧ (p + 1 < y ∨ y + 1 < p)) (hab : a + b ≤ N ∧ a ≤ K ∧ b ≤ J) (hN : N < 100 ∧ K < 100 ∧ J < 100) : ∀ (j i : Nat), i + j = a + b → ∀ {h : mv_H} {f : Nat → Int}, lm_ f → WO h p N f s → WO h x K g (a : Int) → WO h y J e (b : Int) → (∀ z, z < i → f z = 0) →
    (∀ (h' : mv_H) (f' : Nat → Int), lm_ f' → WO h' p N f' s → WO h' x K g (a : Int) → WO h' y J e (b : Int) → (∀ z, z < a + b → f' z = 0) → fr_ p 2 h h' → Go φ l m_wh_becomeProduct R u 28 [some (mv_R p), some (mv_R x), some (mv_R y), some (mv_I ((a + b : Nat) : Int)), none, none, none, none, none, none, none] [] h' n) →
    Go φ l m_wh_becomeProduct R u 2 [some (mv_R p), some (mv_R x), some (mv_R y), some (mv_I (i : Int)), none, none, none, none, none, none, none] [] h n := by
  intro j
  induction j with
  | zero =>
    intro i hi h f hf hp hx hy h0 kx
    have ei : i = a + b := by omega
    subst ei
    exact sc_bp_2 hp hx hy hd hab hN (by omega) (fun _ => kx h f hf hp hx hy h0 fr_.rf) (fun c => absurd (by omega) c)
  | succ j ih =>
    intro i hi h f hf hp hx hy h0 kx
    refine sc_bp_2 hp hx hy hd hab hN (by omega) (fun c => absurd c (by omega)) (fun _ h' hp' hx' hy' hf' => ?_)
    refine ih (i + 1) (by omega) (lm_up hf (by omega)) hp' hx' hy' (fun z hz => ?_) (fun h'' f' a1 a2 a3 a4 a5 a6 => kx h'' f' a1 a2 a3 a4 a5 (fr_.tr hf' a6))
    by_cases ez : z = i
    · subst ez; exact va_up_self _ _ _
    · rw [va_up_ne _ _ ez]; exact h0 z (by omega)
theorem lp_bp53 {a b i : Nat} {s w : Int} {f0 : Nat → Int} (hd : (p + 1 < x ∨ x + 1 < p) ∧ (p + 1 < y ∨ y + 1 < p)) (hab : a + b ≤ N ∧ a ≤ K ∧ b ≤ J) (hN : N < 100 ∧ K < 100 ∧ J < 100) (he : lm_ e) (hi : i < a) (hw : 0 ≤ w ∧ w ≤ 1073741823) : ∀ (j k : Nat), k + j = b → ∀ {h : mv_H} {f : Nat → Int} {c : Int}, lm_ f → (0 ≤ c ∧ c ≤ 1073741823) → WO h p N f s → WO h x K g (a : Int) → WO h y J e (b : Int) → (∀ z, i + k ≤ z → f z = f0 z) → nb f (i + k) + c.toNat * 1073741824 ^ (i + k) = nb f0 (i + k) + w.toNat * 1073741824 ^ i * nb e k →
    (∀ (h' : mv_H) (f' : Nat → Int) (c' : Int), lm_ f' → (0 ≤ c' ∧ c' ≤ 1073741823) → WO h' p N f' s → WO h' x K g (a : Int) → WO h' y J e (b : Int) → nb f' (i + b) + c'.toNat * 1073741824 ^ (i + b) = nb f0 (i + b) + w.toNat * 1073741824 ^ i * nb e b → fr_ p 2 h h' → Go φ l m_wh_becomeProduct R u 118 [some (mv_R p), some (mv_R x), some (mv_R y), some (mv_I (i : Int)), some (mv_L w), none, some (mv_L c'), none, some (mv_I (b : Int)), none, none] [] h' n) →
    Go φ l m_wh_becomeProduct R u 53 [some (mv_R p), some (mv_R x), some (mv_R y), some (mv_I (i : Int)), some (mv_L w), none, some (mv_L c), none, some (mv_I (k : Int)), none, none] [] h n := by
  intro j
  induction j with
  | zero =>
    intro k hk h f c hf hc hp hx hy h0 hv kx
    have ei : k = b := by omega
    subst ei
    exact sc_bp_53 hp hx hy hd hab hN hf he hi (by omega) hw hc (fun _ => kx h f c hf hc hp hx hy hv fr_.rf) (fun c => absurd (by omega) c)
  | succ j ih =>
    intro k hk h f c hf hc hp hx hy h0 hv kx
    refine sc_bp_53 hp hx hy hd hab hN hf he hi (by omega) hw hc (fun c => absurd c (by omega)) (fun _ h' hp' hx' hy' hf' => ?_)
    obtain ⟨s1, s2, s3⟩ := wp_step (i := i) (k := k) hf he hw hc
    refine ih (k + 1) (by omega) s1 s2 hp' hx' hy' (fun z hz => ?_) ?_ (fun h'' f' c' a1 a2 a3 a4 a5 a6 a7 => kx h'' f' c' a1 a2 a3 a4 a5 a6 (fr_.tr hf' a7))
    · rw [va_up_ne _ _ (by omega)]; exact h0 z (by omega)
    · show _ + _ * 1073741824 ^ (i + k + 1) = nb f0 (i + k + 1) + _
      refine s3.trans ?_
      rw [hv, nb_s (f := f0), nb_s (f := e), h0 (i + k) (Nat.le_refl _), Nat.pow_add]
      generalize 1073741824 ^ i = P
      generalize 1073741824 ^ k = Q
      grind
theorem lp_bp30 {a b : Nat} {s : Int} (hd : (p + 1 < x ∨ x + 1 < p) ∧ (p + 1 < y ∨ y + 1 < p)) (hab : a + b ≤ N ∧ a ≤ K ∧ b ≤ J) (hN : N < 100 ∧ K < 100 ∧ J < 100) (hg : lm_ g) (he : lm_ e) : ∀ (j i : Nat), i + j = a → ∀ {h : mv_H} {f : Nat → Int}, lm_ f → WO h p N f s → WO h x K g (a : Int) → WO h y J e (b : Int) → nb f (i + b) = nb g i * nb e b →
    (∀ (h' : mv_H) (f' : Nat → Int), lm_ f' → WO h' p N f' s → WO h' x K g (a : Int) → WO h' y J e (b : Int) → nb f' (a + b) = nb g a * nb e b → fr_ p 2 h h' → Go φ l m_wh_becomeProduct R u 138 [some (mv_R p), some (mv_R x), some (mv_R y), some (mv_I (a : Int)), none, none, none, none, none, none, none] [] h' n) →
    Go φ l m_wh_becomeProduct R u 30 [some (mv_R p), some (mv_R x), some (mv_R y), some (mv_I (i : Int)), none, none, none, none, none, none, none] [] h n := by
  intro j
  induction j with
  | zero =>
    intro i hi h f hf hp hx hy hv kx
    have ei : i = a := by omega
    subst ei
    exact sc_bp_30 hp hx hy hd hab hN hg (by omega) (fun _ => kx h f hf hp hx hy hv fr_.rf) (fun c => absurd (by omega) c)
  | succ j ih =>
    intro i hi h f hf hp hx hy hv kx
    refine sc_bp_30 hp hx hy hd hab hN hg (by omega) (fun c => absurd c (by omega)) (fun _ => ?_)
    refine lp_bp53 (f0 := f) hd hab hN he (by omega) (hg i) b 0 (by omega) hf (by omega) hp hx hy (fun _ _ => rfl) (by simp [nb, nv]) (fun h1 f1 c1 hf1 hc1 hp1 hx1 hy1 hv1 hr1 => ?_)
    refine sc_bp_118 hp1 hx1 hy1 hd hab hN (by omega) (fun h2 hp2 hx2 hy2 hr2 => ?_)
    refine ih (i + 1) (by omega) (lm_up hf1 hc1) hp2 hx2 hy2 ?_ (fun h'' f' a1 a3 a4 a5 a6 a7 => kx h'' f' a1 a3 a4 a5 a6 (fr_.tr (fr_.tr hr1 hr2) a7))
    rw [show i + 1 + b = i + b + 1 by omega, nb_up1, hv1, hv, nb_s (f := g)]
    generalize 1073741824 ^ i = P
    grind
theorem tw_becomeProduct (hp : WV h p N w) (hx : WV h x K v) (hy : WV h y J r) (hd : (p + 1 < x ∨ x + 1 < p) ∧ (p + 1 < y ∨ y + 1 < p)) (hK : K + J ≤ N ∨ (∃ i j, v < 1073741824 ^ i ∧ r < 1073741824 ^ j ∧ i + j ≤ N)) : Fn l m_wh_becomeProduct rd_wh_becomeProduct rw_wh_becomeProduct 0 0 [mv_R p, mv_R x, mv_R y] h n
    (fun z h' n' => z = none ∧ n' = n ∧ WV h' p N (v * r) ∧ fr_ p 2 h h') := by
  obtain ⟨f, s, hp, hw⟩ := hp
  obtain ⟨g, a, hx, hwx⟩ := hx
  obtain ⟨e, b, hy, hwy⟩ := hy
  have ha := hwx.1
  have hb := hwy.1
  have hN := hw.2.1
  have hab : a + b ≤ N := by
    rcases hK with c | ⟨i, j, c1, c2, c3⟩
    · omega
    · have := wl_le hwx c1
      have := wl_le hwy c2
      omega
  refine fn_of rfl (Nat.le_of_ble_eq_true rfl) rfl ?_
  refine sc_bp_0 hp hx hy ?_
  refine lp_bp2 hd ⟨hab, ha, hb⟩ ⟨hN, hwx.2.1, hwy.2.1⟩ (a + b) 0 (by omega) hw.2.2.1 hp hx hy (fun z hz => absurd hz (Nat.not_lt_zero z)) (fun h1 f1 hf1 hp1 hx1 hy1 hz1 hr1 => ?_)
  refine sc_bp_28 hp1 hx1 hy1 ?_
  refine lp_bp30 hd ⟨hab, ha, hb⟩ ⟨hN, hwx.2.1, hwy.2.1⟩ hwx.2.2.1 hwy.2.2.1 a 0 (by omega) hf1 hp1 hx1 hy1 ?_ (fun h2 f2 hf2 hp2 hx2 hy2 hv2 hr2 => ?_)
  · rw [show nb g 0 = 0 from rfl, Nat.zero_mul, Nat.zero_add]
    exact nv_zero fun k hk => by
      show (f1 k).toNat = 0
      rw [hz1 k (by omega)]; rfl
  · refine sc_bp_138 hp2 hx2 hy2 ?_
    rw [← Int.natCast_add]
    refine cw_cutTo (q := 151) l_wh_36 d_wh_becomeProduct_148 rfl hp2 hab hN hf2 (by decide) ⟨by decide, by decide, by decide, by decide⟩ (fun h3 hv3 hf3 => ?_)
    refine go_vret d_wh_becomeProduct_151 rfl go_le0 ⟨rfl, rfl, ?_, fr_.tr (fr_.tr hr1 hr2) hf3⟩
    rw [hv2, show nb g a = v from hwx.2.2.2.2, show nb e b = r from hwy.2.2.2.2] at hv3
    exact hv3
/-! dropTwos -/
theorem w_odd : ∀ (x : Nat), 0 < x → ∃ k m, x = 2 ^ k * (2 * m + 1) := by
  intro x
  induction x using Nat.strongRecOn with
  | ind x ih =>
    intro hx
    by_cases c : x % 2 = 1
    · exact ⟨0, x / 2, by omega⟩
    · obtain ⟨k, m, h⟩ := ih (x / 2) (by omega) (by omega)
      refine ⟨k + 1, m, ?_⟩
      rw [Nat.pow_succ, Nat.mul_comm (2 ^ k) 2, Nat.mul_assoc, ← h]
      omega
theorem lp_dt2 {s : Nat} (hp : WO h p N f (s : Int)) (hs : s ≤ N) (hN : N < 100) (hf : lm_ f) (ht : f (s - 1) ≠ 0) : ∀ (j z : Nat), z + j + 1 = s → (∀ i, i < z → f i = 0) →
    (∀ z', z' < s → (∀ i, i < z' → f i = 0) → f z' ≠ 0 → Go φ l m_wh_dropTwos R u 27 [some (mv_R p), some (mv_I (z' : Int)), none, none, none, none] [] h n) →
    Go φ l m_wh_dropTwos R u 2 [some (mv_R p), some (mv_I (z : Int)), none, none, none, none] [] h n := by
  intro j
  induction j with
  | zero =>
    intro z hz h0 kx
    have e : z = s - 1 := by omega
    exact sc_dt_2 hp hs hN hf (by omega) (fun _ => kx z (by omega) h0 (by rw [e]; exact ht)) (fun c => absurd (by omega) c) (fun c => absurd (by omega) c)
  | succ j ih =>
    intro z hz h0 kx
    refine sc_dt_2 hp hs hN hf (by omega) (fun c => absurd c (by omega)) (fun _ c => kx z (by omega) h0 c) (fun _ c => ?_)
    refine ih (z + 1) (by omega) (fun i hi => ?_) kx
    by_cases e : i = z
    · subst e; exact c
    · exact h0 i (by omega)
/-- moved down by t bits: behind k limbs -/
def wt2_I (f0 f : Nat → Int) (s z t k : Nat) : Prop := lm_ f ∧ (∀ i, k ≤ i → i < s → f i = f0 i) ∧ nb f k * 2 ^ t = nb (fun i => f0 (z + i)) k + (if z + k < s then (f0 (z + k)).toNat % 2 ^ t else 0) * 1073741824 ^ k
theorem w2_30 {t : Nat} (ht : t < 30) : 2 ^ t * 2 ^ (30 - t) = 1073741824 := by
  rw [← Nat.pow_add, show t + (30 - t) = 30 by omega]
theorem w2_mod {t y : Nat} (ht : t < 30) : y * 2 ^ (30 - t) % 1073741824 = y % 2 ^ t * 2 ^ (30 - t) := by
  rw [← w2_30 ht, Nat.mul_mod_mul_right]
theorem w2_or {t : Nat} (ht : t < 30) (x y : Int) (hx : 0 ≤ x ∧ x ≤ 1073741823) (hy : 0 ≤ y ∧ y ≤ 1073741823) : Int32.ofInt (x / ((2 ^ t : Nat) : Int)) ||| Int32.ofInt ((y * ((2 ^ (30 - t) : Nat) : Int)) % 1073741824) = Int32.ofInt (x / ((2 ^ t : Nat) : Int) + (y * ((2 ^ (30 - t) : Nat) : Int)) % 1073741824) := by
  obtain ⟨a, rfl⟩ := Int.eq_ofNat_of_zero_le hx.1
  obtain ⟨b, rfl⟩ := Int.eq_ofNat_of_zero_le hy.1
  have h30 := w2_30 ht
  have e1 : (a : Int) / ((2 ^ t : Nat) : Int) = ((a / 2 ^ t : Nat) : Int) := (Int.natCast_ediv _ _).symm
  have e2 : (b : Int) * ((2 ^ (30 - t) : Nat) : Int) % 1073741824 = ((b % 2 ^ t * 2 ^ (30 - t) : Nat) : Int) := by
    rw [← Int.natCast_mul, ← w2_mod ht]
    omega
  rw [e1, e2]
  have h1 : a / 2 ^ t < 2 ^ (30 - t) := by
    rw [Nat.div_lt_iff_lt_mul (Nat.two_pow_pos t), Nat.mul_comm, h30]
    omega
  have h2 : b % 2 ^ t < 2 ^ t := Nat.mod_lt _ (Nat.two_pow_pos t)
  have h3 : (b % 2 ^ t + 1) * 2 ^ (30 - t) ≤ 2 ^ t * 2 ^ (30 - t) := Nat.mul_le_mul_right _ h2
  have h4 : (b % 2 ^ t + 1) * 2 ^ (30 - t) = b % 2 ^ t * 2 ^ (30 - t) + 2 ^ (30 - t) := Nat.succ_mul _ _
  refine gn_or32 (30 - t) (p := ((2 ^ (30 - t) : Nat) : Int)) (c := ((b % 2 ^ t : Nat) : Int)) rfl ⟨Int.natCast_nonneg _, Int.ofNat_lt.mpr h1⟩ (Int.natCast_nonneg _) (Int.natCast_mul _ _) ?_
  rw [← Int.natCast_add]
  generalize a / 2 ^ t = A at *
  generalize b % 2 ^ t * 2 ^ (30 - t) = C at *
  generalize 2 ^ (30 - t) = D at *
  omega
theorem w2_alg {N0 X A B C D E P a G : Nat} (h3 : N0 * D = X + B * P) (e4 : D * A + B = a) (h30 : D * E = G) : (N0 + (A + C * E) * P) * D = X + a * P + C * (P * G) := by
  rw [← e4, ← h30, Nat.add_mul, h3]
  grind
theorem w2_step {f0 f : Nat → Int} {s z t k : Nat} {y : Int} (h : wt2_I f0 f s z t k) (h0 : lm_ f0) (ht : t < 30) (hk : z + k < s) (hy : y = if z + (k + 1) < s then f0 (z + (k + 1)) else 0) :
    wt2_I f0 (va_up f k (f (z + k) / ((2 ^ t : Nat) : Int) + (y * ((2 ^ (30 - t) : Nat) : Int)) % 1073741824)) s z t (k + 1) := by
  obtain ⟨h1, h2, h3⟩ := h
  rw [h2 (z + k) (by omega) hk]
  rw [if_pos hk] at h3
  have hy0 : 0 ≤ y ∧ y ≤ 1073741823 := by
    rw [hy]
    split
    · exact h0 _
    · omega
  obtain ⟨a, ha⟩ := Int.eq_ofNat_of_zero_le (h0 (z + k)).1
  obtain ⟨b, hb⟩ := Int.eq_ofNat_of_zero_le hy0.1
  have hyb : (if z + (k + 1) < s then (f0 (z + (k + 1))).toNat % 2 ^ t else 0) = b % 2 ^ t := by
    by_cases c : z + (k + 1) < s
    · rw [if_pos c] at hy ⊢
      rw [← hy, hb, Int.toNat_natCast]
    · rw [if_neg c] at hy ⊢
      have : b = 0 := by omega
      subst this
      simp
  have h30 := w2_30 ht
  have hu := h0 (z + k)
  have e1 : f0 (z + k) / ((2 ^ t : Nat) : Int) = ((a / 2 ^ t : Nat) : Int) := by rw [ha]; exact (Int.natCast_ediv _ _).symm
  have e2 : y * ((2 ^ (30 - t) : Nat) : Int) % 1073741824 = ((b % 2 ^ t * 2 ^ (30 - t) : Nat) : Int) := by
    rw [hb, ← Int.natCast_mul, ← w2_mod ht]
    omega
  rw [e1, e2, ← Int.natCast_add]
  have h5 : a / 2 ^ t < 2 ^ (30 - t) := by
    rw [Nat.div_lt_iff_lt_mul (Nat.two_pow_pos t), Nat.mul_comm, h30]
    omega
  have h6 : b % 2 ^ t < 2 ^ t := Nat.mod_lt _ (Nat.two_pow_pos t)
  have h7 : (b % 2 ^ t + 1) * 2 ^ (30 - t) ≤ 2 ^ t * 2 ^ (30 - t) := Nat.mul_le_mul_right _ h6
  have h8 : (b % 2 ^ t + 1) * 2 ^ (30 - t) = b % 2 ^ t * 2 ^ (30 - t) + 2 ^ (30 - t) := Nat.succ_mul _ _
  have h9 : a / 2 ^ t + b % 2 ^ t * 2 ^ (30 - t) < 1073741824 := by
    generalize a / 2 ^ t = A at *
    generalize b % 2 ^ t * 2 ^ (30 - t) = C at *
    generalize 2 ^ (30 - t) = D at *
    omega
  refine ⟨lm_up h1 ⟨Int.natCast_nonneg _, Int.ofNat_le.mpr (Nat.le_of_lt_succ h9)⟩, fun i hi hi2 => by rw [va_up_ne _ _ (by omega)]; exact h2 i (by omega) hi2, ?_⟩
  have e3 : (f0 (z + k)).toNat = a := by rw [ha]; rfl
  rw [nb_up1, Int.toNat_natCast, hyb, nb_s (f := fun i => f0 (z + i)), e3, Nat.pow_succ]
  rw [e3] at h3
  exact w2_alg h3 (Nat.div_add_mod a (2 ^ t)) h30
theorem lp_dt52 {s z t : Nat} {w : Int} {f0 : Nat → Int} (hs : s ≤ N) (hN : N < 100) (h0 : lm_ f0) (ht : t < 30) : ∀ (j k : Nat), z + k + j = s → ∀ {h : mv_H} {f : Nat → Int}, WO h p N f (s : Int) → wt2_I f0 f s z t k →
    (∀ (h' : mv_H) (f' : Nat → Int), WO h' p N f' (s : Int) → wt2_I f0 f' s z t (s - z) → fr_ p 2 h h' → Go φ l m_wh_dropTwos R u 122 [some (mv_R p), some (mv_I (z : Int)), some (mv_I w), some (mv_I (t : Int)), some (mv_I (s : Int)), none] [] h' n) →
    Go φ l m_wh_dropTwos R u 52 [some (mv_R p), some (mv_I (z : Int)), some (mv_I w), some (mv_I (t : Int)), some (mv_I ((z + k : Nat) : Int)), none] [] h n := by
  intro j
  induction j with
  | zero =>
    intro k hk h f hp hi kx
    have e : s - z = k := by omega
    have e2 : z + k = s := by omega
    rw [e] at kx
    rw [e2]
    exact sc_dt_52 hp hs hN hi.1 ⟨by omega, Nat.le_refl _⟩ ht (w2_or ht) (fun _ => kx h f hp hi fr_.rf) (fun c => absurd (by omega) c) (fun c => absurd (by omega) c)
  | succ j ih =>
    intro k hk h f hp hi kx
    have e1 : z + k - z = k := by omega
    refine sc_dt_52 hp hs hN hi.1 ⟨by omega, by omega⟩ ht (w2_or ht) (fun c => absurd c (by omega)) (fun _ c h' hp' hf' => ?_) (fun _ c h' hp' hf' => ?_)
    · rw [e1] at hp'
      refine ih (k + 1) (by omega) hp' (w2_step hi h0 ht (by omega) ?_) (fun h'' f' a1 a2 a3 => kx h'' f' a1 a2 (fr_.tr hf' a3))
      rw [if_neg (by omega)]
    · rw [e1] at hp'
      refine ih (k + 1) (by omega) hp' (w2_step hi h0 ht (by omega) ?_) (fun h'' f' a1 a2 a3 => kx h'' f' a1 a2 (fr_.tr hf' a3))
      rw [if_pos (by omega)]
      exact hi.2.1 (z + k + 1) (by omega) (by omega)
theorem nb_shift {f : Nat → Int} {z : Nat} (hz : ∀ i, i < z → f i = 0) : ∀ k, nb f (z + k) = 1073741824 ^ z * nb (fun i => f (z + i)) k := by
  intro k
  induction k with
  | zero => exact (nv_zero fun i hi => by show (f i).toNat = 0; rw [hz i hi]; rfl).trans (by simp [nb, nv])
  | succ k ih =>
    rw [show z + (k + 1) = z + k + 1 by omega, nb_s, nb_s (f := fun i => f (z + i)), ih, Nat.pow_add]
    generalize 1073741824 ^ z = A
    generalize 1073741824 ^ k = B
    grind
theorem tw_dropTwos (hp : WV h p N v) (hv : 0 < v) : Fn l m_wh_dropTwos rd_wh_dropTwos rw_wh_dropTwos 0 0 [mv_R p] h n
    (fun x h' n' => ∃ k m : Nat, v = 2 ^ k * (2 * m + 1) ∧ k < 3000 ∧ x = some (mv_I (k : Int)) ∧ n' = n ∧ WV h' p N (2 * m + 1) ∧ fr_ p 2 h h') := by
  obtain ⟨f, s, hp, hw⟩ := hp
  have hs := hw.1
  have hN := hw.2.1
  have hf := hw.2.2.1
  have hs0 := wl_p hw hv
  refine fn_of rfl (Nat.le_of_ble_eq_true rfl) rfl ?_
  refine sc_dt_0 hp ?_
  refine lp_dt2 hp hs hN hf (hw.2.2.2.1 hs0) (s - 1) 0 (by omega) (fun i hi => absurd hi (Nat.not_lt_zero i)) (fun z hz hz0 hzn => ?_)
  have hfz := hf z
  obtain ⟨t, m, htm⟩ := w_odd (f z).toNat (by omega)
  have hzi : f z = ((2 ^ t * (2 * m + 1) : Nat) : Int) := by rw [← htm]; omega
  have ht : t < 30 := by
    rcases Nat.lt_or_ge t 30 with a | a
    · exact a
    · exfalso
      have h1 : 2 ^ 30 ≤ 2 ^ t := Nat.pow_le_pow_right (by decide) a
      have h2 : 2 ^ t * 1 ≤ 2 ^ t * (2 * m + 1) := Nat.mul_le_mul_left _ (by omega)
      omega
  refine sc_dt_27 hp hs hN hf hz (gn_low (m := m) (k := t) (by omega) hzi (by omega)) ?_
  refine go_callS (M' := m_jInteger_bitCount) (d := 0) (w := 0) (mc := 0) (ms := 0) (as := [mv_I (((2 ^ t : Nat) : Int) - 1)]) (rest := []) (q := 48) g_jInteger_bitCount s_jInteger_bitCount l_wh_42 d_wh_dropTwos_45 rfl rfl rfl (by decide) ⟨by decide, by decide, by decide, by decide⟩ tm_bitCount ?_
  rintro w0 h1 n1 ⟨rfl, rfl, rfl⟩ -
  rw [bc_pow t (by omega)]
  refine go_u0 (sc_dt_48 hp ?_)
  have hmod : (f z).toNat % 2 ^ t = 0 := by rw [htm]; exact Nat.mul_mod_right _ _
  refine lp_dt52 (k := 0) (f0 := f) hs hN hf ht (s - z) (by omega) hp ⟨hf, fun _ _ _ => rfl, ?_⟩ (fun h2 f2 hp2 hi hf2 => ?_)
  · show nb f 0 * 2 ^ t = nb (fun i => f (z + i)) 0 + (if z + 0 < s then (f (z + 0)).toNat % 2 ^ t else 0) * 1073741824 ^ 0
    rw [if_pos (by omega), Nat.add_zero, hmod]
    simp [nb, nv]
  · obtain ⟨i1, i2, i3⟩ := hi
    rw [if_neg (by omega), Nat.zero_mul, Nat.add_zero] at i3
    have hsh : nb f s = 1073741824 ^ z * nb (fun i => f (z + i)) (s - z) := by
      have := nb_shift hz0 (s - z)
      rwa [show z + (s - z) = s by omega] at this
    have hlow : nb (fun i => f (z + i)) (s - z) = (f z).toNat + 1073741824 * nv 1073741824 (fun k => (f (z + (k + 1))).toNat) (s - z - 1) := by
      have := nv_low (B := 1073741824) (f := fun i => (f (z + i)).toNat) (s - z - 1)
      rwa [show s - z - 1 + 1 = s - z by omega] at this
    have h30 := w2_30 ht
    have hpow : 2 ^ (30 - t) = 2 * 2 ^ (29 - t) := by rw [← Nat.pow_succ']; congr 1; omega
    obtain ⟨Y, hY⟩ : ∃ Y, Y = nv 1073741824 (fun k => (f (z + (k + 1))).toNat) (s - z - 1) := ⟨_, rfl⟩
    have hres : nb f2 (s - z) = 2 * (m + 2 ^ (29 - t) * Y) + 1 := by
      have h1 : nb f2 (s - z) * 2 ^ t = (2 * (m + 2 ^ (29 - t) * Y) + 1) * 2 ^ t := by
        rw [i3, hlow, ← hY, htm, ← h30, hpow]
        generalize 2 ^ t = A
        generalize 2 ^ (29 - t) = B
        grind
      exact Nat.eq_of_mul_eq_mul_right (Nat.two_pow_pos t) h1
    refine sc_dt_122 hp2 (by omega) ?_
    rw [show (s : Int) - (z : Int) = ((s - z : Nat) : Int) by omega]
    refine cw_cutTo (q := 132) l_wh_36 d_wh_dropTwos_129 rfl hp2 (by omega) hN i1 (by decide) ⟨by decide, by decide, by decide, by decide⟩ (fun h3 hv3 hf3 => ?_)
    obtain ⟨f3, s3, hp3, hw3⟩ := id hv3
    refine sc_dt_132 hp3 ?_
    refine go_iret d_wh_dropTwos_138 rfl go_le0 ⟨z * 30 + t, m + 2 ^ (29 - t) * Y, ?_, by omega, ?_, rfl, ?_, fr_.tr hf2 hf3⟩
    · rw [← hres, show v = nb f s from hw.2.2.2.2.symm, hsh, ← i3, Nat.pow_add, Nat.mul_comm z 30, Nat.pow_mul, show (2 : Nat) ^ 30 = 1073741824 by decide]
      generalize 1073741824 ^ z = A
      generalize nb f2 (s - z) = B
      generalize 2 ^ t = C
      grind
    · congr 2
    · rw [← hres]; exact hv3
end WhVal3
