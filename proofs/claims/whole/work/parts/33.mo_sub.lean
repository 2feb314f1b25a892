/-! the model's rows: compare, takeOff, isOne, isEven -/
def cm_ (x y : Nat) : Int := if x < y then -1 else if x = y then 0 else 1
theorem mo_ext {D U : Nat → Int} {r v k : Nat} (h : mo_RW D U r v) (hk : k ≤ 40) (hu : U r ≤ (k : Int)) : nv 10000 (fun i => (D (40 * r + i)).toNat) k = v := by
  rw [← h.2.2]
  exact (nv_ext hk (fun i p q => by
    show (D (40 * r + i)).toNat = 0
    rw [h.1 i q (by omega)]; rfl)).symm
theorem mo_dlt {D : Nat → Int} (hD : ∀ j, 0 ≤ D j ∧ D j ≤ 9999) (j : Nat) : (D j).toNat < 10000 := by
  have := hD j
  omega
theorem mo_lt {D U : Nat → Int} {r v : Nat} (hD : ∀ j, 0 ≤ D j ∧ D j ≤ 9999) (hU : 0 ≤ U r ∧ U r ≤ 40) (h : mo_RW D U r v) : v < 10000 ^ (U r).toNat := by
  rw [← mo_ext h (k := (U r).toNat) (by omega) (by omega)]
  exact nv_lt fun i _ => mo_dlt hD _
theorem mo_ge {D U : Nat → Int} {r v : Nat} (hD : ∀ j, 0 ≤ D j ∧ D j ≤ 9999) (hU : 0 ≤ U r ∧ U r ≤ 40) (h : mo_RW D U r v) (hp : 0 < U r) : 10000 ^ ((U r).toNat - 1) ≤ v := by
  rw [← mo_ext h (k := (U r).toNat) (by omega) (by omega)]
  refine nv_top (by omega) ?_
  show ¬ (D (40 * r + ((U r).toNat - 1))).toNat = 0
  have h1 := h.2.1 hp
  rw [show 40 * r + (U r).toNat - 1 = 40 * r + ((U r).toNat - 1) by omega] at h1
  have := hD (40 * r + ((U r).toNat - 1))
  omega
theorem mo_Ult {D U : Nat → Int} {a b x y : Nat} (hD : ∀ j, 0 ≤ D j ∧ D j ≤ 9999) (hUa : 0 ≤ U a ∧ U a ≤ 40) (hUb : 0 ≤ U b ∧ U b ≤ 40) (ha : mo_RW D U a x) (hb : mo_RW D U b y) (h : U a < U b) : x < y := by
  have h1 := mo_lt hD hUa ha
  have h2 := mo_ge hD hUb hb (by omega)
  have h3 : 10000 ^ (U a).toNat ≤ 10000 ^ ((U b).toNat - 1) := Nat.pow_le_pow_right (by decide) (by omega)
  omega
section MoSub
variable {φ : go_F} {l : Launch} {R : Room} {u : Nat × Nat} {h : mv_H} {n o : Nat} {X : mo_X} {D U : Nat → Int} {V : Nat → Nat}
theorem lp_compare {a b : Nat} (hm : MD h o X D U) (ha : a < 160) (hb : b < 160) (hD : ∀ j, 0 ≤ D j ∧ D j ≤ 9999) (hU : ∀ j, 0 ≤ U j ∧ U j ≤ 40) : ∀ (j : Nat) (k : Int), k = (j : Int) - 1 → j ≤ 40 →
    (∀ (j' : Nat) (k' : Int), k' = (j' : Int) - 1 → j' ≤ j → (∀ i, j' ≤ i → i < j → D (40 * a + i) = D (40 * b + i)) → (0 < j' → D (40 * a + (j' - 1)) ≠ D (40 * b + (j' - 1))) → Go φ l m_mo_compare R u 81 [some (mv_R o), some (mv_I (a : Int)), some (mv_I (b : Int)), some (mv_I k')] [] h n) →
    Go φ l m_mo_compare R u 45 [some (mv_R o), some (mv_I (a : Int)), some (mv_I (b : Int)), some (mv_I k)] [] h n
  | 0, k, hk, hj, kx => sg_compare_45 hm ha hb (by omega) hD hU (fun _ => kx 0 k hk (Nat.le_refl _) (fun i _ q => absurd q (Nat.not_lt_zero i)) (fun q => absurd q (Nat.lt_irrefl 0))) (fun c => absurd (by omega) c) (fun c => absurd (by omega) c)
  | j + 1, k, hk, hj, kx => by
    have e : k.toNat = j := by omega
    refine sg_compare_45 hm ha hb (by omega) hD hU (fun c => absurd c (by omega)) (fun _ c => ?_) (fun _ c => ?_)
    · rw [e] at c
      exact kx (j + 1) k hk (Nat.le_refl _) (fun i p q => absurd q (by omega)) (fun _ => c)
    · rw [e] at c
      refine lp_compare hm ha hb hD hU j (k - 1) (by omega) (by omega) (fun j' k' h1 h2 h3 h4 => kx j' k' h1 (by omega) (fun i p q => ?_) h4)
      by_cases hi : i = j
      · subst hi; exact c
      · exact h3 i p (by omega)
theorem tm_compare {a b : Nat} (hV : mo_V h o X V) (ha : a < 160) (hb : b < 160) : Fn l m_mo_compare rd_mo_compare rw_mo_compare 0 0 [mv_R o, mv_I (a : Int), mv_I (b : Int)] h n
    (fun w h' n' => w = some (mv_I (cm_ (V a) (V b))) ∧ n' = n ∧ h' = h) := by
  obtain ⟨D, U, hm, hM⟩ := hV
  refine fn_of rfl (Nat.le_of_ble_eq_true rfl) rfl ?_
  have ra := hM.2.2 a ha
  have rb := hM.2.2 b hb
  have hUa := hM.2.1 a
  have hUb := hM.2.1 b
  refine sg_compare_0 hm ha hb hM.1 hM.2.1 (fun c => ?_) (fun c1 c2 => ?_) (fun c1 c2 => ?_)
  · refine lp_compare hm ha hb hM.1 hM.2.1 (U a).toNat (U a - 1) (by omega) (by omega) (fun j k hk hj he hn => ?_)
    have xa : nv 10000 (fun i => (D (40 * a + i)).toNat) (U a).toNat = V a := mo_ext ra (by omega) (by omega)
    have xb : nv 10000 (fun i => (D (40 * b + i)).toNat) (U a).toNat = V b := mo_ext rb (by omega) (by omega)
    have hk2 : 0 ≤ k → 40 * a + k.toNat = 40 * a + (j - 1) ∧ 40 * b + k.toNat = 40 * b + (j - 1) ∧ 0 < j := fun h => by omega
    refine sg_compare_81 hm ha hb (by omega) hM.1 hM.2.1 (fun c1 c2 => ?_) (fun c1 c2 => ?_) (fun c1 => ?_)
    · obtain ⟨e1, e2, e3⟩ := hk2 c1
      rw [e1, e2] at c2
      have hne := hn e3
      have d1 := hM.1 (40 * a + (j - 1))
      have d2 := hM.1 (40 * b + (j - 1))
      have hlt : V b < V a := by
        rw [← xa, ← xb]
        exact nv_cmp (j := j - 1) (by omega) (fun i _ => mo_dlt hM.1 _) (fun i p q => by show (D (40 * b + i)).toNat = (D (40 * a + i)).toNat; rw [he i (by omega) q]) (by show (D (40 * b + (j - 1))).toNat < (D (40 * a + (j - 1))).toNat; omega)
      exact go_iret d_mo_compare_119 rfl go_le0 ⟨by unfold cm_; rw [if_neg (by omega), if_neg (by omega)], rfl, rfl⟩
    · obtain ⟨e1, e2, e3⟩ := hk2 c1
      rw [e1, e2] at c2
      have d1 := hM.1 (40 * a + (j - 1))
      have d2 := hM.1 (40 * b + (j - 1))
      have hlt : V a < V b := by
        rw [← xa, ← xb]
        exact nv_cmp (j := j - 1) (by omega) (fun i _ => mo_dlt hM.1 _) (fun i p q => by show (D (40 * a + i)).toNat = (D (40 * b + i)).toNat; rw [he i (by omega) q]) (by show (D (40 * a + (j - 1))).toNat < (D (40 * b + (j - 1))).toNat; omega)
      exact go_iret d_mo_compare_119 rfl go_le0 ⟨by unfold cm_; rw [if_pos hlt], rfl, rfl⟩
    · have hj0 : j = 0 := by omega
      have heq : V a = V b := by
        rw [← xa, ← xb]
        exact nv_congr fun i hi => by show (D (40 * a + i)).toNat = (D (40 * b + i)).toNat; rw [he i (by omega) hi]
      exact go_iret d_mo_compare_119 rfl go_le0 ⟨by unfold cm_; rw [if_neg (by omega), if_pos heq], rfl, rfl⟩
  · have hlt := mo_Ult hM.1 hUb hUa rb ra (by omega)
    exact go_iret d_mo_compare_35 rfl go_le0 ⟨by unfold cm_; rw [if_neg (by omega), if_neg (by omega)], rfl, rfl⟩
  · have hlt := mo_Ult hM.1 hUa hUb ra rb (by omega)
    exact go_iret d_mo_compare_35 rfl go_le0 ⟨by unfold cm_; rw [if_pos hlt], rfl, rfl⟩
/-- taking off: what holds behind k digits, c the borrow -/
def so_I (D0 D : Nat → Int) (a b k : Nat) (c : Int) : Prop := (∀ j, 0 ≤ D j ∧ D j ≤ 9999) ∧ (0 ≤ c ∧ c ≤ 1) ∧ (∀ i, (i < 40 * a ∨ 40 * a + k ≤ i) → D i = D0 i) ∧
  nv 10000 (fun i => (D (40 * a + i)).toNat) k + nv 10000 (fun i => (D0 (40 * b + i)).toNat) k = nv 10000 (fun i => (D0 (40 * a + i)).toNat) k + c.toNat * 10000 ^ k
theorem so_step {D0 D : Nat → Int} {a b k : Nat} {c x c' : Int} (h : so_I D0 D a b k c) (hk : k < 40) (hx : x = D (40 * a + k) - D (40 * b + k) - c + c' * 10000) (hc : (c' = 0 ∧ 0 ≤ D (40 * a + k) - D (40 * b + k) - c) ∨ (c' = 1 ∧ ¬ 0 ≤ D (40 * a + k) - D (40 * b + k) - c)) : so_I D0 (va_up D (40 * a + k) x) a b (k + 1) c' := by
  obtain ⟨h1, h2, h3, h4⟩ := h
  have ea : D (40 * a + k) = D0 (40 * a + k) := h3 _ (by omega)
  have eb : D (40 * b + k) = D0 (40 * b + k) := h3 _ (by omega)
  have ba := h1 (40 * a + k)
  have bb := h1 (40 * b + k)
  refine ⟨fun j => ?_, by omega, fun i hi => ?_, ?_⟩
  · unfold va_up
    split
    · omega
    · exact h1 j
  · rw [va_up_ne _ _ (by omega)]
    exact h3 i (by omega)
  · have e1 : nv 10000 (fun i => (va_up D (40 * a + k) x (40 * a + i)).toNat) k = nv 10000 (fun i => (D (40 * a + i)).toNat) k := nv_congr fun i hi => by rw [va_up_ne _ _ (by omega)]
    rw [← e1] at h4
    exact nv_subb h4 (by
      show (va_up D (40 * a + k) x (40 * a + k)).toNat + (D0 (40 * b + k)).toNat + c.toNat = (D0 (40 * a + k)).toNat + c'.toNat * 10000
      rw [va_up_self]
      omega)
theorem lp_takeOff {a b : Nat} {D0 : Nat → Int} (ha : a < 160) (hb : b < 160) (hU : ∀ j, 0 ≤ U j ∧ U j ≤ 40) : ∀ (j k : Nat), (k : Int) + j = U a → ∀ {h : mv_H} {D : Nat → Int} {c : Int}, MD h o X D U → so_I D0 D a b k c →
    (∀ (h' : mv_H) (D' : Nat → Int) (c' : Int), MD h' o X D' U → fr_ o 8 h h' → so_I D0 D' a b (U a).toNat c' → Go φ l m_mo_takeOff R u 90 [some (mv_R o), some (mv_I (a : Int)), some (mv_I (b : Int)), some (mv_I c'), some (mv_I (((U a).toNat : Nat) : Int)), none] [] h' n) →
    Go φ l m_mo_takeOff R u 5 [some (mv_R o), some (mv_I (a : Int)), some (mv_I (b : Int)), some (mv_I c), some (mv_I (k : Int)), none] [] h n
  | 0, k, hk, h, D, c, hm, hi, kx => by
    have hUa := hU a
    have e : k = (U a).toNat := by omega
    subst e
    exact sg_takeOff_5 hm ha hb hi.2.1 (by omega) hi.1 hU (fun _ => kx h D c hm fr_.rf hi) (fun c => absurd (by omega) c) (fun c => absurd (by omega) c)
  | j + 1, k, hk, h, D, c, hm, hi, kx => by
    have hUa := hU a
    refine sg_takeOff_5 hm ha hb hi.2.1 (by omega) hi.1 hU (fun c => absurd c (by omega)) (fun _ c1 h' hm' hf => ?_) (fun _ c1 h' hm' hf => ?_)
    · exact lp_takeOff ha hb hU j (k + 1) (by omega) hm' (so_step hi (by omega) (by omega) (Or.inl ⟨rfl, c1⟩)) (fun h'' D' c' hm'' hf' => kx h'' D' c' hm'' (fr_.tr hf hf'))
    · exact lp_takeOff ha hb hU j (k + 1) (by omega) hm' (so_step hi (by omega) (by omega) (Or.inr ⟨rfl, c1⟩)) (fun h'' D' c' hm'' hf' => kx h'' D' c' hm'' (fr_.tr hf hf'))
theorem tm_takeOff {a b : Nat} (hV : mo_V h o X V) (ha : a < 160) (hb : b < 160) (hs : V b ≤ V a) : Fn l m_mo_takeOff rd_mo_takeOff rw_mo_takeOff 0 0 [mv_R o, mv_I (a : Int), mv_I (b : Int)] h n
    (fun w h' n' => w = none ∧ n' = n ∧ mo_V h' o X (va_up V a (V a - V b)) ∧ fr_ o 8 h h') := by
  obtain ⟨D, U, hm, hM⟩ := hV
  refine fn_of rfl (Nat.le_of_ble_eq_true rfl) rfl ?_
  have ra := hM.2.2 a ha
  have rb := hM.2.2 b hb
  have hUa := hM.2.1 a
  have hUb := hM.2.1 b
  have hUU : U b ≤ U a := by
    by_cases hc : U a < U b
    · have := mo_Ult hM.1 hUa hUb ra rb hc
      omega
    · omega
  refine sg_takeOff_0 hm (lp_takeOff (D0 := D) ha hb hM.2.1 (U a).toNat 0 (by omega) hm ⟨hM.1, by omega, fun i _ => rfl, by simp [nv]⟩ (fun h1 D1 c1 hm1 hf1 hi => ?_))
  obtain ⟨i1, i2, i3, i4⟩ := hi
  rw [mo_ext ra (by omega) (by omega), mo_ext rb (by omega) (by omega)] at i4
  have hlt := mo_lt hM.1 hUa ra
  have hl1 : nv 10000 (fun i => (D1 (40 * a + i)).toNat) (U a).toNat < 10000 ^ (U a).toNat := nv_lt fun i _ => mo_dlt i1 _
  have hc0 : c1.toNat = 0 := by
    have hcc : c1.toNat = 0 ∨ c1.toNat = 1 := by omega
    rcases hcc with hcc | hcc
    · exact hcc
    · rw [hcc, Nat.one_mul] at i4
      omega
  rw [hc0, Nat.zero_mul, Nat.add_zero] at i4
  have hz : ∀ i, (U a).toNat ≤ i → i < 40 → D1 (40 * a + i) = 0 := fun i p q => by
    rw [i3 _ (by omega)]
    exact ra.1 i q (by omega)
  have hval : nv 10000 (fun i => (D1 (40 * a + i)).toNat) 40 = V a - V b := by
    rw [nv_ext (m := (U a).toNat) (by omega) (fun i p q => by show (D1 (40 * a + i)).toNat = 0; rw [hz i p q]; rfl)]
    omega
  refine sg_takeOff_90 hm1 ha ?_
  have e : U a = (((U a).toNat : Nat) : Int) := by omega
  rw [show mv_I (U a) = mv_I (((U a).toNat : Nat) : Int) by rw [← e]]
  refine go_callV (M' := m_mo_trim) (d := rd_mo_trim) (w := rw_mo_trim) (mc := 0) (ms := 0) (as := [mv_I (a : Int), mv_I (((U a).toNat : Nat) : Int)]) (b := o) (rest := []) (q := 101) g_mo_trim i_mo_trim v_mo_trim l_mo_45 d_mo_takeOff_98 rfl rfl rfl (MD_c0 hm1) rfl (by decide) ⟨by decide, by decide, by decide, by decide⟩ (tm_trim hm1 i1 ha (by omega)) ?_
  rintro v h2 n2 ⟨rfl, rfl, kk, p1, p2, p3, hm2, hf2⟩ -
  exact go_vret d_mo_takeOff_101 rfl go_le0 ⟨rfl, rfl, ⟨_, _, hm2, mo_trimmed hM i1 hM.2.1 (fun j hj => i3 j (by omega)) (fun _ _ => rfl) (by omega) hz p1 p2 p3 hval⟩, fr_.tr hf1 hf2⟩
theorem mo_is1 {r : Nat} (hM : mo_MN D U V) (hr : r < 160) : (U r = 1 ∧ D (40 * r) = 1) ↔ V r = 1 := by
  have rr := hM.2.2 r hr
  have hUr := hM.2.1 r
  constructor
  · rintro ⟨h1, h2⟩
    rw [← mo_ext rr (k := 1) (by omega) (by omega)]
    show 0 + (D (40 * r + 0)).toNat * 10000 ^ 0 = 1
    rw [Nat.add_zero, h2]
    rfl
  · intro h1
    have h2 := mo_lt hM.1 hUr rr
    have hp : 0 < U r := by
      by_cases hp : 0 < U r
      · exact hp
      · have : (U r).toNat = 0 := by omega
        rw [this] at h2
        simp at h2
        omega
    have h3 := mo_ge hM.1 hUr rr hp
    have h4 : U r = 1 := by
      by_cases h5 : U r = 1
      · exact h5
      · have h6 : 10000 ^ 1 ≤ 10000 ^ ((U r).toNat - 1) := Nat.pow_le_pow_right (by decide) (by omega)
        omega
    refine ⟨h4, ?_⟩
    have h7 := mo_ext rr (k := 1) (by omega) (by omega)
    have h8 : 0 + (D (40 * r + 0)).toNat * 10000 ^ 0 = V r := h7
    have h9 := hM.1 (40 * r)
    rw [Nat.add_zero] at h8
    omega
theorem tm_isOne {r : Nat} (hV : mo_V h o X V) (hr : r < 160) : Fn l m_mo_isOne rd_mo_isOne rw_mo_isOne 0 0 [mv_R o, mv_I (r : Int)] h n
    (fun w h' n' => w = some (mv_I (if V r = 1 then 1 else 0)) ∧ n' = n ∧ h' = h) := by
  obtain ⟨D, U, hm, hM⟩ := hV
  refine fn_of rfl (Nat.le_of_ble_eq_true rfl) rfl ?_
  have h1 := mo_is1 hM hr
  refine sg_isOne_0 hm hr hM.1 hM.2.1 (fun c => ?_) (fun c1 c2 => ?_) (fun c1 c2 => ?_)
  · exact go_zret d_mo_isOne_28 rfl (by decide) go_le0 ⟨by rw [if_neg (fun z => c (h1.mpr z).1)], rfl, rfl⟩
  · exact go_zret d_mo_isOne_28 rfl (by decide) go_le0 ⟨by rw [if_neg (fun z => c2 (h1.mpr z).2)], rfl, rfl⟩
  · exact go_zret d_mo_isOne_28 rfl (by decide) go_le0 ⟨by rw [if_pos (h1.mp ⟨c1, c2⟩)], rfl, rfl⟩
theorem tm_isEven {r : Nat} (hV : mo_V h o X V) (hr : r < 160) : Fn l m_mo_isEven rd_mo_isEven rw_mo_isEven 0 0 [mv_R o, mv_I (r : Int)] h n
    (fun w h' n' => w = some (mv_I (if V r % 2 = 0 then 1 else 0)) ∧ n' = n ∧ h' = h) := by
  obtain ⟨D, U, hm, hM⟩ := hV
  refine fn_of rfl (Nat.le_of_ble_eq_true rfl) rfl ?_
  have rr := hM.2.2 r hr
  have h2 : V r % 2 = (D (40 * r)).toNat % 2 := by
    have h3 := rr.2.2
    rw [nv_low] at h3
    have h4 : (D (40 * r + 0)).toNat + 10000 * nv 10000 (fun k => (D (40 * r + (k + 1))).toNat) 39 = V r := h3
    rw [Nat.add_zero] at h4
    omega
  have h9 := hM.1 (40 * r)
  refine sg_isEven_0 hm hr hM.1 (fun c => ?_) (fun c1 => ?_)
  · exact go_zret d_mo_isEven_19 rfl (by decide) go_le0 ⟨by rw [if_neg (by omega)], rfl, rfl⟩
  · exact go_zret d_mo_isEven_19 rfl (by decide) go_le0 ⟨by rw [if_pos (by omega)], rfl, rfl⟩
end MoSub
