/-! the class's Whole: each is a natural number; become, cutTo, isZero, isOne, isTooLarge, limb, compare, copy, add, subtract -/
abbrev nb (f : Nat → Int) (k : Nat) : Nat := nv 1073741824 (fun i => (f i).toNat) k
abbrev lm_ (f : Nat → Int) : Prop := ∀ j, 0 ≤ f j ∧ f j ≤ 1073741823
def wl_ (f : Nat → Int) (s N v : Nat) : Prop := s ≤ N ∧ N < 100 ∧ lm_ f ∧ (0 < s → f (s - 1) ≠ 0) ∧ nb f s = v
def WV (h : mv_H) (p N v : Nat) : Prop := ∃ (f : Nat → Int) (s : Nat), WO h p N f (s : Int) ∧ wl_ f s N v
theorem lm_lt {f : Nat → Int} (hf : lm_ f) (j : Nat) : (f j).toNat < 1073741824 := by
  have := hf j
  omega
theorem lm_up {f : Nat → Int} {k : Nat} {x : Int} (hf : lm_ f) (hx : 0 ≤ x ∧ x ≤ 1073741823) : lm_ (va_up f k x) := by
  intro j
  unfold va_up
  split
  · exact hx
  · exact hf j
theorem nb_up {f : Nat → Int} {k m : Nat} {x : Int} (h : m ≤ k) : nb (va_up f k x) m = nb f m := nv_congr fun i hi => by rw [va_up_ne _ _ (by omega)]
theorem nb_s {f : Nat → Int} {k : Nat} : nb f (k + 1) = nb f k + (f k).toNat * 1073741824 ^ k := rfl
theorem nb_up1 {f : Nat → Int} {k : Nat} {x : Int} : nb (va_up f k x) (k + 1) = nb f k + x.toNat * 1073741824 ^ k := by
  rw [nb_s, nb_up (Nat.le_refl _), va_up_self]
theorem nb_lt {f : Nat → Int} {k : Nat} (hf : lm_ f) : nb f k < 1073741824 ^ k := nv_lt fun i _ => lm_lt hf i
theorem wl_lt {f : Nat → Int} {s N v : Nat} (h : wl_ f s N v) : v < 1073741824 ^ s := by
  rw [← h.2.2.2.2]
  exact nb_lt h.2.2.1
theorem wl_ge {f : Nat → Int} {s N v : Nat} (h : wl_ f s N v) (hs : 0 < s) : 1073741824 ^ (s - 1) ≤ v := by
  rw [← h.2.2.2.2]
  refine nv_top hs ?_
  show ¬ (f (s - 1)).toNat = 0
  have h1 := h.2.2.2.1 hs
  have := h.2.2.1 (s - 1)
  omega
theorem wl_le {f : Nat → Int} {s N v k : Nat} (h : wl_ f s N v) (hv : v < 1073741824 ^ k) : s ≤ k := by
  rcases Nat.lt_or_ge k s with hk | hk
  · exfalso
    have h1 := wl_ge h (by omega)
    have h2 : 1073741824 ^ k ≤ 1073741824 ^ (s - 1) := Nat.pow_le_pow_right (by decide) (by omega)
    omega
  · exact hk
theorem wl_0 {f : Nat → Int} {s N v : Nat} (h : wl_ f s N v) : s = 0 ↔ v = 0 := by
  constructor
  · intro e
    subst e
    exact h.2.2.2.2.symm
  · intro e
    subst e
    have := wl_le h (k := 0) (by decide)
    omega
theorem wl_p {f : Nat → Int} {s N v : Nat} (h : wl_ f s N v) (hv : 0 < v) : 0 < s := by
  have := wl_0 h
  omega
theorem wl_N {f : Nat → Int} {s N v : Nat} (h : wl_ f s N v) : v < 1073741824 ^ N := Nat.lt_of_lt_of_le (wl_lt h) (Nat.pow_le_pow_right (by decide) h.1)
theorem WV_N {h : mv_H} {p N v : Nat} (hv : WV h p N v) : v < 1073741824 ^ N := by
  obtain ⟨f, s, -, hw⟩ := hv
  exact wl_N hw
theorem WV_k {h h' : mv_H} {p N v : Nat} (hv : WV h p N v) (hk : ∀ j, p ≤ j → j < p + 2 → h' j = h j) : WV h' p N v := by
  obtain ⟨f, s, hm, hw⟩ := hv
  exact ⟨f, s, WO_k hm hk, hw⟩
theorem WV_fr {h h' : mv_H} {p r N v : Nat} (hv : WV h p N v) (hf : fr_ r 2 h h') (hd : p + 1 < r ∨ r + 1 < p) : WV h' p N v := WV_k hv fun j h1 h2 => hf j (by omega)
theorem WV_ob {h : mv_H} {p N v : Nat} (hv : WV h p N v) : ∃ fs, h p = mv_O 5 fs := by
  obtain ⟨f, s, hm, hw⟩ := hv
  exact ⟨_, WO_c0 hm⟩
section WhVal
variable {φ : go_F} {l : Launch} {M : go_M} {R : Room} {u : Nat × Nat} {pc q n p r N K v w : Nat} {L : List (Option mv_V)} {rest : List mv_V} {h : mv_H} {f g : Nat → Int} {s t : Int}
theorem lp_cutTo {m : Nat} (hN : N < 100) (hf : lm_ f) : ∀ (k : Nat) {h : mv_H}, WO h p N f (k : Int) → k ≤ N →
    (∀ (k' : Nat) (h' : mv_H), k' ≤ k → (∀ i, k' ≤ i → i < k → f i = 0) → (0 < k' → f (k' - 1) ≠ 0) → WO h' p N f (k' : Int) → fr_ p 2 h h' → Go φ l m_wh_cutTo R u 39 [some (mv_R p), some (mv_I (m : Int))] [] h' n) →
    Go φ l m_wh_cutTo R u 5 [some (mv_R p), some (mv_I (m : Int))] [] h n := by
  intro k
  induction k with
  | zero =>
    intro h hm hk kx
    exact sc_cutTo_5 hm hk hN hf (fun _ => kx 0 h (Nat.le_refl _) (fun i _ b => absurd b (Nat.not_lt_zero i)) (fun b => absurd b (Nat.lt_irrefl 0)) hm fr_.rf) (fun c => absurd (by omega) c) (fun c => absurd (by omega) c)
  | succ k ih =>
    intro h hm hk kx
    refine sc_cutTo_5 hm hk hN hf (fun c => absurd c (by omega)) (fun _ c => ?_) (fun _ c h' hm' hf' => ?_)
    · exact kx (k + 1) h (Nat.le_refl _) (fun i a b => absurd b (by omega)) (fun _ => c) hm fr_.rf
    · have e : ((k + 1 : Nat) : Int) - 1 = (k : Int) := by omega
      rw [e] at hm'
      refine ih hm' (by omega) (fun k' h'' h1 h2 h3 h4 h5 => kx k' h'' (by omega) (fun i a b => ?_) h3 h4 (fr_.tr hf' h5))
      by_cases hi : i = k
      · subst hi; exact c
      · exact h2 i a (by omega)
theorem tw_cutTo {m : Nat} (hm : WO h p N f s) (hk : m ≤ N) (hN : N < 100) (hf : lm_ f) : Fn l m_wh_cutTo rd_wh_cutTo rw_wh_cutTo 0 0 [mv_R p, mv_I (m : Int)] h n
    (fun w h' n' => w = none ∧ n' = n ∧ WV h' p N (nb f m) ∧ fr_ p 2 h h') := by
  refine fn_of rfl (Nat.le_of_ble_eq_true rfl) rfl ?_
  refine sc_cutTo_0 hm fun h1 hm1 hf1 => lp_cutTo hN hf m hm1 hk fun k h2 h3 h4 h5 hm2 hf2 => ?_
  refine go_vret d_wh_cutTo_39 rfl go_le0 ⟨rfl, rfl, ⟨f, k, hm2, by omega, hN, hf, h5, ?_⟩, fr_.tr hf1 hf2⟩
  exact (nv_ext h3 fun i a b => by
    show (f i).toNat = 0
    rw [h4 i a b]; rfl).symm
theorem cw_cutTo {m idx : Nat} (hlk : go_lnk M.1.cls idx m_wh_cutTo) (hd : decode M.2.1 pc = .ok (.invokevirtual idx, 3)) (hp : pc + 3 = q) (hm : WO h p N f s) (hk : m ≤ N) (hN : N < 100) (hf : lm_ f) (hw : (rest.map mv_k).sum ≤ 8) (hR : go_fit R u 2 rd_wh_cutTo rw_wh_cutTo 0 0)
    (k : ∀ h', WV h' p N (nb f m) → fr_ p 2 h h' → Go φ l M R u q L rest h' n) : Go φ l M R u pc L (mv_I (m : Int) :: mv_R p :: rest) h n := by
  refine go_callV (M' := m_wh_cutTo) (d := rd_wh_cutTo) (w := rw_wh_cutTo) (mc := 0) (ms := 0) (as := [mv_I (m : Int)]) (b := p) (rest := rest) (q := q) g_wh_cutTo i_wh_cutTo v_wh_cutTo hlk hd hp rfl rfl (WO_c0 hm) rfl hw hR (tw_cutTo hm hk hN hf) ?_
  rintro w h1 n1 ⟨rfl, rfl, h2, h3⟩ -
  exact go_u0 (k h1 h2 h3)
theorem tw_become (hm : WV h p N w) (hN : 0 < N) (hv : v ≤ 1073741823) : Fn l m_wh_become rd_wh_become rw_wh_become 0 0 [mv_R p, mv_I (v : Int)] h n
    (fun w h' n' => w = none ∧ n' = n ∧ WV h' p N v ∧ fr_ p 2 h h') := by
  obtain ⟨f, s, hm, h1, h2, h3, h4, h5⟩ := hm
  refine fn_of rfl (Nat.le_of_ble_eq_true rfl) rfl ?_
  refine sc_become hm ⟨hN, h2⟩ (by omega) (fun c h' hm' hf => ?_) (fun c h' hm' hf => ?_)
  · refine go_vret d_wh_become_20 rfl go_le0 ⟨rfl, rfl, ⟨_, 1, hm', hN, h2, lm_up h3 (by omega), fun _ => ?_, ?_⟩, hf⟩
    · show va_up f 0 (v : Int) 0 ≠ 0
      rw [va_up_self]; exact c
    · rw [show (1 : Nat) = 0 + 1 from rfl, nb_up1]
      show 0 + (v : Int).toNat * 1073741824 ^ 0 = v
      simp
  · refine go_vret d_wh_become_20 rfl go_le0 ⟨rfl, rfl, ⟨_, 0, hm', Nat.zero_le _, h2, lm_up h3 (by omega), fun b => absurd b (Nat.lt_irrefl 0), ?_⟩, hf⟩
    show 0 = v
    omega
theorem tw_isZero (hm : WV h p N v) : Fn l m_wh_isZero rd_wh_isZero rw_wh_isZero 0 0 [mv_R p] h n
    (fun w h' n' => w = some (mv_I (if v = 0 then 1 else 0)) ∧ n' = n ∧ h' = h) := by
  obtain ⟨f, s, hm, hw⟩ := hm
  have h0 := wl_0 hw
  refine fn_of rfl (Nat.le_of_ble_eq_true rfl) rfl ?_
  refine sc_isZero hm ⟨by omega, by have := hw.1; omega⟩ hw.2.1 (fun c => ?_) (fun c => ?_)
  · exact go_zret d_wh_isZero_12 rfl (by decide) go_le0 ⟨by rw [if_neg (by omega)], rfl, rfl⟩
  · exact go_zret d_wh_isZero_12 rfl (by decide) go_le0 ⟨by rw [if_pos (by omega)], rfl, rfl⟩
theorem tw_isOne (hm : WV h p N v) : Fn l m_wh_isOne rd_wh_isOne rw_wh_isOne 0 0 [mv_R p] h n
    (fun w h' n' => w = some (mv_I (if v = 1 then 1 else 0)) ∧ n' = n ∧ h' = h) := by
  obtain ⟨f, s, hm, hw⟩ := hm
  have h0 := wl_0 hw
  have hle := wl_le hw (k := 1)
  have h1 : s = 1 → v = (f 0).toNat := fun e => by
    subst e
    rw [← hw.2.2.2.2]
    show 0 + (f 0).toNat * 1073741824 ^ 0 = _
    simp
  have hf := hw.2.2.1 0
  refine fn_of rfl (Nat.le_of_ble_eq_true rfl) rfl ?_
  refine sc_isOne hm ⟨by omega, by have := hw.1; omega⟩ hw.2.1 hw.2.2.1 (fun c => ?_) (fun c1 c2 => ?_) (fun c1 c2 => ?_)
  · refine go_zret d_wh_isOne_23 rfl (by decide) go_le0 ⟨?_, rfl, rfl⟩
    rw [if_neg (fun e => ?_)]
    subst e
    have := hle (by decide)
    omega
  · refine go_zret d_wh_isOne_23 rfl (by decide) go_le0 ⟨?_, rfl, rfl⟩
    rw [if_neg (by have := h1 (by omega); omega)]
  · refine go_zret d_wh_isOne_23 rfl (by decide) go_le0 ⟨?_, rfl, rfl⟩
    rw [if_pos (by have := h1 (by omega); omega)]
theorem w_240 : (1073741824 : Nat) ^ 8 = 2 ^ 240 := by decide +kernel
theorem tw_isTooLarge (hm : WV h p N v) : Fn l m_wh_isTooLarge rd_wh_isTooLarge rw_wh_isTooLarge 0 0 [mv_R p] h n
    (fun w h' n' => w = some (mv_I (if v < 2 ^ 240 then 0 else 1)) ∧ n' = n ∧ h' = h) := by
  obtain ⟨f, s, hm, hw⟩ := hm
  rw [← w_240]
  refine fn_of rfl (Nat.le_of_ble_eq_true rfl) rfl ?_
  refine sc_isTooLarge hm ⟨by omega, by have := hw.1; omega⟩ hw.2.1 (fun c => ?_) (fun c => ?_)
  · refine go_zret d_wh_isTooLarge_14 rfl (by decide) go_le0 ⟨?_, rfl, rfl⟩
    rw [if_pos]
    exact Nat.lt_of_lt_of_le (wl_lt hw) (Nat.pow_le_pow_right (by decide) (by omega))
  · refine go_zret d_wh_isTooLarge_14 rfl (by decide) go_le0 ⟨?_, rfl, rfl⟩
    rw [if_neg (fun e => ?_)]
    have := wl_le hw e
    omega
/-- the limb i of v -/
def wq_ (v i : Nat) : Nat := v / 1073741824 ^ i % 1073741824
theorem nb_div {f : Nat → Int} (hf : lm_ f) {s : Nat} : ∀ i, i < s → nb f s / 1073741824 ^ i % 1073741824 = (f i).toNat := by
  intro i hi
  have key : ∀ k, i < k → ∃ y, nb f k = nb f i + (f i).toNat * 1073741824 ^ i + 1073741824 ^ i * (1073741824 * y) := by
    intro k hk
    induction k with
    | zero => omega
    | succ k ih =>
      by_cases e : i = k
      · subst e
        exact ⟨0, by rw [nb_s]; simp⟩
      · obtain ⟨y, hy⟩ := ih (by omega)
        refine ⟨y + (f k).toNat * 1073741824 ^ (k - i - 1), ?_⟩
        rw [nb_s, hy]
        have hp : 1073741824 ^ k = 1073741824 ^ i * (1073741824 * 1073741824 ^ (k - i - 1)) := by
          rw [← Nat.pow_succ', ← Nat.pow_add]
          congr 1
          omega
        rw [hp]
        grind
  obtain ⟨y, hy⟩ := key s hi
  have h1 := nb_lt (k := i) hf
  have h2 := lm_lt hf i
  have hpos : 0 < 1073741824 ^ i := Nat.pow_pos (by decide)
  have e : nb f s = nb f i + 1073741824 ^ i * ((f i).toNat + 1073741824 * y) := by rw [hy]; grind
  rw [e, Nat.add_mul_div_left _ _ hpos, Nat.div_eq_of_lt h1, Nat.zero_add, Nat.add_mul_mod_self_left, Nat.mod_eq_of_lt h2]
theorem tw_limb {i : Int} (hm : WV h p N v) (hi : -2147483648 ≤ i ∧ i ≤ 2147483647) : Fn l m_wh_limb rd_wh_limb rw_wh_limb 0 0 [mv_R p, mv_I i] h n
    (fun w h' n' => w = some (mv_I (if i < 0 then 0 else (wq_ v i.toNat : Int))) ∧ n' = n ∧ h' = h) := by
  obtain ⟨f, s, hm, hw⟩ := hm
  have hs := hw.1
  refine fn_of rfl (Nat.le_of_ble_eq_true rfl) rfl ?_
  refine sc_limb hm ⟨by omega, by omega⟩ hw.2.1 hi (fun c => ?_) (fun c1 c2 => ?_) (fun c1 c2 => ?_)
  · exact go_iret d_wh_limb_22 rfl go_le0 ⟨by rw [if_pos c], rfl, rfl⟩
  · refine go_iret d_wh_limb_22 rfl go_le0 ⟨?_, rfl, rfl⟩
    rw [if_neg c1]
    have : v / 1073741824 ^ i.toNat = 0 := Nat.div_eq_of_lt (Nat.lt_of_lt_of_le (wl_lt hw) (Nat.pow_le_pow_right (by decide) (by omega)))
    unfold wq_
    rw [this]
    rfl
  · refine go_iret d_wh_limb_22 rfl go_le0 ⟨?_, rfl, rfl⟩
    rw [if_neg c1]
    unfold wq_
    rw [← hw.2.2.2.2, nb_div hw.2.2.1 _ (by omega)]
    have := hw.2.2.1 i.toNat
    congr 2
    omega
theorem lp_wcompare {s : Nat} (hp : WO h p N f (s : Int)) (hr : WO h r K g (s : Int)) (hs : s ≤ N) (hN : N < 100) (ht : s ≤ K) (hK : K < 100) (hf : lm_ f) (hg : lm_ g)
    (k0 : (∀ i, i < s → f i = g i) → Go φ l m_wh_compare R u 82 [some (mv_R p), some (mv_R r), some (mv_I (-1))] [mv_I 0] h n)
    (k1 : ∀ j, j < s → (∀ i, j < i → i < s → f i = g i) → g j < f j → Go φ l m_wh_compare R u 74 [some (mv_R p), some (mv_R r), some (mv_I (j : Int))] [mv_I 1] h n)
    (k2 : ∀ j, j < s → (∀ i, j < i → i < s → f i = g i) → f j < g j → Go φ l m_wh_compare R u 74 [some (mv_R p), some (mv_R r), some (mv_I (j : Int))] [mv_I (-1)] h n) :
    ∀ (j : Nat) (k : Int), k = (j : Int) - 1 → j ≤ s → (∀ i, j ≤ i → i < s → f i = g i) → Go φ l m_wh_compare R u 35 [some (mv_R p), some (mv_R r), some (mv_I k)] [] h n := by
  intro j
  induction j with
  | zero =>
    intro k hk hj he
    subst hk
    exact sc_compare_35 hp hr (by omega) hN (by omega) hK hf hg (by omega) (fun _ => k0 fun i hi => he i (by omega) hi) (fun c => absurd c (by decide)) (fun c => absurd c (by decide)) (fun c => absurd c (by decide))
  | succ j ih =>
    intro k hk hj he
    have e : k = (j : Int) := by omega
    subst e
    refine sc_compare_35 hp hr (by omega) hN (by omega) hK hf hg (by omega) (fun c => absurd c (by omega)) (fun _ c => ?_) (fun _ c1 c2 => ?_) (fun _ c1 c2 => ?_)
    · refine ih _ (by omega) (by omega) (fun i a b => ?_)
      by_cases hi : i = j
      · subst hi; exact c
      · exact he i (by omega) b
    · rw [Int.toNat_natCast] at c1 c2
      exact k1 j (by omega) (fun i a b => he i (by omega) b) (by omega)
    · rw [Int.toNat_natCast] at c1 c2
      exact k2 j (by omega) (fun i a b => he i (by omega) b) (by omega)
theorem tw_compare (hp : WV h p N v) (hr : WV h r K w) : Fn l m_wh_compare rd_wh_compare rw_wh_compare 0 0 [mv_R p, mv_R r] h n
    (fun x h' n' => x = some (mv_I (cm_ v w)) ∧ n' = n ∧ h' = h) := by
  obtain ⟨f, s, hp, hw⟩ := hp
  obtain ⟨g, t, hr, hx⟩ := hr
  have hs := hw.1
  have ht := hx.1
  refine fn_of rfl (Nat.le_of_ble_eq_true rfl) rfl ?_
  refine sc_compare_0 hp hr (by omega) hw.2.1 (by omega) hx.2.1 (fun c => ?_) (fun c1 c2 => ?_) (fun c1 c2 => ?_)
  · have e : t = s := by omega
    subst e
    refine lp_wcompare hp hr hs hw.2.1 ht hx.2.1 hw.2.2.1 hx.2.2.1 (fun he => ?_) (fun j hj he hlt => ?_) (fun j hj he hlt => ?_) t _ rfl (Nat.le_refl _) (fun i a b => absurd b (by omega))
    · have heq : v = w := by
        rw [← hw.2.2.2.2, ← hx.2.2.2.2]
        exact nv_congr fun i hi => by show (f i).toNat = (g i).toNat; rw [he i hi]
      exact go_iret d_wh_compare_82 rfl go_le0 ⟨by unfold cm_; rw [if_neg (by omega), if_pos heq], rfl, rfl⟩
    · have hlt : w < v := by
        rw [← hw.2.2.2.2, ← hx.2.2.2.2]
        exact nv_cmp (j := j) hj (fun i _ => lm_lt hx.2.2.1 _) (fun i p q => by show (g i).toNat = (f i).toNat; rw [he i p q]) (by have := hw.2.2.1 j; have := hx.2.2.1 j; show (g j).toNat < (f j).toNat; omega)
      exact go_iret d_wh_compare_74 rfl go_le0 ⟨by unfold cm_; rw [if_neg (by omega), if_neg (by omega)], rfl, rfl⟩
    · have hlt : v < w := by
        rw [← hw.2.2.2.2, ← hx.2.2.2.2]
        exact nv_cmp (j := j) hj (fun i _ => lm_lt hw.2.2.1 _) (fun i p q => by show (f i).toNat = (g i).toNat; rw [he i p q]) (by have := hw.2.2.1 j; have := hx.2.2.1 j; show (f j).toNat < (g j).toNat; omega)
      exact go_iret d_wh_compare_74 rfl go_le0 ⟨by unfold cm_; rw [if_pos hlt], rfl, rfl⟩
  · have hlt : w < v := by
      rcases Nat.lt_or_ge w v with a | a
      · exact a
      · exfalso
        have h1 := wl_le hw (k := t) (Nat.lt_of_le_of_lt a (wl_lt hx))
        omega
    exact go_iret d_wh_compare_27 rfl go_le0 ⟨by unfold cm_; rw [if_neg (by omega), if_neg (by omega)], rfl, rfl⟩
  · have hlt : v < w := by
      rcases Nat.lt_or_ge v w with a | a
      · exact a
      · exfalso
        have h1 := wl_le hx (k := s) (Nat.lt_of_le_of_lt a (wl_lt hw))
        omega
    exact go_iret d_wh_compare_27 rfl go_le0 ⟨by unfold cm_; rw [if_pos hlt], rfl, rfl⟩
theorem tw_copy (hp : WV h p N v) (hr : WV h r K w) (hd : p + 1 < r ∨ r + 1 < p) (hv : w < 1073741824 ^ N) : Fn l m_wh_copy rd_wh_copy rw_wh_copy 0 0 [mv_R p, mv_R r] h n
    (fun x h' n' => x = none ∧ n' = n ∧ WV h' p N w ∧ fr_ p 2 h h') := by
  obtain ⟨f, s, hp, hw⟩ := hp
  obtain ⟨g, t, hr, hx⟩ := hr
  have ht := wl_le hx hv
  have ht2 := hx.1
  have hN := hw.2.1
  have hK := hx.2.1
  refine fn_of rfl (Nat.le_of_ble_eq_true rfl) rfl ?_
  refine sc_copy_0 hp hr hd fun h1 hp1 hr1 hf1 => ?_
  refine go_acopy (r0 := r + 1) (r1 := p + 1) (N0 := K) (N1 := N) (sp := 0) (dp := 0) (cn := t) (f := g) (g := f) (q := 25) tw_3_53 tw_3_55 tw_3_54 tw_1_20 d_wh_copy_22 rfl (WO_c1 hr1) (WO_c1 hp1) rfl rfl rfl (by omega) (by omega) (by omega) ⟨by decide, by decide⟩ ?_
  refine go_vret d_wh_copy_25 rfl go_le0 ⟨rfl, rfl, ⟨va_cpy g f 0 0 t, t, WO_u1 hp1 _, ht, hN, ?_, ?_, ?_⟩, fun j hj => ?_⟩
  · intro j
    unfold va_cpy
    split
    · exact hx.2.2.1 _
    · exact hw.2.2.1 _
  · intro h0
    rw [pk_cpy_in (by omega) (by omega), show 0 + (t - 1 - 0) = t - 1 by omega]
    exact hx.2.2.2.1 h0
  · rw [← hx.2.2.2.2]
    exact nv_congr fun i hi => by rw [pk_cpy_in (by omega) (by omega), show 0 + (i - 0) = i by omega]
  · rw [va_up_ne _ _ (by omega)]
    exact hf1 j hj
end WhVal
