/-! the Divider: findGreatest -/
theorem gg_co {t m : Nat} : Nat.Coprime (2 ^ t) (2 * m + 1) := by
  refine Nat.Coprime.pow_left t ?_
  show Nat.gcd 2 (2 * m + 1) = 1
  rw [Nat.gcd_rec, show (2 * m + 1) % 2 = 1 by omega, Nat.gcd_one_left]
theorem gg_drop {t x m : Nat} : Nat.gcd (2 ^ t * x) (2 * m + 1) = Nat.gcd x (2 * m + 1) := Nat.Coprime.gcd_mul_left_cancel x gg_co
theorem gg_both {a b k m : Nat} : Nat.gcd (2 ^ a * (2 * k + 1)) (2 ^ b * (2 * m + 1)) = Nat.gcd (2 * k + 1) (2 * m + 1) * 2 ^ (if b < a then b else a) := by
  by_cases c : b < a
  · rw [if_pos c]
    have e : 2 ^ a = 2 ^ b * 2 ^ (a - b) := by rw [← Nat.pow_add]; congr 1; omega
    rw [e, Nat.mul_assoc, Nat.gcd_mul_left, gg_drop, Nat.mul_comm]
  · rw [if_neg c]
    have e : 2 ^ b = 2 ^ a * 2 ^ (b - a) := by rw [← Nat.pow_add]; congr 1; omega
    rw [e, Nat.mul_assoc, Nat.gcd_mul_left, Nat.gcd_comm (2 * k + 1), gg_drop, Nat.gcd_comm (2 * m + 1), Nat.mul_comm]
theorem gg_step {M0 E0 t m g : Nat} (hlt : E0 < M0) (hM : M0 % 2 = 1) (hE : E0 % 2 = 1) (hd : M0 - E0 = 2 ^ t * (2 * m + 1)) (hg : Nat.gcd M0 E0 = g) : Nat.gcd (2 * m + 1) E0 = g ∧ (2 * m + 1) * E0 * 2 ≤ M0 * E0 := by
  obtain ⟨e, rfl⟩ : ∃ e, E0 = 2 * e + 1 := ⟨E0 / 2, by omega⟩
  constructor
  · rw [← hg, ← gg_drop (t := t), ← hd]
    exact Nat.gcd_sub_self_left (by omega)
  · have ht : 0 < t := by
      rcases Nat.eq_zero_or_pos t with c | c
      · subst c
        rw [Nat.pow_zero, Nat.one_mul] at hd
        omega
      · exact c
    have h2 : 2 ^ 1 ≤ 2 ^ t := Nat.pow_le_pow_right (by decide) ht
    have h3 : 2 * (2 * m + 1) ≤ 2 ^ t * (2 * m + 1) := Nat.mul_le_mul_right _ h2
    have h4 : 2 * (2 * m + 1) ≤ M0 := by omega
    have h5 := Nat.mul_le_mul_right (2 * e + 1) h4
    have h6 : (2 * m + 1) * (2 * e + 1) * 2 = 2 * (2 * m + 1) * (2 * e + 1) := by grind
    omega
section DiGcd
variable {φ : go_F} {l : Launch} {n x y qq : Nat} {X : pn_X} {B : Nat → Int}
theorem lp_fg73 {g : Nat} {tw : Int} (hq : qq ≠ 22 ∧ qq ≠ 24) (r22 : ro_ 22) (r24 : ro_ 24) : ∀ (j k : Nat), k + j = 1000 → ∀ {h : mv_H} {V : Nat → Nat} (m e : Nat), (m = 22 ∧ e = 24 ∨ m = 24 ∧ e = 22) → pn_V h X B V → V m % 2 = 1 → V e % 2 = 1 → Nat.gcd (V m) (V e) = g → V m * V e < 2 ^ j →
    (∀ (h' : mv_H) (V' : Nat → Nat) (m' e' : Nat) (k' : Int), (m' = 22 ∧ e' = 24 ∨ m' = 24 ∧ e' = 22) → pn_V h' X B V' → V' e' = g → (∀ i, i ≠ 22 → i ≠ 24 → V' i = V i) → fr_ 1 389 h h' → Go φ l m_di_findGreatest (go_rm rd_di_findGreatest rw_di_findGreatest 0 0) (0, 0) 142 [some (mv_R 17), some (mv_R x), some (mv_R y), some (mv_R qq), some (mv_R m'), some (mv_R e'), some (mv_I tw), some (mv_I k'), none, none] [] h' n) →
    Go φ l m_di_findGreatest (go_rm rd_di_findGreatest rw_di_findGreatest 0 0) (0, 0) 73 [some (mv_R 17), some (mv_R x), some (mv_R y), some (mv_R qq), some (mv_R m), some (mv_R e), some (mv_I tw), some (mv_I (k : Int)), none, none] [] h n := by
  intro j
  induction j with
  | zero =>
    intro k hk h V m e hme hV h1 h2 h3 h4 kx
    exfalso
    have : 0 < V m * V e := Nat.mul_pos (by omega) (by omega)
    omega
  | succ j ih =>
    intro k hk h V m e hme hV h1 h2 h3 h4 kx
    have rm : ro_ m := by rcases hme with c | c <;> rw [c.1] <;> assumption
    have re : ro_ e := by rcases hme with c | c <;> rw [c.2] <;> assumption
    -- one step with the greater one in 'a', the lesser in 'b'
    have stp : ∀ a b (z : Int), (a = 22 ∧ b = 24 ∨ a = 24 ∧ b = 22) → V a % 2 = 1 → V b % 2 = 1 → Nat.gcd (V a) (V b) = g → V a * V b < 2 ^ (j + 1) → V b < V a → Go φ l m_di_findGreatest (go_rm rd_di_findGreatest rw_di_findGreatest 0 0) (0, 0) 114 [some (mv_R 17), some (mv_R x), some (mv_R y), some (mv_R qq), some (mv_R a), some (mv_R b), some (mv_I tw), some (mv_I (k : Int)), some (mv_I z), none] [mv_R b] h n := by
      intro a b z hab g1 g2 g3 g4 g5
      have ra : ro_ a := by rcases hab with c | c <;> rw [c.1] <;> assumption
      have rb : ro_ b := by rcases hab with c | c <;> rw [c.2] <;> assumption
      refine cp_isOne (q := 117) l_di_86 d_di_findGreatest_114 rfl hV rb (Nat.le_of_ble_eq_true rfl) ⟨by decide, by decide, by decide, by decide⟩ ?_
      refine sd_fg_117 (pn_d17 hV) (by split <;> omega) (fun c => ?_) (fun c => ?_)
      · refine cp_subtract (q := 130) l_di_89 d_di_findGreatest_127 rfl hV ra rb (by omega) (by omega) (Nat.le_of_ble_eq_true rfl) ⟨by decide, by decide, by decide, by decide⟩ (fun h' hV' hf' => ?_)
        refine sd_fg_130 (pn_d17 hV') ?_
        refine cp_dropTwos (q := 135) l_di_79 d_di_findGreatest_132 rfl hV' ra (by rw [va_up_self]; omega) (Nat.le_of_ble_eq_true rfl) ⟨by decide, by decide, by decide, by decide⟩ (fun t m1 h2 e1 e2 hV2 hf2 => ?_)
        rw [va_up_self] at e1
        obtain ⟨s1, s2⟩ := gg_step g5 g1 g2 e1 g3
        refine sd_fg_135 (pn_d17 hV2) ?_
        have ea : va_up (va_up V a (V a - V b)) a (2 * m1 + 1) a = 2 * m1 + 1 := va_up_self _ _ _
        have eb : va_up (va_up V a (V a - V b)) a (2 * m1 + 1) b = V b := by rw [va_up_ne _ _ (by omega), va_up_ne _ _ (by omega)]
        refine ih (k + 1) (by omega) a b hab hV2 (by rw [ea]; omega) (by rw [eb]; exact g2) (by rw [ea, eb]; exact s1) (by rw [ea, eb]; rw [Nat.pow_succ] at g4; omega) (fun h3 V3 m3 e3 k3 b1 b2 b3 b4 b5 => kx h3 V3 m3 e3 k3 b1 b2 b3 (fun i i1 i2 => ?_) (fr_.tr hf' (fr_.tr hf2 b5)))
        rw [b4 i i1 i2, va_up_ne _ _ (by omega), va_up_ne _ _ (by omega)]
      · refine kx h V a b k hab hV ?_ (fun _ _ _ => rfl) fr_.rf
        by_cases d : V b = 1
        · rw [d, Nat.gcd_one_right] at g3
          omega
        · rw [if_neg d] at c
          exact absurd rfl c
    refine sd_fg_73 (pn_d17 hV) (by omega) (fun c => absurd c (by omega)) (fun _ => ?_)
    refine cp_compare (q := 88) l_di_40 d_di_findGreatest_85 rfl hV rm re (Nat.le_of_ble_eq_true rfl) ⟨by decide, by decide, by decide, by decide⟩ ?_
    have hcm : cm_ (V m) (V e) = if V m < V e then -1 else if V m = V e then 0 else 1 := rfl
    refine sd_fg_88 (pn_d17 hV) (by rw [hcm]; split <;> (try split) <;> omega) (fun c1 c2 => ?_) (fun c1 c2 => ?_) (fun c1 c2 => ?_) (fun c1 c2 => ?_)
    · refine kx h V m e k hme hV ?_ (fun _ _ _ => rfl) fr_.rf
      rw [hcm] at c2
      have : V m = V e := by
        by_cases d : V m < V e
        · rw [if_pos d] at c2
          exact absurd c2 (by decide)
        · rw [if_neg d] at c2
          by_cases d2 : V m = V e
          · exact d2
          · rw [if_neg d2] at c2
            exact absurd c2 (by decide)
      rw [this, Nat.gcd_self] at h3
      exact h3
    · refine stp m e _ hme h1 h2 h3 h4 ?_
      rw [hcm] at c1 c2
      by_cases d : V m < V e
      · rw [if_pos d] at c1
        exact absurd c1 (by decide)
      · rw [if_neg d] at c2
        by_cases d2 : V m = V e
        · rw [if_pos d2] at c2
          exact absurd rfl c2
        · omega
    · exact absurd (by rw [c2]; decide) c1
    · refine stp e m _ (by omega) h2 h1 (by rw [Nat.gcd_comm]; exact h3) (by rw [Nat.mul_comm]; exact h4) ?_
      rw [hcm] at c1
      by_cases d : V m < V e
      · exact d
      · rw [if_neg d] at c1
        split at c1 <;> exact absurd (by decide) c1
theorem lp_fg152 {g m e : Nat} {tw : Int} (hq : ro_ qq) (hq8 : rn_ qq = 18) (hg : g < 1073741824 ^ 18) : ∀ (j : Nat) (k : Int), k ≤ 30 * (j : Int) → (-100 ≤ k ∧ k ≤ 3000) → ∀ {h : mv_H} {V : Nat → Nat}, pn_V h X B V → V qq * 2 ^ k.toNat = g →
    (∀ (h' : mv_H) (V' : Nat → Nat) (k' : Int), pn_V h' X B V' → V' qq = g → (∀ i, i ≠ qq → V' i = V i) → fr_ 1 389 h h' → Go φ l m_di_findGreatest (go_rm rd_di_findGreatest rw_di_findGreatest 0 0) (0, 0) 177 [some (mv_R 17), some (mv_R x), some (mv_R y), some (mv_R qq), some (mv_R m), some (mv_R e), some (mv_I tw), some (mv_I k'), none, none] [] h' n) →
    Go φ l m_di_findGreatest (go_rm rd_di_findGreatest rw_di_findGreatest 0 0) (0, 0) 152 [some (mv_R 17), some (mv_R x), some (mv_R y), some (mv_R qq), some (mv_R m), some (mv_R e), some (mv_I tw), some (mv_I k), none, none] [] h n := by
  intro j
  induction j with
  | zero =>
    intro k hk hk2 h V hV hv kx
    refine sd_fg_152 (pn_d17 hV) hk2 (fun c => kx h V k hV ?_ (fun _ _ => rfl) fr_.rf) (fun c => absurd (by omega) c)
    rw [show k.toNat = 0 by omega] at hv
    simpa using hv
  | succ j ih =>
    intro k hk hk2 h V hV hv kx
    refine sd_fg_152 (pn_d17 hV) hk2 (fun c => kx h V k hV ?_ (fun _ _ => rfl) fr_.rf) (fun c => ?_)
    · rw [show k.toNat = 0 by omega] at hv
      simpa using hv
    · refine go_mmin (q := 166) tw_3_71 tw_2_134 tw_1_12 tw_2_135 d_di_findGreatest_163 rfl (by omega) (by omega) ⟨by decide, Nat.le_of_ble_eq_true rfl, by decide, by decide⟩ ?_
      obtain ⟨z0, hz0⟩ : ∃ z0 : Nat, z0 = (if (30 : Int) < k then (30 : Int) else k).toNat := ⟨_, rfl⟩
      have hz1 : (if (30 : Int) < k then (30 : Int) else k) = (z0 : Int) ∧ z0 ≤ 30 ∧ 1 ≤ z0 ∧ (z0 : Int) ≤ k ∧ (z0 = 30 ∨ (z0 : Int) = k) := by
        rw [hz0]
        split <;> omega
      obtain ⟨a1, a2, a3, a4, a5⟩ := hz1
      rw [a1]
      refine sd_fg_166 (pn_d17 hV) ⟨rfl, a2⟩ ?_
      rw [Int.one_mul]
      have p30 : 2 ^ z0 ≤ 2 ^ 30 := Nat.pow_le_pow_right (by decide) a2
      have hsp : 2 ^ k.toNat = 2 ^ z0 * 2 ^ (k.toNat - z0) := by rw [← Nat.pow_add]; congr 1; omega
      have hpos : 0 < 2 ^ (k.toNat - z0) := Nat.two_pow_pos _
      have hle : V qq * 2 ^ z0 ≤ g := by
        rw [← hv, hsp, ← Nat.mul_assoc]
        exact Nat.le_mul_of_pos_right _ hpos
      refine cp_timesPlus (x := 2 ^ z0) (y := 0) (q := 171) l_di_53 d_di_findGreatest_168 rfl hV hq ⟨Nat.two_pow_pos _, by omega⟩ (by omega) (by rw [hq8]; omega) (Nat.le_of_ble_eq_true rfl) ⟨by decide, by decide, by decide, by decide⟩ (fun h1 hV1 hf1 => ?_)
      refine sd_fg_171 (pn_d17 hV1) ?_
      refine ih (k + (-30)) (by omega) (by omega) hV1 ?_ (fun h2 V2 k2 b1 b2 b3 b4 => kx h2 V2 k2 b1 b2 (fun i i1 => by rw [b3 i i1, va_up_ne _ _ i1]) (fr_.tr hf1 b4))
      rw [va_up_self, Nat.add_zero, Nat.mul_assoc, ← Nat.pow_add, ← hv]
      congr 2
      omega
theorem tw_findGreatest {h : mv_H} {V : Nat → Nat} (hV : pn_V h X B V) (hx : ro_ x) (hy : ro_ y) (hq : ro_ qq) (hn : x ≠ 22 ∧ x ≠ 24 ∧ y ≠ 22 ∧ y ≠ 24 ∧ qq ≠ 22 ∧ qq ≠ 24 ∧ qq ≠ x ∧ qq ≠ y) (hq8 : rn_ qq = 18) (hv : V x * V y < 2 ^ 1000) : Fn l m_di_findGreatest rd_di_findGreatest rw_di_findGreatest 0 0 [mv_R 17, mv_R x, mv_R y, mv_R qq] h n
    (fun w h' n' => w = none ∧ n' = n ∧ fr_ 1 389 h h' ∧ ∃ V', pn_V h' X B V' ∧ V' qq = Nat.gcd (V x) (V y) ∧ (∀ i, i ≠ qq → i ≠ 22 → i ≠ 24 → V' i = V i)) := by
  have r22 := ro_w (p := 22) (by omega)
  have r24 := ro_w (p := 24) (by omega)
  have b18 : ∀ p, ro_ p → V p < 1073741824 ^ 18 := fun p hp => by
    have h1 := WV_N (pn_w hV hp)
    rcases rn_le p with c | c
    · rw [c] at h1
      exact Nat.lt_trans h1 (by decide +kernel)
    · rw [c] at h1
      exact h1
  refine fn_of rfl (Nat.le_of_ble_eq_true rfl) rfl ?_
  refine sd_fg_0 (pn_d17 hV) ?_
  refine cp_isZero (q := 4) l_di_36 d_di_findGreatest_1 rfl hV hx (Nat.le_of_ble_eq_true rfl) ⟨by decide, by decide, by decide, by decide⟩ ?_
  have fin : (V x = 0 ∨ V y = 0) → Go (go_f 0 0 fun w h' n' => w = none ∧ n' = n ∧ fr_ 1 389 h h' ∧ ∃ V', pn_V h' X B V' ∧ V' qq = Nat.gcd (V x) (V y) ∧ (∀ i, i ≠ qq → i ≠ 22 → i ≠ 24 → V' i = V i)) l m_di_findGreatest (go_rm rd_di_findGreatest rw_di_findGreatest 0 0) (0, 0) 14 [some (mv_R 17), some (mv_R x), some (mv_R y), some (mv_R qq), none, none, none, none, none, none] [] h n := by
    intro hc
    refine sd_fg_14 (pn_d17 hV) ?_
    refine cp_isZero (q := 19) l_di_36 d_di_findGreatest_16 rfl hV hx (Nat.le_of_ble_eq_true rfl) ⟨by decide, by decide, by decide, by decide⟩ ?_
    refine sd_fg_19 (pn_d17 hV) (by split <;> omega) (fun c => ?_) (fun c => ?_)
    · refine cp_copy (q := 30) l_di_29 d_di_findGreatest_27 rfl hV hq hx (by omega) (by rw [hq8]; exact b18 x hx) (Nat.le_of_ble_eq_true rfl) ⟨by decide, by decide, by decide, by decide⟩ (fun h1 hV1 hf1 => ?_)
      refine go_vret d_di_findGreatest_30 rfl go_le0 ⟨rfl, rfl, hf1, _, hV1, ?_, fun i i1 _ _ => va_up_ne _ _ i1⟩
      rw [va_up_self]
      by_cases d : V x = 0
      · rw [if_pos d] at c
        exact absurd c (by decide)
      · rw [show V y = 0 by omega, Nat.gcd_zero_right]
    · refine cp_copy (q := 30) l_di_29 d_di_findGreatest_27 rfl hV hq hy (by omega) (by rw [hq8]; exact b18 y hy) (Nat.le_of_ble_eq_true rfl) ⟨by decide, by decide, by decide, by decide⟩ (fun h1 hV1 hf1 => ?_)
      refine go_vret d_di_findGreatest_30 rfl go_le0 ⟨rfl, rfl, hf1, _, hV1, ?_, fun i i1 _ _ => va_up_ne _ _ i1⟩
      rw [va_up_self]
      by_cases d : V x = 0
      · rw [d, Nat.gcd_zero_left]
      · rw [if_neg d] at c
        exact absurd rfl c
  refine sd_fg_4 (pn_d17 hV) (by split <;> omega) (fun c => fin (Or.inl ?_)) (fun c => ?_)
  · by_cases d : V x = 0
    · exact d
    · rw [if_neg d] at c
      exact absurd rfl c
  have hx0 : 0 < V x := by
    by_cases d : V x = 0
    · rw [if_pos d] at c
      exact absurd c (by decide)
    · omega
  refine cp_isZero (q := 11) l_di_36 d_di_findGreatest_8 rfl hV hy (Nat.le_of_ble_eq_true rfl) ⟨by decide, by decide, by decide, by decide⟩ ?_
  refine sd_fg_11 (pn_d17 hV) (by split <;> omega) (fun c2 => ?_) (fun c2 => fin (Or.inr ?_))
  rotate_left
  · by_cases d : V y = 0
    · exact d
    · rw [if_neg d] at c2
      exact absurd rfl c2
  have hy0 : 0 < V y := by
    by_cases d : V y = 0
    · rw [if_pos d] at c2
      exact absurd c2 (by decide)
    · omega
  refine sd_fg_31 (pn_d17 hV) ?_
  refine cp_copy (q := 49) l_di_29 d_di_findGreatest_46 rfl hV r22.1 hx (by omega) (by rw [r22.2]; exact b18 x hx) (Nat.le_of_ble_eq_true rfl) ⟨by decide, by decide, by decide, by decide⟩ (fun h1 hV1 hf1 => ?_)
  refine sd_fg_49 (pn_d17 hV1) ?_
  have e1y : va_up V 22 (V x) y = V y := va_up_ne _ _ (by omega)
  refine cp_copy (q := 55) l_di_29 d_di_findGreatest_52 rfl hV1 r24.1 hy (by omega) (by rw [r24.2, e1y]; exact b18 y hy) (Nat.le_of_ble_eq_true rfl) ⟨by decide, by decide, by decide, by decide⟩ (fun h2 hV2 hf2 => ?_)
  rw [e1y] at hV2
  refine sd_fg_55 (pn_d17 hV2) ?_
  have e2x : va_up (va_up V 22 (V x)) 24 (V y) 22 = V x := by rw [va_up_ne _ _ (by omega), va_up_self]
  refine cp_dropTwos (q := 60) l_di_79 d_di_findGreatest_57 rfl hV2 r22.1 (by rw [e2x]; exact hx0) (Nat.le_of_ble_eq_true rfl) ⟨by decide, by decide, by decide, by decide⟩ (fun ta ma h3 ea1 ea2 hV3 hf3 => ?_)
  rw [e2x] at ea1
  refine sd_fg_60 (pn_d17 hV3) ?_
  have e3y : va_up (va_up (va_up V 22 (V x)) 24 (V y)) 22 (2 * ma + 1) 24 = V y := by rw [va_up_ne _ _ (by omega), va_up_self]
  refine cp_dropTwos (q := 65) l_di_79 d_di_findGreatest_62 rfl hV3 r24.1 (by rw [e3y]; exact hy0) (Nat.le_of_ble_eq_true rfl) ⟨by decide, by decide, by decide, by decide⟩ (fun tb mb h4 eb1 eb2 hV4 hf4 => ?_)
  rw [e3y] at eb1
  refine go_mmin (q := 68) tw_3_71 tw_2_134 tw_1_12 tw_2_135 d_di_findGreatest_65 rfl (by omega) (by omega) ⟨by decide, Nat.le_of_ble_eq_true rfl, by decide, by decide⟩ ?_
  obtain ⟨tw, htw⟩ : ∃ tw : Nat, tw = if tb < ta then tb else ta := ⟨_, rfl⟩
  have htw2 : (if (tb : Int) < (ta : Int) then (tb : Int) else (ta : Int)) = (tw : Int) ∧ tw < 3000 := by
    rw [htw]
    by_cases d : tb < ta
    · rw [if_pos d, if_pos (by omega)]
      omega
    · rw [if_neg d, if_neg (by omega)]
      omega
  rw [htw2.1]
  refine sd_fg_68 (pn_d17 hV4) ?_
  have e4x : va_up (va_up (va_up (va_up V 22 (V x)) 24 (V y)) 22 (2 * ma + 1)) 24 (2 * mb + 1) 22 = 2 * ma + 1 := by rw [va_up_ne _ _ (by omega), va_up_self]
  have e4y : va_up (va_up (va_up (va_up V 22 (V x)) 24 (V y)) 22 (2 * ma + 1)) 24 (2 * mb + 1) 24 = 2 * mb + 1 := va_up_self _ _ _
  have e4o : ∀ i, i ≠ 22 → i ≠ 24 → va_up (va_up (va_up (va_up V 22 (V x)) 24 (V y)) 22 (2 * ma + 1)) 24 (2 * mb + 1) i = V i := fun i i1 i2 => by rw [va_up_ne _ _ i2, va_up_ne _ _ i1, va_up_ne _ _ i2, va_up_ne _ _ i1]
  have hgcd : Nat.gcd (V x) (V y) = Nat.gcd (2 * ma + 1) (2 * mb + 1) * 2 ^ tw := by
    rw [ea1, eb1, gg_both, htw]
  have hle1 : 2 * ma + 1 ≤ V x := by
    rw [ea1]
    exact Nat.le_mul_of_pos_left _ (Nat.two_pow_pos _)
  have hle2 : 2 * mb + 1 ≤ V y := by
    rw [eb1]
    exact Nat.le_mul_of_pos_left _ (Nat.two_pow_pos _)
  have hprod : (2 * ma + 1) * (2 * mb + 1) < 2 ^ 1000 := Nat.lt_of_le_of_lt (Nat.mul_le_mul hle1 hle2) hv
  have hg18 : Nat.gcd (V x) (V y) < 1073741824 ^ 18 := Nat.lt_of_le_of_lt (Nat.gcd_le_left _ hx0) (b18 x hx)
  refine lp_fg73 (k := 0) (g := Nat.gcd (2 * ma + 1) (2 * mb + 1)) ⟨by omega, by omega⟩ r22.1 r24.1 1000 (by omega) 22 24 (by omega) hV4 (by rw [e4x]; omega) (by rw [e4y]; omega) (by rw [e4x, e4y]) (by rw [e4x, e4y]; exact hprod) (fun h5 V5 m5 e5 k5 b1 hV5 b3 b4 hf5 => ?_)
  have re5 : ro_ e5 := by rcases b1 with c | c <;> rw [c.2] <;> first | exact r22.1 | exact r24.1
  refine sd_fg_142 (pn_d17 hV5) ?_
  have hg2 : Nat.gcd (2 * ma + 1) (2 * mb + 1) ≤ Nat.gcd (V x) (V y) := by
    rw [hgcd]
    exact Nat.le_mul_of_pos_right _ (Nat.two_pow_pos _)
  refine cp_copy (q := 148) l_di_29 d_di_findGreatest_145 rfl hV5 hq re5 (by omega) (by rw [hq8, b3]; omega) (Nat.le_of_ble_eq_true rfl) ⟨by decide, by decide, by decide, by decide⟩ (fun h6 hV6 hf6 => ?_)
  refine sd_fg_148 (pn_d17 hV6) ?_
  refine lp_fg152 hq hq8 hg18 200 (tw : Int) (by omega) (by omega) hV6 (by rw [va_up_self, b3, Int.toNat_natCast]; exact hgcd.symm) (fun h7 V7 k7 hV7 c1 c2 hf7 => ?_)
  refine go_vret d_di_findGreatest_177 rfl go_le0 ⟨rfl, rfl, fr_.tr hf1 (fr_.tr hf2 (fr_.tr hf3 (fr_.tr hf4 (fr_.tr hf5 (fr_.tr hf6 hf7))))), V7, hV7, c1, fun i i1 i2 i3 => ?_⟩
  rw [c2 i i1, va_up_ne _ _ i1, b4 i i2 i3, e4o i i2 i3]
end DiGcd
