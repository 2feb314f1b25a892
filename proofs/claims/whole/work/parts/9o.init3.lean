/-! constructors: Writing, Grammar, Machine -/
section InitC
variable {φ : go_F} {l : Launch} {M : go_M} {R : Room} {h : mv_H}
theorem ti_wr {l : Launch} {h : mv_H} (hh : h 8 = mv_O 6 [mv_N, mv_N, mv_I 0]) : Fn l m_wr_init rd_wr_init rw_wr_init 3 158 [mv_R 8] h 9 (fun w h' n' => w = none ∧ n' = 12 ∧ h' 8 = mv_O 6 [mv_R 9, mv_R 10, mv_I 147] ∧ h' 9 = mv_A 2 148 (va_up (fun _ => 0) 147 48) ∧ WV h' 10 8 0 ∧ fr_ 8 4 h h') := by
  refine fn_of rfl (Nat.le_of_ble_eq_true rfl) rfl ?_
  refine go_aload_n (q := 1) d_wr_init_0 rfl rfl rfl ?_
  refine go_oinit (q := 4) tw_1_90 tw_1_32 tw_1_33 d_wr_init_1 rfl ⟨by decide, by decide⟩ ?_
  refine go_aload_n (q := 5) d_wr_init_4 rfl rfl rfl ?_
  refine go_sipush (q := 8) d_wr_init_5 rfl (by decide) ?_
  refine go_newC (N := 148) (q := 10) tw_1_58 d_wr_init_8 rfl rfl (by decide) (by decide) (by decide) (by decide) ?_
  refine go_putF (q := 13) F_wr_11 rfl d_wr_init_10 rfl ((va_up_ne _ _ (by decide)).trans hh) (Nat.le_of_ble_eq_true rfl) (go_fitA _ _) ?_
  refine go_aload_n (q := 14) d_wr_init_13 rfl rfl rfl ?_
  refine ci_wh (q := 23) (N := 8) tw_1_91 l_wr_17 d_wr_init_14 d_wr_init_17 d_wr_init_18 d_wr_init_20 rfl (Or.inl rfl) (Nat.le_of_ble_eq_true rfl) ⟨by decide, by decide⟩ (by decide) (by decide) (fun h1 v1 f1 => ?_)
  refine go_putF (q := 26) F_wr_20 rfl d_wr_init_23 rfl ((f1 _ (by omega)).trans (va_up_self _ _ _)) (Nat.le_of_ble_eq_true rfl) (go_fitR _ _) ?_
  refine go_aload_n (q := 27) d_wr_init_26 rfl rfl rfl ?_
  refine go_sipush (q := 30) d_wr_init_27 rfl (by decide) ?_
  refine go_putf (q := 33) f_wr_24 d_wr_init_30 rfl (va_up_self _ _ _) (Nat.le_of_ble_eq_true rfl) (go_fitI _) ?_
  refine go_aload_n (q := 34) d_wr_init_33 rfl rfl rfl ?_
  refine go_getf (q := 37) f_wr_11 d_wr_init_34 rfl (va_up_self _ _ _) rfl ?_
  refine go_aload_n (q := 38) d_wr_init_37 rfl rfl rfl ?_
  refine go_getf (q := 41) f_wr_24 d_wr_init_38 rfl (va_up_self _ _ _) rfl ?_
  refine go_bipush (q := 43) d_wr_init_41 rfl (by decide) ?_
  refine go_cast (N := 148) (f := fun _ => 0) (i := 147) (q := 44) d_wr_init_43 rfl (by rw [va_up_ne _ _ (by decide), va_up_ne _ _ (by decide), f1 _ (by omega), va_up_ne _ _ (by decide), va_up_self]) rfl (by decide) (by decide) ⟨by decide, by decide⟩ ?_
  refine go_vret d_wr_init_44 rfl ⟨by decide, by decide⟩ ⟨rfl, rfl, (va_up_ne _ _ (by decide)).trans (va_up_self _ _ _), va_up_self _ _ _, WV_k v1 fun j a1 a2 => ?_, fun j hj => ?_⟩
  · rw [va_up_ne _ _ (by omega), va_up_ne _ _ (by omega), va_up_ne _ _ (by omega)]
  · rw [va_up_ne _ _ (by omega), va_up_ne _ _ (by omega), va_up_ne _ _ (by omega), f1 _ (by omega), va_up_ne _ _ (by omega), va_up_ne _ _ (by omega)]
theorem ti_gr {l : Launch} {h : mv_H} (hh : h 12 = mv_O 3 [mv_N, mv_N, mv_I 0]) : Fn l m_gr_init rd_gr_init rw_gr_init 2 24 [mv_R 12] h 13 (fun w h' n' => w = none ∧ n' = 15 ∧ h' 12 = mv_O 3 [mv_R 13, mv_R 14, mv_I 0] ∧ h' 13 = mv_A 0 12 (fun _ => 0) ∧ h' 14 = mv_A 0 12 (fun _ => 0) ∧ fr_ 12 3 h h') := by
  refine fn_of rfl (Nat.le_of_ble_eq_true rfl) rfl ?_
  refine go_aload_n (q := 1) d_gr_init_0 rfl rfl rfl ?_
  refine go_oinit (q := 4) tw_1_108 tw_1_32 tw_1_33 d_gr_init_1 rfl ⟨by decide, by decide⟩ ?_
  refine go_aload_n (q := 5) d_gr_init_4 rfl rfl rfl ?_
  refine go_bipush (q := 7) d_gr_init_5 rfl (by decide) ?_
  refine go_newI (N := 12) (q := 9) tw_1_59 d_gr_init_7 rfl rfl (by decide) (by decide) (by decide) (by decide) ?_
  refine go_putF (q := 12) F_gr_9 rfl d_gr_init_9 rfl ((va_up_ne _ _ (by decide)).trans hh) (Nat.le_of_ble_eq_true rfl) (go_fitA _ _) ?_
  refine go_aload_n (q := 13) d_gr_init_12 rfl rfl rfl ?_
  refine go_bipush (q := 15) d_gr_init_13 rfl (by decide) ?_
  refine go_newI (N := 12) (q := 17) tw_1_59 d_gr_init_15 rfl rfl (by decide) (by decide) (by decide) (by decide) ?_
  refine go_putF (q := 20) F_gr_15 rfl d_gr_init_17 rfl ((va_up_ne _ _ (by decide)).trans (va_up_self _ _ _)) (Nat.le_of_ble_eq_true rfl) (go_fitA _ _) ?_
  refine go_vret d_gr_init_20 rfl ⟨by decide, by decide⟩ ⟨rfl, rfl, va_up_self _ _ _, ?_, ?_, fun j hj => ?_⟩
  · rw [va_up_ne _ _ (by decide), va_up_ne _ _ (by decide), va_up_ne _ _ (by decide), va_up_self]
  · rw [va_up_ne _ _ (by decide), va_up_self]
  · rw [va_up_ne _ _ (by omega), va_up_ne _ _ (by omega), va_up_ne _ _ (by omega), va_up_ne _ _ (by omega)]
/-- what is in place when the loops of Machine's constructor begin -/
def mi_ (h : mv_H) : Prop := h 15 = mv_O 4 [mv_R 16, mv_R 38, mv_R 39, mv_R 40, mv_R 45, mv_R 47, mv_R 48, mv_R 49, mv_I 0, mv_I 0] ∧ h 16 = mv_O 0 [mv_R 17, mv_R 26, mv_R 28, mv_R 30, mv_R 32, mv_R 34, mv_R 36] ∧ h 17 = mv_O 1 [mv_R 18, mv_R 20, mv_R 22, mv_R 24] ∧ (∀ p, 18 ≤ p → p ≤ 36 → p % 2 = 0 → WV h p 18 0) ∧ h 40 = mv_O 2 [mv_R 41, mv_R 43, mv_I 0] ∧ WV h 41 8 0 ∧ WV h 43 8 1 ∧ WV h 45 18 0 ∧ h 47 = mv_A 2 12 (fun _ => 0) ∧ h 48 = mv_A 0 12 (fun _ => 0) ∧ h 49 = mv_A 0 12 (fun _ => 0)
/-- .. and how far the loops are -/
def mj_ (h : mv_H) (k m : Nat) : Prop := mi_ h ∧ (∃ f, h 38 = mv_Q 3 8 f ∧ ∀ v, v < k → f v = some (50 + 5 * v)) ∧ (∃ f, h 39 = mv_Q 3 60 f ∧ ∀ v, v < m → f v = some (90 + 5 * v)) ∧ ∀ a, 50 ≤ a → a < 50 + 5 * (k + m) → a % 5 = 0 → h a = mv_O 2 [mv_R (a + 1), mv_R (a + 3), mv_I 0] ∧ WV h (a + 1) 8 0 ∧ WV h (a + 3) 8 1
theorem mi_k {h h' : mv_H} (hm : mi_ h) (hk : ∀ j, j < 50 → j ≠ 38 → j ≠ 39 → h' j = h j) : mi_ h' := by
  obtain ⟨c15, c16, c17, w, c40, w41, w43, w45, c47, c48, c49⟩ := hm
  refine ⟨(hk 15 (by decide) (by decide) (by decide)).trans c15, (hk 16 (by decide) (by decide) (by decide)).trans c16, (hk 17 (by decide) (by decide) (by decide)).trans c17, fun p a b c => WV_k (w p a b c) fun j a1 a2 => hk j (by omega) (by omega) (by omega), (hk 40 (by decide) (by decide) (by decide)).trans c40, WV_k w41 fun j a1 a2 => hk j (by omega) (by omega) (by omega), WV_k w43 fun j a1 a2 => hk j (by omega) (by omega) (by omega), WV_k w45 fun j a1 a2 => hk j (by omega) (by omega) (by omega), (hk 47 (by decide) (by decide) (by decide)).trans c47, (hk 48 (by decide) (by decide) (by decide)).trans c48, (hk 49 (by decide) (by decide) (by decide)).trans c49⟩
/-- one more fraction was made and put into the row at 38, or at 39 -/
theorem mj_s {h h' : mv_H} {k m b : Nat} {f : Nat → Option Nat} (hm : mj_ h k m) (hf : h 38 = mv_Q 3 8 f) (hv : ∀ v, v < k → f v = some (50 + 5 * v)) (h0 : m = 0) (hb : 50 + 5 * (k + m) = b) (e0 : h' b = mv_O 2 [mv_R (b + 1), mv_R (b + 3), mv_I 0]) (e1 : WV h' (b + 1) 8 0) (e2 : WV h' (b + 3) 8 1) (hr : fr_ b 5 h h') : mj_ (va_up h' 38 (mv_Q 3 8 (va_up f k (some b)))) (k + 1) m := by
  subst h0
  obtain ⟨m0, -, ⟨g, c1, c2⟩, m3⟩ := hm
  refine ⟨mi_k m0 fun j a1 a2 a3 => by rw [va_up_ne _ _ a2, hr _ (by omega)], ⟨_, va_up_self _ _ _, fun v hlt => ?_⟩, ⟨g, by rw [va_up_ne _ _ (by decide), hr _ (by omega)]; exact c1, c2⟩, fun a a1 a2 a3 => ?_⟩
  · by_cases e : v = k
    · subst e
      rw [va_up_self, ← hb]
      exact congrArg some (by omega)
    · rw [va_up_ne _ _ e]
      exact hv v (by omega)
  · by_cases e : a = b
    · subst e
      exact ⟨(va_up_ne _ _ (by omega)).trans e0, WV_k e1 fun j b1 b2 => va_up_ne _ _ (by omega), WV_k e2 fun j b1 b2 => va_up_ne _ _ (by omega)⟩
    · obtain ⟨d0, d1, d2⟩ := m3 a a1 (by omega) a3
      exact ⟨by rw [va_up_ne _ _ (by omega), hr _ (by omega)]; exact d0, WV_k d1 fun j b1 b2 => by rw [va_up_ne _ _ (by omega), hr _ (by omega)], WV_k d2 fun j b1 b2 => by rw [va_up_ne _ _ (by omega), hr _ (by omega)]⟩
theorem mj_t {h h' : mv_H} {k m b : Nat} {f : Nat → Option Nat} (hm : mj_ h k m) (hf : h 39 = mv_Q 3 60 f) (hv : ∀ v, v < m → f v = some (90 + 5 * v)) (h0 : k = 8) (hb : 50 + 5 * (k + m) = b) (e0 : h' b = mv_O 2 [mv_R (b + 1), mv_R (b + 3), mv_I 0]) (e1 : WV h' (b + 1) 8 0) (e2 : WV h' (b + 3) 8 1) (hr : fr_ b 5 h h') : mj_ (va_up h' 39 (mv_Q 3 60 (va_up f m (some b)))) k (m + 1) := by
  subst h0
  obtain ⟨m0, ⟨g, c1, c2⟩, -, m3⟩ := hm
  refine ⟨mi_k m0 fun j a1 a2 a3 => by rw [va_up_ne _ _ a3, hr _ (by omega)], ⟨g, by rw [va_up_ne _ _ (by decide), hr _ (by omega)]; exact c1, c2⟩, ⟨_, va_up_self _ _ _, fun v hlt => ?_⟩, fun a a1 a2 a3 => ?_⟩
  · by_cases e : v = m
    · subst e
      rw [va_up_self, ← hb]
      exact congrArg some (by omega)
    · rw [va_up_ne _ _ e]
      exact hv v (by omega)
  · by_cases e : a = b
    · subst e
      exact ⟨(va_up_ne _ _ (by omega)).trans e0, WV_k e1 fun j b1 b2 => va_up_ne _ _ (by omega), WV_k e2 fun j b1 b2 => va_up_ne _ _ (by omega)⟩
    · obtain ⟨d0, d1, d2⟩ := m3 a a1 (by omega) a3
      exact ⟨by rw [va_up_ne _ _ (by omega), hr _ (by omega)]; exact d0, WV_k d1 fun j b1 b2 => by rw [va_up_ne _ _ (by omega), hr _ (by omega)], WV_k d2 fun j b1 b2 => by rw [va_up_ne _ _ (by omega), hr _ (by omega)]⟩
theorem lp_mi1 (hR : 3 ≤ R.frames ∧ 61 ≤ R.locals) (hc : 374 ≤ R.cells) (hs : 1922 ≤ R.slots) : ∀ (k i : Nat) (h : mv_H), i + k = 8 → mj_ h i 0 →
    (∀ h', mj_ h' 8 0 → (∀ j, j < 15 → h' j = h j) → Go φ l m_ma_init R (34 + 5 * 8, 358 + 23 * 8) 108 [some (mv_R 15), some (mv_I 8)] [] h' (50 + 5 * 8)) →
    Go φ l m_ma_init R (34 + 5 * (0 + i), 358 + 23 * (0 + i)) 83 [some (mv_R 15), some (mv_I (i : Int))] [] h (50 + 5 * (0 + i)) := by
  intro k
  induction k with
  | zero =>
    intro i h hi hm kk
    obtain rfl : i = 8 := by omega
    refine go_iload_n (q := 84) d_ma_init_83 rfl rfl rfl ?_
    refine go_bipush (q := 86) d_ma_init_84 rfl (by decide) ?_
    refine go_icmp_ge (t := 108) (q := 89) d_ma_init_86 (by decide) rfl (by omega) (by omega) (fun c => kk h hm fun j _ => rfl) (fun c => absurd (show (8 : Int) ≤ ((8 : Nat) : Int) by omega) c)
  | succ k ih =>
    intro i h hi hm kk
    obtain ⟨f, hf, hv⟩ := hm.2.1
    refine go_iload_n (q := 84) d_ma_init_83 rfl rfl rfl ?_
    refine go_bipush (q := 86) d_ma_init_84 rfl (by decide) ?_
    refine go_icmp_ge (t := 108) (q := 89) d_ma_init_86 (by decide) rfl (by omega) (by omega) (fun c => absurd c (by omega)) (fun c => ?_)
    refine go_aload_n (q := 90) d_ma_init_89 rfl rfl rfl ?_
    refine go_getf (q := 93) f_ma_20 d_ma_init_90 rfl hm.1.1 rfl ?_
    refine go_iload_n (q := 94) d_ma_init_93 rfl rfl rfl ?_
    refine ci_fr (q := 101) tw_1_177 l_ma_27 d_ma_init_94 d_ma_init_97 d_ma_init_98 rfl (Nat.le_of_ble_eq_true rfl) hR (by show 34 + 5 * (0 + i) + 1 + 4 ≤ _; omega) (by show 358 + 23 * (0 + i) + 3 + 20 ≤ _; omega) (fun h1 e0 e1 e2 hr => ?_)
    refine go_aast (N := 8) (f := f) (i := i) (q := 102) d_ma_init_101 rfl ((hr _ (by omega)).trans hf) rfl (by omega) (by decide) e0 rfl ?_
    refine go_iinc (q := 105) (L' := [some (mv_R 15), some (mv_I ((i + 1 : Nat) : Int))]) d_ma_init_102 rfl (by decide) rfl rfl ?_
    refine go_goto (q := 83) d_ma_init_105 (by decide) ?_
    exact go_cu (by show (34 + 5 * (0 + i) + 1 + 4, 358 + 23 * (0 + i) + 3 + 20) = _; exact Prod.ext (by show _ = 34 + 5 * (0 + (i + 1)); omega) (by show _ = 358 + 23 * (0 + (i + 1)); omega)) (ih (i + 1) _ (by omega) (mj_s hm hf hv rfl (by omega) e0 e1 e2 hr) fun h' m' r' => kk h' m' fun j hj => (r' j hj).trans ((va_up_ne _ _ (by omega)).trans (hr j (by omega))))
theorem lp_mi2 (hR : 3 ≤ R.frames ∧ 61 ≤ R.locals) (hc : 374 ≤ R.cells) (hs : 1922 ≤ R.slots) : ∀ (k i : Nat) (h : mv_H), i + k = 60 → mj_ h 8 i →
    (∀ h', mj_ h' 8 60 → (∀ j, j < 15 → h' j = h j) → Go φ l m_ma_init R (34 + 5 * 68, 358 + 23 * 68) 135 [some (mv_R 15), some (mv_I 60)] [] h' (50 + 5 * 68)) →
    Go φ l m_ma_init R (34 + 5 * (8 + i), 358 + 23 * (8 + i)) 110 [some (mv_R 15), some (mv_I (i : Int))] [] h (50 + 5 * (8 + i)) := by
  intro k
  induction k with
  | zero =>
    intro i h hi hm kk
    obtain rfl : i = 60 := by omega
    refine go_iload_n (q := 111) d_ma_init_110 rfl rfl rfl ?_
    refine go_bipush (q := 113) d_ma_init_111 rfl (by decide) ?_
    refine go_icmp_ge (t := 135) (q := 116) d_ma_init_113 (by decide) rfl (by omega) (by omega) (fun c => kk h hm fun j _ => rfl) (fun c => absurd (show (60 : Int) ≤ ((60 : Nat) : Int) by omega) c)
  | succ k ih =>
    intro i h hi hm kk
    obtain ⟨f, hf, hv⟩ := hm.2.2.1
    refine go_iload_n (q := 111) d_ma_init_110 rfl rfl rfl ?_
    refine go_bipush (q := 113) d_ma_init_111 rfl (by decide) ?_
    refine go_icmp_ge (t := 135) (q := 116) d_ma_init_113 (by decide) rfl (by omega) (by omega) (fun c => absurd c (by omega)) (fun c => ?_)
    refine go_aload_n (q := 117) d_ma_init_116 rfl rfl rfl ?_
    refine go_getf (q := 120) f_ma_24 d_ma_init_117 rfl hm.1.1 rfl ?_
    refine go_iload_n (q := 121) d_ma_init_120 rfl rfl rfl ?_
    refine ci_fr (q := 128) tw_1_177 l_ma_27 d_ma_init_121 d_ma_init_124 d_ma_init_125 rfl (Nat.le_of_ble_eq_true rfl) hR (by show 34 + 5 * (8 + i) + 1 + 4 ≤ _; omega) (by show 358 + 23 * (8 + i) + 3 + 20 ≤ _; omega) (fun h1 e0 e1 e2 hr => ?_)
    refine go_aast (N := 60) (f := f) (i := i) (q := 129) d_ma_init_128 rfl ((hr _ (by omega)).trans hf) rfl (by omega) (by decide) e0 rfl ?_
    refine go_iinc (q := 132) (L' := [some (mv_R 15), some (mv_I ((i + 1 : Nat) : Int))]) d_ma_init_129 rfl (by decide) rfl rfl ?_
    refine go_goto (q := 110) d_ma_init_132 (by decide) ?_
    exact go_cu (by show (34 + 5 * (8 + i) + 1 + 4, 358 + 23 * (8 + i) + 3 + 20) = _; exact Prod.ext (by show _ = 34 + 5 * (8 + (i + 1)); omega) (by show _ = 358 + 23 * (8 + (i + 1)); omega)) (ih (i + 1) _ (by omega) (mj_t hm hf hv rfl (by omega) e0 e1 e2 hr) fun h' m' r' => kk h' m' fun j hj => (r' j hj).trans ((va_up_ne _ _ (by omega)).trans (hr j (by omega))))
theorem ti_ma {l : Launch} {h : mv_H} (hh : h 15 = mv_O 4 [mv_N, mv_N, mv_N, mv_N, mv_N, mv_N, mv_N, mv_N, mv_I 0, mv_I 0]) : Fn l m_ma_init rd_ma_init rw_ma_init 374 1922 [mv_R 15] h 16 (fun w h' n' => w = none ∧ n' = 390 ∧ mj_ h' 8 60 ∧ ∀ j, j < 15 → h' j = h j) := by
  refine fn_of rfl (Nat.le_of_ble_eq_true rfl) rfl ?_
  refine go_aload_n (q := 1) d_ma_init_0 rfl rfl rfl ?_
  refine go_oinit (q := 4) tw_1_124 tw_1_32 tw_1_33 d_ma_init_1 rfl ⟨by decide, by decide⟩ ?_
  refine go_aload_n (q := 5) d_ma_init_4 rfl rfl rfl ?_
  refine nw_ca (q := 8) tw_1_125 d_ma_init_5 rfl (by decide) (by decide) ?_
  refine go_dup (q := 9) d_ma_init_8 rfl rfl ?_
  refine go_callI (M' := m_ca_init) (d := rd_ca_init) (w := rw_ca_init) (mc := 21) (ms := 204) (as := []) (b := 16) (rest := [mv_R 16, mv_R 15]) (q := 12) g_ca_init rfl i_ca_init rfl l_ma_11 d_ma_init_9 rfl rfl rfl (by decide) ⟨by decide, by decide, by decide, by decide⟩ (ti_ca (va_up_self _ _ _)) ?_
  rintro w h1 n1 ⟨rfl, rfl, e16, e17, ew, f1⟩ -
  refine go_putF (q := 15) F_ma_12 rfl d_ma_init_12 rfl ((f1 _ (by omega)).trans ((va_up_ne _ _ (by omega)).trans hh)) (Nat.le_of_ble_eq_true rfl) (go_fitR _ _) ?_
  refine go_aload_n (q := 16) d_ma_init_15 rfl rfl rfl ?_
  refine go_bipush (q := 18) d_ma_init_16 rfl (by decide) ?_
  refine go_newQ (N := 8) (q := 21) tw_1_177 d_ma_init_18 rfl rfl (by decide) (by decide) (by decide) (by decide) ?_
  refine go_putF (q := 24) F_ma_20 rfl d_ma_init_21 rfl ((va_up_ne _ _ (by decide)).trans (va_up_self _ _ _)) (Nat.le_of_ble_eq_true rfl) (go_fitA _ _) ?_
  refine go_aload_n (q := 25) d_ma_init_24 rfl rfl rfl ?_
  refine go_bipush (q := 27) d_ma_init_25 rfl (by decide) ?_
  refine go_newQ (N := 60) (q := 30) tw_1_177 d_ma_init_27 rfl rfl (by decide) (by decide) (by decide) (by decide) ?_
  refine go_putF (q := 33) F_ma_24 rfl d_ma_init_30 rfl ((va_up_ne _ _ (by decide)).trans (va_up_self _ _ _)) (Nat.le_of_ble_eq_true rfl) (go_fitA _ _) ?_
  refine go_aload_n (q := 34) d_ma_init_33 rfl rfl rfl ?_
  refine ci_fr (q := 41) tw_1_177 l_ma_27 d_ma_init_34 d_ma_init_37 d_ma_init_38 rfl (Nat.le_of_ble_eq_true rfl) ⟨by decide, by decide⟩ (by decide) (by decide) (fun h2 g0 g1 g2 f2 => ?_)
  refine go_putF (q := 44) F_ma_28 rfl d_ma_init_41 rfl ((f2 _ (by omega)).trans (va_up_self _ _ _)) (Nat.le_of_ble_eq_true rfl) (go_fitR _ _) ?_
  refine go_aload_n (q := 45) d_ma_init_44 rfl rfl rfl ?_
  refine ci_wh (q := 54) (N := 18) tw_1_180 l_ma_34 d_ma_init_45 d_ma_init_48 d_ma_init_49 d_ma_init_51 rfl (Or.inr rfl) (Nat.le_of_ble_eq_true rfl) ⟨by decide, by decide⟩ (by decide) (by decide) (fun h3 v3 f3 => ?_)
  refine go_putF (q := 57) F_ma_37 rfl d_ma_init_54 rfl ((f3 _ (by omega)).trans (va_up_self _ _ _)) (Nat.le_of_ble_eq_true rfl) (go_fitR _ _) ?_
  refine go_aload_n (q := 58) d_ma_init_57 rfl rfl rfl ?_
  refine go_bipush (q := 60) d_ma_init_58 rfl (by decide) ?_
  refine go_newC (N := 12) (q := 62) tw_1_58 d_ma_init_60 rfl rfl (by decide) (by decide) (by decide) (by decide) ?_
  refine go_putF (q := 65) F_ma_41 rfl d_ma_init_62 rfl ((va_up_ne _ _ (by decide)).trans (va_up_self _ _ _)) (Nat.le_of_ble_eq_true rfl) (go_fitA _ _) ?_
  refine go_aload_n (q := 66) d_ma_init_65 rfl rfl rfl ?_
  refine go_bipush (q := 68) d_ma_init_66 rfl (by decide) ?_
  refine go_newI (N := 12) (q := 70) tw_1_59 d_ma_init_68 rfl rfl (by decide) (by decide) (by decide) (by decide) ?_
  refine go_putF (q := 73) F_ma_45 rfl d_ma_init_70 rfl ((va_up_ne _ _ (by decide)).trans (va_up_self _ _ _)) (Nat.le_of_ble_eq_true rfl) (go_fitA _ _) ?_
  refine go_aload_n (q := 74) d_ma_init_73 rfl rfl rfl ?_
  refine go_bipush (q := 76) d_ma_init_74 rfl (by decide) ?_
  refine go_newI (N := 12) (q := 78) tw_1_59 d_ma_init_76 rfl rfl (by decide) (by decide) (by decide) (by decide) ?_
  refine go_putF (q := 81) F_ma_49 rfl d_ma_init_78 rfl ((va_up_ne _ _ (by decide)).trans (va_up_self _ _ _)) (Nat.le_of_ble_eq_true rfl) (go_fitA _ _) ?_
  refine go_iconst (q := 82) d_ma_init_81 rfl ?_
  refine go_istore_n (q := 83) (L' := [some (mv_R 15), some (mv_I ((0 : Nat) : Int))]) d_ma_init_82 rfl rfl (by decide) rfl ?_
  have k3 : ∀ j, j < 47 → j ≠ 15 → ∀ a b c d e g x, va_up (va_up (va_up (va_up (va_up (va_up (va_up h3 15 a) 47 b) 15 c) 48 d) 15 e) 49 g) 15 x j = h3 j := fun j a1 a2 a b c d e g x => by rw [va_up_ne _ _ (by omega), va_up_ne _ _ (by omega), va_up_ne _ _ (by omega), va_up_ne _ _ (by omega), va_up_ne _ _ (by omega), va_up_ne _ _ (by omega), va_up_ne _ _ (by omega)]
  have k1 : ∀ j, j < 38 → j ≠ 15 → h3 j = h1 j := fun j a1 a2 => by rw [f3 _ (by omega), va_up_ne _ _ (by omega), f2 _ (by omega), va_up_ne _ _ (by omega), va_up_ne _ _ (by omega), va_up_ne _ _ (by omega), va_up_ne _ _ (by omega), va_up_ne _ _ (by omega)]
  refine lp_mi1 ⟨by decide, by decide⟩ (by decide) (by decide) 8 0 _ rfl ?_ (fun h4 m4 r4 => ?_)
  · refine ⟨⟨va_up_self _ _ _, ?_, ?_, ?_, ?_, ?_, ?_, ?_, ?_, ?_, ?_⟩, ⟨fun _ => none, ?_, fun v hv => absurd hv (by omega)⟩, ⟨fun _ => none, ?_, fun v hv => absurd hv (by omega)⟩, fun a a1 a2 => absurd a2 (by omega)⟩
    · exact (k3 16 (by decide) (by decide) _ _ _ _ _ _ _).trans ((k1 16 (by decide) (by decide)).trans e16)
    · exact (k3 17 (by decide) (by decide) _ _ _ _ _ _ _).trans ((k1 17 (by decide) (by decide)).trans e17)
    · exact fun p a1 a2 a3 => WV_k (ew p a1 a2 a3) fun j b1 b2 => (k3 j (by omega) (by omega) _ _ _ _ _ _ _).trans (k1 j (by omega) (by omega))
    · exact (k3 40 (by decide) (by decide) _ _ _ _ _ _ _).trans ((f3 _ (by omega)).trans ((va_up_ne _ _ (by decide)).trans g0))
    · exact WV_k g1 fun j b1 b2 => (k3 j (by omega) (by omega) _ _ _ _ _ _ _).trans ((f3 _ (by omega)).trans (va_up_ne _ _ (by omega)))
    · exact WV_k g2 fun j b1 b2 => (k3 j (by omega) (by omega) _ _ _ _ _ _ _).trans ((f3 _ (by omega)).trans (va_up_ne _ _ (by omega)))
    · exact WV_k v3 fun j b1 b2 => k3 j (by omega) (by omega) _ _ _ _ _ _ _
    · rw [va_up_ne _ _ (by decide), va_up_ne _ _ (by decide), va_up_ne _ _ (by decide), va_up_ne _ _ (by decide), va_up_ne _ _ (by decide), va_up_self]
    · rw [va_up_ne _ _ (by decide), va_up_ne _ _ (by decide), va_up_ne _ _ (by decide), va_up_self]
    · rw [va_up_ne _ _ (by decide), va_up_self]
    · rw [k3 38 (by decide) (by decide), f3 _ (by omega), va_up_ne _ _ (by decide), f2 _ (by omega), va_up_ne _ _ (by decide), va_up_ne _ _ (by decide), va_up_ne _ _ (by decide), va_up_self]
    · rw [k3 39 (by decide) (by decide), f3 _ (by omega), va_up_ne _ _ (by decide), f2 _ (by omega), va_up_ne _ _ (by decide), va_up_self]
  refine go_iconst (q := 109) d_ma_init_108 rfl ?_
  refine go_istore_n (q := 110) (L' := [some (mv_R 15), some (mv_I ((0 : Nat) : Int))]) d_ma_init_109 rfl rfl (by decide) rfl ?_
  refine lp_mi2 ⟨by decide, by decide⟩ (by decide) (by decide) 60 0 _ rfl m4 (fun h5 m5 r5 => ?_)
  refine go_vret d_ma_init_135 rfl ⟨by decide, by decide⟩ ⟨rfl, rfl, m5, fun j hj => ?_⟩
  rw [r5 j hj, r4 j hj, k3 j (by omega) (by omega), k1 j (by omega) (by omega), f1 _ (by omega), va_up_ne _ _ (by omega)]
end InitC
