/-! constructors: PromotedNumbers, the model -/
section InitD
variable {φ : go_F} {l : Launch} {M : go_M} {R : Room} {h : mv_H}
def i0_ : Nat → Int := fun i => if i = 1 then -1 else if i = 2 then 147 else 0
def v0_ : Nat → Nat := fun p => if p = 6 ∨ p = 43 ∨ (50 ≤ p ∧ p % 5 = 3) then 1 else 0
theorem k0_ {a : Nat} (ha : fa_ a) : kq_ (fun _ => 0) v0_ a = (0, 0, 1) ∧ wf_ (fun _ => 0) v0_ a := by
  have e1 : v0_ (a + 1) = 0 := if_neg (by unfold fa_ at ha; omega)
  have e3 : v0_ (a + 3) = 1 := if_pos (by unfold fa_ at ha; omega)
  have e : kq_ (fun _ => 0) v0_ a = (0, 0, 1) := by
    unfold kq_
    rw [e1, e3]
    rfl
  refine ⟨e, ?_, fun _ => rfl⟩
  rw [e]
  exact ⟨⟨by decide, by decide⟩, ⟨fun _ => rfl, fun _ => rfl⟩, by decide, by decide⟩
theorem wr0_ : wrv_ 147 (va_up (fun _ => 0) 147 48) (0, 0, 1) := by
  refine ⟨1, 1, ⟨by decide, by decide, Or.inl rfl⟩, ⟨by decide, by decide, Or.inl rfl⟩, by decide, by decide, by decide, fun j hj => ?_⟩
  obtain rfl : j = 0 := by
    have : j < 1 := hj
    omega
  decide
theorem ti_pn {l : Launch} {h : mv_H} (hh : h 1 = mv_O 7 [mv_N, mv_I 0, mv_I 0, mv_N, mv_N, mv_N, mv_N]) : Fn l m_pn_init rd_pn_init rw_pn_init 388 2263 [mv_R 1] h 2 (fun w h' n' => w = none ∧ n' = 390 ∧ rc_ h' 0 (fun _ => 0) (-1) (0, 0, 1) (fun _ => (0, 0, 1)) (fun _ => 0) (fun _ => 0) ∧ h' 0 = h 0) := by
  refine fn_of rfl (Nat.le_of_ble_eq_true rfl) rfl ?_
  refine go_aload_n (q := 1) d_pn_init_0 rfl rfl rfl ?_
  refine go_oinit (q := 4) tw_1_31 tw_1_32 tw_1_33 d_pn_init_1 rfl ⟨by decide, by decide⟩ ?_
  refine go_aload_n (q := 5) d_pn_init_4 rfl rfl rfl ?_
  refine go_bipush (q := 7) d_pn_init_5 rfl (by decide) ?_
  refine go_newC (N := 120) (q := 9) tw_1_58 d_pn_init_7 rfl rfl (by decide) (by decide) (by decide) (by decide) ?_
  refine go_putF (q := 12) F_pn_9 rfl d_pn_init_9 rfl ((va_up_ne _ _ (by decide)).trans hh) (Nat.le_of_ble_eq_true rfl) (go_fitA _ _) ?_
  refine go_aload_n (q := 13) d_pn_init_12 rfl rfl rfl ?_
  refine go_iconst (q := 14) d_pn_init_13 rfl ?_
  refine go_putf (q := 17) f_pn_13 d_pn_init_14 rfl (va_up_self _ _ _) (Nat.le_of_ble_eq_true rfl) (go_fitI _) ?_
  refine go_aload_n (q := 18) d_pn_init_17 rfl rfl rfl ?_
  refine ci_fr (q := 25) tw_1_34 l_pn_19 d_pn_init_18 d_pn_init_21 d_pn_init_22 rfl (Nat.le_of_ble_eq_true rfl) ⟨by decide, by decide⟩ (by decide) (by decide) (fun h1 g0 g1 g2 f1 => ?_)
  refine go_putF (q := 28) F_pn_20 rfl d_pn_init_25 rfl ((f1 _ (by omega)).trans (va_up_self _ _ _)) (Nat.le_of_ble_eq_true rfl) (go_fitR _ _) ?_
  refine go_aload_n (q := 29) d_pn_init_28 rfl rfl rfl ?_
  refine nw_wr (q := 32) tw_1_85 d_pn_init_29 rfl (by decide) (by decide) ?_
  refine go_dup (q := 33) d_pn_init_32 rfl rfl ?_
  refine go_callI (M' := m_wr_init) (d := rd_wr_init) (w := rw_wr_init) (mc := 3) (ms := 158) (as := []) (b := 8) (rest := [mv_R 8, mv_R 1]) (q := 36) g_wr_init rfl i_wr_init rfl l_pn_26 d_pn_init_33 rfl rfl rfl (by decide) ⟨by decide, by decide, by decide, by decide⟩ (ti_wr (va_up_self _ _ _)) ?_
  rintro w h2 n2 ⟨rfl, rfl, e8, e9, e10, f2⟩ -
  refine go_putF (q := 39) F_pn_27 rfl d_pn_init_36 rfl ((f2 _ (by omega)).trans ((va_up_ne _ _ (by decide)).trans (va_up_self _ _ _))) (Nat.le_of_ble_eq_true rfl) (go_fitR _ _) ?_
  refine go_aload_n (q := 40) d_pn_init_39 rfl rfl rfl ?_
  refine nw_gr (q := 43) tw_1_103 d_pn_init_40 rfl (by decide) (by decide) ?_
  refine go_dup (q := 44) d_pn_init_43 rfl rfl ?_
  refine go_callI (M' := m_gr_init) (d := rd_gr_init) (w := rw_gr_init) (mc := 2) (ms := 24) (as := []) (b := 12) (rest := [mv_R 12, mv_R 1]) (q := 47) g_gr_init rfl i_gr_init rfl l_pn_33 d_pn_init_44 rfl rfl rfl (by decide) ⟨by decide, by decide, by decide, by decide⟩ (ti_gr (va_up_self _ _ _)) ?_
  rintro w h3 n3 ⟨rfl, rfl, e12, e13, e14, f3⟩ -
  refine go_putF (q := 50) F_pn_34 rfl d_pn_init_47 rfl ((f3 _ (by omega)).trans ((va_up_ne _ _ (by decide)).trans (va_up_self _ _ _))) (Nat.le_of_ble_eq_true rfl) (go_fitR _ _) ?_
  refine go_aload_n (q := 51) d_pn_init_50 rfl rfl rfl ?_
  refine nw_ma (q := 54) tw_1_119 d_pn_init_51 rfl (by decide) (by decide) ?_
  refine go_dup (q := 55) d_pn_init_54 rfl rfl ?_
  refine go_callI (M' := m_ma_init) (d := rd_ma_init) (w := rw_ma_init) (mc := 374) (ms := 1922) (as := []) (b := 15) (rest := [mv_R 15, mv_R 1]) (q := 58) g_ma_init rfl i_ma_init rfl l_pn_40 d_pn_init_55 rfl rfl rfl (by decide) ⟨by decide, by decide, by decide, by decide⟩ (ti_ma (va_up_self _ _ _)) ?_
  rintro w h4 n4 ⟨rfl, rfl, m4, f4⟩ -
  refine go_putF (q := 61) F_pn_41 rfl d_pn_init_58 rfl ((f4 _ (by omega)).trans ((va_up_ne _ _ (by decide)).trans (va_up_self _ _ _))) (Nat.le_of_ble_eq_true rfl) (go_fitR _ _) ?_
  obtain ⟨⟨c15, c16, c17, w18, c40, w41, w43, w45, c47, c48, c49⟩, q38, q39, mf⟩ := m4
  have k4 : ∀ j, j < 15 → j ≠ 1 → ∀ x, va_up h4 1 x j = h3 j := fun j a1 a2 x => by rw [va_up_ne _ _ a2, f4 j a1, va_up_ne _ _ (by omega), va_up_ne _ _ (by omega)]
  have k3 : ∀ j, j < 12 → j ≠ 1 → h3 j = h2 j := fun j a1 a2 => by rw [f3 j (by omega), va_up_ne _ _ (by omega), va_up_ne _ _ (by omega)]
  have k2 : ∀ j, j < 8 → j ≠ 1 → h2 j = h1 j := fun j a1 a2 => by rw [f2 j (by omega), va_up_ne _ _ (by omega), va_up_ne _ _ (by omega)]
  have kn : ∀ j, j ≠ 1 → ∀ x, va_up h4 1 x j = h4 j := fun j a x => va_up_ne _ _ a
  refine go_vret d_pn_init_61 rfl ⟨by decide, by decide⟩ ⟨rfl, rfl, ⟨i0_, va_up (fun _ => 0) 147 48, fun _ => 0, fun _ => 0, fun _ => 0, fun _ => 0, v0_, ⟨⟨va_up_self _ _ _, ?_, ?_, ?_, ?_, ?_, ?_, ?_, ?_, ?_, ?_, ?_, ?_, ?_, ?_, ?_⟩, fun _ => ⟨show (0 : Int) ≤ 0 by decide, show (0 : Int) ≤ 1 by decide⟩, ?_⟩, rfl, rfl, fun _ => ⟨show (0 : Int) ≤ 0 by decide, show (0 : Int) ≤ 12 by decide⟩, fun _ => ⟨show (0 : Int) ≤ 0 by decide, show (0 : Int) ≤ 120 by decide⟩, (k0_ fa_r).1, (k0_ fa_r).2, wr0_, fun v hv => k0_ (fa_v hv)⟩, ?_⟩
  · rw [k4 2 (by decide) (by decide), k3 2 (by decide) (by decide), k2 2 (by decide) (by decide), f1 2 (by omega), va_up_ne _ _ (by decide), va_up_ne _ _ (by decide), va_up_self]
  · exact (k4 8 (by decide) (by decide) _).trans ((k3 8 (by decide) (by decide)).trans e8)
  · exact (k4 9 (by decide) (by decide) _).trans ((k3 9 (by decide) (by decide)).trans e9)
  · exact (k4 12 (by decide) (by decide) _).trans e12
  · exact (k4 13 (by decide) (by decide) _).trans e13
  · exact (k4 14 (by decide) (by decide) _).trans e14
  · exact (kn 15 (by decide) _).trans c15
  · exact (kn 16 (by decide) _).trans c16
  · exact (kn 17 (by decide) _).trans c17
  · exact (kn 47 (by decide) _).trans c47
  · exact (kn 48 (by decide) _).trans c48
  · exact (kn 49 (by decide) _).trans c49
  · obtain ⟨f, b1, b2⟩ := q38
    exact ⟨f, (kn 38 (by decide) _).trans b1, b2⟩
  · obtain ⟨f, b1, b2⟩ := q39
    exact ⟨f, (kn 39 (by decide) _).trans b1, b2⟩
  · intro a ha
    rcases ha with rfl | rfl | ⟨a1, a2, a3⟩
    · exact (k4 3 (by decide) (by decide) _).trans ((k3 3 (by decide) (by decide)).trans ((k2 3 (by decide) (by decide)).trans g0))
    · exact (kn 40 (by decide) _).trans c40
    · exact (kn a (by omega) _).trans (mf a a1 (by omega) a3).1
  · intro p hp
    have u0 : ∀ {q : Nat}, ¬ (q = 6 ∨ q = 43 ∨ (50 ≤ q ∧ q % 5 = 3)) → v0_ q = 0 := fun h => if_neg h
    have u1 : ∀ {q : Nat}, (q = 6 ∨ q = 43 ∨ (50 ≤ q ∧ q % 5 = 3)) → v0_ q = 1 := fun h => if_pos h
    rcases hp with rfl | rfl | rfl | ⟨a1, a2, a3⟩ | rfl | rfl | rfl | ⟨a1, a2, a3⟩
    · exact WV_k g1 fun j b1 b2 => (k4 j (by omega) (by omega) _).trans ((k3 j (by omega) (by omega)).trans (k2 j (by omega) (by omega)))
    · exact WV_k g2 fun j b1 b2 => (k4 j (by omega) (by omega) _).trans ((k3 j (by omega) (by omega)).trans (k2 j (by omega) (by omega)))
    · exact WV_k e10 fun j b1 b2 => (k4 j (by omega) (by omega) _).trans (k3 j (by omega) (by omega))
    · rw [u0 (by omega), show rn_ p = 18 from if_pos (by omega)]
      exact WV_k (w18 p a1 a2 a3) fun j b1 b2 => kn j (by omega) _
    · exact WV_k w41 fun j b1 b2 => kn j (by omega) _
    · exact WV_k w43 fun j b1 b2 => kn j (by omega) _
    · exact WV_k w45 fun j b1 b2 => kn j (by omega) _
    · rw [show rn_ p = 8 from if_neg (by omega)]
      rcases a3 with a3 | a3
      · rw [u0 (by omega)]
        have := (mf (p - 1) (by omega) (by omega) (by omega)).2.1
        rw [show p - 1 + 1 = p by omega] at this
        exact WV_k this fun j b1 b2 => kn j (by omega) _
      · rw [u1 (by omega)]
        have := (mf (p - 3) (by omega) (by omega) (by omega)).2.2
        rw [show p - 3 + 3 = p by omega] at this
        exact WV_k this fun j b1 b2 => kn j (by omega) _
  · rw [k4 0 (by decide) (by decide), k3 0 (by decide) (by decide), k2 0 (by decide) (by decide), f1 0 (by omega), va_up_ne _ _ (by decide), va_up_ne _ _ (by decide), va_up_ne _ _ (by decide)]
end InitD
