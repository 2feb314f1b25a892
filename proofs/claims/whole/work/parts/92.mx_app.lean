/-! the model's power and apply -/
section MxApp
variable {φ : go_F} {l : Launch} {h : mv_H} {n o : Nat} {I tx S ps cs bs : Nat → Int} {V : Nat → Nat}
theorem lp_pw {b t : Nat} {x : qv_} {F : Nat → qv_} {h0 : mv_H} {S0 : Nat → Int} {V0 : Nat → Nat} {r : Int × qv_} (hF : ∀ j, F j = x) (hx : q_in x) (hb : b < 59) (ht : t ≤ 64) (hL : V0 158 = 2 ^ 240) :
    ∀ (d i j : Nat) (h : mv_H) (S : Nat → Int) (V : Nat → Nat), i + d = t → mo_V h o (I, tx, S, ps, cs, bs) V → fr_ o 8 h0 h → (∀ i, i < 73 → S i = S0 i) → (∀ i, -1 ≤ S i ∧ S i ≤ 1) → (∀ i, (i < 146 ∨ 158 ≤ i) → V i = V0 i) → q_at S V 74 = x → q_in (q_at S V 73) → r = q_run 42 F d j (q_at S V 73) →
      Go (go_f 0 0 (aq_ h0 n o I tx S0 ps cs bs V0 b r)) l m_mo_power (go_rm rd_mo_power rw_mo_power 0 0) (0, 0) 86 [some (mv_R o), some (mv_I (b : Int)), some (mv_I ((b : Int) + 1)), some (mv_I (t : Int)), some (mv_I 0), some (mv_I (i : Int))] [] h n := by
  have fin : ∀ (h : mv_H) (S : Nat → Int) (V : Nat → Nat) (f : Int) (i : Nat), mo_V h o (I, tx, S, ps, cs, bs) V → fr_ o 8 h0 h → (∀ i, i < 73 → S i = S0 i) → (∀ i, -1 ≤ S i ∧ S i ≤ 1) → (∀ i, (i < 146 ∨ 158 ≤ i) → V i = V0 i) → r.1 = f → (r.1 = 0 → q_at S V 73 = r.2) →
      Go (go_f 0 0 (aq_ h0 n o I tx S0 ps cs bs V0 b r)) l m_mo_power (go_rm rd_mo_power rw_mo_power 0 0) (0, 0) 113 [some (mv_R o), some (mv_I (b : Int)), some (mv_I ((b : Int) + 1)), some (mv_I (t : Int)), some (mv_I f), some (mv_I (i : Int))] [] h n := by
    intro h S V f i hV hf hS hR hW hr hq
    refine so_pw_113 hV hb (fun h1 hV1 hf1 => ?_)
    refine go_iret d_mo_power_122 rfl go_le0 ⟨by rw [hr], rfl, hf.tr hf1, _, _, hV1, ⟨fun i i1 i2 => by rw [va_up_ne _ _ i1]; exact hS i i2, sr_up hR (hR 73), fun i i1 i2 i3 => by rw [va_up_ne _ _ i2, va_up_ne _ _ i1]; exact hW i i3⟩, fun z => ?_⟩
    rw [q_at_up]
    exact hq z
  intro d
  induction d with
  | zero =>
    intro i j h S V hi hV hf hS hR hW hx4 hq hr
    refine so_pw_86 hV hb ⟨ht, by omega⟩ (by decide) (fun _ => ?_) (fun z => by omega) (fun z => by omega)
    exact fin h S V 0 i hV hf hS hR hW (by rw [hr]; rfl) (fun _ => by rw [hr]; rfl)
  | succ d ih =>
    intro i j h S V hi hV hf hS hR hW hx4 hq hr
    have hLL : V 158 = 2 ^ 240 := (hW 158 (by omega)).trans hL
    have hq2 : q_in (q_at S V 74) := by rw [hx4]; exact hx
    have e : q_run 42 F (d + 1) j (q_at S V 73) = if q_bg (q_mul (q_at S V 73) (F j)) = 0 then q_run 42 F d (j + 1) (q_mul (q_at S V 73) (F j)) else (q_bg (q_mul (q_at S V 73) (F j)), q_at S V 73) := rfl
    rw [e, hF, ← hx4] at hr
    obtain ⟨fs, hob⟩ := mo_Vob hV
    refine so_pw_86 hV hb ⟨ht, by omega⟩ (by decide) (fun z => by omega) (fun _ z => absurd rfl z) (fun _ _ => ?_)
    refine go_callV (M' := m_mo_product) (d := rd_mo_product) (w := rw_mo_product) (mc := 0) (ms := 0) (as := [mv_I 73, mv_I 74]) (b := o) (rest := []) (q := 105) g_mo_product i_mo_product v_mo_product l_mo_170 d_mo_power_102 rfl rfl rfl hob rfl (by decide) ⟨by decide, by decide, by decide, by decide⟩ (tm_product (v := 73) (w := 74) hV (by decide) (by decide) hLL hR hq hq2) ?_
    rintro w h1 n1 ⟨rfl, rfl, hf1, S1, V1, hV1, hu⟩ -
    refine go_u0 (so_pw_105 hV1 ?_)
    rw [show ((i : Int) + 1) = ((i + 1 : Nat) : Int) by omega]
    have hqm := q_mul_ok hq.1 hq2.1
    have e73 := q_at_q hu
    obtain ⟨u1, u2, u3, u4⟩ := hu
    have hS2 : ∀ i, i < 73 → S1 i = S0 i := fun i hi => by rw [u1, va_up_ne _ _ (by omega)]; exact hS i hi
    have hR2 : ∀ i, -1 ≤ S1 i ∧ S1 i ≤ 1 := by rw [u1]; exact sr_up hR hqm.1
    have hW2 : ∀ i, (i < 146 ∨ 158 ≤ i) → V1 i = V0 i := fun i hi => (u4 i (by omega) (by omega) (by omega)).trans (hW i hi)
    by_cases c0 : q_bg (q_mul (q_at S V 73) (q_at S V 74)) = 0
    · rw [if_pos c0] at hr
      rw [c0]
      refine ih (i + 1) (j + 1) h1 S1 V1 (by omega) hV1 (hf.tr hf1) hS2 hR2 hW2 ?_ ?_ ?_
      · rw [← hx4]
        exact q_at_ext (by rw [u1, va_up_ne _ _ (by decide)]) (u4 _ (by decide) (by decide) (by decide)) (u4 _ (by decide) (by decide) (by decide))
      · rw [e73]
        exact ⟨hqm, q_bg0 c0⟩
      · rw [hr, e73]
    · rw [if_neg c0] at hr
      have hb3 := q_bgb (q_mul (q_at S V 73) (q_at S V 74))
      have f2 := fin h1 S1 V1 (q_bg (q_mul (q_at S V 73) (q_at S V 74))) (i + 1) hV1 (hf.tr hf1) hS2 hR2 hW2 (by rw [hr]) (fun z => absurd z (by rw [hr]; exact c0))
      exact so_pw_86 hV1 hb ⟨ht, by omega⟩ (by omega) (fun _ => f2) (fun _ _ => f2) (fun _ z => absurd z c0)
theorem tm_power {b : Nat} {g : Nat → qv_} (hV : mo_V h o (I, tx, S, ps, cs, bs) V) (hb : b < 59) (hL : V 158 = 2 ^ 240) (hS : ∀ i, -1 ≤ S i ∧ S i ≤ 1) (hg : ∀ j, j < 2 → q_at S V (b + j) = g j ∧ q_in (g j)) :
    Fn l m_mo_power rd_mo_power rw_mo_power 0 0 [mv_R o, mv_I (b : Int)] h n (aq_ h n o I tx S ps cs bs V b (q_app 94 2 g)) := by
  refine fn_of rfl (Nat.le_of_ble_eq_true rfl) rfl ?_
  obtain ⟨g1, g2⟩ := hg 0 (by decide)
  obtain ⟨k1, k2⟩ := hg 1 (by decide)
  have y1 : (g 1).1 = S (b + 1) := by rw [← k1]; rfl
  have y2 : (g 1).2.1 = V (2 * (b + 1)) := by rw [← k1]; rfl
  have y3 : (g 1).2.2 = V (2 * (b + 1) + 1) := by rw [← k1]; rfl
  have ea : q_app 94 2 g = if (g 1).2.2 = 1 ∧ 0 ≤ (g 1).1 ∧ (g 1).2.1 ≤ 64 then q_run 42 (fun _ => g 0) (g 1).2.1 0 (q_sm 1) else (3, g 0) := rfl
  have bad : ¬ ((g 1).2.2 = 1 ∧ 0 ≤ (g 1).1 ∧ (g 1).2.1 ≤ 64) → ∀ z, Go (go_f 0 0 (aq_ h n o I tx S ps cs bs V b (q_app 94 2 g))) l m_mo_power (go_rm rd_mo_power rw_mo_power 0 0) (0, 0) 64 [some (mv_R o), some (mv_I (b : Int)), some (mv_I ((b : Int) + 1)), some (mv_I z), none, none] [] h n := fun hn z => by
    rw [ea, if_neg hn]
    exact so_pw_64 hV (go_iret d_mo_power_65 rfl go_le0 ⟨rfl, rfl, fr_.rf, S, V, hV, ⟨fun _ _ _ => rfl, hS, fun _ _ _ _ => rfl⟩, fun z => absurd z (show ¬ (3 : Int) = 0 by decide)⟩)
  -- from 28 on, with the lowest digit
  have r28 : ∀ z : Int, (0 ≤ z ∧ z ≤ 9999) → (V (2 * (b + 1)) < 10000 → z = (V (2 * (b + 1)) : Int)) → Go (go_f 0 0 (aq_ h n o I tx S ps cs bs V b (q_app 94 2 g))) l m_mo_power (go_rm rd_mo_power rw_mo_power 0 0) (0, 0) 28 [some (mv_R o), some (mv_I (b : Int)), some (mv_I ((b : Int) + 1)), none, none, none] [mv_I z] h n := by
    intro z hz hzv
    refine so_pw_28 hV hb hS (fun c1 => bad (fun y => c1 (by rw [← y3]; exact y.1)) _) (fun c1 c2 => bad (fun y => by have := y.2.1; omega) _) (fun c1 c2 => ?_)
    obtain ⟨D, U, hm, hM⟩ := id hV
    have hU := hM.2.1 (2 * (b + 1))
    have hrw := hM.2.2 (2 * (b + 1)) (by omega)
    refine go_aload_n (q := 47) d_mo_power_46 rfl rfl rfl ?_
    refine go_getf (q := 50) f_mo_20 d_mo_power_47 rfl (MD_c0 hm) rfl ?_
    refine go_iconst (q := 51) d_mo_power_50 rfl ?_
    refine go_iload_n (q := 52) d_mo_power_51 rfl rfl rfl ?_
    refine go_imul (q := 53) d_mo_power_52 rfl ?_
    refine go_iald (i := 2 * (b + 1)) (q := 54) d_mo_power_53 rfl (MD_c3 hm) (by omega) (by omega) (by omega) ?_
    refine go_iconst (q := 55) d_mo_power_54 rfl ?_
    refine go_icmp_gt (t := 64) (q := 58) d_mo_power_55 (by decide) rfl (by omega) (by omega) (fun c3 => ?_) (fun c3 => ?_)
    · refine bad (fun y => ?_) _
      have hge := mo_ge hM.1 hU hrw (by omega)
      have h1 : (10000 : Nat) ^ 1 ≤ 10000 ^ ((U (2 * (b + 1))).toNat - 1) := Nat.pow_le_pow_right (by decide) (by omega)
      have := y.2.2
      omega
    · have hext := mo_ext (k := 1) hrw (by decide) (by omega)
      have hlt : V (2 * (b + 1)) < 10000 := by
        rw [← hext]
        exact Nat.lt_of_lt_of_le (nv_lt (fun k _ => by have := hM.1 (40 * (2 * (b + 1)) + k); omega)) (Nat.le_refl _)
      rw [hzv hlt]
      refine so_pw_58 hV hb (by omega) (fun c4 h1 hV1 hf1 => ?_) (fun c4 => bad (fun y => by have := y.2.2; omega) _)
      have e74 : q_at (va_up (va_up S 73 1) 74 ((va_up S 73 1) b)) (va_up (va_up (va_up (va_up V (2 * 73) 1) (2 * 73 + 1) 1) (2 * 74) (V (2 * b))) (2 * 74 + 1) (V (2 * b + 1))) 74 = g 0 := by
        rw [q_at_up, va_up_ne _ _ (by omega)]
        exact g1
      have e73 : q_at (va_up (va_up S 73 1) 74 ((va_up S 73 1) b)) (va_up (va_up (va_up (va_up V (2 * 73) 1) (2 * 73 + 1) 1) (2 * 74) (V (2 * b))) (2 * 74 + 1) (V (2 * b + 1))) 73 = q_sm 1 := by
        unfold q_at
        rw [va_up_ne _ _ (by decide), va_up_self, va_up_ne _ _ (by decide), va_up_ne _ _ (by decide), va_up_ne _ _ (by decide), va_up_self, va_up_ne _ _ (by decide), va_up_ne _ _ (by decide), va_up_self]
        rfl
      rw [ea, if_pos ⟨by rw [y3]; exact c1, by omega, by omega⟩]
      refine lp_pw (F := fun _ => g 0) (fun _ => rfl) g2 hb (by omega) hL _ 0 0 h1 _ _ (Nat.zero_add _) hV1 hf1 (fun i hi => by rw [va_up_ne _ _ (by omega), va_up_ne _ _ (by omega)]) (sr_up (sr_up hS (by decide)) (sr_up hS (by decide) b)) (fun i hi => by rw [va_up_ne _ _ (by omega), va_up_ne _ _ (by omega), va_up_ne _ _ (by omega), va_up_ne _ _ (by omega)]) e74 (by rw [e73]; exact q_sm_in (by decide)) ?_
      rw [e73, y2]
  refine so_pw_0 hV hb (fun c0 => ?_) (fun c0 => r28 0 (by decide) (fun _ => by rw [c0]; rfl))
  obtain ⟨D, U, hm, hM⟩ := id hV
  have hU := hM.2.1 (2 * (b + 1))
  have hrw := hM.2.2 (2 * (b + 1)) (by omega)
  refine go_aload_n (q := 20) d_mo_power_19 rfl rfl rfl ?_
  refine go_getf (q := 23) f_mo_17 d_mo_power_20 rfl (MD_c0 hm) rfl ?_
  refine go_bipush (q := 25) d_mo_power_23 rfl (by decide) ?_
  refine go_iload_n (q := 26) d_mo_power_25 rfl rfl rfl ?_
  refine go_imul (q := 27) d_mo_power_26 rfl ?_
  refine go_iald (i := 80 * (b + 1)) (q := 28) d_mo_power_27 rfl (MD_c2 hm) (by omega) (by omega) (by omega) ?_
  have hD := hM.1 (80 * (b + 1))
  refine r28 _ hD (fun hlt => ?_)
  have hU1 : U (2 * (b + 1)) ≤ 1 := by
    by_cases c : U (2 * (b + 1)) ≤ 1
    · exact c
    · have hge := mo_ge hM.1 hU hrw (by omega)
      have h1 : (10000 : Nat) ^ 1 ≤ 10000 ^ ((U (2 * (b + 1))).toNat - 1) := Nat.pow_le_pow_right (by decide) (by omega)
      omega
  have hext := mo_ext (k := 1) hrw (by decide) (by omega)
  have e1 : nv 10000 (fun i => (D (40 * (2 * (b + 1)) + i)).toNat) 1 = (D (40 * (2 * (b + 1)) + 0)).toNat := by
    show 0 + (D (40 * (2 * (b + 1)) + 0)).toNat * 10000 ^ 0 = _
    omega
  rw [e1, show 40 * (2 * (b + 1)) + 0 = 80 * (b + 1) by omega] at hext
  omega
theorem tm_apply {c : Int} {b x : Nat} {g : Nat → qv_} (hV : mo_V h o (I, tx, S, ps, cs, bs) V) (hb : b < 60 ∧ b + x ≤ 60) (ha : ar_ c x) (hL : V 158 = 2 ^ 240) (hS : ∀ i, -1 ≤ S i ∧ S i ≤ 1) (hg : ∀ j, j < x → q_at S V (b + j) = g j ∧ q_in (g j)) :
    Fn l m_mo_apply rd_mo_apply rw_mo_apply 0 0 [mv_R o, mv_I c, mv_I (b : Int), mv_I (x : Int)] h n (aq_ h n o I tx S ps cs bs V b (q_app c x g)) := by
  refine fn_of rfl (Nat.le_of_ble_eq_true rfl) rfl ?_
  have hc7 : 0 ≤ c ∧ c ≤ 127 := by unfold ar_ at ha; omega
  obtain ⟨fs, hob⟩ := mo_Vob hV
  have ret : ∀ (pc : Nat) (r : Int × qv_) (w : Option mv_V) (h1 : mv_H) (n1 : Nat) (L : List (Option mv_V)), decode b_mo_apply pc = .ok (.ireturn, 1) → q_app c x g = r → aq_ h n o I tx S ps cs bs V b r w h1 n1 → Go (go_f 0 0 (aq_ h n o I tx S ps cs bs V b (q_app c x g))) l m_mo_apply (go_rm rd_mo_apply rw_mo_apply 0 0) (0, 0) pc L (w.toList ++ []) h1 n1 := by
    intro pc r w h1 n1 L hd e hk
    rw [e]
    obtain ⟨rfl, hk2⟩ := hk
    exact go_iret hd rfl go_le0 ⟨rfl, hk2⟩
  refine go_iload_n (q := 1) d_mo_apply_0 rfl rfl rfl ?_
  by_cases c1 : c = 43
  · subst c1
    refine go_lsw (d := 100) (a := 43) (off := 99) d_mo_apply_1 (by decide) (by decide) rfl (by decide) (so_ap_100 hV hb.1 (by omega) hc7 ?_)
    refine go_callV (M' := m_mo_chain) (d := rd_mo_chain) (w := rw_mo_chain) (mc := 0) (ms := 0) (as := [mv_I (b : Int), mv_I (x : Int), mv_I 0, mv_I 0, mv_I 43]) (b := o) (rest := []) (q := 109) g_mo_chain i_mo_chain v_mo_chain l_mo_147 d_mo_apply_106 rfl rfl rfl hob rfl (by decide) ⟨by decide, by decide, by decide, by decide⟩ (tm_chain (fm := 0) (fi := 0) hV hb (by decide) hL hS hg (Or.inl rfl) (by decide)) ?_
    intro w h1 n1 hk _
    refine go_u0 (ret 109 _ w h1 n1 _ d_mo_apply_109 ?_ hk)
    unfold q_app
    rw [if_neg (by decide), if_neg (fun z => z.2 (Or.inl rfl)), if_neg (by decide)]
    rfl
  by_cases c2 : c = 42
  · subst c2
    refine go_lsw (d := 110) (a := 42) (off := 109) d_mo_apply_1 (by decide) (by decide) rfl (by decide) (so_ap_110 hV hb.1 (by omega) hc7 ?_)
    refine go_callV (M' := m_mo_chain) (d := rd_mo_chain) (w := rw_mo_chain) (mc := 0) (ms := 0) (as := [mv_I (b : Int), mv_I (x : Int), mv_I 0, mv_I 1, mv_I 42]) (b := o) (rest := []) (q := 119) g_mo_chain i_mo_chain v_mo_chain l_mo_147 d_mo_apply_116 rfl rfl rfl hob rfl (by decide) ⟨by decide, by decide, by decide, by decide⟩ (tm_chain (fm := 0) (fi := 1) hV hb (by decide) hL hS hg (Or.inl rfl) (by decide)) ?_
    intro w h1 n1 hk _
    refine go_u0 (ret 119 _ w h1 n1 _ d_mo_apply_119 ?_ hk)
    unfold q_app
    rw [if_neg (by decide), if_neg (fun z => z.2 (Or.inr (Or.inl rfl))), if_pos (by decide)]
    rfl
  by_cases c3 : c = 45 ∨ c = 47
  · have hx1 : 1 ≤ x := by unfold ar_ at ha; omega
    have c120 : Go (go_f 0 0 (aq_ h n o I tx S ps cs bs V b (q_app c x g))) l m_mo_apply (go_rm rd_mo_apply rw_mo_apply 0 0) (0, 0) 120 [some (mv_R o), some (mv_I c), some (mv_I (b : Int)), some (mv_I (x : Int)), none] [] h n := by
      refine so_ap_120 hV hb.1 (by omega) hc7 (fun d1 => ?_) (fun d1 d2 => ?_) (fun d1 d2 => ?_)
      · refine go_callV (M' := m_mo_chain) (d := rd_mo_chain) (w := rw_mo_chain) (mc := 0) (ms := 0) (as := [mv_I (b : Int), mv_I (x : Int), mv_I 1, mv_I 0, mv_I c]) (b := o) (rest := []) (q := 156) g_mo_chain i_mo_chain v_mo_chain l_mo_147 d_mo_apply_153 rfl rfl rfl hob rfl (by decide) ⟨by decide, by decide, by decide, by decide⟩ (tm_chain (fm := 1) (fi := 0) hV hb (by omega) hL hS hg (Or.inr ⟨rfl, hx1⟩) (by decide)) ?_
        intro w h1 n1 hk _
        refine go_u0 (ret 156 _ w h1 n1 _ d_mo_apply_156 ?_ hk)
        unfold q_app
        rw [if_neg (by omega), if_pos ⟨by omega, by omega⟩]
        rfl
      · have hx : x = 1 := by omega
        subst hx
        refine go_callV (M' := m_mo_chain) (d := rd_mo_chain) (w := rw_mo_chain) (mc := 0) (ms := 0) (as := [mv_I (b : Int), mv_I 1, mv_I 0, mv_I 1, mv_I c]) (b := o) (rest := []) (q := 144) g_mo_chain i_mo_chain v_mo_chain l_mo_147 d_mo_apply_141 rfl rfl rfl hob rfl (by decide) ⟨by decide, by decide, by decide, by decide⟩ (tm_chain (x := 1) (fm := 0) (fi := 1) hV hb (by omega) hL hS hg (Or.inl rfl) (by decide)) ?_
        intro w h1 n1 hk _
        have hk' := hk
        obtain ⟨rfl, -⟩ := hk'
        refine go_u0 (go_goto (q := 156) d_mo_apply_144 (by decide) (ret 156 _ _ h1 n1 _ d_mo_apply_156 ?_ hk))
        unfold q_app
        rw [if_neg (by omega), if_neg (fun z => by omega), if_pos (by omega)]
        rfl
      · have hx : x = 1 := by omega
        subst hx
        refine go_callV (M' := m_mo_chain) (d := rd_mo_chain) (w := rw_mo_chain) (mc := 0) (ms := 0) (as := [mv_I (b : Int), mv_I 1, mv_I 0, mv_I 0, mv_I c]) (b := o) (rest := []) (q := 144) g_mo_chain i_mo_chain v_mo_chain l_mo_147 d_mo_apply_141 rfl rfl rfl hob rfl (by decide) ⟨by decide, by decide, by decide, by decide⟩ (tm_chain (x := 1) (fm := 0) (fi := 0) hV hb (by omega) hL hS hg (Or.inl rfl) (by decide)) ?_
        intro w h1 n1 hk _
        have hk' := hk
        obtain ⟨rfl, -⟩ := hk'
        refine go_u0 (go_goto (q := 156) d_mo_apply_144 (by decide) (ret 156 _ _ h1 n1 _ d_mo_apply_156 ?_ hk))
        unfold q_app
        rw [if_neg (by omega), if_neg (fun z => by omega), if_neg (by omega)]
        rfl
    rcases c3 with e | e
    · subst e
      exact go_lsw (d := 120) (a := 45) (off := 119) d_mo_apply_1 (by decide) (by decide) rfl (by decide) c120
    · subst e
      exact go_lsw (d := 120) (a := 47) (off := 119) d_mo_apply_1 (by decide) (by decide) rfl (by decide) c120
  by_cases c4 : c = 113 ∨ c = 114
  · have hx2 : x = 2 := by unfold ar_ at ha; omega
    subst hx2
    have eq2 : ∀ op : Int, op = 113 ∨ op = 114 → q_app op 2 g = q_run op g 1 1 (g 0) := fun op hop => by
      unfold q_app
      rw [if_neg (by omega), if_pos ⟨by decide, by omega⟩]
    have c157 : Go (go_f 0 0 (aq_ h n o I tx S ps cs bs V b (q_app c 2 g))) l m_mo_apply (go_rm rd_mo_apply rw_mo_apply 0 0) (0, 0) 157 [some (mv_R o), some (mv_I c), some (mv_I (b : Int)), some (mv_I ((2 : Nat) : Int)), none] [] h n := by
      refine so_ap_157 hV hb.1 (by decide) hc7 (fun d1 => ?_) (fun d1 => ?_)
      · refine go_callV (M' := m_mo_quotient) (d := rd_mo_quotient) (w := rw_mo_quotient) (mc := 0) (ms := 0) (as := [mv_I (b : Int), mv_I 0]) (b := o) (rest := []) (q := 173) g_mo_quotient i_mo_quotient v_mo_quotient l_mo_151 d_mo_apply_170 rfl rfl rfl hob rfl (by decide) ⟨by decide, by decide, by decide, by decide⟩ (tm_quotient (w := 0) hV (by omega) (Or.inl rfl) hS hg) ?_
        intro w h1 n1 hk _
        refine go_u0 (ret 173 _ w h1 n1 _ d_mo_apply_173 ?_ hk)
        rw [if_pos rfl, eq2 c c4, show c = 114 by omega]
      · refine go_callV (M' := m_mo_quotient) (d := rd_mo_quotient) (w := rw_mo_quotient) (mc := 0) (ms := 0) (as := [mv_I (b : Int), mv_I 1]) (b := o) (rest := []) (q := 173) g_mo_quotient i_mo_quotient v_mo_quotient l_mo_151 d_mo_apply_170 rfl rfl rfl hob rfl (by decide) ⟨by decide, by decide, by decide, by decide⟩ (tm_quotient (w := 1) hV (by omega) (Or.inr rfl) hS hg) ?_
        intro w h1 n1 hk _
        refine go_u0 (ret 173 _ w h1 n1 _ d_mo_apply_173 ?_ hk)
        rw [if_neg (by decide), eq2 c c4, d1]
    rcases c4 with e | e
    · subst e
      exact go_lsw (d := 157) (a := 113) (off := 156) d_mo_apply_1 (by decide) (by decide) rfl (by decide) c157
    · subst e
      exact go_lsw (d := 157) (a := 114) (off := 156) d_mo_apply_1 (by decide) (by decide) rfl (by decide) c157
  by_cases c5 : c = 103
  · subst c5
    refine go_lsw (d := 174) (a := 103) (off := 173) d_mo_apply_1 (by decide) (by decide) rfl (by decide) (so_ap_174 hV hb.1 (by omega) hc7 ?_)
    refine go_callV (M' := m_mo_divisor) (d := rd_mo_divisor) (w := rw_mo_divisor) (mc := 0) (ms := 0) (as := [mv_I (b : Int), mv_I (x : Int)]) (b := o) (rest := []) (q := 180) g_mo_divisor i_mo_divisor v_mo_divisor l_mo_155 d_mo_apply_177 rfl rfl rfl hob rfl (by decide) ⟨by decide, by decide, by decide, by decide⟩ (tm_divisor hV hb hS (fun j hj => (hg j hj).1)) ?_
    intro w h1 n1 hk _
    refine go_u0 (ret 180 _ w h1 n1 _ d_mo_apply_180 ?_ hk)
    unfold q_app
    rw [if_neg (by decide), if_neg (fun z => z.2 (Or.inr (Or.inr rfl))), if_neg (by decide)]
  by_cases c6 : c = 94
  · subst c6
    have hx2 : x = 2 := by unfold ar_ at ha; omega
    subst hx2
    refine go_lsw (d := 181) (a := 94) (off := 180) d_mo_apply_1 (by decide) (by decide) rfl (by decide) (so_ap_181 hV hb.1 (by decide) hc7 ?_)
    refine go_callV (M' := m_mo_power) (d := rd_mo_power) (w := rw_mo_power) (mc := 0) (ms := 0) (as := [mv_I (b : Int)]) (b := o) (rest := []) (q := 186) g_mo_power i_mo_power v_mo_power l_mo_158 d_mo_apply_183 rfl rfl rfl hob rfl (by decide) ⟨by decide, by decide, by decide, by decide⟩ (tm_power hV (by omega) hL hS hg) ?_
    intro w h1 n1 hk _
    exact go_u0 (ret 186 _ w h1 n1 _ d_mo_apply_186 rfl hk)
  have dir : ∀ (pc : Nat) (r : qv_) (h1 : mv_H) (S1 : Nat → Int) (V1 : Nat → Nat) (L : List (Option mv_V)), decode b_mo_apply pc = .ok (.ireturn, 1) → q_app c x g = (0, r) → mo_V h1 o (I, tx, S1, ps, cs, bs) V1 → fr_ o 8 h h1 → sb_ b S S1 V V1 → q_at S1 V1 b = r → Go (go_f 0 0 (aq_ h n o I tx S ps cs bs V b (q_app c x g))) l m_mo_apply (go_rm rd_mo_apply rw_mo_apply 0 0) (0, 0) pc L [mv_I 0] h1 n := by
    intro pc r h1 S1 V1 L hd e hV1 hf1 hsb hq
    exact ret pc (0, r) (some (mv_I 0)) h1 n L hd e ⟨rfl, rfl, hf1, S1, V1, hV1, hsb, fun _ => hq⟩
  by_cases c7 : c = 110
  · subst c7
    have hx1 : x = 1 := by unfold ar_ at ha; omega
    subst hx1
    refine go_lsw (d := 187) (a := 110) (off := 186) d_mo_apply_1 (by decide) (by decide) rfl (by decide) (so_ap_187 hV hb.1 (by decide) hc7 (fun h1 hV1 hf1 => ?_))
    refine dir 198 ((g 0).1, (g 0).2.1, 1) h1 _ _ _ d_mo_apply_198 rfl hV1 hf1 ⟨fun _ _ _ => rfl, hS, fun i i1 i2 _ => va_up_ne _ _ i2⟩ ?_
    rw [← (hg 0 (by decide)).1]
    unfold q_at
    rw [va_up_ne _ _ (by omega), va_up_self]
    rfl
  by_cases c8 : c = 100
  · subst c8
    have hx1 : x = 1 := by unfold ar_ at ha; omega
    subst hx1
    refine go_lsw (d := 199) (a := 100) (off := 198) d_mo_apply_1 (by decide) (by decide) rfl (by decide) (so_ap_199 hV hb.1 (by decide) hc7 (fun h1 hV1 hf1 => ?_))
    refine dir 229 (1, (g 0).2.2, 1) h1 _ _ _ d_mo_apply_229 rfl hV1 hf1 ⟨fun i i1 _ => va_up_ne _ _ i1, sr_up hS (by decide), fun i i1 i2 _ => by rw [va_up_ne _ _ i2, va_up_ne _ _ i1]⟩ ?_
    rw [q_at_up, ← (hg 0 (by decide)).1]
    rfl
  by_cases c9 : c = 63
  · subst c9
    have hx1 : x = 2 := by unfold ar_ at ha; omega
    subst hx1
    refine go_lsw (d := 230) (a := 63) (off := 229) d_mo_apply_1 (by decide) (by decide) rfl (by decide) (so_ap_230 hV hb.1 (by decide) hc7 (fun h1 hV1 hf1 => ?_))
    refine dir 239 (g 1) h1 _ _ _ d_mo_apply_239 rfl hV1 hf1 ⟨fun i i1 _ => va_up_ne _ _ i1, sr_up hS (hS _), fun i i1 i2 _ => by rw [va_up_ne _ _ i2, va_up_ne _ _ i1]⟩ ?_
    rw [q_at_up]
    exact (hg 1 (by decide)).1
  have hx2 : x = 2 := by unfold ar_ at ha; omega
  have hc2 : c = 60 ∨ c = 61 := by unfold ar_ at ha; omega
  subst hx2
  obtain ⟨g1, g2⟩ := hg 0 (by decide)
  obtain ⟨k1, k2⟩ := hg 1 (by decide)
  have i1 : q_in (q_at S V b) := by
    have : q_at S V b = g 0 := g1
    rw [this]; exact g2
  have i2 : q_in (q_at S V (b + 1)) := by rw [k1]; exact k2
  refine go_lswd (d := 240) d_mo_apply_1 (by decide) (by omega) ?_ (by decide) (so_ap_240 hV hb.1 (by decide) hc7 ?_)
  · simp
    omega
  rw [show ((b : Int) + 1) = ((b + 1 : Nat) : Int) by omega]
  refine go_callV (M' := m_mo_order) (d := rd_mo_order) (w := rw_mo_order) (mc := 0) (ms := 0) (as := [mv_I (b : Int), mv_I ((b + 1 : Nat) : Int)]) (b := o) (rest := []) (q := 248) g_mo_order i_mo_order v_mo_order l_mo_161 d_mo_apply_245 rfl rfl rfl hob rfl (by decide) ⟨by decide, by decide, by decide, by decide⟩ (tm_order hV (by omega) (by omega) hS i1 i2) ?_
  rintro w h1 n1 ⟨rfl, rfl, hf1, V1, hV1, hk1⟩ -
  have eo : q_ord (q_at S V b) (q_at S V (b + 1)) = q_ord (g 0) (g 1) := by
    rw [k1]
    have : q_at S V b = g 0 := g1
    rw [this]
  have zb : -1 ≤ q_ord (q_at S V b) (q_at S V (b + 1)) ∧ q_ord (q_at S V b) (q_at S V (b + 1)) ≤ 1 := by
    unfold q_ord
    have s := hS b
    split
    · unfold cm_
      have e : (q_at S V b).1 = S b := rfl
      rw [e]
      split
      · omega
      · split <;> omega
    · split <;> omega
  have fin : ∀ (s : Nat) (h2 : mv_H) (L : List (Option mv_V)), s ≤ 1 → q_app c 2 g = (0, q_sm s) → mo_V h2 o (I, tx, va_up S b (if s = 0 then 0 else 1), ps, cs, bs) (va_up (va_up V1 (2 * b) s) (2 * b + 1) 1) → fr_ o 8 h1 h2 → Go (go_f 0 0 (aq_ h n1 o I tx S ps cs bs V b (q_app c 2 g))) l m_mo_apply (go_rm rd_mo_apply rw_mo_apply 0 0) (0, 0) 285 L [mv_I 0] h2 n1 := by
    intro s h2 L hs e hV2 hf2
    refine dir 285 (q_sm s) h2 _ _ L d_mo_apply_285 e hV2 (hf1.tr hf2) ⟨fun i i1 _ => va_up_ne _ _ i1, sr_up hS ?_, fun i i1 i2 i3 => by rw [va_up_ne _ _ i2, va_up_ne _ _ i1]; exact hk1 i (by omega)⟩ q_at_up
    split <;> decide
  have e60 : q_app 60 2 g = (0, q_sm (if q_ord (g 0) (g 1) < 0 then 1 else 0)) := rfl
  have e61 : q_app 61 2 g = (0, q_sm (if q_ord (g 0) (g 1) = 0 then 1 else 0)) := rfl
  refine go_u0 (so_ap_248 hV1 hb.1 (by decide) hc7 zb (fun d1 d2 h2 hV2 hf2 => ?_) (fun d1 d2 h2 hV2 hf2 => ?_) (fun d1 d2 h2 hV2 hf2 => ?_) (fun d1 d2 h2 hV2 hf2 => ?_))
  · exact fin 0 h2 _ (by decide) (by rw [show c = 61 by omega, e61, ← eo, if_neg d2]) hV2 hf2
  · exact fin 1 h2 _ (by decide) (by rw [show c = 61 by omega, e61, ← eo, if_pos d2]) hV2 hf2
  · exact fin 0 h2 _ (by decide) (by rw [d1, e60, ← eo, if_neg (by omega)]) hV2 hf2
  · exact fin 1 h2 _ (by decide) (by rw [d1, e60, ← eo, if_pos (by omega)]) hV2 hf2
end MxApp
