/-! the class's Machine: steps, folds, powers, brackets, arguments, numbers -/
theorem kq_at {B : Nat → Int} {V : Nat → Nat} {a x y : Nat} {b : Int} (h1 : V (a + 1) = x) (h2 : V (a + 3) = y) (h3 : B a = b) : kq_ B V a = (if x = 0 then 0 else if b = 0 then 1 else -1, x, y) := by
  unfold kq_
  rw [h1, h2, h3]
theorem wf_in {h : mv_H} {I tx wr ga gb mo mf mg : Nat → Int} {B : Nat → Int} {V : Nat → Nat} {a : Nat} (hV : pn_V h (I, tx, wr, ga, gb, mo, mf, mg) B V) (ha : fa_ a) (w : wf_ B V a) : q_in (kq_ B V a) := ⟨w.1, ca_b8 hV ha⟩
theorem ko_ks {h : mv_H} {n : Nat} {X : pn_X} {B : Nat → Int} {V : Nat → Nat} {r : qv_} {w : Option mv_V} {h' : mv_H} {n' : Nat} (hq : q_bg r = 0 → q_ok r) (hk : ko_ h n X B V r w h' n') : ks_ h n X B V (q_bg r, r) w h' n' := by
  obtain ⟨h1, h2, h3, B', V', h4, h5, h6⟩ := hk
  refine ⟨h1, h2, h3, B', V', h4, h5, fun z => ⟨(h6 z).1, ?_, (h6 z).2⟩⟩
  rw [(h6 z).1]
  exact hq z
theorem ko_ks0 {h : mv_H} {n : Nat} {X : pn_X} {B : Nat → Int} {V : Nat → Nat} {r : qv_} {w : Option mv_V} {h' : mv_H} {n' : Nat} (h0 : q_bg r = 0) (hq : q_ok r) (hk : ko_ h n X B V r w h' n') : ks_ h n X B V (0, r) w h' n' := by
  have := ko_ks (fun _ => hq) hk
  rw [h0] at this
  exact this
section MaVal
variable {φ : go_F} {l : Launch} {h : mv_H} {n : Nat} {I tx wr ga gb mo mf mg : Nat → Int} {B : Nat → Int} {V : Nat → Nat}
theorem tn_replace {c : Int} {a : Nat} (hV : pn_V h (I, tx, wr, ga, gb, mo, mf, mg) B V) (ha : 90 ≤ a ∧ a < 390 ∧ a % 5 = 0) (hc : 0 ≤ c ∧ c ≤ 127) (hn : c ≠ 42 ∧ c ≠ 43 ∧ c ≠ 45 ∧ c ≠ 47 ∧ c ≠ 103 ∧ c ≠ 113 ∧ c ≠ 114) (w1 : wf_ B V 40) (w2 : wf_ B V a) :
    Fn l m_ma_replace rd_ma_replace rw_ma_replace 0 0 [mv_R 15, mv_I c, mv_R a] h n (ks_ h n (I, tx, wr, ga, gb, mo, mf, mg) B V (q_step c (kq_ B V 40) (kq_ B V a))) := by
  refine fn_of rfl (Nat.le_of_ble_eq_true rfl) rfl ?_
  have fa : fa_ a := by unfold fa_; omega
  have hin : ∀ r : qv_, q_step c (kq_ B V 40) (kq_ B V a) = (0, r) → q_ok r := fun r e => by
    have := q_step_in (op := c) (wf_in hV fa_t w1) (wf_in hV fa w2) (by rw [e])
    rw [e] at this
    exact this.1
  -- the end: the total's new rows
  have fin : ∀ (h1 : mv_H) (B' : Nat → Int) (V' : Nat → Nat) (r : qv_), pn_V h1 (I, tx, wr, ga, gb, mo, mf, mg) B' V' → fr_ 1 389 h h1 → cs_ B B' V V' → q_step c (kq_ B V 40) (kq_ B V a) = (0, r) → kq_ B' V' 40 = r → (V' 41 = 0 → B' 40 = 0) → ∀ L, Go (go_f 0 0 (ks_ h n (I, tx, wr, ga, gb, mo, mf, mg) B V (q_step c (kq_ B V 40) (kq_ B V a)))) l m_ma_replace (go_rm rd_ma_replace rw_ma_replace 0 0) (0, 0) 160 L [mv_I 0] h1 n := by
    intro h1 B' V' r hV1 hf1 hcs e hk hb L
    rw [e]
    refine go_iret d_ma_replace_160 rfl go_le0 ⟨rfl, rfl, hf1, B', V', hV1, hcs, fun _ => ⟨hk, ?_, hb⟩⟩
    rw [hk]
    exact hin r e
  refine go_iload_n (q := 1) d_ma_replace_0 rfl rfl rfl ?_
  by_cases c1 : c = 110
  · subst c1
    refine go_lsw (d := 44) (a := 110) (off := 43) d_ma_replace_1 (by decide) (by decide) rfl (by decide) (sn_rep_44 hV ha fun h1 hV1 hf1 => ?_)
    refine fin h1 _ _ _ hV1 hf1 ⟨fun i _ i1 i2 => by rw [va_up_ne _ _ i2, va_up_ne _ _ i2, va_up_ne _ _ i1], fun i hi => va_up_ne _ _ hi⟩ rfl ?_ ?_ _
    · exact kq_at (x := V (a + 1)) (y := 1) (b := B a) (by rw [va_up_ne _ _ (by decide), va_up_ne _ _ (by decide), va_up_self]) (va_up_self _ _ _) (va_up_self _ _ _)
    · rw [va_up_ne _ _ (by decide), va_up_ne _ _ (by decide), va_up_self, va_up_self]
      exact w2.2
  by_cases c2 : c = 100
  · subst c2
    refine go_lsw (d := 66) (a := 100) (off := 65) d_ma_replace_1 (by decide) (by decide) rfl (by decide) (sn_rep_66 hV ha fun h1 hV1 hf1 => ?_)
    refine fin h1 _ _ _ hV1 hf1 ⟨fun i _ i1 i2 => by rw [va_up_ne _ _ i1, va_up_ne _ _ i2, va_up_ne _ _ i1], fun i hi => va_up_ne _ _ hi⟩ rfl ?_ ?_ _
    · have hd := (wf_gcd w2).2
      rw [kq_at (x := V (a + 3)) (y := 1) (b := 0) (va_up_self _ _ _) (by rw [va_up_ne _ _ (by decide), va_up_self]) (va_up_self _ _ _), if_neg (by omega), if_pos rfl]
      rfl
    · intro _
      exact va_up_self _ _ _
  have cmp : ∀ z : Int, q_ord (kq_ B V 40) (kq_ B V a) = z → -1 ≤ z ∧ z ≤ 1 := fun z e => by
    rw [← e]
    unfold q_ord
    have s := w1.1.1
    split
    · unfold cm_
      split
      · omega
      · split <;> omega
    · split <;> omega
  by_cases c3 : c = 60
  · subst c3
    refine go_lsw (d := 91) (a := 60) (off := 90) d_ma_replace_1 (by decide) (by decide) rfl (by decide) (sn_rep_91 hV ha ?_)
    refine go_callV (M' := m_ca_compare) (d := rd_ca_compare) (w := rw_ca_compare) (mc := 0) (ms := 0) (as := [mv_R 40, mv_R a]) (b := 16) (rest := [mv_R 40]) (q := 107) g_ca_compare i_ca_compare v_ca_compare l_ma_156 d_ma_replace_104 rfl rfl rfl (pn_c16 hV) rfl (by decide) ⟨by decide, by decide, by decide, by decide⟩ (tk_compare hV fa_t fa w1 w2) ?_
    rintro w h1 n1 ⟨rfl, rfl, hf1, V1, hV1, hk1⟩ -
    refine go_u0 (sn_rep_107 hV1 ha (cmp _ rfl) (fun cz h2 hV2 hf2 => ?_) (fun cz h2 hV2 hf2 => ?_))
    · refine fin h2 _ _ (q_sm 0) hV2 (hf1.tr hf2) ⟨fun i hi i1 i2 => by rw [va_up_ne _ _ i2, va_up_ne _ _ i1]; exact hk1 i hi, fun i hi => va_up_ne _ _ hi⟩ ?_ ?_ (fun _ => va_up_self _ _ _) _
      · show (0, q_sm (if q_ord (kq_ B V 40) (kq_ B V a) < 0 then 1 else 0)) = (0, q_sm 0)
        rw [if_neg (by omega)]
      · exact kq_at (x := 0) (y := 1) (b := 0) (by rw [va_up_ne _ _ (by decide), va_up_self]) (va_up_self _ _ _) (va_up_self _ _ _)
    · refine fin h2 _ _ (q_sm 1) hV2 (hf1.tr hf2) ⟨fun i hi i1 i2 => by rw [va_up_ne _ _ i2, va_up_ne _ _ i1]; exact hk1 i hi, fun i hi => va_up_ne _ _ hi⟩ ?_ ?_ (fun _ => va_up_self _ _ _) _
      · show (0, q_sm (if q_ord (kq_ B V 40) (kq_ B V a) < 0 then 1 else 0)) = (0, q_sm 1)
        rw [if_pos (by omega)]
      · exact kq_at (x := 1) (y := 1) (b := 0) (by rw [va_up_ne _ _ (by decide), va_up_self]) (va_up_self _ _ _) (va_up_self _ _ _)
  by_cases c4 : c = 61
  · subst c4
    refine go_lsw (d := 121) (a := 61) (off := 120) d_ma_replace_1 (by decide) (by decide) rfl (by decide) (sn_rep_121 hV ha ?_)
    refine go_callV (M' := m_ca_compare) (d := rd_ca_compare) (w := rw_ca_compare) (mc := 0) (ms := 0) (as := [mv_R 40, mv_R a]) (b := 16) (rest := [mv_R 40]) (q := 137) g_ca_compare i_ca_compare v_ca_compare l_ma_156 d_ma_replace_134 rfl rfl rfl (pn_c16 hV) rfl (by decide) ⟨by decide, by decide, by decide, by decide⟩ (tk_compare hV fa_t fa w1 w2) ?_
    rintro w h1 n1 ⟨rfl, rfl, hf1, V1, hV1, hk1⟩ -
    refine go_u0 (sn_rep_137 hV1 ha (cmp _ rfl) (fun cz h2 hV2 hf2 => ?_) (fun cz h2 hV2 hf2 => ?_))
    · refine fin h2 _ _ (q_sm 0) hV2 (hf1.tr hf2) ⟨fun i hi i1 i2 => by rw [va_up_ne _ _ i2, va_up_ne _ _ i1]; exact hk1 i hi, fun i hi => va_up_ne _ _ hi⟩ ?_ ?_ (fun _ => va_up_self _ _ _) _
      · show (0, q_sm (if q_ord (kq_ B V 40) (kq_ B V a) = 0 then 1 else 0)) = (0, q_sm 0)
        rw [if_neg cz]
      · exact kq_at (x := 0) (y := 1) (b := 0) (by rw [va_up_ne _ _ (by decide), va_up_self]) (va_up_self _ _ _) (va_up_self _ _ _)
    · refine fin h2 _ _ (q_sm 1) hV2 (hf1.tr hf2) ⟨fun i hi i1 i2 => by rw [va_up_ne _ _ i2, va_up_ne _ _ i1]; exact hk1 i hi, fun i hi => va_up_ne _ _ hi⟩ ?_ ?_ (fun _ => va_up_self _ _ _) _
      · show (0, q_sm (if q_ord (kq_ B V 40) (kq_ B V a) = 0 then 1 else 0)) = (0, q_sm 1)
        rw [if_pos cz]
      · exact kq_at (x := 1) (y := 1) (b := 0) (by rw [va_up_ne _ _ (by decide), va_up_self]) (va_up_self _ _ _) (va_up_self _ _ _)
  refine go_lswd (d := 151) d_ma_replace_1 (by decide) (by omega) ?_ (by decide) (sn_rep_151 hV ha fun h1 hV1 hf1 => ?_)
  · simp
    omega
  · refine fin h1 _ _ (kq_ B V a) hV1 hf1 ⟨fun i _ i1 i2 => by rw [va_up_ne _ _ i2, va_up_ne _ _ i1], fun i hi => va_up_ne _ _ hi⟩ ?_ ?_ ?_ _
    · unfold q_step
      rw [if_neg hn.2.1, if_neg hn.2.2.1, if_neg hn.1, if_neg hn.2.2.2.1, if_neg hn.2.2.2.2.2.1, if_neg hn.2.2.2.2.2.2, if_neg hn.2.2.2.2.1, if_neg c1, if_neg c2, if_neg c3, if_neg c4]
    · exact kq_at (x := V (a + 1)) (y := V (a + 3)) (b := B a) (by rw [va_up_ne _ _ (by decide), va_up_self]) (va_up_self _ _ _) (va_up_self _ _ _)
    · rw [va_up_ne _ _ (by decide), va_up_self, va_up_self]
      exact w2.2
theorem tn_step {c : Int} {a : Nat} (hV : pn_V h (I, tx, wr, ga, gb, mo, mf, mg) B V) (ha : 90 ≤ a ∧ a < 390 ∧ a % 5 = 0) (hc : 0 ≤ c ∧ c ≤ 127) (w1 : wf_ B V 40) (w2 : wf_ B V a) :
    Fn l m_ma_step rd_ma_step rw_ma_step 0 0 [mv_R 15, mv_I c, mv_R a] h n (ks_ h n (I, tx, wr, ga, gb, mo, mf, mg) B V (q_step c (kq_ B V 40) (kq_ B V a))) := by
  refine fn_of rfl (Nat.le_of_ble_eq_true rfl) rfl ?_
  have fa : fa_ a := by unfold fa_; omega
  have ha5 : 50 ≤ a ∧ a < 390 ∧ a % 5 = 0 := ⟨by omega, ha.2⟩
  have i1 := wf_in hV fa_t w1
  have i2 := wf_in hV fa w2
  have hB := hV.2.1 a
  have ret : ∀ (pc : Nat) (r : Int × qv_) (w : Option mv_V) (h1 : mv_H) (n1 : Nat) (L : List (Option mv_V)), decode b_ma_step pc = .ok (.ireturn, 1) → q_step c (kq_ B V 40) (kq_ B V a) = r → ks_ h n (I, tx, wr, ga, gb, mo, mf, mg) B V r w h1 n1 → Go (go_f 0 0 (ks_ h n (I, tx, wr, ga, gb, mo, mf, mg) B V (q_step c (kq_ B V 40) (kq_ B V a)))) l m_ma_step (go_rm rd_ma_step rw_ma_step 0 0) (0, 0) pc L (w.toList ++ []) h1 n1 := by
    intro pc r w h1 n1 L hd e hk
    rw [e]
    obtain ⟨rfl, hk2⟩ := hk
    exact go_iret hd rfl go_le0 ⟨rfl, hk2⟩
  refine go_iload_n (q := 1) d_ma_step_0 rfl rfl rfl ?_
  by_cases c1 : c = 43
  · subst c1
    refine go_lsw (d := 68) (a := 43) (off := 67) d_ma_step_1 (by decide) (by decide) rfl (by decide) (sn_step_68 hV ha ?_)
    refine go_callV (M' := m_ca_add) (d := rd_ca_add) (w := rw_ca_add) (mc := 0) (ms := 0) (as := [mv_R 40, mv_R a, mv_I 0]) (b := 16) (rest := []) (q := 81) g_ca_add i_ca_add v_ca_add l_ma_142 d_ma_step_78 rfl rfl rfl (pn_c16 hV) rfl (by decide) ⟨by decide, by decide, by decide, by decide⟩ (tk_add hV ha5 (Or.inl rfl) w1 w2) ?_
    intro w h1 n1 hk _
    exact go_u0 (ret 81 _ w h1 n1 _ d_ma_step_81 rfl (ko_ks (fun _ => q_add_ok i1.1 i2.1 (Or.inl rfl)) hk))
  by_cases c2 : c = 45
  · subst c2
    refine go_lsw (d := 82) (a := 45) (off := 81) d_ma_step_1 (by decide) (by decide) rfl (by decide) (sn_step_82 hV ha ?_)
    refine go_callV (M' := m_ca_add) (d := rd_ca_add) (w := rw_ca_add) (mc := 0) (ms := 0) (as := [mv_R 40, mv_R a, mv_I 1]) (b := 16) (rest := []) (q := 95) g_ca_add i_ca_add v_ca_add l_ma_142 d_ma_step_92 rfl rfl rfl (pn_c16 hV) rfl (by decide) ⟨by decide, by decide, by decide, by decide⟩ (tk_add hV ha5 (Or.inr rfl) w1 w2) ?_
    intro w h1 n1 hk _
    exact go_u0 (ret 95 _ w h1 n1 _ d_ma_step_95 rfl (ko_ks (fun _ => q_add_ok i1.1 i2.1 (Or.inr rfl)) hk))
  by_cases c3 : c = 42
  · subst c3
    refine go_lsw (d := 96) (a := 42) (off := 95) d_ma_step_1 (by decide) (by decide) rfl (by decide) (sn_step_96 hV ha ?_)
    refine go_callV (M' := m_ca_multiply) (d := rd_ca_multiply) (w := rw_ca_multiply) (mc := 0) (ms := 0) (as := [mv_R 40, mv_R (a + 1), mv_R (a + 3), mv_I (B a)]) (b := 16) (rest := []) (q := 119) g_ca_multiply i_ca_multiply v_ca_multiply l_ma_130 d_ma_step_116 rfl rfl rfl (pn_c16 hV) rfl (by decide) ⟨by decide, by decide, by decide, by decide⟩ (tk_multiply (w2 := (0, 0, 0)) hV (by omega) (by omega) hB w1 (wf_gcd w2).1 (wf_gcd w2).2 i2.2.1 i2.2.2 rfl) ?_
    intro w h1 n1 hk _
    exact go_u0 (ret 119 _ w h1 n1 _ d_ma_step_119 rfl (ko_ks (r := q_mul (kq_ B V 40) (kq_ B V a)) (fun _ => q_mul_ok i1.1 i2.1) hk))
  by_cases c4 : c = 47
  · subst c4
    refine go_lsw (d := 120) (a := 47) (off := 119) d_ma_step_1 (by decide) (by decide) rfl (by decide) (sn_step_120 hV ha (fun cz => ?_) (fun cz => ?_))
    · refine go_callV (M' := m_ca_multiply) (d := rd_ca_multiply) (w := rw_ca_multiply) (mc := 0) (ms := 0) (as := [mv_R 40, mv_R (a + 3), mv_R (a + 1), mv_I (B a)]) (b := 16) (rest := []) (q := 154) g_ca_multiply i_ca_multiply v_ca_multiply l_ma_130 d_ma_step_151 rfl rfl rfl (pn_c16 hV) rfl (by decide) ⟨by decide, by decide, by decide, by decide⟩ (tk_multiply (w2 := (0, 0, 0)) (s := (kq_ B V a).1) hV (by omega) (by omega) hB w1 (by rw [Nat.gcd_comm]; exact (wf_gcd w2).1) (Nat.pos_of_ne_zero cz) i2.2.2 i2.2.1 ?_) ?_
      · have hd := (wf_gcd w2).2
        show (if V (a + 1) = 0 then (0 : Int) else if B a = 0 then 1 else -1) = _
        rw [if_neg cz, if_neg (show ¬ V (a + 3) = 0 by omega)]
      · intro w h1 n1 hk _
        refine go_u0 (ret 154 _ w h1 n1 _ d_ma_step_154 ?_ (ko_ks (r := q_div (kq_ B V 40) (kq_ B V a)) (fun _ => q_div_ok i1.1 i2.1 cz) hk))
        show (if V (a + 1) = 0 then ((2 : Int), kq_ B V 40) else (q_bg (q_div (kq_ B V 40) (kq_ B V a)), q_div (kq_ B V 40) (kq_ B V a))) = _
        rw [if_neg cz]
    · refine ret 154 (2, kq_ B V 40) (some (mv_I 2)) h n _ d_ma_step_154 ?_ ⟨rfl, rfl, fr_.rf, B, V, hV, cs_.rf, fun z => absurd z (show ¬ (2 : Int) = 0 by decide)⟩
      show (if V (a + 1) = 0 then ((2 : Int), kq_ B V 40) else (q_bg (q_div (kq_ B V 40) (kq_ B V a)), q_div (kq_ B V 40) (kq_ B V a))) = _
      rw [if_pos cz]
  have dw : ∀ (b : Int) (r : qv_) (w : Option mv_V) (h1 : mv_H) (n1 : Nat) (pc : Nat) (L : List (Option mv_V)), (if b = 0 then q_quo (kq_ B V 40) (kq_ B V a) else q_rem (kq_ B V 40) (kq_ B V a)) = r → decode b_ma_step pc = .ok (.ireturn, 1) → q_step c (kq_ B V 40) (kq_ B V a) = (if ¬ (V 43 = 1 ∧ V (a + 3) = 1) then ((3 : Int), kq_ B V 40) else if V (a + 1) = 0 then (2, kq_ B V 40) else (0, r)) →
      ((¬ (V 43 = 1 ∧ V (a + 3) = 1) ∧ w = some (mv_I 3) ∧ n1 = n ∧ h1 = h) ∨ ((V 43 = 1 ∧ V (a + 3) = 1) ∧ V (a + 1) = 0 ∧ w = some (mv_I 2) ∧ n1 = n ∧ h1 = h) ∨ ((V 43 = 1 ∧ V (a + 3) = 1) ∧ V (a + 1) ≠ 0 ∧ q_bg (if b = 0 then q_quo (kq_ B V 40) (kq_ B V a) else q_rem (kq_ B V 40) (kq_ B V a)) = 0 ∧ ko_ h n (I, tx, wr, ga, gb, mo, mf, mg) B V (if b = 0 then q_quo (kq_ B V 40) (kq_ B V a) else q_rem (kq_ B V 40) (kq_ B V a)) w h1 n1)) →
      Go (go_f 0 0 (ks_ h n (I, tx, wr, ga, gb, mo, mf, mg) B V (q_step c (kq_ B V 40) (kq_ B V a)))) l m_ma_step (go_rm rd_ma_step rw_ma_step 0 0) (0, 0) pc L (w.toList ++ []) h1 n1 := by
    intro b r w h1 n1 pc L er hd e hk
    rw [er] at hk
    rcases hk with ⟨k1, rfl, rfl, rfl⟩ | ⟨k1, k2, rfl, rfl, rfl⟩ | ⟨k1, k2, k3, k4⟩
    · refine ret pc (3, kq_ B V 40) (some (mv_I 3)) _ _ _ hd ?_ ⟨rfl, rfl, fr_.rf, B, V, hV, cs_.rf, fun z => absurd z (show ¬ (3 : Int) = 0 by decide)⟩
      rw [e, if_pos k1]
    · refine ret pc (2, kq_ B V 40) (some (mv_I 2)) _ _ _ hd ?_ ⟨rfl, rfl, fr_.rf, B, V, hV, cs_.rf, fun z => absurd z (show ¬ (2 : Int) = 0 by decide)⟩
      rw [e, if_neg (fun z => z k1), if_pos k2]
    · have e2 : q_step c (kq_ B V 40) (kq_ B V a) = (0, r) := by rw [e, if_neg (fun z => z k1), if_neg k2]
      have := q_step_in (op := c) i1 i2 (by rw [e2])
      rw [e2] at this
      exact ret pc (0, r) w h1 n1 _ hd e2 (ko_ks0 k3 this.1 k4)
  by_cases c5 : c = 113
  · subst c5
    refine go_lsw (d := 155) (a := 113) (off := 154) d_ma_step_1 (by decide) (by decide) rfl (by decide) (sn_step_155 hV ha ?_)
    refine go_callV (M' := m_ca_divideWhole) (d := rd_ca_divideWhole) (w := rw_ca_divideWhole) (mc := 0) (ms := 0) (as := [mv_R 40, mv_R a, mv_I 0]) (b := 16) (rest := []) (q := 168) g_ca_divideWhole i_ca_divideWhole v_ca_divideWhole l_ma_146 d_ma_step_165 rfl rfl rfl (pn_c16 hV) rfl (by decide) ⟨by decide, by decide, by decide, by decide⟩ (tk_divideWhole hV ha5 (Or.inl rfl)) ?_
    intro w h1 n1 hk _
    exact go_u0 (dw 0 _ w h1 n1 168 _ rfl d_ma_step_168 rfl hk)
  by_cases c6 : c = 114
  · subst c6
    refine go_lsw (d := 169) (a := 114) (off := 168) d_ma_step_1 (by decide) (by decide) rfl (by decide) (sn_step_169 hV ha ?_)
    refine go_callV (M' := m_ca_divideWhole) (d := rd_ca_divideWhole) (w := rw_ca_divideWhole) (mc := 0) (ms := 0) (as := [mv_R 40, mv_R a, mv_I 1]) (b := 16) (rest := []) (q := 182) g_ca_divideWhole i_ca_divideWhole v_ca_divideWhole l_ma_146 d_ma_step_179 rfl rfl rfl (pn_c16 hV) rfl (by decide) ⟨by decide, by decide, by decide, by decide⟩ (tk_divideWhole hV ha5 (Or.inr rfl)) ?_
    intro w h1 n1 hk _
    exact go_u0 (dw 1 _ w h1 n1 182 _ rfl d_ma_step_182 rfl hk)
  by_cases c7 : c = 103
  · subst c7
    refine go_lsw (d := 183) (a := 103) (off := 182) d_ma_step_1 (by decide) (by decide) rfl (by decide) (sn_step_183 hV ha ?_)
    refine go_callV (M' := m_ca_joinGreatest) (d := rd_ca_joinGreatest) (w := rw_ca_joinGreatest) (mc := 0) (ms := 0) (as := [mv_R 40, mv_R a]) (b := 16) (rest := []) (q := 195) g_ca_joinGreatest i_ca_joinGreatest v_ca_joinGreatest l_ma_149 d_ma_step_192 rfl rfl rfl (pn_c16 hV) rfl (by decide) ⟨by decide, by decide, by decide, by decide⟩ (tk_joinGreatest hV ha5) ?_
    intro w h1 n1 hk _
    have e : q_step 103 (kq_ B V 40) (kq_ B V a) = if ¬ V (a + 3) = 1 then ((3 : Int), kq_ B V 40) else (0, q_gcd (kq_ B V 40) (kq_ B V a)) := rfl
    rcases hk with ⟨k1, rfl, rfl, rfl⟩ | ⟨k1, k2, k3⟩
    · refine go_u0 (ret 195 (3, kq_ B V 40) (some (mv_I 3)) _ _ _ d_ma_step_195 ?_ ⟨rfl, rfl, fr_.rf, B, V, hV, cs_.rf, fun z => absurd z (show ¬ (3 : Int) = 0 by decide)⟩)
      rw [e, if_pos k1]
    · have e2 : q_step 103 (kq_ B V 40) (kq_ B V a) = (0, q_gcd (kq_ B V 40) (kq_ B V a)) := by rw [e, if_neg (fun z => z k1)]
      have := q_step_in (op := 103) i1 i2 (by rw [e2])
      rw [e2] at this
      exact go_u0 (ret 195 _ w h1 n1 _ d_ma_step_195 e2 (ko_ks0 k2 this.1 k3))
  refine go_lswd (d := 196) d_ma_step_1 (by decide) (by omega) ?_ (by decide) (sn_step_196 hV ha ?_)
  · simp
    omega
  · refine go_callV (M' := m_ma_replace) (d := rd_ma_replace) (w := rw_ma_replace) (mc := 0) (ms := 0) (as := [mv_I c, mv_R a]) (b := 15) (rest := []) (q := 202) g_ma_replace i_ma_replace v_ma_replace l_ma_153 d_ma_step_199 rfl rfl rfl (pn_c15 hV) rfl (by decide) ⟨by decide, by decide, by decide, by decide⟩ (tn_replace hV ha hc ⟨c3, c1, c2, c4, c7, c5, c6⟩ w1 w2) ?_
    intro w h1 n1 hk _
    exact go_u0 (ret 202 _ w h1 n1 _ d_ma_step_202 rfl hk)
theorem tn_bwf {c : Int} {k : Nat} (hc : 0 ≤ c ∧ c ≤ 127) (hk : k ≤ 60) : Fn l m_ma_beginsWithFirst rd_ma_beginsWithFirst rw_ma_beginsWithFirst 0 0 [mv_I c, mv_I (k : Int)] h n (fun w h' n' => w = some (mv_I (if 1 < k ∧ ¬ (c = 43 ∨ c = 42 ∨ c = 103) then 1 else 0)) ∧ n' = n ∧ h' = h) := by
  refine fn_of rfl (Nat.le_of_ble_eq_true rfl) rfl ?_
  refine sn_bwf hc hk (fun c1 c2 => ?_) (fun c1 c2 => ?_) (fun c1 c2 c3 => ?_) (fun c1 c2 c3 => ?_) (fun c1 c2 c3 c4 => ?_) (fun c1 c2 c3 c4 => ?_) (fun c1 c2 c3 c4 => ?_) (fun c1 c2 c3 c4 => ?_)
  all_goals refine go_zret d_ma_beginsWithFirst_38 rfl (by decide) go_le0 ⟨?_, rfl, rfl⟩
  all_goals first | rw [if_neg (by omega)] | rw [if_pos (by omega)]
/-- the fold's loop -/
theorem lp_fold {c : Int} {b m : Nat} {z : Int} {f : Nat → qv_} {h0 : mv_H} {B0 : Nat → Int} {V0 : Nat → Nat} {r : Int × qv_} (hc : 0 ≤ c ∧ c ≤ 127) (h5 : I 5 = (m : Int)) (hm : m ≤ 60) (hv : vl_ B0 V0 m f) :
    ∀ (d i : Nat) (h : mv_H) (B : Nat → Int) (V : Nat → Nat), i + d = m → b ≤ i → pn_V h (I, tx, wr, ga, gb, mo, mf, mg) B V → fr_ 1 389 h0 h → cs_ B0 B V0 V → wf_ B V 40 → r = q_run c (fun j => f (b + j)) d (i - b) (kq_ B V 40) →
      Go (go_f 0 0 (ks_ h0 n (I, tx, wr, ga, gb, mo, mf, mg) B0 V0 r)) l m_ma_fold (go_rm rd_ma_fold rw_ma_fold 0 0) (0, 0) 95 [some (mv_R 15), some (mv_I c), some (mv_I (b : Int)), some (mv_I z), some (mv_I 0), some (mv_I (i : Int))] [] h n := by
  intro d
  induction d with
  | zero =>
    intro i h B V hi hb hV hf hcs hw hr
    refine sn_fold_95 hV ⟨h5, hm, by omega⟩ (by decide) (fun _ => ?_) (fun c1 => by omega) (fun c1 => by omega)
    subst hr
    exact go_iret d_ma_fold_131 rfl go_le0 ⟨rfl, rfl, hf, B, V, hV, hcs, fun _ => ⟨rfl, hw⟩⟩
  | succ d ih =>
    intro i h B V hi hb hV hf hcs hw hr
    refine sn_fold_95 hV ⟨h5, hm, by omega⟩ (by decide) (fun c1 => by omega) (fun _ c1 => absurd rfl c1) (fun _ _ => ?_)
    obtain ⟨hk, hw2⟩ := vl_cs hcs hv i (by omega)
    have e : q_run c (fun j => f (b + j)) (d + 1) (i - b) (kq_ B V 40) = if (q_step c (kq_ B V 40) (f (b + (i - b)))).1 = 0 then q_run c (fun j => f (b + j)) d (i - b + 1) (q_step c (kq_ B V 40) (f (b + (i - b)))).2 else ((q_step c (kq_ B V 40) (f (b + (i - b)))).1, kq_ B V 40) := rfl
    rw [e, show b + (i - b) = i by omega, ← hk] at hr
    refine go_callV (M' := m_ma_step) (d := rd_ma_step) (w := rw_ma_step) (mc := 0) (ms := 0) (as := [mv_I c, mv_R (90 + 5 * i)]) (b := 15) (rest := []) (q := 121) g_ma_step i_ma_step v_ma_step l_ma_138 d_ma_fold_118 rfl rfl rfl (pn_c15 hV) rfl (by decide) ⟨by decide, by decide, by decide, by decide⟩ (tn_step hV (by omega) hc hw hw2) ?_
    rintro w h1 n1 ⟨rfl, rfl, hf1, B1, V1, hV1, hcs1, hz⟩ -
    have e1 : ((i : Int) + 1) = ((i + 1 : Nat) : Int) := by omega
    refine go_u0 (sn_fold_121 hV1 ?_)
    rw [e1]
    by_cases c0 : (q_step c (kq_ B V 40) (kq_ B V (90 + 5 * i))).1 = 0
    · rw [if_pos c0] at hr
      rw [c0]
      obtain ⟨z1, z2⟩ := hz c0
      refine ih (i + 1) h1 B1 V1 (by omega) (by omega) hV1 (hf.tr hf1) (hcs.tr hcs1) z2 ?_
      rw [hr, z1, show i + 1 - b = i - b + 1 by omega]
    · rw [if_neg c0] at hr
      have hb3 := q_step_b (op := c) (kq_ B V 40) (kq_ B V (90 + 5 * i))
      have fin : ∀ L, Go (go_f 0 0 (ks_ h0 n1 (I, tx, wr, ga, gb, mo, mf, mg) B0 V0 r)) l m_ma_fold (go_rm rd_ma_fold rw_ma_fold 0 0) (0, 0) 131 L [mv_I (q_step c (kq_ B V 40) (kq_ B V (90 + 5 * i))).1] h1 n1 := fun L => by
        subst hr
        exact go_iret d_ma_fold_131 rfl go_le0 ⟨rfl, rfl, hf.tr hf1, B1, V1, hV1, hcs.tr hcs1, fun z => absurd z c0⟩
      exact sn_fold_95 hV1 ⟨h5, hm, by omega⟩ hb3 (fun _ => fin _) (fun _ _ => fin _) (fun _ z => absurd z c0)
theorem q_sm_ok0 {B : Nat → Int} {V : Nat → Nat} {v : Nat} (hv : v ≤ 1) : kq_ (va_up B 40 0) (va_up (va_up V 41 v) 43 1) 40 = q_sm v ∧ wf_ (va_up B 40 0) (va_up (va_up V 41 v) 43 1) 40 := by
  have e : kq_ (va_up B 40 0) (va_up (va_up V 41 v) 43 1) 40 = q_sm v := by
    rw [kq_at (x := v) (y := 1) (b := 0) (by rw [va_up_ne _ _ (by decide), va_up_self]) (va_up_self _ _ _) (va_up_self _ _ _), if_pos (rfl : (0 : Int) = 0)]
    rfl
  refine ⟨e, ?_, fun _ => va_up_self _ _ _⟩
  rw [e]
  exact (q_sm_in (by omega)).1
theorem cs_sm {B : Nat → Int} {V : Nat → Nat} {b : Int} {v w : Nat} : cs_ B (va_up B 40 b) V (va_up (va_up V 41 v) 43 w) := ⟨fun i _ i1 i2 => by rw [va_up_ne _ _ i2, va_up_ne _ _ i1], fun i hi => va_up_ne _ _ hi⟩
theorem tn_fold {c : Int} {k b m : Nat} {f : Nat → qv_} (hV : pn_V h (I, tx, wr, ga, gb, mo, mf, mg) B V) (hc : 0 ≤ c ∧ c ≤ 127) (hO : I 4 = (k : Int) + 1 ∧ k < 12) (hmo : mo k = c) (hmf : mf k = (b : Int)) (hb : b < 60 ∧ b ≤ m ∧ m ≤ 60) (h5 : I 5 = (m : Int)) (hv : vl_ B V m f) (hn : c ≠ 94) :
    Fn l m_ma_fold rd_ma_fold rw_ma_fold 0 0 [mv_R 15] h n (ks_ h n (I, tx, wr, ga, gb, mo, mf, mg) B V (q_app c (m - b) fun j => f (b + j))) := by
  refine fn_of rfl (Nat.le_of_ble_eq_true rfl) rfl ?_
  refine sn_fold_0 (m := m) hV hO ⟨hmf, hb.1⟩ (by omega) h5 ?_
  rw [hmo, hmf, show I 5 - (b : Int) = ((m - b : Nat) : Int) by omega]
  refine go_callS (M' := m_ma_beginsWithFirst) (d := rd_ma_beginsWithFirst) (w := rw_ma_beginsWithFirst) (mc := 0) (ms := 0) (as := [mv_I c, mv_I ((m - b : Nat) : Int)]) (rest := []) (q := 34) g_ma_beginsWithFirst s_ma_beginsWithFirst l_ma_134 d_ma_fold_31 rfl rfl rfl (by decide) ⟨by decide, by decide, by decide, by decide⟩ (tn_bwf hc (by omega)) ?_
  rintro w h1 n1 ⟨rfl, rfl, rfl⟩ -
  have ea : q_app c (m - b) (fun j => f (b + j)) = if 1 < m - b ∧ ¬ (c = 43 ∨ c = 42 ∨ c = 103) then q_run c (fun j => f (b + j)) (m - b - 1) 1 (f (b + 0)) else q_run c (fun j => f (b + j)) (m - b) 0 (if c = 42 ∨ c = 47 then q_sm 1 else q_sm 0) := by
    unfold q_app
    rw [if_neg hn]
  by_cases hc1 : 1 < m - b ∧ ¬ (c = 43 ∨ c = 42 ∨ c = 103)
  · rw [if_pos hc1] at ea ⊢
    obtain ⟨f1, f2⟩ := hv b (by omega)
    refine go_u0 (sn_fold_34 hV hc (by decide) hb.1 (fun z => absurd z (by decide)) (fun z => absurd z (by decide)) (fun z => absurd z (by decide)) (fun _ h2 hV2 hf2 => ?_))
    have e40 : kq_ (va_up B 40 (B (90 + 5 * b))) (va_up (va_up V 41 (V (90 + 5 * b + 1))) 43 (V (90 + 5 * b + 3))) 40 = kq_ B V (90 + 5 * b) := kq_at (by rw [va_up_ne _ _ (by decide), va_up_self]) (va_up_self _ _ _) (va_up_self _ _ _)
    have w40 : wf_ (va_up B 40 (B (90 + 5 * b))) (va_up (va_up V 41 (V (90 + 5 * b + 1))) 43 (V (90 + 5 * b + 3))) 40 := by
      refine ⟨by rw [e40]; exact f2.1, ?_⟩
      rw [va_up_ne _ _ (by decide), va_up_self, va_up_self]
      exact f2.2
    rw [show (b : Int) + 1 = ((b + 1 : Nat) : Int) by omega]
    refine lp_fold (f := f) hc h5 hb.2.2 hv (m - b - 1) (b + 1) h2 _ _ (by omega) (by omega) hV2 hf2 cs_sm w40 ?_
    rw [ea, e40, f1, show b + 1 - b = 1 by omega]
    rfl
  · rw [if_neg hc1] at ea ⊢
    have go : ∀ (v : Nat) (h2 : mv_H), v ≤ 1 → (if c = 42 ∨ c = 47 then q_sm 1 else q_sm 0) = q_sm v → pn_V h2 (I, tx, wr, ga, gb, mo, mf, mg) (va_up B 40 0) (va_up (va_up V 41 v) 43 1) → fr_ 1 389 h1 h2 → Go (go_f 0 0 (ks_ h1 n1 (I, tx, wr, ga, gb, mo, mf, mg) B V (q_app c (m - b) fun j => f (b + j)))) l m_ma_fold (go_rm rd_ma_fold rw_ma_fold 0 0) (0, 0) 95 [some (mv_R 15), some (mv_I c), some (mv_I (b : Int)), some (mv_I 0), some (mv_I 0), some (mv_I (b : Int))] [] h2 n1 := by
      intro v h2 hv1 ev hV2 hf2
      obtain ⟨e1, e2⟩ := q_sm_ok0 (B := B) (V := V) hv1
      refine lp_fold (f := f) hc h5 hb.2.2 hv (m - b) b h2 _ _ (by omega) (Nat.le_refl _) hV2 hf2 cs_sm e2 ?_
      rw [ea, e1, ev, Nat.sub_self]
    refine go_u0 (sn_fold_34 hV hc (by decide) hb.1 (fun _ c2 h2 hV2 hf2 => ?_) (fun _ c2 c3 h2 hV2 hf2 => ?_) (fun _ c2 c3 h2 hV2 hf2 => ?_) (fun z => absurd rfl z))
    · exact go 1 h2 (by decide) (by rw [if_pos (Or.inl c2)]) hV2 hf2
    · exact go 0 h2 (by decide) (by rw [if_neg (by omega)]) hV2 hf2
    · exact go 1 h2 (by decide) (by rw [if_pos (Or.inr c3)]) hV2 hf2
end MaVal
