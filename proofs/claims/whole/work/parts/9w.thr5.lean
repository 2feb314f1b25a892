/-! exceptions: the class's methods that throw (walks with room for one object) -/
set_option maxRecDepth 4000 in
theorem sq_re_0 {φ : go_F} {l : Launch} {h : mv_H} {n : Nat} {I tx wr ga gb mo mf mg : Nat → Int} {B : Nat → Int} {V : Nat → Nat}  (hV : pn_V h (I, tx, wr, ga, gb, mo, mf, mg) B V) 
    (k0 : Go φ l m_pn_requireExpression (go_rm rd_pn_requireExpression rw_pn_requireExpression 1 6) (0, 0) 13 [some (mv_R 1)] [mv_I (I 0), mv_R 2, mv_R 12, mv_R 1] h n) :
    Go φ l m_pn_requireExpression (go_rm rd_pn_requireExpression rw_pn_requireExpression 1 6) (0, 0) 0 [some (mv_R 1)] [] h n := by
  refine go_aload_n (q := 1) d_pn_requireExpression_0 rfl rfl rfl ?_
  refine go_aload_n (q := 2) d_pn_requireExpression_1 rfl rfl rfl ?_
  refine go_getf (v := mv_R 12) (q := 5) f_pn_34 d_pn_requireExpression_2 rfl (pn_c1 hV) rfl ?_
  refine go_aload_n (q := 6) d_pn_requireExpression_5 rfl rfl rfl ?_
  refine go_getf (v := mv_R 2) (q := 9) f_pn_9 d_pn_requireExpression_6 rfl (pn_c1 hV) rfl ?_
  refine go_aload_n (q := 10) d_pn_requireExpression_9 rfl rfl rfl ?_
  refine go_getf (v := mv_I (I 0)) (q := 13) f_pn_49 d_pn_requireExpression_10 rfl (pn_c1 hV) rfl ?_
  exact k0
set_option maxRecDepth 4000 in
theorem sq_re_16 {φ : go_F} {l : Launch} {h : mv_H} {n : Nat} {I tx wr ga gb mo mf mg : Nat → Int} {B : Nat → Int} {V : Nat → Nat} {z : Int} (hV : pn_V h (I, tx, wr, ga, gb, mo, mf, mg) B V) (hz : -1 ≤ z ∧ z ≤ 120)
    (k0 : z = -1 → ∀ h' : mv_H, pn_V h' (va_up I 1 z, tx, wr, ga, gb, mo, mf, mg) B V → fr_ 1 389 h h' → Go φ l m_pn_requireExpression (go_rm rd_pn_requireExpression rw_pn_requireExpression 1 6) (0, 0) 35 [some (mv_R 1)] [] h' n)
    (k1 : ¬ z = -1 → ∀ h' : mv_H, pn_V h' (va_up I 1 z, tx, wr, ga, gb, mo, mf, mg) B V → fr_ 1 389 h h' → Go φ l m_pn_requireExpression (go_rm rd_pn_requireExpression rw_pn_requireExpression 1 6) (0, 0) 27 [some (mv_R 1)] [] h' n) :
    Go φ l m_pn_requireExpression (go_rm rd_pn_requireExpression rw_pn_requireExpression 1 6) (0, 0) 16 [some (mv_R 1)] [mv_I z, mv_R 1] h n := by
  refine go_putf (q := 19) (v := mv_I z) f_pn_13 d_pn_requireExpression_16 rfl (pn_c1 hV) (Nat.le_of_ble_eq_true rfl) (go_fitI _) ?_
  refine go_eq (h' := va_up h 1 (mv_O 7 [mv_R 2, mv_I ((va_up I 1 z) 0), mv_I ((va_up I 1 z) 1), mv_R 3, mv_R 8, mv_R 12, mv_R 15])) ?_
  have hV_2 := pn_u1 hV (va_up I 1 z) (fun i_ h_0 h_1 => va_up_ne _ _ h_1)
  have fr_3 : fr_ 1 389 h (va_up h 1 (mv_O 7 [mv_R 2, mv_I ((va_up I 1 z) 0), mv_I ((va_up I 1 z) 1), mv_R 3, mv_R 8, mv_R 12, mv_R 15])) := fun z_ hz => va_up_ne _ _ (by omega)
  generalize va_up h 1 (mv_O 7 [mv_R 2, mv_I ((va_up I 1 z) 0), mv_I ((va_up I 1 z) 1), mv_R 3, mv_R 8, mv_R 12, mv_R 15]) = h_1 at hV_2 fr_3 ⊢
  refine go_aload_n (q := 20) d_pn_requireExpression_19 rfl rfl rfl ?_
  refine go_getf (v := mv_I z) (q := 23) f_pn_13 d_pn_requireExpression_20 rfl (pn_c1 hV_2) rfl ?_
  refine go_iconst (q := 24) d_pn_requireExpression_23 rfl ?_
  refine go_icmp_eq (t := 35) (q := 27) d_pn_requireExpression_24 (by decide) rfl (by omega) (by omega) (fun c4 => ?_) (fun c4 => ?_)
  ·
    exact k0 c4 _ hV_2 fr_3
  ·
    exact k1 c4 _ hV_2 fr_3
set_option maxRecDepth 4000 in
theorem sq_rv {φ : go_F} {l : Launch} {h : mv_H} {n : Nat} {I tx wr ga gb mo mf mg : Nat → Int} {B : Nat → Int} {V : Nat → Nat} {v : Int} (hV : pn_V h (I, tx, wr, ga, gb, mo, mf, mg) B V) (hv : -2147483648 ≤ v ∧ v ≤ 2147483647)
    (k0 : v < 0 → Go φ l m_pn_requireVariable (go_rm rd_pn_requireVariable rw_pn_requireVariable 1 6) (0, 0) 10 [some (mv_I v)] [] h n)
    (k1 : ¬ v < 0 → v < 8 → Go φ l m_pn_requireVariable (go_rm rd_pn_requireVariable rw_pn_requireVariable 1 6) (0, 0) 18 [some (mv_I v)] [] h n)
    (k2 : ¬ v < 0 → ¬ v < 8 → Go φ l m_pn_requireVariable (go_rm rd_pn_requireVariable rw_pn_requireVariable 1 6) (0, 0) 10 [some (mv_I v)] [] h n) :
    Go φ l m_pn_requireVariable (go_rm rd_pn_requireVariable rw_pn_requireVariable 1 6) (0, 0) 0 [some (mv_I v)] [] h n := by
  refine go_iload_n (q := 1) d_pn_requireVariable_0 rfl rfl rfl ?_
  refine go_if_lt (t := 10) (q := 4) d_pn_requireVariable_1 (by decide) rfl (by omega) (fun c1 => ?_) (fun c1 => ?_)
  ·
    exact k0 c1
  ·
    refine go_iload_n (q := 5) d_pn_requireVariable_4 rfl rfl rfl ?_
    refine go_bipush (q := 7) d_pn_requireVariable_5 rfl (by decide) ?_
    refine go_icmp_lt (t := 18) (q := 10) d_pn_requireVariable_7 (by decide) rfl (by omega) (by omega) (fun c2 => ?_) (fun c2 => ?_)
    ·
      exact k1 c1 c2
    ·
      exact k2 c1 c2
set_option maxRecDepth 4000 in
theorem sq_rf {φ : go_F} {l : Launch} {h : mv_H} {n : Nat} {I tx wr ga gb mo mf mg : Nat → Int} {B : Nat → Int} {V : Nat → Nat} {z : Int} (hV : pn_V h (I, tx, wr, ga, gb, mo, mf, mg) B V) (hz : 0 ≤ z ∧ z ≤ 3)
    (k0 : ¬ z = 1 → ¬ z = 2 → ¬ z = 3 → Go φ l m_pn_refuse (go_rm rd_pn_refuse rw_pn_refuse 1 6) (0, 0) 39 [some (mv_I z)] [] h n)
    (k1 : ¬ z = 1 → ¬ z = 2 → z = 3 → Go φ l m_pn_refuse (go_rm rd_pn_refuse rw_pn_refuse 1 6) (0, 0) 31 [some (mv_I z)] [] h n)
    (k2 : ¬ z = 1 → z = 2 → Go φ l m_pn_refuse (go_rm rd_pn_refuse rw_pn_refuse 1 6) (0, 0) 18 [some (mv_I z)] [] h n)
    (k3 : z = 1 → Go φ l m_pn_refuse (go_rm rd_pn_refuse rw_pn_refuse 1 6) (0, 0) 5 [some (mv_I z)] [] h n) :
    Go φ l m_pn_refuse (go_rm rd_pn_refuse rw_pn_refuse 1 6) (0, 0) 0 [some (mv_I z)] [] h n := by
  refine go_iload_n (q := 1) d_pn_refuse_0 rfl rfl rfl ?_
  refine go_iconst (q := 2) d_pn_refuse_1 rfl ?_
  refine go_icmp_ne (t := 13) (q := 5) d_pn_refuse_2 (by decide) rfl (by omega) (by omega) (fun c1 => ?_) (fun c1 => ?_)
  ·
    refine go_iload_n (q := 14) d_pn_refuse_13 rfl rfl rfl ?_
    refine go_iconst (q := 15) d_pn_refuse_14 rfl ?_
    refine go_icmp_ne (t := 26) (q := 18) d_pn_refuse_15 (by decide) rfl (by omega) (by omega) (fun c2 => ?_) (fun c2 => ?_)
    ·
      refine go_iload_n (q := 27) d_pn_refuse_26 rfl rfl rfl ?_
      refine go_iconst (q := 28) d_pn_refuse_27 rfl ?_
      refine go_icmp_ne (t := 39) (q := 31) d_pn_refuse_28 (by decide) rfl (by omega) (by omega) (fun c3 => ?_) (fun c3 => ?_)
      ·
        exact k0 c1 c2 c3
      ·
        exact k1 c1 c2 c3
    ·
      exact k2 c1 c2
  ·
    exact k3 c1
set_option maxRecDepth 4000 in
theorem sq_wo_4 {φ : go_F} {l : Launch} {h : mv_H} {n : Nat} {I tx wr ga gb mo mf mg : Nat → Int} {B : Nat → Int} {V : Nat → Nat}  (hV : pn_V h (I, tx, wr, ga, gb, mo, mf, mg) B V) 
    (k0 : Go φ l m_pn_work (go_rm rd_pn_work rw_pn_work 1 6) (0, 0) 16 [some (mv_R 1)] [mv_I (I 0), mv_R 2, mv_R 15] h n) :
    Go φ l m_pn_work (go_rm rd_pn_work rw_pn_work 1 6) (0, 0) 4 [some (mv_R 1)] [] h n := by
  refine go_aload_n (q := 5) d_pn_work_4 rfl rfl rfl ?_
  refine go_getf (v := mv_R 15) (q := 8) f_pn_41 d_pn_work_5 rfl (pn_c1 hV) rfl ?_
  refine go_aload_n (q := 9) d_pn_work_8 rfl rfl rfl ?_
  refine go_getf (v := mv_R 2) (q := 12) f_pn_9 d_pn_work_9 rfl (pn_c1 hV) rfl ?_
  refine go_aload_n (q := 13) d_pn_work_12 rfl rfl rfl ?_
  refine go_getf (v := mv_I (I 0)) (q := 16) f_pn_49 d_pn_work_13 rfl (pn_c1 hV) rfl ?_
  exact k0
set_option maxRecDepth 4000 in
theorem sq_ke_8 {φ : go_F} {l : Launch} {h : mv_H} {n : Nat} {I tx wr ga gb mo mf mg : Nat → Int} {B : Nat → Int} {V : Nat → Nat} {v : Int} (hV : pn_V h (I, tx, wr, ga, gb, mo, mf, mg) B V) 
    (k0 : Go φ l m_pn_keep (go_rm rd_pn_keep rw_pn_keep 1 6) (0, 0) 20 [some (mv_R 1), some (mv_I v)] [mv_I (I 0), mv_R 2, mv_R 15] h n) :
    Go φ l m_pn_keep (go_rm rd_pn_keep rw_pn_keep 1 6) (0, 0) 8 [some (mv_R 1), some (mv_I v)] [] h n := by
  refine go_aload_n (q := 9) d_pn_keep_8 rfl rfl rfl ?_
  refine go_getf (v := mv_R 15) (q := 12) f_pn_41 d_pn_keep_9 rfl (pn_c1 hV) rfl ?_
  refine go_aload_n (q := 13) d_pn_keep_12 rfl rfl rfl ?_
  refine go_getf (v := mv_R 2) (q := 16) f_pn_9 d_pn_keep_13 rfl (pn_c1 hV) rfl ?_
  refine go_aload_n (q := 17) d_pn_keep_16 rfl rfl rfl ?_
  refine go_getf (v := mv_I (I 0)) (q := 20) f_pn_49 d_pn_keep_17 rfl (pn_c1 hV) rfl ?_
  exact k0
section ThrPc
variable {φ : go_F} {l : Launch} {h : mv_H} {n : Nat} {told : Int} {len : Nat} {tx ga gb : Nat → Int} {x : qv_} {var : Nat → qv_}
set_option maxRecDepth 4000 in
theorem pq_reqE (hr : rc_ h len tx told x var ga gb) (ht : tk_ len tx) (k : ∀ (h' : mv_H) (ga' gb' : Nat → Int), fr_ 1 389 h h' → rc_ h' len tx (gr_ tx len len 0 0 ga gb) x var ga' gb' → Go φ l m_pn_requireExpression (go_rm rd_pn_requireExpression rw_pn_requireExpression 1 6) (0, 0) (if gr_ tx len len 0 0 ga gb = -1 then 35 else 27) [some (mv_R 1)] [] h' n) :
    Go φ l m_pn_requireExpression (go_rm rd_pn_requireExpression rw_pn_requireExpression 1 6) (0, 0) 0 [some (mv_R 1)] [] h n := by
  obtain ⟨I, wr, mo, mf, mg, B, V, hV, h0, h1, hg, hb, hx, hw, hwr, hv⟩ := hr
  refine sq_re_0 hV ?_
  rw [h0]
  refine go_callV (M' := m_gr_faultOf) (d := rd_gr_faultOf) (w := rw_gr_faultOf) (mc := 0) (ms := 0) (as := [mv_R 2, mv_I (len : Int)]) (b := 12) (rest := [mv_R 1]) (q := 16) g_gr_faultOf i_gr_faultOf v_gr_faultOf l_pn_119 d_pn_requireExpression_13 rfl rfl rfl (pn_c12 hV) rfl (by decide) ⟨by decide, by decide, by decide, by decide⟩ (tg_faultOf hV ht.1 ht.2.1 hg hb) ?_
  rintro w h3 n3 ⟨rfl, rfl, hf3, I3, ga3, gb3, hI3, hg3, hb3, hV3⟩ -
  have hgb := gr_b (t := tx) (len := len) len 0 0 ga gb
  have ht1 := ht.1
  have hrc : ∀ h4, pn_V h4 (va_up I3 1 (gr_ tx len len 0 0 ga gb), tx, wr, ga3, gb3, mo, mf, mg) B V → rc_ h4 len tx (gr_ tx len len 0 0 ga gb) x var ga3 gb3 := fun h4 hV4 =>
    ⟨_, wr, mo, mf, mg, B, V, hV4, by rw [va_up_ne _ _ (by decide), hI3 0 (by decide)]; exact h0, va_up_self _ _ _, hg3, hb3, hx, hw, by rw [va_up_ne _ _ (by decide), hI3 2 (by decide)]; exact hwr, hv⟩
  refine go_u0 (sq_re_16 hV3 (by omega) (fun c h4 hV4 hf4 => ?_) (fun c h4 hV4 hf4 => ?_))
  · have := k h4 ga3 gb3 (hf3.tr hf4) (hrc h4 hV4)
    rw [if_pos c] at this
    exact this
  · have := k h4 ga3 gb3 (hf3.tr hf4) (hrc h4 hV4)
    rw [if_neg c] at this
    exact this
abbrev xIB_ : String := "java/lang/IndexOutOfBoundsException"
abbrev xIA_ : String := "java/lang/IllegalArgumentException"
abbrev xUO_ : String := "java/lang/UnsupportedOperationException"
abbrev xAR_ : String := "java/lang/ArithmeticException"
abbrev xIS_ : String := "java/lang/IllegalStateException"
theorem pt_reqV {v : Int} (hl : l.stackTraces = false) (hr : rc_ h len tx told x var ga gb) (hi : -2147483648 ≤ v ∧ v ≤ 2147483647) (hv : ¬ (0 ≤ v ∧ v < 8)) : FnT l m_pn_requireVariable xIB_ rd_pn_requireVariable rw_pn_requireVariable 1 6 [mv_I v] h n (fun h' n' => n' = n ∧ h' = h) := by
  obtain ⟨I, wr, mo, mf, mg, B, V, hV, -⟩ := hr
  refine fnT_of rfl (Nat.le_of_ble_eq_true rfl) rfl ?_
  refine sq_rv hV hi (fun c => ?_) (fun c1 c2 => absurd ⟨by omega, c2⟩ hv) (fun c1 c2 => ?_)
  · exact go_throw rfl g_pn_requireVariable.1 ea_IB tw_4_41 tw_4_42 tw_1_25 (by decide) d_pn_requireVariable_10 d_pn_requireVariable_13 d_pn_requireVariable_14 d_pn_requireVariable_17 hl ⟨by decide, by decide⟩ (by decide) (by decide) ⟨by decide, by decide⟩ ⟨rfl, rfl⟩
  · exact go_throw rfl g_pn_requireVariable.1 ea_IB tw_4_41 tw_4_42 tw_1_25 (by decide) d_pn_requireVariable_10 d_pn_requireVariable_13 d_pn_requireVariable_14 d_pn_requireVariable_17 hl ⟨by decide, by decide⟩ (by decide) (by decide) ⟨by decide, by decide⟩ ⟨rfl, rfl⟩
theorem pt_reqE (hl : l.stackTraces = false) (hr : rc_ h len tx told x var ga gb) (ht : tk_ len tx) (he : ¬ gr_ tx len len 0 0 ga gb = -1) : FnT l m_pn_requireExpression xIA_ rd_pn_requireExpression rw_pn_requireExpression 1 6 [mv_R 1] h n (fun h' n' => n' = n ∧ fr_ 1 389 h h' ∧ ∃ ga' gb', rc_ h' len tx (gr_ tx len len 0 0 ga gb) x var ga' gb') := by
  refine fnT_of rfl (Nat.le_of_ble_eq_true rfl) rfl ?_
  refine pq_reqE hr ht (fun h' ga' gb' hf hr' => ?_)
  rw [if_neg he]
  exact go_throw rfl g_pn_requireExpression.1 ea_IA tw_2_196 tw_2_197 tw_1_19 (by decide) d_pn_requireExpression_27 d_pn_requireExpression_30 d_pn_requireExpression_31 d_pn_requireExpression_34 hl ⟨by decide, by decide⟩ (by decide) (by decide) ⟨by decide, by decide⟩ ⟨rfl, hf, ga', gb', hr'⟩
theorem pt_refuse1 (hl : l.stackTraces = false) (hr : rc_ h len tx told x var ga gb) : FnT l m_pn_refuse xUO_ rd_pn_refuse rw_pn_refuse 1 6 [mv_I 1] h n (fun h' n' => n' = n ∧ h' = h) := by
  obtain ⟨I, wr, mo, mf, mg, B, V, hV, -⟩ := hr
  refine fnT_of rfl (Nat.le_of_ble_eq_true rfl) rfl ?_
  refine sq_rf hV (by decide) (fun c _ _ => absurd rfl c) (fun c _ _ => absurd rfl c) (fun c _ => absurd rfl c) (fun _ => ?_)
  exact go_throw rfl g_pn_refuse.1 ea_UO tw_3_200 tw_3_201 tw_1_22 (by decide) d_pn_refuse_5 d_pn_refuse_8 d_pn_refuse_9 d_pn_refuse_12 hl ⟨by decide, by decide⟩ (by decide) (by decide) ⟨by decide, by decide⟩ ⟨rfl, rfl⟩
theorem pt_refuse2 (hl : l.stackTraces = false) (hr : rc_ h len tx told x var ga gb) : FnT l m_pn_refuse xAR_ rd_pn_refuse rw_pn_refuse 1 6 [mv_I 2] h n (fun h' n' => n' = n ∧ h' = h) := by
  obtain ⟨I, wr, mo, mf, mg, B, V, hV, -⟩ := hr
  refine fnT_of rfl (Nat.le_of_ble_eq_true rfl) rfl ?_
  refine sq_rf hV (by decide) (fun _ c _ => absurd rfl c) (fun _ c _ => absurd rfl c) (fun _ _ => ?_) (fun c => absurd c (by decide))
  exact go_throw rfl g_pn_refuse.1 ea_AR tw_3_215 tw_3_216 tw_1_23 (by decide) d_pn_refuse_18 d_pn_refuse_21 d_pn_refuse_22 d_pn_refuse_25 hl ⟨by decide, by decide⟩ (by decide) (by decide) ⟨by decide, by decide⟩ ⟨rfl, rfl⟩
theorem pt_refuse3 (hl : l.stackTraces = false) (hr : rc_ h len tx told x var ga gb) : FnT l m_pn_refuse xIS_ rd_pn_refuse rw_pn_refuse 1 6 [mv_I 3] h n (fun h' n' => n' = n ∧ h' = h) := by
  obtain ⟨I, wr, mo, mf, mg, B, V, hV, -⟩ := hr
  refine fnT_of rfl (Nat.le_of_ble_eq_true rfl) rfl ?_
  refine sq_rf hV (by decide) (fun _ _ c => absurd rfl c) (fun _ _ _ => ?_) (fun _ c => absurd c (by decide)) (fun c => absurd c (by decide))
  exact go_throw rfl g_pn_refuse.1 ea_IS tw_3_230 tw_3_231 tw_1_24 (by decide) d_pn_refuse_31 d_pn_refuse_34 d_pn_refuse_35 d_pn_refuse_38 hl ⟨by decide, by decide⟩ (by decide) (by decide) ⟨by decide, by decide⟩ ⟨rfl, rfl⟩
def xz_ (z : Int) : String := if z = 1 then xUO_ else if z = 2 then xAR_ else xIS_
theorem pt_refuse {z : Int} (hl : l.stackTraces = false) (hr : rc_ h len tx told x var ga gb) (hz : 1 ≤ z ∧ z ≤ 3) : FnT l m_pn_refuse (xz_ z) rd_pn_refuse rw_pn_refuse 1 6 [mv_I z] h n (fun h' n' => n' = n ∧ h' = h) := by
  have : z = 1 ∨ z = 2 ∨ z = 3 := by omega
  rcases this with rfl | rfl | rfl
  · exact pt_refuse1 hl hr
  · exact pt_refuse2 hl hr
  · exact pt_refuse3 hl hr
theorem pt_workE (hl : l.stackTraces = false) (hr : rc_ h len tx told x var ga gb) (ht : tk_ len tx) (he : ¬ gr_ tx len len 0 0 ga gb = -1) : FnT l m_pn_work xIA_ rd_pn_work rw_pn_work 1 6 [mv_R 1] h n (fun h' n' => n' = n ∧ fr_ 1 389 h h' ∧ ∃ ga' gb', rc_ h' len tx (gr_ tx len len 0 0 ga gb) x var ga' gb') := by
  have hr0 := hr
  obtain ⟨I, wr, mo, mf, mg, B, V, hV, -⟩ := hr0
  refine fnT_of rfl (Nat.le_of_ble_eq_true rfl) rfl ?_
  refine go_aload_n (q := 1) d_pn_work_0 rfl rfl rfl ?_
  exact go_passV (M' := m_pn_requireExpression) (d := rd_pn_requireExpression) (w := rw_pn_requireExpression) (mc' := 1) (ms' := 6) (as := []) (b := 1) (rest := []) g_pn_work.1 g_pn_requireExpression i_pn_requireExpression v_pn_requireExpression tw_2_75 d_pn_work_1 rfl rfl (pn_c1 hV) rfl (by decide) ⟨by decide, by decide, by decide, by decide⟩ ⟨by decide, by decide⟩ (pt_reqE hl hr ht he) (fun _ _ q => q)
theorem pt_workZ {f : Nat → qv_} {r : Int × qv_} (hl : l.stackTraces = false) (hr : rc_ h len tx told x var ga gb) (ht : tk_ len tx) (he : gr_ tx len len 0 0 ga gb = -1) (hE : Ev tx len var true 0 [] 0 f r) (h0 : ¬ r.1 = 0) : FnT l m_pn_work (xz_ r.1) rd_pn_work rw_pn_work 1 6 [mv_R 1] h n (fun h' n' => n' = n ∧ fr_ 1 389 h h' ∧ ∃ ga' gb', rc_ h' len tx (-1) x var ga' gb') := by
  have hr0 := hr
  obtain ⟨I, wr, mo, mf, mg, B, V, hV, -⟩ := hr0
  refine fnT_of rfl (Nat.le_of_ble_eq_true rfl) rfl ?_
  refine go_aload_n (q := 1) d_pn_work_0 rfl rfl rfl ?_
  refine go_callV (M' := m_pn_requireExpression) (d := rd_pn_requireExpression) (w := rw_pn_requireExpression) (mc := 0) (ms := 0) (as := []) (b := 1) (rest := []) (q := 4) g_pn_requireExpression i_pn_requireExpression v_pn_requireExpression l_pn_52 d_pn_work_1 rfl rfl rfl (pn_c1 hV) rfl (by decide) ⟨by decide, by decide, by decide, by decide⟩ (pc_reqE0 hr ht he) ?_
  rintro w h1 n1 ⟨rfl, rfl, hf1, ga1, gb1, hr1⟩ -
  have hr1' := hr1
  obtain ⟨I1, wr1, mo1, mf1, mg1, B1, V1, hV1, h01, -⟩ := hr1'
  refine go_u0 (sq_wo_4 hV1 ?_)
  rw [h01]
  refine go_callV (M' := m_ma_workOut) (d := rd_ma_workOut) (w := rw_ma_workOut) (mc := 0) (ms := 0) (as := [mv_R 2, mv_I (len : Int)]) (b := 15) (rest := []) (q := 19) g_ma_workOut i_ma_workOut v_ma_workOut l_pn_55 d_pn_work_16 rfl rfl rfl (pn_c15 hV1) rfl (by decide) ⟨by decide, by decide, by decide, by decide⟩ (pc_workOut hr1 ht hE) ?_
  rintro w h2 n2 ⟨rfl, rfl, hf2, I2, wr2, mo2, mf2, mg2, B2, V2, hV2, h02, h12, hg2, hb2, hx2, hw2, hwr2, hv2, hz2⟩ -
  have hr2 : rc_ h2 len tx (-1) x var ga1 gb1 := ⟨I2, wr2, mo2, mf2, mg2, B2, V2, hV2, h02, h12, hg2, hb2, hx2, hw2, hwr2, hv2⟩
  have hrb := ex_b hE
  refine go_u0 ?_
  refine go_passS (M' := m_pn_refuse) (d := rd_pn_refuse) (w := rw_pn_refuse) (mc' := 1) (ms' := 6) (as := [mv_I r.1]) (rest := []) g_pn_work.1 g_pn_refuse s_pn_refuse tw_3_197 d_pn_work_19 rfl rfl (by decide) ⟨by decide, by decide, by decide, by decide⟩ ⟨by decide, by decide⟩ (pt_refuse hl hr2 (by omega)) ?_
  rintro h' n' ⟨rfl, rfl⟩
  exact ⟨rfl, hf1.tr hf2, ga1, gb1, hr2⟩
theorem pt_keepV {v : Int} (hl : l.stackTraces = false) (hr : rc_ h len tx told x var ga gb) (hi : -2147483648 ≤ v ∧ v ≤ 2147483647) (hv : ¬ (0 ≤ v ∧ v < 8)) : FnT l m_pn_keep xIB_ rd_pn_keep rw_pn_keep 1 6 [mv_R 1, mv_I v] h n (fun h' n' => n' = n ∧ h' = h) := by
  refine fnT_of rfl (Nat.le_of_ble_eq_true rfl) rfl ?_
  refine go_iload_n (q := 1) d_pn_keep_0 rfl rfl rfl ?_
  exact go_passS (M' := m_pn_requireVariable) (d := rd_pn_requireVariable) (w := rw_pn_requireVariable) (mc' := 1) (ms' := 6) (as := [mv_I v]) (rest := []) g_pn_keep.1 g_pn_requireVariable s_pn_requireVariable tw_4_38 d_pn_keep_1 rfl rfl (by decide) ⟨by decide, by decide, by decide, by decide⟩ ⟨by decide, by decide⟩ (pt_reqV hl hr hi hv) (fun _ _ q => q)
theorem pt_againstV {v : Int} (hl : l.stackTraces = false) (hr : rc_ h len tx told x var ga gb) (hi : -2147483648 ≤ v ∧ v ≤ 2147483647) (hv : ¬ (0 ≤ v ∧ v < 8)) : FnT l m_pn_against xIB_ rd_pn_against rw_pn_against 1 6 [mv_R 1, mv_I v] h n (fun h' n' => n' = n ∧ h' = h) := by
  refine fnT_of rfl (Nat.le_of_ble_eq_true rfl) rfl ?_
  refine go_iload_n (q := 1) d_pn_against_0 rfl rfl rfl ?_
  exact go_passS (M' := m_pn_requireVariable) (d := rd_pn_requireVariable) (w := rw_pn_requireVariable) (mc' := 1) (ms' := 6) (as := [mv_I v]) (rest := []) g_pn_against.1 g_pn_requireVariable s_pn_requireVariable tw_4_38 d_pn_against_1 rfl rfl (by decide) ⟨by decide, by decide, by decide, by decide⟩ ⟨by decide, by decide⟩ (pt_reqV hl hr hi hv) (fun _ _ q => q)
theorem pt_fetchV {v : Int} (hl : l.stackTraces = false) (hr : rc_ h len tx told x var ga gb) (hi : -2147483648 ≤ v ∧ v ≤ 2147483647) (hv : ¬ (0 ≤ v ∧ v < 8)) : FnT l m_pn_fetch xIB_ rd_pn_fetch rw_pn_fetch 1 6 [mv_R 1, mv_I v] h n (fun h' n' => n' = n ∧ h' = h) := by
  refine fnT_of rfl (Nat.le_of_ble_eq_true rfl) rfl ?_
  refine go_iload_n (q := 1) d_pn_fetch_0 rfl rfl rfl ?_
  exact go_passS (M' := m_pn_requireVariable) (d := rd_pn_requireVariable) (w := rw_pn_requireVariable) (mc' := 1) (ms' := 6) (as := [mv_I v]) (rest := []) g_pn_fetch.1 g_pn_requireVariable s_pn_requireVariable tw_4_38 d_pn_fetch_1 rfl rfl (by decide) ⟨by decide, by decide, by decide, by decide⟩ ⟨by decide, by decide⟩ (pt_reqV hl hr hi hv) (fun _ _ q => q)
theorem pt_keepE {v : Int} (hl : l.stackTraces = false) (hr : rc_ h len tx told x var ga gb) (ht : tk_ len tx) (hv : 0 ≤ v ∧ v < 8) (he : ¬ gr_ tx len len 0 0 ga gb = -1) : FnT l m_pn_keep xIA_ rd_pn_keep rw_pn_keep 1 6 [mv_R 1, mv_I v] h n (fun h' n' => n' = n ∧ fr_ 1 389 h h' ∧ ∃ ga' gb', rc_ h' len tx (gr_ tx len len 0 0 ga gb) x var ga' gb') := by
  have hr0 := hr
  obtain ⟨I, wr, mo, mf, mg, B, V, hV, -⟩ := hr0
  refine fnT_of rfl (Nat.le_of_ble_eq_true rfl) rfl ?_
  refine go_iload_n (q := 1) d_pn_keep_0 rfl rfl rfl ?_
  refine go_callS (M' := m_pn_requireVariable) (d := rd_pn_requireVariable) (w := rw_pn_requireVariable) (mc := 0) (ms := 0) (as := [mv_I v]) (rest := []) (q := 4) g_pn_requireVariable s_pn_requireVariable l_pn_71 d_pn_keep_1 rfl rfl rfl (by decide) ⟨by decide, by decide, by decide, by decide⟩ (pc_reqV hr hv) ?_
  rintro w h1 n1 ⟨rfl, rfl, rfl⟩ -
  refine go_u0 ?_
  refine go_aload_n (q := 5) d_pn_keep_4 rfl rfl rfl ?_
  exact go_passV (M' := m_pn_requireExpression) (d := rd_pn_requireExpression) (w := rw_pn_requireExpression) (mc' := 1) (ms' := 6) (as := []) (b := 1) (rest := []) g_pn_keep.1 g_pn_requireExpression i_pn_requireExpression v_pn_requireExpression tw_2_75 d_pn_keep_5 rfl rfl (pn_c1 hV) rfl (by decide) ⟨by decide, by decide, by decide, by decide⟩ ⟨by decide, by decide⟩ (pt_reqE hl hr ht he) (fun _ _ q => q)
theorem pt_keepZ {v : Int} {f : Nat → qv_} {r : Int × qv_} (hl : l.stackTraces = false) (hr : rc_ h len tx told x var ga gb) (ht : tk_ len tx) (hv : 0 ≤ v ∧ v < 8) (he : gr_ tx len len 0 0 ga gb = -1) (hE : Ev tx len var true 0 [] 0 f r) (h0 : ¬ r.1 = 0) : FnT l m_pn_keep (xz_ r.1) rd_pn_keep rw_pn_keep 1 6 [mv_R 1, mv_I v] h n (fun h' n' => n' = n ∧ fr_ 1 389 h h' ∧ ∃ ga' gb', rc_ h' len tx (-1) x var ga' gb') := by
  have hr0 := hr
  obtain ⟨I, wr, mo, mf, mg, B, V, hV, -⟩ := hr0
  refine fnT_of rfl (Nat.le_of_ble_eq_true rfl) rfl ?_
  refine go_iload_n (q := 1) d_pn_keep_0 rfl rfl rfl ?_
  refine go_callS (M' := m_pn_requireVariable) (d := rd_pn_requireVariable) (w := rw_pn_requireVariable) (mc := 0) (ms := 0) (as := [mv_I v]) (rest := []) (q := 4) g_pn_requireVariable s_pn_requireVariable l_pn_71 d_pn_keep_1 rfl rfl rfl (by decide) ⟨by decide, by decide, by decide, by decide⟩ (pc_reqV hr hv) ?_
  rintro w h1 n1 ⟨rfl, rfl, rfl⟩ -
  refine go_u0 ?_
  refine go_aload_n (q := 5) d_pn_keep_4 rfl rfl rfl ?_
  refine go_callV (M' := m_pn_requireExpression) (d := rd_pn_requireExpression) (w := rw_pn_requireExpression) (mc := 0) (ms := 0) (as := []) (b := 1) (rest := []) (q := 8) g_pn_requireExpression i_pn_requireExpression v_pn_requireExpression l_pn_52 d_pn_keep_5 rfl rfl rfl (pn_c1 hV) rfl (by decide) ⟨by decide, by decide, by decide, by decide⟩ (pc_reqE0 hr ht he) ?_
  rintro w h1 n1 ⟨rfl, rfl, hf1, ga1, gb1, hr1⟩ -
  have hr1' := hr1
  obtain ⟨I1, wr1, mo1, mf1, mg1, B1, V1, hV1, h01, -⟩ := hr1'
  refine go_u0 (sq_ke_8 hV1 ?_)
  rw [h01]
  refine go_callV (M' := m_ma_workOut) (d := rd_ma_workOut) (w := rw_ma_workOut) (mc := 0) (ms := 0) (as := [mv_R 2, mv_I (len : Int)]) (b := 15) (rest := []) (q := 23) g_ma_workOut i_ma_workOut v_ma_workOut l_pn_55 d_pn_keep_20 rfl rfl rfl (pn_c15 hV1) rfl (by decide) ⟨by decide, by decide, by decide, by decide⟩ (pc_workOut hr1 ht hE) ?_
  rintro w h2 n2 ⟨rfl, rfl, hf2, I2, wr2, mo2, mf2, mg2, B2, V2, hV2, h02, h12, hg2, hb2, hx2, hw2, hwr2, hv2, hz2⟩ -
  have hr2 : rc_ h2 len tx (-1) x var ga1 gb1 := ⟨I2, wr2, mo2, mf2, mg2, B2, V2, hV2, h02, h12, hg2, hb2, hx2, hw2, hwr2, hv2⟩
  have hrb := ex_b hE
  refine go_u0 ?_
  refine go_passS (M' := m_pn_refuse) (d := rd_pn_refuse) (w := rw_pn_refuse) (mc' := 1) (ms' := 6) (as := [mv_I r.1]) (rest := []) g_pn_keep.1 g_pn_refuse s_pn_refuse tw_3_197 d_pn_keep_23 rfl rfl (by decide) ⟨by decide, by decide, by decide, by decide⟩ ⟨by decide, by decide⟩ (pt_refuse hl hr2 (by omega)) ?_
  rintro h' n' ⟨rfl, rfl⟩
  exact ⟨rfl, hf1.tr hf2, ga1, gb1, hr2⟩
end ThrPc
