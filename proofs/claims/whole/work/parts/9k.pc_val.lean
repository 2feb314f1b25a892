/-! the class's public methods where they don't throw, on the state as the law sees it -/
def rc_ (h : mv_H) (len : Nat) (tx : Nat → Int) (told : Int) (x : qv_) (var : Nat → qv_) (ga gb : Nat → Int) : Prop :=
  ∃ (I wr mo mf mg : Nat → Int) (B : Nat → Int) (V : Nat → Nat), pn_V h (I, tx, wr, ga, gb, mo, mf, mg) B V ∧ I 0 = (len : Int) ∧ I 1 = told ∧ (∀ i, 0 ≤ ga i ∧ ga i ≤ 12) ∧ (∀ i, 0 ≤ gb i ∧ gb i ≤ 120) ∧ kq_ B V 3 = x ∧ wf_ B V 3 ∧ wrv_ (I 2) wr x ∧ ∀ v, v < 8 → kq_ B V (50 + 5 * v) = var v ∧ wf_ B V (50 + 5 * v)
section PcVal
variable {φ : go_F} {l : Launch} {h : mv_H} {n : Nat} {told : Int} {len : Nat} {tx ga gb : Nat → Int} {x : qv_} {var : Nat → qv_}
theorem pc_type {z : Int} {k : Nat} (hr : rc_ h len tx told x var ga gb) (ht : tk_ len tx) (hn : nb_ z k) : Fn l m_pn_type rd_pn_type rw_pn_type 0 0 [mv_R 1, mv_L z] h n
    (fun w h' n' => n' = n ∧ fr_ 1 389 h h' ∧ (((gd_ z k ∧ len + k ≤ 120) ∧ w = some (mv_I 1) ∧ rc_ h' (len + k) (tu_ tx len z k) told x var ga gb) ∨ (¬ (gd_ z k ∧ len + k ≤ 120) ∧ w = some (mv_I 0) ∧ rc_ h' len tx told x var ga gb))) := by
  obtain ⟨I, wr, mo, mf, mg, B, V, hV, h0, h1, hg, hb, hx, hw, hwr, hv⟩ := hr
  refine fn_mono (tp_type hV ⟨h0, ht.1⟩ hn) ?_
  rintro w h' n' ⟨rfl, hf, ⟨hgd, rfl, hV'⟩ | ⟨hgd, rfl, hV'⟩⟩
  · exact ⟨rfl, hf, Or.inl ⟨hgd, rfl, _, wr, mo, mf, mg, B, V, hV', va_up_self _ _ _, by rw [va_up_ne _ _ (by decide)]; exact h1, hg, hb, hx, hw, by rw [va_up_ne _ _ (by decide)]; exact hwr, hv⟩⟩
  · exact ⟨rfl, hf, Or.inr ⟨hgd, rfl, I, wr, mo, mf, mg, B, V, hV', h0, h1, hg, hb, hx, hw, hwr, hv⟩⟩
theorem pc_erase (hr : rc_ h len tx told x var ga gb) : Fn l m_pn_erase rd_pn_erase rw_pn_erase 0 0 [mv_R 1] h n (fun w h' n' => w = some (mv_I (len : Int)) ∧ n' = n ∧ fr_ 1 389 h h' ∧ rc_ h' 0 tx told x var ga gb) := by
  obtain ⟨I, wr, mo, mf, mg, B, V, hV, h0, h1, hg, hb, hx, hw, hwr, hv⟩ := hr
  refine fn_mono (tp_erase hV) ?_
  rintro w h' n' ⟨rfl, rfl, hf, hV'⟩
  exact ⟨by rw [h0], rfl, hf, _, wr, mo, mf, mg, B, V, hV', va_up_self _ _ _, by rw [va_up_ne _ _ (by decide)]; exact h1, hg, hb, hx, hw, by rw [va_up_ne _ _ (by decide)]; exact hwr, hv⟩
theorem pc_fault (hr : rc_ h len tx told x var ga gb) : Fn l m_pn_fault rd_pn_fault rw_pn_fault 0 0 [mv_R 1] h n (fun w h' n' => w = some (mv_I told) ∧ n' = n ∧ h' = h) := by
  obtain ⟨I, wr, mo, mf, mg, B, V, hV, h0, h1, -⟩ := hr
  refine fn_mono (tp_fault hV) ?_
  rintro w h' n' ⟨rfl, rfl, rfl⟩
  exact ⟨by rw [h1], rfl, rfl⟩
theorem pc_form (hr : rc_ h len tx told x var ga gb) : Fn l m_pn_form rd_pn_form rw_pn_form 0 0 [mv_R 1] h n (fun w h' n' => w = some (mv_I (q_form x)) ∧ n' = n ∧ h' = h) := by
  obtain ⟨I, wr, mo, mf, mg, B, V, hV, h0, h1, hg, hb, hx, hw, hwr, hv⟩ := hr
  refine fn_mono (tp_form hV) ?_
  rintro w h' n' ⟨rfl, rfl, rfl⟩
  exact ⟨by rw [hx], rfl, rfl⟩
theorem pc_sign (hr : rc_ h len tx told x var ga gb) : Fn l m_pn_sign rd_pn_sign rw_pn_sign 0 0 [mv_R 1] h n (fun w h' n' => w = some (mv_I x.1) ∧ n' = n ∧ h' = h) := by
  obtain ⟨I, wr, mo, mf, mg, B, V, hV, h0, h1, hg, hb, hx, hw, hwr, hv⟩ := hr
  refine fn_mono (tp_sign hV hw) ?_
  rintro w h' n' ⟨rfl, rfl, rfl⟩
  exact ⟨by rw [hx], rfl, rfl⟩
theorem pc_digit {i : Int} (hr : rc_ h len tx told x var ga gb) (hi : -2147483648 ≤ i ∧ i ≤ 2147483647) : Fn l m_pn_digit rd_pn_digit rw_pn_digit 0 0 [mv_R 1, mv_I i] h n (fun w h' n' => (∃ L K, Dl x.2.1 L ∧ Dl x.2.2 K ∧ w = some (mv_I (di_ x.1 x.2.1 x.2.2 L K i))) ∧ n' = n ∧ h' = h) := by
  obtain ⟨I, wr, mo, mf, mg, B, V, hV, h0, h1, hg, hb, hx, hw, hwr, hv⟩ := hr
  exact tp_digit hV hwr hi
theorem pc_bits {p i : Int} (hr : rc_ h len tx told x var ga gb) (hp : -2147483648 ≤ p ∧ p ≤ 2147483647) (hi : -2147483648 ≤ i ∧ i ≤ 2147483647) : Fn l m_pn_bits rd_pn_bits rw_pn_bits 0 0 [mv_R 1, mv_I p, mv_I i] h n (fun w h' n' => w = some (mv_I (bw_ (if p = 0 then x.2.1 else x.2.2) i)) ∧ n' = n ∧ h' = h) := by
  obtain ⟨I, wr, mo, mf, mg, B, V, hV, h0, h1, hg, hb, hx, hw, hwr, hv⟩ := hr
  refine fn_mono (tp_bits hV hp hi) ?_
  rintro w h' n' ⟨rfl, rfl, rfl⟩
  refine ⟨?_, rfl, rfl⟩
  rw [← hx]
  rfl
/-! what may throw, where it doesn't -/
theorem pc_reqV {v : Int} (hr : rc_ h len tx told x var ga gb) (hv : 0 ≤ v ∧ v < 8) : Fn l m_pn_requireVariable rd_pn_requireVariable rw_pn_requireVariable 0 0 [mv_I v] h n (fun w h' n' => w = none ∧ n' = n ∧ h' = h) := by
  obtain ⟨I, wr, mo, mf, mg, B, V, hV, -⟩ := hr
  refine fn_of rfl (Nat.le_of_ble_eq_true rfl) rfl ?_
  refine sp_rv hV (by omega) (fun c => by omega) (fun _ _ => ?_) (fun _ c => by omega)
  exact go_vret d_pn_requireVariable_18 rfl go_le0 ⟨rfl, rfl, rfl⟩
theorem pc_refuse0 (hr : rc_ h len tx told x var ga gb) : Fn l m_pn_refuse rd_pn_refuse rw_pn_refuse 0 0 [mv_I 0] h n (fun w h' n' => w = none ∧ n' = n ∧ h' = h) := by
  obtain ⟨I, wr, mo, mf, mg, B, V, hV, -⟩ := hr
  refine fn_of rfl (Nat.le_of_ble_eq_true rfl) rfl ?_
  refine sp_rf hV (by decide) (fun _ _ _ => ?_) (fun _ _ z => absurd z (by decide)) (fun _ z => absurd z (by decide)) (fun z => absurd z (by decide))
  exact go_vret d_pn_refuse_39 rfl go_le0 ⟨rfl, rfl, rfl⟩
/-- the fault is found; then 35 (an expression) or 27 -/
theorem pc_reqE (hr : rc_ h len tx told x var ga gb) (ht : tk_ len tx) (k : ∀ (h' : mv_H) (ga' gb' : Nat → Int), fr_ 1 389 h h' → rc_ h' len tx (gr_ tx len len 0 0 ga gb) x var ga' gb' → Go φ l m_pn_requireExpression (go_rm rd_pn_requireExpression rw_pn_requireExpression 0 0) (0, 0) (if gr_ tx len len 0 0 ga gb = -1 then 35 else 27) [some (mv_R 1)] [] h' n) :
    Go φ l m_pn_requireExpression (go_rm rd_pn_requireExpression rw_pn_requireExpression 0 0) (0, 0) 0 [some (mv_R 1)] [] h n := by
  obtain ⟨I, wr, mo, mf, mg, B, V, hV, h0, h1, hg, hb, hx, hw, hwr, hv⟩ := hr
  refine sp_re_0 hV ?_
  rw [h0]
  refine go_callV (M' := m_gr_faultOf) (d := rd_gr_faultOf) (w := rw_gr_faultOf) (mc := 0) (ms := 0) (as := [mv_R 2, mv_I (len : Int)]) (b := 12) (rest := [mv_R 1]) (q := 16) g_gr_faultOf i_gr_faultOf v_gr_faultOf l_pn_119 d_pn_requireExpression_13 rfl rfl rfl (pn_c12 hV) rfl (by decide) ⟨by decide, by decide, by decide, by decide⟩ (tg_faultOf hV ht.1 ht.2.1 hg hb) ?_
  rintro w h3 n3 ⟨rfl, rfl, hf3, I3, ga3, gb3, hI3, hg3, hb3, hV3⟩ -
  have hgb := gr_b (t := tx) (len := len) len 0 0 ga gb
  have ht1 := ht.1
  have hrc : ∀ h4, pn_V h4 (va_up I3 1 (gr_ tx len len 0 0 ga gb), tx, wr, ga3, gb3, mo, mf, mg) B V → rc_ h4 len tx (gr_ tx len len 0 0 ga gb) x var ga3 gb3 := fun h4 hV4 =>
    ⟨_, wr, mo, mf, mg, B, V, hV4, by rw [va_up_ne _ _ (by decide), hI3 0 (by decide)]; exact h0, va_up_self _ _ _, hg3, hb3, hx, hw, by rw [va_up_ne _ _ (by decide), hI3 2 (by decide)]; exact hwr, hv⟩
  refine go_u0 (sp_re_16 hV3 (by omega) (fun c h4 hV4 hf4 => ?_) (fun c h4 hV4 hf4 => ?_))
  · have := k h4 ga3 gb3 (hf3.tr hf4) (hrc h4 hV4)
    rw [if_pos c] at this
    exact this
  · have := k h4 ga3 gb3 (hf3.tr hf4) (hrc h4 hV4)
    rw [if_neg c] at this
    exact this
theorem pc_reqE0 (hr : rc_ h len tx told x var ga gb) (ht : tk_ len tx) (he : gr_ tx len len 0 0 ga gb = -1) : Fn l m_pn_requireExpression rd_pn_requireExpression rw_pn_requireExpression 0 0 [mv_R 1] h n (fun w h' n' => w = none ∧ n' = n ∧ fr_ 1 389 h h' ∧ ∃ ga' gb', rc_ h' len tx (-1) x var ga' gb') := by
  refine fn_of rfl (Nat.le_of_ble_eq_true rfl) rfl ?_
  refine pc_reqE hr ht (fun h' ga' gb' hf hr' => ?_)
  rw [if_pos he]
  rw [he] at hr'
  exact go_vret d_pn_requireExpression_35 rfl go_le0 ⟨rfl, rfl, hf, ga', gb', hr'⟩
/-- behind workOut -/
def wc_ (h : mv_H) (n : Nat) (len : Nat) (tx : Nat → Int) (told : Int) (x : qv_) (var : Nat → qv_) (ga gb : Nat → Int) (r : Int × qv_) (w : Option mv_V) (h' : mv_H) (n' : Nat) : Prop :=
  w = some (mv_I r.1) ∧ n' = n ∧ fr_ 1 389 h h' ∧ ∃ (I wr mo mf mg : Nat → Int) (B : Nat → Int) (V : Nat → Nat), pn_V h' (I, tx, wr, ga, gb, mo, mf, mg) B V ∧ I 0 = (len : Int) ∧ I 1 = told ∧ (∀ i, 0 ≤ ga i ∧ ga i ≤ 12) ∧ (∀ i, 0 ≤ gb i ∧ gb i ≤ 120) ∧ kq_ B V 3 = x ∧ wf_ B V 3 ∧ wrv_ (I 2) wr x ∧ (∀ v, v < 8 → kq_ B V (50 + 5 * v) = var v ∧ wf_ B V (50 + 5 * v)) ∧ (r.1 = 0 → kq_ B V 90 = r.2 ∧ wf_ B V 90)
theorem pc_workOut {f : Nat → qv_} {r : Int × qv_} (hr : rc_ h len tx told x var ga gb) (ht : tk_ len tx) (hE : Ev tx len var true 0 [] 0 f r) : Fn l m_ma_workOut rd_ma_workOut rw_ma_workOut 0 0 [mv_R 15, mv_R 2, mv_I (len : Int)] h n (wc_ h n len tx told x var ga gb r) := by
  obtain ⟨I, wr, mo, mf, mg, B, V, hV, h0, h1, hg, hb, hx, hw, hwr, hv⟩ := hr
  refine fn_mono (tn_workOut hV ht.2.1 ht.1 hv hE) ?_
  rintro w h' n' ⟨rfl, rfl, hf, I', mo', mf', mg', B', V', hV', hI', hu, hz⟩
  have e1 : B' 3 = B 3 := hu.2 3 (by decide)
  have e2 : V' (3 + 1) = V (3 + 1) := hu.1 4 (by decide)
  have e3 : V' (3 + 3) = V (3 + 3) := hu.1 6 (by decide)
  exact ⟨rfl, rfl, hf, I', wr, mo', mf', mg', B', V', hV', (hI' 0 (by decide) (by decide)).trans h0, (hI' 1 (by decide) (by decide)).trans h1, hg, hb, (kq_ext e1 e2 e3).trans hx, wf_ext e1 e2 e3 hw, by rw [hI' 2 (by decide) (by decide)]; exact hwr, un_var hu hv, hz⟩
theorem tn_value {I wr mo mf mg : Nat → Int} {B : Nat → Int} {V : Nat → Nat} (hV : pn_V h (I, tx, wr, ga, gb, mo, mf, mg) B V) : Fn l m_ma_value rd_ma_value rw_ma_value 0 0 [mv_R 15] h n (fun w h' n' => w = some (mv_R 90) ∧ n' = n ∧ h' = h) := by
  refine fn_of rfl (Nat.le_of_ble_eq_true rfl) rfl ?_
  exact sn_val hV (go_aret d_ma_value_6 rfl go_le0 ⟨rfl, rfl, rfl⟩)
/-- settle, on the state as the law sees it -/
theorem pc_settle {I wr mo mf mg : Nat → Int} {B : Nat → Int} {V : Nat → Nat} {a : Nat} {y : qv_} (hV : pn_V h (I, tx, wr, ga, gb, mo, mf, mg) B V) (ha : 50 ≤ a ∧ a < 390 ∧ a % 5 = 0) (hw : wf_ B V a) (hy : kq_ B V a = y) (h0 : I 0 = (len : Int)) (h1 : I 1 = told) (hg : ∀ i, 0 ≤ ga i ∧ ga i ≤ 12) (hb : ∀ i, 0 ≤ gb i ∧ gb i ≤ 120) (hv : ∀ v, v < 8 → kq_ B V (50 + 5 * v) = var v ∧ wf_ B V (50 + 5 * v)) :
    Fn l m_pn_settle rd_pn_settle rw_pn_settle 0 0 [mv_R 1, mv_R a] h n (fun w h' n' => w = some (mv_I (q_form y)) ∧ n' = n ∧ fr_ 1 389 h h' ∧ rc_ h' len tx told y var ga gb) := by
  refine fn_mono (tp_settle hV ha hw) ?_
  rintro w h' n' ⟨rfl, rfl, hf, I', wr', B', V', hV', hI', hB', hW', hk', hw', hwr'⟩
  rw [hy] at hwr' hk' ⊢
  refine ⟨rfl, rfl, hf, I', wr', mo, mf, mg, B', V', hV', (hI' 0 (by decide)).trans h0, (hI' 1 (by decide)).trans h1, hg, hb, hk', hw', hwr', fun v hv8 => ?_⟩
  have e1 : B' (50 + 5 * v) = B (50 + 5 * v) := hB' _ (by omega)
  have e2 : V' (50 + 5 * v + 1) = V (50 + 5 * v + 1) := hW' _ (by omega) (by omega) (by omega)
  have e3 : V' (50 + 5 * v + 3) = V (50 + 5 * v + 3) := hW' _ (by omega) (by omega) (by omega)
  exact ⟨(kq_ext e1 e2 e3).trans (hv v hv8).1, wf_ext e1 e2 e3 (hv v hv8).2⟩
theorem pc_work0 {f : Nat → qv_} {r : Int × qv_} (hr : rc_ h len tx told x var ga gb) (ht : tk_ len tx) (he : gr_ tx len len 0 0 ga gb = -1) (hE : Ev tx len var true 0 [] 0 f r) (h0 : r.1 = 0) : Fn l m_pn_work rd_pn_work rw_pn_work 0 0 [mv_R 1] h n (fun w h' n' => w = some (mv_I (q_form r.2)) ∧ n' = n ∧ fr_ 1 389 h h' ∧ ∃ ga' gb', rc_ h' len tx (-1) r.2 var ga' gb') := by
  refine fn_of rfl (Nat.le_of_ble_eq_true rfl) rfl ?_
  have hr0 := hr
  obtain ⟨I, wr, mo, mf, mg, B, V, hV, -⟩ := hr0
  refine go_aload_n (q := 1) d_pn_work_0 rfl rfl rfl ?_
  refine go_callV (M' := m_pn_requireExpression) (d := rd_pn_requireExpression) (w := rw_pn_requireExpression) (mc := 0) (ms := 0) (as := []) (b := 1) (rest := []) (q := 4) g_pn_requireExpression i_pn_requireExpression v_pn_requireExpression l_pn_52 d_pn_work_1 rfl rfl rfl (pn_c1 hV) rfl (by decide) ⟨by decide, by decide, by decide, by decide⟩ (pc_reqE0 hr ht he) ?_
  rintro w h1 n1 ⟨rfl, rfl, hf1, ga1, gb1, hr1⟩ -
  have hr1' := hr1
  obtain ⟨I1, wr1, mo1, mf1, mg1, B1, V1, hV1, h01, -⟩ := hr1'
  refine go_u0 (sp_wo_4 hV1 ?_)
  rw [h01]
  refine go_callV (M' := m_ma_workOut) (d := rd_ma_workOut) (w := rw_ma_workOut) (mc := 0) (ms := 0) (as := [mv_R 2, mv_I (len : Int)]) (b := 15) (rest := []) (q := 19) g_ma_workOut i_ma_workOut v_ma_workOut l_pn_55 d_pn_work_16 rfl rfl rfl (pn_c15 hV1) rfl (by decide) ⟨by decide, by decide, by decide, by decide⟩ (pc_workOut hr1 ht hE) ?_
  rintro w h2 n2 ⟨rfl, rfl, hf2, I2, wr2, mo2, mf2, mg2, B2, V2, hV2, h02, h12, hg2, hb2, hx2, hw2, hwr2, hv2, hz2⟩ -
  obtain ⟨z1, z2⟩ := hz2 h0
  have hr2 : rc_ h2 len tx (-1) x var ga1 gb1 := ⟨I2, wr2, mo2, mf2, mg2, B2, V2, hV2, h02, h12, hg2, hb2, hx2, hw2, hwr2, hv2⟩
  refine go_u0 ?_
  rw [h0]
  refine go_callS (M' := m_pn_refuse) (d := rd_pn_refuse) (w := rw_pn_refuse) (mc := 0) (ms := 0) (as := [mv_I 0]) (rest := []) (q := 22) g_pn_refuse s_pn_refuse l_pn_59 d_pn_work_19 rfl rfl rfl (by decide) ⟨by decide, by decide, by decide, by decide⟩ (pc_refuse0 hr2) ?_
  rintro w h3 n3 ⟨rfl, rfl, rfl⟩ -
  refine go_u0 (sp_wo_22 hV2 ?_)
  refine go_callV (M' := m_ma_value) (d := rd_ma_value) (w := rw_ma_value) (mc := 0) (ms := 0) (as := []) (b := 15) (rest := [mv_R 1]) (q := 30) g_ma_value i_ma_value v_ma_value l_pn_63 d_pn_work_27 rfl rfl rfl (pn_c15 hV2) rfl (by decide) ⟨by decide, by decide, by decide, by decide⟩ (tn_value hV2) ?_
  rintro w h4 n4 ⟨rfl, rfl, rfl⟩ -
  refine go_u0 ?_
  refine go_callV (M' := m_pn_settle) (d := rd_pn_settle) (w := rw_pn_settle) (mc := 0) (ms := 0) (as := [mv_R 90]) (b := 1) (rest := []) (q := 33) g_pn_settle i_pn_settle v_pn_settle l_pn_67 d_pn_work_30 rfl rfl rfl (pn_c1 hV2) rfl (by decide) ⟨by decide, by decide, by decide, by decide⟩ (pc_settle hV2 (by decide) z2 z1 h02 h12 hg2 hb2 hv2) ?_
  rintro w h5 n5 ⟨rfl, rfl, hf5, hr5⟩ -
  exact go_u0 (go_iret d_pn_work_33 rfl go_le0 ⟨rfl, rfl, hf1.tr (hf2.tr hf5), ga1, gb1, hr5⟩)
theorem pc_keep0 {v : Int} {f : Nat → qv_} {r : Int × qv_} (hr : rc_ h len tx told x var ga gb) (ht : tk_ len tx) (hv : 0 ≤ v ∧ v < 8) (he : gr_ tx len len 0 0 ga gb = -1) (hE : Ev tx len var true 0 [] 0 f r) (h0 : r.1 = 0) : Fn l m_pn_keep rd_pn_keep rw_pn_keep 0 0 [mv_R 1, mv_I v] h n (fun w h' n' => w = some (mv_I (q_form r.2)) ∧ n' = n ∧ fr_ 1 389 h h' ∧ ∃ ga' gb', rc_ h' 0 tx (-1) r.2 (va_up var v.toNat r.2) ga' gb') := by
  refine fn_of rfl (Nat.le_of_ble_eq_true rfl) rfl ?_
  obtain ⟨k, hk⟩ : ∃ k : Nat, v = (k : Int) := ⟨v.toNat, by omega⟩
  subst hk
  have hk8 : k < 8 := by omega
  have hr0 := hr
  obtain ⟨I, wr, mo, mf, mg, B, V, hV, -⟩ := hr0
  refine go_iload_n (q := 1) d_pn_keep_0 rfl rfl rfl ?_
  refine go_callS (M' := m_pn_requireVariable) (d := rd_pn_requireVariable) (w := rw_pn_requireVariable) (mc := 0) (ms := 0) (as := [mv_I (k : Int)]) (rest := []) (q := 4) g_pn_requireVariable s_pn_requireVariable l_pn_71 d_pn_keep_1 rfl rfl rfl (by decide) ⟨by decide, by decide, by decide, by decide⟩ (pc_reqV hr hv) ?_
  rintro w h1 n1 ⟨rfl, rfl, rfl⟩ -
  refine go_u0 ?_
  refine go_aload_n (q := 5) d_pn_keep_4 rfl rfl rfl ?_
  refine go_callV (M' := m_pn_requireExpression) (d := rd_pn_requireExpression) (w := rw_pn_requireExpression) (mc := 0) (ms := 0) (as := []) (b := 1) (rest := []) (q := 8) g_pn_requireExpression i_pn_requireExpression v_pn_requireExpression l_pn_52 d_pn_keep_5 rfl rfl rfl (pn_c1 hV) rfl (by decide) ⟨by decide, by decide, by decide, by decide⟩ (pc_reqE0 hr ht he) ?_
  rintro w h1 n1 ⟨rfl, rfl, hf1, ga1, gb1, hr1⟩ -
  have hr1' := hr1
  obtain ⟨I1, wr1, mo1, mf1, mg1, B1, V1, hV1, h01, -⟩ := hr1'
  refine go_u0 (sp_ke_8 hV1 ?_)
  rw [h01]
  refine go_callV (M' := m_ma_workOut) (d := rd_ma_workOut) (w := rw_ma_workOut) (mc := 0) (ms := 0) (as := [mv_R 2, mv_I (len : Int)]) (b := 15) (rest := []) (q := 23) g_ma_workOut i_ma_workOut v_ma_workOut l_pn_55 d_pn_keep_20 rfl rfl rfl (pn_c15 hV1) rfl (by decide) ⟨by decide, by decide, by decide, by decide⟩ (pc_workOut hr1 ht hE) ?_
  rintro w h2 n2 ⟨rfl, rfl, hf2, I2, wr2, mo2, mf2, mg2, B2, V2, hV2, h02, h12, hg2, hb2, hx2, hw2, hwr2, hv2, hz2⟩ -
  obtain ⟨z1, z2⟩ := hz2 h0
  have hr2 : rc_ h2 len tx (-1) x var ga1 gb1 := ⟨I2, wr2, mo2, mf2, mg2, B2, V2, hV2, h02, h12, hg2, hb2, hx2, hw2, hwr2, hv2⟩
  refine go_u0 ?_
  rw [h0]
  refine go_callS (M' := m_pn_refuse) (d := rd_pn_refuse) (w := rw_pn_refuse) (mc := 0) (ms := 0) (as := [mv_I 0]) (rest := []) (q := 26) g_pn_refuse s_pn_refuse l_pn_59 d_pn_keep_23 rfl rfl rfl (by decide) ⟨by decide, by decide, by decide, by decide⟩ (pc_refuse0 hr2) ?_
  rintro w h3 n3 ⟨rfl, rfl, rfl⟩ -
  refine go_u0 (sp_ke_26 hV2 hk8 ?_)
  refine go_callV (M' := m_ma_value) (d := rd_ma_value) (w := rw_ma_value) (mc := 0) (ms := 0) (as := []) (b := 15) (rest := [mv_R (50 + 5 * k)]) (q := 42) g_ma_value i_ma_value v_ma_value l_pn_63 d_pn_keep_39 rfl rfl rfl (pn_c15 hV2) rfl (Nat.le_of_ble_eq_true rfl) ⟨by decide, by decide, by decide, by decide⟩ (tn_value hV2) ?_
  rintro w h4 n4 ⟨rfl, rfl, rfl⟩ -
  refine go_u0 (sp_ke_42 hV2 hk8 (fun h5 hV5 hf5 => ?_))
  refine go_callV (M' := m_ma_value) (d := rd_ma_value) (w := rw_ma_value) (mc := 0) (ms := 0) (as := []) (b := 15) (rest := [mv_R 1]) (q := 58) g_ma_value i_ma_value v_ma_value l_pn_63 d_pn_keep_55 rfl rfl rfl (pn_c15 hV5) rfl (by decide) ⟨by decide, by decide, by decide, by decide⟩ (tn_value hV5) ?_
  rintro w h6 n6 ⟨rfl, rfl, rfl⟩ -
  have e90 : kq_ (va_up B2 (50 + 5 * k) (B2 90)) (va_up (va_up V2 (50 + 5 * k + 1) (V2 91)) (50 + 5 * k + 3) (V2 93)) 90 = r.2 := by
    rw [← z1]
    exact kq_ext (va_up_ne _ _ (by omega)) (by rw [va_up_ne _ _ (by omega), va_up_ne _ _ (by omega)]) (by rw [va_up_ne _ _ (by omega), va_up_ne _ _ (by omega)])
  have w90 : wf_ (va_up B2 (50 + 5 * k) (B2 90)) (va_up (va_up V2 (50 + 5 * k + 1) (V2 91)) (50 + 5 * k + 3) (V2 93)) 90 :=
    wf_ext (va_up_ne _ _ (by omega)) (by rw [va_up_ne _ _ (by omega), va_up_ne _ _ (by omega)]) (by rw [va_up_ne _ _ (by omega), va_up_ne _ _ (by omega)]) z2
  refine go_u0 ?_
  refine go_callV (M' := m_pn_settle) (d := rd_pn_settle) (w := rw_pn_settle) (mc := 0) (ms := 0) (as := [mv_R 90]) (b := 1) (rest := []) (q := 61) g_pn_settle i_pn_settle v_pn_settle l_pn_67 d_pn_keep_58 rfl rfl rfl (pn_c1 hV5) rfl (by decide) ⟨by decide, by decide, by decide, by decide⟩ (pc_settle (len := 0) (told := -1) (var := va_up var k r.2) hV5 (by decide) w90 e90 (va_up_self _ _ _) (by rw [va_up_ne _ _ (by decide)]; exact h12) hg2 hb2 (fun v hv8 => ?_)) ?_
  · by_cases e : v = k
    · subst e
      rw [va_up_self]
      have ek : kq_ (va_up B2 (50 + 5 * v) (B2 90)) (va_up (va_up V2 (50 + 5 * v + 1) (V2 91)) (50 + 5 * v + 3) (V2 93)) (50 + 5 * v) = kq_ B2 V2 90 := kq_at (by rw [va_up_ne _ _ (by omega), va_up_self]) (va_up_self _ _ _) (va_up_self _ _ _)
      refine ⟨ek.trans z1, by rw [ek]; exact z2.1, ?_⟩
      rw [va_up_ne _ _ (by omega), va_up_self, va_up_self]
      exact z2.2
    · rw [va_up_ne _ _ e]
      have e1 : va_up B2 (50 + 5 * k) (B2 90) (50 + 5 * v) = B2 (50 + 5 * v) := va_up_ne _ _ (by omega)
      have e2 : va_up (va_up V2 (50 + 5 * k + 1) (V2 91)) (50 + 5 * k + 3) (V2 93) (50 + 5 * v + 1) = V2 (50 + 5 * v + 1) := by rw [va_up_ne _ _ (by omega), va_up_ne _ _ (by omega)]
      have e3 : va_up (va_up V2 (50 + 5 * k + 1) (V2 91)) (50 + 5 * k + 3) (V2 93) (50 + 5 * v + 3) = V2 (50 + 5 * v + 3) := by rw [va_up_ne _ _ (by omega), va_up_ne _ _ (by omega)]
      exact ⟨(kq_ext e1 e2 e3).trans (hv2 v hv8).1, wf_ext e1 e2 e3 (hv2 v hv8).2⟩
  · rintro w h7 n7 ⟨rfl, rfl, hf7, hr7⟩ -
    exact go_u0 (go_iret d_pn_keep_61 rfl go_le0 ⟨rfl, rfl, hf1.tr (hf2.tr (hf5.tr hf7)), ga1, gb1, by rw [Int.toNat_natCast]; exact hr7⟩)
theorem pc_against0 {v : Int} (hr : rc_ h len tx told x var ga gb) (hv : 0 ≤ v ∧ v < 8) : Fn l m_pn_against rd_pn_against rw_pn_against 0 0 [mv_R 1, mv_I v] h n (fun w h' n' => w = some (mv_I (q_ord x (var v.toNat))) ∧ n' = n ∧ fr_ 1 389 h h' ∧ rc_ h' len tx told x var ga gb) := by
  refine fn_of rfl (Nat.le_of_ble_eq_true rfl) rfl ?_
  obtain ⟨k, hk⟩ : ∃ k : Nat, v = (k : Int) := ⟨v.toNat, by omega⟩
  subst hk
  have hr0 := hr
  obtain ⟨I, wr, mo, mf, mg, B, V, hV, h0, h1, hg, hb, hx, hw, hwr, hv8⟩ := hr0
  obtain ⟨v1, v2⟩ := hv8 k (by omega)
  refine go_iload_n (q := 1) d_pn_against_0 rfl rfl rfl ?_
  refine go_callS (M' := m_pn_requireVariable) (d := rd_pn_requireVariable) (w := rw_pn_requireVariable) (mc := 0) (ms := 0) (as := [mv_I (k : Int)]) (rest := []) (q := 4) g_pn_requireVariable s_pn_requireVariable l_pn_71 d_pn_against_1 rfl rfl rfl (by decide) ⟨by decide, by decide, by decide, by decide⟩ (pc_reqV hr hv) ?_
  rintro w h1' n1 ⟨rfl, rfl, rfl⟩ -
  refine go_u0 (sp_ag_4 hV (by omega) ?_)
  refine go_callV (M' := m_ca_compare) (d := rd_ca_compare) (w := rw_ca_compare) (mc := 0) (ms := 0) (as := [mv_R 3, mv_R (50 + 5 * k)]) (b := 16) (rest := []) (q := 27) g_ca_compare i_ca_compare v_ca_compare l_pn_110 d_pn_against_24 rfl rfl rfl (pn_c16 hV) rfl (by decide) ⟨by decide, by decide, by decide, by decide⟩ (tk_compare hV fa_r (fa_v (by omega)) hw v2) ?_
  rintro w h2 n2 ⟨rfl, rfl, hf2, V', hV2, hW⟩ -
  refine go_u0 (go_iret d_pn_against_27 rfl go_le0 ⟨by rw [hx, v1, Int.toNat_natCast], rfl, hf2, I, wr, mo, mf, mg, B, V', hV2, h0, h1, hg, hb, (kq_ext rfl (hW _ (by decide)) (hW _ (by decide))).trans hx, wf_ext rfl (hW _ (by decide)) (hW _ (by decide)) hw, hwr, fun v hv9 => ⟨(kq_ext rfl (hW _ (by omega)) (hW _ (by omega))).trans (hv8 v hv9).1, wf_ext rfl (hW _ (by omega)) (hW _ (by omega)) (hv8 v hv9).2⟩⟩)
theorem pc_fetch0 {v : Int} (hr : rc_ h len tx told x var ga gb) (hv : 0 ≤ v ∧ v < 8) : Fn l m_pn_fetch rd_pn_fetch rw_pn_fetch 0 0 [mv_R 1, mv_I v] h n (fun w h' n' => w = some (mv_I (q_form (var v.toNat))) ∧ n' = n ∧ fr_ 1 389 h h' ∧ rc_ h' len tx told (var v.toNat) var ga gb) := by
  refine fn_of rfl (Nat.le_of_ble_eq_true rfl) rfl ?_
  obtain ⟨k, hk⟩ : ∃ k : Nat, v = (k : Int) := ⟨v.toNat, by omega⟩
  subst hk
  have hr0 := hr
  obtain ⟨I, wr, mo, mf, mg, B, V, hV, h0, h1, hg, hb, hx, hw, hwr, hv8⟩ := hr0
  obtain ⟨v1, v2⟩ := hv8 k (by omega)
  refine go_iload_n (q := 1) d_pn_fetch_0 rfl rfl rfl ?_
  refine go_callS (M' := m_pn_requireVariable) (d := rd_pn_requireVariable) (w := rw_pn_requireVariable) (mc := 0) (ms := 0) (as := [mv_I (k : Int)]) (rest := []) (q := 4) g_pn_requireVariable s_pn_requireVariable l_pn_71 d_pn_fetch_1 rfl rfl rfl (by decide) ⟨by decide, by decide, by decide, by decide⟩ (pc_reqV hr hv) ?_
  rintro w h1' n1 ⟨rfl, rfl, rfl⟩ -
  refine go_u0 (sp_fe_4 hV (by omega) ?_)
  refine go_callV (M' := m_pn_settle) (d := rd_pn_settle) (w := rw_pn_settle) (mc := 0) (ms := 0) (as := [mv_R (50 + 5 * k)]) (b := 1) (rest := []) (q := 17) g_pn_settle i_pn_settle v_pn_settle l_pn_67 d_pn_fetch_14 rfl rfl rfl (pn_c1 hV) rfl (by decide) ⟨by decide, by decide, by decide, by decide⟩ (pc_settle hV (by omega) v2 v1 h0 h1 hg hb hv8) ?_
  rintro w h2 n2 ⟨rfl, rfl, hf2, hr2⟩ -
  exact go_u0 (go_iret d_pn_fetch_17 rfl go_le0 ⟨by rw [Int.toNat_natCast], rfl, hf2, by rw [Int.toNat_natCast]; exact hr2⟩)
end PcVal
