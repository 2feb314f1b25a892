/-! the model's public methods, on the state as the law sees it -/
def rm_ (h : mv_H) (o : Nat) (c : Int) (len : Nat) (tx : Nat → Int) (told : Int) (x : qv_) (var : Nat → qv_) : Prop :=
  ∃ (J S ps cs bs : Nat → Int) (W : Nat → Nat), mo_V h o (J, tx, S, ps, cs, bs) W ∧ J 0 = c ∧ J 1 = (len : Int) ∧ J 2 = told ∧ q_at S W 72 = x ∧ q_in x ∧ (∀ v, v < 8 → q_at S W (64 + v) = var v ∧ q_in (var v)) ∧ W 158 = 2 ^ 240 ∧ W 159 = 2 ^ 62 ∧ (∀ i, -1 ≤ S i ∧ S i ≤ 1) ∧ (∀ i, 0 ≤ ps i ∧ ps i ≤ 127) ∧ ∀ i, 0 ≤ cs i ∧ cs i ≤ 120
def tk_ (len : Nat) (tx : Nat → Int) : Prop := len ≤ 120 ∧ (∀ i, 0 ≤ tx i ∧ tx i ≤ 127) ∧ ∀ i, i < len → tx i ≠ 0
theorem gr_b {t : Nat → Int} {len : Nat} : ∀ (k : Nat) (s : Int) (o : Nat) (g b : Nat → Int), -1 ≤ gr_ t len k s o g b ∧ gr_ t len k s o g b ≤ (len : Int) := by
  intro k
  induction k with
  | zero =>
    intro s o g b
    show -1 ≤ (if o = 0 ∧ (s = 3 ∨ s = 4) then (-1 : Int) else (len : Int)) ∧ (if o = 0 ∧ (s = 3 ∨ s = 4) then (-1 : Int) else (len : Int)) ≤ (len : Int)
    split <;> omega
  | succ k ih =>
    intro s o g b
    have e : gr_ t len (k + 1) s o g b = if (ga_step s o g b (t (len - (k + 1)))).1 = 5 then ((len - (k + 1) : Nat) : Int) else gr_ t len k (ga_step s o g b (t (len - (k + 1)))).1 (ga_step s o g b (t (len - (k + 1)))).2.1 (ga_step s o g b (t (len - (k + 1)))).2.2.1 (ga_step s o g b (t (len - (k + 1)))).2.2.2 := rfl
    rw [e]
    split
    · omega
    · exact ih _ _ _ _
theorem ex_b {t : Nat → Int} {len : Nat} {var : Nat → qv_} {md : Bool} {p : Nat} {st : List bk_} {m : Nat} {f : Nat → qv_} {r : Int × qv_} (h : Ev t len var md p st m f r) : 0 ≤ r.1 ∧ r.1 ≤ 3 := by
  induction h using Ev.ind with
  | opn _ _ _ _ _ ih => exact ih
  | vr _ _ _ _ ih => exact ih
  | num _ _ _ _ ih => exact ih
  | numF => exact ⟨show (0 : Int) ≤ 1 by decide, show (1 : Int) ≤ 3 by decide⟩
  | fin => exact ⟨show (0 : Int) ≤ 0 by decide, show (0 : Int) ≤ 3 by decide⟩
  | cls _ _ _ _ _ _ _ ih => exact ih
  | clsF => exact q_app_b
  | arg _ _ _ _ _ _ _ ih => exact ih
  | third _ _ _ _ _ _ _ _ _ _ _ ih => exact ih
  | rest _ _ _ _ _ _ _ _ _ _ _ ih => exact ih
section PmVal
variable {φ : go_F} {l : Launch} {h : mv_H} {n o : Nat} {c told : Int} {len : Nat} {tx : Nat → Int} {x : qv_} {var : Nat → qv_}
theorem pm_type {z : Int} {k : Nat} (hr : rm_ h o c len tx told x var) (ht : tk_ len tx) (hz : -9223372036854775808 ≤ z ∧ z ≤ 9223372036854775807) (hn : nb_ z k) : Fn l m_mo_type rd_mo_type rw_mo_type 0 0 [mv_R o, mv_L z] h n
    (fun w h' n' => n' = n ∧ fr_ o 8 h h' ∧ (((gd_ z k ∧ len + k ≤ 120) ∧ w = some (mv_I 1) ∧ rm_ h' o 0 (len + k) (tu_ tx len z k) told x var) ∨ (¬ (gd_ z k ∧ len + k ≤ 120) ∧ w = some (mv_I 0) ∧ rm_ h' o 0 len tx told x var))) := by
  obtain ⟨J, S, ps, cs, bs, W, hV, h0, h1, h2, hx⟩ := hr
  refine fn_mono (tm_type hV ⟨h1, ht.1⟩ hz hn) ?_
  rintro w h' n' ⟨rfl, hf, ⟨hg, rfl, hV'⟩ | ⟨hg, rfl, hV'⟩⟩
  · exact ⟨rfl, hf, Or.inl ⟨hg, rfl, _, S, ps, cs, bs, W, hV', by rw [va_up_ne _ _ (by decide), va_up_self], va_up_self _ _ _, by rw [va_up_ne _ _ (by decide), va_up_ne _ _ (by decide)]; exact h2, hx⟩⟩
  · exact ⟨rfl, hf, Or.inr ⟨hg, rfl, _, S, ps, cs, bs, W, hV', va_up_self _ _ _, by rw [va_up_ne _ _ (by decide)]; exact h1, by rw [va_up_ne _ _ (by decide)]; exact h2, hx⟩⟩
theorem pm_erase (hr : rm_ h o c len tx told x var) : Fn l m_mo_erase rd_mo_erase rw_mo_erase 0 0 [mv_R o] h n (fun w h' n' => w = some (mv_I (len : Int)) ∧ n' = n ∧ fr_ o 8 h h' ∧ rm_ h' o 0 0 tx told x var) := by
  obtain ⟨J, S, ps, cs, bs, W, hV, h0, h1, h2, hx⟩ := hr
  refine fn_mono (tm_erase hV) ?_
  rintro w h' n' ⟨rfl, rfl, hf, hV'⟩
  exact ⟨by rw [h1], rfl, hf, _, S, ps, cs, bs, W, hV', by rw [va_up_ne _ _ (by decide), va_up_self], va_up_self _ _ _, by rw [va_up_ne _ _ (by decide), va_up_ne _ _ (by decide)]; exact h2, hx⟩
theorem pm_fault (hr : rm_ h o c len tx told x var) : Fn l m_mo_fault rd_mo_fault rw_mo_fault 0 0 [mv_R o] h n (fun w h' n' => w = some (mv_I told) ∧ n' = n ∧ fr_ o 8 h h' ∧ rm_ h' o 0 len tx told x var) := by
  obtain ⟨J, S, ps, cs, bs, W, hV, h0, h1, h2, hx⟩ := hr
  refine fn_mono (tm_fault hV) ?_
  rintro w h' n' ⟨rfl, rfl, hf, hV'⟩
  exact ⟨by rw [h2], rfl, hf, _, S, ps, cs, bs, W, hV', va_up_self _ _ _, by rw [va_up_ne _ _ (by decide)]; exact h1, by rw [va_up_ne _ _ (by decide)]; exact h2, hx⟩
theorem pm_form (hr : rm_ h o c len tx told x var) : Fn l m_mo_form rd_mo_form rw_mo_form 0 0 [mv_R o] h n (fun w h' n' => w = some (mv_I (q_form x)) ∧ n' = n ∧ fr_ o 8 h h' ∧ rm_ h' o 0 len tx told x var) := by
  obtain ⟨J, S, ps, cs, bs, W, hV, h0, h1, h2, hx, hrest⟩ := hr
  refine fn_mono (tm_form hV hrest.2.2.2.1) ?_
  rintro w h' n' ⟨rfl, rfl, hf, hV'⟩
  exact ⟨by rw [hx], rfl, hf, _, S, ps, cs, bs, W, hV', va_up_self _ _ _, by rw [va_up_ne _ _ (by decide)]; exact h1, by rw [va_up_ne _ _ (by decide)]; exact h2, hx, hrest⟩
theorem pm_sign (hr : rm_ h o c len tx told x var) : Fn l m_mo_sign rd_mo_sign rw_mo_sign 0 0 [mv_R o] h n (fun w h' n' => w = some (mv_I x.1) ∧ n' = n ∧ fr_ o 8 h h' ∧ rm_ h' o 0 len tx told x var) := by
  obtain ⟨J, S, ps, cs, bs, W, hV, h0, h1, h2, hx, hrest⟩ := hr
  refine fn_mono (tm_sign hV) ?_
  rintro w h' n' ⟨rfl, rfl, hf, hV'⟩
  exact ⟨by rw [hx], rfl, hf, _, S, ps, cs, bs, W, hV', va_up_self _ _ _, by rw [va_up_ne _ _ (by decide)]; exact h1, by rw [va_up_ne _ _ (by decide)]; exact h2, hx, hrest⟩
theorem pm_digit {i : Int} (hr : rm_ h o c len tx told x var) (hi : -2147483648 ≤ i ∧ i ≤ 2147483647) : Fn l m_mo_digit rd_mo_digit rw_mo_digit 0 0 [mv_R o, mv_I i] h n (fun w h' n' => (∃ L K, Dl x.2.1 L ∧ Dl x.2.2 K ∧ w = some (mv_I (di_ x.1 x.2.1 x.2.2 L K i))) ∧ n' = n ∧ fr_ o 8 h h' ∧ rm_ h' o 0 len tx told x var) := by
  obtain ⟨J, S, ps, cs, bs, W, hV, h0, h1, h2, hx, hrest⟩ := hr
  have e1 : S 72 = x.1 := by rw [← hx]; rfl
  have e2 : W 144 = x.2.1 := by rw [← hx]; rfl
  have e3 : W 145 = x.2.2 := by rw [← hx]; rfl
  refine fn_mono (tm_digit hV hrest.2.2.2.2.1 hi (by rw [e2, e3]; exact hrest.1.2)) ?_
  rintro w h' n' ⟨⟨L, K, hL, hK, rfl⟩, rfl, hf, hV'⟩
  rw [e2] at hL
  rw [e3] at hK
  exact ⟨⟨L, K, hL, hK, by rw [e1, e2, e3]⟩, rfl, hf, _, S, ps, cs, bs, W, hV', va_up_self _ _ _, by rw [va_up_ne _ _ (by decide)]; exact h1, by rw [va_up_ne _ _ (by decide)]; exact h2, hx, hrest⟩
theorem pm_bits {p i : Int} (hr : rm_ h o c len tx told x var) (hp : -2147483648 ≤ p ∧ p ≤ 2147483647) (hi : -2147483648 ≤ i ∧ i ≤ 2147483647) : Fn l m_mo_bits rd_mo_bits rw_mo_bits 0 0 [mv_R o, mv_I p, mv_I i] h n (fun w h' n' => w = some (mv_I (bw_ (if p = 0 then x.2.1 else x.2.2) i)) ∧ n' = n ∧ fr_ o 8 h h' ∧ rm_ h' o 0 len tx told x var) := by
  obtain ⟨J, S, ps, cs, bs, W, hV, h0, h1, h2, hx, hq, hv, c1, c2, hS, hrest⟩ := hr
  have e2 : W 144 = x.2.1 := by rw [← hx]; rfl
  have e3 : W 145 = x.2.2 := by rw [← hx]; rfl
  refine fn_mono (tm_bits hV hp hi) ?_
  rintro w h' n' ⟨rfl, rfl, hf, W', hV', hW⟩
  refine ⟨by rw [e2, e3], rfl, hf, _, S, ps, cs, bs, W', hV', va_up_self _ _ _, by rw [va_up_ne _ _ (by decide)]; exact h1, by rw [va_up_ne _ _ (by decide)]; exact h2, ?_, hq, fun v hv8 => ⟨?_, (hv v hv8).2⟩, (hW 158 (by decide)).trans c1, (hW 159 (by decide)).trans c2, hS, hrest⟩
  · rw [← hx]
    exact q_at_ext rfl (hW _ (by decide)) (hW _ (by decide))
  · rw [← (hv v hv8).1]
    exact q_at_ext rfl (hW _ (by omega)) (hW _ (by omega))
theorem pm_thrown (hr : rm_ h o c len tx told x var) : Fn l m_mo_thrown rd_mo_thrown rw_mo_thrown 0 0 [mv_R o] h n (fun w h' n' => w = some (mv_I c) ∧ n' = n ∧ h' = h) := by
  obtain ⟨J, S, ps, cs, bs, W, hV, h0, -⟩ := hr
  refine fn_of rfl (Nat.le_of_ble_eq_true rfl) rfl ?_
  exact so_th hV (go_iret d_mo_thrown_4 rfl go_le0 ⟨by rw [h0], rfl, rfl⟩)
theorem pm_against {v : Int} (hr : rm_ h o c len tx told x var) (hv : -2147483648 ≤ v ∧ v ≤ 2147483647) : Fn l m_mo_against rd_mo_against rw_mo_against 0 0 [mv_R o, mv_I v] h n (fun w h' n' => n' = n ∧ fr_ o 8 h h' ∧ (∃ z, w = some (mv_I z)) ∧ (((0 ≤ v ∧ v < 8) ∧ w = some (mv_I (q_ord x (var v.toNat))) ∧ rm_ h' o 0 len tx told x var) ∨ (¬ (0 ≤ v ∧ v < 8) ∧ rm_ h' o 1 len tx told x var))) := by
  obtain ⟨J, S, ps, cs, bs, W, hV, h0, h1, h2, hx, hq, hv8, c1, c2, hS, hrest⟩ := hr
  refine fn_of rfl (Nat.le_of_ble_eq_true rfl) rfl ?_
  refine so_ag_0 hV hv (fun c h3 hV3 hf3 => ?_) (fun c h3 hV3 hf3 => ?_)
  · exact go_iret d_mo_against_37 rfl go_le0 ⟨rfl, hf3, ⟨_, rfl⟩, Or.inr ⟨c, _, S, ps, cs, bs, W, hV3, va_up_self _ _ _, by rw [va_up_ne _ _ (by decide)]; exact h1, by rw [va_up_ne _ _ (by decide)]; exact h2, hx, hq, hv8, c1, c2, hS, hrest⟩⟩
  · obtain ⟨fs, hob⟩ := mo_Vob hV3
    obtain ⟨k, hk⟩ : ∃ k : Nat, v = (k : Int) := ⟨v.toNat, by omega⟩
    subst hk
    obtain ⟨v1, v2⟩ := hv8 k (by omega)
    rw [show (64 : Int) + (k : Int) = ((64 + k : Nat) : Int) by omega]
    refine go_callV (M' := m_mo_order) (d := rd_mo_order) (w := rw_mo_order) (mc := 0) (ms := 0) (as := [mv_I 72, mv_I ((64 + k : Nat) : Int)]) (b := o) (rest := []) (q := 37) g_mo_order i_mo_order v_mo_order l_mo_161 d_mo_against_34 rfl rfl rfl hob rfl (by decide) ⟨by decide, by decide, by decide, by decide⟩ (tm_order (v := 72) hV3 (by decide) (by omega) hS (by rw [hx]; exact hq) (by rw [v1]; exact v2)) ?_
    rintro w h4 n4 ⟨rfl, rfl, hf4, W', hV4, hW⟩ -
    refine go_u0 (go_iret d_mo_against_37 rfl go_le0 ⟨rfl, hf3.tr hf4, ⟨_, rfl⟩, Or.inl ⟨c, by rw [hx, v1, Int.toNat_natCast], _, S, ps, cs, bs, W', hV4, va_up_self _ _ _, by rw [va_up_ne _ _ (by decide)]; exact h1, by rw [va_up_ne _ _ (by decide)]; exact h2, ?_, hq, fun v hv9 => ⟨?_, (hv8 v hv9).2⟩, (hW 158 (by decide)).trans c1, (hW 159 (by decide)).trans c2, hS, hrest⟩⟩)
    · rw [← hx]
      exact q_at_ext rfl (hW _ (by decide)) (hW _ (by decide))
    · rw [← (hv8 v hv9).1]
      exact q_at_ext rfl (hW _ (by omega)) (hW _ (by omega))
theorem pm_fetch {v : Int} (hr : rm_ h o c len tx told x var) (hv : -2147483648 ≤ v ∧ v ≤ 2147483647) : Fn l m_mo_fetch rd_mo_fetch rw_mo_fetch 0 0 [mv_R o, mv_I v] h n (fun w h' n' => n' = n ∧ fr_ o 8 h h' ∧ (∃ z, w = some (mv_I z)) ∧ (((0 ≤ v ∧ v < 8) ∧ w = some (mv_I (q_form (var v.toNat))) ∧ rm_ h' o 0 len tx told (var v.toNat) var) ∨ (¬ (0 ≤ v ∧ v < 8) ∧ rm_ h' o 1 len tx told x var))) := by
  obtain ⟨J, S, ps, cs, bs, W, hV, h0, h1, h2, hx, hq, hv8, c1, c2, hS, hrest⟩ := hr
  refine fn_of rfl (Nat.le_of_ble_eq_true rfl) rfl ?_
  refine so_fe_0 hV hv (fun c h3 hV3 hf3 => ?_) (fun c h3 hV3 hf3 => ?_)
  · exact go_iret d_mo_fetch_24 rfl go_le0 ⟨rfl, hf3, ⟨_, rfl⟩, Or.inr ⟨c, _, S, ps, cs, bs, W, hV3, va_up_self _ _ _, by rw [va_up_ne _ _ (by decide)]; exact h1, by rw [va_up_ne _ _ (by decide)]; exact h2, hx, hq, hv8, c1, c2, hS, hrest⟩⟩
  · obtain ⟨k, hk⟩ : ∃ k : Nat, v = (k : Int) := ⟨v.toNat, by omega⟩
    subst hk
    obtain ⟨v1, v2⟩ := hv8 k (by omega)
    refine so_fe_25 hV3 (by omega) (fun h4 hV4 hf4 => ?_)
    obtain ⟨fs, hob⟩ := mo_Vob hV4
    have e72 : q_at (va_up S 72 (S (64 + k))) (va_up (va_up W (2 * 72) (W (2 * (64 + k)))) (2 * 72 + 1) (W (2 * (64 + k) + 1))) 72 = var k := by
      rw [q_at_up, ← v1]
      rfl
    have c1' : va_up (va_up W (2 * 72) (W (2 * (64 + k)))) (2 * 72 + 1) (W (2 * (64 + k) + 1)) 158 = 2 ^ 240 := by rw [va_up_ne _ _ (by decide), va_up_ne _ _ (by decide)]; exact c1
    have c2' : va_up (va_up W (2 * 72) (W (2 * (64 + k)))) (2 * 72 + 1) (W (2 * (64 + k) + 1)) 159 = 2 ^ 62 := by rw [va_up_ne _ _ (by decide), va_up_ne _ _ (by decide)]; exact c2
    refine go_callV (M' := m_mo_formOf) (d := rd_mo_formOf) (w := rw_mo_formOf) (mc := 0) (ms := 0) (as := [mv_I 72]) (b := o) (rest := []) (q := 41) g_mo_formOf i_mo_formOf v_mo_formOf l_mo_182 d_mo_fetch_38 rfl rfl rfl hob rfl (by decide) ⟨by decide, by decide, by decide, by decide⟩ (tm_formOf (v := 72) hV4 (by decide) c2') ?_
    rintro w h5 n5 ⟨rfl, rfl, rfl⟩ -
    refine go_u0 (go_iret d_mo_fetch_41 rfl go_le0 ⟨rfl, hf3.tr hf4, ⟨_, rfl⟩, Or.inl ⟨c, by rw [e72, Int.toNat_natCast], _, _, ps, cs, bs, _, hV4, va_up_self _ _ _, by rw [va_up_ne _ _ (by decide)]; exact h1, by rw [va_up_ne _ _ (by decide)]; exact h2, by rw [e72, Int.toNat_natCast], by rw [Int.toNat_natCast]; exact v2, fun v hv9 => ⟨?_, (hv8 v hv9).2⟩, c1', c2', sr_up hS (hS _), hrest⟩⟩)
    rw [← (hv8 v hv9).1]
    exact q_at_ext (va_up_ne _ _ (by omega)) (by rw [va_up_ne _ _ (by omega), va_up_ne _ _ (by omega)]) (by rw [va_up_ne _ _ (by omega), va_up_ne _ _ (by omega)])
/-- how the model's work answers: fault gr, or the derivation's end r -/
def wm_ (o : Nat) (len : Nat) (tx : Nat → Int) (x : qv_) (var : Nat → qv_) (gr : Int) (r : Int × qv_) (w : Option mv_V) (h' : mv_H) : Prop :=
  (gr ≠ -1 ∧ w = some (mv_I 0) ∧ rm_ h' o 1 len tx gr x var) ∨ (gr = -1 ∧ r.1 ≠ 0 ∧ w = some (mv_I 0) ∧ rm_ h' o (r.1 + 1) len tx (-1) x var) ∨ (gr = -1 ∧ r.1 = 0 ∧ w = some (mv_I (q_form r.2)) ∧ rm_ h' o 0 len tx (-1) r.2 var)
theorem pm_work {g b : Nat → Int} {f : Nat → qv_} {r : Int × qv_} (hr : rm_ h o c len tx told x var) (ht : tk_ len tx) (hE : gr_ tx len len 0 0 g b = -1 → Ev tx len var true 0 [] 0 f r) : Fn l m_mo_work rd_mo_work rw_mo_work 0 0 [mv_R o] h n (fun w h' n' => n' = n ∧ fr_ o 8 h h' ∧ wm_ o len tx x var (gr_ tx len len 0 0 g b) r w h') := by
  obtain ⟨J, S, ps, cs, bs, W, hV, h0, h1, h2, hx, hq, hv8, c1, c2, hS, hP, hC⟩ := hr
  obtain ⟨t1, t2, t3⟩ := ht
  refine fn_of rfl (Nat.le_of_ble_eq_true rfl) rfl ?_
  refine so_wr_0 hV ?_
  obtain ⟨fs, hob⟩ := mo_Vob hV
  refine go_callV (M' := m_mo_faultOf) (d := rd_mo_faultOf) (w := rw_mo_faultOf) (mc := 0) (ms := 0) (as := []) (b := o) (rest := [mv_R o]) (q := 5) g_mo_faultOf i_mo_faultOf v_mo_faultOf l_mo_176 d_mo_work_2 rfl rfl rfl hob rfl (Nat.le_of_ble_eq_true rfl) ⟨by decide, by decide, by decide, by decide⟩ (tm_faultOf (g := g) (b := b) hV h1 t1 t2 hP hC) ?_
  rintro w h3 n3 ⟨rfl, I3, ps3, cs3, rfl, hf3, hV3, hI3, hP3, hC3⟩ -
  have hgb := gr_b (t := tx) (len := len) len 0 0 g b
  refine go_u0 (so_wr_5 hV3 (by omega) (fun cz h4 hV4 hf4 => ?_) (fun cz h4 hV4 hf4 => ?_))
  · have eg : gr_ tx len len 0 0 g b = -1 := by omega
    have hEv := hE eg
    rw [eg] at hV4 ⊢
    have hL4 : va_up (va_up I3 2 (-1)) 0 0 1 = (len : Int) := by rw [va_up_ne _ _ (by decide), va_up_ne _ _ (by decide), hI3 1 (by decide)]; exact h1
    obtain ⟨fs4, hob4⟩ := mo_Vob hV4
    refine go_callV (M' := m_mo_workOut) (d := rd_mo_workOut) (w := rw_mo_workOut) (mc := 0) (ms := 0) (as := []) (b := o) (rest := []) (q := 37) g_mo_workOut i_mo_workOut v_mo_workOut l_mo_179 d_mo_work_34 rfl rfl rfl hob4 rfl (by decide) ⟨by decide, by decide, by decide, by decide⟩ (tm_workOut hV4 hL4 t1 t2 t3 c1 hS hP3 hv8 hEv) ?_
    rintro w h5 n5 ⟨rfl, rfl, I5, S5, ps5, bs5, W5, ⟨hV5, hf5, hI5, hS5, hR5, hW5, hP5⟩, hz5⟩ -
    have hxb := ex_b hEv
    have h15 : I5 1 = (len : Int) := (hI5 1 (by decide) (by decide) (by decide)).trans hL4
    have h25 : I5 2 = -1 := (hI5 2 (by decide) (by decide) (by decide)).trans (by rw [va_up_ne _ _ (by decide), va_up_self])
    have hv5 : ∀ v, v < 8 → q_at S5 W5 (64 + v) = var v ∧ q_in (var v) := fun v hv => ⟨by rw [← (hv8 v hv).1]; exact q_at_ext (hS5 _ (by omega) (by omega)) (hW5 _ (by omega)) (hW5 _ (by omega)), (hv8 v hv).2⟩
    have c15 : W5 158 = 2 ^ 240 := (hW5 158 (by decide)).trans c1
    have c25 : W5 159 = 2 ^ 62 := (hW5 159 (by decide)).trans c2
    refine go_u0 (so_wr_37 hV5 hxb (fun d1 h6 hV6 hf6 => ?_) (fun d1 d2 => by omega) (fun d1 d2 h6 hV6 hf6 => ?_))
    · have r0 : r.1 = 0 := by omega
      obtain ⟨z1, z2⟩ := hz5 r0
      obtain ⟨fs6, hob6⟩ := mo_Vob hV6
      have e72 : q_at (va_up S5 72 (S5 0)) (va_up (va_up W5 (2 * 72) (W5 (2 * 0))) (2 * 72 + 1) (W5 (2 * 0 + 1))) 72 = r.2 := by
        rw [q_at_up, ← z1]
        rfl
      have c26 : va_up (va_up W5 (2 * 72) (W5 (2 * 0))) (2 * 72 + 1) (W5 (2 * 0 + 1)) 159 = 2 ^ 62 := by rw [va_up_ne _ _ (by decide), va_up_ne _ _ (by decide)]; exact c25
      refine go_callV (M' := m_mo_formOf) (d := rd_mo_formOf) (w := rw_mo_formOf) (mc := 0) (ms := 0) (as := [mv_I 72]) (b := o) (rest := []) (q := 75) g_mo_formOf i_mo_formOf v_mo_formOf l_mo_182 d_mo_work_72 rfl rfl rfl hob6 rfl (by decide) ⟨by decide, by decide, by decide, by decide⟩ (tm_formOf (v := 72) hV6 (by decide) c26) ?_
      rintro w h7 n7 ⟨rfl, rfl, rfl⟩ -
      refine go_u0 (go_iret d_mo_work_75 rfl go_le0 ⟨rfl, hf3.tr (hf4.tr (hf5.tr hf6)), Or.inr (Or.inr ⟨rfl, r0, by rw [e72], _, _, ps5, cs3, bs5, _, hV6, va_up_self _ _ _, by rw [va_up_ne _ _ (by decide)]; exact h15, by rw [va_up_ne _ _ (by decide)]; exact h25, e72, z2, fun v hv => ⟨?_, (hv5 v hv).2⟩, by rw [va_up_ne _ _ (by decide), va_up_ne _ _ (by decide)]; exact c15, c26, sr_up hR5 (hR5 _), hP5, hC3⟩)⟩)
      rw [← (hv5 v hv).1]
      exact q_at_ext (va_up_ne _ _ (by omega)) (by rw [va_up_ne _ _ (by omega), va_up_ne _ _ (by omega)]) (by rw [va_up_ne _ _ (by omega), va_up_ne _ _ (by omega)])
    · refine go_iret d_mo_work_61 rfl go_le0 ⟨rfl, hf3.tr (hf4.tr (hf5.tr hf6)), Or.inr (Or.inl ⟨rfl, by omega, rfl, _, S5, ps5, cs3, bs5, W5, hV6, va_up_self _ _ _, by rw [va_up_ne _ _ (by decide)]; exact h15, by rw [va_up_ne _ _ (by decide)]; exact h25, ?_, hq, hv5, c15, c25, hR5, hP5, hC3⟩)⟩
      rw [← hx]
      exact q_at_ext (hS5 _ (by decide) (by decide)) (hW5 _ (by decide)) (hW5 _ (by decide))
  · exact go_iret d_mo_work_32 rfl go_le0 ⟨rfl, hf3.tr hf4, Or.inl ⟨by omega, rfl, _, S, ps3, cs3, bs, W, hV4, va_up_self _ _ _, by rw [va_up_ne _ _ (by decide), va_up_ne _ _ (by decide), hI3 1 (by decide)]; exact h1, by rw [va_up_ne _ _ (by decide), va_up_self], hx, hq, hv8, c1, c2, hS, hP3, hC3⟩⟩
def km_ (o : Nat) (len : Nat) (tx : Nat → Int) (told : Int) (x : qv_) (var : Nat → qv_) (v : Int) (gr : Int) (r : Int × qv_) (w : Option mv_V) (h' : mv_H) : Prop :=
  (¬ (0 ≤ v ∧ v < 8) ∧ rm_ h' o 1 len tx told x var) ∨ ((0 ≤ v ∧ v < 8) ∧ gr ≠ -1 ∧ rm_ h' o 2 len tx gr x var) ∨ ((0 ≤ v ∧ v < 8) ∧ gr = -1 ∧ r.1 ≠ 0 ∧ rm_ h' o (r.1 + 2) len tx (-1) x var) ∨ ((0 ≤ v ∧ v < 8) ∧ gr = -1 ∧ r.1 = 0 ∧ w = some (mv_I (q_form r.2)) ∧ rm_ h' o 0 0 tx (-1) r.2 (va_up var v.toNat r.2))
theorem pm_keep {v : Int} {g b : Nat → Int} {f : Nat → qv_} {r : Int × qv_} (hr : rm_ h o c len tx told x var) (ht : tk_ len tx) (hv : -2147483648 ≤ v ∧ v ≤ 2147483647) (hE : gr_ tx len len 0 0 g b = -1 → Ev tx len var true 0 [] 0 f r) : Fn l m_mo_keep rd_mo_keep rw_mo_keep 0 0 [mv_R o, mv_I v] h n (fun w h' n' => n' = n ∧ fr_ o 8 h h' ∧ (∃ z, w = some (mv_I z)) ∧ km_ o len tx told x var v (gr_ tx len len 0 0 g b) r w h') := by
  obtain ⟨J, S, ps, cs, bs, W, hV, h0, h1, h2, hrest⟩ := hr
  refine fn_of rfl (Nat.le_of_ble_eq_true rfl) rfl ?_
  refine so_ke_0 hV hv (fun cv h3 hV3 hf3 => ?_) (fun cv h3 hV3 hf3 => ?_)
  · exact go_iret d_mo_keep_24 rfl go_le0 ⟨rfl, hf3, ⟨_, rfl⟩, Or.inl ⟨cv, _, S, ps, cs, bs, W, hV3, va_up_self _ _ _, by rw [va_up_ne _ _ (by decide)]; exact h1, by rw [va_up_ne _ _ (by decide)]; exact h2, hrest⟩⟩
  · have hr3 : rm_ h3 o 0 len tx told x var := ⟨_, S, ps, cs, bs, W, hV3, va_up_self _ _ _, by rw [va_up_ne _ _ (by decide)]; exact h1, by rw [va_up_ne _ _ (by decide)]; exact h2, hrest⟩
    obtain ⟨k, hk⟩ : ∃ k : Nat, v = (k : Int) := ⟨v.toNat, by omega⟩
    subst hk
    obtain ⟨fs, hob⟩ := mo_Vob hV3
    refine go_callV (M' := m_mo_work) (d := rd_mo_work) (w := rw_mo_work) (mc := 0) (ms := 0) (as := []) (b := o) (rest := []) (q := 29) g_mo_work i_mo_work v_mo_work l_mo_188 d_mo_keep_26 rfl rfl rfl hob rfl (by decide) ⟨by decide, by decide, by decide, by decide⟩ (pm_work (g := g) (b := b) hr3 ht hE) ?_
    rintro w h4 n4 ⟨rfl, hf4, hw⟩ -
    have fail : ∀ (cc : Int) (tt : Int), 0 < cc → cc ≤ 4 → w = some (mv_I 0) → rm_ h4 o cc len tx tt x var → (∀ h5 w', rm_ h5 o (cc + 1) len tx tt x var → km_ o len tx told x var (k : Int) (gr_ tx len len 0 0 g b) r w' h5) → Go (go_f 0 0 fun w h' n' => n' = n4 ∧ fr_ o 8 h h' ∧ (∃ z, w = some (mv_I z)) ∧ km_ o len tx told x var (k : Int) (gr_ tx len len 0 0 g b) r w h') l m_mo_keep (go_rm rd_mo_keep rw_mo_keep 0 0) (0, 0) 29 [some (mv_R o), some (mv_I (k : Int)), none] (w.toList ++ []) h4 n4 := by
      rintro cc tt hc1 hc2 rfl ⟨J4, S4, ps4, cs4, bs4, W4, hV4, h04, h14, h24, hrest4⟩ hk4
      refine so_ke_29 hV4 (by omega) (by omega) (fun z => by omega) (fun _ h5 hV5 hf5 => ?_)
      exact go_iret d_mo_keep_48 rfl go_le0 ⟨rfl, hf3.tr (hf4.tr hf5), ⟨_, rfl⟩, hk4 h5 _ ⟨_, S4, ps4, cs4, bs4, W4, hV5, by rw [va_up_self, h04], by rw [va_up_ne _ _ (by decide)]; exact h14, by rw [va_up_ne _ _ (by decide)]; exact h24, hrest4⟩⟩
    rcases hw with ⟨g1, g2, g3⟩ | ⟨g1, g2, g3, g4⟩ | ⟨g1, g2, g3, g4⟩
    · exact go_u0 (fail 1 _ (by decide) (by decide) g2 g3 (fun h5 w' hr5 => Or.inr (Or.inl ⟨cv, g1, hr5⟩)))
    · have hxb := ex_b (hE g1)
      exact go_u0 (fail (r.1 + 1) _ (by omega) (by omega) g3 g4 (fun h5 w' hr5 => Or.inr (Or.inr (Or.inl ⟨cv, g1, g2, by rw [show r.1 + 2 = r.1 + 1 + 1 by omega]; exact hr5⟩))))
    · subst g3
      obtain ⟨J4, S4, ps4, cs4, bs4, W4, hV4, h04, h14, h24, hx4, hq4, hv4, c14, c24, hS4, hrest4⟩ := g4
      refine go_u0 (so_ke_29 hV4 (by omega) (by omega) (fun _ h5 hV5 hf5 => ?_) (fun z => by omega))
      refine go_iret d_mo_keep_65 rfl go_le0 ⟨rfl, hf3.tr (hf4.tr hf5), ⟨_, rfl⟩, Or.inr (Or.inr (Or.inr ⟨cv, g1, g2, rfl, _, _, ps4, cs4, bs4, _, hV5, by rw [va_up_ne _ _ (by decide)]; exact h04, va_up_self _ _ _, by rw [va_up_ne _ _ (by decide)]; exact h24, ?_, hq4, fun v hv9 => ?_, by rw [va_up_ne _ _ (by omega), va_up_ne _ _ (by omega)]; exact c14, by rw [va_up_ne _ _ (by omega), va_up_ne _ _ (by omega)]; exact c24, sr_up hS4 (hS4 _), hrest4⟩))⟩
      · rw [← hx4]
        exact q_at_ext (va_up_ne _ _ (by omega)) (by rw [va_up_ne _ _ (by omega), va_up_ne _ _ (by omega)]) (by rw [va_up_ne _ _ (by omega), va_up_ne _ _ (by omega)])
      · rw [Int.toNat_natCast]
        by_cases e : v = k
        · subst e
          rw [va_up_self, q_at_up]
          exact ⟨hx4, hq4⟩
        · rw [va_up_ne _ _ e]
          refine ⟨?_, (hv4 v hv9).2⟩
          rw [← (hv4 v hv9).1]
          exact q_at_ext (va_up_ne _ _ (by omega)) (by rw [va_up_ne _ _ (by omega), va_up_ne _ _ (by omega)]) (by rw [va_up_ne _ _ (by omega), va_up_ne _ _ (by omega)])
end PmVal
