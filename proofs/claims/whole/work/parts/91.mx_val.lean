/-! the model's apply against q_app -/
def sb_ (b : Nat) (S S' : Nat → Int) (V V' : Nat → Nat) : Prop := (∀ i, i ≠ b → i < 73 → S' i = S i) ∧ (∀ i, -1 ≤ S' i ∧ S' i ≤ 1) ∧ ∀ i, i ≠ 2 * b → i ≠ 2 * b + 1 → (i < 146 ∨ 158 ≤ i) → V' i = V i
def aq_ (h : mv_H) (n o : Nat) (I tx S ps cs bs : Nat → Int) (V : Nat → Nat) (b : Nat) (r : Int × qv_) (w : Option mv_V) (h' : mv_H) (n' : Nat) : Prop :=
  w = some (mv_I r.1) ∧ n' = n ∧ fr_ o 8 h h' ∧ ∃ (S' : Nat → Int) (V' : Nat → Nat), mo_V h' o (I, tx, S', ps, cs, bs) V' ∧ sb_ b S S' V V' ∧ (r.1 = 0 → q_at S' V' b = r.2)
theorem q_at_up {S : Nat → Int} {V : Nat → Nat} {b x y : Nat} {s : Int} : q_at (va_up S b s) (va_up (va_up V (2 * b) x) (2 * b + 1) y) b = (s, x, y) := by
  unfold q_at
  rw [va_up_self, va_up_self, va_up_ne _ _ (by omega), va_up_self]
theorem q_at_q {S S' : Nat → Int} {V V' : Nat → Nat} {v : Nat} {x : qv_} (h : q_up S V v x S' V') : q_at S' V' v = x := by
  obtain ⟨h1, h2, h3, -⟩ := h
  unfold q_at
  rw [h1, h2, h3, va_up_self]
theorem q_at_ext {S S' : Nat → Int} {V V' : Nat → Nat} {v : Nat} (h1 : S' v = S v) (h2 : V' (2 * v) = V (2 * v)) (h3 : V' (2 * v + 1) = V (2 * v + 1)) : q_at S' V' v = q_at S V v := by
  unfold q_at
  rw [h1, h2, h3]
theorem sr_up {S : Nat → Int} {b : Nat} {s : Int} (h : ∀ i, -1 ≤ S i ∧ S i ≤ 1) (hs : -1 ≤ s ∧ s ≤ 1) : ∀ i, -1 ≤ va_up S b s i ∧ va_up S b s i ≤ 1 := by
  intro i
  unfold va_up
  split
  · exact hs
  · exact h i
theorem q_run1 {op : Int} {f : Nat → qv_} {i : Nat} {x : qv_} : q_run op f 1 i x = if (q_step op x (f i)).1 = 0 then (0, (q_step op x (f i)).2) else ((q_step op x (f i)).1, x) := rfl
section MxVal
variable {φ : go_F} {l : Launch} {h : mv_H} {n o : Nat} {I tx S ps cs bs : Nat → Int} {V : Nat → Nat}
/-- the value in hand goes to its place -/
theorem ch_fin {c f : Int} {b x fm fi i : Nat} {h0 : mv_H} {S0 : Nat → Int} {V0 : Nat → Nat} {r : Int × qv_} (hV : mo_V h o (I, tx, S, ps, cs, bs) V) (hb : b < 60) (hf : fr_ o 8 h0 h) (hS : ∀ i, i < 73 → S i = S0 i) (hR : ∀ i, -1 ≤ S i ∧ S i ≤ 1) (hW : ∀ i, (i < 146 ∨ 158 ≤ i) → V i = V0 i) (hr : r.1 = f) (hq : r.1 = 0 → q_at S V 73 = r.2) :
    Go (go_f 0 0 (aq_ h0 n o I tx S0 ps cs bs V0 b r)) l m_mo_chain (go_rm rd_mo_chain rw_mo_chain 0 0) (0, 0) 115 [some (mv_R o), some (mv_I (b : Int)), some (mv_I (x : Int)), some (mv_I (fm : Int)), some (mv_I (fi : Int)), some (mv_I c), some (mv_I f), some (mv_I (i : Int)), none] [] h n := by
  refine so_ch_115 hV hb (fun h1 hV1 hf1 => ?_)
  refine go_iret d_mo_chain_124 rfl go_le0 ⟨by rw [hr], rfl, hf.tr hf1, _, _, hV1, ⟨fun i i1 i2 => by rw [va_up_ne _ _ i1]; exact hS i i2, sr_up hR (hR 73), fun i i1 i2 i3 => by rw [va_up_ne _ _ i2, va_up_ne _ _ i1]; exact hW i i3⟩, fun z => ?_⟩
  rw [q_at_up]
  exact hq z
theorem lp_chain {c : Int} {b x fm fi : Nat} {g : Nat → qv_} {h0 : mv_H} {S0 : Nat → Int} {V0 : Nat → Nat} {r : Int × qv_} (hb : b < 60 ∧ b + x ≤ 60) (hc : c = 43 ∨ c = 45 ∨ c = 42 ∨ c = 47) (hL : V0 158 = 2 ^ 240) (hg : ∀ j, j < x → q_at S0 V0 (b + j) = g j ∧ q_in (g j)) :
    ∀ (d i : Nat) (h : mv_H) (S : Nat → Int) (V : Nat → Nat), i + d = x → mo_V h o (I, tx, S, ps, cs, bs) V → fr_ o 8 h0 h → (∀ i, i < 73 → S i = S0 i) → (∀ i, -1 ≤ S i ∧ S i ≤ 1) → (∀ i, (i < 146 ∨ 158 ≤ i) → V i = V0 i) → q_in (q_at S V 73) → r = q_run c g d i (q_at S V 73) →
      Go (go_f 0 0 (aq_ h0 n o I tx S0 ps cs bs V0 b r)) l m_mo_chain (go_rm rd_mo_chain rw_mo_chain 0 0) (0, 0) 26 [some (mv_R o), some (mv_I (b : Int)), some (mv_I (x : Int)), some (mv_I (fm : Int)), some (mv_I (fi : Int)), some (mv_I c), some (mv_I 0), some (mv_I (i : Int)), none] [] h n := by
  have hc7 : 0 ≤ c ∧ c ≤ 127 := by omega
  intro d
  induction d with
  | zero =>
    intro i h S V hi hV hf hS hR hW hq hr
    refine so_ch_26 hV hb.1 ⟨by omega, by omega⟩ (by decide) hc7 (fun _ => ?_) (fun z => by omega) (fun z => by omega) (fun z => by omega) (fun z => by omega) (fun z => by omega)
    exact ch_fin hV hb.1 hf hS hR hW (by rw [hr]; rfl) (fun _ => by rw [hr]; rfl)
  | succ d ih =>
    intro i h S V hi hV hf hS hR hW hq hr
    obtain ⟨g1, g2⟩ := hg i (by omega)
    have gq : q_at S V (b + i) = g i := by
      rw [← g1]
      exact q_at_ext (hS _ (by omega)) (hW _ (by omega)) (hW _ (by omega))
    have hq2 : q_in (q_at S V (b + i)) := by rw [gq]; exact g2
    have hLL : V 158 = 2 ^ 240 := (hW 158 (by omega)).trans hL
    have e : q_run c g (d + 1) i (q_at S V 73) = if (q_step c (q_at S V 73) (g i)).1 = 0 then q_run c g d (i + 1) (q_step c (q_at S V 73) (g i)).2 else ((q_step c (q_at S V 73) (g i)).1, q_at S V 73) := rfl
    rw [e, ← gq] at hr
    have b3 := q_step_b (op := c) (q_at S V 73) (q_at S V (b + i))
    have nxt : ∀ (h1 : mv_H) (S1 : Nat → Int) (V1 : Nat → Nat) (z y f : Int), mo_V h1 o (I, tx, S1, ps, cs, bs) V1 → fr_ o 8 h h1 → (∀ i, i < 73 → S1 i = S i) → (∀ i, -1 ≤ S1 i ∧ S1 i ≤ 1) → (∀ i, (i < 146 ∨ 158 ≤ i) → V1 i = V i) → (q_step c (q_at S V 73) (q_at S V (b + i))).1 = z → (z = 0 → q_at S1 V1 73 = (q_step c (q_at S V 73) (q_at S V (b + i))).2) →
        Go (go_f 0 0 (aq_ h0 n o I tx S0 ps cs bs V0 b r)) l m_mo_chain (go_rm rd_mo_chain rw_mo_chain 0 0) (0, 0) 107 [some (mv_R o), some (mv_I (b : Int)), some (mv_I (x : Int)), some (mv_I (fm : Int)), some (mv_I (fi : Int)), some (mv_I c), some (mv_I f), some (mv_I (i : Int)), some (mv_I y)] [mv_I z] h1 n := by
      intro h1 S1 V1 z y f hV1 hf1 hS1 hR1 hW1 hz hzq
      refine so_ch_107 hV1 ?_
      rw [show ((i : Int) + 1) = ((i + 1 : Nat) : Int) by omega]
      have hS2 : ∀ i, i < 73 → S1 i = S0 i := fun i hi => (hS1 i hi).trans (hS i hi)
      have hW2 : ∀ i, (i < 146 ∨ 158 ≤ i) → V1 i = V0 i := fun i hi => (hW1 i hi).trans (hW i hi)
      by_cases c0 : z = 0
      · rw [if_pos (hz.trans c0)] at hr
        have hin := q_step_in (op := c) hq hq2 (hz.trans c0)
        have e1 := hzq c0
        subst c0
        refine ih (i + 1) h1 S1 V1 (by omega) hV1 (hf.tr hf1) hS2 hR1 hW2 (by rw [e1]; exact hin) ?_
        rw [hr, e1]
      · rw [if_neg (by rw [hz]; exact c0)] at hr
        have fin := ch_fin (n := n) (l := l) (c := c) (f := z) (x := x) (fm := fm) (fi := fi) (i := i + 1) (r := r) hV1 hb.1 (hf.tr hf1) hS2 hR1 hW2 (by rw [hr]; exact hz) (fun y => absurd y (by rw [hr]; show ¬ (q_step c (q_at S V 73) (q_at S V (b + i))).1 = 0; rw [hz]; exact c0))
        exact so_ch_26 hV1 hb.1 ⟨by omega, by omega⟩ (by omega) hc7 (fun _ => fin) (fun _ _ => fin) (fun _ z => absurd z c0) (fun _ z => absurd z c0) (fun _ z => absurd z c0) (fun _ z => absurd z c0)
    obtain ⟨fs, hob⟩ := mo_Vob hV
    have up : ∀ (S1 : Nat → Int) (V1 : Nat → Nat) (y : qv_), q_up S V 73 y S1 V1 → (-1 ≤ y.1 ∧ y.1 ≤ 1) → (∀ i, i < 73 → S1 i = S i) ∧ (∀ i, -1 ≤ S1 i ∧ S1 i ≤ 1) ∧ ∀ i, (i < 146 ∨ 158 ≤ i) → V1 i = V i := fun S1 V1 y hu hy => by
      obtain ⟨u1, u2, u3, u4⟩ := hu
      subst u1
      exact ⟨fun i hi => va_up_ne _ _ (by omega), sr_up hR hy, fun i hi => u4 i (by omega) (by omega) (by omega)⟩
    refine so_ch_26 hV hb.1 ⟨by omega, by omega⟩ (by decide) hc7 (fun z => by omega) (fun _ z => absurd rfl z) (fun _ _ c1 c2 c3 => ?_) (fun _ _ c1 c2 c3 => ?_) (fun _ _ c1 c2 => ?_) (fun _ _ c1 => ?_)
    · have c4 : c = 47 := by omega
      subst c4
      rw [show (b : Int) + (i : Int) = ((b + i : Nat) : Int) by omega]
      refine go_callV (M' := m_mo_ratio) (d := rd_mo_ratio) (w := rw_mo_ratio) (mc := 0) (ms := 0) (as := [mv_I 73, mv_I ((b + i : Nat) : Int)]) (b := o) (rest := []) (q := 107) g_mo_ratio i_mo_ratio v_mo_ratio l_mo_173 d_mo_chain_104 rfl rfl rfl hob rfl (by decide) ⟨by decide, by decide, by decide, by decide⟩ (tm_ratio (v := 73) hV (by decide) (by omega) hLL hR hq hq2) ?_
      rintro w h1 n1 ⟨rfl, hf1, hk⟩ -
      have es : q_step 47 (q_at S V 73) (q_at S V (b + i)) = if (q_at S V (b + i)).2.1 = 0 then (2, q_at S V 73) else (q_bg (q_div (q_at S V 73) (q_at S V (b + i))), q_div (q_at S V 73) (q_at S V (b + i))) := rfl
      have h0 := hq2.1.2.1
      rcases hk with ⟨k1, rfl, rfl⟩ | ⟨k1, rfl, S1, V1, hV1, hu⟩
      · exact go_u0 (nxt _ S V 2 _ _ hV fr_.rf (fun _ _ => rfl) hR (fun _ _ => rfl) (by rw [es, if_pos (h0.mp k1)]) (fun z => absurd z (by decide)))
      · have hn0 : ¬ (q_at S V (b + i)).2.1 = 0 := fun z => k1 (h0.mpr z)
        obtain ⟨u1, u2, u3⟩ := up S1 V1 _ hu (q_div_ok hq.1 hq2.1 hn0).1
        refine go_u0 (nxt h1 S1 V1 _ _ _ hV1 hf1 u1 u2 u3 (by rw [es, if_neg hn0]) (fun _ => ?_))
        rw [es, if_neg hn0]
        exact q_at_q hu
    · subst c3
      rw [show (b : Int) + (i : Int) = ((b + i : Nat) : Int) by omega]
      refine go_callV (M' := m_mo_product) (d := rd_mo_product) (w := rw_mo_product) (mc := 0) (ms := 0) (as := [mv_I 73, mv_I ((b + i : Nat) : Int)]) (b := o) (rest := []) (q := 96) g_mo_product i_mo_product v_mo_product l_mo_170 d_mo_chain_93 rfl rfl rfl hob rfl (by decide) ⟨by decide, by decide, by decide, by decide⟩ (tm_product (v := 73) hV (by decide) (by omega) hLL hR hq hq2) ?_
      rintro w h1 n1 ⟨rfl, rfl, hf1, S1, V1, hV1, hu⟩ -
      obtain ⟨u1, u2, u3⟩ := up S1 V1 _ hu (q_mul_ok hq.1 hq2.1).1
      exact go_u0 (go_goto (q := 107) d_mo_chain_96 (by decide) (nxt h1 S1 V1 _ _ _ hV1 hf1 u1 u2 u3 rfl (fun _ => q_at_q hu)))
    · subst c2
      rw [show (b : Int) + (i : Int) = ((b + i : Nat) : Int) by omega]
      refine go_callV (M' := m_mo_sum) (d := rd_mo_sum) (w := rw_mo_sum) (mc := 0) (ms := 0) (as := [mv_I 73, mv_I ((b + i : Nat) : Int), mv_I (-1)]) (b := o) (rest := []) (q := 78) g_mo_sum i_mo_sum v_mo_sum l_mo_167 d_mo_chain_75 rfl rfl rfl hob rfl (by decide) ⟨by decide, by decide, by decide, by decide⟩ (tm_sum (v := 73) (t := -1) hV (by decide) (by omega) (by decide) hLL hR hq hq2) ?_
      rintro w h1 n1 ⟨rfl, rfl, hf1, S1, V1, hV1, hu⟩ -
      obtain ⟨u1, u2, u3⟩ := up S1 V1 _ hu (q_add_ok hq.1 hq2.1 (Or.inr rfl)).1
      exact go_u0 (go_goto (q := 107) d_mo_chain_78 (by decide) (nxt h1 S1 V1 _ _ _ hV1 hf1 u1 u2 u3 rfl (fun _ => q_at_q hu)))
    · subst c1
      rw [show (b : Int) + (i : Int) = ((b + i : Nat) : Int) by omega]
      refine go_callV (M' := m_mo_sum) (d := rd_mo_sum) (w := rw_mo_sum) (mc := 0) (ms := 0) (as := [mv_I 73, mv_I ((b + i : Nat) : Int), mv_I 1]) (b := o) (rest := []) (q := 59) g_mo_sum i_mo_sum v_mo_sum l_mo_167 d_mo_chain_56 rfl rfl rfl hob rfl (by decide) ⟨by decide, by decide, by decide, by decide⟩ (tm_sum (v := 73) (t := 1) hV (by decide) (by omega) (by decide) hLL hR hq hq2) ?_
      rintro w h1 n1 ⟨rfl, rfl, hf1, S1, V1, hV1, hu⟩ -
      obtain ⟨u1, u2, u3⟩ := up S1 V1 _ hu (q_add_ok hq.1 hq2.1 (Or.inl rfl)).1
      exact go_u0 (go_goto (q := 107) d_mo_chain_59 (by decide) (nxt h1 S1 V1 _ _ _ hV1 hf1 u1 u2 u3 rfl (fun _ => q_at_q hu)))
theorem tm_chain {c : Int} {b x fm fi : Nat} {g : Nat → qv_} (hV : mo_V h o (I, tx, S, ps, cs, bs) V) (hb : b < 60 ∧ b + x ≤ 60) (hc : c = 43 ∨ c = 45 ∨ c = 42 ∨ c = 47) (hL : V 158 = 2 ^ 240) (hS : ∀ i, -1 ≤ S i ∧ S i ≤ 1) (hg : ∀ j, j < x → q_at S V (b + j) = g j ∧ q_in (g j)) (hfm : fm = 0 ∨ (fm = 1 ∧ 1 ≤ x)) (hfi : fi ≤ 1) :
    Fn l m_mo_chain rd_mo_chain rw_mo_chain 0 0 [mv_R o, mv_I (b : Int), mv_I (x : Int), mv_I (fm : Int), mv_I (fi : Int), mv_I c] h n (aq_ h n o I tx S ps cs bs V b (q_run c g (x - fm) fm (if fm = 1 then g 0 else q_sm fi))) := by
  refine fn_of rfl (Nat.le_of_ble_eq_true rfl) rfl ?_
  have hfs : -1 ≤ (if fi = 0 then (0 : Int) else 1) ∧ (if fi = 0 then (0 : Int) else 1) ≤ 1 := by split <;> decide
  refine so_ch_0 hV hb.1 (by omega) hfi (fun c1 h1 hV1 hf1 => ?_) (fun c1 h1 hV1 hf1 => ?_)
  · have e : q_at (va_up S 73 (if fi = 0 then 0 else 1)) (va_up (va_up V (2 * 73) fi) (2 * 73 + 1) 1) 73 = q_sm fi := q_at_up
    refine lp_chain hb hc hL hg (x - fm) fm h1 _ _ (by omega) hV1 hf1 (fun i hi => va_up_ne _ _ (by omega)) (sr_up hS hfs) (fun i hi => by rw [va_up_ne _ _ (by omega), va_up_ne _ _ (by omega)]) ?_ ?_
    · rw [e]
      exact q_sm_in (by omega)
    · rw [e, if_neg (by omega)]
  · have hx : 1 ≤ x := by omega
    have e : q_at (va_up (va_up S 73 (if fi = 0 then 0 else 1)) 73 ((va_up S 73 (if fi = 0 then 0 else 1)) b)) (va_up (va_up (va_up (va_up V (2 * 73) fi) (2 * 73 + 1) 1) (2 * 73) (V (2 * b))) (2 * 73 + 1) (V (2 * b + 1))) 73 = g 0 := by
      rw [q_at_up, va_up_ne _ _ (by omega)]
      exact (hg 0 (by omega)).1
    refine lp_chain hb hc hL hg (x - fm) fm h1 _ _ (by omega) hV1 hf1 (fun i hi => by rw [va_up_ne _ _ (by omega), va_up_ne _ _ (by omega)]) (sr_up (sr_up hS hfs) (sr_up hS hfs b)) (fun i hi => by rw [va_up_ne _ _ (by omega), va_up_ne _ _ (by omega), va_up_ne _ _ (by omega), va_up_ne _ _ (by omega)]) ?_ ?_
    · rw [e]
      exact (hg 0 (by omega)).2
    · rw [e, if_pos (by omega)]
theorem tm_quotient {b : Nat} {w : Int} {g : Nat → qv_} (hV : mo_V h o (I, tx, S, ps, cs, bs) V) (hb : b < 59) (hw : w = 0 ∨ w = 1) (hS : ∀ i, -1 ≤ S i ∧ S i ≤ 1) (hg : ∀ j, j < 2 → q_at S V (b + j) = g j ∧ q_in (g j)) :
    Fn l m_mo_quotient rd_mo_quotient rw_mo_quotient 0 0 [mv_R o, mv_I (b : Int), mv_I w] h n (aq_ h n o I tx S ps cs bs V b (q_run (if w = 0 then 114 else 113) g 1 1 (g 0))) := by
  refine fn_of rfl (Nat.le_of_ble_eq_true rfl) rfl ?_
  obtain ⟨g1, g2⟩ := hg 0 (by decide)
  obtain ⟨k1, k2⟩ := hg 1 (by decide)
  have x1 : (g 0).1 = S b := by rw [← g1]; rfl
  have x2 : (g 0).2.1 = V (2 * b) := by rw [← g1]; rfl
  have x3 : (g 0).2.2 = V (2 * b + 1) := by rw [← g1]; rfl
  have y1 : (g 1).1 = S (b + 1) := by rw [← k1]; rfl
  have y2 : (g 1).2.1 = V (2 * b + 2) := by rw [← k1]; rfl
  have y3 : (g 1).2.2 = V (2 * (b + 1) + 1) := by rw [← k1]; rfl
  have y0 : S (b + 1) = 0 ↔ V (2 * b + 2) = 0 := by rw [← y1, ← y2]; exact k2.1.2.1
  have l39 : (2 : Nat) ^ 240 < 10000 ^ 39 := by decide +kernel
  have yb : V (2 * b + 2) < 2 ^ 240 := by rw [← y2]; exact k2.2.1
  have e1 : q_run (if w = 0 then 114 else 113) g 1 1 (g 0) = if ¬ ((g 0).2.2 = 1 ∧ (g 1).2.2 = 1) then (3, g 0) else if (g 1).2.1 = 0 then (2, g 0) else (0, if w = 0 then q_rem (g 0) (g 1) else q_quo (g 0) (g 1)) := by
    rcases hw with rfl | rfl
    · rw [if_pos (rfl : (0 : Int) = 0), if_pos (rfl : (0 : Int) = 0), q_run1]
      have es : q_step 114 (g 0) (g 1) = if ¬ ((g 0).2.2 = 1 ∧ (g 1).2.2 = 1) then (3, g 0) else if (g 1).2.1 = 0 then (2, g 0) else (0, q_rem (g 0) (g 1)) := rfl
      rw [es]
      by_cases a1 : ¬ ((g 0).2.2 = 1 ∧ (g 1).2.2 = 1)
      · rw [if_pos a1, if_neg (show ¬ (3 : Int) = 0 by decide)]
      · rw [if_neg a1]
        by_cases a2 : (g 1).2.1 = 0
        · rw [if_pos a2, if_neg (show ¬ (2 : Int) = 0 by decide)]
        · rw [if_neg a2, if_pos rfl]
    · rw [if_neg (show ¬ (1 : Int) = 0 by decide), if_neg (show ¬ (1 : Int) = 0 by decide), q_run1]
      have es : q_step 113 (g 0) (g 1) = if ¬ ((g 0).2.2 = 1 ∧ (g 1).2.2 = 1) then (3, g 0) else if (g 1).2.1 = 0 then (2, g 0) else (0, q_quo (g 0) (g 1)) := rfl
      rw [es]
      by_cases a1 : ¬ ((g 0).2.2 = 1 ∧ (g 1).2.2 = 1)
      · rw [if_pos a1, if_neg (show ¬ (3 : Int) = 0 by decide)]
      · rw [if_neg a1]
        by_cases a2 : (g 1).2.1 = 0
        · rw [if_pos a2, if_neg (show ¬ (2 : Int) = 0 by decide)]
        · rw [if_neg a2, if_pos rfl]
  have s0 : sb_ b S S V V := ⟨fun _ _ _ => rfl, hS, fun _ _ _ _ => rfl⟩
  have bad3 : ¬ ((g 0).2.2 = 1 ∧ (g 1).2.2 = 1) → ∀ L, Go (go_f 0 0 (aq_ h n o I tx S ps cs bs V b (q_run (if w = 0 then 114 else 113) g 1 1 (g 0)))) l m_mo_quotient (go_rm rd_mo_quotient rw_mo_quotient 0 0) (0, 0) 19 L [mv_I 3] h n := fun a1 L => by
    rw [e1, if_pos a1]
    exact go_iret d_mo_quotient_19 rfl go_le0 ⟨rfl, rfl, fr_.rf, S, V, hV, s0, fun z => absurd z (show ¬ (3 : Int) = 0 by decide)⟩
  -- the good end
  have good : ∀ (h1 : mv_H) (V1 : Nat → Nat) (s : Int) (q : Nat), (g 0).2.2 = 1 → (g 1).2.2 = 1 → ¬ S (b + 1) = 0 → (∀ i, i ≠ 152 → i ≠ 153 → i ≠ 157 → V1 i = V i) → mo_V h1 o (I, tx, va_up S b s, ps, cs, bs) (va_up V1 (2 * b) q) → fr_ o 8 h h1 → (-1 ≤ s ∧ s ≤ 1) → (if w = 0 then q_rem (g 0) (g 1) else q_quo (g 0) (g 1)) = (s, q, 1) → ∀ L, Go (go_f 0 0 (aq_ h n o I tx S ps cs bs V b (q_run (if w = 0 then 114 else 113) g 1 1 (g 0)))) l m_mo_quotient (go_rm rd_mo_quotient rw_mo_quotient 0 0) (0, 0) 122 L [mv_I 0] h1 n := by
    intro h1 V1 s q a1 a2 a3 ho hV1 hf1 hs he L
    rw [e1, if_neg (fun z => z ⟨a1, a2⟩), if_neg (fun z => a3 (y0.mpr (by rw [← y2]; exact z))), he]
    refine go_iret d_mo_quotient_122 rfl go_le0 ⟨rfl, rfl, hf1, _, _, hV1, ⟨fun i i1 _ => va_up_ne _ _ i1, sr_up hS hs, fun i i1 i2 i3 => by rw [va_up_ne _ _ i1]; exact ho i (by omega) (by omega) (by omega)⟩, fun _ => ?_⟩
    unfold q_at
    rw [va_up_self, va_up_self, va_up_ne _ _ (by omega), ho _ (by omega) (by omega) (by omega), ← x3, a1]
  have hss := sg_mul (hS b) (hS (b + 1))
  refine so_qu hV hb (by omega) hS (fun z => ⟨Nat.pos_of_ne_zero (fun y => z (y0.mpr y)), by omega⟩) (fun c1 => bad3 (fun z => c1 (by rw [← x3]; exact z.1)) _) (fun c1 c2 c3 V1 v1 v2 v3 cw c4 h1 hV1 hf1 => ?_) (fun c1 c2 c3 V1 v1 v2 v3 cw c4 h1 hV1 hf1 => ?_) (fun c1 c2 c3 V1 v1 v2 v3 cw c4 h1 hV1 hf1 => ?_) (fun c1 c2 c3 V1 v1 v2 v3 cw c4 h1 hV1 hf1 => ?_) (fun c1 c2 c3 => ?_) (fun c1 c2 => bad3 (fun z => c2 (by rw [← y3]; exact z.2)) _)
  · refine good h1 V1 _ _ (x3.trans c1) (y3.trans c2) c3 v3 hV1 hf1 (hS b) ?_ _
    rw [if_pos cw]
    unfold q_rem
    rw [x1, x2, y2, v2, if_neg (by rw [← v2]; exact c4)]
  · refine good h1 V1 _ _ (x3.trans c1) (y3.trans c2) c3 v3 hV1 hf1 (by decide) ?_ _
    rw [if_pos cw]
    unfold q_rem
    rw [x2, y2, v2, if_pos (by rw [← v2]; exact c4)]
  · refine good h1 V1 _ _ (x3.trans c1) (y3.trans c2) c3 v3 hV1 hf1 hss.1 ?_ _
    rw [if_neg cw]
    unfold q_quo
    rw [x1, y1, x2, y2, v1, if_neg (by rw [← v1]; exact c4)]
  · refine good h1 V1 _ _ (x3.trans c1) (y3.trans c2) c3 v3 hV1 hf1 (by decide) ?_ _
    rw [if_neg cw]
    unfold q_quo
    rw [x2, y2, v1, if_pos (by rw [← v1]; exact c4)]
  · rw [e1, if_neg (fun z => z ⟨x3.trans c1, y3.trans c2⟩), if_pos (by rw [y2]; exact y0.mp c3)]
    exact go_iret d_mo_quotient_32 rfl go_le0 ⟨rfl, rfl, fr_.rf, S, V, hV, s0, fun z => absurd z (show ¬ (2 : Int) = 0 by decide)⟩
/-! the greatest common divisor -/
theorem g_bad {g : Nat → qv_} : ∀ (k i : Nat) (x : qv_), (∃ j, i ≤ j ∧ j < i + k ∧ ¬ (g j).2.2 = 1) → (q_run 103 g k i x).1 = 3 := by
  intro k
  induction k with
  | zero => rintro i x ⟨j, h1, h2, -⟩; omega
  | succ k ih =>
    rintro i x ⟨j, h1, h2, h3⟩
    have e : q_run 103 g (k + 1) i x = if (q_step 103 x (g i)).1 = 0 then q_run 103 g k (i + 1) (q_step 103 x (g i)).2 else ((q_step 103 x (g i)).1, x) := rfl
    have es : q_step 103 x (g i) = if ¬ (g i).2.2 = 1 then (3, x) else (0, q_gcd x (g i)) := rfl
    rw [e, es]
    by_cases c : (g i).2.2 = 1
    · rw [if_neg (show ¬ ¬ (g i).2.2 = 1 from fun z => z c), if_pos (rfl : (0 : Int) = 0)]
      refine ih (i + 1) _ ⟨j, ?_, by omega, h3⟩
      by_cases ej : j = i
      · subst ej; exact absurd c h3
      · omega
    · rw [if_pos c, if_neg (show ¬ (3 : Int) = 0 by decide)]
theorem lp_dv2 {b x : Nat} {g : Nat → qv_} {h0 : mv_H} {S0 : Nat → Int} {V0 : Nat → Nat} {r : Int × qv_} (hb : b < 60 ∧ b + x ≤ 60) (hg : ∀ j, j < x → q_at S0 V0 (b + j) = g j ∧ (g j).2.2 = 1) (hS0 : ∀ i, -1 ≤ S0 i ∧ S0 i ≤ 1) (hS : S = va_up S0 73 0) :
    ∀ (d i : Nat) (h : mv_H) (V : Nat → Nat), i + d = x → mo_V h o (I, tx, S, ps, cs, bs) V → fr_ o 8 h0 h → (∀ i, (i < 146 ∨ 158 ≤ i) → V i = V0 i) → V 147 = 1 → r = q_run 103 g d i (if V 146 = 0 then 0 else 1, V 146, 1) →
      Go (go_f 0 0 (aq_ h0 n o I tx S0 ps cs bs V0 b r)) l m_mo_divisor (go_rm rd_mo_divisor rw_mo_divisor 0 0) (0, 0) 34 [some (mv_R o), some (mv_I (b : Int)), some (mv_I (x : Int)), some (mv_I (i : Int))] [] h n := by
  intro d
  induction d with
  | zero =>
    intro i h V hi hV hf hW h1 hr
    refine so_dv_34 hV ⟨hb.2, by omega⟩ (fun _ => ?_) (fun z => by omega)
    have fin : ∀ (s : Int) (h2 : mv_H), (if V 146 = 0 then (0 : Int) else 1) = s → mo_V h2 o (I, tx, va_up (va_up S 73 s) b ((va_up S 73 s) 73), ps, cs, bs) (va_up (va_up V (2 * b) (V (2 * 73))) (2 * b + 1) (V (2 * 73 + 1))) → fr_ o 8 h h2 → ∀ L, Go (go_f 0 0 (aq_ h0 n o I tx S0 ps cs bs V0 b r)) l m_mo_divisor (go_rm rd_mo_divisor rw_mo_divisor 0 0) (0, 0) 98 L [mv_I 0] h2 n := by
      intro s h2 es hV2 hf2 L
      have hr2 : r = (0, (s, V 146, 1)) := by rw [hr, es]; rfl
      have hsb : -1 ≤ s ∧ s ≤ 1 := by rw [← es]; split <;> decide
      rw [hr2]
      refine go_iret d_mo_divisor_98 rfl go_le0 ⟨rfl, rfl, hf.tr hf2, _, _, hV2, ⟨fun i i1 i2 => ?_, ?_, fun i i1 i2 i3 => by rw [va_up_ne _ _ i2, va_up_ne _ _ i1]; exact hW i i3⟩, fun _ => ?_⟩
      · rw [va_up_ne _ _ i1, va_up_ne _ _ (by omega), hS, va_up_ne _ _ (by omega)]
      · refine sr_up (sr_up (by rw [hS]; exact sr_up hS0 (by decide)) hsb) ?_
        rw [va_up_self]
        exact hsb
      · rw [q_at_up, va_up_self]
        show (s, V 146, V 147) = (s, V 146, 1)
        rw [h1]
    refine so_dv_67 hV hb.1 (fun c h2 hV2 hf2 => ?_) (fun c h2 hV2 hf2 => ?_)
    · exact fin 1 h2 (if_neg c) hV2 hf2 _
    · exact fin 0 h2 (if_pos c) hV2 hf2 _
  | succ d ih =>
    intro i h V hi hV hf hW h1 hr
    obtain ⟨g1, g2⟩ := hg i (by omega)
    refine so_dv_34 hV ⟨hb.2, by omega⟩ (fun z => by omega) (fun _ V1 v1 v2 h2 hV2 hf2 => ?_)
    rw [show ((i : Int) + 1) = ((i + 1 : Nat) : Int) by omega]
    have en : V (2 * (b + i)) = (g i).2.1 := by
      rw [hW _ (by omega), ← g1]
      rfl
    refine ih (i + 1) h2 _ (by omega) hV2 (hf.tr hf2) (fun j hj => by rw [va_up_ne _ _ (by omega), v2 _ (by omega) (by omega)]; exact hW j hj) (by rw [va_up_ne _ _ (by decide), v2 _ (by decide) (by decide)]; exact h1) ?_
    rw [hr, va_up_self, v1, en]
    have e : q_run 103 g (d + 1) i (if V 146 = 0 then 0 else 1, V 146, 1) = if (q_step 103 (if V 146 = 0 then 0 else 1, V 146, 1) (g i)).1 = 0 then q_run 103 g d (i + 1) (q_step 103 (if V 146 = 0 then 0 else 1, V 146, 1) (g i)).2 else ((q_step 103 (if V 146 = 0 then 0 else 1, V 146, 1) (g i)).1, (if V 146 = 0 then 0 else 1, V 146, 1)) := rfl
    have es : q_step 103 (if V 146 = 0 then 0 else 1, V 146, 1) (g i) = if ¬ (g i).2.2 = 1 then (3, (if V 146 = 0 then 0 else 1, V 146, 1)) else (0, q_gcd (if V 146 = 0 then 0 else 1, V 146, 1) (g i)) := rfl
    rw [e, es, if_neg (show ¬ ¬ (g i).2.2 = 1 from fun z => z g2), if_pos (rfl : (0 : Int) = 0)]
    rfl
theorem tm_divisor {b x : Nat} {g : Nat → qv_} (hV : mo_V h o (I, tx, S, ps, cs, bs) V) (hb : b < 60 ∧ b + x ≤ 60) (hS : ∀ i, -1 ≤ S i ∧ S i ≤ 1) (hg : ∀ j, j < x → q_at S V (b + j) = g j) :
    Fn l m_mo_divisor rd_mo_divisor rw_mo_divisor 0 0 [mv_R o, mv_I (b : Int), mv_I (x : Int)] h n (aq_ h n o I tx S ps cs bs V b (q_run 103 g x 0 (q_sm 0))) := by
  refine fn_of rfl (Nat.le_of_ble_eq_true rfl) rfl ?_
  refine so_dv_0 hV ?_
  have lp : ∀ (d i : Nat), i + d = x → (∀ j, j < i → (g j).2.2 = 1) → Go (go_f 0 0 (aq_ h n o I tx S ps cs bs V b (q_run 103 g x 0 (q_sm 0)))) l m_mo_divisor (go_rm rd_mo_divisor rw_mo_divisor 0 0) (0, 0) 2 [some (mv_R o), some (mv_I (b : Int)), some (mv_I (x : Int)), some (mv_I (i : Int))] [] h n := by
    intro d
    induction d with
    | zero =>
      intro i hi hj
      refine so_dv_2 hV ⟨hb.2, by omega⟩ (fun _ => ?_) (fun z => by omega) (fun z => by omega)
      refine so_dv_25 hV (fun h1 hV1 hf1 => ?_)
      refine lp_dv2 (S0 := S) (V0 := V) hb (fun j hj2 => ⟨hg j hj2, hj j (by omega)⟩) hS rfl x 0 h1 _ (by omega) hV1 hf1 (fun i hi => by rw [va_up_ne _ _ (by omega), va_up_ne _ _ (by omega)]) (va_up_self _ _ _) ?_
      have e0 : va_up (va_up V (2 * 73) 0) (2 * 73 + 1) 1 146 = 0 := (va_up_ne _ _ (by decide)).trans (va_up_self _ _ _)
      rw [e0]
      rfl
    | succ d ih =>
      intro i hi hj
      refine so_dv_2 hV ⟨hb.2, by omega⟩ (fun z => by omega) (fun _ c1 => ?_) (fun _ c1 => ?_)
      · rw [show ((i : Int) + 1) = ((i + 1 : Nat) : Int) by omega]
        refine ih (i + 1) (by omega) (fun j hj2 => ?_)
        by_cases e : j = i
        · rw [e, ← hg i (by omega)]
          exact c1
        · exact hj j (by omega)
      · have hb3 : (q_run 103 g x 0 (q_sm 0)).1 = 3 := g_bad x 0 _ ⟨i, by omega, by omega, by rw [← hg i (by omega)]; exact c1⟩
        exact go_iret d_mo_divisor_18 rfl go_le0 ⟨by rw [hb3], rfl, fr_.rf, S, V, hV, ⟨fun _ _ _ => rfl, hS, fun _ _ _ _ => rfl⟩, fun z => absurd z (by rw [hb3]; decide)⟩
  exact lp x 0 (by omega) (fun j hj => absurd hj (by omega))
end MxVal
