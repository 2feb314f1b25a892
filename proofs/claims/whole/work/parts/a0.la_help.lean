/-! the law's helpers: work, keep, against, fetch, of the class, with their handlers -/
theorem pn_kk {h h' : mv_H} {X : pn_X} {B : Nat → Int} {V : Nat → Nat} (hV : pn_V h X B V) (hk : ∀ j, 1 ≤ j → j < 390 → h' j = h j) : pn_V h' X B V :=
  ⟨pn_S_k hV.1 fun z hz => hk z (by unfold fx_ fa_ at hz; omega) (by unfold fx_ fa_ at hz; omega), hV.2.1, fun p hp => WV_k (hV.2.2 p hp) fun j a b => hk j (by unfold ro_ at hp; omega) (by unfold ro_ at hp; omega)⟩
theorem rc_k {h h' : mv_H} {len : Nat} {tx : Nat → Int} {told : Int} {x : qv_} {var : Nat → qv_} {ga gb : Nat → Int} (hr : rc_ h len tx told x var ga gb) (hk : ∀ j, 1 ≤ j → j < 390 → h' j = h j) : rc_ h' len tx told x var ga gb := by
  obtain ⟨I, wr, mo, mf, mg, B, V, hV, hr⟩ := hr
  exact ⟨I, wr, mo, mf, mg, B, V, pn_kk hV hk, hr⟩
theorem rm_k {h h' : mv_H} {o : Nat} {c : Int} {len : Nat} {tx : Nat → Int} {told : Int} {x : qv_} {var : Nat → qv_} (hr : rm_ h o c len tx told x var) (hk : ∀ j, o ≤ j → j < o + 8 → h' j = h j) : rm_ h' o c len tx told x var := by
  obtain ⟨J, S, ps, cs, bs, W, ⟨D, U, ⟨c0, c1, c2, c3, c4, c5, c6, c7⟩, hM⟩, hr⟩ := hr
  exact ⟨J, S, ps, cs, bs, W, ⟨D, U, ⟨(hk _ (by omega) (by omega)).trans c0, (hk _ (by omega) (by omega)).trans c1, (hk _ (by omega) (by omega)).trans c2, (hk _ (by omega) (by omega)).trans c3, (hk _ (by omega) (by omega)).trans c4, (hk _ (by omega) (by omega)).trans c5, (hk _ (by omega) (by omega)).trans c6, (hk _ (by omega) (by omega)).trans c7⟩, hM⟩, hr⟩
theorem qf_b (x : qv_) : 0 ≤ q_form x ∧ q_form x ≤ 2 := by
  unfold q_form
  split
  · split
    · exact ⟨by decide, by decide⟩
    · exact ⟨by decide, by decide⟩
  · exact ⟨by decide, by decide⟩
/-- the class's cells and the row at 398 may change -/
def fl_ (h h' : mv_H) : Prop := ∀ j, (j < 1 ∨ 390 ≤ j) → j ≠ 398 → h' j = h j
section LaHelp
variable {l : Launch} {h : mv_H} {n : Nat} {told : Int} {len : Nat} {tx ga gb : Nat → Int} {x : qv_} {var : Nat → qv_} {g : Nat → Int}
def lz_ (h' : mv_H) (len : Nat) (tx : Nat → Int) (told : Int) (x : qv_) (var : Nat → qv_) : Prop := ∃ (g ga gb : Nat → Int), h' 398 = mv_A 1 1 g ∧ rc_ h' len tx told x var ga gb
theorem lh_workE (hl : l.stackTraces = false) (hr : rc_ h len tx told x var ga gb) (hg : h 398 = mv_A 1 1 g) (ht : tk_ len tx) (he : ¬ gr_ tx len len 0 0 ga gb = -1) : FnW l m_la_work hh_la_work rd_la_work rw_la_work 1 6 [mv_R 1, mv_R 398] h n (fun w h' n' => n' = n ∧ fl_ h h' ∧ w = some (mv_I 1) ∧ lz_ h' len tx (gr_ tx len len 0 0 ga gb) x var) := by
  have hr0 := hr
  obtain ⟨I, wr, mo, mf, mg, B, V, hV, -⟩ := hr0
  refine fnW_of rfl (Nat.le_of_ble_eq_true rfl) rfl ?_
  refine go_aload_n (q := 1) d_la_work_0 rfl rfl rfl ?_
  refine go_iconst (q := 2) d_la_work_1 rfl ?_
  refine go_aload_n (q := 3) d_la_work_2 rfl rfl rfl ?_
  refine go_catchV (M' := m_pn_work) (d := rd_pn_work) (w := rw_pn_work) (mc' := 1) (ms' := 6) (hp := []) (hr := [(0, 8, 14, 15), (0, 8, 17, 17), (0, 8, 20, 19)]) (as := []) (b := 1) (rest := [mv_I 0, mv_R 398]) (j := 2) cw_la_work rfl (fun y hy => absurd hy List.not_mem_nil) (by decide) c_la_13 (by decide) ⟨by decide, by decide⟩ g_pn_work i_pn_work v_pn_work k_la_7 d_la_work_3 rfl rfl (pn_c1 hV) rfl (by decide) ⟨by decide, by decide, by decide, by decide⟩ (pt_workE hl hr ht he) d_la_work_11 (by decide) (fun h1 n1 hq _ => ?_)
  refine go_iconst (q := 13) d_la_work_12 rfl ?_
  refine go_fw (go_iret d_la_work_13 rfl ⟨by decide, by decide⟩ ?_)
  obtain ⟨rfl, hf, ga1, gb1, hr1⟩ := hq
  exact ⟨rfl, fun j hj _ => hf j (by omega), rfl, g, ga1, gb1, (hf 398 (by omega)).trans hg, hr1⟩
theorem lh_work1 {f : Nat → qv_} {r : Int × qv_} (hl : l.stackTraces = false) (hr : rc_ h len tx told x var ga gb) (hg : h 398 = mv_A 1 1 g) (ht : tk_ len tx) (he : gr_ tx len len 0 0 ga gb = -1) (hE : Ev tx len var true 0 [] 0 f r) (h0 : r.1 = 1) : FnW l m_la_work hh_la_work rd_la_work rw_la_work 1 6 [mv_R 1, mv_R 398] h n (fun w h' n' => n' = n ∧ fl_ h h' ∧ w = some (mv_I 2) ∧ lz_ h' len tx (-1) x var) := by
  have hr0 := hr
  obtain ⟨I, wr, mo, mf, mg, B, V, hV, -⟩ := hr0
  refine fnW_of rfl (Nat.le_of_ble_eq_true rfl) rfl ?_
  refine go_aload_n (q := 1) d_la_work_0 rfl rfl rfl ?_
  refine go_iconst (q := 2) d_la_work_1 rfl ?_
  refine go_aload_n (q := 3) d_la_work_2 rfl rfl rfl ?_
  have hT := pt_workZ (n := n) hl hr ht he hE (by omega)
  rw [h0] at hT
  refine go_catchV (M' := m_pn_work) (d := rd_pn_work) (w := rw_pn_work) (mc' := 1) (ms' := 6) (hp := [(0, 8, 11, 13)]) (hr := [(0, 8, 17, 17), (0, 8, 20, 19)]) (as := []) (b := 1) (rest := [mv_I 0, mv_R 398]) (j := 2) cw_la_work rfl (List.forall_mem_cons.mpr ⟨⟨by decide, xIA_, by decide, by decide, c_la_13⟩, fun y hy => absurd hy List.not_mem_nil⟩) (by decide) c_la_15 (by decide) ⟨by decide, by decide⟩ g_pn_work i_pn_work v_pn_work k_la_7 d_la_work_3 rfl rfl (pn_c1 hV) rfl (by decide) ⟨by decide, by decide, by decide, by decide⟩ (hT) d_la_work_14 (by decide) (fun h1 n1 hq _ => ?_)
  refine go_iconst (q := 16) d_la_work_15 rfl ?_
  refine go_fw (go_iret d_la_work_16 rfl ⟨by decide, by decide⟩ ?_)
  obtain ⟨rfl, hf, ga1, gb1, hr1⟩ := hq
  exact ⟨rfl, fun j hj _ => hf j (by omega), rfl, g, ga1, gb1, (hf 398 (by omega)).trans hg, hr1⟩
theorem lh_work2 {f : Nat → qv_} {r : Int × qv_} (hl : l.stackTraces = false) (hr : rc_ h len tx told x var ga gb) (hg : h 398 = mv_A 1 1 g) (ht : tk_ len tx) (he : gr_ tx len len 0 0 ga gb = -1) (hE : Ev tx len var true 0 [] 0 f r) (h0 : r.1 = 2) : FnW l m_la_work hh_la_work rd_la_work rw_la_work 1 6 [mv_R 1, mv_R 398] h n (fun w h' n' => n' = n ∧ fl_ h h' ∧ w = some (mv_I 3) ∧ lz_ h' len tx (-1) x var) := by
  have hr0 := hr
  obtain ⟨I, wr, mo, mf, mg, B, V, hV, -⟩ := hr0
  refine fnW_of rfl (Nat.le_of_ble_eq_true rfl) rfl ?_
  refine go_aload_n (q := 1) d_la_work_0 rfl rfl rfl ?_
  refine go_iconst (q := 2) d_la_work_1 rfl ?_
  refine go_aload_n (q := 3) d_la_work_2 rfl rfl rfl ?_
  have hT := pt_workZ (n := n) hl hr ht he hE (by omega)
  rw [h0] at hT
  refine go_catchV (M' := m_pn_work) (d := rd_pn_work) (w := rw_pn_work) (mc' := 1) (ms' := 6) (hp := [(0, 8, 11, 13), (0, 8, 14, 15)]) (hr := [(0, 8, 20, 19)]) (as := []) (b := 1) (rest := [mv_I 0, mv_R 398]) (j := 2) cw_la_work rfl (List.forall_mem_cons.mpr ⟨⟨by decide, xIA_, by decide, by decide, c_la_13⟩, List.forall_mem_cons.mpr ⟨⟨by decide, xUO_, by decide, by decide, c_la_15⟩, fun y hy => absurd hy List.not_mem_nil⟩⟩) (by decide) c_la_17 (by decide) ⟨by decide, by decide⟩ g_pn_work i_pn_work v_pn_work k_la_7 d_la_work_3 rfl rfl (pn_c1 hV) rfl (by decide) ⟨by decide, by decide, by decide, by decide⟩ (hT) d_la_work_17 (by decide) (fun h1 n1 hq _ => ?_)
  refine go_iconst (q := 19) d_la_work_18 rfl ?_
  refine go_fw (go_iret d_la_work_19 rfl ⟨by decide, by decide⟩ ?_)
  obtain ⟨rfl, hf, ga1, gb1, hr1⟩ := hq
  exact ⟨rfl, fun j hj _ => hf j (by omega), rfl, g, ga1, gb1, (hf 398 (by omega)).trans hg, hr1⟩
theorem lh_work3 {f : Nat → qv_} {r : Int × qv_} (hl : l.stackTraces = false) (hr : rc_ h len tx told x var ga gb) (hg : h 398 = mv_A 1 1 g) (ht : tk_ len tx) (he : gr_ tx len len 0 0 ga gb = -1) (hE : Ev tx len var true 0 [] 0 f r) (h0 : r.1 = 3) : FnW l m_la_work hh_la_work rd_la_work rw_la_work 1 6 [mv_R 1, mv_R 398] h n (fun w h' n' => n' = n ∧ fl_ h h' ∧ w = some (mv_I 4) ∧ lz_ h' len tx (-1) x var) := by
  have hr0 := hr
  obtain ⟨I, wr, mo, mf, mg, B, V, hV, -⟩ := hr0
  refine fnW_of rfl (Nat.le_of_ble_eq_true rfl) rfl ?_
  refine go_aload_n (q := 1) d_la_work_0 rfl rfl rfl ?_
  refine go_iconst (q := 2) d_la_work_1 rfl ?_
  refine go_aload_n (q := 3) d_la_work_2 rfl rfl rfl ?_
  have hT := pt_workZ (n := n) hl hr ht he hE (by omega)
  rw [h0] at hT
  refine go_catchV (M' := m_pn_work) (d := rd_pn_work) (w := rw_pn_work) (mc' := 1) (ms' := 6) (hp := [(0, 8, 11, 13), (0, 8, 14, 15), (0, 8, 17, 17)]) (hr := []) (as := []) (b := 1) (rest := [mv_I 0, mv_R 398]) (j := 2) cw_la_work rfl (List.forall_mem_cons.mpr ⟨⟨by decide, xIA_, by decide, by decide, c_la_13⟩, List.forall_mem_cons.mpr ⟨⟨by decide, xUO_, by decide, by decide, c_la_15⟩, List.forall_mem_cons.mpr ⟨⟨by decide, xAR_, by decide, by decide, c_la_17⟩, fun y hy => absurd hy List.not_mem_nil⟩⟩⟩) (by decide) c_la_19 (by decide) ⟨by decide, by decide⟩ g_pn_work i_pn_work v_pn_work k_la_7 d_la_work_3 rfl rfl (pn_c1 hV) rfl (by decide) ⟨by decide, by decide, by decide, by decide⟩ (hT) d_la_work_20 (by decide) (fun h1 n1 hq _ => ?_)
  refine go_iconst (q := 22) d_la_work_21 rfl ?_
  refine go_fw (go_iret d_la_work_22 rfl ⟨by decide, by decide⟩ ?_)
  obtain ⟨rfl, hf, ga1, gb1, hr1⟩ := hq
  exact ⟨rfl, fun j hj _ => hf j (by omega), rfl, g, ga1, gb1, (hf 398 (by omega)).trans hg, hr1⟩
theorem lh_work0 {f : Nat → qv_} {r : Int × qv_} (hl : l.stackTraces = false) (hr : rc_ h len tx told x var ga gb) (hg : h 398 = mv_A 1 1 g) (ht : tk_ len tx) (he : gr_ tx len len 0 0 ga gb = -1) (hE : Ev tx len var true 0 [] 0 f r) (h0 : r.1 = 0) : FnW l m_la_work hh_la_work rd_la_work rw_la_work 1 6 [mv_R 1, mv_R 398] h n (fun w h' n' => n' = n ∧ fl_ h h' ∧ w = some (mv_I 0) ∧ ∃ (g' ga' gb' : Nat → Int), h' 398 = mv_A 1 1 g' ∧ g' 0 = q_form r.2 ∧ rc_ h' len tx (-1) r.2 var ga' gb') := by
  have hr0 := hr
  obtain ⟨I, wr, mo, mf, mg, B, V, hV, -⟩ := hr0
  refine fnW_of rfl (Nat.le_of_ble_eq_true rfl) rfl ?_
  refine go_aload_n (q := 1) d_la_work_0 rfl rfl rfl ?_
  refine go_iconst (q := 2) d_la_work_1 rfl ?_
  refine go_aload_n (q := 3) d_la_work_2 rfl rfl rfl ?_
  refine go_callV (M' := m_pn_work) (d := rd_pn_work) (w := rw_pn_work) (mc := 0) (ms := 0) (as := []) (b := 1) (rest := [mv_I 0, mv_R 398]) (q := 6) g_pn_work i_pn_work v_pn_work (Or.inl k_la_7) d_la_work_3 rfl rfl rfl (pn_c1 hV) rfl (by decide) ⟨by decide, by decide, by decide, by decide⟩ (pc_work0 hr ht he hE h0) ?_
  rintro w h1 n1 ⟨rfl, rfl, hf, ga1, gb1, hr1⟩ -
  refine go_u0 ?_
  refine go_i2l (q := 7) d_la_work_6 rfl (by have := qf_b r.2; omega) ?_
  refine go_last (N := 1) (f := g) (i := 0) (q := 8) d_la_work_7 rfl ((hf 398 (by omega)).trans hg) rfl (by decide) (by decide) ?_
  refine go_goto (q := 23) d_la_work_8 (by decide) ?_
  refine go_iconst (q := 24) d_la_work_23 rfl ?_
  exact go_fw (go_iret d_la_work_24 rfl ⟨by decide, by decide⟩ ⟨rfl, fun j hj hn => (va_up_ne _ _ hn).trans (hf j (by omega)), rfl, va_up g 0 (q_form r.2), ga1, gb1, va_up_self _ _ _, va_up_self _ _ _, rc_k hr1 fun j a b => va_up_ne _ _ (by omega)⟩)
theorem lh_keepV {v : Int} (hl : l.stackTraces = false) (hr : rc_ h len tx told x var ga gb) (hg : h 398 = mv_A 1 1 g) (hi : -2147483648 ≤ v ∧ v ≤ 2147483647) (hv : ¬ (0 ≤ v ∧ v < 8)) : FnW l m_la_keep hh_la_keep rd_la_keep rw_la_keep 1 6 [mv_R 1, mv_I v, mv_R 398] h n (fun w h' n' => n' = n ∧ fl_ h h' ∧ w = some (mv_I 1) ∧ lz_ h' len tx told x var) := by
  have hr0 := hr
  obtain ⟨I, wr, mo, mf, mg, B, V, hV, -⟩ := hr0
  refine fnW_of rfl (Nat.le_of_ble_eq_true rfl) rfl ?_
  refine go_aload_n (q := 1) d_la_keep_0 rfl rfl rfl ?_
  refine go_iconst (q := 2) d_la_keep_1 rfl ?_
  refine go_aload_n (q := 3) d_la_keep_2 rfl rfl rfl ?_
  refine go_iload_n (q := 4) d_la_keep_3 rfl rfl rfl ?_
  refine go_catchV (M' := m_pn_keep) (d := rd_pn_keep) (w := rw_pn_keep) (mc' := 1) (ms' := 6) (hp := []) (hr := [(0, 9, 15, 13), (0, 9, 18, 15), (0, 9, 21, 17), (0, 9, 24, 19)]) (as := [mv_I v]) (b := 1) (rest := [mv_I 0, mv_R 398]) (j := 3) cw_la_keep rfl (fun y hy => absurd hy List.not_mem_nil) (by decide) c_la_25 (by decide) ⟨by decide, by decide⟩ g_pn_keep i_pn_keep v_pn_keep k_la_21 d_la_keep_4 rfl rfl (pn_c1 hV) rfl (by decide) ⟨by decide, by decide, by decide, by decide⟩ (pt_keepV hl hr hi hv) d_la_keep_12 (by decide) (fun h1 n1 hq _ => ?_)
  refine go_iconst (q := 14) d_la_keep_13 rfl ?_
  refine go_fw (go_iret d_la_keep_14 rfl ⟨by decide, by decide⟩ ?_)
  obtain ⟨rfl, rfl⟩ := hq
  exact ⟨rfl, fun j hj _ => rfl, rfl, g, ga, gb, hg, hr⟩
theorem lh_keepE {v : Int} (hl : l.stackTraces = false) (hr : rc_ h len tx told x var ga gb) (hg : h 398 = mv_A 1 1 g) (hv : 0 ≤ v ∧ v < 8) (ht : tk_ len tx) (he : ¬ gr_ tx len len 0 0 ga gb = -1) : FnW l m_la_keep hh_la_keep rd_la_keep rw_la_keep 1 6 [mv_R 1, mv_I v, mv_R 398] h n (fun w h' n' => n' = n ∧ fl_ h h' ∧ w = some (mv_I 2) ∧ lz_ h' len tx (gr_ tx len len 0 0 ga gb) x var) := by
  have hr0 := hr
  obtain ⟨I, wr, mo, mf, mg, B, V, hV, -⟩ := hr0
  refine fnW_of rfl (Nat.le_of_ble_eq_true rfl) rfl ?_
  refine go_aload_n (q := 1) d_la_keep_0 rfl rfl rfl ?_
  refine go_iconst (q := 2) d_la_keep_1 rfl ?_
  refine go_aload_n (q := 3) d_la_keep_2 rfl rfl rfl ?_
  refine go_iload_n (q := 4) d_la_keep_3 rfl rfl rfl ?_
  refine go_catchV (M' := m_pn_keep) (d := rd_pn_keep) (w := rw_pn_keep) (mc' := 1) (ms' := 6) (hp := [(0, 9, 12, 25)]) (hr := [(0, 9, 18, 15), (0, 9, 21, 17), (0, 9, 24, 19)]) (as := [mv_I v]) (b := 1) (rest := [mv_I 0, mv_R 398]) (j := 3) cw_la_keep rfl (List.forall_mem_cons.mpr ⟨⟨by decide, xIB_, by decide, by decide, c_la_25⟩, fun y hy => absurd hy List.not_mem_nil⟩) (by decide) c_la_13 (by decide) ⟨by decide, by decide⟩ g_pn_keep i_pn_keep v_pn_keep k_la_21 d_la_keep_4 rfl rfl (pn_c1 hV) rfl (by decide) ⟨by decide, by decide, by decide, by decide⟩ (pt_keepE hl hr ht hv he) d_la_keep_15 (by decide) (fun h1 n1 hq _ => ?_)
  refine go_iconst (q := 17) d_la_keep_16 rfl ?_
  refine go_fw (go_iret d_la_keep_17 rfl ⟨by decide, by decide⟩ ?_)
  obtain ⟨rfl, hf, ga1, gb1, hr1⟩ := hq
  exact ⟨rfl, fun j hj _ => hf j (by omega), rfl, g, ga1, gb1, (hf 398 (by omega)).trans hg, hr1⟩
theorem lh_keep1 {v : Int} {f : Nat → qv_} {r : Int × qv_} (hl : l.stackTraces = false) (hr : rc_ h len tx told x var ga gb) (hg : h 398 = mv_A 1 1 g) (hv : 0 ≤ v ∧ v < 8) (ht : tk_ len tx) (he : gr_ tx len len 0 0 ga gb = -1) (hE : Ev tx len var true 0 [] 0 f r) (h0 : r.1 = 1) : FnW l m_la_keep hh_la_keep rd_la_keep rw_la_keep 1 6 [mv_R 1, mv_I v, mv_R 398] h n (fun w h' n' => n' = n ∧ fl_ h h' ∧ w = some (mv_I 3) ∧ lz_ h' len tx (-1) x var) := by
  have hr0 := hr
  obtain ⟨I, wr, mo, mf, mg, B, V, hV, -⟩ := hr0
  refine fnW_of rfl (Nat.le_of_ble_eq_true rfl) rfl ?_
  refine go_aload_n (q := 1) d_la_keep_0 rfl rfl rfl ?_
  refine go_iconst (q := 2) d_la_keep_1 rfl ?_
  refine go_aload_n (q := 3) d_la_keep_2 rfl rfl rfl ?_
  refine go_iload_n (q := 4) d_la_keep_3 rfl rfl rfl ?_
  have hT := pt_keepZ (n := n) hl hr ht hv he hE (by omega)
  rw [h0] at hT
  refine go_catchV (M' := m_pn_keep) (d := rd_pn_keep) (w := rw_pn_keep) (mc' := 1) (ms' := 6) (hp := [(0, 9, 12, 25), (0, 9, 15, 13)]) (hr := [(0, 9, 21, 17), (0, 9, 24, 19)]) (as := [mv_I v]) (b := 1) (rest := [mv_I 0, mv_R 398]) (j := 3) cw_la_keep rfl (List.forall_mem_cons.mpr ⟨⟨by decide, xIB_, by decide, by decide, c_la_25⟩, List.forall_mem_cons.mpr ⟨⟨by decide, xIA_, by decide, by decide, c_la_13⟩, fun y hy => absurd hy List.not_mem_nil⟩⟩) (by decide) c_la_15 (by decide) ⟨by decide, by decide⟩ g_pn_keep i_pn_keep v_pn_keep k_la_21 d_la_keep_4 rfl rfl (pn_c1 hV) rfl (by decide) ⟨by decide, by decide, by decide, by decide⟩ (hT) d_la_keep_18 (by decide) (fun h1 n1 hq _ => ?_)
  refine go_iconst (q := 20) d_la_keep_19 rfl ?_
  refine go_fw (go_iret d_la_keep_20 rfl ⟨by decide, by decide⟩ ?_)
  obtain ⟨rfl, hf, ga1, gb1, hr1⟩ := hq
  exact ⟨rfl, fun j hj _ => hf j (by omega), rfl, g, ga1, gb1, (hf 398 (by omega)).trans hg, hr1⟩
theorem lh_keep2 {v : Int} {f : Nat → qv_} {r : Int × qv_} (hl : l.stackTraces = false) (hr : rc_ h len tx told x var ga gb) (hg : h 398 = mv_A 1 1 g) (hv : 0 ≤ v ∧ v < 8) (ht : tk_ len tx) (he : gr_ tx len len 0 0 ga gb = -1) (hE : Ev tx len var true 0 [] 0 f r) (h0 : r.1 = 2) : FnW l m_la_keep hh_la_keep rd_la_keep rw_la_keep 1 6 [mv_R 1, mv_I v, mv_R 398] h n (fun w h' n' => n' = n ∧ fl_ h h' ∧ w = some (mv_I 4) ∧ lz_ h' len tx (-1) x var) := by
  have hr0 := hr
  obtain ⟨I, wr, mo, mf, mg, B, V, hV, -⟩ := hr0
  refine fnW_of rfl (Nat.le_of_ble_eq_true rfl) rfl ?_
  refine go_aload_n (q := 1) d_la_keep_0 rfl rfl rfl ?_
  refine go_iconst (q := 2) d_la_keep_1 rfl ?_
  refine go_aload_n (q := 3) d_la_keep_2 rfl rfl rfl ?_
  refine go_iload_n (q := 4) d_la_keep_3 rfl rfl rfl ?_
  have hT := pt_keepZ (n := n) hl hr ht hv he hE (by omega)
  rw [h0] at hT
  refine go_catchV (M' := m_pn_keep) (d := rd_pn_keep) (w := rw_pn_keep) (mc' := 1) (ms' := 6) (hp := [(0, 9, 12, 25), (0, 9, 15, 13), (0, 9, 18, 15)]) (hr := [(0, 9, 24, 19)]) (as := [mv_I v]) (b := 1) (rest := [mv_I 0, mv_R 398]) (j := 3) cw_la_keep rfl (List.forall_mem_cons.mpr ⟨⟨by decide, xIB_, by decide, by decide, c_la_25⟩, List.forall_mem_cons.mpr ⟨⟨by decide, xIA_, by decide, by decide, c_la_13⟩, List.forall_mem_cons.mpr ⟨⟨by decide, xUO_, by decide, by decide, c_la_15⟩, fun y hy => absurd hy List.not_mem_nil⟩⟩⟩) (by decide) c_la_17 (by decide) ⟨by decide, by decide⟩ g_pn_keep i_pn_keep v_pn_keep k_la_21 d_la_keep_4 rfl rfl (pn_c1 hV) rfl (by decide) ⟨by decide, by decide, by decide, by decide⟩ (hT) d_la_keep_21 (by decide) (fun h1 n1 hq _ => ?_)
  refine go_iconst (q := 23) d_la_keep_22 rfl ?_
  refine go_fw (go_iret d_la_keep_23 rfl ⟨by decide, by decide⟩ ?_)
  obtain ⟨rfl, hf, ga1, gb1, hr1⟩ := hq
  exact ⟨rfl, fun j hj _ => hf j (by omega), rfl, g, ga1, gb1, (hf 398 (by omega)).trans hg, hr1⟩
theorem lh_keep3 {v : Int} {f : Nat → qv_} {r : Int × qv_} (hl : l.stackTraces = false) (hr : rc_ h len tx told x var ga gb) (hg : h 398 = mv_A 1 1 g) (hv : 0 ≤ v ∧ v < 8) (ht : tk_ len tx) (he : gr_ tx len len 0 0 ga gb = -1) (hE : Ev tx len var true 0 [] 0 f r) (h0 : r.1 = 3) : FnW l m_la_keep hh_la_keep rd_la_keep rw_la_keep 1 6 [mv_R 1, mv_I v, mv_R 398] h n (fun w h' n' => n' = n ∧ fl_ h h' ∧ w = some (mv_I 5) ∧ lz_ h' len tx (-1) x var) := by
  have hr0 := hr
  obtain ⟨I, wr, mo, mf, mg, B, V, hV, -⟩ := hr0
  refine fnW_of rfl (Nat.le_of_ble_eq_true rfl) rfl ?_
  refine go_aload_n (q := 1) d_la_keep_0 rfl rfl rfl ?_
  refine go_iconst (q := 2) d_la_keep_1 rfl ?_
  refine go_aload_n (q := 3) d_la_keep_2 rfl rfl rfl ?_
  refine go_iload_n (q := 4) d_la_keep_3 rfl rfl rfl ?_
  have hT := pt_keepZ (n := n) hl hr ht hv he hE (by omega)
  rw [h0] at hT
  refine go_catchV (M' := m_pn_keep) (d := rd_pn_keep) (w := rw_pn_keep) (mc' := 1) (ms' := 6) (hp := [(0, 9, 12, 25), (0, 9, 15, 13), (0, 9, 18, 15), (0, 9, 21, 17)]) (hr := []) (as := [mv_I v]) (b := 1) (rest := [mv_I 0, mv_R 398]) (j := 3) cw_la_keep rfl (List.forall_mem_cons.mpr ⟨⟨by decide, xIB_, by decide, by decide, c_la_25⟩, List.forall_mem_cons.mpr ⟨⟨by decide, xIA_, by decide, by decide, c_la_13⟩, List.forall_mem_cons.mpr ⟨⟨by decide, xUO_, by decide, by decide, c_la_15⟩, List.forall_mem_cons.mpr ⟨⟨by decide, xAR_, by decide, by decide, c_la_17⟩, fun y hy => absurd hy List.not_mem_nil⟩⟩⟩⟩) (by decide) c_la_19 (by decide) ⟨by decide, by decide⟩ g_pn_keep i_pn_keep v_pn_keep k_la_21 d_la_keep_4 rfl rfl (pn_c1 hV) rfl (by decide) ⟨by decide, by decide, by decide, by decide⟩ (hT) d_la_keep_24 (by decide) (fun h1 n1 hq _ => ?_)
  refine go_iconst (q := 26) d_la_keep_25 rfl ?_
  refine go_fw (go_iret d_la_keep_26 rfl ⟨by decide, by decide⟩ ?_)
  obtain ⟨rfl, hf, ga1, gb1, hr1⟩ := hq
  exact ⟨rfl, fun j hj _ => hf j (by omega), rfl, g, ga1, gb1, (hf 398 (by omega)).trans hg, hr1⟩
theorem lh_keep0 {v : Int} {f : Nat → qv_} {r : Int × qv_} (hl : l.stackTraces = false) (hr : rc_ h len tx told x var ga gb) (hg : h 398 = mv_A 1 1 g) (hv : 0 ≤ v ∧ v < 8) (ht : tk_ len tx) (he : gr_ tx len len 0 0 ga gb = -1) (hE : Ev tx len var true 0 [] 0 f r) (h0 : r.1 = 0) : FnW l m_la_keep hh_la_keep rd_la_keep rw_la_keep 1 6 [mv_R 1, mv_I v, mv_R 398] h n (fun w h' n' => n' = n ∧ fl_ h h' ∧ w = some (mv_I 0) ∧ ∃ (g' ga' gb' : Nat → Int), h' 398 = mv_A 1 1 g' ∧ g' 0 = q_form r.2 ∧ rc_ h' 0 tx (-1) r.2 (va_up var v.toNat r.2) ga' gb') := by
  have hr0 := hr
  obtain ⟨I, wr, mo, mf, mg, B, V, hV, -⟩ := hr0
  refine fnW_of rfl (Nat.le_of_ble_eq_true rfl) rfl ?_
  refine go_aload_n (q := 1) d_la_keep_0 rfl rfl rfl ?_
  refine go_iconst (q := 2) d_la_keep_1 rfl ?_
  refine go_aload_n (q := 3) d_la_keep_2 rfl rfl rfl ?_
  refine go_iload_n (q := 4) d_la_keep_3 rfl rfl rfl ?_
  refine go_callV (M' := m_pn_keep) (d := rd_pn_keep) (w := rw_pn_keep) (mc := 0) (ms := 0) (as := [mv_I v]) (b := 1) (rest := [mv_I 0, mv_R 398]) (q := 7) g_pn_keep i_pn_keep v_pn_keep (Or.inl k_la_21) d_la_keep_4 rfl rfl rfl (pn_c1 hV) rfl (by decide) ⟨by decide, by decide, by decide, by decide⟩ (pc_keep0 hr ht hv he hE h0) ?_
  rintro w h1 n1 ⟨rfl, rfl, hf, ga1, gb1, hr1⟩ -
  refine go_u0 ?_
  refine go_i2l (q := 8) d_la_keep_7 rfl (by have := qf_b r.2; omega) ?_
  refine go_last (N := 1) (f := g) (i := 0) (q := 9) d_la_keep_8 rfl ((hf 398 (by omega)).trans hg) rfl (by decide) (by decide) ?_
  refine go_goto (q := 27) d_la_keep_9 (by decide) ?_
  refine go_iconst (q := 28) d_la_keep_27 rfl ?_
  exact go_fw (go_iret d_la_keep_28 rfl ⟨by decide, by decide⟩ ⟨rfl, fun j hj hn => (va_up_ne _ _ hn).trans (hf j (by omega)), rfl, va_up g 0 (q_form r.2), ga1, gb1, va_up_self _ _ _, va_up_self _ _ _, rc_k hr1 fun j a b => va_up_ne _ _ (by omega)⟩)
theorem lh_againstV {v : Int} (hl : l.stackTraces = false) (hr : rc_ h len tx told x var ga gb) (hg : h 398 = mv_A 1 1 g) (hi : -2147483648 ≤ v ∧ v ≤ 2147483647) (hv : ¬ (0 ≤ v ∧ v < 8)) : FnW l m_la_against hh_la_against rd_la_against rw_la_against 1 6 [mv_R 1, mv_I v, mv_R 398] h n (fun w h' n' => n' = n ∧ fl_ h h' ∧ w = some (mv_I 1) ∧ lz_ h' len tx told x var) := by
  have hr0 := hr
  obtain ⟨I, wr, mo, mf, mg, B, V, hV, -⟩ := hr0
  refine fnW_of rfl (Nat.le_of_ble_eq_true rfl) rfl ?_
  refine go_aload_n (q := 1) d_la_against_0 rfl rfl rfl ?_
  refine go_iconst (q := 2) d_la_against_1 rfl ?_
  refine go_aload_n (q := 3) d_la_against_2 rfl rfl rfl ?_
  refine go_iload_n (q := 4) d_la_against_3 rfl rfl rfl ?_
  refine go_catchV (M' := m_pn_against) (d := rd_pn_against) (w := rw_pn_against) (mc' := 1) (ms' := 6) (hp := []) (hr := []) (as := [mv_I v]) (b := 1) (rest := [mv_I 0, mv_R 398]) (j := 3) cw_la_against rfl (fun y hy => absurd hy List.not_mem_nil) (by decide) c_la_25 (by decide) ⟨by decide, by decide⟩ g_pn_against i_pn_against v_pn_against k_la_27 d_la_against_4 rfl rfl (pn_c1 hV) rfl (by decide) ⟨by decide, by decide, by decide, by decide⟩ (pt_againstV hl hr hi hv) d_la_against_12 (by decide) (fun h1 n1 hq _ => ?_)
  refine go_iconst (q := 14) d_la_against_13 rfl ?_
  refine go_fw (go_iret d_la_against_14 rfl ⟨by decide, by decide⟩ ?_)
  obtain ⟨rfl, rfl⟩ := hq
  exact ⟨rfl, fun j hj _ => rfl, rfl, g, ga, gb, hg, hr⟩
theorem lh_fetchV {v : Int} (hl : l.stackTraces = false) (hr : rc_ h len tx told x var ga gb) (hg : h 398 = mv_A 1 1 g) (hi : -2147483648 ≤ v ∧ v ≤ 2147483647) (hv : ¬ (0 ≤ v ∧ v < 8)) : FnW l m_la_fetch hh_la_fetch rd_la_fetch rw_la_fetch 1 6 [mv_R 1, mv_I v, mv_R 398] h n (fun w h' n' => n' = n ∧ fl_ h h' ∧ w = some (mv_I 1) ∧ lz_ h' len tx told x var) := by
  have hr0 := hr
  obtain ⟨I, wr, mo, mf, mg, B, V, hV, -⟩ := hr0
  refine fnW_of rfl (Nat.le_of_ble_eq_true rfl) rfl ?_
  refine go_aload_n (q := 1) d_la_fetch_0 rfl rfl rfl ?_
  refine go_iconst (q := 2) d_la_fetch_1 rfl ?_
  refine go_aload_n (q := 3) d_la_fetch_2 rfl rfl rfl ?_
  refine go_iload_n (q := 4) d_la_fetch_3 rfl rfl rfl ?_
  refine go_catchV (M' := m_pn_fetch) (d := rd_pn_fetch) (w := rw_pn_fetch) (mc' := 1) (ms' := 6) (hp := []) (hr := []) (as := [mv_I v]) (b := 1) (rest := [mv_I 0, mv_R 398]) (j := 3) cw_la_fetch rfl (fun y hy => absurd hy List.not_mem_nil) (by decide) c_la_25 (by decide) ⟨by decide, by decide⟩ g_pn_fetch i_pn_fetch v_pn_fetch k_la_30 d_la_fetch_4 rfl rfl (pn_c1 hV) rfl (by decide) ⟨by decide, by decide, by decide, by decide⟩ (pt_fetchV hl hr hi hv) d_la_fetch_12 (by decide) (fun h1 n1 hq _ => ?_)
  refine go_iconst (q := 14) d_la_fetch_13 rfl ?_
  refine go_fw (go_iret d_la_fetch_14 rfl ⟨by decide, by decide⟩ ?_)
  obtain ⟨rfl, rfl⟩ := hq
  exact ⟨rfl, fun j hj _ => rfl, rfl, g, ga, gb, hg, hr⟩
theorem rc_q (hr : rc_ h len tx told x var ga gb) : q_ok x := by
  obtain ⟨I, wr, mo, mf, mg, B, V, hV, -, -, -, -, hx, hw, -⟩ := hr
  rw [← hx]
  exact hw.1
theorem qo_b {x y : qv_} (hx : -1 ≤ x.1 ∧ x.1 ≤ 1) : -1 ≤ q_ord x y ∧ q_ord x y ≤ 1 := by
  unfold q_ord
  split
  · have h1 : x.1 = -1 ∨ x.1 = 0 ∨ x.1 = 1 := by omega
    have h2 : -1 ≤ cm_ (x.2.1 * y.2.2) (y.2.1 * x.2.2) ∧ cm_ (x.2.1 * y.2.2) (y.2.1 * x.2.2) ≤ 1 := by
      unfold cm_
      split
      · exact ⟨by decide, by decide⟩
      · split
        · exact ⟨by decide, by decide⟩
        · exact ⟨by decide, by decide⟩
    rcases h1 with e | e | e <;> rw [e] <;> omega
  · split
    · exact ⟨by decide, by decide⟩
    · exact ⟨by decide, by decide⟩
theorem lh_against0 {v : Int} (hl : l.stackTraces = false) (hr : rc_ h len tx told x var ga gb) (hg : h 398 = mv_A 1 1 g) (hv : 0 ≤ v ∧ v < 8) : FnW l m_la_against hh_la_against rd_la_against rw_la_against 1 6 [mv_R 1, mv_I v, mv_R 398] h n (fun w h' n' => n' = n ∧ fl_ h h' ∧ w = some (mv_I 0) ∧ ∃ (g' ga' gb' : Nat → Int), h' 398 = mv_A 1 1 g' ∧ g' 0 = q_ord x (var v.toNat) ∧ rc_ h' len tx told x var ga' gb') := by
  have hr0 := hr
  obtain ⟨I, wr, mo, mf, mg, B, V, hV, -⟩ := hr0
  refine fnW_of rfl (Nat.le_of_ble_eq_true rfl) rfl ?_
  refine go_aload_n (q := 1) d_la_against_0 rfl rfl rfl ?_
  refine go_iconst (q := 2) d_la_against_1 rfl ?_
  refine go_aload_n (q := 3) d_la_against_2 rfl rfl rfl ?_
  refine go_iload_n (q := 4) d_la_against_3 rfl rfl rfl ?_
  refine go_callV (M' := m_pn_against) (d := rd_pn_against) (w := rw_pn_against) (mc := 0) (ms := 0) (as := [mv_I v]) (b := 1) (rest := [mv_I 0, mv_R 398]) (q := 7) g_pn_against i_pn_against v_pn_against (Or.inl k_la_27) d_la_against_4 rfl rfl rfl (pn_c1 hV) rfl (by decide) ⟨by decide, by decide, by decide, by decide⟩ (pc_against0 hr hv) ?_
  rintro w h1 n1 ⟨rfl, rfl, hf, hr1⟩ -
  refine go_u0 ?_
  refine go_i2l (q := 8) d_la_against_7 rfl (by have := qo_b (y := var v.toNat) (rc_q hr).1; omega) ?_
  refine go_last (N := 1) (f := g) (i := 0) (q := 9) d_la_against_8 rfl ((hf 398 (by omega)).trans hg) rfl (by decide) (by decide) ?_
  refine go_goto (q := 15) d_la_against_9 (by decide) ?_
  refine go_iconst (q := 16) d_la_against_15 rfl ?_
  exact go_fw (go_iret d_la_against_16 rfl ⟨by decide, by decide⟩ ⟨rfl, fun j hj hn => (va_up_ne _ _ hn).trans (hf j (by omega)), rfl, va_up g 0 (q_ord x (var v.toNat)), ga, gb, va_up_self _ _ _, va_up_self _ _ _, rc_k hr1 fun j a b => va_up_ne _ _ (by omega)⟩)
theorem lh_fetch0 {v : Int} (hl : l.stackTraces = false) (hr : rc_ h len tx told x var ga gb) (hg : h 398 = mv_A 1 1 g) (hv : 0 ≤ v ∧ v < 8) : FnW l m_la_fetch hh_la_fetch rd_la_fetch rw_la_fetch 1 6 [mv_R 1, mv_I v, mv_R 398] h n (fun w h' n' => n' = n ∧ fl_ h h' ∧ w = some (mv_I 0) ∧ ∃ (g' ga' gb' : Nat → Int), h' 398 = mv_A 1 1 g' ∧ g' 0 = q_form (var v.toNat) ∧ rc_ h' len tx told (var v.toNat) var ga' gb') := by
  have hr0 := hr
  obtain ⟨I, wr, mo, mf, mg, B, V, hV, -⟩ := hr0
  refine fnW_of rfl (Nat.le_of_ble_eq_true rfl) rfl ?_
  refine go_aload_n (q := 1) d_la_fetch_0 rfl rfl rfl ?_
  refine go_iconst (q := 2) d_la_fetch_1 rfl ?_
  refine go_aload_n (q := 3) d_la_fetch_2 rfl rfl rfl ?_
  refine go_iload_n (q := 4) d_la_fetch_3 rfl rfl rfl ?_
  refine go_callV (M' := m_pn_fetch) (d := rd_pn_fetch) (w := rw_pn_fetch) (mc := 0) (ms := 0) (as := [mv_I v]) (b := 1) (rest := [mv_I 0, mv_R 398]) (q := 7) g_pn_fetch i_pn_fetch v_pn_fetch (Or.inl k_la_30) d_la_fetch_4 rfl rfl rfl (pn_c1 hV) rfl (by decide) ⟨by decide, by decide, by decide, by decide⟩ (pc_fetch0 hr hv) ?_
  rintro w h1 n1 ⟨rfl, rfl, hf, hr1⟩ -
  refine go_u0 ?_
  refine go_i2l (q := 8) d_la_fetch_7 rfl (by have := qf_b (var v.toNat); omega) ?_
  refine go_last (N := 1) (f := g) (i := 0) (q := 9) d_la_fetch_8 rfl ((hf 398 (by omega)).trans hg) rfl (by decide) (by decide) ?_
  refine go_goto (q := 15) d_la_fetch_9 (by decide) ?_
  refine go_iconst (q := 16) d_la_fetch_15 rfl ?_
  exact go_fw (go_iret d_la_fetch_16 rfl ⟨by decide, by decide⟩ ⟨rfl, fun j hj hn => (va_up_ne _ _ hn).trans (hf j (by omega)), rfl, va_up g 0 (q_form (var v.toNat)), ga, gb, va_up_self _ _ _, va_up_self _ _ _, rc_k hr1 fun j a b => va_up_ne _ _ (by omega)⟩)
end LaHelp
