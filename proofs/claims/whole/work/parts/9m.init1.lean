/-! constructors: Whole, Fraction -/
section InitA
variable {φ : go_F} {l : Launch} {M : go_M} {R : Room} {u : Nat × Nat} {pc q : Nat} {L : List (Option mv_V)} {st : List mv_V} {h : mv_H} {n : Nat}
theorem go_cu {u' : Nat × Nat} (he : u' = u) (k : Go φ l M R u pc L st h n) : Go φ l M R u' pc L st h n := by
  subst he
  exact k
theorem ti_wh {b N : Nat} (hb : b + 1 = n) (hh : h b = mv_O 5 [mv_N, mv_I 0]) (hN : N = 8 ∨ N = 18) : Fn l m_wh_init rd_wh_init rw_wh_init 1 N [mv_R b, mv_I (N : Int)] h n (fun w h' n' => w = none ∧ n' = n + 1 ∧ WV h' b N 0 ∧ fr_ b 2 h h') := by
  subst hb
  refine fn_of rfl (Nat.le_of_ble_eq_true rfl) rfl ?_
  refine go_aload_n (q := 1) d_wh_init_0 rfl rfl rfl ?_
  refine go_oinit (q := 4) tw_1_45 tw_1_32 tw_1_33 d_wh_init_1 rfl ⟨Nat.le_of_ble_eq_true rfl, Nat.le_of_ble_eq_true rfl⟩ ?_
  refine go_aload_n (q := 5) d_wh_init_4 rfl rfl rfl ?_
  refine go_iload_n (q := 6) d_wh_init_5 rfl rfl rfl ?_
  refine go_newI (N := N) (q := 8) tw_1_59 d_wh_init_6 rfl rfl (by rcases hN with rfl | rfl <;> decide) (by omega) (Nat.le_refl _) (Nat.le_of_eq (Nat.zero_add _)) ?_
  refine go_putF (q := 11) F_wh_9 rfl d_wh_init_8 rfl ((va_up_ne _ _ (by omega)).trans hh) (by decide) (go_fitA _ _) ?_
  refine go_vret d_wh_init_11 rfl ⟨Nat.le_refl _, Nat.le_of_eq (Nat.zero_add _)⟩ ⟨rfl, rfl, ⟨fun _ => 0, 0, ⟨va_up_self _ _ _, (va_up_ne _ _ (by omega)).trans (va_up_self _ _ _)⟩, Nat.zero_le _, by omega, fun _ => ⟨show (0 : Int) ≤ 0 by decide, show (0 : Int) ≤ 1073741823 by decide⟩, fun h => absurd h (by decide), rfl⟩, fun j hj => ?_⟩
  rw [va_up_ne _ _ (by omega), va_up_ne _ _ (by omega)]
/-- new Whole(N) -/
theorem ci_wh {i1 i2 N : Nat} (hw1 : Cond.classLink M.1.cls i1 R_wh ∈ go_T) (hlk : go_lnk M.1.cls i2 m_wh_init) (d0 : decode M.2.1 pc = .ok (.new i1, 3)) (d1 : decode M.2.1 (pc + 3) = .ok (.dup, 1)) (d2 : decode M.2.1 (pc + 4) = .ok (.bipush (N : Int), 2)) (d3 : decode M.2.1 (pc + 6) = .ok (.invokespecial i2, 3)) (hp : pc + 9 = q) (hN : N = 8 ∨ N = 18) (hw : (st.map mv_k).sum ≤ 6) (hR : 2 ≤ R.frames ∧ 41 ≤ R.locals) (hr1 : u.1 + 1 + 1 ≤ R.cells) (hr2 : u.2 + 2 + N ≤ R.slots)
    (k : ∀ h', WV h' n N 0 → fr_ n 2 h h' → Go φ l M R (u.1 + 1 + 1, u.2 + 2 + N) q L (mv_R n :: st) h' (n + 2)) : Go φ l M R u pc L st h n := by
  refine nw_wh hw1 d0 rfl (by omega) (by omega) ?_
  refine go_dup d1 rfl rfl ?_
  refine go_bipush d2 rfl (by rcases hN with rfl | rfl <;> decide) ?_
  refine go_callI (M' := m_wh_init) (d := rd_wh_init) (w := rw_wh_init) (mc := 1) (ms := N) (as := [mv_I (N : Int)]) (b := n) (rest := mv_R n :: st) (q := q) g_wh_init rfl i_wh_init rfl hlk d3 hp rfl rfl ?_ ⟨hR.1, hR.2, hr1, hr2⟩ (ti_wh rfl (va_up_self _ _ _) hN) ?_
  · show 1 + (st.map mv_k).sum ≤ 8
    omega
  · rintro w h' n' ⟨rfl, rfl, hv, hf⟩ -
    refine k h' hv fun j hj => ?_
    rw [hf j hj, va_up_ne _ _ (by omega)]
theorem ti_fr {b : Nat} (hb : b + 1 = n) (hh : h b = mv_O 2 [mv_N, mv_N, mv_I 0]) : Fn l m_fr_init rd_fr_init rw_fr_init 4 20 [mv_R b] h n (fun w h' n' => w = none ∧ n' = n + 4 ∧ h' b = mv_O 2 [mv_R (b + 1), mv_R (b + 3), mv_I 0] ∧ WV h' (b + 1) 8 0 ∧ WV h' (b + 3) 8 1 ∧ fr_ b 5 h h') := by
  subst hb
  refine fn_of rfl (Nat.le_of_ble_eq_true rfl) rfl ?_
  refine go_aload_n (q := 1) d_fr_init_0 rfl rfl rfl ?_
  refine go_oinit (q := 4) tw_1_39 tw_1_32 tw_1_33 d_fr_init_1 rfl ⟨by decide, by decide⟩ ?_
  refine go_aload_n (q := 5) d_fr_init_4 rfl rfl rfl ?_
  refine ci_wh (q := 14) (N := 8) tw_1_40 l_fr_11 d_fr_init_5 d_fr_init_8 d_fr_init_9 d_fr_init_11 rfl (Or.inl rfl) (Nat.le_of_ble_eq_true rfl) ⟨by decide, by decide⟩ (by decide) (by decide) (fun h1 v1 f1 => ?_)
  refine go_putF (q := 17) F_fr_14 rfl d_fr_init_14 rfl ((f1 _ (by omega)).trans hh) (by decide) (go_fitR _ _) ?_
  refine go_aload_n (q := 18) d_fr_init_17 rfl rfl rfl ?_
  refine ci_wh (q := 27) (N := 8) tw_1_40 l_fr_11 d_fr_init_18 d_fr_init_21 d_fr_init_22 d_fr_init_24 rfl (Or.inl rfl) (Nat.le_of_ble_eq_true rfl) ⟨by decide, by decide⟩ (by decide) (by decide) (fun h2 v2 f2 => ?_)
  refine go_putF (q := 30) F_fr_20 rfl d_fr_init_27 rfl ((f2 _ (by omega)).trans (va_up_self _ _ _)) (Nat.le_of_ble_eq_true rfl) (go_fitR _ _) ?_
  refine go_aload_n (q := 31) d_fr_init_30 rfl rfl rfl ?_
  refine go_getf (q := 34) f_fr_20 d_fr_init_31 rfl (va_up_self _ _ _) rfl ?_
  refine go_iconst (q := 35) d_fr_init_34 rfl ?_
  refine cw_become (q := 38) (v := 1) l_fr_23 d_fr_init_35 rfl (WV_k v2 fun j a1 a2 => va_up_ne _ _ (by omega)) (by decide) (by decide) (by decide) ⟨by decide, by decide, by decide, by decide⟩ (fun h3 v3 f3 => ?_)
  refine go_vret d_fr_init_38 rfl ⟨by decide, by decide⟩ ⟨rfl, rfl, (f3 _ (by omega)).trans (va_up_self _ _ _), WV_k v1 fun j a1 a2 => ?_, v3, fun j hj => ?_⟩
  · rw [f3 _ (by omega), va_up_ne _ _ (by omega), f2 _ (by omega), va_up_ne _ _ (by omega)]
  · rw [f3 _ (by omega), va_up_ne _ _ (by omega), f2 _ (by omega), va_up_ne _ _ (by omega), f1 _ (by omega)]
/-- new Fraction() -/
theorem ci_fr {i1 i2 : Nat} (hw1 : Cond.classLink M.1.cls i1 R_fr ∈ go_T) (hlk : go_lnk M.1.cls i2 m_fr_init) (d0 : decode M.2.1 pc = .ok (.new i1, 3)) (d1 : decode M.2.1 (pc + 3) = .ok (.dup, 1)) (d3 : decode M.2.1 (pc + 4) = .ok (.invokespecial i2, 3)) (hp : pc + 7 = q) (hw : (st.map mv_k).sum ≤ 6) (hR : 3 ≤ R.frames ∧ 61 ≤ R.locals) (hr1 : u.1 + 1 + 4 ≤ R.cells) (hr2 : u.2 + 3 + 20 ≤ R.slots)
    (k : ∀ h', h' n = mv_O 2 [mv_R (n + 1), mv_R (n + 3), mv_I 0] → WV h' (n + 1) 8 0 → WV h' (n + 3) 8 1 → fr_ n 5 h h' → Go φ l M R (u.1 + 1 + 4, u.2 + 3 + 20) q L (mv_R n :: st) h' (n + 5)) : Go φ l M R u pc L st h n := by
  refine nw_fr hw1 d0 rfl (by omega) (by omega) ?_
  refine go_dup d1 rfl rfl ?_
  refine go_callI (M' := m_fr_init) (d := rd_fr_init) (w := rw_fr_init) (mc := 4) (ms := 20) (as := []) (b := n) (rest := mv_R n :: st) (q := q) g_fr_init rfl i_fr_init rfl hlk d3 hp rfl rfl ?_ ⟨hR.1, hR.2, hr1, hr2⟩ (ti_fr rfl (va_up_self _ _ _)) ?_
  · show 1 + (st.map mv_k).sum ≤ 8
    omega
  · rintro w h' n' ⟨rfl, rfl, h1, h2, h3, hf⟩ -
    refine k h' h1 h2 h3 fun j hj => ?_
    rw [hf j hj, va_up_ne _ _ (by omega)]
end InitA
