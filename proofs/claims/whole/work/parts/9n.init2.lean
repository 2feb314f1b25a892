/-! constructors: Divider, Calculator, Writing, Grammar -/
section InitB
variable {φ : go_F} {l : Launch} {M : go_M} {R : Room} {h : mv_H}
theorem ti_di {l : Launch} {h : mv_H} (hh : h 17 = mv_O 1 [mv_N, mv_N, mv_N, mv_N]) : Fn l m_di_init rd_di_init rw_di_init 8 80 [mv_R 17] h 18 (fun w h' n' => w = none ∧ n' = 26 ∧ h' 17 = mv_O 1 [mv_R 18, mv_R 20, mv_R 22, mv_R 24] ∧ (WV h' 18 18 0 ∧ WV h' 20 18 0 ∧ WV h' 22 18 0 ∧ WV h' 24 18 0) ∧ fr_ 17 9 h h') := by
  refine fn_of rfl (Nat.le_of_ble_eq_true rfl) rfl ?_
  refine go_aload_n (q := 1) d_di_init_0 rfl rfl rfl ?_
  refine go_oinit (q := 4) tw_1_136 tw_1_32 tw_1_33 d_di_init_1 rfl ⟨by decide, by decide⟩ ?_
  refine go_aload_n (q := 5) d_di_init_4 rfl rfl rfl ?_
  refine ci_wh (q := 14) (N := 18) tw_1_137 l_di_11 d_di_init_5 d_di_init_8 d_di_init_9 d_di_init_11 rfl (Or.inr rfl) (Nat.le_of_ble_eq_true rfl) ⟨by decide, by decide⟩ (by decide) (by decide) (fun h1 v1 f1 => ?_)
  refine go_putF (q := 17) F_di_14 rfl d_di_init_14 rfl ((f1 _ (by omega)).trans hh) (Nat.le_of_ble_eq_true rfl) (go_fitR _ _) ?_
  refine go_aload_n (q := 18) d_di_init_17 rfl rfl rfl ?_
  refine ci_wh (q := 27) (N := 18) tw_1_137 l_di_11 d_di_init_18 d_di_init_21 d_di_init_22 d_di_init_24 rfl (Or.inr rfl) (Nat.le_of_ble_eq_true rfl) ⟨by decide, by decide⟩ (by decide) (by decide) (fun h2 v2 f2 => ?_)
  refine go_putF (q := 30) F_di_20 rfl d_di_init_27 rfl ((f2 _ (by omega)).trans (va_up_self _ _ _)) (Nat.le_of_ble_eq_true rfl) (go_fitR _ _) ?_
  refine go_aload_n (q := 31) d_di_init_30 rfl rfl rfl ?_
  refine ci_wh (q := 40) (N := 18) tw_1_137 l_di_11 d_di_init_31 d_di_init_34 d_di_init_35 d_di_init_37 rfl (Or.inr rfl) (Nat.le_of_ble_eq_true rfl) ⟨by decide, by decide⟩ (by decide) (by decide) (fun h3 v3 f3 => ?_)
  refine go_putF (q := 43) F_di_23 rfl d_di_init_40 rfl ((f3 _ (by omega)).trans (va_up_self _ _ _)) (Nat.le_of_ble_eq_true rfl) (go_fitR _ _) ?_
  refine go_aload_n (q := 44) d_di_init_43 rfl rfl rfl ?_
  refine ci_wh (q := 53) (N := 18) tw_1_137 l_di_11 d_di_init_44 d_di_init_47 d_di_init_48 d_di_init_50 rfl (Or.inr rfl) (Nat.le_of_ble_eq_true rfl) ⟨by decide, by decide⟩ (by decide) (by decide) (fun h4 v4 f4 => ?_)
  refine go_putF (q := 56) F_di_26 rfl d_di_init_53 rfl ((f4 _ (by omega)).trans (va_up_self _ _ _)) (Nat.le_of_ble_eq_true rfl) (go_fitR _ _) ?_
  refine go_vret d_di_init_56 rfl ⟨by decide, by decide⟩ ⟨rfl, rfl, va_up_self _ _ _, ⟨WV_k v1 fun j a1 a2 => ?_, WV_k v2 fun j a1 a2 => ?_, WV_k v3 fun j a1 a2 => ?_, WV_k v4 fun j a1 a2 => ?_⟩, fun j hj => ?_⟩
  · rw [va_up_ne _ _ (by omega), f4 _ (by omega), va_up_ne _ _ (by omega), f3 _ (by omega), va_up_ne _ _ (by omega), f2 _ (by omega), va_up_ne _ _ (by omega)]
  · rw [va_up_ne _ _ (by omega), f4 _ (by omega), va_up_ne _ _ (by omega), f3 _ (by omega), va_up_ne _ _ (by omega)]
  · rw [va_up_ne _ _ (by omega), f4 _ (by omega), va_up_ne _ _ (by omega)]
  · rw [va_up_ne _ _ (by omega)]
  · rw [va_up_ne _ _ (by omega), f4 _ (by omega), va_up_ne _ _ (by omega), f3 _ (by omega), va_up_ne _ _ (by omega), f2 _ (by omega), va_up_ne _ _ (by omega), f1 _ (by omega)]
theorem ti_ca {l : Launch} {h : mv_H} (hh : h 16 = mv_O 0 [mv_N, mv_N, mv_N, mv_N, mv_N, mv_N, mv_N]) : Fn l m_ca_init rd_ca_init rw_ca_init 21 204 [mv_R 16] h 17 (fun w h' n' => w = none ∧ n' = 38 ∧ h' 16 = mv_O 0 [mv_R 17, mv_R 26, mv_R 28, mv_R 30, mv_R 32, mv_R 34, mv_R 36] ∧ h' 17 = mv_O 1 [mv_R 18, mv_R 20, mv_R 22, mv_R 24] ∧ (∀ p, 18 ≤ p → p ≤ 36 → p % 2 = 0 → WV h' p 18 0) ∧ fr_ 16 22 h h') := by
  refine fn_of rfl (Nat.le_of_ble_eq_true rfl) rfl ?_
  refine go_aload_n (q := 1) d_ca_init_0 rfl rfl rfl ?_
  refine go_oinit (q := 4) tw_1_130 tw_1_32 tw_1_33 d_ca_init_1 rfl ⟨by decide, by decide⟩ ?_
  refine go_aload_n (q := 5) d_ca_init_4 rfl rfl rfl ?_
  refine nw_di (q := 8) tw_1_131 d_ca_init_5 rfl (by decide) (by decide) ?_
  refine go_dup (q := 9) d_ca_init_8 rfl rfl ?_
  refine go_callI (M' := m_di_init) (d := rd_di_init) (w := rw_di_init) (mc := 8) (ms := 80) (as := []) (b := 17) (rest := [mv_R 17, mv_R 16]) (q := 12) g_di_init rfl i_di_init rfl l_ca_11 d_ca_init_9 rfl rfl rfl (by decide) ⟨by decide, by decide, by decide, by decide⟩ (ti_di (va_up_self _ _ _)) ?_
  rintro w h1 n1 ⟨rfl, rfl, e17, ⟨w18, w20, w22, w24⟩, f1⟩ -
  refine go_putF (q := 15) F_ca_12 rfl d_ca_init_12 rfl ((f1 _ (by omega)).trans ((va_up_ne _ _ (by omega)).trans hh)) (Nat.le_of_ble_eq_true rfl) (go_fitR _ _) ?_
  refine go_aload_n (q := 16) d_ca_init_15 rfl rfl rfl ?_
  refine ci_wh (q := 25) (N := 18) tw_1_153 l_ca_20 d_ca_init_16 d_ca_init_19 d_ca_init_20 d_ca_init_22 rfl (Or.inr rfl) (Nat.le_of_ble_eq_true rfl) ⟨by decide, by decide⟩ (by decide) (by decide) (fun h2 v2 f2 => ?_)
  refine go_putF (q := 28) F_ca_23 rfl d_ca_init_25 rfl ((f2 _ (by omega)).trans (va_up_self _ _ _)) (Nat.le_of_ble_eq_true rfl) (go_fitR _ _) ?_
  refine go_aload_n (q := 29) d_ca_init_28 rfl rfl rfl ?_
  refine ci_wh (q := 38) (N := 18) tw_1_153 l_ca_20 d_ca_init_29 d_ca_init_32 d_ca_init_33 d_ca_init_35 rfl (Or.inr rfl) (Nat.le_of_ble_eq_true rfl) ⟨by decide, by decide⟩ (by decide) (by decide) (fun h3 v3 f3 => ?_)
  refine go_putF (q := 41) F_ca_27 rfl d_ca_init_38 rfl ((f3 _ (by omega)).trans (va_up_self _ _ _)) (Nat.le_of_ble_eq_true rfl) (go_fitR _ _) ?_
  refine go_aload_n (q := 42) d_ca_init_41 rfl rfl rfl ?_
  refine ci_wh (q := 51) (N := 18) tw_1_153 l_ca_20 d_ca_init_42 d_ca_init_45 d_ca_init_46 d_ca_init_48 rfl (Or.inr rfl) (Nat.le_of_ble_eq_true rfl) ⟨by decide, by decide⟩ (by decide) (by decide) (fun h4 v4 f4 => ?_)
  refine go_putF (q := 54) F_ca_30 rfl d_ca_init_51 rfl ((f4 _ (by omega)).trans (va_up_self _ _ _)) (Nat.le_of_ble_eq_true rfl) (go_fitR _ _) ?_
  refine go_aload_n (q := 55) d_ca_init_54 rfl rfl rfl ?_
  refine ci_wh (q := 64) (N := 18) tw_1_153 l_ca_20 d_ca_init_55 d_ca_init_58 d_ca_init_59 d_ca_init_61 rfl (Or.inr rfl) (Nat.le_of_ble_eq_true rfl) ⟨by decide, by decide⟩ (by decide) (by decide) (fun h5 v5 f5 => ?_)
  refine go_putF (q := 67) F_ca_33 rfl d_ca_init_64 rfl ((f5 _ (by omega)).trans (va_up_self _ _ _)) (Nat.le_of_ble_eq_true rfl) (go_fitR _ _) ?_
  refine go_aload_n (q := 68) d_ca_init_67 rfl rfl rfl ?_
  refine ci_wh (q := 77) (N := 18) tw_1_153 l_ca_20 d_ca_init_68 d_ca_init_71 d_ca_init_72 d_ca_init_74 rfl (Or.inr rfl) (Nat.le_of_ble_eq_true rfl) ⟨by decide, by decide⟩ (by decide) (by decide) (fun h6 v6 f6 => ?_)
  refine go_putF (q := 80) F_ca_36 rfl d_ca_init_77 rfl ((f6 _ (by omega)).trans (va_up_self _ _ _)) (Nat.le_of_ble_eq_true rfl) (go_fitR _ _) ?_
  refine go_aload_n (q := 81) d_ca_init_80 rfl rfl rfl ?_
  refine ci_wh (q := 90) (N := 18) tw_1_153 l_ca_20 d_ca_init_81 d_ca_init_84 d_ca_init_85 d_ca_init_87 rfl (Or.inr rfl) (Nat.le_of_ble_eq_true rfl) ⟨by decide, by decide⟩ (by decide) (by decide) (fun h7 v7 f7 => ?_)
  refine go_putF (q := 93) F_ca_39 rfl d_ca_init_90 rfl ((f7 _ (by omega)).trans (va_up_self _ _ _)) (Nat.le_of_ble_eq_true rfl) (go_fitR _ _) ?_
  have hd : ∀ j, 17 ≤ j → j < 26 → ∀ x, va_up h7 16 x j = h1 j := fun j a1 a2 x => by rw [va_up_ne _ _ (by omega), f7 _ (by omega), va_up_ne _ _ (by omega), f6 _ (by omega), va_up_ne _ _ (by omega), f5 _ (by omega), va_up_ne _ _ (by omega), f4 _ (by omega), va_up_ne _ _ (by omega), f3 _ (by omega), va_up_ne _ _ (by omega), f2 _ (by omega), va_up_ne _ _ (by omega)]
  refine go_vret d_ca_init_93 rfl ⟨by decide, by decide⟩ ⟨rfl, rfl, va_up_self _ _ _, (hd 17 (by decide) (by decide) _).trans e17, fun p b1 b2 b3 => ?_, fun j hj => ?_⟩
  · have hp : p = 18 ∨ p = 20 ∨ p = 22 ∨ p = 24 ∨ p = 26 ∨ p = 28 ∨ p = 30 ∨ p = 32 ∨ p = 34 ∨ p = 36 := by omega
    rcases hp with rfl | rfl | rfl | rfl | rfl | rfl | rfl | rfl | rfl | rfl
    · exact WV_k w18 fun j a1 a2 => hd j (by omega) (by omega) _
    · exact WV_k w20 fun j a1 a2 => hd j (by omega) (by omega) _
    · exact WV_k w22 fun j a1 a2 => hd j (by omega) (by omega) _
    · exact WV_k w24 fun j a1 a2 => hd j (by omega) (by omega) _
    · exact WV_k v2 fun j a1 a2 => by rw [va_up_ne _ _ (by omega), f7 _ (by omega), va_up_ne _ _ (by omega), f6 _ (by omega), va_up_ne _ _ (by omega), f5 _ (by omega), va_up_ne _ _ (by omega), f4 _ (by omega), va_up_ne _ _ (by omega), f3 _ (by omega), va_up_ne _ _ (by omega)]
    · exact WV_k v3 fun j a1 a2 => by rw [va_up_ne _ _ (by omega), f7 _ (by omega), va_up_ne _ _ (by omega), f6 _ (by omega), va_up_ne _ _ (by omega), f5 _ (by omega), va_up_ne _ _ (by omega), f4 _ (by omega), va_up_ne _ _ (by omega)]
    · exact WV_k v4 fun j a1 a2 => by rw [va_up_ne _ _ (by omega), f7 _ (by omega), va_up_ne _ _ (by omega), f6 _ (by omega), va_up_ne _ _ (by omega), f5 _ (by omega), va_up_ne _ _ (by omega)]
    · exact WV_k v5 fun j a1 a2 => by rw [va_up_ne _ _ (by omega), f7 _ (by omega), va_up_ne _ _ (by omega), f6 _ (by omega), va_up_ne _ _ (by omega)]
    · exact WV_k v6 fun j a1 a2 => by rw [va_up_ne _ _ (by omega), f7 _ (by omega), va_up_ne _ _ (by omega)]
    · exact WV_k v7 fun j a1 a2 => by rw [va_up_ne _ _ (by omega)]
  · rw [va_up_ne _ _ (by omega), f7 _ (by omega), va_up_ne _ _ (by omega), f6 _ (by omega), va_up_ne _ _ (by omega), f5 _ (by omega), va_up_ne _ _ (by omega), f4 _ (by omega), va_up_ne _ _ (by omega), f3 _ (by omega), va_up_ne _ _ (by omega), f2 _ (by omega), va_up_ne _ _ (by omega), f1 _ (by omega), va_up_ne _ _ (by omega)]
end InitB
