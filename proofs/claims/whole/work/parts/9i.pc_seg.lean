set_option maxRecDepth 4000 in
theorem sp_wo_4 {φ : go_F} {l : Launch} {h : mv_H} {n : Nat} {I tx wr ga gb mo mf mg : Nat → Int} {B : Nat → Int} {V : Nat → Nat}  (hV : pn_V h (I, tx, wr, ga, gb, mo, mf, mg) B V) 
    (k0 : Go φ l m_pn_work (go_rm rd_pn_work rw_pn_work 0 0) (0, 0) 16 [some (mv_R 1)] [mv_I (I 0), mv_R 2, mv_R 15] h n) :
    Go φ l m_pn_work (go_rm rd_pn_work rw_pn_work 0 0) (0, 0) 4 [some (mv_R 1)] [] h n := by
  refine go_aload_n (q := 5) d_pn_work_4 rfl rfl rfl ?_
  refine go_getf (v := mv_R 15) (q := 8) f_pn_41 d_pn_work_5 rfl (pn_c1 hV) rfl ?_
  refine go_aload_n (q := 9) d_pn_work_8 rfl rfl rfl ?_
  refine go_getf (v := mv_R 2) (q := 12) f_pn_9 d_pn_work_9 rfl (pn_c1 hV) rfl ?_
  refine go_aload_n (q := 13) d_pn_work_12 rfl rfl rfl ?_
  refine go_getf (v := mv_I (I 0)) (q := 16) f_pn_49 d_pn_work_13 rfl (pn_c1 hV) rfl ?_
  exact k0 

set_option maxRecDepth 4000 in
theorem sp_wo_22 {φ : go_F} {l : Launch} {h : mv_H} {n : Nat} {I tx wr ga gb mo mf mg : Nat → Int} {B : Nat → Int} {V : Nat → Nat}  (hV : pn_V h (I, tx, wr, ga, gb, mo, mf, mg) B V) 
    (k0 : Go φ l m_pn_work (go_rm rd_pn_work rw_pn_work 0 0) (0, 0) 27 [some (mv_R 1)] [mv_R 15, mv_R 1] h n) :
    Go φ l m_pn_work (go_rm rd_pn_work rw_pn_work 0 0) (0, 0) 22 [some (mv_R 1)] [] h n := by
  refine go_aload_n (q := 23) d_pn_work_22 rfl rfl rfl ?_
  refine go_aload_n (q := 24) d_pn_work_23 rfl rfl rfl ?_
  refine go_getf (v := mv_R 15) (q := 27) f_pn_41 d_pn_work_24 rfl (pn_c1 hV) rfl ?_
  exact k0 

set_option maxRecDepth 4000 in
theorem sp_ke_8 {φ : go_F} {l : Launch} {h : mv_H} {n : Nat} {I tx wr ga gb mo mf mg : Nat → Int} {B : Nat → Int} {V : Nat → Nat} {v : Int} (hV : pn_V h (I, tx, wr, ga, gb, mo, mf, mg) B V) 
    (k0 : Go φ l m_pn_keep (go_rm rd_pn_keep rw_pn_keep 0 0) (0, 0) 20 [some (mv_R 1), some (mv_I v)] [mv_I (I 0), mv_R 2, mv_R 15] h n) :
    Go φ l m_pn_keep (go_rm rd_pn_keep rw_pn_keep 0 0) (0, 0) 8 [some (mv_R 1), some (mv_I v)] [] h n := by
  refine go_aload_n (q := 9) d_pn_keep_8 rfl rfl rfl ?_
  refine go_getf (v := mv_R 15) (q := 12) f_pn_41 d_pn_keep_9 rfl (pn_c1 hV) rfl ?_
  refine go_aload_n (q := 13) d_pn_keep_12 rfl rfl rfl ?_
  refine go_getf (v := mv_R 2) (q := 16) f_pn_9 d_pn_keep_13 rfl (pn_c1 hV) rfl ?_
  refine go_aload_n (q := 17) d_pn_keep_16 rfl rfl rfl ?_
  refine go_getf (v := mv_I (I 0)) (q := 20) f_pn_49 d_pn_keep_17 rfl (pn_c1 hV) rfl ?_
  exact k0 

set_option maxRecDepth 4000 in
theorem sp_ke_26 {φ : go_F} {l : Launch} {h : mv_H} {n : Nat} {I tx wr ga gb mo mf mg : Nat → Int} {B : Nat → Int} {V : Nat → Nat} {v : Nat} (hV : pn_V h (I, tx, wr, ga, gb, mo, mf, mg) B V) (hv : v < 8)
    (k0 : Go φ l m_pn_keep (go_rm rd_pn_keep rw_pn_keep 0 0) (0, 0) 39 [some (mv_R 1), some (mv_I (v : Int))] [mv_R 15, mv_R (50 + 5 * v)] h n) :
    Go φ l m_pn_keep (go_rm rd_pn_keep rw_pn_keep 0 0) (0, 0) 26 [some (mv_R 1), some (mv_I (v : Int))] [] h n := by
  refine go_aload_n (q := 27) d_pn_keep_26 rfl rfl rfl ?_
  refine go_getf (v := mv_R 15) (q := 30) f_pn_41 d_pn_keep_27 rfl (pn_c1 hV) rfl ?_
  refine go_getf (v := mv_R 38) (q := 33) f_pn_74 d_pn_keep_30 rfl (pn_c15 hV) rfl ?_
  refine go_iload_n (q := 34) d_pn_keep_33 rfl rfl rfl ?_
  obtain ⟨f_1, e_2, e_3⟩ := pn_q38 hV
  refine go_aald (i := v) (j := 50 + 5 * v) (q := 35) d_pn_keep_34 rfl e_2 (by omega) (by omega) (by omega) (e_3 _ (by omega)) ?_
  refine go_aload_n (q := 36) d_pn_keep_35 rfl rfl rfl ?_
  refine go_getf (v := mv_R 15) (q := 39) f_pn_41 d_pn_keep_36 rfl (pn_c1 hV) rfl ?_
  exact k0 

set_option maxRecDepth 4000 in
theorem sp_ke_42 {φ : go_F} {l : Launch} {h : mv_H} {n : Nat} {I tx wr ga gb mo mf mg : Nat → Int} {B : Nat → Int} {V : Nat → Nat} {v : Nat} (hV : pn_V h (I, tx, wr, ga, gb, mo, mf, mg) B V) (hv : v < 8)
    (k0 : ∀ h' : mv_H, pn_V h' (va_up I 0 0, tx, wr, ga, gb, mo, mf, mg) (va_up B (50 + 5 * v) (B 90)) (va_up (va_up V ((50 + 5 * v) + 1) (V 91)) ((50 + 5 * v) + 3) (V 93)) → fr_ 1 389 h h' → Go φ l m_pn_keep (go_rm rd_pn_keep rw_pn_keep 0 0) (0, 0) 55 [some (mv_R 1), some (mv_I (v : Int))] [mv_R 15, mv_R 1] h' n) :
    Go φ l m_pn_keep (go_rm rd_pn_keep rw_pn_keep 0 0) (0, 0) 42 [some (mv_R 1), some (mv_I (v : Int))] [mv_R 90, mv_R (50 + 5 * v)] h n := by
  refine cp_fr_copy (a := 50 + 5 * v) (c := 90) (q := 45) l_pn_78 d_pn_keep_42 rfl hV (fa_v (by omega)) (by unfold fa_; decide) (by omega) (Nat.le_of_ble_eq_true rfl) ⟨by decide, by decide, by decide, by decide⟩ (fun h_1 hV_2 fr_3 => ?_)
  have hV_4 : pn_V h_1 (I, tx, wr, ga, gb, mo, mf, mg) (va_up B (50 + 5 * v) (B 90)) (va_up (va_up V ((50 + 5 * v) + 1) (V 91)) ((50 + 5 * v) + 3) (V 93)) := by
    try rw [(show V 91 = V 91 from rfl)] at hV_2
    try rw [(show V 93 = V 93 from rfl)] at hV_2
    try rw [(show B 90 = B 90 from rfl)] at hV_2
    exact hV_2
  refine go_aload_n (q := 46) d_pn_keep_45 rfl rfl rfl ?_
  refine go_iconst (q := 47) d_pn_keep_46 rfl ?_
  refine go_putf (q := 50) (v := mv_I 0) f_pn_49 d_pn_keep_47 rfl (pn_c1 hV_4) (Nat.le_of_ble_eq_true rfl) (go_fitI _) ?_
  refine go_eq (h' := va_up h_1 1 (mv_O 7 [mv_R 2, mv_I ((va_up I 0 0) 0), mv_I ((va_up I 0 0) 1), mv_R 3, mv_R 8, mv_R 12, mv_R 15])) ?_
  have hV_6 := pn_u1 hV_4 (va_up I 0 0) (fun i_ h_0 h_1 => va_up_ne _ _ h_0)
  have fr_7 : fr_ 1 389 h_1 (va_up h_1 1 (mv_O 7 [mv_R 2, mv_I ((va_up I 0 0) 0), mv_I ((va_up I 0 0) 1), mv_R 3, mv_R 8, mv_R 12, mv_R 15])) := fun z_ hz => va_up_ne _ _ (by omega)
  generalize va_up h_1 1 (mv_O 7 [mv_R 2, mv_I ((va_up I 0 0) 0), mv_I ((va_up I 0 0) 1), mv_R 3, mv_R 8, mv_R 12, mv_R 15]) = h_5 at hV_6 fr_7 ⊢
  refine go_aload_n (q := 51) d_pn_keep_50 rfl rfl rfl ?_
  refine go_aload_n (q := 52) d_pn_keep_51 rfl rfl rfl ?_
  refine go_getf (v := mv_R 15) (q := 55) f_pn_41 d_pn_keep_52 rfl (pn_c1 hV_6) rfl ?_
  exact k0  _ hV_6 (fr_.tr fr_3 fr_7)

set_option maxRecDepth 4000 in
theorem sp_ag_4 {φ : go_F} {l : Launch} {h : mv_H} {n : Nat} {I tx wr ga gb mo mf mg : Nat → Int} {B : Nat → Int} {V : Nat → Nat} {v : Nat} (hV : pn_V h (I, tx, wr, ga, gb, mo, mf, mg) B V) (hv : v < 8)
    (k0 : Go φ l m_pn_against (go_rm rd_pn_against rw_pn_against 0 0) (0, 0) 24 [some (mv_R 1), some (mv_I (v : Int))] [mv_R (50 + 5 * v), mv_R 3, mv_R 16] h n) :
    Go φ l m_pn_against (go_rm rd_pn_against rw_pn_against 0 0) (0, 0) 4 [some (mv_R 1), some (mv_I (v : Int))] [] h n := by
  refine go_aload_n (q := 5) d_pn_against_4 rfl rfl rfl ?_
  refine go_getf (v := mv_R 15) (q := 8) f_pn_41 d_pn_against_5 rfl (pn_c1 hV) rfl ?_
  refine go_getf (v := mv_R 16) (q := 11) f_pn_106 d_pn_against_8 rfl (pn_c15 hV) rfl ?_
  refine go_aload_n (q := 12) d_pn_against_11 rfl rfl rfl ?_
  refine go_getf (v := mv_R 3) (q := 15) f_pn_20 d_pn_against_12 rfl (pn_c1 hV) rfl ?_
  refine go_aload_n (q := 16) d_pn_against_15 rfl rfl rfl ?_
  refine go_getf (v := mv_R 15) (q := 19) f_pn_41 d_pn_against_16 rfl (pn_c1 hV) rfl ?_
  refine go_getf (v := mv_R 38) (q := 22) f_pn_74 d_pn_against_19 rfl (pn_c15 hV) rfl ?_
  refine go_iload_n (q := 23) d_pn_against_22 rfl rfl rfl ?_
  obtain ⟨f_1, e_2, e_3⟩ := pn_q38 hV
  refine go_aald (i := v) (j := 50 + 5 * v) (q := 24) d_pn_against_23 rfl e_2 (by omega) (by omega) (by omega) (e_3 _ (by omega)) ?_
  exact k0 

set_option maxRecDepth 4000 in
theorem sp_fe_4 {φ : go_F} {l : Launch} {h : mv_H} {n : Nat} {I tx wr ga gb mo mf mg : Nat → Int} {B : Nat → Int} {V : Nat → Nat} {v : Nat} (hV : pn_V h (I, tx, wr, ga, gb, mo, mf, mg) B V) (hv : v < 8)
    (k0 : Go φ l m_pn_fetch (go_rm rd_pn_fetch rw_pn_fetch 0 0) (0, 0) 14 [some (mv_R 1), some (mv_I (v : Int))] [mv_R (50 + 5 * v), mv_R 1] h n) :
    Go φ l m_pn_fetch (go_rm rd_pn_fetch rw_pn_fetch 0 0) (0, 0) 4 [some (mv_R 1), some (mv_I (v : Int))] [] h n := by
  refine go_aload_n (q := 5) d_pn_fetch_4 rfl rfl rfl ?_
  refine go_aload_n (q := 6) d_pn_fetch_5 rfl rfl rfl ?_
  refine go_getf (v := mv_R 15) (q := 9) f_pn_41 d_pn_fetch_6 rfl (pn_c1 hV) rfl ?_
  refine go_getf (v := mv_R 38) (q := 12) f_pn_74 d_pn_fetch_9 rfl (pn_c15 hV) rfl ?_
  refine go_iload_n (q := 13) d_pn_fetch_12 rfl rfl rfl ?_
  obtain ⟨f_1, e_2, e_3⟩ := pn_q38 hV
  refine go_aald (i := v) (j := 50 + 5 * v) (q := 14) d_pn_fetch_13 rfl e_2 (by omega) (by omega) (by omega) (e_3 _ (by omega)) ?_
  exact k0 

set_option maxRecDepth 4000 in
theorem sp_rv {φ : go_F} {l : Launch} {h : mv_H} {n : Nat} {I tx wr ga gb mo mf mg : Nat → Int} {B : Nat → Int} {V : Nat → Nat} {v : Int} (hV : pn_V h (I, tx, wr, ga, gb, mo, mf, mg) B V) (hv : -2147483648 ≤ v ∧ v ≤ 2147483647)
    (k0 : v < 0 → Go φ l m_pn_requireVariable (go_rm rd_pn_requireVariable rw_pn_requireVariable 0 0) (0, 0) 10 [some (mv_I v)] [] h n)
    (k1 : ¬ v < 0 → v < 8 → Go φ l m_pn_requireVariable (go_rm rd_pn_requireVariable rw_pn_requireVariable 0 0) (0, 0) 18 [some (mv_I v)] [] h n)
    (k2 : ¬ v < 0 → ¬ v < 8 → Go φ l m_pn_requireVariable (go_rm rd_pn_requireVariable rw_pn_requireVariable 0 0) (0, 0) 10 [some (mv_I v)] [] h n) :
    Go φ l m_pn_requireVariable (go_rm rd_pn_requireVariable rw_pn_requireVariable 0 0) (0, 0) 0 [some (mv_I v)] [] h n := by
  refine go_iload_n (q := 1) d_pn_requireVariable_0 rfl rfl rfl ?_
  refine go_if_lt (t := 10) (q := 4) d_pn_requireVariable_1 (by decide) rfl (by omega) (fun c1 => ?_) (fun c1 => ?_)
  ·
    exact k0 c1
  ·
    refine go_iload_n (q := 5) d_pn_requireVariable_4 rfl rfl rfl ?_
    refine go_bipush (q := 7) d_pn_requireVariable_5 rfl (by decide) ?_
    refine go_icmp_lt (t := 18) (q := 10) d_pn_requireVariable_7 (by decide) rfl (by omega) (by omega) (fun c2 => ?_) (fun c2 => ?_)
    ·
      exact k1 c1 c2
    ·
      exact k2 c1 c2

set_option maxRecDepth 4000 in
theorem sp_re_0 {φ : go_F} {l : Launch} {h : mv_H} {n : Nat} {I tx wr ga gb mo mf mg : Nat → Int} {B : Nat → Int} {V : Nat → Nat}  (hV : pn_V h (I, tx, wr, ga, gb, mo, mf, mg) B V) 
    (k0 : Go φ l m_pn_requireExpression (go_rm rd_pn_requireExpression rw_pn_requireExpression 0 0) (0, 0) 13 [some (mv_R 1)] [mv_I (I 0), mv_R 2, mv_R 12, mv_R 1] h n) :
    Go φ l m_pn_requireExpression (go_rm rd_pn_requireExpression rw_pn_requireExpression 0 0) (0, 0) 0 [some (mv_R 1)] [] h n := by
  refine go_aload_n (q := 1) d_pn_requireExpression_0 rfl rfl rfl ?_
  refine go_aload_n (q := 2) d_pn_requireExpression_1 rfl rfl rfl ?_
  refine go_getf (v := mv_R 12) (q := 5) f_pn_34 d_pn_requireExpression_2 rfl (pn_c1 hV) rfl ?_
  refine go_aload_n (q := 6) d_pn_requireExpression_5 rfl rfl rfl ?_
  refine go_getf (v := mv_R 2) (q := 9) f_pn_9 d_pn_requireExpression_6 rfl (pn_c1 hV) rfl ?_
  refine go_aload_n (q := 10) d_pn_requireExpression_9 rfl rfl rfl ?_
  refine go_getf (v := mv_I (I 0)) (q := 13) f_pn_49 d_pn_requireExpression_10 rfl (pn_c1 hV) rfl ?_
  exact k0 

set_option maxRecDepth 4000 in
theorem sp_re_16 {φ : go_F} {l : Launch} {h : mv_H} {n : Nat} {I tx wr ga gb mo mf mg : Nat → Int} {B : Nat → Int} {V : Nat → Nat} {z : Int} (hV : pn_V h (I, tx, wr, ga, gb, mo, mf, mg) B V) (hz : -1 ≤ z ∧ z ≤ 120)
    (k0 : z = -1 → ∀ h' : mv_H, pn_V h' (va_up I 1 z, tx, wr, ga, gb, mo, mf, mg) B V → fr_ 1 389 h h' → Go φ l m_pn_requireExpression (go_rm rd_pn_requireExpression rw_pn_requireExpression 0 0) (0, 0) 35 [some (mv_R 1)] [] h' n)
    (k1 : ¬ z = -1 → ∀ h' : mv_H, pn_V h' (va_up I 1 z, tx, wr, ga, gb, mo, mf, mg) B V → fr_ 1 389 h h' → Go φ l m_pn_requireExpression (go_rm rd_pn_requireExpression rw_pn_requireExpression 0 0) (0, 0) 27 [some (mv_R 1)] [] h' n) :
    Go φ l m_pn_requireExpression (go_rm rd_pn_requireExpression rw_pn_requireExpression 0 0) (0, 0) 16 [some (mv_R 1)] [mv_I z, mv_R 1] h n := by
  refine go_putf (q := 19) (v := mv_I z) f_pn_13 d_pn_requireExpression_16 rfl (pn_c1 hV) (Nat.le_of_ble_eq_true rfl) (go_fitI _) ?_
  refine go_eq (h' := va_up h 1 (mv_O 7 [mv_R 2, mv_I ((va_up I 1 z) 0), mv_I ((va_up I 1 z) 1), mv_R 3, mv_R 8, mv_R 12, mv_R 15])) ?_
  have hV_2 := pn_u1 hV (va_up I 1 z) (fun i_ h_0 h_1 => va_up_ne _ _ h_1)
  have fr_3 : fr_ 1 389 h (va_up h 1 (mv_O 7 [mv_R 2, mv_I ((va_up I 1 z) 0), mv_I ((va_up I 1 z) 1), mv_R 3, mv_R 8, mv_R 12, mv_R 15])) := fun z_ hz => va_up_ne _ _ (by omega)
  generalize va_up h 1 (mv_O 7 [mv_R 2, mv_I ((va_up I 1 z) 0), mv_I ((va_up I 1 z) 1), mv_R 3, mv_R 8, mv_R 12, mv_R 15]) = h_1 at hV_2 fr_3 ⊢
  refine go_aload_n (q := 20) d_pn_requireExpression_19 rfl rfl rfl ?_
  refine go_getf (v := mv_I z) (q := 23) f_pn_13 d_pn_requireExpression_20 rfl (pn_c1 hV_2) rfl ?_
  refine go_iconst (q := 24) d_pn_requireExpression_23 rfl ?_
  refine go_icmp_eq (t := 35) (q := 27) d_pn_requireExpression_24 (by decide) rfl (by omega) (by omega) (fun c4 => ?_) (fun c4 => ?_)
  ·
    exact k0 c4 _ hV_2 fr_3
  ·
    exact k1 c4 _ hV_2 fr_3

set_option maxRecDepth 4000 in
theorem sp_rf {φ : go_F} {l : Launch} {h : mv_H} {n : Nat} {I tx wr ga gb mo mf mg : Nat → Int} {B : Nat → Int} {V : Nat → Nat} {z : Int} (hV : pn_V h (I, tx, wr, ga, gb, mo, mf, mg) B V) (hz : 0 ≤ z ∧ z ≤ 3)
    (k0 : ¬ z = 1 → ¬ z = 2 → ¬ z = 3 → Go φ l m_pn_refuse (go_rm rd_pn_refuse rw_pn_refuse 0 0) (0, 0) 39 [some (mv_I z)] [] h n)
    (k1 : ¬ z = 1 → ¬ z = 2 → z = 3 → Go φ l m_pn_refuse (go_rm rd_pn_refuse rw_pn_refuse 0 0) (0, 0) 31 [some (mv_I z)] [] h n)
    (k2 : ¬ z = 1 → z = 2 → Go φ l m_pn_refuse (go_rm rd_pn_refuse rw_pn_refuse 0 0) (0, 0) 18 [some (mv_I z)] [] h n)
    (k3 : z = 1 → Go φ l m_pn_refuse (go_rm rd_pn_refuse rw_pn_refuse 0 0) (0, 0) 5 [some (mv_I z)] [] h n) :
    Go φ l m_pn_refuse (go_rm rd_pn_refuse rw_pn_refuse 0 0) (0, 0) 0 [some (mv_I z)] [] h n := by
  refine go_iload_n (q := 1) d_pn_refuse_0 rfl rfl rfl ?_
  refine go_iconst (q := 2) d_pn_refuse_1 rfl ?_
  refine go_icmp_ne (t := 13) (q := 5) d_pn_refuse_2 (by decide) rfl (by omega) (by omega) (fun c1 => ?_) (fun c1 => ?_)
  ·
    refine go_iload_n (q := 14) d_pn_refuse_13 rfl rfl rfl ?_
    refine go_iconst (q := 15) d_pn_refuse_14 rfl ?_
    refine go_icmp_ne (t := 26) (q := 18) d_pn_refuse_15 (by decide) rfl (by omega) (by omega) (fun c2 => ?_) (fun c2 => ?_)
    ·
      refine go_iload_n (q := 27) d_pn_refuse_26 rfl rfl rfl ?_
      refine go_iconst (q := 28) d_pn_refuse_27 rfl ?_
      refine go_icmp_ne (t := 39) (q := 31) d_pn_refuse_28 (by decide) rfl (by omega) (by omega) (fun c3 => ?_) (fun c3 => ?_)
      ·
        exact k0 c1 c2 c3
      ·
        exact k1 c1 c2 c3
    ·
      exact k2 c1 c2
  ·
    exact k3 c1

set_option maxRecDepth 4000 in
theorem sn_val {φ : go_F} {l : Launch} {h : mv_H} {n : Nat} {I tx wr ga gb mo mf mg : Nat → Int} {B : Nat → Int} {V : Nat → Nat}  (hV : pn_V h (I, tx, wr, ga, gb, mo, mf, mg) B V) 
    (k0 : Go φ l m_ma_value (go_rm rd_ma_value rw_ma_value 0 0) (0, 0) 6 [some (mv_R 15)] [mv_R 90] h n) :
    Go φ l m_ma_value (go_rm rd_ma_value rw_ma_value 0 0) (0, 0) 0 [some (mv_R 15)] [] h n := by
  refine go_aload_n (q := 1) d_ma_value_0 rfl rfl rfl ?_
  refine go_getf (v := mv_R 39) (q := 4) f_ma_24 d_ma_value_1 rfl (pn_c15 hV) rfl ?_
  refine go_iconst (q := 5) d_ma_value_4 rfl ?_
  obtain ⟨f_1, e_2, e_3⟩ := pn_q39 hV
  refine go_aald (i := 0) (j := 90) (q := 6) d_ma_value_5 rfl e_2 (by omega) (by omega) (by omega) (e_3 _ (by omega)) ?_
  exact k0 

