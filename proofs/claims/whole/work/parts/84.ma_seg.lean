set_option maxRecDepth 4000 in
theorem sn_rep_44 {φ : go_F} {l : Launch} {h : mv_H} {n : Nat} {I tx wr ga gb mo mf mg : Nat → Int} {B : Nat → Int} {V : Nat → Nat} {a : Nat} {c : Int} (hV : pn_V h (I, tx, wr, ga, gb, mo, mf, mg) B V) (ha : 90 ≤ a ∧ a < 390 ∧ a % 5 = 0)
    (k0 : ∀ h' : mv_H, pn_V h' (I, tx, wr, ga, gb, mo, mf, mg) (va_up B 40 (B a)) (va_up (va_up (va_up V 41 (V (a + 1))) 43 (V (a + 3))) 43 1) → fr_ 1 389 h h' → Go φ l m_ma_replace (go_rm rd_ma_replace rw_ma_replace 0 0) (0, 0) 160 [some (mv_R 15), some (mv_I c), some (mv_R a)] [mv_I 0] h' n) :
    Go φ l m_ma_replace (go_rm rd_ma_replace rw_ma_replace 0 0) (0, 0) 44 [some (mv_R 15), some (mv_I c), some (mv_R a)] [] h n := by
  refine go_aload_n (q := 45) d_ma_replace_44 rfl rfl rfl ?_
  refine go_getf (v := mv_R 40) (q := 48) f_ma_28 d_ma_replace_45 rfl (pn_c15 hV) rfl ?_
  refine go_aload_n (q := 49) d_ma_replace_48 rfl rfl rfl ?_
  refine cp_fr_copy (a := 40) (c := a) (q := 52) l_ma_85 d_ma_replace_49 rfl hV fa_t (Or.inr (Or.inr ⟨Nat.le_trans (by decide) ha.1, ha.2⟩)) (by omega) (Nat.le_of_ble_eq_true rfl) ⟨by decide, by decide, by decide, by decide⟩ (fun h_1 hV_2 fr_3 => ?_)
  have hV_4 : pn_V h_1 (I, tx, wr, ga, gb, mo, mf, mg) (va_up B 40 (B a)) (va_up (va_up V 41 (V (a + 1))) 43 (V (a + 3))) := by
    try rw [(show V (a + 1) = V (a + 1) from rfl)] at hV_2
    try rw [(show V (a + 3) = V (a + 3) from rfl)] at hV_2
    try rw [(show B a = B a from rfl)] at hV_2
    exact hV_2
  refine go_aload_n (q := 53) d_ma_replace_52 rfl rfl rfl ?_
  refine go_getf (v := mv_R 40) (q := 56) f_ma_28 d_ma_replace_53 rfl (pn_c15 hV_4) rfl ?_
  refine go_getf (q := 59) f_ma_127 d_ma_replace_56 rfl (pn_cf hV_4 (a := 40) fa_t) rfl ?_
  refine go_iconst (q := 60) d_ma_replace_59 rfl ?_
  refine cp_become (p := 43) (v := 1) (q := 63) l_ma_95 d_ma_replace_60 rfl hV_4 (by unfold ro_; decide) (by omega) (Nat.le_of_ble_eq_true rfl) ⟨by decide, by decide, by decide, by decide⟩ (fun h_5 hV_6 fr_7 => ?_)
  have hV_8 : pn_V h_5 (I, tx, wr, ga, gb, mo, mf, mg) (va_up B 40 (B a)) (va_up (va_up (va_up V 41 (V (a + 1))) 43 (V (a + 3))) 43 1) := hV_6
  refine go_goto (q := 159) d_ma_replace_63 (by decide) ?_
  refine go_iconst (q := 160) d_ma_replace_159 rfl ?_
  exact k0  _ hV_8 (fr_.tr fr_3 fr_7)

set_option maxRecDepth 4000 in
theorem sn_rep_66 {φ : go_F} {l : Launch} {h : mv_H} {n : Nat} {I tx wr ga gb mo mf mg : Nat → Int} {B : Nat → Int} {V : Nat → Nat} {a : Nat} {c : Int} (hV : pn_V h (I, tx, wr, ga, gb, mo, mf, mg) B V) (ha : 90 ≤ a ∧ a < 390 ∧ a % 5 = 0)
    (k0 : ∀ h' : mv_H, pn_V h' (I, tx, wr, ga, gb, mo, mf, mg) (va_up B 40 0) (va_up (va_up (va_up V 41 0) 43 1) 41 (V (a + 3))) → fr_ 1 389 h h' → Go φ l m_ma_replace (go_rm rd_ma_replace rw_ma_replace 0 0) (0, 0) 160 [some (mv_R 15), some (mv_I c), some (mv_R a)] [mv_I 0] h' n) :
    Go φ l m_ma_replace (go_rm rd_ma_replace rw_ma_replace 0 0) (0, 0) 66 [some (mv_R 15), some (mv_I c), some (mv_R a)] [] h n := by
  refine go_aload_n (q := 67) d_ma_replace_66 rfl rfl rfl ?_
  refine go_getf (v := mv_R 40) (q := 70) f_ma_28 d_ma_replace_67 rfl (pn_c15 hV) rfl ?_
  refine go_iconst (q := 71) d_ma_replace_70 rfl ?_
  refine cp_fr_become (a := 40) (v := 0) (q := 74) l_ma_105 d_ma_replace_71 rfl hV fa_t (by omega) (Nat.le_of_ble_eq_true rfl) ⟨by decide, by decide, by decide, by decide⟩ (fun h_1 hV_2 fr_3 => ?_)
  have hV_4 : pn_V h_1 (I, tx, wr, ga, gb, mo, mf, mg) (va_up B 40 0) (va_up (va_up V 41 0) 43 1) := hV_2
  refine go_aload_n (q := 75) d_ma_replace_74 rfl rfl rfl ?_
  refine go_getf (v := mv_R 40) (q := 78) f_ma_28 d_ma_replace_75 rfl (pn_c15 hV_4) rfl ?_
  refine go_getf (q := 81) f_ma_106 d_ma_replace_78 rfl (pn_cf hV_4 (a := 40) fa_t) rfl ?_
  refine go_aload_n (q := 82) d_ma_replace_81 rfl rfl rfl ?_
  refine go_getf (q := 85) f_ma_127 d_ma_replace_82 rfl (pn_cf hV_4 (a := a) (Or.inr (Or.inr ⟨Nat.le_trans (by decide) ha.1, ha.2⟩))) rfl ?_
  refine cp_copy (p := 41) (r := a + 3) (q := 88) l_ma_109 d_ma_replace_85 rfl hV_4 (by unfold ro_; decide) (fa_n (a := a) (Or.inr (Or.inr ⟨Nat.le_trans (by decide) ha.1, ha.2⟩))).2.1 (by omega) (by rw [(show (va_up (va_up V 41 0) 43 1) (a + 3) = V (a + 3) from ((va_up_ne _ _ (by omega)).trans ((va_up_ne _ _ (by omega)).trans rfl))), (show rn_ 41 = 8 from rfl)]; first | exact (fr_b hV (a := a) (Or.inr (Or.inr ⟨Nat.le_trans (by decide) ha.1, ha.2⟩))).2 | omega) (Nat.le_of_ble_eq_true rfl) ⟨by decide, by decide, by decide, by decide⟩ (fun h_5 hV_6 fr_7 => ?_)
  have hV_8 : pn_V h_5 (I, tx, wr, ga, gb, mo, mf, mg) (va_up B 40 0) (va_up (va_up (va_up V 41 0) 43 1) 41 (V (a + 3))) := by
    try rw [(show (va_up (va_up V 41 0) 43 1) (a + 3) = V (a + 3) from ((va_up_ne _ _ (by omega)).trans ((va_up_ne _ _ (by omega)).trans rfl)))] at hV_6
    exact hV_6
  refine go_goto (q := 159) d_ma_replace_88 (by decide) ?_
  refine go_iconst (q := 160) d_ma_replace_159 rfl ?_
  exact k0  _ hV_8 (fr_.tr fr_3 fr_7)

set_option maxRecDepth 4000 in
theorem sn_rep_91 {φ : go_F} {l : Launch} {h : mv_H} {n : Nat} {I tx wr ga gb mo mf mg : Nat → Int} {B : Nat → Int} {V : Nat → Nat} {a : Nat} {c : Int} (hV : pn_V h (I, tx, wr, ga, gb, mo, mf, mg) B V) (ha : 90 ≤ a ∧ a < 390 ∧ a % 5 = 0)
    (k0 : Go φ l m_ma_replace (go_rm rd_ma_replace rw_ma_replace 0 0) (0, 0) 104 [some (mv_R 15), some (mv_I c), some (mv_R a)] [mv_R a, mv_R 40, mv_R 16, mv_R 40] h n) :
    Go φ l m_ma_replace (go_rm rd_ma_replace rw_ma_replace 0 0) (0, 0) 91 [some (mv_R 15), some (mv_I c), some (mv_R a)] [] h n := by
  refine go_aload_n (q := 92) d_ma_replace_91 rfl rfl rfl ?_
  refine go_getf (v := mv_R 40) (q := 95) f_ma_28 d_ma_replace_92 rfl (pn_c15 hV) rfl ?_
  refine go_aload_n (q := 96) d_ma_replace_95 rfl rfl rfl ?_
  refine go_getf (v := mv_R 16) (q := 99) f_ma_12 d_ma_replace_96 rfl (pn_c15 hV) rfl ?_
  refine go_aload_n (q := 100) d_ma_replace_99 rfl rfl rfl ?_
  refine go_getf (v := mv_R 40) (q := 103) f_ma_28 d_ma_replace_100 rfl (pn_c15 hV) rfl ?_
  refine go_aload_n (q := 104) d_ma_replace_103 rfl rfl rfl ?_
  exact k0 

set_option maxRecDepth 4000 in
theorem sn_rep_107 {φ : go_F} {l : Launch} {h : mv_H} {n : Nat} {I tx wr ga gb mo mf mg : Nat → Int} {B : Nat → Int} {V : Nat → Nat} {a : Nat} {c z : Int} (hV : pn_V h (I, tx, wr, ga, gb, mo, mf, mg) B V) (ha : 90 ≤ a ∧ a < 390 ∧ a % 5 = 0) (hz : -1 ≤ z ∧ z ≤ 1)
    (k0 : 0 ≤ z → ∀ h' : mv_H, pn_V h' (I, tx, wr, ga, gb, mo, mf, mg) (va_up B 40 0) (va_up (va_up V 41 0) 43 1) → fr_ 1 389 h h' → Go φ l m_ma_replace (go_rm rd_ma_replace rw_ma_replace 0 0) (0, 0) 160 [some (mv_R 15), some (mv_I c), some (mv_R a)] [mv_I 0] h' n)
    (k1 : ¬ 0 ≤ z → ∀ h' : mv_H, pn_V h' (I, tx, wr, ga, gb, mo, mf, mg) (va_up B 40 0) (va_up (va_up V 41 1) 43 1) → fr_ 1 389 h h' → Go φ l m_ma_replace (go_rm rd_ma_replace rw_ma_replace 0 0) (0, 0) 160 [some (mv_R 15), some (mv_I c), some (mv_R a)] [mv_I 0] h' n) :
    Go φ l m_ma_replace (go_rm rd_ma_replace rw_ma_replace 0 0) (0, 0) 107 [some (mv_R 15), some (mv_I c), some (mv_R a)] [mv_I z, mv_R 40] h n := by
  refine go_if_ge (t := 114) (q := 110) d_ma_replace_107 (by decide) rfl (by omega) (fun c1 => ?_) (fun c1 => ?_)
  ·
    refine go_iconst (q := 115) d_ma_replace_114 rfl ?_
    refine cp_fr_become (a := 40) (v := 0) (q := 118) l_ma_105 d_ma_replace_115 rfl hV fa_t (by omega) (Nat.le_of_ble_eq_true rfl) ⟨by decide, by decide, by decide, by decide⟩ (fun h_2 hV_3 fr_4 => ?_)
    have hV_5 : pn_V h_2 (I, tx, wr, ga, gb, mo, mf, mg) (va_up B 40 0) (va_up (va_up V 41 0) 43 1) := hV_3
    refine go_goto (q := 159) d_ma_replace_118 (by decide) ?_
    refine go_iconst (q := 160) d_ma_replace_159 rfl ?_
    exact k0 c1 _ hV_5 fr_4
  ·
    refine go_iconst (q := 111) d_ma_replace_110 rfl ?_
    refine go_goto (q := 115) d_ma_replace_111 (by decide) ?_
    refine cp_fr_become (a := 40) (v := 1) (q := 118) l_ma_105 d_ma_replace_115 rfl hV fa_t (by omega) (Nat.le_of_ble_eq_true rfl) ⟨by decide, by decide, by decide, by decide⟩ (fun h_6 hV_7 fr_8 => ?_)
    have hV_9 : pn_V h_6 (I, tx, wr, ga, gb, mo, mf, mg) (va_up B 40 0) (va_up (va_up V 41 1) 43 1) := hV_7
    refine go_goto (q := 159) d_ma_replace_118 (by decide) ?_
    refine go_iconst (q := 160) d_ma_replace_159 rfl ?_
    exact k1 c1 _ hV_9 fr_8

set_option maxRecDepth 4000 in
theorem sn_rep_121 {φ : go_F} {l : Launch} {h : mv_H} {n : Nat} {I tx wr ga gb mo mf mg : Nat → Int} {B : Nat → Int} {V : Nat → Nat} {a : Nat} {c : Int} (hV : pn_V h (I, tx, wr, ga, gb, mo, mf, mg) B V) (ha : 90 ≤ a ∧ a < 390 ∧ a % 5 = 0)
    (k0 : Go φ l m_ma_replace (go_rm rd_ma_replace rw_ma_replace 0 0) (0, 0) 134 [some (mv_R 15), some (mv_I c), some (mv_R a)] [mv_R a, mv_R 40, mv_R 16, mv_R 40] h n) :
    Go φ l m_ma_replace (go_rm rd_ma_replace rw_ma_replace 0 0) (0, 0) 121 [some (mv_R 15), some (mv_I c), some (mv_R a)] [] h n := by
  refine go_aload_n (q := 122) d_ma_replace_121 rfl rfl rfl ?_
  refine go_getf (v := mv_R 40) (q := 125) f_ma_28 d_ma_replace_122 rfl (pn_c15 hV) rfl ?_
  refine go_aload_n (q := 126) d_ma_replace_125 rfl rfl rfl ?_
  refine go_getf (v := mv_R 16) (q := 129) f_ma_12 d_ma_replace_126 rfl (pn_c15 hV) rfl ?_
  refine go_aload_n (q := 130) d_ma_replace_129 rfl rfl rfl ?_
  refine go_getf (v := mv_R 40) (q := 133) f_ma_28 d_ma_replace_130 rfl (pn_c15 hV) rfl ?_
  refine go_aload_n (q := 134) d_ma_replace_133 rfl rfl rfl ?_
  exact k0 

set_option maxRecDepth 4000 in
theorem sn_rep_137 {φ : go_F} {l : Launch} {h : mv_H} {n : Nat} {I tx wr ga gb mo mf mg : Nat → Int} {B : Nat → Int} {V : Nat → Nat} {a : Nat} {c z : Int} (hV : pn_V h (I, tx, wr, ga, gb, mo, mf, mg) B V) (ha : 90 ≤ a ∧ a < 390 ∧ a % 5 = 0) (hz : -1 ≤ z ∧ z ≤ 1)
    (k0 : ¬ z = 0 → ∀ h' : mv_H, pn_V h' (I, tx, wr, ga, gb, mo, mf, mg) (va_up B 40 0) (va_up (va_up V 41 0) 43 1) → fr_ 1 389 h h' → Go φ l m_ma_replace (go_rm rd_ma_replace rw_ma_replace 0 0) (0, 0) 160 [some (mv_R 15), some (mv_I c), some (mv_R a)] [mv_I 0] h' n)
    (k1 : z = 0 → ∀ h' : mv_H, pn_V h' (I, tx, wr, ga, gb, mo, mf, mg) (va_up B 40 0) (va_up (va_up V 41 1) 43 1) → fr_ 1 389 h h' → Go φ l m_ma_replace (go_rm rd_ma_replace rw_ma_replace 0 0) (0, 0) 160 [some (mv_R 15), some (mv_I c), some (mv_R a)] [mv_I 0] h' n) :
    Go φ l m_ma_replace (go_rm rd_ma_replace rw_ma_replace 0 0) (0, 0) 137 [some (mv_R 15), some (mv_I c), some (mv_R a)] [mv_I z, mv_R 40] h n := by
  refine go_if_ne (t := 144) (q := 140) d_ma_replace_137 (by decide) rfl (by omega) (fun c1 => ?_) (fun c1 => ?_)
  ·
    refine go_iconst (q := 145) d_ma_replace_144 rfl ?_
    refine cp_fr_become (a := 40) (v := 0) (q := 148) l_ma_105 d_ma_replace_145 rfl hV fa_t (by omega) (Nat.le_of_ble_eq_true rfl) ⟨by decide, by decide, by decide, by decide⟩ (fun h_2 hV_3 fr_4 => ?_)
    have hV_5 : pn_V h_2 (I, tx, wr, ga, gb, mo, mf, mg) (va_up B 40 0) (va_up (va_up V 41 0) 43 1) := hV_3
    refine go_goto (q := 159) d_ma_replace_148 (by decide) ?_
    refine go_iconst (q := 160) d_ma_replace_159 rfl ?_
    exact k0 c1 _ hV_5 fr_4
  ·
    refine go_iconst (q := 141) d_ma_replace_140 rfl ?_
    refine go_goto (q := 145) d_ma_replace_141 (by decide) ?_
    refine cp_fr_become (a := 40) (v := 1) (q := 148) l_ma_105 d_ma_replace_145 rfl hV fa_t (by omega) (Nat.le_of_ble_eq_true rfl) ⟨by decide, by decide, by decide, by decide⟩ (fun h_6 hV_7 fr_8 => ?_)
    have hV_9 : pn_V h_6 (I, tx, wr, ga, gb, mo, mf, mg) (va_up B 40 0) (va_up (va_up V 41 1) 43 1) := hV_7
    refine go_goto (q := 159) d_ma_replace_148 (by decide) ?_
    refine go_iconst (q := 160) d_ma_replace_159 rfl ?_
    exact k1 c1 _ hV_9 fr_8

set_option maxRecDepth 4000 in
theorem sn_rep_151 {φ : go_F} {l : Launch} {h : mv_H} {n : Nat} {I tx wr ga gb mo mf mg : Nat → Int} {B : Nat → Int} {V : Nat → Nat} {a : Nat} {c : Int} (hV : pn_V h (I, tx, wr, ga, gb, mo, mf, mg) B V) (ha : 90 ≤ a ∧ a < 390 ∧ a % 5 = 0)
    (k0 : ∀ h' : mv_H, pn_V h' (I, tx, wr, ga, gb, mo, mf, mg) (va_up B 40 (B a)) (va_up (va_up V 41 (V (a + 1))) 43 (V (a + 3))) → fr_ 1 389 h h' → Go φ l m_ma_replace (go_rm rd_ma_replace rw_ma_replace 0 0) (0, 0) 160 [some (mv_R 15), some (mv_I c), some (mv_R a)] [mv_I 0] h' n) :
    Go φ l m_ma_replace (go_rm rd_ma_replace rw_ma_replace 0 0) (0, 0) 151 [some (mv_R 15), some (mv_I c), some (mv_R a)] [] h n := by
  refine go_aload_n (q := 152) d_ma_replace_151 rfl rfl rfl ?_
  refine go_getf (v := mv_R 40) (q := 155) f_ma_28 d_ma_replace_152 rfl (pn_c15 hV) rfl ?_
  refine go_aload_n (q := 156) d_ma_replace_155 rfl rfl rfl ?_
  refine cp_fr_copy (a := 40) (c := a) (q := 159) l_ma_85 d_ma_replace_156 rfl hV fa_t (Or.inr (Or.inr ⟨Nat.le_trans (by decide) ha.1, ha.2⟩)) (by omega) (Nat.le_of_ble_eq_true rfl) ⟨by decide, by decide, by decide, by decide⟩ (fun h_1 hV_2 fr_3 => ?_)
  have hV_4 : pn_V h_1 (I, tx, wr, ga, gb, mo, mf, mg) (va_up B 40 (B a)) (va_up (va_up V 41 (V (a + 1))) 43 (V (a + 3))) := by
    try rw [(show V (a + 1) = V (a + 1) from rfl)] at hV_2
    try rw [(show V (a + 3) = V (a + 3) from rfl)] at hV_2
    try rw [(show B a = B a from rfl)] at hV_2
    exact hV_2
  refine go_iconst (q := 160) d_ma_replace_159 rfl ?_
  exact k0  _ hV_4 fr_3

set_option maxRecDepth 4000 in
theorem sn_step_68 {φ : go_F} {l : Launch} {h : mv_H} {n : Nat} {I tx wr ga gb mo mf mg : Nat → Int} {B : Nat → Int} {V : Nat → Nat} {a : Nat} {c : Int} (hV : pn_V h (I, tx, wr, ga, gb, mo, mf, mg) B V) (ha : 90 ≤ a ∧ a < 390 ∧ a % 5 = 0)
    (k0 : Go φ l m_ma_step (go_rm rd_ma_step rw_ma_step 0 0) (0, 0) 78 [some (mv_R 15), some (mv_I c), some (mv_R a)] [mv_I 0, mv_R a, mv_R 40, mv_R 16] h n) :
    Go φ l m_ma_step (go_rm rd_ma_step rw_ma_step 0 0) (0, 0) 68 [some (mv_R 15), some (mv_I c), some (mv_R a)] [] h n := by
  refine go_aload_n (q := 69) d_ma_step_68 rfl rfl rfl ?_
  refine go_getf (v := mv_R 16) (q := 72) f_ma_12 d_ma_step_69 rfl (pn_c15 hV) rfl ?_
  refine go_aload_n (q := 73) d_ma_step_72 rfl rfl rfl ?_
  refine go_getf (v := mv_R 40) (q := 76) f_ma_28 d_ma_step_73 rfl (pn_c15 hV) rfl ?_
  refine go_aload_n (q := 77) d_ma_step_76 rfl rfl rfl ?_
  refine go_iconst (q := 78) d_ma_step_77 rfl ?_
  exact k0 

set_option maxRecDepth 4000 in
theorem sn_step_82 {φ : go_F} {l : Launch} {h : mv_H} {n : Nat} {I tx wr ga gb mo mf mg : Nat → Int} {B : Nat → Int} {V : Nat → Nat} {a : Nat} {c : Int} (hV : pn_V h (I, tx, wr, ga, gb, mo, mf, mg) B V) (ha : 90 ≤ a ∧ a < 390 ∧ a % 5 = 0)
    (k0 : Go φ l m_ma_step (go_rm rd_ma_step rw_ma_step 0 0) (0, 0) 92 [some (mv_R 15), some (mv_I c), some (mv_R a)] [mv_I 1, mv_R a, mv_R 40, mv_R 16] h n) :
    Go φ l m_ma_step (go_rm rd_ma_step rw_ma_step 0 0) (0, 0) 82 [some (mv_R 15), some (mv_I c), some (mv_R a)] [] h n := by
  refine go_aload_n (q := 83) d_ma_step_82 rfl rfl rfl ?_
  refine go_getf (v := mv_R 16) (q := 86) f_ma_12 d_ma_step_83 rfl (pn_c15 hV) rfl ?_
  refine go_aload_n (q := 87) d_ma_step_86 rfl rfl rfl ?_
  refine go_getf (v := mv_R 40) (q := 90) f_ma_28 d_ma_step_87 rfl (pn_c15 hV) rfl ?_
  refine go_aload_n (q := 91) d_ma_step_90 rfl rfl rfl ?_
  refine go_iconst (q := 92) d_ma_step_91 rfl ?_
  exact k0 

set_option maxRecDepth 4000 in
theorem sn_step_96 {φ : go_F} {l : Launch} {h : mv_H} {n : Nat} {I tx wr ga gb mo mf mg : Nat → Int} {B : Nat → Int} {V : Nat → Nat} {a : Nat} {c : Int} (hV : pn_V h (I, tx, wr, ga, gb, mo, mf, mg) B V) (ha : 90 ≤ a ∧ a < 390 ∧ a % 5 = 0)
    (k0 : Go φ l m_ma_step (go_rm rd_ma_step rw_ma_step 0 0) (0, 0) 116 [some (mv_R 15), some (mv_I c), some (mv_R a)] [mv_I (B a), mv_R (a + 3), mv_R (a + 1), mv_R 40, mv_R 16] h n) :
    Go φ l m_ma_step (go_rm rd_ma_step rw_ma_step 0 0) (0, 0) 96 [some (mv_R 15), some (mv_I c), some (mv_R a)] [] h n := by
  refine go_aload_n (q := 97) d_ma_step_96 rfl rfl rfl ?_
  refine go_getf (v := mv_R 16) (q := 100) f_ma_12 d_ma_step_97 rfl (pn_c15 hV) rfl ?_
  refine go_aload_n (q := 101) d_ma_step_100 rfl rfl rfl ?_
  refine go_getf (v := mv_R 40) (q := 104) f_ma_28 d_ma_step_101 rfl (pn_c15 hV) rfl ?_
  refine go_aload_n (q := 105) d_ma_step_104 rfl rfl rfl ?_
  refine go_getf (q := 108) f_ma_106 d_ma_step_105 rfl (pn_cf hV (a := a) (Or.inr (Or.inr ⟨Nat.le_trans (by decide) ha.1, ha.2⟩))) rfl ?_
  refine go_aload_n (q := 109) d_ma_step_108 rfl rfl rfl ?_
  refine go_getf (q := 112) f_ma_127 d_ma_step_109 rfl (pn_cf hV (a := a) (Or.inr (Or.inr ⟨Nat.le_trans (by decide) ha.1, ha.2⟩))) rfl ?_
  refine go_aload_n (q := 113) d_ma_step_112 rfl rfl rfl ?_
  refine go_getf (q := 116) f_ma_113 d_ma_step_113 rfl (pn_cf hV (a := a) (Or.inr (Or.inr ⟨Nat.le_trans (by decide) ha.1, ha.2⟩))) rfl ?_
  rw [(show B a = B a from rfl)]
  have q_1 := hV.2.1 a
  rw [(show B a = B a from rfl)] at q_1
  exact k0 

set_option maxRecDepth 4000 in
theorem sn_step_120 {φ : go_F} {l : Launch} {h : mv_H} {n : Nat} {I tx wr ga gb mo mf mg : Nat → Int} {B : Nat → Int} {V : Nat → Nat} {a : Nat} {c : Int} (hV : pn_V h (I, tx, wr, ga, gb, mo, mf, mg) B V) (ha : 90 ≤ a ∧ a < 390 ∧ a % 5 = 0)
    (k0 : ¬ V (a + 1) = 0 → Go φ l m_ma_step (go_rm rd_ma_step rw_ma_step 0 0) (0, 0) 151 [some (mv_R 15), some (mv_I c), some (mv_R a)] [mv_I (B a), mv_R (a + 1), mv_R (a + 3), mv_R 40, mv_R 16] h n)
    (k1 : V (a + 1) = 0 → Go φ l m_ma_step (go_rm rd_ma_step rw_ma_step 0 0) (0, 0) 154 [some (mv_R 15), some (mv_I c), some (mv_R a)] [mv_I 2] h n) :
    Go φ l m_ma_step (go_rm rd_ma_step rw_ma_step 0 0) (0, 0) 120 [some (mv_R 15), some (mv_I c), some (mv_R a)] [] h n := by
  refine go_aload_n (q := 121) d_ma_step_120 rfl rfl rfl ?_
  refine cp_fr_isZero (a := a) (q := 124) l_ma_92 d_ma_step_121 rfl hV (Or.inr (Or.inr ⟨Nat.le_trans (by decide) ha.1, ha.2⟩)) (Nat.le_of_ble_eq_true rfl) ⟨by decide, by decide, by decide, by decide⟩ ?_
  rw [(show V (a + 1) = V (a + 1) from rfl)]
  refine go_if_eq (t := 131) (q := 127) d_ma_step_124 (by decide) rfl it_rng (fun c1 => ?_) (fun c1 => ?_)
  · have c2 : ¬ V (a + 1) = 0 := it_eqp c1
    refine go_aload_n (q := 132) d_ma_step_131 rfl rfl rfl ?_
    refine go_getf (v := mv_R 16) (q := 135) f_ma_12 d_ma_step_132 rfl (pn_c15 hV) rfl ?_
    refine go_aload_n (q := 136) d_ma_step_135 rfl rfl rfl ?_
    refine go_getf (v := mv_R 40) (q := 139) f_ma_28 d_ma_step_136 rfl (pn_c15 hV) rfl ?_
    refine go_aload_n (q := 140) d_ma_step_139 rfl rfl rfl ?_
    refine go_getf (q := 143) f_ma_127 d_ma_step_140 rfl (pn_cf hV (a := a) (Or.inr (Or.inr ⟨Nat.le_trans (by decide) ha.1, ha.2⟩))) rfl ?_
    refine go_aload_n (q := 144) d_ma_step_143 rfl rfl rfl ?_
    refine go_getf (q := 147) f_ma_106 d_ma_step_144 rfl (pn_cf hV (a := a) (Or.inr (Or.inr ⟨Nat.le_trans (by decide) ha.1, ha.2⟩))) rfl ?_
    refine go_aload_n (q := 148) d_ma_step_147 rfl rfl rfl ?_
    refine go_getf (q := 151) f_ma_113 d_ma_step_148 rfl (pn_cf hV (a := a) (Or.inr (Or.inr ⟨Nat.le_trans (by decide) ha.1, ha.2⟩))) rfl ?_
    rw [(show B a = B a from rfl)]
    have q_3 := hV.2.1 a
    rw [(show B a = B a from rfl)] at q_3
    exact k0 c2
  · have c4 : V (a + 1) = 0 := it_eqn c1
    refine go_iconst (q := 128) d_ma_step_127 rfl ?_
    refine go_goto (q := 154) d_ma_step_128 (by decide) ?_
    exact k1 c4

set_option maxRecDepth 4000 in
theorem sn_step_155 {φ : go_F} {l : Launch} {h : mv_H} {n : Nat} {I tx wr ga gb mo mf mg : Nat → Int} {B : Nat → Int} {V : Nat → Nat} {a : Nat} {c : Int} (hV : pn_V h (I, tx, wr, ga, gb, mo, mf, mg) B V) (ha : 90 ≤ a ∧ a < 390 ∧ a % 5 = 0)
    (k0 : Go φ l m_ma_step (go_rm rd_ma_step rw_ma_step 0 0) (0, 0) 165 [some (mv_R 15), some (mv_I c), some (mv_R a)] [mv_I 0, mv_R a, mv_R 40, mv_R 16] h n) :
    Go φ l m_ma_step (go_rm rd_ma_step rw_ma_step 0 0) (0, 0) 155 [some (mv_R 15), some (mv_I c), some (mv_R a)] [] h n := by
  refine go_aload_n (q := 156) d_ma_step_155 rfl rfl rfl ?_
  refine go_getf (v := mv_R 16) (q := 159) f_ma_12 d_ma_step_156 rfl (pn_c15 hV) rfl ?_
  refine go_aload_n (q := 160) d_ma_step_159 rfl rfl rfl ?_
  refine go_getf (v := mv_R 40) (q := 163) f_ma_28 d_ma_step_160 rfl (pn_c15 hV) rfl ?_
  refine go_aload_n (q := 164) d_ma_step_163 rfl rfl rfl ?_
  refine go_iconst (q := 165) d_ma_step_164 rfl ?_
  exact k0 

set_option maxRecDepth 4000 in
theorem sn_step_169 {φ : go_F} {l : Launch} {h : mv_H} {n : Nat} {I tx wr ga gb mo mf mg : Nat → Int} {B : Nat → Int} {V : Nat → Nat} {a : Nat} {c : Int} (hV : pn_V h (I, tx, wr, ga, gb, mo, mf, mg) B V) (ha : 90 ≤ a ∧ a < 390 ∧ a % 5 = 0)
    (k0 : Go φ l m_ma_step (go_rm rd_ma_step rw_ma_step 0 0) (0, 0) 179 [some (mv_R 15), some (mv_I c), some (mv_R a)] [mv_I 1, mv_R a, mv_R 40, mv_R 16] h n) :
    Go φ l m_ma_step (go_rm rd_ma_step rw_ma_step 0 0) (0, 0) 169 [some (mv_R 15), some (mv_I c), some (mv_R a)] [] h n := by
  refine go_aload_n (q := 170) d_ma_step_169 rfl rfl rfl ?_
  refine go_getf (v := mv_R 16) (q := 173) f_ma_12 d_ma_step_170 rfl (pn_c15 hV) rfl ?_
  refine go_aload_n (q := 174) d_ma_step_173 rfl rfl rfl ?_
  refine go_getf (v := mv_R 40) (q := 177) f_ma_28 d_ma_step_174 rfl (pn_c15 hV) rfl ?_
  refine go_aload_n (q := 178) d_ma_step_177 rfl rfl rfl ?_
  refine go_iconst (q := 179) d_ma_step_178 rfl ?_
  exact k0 

set_option maxRecDepth 4000 in
theorem sn_step_183 {φ : go_F} {l : Launch} {h : mv_H} {n : Nat} {I tx wr ga gb mo mf mg : Nat → Int} {B : Nat → Int} {V : Nat → Nat} {a : Nat} {c : Int} (hV : pn_V h (I, tx, wr, ga, gb, mo, mf, mg) B V) (ha : 90 ≤ a ∧ a < 390 ∧ a % 5 = 0)
    (k0 : Go φ l m_ma_step (go_rm rd_ma_step rw_ma_step 0 0) (0, 0) 192 [some (mv_R 15), some (mv_I c), some (mv_R a)] [mv_R a, mv_R 40, mv_R 16] h n) :
    Go φ l m_ma_step (go_rm rd_ma_step rw_ma_step 0 0) (0, 0) 183 [some (mv_R 15), some (mv_I c), some (mv_R a)] [] h n := by
  refine go_aload_n (q := 184) d_ma_step_183 rfl rfl rfl ?_
  refine go_getf (v := mv_R 16) (q := 187) f_ma_12 d_ma_step_184 rfl (pn_c15 hV) rfl ?_
  refine go_aload_n (q := 188) d_ma_step_187 rfl rfl rfl ?_
  refine go_getf (v := mv_R 40) (q := 191) f_ma_28 d_ma_step_188 rfl (pn_c15 hV) rfl ?_
  refine go_aload_n (q := 192) d_ma_step_191 rfl rfl rfl ?_
  exact k0 

set_option maxRecDepth 4000 in
theorem sn_step_196 {φ : go_F} {l : Launch} {h : mv_H} {n : Nat} {I tx wr ga gb mo mf mg : Nat → Int} {B : Nat → Int} {V : Nat → Nat} {a : Nat} {c : Int} (hV : pn_V h (I, tx, wr, ga, gb, mo, mf, mg) B V) (ha : 90 ≤ a ∧ a < 390 ∧ a % 5 = 0)
    (k0 : Go φ l m_ma_step (go_rm rd_ma_step rw_ma_step 0 0) (0, 0) 199 [some (mv_R 15), some (mv_I c), some (mv_R a)] [mv_R a, mv_I c, mv_R 15] h n) :
    Go φ l m_ma_step (go_rm rd_ma_step rw_ma_step 0 0) (0, 0) 196 [some (mv_R 15), some (mv_I c), some (mv_R a)] [] h n := by
  refine go_aload_n (q := 197) d_ma_step_196 rfl rfl rfl ?_
  refine go_iload_n (q := 198) d_ma_step_197 rfl rfl rfl ?_
  refine go_aload_n (q := 199) d_ma_step_198 rfl rfl rfl ?_
  exact k0 

set_option maxRecDepth 4000 in
theorem sn_open {φ : go_F} {l : Launch} {h : mv_H} {n : Nat} {I tx wr ga gb mo mf mg : Nat → Int} {B : Nat → Int} {V : Nat → Nat} {c : Int} {k : Nat} (hV : pn_V h (I, tx, wr, ga, gb, mo, mf, mg) B V) (hc : 0 ≤ c ∧ c ≤ 127) (hO : I 4 = (k : Int) ∧ k < 12)
    (k0 : ∀ h' : mv_H, pn_V h' (va_up I 4 ((I 4) + 1), tx, wr, ga, gb, va_up mo k c, va_up mf k (I 5), va_up mg k 0) B V → fr_ 1 389 h h' → Go φ l m_ma_openBracket (go_rm rd_ma_openBracket rw_ma_openBracket 0 0) (0, 0) 43 [some (mv_R 15), some (mv_I c)] [] h' n) :
    Go φ l m_ma_openBracket (go_rm rd_ma_openBracket rw_ma_openBracket 0 0) (0, 0) 0 [some (mv_R 15), some (mv_I c)] [] h n := by
  refine go_aload_n (q := 1) d_ma_openBracket_0 rfl rfl rfl ?_
  refine go_getf (v := mv_R 47) (q := 4) f_ma_41 d_ma_openBracket_1 rfl (pn_c15 hV) rfl ?_
  refine go_aload_n (q := 5) d_ma_openBracket_4 rfl rfl rfl ?_
  refine go_getf (v := mv_I (I 4)) (q := 8) f_ma_52 d_ma_openBracket_5 rfl (pn_c15 hV) rfl ?_
  refine go_iload_n (q := 9) d_ma_openBracket_8 rfl rfl rfl ?_
  refine go_cast (i := k) (q := 10) d_ma_openBracket_9 rfl (pn_c47 hV) (by omega) (by omega) (by omega) (by omega) ?_
  have hV_2 := pn_u47 hV (va_up mo k c)
  have fr_3 : fr_ 1 389 h (va_up h 47 (mv_A 2 12 (va_up mo k c))) := fun z_ hz => va_up_ne _ _ (by omega)
  generalize va_up h 47 (mv_A 2 12 (va_up mo k c)) = h_1 at hV_2 fr_3 ⊢
  refine go_aload_n (q := 11) d_ma_openBracket_10 rfl rfl rfl ?_
  refine go_getf (v := mv_R 48) (q := 14) f_ma_45 d_ma_openBracket_11 rfl (pn_c15 hV_2) rfl ?_
  refine go_aload_n (q := 15) d_ma_openBracket_14 rfl rfl rfl ?_
  refine go_getf (v := mv_I (I 4)) (q := 18) f_ma_52 d_ma_openBracket_15 rfl (pn_c15 hV_2) rfl ?_
  refine go_aload_n (q := 19) d_ma_openBracket_18 rfl rfl rfl ?_
  refine go_getf (v := mv_I (I 5)) (q := 22) f_ma_56 d_ma_openBracket_19 rfl (pn_c15 hV_2) rfl ?_
  refine go_iast (i := k) (q := 23) d_ma_openBracket_22 rfl (pn_c48 hV_2) (by omega) (by omega) (by omega) ?_
  have hV_5 := pn_u48 hV_2 (va_up mf k (I 5))
  have fr_6 : fr_ 1 389 h_1 (va_up h_1 48 (mv_A 0 12 (va_up mf k (I 5)))) := fun z_ hz => va_up_ne _ _ (by omega)
  generalize va_up h_1 48 (mv_A 0 12 (va_up mf k (I 5))) = h_4 at hV_5 fr_6 ⊢
  refine go_aload_n (q := 24) d_ma_openBracket_23 rfl rfl rfl ?_
  refine go_getf (v := mv_R 49) (q := 27) f_ma_49 d_ma_openBracket_24 rfl (pn_c15 hV_5) rfl ?_
  refine go_aload_n (q := 28) d_ma_openBracket_27 rfl rfl rfl ?_
  refine go_getf (v := mv_I (I 4)) (q := 31) f_ma_52 d_ma_openBracket_28 rfl (pn_c15 hV_5) rfl ?_
  refine go_iconst (q := 32) d_ma_openBracket_31 rfl ?_
  refine go_iast (i := k) (q := 33) d_ma_openBracket_32 rfl (pn_c49 hV_5) (by omega) (by omega) (by omega) ?_
  have hV_8 := pn_u49 hV_5 (va_up mg k 0)
  have fr_9 : fr_ 1 389 h_4 (va_up h_4 49 (mv_A 0 12 (va_up mg k 0))) := fun z_ hz => va_up_ne _ _ (by omega)
  generalize va_up h_4 49 (mv_A 0 12 (va_up mg k 0)) = h_7 at hV_8 fr_9 ⊢
  refine go_aload_n (q := 34) d_ma_openBracket_33 rfl rfl rfl ?_
  refine go_dup (q := 35) d_ma_openBracket_34 rfl rfl ?_
  refine go_getf (v := mv_I (I 4)) (q := 38) f_ma_52 d_ma_openBracket_35 rfl (pn_c15 hV_8) rfl ?_
  refine go_iconst (q := 39) d_ma_openBracket_38 rfl ?_
  refine go_iadd (q := 40) d_ma_openBracket_39 rfl ?_
  refine go_putf (q := 43) (v := mv_I ((I 4) + 1)) f_ma_52 d_ma_openBracket_40 rfl (pn_c15 hV_8) (Nat.le_of_ble_eq_true rfl) (go_fitI _) ?_
  refine go_eq (h' := va_up h_7 15 (mv_O 4 [mv_R 16, mv_R 38, mv_R 39, mv_R 40, mv_R 45, mv_R 47, mv_R 48, mv_R 49, mv_I ((va_up I 4 ((I 4) + 1)) 4), mv_I ((va_up I 4 ((I 4) + 1)) 5)])) ?_
  have hV_11 := pn_u15 hV_8 (va_up I 4 ((I 4) + 1)) (fun i_ h_4 h_5 => va_up_ne _ _ h_4)
  have fr_12 : fr_ 1 389 h_7 (va_up h_7 15 (mv_O 4 [mv_R 16, mv_R 38, mv_R 39, mv_R 40, mv_R 45, mv_R 47, mv_R 48, mv_R 49, mv_I ((va_up I 4 ((I 4) + 1)) 4), mv_I ((va_up I 4 ((I 4) + 1)) 5)])) := fun z_ hz => va_up_ne _ _ (by omega)
  generalize va_up h_7 15 (mv_O 4 [mv_R 16, mv_R 38, mv_R 39, mv_R 40, mv_R 45, mv_R 47, mv_R 48, mv_R 49, mv_I ((va_up I 4 ((I 4) + 1)) 4), mv_I ((va_up I 4 ((I 4) + 1)) 5)]) = h_10 at hV_11 fr_12 ⊢
  exact k0  _ hV_11 (fr_.tr (fr_.tr (fr_.tr fr_3 fr_6) fr_9) fr_12)

set_option maxRecDepth 4000 in
theorem sn_close {φ : go_F} {l : Launch} {h : mv_H} {n : Nat} {I tx wr ga gb mo mf mg : Nat → Int} {B : Nat → Int} {V : Nat → Nat} {k b : Nat} (hV : pn_V h (I, tx, wr, ga, gb, mo, mf, mg) B V) (hO : I 4 = (k : Int) + 1 ∧ k < 12) (hb : mf k = (b : Int) ∧ b < 60)
    (k0 : ∀ h' : mv_H, pn_V h' (va_up (va_up I 4 ((I 4) - 1)) 5 ((mf k) + 1), tx, wr, ga, gb, mo, mf, mg) (va_up B (90 + 5 * b) (B 40)) (va_up (va_up V ((90 + 5 * b) + 1) (V 41)) ((90 + 5 * b) + 3) (V 43)) → fr_ 1 389 h h' → Go φ l m_ma_closeBracket (go_rm rd_ma_closeBracket rw_ma_closeBracket 0 0) (0, 0) 46 [some (mv_R 15)] [] h' n) :
    Go φ l m_ma_closeBracket (go_rm rd_ma_closeBracket rw_ma_closeBracket 0 0) (0, 0) 0 [some (mv_R 15)] [] h n := by
  refine go_aload_n (q := 1) d_ma_closeBracket_0 rfl rfl rfl ?_
  refine go_dup (q := 2) d_ma_closeBracket_1 rfl rfl ?_
  refine go_getf (v := mv_I (I 4)) (q := 5) f_ma_52 d_ma_closeBracket_2 rfl (pn_c15 hV) rfl ?_
  refine go_iconst (q := 6) d_ma_closeBracket_5 rfl ?_
  refine go_isub (q := 7) d_ma_closeBracket_6 rfl ?_
  refine go_putf (q := 10) (v := mv_I ((I 4) - 1)) f_ma_52 d_ma_closeBracket_7 rfl (pn_c15 hV) (Nat.le_of_ble_eq_true rfl) (go_fitI _) ?_
  refine go_eq (h' := va_up h 15 (mv_O 4 [mv_R 16, mv_R 38, mv_R 39, mv_R 40, mv_R 45, mv_R 47, mv_R 48, mv_R 49, mv_I ((va_up I 4 ((I 4) - 1)) 4), mv_I ((va_up I 4 ((I 4) - 1)) 5)])) ?_
  have hV_2 := pn_u15 hV (va_up I 4 ((I 4) - 1)) (fun i_ h_4 h_5 => va_up_ne _ _ h_4)
  have fr_3 : fr_ 1 389 h (va_up h 15 (mv_O 4 [mv_R 16, mv_R 38, mv_R 39, mv_R 40, mv_R 45, mv_R 47, mv_R 48, mv_R 49, mv_I ((va_up I 4 ((I 4) - 1)) 4), mv_I ((va_up I 4 ((I 4) - 1)) 5)])) := fun z_ hz => va_up_ne _ _ (by omega)
  generalize va_up h 15 (mv_O 4 [mv_R 16, mv_R 38, mv_R 39, mv_R 40, mv_R 45, mv_R 47, mv_R 48, mv_R 49, mv_I ((va_up I 4 ((I 4) - 1)) 4), mv_I ((va_up I 4 ((I 4) - 1)) 5)]) = h_1 at hV_2 fr_3 ⊢
  refine go_aload_n (q := 11) d_ma_closeBracket_10 rfl rfl rfl ?_
  refine go_getf (v := mv_R 39) (q := 14) f_ma_24 d_ma_closeBracket_11 rfl (pn_c15 hV_2) rfl ?_
  refine go_aload_n (q := 15) d_ma_closeBracket_14 rfl rfl rfl ?_
  refine go_getf (v := mv_R 48) (q := 18) f_ma_45 d_ma_closeBracket_15 rfl (pn_c15 hV_2) rfl ?_
  refine go_aload_n (q := 19) d_ma_closeBracket_18 rfl rfl rfl ?_
  refine go_getf (v := mv_I ((I 4) - 1)) (q := 22) f_ma_52 d_ma_closeBracket_19 rfl (pn_c15 hV_2) rfl ?_
  refine go_iald (i := k) (q := 23) d_ma_closeBracket_22 rfl (pn_c48 hV_2) (by omega) (by omega) (by omega) ?_
  obtain ⟨f_4, e_5, e_6⟩ := pn_q39 hV_2
  refine go_aald (i := b) (j := 90 + 5 * b) (q := 24) d_ma_closeBracket_23 rfl e_5 (by omega) (by omega) (by omega) (e_6 _ (by omega)) ?_
  refine go_aload_n (q := 25) d_ma_closeBracket_24 rfl rfl rfl ?_
  refine go_getf (v := mv_R 40) (q := 28) f_ma_28 d_ma_closeBracket_25 rfl (pn_c15 hV_2) rfl ?_
  refine cp_fr_copy (a := 90 + 5 * b) (c := 40) (q := 31) l_ma_85 d_ma_closeBracket_28 rfl hV_2 (fa_s (by omega)) fa_t (by omega) (Nat.le_of_ble_eq_true rfl) ⟨by decide, by decide, by decide, by decide⟩ (fun h_7 hV_8 fr_9 => ?_)
  have hV_10 : pn_V h_7 (va_up I 4 ((I 4) - 1), tx, wr, ga, gb, mo, mf, mg) (va_up B (90 + 5 * b) (B 40)) (va_up (va_up V ((90 + 5 * b) + 1) (V 41)) ((90 + 5 * b) + 3) (V 43)) := by
    try rw [(show V 41 = V 41 from rfl)] at hV_8
    try rw [(show V 43 = V 43 from rfl)] at hV_8
    try rw [(show B 40 = B 40 from rfl)] at hV_8
    exact hV_8
  refine go_aload_n (q := 32) d_ma_closeBracket_31 rfl rfl rfl ?_
  refine go_aload_n (q := 33) d_ma_closeBracket_32 rfl rfl rfl ?_
  refine go_getf (v := mv_R 48) (q := 36) f_ma_45 d_ma_closeBracket_33 rfl (pn_c15 hV_10) rfl ?_
  refine go_aload_n (q := 37) d_ma_closeBracket_36 rfl rfl rfl ?_
  refine go_getf (v := mv_I ((I 4) - 1)) (q := 40) f_ma_52 d_ma_closeBracket_37 rfl (pn_c15 hV_10) rfl ?_
  refine go_iald (i := k) (q := 41) d_ma_closeBracket_40 rfl (pn_c48 hV_10) (by omega) (by omega) (by omega) ?_
  refine go_iconst (q := 42) d_ma_closeBracket_41 rfl ?_
  refine go_iadd (q := 43) d_ma_closeBracket_42 rfl ?_
  refine go_putf (q := 46) (v := mv_I ((mf k) + 1)) f_ma_56 d_ma_closeBracket_43 rfl (pn_c15 hV_10) (Nat.le_of_ble_eq_true rfl) (go_fitI _) ?_
  refine go_eq (h' := va_up h_7 15 (mv_O 4 [mv_R 16, mv_R 38, mv_R 39, mv_R 40, mv_R 45, mv_R 47, mv_R 48, mv_R 49, mv_I ((va_up (va_up I 4 ((I 4) - 1)) 5 ((mf k) + 1)) 4), mv_I ((va_up (va_up I 4 ((I 4) - 1)) 5 ((mf k) + 1)) 5)])) ?_
  have hV_12 := pn_u15 hV_10 (va_up (va_up I 4 ((I 4) - 1)) 5 ((mf k) + 1)) (fun i_ h_4 h_5 => va_up_ne _ _ h_5)
  have fr_13 : fr_ 1 389 h_7 (va_up h_7 15 (mv_O 4 [mv_R 16, mv_R 38, mv_R 39, mv_R 40, mv_R 45, mv_R 47, mv_R 48, mv_R 49, mv_I ((va_up (va_up I 4 ((I 4) - 1)) 5 ((mf k) + 1)) 4), mv_I ((va_up (va_up I 4 ((I 4) - 1)) 5 ((mf k) + 1)) 5)])) := fun z_ hz => va_up_ne _ _ (by omega)
  generalize va_up h_7 15 (mv_O 4 [mv_R 16, mv_R 38, mv_R 39, mv_R 40, mv_R 45, mv_R 47, mv_R 48, mv_R 49, mv_I ((va_up (va_up I 4 ((I 4) - 1)) 5 ((mf k) + 1)) 4), mv_I ((va_up (va_up I 4 ((I 4) - 1)) 5 ((mf k) + 1)) 5)]) = h_11 at hV_12 fr_13 ⊢
  exact k0  _ hV_12 (fr_.tr (fr_.tr fr_3 fr_9) fr_13)

set_option maxRecDepth 4000 in
theorem sn_skips_0 {φ : go_F} {l : Launch} {h : mv_H} {n : Nat} {I tx wr ga gb mo mf mg : Nat → Int} {B : Nat → Int} {V : Nat → Nat} {k b : Nat} (hV : pn_V h (I, tx, wr, ga, gb, mo, mf, mg) B V) (hO : I 4 = (k : Int) + 1 ∧ k < 12) (hb : mf k = (b : Int) ∧ b < 60) (hg : 0 ≤ mg k ∧ mg k ≤ 200) (hm : 0 ≤ mo k ∧ mo k ≤ 127)
    (k0 : ¬ mo k = 63 → ∀ h' : mv_H, pn_V h' (I, tx, wr, ga, gb, mo, mf, va_up mg k ((mg k) + 1)) B V → fr_ 1 389 h h' → Go φ l m_ma_skipsArgument (go_rm rd_ma_skipsArgument rw_ma_skipsArgument 0 0) (0, 0) 48 [some (mv_R 15), some (mv_I (mg k)), none] [mv_I 0] h' n)
    (k1 : mo k = 63 → ¬ mg k = 0 → ∀ h' : mv_H, pn_V h' (I, tx, wr, ga, gb, mo, mf, va_up mg k ((mg k) + 1)) B V → fr_ 1 389 h h' → Go φ l m_ma_skipsArgument (go_rm rd_ma_skipsArgument rw_ma_skipsArgument 0 0) (0, 0) 65 [some (mv_R 15), some (mv_I (mg k)), none] [mv_R (90 + 5 * b)] h' n)
    (k2 : mo k = 63 → mg k = 0 → ∀ h' : mv_H, pn_V h' (I, tx, wr, ga, gb, mo, mf, va_up mg k ((mg k) + 1)) B V → fr_ 1 389 h h' → Go φ l m_ma_skipsArgument (go_rm rd_ma_skipsArgument rw_ma_skipsArgument 0 0) (0, 0) 48 [some (mv_R 15), some (mv_I (mg k)), none] [mv_I 0] h' n) :
    Go φ l m_ma_skipsArgument (go_rm rd_ma_skipsArgument rw_ma_skipsArgument 0 0) (0, 0) 0 [some (mv_R 15), none, none] [] h n := by
  refine go_aload_n (q := 1) d_ma_skipsArgument_0 rfl rfl rfl ?_
  refine go_getf (v := mv_R 49) (q := 4) f_ma_49 d_ma_skipsArgument_1 rfl (pn_c15 hV) rfl ?_
  refine go_aload_n (q := 5) d_ma_skipsArgument_4 rfl rfl rfl ?_
  refine go_getf (v := mv_I (I 4)) (q := 8) f_ma_52 d_ma_skipsArgument_5 rfl (pn_c15 hV) rfl ?_
  refine go_iconst (q := 9) d_ma_skipsArgument_8 rfl ?_
  refine go_isub (q := 10) d_ma_skipsArgument_9 rfl ?_
  refine go_iald (i := k) (q := 11) d_ma_skipsArgument_10 rfl (pn_c49 hV) (by omega) (by omega) (by omega) ?_
  refine go_istore_n (q := 12) (L' := [some (mv_R 15), some (mv_I (mg k)), none]) d_ma_skipsArgument_11 rfl rfl (by decide) rfl ?_
  refine go_aload_n (q := 13) d_ma_skipsArgument_12 rfl rfl rfl ?_
  refine go_getf (v := mv_R 49) (q := 16) f_ma_49 d_ma_skipsArgument_13 rfl (pn_c15 hV) rfl ?_
  refine go_aload_n (q := 17) d_ma_skipsArgument_16 rfl rfl rfl ?_
  refine go_getf (v := mv_I (I 4)) (q := 20) f_ma_52 d_ma_skipsArgument_17 rfl (pn_c15 hV) rfl ?_
  refine go_iconst (q := 21) d_ma_skipsArgument_20 rfl ?_
  refine go_isub (q := 22) d_ma_skipsArgument_21 rfl ?_
  refine go_dup2 (q := 23) d_ma_skipsArgument_22 rfl rfl rfl ?_
  refine go_iald (i := k) (q := 24) d_ma_skipsArgument_23 rfl (pn_c49 hV) (by omega) (by omega) (by omega) ?_
  refine go_iconst (q := 25) d_ma_skipsArgument_24 rfl ?_
  refine go_iadd (q := 26) d_ma_skipsArgument_25 rfl ?_
  refine go_iast (i := k) (q := 27) d_ma_skipsArgument_26 rfl (pn_c49 hV) (by omega) (by omega) (by omega) ?_
  have hV_2 := pn_u49 hV (va_up mg k ((mg k) + 1))
  have fr_3 : fr_ 1 389 h (va_up h 49 (mv_A 0 12 (va_up mg k ((mg k) + 1)))) := fun z_ hz => va_up_ne _ _ (by omega)
  generalize va_up h 49 (mv_A 0 12 (va_up mg k ((mg k) + 1))) = h_1 at hV_2 fr_3 ⊢
  refine go_aload_n (q := 28) d_ma_skipsArgument_27 rfl rfl rfl ?_
  refine go_getf (v := mv_R 47) (q := 31) f_ma_41 d_ma_skipsArgument_28 rfl (pn_c15 hV_2) rfl ?_
  refine go_aload_n (q := 32) d_ma_skipsArgument_31 rfl rfl rfl ?_
  refine go_getf (v := mv_I (I 4)) (q := 35) f_ma_52 d_ma_skipsArgument_32 rfl (pn_c15 hV_2) rfl ?_
  refine go_iconst (q := 36) d_ma_skipsArgument_35 rfl ?_
  refine go_isub (q := 37) d_ma_skipsArgument_36 rfl ?_
  refine go_cald (i := k) (q := 38) d_ma_skipsArgument_37 rfl (pn_c47 hV_2) (by omega) (by omega) (by omega) ?_
  refine go_bipush (q := 40) d_ma_skipsArgument_38 rfl (by decide) ?_
  refine go_icmp_ne (t := 47) (q := 43) d_ma_skipsArgument_40 (by decide) rfl (by omega) (by omega) (fun c4 => ?_) (fun c4 => ?_)
  ·
    refine go_iconst (q := 48) d_ma_skipsArgument_47 rfl ?_
    exact k0 c4 _ hV_2 fr_3
  ·
    refine go_iload_n (q := 44) d_ma_skipsArgument_43 rfl rfl rfl ?_
    refine go_if_ne (t := 49) (q := 47) d_ma_skipsArgument_44 (by decide) rfl (by omega) (fun c5 => ?_) (fun c5 => ?_)
    ·
      refine go_aload_n (q := 50) d_ma_skipsArgument_49 rfl rfl rfl ?_
      refine go_getf (v := mv_R 39) (q := 53) f_ma_24 d_ma_skipsArgument_50 rfl (pn_c15 hV_2) rfl ?_
      refine go_aload_n (q := 54) d_ma_skipsArgument_53 rfl rfl rfl ?_
      refine go_getf (v := mv_R 48) (q := 57) f_ma_45 d_ma_skipsArgument_54 rfl (pn_c15 hV_2) rfl ?_
      refine go_aload_n (q := 58) d_ma_skipsArgument_57 rfl rfl rfl ?_
      refine go_getf (v := mv_I (I 4)) (q := 61) f_ma_52 d_ma_skipsArgument_58 rfl (pn_c15 hV_2) rfl ?_
      refine go_iconst (q := 62) d_ma_skipsArgument_61 rfl ?_
      refine go_isub (q := 63) d_ma_skipsArgument_62 rfl ?_
      refine go_iald (i := k) (q := 64) d_ma_skipsArgument_63 rfl (pn_c48 hV_2) (by omega) (by omega) (by omega) ?_
      obtain ⟨f_6, e_7, e_8⟩ := pn_q39 hV_2
      refine go_aald (i := b) (j := 90 + 5 * b) (q := 65) d_ma_skipsArgument_64 rfl e_7 (by omega) (by omega) (by omega) (e_8 _ (by omega)) ?_
      exact k1 c4 c5 _ hV_2 fr_3
    ·
      refine go_iconst (q := 48) d_ma_skipsArgument_47 rfl ?_
      exact k2 c4 c5 _ hV_2 fr_3

set_option maxRecDepth 4000 in
theorem sn_skips_68 {φ : go_F} {l : Launch} {h : mv_H} {n : Nat} {I tx wr ga gb mo mf mg : Nat → Int} {B : Nat → Int} {V : Nat → Nat} {g z : Int} (hV : pn_V h (I, tx, wr, ga, gb, mo, mf, mg) B V) (hz : 0 ≤ z ∧ z ≤ 1) (hg : 0 ≤ g ∧ g ≤ 200)
    (k0 : ¬ g = 1 → ¬ z = 0 → Go φ l m_ma_skipsArgument (go_rm rd_ma_skipsArgument rw_ma_skipsArgument 0 0) (0, 0) 88 [some (mv_R 15), some (mv_I g), some (mv_I z)] [mv_I 0] h n)
    (k1 : ¬ g = 1 → z = 0 → Go φ l m_ma_skipsArgument (go_rm rd_ma_skipsArgument rw_ma_skipsArgument 0 0) (0, 0) 88 [some (mv_R 15), some (mv_I g), some (mv_I z)] [mv_I 1] h n)
    (k2 : g = 1 → ¬ z = 1 → Go φ l m_ma_skipsArgument (go_rm rd_ma_skipsArgument rw_ma_skipsArgument 0 0) (0, 0) 88 [some (mv_R 15), some (mv_I g), some (mv_I z)] [mv_I 0] h n)
    (k3 : g = 1 → z = 1 → Go φ l m_ma_skipsArgument (go_rm rd_ma_skipsArgument rw_ma_skipsArgument 0 0) (0, 0) 88 [some (mv_R 15), some (mv_I g), some (mv_I z)] [mv_I 1] h n) :
    Go φ l m_ma_skipsArgument (go_rm rd_ma_skipsArgument rw_ma_skipsArgument 0 0) (0, 0) 68 [some (mv_R 15), some (mv_I g), none] [mv_I z] h n := by
  refine go_istore_n (q := 69) (L' := [some (mv_R 15), some (mv_I g), some (mv_I z)]) d_ma_skipsArgument_68 rfl rfl (by decide) rfl ?_
  refine go_iload_n (q := 70) d_ma_skipsArgument_69 rfl rfl rfl ?_
  refine go_iload_n (q := 71) d_ma_skipsArgument_70 rfl rfl rfl ?_
  refine go_iconst (q := 72) d_ma_skipsArgument_71 rfl ?_
  refine go_icmp_ne (t := 79) (q := 75) d_ma_skipsArgument_72 (by decide) rfl (by omega) (by omega) (fun c1 => ?_) (fun c1 => ?_)
  ·
    refine go_iconst (q := 80) d_ma_skipsArgument_79 rfl ?_
    refine go_icmp_ne (t := 87) (q := 83) d_ma_skipsArgument_80 (by decide) rfl (by omega) (by omega) (fun c2 => ?_) (fun c2 => ?_)
    ·
      refine go_iconst (q := 88) d_ma_skipsArgument_87 rfl ?_
      exact k0 c1 c2
    ·
      refine go_iconst (q := 84) d_ma_skipsArgument_83 rfl ?_
      refine go_goto (q := 88) d_ma_skipsArgument_84 (by decide) ?_
      exact k1 c1 c2
  ·
    refine go_iconst (q := 76) d_ma_skipsArgument_75 rfl ?_
    refine go_goto (q := 80) d_ma_skipsArgument_76 (by decide) ?_
    refine go_icmp_ne (t := 87) (q := 83) d_ma_skipsArgument_80 (by decide) rfl (by omega) (by omega) (fun c3 => ?_) (fun c3 => ?_)
    ·
      refine go_iconst (q := 88) d_ma_skipsArgument_87 rfl ?_
      exact k2 c1 c3
    ·
      refine go_iconst (q := 84) d_ma_skipsArgument_83 rfl ?_
      refine go_goto (q := 88) d_ma_skipsArgument_84 (by decide) ?_
      exact k3 c1 c3

set_option maxRecDepth 4000 in
theorem sn_eoa_0 {φ : go_F} {l : Launch} {h : mv_H} {n : Nat} {I tx wr ga gb mo mf mg : Nat → Int} {B : Nat → Int} {V : Nat → Nat} {p len : Nat} (hV : pn_V h (I, tx, wr, ga, gb, mo, mf, mg) B V) 
    (k0 : Go φ l m_ma_endOfArgument (go_rm rd_ma_endOfArgument rw_ma_endOfArgument 0 0) (0, 0) 6 [some (mv_R 15), some (mv_R 2), some (mv_I (p : Int)), some (mv_I (len : Int)), some (mv_I 0), some (mv_I (p : Int)), none] [] h n) :
    Go φ l m_ma_endOfArgument (go_rm rd_ma_endOfArgument rw_ma_endOfArgument 0 0) (0, 0) 0 [some (mv_R 15), some (mv_R 2), some (mv_I (p : Int)), some (mv_I (len : Int)), none, none, none] [] h n := by
  refine go_iconst (q := 1) d_ma_endOfArgument_0 rfl ?_
  refine go_istore (q := 3) (L' := [some (mv_R 15), some (mv_R 2), some (mv_I (p : Int)), some (mv_I (len : Int)), some (mv_I 0), none, none]) d_ma_endOfArgument_1 rfl (by decide) rfl ?_
  refine go_iload_n (q := 4) d_ma_endOfArgument_3 rfl rfl rfl ?_
  refine go_istore (q := 6) (L' := [some (mv_R 15), some (mv_R 2), some (mv_I (p : Int)), some (mv_I (len : Int)), some (mv_I 0), some (mv_I (p : Int)), none]) d_ma_endOfArgument_4 rfl (by decide) rfl ?_
  exact k0 

set_option maxRecDepth 4000 in
theorem sn_eoa_6 {φ : go_F} {l : Launch} {h : mv_H} {n : Nat} {I tx wr ga gb mo mf mg : Nat → Int} {B : Nat → Int} {V : Nat → Nat} {p len d a : Nat} (hV : pn_V h (I, tx, wr, ga, gb, mo, mf, mg) B V) (ht : ∀ i : Nat, 0 ≤ tx i ∧ tx i ≤ 127) (hl : len ≤ 120) (ha : a ≤ len) (hd : d ≤ 120)
    (k0 : (len : Int) ≤ (a : Int) → Go φ l m_ma_endOfArgument (go_rm rd_ma_endOfArgument rw_ma_endOfArgument 0 0) (0, 0) 70 [some (mv_R 15), some (mv_R 2), some (mv_I (p : Int)), some (mv_I (len : Int)), some (mv_I (d : Int)), some (mv_I (a : Int)), none] [mv_I (len : Int)] h n)
    (k1 : ¬ (len : Int) ≤ (a : Int) → ¬ (d : Int) = 0 → ¬ tx a = 40 → ¬ tx a = 41 → Go φ l m_ma_endOfArgument (go_rm rd_ma_endOfArgument rw_ma_endOfArgument 0 0) (0, 0) 6 [some (mv_R 15), some (mv_R 2), some (mv_I (p : Int)), some (mv_I (len : Int)), some (mv_I (d : Int)), some (mv_I ((a : Int) + 1)), none] [] h n)
    (k2 : ¬ (len : Int) ≤ (a : Int) → ¬ (d : Int) = 0 → ¬ tx a = 40 → tx a = 41 → Go φ l m_ma_endOfArgument (go_rm rd_ma_endOfArgument rw_ma_endOfArgument 0 0) (0, 0) 6 [some (mv_R 15), some (mv_R 2), some (mv_I (p : Int)), some (mv_I (len : Int)), some (mv_I ((d : Int) + (-1))), some (mv_I ((a : Int) + 1)), none] [] h n)
    (k3 : ¬ (len : Int) ≤ (a : Int) → ¬ (d : Int) = 0 → tx a = 40 → Go φ l m_ma_endOfArgument (go_rm rd_ma_endOfArgument rw_ma_endOfArgument 0 0) (0, 0) 6 [some (mv_R 15), some (mv_R 2), some (mv_I (p : Int)), some (mv_I (len : Int)), some (mv_I ((d : Int) + 1)), some (mv_I ((a : Int) + 1)), none] [] h n)
    (k4 : ¬ (len : Int) ≤ (a : Int) → (d : Int) = 0 → tx a = 32 → Go φ l m_ma_endOfArgument (go_rm rd_ma_endOfArgument rw_ma_endOfArgument 0 0) (0, 0) 39 [some (mv_R 15), some (mv_R 2), some (mv_I (p : Int)), some (mv_I (len : Int)), some (mv_I (d : Int)), some (mv_I (a : Int)), some (mv_I (tx a))] [mv_I (a : Int)] h n)
    (k5 : ¬ (len : Int) ≤ (a : Int) → (d : Int) = 0 → ¬ tx a = 32 → ¬ tx a = 41 → ¬ tx a = 40 → Go φ l m_ma_endOfArgument (go_rm rd_ma_endOfArgument rw_ma_endOfArgument 0 0) (0, 0) 6 [some (mv_R 15), some (mv_R 2), some (mv_I (p : Int)), some (mv_I (len : Int)), some (mv_I (d : Int)), some (mv_I ((a : Int) + 1)), none] [] h n)
    (k6 : ¬ (len : Int) ≤ (a : Int) → (d : Int) = 0 → ¬ tx a = 32 → ¬ tx a = 41 → tx a = 40 → Go φ l m_ma_endOfArgument (go_rm rd_ma_endOfArgument rw_ma_endOfArgument 0 0) (0, 0) 6 [some (mv_R 15), some (mv_R 2), some (mv_I (p : Int)), some (mv_I (len : Int)), some (mv_I ((d : Int) + 1)), some (mv_I ((a : Int) + 1)), none] [] h n)
    (k7 : ¬ (len : Int) ≤ (a : Int) → (d : Int) = 0 → ¬ tx a = 32 → tx a = 41 → Go φ l m_ma_endOfArgument (go_rm rd_ma_endOfArgument rw_ma_endOfArgument 0 0) (0, 0) 39 [some (mv_R 15), some (mv_R 2), some (mv_I (p : Int)), some (mv_I (len : Int)), some (mv_I (d : Int)), some (mv_I (a : Int)), some (mv_I (tx a))] [mv_I (a : Int)] h n) :
    Go φ l m_ma_endOfArgument (go_rm rd_ma_endOfArgument rw_ma_endOfArgument 0 0) (0, 0) 6 [some (mv_R 15), some (mv_R 2), some (mv_I (p : Int)), some (mv_I (len : Int)), some (mv_I (d : Int)), some (mv_I (a : Int)), none] [] h n := by
  refine go_iload (q := 8) d_ma_endOfArgument_6 rfl rfl ?_
  refine go_iload_n (q := 9) d_ma_endOfArgument_8 rfl rfl rfl ?_
  refine go_icmp_ge (t := 69) (q := 12) d_ma_endOfArgument_9 (by decide) rfl (by omega) (by omega) (fun c1 => ?_) (fun c1 => ?_)
  ·
    refine go_iload_n (q := 70) d_ma_endOfArgument_69 rfl rfl rfl ?_
    exact k0 c1
  ·
    refine go_aload_n (q := 13) d_ma_endOfArgument_12 rfl rfl rfl ?_
    refine go_iload (q := 15) d_ma_endOfArgument_13 rfl rfl ?_
    refine go_cald (i := a) (q := 16) d_ma_endOfArgument_15 rfl (pn_c2 hV) (by omega) (by omega) (by omega) ?_
    have q_2 := ht a
    refine go_istore (q := 18) (L' := [some (mv_R 15), some (mv_R 2), some (mv_I (p : Int)), some (mv_I (len : Int)), some (mv_I (d : Int)), some (mv_I (a : Int)), some (mv_I (tx a))]) d_ma_endOfArgument_16 rfl (by decide) rfl ?_
    refine go_iload (q := 20) d_ma_endOfArgument_18 rfl rfl ?_
    refine go_if_ne (t := 40) (q := 23) d_ma_endOfArgument_20 (by decide) rfl (by omega) (fun c3 => ?_) (fun c3 => ?_)
    ·
      refine go_iload (q := 42) d_ma_endOfArgument_40 rfl rfl ?_
      refine go_bipush (q := 44) d_ma_endOfArgument_42 rfl (by decide) ?_
      refine go_icmp_ne (t := 53) (q := 47) d_ma_endOfArgument_44 (by decide) rfl (by omega) (by omega) (fun c4 => ?_) (fun c4 => ?_)
      ·
        refine go_iload (q := 55) d_ma_endOfArgument_53 rfl rfl ?_
        refine go_bipush (q := 57) d_ma_endOfArgument_55 rfl (by decide) ?_
        refine go_icmp_ne (t := 63) (q := 60) d_ma_endOfArgument_57 (by decide) rfl (by omega) (by omega) (fun c5 => ?_) (fun c5 => ?_)
        ·
          refine go_iinc (q := 66) (L' := [some (mv_R 15), some (mv_R 2), some (mv_I (p : Int)), some (mv_I (len : Int)), some (mv_I (d : Int)), some (mv_I ((a : Int) + 1)), some (mv_I (tx a))]) d_ma_endOfArgument_63 rfl (by decide) rfl rfl ?_
          refine go_goto (q := 6) d_ma_endOfArgument_66 (by decide) ?_
          refine go_fg 6 (L' := [some (mv_R 15), some (mv_R 2), some (mv_I (p : Int)), some (mv_I (len : Int)), some (mv_I (d : Int)), some (mv_I ((a : Int) + 1)), none]) rfl ?_
          exact k1 c1 c3 c4 c5
        ·
          refine go_iinc (q := 63) (L' := [some (mv_R 15), some (mv_R 2), some (mv_I (p : Int)), some (mv_I (len : Int)), some (mv_I ((d : Int) + (-1))), some (mv_I (a : Int)), some (mv_I (tx a))]) d_ma_endOfArgument_60 rfl (by decide) rfl rfl ?_
          refine go_iinc (q := 66) (L' := [some (mv_R 15), some (mv_R 2), some (mv_I (p : Int)), some (mv_I (len : Int)), some (mv_I ((d : Int) + (-1))), some (mv_I ((a : Int) + 1)), some (mv_I (tx a))]) d_ma_endOfArgument_63 rfl (by decide) rfl rfl ?_
          refine go_goto (q := 6) d_ma_endOfArgument_66 (by decide) ?_
          refine go_fg 6 (L' := [some (mv_R 15), some (mv_R 2), some (mv_I (p : Int)), some (mv_I (len : Int)), some (mv_I ((d : Int) + (-1))), some (mv_I ((a : Int) + 1)), none]) rfl ?_
          exact k2 c1 c3 c4 c5
      ·
        refine go_iinc (q := 50) (L' := [some (mv_R 15), some (mv_R 2), some (mv_I (p : Int)), some (mv_I (len : Int)), some (mv_I ((d : Int) + 1)), some (mv_I (a : Int)), some (mv_I (tx a))]) d_ma_endOfArgument_47 rfl (by decide) rfl rfl ?_
        refine go_goto (q := 63) d_ma_endOfArgument_50 (by decide) ?_
        refine go_iinc (q := 66) (L' := [some (mv_R 15), some (mv_R 2), some (mv_I (p : Int)), some (mv_I (len : Int)), some (mv_I ((d : Int) + 1)), some (mv_I ((a : Int) + 1)), some (mv_I (tx a))]) d_ma_endOfArgument_63 rfl (by decide) rfl rfl ?_
        refine go_goto (q := 6) d_ma_endOfArgument_66 (by decide) ?_
        refine go_fg 6 (L' := [some (mv_R 15), some (mv_R 2), some (mv_I (p : Int)), some (mv_I (len : Int)), some (mv_I ((d : Int) + 1)), some (mv_I ((a : Int) + 1)), none]) rfl ?_
        exact k3 c1 c3 c4
    ·
      refine go_iload (q := 25) d_ma_endOfArgument_23 rfl rfl ?_
      refine go_bipush (q := 27) d_ma_endOfArgument_25 rfl (by decide) ?_
      refine go_icmp_eq (t := 37) (q := 30) d_ma_endOfArgument_27 (by decide) rfl (by omega) (by omega) (fun c6 => ?_) (fun c6 => ?_)
      ·
        refine go_iload (q := 39) d_ma_endOfArgument_37 rfl rfl ?_
        exact k4 c1 c3 c6
      ·
        refine go_iload (q := 32) d_ma_endOfArgument_30 rfl rfl ?_
        refine go_bipush (q := 34) d_ma_endOfArgument_32 rfl (by decide) ?_
        refine go_icmp_ne (t := 40) (q := 37) d_ma_endOfArgument_34 (by decide) rfl (by omega) (by omega) (fun c7 => ?_) (fun c7 => ?_)
        ·
          refine go_iload (q := 42) d_ma_endOfArgument_40 rfl rfl ?_
          refine go_bipush (q := 44) d_ma_endOfArgument_42 rfl (by decide) ?_
          refine go_icmp_ne (t := 53) (q := 47) d_ma_endOfArgument_44 (by decide) rfl (by omega) (by omega) (fun c8 => ?_) (fun c8 => ?_)
          ·
            refine go_iload (q := 55) d_ma_endOfArgument_53 rfl rfl ?_
            refine go_bipush (q := 57) d_ma_endOfArgument_55 rfl (by decide) ?_
            refine go_icmp_ne (t := 63) (q := 60) d_ma_endOfArgument_57 (by decide) rfl (by omega) (by omega) (fun c9 => ?_) (fun c9 => ?_)
            ·
              refine go_iinc (q := 66) (L' := [some (mv_R 15), some (mv_R 2), some (mv_I (p : Int)), some (mv_I (len : Int)), some (mv_I (d : Int)), some (mv_I ((a : Int) + 1)), some (mv_I (tx a))]) d_ma_endOfArgument_63 rfl (by decide) rfl rfl ?_
              refine go_goto (q := 6) d_ma_endOfArgument_66 (by decide) ?_
              refine go_fg 6 (L' := [some (mv_R 15), some (mv_R 2), some (mv_I (p : Int)), some (mv_I (len : Int)), some (mv_I (d : Int)), some (mv_I ((a : Int) + 1)), none]) rfl ?_
              exact k5 c1 c3 c6 c7 c8
            ·
              exfalso; omega
          ·
            refine go_iinc (q := 50) (L' := [some (mv_R 15), some (mv_R 2), some (mv_I (p : Int)), some (mv_I (len : Int)), some (mv_I ((d : Int) + 1)), some (mv_I (a : Int)), some (mv_I (tx a))]) d_ma_endOfArgument_47 rfl (by decide) rfl rfl ?_
            refine go_goto (q := 63) d_ma_endOfArgument_50 (by decide) ?_
            refine go_iinc (q := 66) (L' := [some (mv_R 15), some (mv_R 2), some (mv_I (p : Int)), some (mv_I (len : Int)), some (mv_I ((d : Int) + 1)), some (mv_I ((a : Int) + 1)), some (mv_I (tx a))]) d_ma_endOfArgument_63 rfl (by decide) rfl rfl ?_
            refine go_goto (q := 6) d_ma_endOfArgument_66 (by decide) ?_
            refine go_fg 6 (L' := [some (mv_R 15), some (mv_R 2), some (mv_I (p : Int)), some (mv_I (len : Int)), some (mv_I ((d : Int) + 1)), some (mv_I ((a : Int) + 1)), none]) rfl ?_
            exact k6 c1 c3 c6 c7 c8
        ·
          refine go_iload (q := 39) d_ma_endOfArgument_37 rfl rfl ?_
          exact k7 c1 c3 c6 c7

set_option maxRecDepth 4000 in
theorem sn_num_0 {φ : go_F} {l : Launch} {h : mv_H} {n : Nat} {I tx wr ga gb mo mf mg : Nat → Int} {B : Nat → Int} {V : Nat → Nat} {p e : Nat} (hV : pn_V h (I, tx, wr, ga, gb, mo, mf, mg) B V) (ht : ∀ i : Nat, 0 ≤ tx i ∧ tx i ≤ 127) (hp : p < 120)
    (k0 : ¬ tx p = 45 → ∀ h' : mv_H, pn_V h' (I, tx, wr, ga, gb, mo, mf, mg) B (va_up V 45 0) → fr_ 1 389 h h' → Go φ l m_ma_takeNumber (go_rm rd_ma_takeNumber rw_ma_takeNumber 0 0) (0, 0) 37 [some (mv_R 15), some (mv_R 2), some (mv_I (p : Int)), some (mv_I (e : Int)), some (mv_I 0), some (mv_I (p : Int))] [] h' n)
    (k1 : tx p = 45 → ∀ h' : mv_H, pn_V h' (I, tx, wr, ga, gb, mo, mf, mg) B (va_up V 45 0) → fr_ 1 389 h h' → Go φ l m_ma_takeNumber (go_rm rd_ma_takeNumber rw_ma_takeNumber 0 0) (0, 0) 37 [some (mv_R 15), some (mv_R 2), some (mv_I (p : Int)), some (mv_I (e : Int)), some (mv_I 1), some (mv_I ((p : Int) + 1))] [] h' n) :
    Go φ l m_ma_takeNumber (go_rm rd_ma_takeNumber rw_ma_takeNumber 0 0) (0, 0) 0 [some (mv_R 15), some (mv_R 2), some (mv_I (p : Int)), some (mv_I (e : Int)), none, none] [] h n := by
  refine go_aload_n (q := 1) d_ma_takeNumber_0 rfl rfl rfl ?_
  refine go_iload_n (q := 2) d_ma_takeNumber_1 rfl rfl rfl ?_
  refine go_cald (i := p) (q := 3) d_ma_takeNumber_2 rfl (pn_c2 hV) (by omega) (by omega) (by omega) ?_
  have q_1 := ht p
  refine go_bipush (q := 5) d_ma_takeNumber_3 rfl (by decide) ?_
  refine go_icmp_ne (t := 12) (q := 8) d_ma_takeNumber_5 (by decide) rfl (by omega) (by omega) (fun c2 => ?_) (fun c2 => ?_)
  ·
    refine go_iconst (q := 13) d_ma_takeNumber_12 rfl ?_
    refine go_istore (q := 15) (L' := [some (mv_R 15), some (mv_R 2), some (mv_I (p : Int)), some (mv_I (e : Int)), some (mv_I 0), none]) d_ma_takeNumber_13 rfl (by decide) rfl ?_
    refine go_aload_n (q := 16) d_ma_takeNumber_15 rfl rfl rfl ?_
    refine go_getf (v := mv_R 45) (q := 19) f_ma_37 d_ma_takeNumber_16 rfl (pn_c15 hV) rfl ?_
    refine go_iconst (q := 20) d_ma_takeNumber_19 rfl ?_
    refine cp_become (p := 45) (v := 0) (q := 23) l_ma_95 d_ma_takeNumber_20 rfl hV (by unfold ro_; decide) (by omega) (Nat.le_of_ble_eq_true rfl) ⟨by decide, by decide, by decide, by decide⟩ (fun h_3 hV_4 fr_5 => ?_)
    have hV_6 : pn_V h_3 (I, tx, wr, ga, gb, mo, mf, mg) B (va_up V 45 0) := hV_4
    refine go_iload (q := 25) d_ma_takeNumber_23 rfl rfl ?_
    refine go_if_eq (t := 34) (q := 28) d_ma_takeNumber_25 (by decide) rfl (by omega) (fun c7 => ?_) (fun c7 => ?_)
    ·
      refine go_iload_n (q := 35) d_ma_takeNumber_34 rfl rfl rfl ?_
      refine go_istore (q := 37) (L' := [some (mv_R 15), some (mv_R 2), some (mv_I (p : Int)), some (mv_I (e : Int)), some (mv_I 0), some (mv_I (p : Int))]) d_ma_takeNumber_35 rfl (by decide) rfl ?_
      exact k0 c2 _ hV_6 fr_5
    ·
      exfalso; omega
  ·
    refine go_iconst (q := 9) d_ma_takeNumber_8 rfl ?_
    refine go_goto (q := 13) d_ma_takeNumber_9 (by decide) ?_
    refine go_istore (q := 15) (L' := [some (mv_R 15), some (mv_R 2), some (mv_I (p : Int)), some (mv_I (e : Int)), some (mv_I 1), none]) d_ma_takeNumber_13 rfl (by decide) rfl ?_
    refine go_aload_n (q := 16) d_ma_takeNumber_15 rfl rfl rfl ?_
    refine go_getf (v := mv_R 45) (q := 19) f_ma_37 d_ma_takeNumber_16 rfl (pn_c15 hV) rfl ?_
    refine go_iconst (q := 20) d_ma_takeNumber_19 rfl ?_
    refine cp_become (p := 45) (v := 0) (q := 23) l_ma_95 d_ma_takeNumber_20 rfl hV (by unfold ro_; decide) (by omega) (Nat.le_of_ble_eq_true rfl) ⟨by decide, by decide, by decide, by decide⟩ (fun h_8 hV_9 fr_10 => ?_)
    have hV_11 : pn_V h_8 (I, tx, wr, ga, gb, mo, mf, mg) B (va_up V 45 0) := hV_9
    refine go_iload (q := 25) d_ma_takeNumber_23 rfl rfl ?_
    refine go_if_eq (t := 34) (q := 28) d_ma_takeNumber_25 (by decide) rfl (by omega) (fun c12 => ?_) (fun c12 => ?_)
    ·
      exfalso; omega
    ·
      refine go_iload_n (q := 29) d_ma_takeNumber_28 rfl rfl rfl ?_
      refine go_iconst (q := 30) d_ma_takeNumber_29 rfl ?_
      refine go_iadd (q := 31) d_ma_takeNumber_30 rfl ?_
      refine go_goto (q := 35) d_ma_takeNumber_31 (by decide) ?_
      refine go_istore (q := 37) (L' := [some (mv_R 15), some (mv_R 2), some (mv_I (p : Int)), some (mv_I (e : Int)), some (mv_I 1), some (mv_I ((p : Int) + 1))]) d_ma_takeNumber_35 rfl (by decide) rfl ?_
      exact k1 c2 _ hV_11 fr_10

set_option maxRecDepth 4000 in
theorem sn_num_37 {φ : go_F} {l : Launch} {h : mv_H} {n : Nat} {I tx wr ga gb mo mf mg : Nat → Int} {B : Nat → Int} {V : Nat → Nat} {p e a : Nat} {bl : Int} (hV : pn_V h (I, tx, wr, ga, gb, mo, mf, mg) B V) (ht : ∀ i : Nat, 0 ≤ tx i ∧ tx i ≤ 127) (he : e ≤ 120 ∧ a ≤ e) (hd : a < e → 48 ≤ tx a ∧ tx a ≤ 57) (hs : V 45 * 10 + (tx a - 48).toNat < 1073741824 ^ 18)
    (k0 : (e : Int) ≤ (a : Int) → Go φ l m_ma_takeNumber (go_rm rd_ma_takeNumber rw_ma_takeNumber 0 0) (0, 0) 77 [some (mv_R 15), some (mv_R 2), some (mv_I (p : Int)), some (mv_I (e : Int)), some (mv_I bl), some (mv_I (a : Int))] [] h n)
    (k1 : ¬ (e : Int) ≤ (a : Int) → (V 45) * 10 + ((tx a - 48).toNat) < 2 ^ 240 → ∀ h' : mv_H, pn_V h' (I, tx, wr, ga, gb, mo, mf, mg) B (va_up V 45 ((V 45) * 10 + ((tx a - 48).toNat))) → fr_ 1 389 h h' → Go φ l m_ma_takeNumber (go_rm rd_ma_takeNumber rw_ma_takeNumber 0 0) (0, 0) 37 [some (mv_R 15), some (mv_R 2), some (mv_I (p : Int)), some (mv_I (e : Int)), some (mv_I bl), some (mv_I ((a : Int) + 1))] [] h' n)
    (k2 : ¬ (e : Int) ≤ (a : Int) → ¬ (V 45) * 10 + ((tx a - 48).toNat) < 2 ^ 240 → ∀ h' : mv_H, pn_V h' (I, tx, wr, ga, gb, mo, mf, mg) B (va_up V 45 ((V 45) * 10 + ((tx a - 48).toNat))) → fr_ 1 389 h h' → Go φ l m_ma_takeNumber (go_rm rd_ma_takeNumber rw_ma_takeNumber 0 0) (0, 0) 70 [some (mv_R 15), some (mv_R 2), some (mv_I (p : Int)), some (mv_I (e : Int)), some (mv_I bl), some (mv_I (a : Int))] [mv_I 1] h' n) :
    Go φ l m_ma_takeNumber (go_rm rd_ma_takeNumber rw_ma_takeNumber 0 0) (0, 0) 37 [some (mv_R 15), some (mv_R 2), some (mv_I (p : Int)), some (mv_I (e : Int)), some (mv_I bl), some (mv_I (a : Int))] [] h n := by
  refine go_iload (q := 39) d_ma_takeNumber_37 rfl rfl ?_
  refine go_iload_n (q := 40) d_ma_takeNumber_39 rfl rfl rfl ?_
  refine go_icmp_ge (t := 77) (q := 43) d_ma_takeNumber_40 (by decide) rfl (by omega) (by omega) (fun c1 => ?_) (fun c1 => ?_)
  ·
    exact k0 c1
  ·
    refine go_aload_n (q := 44) d_ma_takeNumber_43 rfl rfl rfl ?_
    refine go_getf (v := mv_R 45) (q := 47) f_ma_37 d_ma_takeNumber_44 rfl (pn_c15 hV) rfl ?_
    refine go_bipush (q := 49) d_ma_takeNumber_47 rfl (by decide) ?_
    refine go_aload_n (q := 50) d_ma_takeNumber_49 rfl rfl rfl ?_
    refine go_iload (q := 52) d_ma_takeNumber_50 rfl rfl ?_
    refine go_cald (i := a) (q := 53) d_ma_takeNumber_52 rfl (pn_c2 hV) (by omega) (by omega) (by omega) ?_
    have q_2 := ht a
    have hd_ := hd (by omega)
    refine go_bipush (q := 55) d_ma_takeNumber_53 rfl (by decide) ?_
    refine go_isub (q := 56) d_ma_takeNumber_55 rfl ?_
    rw [show tx a - 48 = (((tx a - 48).toNat : Nat) : Int) by omega]
    refine cp_timesPlus (p := 45) (x := 10) (y := (tx a - 48).toNat) (q := 59) l_ma_98 d_ma_takeNumber_56 rfl hV (by unfold ro_; decide) (by omega) (by omega) (by rw [(show V 45 = V 45 from rfl), (show rn_ 45 = 18 from rfl)]; first | assumption | omega) (Nat.le_of_ble_eq_true rfl) ⟨by decide, by decide, by decide, by decide⟩ (fun h_3 hV_4 fr_5 => ?_)
    have hV_6 : pn_V h_3 (I, tx, wr, ga, gb, mo, mf, mg) B (va_up V 45 ((V 45) * 10 + ((tx a - 48).toNat))) := by
      try rw [(show V 45 = V 45 from rfl)] at hV_4
      exact hV_4
    refine go_aload_n (q := 60) d_ma_takeNumber_59 rfl rfl rfl ?_
    refine go_getf (v := mv_R 45) (q := 63) f_ma_37 d_ma_takeNumber_60 rfl (pn_c15 hV_6) rfl ?_
    refine cp_isTooLarge (p := 45) (q := 66) l_ma_102 d_ma_takeNumber_63 rfl hV_6 (by unfold ro_; decide) (Nat.le_of_ble_eq_true rfl) ⟨by decide, by decide, by decide, by decide⟩ ?_
    rw [(show (va_up V 45 ((V 45) * 10 + ((tx a - 48).toNat))) 45 = (V 45) * 10 + ((tx a - 48).toNat) from (va_up_self _ _ _))]
    refine go_if_eq (t := 71) (q := 69) d_ma_takeNumber_66 (by decide) rfl iz_rng (fun c7 => ?_) (fun c7 => ?_)
    · have c8 : (V 45) * 10 + ((tx a - 48).toNat) < 2 ^ 240 := iz_eqp c7
      refine go_iinc (q := 74) (L' := [some (mv_R 15), some (mv_R 2), some (mv_I (p : Int)), some (mv_I (e : Int)), some (mv_I bl), some (mv_I ((a : Int) + 1))]) d_ma_takeNumber_71 rfl (by decide) rfl rfl ?_
      refine go_goto (q := 37) d_ma_takeNumber_74 (by decide) ?_
      exact k1 c1 c8 _ hV_6 fr_5
    · have c9 : ¬ (V 45) * 10 + ((tx a - 48).toNat) < 2 ^ 240 := iz_eqn c7
      refine go_iconst (q := 70) d_ma_takeNumber_69 rfl ?_
      exact k2 c1 c9 _ hV_6 fr_5

set_option maxRecDepth 4000 in
theorem sn_num_77 {φ : go_F} {l : Launch} {h : mv_H} {n : Nat} {I tx wr ga gb mo mf mg : Nat → Int} {B : Nat → Int} {V : Nat → Nat} {p e a m : Nat} {bl : Int} (hV : pn_V h (I, tx, wr, ga, gb, mo, mf, mg) B V) (hbl : 0 ≤ bl ∧ bl ≤ 1) (hm : I 5 = (m : Int) ∧ m < 60) (hs : V 45 < 1073741824 ^ 8)
    (k0 : bl = 0 → ∀ h' : mv_H, pn_V h' (va_up I 5 ((I 5) + 1), tx, wr, ga, gb, mo, mf, mg) (va_up (va_up B (90 + 5 * m) 0) (90 + 5 * m) 0) (va_up (va_up (va_up V ((90 + 5 * m) + 1) 0) ((90 + 5 * m) + 3) 1) ((90 + 5 * m) + 1) (V 45)) → fr_ 1 389 h h' → Go φ l m_ma_takeNumber (go_rm rd_ma_takeNumber rw_ma_takeNumber 0 0) (0, 0) 142 [some (mv_R 15), some (mv_R 2), some (mv_I (p : Int)), some (mv_I (e : Int)), some (mv_I bl), some (mv_R (90 + 5 * m))] [mv_I 0] h' n)
    (k1 : ¬ bl = 0 → V 45 = 0 → ∀ h' : mv_H, pn_V h' (va_up I 5 ((I 5) + 1), tx, wr, ga, gb, mo, mf, mg) (va_up (va_up B (90 + 5 * m) 0) (90 + 5 * m) 0) (va_up (va_up (va_up V ((90 + 5 * m) + 1) 0) ((90 + 5 * m) + 3) 1) ((90 + 5 * m) + 1) (V 45)) → fr_ 1 389 h h' → Go φ l m_ma_takeNumber (go_rm rd_ma_takeNumber rw_ma_takeNumber 0 0) (0, 0) 142 [some (mv_R 15), some (mv_R 2), some (mv_I (p : Int)), some (mv_I (e : Int)), some (mv_I bl), some (mv_R (90 + 5 * m))] [mv_I 0] h' n)
    (k2 : ¬ bl = 0 → ¬ V 45 = 0 → ∀ h' : mv_H, pn_V h' (va_up I 5 ((I 5) + 1), tx, wr, ga, gb, mo, mf, mg) (va_up (va_up B (90 + 5 * m) 0) (90 + 5 * m) 1) (va_up (va_up (va_up V ((90 + 5 * m) + 1) 0) ((90 + 5 * m) + 3) 1) ((90 + 5 * m) + 1) (V 45)) → fr_ 1 389 h h' → Go φ l m_ma_takeNumber (go_rm rd_ma_takeNumber rw_ma_takeNumber 0 0) (0, 0) 142 [some (mv_R 15), some (mv_R 2), some (mv_I (p : Int)), some (mv_I (e : Int)), some (mv_I bl), some (mv_R (90 + 5 * m))] [mv_I 0] h' n) :
    Go φ l m_ma_takeNumber (go_rm rd_ma_takeNumber rw_ma_takeNumber 0 0) (0, 0) 77 [some (mv_R 15), some (mv_R 2), some (mv_I (p : Int)), some (mv_I (e : Int)), some (mv_I bl), some (mv_I (a : Int))] [] h n := by
  refine go_aload_n (q := 78) d_ma_takeNumber_77 rfl rfl rfl ?_
  refine go_getf (v := mv_R 39) (q := 81) f_ma_24 d_ma_takeNumber_78 rfl (pn_c15 hV) rfl ?_
  refine go_aload_n (q := 82) d_ma_takeNumber_81 rfl rfl rfl ?_
  refine go_getf (v := mv_I (I 5)) (q := 85) f_ma_56 d_ma_takeNumber_82 rfl (pn_c15 hV) rfl ?_
  obtain ⟨f_1, e_2, e_3⟩ := pn_q39 hV
  refine go_aald (i := m) (j := 90 + 5 * m) (q := 86) d_ma_takeNumber_85 rfl e_2 (by omega) (by omega) (by omega) (e_3 _ (by omega)) ?_
  refine go_astore (q := 88) (L' := [some (mv_R 15), some (mv_R 2), some (mv_I (p : Int)), some (mv_I (e : Int)), some (mv_I bl), some (mv_R (90 + 5 * m))]) d_ma_takeNumber_86 rfl (by decide) rfl ?_
  refine go_aload (q := 90) d_ma_takeNumber_88 rfl rfl ?_
  refine go_iconst (q := 91) d_ma_takeNumber_90 rfl ?_
  refine cp_fr_become (a := 90 + 5 * m) (v := 0) (q := 94) l_ma_105 d_ma_takeNumber_91 rfl hV (fa_s (by omega)) (by omega) (Nat.le_of_ble_eq_true rfl) ⟨by decide, by decide, by decide, by decide⟩ (fun h_4 hV_5 fr_6 => ?_)
  have hV_7 : pn_V h_4 (I, tx, wr, ga, gb, mo, mf, mg) (va_up B (90 + 5 * m) 0) (va_up (va_up V ((90 + 5 * m) + 1) 0) ((90 + 5 * m) + 3) 1) := hV_5
  refine go_aload (q := 96) d_ma_takeNumber_94 rfl rfl ?_
  refine go_getf (q := 99) f_ma_106 d_ma_takeNumber_96 rfl (pn_cf hV_7 (a := 90 + 5 * m) (fa_s (by omega))) rfl ?_
  refine go_aload_n (q := 100) d_ma_takeNumber_99 rfl rfl rfl ?_
  refine go_getf (v := mv_R 45) (q := 103) f_ma_37 d_ma_takeNumber_100 rfl (pn_c15 hV_7) rfl ?_
  refine cp_copy (p := (90 + 5 * m) + 1) (r := 45) (q := 106) l_ma_109 d_ma_takeNumber_103 rfl hV_7 (fa_n (a := (90 + 5 * m)) (fa_s (by omega))).1 (by unfold ro_; decide) (by omega) (by rw [(show (va_up (va_up V ((90 + 5 * m) + 1) 0) ((90 + 5 * m) + 3) 1) 45 = V 45 from ((va_up_ne _ _ (by omega)).trans ((va_up_ne _ _ (by omega)).trans rfl))), (show rn_ ((90 + 5 * m) + 1) = 8 from if_neg (by omega))]; first | assumption | omega) (Nat.le_of_ble_eq_true rfl) ⟨by decide, by decide, by decide, by decide⟩ (fun h_8 hV_9 fr_10 => ?_)
  have hV_11 : pn_V h_8 (I, tx, wr, ga, gb, mo, mf, mg) (va_up B (90 + 5 * m) 0) (va_up (va_up (va_up V ((90 + 5 * m) + 1) 0) ((90 + 5 * m) + 3) 1) ((90 + 5 * m) + 1) (V 45)) := by
    try rw [(show (va_up (va_up V ((90 + 5 * m) + 1) 0) ((90 + 5 * m) + 3) 1) 45 = V 45 from ((va_up_ne _ _ (by omega)).trans ((va_up_ne _ _ (by omega)).trans rfl)))] at hV_9
    exact hV_9
  refine go_aload (q := 108) d_ma_takeNumber_106 rfl rfl ?_
  refine go_iload (q := 110) d_ma_takeNumber_108 rfl rfl ?_
  refine go_if_eq (t := 127) (q := 113) d_ma_takeNumber_110 (by decide) rfl (by omega) (fun c12 => ?_) (fun c12 => ?_)
  ·
    refine go_iconst (q := 128) d_ma_takeNumber_127 rfl ?_
    refine go_putf (q := 131) (v := mv_I 0) f_ma_113 d_ma_takeNumber_128 rfl (pn_cf hV_11 (a := 90 + 5 * m) (fa_s (by omega))) (Nat.le_of_ble_eq_true rfl) (go_fitZ (by omega)) ?_
    refine go_eq (h' := va_up h_8 (90 + 5 * m) (mv_O 2 [mv_R (90 + 5 * m + 1), mv_R (90 + 5 * m + 3), mv_I 0])) ?_
    have hV_14 := pn_uf hV_11 (a := 90 + 5 * m) (x := 0) (by unfold fa_; omega) (by omega)
    have fr_15 : fr_ 1 389 h_8 (va_up h_8 (90 + 5 * m) (mv_O 2 [mv_R (90 + 5 * m + 1), mv_R (90 + 5 * m + 3), mv_I 0])) := fun z_ hz => va_up_ne _ _ (by omega)
    generalize va_up h_8 (90 + 5 * m) (mv_O 2 [mv_R (90 + 5 * m + 1), mv_R (90 + 5 * m + 3), mv_I 0]) = h_13 at hV_14 fr_15 ⊢
    refine go_aload_n (q := 132) d_ma_takeNumber_131 rfl rfl rfl ?_
    refine go_dup (q := 133) d_ma_takeNumber_132 rfl rfl ?_
    refine go_getf (v := mv_I (I 5)) (q := 136) f_ma_56 d_ma_takeNumber_133 rfl (pn_c15 hV_14) rfl ?_
    refine go_iconst (q := 137) d_ma_takeNumber_136 rfl ?_
    refine go_iadd (q := 138) d_ma_takeNumber_137 rfl ?_
    refine go_putf (q := 141) (v := mv_I ((I 5) + 1)) f_ma_56 d_ma_takeNumber_138 rfl (pn_c15 hV_14) (Nat.le_of_ble_eq_true rfl) (go_fitI _) ?_
    refine go_eq (h' := va_up h_13 15 (mv_O 4 [mv_R 16, mv_R 38, mv_R 39, mv_R 40, mv_R 45, mv_R 47, mv_R 48, mv_R 49, mv_I ((va_up I 5 ((I 5) + 1)) 4), mv_I ((va_up I 5 ((I 5) + 1)) 5)])) ?_
    have hV_17 := pn_u15 hV_14 (va_up I 5 ((I 5) + 1)) (fun i_ h_4 h_5 => va_up_ne _ _ h_5)
    have fr_18 : fr_ 1 389 h_13 (va_up h_13 15 (mv_O 4 [mv_R 16, mv_R 38, mv_R 39, mv_R 40, mv_R 45, mv_R 47, mv_R 48, mv_R 49, mv_I ((va_up I 5 ((I 5) + 1)) 4), mv_I ((va_up I 5 ((I 5) + 1)) 5)])) := fun z_ hz => va_up_ne _ _ (by omega)
    generalize va_up h_13 15 (mv_O 4 [mv_R 16, mv_R 38, mv_R 39, mv_R 40, mv_R 45, mv_R 47, mv_R 48, mv_R 49, mv_I ((va_up I 5 ((I 5) + 1)) 4), mv_I ((va_up I 5 ((I 5) + 1)) 5)]) = h_16 at hV_17 fr_18 ⊢
    refine go_iconst (q := 142) d_ma_takeNumber_141 rfl ?_
    exact k0 c12 _ hV_17 (fr_.tr (fr_.tr (fr_.tr fr_6 fr_10) fr_15) fr_18)
  ·
    refine go_aload_n (q := 114) d_ma_takeNumber_113 rfl rfl rfl ?_
    refine go_getf (v := mv_R 45) (q := 117) f_ma_37 d_ma_takeNumber_114 rfl (pn_c15 hV_11) rfl ?_
    refine cp_isZero (p := 45) (q := 120) l_ma_112 d_ma_takeNumber_117 rfl hV_11 (by unfold ro_; decide) (Nat.le_of_ble_eq_true rfl) ⟨by decide, by decide, by decide, by decide⟩ ?_
    rw [(show (va_up (va_up (va_up V ((90 + 5 * m) + 1) 0) ((90 + 5 * m) + 3) 1) ((90 + 5 * m) + 1) (V 45)) 45 = V 45 from ((va_up_ne _ _ (by omega)).trans ((va_up_ne _ _ (by omega)).trans ((va_up_ne _ _ (by omega)).trans rfl))))]
    refine go_if_ne (t := 127) (q := 123) d_ma_takeNumber_120 (by decide) rfl it_rng (fun c19 => ?_) (fun c19 => ?_)
    · have c20 : V 45 = 0 := it_nep c19
      refine go_iconst (q := 128) d_ma_takeNumber_127 rfl ?_
      refine go_putf (q := 131) (v := mv_I 0) f_ma_113 d_ma_takeNumber_128 rfl (pn_cf hV_11 (a := 90 + 5 * m) (fa_s (by omega))) (Nat.le_of_ble_eq_true rfl) (go_fitZ (by omega)) ?_
      refine go_eq (h' := va_up h_8 (90 + 5 * m) (mv_O 2 [mv_R (90 + 5 * m + 1), mv_R (90 + 5 * m + 3), mv_I 0])) ?_
      have hV_22 := pn_uf hV_11 (a := 90 + 5 * m) (x := 0) (by unfold fa_; omega) (by omega)
      have fr_23 : fr_ 1 389 h_8 (va_up h_8 (90 + 5 * m) (mv_O 2 [mv_R (90 + 5 * m + 1), mv_R (90 + 5 * m + 3), mv_I 0])) := fun z_ hz => va_up_ne _ _ (by omega)
      generalize va_up h_8 (90 + 5 * m) (mv_O 2 [mv_R (90 + 5 * m + 1), mv_R (90 + 5 * m + 3), mv_I 0]) = h_21 at hV_22 fr_23 ⊢
      refine go_aload_n (q := 132) d_ma_takeNumber_131 rfl rfl rfl ?_
      refine go_dup (q := 133) d_ma_takeNumber_132 rfl rfl ?_
      refine go_getf (v := mv_I (I 5)) (q := 136) f_ma_56 d_ma_takeNumber_133 rfl (pn_c15 hV_22) rfl ?_
      refine go_iconst (q := 137) d_ma_takeNumber_136 rfl ?_
      refine go_iadd (q := 138) d_ma_takeNumber_137 rfl ?_
      refine go_putf (q := 141) (v := mv_I ((I 5) + 1)) f_ma_56 d_ma_takeNumber_138 rfl (pn_c15 hV_22) (Nat.le_of_ble_eq_true rfl) (go_fitI _) ?_
      refine go_eq (h' := va_up h_21 15 (mv_O 4 [mv_R 16, mv_R 38, mv_R 39, mv_R 40, mv_R 45, mv_R 47, mv_R 48, mv_R 49, mv_I ((va_up I 5 ((I 5) + 1)) 4), mv_I ((va_up I 5 ((I 5) + 1)) 5)])) ?_
      have hV_25 := pn_u15 hV_22 (va_up I 5 ((I 5) + 1)) (fun i_ h_4 h_5 => va_up_ne _ _ h_5)
      have fr_26 : fr_ 1 389 h_21 (va_up h_21 15 (mv_O 4 [mv_R 16, mv_R 38, mv_R 39, mv_R 40, mv_R 45, mv_R 47, mv_R 48, mv_R 49, mv_I ((va_up I 5 ((I 5) + 1)) 4), mv_I ((va_up I 5 ((I 5) + 1)) 5)])) := fun z_ hz => va_up_ne _ _ (by omega)
      generalize va_up h_21 15 (mv_O 4 [mv_R 16, mv_R 38, mv_R 39, mv_R 40, mv_R 45, mv_R 47, mv_R 48, mv_R 49, mv_I ((va_up I 5 ((I 5) + 1)) 4), mv_I ((va_up I 5 ((I 5) + 1)) 5)]) = h_24 at hV_25 fr_26 ⊢
      refine go_iconst (q := 142) d_ma_takeNumber_141 rfl ?_
      exact k1 c12 c20 _ hV_25 (fr_.tr (fr_.tr (fr_.tr fr_6 fr_10) fr_23) fr_26)
    · have c27 : ¬ V 45 = 0 := it_nen c19
      refine go_iconst (q := 124) d_ma_takeNumber_123 rfl ?_
      refine go_goto (q := 128) d_ma_takeNumber_124 (by decide) ?_
      refine go_putf (q := 131) (v := mv_I 1) f_ma_113 d_ma_takeNumber_128 rfl (pn_cf hV_11 (a := 90 + 5 * m) (fa_s (by omega))) (Nat.le_of_ble_eq_true rfl) (go_fitZ (by omega)) ?_
      refine go_eq (h' := va_up h_8 (90 + 5 * m) (mv_O 2 [mv_R (90 + 5 * m + 1), mv_R (90 + 5 * m + 3), mv_I 1])) ?_
      have hV_29 := pn_uf hV_11 (a := 90 + 5 * m) (x := 1) (by unfold fa_; omega) (by omega)
      have fr_30 : fr_ 1 389 h_8 (va_up h_8 (90 + 5 * m) (mv_O 2 [mv_R (90 + 5 * m + 1), mv_R (90 + 5 * m + 3), mv_I 1])) := fun z_ hz => va_up_ne _ _ (by omega)
      generalize va_up h_8 (90 + 5 * m) (mv_O 2 [mv_R (90 + 5 * m + 1), mv_R (90 + 5 * m + 3), mv_I 1]) = h_28 at hV_29 fr_30 ⊢
      refine go_aload_n (q := 132) d_ma_takeNumber_131 rfl rfl rfl ?_
      refine go_dup (q := 133) d_ma_takeNumber_132 rfl rfl ?_
      refine go_getf (v := mv_I (I 5)) (q := 136) f_ma_56 d_ma_takeNumber_133 rfl (pn_c15 hV_29) rfl ?_
      refine go_iconst (q := 137) d_ma_takeNumber_136 rfl ?_
      refine go_iadd (q := 138) d_ma_takeNumber_137 rfl ?_
      refine go_putf (q := 141) (v := mv_I ((I 5) + 1)) f_ma_56 d_ma_takeNumber_138 rfl (pn_c15 hV_29) (Nat.le_of_ble_eq_true rfl) (go_fitI _) ?_
      refine go_eq (h' := va_up h_28 15 (mv_O 4 [mv_R 16, mv_R 38, mv_R 39, mv_R 40, mv_R 45, mv_R 47, mv_R 48, mv_R 49, mv_I ((va_up I 5 ((I 5) + 1)) 4), mv_I ((va_up I 5 ((I 5) + 1)) 5)])) ?_
      have hV_32 := pn_u15 hV_29 (va_up I 5 ((I 5) + 1)) (fun i_ h_4 h_5 => va_up_ne _ _ h_5)
      have fr_33 : fr_ 1 389 h_28 (va_up h_28 15 (mv_O 4 [mv_R 16, mv_R 38, mv_R 39, mv_R 40, mv_R 45, mv_R 47, mv_R 48, mv_R 49, mv_I ((va_up I 5 ((I 5) + 1)) 4), mv_I ((va_up I 5 ((I 5) + 1)) 5)])) := fun z_ hz => va_up_ne _ _ (by omega)
      generalize va_up h_28 15 (mv_O 4 [mv_R 16, mv_R 38, mv_R 39, mv_R 40, mv_R 45, mv_R 47, mv_R 48, mv_R 49, mv_I ((va_up I 5 ((I 5) + 1)) 4), mv_I ((va_up I 5 ((I 5) + 1)) 5)]) = h_31 at hV_32 fr_33 ⊢
      refine go_iconst (q := 142) d_ma_takeNumber_141 rfl ?_
      exact k2 c12 c27 _ hV_32 (fr_.tr (fr_.tr (fr_.tr fr_6 fr_10) fr_30) fr_33)

set_option maxRecDepth 4000 in
theorem sn_raise_0 {φ : go_F} {l : Launch} {h : mv_H} {n : Nat} {I tx wr ga gb mo mf mg : Nat → Int} {B : Nat → Int} {V : Nat → Nat} {b : Nat} (hV : pn_V h (I, tx, wr, ga, gb, mo, mf, mg) B V) (hm : I 5 = (b : Int) + 2 ∧ b < 59)
    (k0 : Go φ l m_ma_raise (go_rm rd_ma_raise rw_ma_raise 0 0) (0, 0) 29 [some (mv_R 15), some (mv_R (90 + 5 * b)), some (mv_R (90 + 5 * (b + 1))), none, none, none] [mv_I 0, mv_R ((90 + 5 * (b + 1)) + 1)] h n) :
    Go φ l m_ma_raise (go_rm rd_ma_raise rw_ma_raise 0 0) (0, 0) 0 [some (mv_R 15), none, none, none, none, none] [] h n := by
  refine go_aload_n (q := 1) d_ma_raise_0 rfl rfl rfl ?_
  refine go_getf (v := mv_R 39) (q := 4) f_ma_24 d_ma_raise_1 rfl (pn_c15 hV) rfl ?_
  refine go_aload_n (q := 5) d_ma_raise_4 rfl rfl rfl ?_
  refine go_getf (v := mv_I (I 5)) (q := 8) f_ma_56 d_ma_raise_5 rfl (pn_c15 hV) rfl ?_
  refine go_iconst (q := 9) d_ma_raise_8 rfl ?_
  refine go_isub (q := 10) d_ma_raise_9 rfl ?_
  obtain ⟨f_1, e_2, e_3⟩ := pn_q39 hV
  refine go_aald (i := b) (j := 90 + 5 * b) (q := 11) d_ma_raise_10 rfl e_2 (by omega) (by omega) (by omega) (e_3 _ (by omega)) ?_
  refine go_astore_n (q := 12) (L' := [some (mv_R 15), some (mv_R (90 + 5 * b)), none, none, none, none]) d_ma_raise_11 rfl rfl (by decide) rfl ?_
  refine go_aload_n (q := 13) d_ma_raise_12 rfl rfl rfl ?_
  refine go_getf (v := mv_R 39) (q := 16) f_ma_24 d_ma_raise_13 rfl (pn_c15 hV) rfl ?_
  refine go_aload_n (q := 17) d_ma_raise_16 rfl rfl rfl ?_
  refine go_getf (v := mv_I (I 5)) (q := 20) f_ma_56 d_ma_raise_17 rfl (pn_c15 hV) rfl ?_
  refine go_iconst (q := 21) d_ma_raise_20 rfl ?_
  refine go_isub (q := 22) d_ma_raise_21 rfl ?_
  obtain ⟨f_4, e_5, e_6⟩ := pn_q39 hV
  refine go_aald (i := (b + 1)) (j := 90 + 5 * (b + 1)) (q := 23) d_ma_raise_22 rfl e_5 (by omega) (by omega) (by omega) (e_6 _ (by omega)) ?_
  refine go_astore_n (q := 24) (L' := [some (mv_R 15), some (mv_R (90 + 5 * b)), some (mv_R (90 + 5 * (b + 1))), none, none, none]) d_ma_raise_23 rfl rfl (by decide) rfl ?_
  refine go_aload_n (q := 25) d_ma_raise_24 rfl rfl rfl ?_
  refine go_getf (q := 28) f_ma_106 d_ma_raise_25 rfl (pn_cf hV (a := 90 + 5 * (b + 1)) (fa_s (by omega))) rfl ?_
  refine go_iconst (q := 29) d_ma_raise_28 rfl ?_
  exact k0 

set_option maxRecDepth 4000 in
theorem sn_raise_32 {φ : go_F} {l : Launch} {h : mv_H} {n : Nat} {I tx wr ga gb mo mf mg : Nat → Int} {B : Nat → Int} {V : Nat → Nat} {b : Nat} {z : Int} (hV : pn_V h (I, tx, wr, ga, gb, mo, mf, mg) B V) (hb : b < 59)
    (k0 : ¬ V ((90 + 5 * (b + 1)) + 3) = 1 → Go φ l m_ma_raise (go_rm rd_ma_raise rw_ma_raise 0 0) (0, 0) 64 [some (mv_R 15), some (mv_R (90 + 5 * b)), some (mv_R (90 + 5 * (b + 1))), some (mv_I z), none, none] [] h n)
    (k1 : V ((90 + 5 * (b + 1)) + 3) = 1 → ¬ B (90 + 5 * (b + 1)) = 0 → Go φ l m_ma_raise (go_rm rd_ma_raise rw_ma_raise 0 0) (0, 0) 64 [some (mv_R 15), some (mv_R (90 + 5 * b)), some (mv_R (90 + 5 * (b + 1))), some (mv_I z), none, none] [] h n)
    (k2 : V ((90 + 5 * (b + 1)) + 3) = 1 → B (90 + 5 * (b + 1)) = 0 → Go φ l m_ma_raise (go_rm rd_ma_raise rw_ma_raise 0 0) (0, 0) 47 [some (mv_R 15), some (mv_R (90 + 5 * b)), some (mv_R (90 + 5 * (b + 1))), some (mv_I z), none, none] [] h n) :
    Go φ l m_ma_raise (go_rm rd_ma_raise rw_ma_raise 0 0) (0, 0) 32 [some (mv_R 15), some (mv_R (90 + 5 * b)), some (mv_R (90 + 5 * (b + 1))), none, none, none] [mv_I z] h n := by
  refine go_istore_n (q := 33) (L' := [some (mv_R 15), some (mv_R (90 + 5 * b)), some (mv_R (90 + 5 * (b + 1))), some (mv_I z), none, none]) d_ma_raise_32 rfl rfl (by decide) rfl ?_
  refine go_aload_n (q := 34) d_ma_raise_33 rfl rfl rfl ?_
  refine cp_fr_isWhole (a := 90 + 5 * (b + 1)) (q := 37) l_ma_121 d_ma_raise_34 rfl hV (fa_s (by omega)) (Nat.le_of_ble_eq_true rfl) ⟨by decide, by decide, by decide, by decide⟩ ?_
  rw [(show V ((90 + 5 * (b + 1)) + 3) = V ((90 + 5 * (b + 1)) + 3) from rfl)]
  refine go_if_eq (t := 64) (q := 40) d_ma_raise_37 (by decide) rfl it_rng (fun c1 => ?_) (fun c1 => ?_)
  · have c2 : ¬ V ((90 + 5 * (b + 1)) + 3) = 1 := it_eqp c1
    exact k0 c2
  · have c3 : V ((90 + 5 * (b + 1)) + 3) = 1 := it_eqn c1
    refine go_aload_n (q := 41) d_ma_raise_40 rfl rfl rfl ?_
    refine go_getf (q := 44) f_ma_113 d_ma_raise_41 rfl (pn_cf hV (a := 90 + 5 * (b + 1)) (fa_s (by omega))) rfl ?_
    rw [(show B (90 + 5 * (b + 1)) = B (90 + 5 * (b + 1)) from rfl)]
    have q_4 := hV.2.1 (90 + 5 * (b + 1))
    rw [(show B (90 + 5 * (b + 1)) = B (90 + 5 * (b + 1)) from rfl)] at q_4
    refine go_if_ne (t := 64) (q := 47) d_ma_raise_44 (by decide) rfl (by omega) (fun c5 => ?_) (fun c5 => ?_)
    ·
      exact k1 c3 c5
    ·
      exact k2 c3 c5

set_option maxRecDepth 4000 in
theorem sn_raise_64 {φ : go_F} {l : Launch} {h : mv_H} {n : Nat} {I tx wr ga gb mo mf mg : Nat → Int} {B : Nat → Int} {V : Nat → Nat} {b : Nat} {z : Int} (hV : pn_V h (I, tx, wr, ga, gb, mo, mf, mg) B V) 
    (k0 : Go φ l m_ma_raise (go_rm rd_ma_raise rw_ma_raise 0 0) (0, 0) 65 [some (mv_R 15), some (mv_R (90 + 5 * b)), some (mv_R (90 + 5 * (b + 1))), some (mv_I z), none, none] [mv_I 3] h n) :
    Go φ l m_ma_raise (go_rm rd_ma_raise rw_ma_raise 0 0) (0, 0) 64 [some (mv_R 15), some (mv_R (90 + 5 * b)), some (mv_R (90 + 5 * (b + 1))), some (mv_I z), none, none] [] h n := by
  refine go_iconst (q := 65) d_ma_raise_64 rfl ?_
  exact k0 

set_option maxRecDepth 4000 in
theorem sn_raise_58 {φ : go_F} {l : Launch} {h : mv_H} {n : Nat} {I tx wr ga gb mo mf mg : Nat → Int} {B : Nat → Int} {V : Nat → Nat} {b t : Nat} (hV : pn_V h (I, tx, wr, ga, gb, mo, mf, mg) B V) (hb : b < 59) (ht : t ≤ 1073741823)
    (k0 : (t : Int) ≤ 64 → ∀ h' : mv_H, pn_V h' (I, tx, wr, ga, gb, mo, mf, mg) (va_up B 40 0) (va_up (va_up V 41 1) 43 1) → fr_ 1 389 h h' → Go φ l m_ma_raise (go_rm rd_ma_raise rw_ma_raise 0 0) (0, 0) 80 [some (mv_R 15), some (mv_R (90 + 5 * b)), some (mv_R (90 + 5 * (b + 1))), some (mv_I (t : Int)), some (mv_I 0), some (mv_I 0)] [] h' n)
    (k1 : ¬ (t : Int) ≤ 64 → Go φ l m_ma_raise (go_rm rd_ma_raise rw_ma_raise 0 0) (0, 0) 64 [some (mv_R 15), some (mv_R (90 + 5 * b)), some (mv_R (90 + 5 * (b + 1))), some (mv_I (t : Int)), none, none] [] h n) :
    Go φ l m_ma_raise (go_rm rd_ma_raise rw_ma_raise 0 0) (0, 0) 58 [some (mv_R 15), some (mv_R (90 + 5 * b)), some (mv_R (90 + 5 * (b + 1))), some (mv_I (t : Int)), none, none] [] h n := by
  refine go_iload_n (q := 59) d_ma_raise_58 rfl rfl rfl ?_
  refine go_bipush (q := 61) d_ma_raise_59 rfl (by decide) ?_
  refine go_icmp_le (t := 66) (q := 64) d_ma_raise_61 (by decide) rfl (by omega) (by omega) (fun c1 => ?_) (fun c1 => ?_)
  ·
    refine go_iconst (q := 67) d_ma_raise_66 rfl ?_
    refine go_istore (q := 69) (L' := [some (mv_R 15), some (mv_R (90 + 5 * b)), some (mv_R (90 + 5 * (b + 1))), some (mv_I (t : Int)), some (mv_I 0), none]) d_ma_raise_67 rfl (by decide) rfl ?_
    refine go_aload_n (q := 70) d_ma_raise_69 rfl rfl rfl ?_
    refine go_getf (v := mv_R 40) (q := 73) f_ma_28 d_ma_raise_70 rfl (pn_c15 hV) rfl ?_
    refine go_iconst (q := 74) d_ma_raise_73 rfl ?_
    refine cp_fr_become (a := 40) (v := 1) (q := 77) l_ma_105 d_ma_raise_74 rfl hV fa_t (by omega) (Nat.le_of_ble_eq_true rfl) ⟨by decide, by decide, by decide, by decide⟩ (fun h_2 hV_3 fr_4 => ?_)
    have hV_5 : pn_V h_2 (I, tx, wr, ga, gb, mo, mf, mg) (va_up B 40 0) (va_up (va_up V 41 1) 43 1) := hV_3
    refine go_iconst (q := 78) d_ma_raise_77 rfl ?_
    refine go_istore (q := 80) (L' := [some (mv_R 15), some (mv_R (90 + 5 * b)), some (mv_R (90 + 5 * (b + 1))), some (mv_I (t : Int)), some (mv_I 0), some (mv_I 0)]) d_ma_raise_78 rfl (by decide) rfl ?_
    exact k0 c1 _ hV_5 fr_4
  ·
    exact k1 c1

set_option maxRecDepth 4000 in
theorem sn_raise_80 {φ : go_F} {l : Launch} {h : mv_H} {n : Nat} {I tx wr ga gb mo mf mg : Nat → Int} {B : Nat → Int} {V : Nat → Nat} {b t i : Nat} {x : Int} (hV : pn_V h (I, tx, wr, ga, gb, mo, mf, mg) B V) (hb : b < 59) (ht : t ≤ 64 ∧ i ≤ t) (hx : 0 ≤ x ∧ x ≤ 3)
    (k0 : (t : Int) ≤ (i : Int) → Go φ l m_ma_raise (go_rm rd_ma_raise rw_ma_raise 0 0) (0, 0) 124 [some (mv_R 15), some (mv_R (90 + 5 * b)), some (mv_R (90 + 5 * (b + 1))), some (mv_I (t : Int)), some (mv_I x), some (mv_I (i : Int))] [mv_I x] h n)
    (k1 : ¬ (t : Int) ≤ (i : Int) → ¬ x = 0 → Go φ l m_ma_raise (go_rm rd_ma_raise rw_ma_raise 0 0) (0, 0) 124 [some (mv_R 15), some (mv_R (90 + 5 * b)), some (mv_R (90 + 5 * (b + 1))), some (mv_I (t : Int)), some (mv_I x), some (mv_I (i : Int))] [mv_I x] h n)
    (k2 : ¬ (t : Int) ≤ (i : Int) → x = 0 → Go φ l m_ma_raise (go_rm rd_ma_raise rw_ma_raise 0 0) (0, 0) 111 [some (mv_R 15), some (mv_R (90 + 5 * b)), some (mv_R (90 + 5 * (b + 1))), some (mv_I (t : Int)), some (mv_I x), some (mv_I (i : Int))] [mv_I (B (90 + 5 * b)), mv_R ((90 + 5 * b) + 3), mv_R ((90 + 5 * b) + 1), mv_R 40, mv_R 16] h n) :
    Go φ l m_ma_raise (go_rm rd_ma_raise rw_ma_raise 0 0) (0, 0) 80 [some (mv_R 15), some (mv_R (90 + 5 * b)), some (mv_R (90 + 5 * (b + 1))), some (mv_I (t : Int)), some (mv_I x), some (mv_I (i : Int))] [] h n := by
  refine go_iload (q := 82) d_ma_raise_80 rfl rfl ?_
  refine go_iload_n (q := 83) d_ma_raise_82 rfl rfl rfl ?_
  refine go_icmp_ge (t := 122) (q := 86) d_ma_raise_83 (by decide) rfl (by omega) (by omega) (fun c1 => ?_) (fun c1 => ?_)
  ·
    refine go_iload (q := 124) d_ma_raise_122 rfl rfl ?_
    exact k0 c1
  ·
    refine go_iload (q := 88) d_ma_raise_86 rfl rfl ?_
    refine go_if_ne (t := 122) (q := 91) d_ma_raise_88 (by decide) rfl (by omega) (fun c2 => ?_) (fun c2 => ?_)
    ·
      refine go_iload (q := 124) d_ma_raise_122 rfl rfl ?_
      exact k1 c1 c2
    ·
      refine go_aload_n (q := 92) d_ma_raise_91 rfl rfl rfl ?_
      refine go_getf (v := mv_R 16) (q := 95) f_ma_12 d_ma_raise_92 rfl (pn_c15 hV) rfl ?_
      refine go_aload_n (q := 96) d_ma_raise_95 rfl rfl rfl ?_
      refine go_getf (v := mv_R 40) (q := 99) f_ma_28 d_ma_raise_96 rfl (pn_c15 hV) rfl ?_
      refine go_aload_n (q := 100) d_ma_raise_99 rfl rfl rfl ?_
      refine go_getf (q := 103) f_ma_106 d_ma_raise_100 rfl (pn_cf hV (a := 90 + 5 * b) (fa_s (by omega))) rfl ?_
      refine go_aload_n (q := 104) d_ma_raise_103 rfl rfl rfl ?_
      refine go_getf (q := 107) f_ma_127 d_ma_raise_104 rfl (pn_cf hV (a := 90 + 5 * b) (fa_s (by omega))) rfl ?_
      refine go_aload_n (q := 108) d_ma_raise_107 rfl rfl rfl ?_
      refine go_getf (q := 111) f_ma_113 d_ma_raise_108 rfl (pn_cf hV (a := 90 + 5 * b) (fa_s (by omega))) rfl ?_
      rw [(show B (90 + 5 * b) = B (90 + 5 * b) from rfl)]
      have q_3 := hV.2.1 (90 + 5 * b)
      rw [(show B (90 + 5 * b) = B (90 + 5 * b) from rfl)] at q_3
      exact k2 c1 c2

set_option maxRecDepth 4000 in
theorem sn_raise_114 {φ : go_F} {l : Launch} {h : mv_H} {n : Nat} {I tx wr ga gb mo mf mg : Nat → Int} {B : Nat → Int} {V : Nat → Nat} {b t i : Nat} {x z : Int} (hV : pn_V h (I, tx, wr, ga, gb, mo, mf, mg) B V) 
    (k0 : Go φ l m_ma_raise (go_rm rd_ma_raise rw_ma_raise 0 0) (0, 0) 80 [some (mv_R 15), some (mv_R (90 + 5 * b)), some (mv_R (90 + 5 * (b + 1))), some (mv_I (t : Int)), some (mv_I z), some (mv_I ((i : Int) + 1))] [] h n) :
    Go φ l m_ma_raise (go_rm rd_ma_raise rw_ma_raise 0 0) (0, 0) 114 [some (mv_R 15), some (mv_R (90 + 5 * b)), some (mv_R (90 + 5 * (b + 1))), some (mv_I (t : Int)), some (mv_I x), some (mv_I (i : Int))] [mv_I z] h n := by
  refine go_istore (q := 116) (L' := [some (mv_R 15), some (mv_R (90 + 5 * b)), some (mv_R (90 + 5 * (b + 1))), some (mv_I (t : Int)), some (mv_I z), some (mv_I (i : Int))]) d_ma_raise_114 rfl (by decide) rfl ?_
  refine go_iinc (q := 119) (L' := [some (mv_R 15), some (mv_R (90 + 5 * b)), some (mv_R (90 + 5 * (b + 1))), some (mv_I (t : Int)), some (mv_I z), some (mv_I ((i : Int) + 1))]) d_ma_raise_116 rfl (by decide) rfl rfl ?_
  refine go_goto (q := 80) d_ma_raise_119 (by decide) ?_
  exact k0 

set_option maxRecDepth 4000 in
theorem sn_bwf {φ : go_F} {l : Launch} {R : Room} {u : Nat × Nat} {h : mv_H} {n : Nat} {c : Int} {k : Nat}  (hc : 0 ≤ c ∧ c ≤ 127) (hk : k ≤ 60)
    (k0 : c = 43 → (k : Int) ≤ 1 → Go φ l m_ma_beginsWithFirst R u 38 [some (mv_I c), some (mv_I (k : Int)), some (mv_I 1)] [mv_I 0] h n)
    (k1 : c = 43 → ¬ (k : Int) ≤ 1 → Go φ l m_ma_beginsWithFirst R u 38 [some (mv_I c), some (mv_I (k : Int)), some (mv_I 1)] [mv_I 0] h n)
    (k2 : ¬ c = 43 → c = 42 → (k : Int) ≤ 1 → Go φ l m_ma_beginsWithFirst R u 38 [some (mv_I c), some (mv_I (k : Int)), some (mv_I 1)] [mv_I 0] h n)
    (k3 : ¬ c = 43 → c = 42 → ¬ (k : Int) ≤ 1 → Go φ l m_ma_beginsWithFirst R u 38 [some (mv_I c), some (mv_I (k : Int)), some (mv_I 1)] [mv_I 0] h n)
    (k4 : ¬ c = 43 → ¬ c = 42 → ¬ c = 103 → (k : Int) ≤ 1 → Go φ l m_ma_beginsWithFirst R u 38 [some (mv_I c), some (mv_I (k : Int)), some (mv_I 0)] [mv_I 0] h n)
    (k5 : ¬ c = 43 → ¬ c = 42 → ¬ c = 103 → ¬ (k : Int) ≤ 1 → Go φ l m_ma_beginsWithFirst R u 38 [some (mv_I c), some (mv_I (k : Int)), some (mv_I 0)] [mv_I 1] h n)
    (k6 : ¬ c = 43 → ¬ c = 42 → c = 103 → (k : Int) ≤ 1 → Go φ l m_ma_beginsWithFirst R u 38 [some (mv_I c), some (mv_I (k : Int)), some (mv_I 1)] [mv_I 0] h n)
    (k7 : ¬ c = 43 → ¬ c = 42 → c = 103 → ¬ (k : Int) ≤ 1 → Go φ l m_ma_beginsWithFirst R u 38 [some (mv_I c), some (mv_I (k : Int)), some (mv_I 1)] [mv_I 0] h n) :
    Go φ l m_ma_beginsWithFirst R u 0 [some (mv_I c), some (mv_I (k : Int)), none] [] h n := by
  refine go_iload_n (q := 1) d_ma_beginsWithFirst_0 rfl rfl rfl ?_
  refine go_bipush (q := 3) d_ma_beginsWithFirst_1 rfl (by decide) ?_
  refine go_icmp_eq (t := 18) (q := 6) d_ma_beginsWithFirst_3 (by decide) rfl (by omega) (by omega) (fun c1 => ?_) (fun c1 => ?_)
  ·
    refine go_iconst (q := 19) d_ma_beginsWithFirst_18 rfl ?_
    refine go_goto (q := 23) d_ma_beginsWithFirst_19 (by decide) ?_
    refine go_istore_n (q := 24) (L' := [some (mv_I c), some (mv_I (k : Int)), some (mv_I 1)]) d_ma_beginsWithFirst_23 rfl rfl (by decide) rfl ?_
    refine go_iload_n (q := 25) d_ma_beginsWithFirst_24 rfl rfl rfl ?_
    refine go_iconst (q := 26) d_ma_beginsWithFirst_25 rfl ?_
    refine go_icmp_le (t := 37) (q := 29) d_ma_beginsWithFirst_26 (by decide) rfl (by omega) (by omega) (fun c2 => ?_) (fun c2 => ?_)
    ·
      refine go_iconst (q := 38) d_ma_beginsWithFirst_37 rfl ?_
      exact k0 c1 c2
    ·
      refine go_iload_n (q := 30) d_ma_beginsWithFirst_29 rfl rfl rfl ?_
      refine go_if_ne (t := 37) (q := 33) d_ma_beginsWithFirst_30 (by decide) rfl (by omega) (fun c3 => ?_) (fun c3 => ?_)
      ·
        refine go_iconst (q := 38) d_ma_beginsWithFirst_37 rfl ?_
        exact k1 c1 c2
      ·
        exfalso; omega
  ·
    refine go_iload_n (q := 7) d_ma_beginsWithFirst_6 rfl rfl rfl ?_
    refine go_bipush (q := 9) d_ma_beginsWithFirst_7 rfl (by decide) ?_
    refine go_icmp_eq (t := 18) (q := 12) d_ma_beginsWithFirst_9 (by decide) rfl (by omega) (by omega) (fun c4 => ?_) (fun c4 => ?_)
    ·
      refine go_iconst (q := 19) d_ma_beginsWithFirst_18 rfl ?_
      refine go_goto (q := 23) d_ma_beginsWithFirst_19 (by decide) ?_
      refine go_istore_n (q := 24) (L' := [some (mv_I c), some (mv_I (k : Int)), some (mv_I 1)]) d_ma_beginsWithFirst_23 rfl rfl (by decide) rfl ?_
      refine go_iload_n (q := 25) d_ma_beginsWithFirst_24 rfl rfl rfl ?_
      refine go_iconst (q := 26) d_ma_beginsWithFirst_25 rfl ?_
      refine go_icmp_le (t := 37) (q := 29) d_ma_beginsWithFirst_26 (by decide) rfl (by omega) (by omega) (fun c5 => ?_) (fun c5 => ?_)
      ·
        refine go_iconst (q := 38) d_ma_beginsWithFirst_37 rfl ?_
        exact k2 c1 c4 c5
      ·
        refine go_iload_n (q := 30) d_ma_beginsWithFirst_29 rfl rfl rfl ?_
        refine go_if_ne (t := 37) (q := 33) d_ma_beginsWithFirst_30 (by decide) rfl (by omega) (fun c6 => ?_) (fun c6 => ?_)
        ·
          refine go_iconst (q := 38) d_ma_beginsWithFirst_37 rfl ?_
          exact k3 c1 c4 c5
        ·
          exfalso; omega
    ·
      refine go_iload_n (q := 13) d_ma_beginsWithFirst_12 rfl rfl rfl ?_
      refine go_bipush (q := 15) d_ma_beginsWithFirst_13 rfl (by decide) ?_
      refine go_icmp_ne (t := 22) (q := 18) d_ma_beginsWithFirst_15 (by decide) rfl (by omega) (by omega) (fun c7 => ?_) (fun c7 => ?_)
      ·
        refine go_iconst (q := 23) d_ma_beginsWithFirst_22 rfl ?_
        refine go_istore_n (q := 24) (L' := [some (mv_I c), some (mv_I (k : Int)), some (mv_I 0)]) d_ma_beginsWithFirst_23 rfl rfl (by decide) rfl ?_
        refine go_iload_n (q := 25) d_ma_beginsWithFirst_24 rfl rfl rfl ?_
        refine go_iconst (q := 26) d_ma_beginsWithFirst_25 rfl ?_
        refine go_icmp_le (t := 37) (q := 29) d_ma_beginsWithFirst_26 (by decide) rfl (by omega) (by omega) (fun c8 => ?_) (fun c8 => ?_)
        ·
          refine go_iconst (q := 38) d_ma_beginsWithFirst_37 rfl ?_
          exact k4 c1 c4 c7 c8
        ·
          refine go_iload_n (q := 30) d_ma_beginsWithFirst_29 rfl rfl rfl ?_
          refine go_if_ne (t := 37) (q := 33) d_ma_beginsWithFirst_30 (by decide) rfl (by omega) (fun c9 => ?_) (fun c9 => ?_)
          ·
            exfalso; omega
          ·
            refine go_iconst (q := 34) d_ma_beginsWithFirst_33 rfl ?_
            refine go_goto (q := 38) d_ma_beginsWithFirst_34 (by decide) ?_
            exact k5 c1 c4 c7 c8
      ·
        refine go_iconst (q := 19) d_ma_beginsWithFirst_18 rfl ?_
        refine go_goto (q := 23) d_ma_beginsWithFirst_19 (by decide) ?_
        refine go_istore_n (q := 24) (L' := [some (mv_I c), some (mv_I (k : Int)), some (mv_I 1)]) d_ma_beginsWithFirst_23 rfl rfl (by decide) rfl ?_
        refine go_iload_n (q := 25) d_ma_beginsWithFirst_24 rfl rfl rfl ?_
        refine go_iconst (q := 26) d_ma_beginsWithFirst_25 rfl ?_
        refine go_icmp_le (t := 37) (q := 29) d_ma_beginsWithFirst_26 (by decide) rfl (by omega) (by omega) (fun c10 => ?_) (fun c10 => ?_)
        ·
          refine go_iconst (q := 38) d_ma_beginsWithFirst_37 rfl ?_
          exact k6 c1 c4 c7 c10
        ·
          refine go_iload_n (q := 30) d_ma_beginsWithFirst_29 rfl rfl rfl ?_
          refine go_if_ne (t := 37) (q := 33) d_ma_beginsWithFirst_30 (by decide) rfl (by omega) (fun c11 => ?_) (fun c11 => ?_)
          ·
            refine go_iconst (q := 38) d_ma_beginsWithFirst_37 rfl ?_
            exact k7 c1 c4 c7 c10
          ·
            exfalso; omega

set_option maxRecDepth 4000 in
theorem sn_fold_0 {φ : go_F} {l : Launch} {h : mv_H} {n : Nat} {I tx wr ga gb mo mf mg : Nat → Int} {B : Nat → Int} {V : Nat → Nat} {k b m : Nat} (hV : pn_V h (I, tx, wr, ga, gb, mo, mf, mg) B V) (hO : I 4 = (k : Int) + 1 ∧ k < 12) (hb : mf k = (b : Int) ∧ b < 60) (hm : 0 ≤ mo k ∧ mo k ≤ 127) (h5 : I 5 = (m : Int))
    (k0 : Go φ l m_ma_fold (go_rm rd_ma_fold rw_ma_fold 0 0) (0, 0) 31 [some (mv_R 15), some (mv_I (mo k)), some (mv_I (mf k)), none, none, none] [mv_I ((I 5) - (mf k)), mv_I (mo k)] h n) :
    Go φ l m_ma_fold (go_rm rd_ma_fold rw_ma_fold 0 0) (0, 0) 0 [some (mv_R 15), none, none, none, none, none] [] h n := by
  refine go_aload_n (q := 1) d_ma_fold_0 rfl rfl rfl ?_
  refine go_getf (v := mv_R 47) (q := 4) f_ma_41 d_ma_fold_1 rfl (pn_c15 hV) rfl ?_
  refine go_aload_n (q := 5) d_ma_fold_4 rfl rfl rfl ?_
  refine go_getf (v := mv_I (I 4)) (q := 8) f_ma_52 d_ma_fold_5 rfl (pn_c15 hV) rfl ?_
  refine go_iconst (q := 9) d_ma_fold_8 rfl ?_
  refine go_isub (q := 10) d_ma_fold_9 rfl ?_
  refine go_cald (i := k) (q := 11) d_ma_fold_10 rfl (pn_c47 hV) (by omega) (by omega) (by omega) ?_
  refine go_istore_n (q := 12) (L' := [some (mv_R 15), some (mv_I (mo k)), none, none, none, none]) d_ma_fold_11 rfl rfl (by decide) rfl ?_
  refine go_aload_n (q := 13) d_ma_fold_12 rfl rfl rfl ?_
  refine go_getf (v := mv_R 48) (q := 16) f_ma_45 d_ma_fold_13 rfl (pn_c15 hV) rfl ?_
  refine go_aload_n (q := 17) d_ma_fold_16 rfl rfl rfl ?_
  refine go_getf (v := mv_I (I 4)) (q := 20) f_ma_52 d_ma_fold_17 rfl (pn_c15 hV) rfl ?_
  refine go_iconst (q := 21) d_ma_fold_20 rfl ?_
  refine go_isub (q := 22) d_ma_fold_21 rfl ?_
  refine go_iald (i := k) (q := 23) d_ma_fold_22 rfl (pn_c48 hV) (by omega) (by omega) (by omega) ?_
  refine go_istore_n (q := 24) (L' := [some (mv_R 15), some (mv_I (mo k)), some (mv_I (mf k)), none, none, none]) d_ma_fold_23 rfl rfl (by decide) rfl ?_
  refine go_iload_n (q := 25) d_ma_fold_24 rfl rfl rfl ?_
  refine go_aload_n (q := 26) d_ma_fold_25 rfl rfl rfl ?_
  refine go_getf (v := mv_I (I 5)) (q := 29) f_ma_56 d_ma_fold_26 rfl (pn_c15 hV) rfl ?_
  refine go_iload_n (q := 30) d_ma_fold_29 rfl rfl rfl ?_
  refine go_isub (q := 31) d_ma_fold_30 rfl ?_
  exact k0 

set_option maxRecDepth 4000 in
theorem sn_fold_34 {φ : go_F} {l : Launch} {h : mv_H} {n : Nat} {I tx wr ga gb mo mf mg : Nat → Int} {B : Nat → Int} {V : Nat → Nat} {b : Nat} {c z : Int} (hV : pn_V h (I, tx, wr, ga, gb, mo, mf, mg) B V) (hc : 0 ≤ c ∧ c ≤ 127) (hz : 0 ≤ z ∧ z ≤ 1) (hb : b < 60)
    (k0 : z = 0 → c = 42 → ∀ h' : mv_H, pn_V h' (I, tx, wr, ga, gb, mo, mf, mg) (va_up B 40 0) (va_up (va_up V 41 1) 43 1) → fr_ 1 389 h h' → Go φ l m_ma_fold (go_rm rd_ma_fold rw_ma_fold 0 0) (0, 0) 95 [some (mv_R 15), some (mv_I c), some (mv_I (b : Int)), some (mv_I z), some (mv_I 0), some (mv_I (b : Int))] [] h' n)
    (k1 : z = 0 → ¬ c = 42 → ¬ c = 47 → ∀ h' : mv_H, pn_V h' (I, tx, wr, ga, gb, mo, mf, mg) (va_up B 40 0) (va_up (va_up V 41 0) 43 1) → fr_ 1 389 h h' → Go φ l m_ma_fold (go_rm rd_ma_fold rw_ma_fold 0 0) (0, 0) 95 [some (mv_R 15), some (mv_I c), some (mv_I (b : Int)), some (mv_I z), some (mv_I 0), some (mv_I (b : Int))] [] h' n)
    (k2 : z = 0 → ¬ c = 42 → c = 47 → ∀ h' : mv_H, pn_V h' (I, tx, wr, ga, gb, mo, mf, mg) (va_up B 40 0) (va_up (va_up V 41 1) 43 1) → fr_ 1 389 h h' → Go φ l m_ma_fold (go_rm rd_ma_fold rw_ma_fold 0 0) (0, 0) 95 [some (mv_R 15), some (mv_I c), some (mv_I (b : Int)), some (mv_I z), some (mv_I 0), some (mv_I (b : Int))] [] h' n)
    (k3 : ¬ z = 0 → ∀ h' : mv_H, pn_V h' (I, tx, wr, ga, gb, mo, mf, mg) (va_up B 40 (B (90 + 5 * b))) (va_up (va_up V 41 (V ((90 + 5 * b) + 1))) 43 (V ((90 + 5 * b) + 3))) → fr_ 1 389 h h' → Go φ l m_ma_fold (go_rm rd_ma_fold rw_ma_fold 0 0) (0, 0) 95 [some (mv_R 15), some (mv_I c), some (mv_I (b : Int)), some (mv_I z), some (mv_I 0), some (mv_I ((b : Int) + 1))] [] h' n) :
    Go φ l m_ma_fold (go_rm rd_ma_fold rw_ma_fold 0 0) (0, 0) 34 [some (mv_R 15), some (mv_I c), some (mv_I (b : Int)), none, none, none] [mv_I z] h n := by
  refine go_istore_n (q := 35) (L' := [some (mv_R 15), some (mv_I c), some (mv_I (b : Int)), some (mv_I z), none, none]) d_ma_fold_34 rfl rfl (by decide) rfl ?_
  refine go_iload_n (q := 36) d_ma_fold_35 rfl rfl rfl ?_
  refine go_if_eq (t := 55) (q := 39) d_ma_fold_36 (by decide) rfl (by omega) (fun c1 => ?_) (fun c1 => ?_)
  ·
    refine go_aload_n (q := 56) d_ma_fold_55 rfl rfl rfl ?_
    refine go_getf (v := mv_R 40) (q := 59) f_ma_28 d_ma_fold_56 rfl (pn_c15 hV) rfl ?_
    refine go_iload_n (q := 60) d_ma_fold_59 rfl rfl rfl ?_
    refine go_bipush (q := 62) d_ma_fold_60 rfl (by decide) ?_
    refine go_icmp_eq (t := 71) (q := 65) d_ma_fold_62 (by decide) rfl (by omega) (by omega) (fun c2 => ?_) (fun c2 => ?_)
    ·
      refine go_iconst (q := 72) d_ma_fold_71 rfl ?_
      refine go_goto (q := 76) d_ma_fold_72 (by decide) ?_
      refine cp_fr_become (a := 40) (v := 1) (q := 79) l_ma_105 d_ma_fold_76 rfl hV fa_t (by omega) (Nat.le_of_ble_eq_true rfl) ⟨by decide, by decide, by decide, by decide⟩ (fun h_3 hV_4 fr_5 => ?_)
      have hV_6 : pn_V h_3 (I, tx, wr, ga, gb, mo, mf, mg) (va_up B 40 0) (va_up (va_up V 41 1) 43 1) := hV_4
      refine go_iconst (q := 80) d_ma_fold_79 rfl ?_
      refine go_istore (q := 82) (L' := [some (mv_R 15), some (mv_I c), some (mv_I (b : Int)), some (mv_I z), some (mv_I 0), none]) d_ma_fold_80 rfl (by decide) rfl ?_
      refine go_iload_n (q := 83) d_ma_fold_82 rfl rfl rfl ?_
      refine go_if_eq (t := 92) (q := 86) d_ma_fold_83 (by decide) rfl (by omega) (fun c7 => ?_) (fun c7 => ?_)
      ·
        refine go_iload_n (q := 93) d_ma_fold_92 rfl rfl rfl ?_
        refine go_istore (q := 95) (L' := [some (mv_R 15), some (mv_I c), some (mv_I (b : Int)), some (mv_I z), some (mv_I 0), some (mv_I (b : Int))]) d_ma_fold_93 rfl (by decide) rfl ?_
        exact k0 c1 c2 _ hV_6 fr_5
      ·
        exfalso; omega
    ·
      refine go_iload_n (q := 66) d_ma_fold_65 rfl rfl rfl ?_
      refine go_bipush (q := 68) d_ma_fold_66 rfl (by decide) ?_
      refine go_icmp_ne (t := 75) (q := 71) d_ma_fold_68 (by decide) rfl (by omega) (by omega) (fun c8 => ?_) (fun c8 => ?_)
      ·
        refine go_iconst (q := 76) d_ma_fold_75 rfl ?_
        refine cp_fr_become (a := 40) (v := 0) (q := 79) l_ma_105 d_ma_fold_76 rfl hV fa_t (by omega) (Nat.le_of_ble_eq_true rfl) ⟨by decide, by decide, by decide, by decide⟩ (fun h_9 hV_10 fr_11 => ?_)
        have hV_12 : pn_V h_9 (I, tx, wr, ga, gb, mo, mf, mg) (va_up B 40 0) (va_up (va_up V 41 0) 43 1) := hV_10
        refine go_iconst (q := 80) d_ma_fold_79 rfl ?_
        refine go_istore (q := 82) (L' := [some (mv_R 15), some (mv_I c), some (mv_I (b : Int)), some (mv_I z), some (mv_I 0), none]) d_ma_fold_80 rfl (by decide) rfl ?_
        refine go_iload_n (q := 83) d_ma_fold_82 rfl rfl rfl ?_
        refine go_if_eq (t := 92) (q := 86) d_ma_fold_83 (by decide) rfl (by omega) (fun c13 => ?_) (fun c13 => ?_)
        ·
          refine go_iload_n (q := 93) d_ma_fold_92 rfl rfl rfl ?_
          refine go_istore (q := 95) (L' := [some (mv_R 15), some (mv_I c), some (mv_I (b : Int)), some (mv_I z), some (mv_I 0), some (mv_I (b : Int))]) d_ma_fold_93 rfl (by decide) rfl ?_
          exact k1 c1 c2 c8 _ hV_12 fr_11
        ·
          exfalso; omega
      ·
        refine go_iconst (q := 72) d_ma_fold_71 rfl ?_
        refine go_goto (q := 76) d_ma_fold_72 (by decide) ?_
        refine cp_fr_become (a := 40) (v := 1) (q := 79) l_ma_105 d_ma_fold_76 rfl hV fa_t (by omega) (Nat.le_of_ble_eq_true rfl) ⟨by decide, by decide, by decide, by decide⟩ (fun h_14 hV_15 fr_16 => ?_)
        have hV_17 : pn_V h_14 (I, tx, wr, ga, gb, mo, mf, mg) (va_up B 40 0) (va_up (va_up V 41 1) 43 1) := hV_15
        refine go_iconst (q := 80) d_ma_fold_79 rfl ?_
        refine go_istore (q := 82) (L' := [some (mv_R 15), some (mv_I c), some (mv_I (b : Int)), some (mv_I z), some (mv_I 0), none]) d_ma_fold_80 rfl (by decide) rfl ?_
        refine go_iload_n (q := 83) d_ma_fold_82 rfl rfl rfl ?_
        refine go_if_eq (t := 92) (q := 86) d_ma_fold_83 (by decide) rfl (by omega) (fun c18 => ?_) (fun c18 => ?_)
        ·
          refine go_iload_n (q := 93) d_ma_fold_92 rfl rfl rfl ?_
          refine go_istore (q := 95) (L' := [some (mv_R 15), some (mv_I c), some (mv_I (b : Int)), some (mv_I z), some (mv_I 0), some (mv_I (b : Int))]) d_ma_fold_93 rfl (by decide) rfl ?_
          exact k2 c1 c2 c8 _ hV_17 fr_16
        ·
          exfalso; omega
  ·
    refine go_aload_n (q := 40) d_ma_fold_39 rfl rfl rfl ?_
    refine go_getf (v := mv_R 40) (q := 43) f_ma_28 d_ma_fold_40 rfl (pn_c15 hV) rfl ?_
    refine go_aload_n (q := 44) d_ma_fold_43 rfl rfl rfl ?_
    refine go_getf (v := mv_R 39) (q := 47) f_ma_24 d_ma_fold_44 rfl (pn_c15 hV) rfl ?_
    refine go_iload_n (q := 48) d_ma_fold_47 rfl rfl rfl ?_
    obtain ⟨f_19, e_20, e_21⟩ := pn_q39 hV
    refine go_aald (i := b) (j := 90 + 5 * b) (q := 49) d_ma_fold_48 rfl e_20 (by omega) (by omega) (by omega) (e_21 _ (by omega)) ?_
    refine cp_fr_copy (a := 40) (c := 90 + 5 * b) (q := 52) l_ma_85 d_ma_fold_49 rfl hV fa_t (fa_s (by omega)) (by omega) (Nat.le_of_ble_eq_true rfl) ⟨by decide, by decide, by decide, by decide⟩ (fun h_22 hV_23 fr_24 => ?_)
    have hV_25 : pn_V h_22 (I, tx, wr, ga, gb, mo, mf, mg) (va_up B 40 (B (90 + 5 * b))) (va_up (va_up V 41 (V ((90 + 5 * b) + 1))) 43 (V ((90 + 5 * b) + 3))) := by
      try rw [(show V ((90 + 5 * b) + 1) = V ((90 + 5 * b) + 1) from rfl)] at hV_23
      try rw [(show V ((90 + 5 * b) + 3) = V ((90 + 5 * b) + 3) from rfl)] at hV_23
      try rw [(show B (90 + 5 * b) = B (90 + 5 * b) from rfl)] at hV_23
      exact hV_23
    refine go_goto (q := 79) d_ma_fold_52 (by decide) ?_
    refine go_iconst (q := 80) d_ma_fold_79 rfl ?_
    refine go_istore (q := 82) (L' := [some (mv_R 15), some (mv_I c), some (mv_I (b : Int)), some (mv_I z), some (mv_I 0), none]) d_ma_fold_80 rfl (by decide) rfl ?_
    refine go_iload_n (q := 83) d_ma_fold_82 rfl rfl rfl ?_
    refine go_if_eq (t := 92) (q := 86) d_ma_fold_83 (by decide) rfl (by omega) (fun c26 => ?_) (fun c26 => ?_)
    ·
      exfalso; omega
    ·
      refine go_iload_n (q := 87) d_ma_fold_86 rfl rfl rfl ?_
      refine go_iconst (q := 88) d_ma_fold_87 rfl ?_
      refine go_iadd (q := 89) d_ma_fold_88 rfl ?_
      refine go_goto (q := 93) d_ma_fold_89 (by decide) ?_
      refine go_istore (q := 95) (L' := [some (mv_R 15), some (mv_I c), some (mv_I (b : Int)), some (mv_I z), some (mv_I 0), some (mv_I ((b : Int) + 1))]) d_ma_fold_93 rfl (by decide) rfl ?_
      exact k3 c1 _ hV_25 fr_24

set_option maxRecDepth 4000 in
theorem sn_fold_95 {φ : go_F} {l : Launch} {h : mv_H} {n : Nat} {I tx wr ga gb mo mf mg : Nat → Int} {B : Nat → Int} {V : Nat → Nat} {b i m : Nat} {c z x : Int} (hV : pn_V h (I, tx, wr, ga, gb, mo, mf, mg) B V) (h5 : I 5 = (m : Int) ∧ m ≤ 60 ∧ i ≤ 61) (hx : 0 ≤ x ∧ x ≤ 3)
    (k0 : I 5 ≤ (i : Int) → Go φ l m_ma_fold (go_rm rd_ma_fold rw_ma_fold 0 0) (0, 0) 131 [some (mv_R 15), some (mv_I c), some (mv_I (b : Int)), some (mv_I z), some (mv_I x), some (mv_I (i : Int))] [mv_I x] h n)
    (k1 : ¬ I 5 ≤ (i : Int) → ¬ x = 0 → Go φ l m_ma_fold (go_rm rd_ma_fold rw_ma_fold 0 0) (0, 0) 131 [some (mv_R 15), some (mv_I c), some (mv_I (b : Int)), some (mv_I z), some (mv_I x), some (mv_I (i : Int))] [mv_I x] h n)
    (k2 : ¬ I 5 ≤ (i : Int) → x = 0 → Go φ l m_ma_fold (go_rm rd_ma_fold rw_ma_fold 0 0) (0, 0) 118 [some (mv_R 15), some (mv_I c), some (mv_I (b : Int)), some (mv_I z), some (mv_I x), some (mv_I (i : Int))] [mv_R (90 + 5 * i), mv_I c, mv_R 15] h n) :
    Go φ l m_ma_fold (go_rm rd_ma_fold rw_ma_fold 0 0) (0, 0) 95 [some (mv_R 15), some (mv_I c), some (mv_I (b : Int)), some (mv_I z), some (mv_I x), some (mv_I (i : Int))] [] h n := by
  refine go_iload (q := 97) d_ma_fold_95 rfl rfl ?_
  refine go_aload_n (q := 98) d_ma_fold_97 rfl rfl rfl ?_
  refine go_getf (v := mv_I (I 5)) (q := 101) f_ma_56 d_ma_fold_98 rfl (pn_c15 hV) rfl ?_
  refine go_icmp_ge (t := 129) (q := 104) d_ma_fold_101 (by decide) rfl (by omega) (by omega) (fun c1 => ?_) (fun c1 => ?_)
  ·
    refine go_iload (q := 131) d_ma_fold_129 rfl rfl ?_
    exact k0 c1
  ·
    refine go_iload (q := 106) d_ma_fold_104 rfl rfl ?_
    refine go_if_ne (t := 129) (q := 109) d_ma_fold_106 (by decide) rfl (by omega) (fun c2 => ?_) (fun c2 => ?_)
    ·
      refine go_iload (q := 131) d_ma_fold_129 rfl rfl ?_
      exact k1 c1 c2
    ·
      refine go_aload_n (q := 110) d_ma_fold_109 rfl rfl rfl ?_
      refine go_iload_n (q := 111) d_ma_fold_110 rfl rfl rfl ?_
      refine go_aload_n (q := 112) d_ma_fold_111 rfl rfl rfl ?_
      refine go_getf (v := mv_R 39) (q := 115) f_ma_24 d_ma_fold_112 rfl (pn_c15 hV) rfl ?_
      refine go_iload (q := 117) d_ma_fold_115 rfl rfl ?_
      obtain ⟨f_3, e_4, e_5⟩ := pn_q39 hV
      refine go_aald (i := i) (j := 90 + 5 * i) (q := 118) d_ma_fold_117 rfl e_4 (by omega) (by omega) (by omega) (e_5 _ (by omega)) ?_
      exact k2 c1 c2

set_option maxRecDepth 4000 in
theorem sn_fold_121 {φ : go_F} {l : Launch} {h : mv_H} {n : Nat} {I tx wr ga gb mo mf mg : Nat → Int} {B : Nat → Int} {V : Nat → Nat} {b i : Nat} {c z x y : Int} (hV : pn_V h (I, tx, wr, ga, gb, mo, mf, mg) B V) 
    (k0 : Go φ l m_ma_fold (go_rm rd_ma_fold rw_ma_fold 0 0) (0, 0) 95 [some (mv_R 15), some (mv_I c), some (mv_I (b : Int)), some (mv_I z), some (mv_I y), some (mv_I ((i : Int) + 1))] [] h n) :
    Go φ l m_ma_fold (go_rm rd_ma_fold rw_ma_fold 0 0) (0, 0) 121 [some (mv_R 15), some (mv_I c), some (mv_I (b : Int)), some (mv_I z), some (mv_I x), some (mv_I (i : Int))] [mv_I y] h n := by
  refine go_istore (q := 123) (L' := [some (mv_R 15), some (mv_I c), some (mv_I (b : Int)), some (mv_I z), some (mv_I y), some (mv_I (i : Int))]) d_ma_fold_121 rfl (by decide) rfl ?_
  refine go_iinc (q := 126) (L' := [some (mv_R 15), some (mv_I c), some (mv_I (b : Int)), some (mv_I z), some (mv_I y), some (mv_I ((i : Int) + 1))]) d_ma_fold_123 rfl (by decide) rfl rfl ?_
  refine go_goto (q := 95) d_ma_fold_126 (by decide) ?_
  exact k0 

set_option maxRecDepth 4000 in
theorem sn_wo_0 {φ : go_F} {l : Launch} {h : mv_H} {n : Nat} {I tx wr ga gb mo mf mg : Nat → Int} {B : Nat → Int} {V : Nat → Nat} {len : Nat} (hV : pn_V h (I, tx, wr, ga, gb, mo, mf, mg) B V) 
    (k0 : ∀ h' : mv_H, pn_V h' (va_up (va_up I 4 0) 5 0, tx, wr, ga, gb, mo, mf, mg) B V → fr_ 1 389 h h' → Go φ l m_ma_workOut (go_rm rd_ma_workOut rw_ma_workOut 0 0) (0, 0) 18 [some (mv_R 15), some (mv_R 2), some (mv_I (len : Int)), some (mv_I 0), some (mv_I 0), some (mv_I 0), none] [] h' n) :
    Go φ l m_ma_workOut (go_rm rd_ma_workOut rw_ma_workOut 0 0) (0, 0) 0 [some (mv_R 15), some (mv_R 2), some (mv_I (len : Int)), none, none, none, none] [] h n := by
  refine go_aload_n (q := 1) d_ma_workOut_0 rfl rfl rfl ?_
  refine go_iconst (q := 2) d_ma_workOut_1 rfl ?_
  refine go_putf (q := 5) (v := mv_I 0) f_ma_52 d_ma_workOut_2 rfl (pn_c15 hV) (Nat.le_of_ble_eq_true rfl) (go_fitI _) ?_
  refine go_eq (h' := va_up h 15 (mv_O 4 [mv_R 16, mv_R 38, mv_R 39, mv_R 40, mv_R 45, mv_R 47, mv_R 48, mv_R 49, mv_I ((va_up I 4 0) 4), mv_I ((va_up I 4 0) 5)])) ?_
  have hV_2 := pn_u15 hV (va_up I 4 0) (fun i_ h_4 h_5 => va_up_ne _ _ h_4)
  have fr_3 : fr_ 1 389 h (va_up h 15 (mv_O 4 [mv_R 16, mv_R 38, mv_R 39, mv_R 40, mv_R 45, mv_R 47, mv_R 48, mv_R 49, mv_I ((va_up I 4 0) 4), mv_I ((va_up I 4 0) 5)])) := fun z_ hz => va_up_ne _ _ (by omega)
  generalize va_up h 15 (mv_O 4 [mv_R 16, mv_R 38, mv_R 39, mv_R 40, mv_R 45, mv_R 47, mv_R 48, mv_R 49, mv_I ((va_up I 4 0) 4), mv_I ((va_up I 4 0) 5)]) = h_1 at hV_2 fr_3 ⊢
  refine go_aload_n (q := 6) d_ma_workOut_5 rfl rfl rfl ?_
  refine go_iconst (q := 7) d_ma_workOut_6 rfl ?_
  refine go_putf (q := 10) (v := mv_I 0) f_ma_56 d_ma_workOut_7 rfl (pn_c15 hV_2) (Nat.le_of_ble_eq_true rfl) (go_fitI _) ?_
  refine go_eq (h' := va_up h_1 15 (mv_O 4 [mv_R 16, mv_R 38, mv_R 39, mv_R 40, mv_R 45, mv_R 47, mv_R 48, mv_R 49, mv_I ((va_up (va_up I 4 0) 5 0) 4), mv_I ((va_up (va_up I 4 0) 5 0) 5)])) ?_
  have hV_5 := pn_u15 hV_2 (va_up (va_up I 4 0) 5 0) (fun i_ h_4 h_5 => va_up_ne _ _ h_5)
  have fr_6 : fr_ 1 389 h_1 (va_up h_1 15 (mv_O 4 [mv_R 16, mv_R 38, mv_R 39, mv_R 40, mv_R 45, mv_R 47, mv_R 48, mv_R 49, mv_I ((va_up (va_up I 4 0) 5 0) 4), mv_I ((va_up (va_up I 4 0) 5 0) 5)])) := fun z_ hz => va_up_ne _ _ (by omega)
  generalize va_up h_1 15 (mv_O 4 [mv_R 16, mv_R 38, mv_R 39, mv_R 40, mv_R 45, mv_R 47, mv_R 48, mv_R 49, mv_I ((va_up (va_up I 4 0) 5 0) 4), mv_I ((va_up (va_up I 4 0) 5 0) 5)]) = h_4 at hV_5 fr_6 ⊢
  refine go_iconst (q := 11) d_ma_workOut_10 rfl ?_
  refine go_istore_n (q := 12) (L' := [some (mv_R 15), some (mv_R 2), some (mv_I (len : Int)), some (mv_I 0), none, none, none]) d_ma_workOut_11 rfl rfl (by decide) rfl ?_
  refine go_iconst (q := 13) d_ma_workOut_12 rfl ?_
  refine go_istore (q := 15) (L' := [some (mv_R 15), some (mv_R 2), some (mv_I (len : Int)), some (mv_I 0), some (mv_I 0), none, none]) d_ma_workOut_13 rfl (by decide) rfl ?_
  refine go_iconst (q := 16) d_ma_workOut_15 rfl ?_
  refine go_istore (q := 18) (L' := [some (mv_R 15), some (mv_R 2), some (mv_I (len : Int)), some (mv_I 0), some (mv_I 0), some (mv_I 0), none]) d_ma_workOut_16 rfl (by decide) rfl ?_
  exact k0  _ hV_5 (fr_.tr fr_3 fr_6)

set_option maxRecDepth 4000 in
theorem sn_wo_18 {φ : go_F} {l : Launch} {h : mv_H} {n : Nat} {I tx wr ga gb mo mf mg : Nat → Int} {B : Nat → Int} {V : Nat → Nat} {len p nx : Nat} {x : Int} (hV : pn_V h (I, tx, wr, ga, gb, mo, mf, mg) B V) (ht : ∀ i : Nat, 0 ≤ tx i ∧ tx i ≤ 127) (hl : len ≤ 120) (hp : p ≤ len ∧ nx ≤ len) (hx : 0 ≤ x ∧ x ≤ 3)
    (k0 : (len : Int) ≤ (p : Int) → Go φ l m_ma_workOut (go_rm rd_ma_workOut rw_ma_workOut 0 0) (0, 0) 217 [some (mv_R 15), some (mv_R 2), some (mv_I (len : Int)), some (mv_I x), some (mv_I (nx : Int)), some (mv_I (p : Int)), none] [] h n)
    (k1 : ¬ (len : Int) ≤ (p : Int) → ¬ x = 0 → Go φ l m_ma_workOut (go_rm rd_ma_workOut rw_ma_workOut 0 0) (0, 0) 217 [some (mv_R 15), some (mv_R 2), some (mv_I (len : Int)), some (mv_I x), some (mv_I (nx : Int)), some (mv_I (p : Int)), none] [] h n)
    (k2 : ¬ (len : Int) ≤ (p : Int) → x = 0 → (nx : Int) ≤ (p : Int) → Go φ l m_ma_workOut (go_rm rd_ma_workOut rw_ma_workOut 0 0) (0, 0) 44 [some (mv_R 15), some (mv_R 2), some (mv_I (len : Int)), some (mv_I x), some (mv_I (nx : Int)), some (mv_I (p : Int)), some (mv_I (tx p))] [] h n)
    (k3 : ¬ (len : Int) ≤ (p : Int) → x = 0 → ¬ (nx : Int) ≤ (p : Int) → Go φ l m_ma_workOut (go_rm rd_ma_workOut rw_ma_workOut 0 0) (0, 0) 18 [some (mv_R 15), some (mv_R 2), some (mv_I (len : Int)), some (mv_I x), some (mv_I (nx : Int)), some (mv_I ((p : Int) + 1)), none] [] h n) :
    Go φ l m_ma_workOut (go_rm rd_ma_workOut rw_ma_workOut 0 0) (0, 0) 18 [some (mv_R 15), some (mv_R 2), some (mv_I (len : Int)), some (mv_I x), some (mv_I (nx : Int)), some (mv_I (p : Int)), none] [] h n := by
  refine go_iload (q := 20) d_ma_workOut_18 rfl rfl ?_
  refine go_iload_n (q := 21) d_ma_workOut_20 rfl rfl rfl ?_
  refine go_icmp_ge (t := 217) (q := 24) d_ma_workOut_21 (by decide) rfl (by omega) (by omega) (fun c1 => ?_) (fun c1 => ?_)
  ·
    exact k0 c1
  ·
    refine go_iload_n (q := 25) d_ma_workOut_24 rfl rfl rfl ?_
    refine go_if_ne (t := 217) (q := 28) d_ma_workOut_25 (by decide) rfl (by omega) (fun c2 => ?_) (fun c2 => ?_)
    ·
      exact k1 c1 c2
    ·
      refine go_aload_n (q := 29) d_ma_workOut_28 rfl rfl rfl ?_
      refine go_iload (q := 31) d_ma_workOut_29 rfl rfl ?_
      refine go_cald (i := p) (q := 32) d_ma_workOut_31 rfl (pn_c2 hV) (by omega) (by omega) (by omega) ?_
      have q_3 := ht p
      refine go_istore (q := 34) (L' := [some (mv_R 15), some (mv_R 2), some (mv_I (len : Int)), some (mv_I x), some (mv_I (nx : Int)), some (mv_I (p : Int)), some (mv_I (tx p))]) d_ma_workOut_32 rfl (by decide) rfl ?_
      refine go_iload (q := 36) d_ma_workOut_34 rfl rfl ?_
      refine go_iload (q := 38) d_ma_workOut_36 rfl rfl ?_
      refine go_icmp_ge (t := 44) (q := 41) d_ma_workOut_38 (by decide) rfl (by omega) (by omega) (fun c4 => ?_) (fun c4 => ?_)
      ·
        exact k2 c1 c2 c4
      ·
        refine go_goto (q := 211) d_ma_workOut_41 (by decide) ?_
        refine go_iinc (q := 214) (L' := [some (mv_R 15), some (mv_R 2), some (mv_I (len : Int)), some (mv_I x), some (mv_I (nx : Int)), some (mv_I ((p : Int) + 1)), some (mv_I (tx p))]) d_ma_workOut_211 rfl (by decide) rfl rfl ?_
        refine go_goto (q := 18) d_ma_workOut_214 (by decide) ?_
        refine go_fg 6 (L' := [some (mv_R 15), some (mv_R 2), some (mv_I (len : Int)), some (mv_I x), some (mv_I (nx : Int)), some (mv_I ((p : Int) + 1)), none]) rfl ?_
        exact k3 c1 c2 c4

set_option maxRecDepth 4000 in
theorem sn_wo_44 {φ : go_F} {l : Launch} {h : mv_H} {n : Nat} {I tx wr ga gb mo mf mg : Nat → Int} {B : Nat → Int} {V : Nat → Nat} {len p nx k m : Nat} {x : Int} (hV : pn_V h (I, tx, wr, ga, gb, mo, mf, mg) B V) (ht : ∀ i : Nat, 0 ≤ tx i ∧ tx i ≤ 127) (hl : len ≤ 120) (hp : p < len) (hP : tx p = 40 → p + 1 < len) (hO : tx p = 41 → I 4 = (k : Int) + 1 ∧ k < 12 ∧ 0 ≤ mo k ∧ mo k ≤ 127) (hm : 97 ≤ tx p ∧ tx p ≤ 104 → I 5 = (m : Int) ∧ m < 60)
    (k0 : ¬ tx p = 40 → ¬ tx p = 41 → ¬ tx p = 32 → ¬ (97 ≤ (tx p) ∧ (tx p) ≤ 104) → Go φ l m_ma_workOut (go_rm rd_ma_workOut rw_ma_workOut 0 0) (0, 0) 196 [some (mv_R 15), some (mv_R 2), some (mv_I (len : Int)), some (mv_I x), some (mv_I (nx : Int)), some (mv_I (p : Int)), some (mv_I (tx p))] [mv_I (len : Int), mv_I (p : Int), mv_R 2, mv_R 15] h n)
    (k1 : ¬ tx p = 40 → ¬ tx p = 41 → ¬ tx p = 32 → (97 ≤ (tx p) ∧ (tx p) ≤ 104) → ∀ h' : mv_H, pn_V h' (va_up I 5 ((I 5) + 1), tx, wr, ga, gb, mo, mf, mg) (va_up B (90 + 5 * m) (B (50 + 5 * ((tx p - 97).toNat)))) (va_up (va_up V ((90 + 5 * m) + 1) (V ((50 + 5 * ((tx p - 97).toNat)) + 1))) ((90 + 5 * m) + 3) (V ((50 + 5 * ((tx p - 97).toNat)) + 3))) → fr_ 1 389 h h' → Go φ l m_ma_workOut (go_rm rd_ma_workOut rw_ma_workOut 0 0) (0, 0) 18 [some (mv_R 15), some (mv_R 2), some (mv_I (len : Int)), some (mv_I x), some (mv_I (nx : Int)), some (mv_I ((p : Int) + 1)), none] [] h' n)
    (k2 : ¬ tx p = 40 → ¬ tx p = 41 → tx p = 32 → Go φ l m_ma_workOut (go_rm rd_ma_workOut rw_ma_workOut 0 0) (0, 0) 120 [some (mv_R 15), some (mv_R 2), some (mv_I (len : Int)), some (mv_I x), some (mv_I (nx : Int)), some (mv_I (p : Int)), some (mv_I (tx p))] [mv_R 15] h n)
    (k3 : ¬ tx p = 40 → tx p = 41 → ¬ mo k = 94 → Go φ l m_ma_workOut (go_rm rd_ma_workOut rw_ma_workOut 0 0) (0, 0) 101 [some (mv_R 15), some (mv_R 2), some (mv_I (len : Int)), some (mv_I x), some (mv_I (nx : Int)), some (mv_I (p : Int)), some (mv_I (tx p))] [mv_R 15] h n)
    (k4 : ¬ tx p = 40 → tx p = 41 → mo k = 94 → Go φ l m_ma_workOut (go_rm rd_ma_workOut rw_ma_workOut 0 0) (0, 0) 94 [some (mv_R 15), some (mv_R 2), some (mv_I (len : Int)), some (mv_I x), some (mv_I (nx : Int)), some (mv_I (p : Int)), some (mv_I (tx p))] [mv_R 15] h n)
    (k5 : tx p = 40 → Go φ l m_ma_workOut (go_rm rd_ma_workOut rw_ma_workOut 0 0) (0, 0) 58 [some (mv_R 15), some (mv_R 2), some (mv_I (len : Int)), some (mv_I x), some (mv_I (nx : Int)), some (mv_I (p : Int)), some (mv_I (tx p))] [mv_I (tx (p + 1)), mv_R 15] h n) :
    Go φ l m_ma_workOut (go_rm rd_ma_workOut rw_ma_workOut 0 0) (0, 0) 44 [some (mv_R 15), some (mv_R 2), some (mv_I (len : Int)), some (mv_I x), some (mv_I (nx : Int)), some (mv_I (p : Int)), some (mv_I (tx p))] [] h n := by
  have q_0 := ht p
  refine go_iload (q := 46) d_ma_workOut_44 rfl rfl ?_
  refine go_bipush (q := 48) d_ma_workOut_46 rfl (by decide) ?_
  refine go_icmp_ne (t := 70) (q := 51) d_ma_workOut_48 (by decide) rfl (by omega) (by omega) (fun c1 => ?_) (fun c1 => ?_)
  ·
    refine go_iload (q := 72) d_ma_workOut_70 rfl rfl ?_
    refine go_bipush (q := 74) d_ma_workOut_72 rfl (by decide) ?_
    refine go_icmp_ne (t := 112) (q := 77) d_ma_workOut_74 (by decide) rfl (by omega) (by omega) (fun c2 => ?_) (fun c2 => ?_)
    ·
      refine go_iload (q := 114) d_ma_workOut_112 rfl rfl ?_
      refine go_bipush (q := 116) d_ma_workOut_114 rfl (by decide) ?_
      refine go_icmp_ne (t := 148) (q := 119) d_ma_workOut_116 (by decide) rfl (by omega) (by omega) (fun c3 => ?_) (fun c3 => ?_)
      ·
        refine go_iload (q := 150) d_ma_workOut_148 rfl rfl ?_
        refine cp_pn_isVariable (c := tx p) (q := 153) l_ma_81 d_ma_workOut_150 rfl (by omega) (Nat.le_of_ble_eq_true rfl) ⟨by decide, by decide, by decide, by decide⟩ ?_
        refine go_if_eq (t := 191) (q := 156) d_ma_workOut_153 (by decide) rfl it_rng (fun c4 => ?_) (fun c4 => ?_)
        · have c5 : ¬ (97 ≤ (tx p) ∧ (tx p) ≤ 104) := it_eqp c4
          refine go_aload_n (q := 192) d_ma_workOut_191 rfl rfl rfl ?_
          refine go_aload_n (q := 193) d_ma_workOut_192 rfl rfl rfl ?_
          refine go_iload (q := 195) d_ma_workOut_193 rfl rfl ?_
          refine go_iload_n (q := 196) d_ma_workOut_195 rfl rfl rfl ?_
          exact k0 c1 c2 c3 c5
        · have c6 : (97 ≤ (tx p) ∧ (tx p) ≤ 104) := it_eqn c4
          have q_1 := hm (by omega)
          refine go_aload_n (q := 157) d_ma_workOut_156 rfl rfl rfl ?_
          refine go_getf (v := mv_R 39) (q := 160) f_ma_24 d_ma_workOut_157 rfl (pn_c15 hV) rfl ?_
          refine go_aload_n (q := 161) d_ma_workOut_160 rfl rfl rfl ?_
          refine go_getf (v := mv_I (I 5)) (q := 164) f_ma_56 d_ma_workOut_161 rfl (pn_c15 hV) rfl ?_
          obtain ⟨f_7, e_8, e_9⟩ := pn_q39 hV
          refine go_aald (i := m) (j := 90 + 5 * m) (q := 165) d_ma_workOut_164 rfl e_8 (by omega) (by omega) (by omega) (e_9 _ (by omega)) ?_
          refine go_aload_n (q := 166) d_ma_workOut_165 rfl rfl rfl ?_
          refine go_getf (v := mv_R 38) (q := 169) f_ma_20 d_ma_workOut_166 rfl (pn_c15 hV) rfl ?_
          refine go_iload (q := 171) d_ma_workOut_169 rfl rfl ?_
          refine go_bipush (q := 173) d_ma_workOut_171 rfl (by decide) ?_
          refine go_isub (q := 174) d_ma_workOut_173 rfl ?_
          obtain ⟨f_10, e_11, e_12⟩ := pn_q38 hV
          refine go_aald (i := (tx p - 97).toNat) (j := 50 + 5 * ((tx p - 97).toNat)) (q := 175) d_ma_workOut_174 rfl e_11 (by omega) (by omega) (by omega) (e_12 _ (by omega)) ?_
          refine cp_fr_copy (a := 90 + 5 * m) (c := 50 + 5 * ((tx p - 97).toNat)) (q := 178) l_ma_85 d_ma_workOut_175 rfl hV (fa_s (by omega)) (fa_v (by omega)) (by omega) (Nat.le_of_ble_eq_true rfl) ⟨by decide, by decide, by decide, by decide⟩ (fun h_13 hV_14 fr_15 => ?_)
          have hV_16 : pn_V h_13 (I, tx, wr, ga, gb, mo, mf, mg) (va_up B (90 + 5 * m) (B (50 + 5 * ((tx p - 97).toNat)))) (va_up (va_up V ((90 + 5 * m) + 1) (V ((50 + 5 * ((tx p - 97).toNat)) + 1))) ((90 + 5 * m) + 3) (V ((50 + 5 * ((tx p - 97).toNat)) + 3))) := by
            try rw [(show V ((50 + 5 * ((tx p - 97).toNat)) + 1) = V ((50 + 5 * ((tx p - 97).toNat)) + 1) from rfl)] at hV_14
            try rw [(show V ((50 + 5 * ((tx p - 97).toNat)) + 3) = V ((50 + 5 * ((tx p - 97).toNat)) + 3) from rfl)] at hV_14
            try rw [(show B (50 + 5 * ((tx p - 97).toNat)) = B (50 + 5 * ((tx p - 97).toNat)) from rfl)] at hV_14
            exact hV_14
          refine go_aload_n (q := 179) d_ma_workOut_178 rfl rfl rfl ?_
          refine go_dup (q := 180) d_ma_workOut_179 rfl rfl ?_
          refine go_getf (v := mv_I (I 5)) (q := 183) f_ma_56 d_ma_workOut_180 rfl (pn_c15 hV_16) rfl ?_
          refine go_iconst (q := 184) d_ma_workOut_183 rfl ?_
          refine go_iadd (q := 185) d_ma_workOut_184 rfl ?_
          refine go_putf (q := 188) (v := mv_I ((I 5) + 1)) f_ma_56 d_ma_workOut_185 rfl (pn_c15 hV_16) (Nat.le_of_ble_eq_true rfl) (go_fitI _) ?_
          refine go_eq (h' := va_up h_13 15 (mv_O 4 [mv_R 16, mv_R 38, mv_R 39, mv_R 40, mv_R 45, mv_R 47, mv_R 48, mv_R 49, mv_I ((va_up I 5 ((I 5) + 1)) 4), mv_I ((va_up I 5 ((I 5) + 1)) 5)])) ?_
          have hV_18 := pn_u15 hV_16 (va_up I 5 ((I 5) + 1)) (fun i_ h_4 h_5 => va_up_ne _ _ h_5)
          have fr_19 : fr_ 1 389 h_13 (va_up h_13 15 (mv_O 4 [mv_R 16, mv_R 38, mv_R 39, mv_R 40, mv_R 45, mv_R 47, mv_R 48, mv_R 49, mv_I ((va_up I 5 ((I 5) + 1)) 4), mv_I ((va_up I 5 ((I 5) + 1)) 5)])) := fun z_ hz => va_up_ne _ _ (by omega)
          generalize va_up h_13 15 (mv_O 4 [mv_R 16, mv_R 38, mv_R 39, mv_R 40, mv_R 45, mv_R 47, mv_R 48, mv_R 49, mv_I ((va_up I 5 ((I 5) + 1)) 4), mv_I ((va_up I 5 ((I 5) + 1)) 5)]) = h_17 at hV_18 fr_19 ⊢
          refine go_goto (q := 211) d_ma_workOut_188 (by decide) ?_
          refine go_iinc (q := 214) (L' := [some (mv_R 15), some (mv_R 2), some (mv_I (len : Int)), some (mv_I x), some (mv_I (nx : Int)), some (mv_I ((p : Int) + 1)), some (mv_I (tx p))]) d_ma_workOut_211 rfl (by decide) rfl rfl ?_
          refine go_goto (q := 18) d_ma_workOut_214 (by decide) ?_
          refine go_fg 6 (L' := [some (mv_R 15), some (mv_R 2), some (mv_I (len : Int)), some (mv_I x), some (mv_I (nx : Int)), some (mv_I ((p : Int) + 1)), none]) rfl ?_
          exact k1 c1 c2 c3 c6 _ hV_18 (fr_.tr fr_15 fr_19)
      ·
        refine go_aload_n (q := 120) d_ma_workOut_119 rfl rfl rfl ?_
        exact k2 c1 c2 c3
    ·
      have q_1 := hO (by omega)
      refine go_aload_n (q := 78) d_ma_workOut_77 rfl rfl rfl ?_
      refine go_getf (v := mv_R 47) (q := 81) f_ma_41 d_ma_workOut_78 rfl (pn_c15 hV) rfl ?_
      refine go_aload_n (q := 82) d_ma_workOut_81 rfl rfl rfl ?_
      refine go_getf (v := mv_I (I 4)) (q := 85) f_ma_52 d_ma_workOut_82 rfl (pn_c15 hV) rfl ?_
      refine go_iconst (q := 86) d_ma_workOut_85 rfl ?_
      refine go_isub (q := 87) d_ma_workOut_86 rfl ?_
      refine go_cald (i := k) (q := 88) d_ma_workOut_87 rfl (pn_c47 hV) (by omega) (by omega) (by omega) ?_
      refine go_bipush (q := 90) d_ma_workOut_88 rfl (by decide) ?_
      refine go_icmp_ne (t := 100) (q := 93) d_ma_workOut_90 (by decide) rfl (by omega) (by omega) (fun c20 => ?_) (fun c20 => ?_)
      ·
        refine go_aload_n (q := 101) d_ma_workOut_100 rfl rfl rfl ?_
        exact k3 c1 c2 c20
      ·
        refine go_aload_n (q := 94) d_ma_workOut_93 rfl rfl rfl ?_
        exact k4 c1 c2 c20
  ·
    have q_1 := hP (by omega)
    refine go_aload_n (q := 52) d_ma_workOut_51 rfl rfl rfl ?_
    refine go_aload_n (q := 53) d_ma_workOut_52 rfl rfl rfl ?_
    refine go_iload (q := 55) d_ma_workOut_53 rfl rfl ?_
    refine go_iconst (q := 56) d_ma_workOut_55 rfl ?_
    refine go_iadd (q := 57) d_ma_workOut_56 rfl ?_
    refine go_cald (i := p + 1) (q := 58) d_ma_workOut_57 rfl (pn_c2 hV) (by omega) (by omega) (by omega) ?_
    have q_21 := ht (p + 1)
    exact k5 c1

set_option maxRecDepth 4000 in
theorem sn_wo_61 {φ : go_F} {l : Launch} {h : mv_H} {n : Nat} {I tx wr ga gb mo mf mg : Nat → Int} {B : Nat → Int} {V : Nat → Nat} {len p nx : Nat} {x : Int} (hV : pn_V h (I, tx, wr, ga, gb, mo, mf, mg) B V) 
    (k0 : Go φ l m_ma_workOut (go_rm rd_ma_workOut rw_ma_workOut 0 0) (0, 0) 18 [some (mv_R 15), some (mv_R 2), some (mv_I (len : Int)), some (mv_I x), some (mv_I ((p : Int) + 2)), some (mv_I ((p : Int) + 1)), none] [] h n) :
    Go φ l m_ma_workOut (go_rm rd_ma_workOut rw_ma_workOut 0 0) (0, 0) 61 [some (mv_R 15), some (mv_R 2), some (mv_I (len : Int)), some (mv_I x), some (mv_I (nx : Int)), some (mv_I (p : Int)), some (mv_I (tx p))] [] h n := by
  refine go_iload (q := 63) d_ma_workOut_61 rfl rfl ?_
  refine go_iconst (q := 64) d_ma_workOut_63 rfl ?_
  refine go_iadd (q := 65) d_ma_workOut_64 rfl ?_
  refine go_istore (q := 67) (L' := [some (mv_R 15), some (mv_R 2), some (mv_I (len : Int)), some (mv_I x), some (mv_I ((p : Int) + 2)), some (mv_I (p : Int)), some (mv_I (tx p))]) d_ma_workOut_65 rfl (by decide) rfl ?_
  refine go_goto (q := 211) d_ma_workOut_67 (by decide) ?_
  refine go_iinc (q := 214) (L' := [some (mv_R 15), some (mv_R 2), some (mv_I (len : Int)), some (mv_I x), some (mv_I ((p : Int) + 2)), some (mv_I ((p : Int) + 1)), some (mv_I (tx p))]) d_ma_workOut_211 rfl (by decide) rfl rfl ?_
  refine go_goto (q := 18) d_ma_workOut_214 (by decide) ?_
  refine go_fg 6 (L' := [some (mv_R 15), some (mv_R 2), some (mv_I (len : Int)), some (mv_I x), some (mv_I ((p : Int) + 2)), some (mv_I ((p : Int) + 1)), none]) rfl ?_
  exact k0 

set_option maxRecDepth 4000 in
theorem sn_wo_97 {φ : go_F} {l : Launch} {h : mv_H} {n : Nat} {I tx wr ga gb mo mf mg : Nat → Int} {B : Nat → Int} {V : Nat → Nat} {len p nx : Nat} {x z : Int} (hV : pn_V h (I, tx, wr, ga, gb, mo, mf, mg) B V) 
    (k0 : Go φ l m_ma_workOut (go_rm rd_ma_workOut rw_ma_workOut 0 0) (0, 0) 106 [some (mv_R 15), some (mv_R 2), some (mv_I (len : Int)), some (mv_I z), some (mv_I (nx : Int)), some (mv_I (p : Int)), some (mv_I (tx p))] [mv_R 15] h n) :
    Go φ l m_ma_workOut (go_rm rd_ma_workOut rw_ma_workOut 0 0) (0, 0) 97 [some (mv_R 15), some (mv_R 2), some (mv_I (len : Int)), some (mv_I x), some (mv_I (nx : Int)), some (mv_I (p : Int)), some (mv_I (tx p))] [mv_I z] h n := by
  refine go_goto (q := 104) d_ma_workOut_97 (by decide) ?_
  refine go_istore_n (q := 105) (L' := [some (mv_R 15), some (mv_R 2), some (mv_I (len : Int)), some (mv_I z), some (mv_I (nx : Int)), some (mv_I (p : Int)), some (mv_I (tx p))]) d_ma_workOut_104 rfl rfl (by decide) rfl ?_
  refine go_aload_n (q := 106) d_ma_workOut_105 rfl rfl rfl ?_
  exact k0 

set_option maxRecDepth 4000 in
theorem sn_wo_104 {φ : go_F} {l : Launch} {h : mv_H} {n : Nat} {I tx wr ga gb mo mf mg : Nat → Int} {B : Nat → Int} {V : Nat → Nat} {len p nx : Nat} {x z : Int} (hV : pn_V h (I, tx, wr, ga, gb, mo, mf, mg) B V) 
    (k0 : Go φ l m_ma_workOut (go_rm rd_ma_workOut rw_ma_workOut 0 0) (0, 0) 106 [some (mv_R 15), some (mv_R 2), some (mv_I (len : Int)), some (mv_I z), some (mv_I (nx : Int)), some (mv_I (p : Int)), some (mv_I (tx p))] [mv_R 15] h n) :
    Go φ l m_ma_workOut (go_rm rd_ma_workOut rw_ma_workOut 0 0) (0, 0) 104 [some (mv_R 15), some (mv_R 2), some (mv_I (len : Int)), some (mv_I x), some (mv_I (nx : Int)), some (mv_I (p : Int)), some (mv_I (tx p))] [mv_I z] h n := by
  refine go_istore_n (q := 105) (L' := [some (mv_R 15), some (mv_R 2), some (mv_I (len : Int)), some (mv_I z), some (mv_I (nx : Int)), some (mv_I (p : Int)), some (mv_I (tx p))]) d_ma_workOut_104 rfl rfl (by decide) rfl ?_
  refine go_aload_n (q := 106) d_ma_workOut_105 rfl rfl rfl ?_
  exact k0 

set_option maxRecDepth 4000 in
theorem sn_wo_109 {φ : go_F} {l : Launch} {h : mv_H} {n : Nat} {I tx wr ga gb mo mf mg : Nat → Int} {B : Nat → Int} {V : Nat → Nat} {len p nx : Nat} {x : Int} (hV : pn_V h (I, tx, wr, ga, gb, mo, mf, mg) B V) 
    (k0 : Go φ l m_ma_workOut (go_rm rd_ma_workOut rw_ma_workOut 0 0) (0, 0) 18 [some (mv_R 15), some (mv_R 2), some (mv_I (len : Int)), some (mv_I x), some (mv_I (nx : Int)), some (mv_I ((p : Int) + 1)), none] [] h n) :
    Go φ l m_ma_workOut (go_rm rd_ma_workOut rw_ma_workOut 0 0) (0, 0) 109 [some (mv_R 15), some (mv_R 2), some (mv_I (len : Int)), some (mv_I x), some (mv_I (nx : Int)), some (mv_I (p : Int)), some (mv_I (tx p))] [] h n := by
  refine go_goto (q := 211) d_ma_workOut_109 (by decide) ?_
  refine go_iinc (q := 214) (L' := [some (mv_R 15), some (mv_R 2), some (mv_I (len : Int)), some (mv_I x), some (mv_I (nx : Int)), some (mv_I ((p : Int) + 1)), some (mv_I (tx p))]) d_ma_workOut_211 rfl (by decide) rfl rfl ?_
  refine go_goto (q := 18) d_ma_workOut_214 (by decide) ?_
  refine go_fg 6 (L' := [some (mv_R 15), some (mv_R 2), some (mv_I (len : Int)), some (mv_I x), some (mv_I (nx : Int)), some (mv_I ((p : Int) + 1)), none]) rfl ?_
  exact k0 

set_option maxRecDepth 4000 in
theorem sn_wo_123 {φ : go_F} {l : Launch} {h : mv_H} {n : Nat} {I tx wr ga gb mo mf mg : Nat → Int} {B : Nat → Int} {V : Nat → Nat} {len p nx : Nat} {x z : Int} (hV : pn_V h (I, tx, wr, ga, gb, mo, mf, mg) B V) (hz : 0 ≤ z ∧ z ≤ 1)
    (k0 : z = 0 → Go φ l m_ma_workOut (go_rm rd_ma_workOut rw_ma_workOut 0 0) (0, 0) 18 [some (mv_R 15), some (mv_R 2), some (mv_I (len : Int)), some (mv_I x), some (mv_I ((p : Int) + 1)), some (mv_I ((p : Int) + 1)), none] [] h n)
    (k1 : ¬ z = 0 → Go φ l m_ma_workOut (go_rm rd_ma_workOut rw_ma_workOut 0 0) (0, 0) 133 [some (mv_R 15), some (mv_R 2), some (mv_I (len : Int)), some (mv_I x), some (mv_I (nx : Int)), some (mv_I (p : Int)), some (mv_I (tx p))] [mv_I (len : Int), mv_I ((p : Int) + 1), mv_R 2, mv_R 15] h n) :
    Go φ l m_ma_workOut (go_rm rd_ma_workOut rw_ma_workOut 0 0) (0, 0) 123 [some (mv_R 15), some (mv_R 2), some (mv_I (len : Int)), some (mv_I x), some (mv_I (nx : Int)), some (mv_I (p : Int)), some (mv_I (tx p))] [mv_I z] h n := by
  refine go_if_eq (t := 139) (q := 126) d_ma_workOut_123 (by decide) rfl (by omega) (fun c1 => ?_) (fun c1 => ?_)
  ·
    refine go_iload (q := 141) d_ma_workOut_139 rfl rfl ?_
    refine go_iconst (q := 142) d_ma_workOut_141 rfl ?_
    refine go_iadd (q := 143) d_ma_workOut_142 rfl ?_
    refine go_istore (q := 145) (L' := [some (mv_R 15), some (mv_R 2), some (mv_I (len : Int)), some (mv_I x), some (mv_I ((p : Int) + 1)), some (mv_I (p : Int)), some (mv_I (tx p))]) d_ma_workOut_143 rfl (by decide) rfl ?_
    refine go_goto (q := 211) d_ma_workOut_145 (by decide) ?_
    refine go_iinc (q := 214) (L' := [some (mv_R 15), some (mv_R 2), some (mv_I (len : Int)), some (mv_I x), some (mv_I ((p : Int) + 1)), some (mv_I ((p : Int) + 1)), some (mv_I (tx p))]) d_ma_workOut_211 rfl (by decide) rfl rfl ?_
    refine go_goto (q := 18) d_ma_workOut_214 (by decide) ?_
    refine go_fg 6 (L' := [some (mv_R 15), some (mv_R 2), some (mv_I (len : Int)), some (mv_I x), some (mv_I ((p : Int) + 1)), some (mv_I ((p : Int) + 1)), none]) rfl ?_
    exact k0 c1
  ·
    refine go_aload_n (q := 127) d_ma_workOut_126 rfl rfl rfl ?_
    refine go_aload_n (q := 128) d_ma_workOut_127 rfl rfl rfl ?_
    refine go_iload (q := 130) d_ma_workOut_128 rfl rfl ?_
    refine go_iconst (q := 131) d_ma_workOut_130 rfl ?_
    refine go_iadd (q := 132) d_ma_workOut_131 rfl ?_
    refine go_iload_n (q := 133) d_ma_workOut_132 rfl rfl rfl ?_
    exact k1 c1

set_option maxRecDepth 4000 in
theorem sn_wo_136 {φ : go_F} {l : Launch} {h : mv_H} {n : Nat} {I tx wr ga gb mo mf mg : Nat → Int} {B : Nat → Int} {V : Nat → Nat} {len p nx e : Nat} {x : Int} (hV : pn_V h (I, tx, wr, ga, gb, mo, mf, mg) B V) 
    (k0 : Go φ l m_ma_workOut (go_rm rd_ma_workOut rw_ma_workOut 0 0) (0, 0) 18 [some (mv_R 15), some (mv_R 2), some (mv_I (len : Int)), some (mv_I x), some (mv_I (e : Int)), some (mv_I ((p : Int) + 1)), none] [] h n) :
    Go φ l m_ma_workOut (go_rm rd_ma_workOut rw_ma_workOut 0 0) (0, 0) 136 [some (mv_R 15), some (mv_R 2), some (mv_I (len : Int)), some (mv_I x), some (mv_I (nx : Int)), some (mv_I (p : Int)), some (mv_I (tx p))] [mv_I (e : Int)] h n := by
  refine go_goto (q := 143) d_ma_workOut_136 (by decide) ?_
  refine go_istore (q := 145) (L' := [some (mv_R 15), some (mv_R 2), some (mv_I (len : Int)), some (mv_I x), some (mv_I (e : Int)), some (mv_I (p : Int)), some (mv_I (tx p))]) d_ma_workOut_143 rfl (by decide) rfl ?_
  refine go_goto (q := 211) d_ma_workOut_145 (by decide) ?_
  refine go_iinc (q := 214) (L' := [some (mv_R 15), some (mv_R 2), some (mv_I (len : Int)), some (mv_I x), some (mv_I (e : Int)), some (mv_I ((p : Int) + 1)), some (mv_I (tx p))]) d_ma_workOut_211 rfl (by decide) rfl rfl ?_
  refine go_goto (q := 18) d_ma_workOut_214 (by decide) ?_
  refine go_fg 6 (L' := [some (mv_R 15), some (mv_R 2), some (mv_I (len : Int)), some (mv_I x), some (mv_I (e : Int)), some (mv_I ((p : Int) + 1)), none]) rfl ?_
  exact k0 

set_option maxRecDepth 4000 in
theorem sn_wo_199 {φ : go_F} {l : Launch} {h : mv_H} {n : Nat} {I tx wr ga gb mo mf mg : Nat → Int} {B : Nat → Int} {V : Nat → Nat} {len p nx e : Nat} {x : Int} (hV : pn_V h (I, tx, wr, ga, gb, mo, mf, mg) B V) 
    (k0 : Go φ l m_ma_workOut (go_rm rd_ma_workOut rw_ma_workOut 0 0) (0, 0) 207 [some (mv_R 15), some (mv_R 2), some (mv_I (len : Int)), some (mv_I x), some (mv_I (e : Int)), some (mv_I (p : Int)), some (mv_I (tx p))] [mv_I (e : Int), mv_I (p : Int), mv_R 2, mv_R 15] h n) :
    Go φ l m_ma_workOut (go_rm rd_ma_workOut rw_ma_workOut 0 0) (0, 0) 199 [some (mv_R 15), some (mv_R 2), some (mv_I (len : Int)), some (mv_I x), some (mv_I (nx : Int)), some (mv_I (p : Int)), some (mv_I (tx p))] [mv_I (e : Int)] h n := by
  refine go_istore (q := 201) (L' := [some (mv_R 15), some (mv_R 2), some (mv_I (len : Int)), some (mv_I x), some (mv_I (e : Int)), some (mv_I (p : Int)), some (mv_I (tx p))]) d_ma_workOut_199 rfl (by decide) rfl ?_
  refine go_aload_n (q := 202) d_ma_workOut_201 rfl rfl rfl ?_
  refine go_aload_n (q := 203) d_ma_workOut_202 rfl rfl rfl ?_
  refine go_iload (q := 205) d_ma_workOut_203 rfl rfl ?_
  refine go_iload (q := 207) d_ma_workOut_205 rfl rfl ?_
  exact k0 

set_option maxRecDepth 4000 in
theorem sn_wo_210 {φ : go_F} {l : Launch} {h : mv_H} {n : Nat} {I tx wr ga gb mo mf mg : Nat → Int} {B : Nat → Int} {V : Nat → Nat} {len p nx : Nat} {x z : Int} (hV : pn_V h (I, tx, wr, ga, gb, mo, mf, mg) B V) 
    (k0 : Go φ l m_ma_workOut (go_rm rd_ma_workOut rw_ma_workOut 0 0) (0, 0) 18 [some (mv_R 15), some (mv_R 2), some (mv_I (len : Int)), some (mv_I z), some (mv_I (nx : Int)), some (mv_I ((p : Int) + 1)), none] [] h n) :
    Go φ l m_ma_workOut (go_rm rd_ma_workOut rw_ma_workOut 0 0) (0, 0) 210 [some (mv_R 15), some (mv_R 2), some (mv_I (len : Int)), some (mv_I x), some (mv_I (nx : Int)), some (mv_I (p : Int)), some (mv_I (tx p))] [mv_I z] h n := by
  refine go_istore_n (q := 211) (L' := [some (mv_R 15), some (mv_R 2), some (mv_I (len : Int)), some (mv_I z), some (mv_I (nx : Int)), some (mv_I (p : Int)), some (mv_I (tx p))]) d_ma_workOut_210 rfl rfl (by decide) rfl ?_
  refine go_iinc (q := 214) (L' := [some (mv_R 15), some (mv_R 2), some (mv_I (len : Int)), some (mv_I z), some (mv_I (nx : Int)), some (mv_I ((p : Int) + 1)), some (mv_I (tx p))]) d_ma_workOut_211 rfl (by decide) rfl rfl ?_
  refine go_goto (q := 18) d_ma_workOut_214 (by decide) ?_
  refine go_fg 6 (L' := [some (mv_R 15), some (mv_R 2), some (mv_I (len : Int)), some (mv_I z), some (mv_I (nx : Int)), some (mv_I ((p : Int) + 1)), none]) rfl ?_
  exact k0 

set_option maxRecDepth 4000 in
theorem sn_wo_217 {φ : go_F} {l : Launch} {h : mv_H} {n : Nat} {I tx wr ga gb mo mf mg : Nat → Int} {B : Nat → Int} {V : Nat → Nat} {len p nx : Nat} {x : Int} (hV : pn_V h (I, tx, wr, ga, gb, mo, mf, mg) B V) 
    (k0 : Go φ l m_ma_workOut (go_rm rd_ma_workOut rw_ma_workOut 0 0) (0, 0) 218 [some (mv_R 15), some (mv_R 2), some (mv_I (len : Int)), some (mv_I x), some (mv_I (nx : Int)), some (mv_I (p : Int)), none] [mv_I x] h n) :
    Go φ l m_ma_workOut (go_rm rd_ma_workOut rw_ma_workOut 0 0) (0, 0) 217 [some (mv_R 15), some (mv_R 2), some (mv_I (len : Int)), some (mv_I x), some (mv_I (nx : Int)), some (mv_I (p : Int)), none] [] h n := by
  refine go_iload_n (q := 218) d_ma_workOut_217 rfl rfl rfl ?_
  exact k0 

