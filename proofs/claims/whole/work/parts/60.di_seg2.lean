set_option maxRecDepth 4000 in
theorem sd_dv_0 {φ : go_F} {l : Launch} {R : Room} {u : Nat × Nat} {h : mv_H} {n : Nat} {x y qq : Nat} (hm_d : DV h 17 ) 
    (k0 : Go φ l m_di_divide R u 5 [some (mv_R 17), some (mv_R x), some (mv_R y), some (mv_R qq), none, none] [mv_R x, mv_R 18] h n) :
    Go φ l m_di_divide R u 0 [some (mv_R 17), some (mv_R x), some (mv_R y), some (mv_R qq), none, none] [] h n := by
  refine go_aload_n (q := 1) d_di_divide_0 rfl rfl rfl ?_
  refine go_getf (q := 4) f_di_14 d_di_divide_1 rfl (DV_c0 hm_d) rfl ?_
  refine go_aload_n (q := 5) d_di_divide_4 rfl rfl rfl ?_
  exact k0 

set_option maxRecDepth 4000 in
theorem sd_dv_8 {φ : go_F} {l : Launch} {R : Room} {u : Nat × Nat} {h : mv_H} {n : Nat} {x y qq : Nat} (hm_d : DV h 17 ) 
    (k0 : Go φ l m_di_divide R u 10 [some (mv_R 17), some (mv_R x), some (mv_R y), some (mv_R qq), none, none] [mv_I 0, mv_R qq] h n) :
    Go φ l m_di_divide R u 8 [some (mv_R 17), some (mv_R x), some (mv_R y), some (mv_R qq), none, none] [] h n := by
  refine go_aload_n (q := 9) d_di_divide_8 rfl rfl rfl ?_
  refine go_iconst (q := 10) d_di_divide_9 rfl ?_
  exact k0 

set_option maxRecDepth 4000 in
theorem sd_dv_13 {φ : go_F} {l : Launch} {R : Room} {u : Nat × Nat} {h : mv_H} {n : Nat} {x y qq : Nat} (hm_d : DV h 17 ) 
    (k0 : Go φ l m_di_divide R u 14 [some (mv_R 17), some (mv_R x), some (mv_R y), some (mv_R qq), none, none] [mv_R y] h n) :
    Go φ l m_di_divide R u 13 [some (mv_R 17), some (mv_R x), some (mv_R y), some (mv_R qq), none, none] [] h n := by
  refine go_aload_n (q := 14) d_di_divide_13 rfl rfl rfl ?_
  exact k0 

set_option maxRecDepth 4000 in
theorem sd_dv_17 {φ : go_F} {l : Launch} {R : Room} {u : Nat × Nat} {h : mv_H} {n : Nat} {x y qq : Nat} {z : Int} (hm_d : DV h 17 ) (hz : 0 ≤ z ∧ z ≤ 1)
    (k0 : ¬ z = 0 → Go φ l m_di_divide R u 28 [some (mv_R 17), some (mv_R x), some (mv_R y), some (mv_R qq), none, none] [] h n)
    (k1 : z = 0 → Go φ l m_di_divide R u 22 [some (mv_R 17), some (mv_R x), some (mv_R y), some (mv_R qq), none, none] [mv_R y, mv_R x] h n) :
    Go φ l m_di_divide R u 17 [some (mv_R 17), some (mv_R x), some (mv_R y), some (mv_R qq), none, none] [mv_I z] h n := by
  refine go_if_ne (t := 28) (q := 20) d_di_divide_17 (by decide) rfl (by omega) (fun c1 => ?_) (fun c1 => ?_)
  ·
    exact k0 c1
  ·
    refine go_aload_n (q := 21) d_di_divide_20 rfl rfl rfl ?_
    refine go_aload_n (q := 22) d_di_divide_21 rfl rfl rfl ?_
    exact k1 c1

set_option maxRecDepth 4000 in
theorem sd_dv_25 {φ : go_F} {l : Launch} {R : Room} {u : Nat × Nat} {h : mv_H} {n : Nat} {x y qq : Nat} {z : Int} (hm_d : DV h 17 ) (hz : -1 ≤ z ∧ z ≤ 1)
    (k0 : 0 ≤ z → Go φ l m_di_divide R u 29 [some (mv_R 17), some (mv_R x), some (mv_R y), some (mv_R qq), none, none] [] h n)
    (k1 : ¬ 0 ≤ z → Go φ l m_di_divide R u 28 [some (mv_R 17), some (mv_R x), some (mv_R y), some (mv_R qq), none, none] [] h n) :
    Go φ l m_di_divide R u 25 [some (mv_R 17), some (mv_R x), some (mv_R y), some (mv_R qq), none, none] [mv_I z] h n := by
  refine go_if_ge (t := 29) (q := 28) d_di_divide_25 (by decide) rfl (by omega) (fun c1 => ?_) (fun c1 => ?_)
  ·
    exact k0 c1
  ·
    exact k1 c1

set_option maxRecDepth 4000 in
theorem sd_dv_29 {φ : go_F} {l : Launch} {R : Room} {u : Nat × Nat} {h : mv_H} {n : Nat} {x y qq : Nat} {J b : Nat} {gy : Nat → Int} (hm_d : DV h 17 ) (hm_y : WO h y J gy (b : Int)) (hb : 0 < b ∧ b ≤ J ∧ J < 100) (hy : ∀ j, 0 ≤ gy j ∧ gy j ≤ 1073741823)
    (k0 : Go φ l m_di_divide R u 52 [some (mv_R 17), some (mv_R x), some (mv_R y), some (mv_R qq), some (mv_I (1073741824 / ((gy (b - 1)) + 1))), none] [mv_R y, mv_R 20] h n) :
    Go φ l m_di_divide R u 29 [some (mv_R 17), some (mv_R x), some (mv_R y), some (mv_R qq), none, none] [] h n := by
  refine go_ldc (z := 1073741824) (q := 31) d_di_divide_29 rfl tw_3_91 (by decide) ?_
  refine go_aload_n (q := 32) d_di_divide_31 rfl rfl rfl ?_
  refine go_getf (q := 35) f_di_45 d_di_divide_32 rfl (WO_c0 hm_y) rfl ?_
  refine go_aload_n (q := 36) d_di_divide_35 rfl rfl rfl ?_
  refine go_getf (q := 39) f_di_49 d_di_divide_36 rfl (WO_c0 hm_y) rfl ?_
  refine go_iconst (q := 40) d_di_divide_39 rfl ?_
  refine go_isub (q := 41) d_di_divide_40 rfl ?_
  refine go_iald (i := b - 1) (q := 42) d_di_divide_41 rfl (WO_c1 hm_y) (by omega) (by omega) (by omega) ?_
  have q_1 := hy (b - 1)
  refine go_iconst (q := 43) d_di_divide_42 rfl ?_
  refine go_iadd (q := 44) d_di_divide_43 rfl ?_
  refine go_idiv (z := 1073741824 / ((gy (b - 1)) + 1)) (q := 45) d_di_divide_44 rfl (gn_ne0 (by omega)) (gn_div (by omega) (by omega)) ?_
  refine go_istore (q := 47) (L' := [some (mv_R 17), some (mv_R x), some (mv_R y), some (mv_R qq), some (mv_I (1073741824 / ((gy (b - 1)) + 1))), none]) d_di_divide_45 rfl (by decide) rfl ?_
  refine go_aload_n (q := 48) d_di_divide_47 rfl rfl rfl ?_
  refine go_getf (q := 51) f_di_20 d_di_divide_48 rfl (DV_c0 hm_d) rfl ?_
  refine go_aload_n (q := 52) d_di_divide_51 rfl rfl rfl ?_
  exact k0 

set_option maxRecDepth 4000 in
theorem sd_dv_55 {φ : go_F} {l : Launch} {R : Room} {u : Nat × Nat} {h : mv_H} {n : Nat} {x y qq : Nat} {w : Int} (hm_d : DV h 17 ) 
    (k0 : Go φ l m_di_divide R u 62 [some (mv_R 17), some (mv_R x), some (mv_R y), some (mv_R qq), some (mv_I w), none] [mv_I 0, mv_I w, mv_R 20] h n) :
    Go φ l m_di_divide R u 55 [some (mv_R 17), some (mv_R x), some (mv_R y), some (mv_R qq), some (mv_I w), none] [] h n := by
  refine go_aload_n (q := 56) d_di_divide_55 rfl rfl rfl ?_
  refine go_getf (q := 59) f_di_20 d_di_divide_56 rfl (DV_c0 hm_d) rfl ?_
  refine go_iload (q := 61) d_di_divide_59 rfl rfl ?_
  refine go_iconst (q := 62) d_di_divide_61 rfl ?_
  exact k0 

set_option maxRecDepth 4000 in
theorem sd_dv_65 {φ : go_F} {l : Launch} {R : Room} {u : Nat × Nat} {h : mv_H} {n : Nat} {x y qq : Nat} {K a : Nat} {gx f : Nat → Int} {s w : Int} (hm_d : DV h 17 ) (hm_x : WO h x K gx (a : Int)) (hm_r : WO h 18 18 f s) (hdis : (x + 1 < 17 ∨ 21 < x) ∧ (y + 1 < 17 ∨ 21 < y) ∧ (qq + 1 < 17 ∨ 21 < qq) ∧ (qq + 1 < x ∨ x + 1 < qq) ∧ (qq + 1 < y ∨ y + 1 < qq)) (ha : a ≤ 17)
    (k0 : ∀ h' : mv_H, DV h' 17  → WO h' x K gx (a : Int) → WO h' 18 18 (va_up f a 0) s → (∀ z_, (z_ < 18 ∨ 18 + 2 ≤ z_) → h' z_ = h z_) → Go φ l m_di_divide R u 85 [some (mv_R 17), some (mv_R x), some (mv_R y), some (mv_R qq), some (mv_I w), none] [mv_I 0, mv_I w, mv_R 18] h' n) :
    Go φ l m_di_divide R u 65 [some (mv_R 17), some (mv_R x), some (mv_R y), some (mv_R qq), some (mv_I w), none] [] h n := by
  refine go_aload_n (q := 66) d_di_divide_65 rfl rfl rfl ?_
  refine go_getf (q := 69) f_di_14 d_di_divide_66 rfl (DV_c0 hm_d) rfl ?_
  refine go_getf (q := 72) f_di_45 d_di_divide_69 rfl (WO_c0 hm_r) rfl ?_
  refine go_aload_n (q := 73) d_di_divide_72 rfl rfl rfl ?_
  refine go_getf (q := 76) f_di_49 d_di_divide_73 rfl (WO_c0 hm_x) rfl ?_
  refine go_iconst (q := 77) d_di_divide_76 rfl ?_
  refine go_iast (i := a) (q := 78) d_di_divide_77 rfl (WO_c1 hm_r) (by omega) (by omega) (by omega) ?_
  have hm_3 := WO_u1 hm_r (va_up f a 0)
  have fr_2 : ∀ z_, z_ ≠ (18 + 1) → va_up h (18 + 1) (mv_A 0 18 (va_up f a 0)) z_ = h z_ := fun z_ hj => va_up_ne _ _ hj
  generalize va_up h (18 + 1) (mv_A 0 18 (va_up f a 0)) = h_1 at hm_3 fr_2 ⊢
  have hm_4 := DV_k hm_d (h' := h_1) (fun z_ ha hb => fr_2 z_ (by omega))
  have hm_5 := WO_k hm_x (h' := h_1) (fun z_ ha hb => fr_2 z_ (by omega))
  refine go_aload_n (q := 79) d_di_divide_78 rfl rfl rfl ?_
  refine go_getf (q := 82) f_di_14 d_di_divide_79 rfl (DV_c0 hm_4) rfl ?_
  refine go_iload (q := 84) d_di_divide_82 rfl rfl ?_
  refine go_iconst (q := 85) d_di_divide_84 rfl ?_
  exact k0  _ hm_4 hm_5 hm_3 (fun z_ g0 => (fr_2 z_ (by omega)))

set_option maxRecDepth 4000 in
theorem sd_dv_88 {φ : go_F} {l : Launch} {R : Room} {u : Nat × Nat} {h : mv_H} {n : Nat} {x y qq : Nat} {K a J b : Nat} {gx gy : Nat → Int} {w : Int} (hm_d : DV h 17 ) (hm_x : WO h x K gx (a : Int)) (hm_y : WO h y J gy (b : Int)) 
    (k0 : Go φ l m_di_divide R u 99 [some (mv_R 17), some (mv_R x), some (mv_R y), some (mv_R qq), some (mv_I w), some (mv_I ((a : Int) - (b : Int)))] [] h n) :
    Go φ l m_di_divide R u 88 [some (mv_R 17), some (mv_R x), some (mv_R y), some (mv_R qq), some (mv_I w), none] [] h n := by
  refine go_aload_n (q := 89) d_di_divide_88 rfl rfl rfl ?_
  refine go_getf (q := 92) f_di_49 d_di_divide_89 rfl (WO_c0 hm_x) rfl ?_
  refine go_aload_n (q := 93) d_di_divide_92 rfl rfl rfl ?_
  refine go_getf (q := 96) f_di_49 d_di_divide_93 rfl (WO_c0 hm_y) rfl ?_
  refine go_isub (q := 97) d_di_divide_96 rfl ?_
  refine go_istore (q := 99) (L' := [some (mv_R 17), some (mv_R x), some (mv_R y), some (mv_R qq), some (mv_I w), some (mv_I ((a : Int) - (b : Int)))]) d_di_divide_97 rfl (by decide) rfl ?_
  exact k0 

set_option maxRecDepth 4000 in
theorem sd_dv_99 {φ : go_F} {l : Launch} {R : Room} {u : Nat × Nat} {h : mv_H} {n : Nat} {x y qq : Nat} {e : Nat → Int} {w k c : Int} (hm_d : DV h 17 ) (hm_q : WO h qq 18 e c) (hk : -1 ≤ k ∧ k ≤ 17)
    (k0 : k < 0 → Go φ l m_di_divide R u 123 [some (mv_R 17), some (mv_R x), some (mv_R y), some (mv_R qq), some (mv_I w), some (mv_I k)] [] h n)
    (k1 : ¬ k < 0 → Go φ l m_di_divide R u 113 [some (mv_R 17), some (mv_R x), some (mv_R y), some (mv_R qq), some (mv_I w), some (mv_I k)] [mv_I k, mv_R 17, mv_I k, mv_R (qq + 1)] h n) :
    Go φ l m_di_divide R u 99 [some (mv_R 17), some (mv_R x), some (mv_R y), some (mv_R qq), some (mv_I w), some (mv_I k)] [] h n := by
  refine go_iload (q := 101) d_di_divide_99 rfl rfl ?_
  refine go_if_lt (t := 123) (q := 104) d_di_divide_101 (by decide) rfl (by omega) (fun c1 => ?_) (fun c1 => ?_)
  ·
    exact k0 c1
  ·
    refine go_aload_n (q := 105) d_di_divide_104 rfl rfl rfl ?_
    refine go_getf (q := 108) f_di_45 d_di_divide_105 rfl (WO_c0 hm_q) rfl ?_
    refine go_iload (q := 110) d_di_divide_108 rfl rfl ?_
    refine go_aload_n (q := 111) d_di_divide_110 rfl rfl rfl ?_
    refine go_iload (q := 113) d_di_divide_111 rfl rfl ?_
    exact k1 c1

set_option maxRecDepth 4000 in
theorem sd_dv_116 {φ : go_F} {l : Launch} {R : Room} {u : Nat × Nat} {h : mv_H} {n : Nat} {x y qq : Nat} {K a J b : Nat} {gx gy f g e : Nat → Int} {s t w k c z : Int} (hm_d : DV h 17 ) (hm_x : WO h x K gx (a : Int)) (hm_y : WO h y J gy (b : Int)) (hm_r : WO h 18 18 f s) (hm_w : WO h 20 18 g t) (hm_q : WO h qq 18 e c) (hdis : (x + 1 < 17 ∨ 21 < x) ∧ (y + 1 < 17 ∨ 21 < y) ∧ (qq + 1 < 17 ∨ 21 < qq) ∧ (qq + 1 < x ∨ x + 1 < qq) ∧ (qq + 1 < y ∨ y + 1 < qq)) (hk : 0 ≤ k ∧ k ≤ 17)
    (k0 : ∀ h' : mv_H, DV h' 17  → WO h' x K gx (a : Int) → WO h' y J gy (b : Int) → WO h' 18 18 f s → WO h' 20 18 g t → WO h' qq 18 (va_up e k.toNat z) c → (∀ z_, (z_ < qq ∨ qq + 2 ≤ z_) → h' z_ = h z_) → Go φ l m_di_divide R u 99 [some (mv_R 17), some (mv_R x), some (mv_R y), some (mv_R qq), some (mv_I w), some (mv_I (k + (-1)))] [] h' n) :
    Go φ l m_di_divide R u 116 [some (mv_R 17), some (mv_R x), some (mv_R y), some (mv_R qq), some (mv_I w), some (mv_I k)] [mv_I z, mv_I k, mv_R (qq + 1)] h n := by
  refine go_iast (i := k.toNat) (q := 117) d_di_divide_116 rfl (WO_c1 hm_q) (by omega) (by omega) (by omega) ?_
  have hm_3 := WO_u1 hm_q (va_up e k.toNat z)
  have fr_2 : ∀ z_, z_ ≠ (qq + 1) → va_up h (qq + 1) (mv_A 0 18 (va_up e k.toNat z)) z_ = h z_ := fun z_ hj => va_up_ne _ _ hj
  generalize va_up h (qq + 1) (mv_A 0 18 (va_up e k.toNat z)) = h_1 at hm_3 fr_2 ⊢
  have hm_4 := DV_k hm_d (h' := h_1) (fun z_ ha hb => fr_2 z_ (by omega))
  have hm_5 := WO_k hm_x (h' := h_1) (fun z_ ha hb => fr_2 z_ (by omega))
  have hm_6 := WO_k hm_y (h' := h_1) (fun z_ ha hb => fr_2 z_ (by omega))
  have hm_7 := WO_k hm_r (h' := h_1) (fun z_ ha hb => fr_2 z_ (by omega))
  have hm_8 := WO_k hm_w (h' := h_1) (fun z_ ha hb => fr_2 z_ (by omega))
  refine go_iinc (q := 120) (L' := [some (mv_R 17), some (mv_R x), some (mv_R y), some (mv_R qq), some (mv_I w), some (mv_I (k + (-1)))]) d_di_divide_117 rfl (by decide) rfl rfl ?_
  refine go_goto (q := 99) d_di_divide_120 (by decide) ?_
  exact k0  _ hm_4 hm_5 hm_6 hm_7 hm_8 hm_3 (fun z_ g0 => (fr_2 z_ (by omega)))

set_option maxRecDepth 4000 in
theorem sd_dv_123 {φ : go_F} {l : Launch} {R : Room} {u : Nat × Nat} {h : mv_H} {n : Nat} {x y qq : Nat} {K a J b : Nat} {gx gy : Nat → Int} {w k : Int} (hm_d : DV h 17 ) (hm_x : WO h x K gx (a : Int)) (hm_y : WO h y J gy (b : Int)) 
    (k0 : Go φ l m_di_divide R u 135 [some (mv_R 17), some (mv_R x), some (mv_R y), some (mv_R qq), some (mv_I w), some (mv_I k)] [mv_I (((a : Int) - (b : Int)) + 1), mv_R qq] h n) :
    Go φ l m_di_divide R u 123 [some (mv_R 17), some (mv_R x), some (mv_R y), some (mv_R qq), some (mv_I w), some (mv_I k)] [] h n := by
  refine go_aload_n (q := 124) d_di_divide_123 rfl rfl rfl ?_
  refine go_aload_n (q := 125) d_di_divide_124 rfl rfl rfl ?_
  refine go_getf (q := 128) f_di_49 d_di_divide_125 rfl (WO_c0 hm_x) rfl ?_
  refine go_aload_n (q := 129) d_di_divide_128 rfl rfl rfl ?_
  refine go_getf (q := 132) f_di_49 d_di_divide_129 rfl (WO_c0 hm_y) rfl ?_
  refine go_isub (q := 133) d_di_divide_132 rfl ?_
  refine go_iconst (q := 134) d_di_divide_133 rfl ?_
  refine go_iadd (q := 135) d_di_divide_134 rfl ?_
  exact k0 

set_option maxRecDepth 4000 in
theorem sd_dv_138 {φ : go_F} {l : Launch} {R : Room} {u : Nat × Nat} {h : mv_H} {n : Nat} {x y qq : Nat} {J b : Nat} {gy : Nat → Int} {w k : Int} (hm_d : DV h 17 ) (hm_y : WO h y J gy (b : Int)) 
    (k0 : Go φ l m_di_divide R u 146 [some (mv_R 17), some (mv_R x), some (mv_R y), some (mv_R qq), some (mv_I w), some (mv_I k)] [mv_I (b : Int), mv_R 18] h n) :
    Go φ l m_di_divide R u 138 [some (mv_R 17), some (mv_R x), some (mv_R y), some (mv_R qq), some (mv_I w), some (mv_I k)] [] h n := by
  refine go_aload_n (q := 139) d_di_divide_138 rfl rfl rfl ?_
  refine go_getf (q := 142) f_di_14 d_di_divide_139 rfl (DV_c0 hm_d) rfl ?_
  refine go_aload_n (q := 143) d_di_divide_142 rfl rfl rfl ?_
  refine go_getf (q := 146) f_di_49 d_di_divide_143 rfl (WO_c0 hm_y) rfl ?_
  exact k0 

set_option maxRecDepth 4000 in
theorem sd_dv_149 {φ : go_F} {l : Launch} {R : Room} {u : Nat × Nat} {h : mv_H} {n : Nat} {x y qq : Nat} {w k : Int} (hm_d : DV h 17 ) 
    (k0 : Go φ l m_di_divide R u 155 [some (mv_R 17), some (mv_R x), some (mv_R y), some (mv_R qq), some (mv_I w), some (mv_I k)] [mv_I w, mv_R 18] h n) :
    Go φ l m_di_divide R u 149 [some (mv_R 17), some (mv_R x), some (mv_R y), some (mv_R qq), some (mv_I w), some (mv_I k)] [] h n := by
  refine go_aload_n (q := 150) d_di_divide_149 rfl rfl rfl ?_
  refine go_getf (q := 153) f_di_14 d_di_divide_150 rfl (DV_c0 hm_d) rfl ?_
  refine go_iload (q := 155) d_di_divide_153 rfl rfl ?_
  exact k0 

set_option maxRecDepth 4000 in
theorem sd_dv_158 {φ : go_F} {l : Launch} {R : Room} {u : Nat × Nat} {h : mv_H} {n : Nat} {x y qq : Nat} {w k z : Int} (hm_d : DV h 17 ) 
    (k0 : Go φ l m_di_divide R u 159 [some (mv_R 17), some (mv_R x), some (mv_R y), some (mv_R qq), some (mv_I w), some (mv_I k)] [] h n) :
    Go φ l m_di_divide R u 158 [some (mv_R 17), some (mv_R x), some (mv_R y), some (mv_R qq), some (mv_I w), some (mv_I k)] [mv_I z] h n := by
  refine go_pop (q := 159) d_di_divide_158 rfl rfl ?_
  exact k0 

set_option maxRecDepth 4000 in
theorem sd_fg_0 {φ : go_F} {l : Launch} {R : Room} {u : Nat × Nat} {h : mv_H} {n : Nat} {x y qq : Nat} (hm_d : DV h 17 ) 
    (k0 : Go φ l m_di_findGreatest R u 1 [some (mv_R 17), some (mv_R x), some (mv_R y), some (mv_R qq), none, none, none, none, none, none] [mv_R x] h n) :
    Go φ l m_di_findGreatest R u 0 [some (mv_R 17), some (mv_R x), some (mv_R y), some (mv_R qq), none, none, none, none, none, none] [] h n := by
  refine go_aload_n (q := 1) d_di_findGreatest_0 rfl rfl rfl ?_
  exact k0 

set_option maxRecDepth 4000 in
theorem sd_fg_4 {φ : go_F} {l : Launch} {R : Room} {u : Nat × Nat} {h : mv_H} {n : Nat} {x y qq : Nat} {z : Int} (hm_d : DV h 17 ) (hz : 0 ≤ z ∧ z ≤ 1)
    (k0 : ¬ z = 0 → Go φ l m_di_findGreatest R u 14 [some (mv_R 17), some (mv_R x), some (mv_R y), some (mv_R qq), none, none, none, none, none, none] [] h n)
    (k1 : z = 0 → Go φ l m_di_findGreatest R u 8 [some (mv_R 17), some (mv_R x), some (mv_R y), some (mv_R qq), none, none, none, none, none, none] [mv_R y] h n) :
    Go φ l m_di_findGreatest R u 4 [some (mv_R 17), some (mv_R x), some (mv_R y), some (mv_R qq), none, none, none, none, none, none] [mv_I z] h n := by
  refine go_if_ne (t := 14) (q := 7) d_di_findGreatest_4 (by decide) rfl (by omega) (fun c1 => ?_) (fun c1 => ?_)
  ·
    exact k0 c1
  ·
    refine go_aload_n (q := 8) d_di_findGreatest_7 rfl rfl rfl ?_
    exact k1 c1

set_option maxRecDepth 4000 in
theorem sd_fg_11 {φ : go_F} {l : Launch} {R : Room} {u : Nat × Nat} {h : mv_H} {n : Nat} {x y qq : Nat} {z : Int} (hm_d : DV h 17 ) (hz : 0 ≤ z ∧ z ≤ 1)
    (k0 : z = 0 → Go φ l m_di_findGreatest R u 31 [some (mv_R 17), some (mv_R x), some (mv_R y), some (mv_R qq), none, none, none, none, none, none] [] h n)
    (k1 : ¬ z = 0 → Go φ l m_di_findGreatest R u 14 [some (mv_R 17), some (mv_R x), some (mv_R y), some (mv_R qq), none, none, none, none, none, none] [] h n) :
    Go φ l m_di_findGreatest R u 11 [some (mv_R 17), some (mv_R x), some (mv_R y), some (mv_R qq), none, none, none, none, none, none] [mv_I z] h n := by
  refine go_if_eq (t := 31) (q := 14) d_di_findGreatest_11 (by decide) rfl (by omega) (fun c1 => ?_) (fun c1 => ?_)
  ·
    exact k0 c1
  ·
    exact k1 c1

set_option maxRecDepth 4000 in
theorem sd_fg_14 {φ : go_F} {l : Launch} {R : Room} {u : Nat × Nat} {h : mv_H} {n : Nat} {x y qq : Nat} (hm_d : DV h 17 ) 
    (k0 : Go φ l m_di_findGreatest R u 16 [some (mv_R 17), some (mv_R x), some (mv_R y), some (mv_R qq), none, none, none, none, none, none] [mv_R x, mv_R qq] h n) :
    Go φ l m_di_findGreatest R u 14 [some (mv_R 17), some (mv_R x), some (mv_R y), some (mv_R qq), none, none, none, none, none, none] [] h n := by
  refine go_aload_n (q := 15) d_di_findGreatest_14 rfl rfl rfl ?_
  refine go_aload_n (q := 16) d_di_findGreatest_15 rfl rfl rfl ?_
  exact k0 

set_option maxRecDepth 4000 in
theorem sd_fg_19 {φ : go_F} {l : Launch} {R : Room} {u : Nat × Nat} {h : mv_H} {n : Nat} {x y qq : Nat} {z : Int} (hm_d : DV h 17 ) (hz : 0 ≤ z ∧ z ≤ 1)
    (k0 : z = 0 → Go φ l m_di_findGreatest R u 27 [some (mv_R 17), some (mv_R x), some (mv_R y), some (mv_R qq), none, none, none, none, none, none] [mv_R x, mv_R qq] h n)
    (k1 : ¬ z = 0 → Go φ l m_di_findGreatest R u 27 [some (mv_R 17), some (mv_R x), some (mv_R y), some (mv_R qq), none, none, none, none, none, none] [mv_R y, mv_R qq] h n) :
    Go φ l m_di_findGreatest R u 19 [some (mv_R 17), some (mv_R x), some (mv_R y), some (mv_R qq), none, none, none, none, none, none] [mv_I z, mv_R qq] h n := by
  refine go_if_eq (t := 26) (q := 22) d_di_findGreatest_19 (by decide) rfl (by omega) (fun c1 => ?_) (fun c1 => ?_)
  ·
    refine go_aload_n (q := 27) d_di_findGreatest_26 rfl rfl rfl ?_
    exact k0 c1
  ·
    refine go_aload_n (q := 23) d_di_findGreatest_22 rfl rfl rfl ?_
    refine go_goto (q := 27) d_di_findGreatest_23 (by decide) ?_
    exact k1 c1

set_option maxRecDepth 4000 in
theorem sd_fg_31 {φ : go_F} {l : Launch} {R : Room} {u : Nat × Nat} {h : mv_H} {n : Nat} {x y qq : Nat} (hm_d : DV h 17 ) 
    (k0 : Go φ l m_di_findGreatest R u 46 [some (mv_R 17), some (mv_R x), some (mv_R y), some (mv_R qq), some (mv_R 22), some (mv_R 24), none, none, none, none] [mv_R x, mv_R 22] h n) :
    Go φ l m_di_findGreatest R u 31 [some (mv_R 17), some (mv_R x), some (mv_R y), some (mv_R qq), none, none, none, none, none, none] [] h n := by
  refine go_aload_n (q := 32) d_di_findGreatest_31 rfl rfl rfl ?_
  refine go_getf (q := 35) f_di_23 d_di_findGreatest_32 rfl (DV_c0 hm_d) rfl ?_
  refine go_astore (q := 37) (L' := [some (mv_R 17), some (mv_R x), some (mv_R y), some (mv_R qq), some (mv_R 22), none, none, none, none, none]) d_di_findGreatest_35 rfl (by decide) rfl ?_
  refine go_aload_n (q := 38) d_di_findGreatest_37 rfl rfl rfl ?_
  refine go_getf (q := 41) f_di_26 d_di_findGreatest_38 rfl (DV_c0 hm_d) rfl ?_
  refine go_astore (q := 43) (L' := [some (mv_R 17), some (mv_R x), some (mv_R y), some (mv_R qq), some (mv_R 22), some (mv_R 24), none, none, none, none]) d_di_findGreatest_41 rfl (by decide) rfl ?_
  refine go_aload (q := 45) d_di_findGreatest_43 rfl rfl ?_
  refine go_aload_n (q := 46) d_di_findGreatest_45 rfl rfl rfl ?_
  exact k0 

set_option maxRecDepth 4000 in
theorem sd_fg_49 {φ : go_F} {l : Launch} {R : Room} {u : Nat × Nat} {h : mv_H} {n : Nat} {x y qq : Nat} {m e : Nat} (hm_d : DV h 17 ) 
    (k0 : Go φ l m_di_findGreatest R u 52 [some (mv_R 17), some (mv_R x), some (mv_R y), some (mv_R qq), some (mv_R m), some (mv_R e), none, none, none, none] [mv_R y, mv_R e] h n) :
    Go φ l m_di_findGreatest R u 49 [some (mv_R 17), some (mv_R x), some (mv_R y), some (mv_R qq), some (mv_R m), some (mv_R e), none, none, none, none] [] h n := by
  refine go_aload (q := 51) d_di_findGreatest_49 rfl rfl ?_
  refine go_aload_n (q := 52) d_di_findGreatest_51 rfl rfl rfl ?_
  exact k0 

set_option maxRecDepth 4000 in
theorem sd_fg_55 {φ : go_F} {l : Launch} {R : Room} {u : Nat × Nat} {h : mv_H} {n : Nat} {x y qq : Nat} {m e : Nat} (hm_d : DV h 17 ) 
    (k0 : Go φ l m_di_findGreatest R u 57 [some (mv_R 17), some (mv_R x), some (mv_R y), some (mv_R qq), some (mv_R m), some (mv_R e), none, none, none, none] [mv_R m] h n) :
    Go φ l m_di_findGreatest R u 55 [some (mv_R 17), some (mv_R x), some (mv_R y), some (mv_R qq), some (mv_R m), some (mv_R e), none, none, none, none] [] h n := by
  refine go_aload (q := 57) d_di_findGreatest_55 rfl rfl ?_
  exact k0 

set_option maxRecDepth 4000 in
theorem sd_fg_60 {φ : go_F} {l : Launch} {R : Room} {u : Nat × Nat} {h : mv_H} {n : Nat} {x y qq : Nat} {m e : Nat} {z : Int} (hm_d : DV h 17 ) 
    (k0 : Go φ l m_di_findGreatest R u 62 [some (mv_R 17), some (mv_R x), some (mv_R y), some (mv_R qq), some (mv_R m), some (mv_R e), none, none, none, none] [mv_R e, mv_I z] h n) :
    Go φ l m_di_findGreatest R u 60 [some (mv_R 17), some (mv_R x), some (mv_R y), some (mv_R qq), some (mv_R m), some (mv_R e), none, none, none, none] [mv_I z] h n := by
  refine go_aload (q := 62) d_di_findGreatest_60 rfl rfl ?_
  exact k0 

set_option maxRecDepth 4000 in
theorem sd_fg_68 {φ : go_F} {l : Launch} {R : Room} {u : Nat × Nat} {h : mv_H} {n : Nat} {x y qq : Nat} {m e : Nat} {tw : Int} (hm_d : DV h 17 ) 
    (k0 : Go φ l m_di_findGreatest R u 73 [some (mv_R 17), some (mv_R x), some (mv_R y), some (mv_R qq), some (mv_R m), some (mv_R e), some (mv_I tw), some (mv_I 0), none, none] [] h n) :
    Go φ l m_di_findGreatest R u 68 [some (mv_R 17), some (mv_R x), some (mv_R y), some (mv_R qq), some (mv_R m), some (mv_R e), none, none, none, none] [mv_I tw] h n := by
  refine go_istore (q := 70) (L' := [some (mv_R 17), some (mv_R x), some (mv_R y), some (mv_R qq), some (mv_R m), some (mv_R e), some (mv_I tw), none, none, none]) d_di_findGreatest_68 rfl (by decide) rfl ?_
  refine go_iconst (q := 71) d_di_findGreatest_70 rfl ?_
  refine go_istore (q := 73) (L' := [some (mv_R 17), some (mv_R x), some (mv_R y), some (mv_R qq), some (mv_R m), some (mv_R e), some (mv_I tw), some (mv_I 0), none, none]) d_di_findGreatest_71 rfl (by decide) rfl ?_
  exact k0 

set_option maxRecDepth 4000 in
theorem sd_fg_73 {φ : go_F} {l : Launch} {R : Room} {u : Nat × Nat} {h : mv_H} {n : Nat} {x y qq : Nat} {m e : Nat} {tw k : Int} (hm_d : DV h 17 ) (hk : 0 ≤ k ∧ k ≤ 1000)
    (k0 : 1000 ≤ k → Go φ l m_di_findGreatest R u 142 [some (mv_R 17), some (mv_R x), some (mv_R y), some (mv_R qq), some (mv_R m), some (mv_R e), some (mv_I tw), some (mv_I k), none, none] [] h n)
    (k1 : ¬ 1000 ≤ k → Go φ l m_di_findGreatest R u 85 [some (mv_R 17), some (mv_R x), some (mv_R y), some (mv_R qq), some (mv_R m), some (mv_R e), some (mv_I tw), some (mv_I k), none, none] [mv_R e, mv_R m] h n) :
    Go φ l m_di_findGreatest R u 73 [some (mv_R 17), some (mv_R x), some (mv_R y), some (mv_R qq), some (mv_R m), some (mv_R e), some (mv_I tw), some (mv_I k), none, none] [] h n := by
  refine go_iload (q := 75) d_di_findGreatest_73 rfl rfl ?_
  refine go_sipush (q := 78) d_di_findGreatest_75 rfl (by decide) ?_
  refine go_icmp_ge (t := 142) (q := 81) d_di_findGreatest_78 (by decide) rfl (by omega) (by omega) (fun c1 => ?_) (fun c1 => ?_)
  ·
    exact k0 c1
  ·
    refine go_aload (q := 83) d_di_findGreatest_81 rfl rfl ?_
    refine go_aload (q := 85) d_di_findGreatest_83 rfl rfl ?_
    exact k1 c1

set_option maxRecDepth 4000 in
theorem sd_fg_88 {φ : go_F} {l : Launch} {R : Room} {u : Nat × Nat} {h : mv_H} {n : Nat} {x y qq : Nat} {m e : Nat} {tw k z : Int} (hm_d : DV h 17 ) (hz : -1 ≤ z ∧ z ≤ 1)
    (k0 : 0 ≤ z → z = 0 → Go φ l m_di_findGreatest R u 142 [some (mv_R 17), some (mv_R x), some (mv_R y), some (mv_R qq), some (mv_R m), some (mv_R e), some (mv_I tw), some (mv_I k), none, none] [] h n)
    (k1 : 0 ≤ z → ¬ z = 0 → Go φ l m_di_findGreatest R u 114 [some (mv_R 17), some (mv_R x), some (mv_R y), some (mv_R qq), some (mv_R m), some (mv_R e), some (mv_I tw), some (mv_I k), some (mv_I z), none] [mv_R e] h n)
    (k2 : ¬ 0 ≤ z → z = 0 → Go φ l m_di_findGreatest R u 142 [some (mv_R 17), some (mv_R x), some (mv_R y), some (mv_R qq), some (mv_R e), some (mv_R m), some (mv_I tw), some (mv_I k), none, none] [] h n)
    (k3 : ¬ 0 ≤ z → ¬ z = 0 → Go φ l m_di_findGreatest R u 114 [some (mv_R 17), some (mv_R x), some (mv_R y), some (mv_R qq), some (mv_R e), some (mv_R m), some (mv_I tw), some (mv_I k), some (mv_I z), none] [mv_R m] h n) :
    Go φ l m_di_findGreatest R u 88 [some (mv_R 17), some (mv_R x), some (mv_R y), some (mv_R qq), some (mv_R m), some (mv_R e), some (mv_I tw), some (mv_I k), none, none] [mv_I z] h n := by
  refine go_istore (q := 90) (L' := [some (mv_R 17), some (mv_R x), some (mv_R y), some (mv_R qq), some (mv_R m), some (mv_R e), some (mv_I tw), some (mv_I k), some (mv_I z), none]) d_di_findGreatest_88 rfl (by decide) rfl ?_
  refine go_iload (q := 92) d_di_findGreatest_90 rfl rfl ?_
  refine go_if_ge (t := 107) (q := 95) d_di_findGreatest_92 (by decide) rfl (by omega) (fun c1 => ?_) (fun c1 => ?_)
  ·
    refine go_iload (q := 109) d_di_findGreatest_107 rfl rfl ?_
    refine go_if_eq (t := 142) (q := 112) d_di_findGreatest_109 (by decide) rfl (by omega) (fun c2 => ?_) (fun c2 => ?_)
    ·
      refine go_fg 8 (L' := [some (mv_R 17), some (mv_R x), some (mv_R y), some (mv_R qq), some (mv_R m), some (mv_R e), some (mv_I tw), some (mv_I k), none, none]) rfl ?_
      exact k0 c1 c2
    ·
      refine go_aload (q := 114) d_di_findGreatest_112 rfl rfl ?_
      exact k1 c1 c2
  ·
    refine go_aload (q := 97) d_di_findGreatest_95 rfl rfl ?_
    refine go_astore (q := 99) (L' := [some (mv_R 17), some (mv_R x), some (mv_R y), some (mv_R qq), some (mv_R m), some (mv_R e), some (mv_I tw), some (mv_I k), some (mv_I z), some (mv_R m)]) d_di_findGreatest_97 rfl (by decide) rfl ?_
    refine go_aload (q := 101) d_di_findGreatest_99 rfl rfl ?_
    refine go_astore (q := 103) (L' := [some (mv_R 17), some (mv_R x), some (mv_R y), some (mv_R qq), some (mv_R e), some (mv_R e), some (mv_I tw), some (mv_I k), some (mv_I z), some (mv_R m)]) d_di_findGreatest_101 rfl (by decide) rfl ?_
    refine go_aload (q := 105) d_di_findGreatest_103 rfl rfl ?_
    refine go_astore (q := 107) (L' := [some (mv_R 17), some (mv_R x), some (mv_R y), some (mv_R qq), some (mv_R e), some (mv_R m), some (mv_I tw), some (mv_I k), some (mv_I z), some (mv_R m)]) d_di_findGreatest_105 rfl (by decide) rfl ?_
    refine go_iload (q := 109) d_di_findGreatest_107 rfl rfl ?_
    refine go_if_eq (t := 142) (q := 112) d_di_findGreatest_109 (by decide) rfl (by omega) (fun c3 => ?_) (fun c3 => ?_)
    ·
      refine go_fg 8 (L' := [some (mv_R 17), some (mv_R x), some (mv_R y), some (mv_R qq), some (mv_R e), some (mv_R m), some (mv_I tw), some (mv_I k), none, some (mv_R m)]) rfl ?_
      refine go_fg 9 (L' := [some (mv_R 17), some (mv_R x), some (mv_R y), some (mv_R qq), some (mv_R e), some (mv_R m), some (mv_I tw), some (mv_I k), none, none]) rfl ?_
      exact k2 c1 c3
    ·
      refine go_aload (q := 114) d_di_findGreatest_112 rfl rfl ?_
      refine go_fg 9 (L' := [some (mv_R 17), some (mv_R x), some (mv_R y), some (mv_R qq), some (mv_R e), some (mv_R m), some (mv_I tw), some (mv_I k), some (mv_I z), none]) rfl ?_
      exact k3 c1 c3

set_option maxRecDepth 4000 in
theorem sd_fg_117 {φ : go_F} {l : Launch} {R : Room} {u : Nat × Nat} {h : mv_H} {n : Nat} {x y qq : Nat} {m e : Nat} {tw k z w : Int} (hm_d : DV h 17 ) (hw : 0 ≤ w ∧ w ≤ 1)
    (k0 : w = 0 → Go φ l m_di_findGreatest R u 127 [some (mv_R 17), some (mv_R x), some (mv_R y), some (mv_R qq), some (mv_R m), some (mv_R e), some (mv_I tw), some (mv_I k), none, none] [mv_R e, mv_R m] h n)
    (k1 : ¬ w = 0 → Go φ l m_di_findGreatest R u 142 [some (mv_R 17), some (mv_R x), some (mv_R y), some (mv_R qq), some (mv_R m), some (mv_R e), some (mv_I tw), some (mv_I k), none, none] [] h n) :
    Go φ l m_di_findGreatest R u 117 [some (mv_R 17), some (mv_R x), some (mv_R y), some (mv_R qq), some (mv_R m), some (mv_R e), some (mv_I tw), some (mv_I k), some (mv_I z), none] [mv_I w] h n := by
  refine go_if_eq (t := 123) (q := 120) d_di_findGreatest_117 (by decide) rfl (by omega) (fun c1 => ?_) (fun c1 => ?_)
  ·
    refine go_aload (q := 125) d_di_findGreatest_123 rfl rfl ?_
    refine go_aload (q := 127) d_di_findGreatest_125 rfl rfl ?_
    refine go_fg 8 (L' := [some (mv_R 17), some (mv_R x), some (mv_R y), some (mv_R qq), some (mv_R m), some (mv_R e), some (mv_I tw), some (mv_I k), none, none]) rfl ?_
    exact k0 c1
  ·
    refine go_goto (q := 142) d_di_findGreatest_120 (by decide) ?_
    refine go_fg 8 (L' := [some (mv_R 17), some (mv_R x), some (mv_R y), some (mv_R qq), some (mv_R m), some (mv_R e), some (mv_I tw), some (mv_I k), none, none]) rfl ?_
    exact k1 c1

set_option maxRecDepth 4000 in
theorem sd_fg_130 {φ : go_F} {l : Launch} {R : Room} {u : Nat × Nat} {h : mv_H} {n : Nat} {x y qq : Nat} {m e : Nat} {tw k : Int} (hm_d : DV h 17 ) 
    (k0 : Go φ l m_di_findGreatest R u 132 [some (mv_R 17), some (mv_R x), some (mv_R y), some (mv_R qq), some (mv_R m), some (mv_R e), some (mv_I tw), some (mv_I k), none, none] [mv_R m] h n) :
    Go φ l m_di_findGreatest R u 130 [some (mv_R 17), some (mv_R x), some (mv_R y), some (mv_R qq), some (mv_R m), some (mv_R e), some (mv_I tw), some (mv_I k), none, none] [] h n := by
  refine go_aload (q := 132) d_di_findGreatest_130 rfl rfl ?_
  exact k0 

set_option maxRecDepth 4000 in
theorem sd_fg_135 {φ : go_F} {l : Launch} {R : Room} {u : Nat × Nat} {h : mv_H} {n : Nat} {x y qq : Nat} {m e : Nat} {tw k z : Int} (hm_d : DV h 17 ) 
    (k0 : Go φ l m_di_findGreatest R u 73 [some (mv_R 17), some (mv_R x), some (mv_R y), some (mv_R qq), some (mv_R m), some (mv_R e), some (mv_I tw), some (mv_I (k + 1)), none, none] [] h n) :
    Go φ l m_di_findGreatest R u 135 [some (mv_R 17), some (mv_R x), some (mv_R y), some (mv_R qq), some (mv_R m), some (mv_R e), some (mv_I tw), some (mv_I k), none, none] [mv_I z] h n := by
  refine go_pop (q := 136) d_di_findGreatest_135 rfl rfl ?_
  refine go_iinc (q := 139) (L' := [some (mv_R 17), some (mv_R x), some (mv_R y), some (mv_R qq), some (mv_R m), some (mv_R e), some (mv_I tw), some (mv_I (k + 1)), none, none]) d_di_findGreatest_136 rfl (by decide) rfl rfl ?_
  refine go_goto (q := 73) d_di_findGreatest_139 (by decide) ?_
  exact k0 

set_option maxRecDepth 4000 in
theorem sd_fg_142 {φ : go_F} {l : Launch} {R : Room} {u : Nat × Nat} {h : mv_H} {n : Nat} {x y qq : Nat} {m e : Nat} {tw k : Int} (hm_d : DV h 17 ) 
    (k0 : Go φ l m_di_findGreatest R u 145 [some (mv_R 17), some (mv_R x), some (mv_R y), some (mv_R qq), some (mv_R m), some (mv_R e), some (mv_I tw), some (mv_I k), none, none] [mv_R e, mv_R qq] h n) :
    Go φ l m_di_findGreatest R u 142 [some (mv_R 17), some (mv_R x), some (mv_R y), some (mv_R qq), some (mv_R m), some (mv_R e), some (mv_I tw), some (mv_I k), none, none] [] h n := by
  refine go_aload_n (q := 143) d_di_findGreatest_142 rfl rfl rfl ?_
  refine go_aload (q := 145) d_di_findGreatest_143 rfl rfl ?_
  exact k0 

set_option maxRecDepth 4000 in
theorem sd_fg_148 {φ : go_F} {l : Launch} {R : Room} {u : Nat × Nat} {h : mv_H} {n : Nat} {x y qq : Nat} {m e : Nat} {tw k : Int} (hm_d : DV h 17 ) 
    (k0 : Go φ l m_di_findGreatest R u 152 [some (mv_R 17), some (mv_R x), some (mv_R y), some (mv_R qq), some (mv_R m), some (mv_R e), some (mv_I tw), some (mv_I tw), none, none] [] h n) :
    Go φ l m_di_findGreatest R u 148 [some (mv_R 17), some (mv_R x), some (mv_R y), some (mv_R qq), some (mv_R m), some (mv_R e), some (mv_I tw), some (mv_I k), none, none] [] h n := by
  refine go_iload (q := 150) d_di_findGreatest_148 rfl rfl ?_
  refine go_istore (q := 152) (L' := [some (mv_R 17), some (mv_R x), some (mv_R y), some (mv_R qq), some (mv_R m), some (mv_R e), some (mv_I tw), some (mv_I tw), none, none]) d_di_findGreatest_150 rfl (by decide) rfl ?_
  exact k0 

set_option maxRecDepth 4000 in
theorem sd_fg_152 {φ : go_F} {l : Launch} {R : Room} {u : Nat × Nat} {h : mv_H} {n : Nat} {x y qq : Nat} {m e : Nat} {tw k : Int} (hm_d : DV h 17 ) (hk : -100 ≤ k ∧ k ≤ 3000)
    (k0 : k ≤ 0 → Go φ l m_di_findGreatest R u 177 [some (mv_R 17), some (mv_R x), some (mv_R y), some (mv_R qq), some (mv_R m), some (mv_R e), some (mv_I tw), some (mv_I k), none, none] [] h n)
    (k1 : ¬ k ≤ 0 → Go φ l m_di_findGreatest R u 163 [some (mv_R 17), some (mv_R x), some (mv_R y), some (mv_R qq), some (mv_R m), some (mv_R e), some (mv_I tw), some (mv_I k), none, none] [mv_I 30, mv_I k, mv_I 1, mv_R qq] h n) :
    Go φ l m_di_findGreatest R u 152 [some (mv_R 17), some (mv_R x), some (mv_R y), some (mv_R qq), some (mv_R m), some (mv_R e), some (mv_I tw), some (mv_I k), none, none] [] h n := by
  refine go_iload (q := 154) d_di_findGreatest_152 rfl rfl ?_
  refine go_if_le (t := 177) (q := 157) d_di_findGreatest_154 (by decide) rfl (by omega) (fun c1 => ?_) (fun c1 => ?_)
  ·
    exact k0 c1
  ·
    refine go_aload_n (q := 158) d_di_findGreatest_157 rfl rfl rfl ?_
    refine go_iconst (q := 159) d_di_findGreatest_158 rfl ?_
    refine go_iload (q := 161) d_di_findGreatest_159 rfl rfl ?_
    refine go_bipush (q := 163) d_di_findGreatest_161 rfl (by decide) ?_
    exact k1 c1

set_option maxRecDepth 4000 in
theorem sd_fg_166 {φ : go_F} {l : Launch} {R : Room} {u : Nat × Nat} {h : mv_H} {n : Nat} {x y qq : Nat} {m e : Nat} {tw k : Int} {z0 : Nat} {z : Int} (hm_d : DV h 17 ) (hz : z = (z0 : Int) ∧ z0 ≤ 30)
    (k0 : Go φ l m_di_findGreatest R u 168 [some (mv_R 17), some (mv_R x), some (mv_R y), some (mv_R qq), some (mv_R m), some (mv_R e), some (mv_I tw), some (mv_I k), none, none] [mv_I 0, mv_I (1 * ((2 ^ z0 : Nat) : Int)), mv_R qq] h n) :
    Go φ l m_di_findGreatest R u 166 [some (mv_R 17), some (mv_R x), some (mv_R y), some (mv_R qq), some (mv_R m), some (mv_R e), some (mv_I tw), some (mv_I k), none, none] [mv_I z, mv_I 1, mv_R qq] h n := by
  refine go_ishl (z := 1 * ((2 ^ z0 : Nat) : Int)) (q := 167) d_di_findGreatest_166 rfl (gn_shl32 z0 (by omega) hz.1 rfl) ?_
  refine go_iconst (q := 168) d_di_findGreatest_167 rfl ?_
  exact k0 

set_option maxRecDepth 4000 in
theorem sd_fg_171 {φ : go_F} {l : Launch} {R : Room} {u : Nat × Nat} {h : mv_H} {n : Nat} {x y qq : Nat} {m e : Nat} {tw k : Int} (hm_d : DV h 17 ) 
    (k0 : Go φ l m_di_findGreatest R u 152 [some (mv_R 17), some (mv_R x), some (mv_R y), some (mv_R qq), some (mv_R m), some (mv_R e), some (mv_I tw), some (mv_I (k + (-30))), none, none] [] h n) :
    Go φ l m_di_findGreatest R u 171 [some (mv_R 17), some (mv_R x), some (mv_R y), some (mv_R qq), some (mv_R m), some (mv_R e), some (mv_I tw), some (mv_I k), none, none] [] h n := by
  refine go_iinc (q := 174) (L' := [some (mv_R 17), some (mv_R x), some (mv_R y), some (mv_R qq), some (mv_R m), some (mv_R e), some (mv_I tw), some (mv_I (k + (-30))), none, none]) d_di_findGreatest_171 rfl (by decide) rfl rfl ?_
  refine go_goto (q := 152) d_di_findGreatest_174 (by decide) ?_
  exact k0 

