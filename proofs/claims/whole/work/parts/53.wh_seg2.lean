set_option maxRecDepth 4000 in
theorem sc_add_0 {φ : go_F} {l : Launch} {R : Room} {u : Nat × Nat} {h : mv_H} {n : Nat} {p r N K : Nat} {f g : Nat → Int} {s t : Int} (hm_p : WO h p N f s) (hm_r : WO h r K g t) 
    (k0 : Go φ l m_wh_add R u 8 [some (mv_R p), some (mv_R r), none, none, none, none] [mv_I t, mv_I s] h n) :
    Go φ l m_wh_add R u 0 [some (mv_R p), some (mv_R r), none, none, none, none] [] h n := by
  refine go_aload_n (q := 1) d_wh_add_0 rfl rfl rfl ?_
  refine go_getf (q := 4) f_wh_15 d_wh_add_1 rfl (WO_c0 hm_p) rfl ?_
  refine go_aload_n (q := 5) d_wh_add_4 rfl rfl rfl ?_
  refine go_getf (q := 8) f_wh_15 d_wh_add_5 rfl (WO_c0 hm_r) rfl ?_
  exact k0 

set_option maxRecDepth 4000 in
theorem sc_copy_0 {φ : go_F} {l : Launch} {R : Room} {u : Nat × Nat} {h : mv_H} {n : Nat} {p r N K : Nat} {f g : Nat → Int} {s t : Int} (hm_p : WO h p N f s) (hm_r : WO h r K g t) (hdis : p + 1 < r ∨ r + 1 < p)
    (k0 : ∀ h' : mv_H, WO h' p N f t → WO h' r K g t → (∀ z_, (z_ < p ∨ p + 2 ≤ z_) → h' z_ = h z_) → Go φ l m_wh_copy R u 22 [some (mv_R p), some (mv_R r)] [mv_I t, mv_I 0, mv_R (p + 1), mv_I 0, mv_R (r + 1)] h' n) :
    Go φ l m_wh_copy R u 0 [some (mv_R p), some (mv_R r)] [] h n := by
  refine go_aload_n (q := 1) d_wh_copy_0 rfl rfl rfl ?_
  refine go_aload_n (q := 2) d_wh_copy_1 rfl rfl rfl ?_
  refine go_getf (q := 5) f_wh_15 d_wh_copy_2 rfl (WO_c0 hm_r) rfl ?_
  refine go_putf (q := 8) (v := mv_I t) f_wh_15 d_wh_copy_5 rfl (WO_c0 hm_p) (Nat.le_of_ble_eq_true rfl) (go_fitI _) ?_
  refine go_eq (h' := va_up h p (mv_O 5 [mv_R (p + 1), mv_I t])) ?_
  have hm_3 := WO_u0 hm_p t
  have fr_2 : ∀ z_, z_ ≠ p → va_up h p (mv_O 5 [mv_R (p + 1), mv_I t]) z_ = h z_ := fun z_ hj => va_up_ne _ _ hj
  generalize va_up h p (mv_O 5 [mv_R (p + 1), mv_I t]) = h_1 at hm_3 fr_2 ⊢
  have hm_4 := WO_k hm_r (h' := h_1) (fun z_ ha hb => fr_2 z_ (by omega))
  refine go_aload_n (q := 9) d_wh_copy_8 rfl rfl rfl ?_
  refine go_getf (q := 12) f_wh_9 d_wh_copy_9 rfl (WO_c0 hm_4) rfl ?_
  refine go_iconst (q := 13) d_wh_copy_12 rfl ?_
  refine go_aload_n (q := 14) d_wh_copy_13 rfl rfl rfl ?_
  refine go_getf (q := 17) f_wh_9 d_wh_copy_14 rfl (WO_c0 hm_3) rfl ?_
  refine go_iconst (q := 18) d_wh_copy_17 rfl ?_
  refine go_aload_n (q := 19) d_wh_copy_18 rfl rfl rfl ?_
  refine go_getf (q := 22) f_wh_15 d_wh_copy_19 rfl (WO_c0 hm_3) rfl ?_
  exact k0  _ hm_3 hm_4 (fun z_ g0 => (fr_2 z_ (by omega)))

set_option maxRecDepth 4000 in
theorem sc_bp_0 {φ : go_F} {l : Launch} {R : Room} {u : Nat × Nat} {h : mv_H} {n : Nat} {p x y N K J : Nat} {f g e : Nat → Int} {s : Int} {a b : Nat} (hm_p : WO h p N f s) (hm_x : WO h x K g (a : Int)) (hm_y : WO h y J e (b : Int)) 
    (k0 : Go φ l m_wh_becomeProduct R u 2 [some (mv_R p), some (mv_R x), some (mv_R y), some (mv_I 0), none, none, none, none, none, none, none] [] h n) :
    Go φ l m_wh_becomeProduct R u 0 [some (mv_R p), some (mv_R x), some (mv_R y), none, none, none, none, none, none, none, none] [] h n := by
  refine go_iconst (q := 1) d_wh_becomeProduct_0 rfl ?_
  refine go_istore_n (q := 2) (L' := [some (mv_R p), some (mv_R x), some (mv_R y), some (mv_I 0), none, none, none, none, none, none, none]) d_wh_becomeProduct_1 rfl rfl (by decide) rfl ?_
  exact k0 

set_option maxRecDepth 4000 in
theorem sc_bp_2 {φ : go_F} {l : Launch} {R : Room} {u : Nat × Nat} {h : mv_H} {n : Nat} {p x y N K J : Nat} {f g e : Nat → Int} {s : Int} {a b : Nat} {i : Nat} (hm_p : WO h p N f s) (hm_x : WO h x K g (a : Int)) (hm_y : WO h y J e (b : Int)) (hdis : (p + 1 < x ∨ x + 1 < p) ∧ (p + 1 < y ∨ y + 1 < p)) (hab : a + b ≤ N ∧ a ≤ K ∧ b ≤ J) (hN : N < 100 ∧ K < 100 ∧ J < 100) (hi : i ≤ a + b)
    (k0 : (a : Int) + (b : Int) ≤ (i : Int) → Go φ l m_wh_becomeProduct R u 28 [some (mv_R p), some (mv_R x), some (mv_R y), some (mv_I (i : Int)), none, none, none, none, none, none, none] [] h n)
    (k1 : ¬ (a : Int) + (b : Int) ≤ (i : Int) → ∀ h' : mv_H, WO h' p N (va_up f i 0) s → WO h' x K g (a : Int) → WO h' y J e (b : Int) → (∀ z_, (z_ < p ∨ p + 2 ≤ z_) → h' z_ = h z_) → Go φ l m_wh_becomeProduct R u 2 [some (mv_R p), some (mv_R x), some (mv_R y), some (mv_I ((i : Int) + 1)), none, none, none, none, none, none, none] [] h' n) :
    Go φ l m_wh_becomeProduct R u 2 [some (mv_R p), some (mv_R x), some (mv_R y), some (mv_I (i : Int)), none, none, none, none, none, none, none] [] h n := by
  refine go_iload_n (q := 3) d_wh_becomeProduct_2 rfl rfl rfl ?_
  refine go_aload_n (q := 4) d_wh_becomeProduct_3 rfl rfl rfl ?_
  refine go_getf (q := 7) f_wh_15 d_wh_becomeProduct_4 rfl (WO_c0 hm_x) rfl ?_
  refine go_aload_n (q := 8) d_wh_becomeProduct_7 rfl rfl rfl ?_
  refine go_getf (q := 11) f_wh_15 d_wh_becomeProduct_8 rfl (WO_c0 hm_y) rfl ?_
  refine go_iadd (q := 12) d_wh_becomeProduct_11 rfl ?_
  refine go_icmp_ge (t := 28) (q := 15) d_wh_becomeProduct_12 (by decide) rfl (by omega) (by omega) (fun c1 => ?_) (fun c1 => ?_)
  ·
    exact k0 c1
  ·
    refine go_aload_n (q := 16) d_wh_becomeProduct_15 rfl rfl rfl ?_
    refine go_getf (q := 19) f_wh_9 d_wh_becomeProduct_16 rfl (WO_c0 hm_p) rfl ?_
    refine go_iload_n (q := 20) d_wh_becomeProduct_19 rfl rfl rfl ?_
    refine go_iconst (q := 21) d_wh_becomeProduct_20 rfl ?_
    refine go_iast (i := i) (q := 22) d_wh_becomeProduct_21 rfl (WO_c1 hm_p) (by omega) (by omega) (by omega) ?_
    have hm_4 := WO_u1 hm_p (va_up f i 0)
    have fr_3 : ∀ z_, z_ ≠ (p + 1) → va_up h (p + 1) (mv_A 0 N (va_up f i 0)) z_ = h z_ := fun z_ hj => va_up_ne _ _ hj
    generalize va_up h (p + 1) (mv_A 0 N (va_up f i 0)) = h_2 at hm_4 fr_3 ⊢
    have hm_5 := WO_k hm_x (h' := h_2) (fun z_ ha hb => fr_3 z_ (by omega))
    have hm_6 := WO_k hm_y (h' := h_2) (fun z_ ha hb => fr_3 z_ (by omega))
    refine go_iinc (q := 25) (L' := [some (mv_R p), some (mv_R x), some (mv_R y), some (mv_I ((i : Int) + 1)), none, none, none, none, none, none, none]) d_wh_becomeProduct_22 rfl (by decide) rfl rfl ?_
    refine go_goto (q := 2) d_wh_becomeProduct_25 (by decide) ?_
    exact k1 c1 _ hm_4 hm_5 hm_6 (fun z_ g0 => (fr_3 z_ (by omega)))

set_option maxRecDepth 4000 in
theorem sc_bp_28 {φ : go_F} {l : Launch} {R : Room} {u : Nat × Nat} {h : mv_H} {n : Nat} {p x y N K J : Nat} {f g e : Nat → Int} {s : Int} {a b : Nat} {i : Nat} (hm_p : WO h p N f s) (hm_x : WO h x K g (a : Int)) (hm_y : WO h y J e (b : Int)) 
    (k0 : Go φ l m_wh_becomeProduct R u 30 [some (mv_R p), some (mv_R x), some (mv_R y), some (mv_I 0), none, none, none, none, none, none, none] [] h n) :
    Go φ l m_wh_becomeProduct R u 28 [some (mv_R p), some (mv_R x), some (mv_R y), some (mv_I (i : Int)), none, none, none, none, none, none, none] [] h n := by
  refine go_iconst (q := 29) d_wh_becomeProduct_28 rfl ?_
  refine go_istore_n (q := 30) (L' := [some (mv_R p), some (mv_R x), some (mv_R y), some (mv_I 0), none, none, none, none, none, none, none]) d_wh_becomeProduct_29 rfl rfl (by decide) rfl ?_
  exact k0 

set_option maxRecDepth 4000 in
theorem sc_bp_30 {φ : go_F} {l : Launch} {R : Room} {u : Nat × Nat} {h : mv_H} {n : Nat} {p x y N K J : Nat} {f g e : Nat → Int} {s : Int} {a b : Nat} {i : Nat} (hm_p : WO h p N f s) (hm_x : WO h x K g (a : Int)) (hm_y : WO h y J e (b : Int)) (hdis : (p + 1 < x ∨ x + 1 < p) ∧ (p + 1 < y ∨ y + 1 < p)) (hab : a + b ≤ N ∧ a ≤ K ∧ b ≤ J) (hN : N < 100 ∧ K < 100 ∧ J < 100) (hg : ∀ j, 0 ≤ g j ∧ g j ≤ 1073741823) (hi : i ≤ a)
    (k0 : (a : Int) ≤ (i : Int) → Go φ l m_wh_becomeProduct R u 138 [some (mv_R p), some (mv_R x), some (mv_R y), some (mv_I (i : Int)), none, none, none, none, none, none, none] [] h n)
    (k1 : ¬ (a : Int) ≤ (i : Int) → Go φ l m_wh_becomeProduct R u 53 [some (mv_R p), some (mv_R x), some (mv_R y), some (mv_I (i : Int)), some (mv_L (g i)), none, some (mv_L 0), none, some (mv_I 0), none, none] [] h n) :
    Go φ l m_wh_becomeProduct R u 30 [some (mv_R p), some (mv_R x), some (mv_R y), some (mv_I (i : Int)), none, none, none, none, none, none, none] [] h n := by
  refine go_iload_n (q := 31) d_wh_becomeProduct_30 rfl rfl rfl ?_
  refine go_aload_n (q := 32) d_wh_becomeProduct_31 rfl rfl rfl ?_
  refine go_getf (q := 35) f_wh_15 d_wh_becomeProduct_32 rfl (WO_c0 hm_x) rfl ?_
  refine go_icmp_ge (t := 138) (q := 38) d_wh_becomeProduct_35 (by decide) rfl (by omega) (by omega) (fun c1 => ?_) (fun c1 => ?_)
  ·
    exact k0 c1
  ·
    refine go_aload_n (q := 39) d_wh_becomeProduct_38 rfl rfl rfl ?_
    refine go_getf (q := 42) f_wh_9 d_wh_becomeProduct_39 rfl (WO_c0 hm_x) rfl ?_
    refine go_iload_n (q := 43) d_wh_becomeProduct_42 rfl rfl rfl ?_
    refine go_iald (i := i) (q := 44) d_wh_becomeProduct_43 rfl (WO_c1 hm_x) (by omega) (by omega) (by omega) ?_
    have q_2 := hg i
    refine go_i2l (q := 45) d_wh_becomeProduct_44 rfl (by omega) ?_
    refine go_lstore (q := 47) (L' := [some (mv_R p), some (mv_R x), some (mv_R y), some (mv_I (i : Int)), some (mv_L (g i)), none, none, none, none, none, none]) d_wh_becomeProduct_45 rfl (by decide) rfl ?_
    refine go_lconst (z := 0) (q := 48) d_wh_becomeProduct_47 rfl (by decide) ?_
    refine go_lstore (q := 50) (L' := [some (mv_R p), some (mv_R x), some (mv_R y), some (mv_I (i : Int)), some (mv_L (g i)), none, some (mv_L 0), none, none, none, none]) d_wh_becomeProduct_48 rfl (by decide) rfl ?_
    refine go_iconst (q := 51) d_wh_becomeProduct_50 rfl ?_
    refine go_istore (q := 53) (L' := [some (mv_R p), some (mv_R x), some (mv_R y), some (mv_I (i : Int)), some (mv_L (g i)), none, some (mv_L 0), none, some (mv_I 0), none, none]) d_wh_becomeProduct_51 rfl (by decide) rfl ?_
    exact k1 c1

set_option maxRecDepth 4000 in
theorem sc_bp_53 {φ : go_F} {l : Launch} {R : Room} {u : Nat × Nat} {h : mv_H} {n : Nat} {p x y N K J : Nat} {f g e : Nat → Int} {s : Int} {a b : Nat} {i k : Nat} {w c : Int} (hm_p : WO h p N f s) (hm_x : WO h x K g (a : Int)) (hm_y : WO h y J e (b : Int)) (hdis : (p + 1 < x ∨ x + 1 < p) ∧ (p + 1 < y ∨ y + 1 < p)) (hab : a + b ≤ N ∧ a ≤ K ∧ b ≤ J) (hN : N < 100 ∧ K < 100 ∧ J < 100) (hf : ∀ j, 0 ≤ f j ∧ f j ≤ 1073741823) (he : ∀ j, 0 ≤ e j ∧ e j ≤ 1073741823) (hi : i < a) (hk : k ≤ b) (hw : 0 ≤ w ∧ w ≤ 1073741823) (hc : 0 ≤ c ∧ c ≤ 1073741823)
    (k0 : (b : Int) ≤ (k : Int) → Go φ l m_wh_becomeProduct R u 118 [some (mv_R p), some (mv_R x), some (mv_R y), some (mv_I (i : Int)), some (mv_L w), none, some (mv_L c), none, some (mv_I (k : Int)), none, none] [] h n)
    (k1 : ¬ (b : Int) ≤ (k : Int) → ∀ h' : mv_H, WO h' p N (va_up f (i + k) ((((w * (e k)) + (f (i + k))) + c) % 1073741824)) s → WO h' x K g (a : Int) → WO h' y J e (b : Int) → (∀ z_, (z_ < p ∨ p + 2 ≤ z_) → h' z_ = h z_) → Go φ l m_wh_becomeProduct R u 53 [some (mv_R p), some (mv_R x), some (mv_R y), some (mv_I (i : Int)), some (mv_L w), none, some (mv_L ((((w * (e k)) + (f (i + k))) + c) / 1073741824)), none, some (mv_I ((k : Int) + 1)), none, none] [] h' n) :
    Go φ l m_wh_becomeProduct R u 53 [some (mv_R p), some (mv_R x), some (mv_R y), some (mv_I (i : Int)), some (mv_L w), none, some (mv_L c), none, some (mv_I (k : Int)), none, none] [] h n := by
  refine go_iload (q := 55) d_wh_becomeProduct_53 rfl rfl ?_
  refine go_aload_n (q := 56) d_wh_becomeProduct_55 rfl rfl rfl ?_
  refine go_getf (q := 59) f_wh_15 d_wh_becomeProduct_56 rfl (WO_c0 hm_y) rfl ?_
  refine go_icmp_ge (t := 118) (q := 62) d_wh_becomeProduct_59 (by decide) rfl (by omega) (by omega) (fun c1 => ?_) (fun c1 => ?_)
  ·
    exact k0 c1
  ·
    have hp_ := gn_muly hw (he k)
    refine go_lload (q := 64) d_wh_becomeProduct_62 rfl rfl ?_
    refine go_aload_n (q := 65) d_wh_becomeProduct_64 rfl rfl rfl ?_
    refine go_getf (q := 68) f_wh_9 d_wh_becomeProduct_65 rfl (WO_c0 hm_y) rfl ?_
    refine go_iload (q := 70) d_wh_becomeProduct_68 rfl rfl ?_
    refine go_iald (i := k) (q := 71) d_wh_becomeProduct_70 rfl (WO_c1 hm_y) (by omega) (by omega) (by omega) ?_
    have q_2 := he k
    refine go_i2l (q := 72) d_wh_becomeProduct_71 rfl (by omega) ?_
    refine go_lmul (q := 73) d_wh_becomeProduct_72 rfl ?_
    refine go_aload_n (q := 74) d_wh_becomeProduct_73 rfl rfl rfl ?_
    refine go_getf (q := 77) f_wh_9 d_wh_becomeProduct_74 rfl (WO_c0 hm_p) rfl ?_
    refine go_iload_n (q := 78) d_wh_becomeProduct_77 rfl rfl rfl ?_
    refine go_iload (q := 80) d_wh_becomeProduct_78 rfl rfl ?_
    refine go_iadd (q := 81) d_wh_becomeProduct_80 rfl ?_
    refine go_iald (i := i + k) (q := 82) d_wh_becomeProduct_81 rfl (WO_c1 hm_p) (by omega) (by omega) (by omega) ?_
    have q_3 := hf (i + k)
    refine go_i2l (q := 83) d_wh_becomeProduct_82 rfl (by omega) ?_
    refine go_ladd (q := 84) d_wh_becomeProduct_83 rfl ?_
    refine go_lload (q := 86) d_wh_becomeProduct_84 rfl rfl ?_
    refine go_ladd (q := 87) d_wh_becomeProduct_86 rfl ?_
    refine go_lstore (q := 89) (L' := [some (mv_R p), some (mv_R x), some (mv_R y), some (mv_I (i : Int)), some (mv_L w), none, some (mv_L c), none, some (mv_I (k : Int)), some (mv_L (((w * (e k)) + (f (i + k))) + c)), none]) d_wh_becomeProduct_87 rfl (by decide) rfl ?_
    refine go_aload_n (q := 90) d_wh_becomeProduct_89 rfl rfl rfl ?_
    refine go_getf (q := 93) f_wh_9 d_wh_becomeProduct_90 rfl (WO_c0 hm_p) rfl ?_
    refine go_iload_n (q := 94) d_wh_becomeProduct_93 rfl rfl rfl ?_
    refine go_iload (q := 96) d_wh_becomeProduct_94 rfl rfl ?_
    refine go_iadd (q := 97) d_wh_becomeProduct_96 rfl ?_
    refine go_lload (q := 99) d_wh_becomeProduct_97 rfl rfl ?_
    refine go_ldc2 (z := 1073741823) (q := 102) d_wh_becomeProduct_99 rfl tw_3_85 (by decide) ?_
    refine go_land (z := (((w * (e k)) + (f (i + k))) + c) % 1073741824) (q := 103) d_wh_becomeProduct_102 rfl (gn_maskL 30 (by decide) (by decide) (by decide) (by omega)) ?_
    refine go_l2i (q := 104) d_wh_becomeProduct_103 rfl ?_
    refine go_iast (i := i + k) (q := 105) d_wh_becomeProduct_104 rfl (WO_c1 hm_p) (by omega) (by omega) (by omega) ?_
    have hm_6 := WO_u1 hm_p (va_up f (i + k) ((((w * (e k)) + (f (i + k))) + c) % 1073741824))
    have fr_5 : ∀ z_, z_ ≠ (p + 1) → va_up h (p + 1) (mv_A 0 N (va_up f (i + k) ((((w * (e k)) + (f (i + k))) + c) % 1073741824))) z_ = h z_ := fun z_ hj => va_up_ne _ _ hj
    generalize va_up h (p + 1) (mv_A 0 N (va_up f (i + k) ((((w * (e k)) + (f (i + k))) + c) % 1073741824))) = h_4 at hm_6 fr_5 ⊢
    have hm_7 := WO_k hm_x (h' := h_4) (fun z_ ha hb => fr_5 z_ (by omega))
    have hm_8 := WO_k hm_y (h' := h_4) (fun z_ ha hb => fr_5 z_ (by omega))
    refine go_lload (q := 107) d_wh_becomeProduct_105 rfl rfl ?_
    refine go_bipush (q := 109) d_wh_becomeProduct_107 rfl (by decide) ?_
    refine go_lushr (z := (((w * (e k)) + (f (i + k))) + c) / 1073741824) (q := 110) d_wh_becomeProduct_109 rfl (gn_ushrL 30 (by decide) rfl (by decide) (by omega)) ?_
    refine go_lstore (q := 112) (L' := [some (mv_R p), some (mv_R x), some (mv_R y), some (mv_I (i : Int)), some (mv_L w), none, some (mv_L ((((w * (e k)) + (f (i + k))) + c) / 1073741824)), none, some (mv_I (k : Int)), some (mv_L (((w * (e k)) + (f (i + k))) + c)), none]) d_wh_becomeProduct_110 rfl (by decide) rfl ?_
    refine go_iinc (q := 115) (L' := [some (mv_R p), some (mv_R x), some (mv_R y), some (mv_I (i : Int)), some (mv_L w), none, some (mv_L ((((w * (e k)) + (f (i + k))) + c) / 1073741824)), none, some (mv_I ((k : Int) + 1)), some (mv_L (((w * (e k)) + (f (i + k))) + c)), none]) d_wh_becomeProduct_112 rfl (by decide) rfl rfl ?_
    refine go_goto (q := 53) d_wh_becomeProduct_115 (by decide) ?_
    refine go_fg 9 (L' := [some (mv_R p), some (mv_R x), some (mv_R y), some (mv_I (i : Int)), some (mv_L w), none, some (mv_L ((((w * (e k)) + (f (i + k))) + c) / 1073741824)), none, some (mv_I ((k : Int) + 1)), none, none]) rfl ?_
    exact k1 c1 _ hm_6 hm_7 hm_8 (fun z_ g0 => (fr_5 z_ (by omega)))

set_option maxRecDepth 4000 in
theorem sc_bp_118 {φ : go_F} {l : Launch} {R : Room} {u : Nat × Nat} {h : mv_H} {n : Nat} {p x y N K J : Nat} {f g e : Nat → Int} {s : Int} {a b : Nat} {i k : Nat} {w c : Int} (hm_p : WO h p N f s) (hm_x : WO h x K g (a : Int)) (hm_y : WO h y J e (b : Int)) (hdis : (p + 1 < x ∨ x + 1 < p) ∧ (p + 1 < y ∨ y + 1 < p)) (hab : a + b ≤ N ∧ a ≤ K ∧ b ≤ J) (hN : N < 100 ∧ K < 100 ∧ J < 100) (hi : i < a)
    (k0 : ∀ h' : mv_H, WO h' p N (va_up f (i + b) c) s → WO h' x K g (a : Int) → WO h' y J e (b : Int) → (∀ z_, (z_ < p ∨ p + 2 ≤ z_) → h' z_ = h z_) → Go φ l m_wh_becomeProduct R u 30 [some (mv_R p), some (mv_R x), some (mv_R y), some (mv_I ((i : Int) + 1)), none, none, none, none, none, none, none] [] h' n) :
    Go φ l m_wh_becomeProduct R u 118 [some (mv_R p), some (mv_R x), some (mv_R y), some (mv_I (i : Int)), some (mv_L w), none, some (mv_L c), none, some (mv_I (k : Int)), none, none] [] h n := by
  refine go_aload_n (q := 119) d_wh_becomeProduct_118 rfl rfl rfl ?_
  refine go_getf (q := 122) f_wh_9 d_wh_becomeProduct_119 rfl (WO_c0 hm_p) rfl ?_
  refine go_iload_n (q := 123) d_wh_becomeProduct_122 rfl rfl rfl ?_
  refine go_aload_n (q := 124) d_wh_becomeProduct_123 rfl rfl rfl ?_
  refine go_getf (q := 127) f_wh_15 d_wh_becomeProduct_124 rfl (WO_c0 hm_y) rfl ?_
  refine go_iadd (q := 128) d_wh_becomeProduct_127 rfl ?_
  refine go_lload (q := 130) d_wh_becomeProduct_128 rfl rfl ?_
  refine go_l2i (q := 131) d_wh_becomeProduct_130 rfl ?_
  refine go_iast (i := i + b) (q := 132) d_wh_becomeProduct_131 rfl (WO_c1 hm_p) (by omega) (by omega) (by omega) ?_
  have hm_3 := WO_u1 hm_p (va_up f (i + b) c)
  have fr_2 : ∀ z_, z_ ≠ (p + 1) → va_up h (p + 1) (mv_A 0 N (va_up f (i + b) c)) z_ = h z_ := fun z_ hj => va_up_ne _ _ hj
  generalize va_up h (p + 1) (mv_A 0 N (va_up f (i + b) c)) = h_1 at hm_3 fr_2 ⊢
  have hm_4 := WO_k hm_x (h' := h_1) (fun z_ ha hb => fr_2 z_ (by omega))
  have hm_5 := WO_k hm_y (h' := h_1) (fun z_ ha hb => fr_2 z_ (by omega))
  refine go_iinc (q := 135) (L' := [some (mv_R p), some (mv_R x), some (mv_R y), some (mv_I ((i : Int) + 1)), some (mv_L w), none, some (mv_L c), none, some (mv_I (k : Int)), none, none]) d_wh_becomeProduct_132 rfl (by decide) rfl rfl ?_
  refine go_goto (q := 30) d_wh_becomeProduct_135 (by decide) ?_
  refine go_fg 4 (L' := [some (mv_R p), some (mv_R x), some (mv_R y), some (mv_I ((i : Int) + 1)), none, none, some (mv_L c), none, some (mv_I (k : Int)), none, none]) rfl ?_
  refine go_fg 6 (L' := [some (mv_R p), some (mv_R x), some (mv_R y), some (mv_I ((i : Int) + 1)), none, none, none, none, some (mv_I (k : Int)), none, none]) rfl ?_
  refine go_fg 8 (L' := [some (mv_R p), some (mv_R x), some (mv_R y), some (mv_I ((i : Int) + 1)), none, none, none, none, none, none, none]) rfl ?_
  exact k0  _ hm_3 hm_4 hm_5 (fun z_ g0 => (fr_2 z_ (by omega)))

set_option maxRecDepth 4000 in
theorem sc_bp_138 {φ : go_F} {l : Launch} {R : Room} {u : Nat × Nat} {h : mv_H} {n : Nat} {p x y N K J : Nat} {f g e : Nat → Int} {s : Int} {a b : Nat} {i : Nat} (hm_p : WO h p N f s) (hm_x : WO h x K g (a : Int)) (hm_y : WO h y J e (b : Int)) 
    (k0 : Go φ l m_wh_becomeProduct R u 148 [some (mv_R p), some (mv_R x), some (mv_R y), some (mv_I (i : Int)), none, none, none, none, none, none, none] [mv_I ((a : Int) + (b : Int)), mv_R p] h n) :
    Go φ l m_wh_becomeProduct R u 138 [some (mv_R p), some (mv_R x), some (mv_R y), some (mv_I (i : Int)), none, none, none, none, none, none, none] [] h n := by
  refine go_aload_n (q := 139) d_wh_becomeProduct_138 rfl rfl rfl ?_
  refine go_aload_n (q := 140) d_wh_becomeProduct_139 rfl rfl rfl ?_
  refine go_getf (q := 143) f_wh_15 d_wh_becomeProduct_140 rfl (WO_c0 hm_x) rfl ?_
  refine go_aload_n (q := 144) d_wh_becomeProduct_143 rfl rfl rfl ?_
  refine go_getf (q := 147) f_wh_15 d_wh_becomeProduct_144 rfl (WO_c0 hm_y) rfl ?_
  refine go_iadd (q := 148) d_wh_becomeProduct_147 rfl ?_
  exact k0 

set_option maxRecDepth 4000 in
theorem sc_dt_0 {φ : go_F} {l : Launch} {R : Room} {u : Nat × Nat} {h : mv_H} {n : Nat} {p N s : Nat} {f : Nat → Int} (hm_p : WO h p N f (s : Int)) 
    (k0 : Go φ l m_wh_dropTwos R u 2 [some (mv_R p), some (mv_I 0), none, none, none, none] [] h n) :
    Go φ l m_wh_dropTwos R u 0 [some (mv_R p), none, none, none, none, none] [] h n := by
  refine go_iconst (q := 1) d_wh_dropTwos_0 rfl ?_
  refine go_istore_n (q := 2) (L' := [some (mv_R p), some (mv_I 0), none, none, none, none]) d_wh_dropTwos_1 rfl rfl (by decide) rfl ?_
  exact k0 

set_option maxRecDepth 4000 in
theorem sc_dt_2 {φ : go_F} {l : Launch} {R : Room} {u : Nat × Nat} {h : mv_H} {n : Nat} {p N s : Nat} {f : Nat → Int} {z : Nat} (hm_p : WO h p N f (s : Int)) (hs : s ≤ N) (hN : N < 100) (hf : ∀ j, 0 ≤ f j ∧ f j ≤ 1073741823) (hz : z < s)
    (k0 : (s : Int) - 1 ≤ (z : Int) → Go φ l m_wh_dropTwos R u 27 [some (mv_R p), some (mv_I (z : Int)), none, none, none, none] [] h n)
    (k1 : ¬ (s : Int) - 1 ≤ (z : Int) → ¬ f z = 0 → Go φ l m_wh_dropTwos R u 27 [some (mv_R p), some (mv_I (z : Int)), none, none, none, none] [] h n)
    (k2 : ¬ (s : Int) - 1 ≤ (z : Int) → f z = 0 → Go φ l m_wh_dropTwos R u 2 [some (mv_R p), some (mv_I ((z : Int) + 1)), none, none, none, none] [] h n) :
    Go φ l m_wh_dropTwos R u 2 [some (mv_R p), some (mv_I (z : Int)), none, none, none, none] [] h n := by
  refine go_iload_n (q := 3) d_wh_dropTwos_2 rfl rfl rfl ?_
  refine go_aload_n (q := 4) d_wh_dropTwos_3 rfl rfl rfl ?_
  refine go_getf (q := 7) f_wh_15 d_wh_dropTwos_4 rfl (WO_c0 hm_p) rfl ?_
  refine go_iconst (q := 8) d_wh_dropTwos_7 rfl ?_
  refine go_isub (q := 9) d_wh_dropTwos_8 rfl ?_
  refine go_icmp_ge (t := 27) (q := 12) d_wh_dropTwos_9 (by decide) rfl (by omega) (by omega) (fun c1 => ?_) (fun c1 => ?_)
  ·
    exact k0 c1
  ·
    refine go_aload_n (q := 13) d_wh_dropTwos_12 rfl rfl rfl ?_
    refine go_getf (q := 16) f_wh_9 d_wh_dropTwos_13 rfl (WO_c0 hm_p) rfl ?_
    refine go_iload_n (q := 17) d_wh_dropTwos_16 rfl rfl rfl ?_
    refine go_iald (i := z) (q := 18) d_wh_dropTwos_17 rfl (WO_c1 hm_p) (by omega) (by omega) (by omega) ?_
    have q_2 := hf z
    refine go_if_ne (t := 27) (q := 21) d_wh_dropTwos_18 (by decide) rfl (by omega) (fun c3 => ?_) (fun c3 => ?_)
    ·
      exact k1 c1 c3
    ·
      refine go_iinc (q := 24) (L' := [some (mv_R p), some (mv_I ((z : Int) + 1)), none, none, none, none]) d_wh_dropTwos_21 rfl (by decide) rfl rfl ?_
      refine go_goto (q := 2) d_wh_dropTwos_24 (by decide) ?_
      exact k2 c1 c3

set_option maxRecDepth 4000 in
theorem sc_dt_27 {φ : go_F} {l : Launch} {R : Room} {u : Nat × Nat} {h : mv_H} {n : Nat} {p N s : Nat} {f : Nat → Int} {z : Nat} {w : Int} (hm_p : WO h p N f (s : Int)) (hs : s ≤ N) (hN : N < 100) (hf : ∀ j, 0 ≤ f j ∧ f j ≤ 1073741823) (hz : z < s) (hw : Int32.ofInt (f z) &&& Int32.ofInt (-(f z)) = Int32.ofInt w)
    (k0 : Go φ l m_wh_dropTwos R u 45 [some (mv_R p), some (mv_I (z : Int)), some (mv_I w), none, none, none] [mv_I (w - 1)] h n) :
    Go φ l m_wh_dropTwos R u 27 [some (mv_R p), some (mv_I (z : Int)), none, none, none, none] [] h n := by
  refine go_aload_n (q := 28) d_wh_dropTwos_27 rfl rfl rfl ?_
  refine go_getf (q := 31) f_wh_9 d_wh_dropTwos_28 rfl (WO_c0 hm_p) rfl ?_
  refine go_iload_n (q := 32) d_wh_dropTwos_31 rfl rfl rfl ?_
  refine go_iald (i := z) (q := 33) d_wh_dropTwos_32 rfl (WO_c1 hm_p) (by omega) (by omega) (by omega) ?_
  have q_1 := hf z
  refine go_aload_n (q := 34) d_wh_dropTwos_33 rfl rfl rfl ?_
  refine go_getf (q := 37) f_wh_9 d_wh_dropTwos_34 rfl (WO_c0 hm_p) rfl ?_
  refine go_iload_n (q := 38) d_wh_dropTwos_37 rfl rfl rfl ?_
  refine go_iald (i := z) (q := 39) d_wh_dropTwos_38 rfl (WO_c1 hm_p) (by omega) (by omega) (by omega) ?_
  have q_2 := hf z
  refine go_ineg (q := 40) d_wh_dropTwos_39 rfl ?_
  refine go_iand (z := w) (q := 41) d_wh_dropTwos_40 rfl (hw) ?_
  refine go_istore_n (q := 42) (L' := [some (mv_R p), some (mv_I (z : Int)), some (mv_I w), none, none, none]) d_wh_dropTwos_41 rfl rfl (by decide) rfl ?_
  refine go_iload_n (q := 43) d_wh_dropTwos_42 rfl rfl rfl ?_
  refine go_iconst (q := 44) d_wh_dropTwos_43 rfl ?_
  refine go_isub (q := 45) d_wh_dropTwos_44 rfl ?_
  exact k0 

set_option maxRecDepth 4000 in
theorem sc_dt_48 {φ : go_F} {l : Launch} {R : Room} {u : Nat × Nat} {h : mv_H} {n : Nat} {p N s : Nat} {f : Nat → Int} {z t : Nat} {w : Int} (hm_p : WO h p N f (s : Int)) 
    (k0 : Go φ l m_wh_dropTwos R u 52 [some (mv_R p), some (mv_I (z : Int)), some (mv_I w), some (mv_I (t : Int)), some (mv_I (z : Int)), none] [] h n) :
    Go φ l m_wh_dropTwos R u 48 [some (mv_R p), some (mv_I (z : Int)), some (mv_I w), none, none, none] [mv_I (t : Int)] h n := by
  refine go_istore_n (q := 49) (L' := [some (mv_R p), some (mv_I (z : Int)), some (mv_I w), some (mv_I (t : Int)), none, none]) d_wh_dropTwos_48 rfl rfl (by decide) rfl ?_
  refine go_iload_n (q := 50) d_wh_dropTwos_49 rfl rfl rfl ?_
  refine go_istore (q := 52) (L' := [some (mv_R p), some (mv_I (z : Int)), some (mv_I w), some (mv_I (t : Int)), some (mv_I (z : Int)), none]) d_wh_dropTwos_50 rfl (by decide) rfl ?_
  exact k0 

set_option maxRecDepth 4000 in
theorem sc_dt_52 {φ : go_F} {l : Launch} {R : Room} {u : Nat × Nat} {h : mv_H} {n : Nat} {p N s : Nat} {f : Nat → Int} {z t i : Nat} {w : Int} (hm_p : WO h p N f (s : Int)) (hs : s ≤ N) (hN : N < 100) (hf : ∀ j, 0 ≤ f j ∧ f j ≤ 1073741823) (hz : z ≤ i ∧ i ≤ s) (ht : t < 30) (hor : ∀ x y : Int, (0 ≤ x ∧ x ≤ 1073741823) → (0 ≤ y ∧ y ≤ 1073741823) → Int32.ofInt (x / ((2 ^ t : Nat) : Int)) ||| Int32.ofInt ((y * ((2 ^ (30 - t) : Nat) : Int)) % 1073741824) = Int32.ofInt (x / ((2 ^ t : Nat) : Int) + (y * ((2 ^ (30 - t) : Nat) : Int)) % 1073741824))
    (k0 : (s : Int) ≤ (i : Int) → Go φ l m_wh_dropTwos R u 122 [some (mv_R p), some (mv_I (z : Int)), some (mv_I w), some (mv_I (t : Int)), some (mv_I (i : Int)), none] [] h n)
    (k1 : ¬ (s : Int) ≤ (i : Int) → (s : Int) ≤ (i : Int) + 1 → ∀ h' : mv_H, WO h' p N (va_up f (i - z) ((f i / ((2 ^ t : Nat) : Int)) + ((0 * ((2 ^ (30 - t) : Nat) : Int)) % 1073741824))) (s : Int) → (∀ z_, (z_ < p ∨ p + 2 ≤ z_) → h' z_ = h z_) → Go φ l m_wh_dropTwos R u 52 [some (mv_R p), some (mv_I (z : Int)), some (mv_I w), some (mv_I (t : Int)), some (mv_I ((i : Int) + 1)), none] [] h' n)
    (k2 : ¬ (s : Int) ≤ (i : Int) → ¬ (s : Int) ≤ (i : Int) + 1 → ∀ h' : mv_H, WO h' p N (va_up f (i - z) ((f i / ((2 ^ t : Nat) : Int)) + (((f (i + 1)) * ((2 ^ (30 - t) : Nat) : Int)) % 1073741824))) (s : Int) → (∀ z_, (z_ < p ∨ p + 2 ≤ z_) → h' z_ = h z_) → Go φ l m_wh_dropTwos R u 52 [some (mv_R p), some (mv_I (z : Int)), some (mv_I w), some (mv_I (t : Int)), some (mv_I ((i : Int) + 1)), none] [] h' n) :
    Go φ l m_wh_dropTwos R u 52 [some (mv_R p), some (mv_I (z : Int)), some (mv_I w), some (mv_I (t : Int)), some (mv_I (i : Int)), none] [] h n := by
  refine go_iload (q := 54) d_wh_dropTwos_52 rfl rfl ?_
  refine go_aload_n (q := 55) d_wh_dropTwos_54 rfl rfl rfl ?_
  refine go_getf (q := 58) f_wh_15 d_wh_dropTwos_55 rfl (WO_c0 hm_p) rfl ?_
  refine go_icmp_ge (t := 122) (q := 61) d_wh_dropTwos_58 (by decide) rfl (by omega) (by omega) (fun c1 => ?_) (fun c1 => ?_)
  ·
    exact k0 c1
  ·
    refine go_iload (q := 63) d_wh_dropTwos_61 rfl rfl ?_
    refine go_iconst (q := 64) d_wh_dropTwos_63 rfl ?_
    refine go_iadd (q := 65) d_wh_dropTwos_64 rfl ?_
    refine go_aload_n (q := 66) d_wh_dropTwos_65 rfl rfl rfl ?_
    refine go_getf (q := 69) f_wh_15 d_wh_dropTwos_66 rfl (WO_c0 hm_p) rfl ?_
    refine go_icmp_ge (t := 84) (q := 72) d_wh_dropTwos_69 (by decide) rfl (by omega) (by omega) (fun c2 => ?_) (fun c2 => ?_)
    ·
      refine go_iconst (q := 85) d_wh_dropTwos_84 rfl ?_
      refine go_istore (q := 87) (L' := [some (mv_R p), some (mv_I (z : Int)), some (mv_I w), some (mv_I (t : Int)), some (mv_I (i : Int)), some (mv_I 0)]) d_wh_dropTwos_85 rfl (by decide) rfl ?_
      refine go_aload_n (q := 88) d_wh_dropTwos_87 rfl rfl rfl ?_
      refine go_getf (q := 91) f_wh_9 d_wh_dropTwos_88 rfl (WO_c0 hm_p) rfl ?_
      refine go_iload (q := 93) d_wh_dropTwos_91 rfl rfl ?_
      refine go_iload_n (q := 94) d_wh_dropTwos_93 rfl rfl rfl ?_
      refine go_isub (q := 95) d_wh_dropTwos_94 rfl ?_
      refine go_aload_n (q := 96) d_wh_dropTwos_95 rfl rfl rfl ?_
      refine go_getf (q := 99) f_wh_9 d_wh_dropTwos_96 rfl (WO_c0 hm_p) rfl ?_
      refine go_iload (q := 101) d_wh_dropTwos_99 rfl rfl ?_
      refine go_iald (i := i) (q := 102) d_wh_dropTwos_101 rfl (WO_c1 hm_p) (by omega) (by omega) (by omega) ?_
      have q_3 := hf i
      refine go_iload_n (q := 103) d_wh_dropTwos_102 rfl rfl rfl ?_
      refine go_iushr (z := f i / ((2 ^ t : Nat) : Int)) (q := 104) d_wh_dropTwos_103 rfl (gn_ushr t (by omega) rfl rfl (by omega)) ?_
      refine go_iload (q := 106) d_wh_dropTwos_104 rfl rfl ?_
      refine go_bipush (q := 108) d_wh_dropTwos_106 rfl (by decide) ?_
      refine go_iload_n (q := 109) d_wh_dropTwos_108 rfl rfl rfl ?_
      refine go_isub (q := 110) d_wh_dropTwos_109 rfl ?_
      refine go_ishl (z := 0 * ((2 ^ (30 - t) : Nat) : Int)) (q := 111) d_wh_dropTwos_110 rfl (gn_shl32 (30 - t) (by omega) (by omega) rfl) ?_
      refine go_ldc (z := 1073741823) (q := 113) d_wh_dropTwos_111 rfl tw_3_66 (by decide) ?_
      refine go_iand (z := (0 * ((2 ^ (30 - t) : Nat) : Int)) % 1073741824) (q := 114) d_wh_dropTwos_113 rfl (gn_mask 30 (by decide) (by decide) (by decide)) ?_
      refine go_ior (z := (f i / ((2 ^ t : Nat) : Int)) + ((0 * ((2 ^ (30 - t) : Nat) : Int)) % 1073741824)) (q := 115) d_wh_dropTwos_114 rfl (hor _ _ (by omega) (by omega)) ?_
      refine go_iast (i := i - z) (q := 116) d_wh_dropTwos_115 rfl (WO_c1 hm_p) (by omega) (by omega) (by omega) ?_
      have hm_6 := WO_u1 hm_p (va_up f (i - z) ((f i / ((2 ^ t : Nat) : Int)) + ((0 * ((2 ^ (30 - t) : Nat) : Int)) % 1073741824)))
      have fr_5 : ∀ z_, z_ ≠ (p + 1) → va_up h (p + 1) (mv_A 0 N (va_up f (i - z) ((f i / ((2 ^ t : Nat) : Int)) + ((0 * ((2 ^ (30 - t) : Nat) : Int)) % 1073741824)))) z_ = h z_ := fun z_ hj => va_up_ne _ _ hj
      generalize va_up h (p + 1) (mv_A 0 N (va_up f (i - z) ((f i / ((2 ^ t : Nat) : Int)) + ((0 * ((2 ^ (30 - t) : Nat) : Int)) % 1073741824)))) = h_4 at hm_6 fr_5 ⊢
      refine go_iinc (q := 119) (L' := [some (mv_R p), some (mv_I (z : Int)), some (mv_I w), some (mv_I (t : Int)), some (mv_I ((i : Int) + 1)), some (mv_I 0)]) d_wh_dropTwos_116 rfl (by decide) rfl rfl ?_
      refine go_goto (q := 52) d_wh_dropTwos_119 (by decide) ?_
      refine go_fg 5 (L' := [some (mv_R p), some (mv_I (z : Int)), some (mv_I w), some (mv_I (t : Int)), some (mv_I ((i : Int) + 1)), none]) rfl ?_
      exact k1 c1 c2 _ hm_6 (fun z_ g0 => (fr_5 z_ (by omega)))
    ·
      refine go_aload_n (q := 73) d_wh_dropTwos_72 rfl rfl rfl ?_
      refine go_getf (q := 76) f_wh_9 d_wh_dropTwos_73 rfl (WO_c0 hm_p) rfl ?_
      refine go_iload (q := 78) d_wh_dropTwos_76 rfl rfl ?_
      refine go_iconst (q := 79) d_wh_dropTwos_78 rfl ?_
      refine go_iadd (q := 80) d_wh_dropTwos_79 rfl ?_
      refine go_iald (i := i + 1) (q := 81) d_wh_dropTwos_80 rfl (WO_c1 hm_p) (by omega) (by omega) (by omega) ?_
      have q_7 := hf (i + 1)
      refine go_goto (q := 85) d_wh_dropTwos_81 (by decide) ?_
      refine go_istore (q := 87) (L' := [some (mv_R p), some (mv_I (z : Int)), some (mv_I w), some (mv_I (t : Int)), some (mv_I (i : Int)), some (mv_I (f (i + 1)))]) d_wh_dropTwos_85 rfl (by decide) rfl ?_
      refine go_aload_n (q := 88) d_wh_dropTwos_87 rfl rfl rfl ?_
      refine go_getf (q := 91) f_wh_9 d_wh_dropTwos_88 rfl (WO_c0 hm_p) rfl ?_
      refine go_iload (q := 93) d_wh_dropTwos_91 rfl rfl ?_
      refine go_iload_n (q := 94) d_wh_dropTwos_93 rfl rfl rfl ?_
      refine go_isub (q := 95) d_wh_dropTwos_94 rfl ?_
      refine go_aload_n (q := 96) d_wh_dropTwos_95 rfl rfl rfl ?_
      refine go_getf (q := 99) f_wh_9 d_wh_dropTwos_96 rfl (WO_c0 hm_p) rfl ?_
      refine go_iload (q := 101) d_wh_dropTwos_99 rfl rfl ?_
      refine go_iald (i := i) (q := 102) d_wh_dropTwos_101 rfl (WO_c1 hm_p) (by omega) (by omega) (by omega) ?_
      have q_8 := hf i
      refine go_iload_n (q := 103) d_wh_dropTwos_102 rfl rfl rfl ?_
      refine go_iushr (z := f i / ((2 ^ t : Nat) : Int)) (q := 104) d_wh_dropTwos_103 rfl (gn_ushr t (by omega) rfl rfl (by omega)) ?_
      refine go_iload (q := 106) d_wh_dropTwos_104 rfl rfl ?_
      refine go_bipush (q := 108) d_wh_dropTwos_106 rfl (by decide) ?_
      refine go_iload_n (q := 109) d_wh_dropTwos_108 rfl rfl rfl ?_
      refine go_isub (q := 110) d_wh_dropTwos_109 rfl ?_
      refine go_ishl (z := (f (i + 1)) * ((2 ^ (30 - t) : Nat) : Int)) (q := 111) d_wh_dropTwos_110 rfl (gn_shl32 (30 - t) (by omega) (by omega) rfl) ?_
      refine go_ldc (z := 1073741823) (q := 113) d_wh_dropTwos_111 rfl tw_3_66 (by decide) ?_
      refine go_iand (z := ((f (i + 1)) * ((2 ^ (30 - t) : Nat) : Int)) % 1073741824) (q := 114) d_wh_dropTwos_113 rfl (gn_mask 30 (by decide) (by decide) (by decide)) ?_
      refine go_ior (z := (f i / ((2 ^ t : Nat) : Int)) + (((f (i + 1)) * ((2 ^ (30 - t) : Nat) : Int)) % 1073741824)) (q := 115) d_wh_dropTwos_114 rfl (hor _ _ (by omega) (by omega)) ?_
      refine go_iast (i := i - z) (q := 116) d_wh_dropTwos_115 rfl (WO_c1 hm_p) (by omega) (by omega) (by omega) ?_
      have hm_11 := WO_u1 hm_p (va_up f (i - z) ((f i / ((2 ^ t : Nat) : Int)) + (((f (i + 1)) * ((2 ^ (30 - t) : Nat) : Int)) % 1073741824)))
      have fr_10 : ∀ z_, z_ ≠ (p + 1) → va_up h (p + 1) (mv_A 0 N (va_up f (i - z) ((f i / ((2 ^ t : Nat) : Int)) + (((f (i + 1)) * ((2 ^ (30 - t) : Nat) : Int)) % 1073741824)))) z_ = h z_ := fun z_ hj => va_up_ne _ _ hj
      generalize va_up h (p + 1) (mv_A 0 N (va_up f (i - z) ((f i / ((2 ^ t : Nat) : Int)) + (((f (i + 1)) * ((2 ^ (30 - t) : Nat) : Int)) % 1073741824)))) = h_9 at hm_11 fr_10 ⊢
      refine go_iinc (q := 119) (L' := [some (mv_R p), some (mv_I (z : Int)), some (mv_I w), some (mv_I (t : Int)), some (mv_I ((i : Int) + 1)), some (mv_I (f (i + 1)))]) d_wh_dropTwos_116 rfl (by decide) rfl rfl ?_
      refine go_goto (q := 52) d_wh_dropTwos_119 (by decide) ?_
      refine go_fg 5 (L' := [some (mv_R p), some (mv_I (z : Int)), some (mv_I w), some (mv_I (t : Int)), some (mv_I ((i : Int) + 1)), none]) rfl ?_
      exact k2 c1 c2 _ hm_11 (fun z_ g0 => (fr_10 z_ (by omega)))

set_option maxRecDepth 4000 in
theorem sc_dt_122 {φ : go_F} {l : Launch} {R : Room} {u : Nat × Nat} {h : mv_H} {n : Nat} {p N s : Nat} {f : Nat → Int} {z t i : Nat} {w : Int} (hm_p : WO h p N f (s : Int)) (hz : z ≤ s)
    (k0 : Go φ l m_wh_dropTwos R u 129 [some (mv_R p), some (mv_I (z : Int)), some (mv_I w), some (mv_I (t : Int)), some (mv_I (i : Int)), none] [mv_I ((s : Int) - (z : Int)), mv_R p] h n) :
    Go φ l m_wh_dropTwos R u 122 [some (mv_R p), some (mv_I (z : Int)), some (mv_I w), some (mv_I (t : Int)), some (mv_I (i : Int)), none] [] h n := by
  refine go_aload_n (q := 123) d_wh_dropTwos_122 rfl rfl rfl ?_
  refine go_aload_n (q := 124) d_wh_dropTwos_123 rfl rfl rfl ?_
  refine go_getf (q := 127) f_wh_15 d_wh_dropTwos_124 rfl (WO_c0 hm_p) rfl ?_
  refine go_iload_n (q := 128) d_wh_dropTwos_127 rfl rfl rfl ?_
  refine go_isub (q := 129) d_wh_dropTwos_128 rfl ?_
  exact k0 

set_option maxRecDepth 4000 in
theorem sc_dt_132 {φ : go_F} {l : Launch} {R : Room} {u : Nat × Nat} {h : mv_H} {n : Nat} {p N s : Nat} {f : Nat → Int} {z t i : Nat} {w : Int} (hm_p : WO h p N f (s : Int)) 
    (k0 : Go φ l m_wh_dropTwos R u 138 [some (mv_R p), some (mv_I (z : Int)), some (mv_I w), some (mv_I (t : Int)), some (mv_I (i : Int)), none] [mv_I (((z : Int) * 30) + (t : Int))] h n) :
    Go φ l m_wh_dropTwos R u 132 [some (mv_R p), some (mv_I (z : Int)), some (mv_I w), some (mv_I (t : Int)), some (mv_I (i : Int)), none] [] h n := by
  refine go_iload_n (q := 133) d_wh_dropTwos_132 rfl rfl rfl ?_
  refine go_bipush (q := 135) d_wh_dropTwos_133 rfl (by decide) ?_
  refine go_imul (q := 136) d_wh_dropTwos_135 rfl ?_
  refine go_iload_n (q := 137) d_wh_dropTwos_136 rfl rfl rfl ?_
  refine go_iadd (q := 138) d_wh_dropTwos_137 rfl ?_
  exact k0 

set_option maxRecDepth 4000 in
theorem sc_word_0 {φ : go_F} {l : Launch} {R : Room} {u : Nat × Nat} {h : mv_H} {n : Nat} {p N : Nat} {f : Nat → Int} {s : Int} {i : Int} (hm_p : WO h p N f s) (hi : -2147483648 ≤ i ∧ i ≤ 2147483647)
    (k0 : i < 0 → Go φ l m_wh_word R u 11 [some (mv_R p), some (mv_I i), none, none, none] [mv_I 0] h n)
    (k1 : ¬ i < 0 → i < 8 → Go φ l m_wh_word R u 22 [some (mv_R p), some (mv_I i), some (mv_I ((32 * i) / 30)), none, none] [mv_I ((32 * i) / 30), mv_R p] h n)
    (k2 : ¬ i < 0 → ¬ i < 8 → Go φ l m_wh_word R u 11 [some (mv_R p), some (mv_I i), none, none, none] [mv_I 0] h n) :
    Go φ l m_wh_word R u 0 [some (mv_R p), some (mv_I i), none, none, none] [] h n := by
  refine go_iload_n (q := 1) d_wh_word_0 rfl rfl rfl ?_
  refine go_if_lt (t := 10) (q := 4) d_wh_word_1 (by decide) rfl (by omega) (fun c1 => ?_) (fun c1 => ?_)
  ·
    refine go_iconst (q := 11) d_wh_word_10 rfl ?_
    exact k0 c1
  ·
    refine go_iload_n (q := 5) d_wh_word_4 rfl rfl rfl ?_
    refine go_bipush (q := 7) d_wh_word_5 rfl (by decide) ?_
    refine go_icmp_lt (t := 12) (q := 10) d_wh_word_7 (by decide) rfl (by omega) (by omega) (fun c2 => ?_) (fun c2 => ?_)
    ·
      refine go_bipush (q := 14) d_wh_word_12 rfl (by decide) ?_
      refine go_iload_n (q := 15) d_wh_word_14 rfl rfl rfl ?_
      refine go_imul (q := 16) d_wh_word_15 rfl ?_
      refine go_bipush (q := 18) d_wh_word_16 rfl (by decide) ?_
      refine go_idiv (z := (32 * i) / 30) (q := 19) d_wh_word_18 rfl (gn_ne0 (by omega)) (gn_div (by omega) (by omega)) ?_
      refine go_istore_n (q := 20) (L' := [some (mv_R p), some (mv_I i), some (mv_I ((32 * i) / 30)), none, none]) d_wh_word_19 rfl rfl (by decide) rfl ?_
      refine go_aload_n (q := 21) d_wh_word_20 rfl rfl rfl ?_
      refine go_iload_n (q := 22) d_wh_word_21 rfl rfl rfl ?_
      exact k1 c1 c2
    ·
      refine go_iconst (q := 11) d_wh_word_10 rfl ?_
      exact k2 c1 c2

