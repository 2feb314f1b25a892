def DV (h : mv_H) (p : Nat)  : Prop := h p = mv_O 1 [mv_R 18, mv_R 20, mv_R 22, mv_R 24]
theorem DV_c0 {h : mv_H} {p : Nat}  (hm : DV h p ) : h p = mv_O 1 [mv_R 18, mv_R 20, mv_R 22, mv_R 24] := hm
theorem DV_k {h : mv_H} {p : Nat}  {h' : mv_H} (hm : DV h p ) (hk : ∀ j, p ≤ j → j < p + 1 → h' j = h j) : DV h' p  := (hk _ (by omega) (by omega)).trans (DV_c0 hm)
set_option maxRecDepth 4000 in
theorem sd_pb_0 {φ : go_F} {l : Launch} {R : Room} {u : Nat × Nat} {h : mv_H} {n : Nat} {f g : Nat → Int} {s : Int} {t sh : Nat} (hm_d : DV h 17 ) (hm_a : WO h 18 18 f s) (hm_b : WO h 20 18 g (t : Int)) 
    (k0 : Go φ l m_di_putBack R u 4 [some (mv_R 17), some (mv_I (sh : Int)), some (mv_I 0), some (mv_I 0), none] [] h n) :
    Go φ l m_di_putBack R u 0 [some (mv_R 17), some (mv_I (sh : Int)), none, none, none] [] h n := by
  refine go_iconst (q := 1) d_di_putBack_0 rfl ?_
  refine go_istore_n (q := 2) (L' := [some (mv_R 17), some (mv_I (sh : Int)), some (mv_I 0), none, none]) d_di_putBack_1 rfl rfl (by decide) rfl ?_
  refine go_iconst (q := 3) d_di_putBack_2 rfl ?_
  refine go_istore_n (q := 4) (L' := [some (mv_R 17), some (mv_I (sh : Int)), some (mv_I 0), some (mv_I 0), none]) d_di_putBack_3 rfl rfl (by decide) rfl ?_
  exact k0 

set_option maxRecDepth 4000 in
theorem sd_pb_4 {φ : go_F} {l : Launch} {R : Room} {u : Nat × Nat} {h : mv_H} {n : Nat} {f g : Nat → Int} {s : Int} {t sh : Nat} {c : Int} {k : Nat} (hm_d : DV h 17 ) (hm_a : WO h 18 18 f s) (hm_b : WO h 20 18 g (t : Int)) (hs : sh + t ≤ 17 ∧ 0 < t) (hf : ∀ j, 0 ≤ f j ∧ f j ≤ 1073741823) (hg : ∀ j, 0 ≤ g j ∧ g j ≤ 1073741823) (hk : k ≤ t) (hc : 0 ≤ c ∧ c ≤ 1)
    (k0 : (t : Int) ≤ (k : Int) → Go φ l m_di_putBack R u 68 [some (mv_R 17), some (mv_I (sh : Int)), some (mv_I c), some (mv_I (k : Int)), none] [] h n)
    (k1 : ¬ (t : Int) ≤ (k : Int) → ∀ h' : mv_H, DV h' 17  → WO h' 18 18 (va_up f (sh + k) ((((f (sh + k)) + (g k)) + c) % 1073741824)) s → WO h' 20 18 g (t : Int) → (∀ z_, (z_ < 18 ∨ 18 + 2 ≤ z_) → h' z_ = h z_) → Go φ l m_di_putBack R u 4 [some (mv_R 17), some (mv_I (sh : Int)), some (mv_I ((((f (sh + k)) + (g k)) + c) / 1073741824)), some (mv_I ((k : Int) + 1)), none] [] h' n) :
    Go φ l m_di_putBack R u 4 [some (mv_R 17), some (mv_I (sh : Int)), some (mv_I c), some (mv_I (k : Int)), none] [] h n := by
  refine go_iload_n (q := 5) d_di_putBack_4 rfl rfl rfl ?_
  refine go_aload_n (q := 6) d_di_putBack_5 rfl rfl rfl ?_
  refine go_getf (q := 9) f_di_20 d_di_putBack_6 rfl (DV_c0 hm_d) rfl ?_
  refine go_getf (q := 12) f_di_49 d_di_putBack_9 rfl (WO_c0 hm_b) rfl ?_
  refine go_icmp_ge (t := 68) (q := 15) d_di_putBack_12 (by decide) rfl (by omega) (by omega) (fun c1 => ?_) (fun c1 => ?_)
  ·
    exact k0 c1
  ·
    refine go_aload_n (q := 16) d_di_putBack_15 rfl rfl rfl ?_
    refine go_getf (q := 19) f_di_14 d_di_putBack_16 rfl (DV_c0 hm_d) rfl ?_
    refine go_getf (q := 22) f_di_45 d_di_putBack_19 rfl (WO_c0 hm_a) rfl ?_
    refine go_iload_n (q := 23) d_di_putBack_22 rfl rfl rfl ?_
    refine go_iload_n (q := 24) d_di_putBack_23 rfl rfl rfl ?_
    refine go_iadd (q := 25) d_di_putBack_24 rfl ?_
    refine go_iald (i := sh + k) (q := 26) d_di_putBack_25 rfl (WO_c1 hm_a) (by omega) (by omega) (by omega) ?_
    have q_2 := hf (sh + k)
    refine go_aload_n (q := 27) d_di_putBack_26 rfl rfl rfl ?_
    refine go_getf (q := 30) f_di_20 d_di_putBack_27 rfl (DV_c0 hm_d) rfl ?_
    refine go_getf (q := 33) f_di_45 d_di_putBack_30 rfl (WO_c0 hm_b) rfl ?_
    refine go_iload_n (q := 34) d_di_putBack_33 rfl rfl rfl ?_
    refine go_iald (i := k) (q := 35) d_di_putBack_34 rfl (WO_c1 hm_b) (by omega) (by omega) (by omega) ?_
    have q_3 := hg k
    refine go_iadd (q := 36) d_di_putBack_35 rfl ?_
    refine go_iload_n (q := 37) d_di_putBack_36 rfl rfl rfl ?_
    refine go_iadd (q := 38) d_di_putBack_37 rfl ?_
    refine go_istore (q := 40) (L' := [some (mv_R 17), some (mv_I (sh : Int)), some (mv_I c), some (mv_I (k : Int)), some (mv_I (((f (sh + k)) + (g k)) + c))]) d_di_putBack_38 rfl (by decide) rfl ?_
    refine go_aload_n (q := 41) d_di_putBack_40 rfl rfl rfl ?_
    refine go_getf (q := 44) f_di_14 d_di_putBack_41 rfl (DV_c0 hm_d) rfl ?_
    refine go_getf (q := 47) f_di_45 d_di_putBack_44 rfl (WO_c0 hm_a) rfl ?_
    refine go_iload_n (q := 48) d_di_putBack_47 rfl rfl rfl ?_
    refine go_iload_n (q := 49) d_di_putBack_48 rfl rfl rfl ?_
    refine go_iadd (q := 50) d_di_putBack_49 rfl ?_
    refine go_iload (q := 52) d_di_putBack_50 rfl rfl ?_
    refine go_ldc (z := 1073741823) (q := 54) d_di_putBack_52 rfl tw_3_104 (by decide) ?_
    refine go_iand (z := (((f (sh + k)) + (g k)) + c) % 1073741824) (q := 55) d_di_putBack_54 rfl (gn_mask 30 (by decide) (by decide) (by decide)) ?_
    refine go_iast (i := sh + k) (q := 56) d_di_putBack_55 rfl (WO_c1 hm_a) (by omega) (by omega) (by omega) ?_
    have hm_6 := WO_u1 hm_a (va_up f (sh + k) ((((f (sh + k)) + (g k)) + c) % 1073741824))
    have fr_5 : ∀ z_, z_ ≠ (18 + 1) → va_up h (18 + 1) (mv_A 0 18 (va_up f (sh + k) ((((f (sh + k)) + (g k)) + c) % 1073741824))) z_ = h z_ := fun z_ hj => va_up_ne _ _ hj
    generalize va_up h (18 + 1) (mv_A 0 18 (va_up f (sh + k) ((((f (sh + k)) + (g k)) + c) % 1073741824))) = h_4 at hm_6 fr_5 ⊢
    have hm_7 := DV_k hm_d (h' := h_4) (fun z_ ha hb => fr_5 z_ (by omega))
    have hm_8 := WO_k hm_b (h' := h_4) (fun z_ ha hb => fr_5 z_ (by omega))
    refine go_iload (q := 58) d_di_putBack_56 rfl rfl ?_
    refine go_bipush (q := 60) d_di_putBack_58 rfl (by decide) ?_
    refine go_iushr (z := (((f (sh + k)) + (g k)) + c) / 1073741824) (q := 61) d_di_putBack_60 rfl (gn_ushr 30 (by decide) rfl (by decide) (by omega)) ?_
    refine go_istore_n (q := 62) (L' := [some (mv_R 17), some (mv_I (sh : Int)), some (mv_I ((((f (sh + k)) + (g k)) + c) / 1073741824)), some (mv_I (k : Int)), some (mv_I (((f (sh + k)) + (g k)) + c))]) d_di_putBack_61 rfl rfl (by decide) rfl ?_
    refine go_iinc (q := 65) (L' := [some (mv_R 17), some (mv_I (sh : Int)), some (mv_I ((((f (sh + k)) + (g k)) + c) / 1073741824)), some (mv_I ((k : Int) + 1)), some (mv_I (((f (sh + k)) + (g k)) + c))]) d_di_putBack_62 rfl (by decide) rfl rfl ?_
    refine go_goto (q := 4) d_di_putBack_65 (by decide) ?_
    refine go_fg 4 (L' := [some (mv_R 17), some (mv_I (sh : Int)), some (mv_I ((((f (sh + k)) + (g k)) + c) / 1073741824)), some (mv_I ((k : Int) + 1)), none]) rfl ?_
    exact k1 c1 _ hm_7 hm_6 hm_8 (fun z_ g0 => (fr_5 z_ (by omega)))

set_option maxRecDepth 4000 in
theorem sd_pb_68 {φ : go_F} {l : Launch} {R : Room} {u : Nat × Nat} {h : mv_H} {n : Nat} {f g : Nat → Int} {s : Int} {t sh : Nat} {c : Int} {k : Nat} (hm_d : DV h 17 ) (hm_a : WO h 18 18 f s) (hm_b : WO h 20 18 g (t : Int)) 
    (k0 : Go φ l m_di_putBack R u 69 [some (mv_R 17), some (mv_I (sh : Int)), some (mv_I c), some (mv_I (k : Int)), none] [mv_I c] h n) :
    Go φ l m_di_putBack R u 68 [some (mv_R 17), some (mv_I (sh : Int)), some (mv_I c), some (mv_I (k : Int)), none] [] h n := by
  refine go_iload_n (q := 69) d_di_putBack_68 rfl rfl rfl ?_
  exact k0 

set_option maxRecDepth 4000 in
theorem sd_ta_0 {φ : go_F} {l : Launch} {R : Room} {u : Nat × Nat} {h : mv_H} {n : Nat} {f g : Nat → Int} {s : Int} {t sh : Nat} (hm_d : DV h 17 ) (hm_a : WO h 18 18 f s) (hm_b : WO h 20 18 g (t : Int)) (hs : sh + t ≤ 17 ∧ 0 < t) (hf : ∀ j, 0 ≤ f j ∧ f j ≤ 1073741823) (hg : ∀ j, 0 ≤ g j ∧ g j ≤ 1073741823) (hg0 : 0 < g (t - 1))
    (k0 : Go φ l m_di_takeAway R u 60 [some (mv_R 17), some (mv_I (sh : Int)), some (mv_I ((sh : Int) + (t : Int))), some (mv_L (f (sh + t) * 1073741824 + f (sh + t - 1))), none, none, none, none, none, none, none, none] [mv_L 1073741823, mv_L ((f (sh + t) * 1073741824 + f (sh + t - 1)) / (g (t - 1)))] h n) :
    Go φ l m_di_takeAway R u 0 [some (mv_R 17), some (mv_I (sh : Int)), none, none, none, none, none, none, none, none, none, none] [] h n := by
  refine go_iload_n (q := 1) d_di_takeAway_0 rfl rfl rfl ?_
  refine go_aload_n (q := 2) d_di_takeAway_1 rfl rfl rfl ?_
  refine go_getf (q := 5) f_di_20 d_di_takeAway_2 rfl (DV_c0 hm_d) rfl ?_
  refine go_getf (q := 8) f_di_49 d_di_takeAway_5 rfl (WO_c0 hm_b) rfl ?_
  refine go_iadd (q := 9) d_di_takeAway_8 rfl ?_
  refine go_istore_n (q := 10) (L' := [some (mv_R 17), some (mv_I (sh : Int)), some (mv_I ((sh : Int) + (t : Int))), none, none, none, none, none, none, none, none, none]) d_di_takeAway_9 rfl rfl (by decide) rfl ?_
  refine go_aload_n (q := 11) d_di_takeAway_10 rfl rfl rfl ?_
  refine go_getf (q := 14) f_di_14 d_di_takeAway_11 rfl (DV_c0 hm_d) rfl ?_
  refine go_getf (q := 17) f_di_45 d_di_takeAway_14 rfl (WO_c0 hm_a) rfl ?_
  refine go_iload_n (q := 18) d_di_takeAway_17 rfl rfl rfl ?_
  refine go_iald (i := sh + t) (q := 19) d_di_takeAway_18 rfl (WO_c1 hm_a) (by omega) (by omega) (by omega) ?_
  have q_1 := hf (sh + t)
  refine go_i2l (q := 20) d_di_takeAway_19 rfl (by omega) ?_
  refine go_bipush (q := 22) d_di_takeAway_20 rfl (by decide) ?_
  refine go_lshl (z := (f (sh + t)) * 1073741824) (q := 23) d_di_takeAway_22 rfl (gn_shlL 30 (by decide) rfl (by decide) (by omega)) ?_
  refine go_aload_n (q := 24) d_di_takeAway_23 rfl rfl rfl ?_
  refine go_getf (q := 27) f_di_14 d_di_takeAway_24 rfl (DV_c0 hm_d) rfl ?_
  refine go_getf (q := 30) f_di_45 d_di_takeAway_27 rfl (WO_c0 hm_a) rfl ?_
  refine go_iload_n (q := 31) d_di_takeAway_30 rfl rfl rfl ?_
  refine go_iconst (q := 32) d_di_takeAway_31 rfl ?_
  refine go_isub (q := 33) d_di_takeAway_32 rfl ?_
  refine go_iald (i := sh + t - 1) (q := 34) d_di_takeAway_33 rfl (WO_c1 hm_a) (by omega) (by omega) (by omega) ?_
  have q_2 := hf (sh + t - 1)
  refine go_i2l (q := 35) d_di_takeAway_34 rfl (by omega) ?_
  refine go_lor (z := f (sh + t) * 1073741824 + f (sh + t - 1)) (q := 36) d_di_takeAway_35 rfl (gn_orL 30 (by decide) (by omega) (hf (sh + t)).1 rfl (by omega)) ?_
  refine go_lstore_n (q := 37) (L' := [some (mv_R 17), some (mv_I (sh : Int)), some (mv_I ((sh : Int) + (t : Int))), some (mv_L (f (sh + t) * 1073741824 + f (sh + t - 1))), none, none, none, none, none, none, none, none]) d_di_takeAway_36 rfl rfl (by decide) rfl ?_
  refine go_lload_n (q := 38) d_di_takeAway_37 rfl rfl rfl ?_
  refine go_aload_n (q := 39) d_di_takeAway_38 rfl rfl rfl ?_
  refine go_getf (q := 42) f_di_20 d_di_takeAway_39 rfl (DV_c0 hm_d) rfl ?_
  refine go_getf (q := 45) f_di_45 d_di_takeAway_42 rfl (WO_c0 hm_b) rfl ?_
  refine go_aload_n (q := 46) d_di_takeAway_45 rfl rfl rfl ?_
  refine go_getf (q := 49) f_di_20 d_di_takeAway_46 rfl (DV_c0 hm_d) rfl ?_
  refine go_getf (q := 52) f_di_49 d_di_takeAway_49 rfl (WO_c0 hm_b) rfl ?_
  refine go_iconst (q := 53) d_di_takeAway_52 rfl ?_
  refine go_isub (q := 54) d_di_takeAway_53 rfl ?_
  refine go_iald (i := t - 1) (q := 55) d_di_takeAway_54 rfl (WO_c1 hm_b) (by omega) (by omega) (by omega) ?_
  have q_3 := hg (t - 1)
  refine go_i2l (q := 56) d_di_takeAway_55 rfl (by omega) ?_
  refine go_ldiv (z := (f (sh + t) * 1073741824 + f (sh + t - 1)) / (g (t - 1))) (q := 57) d_di_takeAway_56 rfl (gn_ne0L (by omega)) (gn_divL (by omega) (by omega)) ?_
  refine go_ldc2 (z := 1073741823) (q := 60) d_di_takeAway_57 rfl tw_3_96 (by decide) ?_
  exact k0 

set_option maxRecDepth 4000 in
theorem sd_ta_63 {φ : go_F} {l : Launch} {R : Room} {u : Nat × Nat} {h : mv_H} {n : Nat} {f g : Nat → Int} {s : Int} {t sh : Nat} {hd : Nat} {w x : Int} (hm_d : DV h 17 ) (hm_a : WO h 18 18 f s) (hm_b : WO h 20 18 g (t : Int)) 
    (k0 : Go φ l m_di_takeAway R u 71 [some (mv_R 17), some (mv_I (sh : Int)), some (mv_I (hd : Int)), some (mv_L w), none, some (mv_L x), none, some (mv_L 0), none, some (mv_I 0), none, none] [] h n) :
    Go φ l m_di_takeAway R u 63 [some (mv_R 17), some (mv_I (sh : Int)), some (mv_I (hd : Int)), some (mv_L w), none, none, none, none, none, none, none, none] [mv_L x] h n := by
  refine go_lstore (q := 65) (L' := [some (mv_R 17), some (mv_I (sh : Int)), some (mv_I (hd : Int)), some (mv_L w), none, some (mv_L x), none, none, none, none, none, none]) d_di_takeAway_63 rfl (by decide) rfl ?_
  refine go_lconst (z := 0) (q := 66) d_di_takeAway_65 rfl (by decide) ?_
  refine go_lstore (q := 68) (L' := [some (mv_R 17), some (mv_I (sh : Int)), some (mv_I (hd : Int)), some (mv_L w), none, some (mv_L x), none, some (mv_L 0), none, none, none, none]) d_di_takeAway_66 rfl (by decide) rfl ?_
  refine go_iconst (q := 69) d_di_takeAway_68 rfl ?_
  refine go_istore (q := 71) (L' := [some (mv_R 17), some (mv_I (sh : Int)), some (mv_I (hd : Int)), some (mv_L w), none, some (mv_L x), none, some (mv_L 0), none, some (mv_I 0), none, none]) d_di_takeAway_69 rfl (by decide) rfl ?_
  exact k0 

set_option maxRecDepth 4000 in
theorem sd_ta_71 {φ : go_F} {l : Launch} {R : Room} {u : Nat × Nat} {h : mv_H} {n : Nat} {f g : Nat → Int} {s : Int} {t sh : Nat} {hd k : Nat} {w x c : Int} (hm_d : DV h 17 ) (hm_a : WO h 18 18 f s) (hm_b : WO h 20 18 g (t : Int)) (hs : sh + t ≤ 17 ∧ 0 < t) (hf : ∀ j, 0 ≤ f j ∧ f j ≤ 1073741823) (hg : ∀ j, 0 ≤ g j ∧ g j ≤ 1073741823) (hk : k ≤ t) (hx : 0 ≤ x ∧ x ≤ 1073741823) (hc : -1073741823 ≤ c ∧ c ≤ 0)
    (k0 : (t : Int) ≤ (k : Int) → Go φ l m_di_takeAway R u 148 [some (mv_R 17), some (mv_I (sh : Int)), some (mv_I (hd : Int)), some (mv_L w), none, some (mv_L x), none, some (mv_L c), none, some (mv_I (k : Int)), none, none] [] h n)
    (k1 : ¬ (t : Int) ≤ (k : Int) → ∀ h' : mv_H, DV h' 17  → WO h' 18 18 (va_up f (sh + k) ((((f (sh + k)) - (x * (g k))) + c) % 1073741824)) s → WO h' 20 18 g (t : Int) → (∀ z_, (z_ < 18 ∨ 18 + 2 ≤ z_) → h' z_ = h z_) → Go φ l m_di_takeAway R u 71 [some (mv_R 17), some (mv_I (sh : Int)), some (mv_I (hd : Int)), some (mv_L w), none, some (mv_L x), none, some (mv_L ((((f (sh + k)) - (x * (g k))) + c) / 1073741824)), none, some (mv_I ((k : Int) + 1)), none, none] [] h' n) :
    Go φ l m_di_takeAway R u 71 [some (mv_R 17), some (mv_I (sh : Int)), some (mv_I (hd : Int)), some (mv_L w), none, some (mv_L x), none, some (mv_L c), none, some (mv_I (k : Int)), none, none] [] h n := by
  refine go_iload (q := 73) d_di_takeAway_71 rfl rfl ?_
  refine go_aload_n (q := 74) d_di_takeAway_73 rfl rfl rfl ?_
  refine go_getf (q := 77) f_di_20 d_di_takeAway_74 rfl (DV_c0 hm_d) rfl ?_
  refine go_getf (q := 80) f_di_49 d_di_takeAway_77 rfl (WO_c0 hm_b) rfl ?_
  refine go_icmp_ge (t := 148) (q := 83) d_di_takeAway_80 (by decide) rfl (by omega) (by omega) (fun c1 => ?_) (fun c1 => ?_)
  ·
    exact k0 c1
  ·
    refine go_aload_n (q := 84) d_di_takeAway_83 rfl rfl rfl ?_
    refine go_getf (q := 87) f_di_14 d_di_takeAway_84 rfl (DV_c0 hm_d) rfl ?_
    refine go_getf (q := 90) f_di_45 d_di_takeAway_87 rfl (WO_c0 hm_a) rfl ?_
    refine go_iload_n (q := 91) d_di_takeAway_90 rfl rfl rfl ?_
    refine go_iload (q := 93) d_di_takeAway_91 rfl rfl ?_
    refine go_iadd (q := 94) d_di_takeAway_93 rfl ?_
    refine go_iald (i := sh + k) (q := 95) d_di_takeAway_94 rfl (WO_c1 hm_a) (by omega) (by omega) (by omega) ?_
    have q_2 := hf (sh + k)
    refine go_i2l (q := 96) d_di_takeAway_95 rfl (by omega) ?_
    have hp_ := gn_muly hx (hg k)
    refine go_lload (q := 98) d_di_takeAway_96 rfl rfl ?_
    refine go_aload_n (q := 99) d_di_takeAway_98 rfl rfl rfl ?_
    refine go_getf (q := 102) f_di_20 d_di_takeAway_99 rfl (DV_c0 hm_d) rfl ?_
    refine go_getf (q := 105) f_di_45 d_di_takeAway_102 rfl (WO_c0 hm_b) rfl ?_
    refine go_iload (q := 107) d_di_takeAway_105 rfl rfl ?_
    refine go_iald (i := k) (q := 108) d_di_takeAway_107 rfl (WO_c1 hm_b) (by omega) (by omega) (by omega) ?_
    have q_3 := hg k
    refine go_i2l (q := 109) d_di_takeAway_108 rfl (by omega) ?_
    refine go_lmul (q := 110) d_di_takeAway_109 rfl ?_
    refine go_lsub (q := 111) d_di_takeAway_110 rfl ?_
    refine go_lload (q := 113) d_di_takeAway_111 rfl rfl ?_
    refine go_ladd (q := 114) d_di_takeAway_113 rfl ?_
    refine go_lstore (q := 116) (L' := [some (mv_R 17), some (mv_I (sh : Int)), some (mv_I (hd : Int)), some (mv_L w), none, some (mv_L x), none, some (mv_L c), none, some (mv_I (k : Int)), some (mv_L (((f (sh + k)) - (x * (g k))) + c)), none]) d_di_takeAway_114 rfl (by decide) rfl ?_
    refine go_aload_n (q := 117) d_di_takeAway_116 rfl rfl rfl ?_
    refine go_getf (q := 120) f_di_14 d_di_takeAway_117 rfl (DV_c0 hm_d) rfl ?_
    refine go_getf (q := 123) f_di_45 d_di_takeAway_120 rfl (WO_c0 hm_a) rfl ?_
    refine go_iload_n (q := 124) d_di_takeAway_123 rfl rfl rfl ?_
    refine go_iload (q := 126) d_di_takeAway_124 rfl rfl ?_
    refine go_iadd (q := 127) d_di_takeAway_126 rfl ?_
    refine go_lload (q := 129) d_di_takeAway_127 rfl rfl ?_
    refine go_ldc2 (z := 1073741823) (q := 132) d_di_takeAway_129 rfl tw_3_96 (by decide) ?_
    refine go_land (z := (((f (sh + k)) - (x * (g k))) + c) % 1073741824) (q := 133) d_di_takeAway_132 rfl (gn_maskZ 30 (by decide) (by decide) (by decide)) ?_
    refine go_l2i (q := 134) d_di_takeAway_133 rfl ?_
    refine go_iast (i := sh + k) (q := 135) d_di_takeAway_134 rfl (WO_c1 hm_a) (by omega) (by omega) (by omega) ?_
    have hm_6 := WO_u1 hm_a (va_up f (sh + k) ((((f (sh + k)) - (x * (g k))) + c) % 1073741824))
    have fr_5 : ∀ z_, z_ ≠ (18 + 1) → va_up h (18 + 1) (mv_A 0 18 (va_up f (sh + k) ((((f (sh + k)) - (x * (g k))) + c) % 1073741824))) z_ = h z_ := fun z_ hj => va_up_ne _ _ hj
    generalize va_up h (18 + 1) (mv_A 0 18 (va_up f (sh + k) ((((f (sh + k)) - (x * (g k))) + c) % 1073741824))) = h_4 at hm_6 fr_5 ⊢
    have hm_7 := DV_k hm_d (h' := h_4) (fun z_ ha hb => fr_5 z_ (by omega))
    have hm_8 := WO_k hm_b (h' := h_4) (fun z_ ha hb => fr_5 z_ (by omega))
    refine go_lload (q := 137) d_di_takeAway_135 rfl rfl ?_
    refine go_bipush (q := 139) d_di_takeAway_137 rfl (by decide) ?_
    refine go_lshr (z := (((f (sh + k)) - (x * (g k))) + c) / 1073741824) (q := 140) d_di_takeAway_139 rfl (gn_shrL 30 (by decide) rfl (by decide) (by omega)) ?_
    refine go_lstore (q := 142) (L' := [some (mv_R 17), some (mv_I (sh : Int)), some (mv_I (hd : Int)), some (mv_L w), none, some (mv_L x), none, some (mv_L ((((f (sh + k)) - (x * (g k))) + c) / 1073741824)), none, some (mv_I (k : Int)), some (mv_L (((f (sh + k)) - (x * (g k))) + c)), none]) d_di_takeAway_140 rfl (by decide) rfl ?_
    refine go_iinc (q := 145) (L' := [some (mv_R 17), some (mv_I (sh : Int)), some (mv_I (hd : Int)), some (mv_L w), none, some (mv_L x), none, some (mv_L ((((f (sh + k)) - (x * (g k))) + c) / 1073741824)), none, some (mv_I ((k : Int) + 1)), some (mv_L (((f (sh + k)) - (x * (g k))) + c)), none]) d_di_takeAway_142 rfl (by decide) rfl rfl ?_
    refine go_goto (q := 71) d_di_takeAway_145 (by decide) ?_
    refine go_fg 10 (L' := [some (mv_R 17), some (mv_I (sh : Int)), some (mv_I (hd : Int)), some (mv_L w), none, some (mv_L x), none, some (mv_L ((((f (sh + k)) - (x * (g k))) + c) / 1073741824)), none, some (mv_I ((k : Int) + 1)), none, none]) rfl ?_
    exact k1 c1 _ hm_7 hm_6 hm_8 (fun z_ g0 => (fr_5 z_ (by omega)))

set_option maxRecDepth 4000 in
theorem sd_ta_148 {φ : go_F} {l : Launch} {R : Room} {u : Nat × Nat} {h : mv_H} {n : Nat} {f g : Nat → Int} {s : Int} {t sh : Nat} {hd k : Nat} {w x c : Int} (hm_d : DV h 17 ) (hm_a : WO h 18 18 f s) (hm_b : WO h 20 18 g (t : Int)) (hf : ∀ j, 0 ≤ f j ∧ f j ≤ 1073741823) (hh : hd ≤ 17) (hc : -1073741823 ≤ c ∧ c ≤ 0)
    (k0 : Go φ l m_di_takeAway R u 166 [some (mv_R 17), some (mv_I (sh : Int)), some (mv_I (hd : Int)), some (mv_L w), none, some (mv_L x), none, some (mv_L (c + (f hd))), none, some (mv_I 0), none, none] [] h n) :
    Go φ l m_di_takeAway R u 148 [some (mv_R 17), some (mv_I (sh : Int)), some (mv_I (hd : Int)), some (mv_L w), none, some (mv_L x), none, some (mv_L c), none, some (mv_I (k : Int)), none, none] [] h n := by
  refine go_lload (q := 150) d_di_takeAway_148 rfl rfl ?_
  refine go_aload_n (q := 151) d_di_takeAway_150 rfl rfl rfl ?_
  refine go_getf (q := 154) f_di_14 d_di_takeAway_151 rfl (DV_c0 hm_d) rfl ?_
  refine go_getf (q := 157) f_di_45 d_di_takeAway_154 rfl (WO_c0 hm_a) rfl ?_
  refine go_iload_n (q := 158) d_di_takeAway_157 rfl rfl rfl ?_
  refine go_iald (i := hd) (q := 159) d_di_takeAway_158 rfl (WO_c1 hm_a) (by omega) (by omega) (by omega) ?_
  have q_1 := hf hd
  refine go_i2l (q := 160) d_di_takeAway_159 rfl (by omega) ?_
  refine go_ladd (q := 161) d_di_takeAway_160 rfl ?_
  refine go_lstore (q := 163) (L' := [some (mv_R 17), some (mv_I (sh : Int)), some (mv_I (hd : Int)), some (mv_L w), none, some (mv_L x), none, some (mv_L (c + (f hd))), none, some (mv_I (k : Int)), none, none]) d_di_takeAway_161 rfl (by decide) rfl ?_
  refine go_iconst (q := 164) d_di_takeAway_163 rfl ?_
  refine go_istore (q := 166) (L' := [some (mv_R 17), some (mv_I (sh : Int)), some (mv_I (hd : Int)), some (mv_L w), none, some (mv_L x), none, some (mv_L (c + (f hd))), none, some (mv_I 0), none, none]) d_di_takeAway_164 rfl (by decide) rfl ?_
  exact k0 

set_option maxRecDepth 4000 in
theorem sd_ta_166 {φ : go_F} {l : Launch} {R : Room} {u : Nat × Nat} {h : mv_H} {n : Nat} {f g : Nat → Int} {s : Int} {t sh : Nat} {hd k : Nat} {w x c : Int} (hm_d : DV h 17 ) (hm_a : WO h 18 18 f s) (hm_b : WO h 20 18 g (t : Int)) (hk : k ≤ 2) (hc : -1073741823 ≤ c ∧ c ≤ 1073741823)
    (k0 : 2 ≤ (k : Int) → Go φ l m_di_takeAway R u 202 [some (mv_R 17), some (mv_I (sh : Int)), some (mv_I (hd : Int)), some (mv_L w), none, some (mv_L x), none, some (mv_L c), none, some (mv_I (k : Int)), none, none] [] h n)
    (k1 : ¬ 2 ≤ (k : Int) → 0 ≤ (if 0 < c then 1 else if c = 0 then 0 else -1) → Go φ l m_di_takeAway R u 202 [some (mv_R 17), some (mv_I (sh : Int)), some (mv_I (hd : Int)), some (mv_L w), none, some (mv_L x), none, some (mv_L c), none, some (mv_I (k : Int)), none, none] [] h n)
    (k2 : ¬ 2 ≤ (k : Int) → ¬ 0 ≤ (if 0 < c then 1 else if c = 0 then 0 else -1) → Go φ l m_di_takeAway R u 183 [some (mv_R 17), some (mv_I (sh : Int)), some (mv_I (hd : Int)), some (mv_L w), none, some (mv_L x), none, some (mv_L c), none, some (mv_I (k : Int)), none, none] [mv_I (sh : Int), mv_R 17, mv_L c] h n) :
    Go φ l m_di_takeAway R u 166 [some (mv_R 17), some (mv_I (sh : Int)), some (mv_I (hd : Int)), some (mv_L w), none, some (mv_L x), none, some (mv_L c), none, some (mv_I (k : Int)), none, none] [] h n := by
  refine go_iload (q := 168) d_di_takeAway_166 rfl rfl ?_
  refine go_iconst (q := 169) d_di_takeAway_168 rfl ?_
  refine go_icmp_ge (t := 202) (q := 172) d_di_takeAway_169 (by decide) rfl (by omega) (by omega) (fun c1 => ?_) (fun c1 => ?_)
  ·
    exact k0 c1
  ·
    refine go_lload (q := 174) d_di_takeAway_172 rfl rfl ?_
    refine go_lconst (z := 0) (q := 175) d_di_takeAway_174 rfl (by decide) ?_
    refine go_lcmp (q := 176) d_di_takeAway_175 rfl (by omega) (by omega) ?_
    refine go_if_ge (t := 202) (q := 179) d_di_takeAway_176 (by decide) rfl (by omega) (fun c2 => ?_) (fun c2 => ?_)
    ·
      exact k1 c1 c2
    ·
      refine go_lload (q := 181) d_di_takeAway_179 rfl rfl ?_
      refine go_aload_n (q := 182) d_di_takeAway_181 rfl rfl rfl ?_
      refine go_iload_n (q := 183) d_di_takeAway_182 rfl rfl rfl ?_
      exact k2 c1 c2

set_option maxRecDepth 4000 in
theorem sd_ta_186 {φ : go_F} {l : Launch} {R : Room} {u : Nat × Nat} {h : mv_H} {n : Nat} {f g : Nat → Int} {s : Int} {t sh : Nat} {hd k : Nat} {w x c y : Int} (hm_d : DV h 17 ) (hm_a : WO h 18 18 f s) (hm_b : WO h 20 18 g (t : Int)) (hy : 0 ≤ y ∧ y ≤ 1)
    (k0 : Go φ l m_di_takeAway R u 166 [some (mv_R 17), some (mv_I (sh : Int)), some (mv_I (hd : Int)), some (mv_L w), none, some (mv_L (x - 1)), none, some (mv_L (c + y)), none, some (mv_I ((k : Int) + 1)), none, none] [] h n) :
    Go φ l m_di_takeAway R u 186 [some (mv_R 17), some (mv_I (sh : Int)), some (mv_I (hd : Int)), some (mv_L w), none, some (mv_L x), none, some (mv_L c), none, some (mv_I (k : Int)), none, none] [mv_I y, mv_L c] h n := by
  refine go_i2l (q := 187) d_di_takeAway_186 rfl (by omega) ?_
  refine go_ladd (q := 188) d_di_takeAway_187 rfl ?_
  refine go_lstore (q := 190) (L' := [some (mv_R 17), some (mv_I (sh : Int)), some (mv_I (hd : Int)), some (mv_L w), none, some (mv_L x), none, some (mv_L (c + y)), none, some (mv_I (k : Int)), none, none]) d_di_takeAway_188 rfl (by decide) rfl ?_
  refine go_lload (q := 192) d_di_takeAway_190 rfl rfl ?_
  refine go_lconst (z := 1) (q := 193) d_di_takeAway_192 rfl (by decide) ?_
  refine go_lsub (q := 194) d_di_takeAway_193 rfl ?_
  refine go_lstore (q := 196) (L' := [some (mv_R 17), some (mv_I (sh : Int)), some (mv_I (hd : Int)), some (mv_L w), none, some (mv_L (x - 1)), none, some (mv_L (c + y)), none, some (mv_I (k : Int)), none, none]) d_di_takeAway_194 rfl (by decide) rfl ?_
  refine go_iinc (q := 199) (L' := [some (mv_R 17), some (mv_I (sh : Int)), some (mv_I (hd : Int)), some (mv_L w), none, some (mv_L (x - 1)), none, some (mv_L (c + y)), none, some (mv_I ((k : Int) + 1)), none, none]) d_di_takeAway_196 rfl (by decide) rfl rfl ?_
  refine go_goto (q := 166) d_di_takeAway_199 (by decide) ?_
  exact k0 

set_option maxRecDepth 4000 in
theorem sd_ta_202 {φ : go_F} {l : Launch} {R : Room} {u : Nat × Nat} {h : mv_H} {n : Nat} {f g : Nat → Int} {s : Int} {t sh : Nat} {hd k : Nat} {w x c : Int} (hm_d : DV h 17 ) (hm_a : WO h 18 18 f s) (hm_b : WO h 20 18 g (t : Int)) 
    (k0 : Go φ l m_di_takeAway R u 205 [some (mv_R 17), some (mv_I (sh : Int)), some (mv_I (hd : Int)), some (mv_L w), none, some (mv_L x), none, some (mv_L c), none, some (mv_I (k : Int)), none, none] [mv_I x] h n) :
    Go φ l m_di_takeAway R u 202 [some (mv_R 17), some (mv_I (sh : Int)), some (mv_I (hd : Int)), some (mv_L w), none, some (mv_L x), none, some (mv_L c), none, some (mv_I (k : Int)), none, none] [] h n := by
  refine go_lload (q := 204) d_di_takeAway_202 rfl rfl ?_
  refine go_l2i (q := 205) d_di_takeAway_204 rfl ?_
  exact k0 

