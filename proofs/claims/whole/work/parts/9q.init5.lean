/-! the model's constructor -/
section InitM
variable {φ : go_F} {l : Launch} {R : Room} {o : Nat}
def vk_ (i : Nat) : Nat → Nat := fun r => if r % 2 = 1 ∧ r < 2 * i then 1 else 0
theorem vk_s (i : Nat) : va_up (vk_ i) (2 * i + 1) 1 = vk_ (i + 1) := by
  funext r
  unfold va_up vk_
  by_cases e : r = 2 * i + 1
  · rw [if_pos e, if_pos (by omega)]
  · rw [if_neg e]
    by_cases c : r % 2 = 1 ∧ r < 2 * i
    · rw [if_pos c, if_pos (by omega)]
    · rw [if_neg c, if_neg (by omega)]
theorem up_up {V : Nat → Nat} {i a b : Nat} : va_up (va_up V i a) i b = va_up V i b := by
  funext r
  unfold va_up
  split <;> rfl
theorem lp_mo1 {X : mo_X} (hR : 1 ≤ R.frames ∧ 40 ≤ R.locals) (hfit : go_fit R (7, 6795) m_mo_set.2.2.1 rd_mo_set rw_mo_set 0 0) : ∀ (k i : Nat) (h : mv_H), i + k = 75 → mo_V h o X (vk_ i) →
    (∀ h', mo_V h' o X (vk_ 75) → fr_ o 8 h h' → Go φ l m_mo_init R (7, 6795) 91 [some (mv_R o), some (mv_I 75)] [] h' (o + 8)) →
    Go φ l m_mo_init R (7, 6795) 69 [some (mv_R o), some (mv_I (i : Int))] [] h (o + 8) := by
  intro k
  induction k with
  | zero =>
    intro i h hi hm kk
    obtain rfl : i = 75 := by omega
    refine go_iload_n (q := 70) d_mo_init_69 rfl rfl rfl ?_
    refine go_bipush (q := 72) d_mo_init_70 rfl (by decide) ?_
    exact go_icmp_ge (t := 91) (q := 75) d_mo_init_72 (by decide) rfl (by omega) (by omega) (fun c => kk h hm (fun j _ => rfl)) (fun c => absurd (show (75 : Int) ≤ ((75 : Nat) : Int) by omega) c)
  | succ k ih =>
    intro i h hi hm kk
    obtain ⟨fs, hob⟩ := mo_Vob hm
    refine go_iload_n (q := 70) d_mo_init_69 rfl rfl rfl ?_
    refine go_bipush (q := 72) d_mo_init_70 rfl (by decide) ?_
    refine go_icmp_ge (t := 91) (q := 75) d_mo_init_72 (by decide) rfl (by omega) (by omega) (fun c => absurd c (by omega)) (fun c => ?_)
    refine go_aload_n (q := 76) d_mo_init_75 rfl rfl rfl ?_
    refine go_iconst (q := 77) d_mo_init_76 rfl ?_
    refine go_iload_n (q := 78) d_mo_init_77 rfl rfl rfl ?_
    refine go_imul (q := 79) d_mo_init_78 rfl ?_
    refine go_iconst (q := 80) d_mo_init_79 rfl ?_
    refine go_iadd (q := 81) d_mo_init_80 rfl ?_
    refine go_iconst (q := 82) d_mo_init_81 rfl ?_
    rw [show (2 : Int) * (i : Int) + 1 = ((2 * i + 1 : Nat) : Int) by omega]
    refine go_callV (M' := m_mo_set) (d := rd_mo_set) (w := rw_mo_set) (mc := 0) (ms := 0) (as := [mv_I ((2 * i + 1 : Nat) : Int), mv_I ((1 : Nat) : Int)]) (b := o) (rest := []) (q := 85) g_mo_set i_mo_set v_mo_set l_mo_35 d_mo_init_82 rfl rfl rfl hob rfl (by decide) hfit (tm_set hm (by omega) (by decide)) ?_
    rintro w h1 n1 ⟨rfl, rfl, hV, hf⟩ -
    refine go_iinc (q := 88) (L' := [some (mv_R o), some (mv_I ((i + 1 : Nat) : Int))]) d_mo_init_85 rfl (by decide) rfl rfl ?_
    refine go_goto (q := 69) d_mo_init_88 (by decide) ?_
    rw [vk_s] at hV
    exact go_u0 (ih (i + 1) h1 (by omega) hV fun h' a b => kk h' a (hf.tr b))
theorem lp_mo2 {X : mo_X} {V : Nat → Nat} (hfit : go_fit R (7, 6795) m_mo_addTo.2.2.1 rd_mo_addTo rw_mo_addTo 0 0) : ∀ (k i : Nat) (h : mv_H), i + k = 240 → mo_V h o X (va_up V 158 (2 ^ i)) →
    (∀ h', mo_V h' o X (va_up V 158 (2 ^ 240)) → fr_ o 8 h h' → Go φ l m_mo_init R (7, 6795) 124 [some (mv_R o), some (mv_I 240)] [] h' (o + 8)) →
    Go φ l m_mo_init R (7, 6795) 101 [some (mv_R o), some (mv_I (i : Int))] [] h (o + 8) := by
  intro k
  induction k with
  | zero =>
    intro i h hi hm kk
    obtain rfl : i = 240 := by omega
    refine go_iload_n (q := 102) d_mo_init_101 rfl rfl rfl ?_
    refine go_sipush (q := 105) d_mo_init_102 rfl (by decide) ?_
    exact go_icmp_ge (t := 124) (q := 108) d_mo_init_105 (by decide) rfl (by omega) (by omega) (fun c => kk h hm (fun j _ => rfl)) (fun c => absurd (show (240 : Int) ≤ ((240 : Nat) : Int) by omega) c)
  | succ k ih =>
    intro i h hi hm kk
    obtain ⟨fs, hob⟩ := mo_Vob hm
    have hlt : 2 ^ i ≤ 2 ^ 239 := Nat.pow_le_pow_right (by decide) (by omega)
    have hbig : 2 ^ 239 + 2 ^ 239 < 10000 ^ 40 := by decide
    refine go_iload_n (q := 102) d_mo_init_101 rfl rfl rfl ?_
    refine go_sipush (q := 105) d_mo_init_102 rfl (by decide) ?_
    refine go_icmp_ge (t := 124) (q := 108) d_mo_init_105 (by decide) rfl (by omega) (by omega) (fun c => absurd c (by omega)) (fun c => ?_)
    refine go_aload_n (q := 109) d_mo_init_108 rfl rfl rfl ?_
    refine go_sipush (q := 112) d_mo_init_109 rfl (by decide) ?_
    refine go_sipush (q := 115) d_mo_init_112 rfl (by decide) ?_
    refine go_callV (M' := m_mo_addTo) (d := rd_mo_addTo) (w := rw_mo_addTo) (mc := 0) (ms := 0) (as := [mv_I ((158 : Nat) : Int), mv_I ((158 : Nat) : Int)]) (b := o) (rest := []) (q := 118) g_mo_addTo i_mo_addTo v_mo_addTo l_mo_39 d_mo_init_115 rfl rfl rfl hob rfl (by decide) hfit (tm_addTo hm (by decide) (by decide) (by rw [va_up_self]; exact Nat.lt_of_le_of_lt (Nat.add_le_add hlt hlt) hbig)) ?_
    rintro w h1 n1 ⟨rfl, rfl, hV, hf⟩ -
    refine go_iinc (q := 121) (L' := [some (mv_R o), some (mv_I ((i + 1 : Nat) : Int))]) d_mo_init_118 rfl (by decide) rfl rfl ?_
    refine go_goto (q := 101) d_mo_init_121 (by decide) ?_
    rw [va_up_self, up_up, ← Nat.two_mul, ← Nat.pow_succ'] at hV
    exact go_u0 (ih (i + 1) h1 (by omega) hV fun h' a b => kk h' a (hf.tr b))
theorem lp_mo3 {X : mo_X} {V : Nat → Nat} (hfit : go_fit R (7, 6795) m_mo_addTo.2.2.1 rd_mo_addTo rw_mo_addTo 0 0) : ∀ (k i : Nat) (h : mv_H), i + k = 62 → mo_V h o X (va_up V 159 (2 ^ i)) →
    (∀ h', mo_V h' o X (va_up V 159 (2 ^ 62)) → fr_ o 8 h h' → Go φ l m_mo_init R (7, 6795) 156 [some (mv_R o), some (mv_I 62)] [] h' (o + 8)) →
    Go φ l m_mo_init R (7, 6795) 134 [some (mv_R o), some (mv_I (i : Int))] [] h (o + 8) := by
  intro k
  induction k with
  | zero =>
    intro i h hi hm kk
    obtain rfl : i = 62 := by omega
    refine go_iload_n (q := 135) d_mo_init_134 rfl rfl rfl ?_
    refine go_bipush (q := 137) d_mo_init_135 rfl (by decide) ?_
    exact go_icmp_ge (t := 156) (q := 140) d_mo_init_137 (by decide) rfl (by omega) (by omega) (fun c => kk h hm (fun j _ => rfl)) (fun c => absurd (show (62 : Int) ≤ ((62 : Nat) : Int) by omega) c)
  | succ k ih =>
    intro i h hi hm kk
    obtain ⟨fs, hob⟩ := mo_Vob hm
    have hlt : 2 ^ i ≤ 2 ^ 61 := Nat.pow_le_pow_right (by decide) (by omega)
    have hbig : 2 ^ 61 + 2 ^ 61 < 10000 ^ 40 := by decide
    refine go_iload_n (q := 135) d_mo_init_134 rfl rfl rfl ?_
    refine go_bipush (q := 137) d_mo_init_135 rfl (by decide) ?_
    refine go_icmp_ge (t := 156) (q := 140) d_mo_init_137 (by decide) rfl (by omega) (by omega) (fun c => absurd c (by omega)) (fun c => ?_)
    refine go_aload_n (q := 141) d_mo_init_140 rfl rfl rfl ?_
    refine go_sipush (q := 144) d_mo_init_141 rfl (by decide) ?_
    refine go_sipush (q := 147) d_mo_init_144 rfl (by decide) ?_
    refine go_callV (M' := m_mo_addTo) (d := rd_mo_addTo) (w := rw_mo_addTo) (mc := 0) (ms := 0) (as := [mv_I ((159 : Nat) : Int), mv_I ((159 : Nat) : Int)]) (b := o) (rest := []) (q := 150) g_mo_addTo i_mo_addTo v_mo_addTo l_mo_39 d_mo_init_147 rfl rfl rfl hob rfl (by decide) hfit (tm_addTo hm (by decide) (by decide) (by rw [va_up_self]; exact Nat.lt_of_le_of_lt (Nat.add_le_add hlt hlt) hbig)) ?_
    rintro w h1 n1 ⟨rfl, rfl, hV, hf⟩ -
    refine go_iinc (q := 153) (L' := [some (mv_R o), some (mv_I ((i + 1 : Nat) : Int))]) d_mo_init_150 rfl (by decide) rfl rfl ?_
    refine go_goto (q := 134) d_mo_init_153 (by decide) ?_
    rw [va_up_self, up_up, ← Nat.two_mul, ← Nat.pow_succ'] at hV
    exact go_u0 (ih (i + 1) h1 (by omega) hV fun h' a b => kk h' a (hf.tr b))
def j0_ : Nat → Int := fun i => if i = 2 then -1 else 0
theorem ti_mo {h : mv_H} (hh : h o = mv_O 8 [mv_I 0, mv_I 0, mv_N, mv_I 0, mv_N, mv_N, mv_N, mv_N, mv_N, mv_N, mv_I 0, mv_I 0, mv_I 0]) : Fn l m_mo_init rd_mo_init rw_mo_init 7 6795 [mv_R o] h (o + 1) (fun w h' n' => w = none ∧ n' = o + 8 ∧ rm_ h' o 0 0 (fun _ => 0) (-1) (0, 0, 1) (fun _ => (0, 0, 1)) ∧ fr_ o 8 h h') := by
  refine fn_of rfl (Nat.le_of_ble_eq_true rfl) rfl ?_
  refine go_aload_n (q := 1) d_mo_init_0 rfl rfl rfl ?_
  refine go_oinit (q := 4) tw_4_76 tw_1_32 tw_1_33 d_mo_init_1 rfl ⟨by decide, by decide⟩ ?_
  refine go_aload_n (q := 5) d_mo_init_4 rfl rfl rfl ?_
  refine go_bipush (q := 7) d_mo_init_5 rfl (by decide) ?_
  refine go_newI (N := 121) (q := 9) tw_1_59 d_mo_init_7 rfl rfl (by decide) (by decide) (by decide) (by decide) ?_
  refine go_putF (q := 12) F_mo_7 rfl d_mo_init_9 rfl ((va_up_ne _ _ (by omega)).trans hh) (Nat.le_of_ble_eq_true rfl) (go_fitA _ _) ?_
  refine go_aload_n (q := 13) d_mo_init_12 rfl rfl rfl ?_
  refine go_iconst (q := 14) d_mo_init_13 rfl ?_
  refine go_putf (q := 17) f_mo_13 d_mo_init_14 rfl (va_up_self _ _ _) (Nat.le_of_ble_eq_true rfl) (go_fitI _) ?_
  refine go_aload_n (q := 18) d_mo_init_17 rfl rfl rfl ?_
  refine go_sipush (q := 21) d_mo_init_18 rfl (by decide) ?_
  refine go_newI (N := 6400) (q := 23) tw_1_59 d_mo_init_21 rfl rfl (by decide) (by decide) (by decide) (by decide) ?_
  refine go_putF (q := 26) F_mo_17 rfl d_mo_init_23 rfl ((va_up_ne _ _ (by omega)).trans (va_up_self _ _ _)) (Nat.le_of_ble_eq_true rfl) (go_fitA _ _) ?_
  refine go_aload_n (q := 27) d_mo_init_26 rfl rfl rfl ?_
  refine go_sipush (q := 30) d_mo_init_27 rfl (by decide) ?_
  refine go_newI (N := 160) (q := 32) tw_1_59 d_mo_init_30 rfl rfl (by decide) (by decide) (by decide) (by decide) ?_
  refine go_putF (q := 35) F_mo_20 rfl d_mo_init_32 rfl ((va_up_ne _ _ (by omega)).trans (va_up_self _ _ _)) (Nat.le_of_ble_eq_true rfl) (go_fitA _ _) ?_
  refine go_aload_n (q := 36) d_mo_init_35 rfl rfl rfl ?_
  refine go_bipush (q := 38) d_mo_init_36 rfl (by decide) ?_
  refine go_newI (N := 75) (q := 40) tw_1_59 d_mo_init_38 rfl rfl (by decide) (by decide) (by decide) (by decide) ?_
  refine go_putF (q := 43) F_mo_23 rfl d_mo_init_40 rfl ((va_up_ne _ _ (by omega)).trans (va_up_self _ _ _)) (Nat.le_of_ble_eq_true rfl) (go_fitA _ _) ?_
  refine go_aload_n (q := 44) d_mo_init_43 rfl rfl rfl ?_
  refine go_bipush (q := 46) d_mo_init_44 rfl (by decide) ?_
  refine go_newI (N := 13) (q := 48) tw_1_59 d_mo_init_46 rfl rfl (by decide) (by decide) (by decide) (by decide) ?_
  refine go_putF (q := 51) F_mo_26 rfl d_mo_init_48 rfl ((va_up_ne _ _ (by omega)).trans (va_up_self _ _ _)) (Nat.le_of_ble_eq_true rfl) (go_fitA _ _) ?_
  refine go_aload_n (q := 52) d_mo_init_51 rfl rfl rfl ?_
  refine go_bipush (q := 54) d_mo_init_52 rfl (by decide) ?_
  refine go_newI (N := 13) (q := 56) tw_1_59 d_mo_init_54 rfl rfl (by decide) (by decide) (by decide) (by decide) ?_
  refine go_putF (q := 59) F_mo_29 rfl d_mo_init_56 rfl ((va_up_ne _ _ (by omega)).trans (va_up_self _ _ _)) (Nat.le_of_ble_eq_true rfl) (go_fitA _ _) ?_
  refine go_aload_n (q := 60) d_mo_init_59 rfl rfl rfl ?_
  refine go_bipush (q := 62) d_mo_init_60 rfl (by decide) ?_
  refine go_newI (N := 13) (q := 64) tw_1_59 d_mo_init_62 rfl rfl (by decide) (by decide) (by decide) (by decide) ?_
  refine go_putF (q := 67) F_mo_32 rfl d_mo_init_64 rfl ((va_up_ne _ _ (by omega)).trans (va_up_self _ _ _)) (Nat.le_of_ble_eq_true rfl) (go_fitA _ _) ?_
  refine go_iconst (q := 68) d_mo_init_67 rfl ?_
  refine go_istore_n (q := 69) (L' := [some (mv_R o), some (mv_I ((0 : Nat) : Int))]) d_mo_init_68 rfl rfl (by decide) rfl ?_
  refine lp_mo1 (X := (j0_, fun _ => 0, fun _ => 0, fun _ => 0, fun _ => 0, fun _ => 0)) ⟨by decide, by decide⟩ ⟨by decide, by decide, by decide, by decide⟩ 75 0 _ rfl ?_ (fun h1 hV1 f1 => ?_)
  · refine ⟨fun _ => 0, fun _ => 0, ⟨va_up_self _ _ _, ?_, ?_, ?_, ?_, ?_, ?_, ?_⟩, fun _ => ⟨show (0 : Int) ≤ 0 by decide, show (0 : Int) ≤ 9999 by decide⟩, fun _ => ⟨show (0 : Int) ≤ 0 by decide, show (0 : Int) ≤ 40 by decide⟩, fun r hr => ⟨fun _ _ _ => rfl, fun h => absurd h (show ¬ (0 : Int) < 0 by decide), ?_⟩⟩
    · rw [va_up_ne _ _ (by omega), va_up_ne _ _ (by omega), va_up_ne _ _ (by omega), va_up_ne _ _ (by omega), va_up_ne _ _ (by omega), va_up_ne _ _ (by omega), va_up_ne _ _ (by omega), va_up_ne _ _ (by omega), va_up_ne _ _ (by omega), va_up_ne _ _ (by omega), va_up_ne _ _ (by omega), va_up_ne _ _ (by omega), va_up_ne _ _ (by omega), va_up_ne _ _ (by omega), va_up_self]
    · rw [va_up_ne _ _ (by omega), va_up_ne _ _ (by omega), va_up_ne _ _ (by omega), va_up_ne _ _ (by omega), va_up_ne _ _ (by omega), va_up_ne _ _ (by omega), va_up_ne _ _ (by omega), va_up_ne _ _ (by omega), va_up_ne _ _ (by omega), va_up_ne _ _ (by omega), va_up_ne _ _ (by omega), va_up_self]
    · rw [va_up_ne _ _ (by omega), va_up_ne _ _ (by omega), va_up_ne _ _ (by omega), va_up_ne _ _ (by omega), va_up_ne _ _ (by omega), va_up_ne _ _ (by omega), va_up_ne _ _ (by omega), va_up_ne _ _ (by omega), va_up_ne _ _ (by omega), va_up_self]
    · rw [va_up_ne _ _ (by omega), va_up_ne _ _ (by omega), va_up_ne _ _ (by omega), va_up_ne _ _ (by omega), va_up_ne _ _ (by omega), va_up_ne _ _ (by omega), va_up_ne _ _ (by omega), va_up_self]
    · rw [va_up_ne _ _ (by omega), va_up_ne _ _ (by omega), va_up_ne _ _ (by omega), va_up_ne _ _ (by omega), va_up_ne _ _ (by omega), va_up_self]
    · rw [va_up_ne _ _ (by omega), va_up_ne _ _ (by omega), va_up_ne _ _ (by omega), va_up_self]
    · rw [va_up_ne _ _ (by omega), va_up_self]
    · rw [show vk_ 0 r = 0 from if_neg (by omega)]
      exact show nv 10000 (fun _ => 0) 40 = 0 by decide
  obtain ⟨fs1, ob1⟩ := mo_Vob hV1
  refine go_aload_n (q := 92) d_mo_init_91 rfl rfl rfl ?_
  refine go_sipush (q := 95) d_mo_init_92 rfl (by decide) ?_
  refine go_iconst (q := 96) d_mo_init_95 rfl ?_
  refine go_callV (M' := m_mo_set) (d := rd_mo_set) (w := rw_mo_set) (mc := 0) (ms := 0) (as := [mv_I ((158 : Nat) : Int), mv_I ((1 : Nat) : Int)]) (b := o) (rest := []) (q := 99) g_mo_set i_mo_set v_mo_set l_mo_35 d_mo_init_96 rfl rfl rfl ob1 rfl (by decide) ⟨by decide, by decide, by decide, by decide⟩ (tm_set hV1 (by decide) (by decide)) ?_
  rintro w h2 n2 ⟨rfl, rfl, hV2, f2⟩ -
  refine go_iconst (q := 100) d_mo_init_99 rfl ?_
  refine go_istore_n (q := 101) (L' := [some (mv_R o), some (mv_I ((0 : Nat) : Int))]) d_mo_init_100 rfl rfl (by decide) rfl ?_
  refine lp_mo2 ⟨by decide, by decide, by decide, by decide⟩ 240 0 _ rfl hV2 (fun h3 hV3 f3 => ?_)
  obtain ⟨fs3, ob3⟩ := mo_Vob hV3
  refine go_aload_n (q := 125) d_mo_init_124 rfl rfl rfl ?_
  refine go_sipush (q := 128) d_mo_init_125 rfl (by decide) ?_
  refine go_iconst (q := 129) d_mo_init_128 rfl ?_
  refine go_callV (M' := m_mo_set) (d := rd_mo_set) (w := rw_mo_set) (mc := 0) (ms := 0) (as := [mv_I ((159 : Nat) : Int), mv_I ((1 : Nat) : Int)]) (b := o) (rest := []) (q := 132) g_mo_set i_mo_set v_mo_set l_mo_35 d_mo_init_129 rfl rfl rfl ob3 rfl (by decide) ⟨by decide, by decide, by decide, by decide⟩ (tm_set hV3 (by decide) (by decide)) ?_
  rintro w h4 n4 ⟨rfl, rfl, hV4, f4⟩ -
  refine go_iconst (q := 133) d_mo_init_132 rfl ?_
  refine go_istore_n (q := 134) (L' := [some (mv_R o), some (mv_I ((0 : Nat) : Int))]) d_mo_init_133 rfl rfl (by decide) rfl ?_
  refine lp_mo3 ⟨by decide, by decide, by decide, by decide⟩ 62 0 _ rfl hV4 (fun h5 hV5 f5 => ?_)
  have hq : ∀ v, 0 < v → v < 75 → q_at (fun _ => 0) (va_up (va_up (vk_ 75) 158 (2 ^ 240)) 159 (2 ^ 62)) v = (0, 0, 1) := by
    intro v b0 b1
    unfold q_at
    rw [va_up_ne _ _ (by omega), va_up_ne _ _ (by omega), va_up_ne _ _ (by omega), va_up_ne _ _ (by omega), show vk_ 75 (2 * v) = 0 from if_neg (by omega), show vk_ 75 (2 * v + 1) = 1 from if_pos (by omega)]
  have q1 : q_in (0, 0, 1) := ⟨⟨⟨by decide, by decide⟩, ⟨fun _ => rfl, fun _ => rfl⟩, by decide, by decide⟩, by decide, by decide⟩
  refine go_vret d_mo_init_156 rfl ⟨by decide, by decide⟩ ⟨rfl, rfl, ⟨_, _, _, _, _, _, hV5, rfl, rfl, rfl, hq 72 (by decide) (by decide), q1, fun v hv => ⟨hq _ (by omega) (by omega), q1⟩, by rw [va_up_ne _ _ (by decide), va_up_self], va_up_self _ _ _, fun _ => ⟨show (-1 : Int) ≤ 0 by decide, show (0 : Int) ≤ 1 by decide⟩, fun _ => ⟨show (0 : Int) ≤ 0 by decide, show (0 : Int) ≤ 127 by decide⟩, fun _ => ⟨show (0 : Int) ≤ 0 by decide, show (0 : Int) ≤ 120 by decide⟩⟩, fun j hj => ?_⟩
  rw [f5 j hj, f4 j hj, f3 j hj, f2 j hj, f1 j hj, va_up_ne _ _ (by omega), va_up_ne _ _ (by omega), va_up_ne _ _ (by omega), va_up_ne _ _ (by omega), va_up_ne _ _ (by omega), va_up_ne _ _ (by omega), va_up_ne _ _ (by omega), va_up_ne _ _ (by omega), va_up_ne _ _ (by omega), va_up_ne _ _ (by omega), va_up_ne _ _ (by omega), va_up_ne _ _ (by omega), va_up_ne _ _ (by omega), va_up_ne _ _ (by omega), va_up_ne _ _ (by omega)]
end InitM
