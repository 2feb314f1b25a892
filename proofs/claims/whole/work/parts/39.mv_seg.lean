set_option maxRecDepth 4000 in
theorem sv_isWhole {φ : go_F} {l : Launch} {h : mv_H} {n : Nat} {o : Nat} {I tx S ps cs bs : Nat → Int} {V : Nat → Nat} {v : Nat} (hV : mo_V h o (I, tx, S, ps, cs, bs) V) (hv : v < 75)
    (k0 : Go φ l m_mo_isWhole (go_rm rd_mo_isWhole rw_mo_isWhole 0 0) (0, 0) 9 [some (mv_R o), some (mv_I (v : Int))] [mv_I (if V ((2 * v) + 1) = 1 then 1 else 0)] h n) :
    Go φ l m_mo_isWhole (go_rm rd_mo_isWhole rw_mo_isWhole 0 0) (0, 0) 0 [some (mv_R o), some (mv_I (v : Int))] [] h n := by
  refine go_aload_n (q := 1) d_mo_isWhole_0 rfl rfl rfl ?_
  refine go_iconst (q := 2) d_mo_isWhole_1 rfl ?_
  refine go_iload_n (q := 3) d_mo_isWhole_2 rfl rfl rfl ?_
  refine go_imul (q := 4) d_mo_isWhole_3 rfl ?_
  refine go_iconst (q := 5) d_mo_isWhole_4 rfl ?_
  refine go_iadd (q := 6) d_mo_isWhole_5 rfl ?_
  refine cl_isOne (r := (2 * v) + 1) (q := 9) rfl d_mo_isWhole_6 rfl hV (by omega) (by decide) ⟨by decide, by decide, by decide, by decide⟩ ?_
  rw [(show V ((2 * v) + 1) = V ((2 * v) + 1) from rfl)]
  exact k0 

set_option maxRecDepth 4000 in
theorem sv_copyValue {φ : go_F} {l : Launch} {h : mv_H} {n : Nat} {o : Nat} {I tx S ps cs bs : Nat → Int} {V : Nat → Nat} {a b : Nat} (hV : mo_V h o (I, tx, S, ps, cs, bs) V) (ha : a < 75) (hb : b < 75)
    (k0 : ∀ h' : mv_H, mo_V h' o (I, tx, va_up S b (S a), ps, cs, bs) (va_up (va_up V (2 * b) (V (2 * a))) ((2 * b) + 1) (V ((2 * a) + 1))) → fr_ o 8 h h' → Go φ l m_mo_copyValue (go_rm rd_mo_copyValue rw_mo_copyValue 0 0) (0, 0) 36 [some (mv_R o), some (mv_I (a : Int)), some (mv_I (b : Int))] [] h' n) :
    Go φ l m_mo_copyValue (go_rm rd_mo_copyValue rw_mo_copyValue 0 0) (0, 0) 0 [some (mv_R o), some (mv_I (a : Int)), some (mv_I (b : Int))] [] h n := by
  refine go_aload_n (q := 1) d_mo_copyValue_0 rfl rfl rfl ?_
  refine go_iconst (q := 2) d_mo_copyValue_1 rfl ?_
  refine go_iload_n (q := 3) d_mo_copyValue_2 rfl rfl rfl ?_
  refine go_imul (q := 4) d_mo_copyValue_3 rfl ?_
  refine go_iconst (q := 5) d_mo_copyValue_4 rfl ?_
  refine go_iload_n (q := 6) d_mo_copyValue_5 rfl rfl rfl ?_
  refine go_imul (q := 7) d_mo_copyValue_6 rfl ?_
  refine cl_copy (a := 2 * a) (b := 2 * b) (q := 10) rfl d_mo_copyValue_7 rfl hV (by omega) (by omega) (by decide) ⟨by decide, by decide, by decide, by decide⟩ (fun h_1 hV_2 fr_3 => ?_)
  have hV_4 : mo_V h_1 o (I, tx, S, ps, cs, bs) (va_up V (2 * b) (V (2 * a))) := by
    have e_ : (V) (2 * a) = V (2 * a) := by rw [(show V (2 * a) = V (2 * a) from rfl)]
    rw [← e_]
    exact hV_2
  refine go_aload_n (q := 11) d_mo_copyValue_10 rfl rfl rfl ?_
  refine go_iconst (q := 12) d_mo_copyValue_11 rfl ?_
  refine go_iload_n (q := 13) d_mo_copyValue_12 rfl rfl rfl ?_
  refine go_imul (q := 14) d_mo_copyValue_13 rfl ?_
  refine go_iconst (q := 15) d_mo_copyValue_14 rfl ?_
  refine go_iadd (q := 16) d_mo_copyValue_15 rfl ?_
  refine go_iconst (q := 17) d_mo_copyValue_16 rfl ?_
  refine go_iload_n (q := 18) d_mo_copyValue_17 rfl rfl rfl ?_
  refine go_imul (q := 19) d_mo_copyValue_18 rfl ?_
  refine go_iconst (q := 20) d_mo_copyValue_19 rfl ?_
  refine go_iadd (q := 21) d_mo_copyValue_20 rfl ?_
  refine cl_copy (a := (2 * a) + 1) (b := (2 * b) + 1) (q := 24) rfl d_mo_copyValue_21 rfl hV_4 (by omega) (by omega) (by decide) ⟨by decide, by decide, by decide, by decide⟩ (fun h_5 hV_6 fr_7 => ?_)
  have hV_8 : mo_V h_5 o (I, tx, S, ps, cs, bs) (va_up (va_up V (2 * b) (V (2 * a))) ((2 * b) + 1) (V ((2 * a) + 1))) := by
    have e_ : (va_up V (2 * b) (V (2 * a))) ((2 * a) + 1) = V ((2 * a) + 1) := by rw [(show (va_up V (2 * b) (V (2 * a))) ((2 * a) + 1) = V ((2 * a) + 1) from ((va_up_ne _ _ (by omega)).trans rfl))]
    rw [← e_]
    exact hV_6
  refine go_aload_n (q := 25) d_mo_copyValue_24 rfl rfl rfl ?_
  refine go_getf (q := 28) f_mo_23 d_mo_copyValue_25 rfl (mv_c0 hV_8) rfl ?_
  refine go_iload_n (q := 29) d_mo_copyValue_28 rfl rfl rfl ?_
  refine go_aload_n (q := 30) d_mo_copyValue_29 rfl rfl rfl ?_
  refine go_getf (q := 33) f_mo_23 d_mo_copyValue_30 rfl (mv_c0 hV_8) rfl ?_
  refine go_iload_n (q := 34) d_mo_copyValue_33 rfl rfl rfl ?_
  refine go_iald (i := a) (q := 35) d_mo_copyValue_34 rfl (mv_c4 hV_8) (by omega) (by omega) (by omega) ?_
  refine go_iast (i := b) (q := 36) d_mo_copyValue_35 rfl (mv_c4 hV_8) (by omega) (by omega) (by omega) ?_
  have hV_10 := mv_u4 hV_8 (va_up S b (S a))
  have fr_11 : fr_ o 8 h_5 (va_up h_5 (o + 4) (mv_A 0 75 (va_up S b (S a)))) := fun z_ hz => va_up_ne _ _ (by omega)
  generalize va_up h_5 (o + 4) (mv_A 0 75 (va_up S b (S a))) = h_9 at hV_10 fr_11 ⊢
  exact k0  _ hV_10 (fr_.tr (fr_.tr fr_3 fr_7) fr_11)

set_option maxRecDepth 4000 in
theorem sv_setValue {φ : go_F} {l : Launch} {h : mv_H} {n : Nat} {o : Nat} {I tx S ps cs bs : Nat → Int} {V : Nat → Nat} {a v : Nat} (hV : mo_V h o (I, tx, S, ps, cs, bs) V) (ha : a < 75) (hv : v ≤ 9999)
    (k0 : (v : Int) ≤ 0 → ∀ h' : mv_H, mo_V h' o (I, tx, va_up S a 0, ps, cs, bs) (va_up (va_up V (2 * a) v) ((2 * a) + 1) 1) → fr_ o 8 h h' → Go φ l m_mo_setValue (go_rm rd_mo_setValue rw_mo_setValue 0 0) (0, 0) 33 [some (mv_R o), some (mv_I (a : Int)), some (mv_I (v : Int))] [] h' n)
    (k1 : ¬ (v : Int) ≤ 0 → ∀ h' : mv_H, mo_V h' o (I, tx, va_up S a 1, ps, cs, bs) (va_up (va_up V (2 * a) v) ((2 * a) + 1) 1) → fr_ o 8 h h' → Go φ l m_mo_setValue (go_rm rd_mo_setValue rw_mo_setValue 0 0) (0, 0) 33 [some (mv_R o), some (mv_I (a : Int)), some (mv_I (v : Int))] [] h' n) :
    Go φ l m_mo_setValue (go_rm rd_mo_setValue rw_mo_setValue 0 0) (0, 0) 0 [some (mv_R o), some (mv_I (a : Int)), some (mv_I (v : Int))] [] h n := by
  refine go_aload_n (q := 1) d_mo_setValue_0 rfl rfl rfl ?_
  refine go_iconst (q := 2) d_mo_setValue_1 rfl ?_
  refine go_iload_n (q := 3) d_mo_setValue_2 rfl rfl rfl ?_
  refine go_imul (q := 4) d_mo_setValue_3 rfl ?_
  refine go_iload_n (q := 5) d_mo_setValue_4 rfl rfl rfl ?_
  refine cl_set (r := 2 * a) (v := v) (q := 8) rfl d_mo_setValue_5 rfl hV (by omega) (by omega) (by decide) ⟨by decide, by decide, by decide, by decide⟩ (fun h_1 hV_2 fr_3 => ?_)
  have hV_4 : mo_V h_1 o (I, tx, S, ps, cs, bs) (va_up V (2 * a) v) := hV_2
  refine go_aload_n (q := 9) d_mo_setValue_8 rfl rfl rfl ?_
  refine go_iconst (q := 10) d_mo_setValue_9 rfl ?_
  refine go_iload_n (q := 11) d_mo_setValue_10 rfl rfl rfl ?_
  refine go_imul (q := 12) d_mo_setValue_11 rfl ?_
  refine go_iconst (q := 13) d_mo_setValue_12 rfl ?_
  refine go_iadd (q := 14) d_mo_setValue_13 rfl ?_
  refine go_iconst (q := 15) d_mo_setValue_14 rfl ?_
  refine cl_set (r := (2 * a) + 1) (v := 1) (q := 18) rfl d_mo_setValue_15 rfl hV_4 (by omega) (by omega) (by decide) ⟨by decide, by decide, by decide, by decide⟩ (fun h_5 hV_6 fr_7 => ?_)
  have hV_8 : mo_V h_5 o (I, tx, S, ps, cs, bs) (va_up (va_up V (2 * a) v) ((2 * a) + 1) 1) := hV_6
  refine go_aload_n (q := 19) d_mo_setValue_18 rfl rfl rfl ?_
  refine go_getf (q := 22) f_mo_23 d_mo_setValue_19 rfl (mv_c0 hV_8) rfl ?_
  refine go_iload_n (q := 23) d_mo_setValue_22 rfl rfl rfl ?_
  refine go_iload_n (q := 24) d_mo_setValue_23 rfl rfl rfl ?_
  refine go_if_le (t := 31) (q := 27) d_mo_setValue_24 (by decide) rfl (by omega) (fun c9 => ?_) (fun c9 => ?_)
  ·
    refine go_iconst (q := 32) d_mo_setValue_31 rfl ?_
    refine go_iast (i := a) (q := 33) d_mo_setValue_32 rfl (mv_c4 hV_8) (by omega) (by omega) (by omega) ?_
    have hV_11 := mv_u4 hV_8 (va_up S a 0)
    have fr_12 : fr_ o 8 h_5 (va_up h_5 (o + 4) (mv_A 0 75 (va_up S a 0))) := fun z_ hz => va_up_ne _ _ (by omega)
    generalize va_up h_5 (o + 4) (mv_A 0 75 (va_up S a 0)) = h_10 at hV_11 fr_12 ⊢
    exact k0 c9 _ hV_11 (fr_.tr (fr_.tr fr_3 fr_7) fr_12)
  ·
    refine go_iconst (q := 28) d_mo_setValue_27 rfl ?_
    refine go_goto (q := 32) d_mo_setValue_28 (by decide) ?_
    refine go_iast (i := a) (q := 33) d_mo_setValue_32 rfl (mv_c4 hV_8) (by omega) (by omega) (by omega) ?_
    have hV_14 := mv_u4 hV_8 (va_up S a 1)
    have fr_15 : fr_ o 8 h_5 (va_up h_5 (o + 4) (mv_A 0 75 (va_up S a 1))) := fun z_ hz => va_up_ne _ _ (by omega)
    generalize va_up h_5 (o + 4) (mv_A 0 75 (va_up S a 1)) = h_13 at hV_14 fr_15 ⊢
    exact k1 c9 _ hV_14 (fr_.tr (fr_.tr fr_3 fr_7) fr_15)

set_option maxRecDepth 4000 in
theorem sv_divide_0 {φ : go_F} {l : Launch} {h : mv_H} {n : Nat} {o : Nat} {I tx S ps cs bs : Nat → Int} {V : Nat → Nat} {a b q e : Nat} (hV : mo_V h o (I, tx, S, ps, cs, bs) V) (hr : a < 157 ∧ b < 157 ∧ q < 157 ∧ e < 157 ∧ q ≠ e ∧ a ≠ q ∧ a ≠ e ∧ b ≠ q ∧ b ≠ e)
    (k0 : ∀ h' : mv_H, mo_V h' o (I, tx, S, ps, cs, bs) (va_up (va_up V q 0) e 0) → fr_ o 8 h h' → Go φ l m_mo_divide (go_rm rd_mo_divide rw_mo_divide 0 0) (0, 0) 13 [some (mv_R o), some (mv_I (a : Int)), some (mv_I (b : Int)), some (mv_I (q : Int)), some (mv_I (e : Int)), none, none, none, none] [] h' n) :
    Go φ l m_mo_divide (go_rm rd_mo_divide rw_mo_divide 0 0) (0, 0) 0 [some (mv_R o), some (mv_I (a : Int)), some (mv_I (b : Int)), some (mv_I (q : Int)), some (mv_I (e : Int)), none, none, none, none] [] h n := by
  refine go_aload_n (q := 1) d_mo_divide_0 rfl rfl rfl ?_
  refine go_iload_n (q := 2) d_mo_divide_1 rfl rfl rfl ?_
  refine go_iconst (q := 3) d_mo_divide_2 rfl ?_
  refine cl_set (r := q) (v := 0) (q := 6) rfl d_mo_divide_3 rfl hV (by omega) (by omega) (by decide) ⟨by decide, by decide, by decide, by decide⟩ (fun h_1 hV_2 fr_3 => ?_)
  have hV_4 : mo_V h_1 o (I, tx, S, ps, cs, bs) (va_up V q 0) := hV_2
  refine go_aload_n (q := 7) d_mo_divide_6 rfl rfl rfl ?_
  refine go_iload (q := 9) d_mo_divide_7 rfl rfl ?_
  refine go_iconst (q := 10) d_mo_divide_9 rfl ?_
  refine cl_set (r := e) (v := 0) (q := 13) rfl d_mo_divide_10 rfl hV_4 (by omega) (by omega) (by decide) ⟨by decide, by decide, by decide, by decide⟩ (fun h_5 hV_6 fr_7 => ?_)
  have hV_8 : mo_V h_5 o (I, tx, S, ps, cs, bs) (va_up (va_up V q 0) e 0) := hV_6
  exact k0  _ hV_8 (fr_.tr fr_3 fr_7)

set_option maxRecDepth 4000 in
theorem sv_divide_46 {φ : go_F} {l : Launch} {h : mv_H} {n : Nat} {o : Nat} {I tx S ps cs bs : Nat → Int} {V : Nat → Nat} {a b q e : Nat} {k : Int} (hV : mo_V h o (I, tx, S, ps, cs, bs) V) 
    (k0 : Go φ l m_mo_divide (go_rm rd_mo_divide rw_mo_divide 0 0) (0, 0) 54 [some (mv_R o), some (mv_I (a : Int)), some (mv_I (b : Int)), some (mv_I (q : Int)), some (mv_I (e : Int)), some (mv_I k), some (mv_I 0), some (mv_I 9999), none] [] h n) :
    Go φ l m_mo_divide (go_rm rd_mo_divide rw_mo_divide 0 0) (0, 0) 46 [some (mv_R o), some (mv_I (a : Int)), some (mv_I (b : Int)), some (mv_I (q : Int)), some (mv_I (e : Int)), some (mv_I k), none, none, none] [] h n := by
  refine go_iconst (q := 47) d_mo_divide_46 rfl ?_
  refine go_istore (q := 49) (L' := [some (mv_R o), some (mv_I (a : Int)), some (mv_I (b : Int)), some (mv_I (q : Int)), some (mv_I (e : Int)), some (mv_I k), some (mv_I 0), none, none]) d_mo_divide_47 rfl (by decide) rfl ?_
  refine go_sipush (q := 52) d_mo_divide_49 rfl (by decide) ?_
  refine go_istore (q := 54) (L' := [some (mv_R o), some (mv_I (a : Int)), some (mv_I (b : Int)), some (mv_I (q : Int)), some (mv_I (e : Int)), some (mv_I k), some (mv_I 0), some (mv_I 9999), none]) d_mo_divide_52 rfl (by decide) rfl ?_
  exact k0 

set_option maxRecDepth 4000 in
theorem sv_divide_54 {φ : go_F} {l : Launch} {h : mv_H} {n : Nat} {o : Nat} {I tx S ps cs bs : Nat → Int} {V : Nat → Nat} {a b q e x y : Nat} {k : Int} (hV : mo_V h o (I, tx, S, ps, cs, bs) V) (hr : a < 157 ∧ b < 157 ∧ q < 157 ∧ e < 157 ∧ q ≠ e ∧ a ≠ q ∧ a ≠ e ∧ b ≠ q ∧ b ≠ e) (hx : x ≤ y ∧ y ≤ 9999) (hs : V b * ((x + y + 1) / 2) < 10000 ^ 40)
    (k0 : (y : Int) ≤ (x : Int) → Go φ l m_mo_divide (go_rm rd_mo_divide rw_mo_divide 0 0) (0, 0) 110 [some (mv_R o), some (mv_I (a : Int)), some (mv_I (b : Int)), some (mv_I (q : Int)), some (mv_I (e : Int)), some (mv_I k), some (mv_I (x : Int)), some (mv_I (y : Int)), none] [] h n)
    (k1 : ¬ (y : Int) ≤ (x : Int) → V e < (V b) * (((x + y) + 1) / 2) → ∀ h' : mv_H, mo_V h' o (I, tx, S, ps, cs, bs) (va_up V 157 ((V b) * (((x + y) + 1) / 2))) → fr_ o 8 h h' → Go φ l m_mo_divide (go_rm rd_mo_divide rw_mo_divide 0 0) (0, 0) 54 [some (mv_R o), some (mv_I (a : Int)), some (mv_I (b : Int)), some (mv_I (q : Int)), some (mv_I (e : Int)), some (mv_I k), some (mv_I (x : Int)), some (mv_I (((((x : Int) + (y : Int)) + 1) / 2) - 1)), none] [] h' n)
    (k2 : ¬ (y : Int) ≤ (x : Int) → (V b) * (((x + y) + 1) / 2) ≤ V e → ∀ h' : mv_H, mo_V h' o (I, tx, S, ps, cs, bs) (va_up V 157 ((V b) * (((x + y) + 1) / 2))) → fr_ o 8 h h' → Go φ l m_mo_divide (go_rm rd_mo_divide rw_mo_divide 0 0) (0, 0) 54 [some (mv_R o), some (mv_I (a : Int)), some (mv_I (b : Int)), some (mv_I (q : Int)), some (mv_I (e : Int)), some (mv_I k), some (mv_I ((((x : Int) + (y : Int)) + 1) / 2)), some (mv_I (y : Int)), none] [] h' n) :
    Go φ l m_mo_divide (go_rm rd_mo_divide rw_mo_divide 0 0) (0, 0) 54 [some (mv_R o), some (mv_I (a : Int)), some (mv_I (b : Int)), some (mv_I (q : Int)), some (mv_I (e : Int)), some (mv_I k), some (mv_I (x : Int)), some (mv_I (y : Int)), none] [] h n := by
  refine go_iload (q := 56) d_mo_divide_54 rfl rfl ?_
  refine go_iload (q := 58) d_mo_divide_56 rfl rfl ?_
  refine go_icmp_ge (t := 110) (q := 61) d_mo_divide_58 (by decide) rfl (by omega) (by omega) (fun c1 => ?_) (fun c1 => ?_)
  ·
    exact k0 c1
  ·
    refine go_iload (q := 63) d_mo_divide_61 rfl rfl ?_
    refine go_iload (q := 65) d_mo_divide_63 rfl rfl ?_
    refine go_iadd (q := 66) d_mo_divide_65 rfl ?_
    refine go_iconst (q := 67) d_mo_divide_66 rfl ?_
    refine go_iadd (q := 68) d_mo_divide_67 rfl ?_
    refine go_iconst (q := 69) d_mo_divide_68 rfl ?_
    refine go_idiv (z := (((x : Int) + (y : Int)) + 1) / 2) (q := 70) d_mo_divide_69 rfl (gn_ne0 (by omega)) (gn_div (by omega) (by omega)) ?_
    refine go_istore (q := 72) (L' := [some (mv_R o), some (mv_I (a : Int)), some (mv_I (b : Int)), some (mv_I (q : Int)), some (mv_I (e : Int)), some (mv_I k), some (mv_I (x : Int)), some (mv_I (y : Int)), some (mv_I ((((x : Int) + (y : Int)) + 1) / 2))]) d_mo_divide_70 rfl (by decide) rfl ?_
    refine go_aload_n (q := 73) d_mo_divide_72 rfl rfl rfl ?_
    refine go_iload_n (q := 74) d_mo_divide_73 rfl rfl rfl ?_
    refine go_iload (q := 76) d_mo_divide_74 rfl rfl ?_
    refine go_sipush (q := 79) d_mo_divide_76 rfl (by decide) ?_
    refine cl_times (b := b) (y := ((x + y) + 1) / 2) (t := 157) (q := 82) rfl d_mo_divide_79 rfl hV (by omega) (by omega) (by omega) (by omega) (by rw [(show V b = V b from rfl)]; first | assumption | omega) (by decide) ⟨by decide, by decide, by decide, by decide⟩ (fun h_2 hV_3 fr_4 => ?_)
    have hV_5 : mo_V h_2 o (I, tx, S, ps, cs, bs) (va_up V 157 ((V b) * (((x + y) + 1) / 2))) := by
      have e_ : (V) b * (((x + y) + 1) / 2) = (V b) * (((x + y) + 1) / 2) := by rw [(show V b = V b from rfl)]
      rw [← e_]
      exact hV_3
    refine go_aload_n (q := 83) d_mo_divide_82 rfl rfl rfl ?_
    refine go_sipush (q := 86) d_mo_divide_83 rfl (by decide) ?_
    refine go_iload (q := 88) d_mo_divide_86 rfl rfl ?_
    refine cl_compare (a := 157) (b := e) (q := 91) rfl d_mo_divide_88 rfl hV_5 (by omega) (by omega) (by decide) ⟨by decide, by decide, by decide, by decide⟩ ?_
    rw [(show (va_up V 157 ((V b) * (((x + y) + 1) / 2))) 157 = (V b) * (((x + y) + 1) / 2) from (va_up_self _ _ _)), (show (va_up V 157 ((V b) * (((x + y) + 1) / 2))) e = V e from ((va_up_ne _ _ (by omega)).trans rfl))]
    refine go_if_gt (t := 101) (q := 94) d_mo_divide_91 (by decide) rfl cm_rng (fun c6 => ?_) (fun c6 => ?_)
    · have c7 : V e < (V b) * (((x + y) + 1) / 2) := cm_gtp c6
      refine go_iload (q := 103) d_mo_divide_101 rfl rfl ?_
      refine go_iconst (q := 104) d_mo_divide_103 rfl ?_
      refine go_isub (q := 105) d_mo_divide_104 rfl ?_
      refine go_istore (q := 107) (L' := [some (mv_R o), some (mv_I (a : Int)), some (mv_I (b : Int)), some (mv_I (q : Int)), some (mv_I (e : Int)), some (mv_I k), some (mv_I (x : Int)), some (mv_I (((((x : Int) + (y : Int)) + 1) / 2) - 1)), some (mv_I ((((x : Int) + (y : Int)) + 1) / 2))]) d_mo_divide_105 rfl (by decide) rfl ?_
      refine go_goto (q := 54) d_mo_divide_107 (by decide) ?_
      refine go_fg 8 (L' := [some (mv_R o), some (mv_I (a : Int)), some (mv_I (b : Int)), some (mv_I (q : Int)), some (mv_I (e : Int)), some (mv_I k), some (mv_I (x : Int)), some (mv_I (((((x : Int) + (y : Int)) + 1) / 2) - 1)), none]) rfl ?_
      exact k1 c1 c7 _ hV_5 fr_4
    · have c8 : (V b) * (((x + y) + 1) / 2) ≤ V e := cm_gtn c6
      refine go_iload (q := 96) d_mo_divide_94 rfl rfl ?_
      refine go_istore (q := 98) (L' := [some (mv_R o), some (mv_I (a : Int)), some (mv_I (b : Int)), some (mv_I (q : Int)), some (mv_I (e : Int)), some (mv_I k), some (mv_I ((((x : Int) + (y : Int)) + 1) / 2)), some (mv_I (y : Int)), some (mv_I ((((x : Int) + (y : Int)) + 1) / 2))]) d_mo_divide_96 rfl (by decide) rfl ?_
      refine go_goto (q := 107) d_mo_divide_98 (by decide) ?_
      refine go_goto (q := 54) d_mo_divide_107 (by decide) ?_
      refine go_fg 8 (L' := [some (mv_R o), some (mv_I (a : Int)), some (mv_I (b : Int)), some (mv_I (q : Int)), some (mv_I (e : Int)), some (mv_I k), some (mv_I ((((x : Int) + (y : Int)) + 1) / 2)), some (mv_I (y : Int)), none]) rfl ?_
      exact k2 c1 c8 _ hV_5 fr_4

set_option maxRecDepth 4000 in
theorem sv_divide_110 {φ : go_F} {l : Launch} {h : mv_H} {n : Nat} {o : Nat} {I tx S ps cs bs : Nat → Int} {V : Nat → Nat} {a b q e x : Nat} {k y : Int} (hV : mo_V h o (I, tx, S, ps, cs, bs) V) (hr : a < 157 ∧ b < 157 ∧ q < 157 ∧ e < 157 ∧ q ≠ e ∧ a ≠ q ∧ a ≠ e ∧ b ≠ q ∧ b ≠ e) (hx : x ≤ 9999) (hk : 0 ≤ k ∧ k < 40) (hs : V b * x < 10000 ^ 40) (ht : V b * x ≤ V e) (hu : V q < 10000 ^ 39)
    (k0 : ∀ h' : mv_H, mo_V h' o (I, tx, S, ps, cs, bs) (va_up (va_up (va_up V 157 ((V b) * x)) e ((V e) - ((V b) * x))) q (x + 10000 * (V q))) → fr_ o 8 h h' → Go φ l m_mo_divide (go_rm rd_mo_divide rw_mo_divide 0 0) (0, 0) 23 [some (mv_R o), some (mv_I (a : Int)), some (mv_I (b : Int)), some (mv_I (q : Int)), some (mv_I (e : Int)), some (mv_I (k + (-1))), none, none, none] [] h' n) :
    Go φ l m_mo_divide (go_rm rd_mo_divide rw_mo_divide 0 0) (0, 0) 110 [some (mv_R o), some (mv_I (a : Int)), some (mv_I (b : Int)), some (mv_I (q : Int)), some (mv_I (e : Int)), some (mv_I k), some (mv_I (x : Int)), some (mv_I y), none] [] h n := by
  refine go_aload_n (q := 111) d_mo_divide_110 rfl rfl rfl ?_
  refine go_iload_n (q := 112) d_mo_divide_111 rfl rfl rfl ?_
  refine go_iload (q := 114) d_mo_divide_112 rfl rfl ?_
  refine go_sipush (q := 117) d_mo_divide_114 rfl (by decide) ?_
  refine cl_times (b := b) (y := x) (t := 157) (q := 120) rfl d_mo_divide_117 rfl hV (by omega) (by omega) (by omega) (by omega) (by rw [(show V b = V b from rfl)]; first | assumption | omega) (by decide) ⟨by decide, by decide, by decide, by decide⟩ (fun h_1 hV_2 fr_3 => ?_)
  have hV_4 : mo_V h_1 o (I, tx, S, ps, cs, bs) (va_up V 157 ((V b) * x)) := by
    have e_ : (V) b * x = (V b) * x := by rw [(show V b = V b from rfl)]
    rw [← e_]
    exact hV_2
  refine go_aload_n (q := 121) d_mo_divide_120 rfl rfl rfl ?_
  refine go_iload (q := 123) d_mo_divide_121 rfl rfl ?_
  refine go_sipush (q := 126) d_mo_divide_123 rfl (by decide) ?_
  refine cl_takeOff (a := e) (b := 157) (q := 129) rfl d_mo_divide_126 rfl hV_4 (by omega) (by omega) (by rw [(show (va_up V 157 ((V b) * x)) e = V e from ((va_up_ne _ _ (by omega)).trans rfl)), (show (va_up V 157 ((V b) * x)) 157 = (V b) * x from (va_up_self _ _ _))]; omega) (by decide) ⟨by decide, by decide, by decide, by decide⟩ (fun h_5 hV_6 fr_7 => ?_)
  have hV_8 : mo_V h_5 o (I, tx, S, ps, cs, bs) (va_up (va_up V 157 ((V b) * x)) e ((V e) - ((V b) * x))) := by
    have e_ : (va_up V 157 ((V b) * x)) e - (va_up V 157 ((V b) * x)) 157 = (V e) - ((V b) * x) := by rw [(show (va_up V 157 ((V b) * x)) e = V e from ((va_up_ne _ _ (by omega)).trans rfl)), (show (va_up V 157 ((V b) * x)) 157 = (V b) * x from (va_up_self _ _ _))]
    rw [← e_]
    exact hV_6
  refine go_aload_n (q := 130) d_mo_divide_129 rfl rfl rfl ?_
  refine go_iload_n (q := 131) d_mo_divide_130 rfl rfl rfl ?_
  refine go_iload (q := 133) d_mo_divide_131 rfl rfl ?_
  refine cl_shift (r := q) (v := x) (q := 136) rfl d_mo_divide_133 rfl hV_8 (by omega) (by omega) (by rw [(show (va_up (va_up V 157 ((V b) * x)) e ((V e) - ((V b) * x))) q = V q from ((va_up_ne _ _ (by omega)).trans ((va_up_ne _ _ (by omega)).trans rfl)))]; first | assumption | omega) (by decide) ⟨by decide, by decide, by decide, by decide⟩ (fun h_9 hV_10 fr_11 => ?_)
  have hV_12 : mo_V h_9 o (I, tx, S, ps, cs, bs) (va_up (va_up (va_up V 157 ((V b) * x)) e ((V e) - ((V b) * x))) q (x + 10000 * (V q))) := by
    have e_ : x + 10000 * (va_up (va_up V 157 ((V b) * x)) e ((V e) - ((V b) * x))) q = x + 10000 * (V q) := by rw [(show (va_up (va_up V 157 ((V b) * x)) e ((V e) - ((V b) * x))) q = V q from ((va_up_ne _ _ (by omega)).trans ((va_up_ne _ _ (by omega)).trans rfl)))]
    rw [← e_]
    exact hV_10
  refine go_iinc (q := 139) (L' := [some (mv_R o), some (mv_I (a : Int)), some (mv_I (b : Int)), some (mv_I (q : Int)), some (mv_I (e : Int)), some (mv_I (k + (-1))), some (mv_I (x : Int)), some (mv_I y), none]) d_mo_divide_136 rfl (by decide) rfl rfl ?_
  refine go_goto (q := 23) d_mo_divide_139 (by decide) ?_
  refine go_fg 6 (L' := [some (mv_R o), some (mv_I (a : Int)), some (mv_I (b : Int)), some (mv_I (q : Int)), some (mv_I (e : Int)), some (mv_I (k + (-1))), none, some (mv_I y), none]) rfl ?_
  refine go_fg 7 (L' := [some (mv_R o), some (mv_I (a : Int)), some (mv_I (b : Int)), some (mv_I (q : Int)), some (mv_I (e : Int)), some (mv_I (k + (-1))), none, none, none]) rfl ?_
  exact k0  _ hV_12 (fr_.tr (fr_.tr fr_3 fr_7) fr_11)

