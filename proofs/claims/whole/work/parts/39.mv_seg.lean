set_option maxRecDepth 4000 in
theorem sv_isWhole {φ : go_F} {l : Launch} {h : mv_H} {n : Nat} {o : Nat} {I tx S ps cs bs : Nat → Int} {V : Nat → Nat} {v : Nat} (hV : mo_V h o (I, tx, S, ps, cs, bs) V) (hv : v < 75)
    (k0 : Go φ l m_mo_isWhole (go_rm rd_mo_isWhole rw_mo_isWhole 0 0) (0, 0) 9 [some (mv_R o), some (mv_I (v : Int))] [mv_I (if V ((2 * v) + 1) = 1 then 1 else 0)] h n) :
    Go φ l m_mo_isWhole (go_rm rd_mo_isWhole rw_mo_isWhole 0 0) (0, 0) 0 [some (mv_R o), some (mv_I (v : Int))] [] h n := by
  refine go_aload_n (q := 1) d_mo_isWhole_0 rfl rfl rfl ?_
  refine go_iconst (q := 2) d_mo_isWhole_1 rfl ?_
  refine go_iload_n (q := 3) d_mo_isWhole_2 rfl rfl rfl ?_
  refine go_imul (q := 4) d_mo_isWhole_3 rfl ?_
  refine go_iconst (q := 5) d_mo_isWhole_4 rfl ?_
  refine go_iadd (q := 6) d_mo_isWhole_5 rfl ?_
  refine cl_isOne (r := (2 * v) + 1) (q := 9) rfl d_mo_isWhole_6 rfl hV (by omega) (Nat.le_of_ble_eq_true rfl) ⟨by decide, by decide, by decide, by decide⟩ ?_
  rw [(show V ((2 * v) + 1) = V ((2 * v) + 1) from rfl)]
  exact k0 

set_option maxRecDepth 4000 in
theorem sv_copyValue {φ : go_F} {l : Launch} {h : mv_H} {n : Nat} {o : Nat} {I tx S ps cs bs : Nat → Int} {V : Nat → Nat} {a b : Nat} (hV : mo_V h o (I, tx, S, ps, cs, bs) V) (ha : a < 75) (hb : b < 75)
    (k0 : ∀ h' : mv_H, mo_V h' o (I, tx, va_up S b (S a), ps, cs, bs) (va_up (va_up V (2 * b) (V (2 * a))) ((2 * b) + 1) (V ((2 * a) + 1))) → fr_ o 8 h h' → Go φ l m_mo_copyValue (go_rm rd_mo_copyValue rw_mo_copyValue 0 0) (0, 0) 36 [some (mv_R o), some (mv_I (a : Int)), some (mv_I (b : Int))] [] h' n) :
    Go φ l m_mo_copyValue (go_rm rd_mo_copyValue rw_mo_copyValue 0 0) (0, 0) 0 [some (mv_R o), some (mv_I (a : Int)), some (mv_I (b : Int))] [] h n := by
  refine go_aload_n (q := 1) d_mo_copyValue_0 rfl rfl rfl ?_
  refine go_iconst (q := 2) d_mo_copyValue_1 rfl ?_
  refine go_iload_n (q := 3) d_mo_copyValue_2 rfl rfl rfl ?_
  refine go_imul (q := 4) d_mo_copyValue_3 rfl ?_
  refine go_iconst (q := 5) d_mo_copyValue_4 rfl ?_
  refine go_iload_n (q := 6) d_mo_copyValue_5 rfl rfl rfl ?_
  refine go_imul (q := 7) d_mo_copyValue_6 rfl ?_
  refine cl_copy (a := 2 * a) (b := 2 * b) (q := 10) rfl d_mo_copyValue_7 rfl hV (by omega) (by omega) (Nat.le_of_ble_eq_true rfl) ⟨by decide, by decide, by decide, by decide⟩ (fun h_1 hV_2 fr_3 => ?_)
  have hV_4 : mo_V h_1 o (I, tx, S, ps, cs, bs) (va_up V (2 * b) (V (2 * a))) := by
    have e_ : (V) (2 * a) = V (2 * a) := by rw [(show V (2 * a) = V (2 * a) from rfl)]
    rw [← e_]
    exact hV_2
  refine go_aload_n (q := 11) d_mo_copyValue_10 rfl rfl rfl ?_
  refine go_iconst (q := 12) d_mo_copyValue_11 rfl ?_
  refine go_iload_n (q := 13) d_mo_copyValue_12 rfl rfl rfl ?_
  refine go_imul (q := 14) d_mo_copyValue_13 rfl ?_
  refine go_iconst (q := 15) d_mo_copyValue_14 rfl ?_
  refine go_iadd (q := 16) d_mo_copyValue_15 rfl ?_
  refine go_iconst (q := 17) d_mo_copyValue_16 rfl ?_
  refine go_iload_n (q := 18) d_mo_copyValue_17 rfl rfl rfl ?_
  refine go_imul (q := 19) d_mo_copyValue_18 rfl ?_
  refine go_iconst (q := 20) d_mo_copyValue_19 rfl ?_
  refine go_iadd (q := 21) d_mo_copyValue_20 rfl ?_
  refine cl_copy (a := (2 * a) + 1) (b := (2 * b) + 1) (q := 24) rfl d_mo_copyValue_21 rfl hV_4 (by omega) (by omega) (Nat.le_of_ble_eq_true rfl) ⟨by decide, by decide, by decide, by decide⟩ (fun h_5 hV_6 fr_7 => ?_)
  have hV_8 : mo_V h_5 o (I, tx, S, ps, cs, bs) (va_up (va_up V (2 * b) (V (2 * a))) ((2 * b) + 1) (V ((2 * a) + 1))) := by
    have e_ : (va_up V (2 * b) (V (2 * a))) ((2 * a) + 1) = V ((2 * a) + 1) := by rw [(show (va_up V (2 * b) (V (2 * a))) ((2 * a) + 1) = V ((2 * a) + 1) from ((va_up_ne _ _ (by omega)).trans rfl))]
    rw [← e_]
    exact hV_6
  refine go_aload_n (q := 25) d_mo_copyValue_24 rfl rfl rfl ?_
  refine go_getf (q := 28) f_mo_23 d_mo_copyValue_25 rfl (mv_c0 hV_8) rfl ?_
  refine go_iload_n (q := 29) d_mo_copyValue_28 rfl rfl rfl ?_
  refine go_aload_n (q := 30) d_mo_copyValue_29 rfl rfl rfl ?_
  refine go_getf (q := 33) f_mo_23 d_mo_copyValue_30 rfl (mv_c0 hV_8) rfl ?_
  refine go_iload_n (q := 34) d_mo_copyValue_33 rfl rfl rfl ?_
  refine go_iald (i := a) (q := 35) d_mo_copyValue_34 rfl (mv_c4 hV_8) (by omega) (by omega) (by omega) ?_
  refine go_iast (i := b) (q := 36) d_mo_copyValue_35 rfl (mv_c4 hV_8) (by omega) (by omega) (by omega) ?_
  have hV_10 := mv_u4 hV_8 (va_up S b (S a))
  have fr_11 : fr_ o 8 h_5 (va_up h_5 (o + 4) (mv_A 0 75 (va_up S b (S a)))) := fun z_ hz => va_up_ne _ _ (by omega)
  generalize va_up h_5 (o + 4) (mv_A 0 75 (va_up S b (S a))) = h_9 at hV_10 fr_11 ⊢
  exact k0  _ hV_10 (fr_.tr (fr_.tr fr_3 fr_7) fr_11)

set_option maxRecDepth 4000 in
theorem sv_setValue {φ : go_F} {l : Launch} {h : mv_H} {n : Nat} {o : Nat} {I tx S ps cs bs : Nat → Int} {V : Nat → Nat} {a v : Nat} (hV : mo_V h o (I, tx, S, ps, cs, bs) V) (ha : a < 75) (hv : v ≤ 9999)
    (k0 : (v : Int) ≤ 0 → ∀ h' : mv_H, mo_V h' o (I, tx, va_up S a 0, ps, cs, bs) (va_up (va_up V (2 * a) v) ((2 * a) + 1) 1) → fr_ o 8 h h' → Go φ l m_mo_setValue (go_rm rd_mo_setValue rw_mo_setValue 0 0) (0, 0) 33 [some (mv_R o), some (mv_I (a : Int)), some (mv_I (v : Int))] [] h' n)
    (k1 : ¬ (v : Int) ≤ 0 → ∀ h' : mv_H, mo_V h' o (I, tx, va_up S a 1, ps, cs, bs) (va_up (va_up V (2 * a) v) ((2 * a) + 1) 1) → fr_ o 8 h h' → Go φ l m_mo_setValue (go_rm rd_mo_setValue rw_mo_setValue 0 0) (0, 0) 33 [some (mv_R o), some (mv_I (a : Int)), some (mv_I (v : Int))] [] h' n) :
    Go φ l m_mo_setValue (go_rm rd_mo_setValue rw_mo_setValue 0 0) (0, 0) 0 [some (mv_R o), some (mv_I (a : Int)), some (mv_I (v : Int))] [] h n := by
  refine go_aload_n (q := 1) d_mo_setValue_0 rfl rfl rfl ?_
  refine go_iconst (q := 2) d_mo_setValue_1 rfl ?_
  refine go_iload_n (q := 3) d_mo_setValue_2 rfl rfl rfl ?_
  refine go_imul (q := 4) d_mo_setValue_3 rfl ?_
  refine go_iload_n (q := 5) d_mo_setValue_4 rfl rfl rfl ?_
  refine cl_set (r := 2 * a) (v := v) (q := 8) rfl d_mo_setValue_5 rfl hV (by omega) (by omega) (Nat.le_of_ble_eq_true rfl) ⟨by decide, by decide, by decide, by decide⟩ (fun h_1 hV_2 fr_3 => ?_)
  have hV_4 : mo_V h_1 o (I, tx, S, ps, cs, bs) (va_up V (2 * a) v) := hV_2
  refine go_aload_n (q := 9) d_mo_setValue_8 rfl rfl rfl ?_
  refine go_iconst (q := 10) d_mo_setValue_9 rfl ?_
  refine go_iload_n (q := 11) d_mo_setValue_10 rfl rfl rfl ?_
  refine go_imul (q := 12) d_mo_setValue_11 rfl ?_
  refine go_iconst (q := 13) d_mo_setValue_12 rfl ?_
  refine go_iadd (q := 14) d_mo_setValue_13 rfl ?_
  refine go_iconst (q := 15) d_mo_setValue_14 rfl ?_
  refine cl_set (r := (2 * a) + 1) (v := 1) (q := 18) rfl d_mo_setValue_15 rfl hV_4 (by omega) (by omega) (Nat.le_of_ble_eq_true rfl) ⟨by decide, by decide, by decide, by decide⟩ (fun h_5 hV_6 fr_7 => ?_)
  have hV_8 : mo_V h_5 o (I, tx, S, ps, cs, bs) (va_up (va_up V (2 * a) v) ((2 * a) + 1) 1) := hV_6
  refine go_aload_n (q := 19) d_mo_setValue_18 rfl rfl rfl ?_
  refine go_getf (q := 22) f_mo_23 d_mo_setValue_19 rfl (mv_c0 hV_8) rfl ?_
  refine go_iload_n (q := 23) d_mo_setValue_22 rfl rfl rfl ?_
  refine go_iload_n (q := 24) d_mo_setValue_23 rfl rfl rfl ?_
  refine go_if_le (t := 31) (q := 27) d_mo_setValue_24 (by decide) rfl (by omega) (fun c9 => ?_) (fun c9 => ?_)
  ·
    refine go_iconst (q := 32) d_mo_setValue_31 rfl ?_
    refine go_iast (i := a) (q := 33) d_mo_setValue_32 rfl (mv_c4 hV_8) (by omega) (by omega) (by omega) ?_
    have hV_11 := mv_u4 hV_8 (va_up S a 0)
    have fr_12 : fr_ o 8 h_5 (va_up h_5 (o + 4) (mv_A 0 75 (va_up S a 0))) := fun z_ hz => va_up_ne _ _ (by omega)
    generalize va_up h_5 (o + 4) (mv_A 0 75 (va_up S a 0)) = h_10 at hV_11 fr_12 ⊢
    exact k0 c9 _ hV_11 (fr_.tr (fr_.tr fr_3 fr_7) fr_12)
  ·
    refine go_iconst (q := 28) d_mo_setValue_27 rfl ?_
    refine go_goto (q := 32) d_mo_setValue_28 (by decide) ?_
    refine go_iast (i := a) (q := 33) d_mo_setValue_32 rfl (mv_c4 hV_8) (by omega) (by omega) (by omega) ?_
    have hV_14 := mv_u4 hV_8 (va_up S a 1)
    have fr_15 : fr_ o 8 h_5 (va_up h_5 (o + 4) (mv_A 0 75 (va_up S a 1))) := fun z_ hz => va_up_ne _ _ (by omega)
    generalize va_up h_5 (o + 4) (mv_A 0 75 (va_up S a 1)) = h_13 at hV_14 fr_15 ⊢
    exact k1 c9 _ hV_14 (fr_.tr (fr_.tr fr_3 fr_7) fr_15)

set_option maxRecDepth 4000 in
theorem sv_divide_0 {φ : go_F} {l : Launch} {h : mv_H} {n : Nat} {o : Nat} {I tx S ps cs bs : Nat → Int} {V : Nat → Nat} {a b q e : Nat} (hV : mo_V h o (I, tx, S, ps, cs, bs) V) (hr : a < 157 ∧ b < 157 ∧ q < 157 ∧ e < 157 ∧ q ≠ e ∧ a ≠ q ∧ a ≠ e ∧ b ≠ q ∧ b ≠ e)
    (k0 : ∀ h' : mv_H, mo_V h' o (I, tx, S, ps, cs, bs) (va_up (va_up V q 0) e 0) → fr_ o 8 h h' → Go φ l m_mo_divide (go_rm rd_mo_divide rw_mo_divide 0 0) (0, 0) 13 [some (mv_R o), some (mv_I (a : Int)), some (mv_I (b : Int)), some (mv_I (q : Int)), some (mv_I (e : Int)), none, none, none, none] [] h' n) :
    Go φ l m_mo_divide (go_rm rd_mo_divide rw_mo_divide 0 0) (0, 0) 0 [some (mv_R o), some (mv_I (a : Int)), some (mv_I (b : Int)), some (mv_I (q : Int)), some (mv_I (e : Int)), none, none, none, none] [] h n := by
  refine go_aload_n (q := 1) d_mo_divide_0 rfl rfl rfl ?_
  refine go_iload_n (q := 2) d_mo_divide_1 rfl rfl rfl ?_
  refine go_iconst (q := 3) d_mo_divide_2 rfl ?_
  refine cl_set (r := q) (v := 0) (q := 6) rfl d_mo_divide_3 rfl hV (by omega) (by omega) (Nat.le_of_ble_eq_true rfl) ⟨by decide, by decide, by decide, by decide⟩ (fun h_1 hV_2 fr_3 => ?_)
  have hV_4 : mo_V h_1 o (I, tx, S, ps, cs, bs) (va_up V q 0) := hV_2
  refine go_aload_n (q := 7) d_mo_divide_6 rfl rfl rfl ?_
  refine go_iload (q := 9) d_mo_divide_7 rfl rfl ?_
  refine go_iconst (q := 10) d_mo_divide_9 rfl ?_
  refine cl_set (r := e) (v := 0) (q := 13) rfl d_mo_divide_10 rfl hV_4 (by omega) (by omega) (Nat.le_of_ble_eq_true rfl) ⟨by decide, by decide, by decide, by decide⟩ (fun h_5 hV_6 fr_7 => ?_)
  have hV_8 : mo_V h_5 o (I, tx, S, ps, cs, bs) (va_up (va_up V q 0) e 0) := hV_6
  exact k0  _ hV_8 (fr_.tr fr_3 fr_7)

set_option maxRecDepth 4000 in
theorem sv_divide_46 {φ : go_F} {l : Launch} {h : mv_H} {n : Nat} {o : Nat} {I tx S ps cs bs : Nat → Int} {V : Nat → Nat} {a b q e : Nat} {k : Int} (hV : mo_V h o (I, tx, S, ps, cs, bs) V) 
    (k0 : Go φ l m_mo_divide (go_rm rd_mo_divide rw_mo_divide 0 0) (0, 0) 54 [some (mv_R o), some (mv_I (a : Int)), some (mv_I (b : Int)), some (mv_I (q : Int)), some (mv_I (e : Int)), some (mv_I k), some (mv_I 0), some (mv_I 9999), none] [] h n) :
    Go φ l m_mo_divide (go_rm rd_mo_divide rw_mo_divide 0 0) (0, 0) 46 [some (mv_R o), some (mv_I (a : Int)), some (mv_I (b : Int)), some (mv_I (q : Int)), some (mv_I (e : Int)), some (mv_I k), none, none, none] [] h n := by
  refine go_iconst (q := 47) d_mo_divide_46 rfl ?_
  refine go_istore (q := 49) (L' := [some (mv_R o), some (mv_I (a : Int)), some (mv_I (b : Int)), some (mv_I (q : Int)), some (mv_I (e : Int)), some (mv_I k), some (mv_I 0), none, none]) d_mo_divide_47 rfl (by decide) rfl ?_
  refine go_sipush (q := 52) d_mo_divide_49 rfl (by decide) ?_
  refine go_istore (q := 54) (L' := [some (mv_R o), some (mv_I (a : Int)), some (mv_I (b : Int)), some (mv_I (q : Int)), some (mv_I (e : Int)), some (mv_I k), some (mv_I 0), some (mv_I 9999), none]) d_mo_divide_52 rfl (by decide) rfl ?_
  exact k0 

set_option maxRecDepth 4000 in
theorem sv_divide_54 {φ : go_F} {l : Launch} {h : mv_H} {n : Nat} {o : Nat} {I tx S ps cs bs : Nat → Int} {V : Nat → Nat} {a b q e x y : Nat} {k : Int} (hV : mo_V h o (I, tx, S, ps, cs, bs) V) (hr : a < 157 ∧ b < 157 ∧ q < 157 ∧ e < 157 ∧ q ≠ e ∧ a ≠ q ∧ a ≠ e ∧ b ≠ q ∧ b ≠ e) (hx : x ≤ y ∧ y ≤ 9999) (hs : V b * ((x + y + 1) / 2) < 10000 ^ 40)
    (k0 : (y : Int) ≤ (x : Int) → Go φ l m_mo_divide (go_rm rd_mo_divide rw_mo_divide 0 0) (0, 0) 110 [some (mv_R o), some (mv_I (a : Int)), some (mv_I (b : Int)), some (mv_I (q : Int)), some (mv_I (e : Int)), some (mv_I k), some (mv_I (x : Int)), some (mv_I (y : Int)), none] [] h n)
    (k1 : ¬ (y : Int) ≤ (x : Int) → V e < (V b) * (((x + y) + 1) / 2) → ∀ h' : mv_H, mo_V h' o (I, tx, S, ps, cs, bs) (va_up V 157 ((V b) * (((x + y) + 1) / 2))) → fr_ o 8 h h' → Go φ l m_mo_divide (go_rm rd_mo_divide rw_mo_divide 0 0) (0, 0) 54 [some (mv_R o), some (mv_I (a : Int)), some (mv_I (b : Int)), some (mv_I (q : Int)), some (mv_I (e : Int)), some (mv_I k), some (mv_I (x : Int)), some (mv_I (((((x : Int) + (y : Int)) + 1) / 2) - 1)), none] [] h' n)
    (k2 : ¬ (y : Int) ≤ (x : Int) → (V b) * (((x + y) + 1) / 2) ≤ V e → ∀ h' : mv_H, mo_V h' o (I, tx, S, ps, cs, bs) (va_up V 157 ((V b) * (((x + y) + 1) / 2))) → fr_ o 8 h h' → Go φ l m_mo_divide (go_rm rd_mo_divide rw_mo_divide 0 0) (0, 0) 54 [some (mv_R o), some (mv_I (a : Int)), some (mv_I (b : Int)), some (mv_I (q : Int)), some (mv_I (e : Int)), some (mv_I k), some (mv_I ((((x : Int) + (y : Int)) + 1) / 2)), some (mv_I (y : Int)), none] [] h' n) :
    Go φ l m_mo_divide (go_rm rd_mo_divide rw_mo_divide 0 0) (0, 0) 54 [some (mv_R o), some (mv_I (a : Int)), some (mv_I (b : Int)), some (mv_I (q : Int)), some (mv_I (e : Int)), some (mv_I k), some (mv_I (x : Int)), some (mv_I (y : Int)), none] [] h n := by
  refine go_iload (q := 56) d_mo_divide_54 rfl rfl ?_
  refine go_iload (q := 58) d_mo_divide_56 rfl rfl ?_
  refine go_icmp_ge (t := 110) (q := 61) d_mo_divide_58 (by decide) rfl (by omega) (by omega) (fun c1 => ?_) (fun c1 => ?_)
  ·
    exact k0 c1
  ·
    refine go_iload (q := 63) d_mo_divide_61 rfl rfl ?_
    refine go_iload (q := 65) d_mo_divide_63 rfl rfl ?_
    refine go_iadd (q := 66) d_mo_divide_65 rfl ?_
    refine go_iconst (q := 67) d_mo_divide_66 rfl ?_
    refine go_iadd (q := 68) d_mo_divide_67 rfl ?_
    refine go_iconst (q := 69) d_mo_divide_68 rfl ?_
    refine go_idiv (z := (((x : Int) + (y : Int)) + 1) / 2) (q := 70) d_mo_divide_69 rfl (gn_ne0 (by omega)) (gn_div (by omega) (by omega)) ?_
    refine go_istore (q := 72) (L' := [some (mv_R o), some (mv_I (a : Int)), some (mv_I (b : Int)), some (mv_I (q : Int)), some (mv_I (e : Int)), some (mv_I k), some (mv_I (x : Int)), some (mv_I (y : Int)), some (mv_I ((((x : Int) + (y : Int)) + 1) / 2))]) d_mo_divide_70 rfl (by decide) rfl ?_
    refine go_aload_n (q := 73) d_mo_divide_72 rfl rfl rfl ?_
    refine go_iload_n (q := 74) d_mo_divide_73 rfl rfl rfl ?_
    refine go_iload (q := 76) d_mo_divide_74 rfl rfl ?_
    refine go_sipush (q := 79) d_mo_divide_76 rfl (by decide) ?_
    refine cl_times (b := b) (y := ((x + y) + 1) / 2) (t := 157) (q := 82) rfl d_mo_divide_79 rfl hV (by omega) (by omega) (by omega) (by omega) (by rw [(show V b = V b from rfl)]; first | assumption | omega) (Nat.le_of_ble_eq_true rfl) ⟨by decide, by decide, by decide, by decide⟩ (fun h_2 hV_3 fr_4 => ?_)
    have hV_5 : mo_V h_2 o (I, tx, S, ps, cs, bs) (va_up V 157 ((V b) * (((x + y) + 1) / 2))) := by
      have e_ : (V) b * (((x + y) + 1) / 2) = (V b) * (((x + y) + 1) / 2) := by rw [(show V b = V b from rfl)]
      rw [← e_]
      exact hV_3
    refine go_aload_n (q := 83) d_mo_divide_82 rfl rfl rfl ?_
    refine go_sipush (q := 86) d_mo_divide_83 rfl (by decide) ?_
    refine go_iload (q := 88) d_mo_divide_86 rfl rfl ?_
    refine cl_compare (a := 157) (b := e) (q := 91) rfl d_mo_divide_88 rfl hV_5 (by omega) (by omega) (Nat.le_of_ble_eq_true rfl) ⟨by decide, by decide, by decide, by decide⟩ ?_
    rw [(show (va_up V 157 ((V b) * (((x + y) + 1) / 2))) 157 = (V b) * (((x + y) + 1) / 2) from (va_up_self _ _ _)), (show (va_up V 157 ((V b) * (((x + y) + 1) / 2))) e = V e from ((va_up_ne _ _ (by omega)).trans rfl))]
    refine go_if_gt (t := 101) (q := 94) d_mo_divide_91 (by decide) rfl cm_rng (fun c6 => ?_) (fun c6 => ?_)
    · have c7 : V e < (V b) * (((x + y) + 1) / 2) := cm_gtp c6
      refine go_iload (q := 103) d_mo_divide_101 rfl rfl ?_
      refine go_iconst (q := 104) d_mo_divide_103 rfl ?_
      refine go_isub (q := 105) d_mo_divide_104 rfl ?_
      refine go_istore (q := 107) (L' := [some (mv_R o), some (mv_I (a : Int)), some (mv_I (b : Int)), some (mv_I (q : Int)), some (mv_I (e : Int)), some (mv_I k), some (mv_I (x : Int)), some (mv_I (((((x : Int) + (y : Int)) + 1) / 2) - 1)), some (mv_I ((((x : Int) + (y : Int)) + 1) / 2))]) d_mo_divide_105 rfl (by decide) rfl ?_
      refine go_goto (q := 54) d_mo_divide_107 (by decide) ?_
      refine go_fg 8 (L' := [some (mv_R o), some (mv_I (a : Int)), some (mv_I (b : Int)), some (mv_I (q : Int)), some (mv_I (e : Int)), some (mv_I k), some (mv_I (x : Int)), some (mv_I (((((x : Int) + (y : Int)) + 1) / 2) - 1)), none]) rfl ?_
      exact k1 c1 c7 _ hV_5 fr_4
    · have c8 : (V b) * (((x + y) + 1) / 2) ≤ V e := cm_gtn c6
      refine go_iload (q := 96) d_mo_divide_94 rfl rfl ?_
      refine go_istore (q := 98) (L' := [some (mv_R o), some (mv_I (a : Int)), some (mv_I (b : Int)), some (mv_I (q : Int)), some (mv_I (e : Int)), some (mv_I k), some (mv_I ((((x : Int) + (y : Int)) + 1) / 2)), some (mv_I (y : Int)), some (mv_I ((((x : Int) + (y : Int)) + 1) / 2))]) d_mo_divide_96 rfl (by decide) rfl ?_
      refine go_goto (q := 107) d_mo_divide_98 (by decide) ?_
      refine go_goto (q := 54) d_mo_divide_107 (by decide) ?_
      refine go_fg 8 (L' := [some (mv_R o), some (mv_I (a : Int)), some (mv_I (b : Int)), some (mv_I (q : Int)), some (mv_I (e : Int)), some (mv_I k), some (mv_I ((((x : Int) + (y : Int)) + 1) / 2)), some (mv_I (y : Int)), none]) rfl ?_
      exact k2 c1 c8 _ hV_5 fr_4

set_option maxRecDepth 4000 in
theorem sv_divide_110 {φ : go_F} {l : Launch} {h : mv_H} {n : Nat} {o : Nat} {I tx S ps cs bs : Nat → Int} {V : Nat → Nat} {a b q e x : Nat} {k y : Int} (hV : mo_V h o (I, tx, S, ps, cs, bs) V) (hr : a < 157 ∧ b < 157 ∧ q < 157 ∧ e < 157 ∧ q ≠ e ∧ a ≠ q ∧ a ≠ e ∧ b ≠ q ∧ b ≠ e) (hx : x ≤ 9999) (hk : 0 ≤ k ∧ k < 40) (hs : V b * x < 10000 ^ 40) (ht : V b * x ≤ V e) (hu : V q < 10000 ^ 39)
    (k0 : ∀ h' : mv_H, mo_V h' o (I, tx, S, ps, cs, bs) (va_up (va_up (va_up V 157 ((V b) * x)) e ((V e) - ((V b) * x))) q (x + 10000 * (V q))) → fr_ o 8 h h' → Go φ l m_mo_divide (go_rm rd_mo_divide rw_mo_divide 0 0) (0, 0) 23 [some (mv_R o), some (mv_I (a : Int)), some (mv_I (b : Int)), some (mv_I (q : Int)), some (mv_I (e : Int)), some (mv_I (k + (-1))), none, none, none] [] h' n) :
    Go φ l m_mo_divide (go_rm rd_mo_divide rw_mo_divide 0 0) (0, 0) 110 [some (mv_R o), some (mv_I (a : Int)), some (mv_I (b : Int)), some (mv_I (q : Int)), some (mv_I (e : Int)), some (mv_I k), some (mv_I (x : Int)), some (mv_I y), none] [] h n := by
  refine go_aload_n (q := 111) d_mo_divide_110 rfl rfl rfl ?_
  refine go_iload_n (q := 112) d_mo_divide_111 rfl rfl rfl ?_
  refine go_iload (q := 114) d_mo_divide_112 rfl rfl ?_
  refine go_sipush (q := 117) d_mo_divide_114 rfl (by decide) ?_
  refine cl_times (b := b) (y := x) (t := 157) (q := 120) rfl d_mo_divide_117 rfl hV (by omega) (by omega) (by omega) (by omega) (by rw [(show V b = V b from rfl)]; first | assumption | omega) (Nat.le_of_ble_eq_true rfl) ⟨by decide, by decide, by decide, by decide⟩ (fun h_1 hV_2 fr_3 => ?_)
  have hV_4 : mo_V h_1 o (I, tx, S, ps, cs, bs) (va_up V 157 ((V b) * x)) := by
    have e_ : (V) b * x = (V b) * x := by rw [(show V b = V b from rfl)]
    rw [← e_]
    exact hV_2
  refine go_aload_n (q := 121) d_mo_divide_120 rfl rfl rfl ?_
  refine go_iload (q := 123) d_mo_divide_121 rfl rfl ?_
  refine go_sipush (q := 126) d_mo_divide_123 rfl (by decide) ?_
  refine cl_takeOff (a := e) (b := 157) (q := 129) rfl d_mo_divide_126 rfl hV_4 (by omega) (by omega) (by rw [(show (va_up V 157 ((V b) * x)) e = V e from ((va_up_ne _ _ (by omega)).trans rfl)), (show (va_up V 157 ((V b) * x)) 157 = (V b) * x from (va_up_self _ _ _))]; omega) (Nat.le_of_ble_eq_true rfl) ⟨by decide, by decide, by decide, by decide⟩ (fun h_5 hV_6 fr_7 => ?_)
  have hV_8 : mo_V h_5 o (I, tx, S, ps, cs, bs) (va_up (va_up V 157 ((V b) * x)) e ((V e) - ((V b) * x))) := by
    have e_ : (va_up V 157 ((V b) * x)) e - (va_up V 157 ((V b) * x)) 157 = (V e) - ((V b) * x) := by rw [(show (va_up V 157 ((V b) * x)) e = V e from ((va_up_ne _ _ (by omega)).trans rfl)), (show (va_up V 157 ((V b) * x)) 157 = (V b) * x from (va_up_self _ _ _))]
    rw [← e_]
    exact hV_6
  refine go_aload_n (q := 130) d_mo_divide_129 rfl rfl rfl ?_
  refine go_iload_n (q := 131) d_mo_divide_130 rfl rfl rfl ?_
  refine go_iload (q := 133) d_mo_divide_131 rfl rfl ?_
  refine cl_shift (r := q) (v := x) (q := 136) rfl d_mo_divide_133 rfl hV_8 (by omega) (by omega) (by rw [(show (va_up (va_up V 157 ((V b) * x)) e ((V e) - ((V b) * x))) q = V q from ((va_up_ne _ _ (by omega)).trans ((va_up_ne _ _ (by omega)).trans rfl)))]; first | assumption | omega) (Nat.le_of_ble_eq_true rfl) ⟨by decide, by decide, by decide, by decide⟩ (fun h_9 hV_10 fr_11 => ?_)
  have hV_12 : mo_V h_9 o (I, tx, S, ps, cs, bs) (va_up (va_up (va_up V 157 ((V b) * x)) e ((V e) - ((V b) * x))) q (x + 10000 * (V q))) := by
    have e_ : x + 10000 * (va_up (va_up V 157 ((V b) * x)) e ((V e) - ((V b) * x))) q = x + 10000 * (V q) := by rw [(show (va_up (va_up V 157 ((V b) * x)) e ((V e) - ((V b) * x))) q = V q from ((va_up_ne _ _ (by omega)).trans ((va_up_ne _ _ (by omega)).trans rfl)))]
    rw [← e_]
    exact hV_10
  refine go_iinc (q := 139) (L' := [some (mv_R o), some (mv_I (a : Int)), some (mv_I (b : Int)), some (mv_I (q : Int)), some (mv_I (e : Int)), some (mv_I (k + (-1))), some (mv_I (x : Int)), some (mv_I y), none]) d_mo_divide_136 rfl (by decide) rfl rfl ?_
  refine go_goto (q := 23) d_mo_divide_139 (by decide) ?_
  refine go_fg 6 (L' := [some (mv_R o), some (mv_I (a : Int)), some (mv_I (b : Int)), some (mv_I (q : Int)), some (mv_I (e : Int)), some (mv_I (k + (-1))), none, some (mv_I y), none]) rfl ?_
  refine go_fg 7 (L' := [some (mv_R o), some (mv_I (a : Int)), some (mv_I (b : Int)), some (mv_I (q : Int)), some (mv_I (e : Int)), some (mv_I (k + (-1))), none, none, none]) rfl ?_
  exact k0  _ hV_12 (fr_.tr (fr_.tr fr_3 fr_7) fr_11)

set_option maxRecDepth 4000 in
theorem sv_common_0 {φ : go_F} {l : Launch} {h : mv_H} {n : Nat} {o : Nat} {I tx S ps cs bs : Nat → Int} {V : Nat → Nat} {a b : Nat} (hV : mo_V h o (I, tx, S, ps, cs, bs) V) (hr : a < 154 ∧ b < 154)
    (k0 : ∀ h' : mv_H, mo_V h' o (I, tx, S, ps, cs, bs) (va_up (va_up V 154 (V a)) 155 (V b)) → fr_ o 8 h h' → Go φ l m_mo_common (go_rm rd_mo_common rw_mo_common 0 0) (0, 0) 18 [some (mv_R o), some (mv_I (a : Int)), some (mv_I (b : Int)), some (mv_I 0), none, none] [] h' n) :
    Go φ l m_mo_common (go_rm rd_mo_common rw_mo_common 0 0) (0, 0) 0 [some (mv_R o), some (mv_I (a : Int)), some (mv_I (b : Int)), none, none, none] [] h n := by
  refine go_aload_n (q := 1) d_mo_common_0 rfl rfl rfl ?_
  refine go_iload_n (q := 2) d_mo_common_1 rfl rfl rfl ?_
  refine go_sipush (q := 5) d_mo_common_2 rfl (by decide) ?_
  refine cl_copy (a := a) (b := 154) (q := 8) rfl d_mo_common_5 rfl hV (by omega) (by omega) (Nat.le_of_ble_eq_true rfl) ⟨by decide, by decide, by decide, by decide⟩ (fun h_1 hV_2 fr_3 => ?_)
  have hV_4 : mo_V h_1 o (I, tx, S, ps, cs, bs) (va_up V 154 (V a)) := by
    have e_ : (V) a = V a := by rw [(show V a = V a from rfl)]
    rw [← e_]
    exact hV_2
  refine go_aload_n (q := 9) d_mo_common_8 rfl rfl rfl ?_
  refine go_iload_n (q := 10) d_mo_common_9 rfl rfl rfl ?_
  refine go_sipush (q := 13) d_mo_common_10 rfl (by decide) ?_
  refine cl_copy (a := b) (b := 155) (q := 16) rfl d_mo_common_13 rfl hV_4 (by omega) (by omega) (Nat.le_of_ble_eq_true rfl) ⟨by decide, by decide, by decide, by decide⟩ (fun h_5 hV_6 fr_7 => ?_)
  have hV_8 : mo_V h_5 o (I, tx, S, ps, cs, bs) (va_up (va_up V 154 (V a)) 155 (V b)) := by
    have e_ : (va_up V 154 (V a)) b = V b := by rw [(show (va_up V 154 (V a)) b = V b from ((va_up_ne _ _ (by omega)).trans rfl))]
    rw [← e_]
    exact hV_6
  refine go_iconst (q := 17) d_mo_common_16 rfl ?_
  refine go_istore_n (q := 18) (L' := [some (mv_R o), some (mv_I (a : Int)), some (mv_I (b : Int)), some (mv_I 0), none, none]) d_mo_common_17 rfl rfl (by decide) rfl ?_
  exact k0  _ hV_8 (fr_.tr fr_3 fr_7)

set_option maxRecDepth 4000 in
theorem sv_common_18 {φ : go_F} {l : Launch} {h : mv_H} {n : Nat} {o : Nat} {I tx S ps cs bs : Nat → Int} {V : Nat → Nat} {a b w : Nat} (hV : mo_V h o (I, tx, S, ps, cs, bs) V) (hw : w < 600)
    (k0 : V 154 = 0 → Go φ l m_mo_common (go_rm rd_mo_common rw_mo_common 0 0) (0, 0) 156 [some (mv_R o), some (mv_I (a : Int)), some (mv_I (b : Int)), some (mv_I (w : Int)), none, none] [] h n)
    (k1 : ¬ V 154 = 0 → V 155 = 0 → Go φ l m_mo_common (go_rm rd_mo_common rw_mo_common 0 0) (0, 0) 156 [some (mv_R o), some (mv_I (a : Int)), some (mv_I (b : Int)), some (mv_I (w : Int)), none, none] [] h n)
    (k2 : ¬ V 154 = 0 → ¬ V 155 = 0 → V 154 % 2 = 0 → ¬ V 155 % 2 = 0 → ∀ h' : mv_H, mo_V h' o (I, tx, S, ps, cs, bs) (va_up V 154 ((V 154) / 2)) → fr_ o 8 h h' → Go φ l m_mo_common (go_rm rd_mo_common rw_mo_common 0 0) (0, 0) 18 [some (mv_R o), some (mv_I (a : Int)), some (mv_I (b : Int)), some (mv_I (w : Int)), none, none] [] h' n)
    (k3 : ¬ V 154 = 0 → ¬ V 155 = 0 → V 154 % 2 = 0 → V 155 % 2 = 0 → ∀ h' : mv_H, mo_V h' o (I, tx, S, ps, cs, bs) (va_up (va_up V 154 ((V 154) / 2)) 155 ((V 155) / 2)) → fr_ o 8 h h' → Go φ l m_mo_common (go_rm rd_mo_common rw_mo_common 0 0) (0, 0) 18 [some (mv_R o), some (mv_I (a : Int)), some (mv_I (b : Int)), some (mv_I ((w : Int) + 1)), none, none] [] h' n)
    (k4 : ¬ V 154 = 0 → ¬ V 155 = 0 → ¬ V 154 % 2 = 0 → ¬ V 155 % 2 = 0 → V 155 ≤ V 154 → ∀ h' : mv_H, mo_V h' o (I, tx, S, ps, cs, bs) (va_up V 154 ((V 154) - (V 155))) → fr_ o 8 h h' → Go φ l m_mo_common (go_rm rd_mo_common rw_mo_common 0 0) (0, 0) 18 [some (mv_R o), some (mv_I (a : Int)), some (mv_I (b : Int)), some (mv_I (w : Int)), none, none] [] h' n)
    (k5 : ¬ V 154 = 0 → ¬ V 155 = 0 → ¬ V 154 % 2 = 0 → ¬ V 155 % 2 = 0 → V 154 < V 155 → ∀ h' : mv_H, mo_V h' o (I, tx, S, ps, cs, bs) (va_up V 155 ((V 155) - (V 154))) → fr_ o 8 h h' → Go φ l m_mo_common (go_rm rd_mo_common rw_mo_common 0 0) (0, 0) 18 [some (mv_R o), some (mv_I (a : Int)), some (mv_I (b : Int)), some (mv_I (w : Int)), none, none] [] h' n)
    (k6 : ¬ V 154 = 0 → ¬ V 155 = 0 → ¬ V 154 % 2 = 0 → V 155 % 2 = 0 → ∀ h' : mv_H, mo_V h' o (I, tx, S, ps, cs, bs) (va_up V 155 ((V 155) / 2)) → fr_ o 8 h h' → Go φ l m_mo_common (go_rm rd_mo_common rw_mo_common 0 0) (0, 0) 18 [some (mv_R o), some (mv_I (a : Int)), some (mv_I (b : Int)), some (mv_I (w : Int)), none, none] [] h' n) :
    Go φ l m_mo_common (go_rm rd_mo_common rw_mo_common 0 0) (0, 0) 18 [some (mv_R o), some (mv_I (a : Int)), some (mv_I (b : Int)), some (mv_I (w : Int)), none, none] [] h n := by
  refine go_aload_n (q := 19) d_mo_common_18 rfl rfl rfl ?_
  refine go_getf (q := 22) f_mo_20 d_mo_common_19 rfl (mv_c0 hV) rfl ?_
  refine go_sipush (q := 25) d_mo_common_22 rfl (by decide) ?_
  obtain ⟨D_1, U_2, hm_3, hM_4⟩ := id hV
  have q_5 := hM_4.2.1 154
  have q_6 : U_2 154 = 0 ↔ V 154 = 0 := by
    have z_ := mo_U0 hM_4 (r := 154) (by omega)
    rw [(show V 154 = V 154 from rfl)] at z_
    exact z_
  refine go_iald (i := 154) (q := 26) d_mo_common_25 rfl (MD_c3 hm_3) (by omega) (by omega) (by omega) ?_
  refine go_if_le (t := 156) (q := 29) d_mo_common_26 (by decide) rfl (by omega) (fun c7 => ?_) (fun c7 => ?_)
  · have c8 : V 154 = 0 := (by omega : V 154 = 0)
    exact k0 c8
  · have c9 : ¬ V 154 = 0 := (by omega : ¬ V 154 = 0)
    refine go_aload_n (q := 30) d_mo_common_29 rfl rfl rfl ?_
    refine go_getf (q := 33) f_mo_20 d_mo_common_30 rfl (mv_c0 hV) rfl ?_
    refine go_sipush (q := 36) d_mo_common_33 rfl (by decide) ?_
    obtain ⟨D_10, U_11, hm_12, hM_13⟩ := id hV
    have q_14 := hM_13.2.1 155
    have q_15 : U_11 155 = 0 ↔ V 155 = 0 := by
      have z_ := mo_U0 hM_13 (r := 155) (by omega)
      rw [(show V 155 = V 155 from rfl)] at z_
      exact z_
    refine go_iald (i := 155) (q := 37) d_mo_common_36 rfl (MD_c3 hm_12) (by omega) (by omega) (by omega) ?_
    refine go_if_le (t := 156) (q := 40) d_mo_common_37 (by decide) rfl (by omega) (fun c16 => ?_) (fun c16 => ?_)
    · have c17 : V 155 = 0 := (by omega : V 155 = 0)
      exact k1 c9 c17
    · have c18 : ¬ V 155 = 0 := (by omega : ¬ V 155 = 0)
      refine go_aload_n (q := 41) d_mo_common_40 rfl rfl rfl ?_
      refine go_sipush (q := 44) d_mo_common_41 rfl (by decide) ?_
      refine cl_isEven (r := 154) (q := 47) rfl d_mo_common_44 rfl hV (by omega) (Nat.le_of_ble_eq_true rfl) ⟨by decide, by decide, by decide, by decide⟩ ?_
      rw [(show V 154 = V 154 from rfl)]
      refine go_istore (q := 49) (L' := [some (mv_R o), some (mv_I (a : Int)), some (mv_I (b : Int)), some (mv_I (w : Int)), some (mv_I (if V 154 % 2 = 0 then 1 else 0)), none]) d_mo_common_47 rfl (by decide) rfl ?_
      refine go_aload_n (q := 50) d_mo_common_49 rfl rfl rfl ?_
      refine go_sipush (q := 53) d_mo_common_50 rfl (by decide) ?_
      refine cl_isEven (r := 155) (q := 56) rfl d_mo_common_53 rfl hV (by omega) (Nat.le_of_ble_eq_true rfl) ⟨by decide, by decide, by decide, by decide⟩ ?_
      rw [(show V 155 = V 155 from rfl)]
      refine go_istore (q := 58) (L' := [some (mv_R o), some (mv_I (a : Int)), some (mv_I (b : Int)), some (mv_I (w : Int)), some (mv_I (if V 154 % 2 = 0 then 1 else 0)), some (mv_I (if V 155 % 2 = 0 then 1 else 0))]) d_mo_common_56 rfl (by decide) rfl ?_
      refine go_iload (q := 60) d_mo_common_58 rfl rfl ?_
      refine go_if_ne (t := 68) (q := 63) d_mo_common_60 (by decide) rfl it_rng (fun c19 => ?_) (fun c19 => ?_)
      · have c20 : V 154 % 2 = 0 := it_nep c19
        refine go_iload (q := 70) d_mo_common_68 rfl rfl ?_
        refine go_if_eq (t := 84) (q := 73) d_mo_common_70 (by decide) rfl it_rng (fun c21 => ?_) (fun c21 => ?_)
        · have c22 : ¬ V 154 % 2 = 0 := it_eqp c21
          exact absurd c20 c22
        · have c23 : V 154 % 2 = 0 := it_eqn c21
          refine go_iload (q := 75) d_mo_common_73 rfl rfl ?_
          refine go_if_eq (t := 84) (q := 78) d_mo_common_75 (by decide) rfl it_rng (fun c24 => ?_) (fun c24 => ?_)
          · have c25 : ¬ V 155 % 2 = 0 := it_eqp c24
            refine go_iload_n (q := 85) d_mo_common_84 rfl rfl rfl ?_
            refine go_istore_n (q := 86) (L' := [some (mv_R o), some (mv_I (a : Int)), some (mv_I (b : Int)), some (mv_I (w : Int)), some (mv_I (if V 154 % 2 = 0 then 1 else 0)), some (mv_I (if V 155 % 2 = 0 then 1 else 0))]) d_mo_common_85 rfl rfl (by decide) rfl ?_
            refine go_iload (q := 88) d_mo_common_86 rfl rfl ?_
            refine go_if_eq (t := 100) (q := 91) d_mo_common_88 (by decide) rfl it_rng (fun c26 => ?_) (fun c26 => ?_)
            · have c27 : ¬ V 154 % 2 = 0 := it_eqp c26
              exact absurd c20 c27
            · have c28 : V 154 % 2 = 0 := it_eqn c26
              refine go_aload_n (q := 92) d_mo_common_91 rfl rfl rfl ?_
              refine go_sipush (q := 95) d_mo_common_92 rfl (by decide) ?_
              refine go_iconst (q := 96) d_mo_common_95 rfl ?_
              refine cl_divideSmall (r := 154) (y := 2) (q := 99) rfl d_mo_common_96 rfl hV (by omega) (by omega) (Nat.le_of_ble_eq_true rfl) ⟨by decide, by decide, by decide, by decide⟩ (fun h_29 hV_30 fr_31 => ?_)
              have hV_32 : mo_V h_29 o (I, tx, S, ps, cs, bs) (va_up V 154 ((V 154) / 2)) := by
                have e_ : (V) 154 / 2 = (V 154) / 2 := by rw [(show V 154 = V 154 from rfl)]
                rw [← e_]
                exact hV_30
              rw [(show V 154 = V 154 from rfl)]
              refine go_pop (q := 100) d_mo_common_99 rfl rfl ?_
              refine go_iload (q := 102) d_mo_common_100 rfl rfl ?_
              refine go_if_eq (t := 153) (q := 105) d_mo_common_102 (by decide) rfl it_rng (fun c33 => ?_) (fun c33 => ?_)
              · have c34 : ¬ V 155 % 2 = 0 := it_eqp c33
                refine go_goto (q := 18) d_mo_common_153 (by decide) ?_
                refine go_fg 4 (L' := [some (mv_R o), some (mv_I (a : Int)), some (mv_I (b : Int)), some (mv_I (w : Int)), none, some (mv_I (if V 155 % 2 = 0 then 1 else 0))]) rfl ?_
                refine go_fg 5 (L' := [some (mv_R o), some (mv_I (a : Int)), some (mv_I (b : Int)), some (mv_I (w : Int)), none, none]) rfl ?_
                exact k2 c9 c18 c20 c25 _ hV_32 fr_31
              · have c35 : V 155 % 2 = 0 := it_eqn c33
                exact absurd c35 c25
          · have c36 : V 155 % 2 = 0 := it_eqn c24
            refine go_iload_n (q := 79) d_mo_common_78 rfl rfl rfl ?_
            refine go_iconst (q := 80) d_mo_common_79 rfl ?_
            refine go_iadd (q := 81) d_mo_common_80 rfl ?_
            refine go_goto (q := 85) d_mo_common_81 (by decide) ?_
            refine go_istore_n (q := 86) (L' := [some (mv_R o), some (mv_I (a : Int)), some (mv_I (b : Int)), some (mv_I ((w : Int) + 1)), some (mv_I (if V 154 % 2 = 0 then 1 else 0)), some (mv_I (if V 155 % 2 = 0 then 1 else 0))]) d_mo_common_85 rfl rfl (by decide) rfl ?_
            refine go_iload (q := 88) d_mo_common_86 rfl rfl ?_
            refine go_if_eq (t := 100) (q := 91) d_mo_common_88 (by decide) rfl it_rng (fun c37 => ?_) (fun c37 => ?_)
            · have c38 : ¬ V 154 % 2 = 0 := it_eqp c37
              exact absurd c20 c38
            · have c39 : V 154 % 2 = 0 := it_eqn c37
              refine go_aload_n (q := 92) d_mo_common_91 rfl rfl rfl ?_
              refine go_sipush (q := 95) d_mo_common_92 rfl (by decide) ?_
              refine go_iconst (q := 96) d_mo_common_95 rfl ?_
              refine cl_divideSmall (r := 154) (y := 2) (q := 99) rfl d_mo_common_96 rfl hV (by omega) (by omega) (Nat.le_of_ble_eq_true rfl) ⟨by decide, by decide, by decide, by decide⟩ (fun h_40 hV_41 fr_42 => ?_)
              have hV_43 : mo_V h_40 o (I, tx, S, ps, cs, bs) (va_up V 154 ((V 154) / 2)) := by
                have e_ : (V) 154 / 2 = (V 154) / 2 := by rw [(show V 154 = V 154 from rfl)]
                rw [← e_]
                exact hV_41
              rw [(show V 154 = V 154 from rfl)]
              refine go_pop (q := 100) d_mo_common_99 rfl rfl ?_
              refine go_iload (q := 102) d_mo_common_100 rfl rfl ?_
              refine go_if_eq (t := 153) (q := 105) d_mo_common_102 (by decide) rfl it_rng (fun c44 => ?_) (fun c44 => ?_)
              · have c45 : ¬ V 155 % 2 = 0 := it_eqp c44
                exact absurd c36 c45
              · have c46 : V 155 % 2 = 0 := it_eqn c44
                refine go_aload_n (q := 106) d_mo_common_105 rfl rfl rfl ?_
                refine go_sipush (q := 109) d_mo_common_106 rfl (by decide) ?_
                refine go_iconst (q := 110) d_mo_common_109 rfl ?_
                refine cl_divideSmall (r := 155) (y := 2) (q := 113) rfl d_mo_common_110 rfl hV_43 (by omega) (by omega) (Nat.le_of_ble_eq_true rfl) ⟨by decide, by decide, by decide, by decide⟩ (fun h_47 hV_48 fr_49 => ?_)
                have hV_50 : mo_V h_47 o (I, tx, S, ps, cs, bs) (va_up (va_up V 154 ((V 154) / 2)) 155 ((V 155) / 2)) := by
                  have e_ : (va_up V 154 ((V 154) / 2)) 155 / 2 = (V 155) / 2 := by rw [(show (va_up V 154 ((V 154) / 2)) 155 = V 155 from ((va_up_ne _ _ (by omega)).trans rfl))]
                  rw [← e_]
                  exact hV_48
                rw [(show (va_up V 154 ((V 154) / 2)) 155 = V 155 from ((va_up_ne _ _ (by omega)).trans rfl))]
                refine go_pop (q := 114) d_mo_common_113 rfl rfl ?_
                refine go_goto (q := 153) d_mo_common_114 (by decide) ?_
                refine go_goto (q := 18) d_mo_common_153 (by decide) ?_
                refine go_fg 4 (L' := [some (mv_R o), some (mv_I (a : Int)), some (mv_I (b : Int)), some (mv_I ((w : Int) + 1)), none, some (mv_I (if V 155 % 2 = 0 then 1 else 0))]) rfl ?_
                refine go_fg 5 (L' := [some (mv_R o), some (mv_I (a : Int)), some (mv_I (b : Int)), some (mv_I ((w : Int) + 1)), none, none]) rfl ?_
                exact k3 c9 c18 c20 c36 _ hV_50 (fr_.tr fr_42 fr_49)
      · have c51 : ¬ V 154 % 2 = 0 := it_nen c19
        refine go_iload (q := 65) d_mo_common_63 rfl rfl ?_
        refine go_if_eq (t := 117) (q := 68) d_mo_common_65 (by decide) rfl it_rng (fun c52 => ?_) (fun c52 => ?_)
        · have c53 : ¬ V 155 % 2 = 0 := it_eqp c52
          refine go_aload_n (q := 118) d_mo_common_117 rfl rfl rfl ?_
          refine go_sipush (q := 121) d_mo_common_118 rfl (by decide) ?_
          refine go_sipush (q := 124) d_mo_common_121 rfl (by decide) ?_
          refine cl_compare (a := 154) (b := 155) (q := 127) rfl d_mo_common_124 rfl hV (by omega) (by omega) (Nat.le_of_ble_eq_true rfl) ⟨by decide, by decide, by decide, by decide⟩ ?_
          rw [(show V 154 = V 154 from rfl), (show V 155 = V 155 from rfl)]
          refine go_if_ge (t := 143) (q := 130) d_mo_common_127 (by decide) rfl cm_rng (fun c54 => ?_) (fun c54 => ?_)
          · have c55 : V 155 ≤ V 154 := cm_gep c54
            refine go_aload_n (q := 144) d_mo_common_143 rfl rfl rfl ?_
            refine go_sipush (q := 147) d_mo_common_144 rfl (by decide) ?_
            refine go_sipush (q := 150) d_mo_common_147 rfl (by decide) ?_
            refine cl_takeOff (a := 154) (b := 155) (q := 153) rfl d_mo_common_150 rfl hV (by omega) (by omega) (by rw [(show V 154 = V 154 from rfl), (show V 155 = V 155 from rfl)]; omega) (Nat.le_of_ble_eq_true rfl) ⟨by decide, by decide, by decide, by decide⟩ (fun h_56 hV_57 fr_58 => ?_)
            have hV_59 : mo_V h_56 o (I, tx, S, ps, cs, bs) (va_up V 154 ((V 154) - (V 155))) := by
              have e_ : (V) 154 - (V) 155 = (V 154) - (V 155) := by rw [(show V 154 = V 154 from rfl), (show V 155 = V 155 from rfl)]
              rw [← e_]
              exact hV_57
            refine go_goto (q := 18) d_mo_common_153 (by decide) ?_
            refine go_fg 4 (L' := [some (mv_R o), some (mv_I (a : Int)), some (mv_I (b : Int)), some (mv_I (w : Int)), none, some (mv_I (if V 155 % 2 = 0 then 1 else 0))]) rfl ?_
            refine go_fg 5 (L' := [some (mv_R o), some (mv_I (a : Int)), some (mv_I (b : Int)), some (mv_I (w : Int)), none, none]) rfl ?_
            exact k4 c9 c18 c51 c53 c55 _ hV_59 fr_58
          · have c60 : V 154 < V 155 := cm_gen c54
            refine go_aload_n (q := 131) d_mo_common_130 rfl rfl rfl ?_
            refine go_sipush (q := 134) d_mo_common_131 rfl (by decide) ?_
            refine go_sipush (q := 137) d_mo_common_134 rfl (by decide) ?_
            refine cl_takeOff (a := 155) (b := 154) (q := 140) rfl d_mo_common_137 rfl hV (by omega) (by omega) (by rw [(show V 155 = V 155 from rfl), (show V 154 = V 154 from rfl)]; omega) (Nat.le_of_ble_eq_true rfl) ⟨by decide, by decide, by decide, by decide⟩ (fun h_61 hV_62 fr_63 => ?_)
            have hV_64 : mo_V h_61 o (I, tx, S, ps, cs, bs) (va_up V 155 ((V 155) - (V 154))) := by
              have e_ : (V) 155 - (V) 154 = (V 155) - (V 154) := by rw [(show V 155 = V 155 from rfl), (show V 154 = V 154 from rfl)]
              rw [← e_]
              exact hV_62
            refine go_goto (q := 153) d_mo_common_140 (by decide) ?_
            refine go_goto (q := 18) d_mo_common_153 (by decide) ?_
            refine go_fg 4 (L' := [some (mv_R o), some (mv_I (a : Int)), some (mv_I (b : Int)), some (mv_I (w : Int)), none, some (mv_I (if V 155 % 2 = 0 then 1 else 0))]) rfl ?_
            refine go_fg 5 (L' := [some (mv_R o), some (mv_I (a : Int)), some (mv_I (b : Int)), some (mv_I (w : Int)), none, none]) rfl ?_
            exact k5 c9 c18 c51 c53 c60 _ hV_64 fr_63
        · have c65 : V 155 % 2 = 0 := it_eqn c52
          refine go_iload (q := 70) d_mo_common_68 rfl rfl ?_
          refine go_if_eq (t := 84) (q := 73) d_mo_common_70 (by decide) rfl it_rng (fun c66 => ?_) (fun c66 => ?_)
          · have c67 : ¬ V 154 % 2 = 0 := it_eqp c66
            refine go_iload_n (q := 85) d_mo_common_84 rfl rfl rfl ?_
            refine go_istore_n (q := 86) (L' := [some (mv_R o), some (mv_I (a : Int)), some (mv_I (b : Int)), some (mv_I (w : Int)), some (mv_I (if V 154 % 2 = 0 then 1 else 0)), some (mv_I (if V 155 % 2 = 0 then 1 else 0))]) d_mo_common_85 rfl rfl (by decide) rfl ?_
            refine go_iload (q := 88) d_mo_common_86 rfl rfl ?_
            refine go_if_eq (t := 100) (q := 91) d_mo_common_88 (by decide) rfl it_rng (fun c68 => ?_) (fun c68 => ?_)
            · have c69 : ¬ V 154 % 2 = 0 := it_eqp c68
              refine go_iload (q := 102) d_mo_common_100 rfl rfl ?_
              refine go_if_eq (t := 153) (q := 105) d_mo_common_102 (by decide) rfl it_rng (fun c70 => ?_) (fun c70 => ?_)
              · have c71 : ¬ V 155 % 2 = 0 := it_eqp c70
                exact absurd c65 c71
              · have c72 : V 155 % 2 = 0 := it_eqn c70
                refine go_aload_n (q := 106) d_mo_common_105 rfl rfl rfl ?_
                refine go_sipush (q := 109) d_mo_common_106 rfl (by decide) ?_
                refine go_iconst (q := 110) d_mo_common_109 rfl ?_
                refine cl_divideSmall (r := 155) (y := 2) (q := 113) rfl d_mo_common_110 rfl hV (by omega) (by omega) (Nat.le_of_ble_eq_true rfl) ⟨by decide, by decide, by decide, by decide⟩ (fun h_73 hV_74 fr_75 => ?_)
                have hV_76 : mo_V h_73 o (I, tx, S, ps, cs, bs) (va_up V 155 ((V 155) / 2)) := by
                  have e_ : (V) 155 / 2 = (V 155) / 2 := by rw [(show V 155 = V 155 from rfl)]
                  rw [← e_]
                  exact hV_74
                rw [(show V 155 = V 155 from rfl)]
                refine go_pop (q := 114) d_mo_common_113 rfl rfl ?_
                refine go_goto (q := 153) d_mo_common_114 (by decide) ?_
                refine go_goto (q := 18) d_mo_common_153 (by decide) ?_
                refine go_fg 4 (L' := [some (mv_R o), some (mv_I (a : Int)), some (mv_I (b : Int)), some (mv_I (w : Int)), none, some (mv_I (if V 155 % 2 = 0 then 1 else 0))]) rfl ?_
                refine go_fg 5 (L' := [some (mv_R o), some (mv_I (a : Int)), some (mv_I (b : Int)), some (mv_I (w : Int)), none, none]) rfl ?_
                exact k6 c9 c18 c51 c65 _ hV_76 fr_75
            · have c77 : V 154 % 2 = 0 := it_eqn c68
              exact absurd c77 c51
          · have c78 : V 154 % 2 = 0 := it_eqn c66
            exact absurd c78 c51

set_option maxRecDepth 4000 in
theorem sv_common_156 {φ : go_F} {l : Launch} {h : mv_H} {n : Nat} {o : Nat} {I tx S ps cs bs : Nat → Int} {V : Nat → Nat} {a b w : Nat} (hV : mo_V h o (I, tx, S, ps, cs, bs) V) 
    (k0 : ¬ V 154 = 0 → Go φ l m_mo_common (go_rm rd_mo_common rw_mo_common 0 0) (0, 0) 180 [some (mv_R o), some (mv_I (a : Int)), some (mv_I (b : Int)), some (mv_I (w : Int)), some (mv_I 0), none] [] h n)
    (k1 : V 154 = 0 → ∀ h' : mv_H, mo_V h' o (I, tx, S, ps, cs, bs) (va_up V 154 (V 155)) → fr_ o 8 h h' → Go φ l m_mo_common (go_rm rd_mo_common rw_mo_common 0 0) (0, 0) 180 [some (mv_R o), some (mv_I (a : Int)), some (mv_I (b : Int)), some (mv_I (w : Int)), some (mv_I 0), none] [] h' n) :
    Go φ l m_mo_common (go_rm rd_mo_common rw_mo_common 0 0) (0, 0) 156 [some (mv_R o), some (mv_I (a : Int)), some (mv_I (b : Int)), some (mv_I (w : Int)), none, none] [] h n := by
  refine go_aload_n (q := 157) d_mo_common_156 rfl rfl rfl ?_
  refine go_getf (q := 160) f_mo_20 d_mo_common_157 rfl (mv_c0 hV) rfl ?_
  refine go_sipush (q := 163) d_mo_common_160 rfl (by decide) ?_
  obtain ⟨D_1, U_2, hm_3, hM_4⟩ := id hV
  have q_5 := hM_4.2.1 154
  have q_6 : U_2 154 = 0 ↔ V 154 = 0 := by
    have z_ := mo_U0 hM_4 (r := 154) (by omega)
    rw [(show V 154 = V 154 from rfl)] at z_
    exact z_
  refine go_iald (i := 154) (q := 164) d_mo_common_163 rfl (MD_c3 hm_3) (by omega) (by omega) (by omega) ?_
  refine go_if_ne (t := 177) (q := 167) d_mo_common_164 (by decide) rfl (by omega) (fun c7 => ?_) (fun c7 => ?_)
  · have c8 : ¬ V 154 = 0 := (by omega : ¬ V 154 = 0)
    refine go_iconst (q := 178) d_mo_common_177 rfl ?_
    refine go_istore (q := 180) (L' := [some (mv_R o), some (mv_I (a : Int)), some (mv_I (b : Int)), some (mv_I (w : Int)), some (mv_I 0), none]) d_mo_common_178 rfl (by decide) rfl ?_
    exact k0 c8
  · have c9 : V 154 = 0 := (by omega : V 154 = 0)
    refine go_aload_n (q := 168) d_mo_common_167 rfl rfl rfl ?_
    refine go_sipush (q := 171) d_mo_common_168 rfl (by decide) ?_
    refine go_sipush (q := 174) d_mo_common_171 rfl (by decide) ?_
    refine cl_copy (a := 155) (b := 154) (q := 177) rfl d_mo_common_174 rfl hV (by omega) (by omega) (Nat.le_of_ble_eq_true rfl) ⟨by decide, by decide, by decide, by decide⟩ (fun h_10 hV_11 fr_12 => ?_)
    have hV_13 : mo_V h_10 o (I, tx, S, ps, cs, bs) (va_up V 154 (V 155)) := by
      have e_ : (V) 155 = V 155 := by rw [(show V 155 = V 155 from rfl)]
      rw [← e_]
      exact hV_11
    refine go_iconst (q := 178) d_mo_common_177 rfl ?_
    refine go_istore (q := 180) (L' := [some (mv_R o), some (mv_I (a : Int)), some (mv_I (b : Int)), some (mv_I (w : Int)), some (mv_I 0), none]) d_mo_common_178 rfl (by decide) rfl ?_
    exact k1 c9 _ hV_13 fr_12

set_option maxRecDepth 4000 in
theorem sv_common_180 {φ : go_F} {l : Launch} {h : mv_H} {n : Nat} {o : Nat} {I tx S ps cs bs : Nat → Int} {V : Nat → Nat} {a b w k : Nat} (hV : mo_V h o (I, tx, S, ps, cs, bs) V) (hw : w < 600 ∧ k ≤ w) (hs : k < w → V 154 + V 154 < 10000 ^ 40)
    (k0 : (w : Int) ≤ (k : Int) → Go φ l m_mo_common (go_rm rd_mo_common rw_mo_common 0 0) (0, 0) 202 [some (mv_R o), some (mv_I (a : Int)), some (mv_I (b : Int)), some (mv_I (w : Int)), some (mv_I (k : Int)), none] [] h n)
    (k1 : ¬ (w : Int) ≤ (k : Int) → ∀ h' : mv_H, mo_V h' o (I, tx, S, ps, cs, bs) (va_up V 154 ((V 154) + (V 154))) → fr_ o 8 h h' → Go φ l m_mo_common (go_rm rd_mo_common rw_mo_common 0 0) (0, 0) 180 [some (mv_R o), some (mv_I (a : Int)), some (mv_I (b : Int)), some (mv_I (w : Int)), some (mv_I ((k : Int) + 1)), none] [] h' n) :
    Go φ l m_mo_common (go_rm rd_mo_common rw_mo_common 0 0) (0, 0) 180 [some (mv_R o), some (mv_I (a : Int)), some (mv_I (b : Int)), some (mv_I (w : Int)), some (mv_I (k : Int)), none] [] h n := by
  refine go_iload (q := 182) d_mo_common_180 rfl rfl ?_
  refine go_iload_n (q := 183) d_mo_common_182 rfl rfl rfl ?_
  refine go_icmp_ge (t := 202) (q := 186) d_mo_common_183 (by decide) rfl (by omega) (by omega) (fun c1 => ?_) (fun c1 => ?_)
  ·
    exact k0 c1
  ·
    refine go_aload_n (q := 187) d_mo_common_186 rfl rfl rfl ?_
    refine go_sipush (q := 190) d_mo_common_187 rfl (by decide) ?_
    refine go_sipush (q := 193) d_mo_common_190 rfl (by decide) ?_
    refine cl_addTo (a := 154) (b := 154) (q := 196) rfl d_mo_common_193 rfl hV (by omega) (by omega) (by rw [(show V 154 = V 154 from rfl)]; omega) (Nat.le_of_ble_eq_true rfl) ⟨by decide, by decide, by decide, by decide⟩ (fun h_2 hV_3 fr_4 => ?_)
    have hV_5 : mo_V h_2 o (I, tx, S, ps, cs, bs) (va_up V 154 ((V 154) + (V 154))) := by
      have e_ : (V) 154 + (V) 154 = (V 154) + (V 154) := by rw [(show V 154 = V 154 from rfl)]
      rw [← e_]
      exact hV_3
    refine go_iinc (q := 199) (L' := [some (mv_R o), some (mv_I (a : Int)), some (mv_I (b : Int)), some (mv_I (w : Int)), some (mv_I ((k : Int) + 1)), none]) d_mo_common_196 rfl (by decide) rfl rfl ?_
    refine go_goto (q := 180) d_mo_common_199 (by decide) ?_
    exact k1 c1 _ hV_5 fr_4

