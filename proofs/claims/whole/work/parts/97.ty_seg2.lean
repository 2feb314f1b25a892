set_option maxRecDepth 4000 in
theorem sp_ty_0 {φ : go_F} {l : Launch} {h : mv_H} {n : Nat} {I tx wr ga gb mo mf mg : Nat → Int} {B : Nat → Int} {V : Nat → Nat} {z : Int} (hV : pn_V h (I, tx, wr, ga, gb, mo, mf, mg) B V) 
    (k0 : Go φ l m_pn_type (go_rm rd_pn_type rw_pn_type 0 0) (0, 0) 2 [some (mv_R 1), some (mv_L z), none, some (mv_I 0), none] [] h n) :
    Go φ l m_pn_type (go_rm rd_pn_type rw_pn_type 0 0) (0, 0) 0 [some (mv_R 1), some (mv_L z), none, none, none] [] h n := by
  refine go_iconst (q := 1) d_pn_type_0 rfl ?_
  refine go_istore_n (q := 2) (L' := [some (mv_R 1), some (mv_L z), none, some (mv_I 0), none]) d_pn_type_1 rfl rfl (by decide) rfl ?_
  exact k0 

set_option maxRecDepth 4000 in
theorem sp_ty_2 {φ : go_F} {l : Launch} {h : mv_H} {n : Nat} {I tx wr ga gb mo mf mg : Nat → Int} {B : Nat → Int} {V : Nat → Nat} {z : Int} {i : Nat} (hV : pn_V h (I, tx, wr, ga, gb, mo, mf, mg) B V) (hi : i ≤ 8)
    (k0 : 8 ≤ (i : Int) → Go φ l m_pn_type (go_rm rd_pn_type rw_pn_type 0 0) (0, 0) 45 [some (mv_R 1), some (mv_L z), none, some (mv_I (i : Int)), none] [] h n)
    (k1 : ¬ 8 ≤ (i : Int) → cb_ z i = 0 → Go φ l m_pn_type (go_rm rd_pn_type rw_pn_type 0 0) (0, 0) 45 [some (mv_R 1), some (mv_L z), none, some (mv_I (i : Int)), none] [] h n)
    (k2 : ¬ 8 ≤ (i : Int) → ¬ cb_ z i = 0 → cb_ z i < 32 → Go φ l m_pn_type (go_rm rd_pn_type rw_pn_type 0 0) (0, 0) 38 [some (mv_R 1), some (mv_L z), none, some (mv_I (i : Int)), some (mv_I (cb_ z i))] [mv_I 0] h n)
    (k3 : ¬ 8 ≤ (i : Int) → ¬ cb_ z i = 0 → ¬ cb_ z i < 32 → cb_ z i ≤ 126 → Go φ l m_pn_type (go_rm rd_pn_type rw_pn_type 0 0) (0, 0) 2 [some (mv_R 1), some (mv_L z), none, some (mv_I ((i : Int) + 1)), none] [] h n)
    (k4 : ¬ 8 ≤ (i : Int) → ¬ cb_ z i = 0 → ¬ cb_ z i < 32 → ¬ cb_ z i ≤ 126 → Go φ l m_pn_type (go_rm rd_pn_type rw_pn_type 0 0) (0, 0) 38 [some (mv_R 1), some (mv_L z), none, some (mv_I (i : Int)), some (mv_I (cb_ z i))] [mv_I 0] h n) :
    Go φ l m_pn_type (go_rm rd_pn_type rw_pn_type 0 0) (0, 0) 2 [some (mv_R 1), some (mv_L z), none, some (mv_I (i : Int)), none] [] h n := by
  refine go_iload_n (q := 3) d_pn_type_2 rfl rfl rfl ?_
  refine go_bipush (q := 5) d_pn_type_3 rfl (by decide) ?_
  refine go_icmp_ge (t := 45) (q := 8) d_pn_type_5 (by decide) rfl (by omega) (by omega) (fun c1 => ?_) (fun c1 => ?_)
  ·
    exact k0 c1
  ·
    refine go_lload_n (q := 9) d_pn_type_8 rfl rfl rfl ?_
    refine go_iload_n (q := 10) d_pn_type_9 rfl rfl rfl ?_
    refine cp_chr (z := z) (i := i) (q := 13) l_pn_45 d_pn_type_10 rfl (by omega) (Nat.le_of_ble_eq_true rfl) ⟨by decide, by decide, by decide, by decide⟩ ?_
    have q_2 := cb_b z i
    refine go_if_eq (t := 45) (q := 16) d_pn_type_13 (by decide) rfl (by omega) (fun c3 => ?_) (fun c3 => ?_)
    ·
      exact k1 c1 c3
    ·
      refine go_lload_n (q := 17) d_pn_type_16 rfl rfl rfl ?_
      refine go_iload_n (q := 18) d_pn_type_17 rfl rfl rfl ?_
      refine cp_chr (z := z) (i := i) (q := 21) l_pn_45 d_pn_type_18 rfl (by omega) (Nat.le_of_ble_eq_true rfl) ⟨by decide, by decide, by decide, by decide⟩ ?_
      have q_4 := cb_b z i
      refine go_istore (q := 23) (L' := [some (mv_R 1), some (mv_L z), none, some (mv_I (i : Int)), some (mv_I (cb_ z i))]) d_pn_type_21 rfl (by decide) rfl ?_
      refine go_iload (q := 25) d_pn_type_23 rfl rfl ?_
      refine go_bipush (q := 27) d_pn_type_25 rfl (by decide) ?_
      refine go_icmp_lt (t := 37) (q := 30) d_pn_type_27 (by decide) rfl (by omega) (by omega) (fun c5 => ?_) (fun c5 => ?_)
      ·
        refine go_iconst (q := 38) d_pn_type_37 rfl ?_
        exact k2 c1 c3 c5
      ·
        refine go_iload (q := 32) d_pn_type_30 rfl rfl ?_
        refine go_bipush (q := 34) d_pn_type_32 rfl (by decide) ?_
        refine go_icmp_le (t := 39) (q := 37) d_pn_type_34 (by decide) rfl (by omega) (by omega) (fun c6 => ?_) (fun c6 => ?_)
        ·
          refine go_iinc (q := 42) (L' := [some (mv_R 1), some (mv_L z), none, some (mv_I ((i : Int) + 1)), some (mv_I (cb_ z i))]) d_pn_type_39 rfl (by decide) rfl rfl ?_
          refine go_goto (q := 2) d_pn_type_42 (by decide) ?_
          refine go_fg 4 (L' := [some (mv_R 1), some (mv_L z), none, some (mv_I ((i : Int) + 1)), none]) rfl ?_
          exact k3 c1 c3 c5 c6
        ·
          refine go_iconst (q := 38) d_pn_type_37 rfl ?_
          exact k4 c1 c3 c5 c6

set_option maxRecDepth 4000 in
theorem sp_ty_45 {φ : go_F} {l : Launch} {h : mv_H} {n : Nat} {I tx wr ga gb mo mf mg : Nat → Int} {B : Nat → Int} {V : Nat → Nat} {z : Int} {i len : Nat} (hV : pn_V h (I, tx, wr, ga, gb, mo, mf, mg) B V) (hi : i ≤ 8) (hL : I 0 = (len : Int) ∧ len ≤ 120)
    (k0 : (I 0) + (i : Int) ≤ 120 → Go φ l m_pn_type (go_rm rd_pn_type rw_pn_type 0 0) (0, 0) 61 [some (mv_R 1), some (mv_L z), none, some (mv_I (i : Int)), some (mv_I 0)] [] h n)
    (k1 : ¬ (I 0) + (i : Int) ≤ 120 → Go φ l m_pn_type (go_rm rd_pn_type rw_pn_type 0 0) (0, 0) 57 [some (mv_R 1), some (mv_L z), none, some (mv_I (i : Int)), none] [mv_I 0] h n) :
    Go φ l m_pn_type (go_rm rd_pn_type rw_pn_type 0 0) (0, 0) 45 [some (mv_R 1), some (mv_L z), none, some (mv_I (i : Int)), none] [] h n := by
  refine go_aload_n (q := 46) d_pn_type_45 rfl rfl rfl ?_
  refine go_getf (v := mv_I (I 0)) (q := 49) f_pn_49 d_pn_type_46 rfl (pn_c1 hV) rfl ?_
  refine go_iload_n (q := 50) d_pn_type_49 rfl rfl rfl ?_
  refine go_iadd (q := 51) d_pn_type_50 rfl ?_
  refine go_bipush (q := 53) d_pn_type_51 rfl (by decide) ?_
  refine go_icmp_le (t := 58) (q := 56) d_pn_type_53 (by decide) rfl (by omega) (by omega) (fun c1 => ?_) (fun c1 => ?_)
  ·
    refine go_iconst (q := 59) d_pn_type_58 rfl ?_
    refine go_istore (q := 61) (L' := [some (mv_R 1), some (mv_L z), none, some (mv_I (i : Int)), some (mv_I 0)]) d_pn_type_59 rfl (by decide) rfl ?_
    exact k0 c1
  ·
    refine go_iconst (q := 57) d_pn_type_56 rfl ?_
    exact k1 c1

set_option maxRecDepth 4000 in
theorem sp_ty_61 {φ : go_F} {l : Launch} {h : mv_H} {n : Nat} {I tx wr ga gb mo mf mg : Nat → Int} {B : Nat → Int} {V : Nat → Nat} {z : Int} {i k len : Nat} (hV : pn_V h (I, tx, wr, ga, gb, mo, mf, mg) B V) (hi : i ≤ 8 ∧ k ≤ i) (hL : I 0 = (len : Int) ∧ len ≤ 120) (hs : len + i ≤ 120)
    (k0 : (i : Int) ≤ (k : Int) → ∀ h' : mv_H, pn_V h' (va_up I 0 ((I 0) + (i : Int)), tx, wr, ga, gb, mo, mf, mg) B V → fr_ 1 389 h h' → Go φ l m_pn_type (go_rm rd_pn_type rw_pn_type 0 0) (0, 0) 103 [some (mv_R 1), some (mv_L z), none, some (mv_I (i : Int)), some (mv_I (k : Int))] [mv_I 1] h' n)
    (k1 : ¬ (i : Int) ≤ (k : Int) → ∀ h' : mv_H, pn_V h' (I, va_up tx (len + k) (cb_ z k), wr, ga, gb, mo, mf, mg) B V → fr_ 1 389 h h' → Go φ l m_pn_type (go_rm rd_pn_type rw_pn_type 0 0) (0, 0) 61 [some (mv_R 1), some (mv_L z), none, some (mv_I (i : Int)), some (mv_I ((k : Int) + 1))] [] h' n) :
    Go φ l m_pn_type (go_rm rd_pn_type rw_pn_type 0 0) (0, 0) 61 [some (mv_R 1), some (mv_L z), none, some (mv_I (i : Int)), some (mv_I (k : Int))] [] h n := by
  refine go_iload (q := 63) d_pn_type_61 rfl rfl ?_
  refine go_iload_n (q := 64) d_pn_type_63 rfl rfl rfl ?_
  refine go_icmp_ge (t := 92) (q := 67) d_pn_type_64 (by decide) rfl (by omega) (by omega) (fun c1 => ?_) (fun c1 => ?_)
  ·
    refine go_aload_n (q := 93) d_pn_type_92 rfl rfl rfl ?_
    refine go_dup (q := 94) d_pn_type_93 rfl rfl ?_
    refine go_getf (v := mv_I (I 0)) (q := 97) f_pn_49 d_pn_type_94 rfl (pn_c1 hV) rfl ?_
    refine go_iload_n (q := 98) d_pn_type_97 rfl rfl rfl ?_
    refine go_iadd (q := 99) d_pn_type_98 rfl ?_
    refine go_putf (q := 102) (v := mv_I ((I 0) + (i : Int))) f_pn_49 d_pn_type_99 rfl (pn_c1 hV) (Nat.le_of_ble_eq_true rfl) (go_fitI _) ?_
    refine go_eq (h' := va_up h 1 (mv_O 7 [mv_R 2, mv_I ((va_up I 0 ((I 0) + (i : Int))) 0), mv_I ((va_up I 0 ((I 0) + (i : Int))) 1), mv_R 3, mv_R 8, mv_R 12, mv_R 15])) ?_
    have hV_3 := pn_u1 hV (va_up I 0 ((I 0) + (i : Int))) (fun i_ h_0 h_1 => va_up_ne _ _ h_0)
    have fr_4 : fr_ 1 389 h (va_up h 1 (mv_O 7 [mv_R 2, mv_I ((va_up I 0 ((I 0) + (i : Int))) 0), mv_I ((va_up I 0 ((I 0) + (i : Int))) 1), mv_R 3, mv_R 8, mv_R 12, mv_R 15])) := fun z_ hz => va_up_ne _ _ (by omega)
    generalize va_up h 1 (mv_O 7 [mv_R 2, mv_I ((va_up I 0 ((I 0) + (i : Int))) 0), mv_I ((va_up I 0 ((I 0) + (i : Int))) 1), mv_R 3, mv_R 8, mv_R 12, mv_R 15]) = h_2 at hV_3 fr_4 ⊢
    refine go_iconst (q := 103) d_pn_type_102 rfl ?_
    exact k0 c1 _ hV_3 fr_4
  ·
    refine go_aload_n (q := 68) d_pn_type_67 rfl rfl rfl ?_
    refine go_getf (v := mv_R 2) (q := 71) f_pn_9 d_pn_type_68 rfl (pn_c1 hV) rfl ?_
    refine go_aload_n (q := 72) d_pn_type_71 rfl rfl rfl ?_
    refine go_getf (v := mv_I (I 0)) (q := 75) f_pn_49 d_pn_type_72 rfl (pn_c1 hV) rfl ?_
    refine go_iload (q := 77) d_pn_type_75 rfl rfl ?_
    refine go_iadd (q := 78) d_pn_type_77 rfl ?_
    refine go_lload_n (q := 79) d_pn_type_78 rfl rfl rfl ?_
    refine go_iload (q := 81) d_pn_type_79 rfl rfl ?_
    refine cp_chr (z := z) (i := k) (q := 84) l_pn_45 d_pn_type_81 rfl (by omega) (Nat.le_of_ble_eq_true rfl) ⟨by decide, by decide, by decide, by decide⟩ ?_
    have q_5 := cb_b z k
    refine go_i2c (q := 85) d_pn_type_84 rfl (by omega) ?_
    refine go_cast (i := len + k) (q := 86) d_pn_type_85 rfl (pn_c2 hV) (by omega) (by omega) (by omega) (by omega) ?_
    have hV_7 := pn_u2 hV (va_up tx (len + k) (cb_ z k))
    have fr_8 : fr_ 1 389 h (va_up h 2 (mv_A 2 120 (va_up tx (len + k) (cb_ z k)))) := fun z_ hz => va_up_ne _ _ (by omega)
    generalize va_up h 2 (mv_A 2 120 (va_up tx (len + k) (cb_ z k))) = h_6 at hV_7 fr_8 ⊢
    refine go_iinc (q := 89) (L' := [some (mv_R 1), some (mv_L z), none, some (mv_I (i : Int)), some (mv_I ((k : Int) + 1))]) d_pn_type_86 rfl (by decide) rfl rfl ?_
    refine go_goto (q := 61) d_pn_type_89 (by decide) ?_
    exact k1 c1 _ hV_7 fr_8

set_option maxRecDepth 4000 in
theorem sp_er {φ : go_F} {l : Launch} {h : mv_H} {n : Nat} {I tx wr ga gb mo mf mg : Nat → Int} {B : Nat → Int} {V : Nat → Nat}  (hV : pn_V h (I, tx, wr, ga, gb, mo, mf, mg) B V) 
    (k0 : ∀ h' : mv_H, pn_V h' (va_up I 0 0, tx, wr, ga, gb, mo, mf, mg) B V → fr_ 1 389 h h' → Go φ l m_pn_erase (go_rm rd_pn_erase rw_pn_erase 0 0) (0, 0) 11 [some (mv_R 1), some (mv_I (I 0))] [mv_I (I 0)] h' n) :
    Go φ l m_pn_erase (go_rm rd_pn_erase rw_pn_erase 0 0) (0, 0) 0 [some (mv_R 1), none] [] h n := by
  refine go_aload_n (q := 1) d_pn_erase_0 rfl rfl rfl ?_
  refine go_getf (v := mv_I (I 0)) (q := 4) f_pn_49 d_pn_erase_1 rfl (pn_c1 hV) rfl ?_
  refine go_istore_n (q := 5) (L' := [some (mv_R 1), some (mv_I (I 0))]) d_pn_erase_4 rfl rfl (by decide) rfl ?_
  refine go_aload_n (q := 6) d_pn_erase_5 rfl rfl rfl ?_
  refine go_iconst (q := 7) d_pn_erase_6 rfl ?_
  refine go_putf (q := 10) (v := mv_I 0) f_pn_49 d_pn_erase_7 rfl (pn_c1 hV) (Nat.le_of_ble_eq_true rfl) (go_fitI _) ?_
  refine go_eq (h' := va_up h 1 (mv_O 7 [mv_R 2, mv_I ((va_up I 0 0) 0), mv_I ((va_up I 0 0) 1), mv_R 3, mv_R 8, mv_R 12, mv_R 15])) ?_
  have hV_2 := pn_u1 hV (va_up I 0 0) (fun i_ h_0 h_1 => va_up_ne _ _ h_0)
  have fr_3 : fr_ 1 389 h (va_up h 1 (mv_O 7 [mv_R 2, mv_I ((va_up I 0 0) 0), mv_I ((va_up I 0 0) 1), mv_R 3, mv_R 8, mv_R 12, mv_R 15])) := fun z_ hz => va_up_ne _ _ (by omega)
  generalize va_up h 1 (mv_O 7 [mv_R 2, mv_I ((va_up I 0 0) 0), mv_I ((va_up I 0 0) 1), mv_R 3, mv_R 8, mv_R 12, mv_R 15]) = h_1 at hV_2 fr_3 ⊢
  refine go_iload_n (q := 11) d_pn_erase_10 rfl rfl rfl ?_
  exact k0  _ hV_2 fr_3

set_option maxRecDepth 4000 in
theorem sp_fa {φ : go_F} {l : Launch} {h : mv_H} {n : Nat} {I tx wr ga gb mo mf mg : Nat → Int} {B : Nat → Int} {V : Nat → Nat}  (hV : pn_V h (I, tx, wr, ga, gb, mo, mf, mg) B V) 
    (k0 : Go φ l m_pn_fault (go_rm rd_pn_fault rw_pn_fault 0 0) (0, 0) 4 [some (mv_R 1)] [mv_I (I 1)] h n) :
    Go φ l m_pn_fault (go_rm rd_pn_fault rw_pn_fault 0 0) (0, 0) 0 [some (mv_R 1)] [] h n := by
  refine go_aload_n (q := 1) d_pn_fault_0 rfl rfl rfl ?_
  refine go_getf (v := mv_I (I 1)) (q := 4) f_pn_13 d_pn_fault_1 rfl (pn_c1 hV) rfl ?_
  exact k0 

set_option maxRecDepth 4000 in
theorem so_ty_0 {φ : go_F} {l : Launch} {h : mv_H} {n : Nat} {o : Nat} {I tx S ps cs bs : Nat → Int} {V : Nat → Nat} {z : Int} (hV : mo_V h o (I, tx, S, ps, cs, bs) V) 
    (k0 : ∀ h' : mv_H, mo_V h' o (va_up I 0 0, tx, S, ps, cs, bs) (V) → fr_ o 8 h h' → Go φ l m_mo_type (go_rm rd_mo_type rw_mo_type 0 0) (0, 0) 10 [some (mv_R o), some (mv_L z), none, some (mv_I 0), some (mv_I 1), none] [] h' n) :
    Go φ l m_mo_type (go_rm rd_mo_type rw_mo_type 0 0) (0, 0) 0 [some (mv_R o), some (mv_L z), none, none, none, none] [] h n := by
  refine go_aload_n (q := 1) d_mo_type_0 rfl rfl rfl ?_
  refine go_iconst (q := 2) d_mo_type_1 rfl ?_
  refine go_putf (q := 5) (v := mv_I 0) f_mo_42 d_mo_type_2 rfl (mv_c0 hV) (Nat.le_of_ble_eq_true rfl) (go_fitI _) ?_
  have hV_2 := mv_u0 hV (va_up I 0 0)
  refine go_eq (h' := va_up h o (mv_O 8 [mv_I ((va_up I 0 0) 0), mv_I ((va_up I 0 0) 1), mv_R (o + 1), mv_I ((va_up I 0 0) 2), mv_R (o + 2), mv_R (o + 3), mv_R (o + 4), mv_R (o + 5), mv_R (o + 6), mv_R (o + 7), mv_I ((va_up I 0 0) 3), mv_I ((va_up I 0 0) 4), mv_I ((va_up I 0 0) 5)])) ?_
  have fr_3 : fr_ o 8 h (va_up h o (mv_O 8 [mv_I ((va_up I 0 0) 0), mv_I ((va_up I 0 0) 1), mv_R (o + 1), mv_I ((va_up I 0 0) 2), mv_R (o + 2), mv_R (o + 3), mv_R (o + 4), mv_R (o + 5), mv_R (o + 6), mv_R (o + 7), mv_I ((va_up I 0 0) 3), mv_I ((va_up I 0 0) 4), mv_I ((va_up I 0 0) 5)])) := fun z_ hz => va_up_ne _ _ (by omega)
  generalize va_up h o (mv_O 8 [mv_I ((va_up I 0 0) 0), mv_I ((va_up I 0 0) 1), mv_R (o + 1), mv_I ((va_up I 0 0) 2), mv_R (o + 2), mv_R (o + 3), mv_R (o + 4), mv_R (o + 5), mv_R (o + 6), mv_R (o + 7), mv_I ((va_up I 0 0) 3), mv_I ((va_up I 0 0) 4), mv_I ((va_up I 0 0) 5)]) = h_1 at hV_2 fr_3 ⊢
  refine go_iconst (q := 6) d_mo_type_5 rfl ?_
  refine go_istore_n (q := 7) (L' := [some (mv_R o), some (mv_L z), none, some (mv_I 0), none, none]) d_mo_type_6 rfl rfl (by decide) rfl ?_
  refine go_iconst (q := 8) d_mo_type_7 rfl ?_
  refine go_istore (q := 10) (L' := [some (mv_R o), some (mv_L z), none, some (mv_I 0), some (mv_I 1), none]) d_mo_type_8 rfl (by decide) rfl ?_
  exact k0  _ hV_2 fr_3

set_option maxRecDepth 4000 in
theorem so_ty_10 {φ : go_F} {l : Launch} {h : mv_H} {n : Nat} {o : Nat} {I tx S ps cs bs : Nat → Int} {V : Nat → Nat} {z g : Int} {i : Nat} (hV : mo_V h o (I, tx, S, ps, cs, bs) V) (hz : -9223372036854775808 ≤ z ∧ z ≤ 9223372036854775807) (hi : i ≤ 8)
    (k0 : 8 ≤ (i : Int) → Go φ l m_mo_type (go_rm rd_mo_type rw_mo_type 0 0) (0, 0) 77 [some (mv_R o), some (mv_L z), none, some (mv_I (i : Int)), some (mv_I g), none] [] h n)
    (k1 : ¬ 8 ≤ (i : Int) → Go φ l m_mo_type (go_rm rd_mo_type rw_mo_type 0 0) (0, 0) 27 [some (mv_R o), some (mv_L z), none, some (mv_I (i : Int)), some (mv_I g), none] [mv_L 0, mv_L ((z / ((2 ^ (8 * i) : Nat) : Int)) % 256)] h n) :
    Go φ l m_mo_type (go_rm rd_mo_type rw_mo_type 0 0) (0, 0) 10 [some (mv_R o), some (mv_L z), none, some (mv_I (i : Int)), some (mv_I g), none] [] h n := by
  refine go_iload_n (q := 11) d_mo_type_10 rfl rfl rfl ?_
  refine go_bipush (q := 13) d_mo_type_11 rfl (by decide) ?_
  refine go_icmp_ge (t := 77) (q := 16) d_mo_type_13 (by decide) rfl (by omega) (by omega) (fun c1 => ?_) (fun c1 => ?_)
  ·
    exact k0 c1
  ·
    refine go_lload_n (q := 17) d_mo_type_16 rfl rfl rfl ?_
    refine go_bipush (q := 19) d_mo_type_17 rfl (by decide) ?_
    refine go_iload_n (q := 20) d_mo_type_19 rfl rfl rfl ?_
    refine go_imul (q := 21) d_mo_type_20 rfl ?_
    refine go_lshr (z := z / ((2 ^ (8 * i) : Nat) : Int)) (q := 22) d_mo_type_21 rfl (gn_shrL (8 * i) (by omega) (by omega) rfl hz) ?_
    refine go_ldc2 (z := 255) (q := 25) d_mo_type_22 rfl tw_4_137 (by decide) ?_
    refine go_land (z := (z / ((2 ^ (8 * i) : Nat) : Int)) % 256) (q := 26) d_mo_type_25 rfl (gn_maskZ 8 (by decide) (by decide) (by decide)) ?_
    refine go_lconst (z := 0) (q := 27) d_mo_type_26 rfl (by decide) ?_
    exact k1 c1

set_option maxRecDepth 4000 in
theorem so_ty_31 {φ : go_F} {l : Launch} {h : mv_H} {n : Nat} {o : Nat} {I tx S ps cs bs : Nat → Int} {V : Nat → Nat} {z g : Int} {i : Nat} (hV : mo_V h o (I, tx, S, ps, cs, bs) V) (hz : -9223372036854775808 ≤ z ∧ z ≤ 9223372036854775807) (hi : i < 8) (hg : 0 ≤ g ∧ g ≤ 1)
    (k0 : Go φ l m_mo_type (go_rm rd_mo_type rw_mo_type 0 0) (0, 0) 44 [some (mv_R o), some (mv_L z), none, some (mv_I (i : Int)), some (mv_I g), some (mv_I ((z / ((2 ^ (8 * i) : Nat) : Int)) % 256))] [] h n) :
    Go φ l m_mo_type (go_rm rd_mo_type rw_mo_type 0 0) (0, 0) 31 [some (mv_R o), some (mv_L z), none, some (mv_I (i : Int)), some (mv_I g), none] [] h n := by
  refine go_lload_n (q := 32) d_mo_type_31 rfl rfl rfl ?_
  refine go_bipush (q := 34) d_mo_type_32 rfl (by decide) ?_
  refine go_iload_n (q := 35) d_mo_type_34 rfl rfl rfl ?_
  refine go_imul (q := 36) d_mo_type_35 rfl ?_
  refine go_lshr (z := z / ((2 ^ (8 * i) : Nat) : Int)) (q := 37) d_mo_type_36 rfl (gn_shrL (8 * i) (by omega) (by omega) rfl hz) ?_
  refine go_ldc2 (z := 255) (q := 40) d_mo_type_37 rfl tw_4_137 (by decide) ?_
  refine go_land (z := (z / ((2 ^ (8 * i) : Nat) : Int)) % 256) (q := 41) d_mo_type_40 rfl (gn_maskZ 8 (by decide) (by decide) (by decide)) ?_
  refine go_l2i (q := 42) d_mo_type_41 rfl ?_
  refine go_istore (q := 44) (L' := [some (mv_R o), some (mv_L z), none, some (mv_I (i : Int)), some (mv_I g), some (mv_I ((z / ((2 ^ (8 * i) : Nat) : Int)) % 256))]) d_mo_type_42 rfl (by decide) rfl ?_
  exact k0 

set_option maxRecDepth 4000 in
theorem so_ty_44 {φ : go_F} {l : Launch} {h : mv_H} {n : Nat} {o : Nat} {I tx S ps cs bs : Nat → Int} {V : Nat → Nat} {z g c : Int} {i : Nat} (hV : mo_V h o (I, tx, S, ps, cs, bs) V) (hg : 0 ≤ g ∧ g ≤ 1) (hc : 0 ≤ c ∧ c ≤ 255)
    (k0 : g = 0 → Go φ l m_mo_type (go_rm rd_mo_type rw_mo_type 0 0) (0, 0) 10 [some (mv_R o), some (mv_L z), none, some (mv_I ((i : Int) + 1)), some (mv_I 0), none] [] h n)
    (k1 : ¬ g = 0 → c < 32 → Go φ l m_mo_type (go_rm rd_mo_type rw_mo_type 0 0) (0, 0) 10 [some (mv_R o), some (mv_L z), none, some (mv_I ((i : Int) + 1)), some (mv_I 0), none] [] h n)
    (k2 : ¬ g = 0 → ¬ c < 32 → 126 < c → Go φ l m_mo_type (go_rm rd_mo_type rw_mo_type 0 0) (0, 0) 10 [some (mv_R o), some (mv_L z), none, some (mv_I ((i : Int) + 1)), some (mv_I 0), none] [] h n)
    (k3 : ¬ g = 0 → ¬ c < 32 → ¬ 126 < c → Go φ l m_mo_type (go_rm rd_mo_type rw_mo_type 0 0) (0, 0) 10 [some (mv_R o), some (mv_L z), none, some (mv_I ((i : Int) + 1)), some (mv_I 1), none] [] h n) :
    Go φ l m_mo_type (go_rm rd_mo_type rw_mo_type 0 0) (0, 0) 44 [some (mv_R o), some (mv_L z), none, some (mv_I (i : Int)), some (mv_I g), some (mv_I c)] [] h n := by
  refine go_iload (q := 46) d_mo_type_44 rfl rfl ?_
  refine go_if_eq (t := 67) (q := 49) d_mo_type_46 (by decide) rfl (by omega) (fun c1 => ?_) (fun c1 => ?_)
  ·
    refine go_iconst (q := 68) d_mo_type_67 rfl ?_
    refine go_istore (q := 70) (L' := [some (mv_R o), some (mv_L z), none, some (mv_I (i : Int)), some (mv_I 0), some (mv_I c)]) d_mo_type_68 rfl (by decide) rfl ?_
    refine go_iload_n (q := 71) d_mo_type_70 rfl rfl rfl ?_
    refine go_iconst (q := 72) d_mo_type_71 rfl ?_
    refine go_iadd (q := 73) d_mo_type_72 rfl ?_
    refine go_istore_n (q := 74) (L' := [some (mv_R o), some (mv_L z), none, some (mv_I ((i : Int) + 1)), some (mv_I 0), some (mv_I c)]) d_mo_type_73 rfl rfl (by decide) rfl ?_
    refine go_goto (q := 10) d_mo_type_74 (by decide) ?_
    refine go_fg 5 (L' := [some (mv_R o), some (mv_L z), none, some (mv_I ((i : Int) + 1)), some (mv_I 0), none]) rfl ?_
    exact k0 c1
  ·
    refine go_iload (q := 51) d_mo_type_49 rfl rfl ?_
    refine go_bipush (q := 53) d_mo_type_51 rfl (by decide) ?_
    refine go_icmp_lt (t := 67) (q := 56) d_mo_type_53 (by decide) rfl (by omega) (by omega) (fun c2 => ?_) (fun c2 => ?_)
    ·
      refine go_iconst (q := 68) d_mo_type_67 rfl ?_
      refine go_istore (q := 70) (L' := [some (mv_R o), some (mv_L z), none, some (mv_I (i : Int)), some (mv_I 0), some (mv_I c)]) d_mo_type_68 rfl (by decide) rfl ?_
      refine go_iload_n (q := 71) d_mo_type_70 rfl rfl rfl ?_
      refine go_iconst (q := 72) d_mo_type_71 rfl ?_
      refine go_iadd (q := 73) d_mo_type_72 rfl ?_
      refine go_istore_n (q := 74) (L' := [some (mv_R o), some (mv_L z), none, some (mv_I ((i : Int) + 1)), some (mv_I 0), some (mv_I c)]) d_mo_type_73 rfl rfl (by decide) rfl ?_
      refine go_goto (q := 10) d_mo_type_74 (by decide) ?_
      refine go_fg 5 (L' := [some (mv_R o), some (mv_L z), none, some (mv_I ((i : Int) + 1)), some (mv_I 0), none]) rfl ?_
      exact k1 c1 c2
    ·
      refine go_iload (q := 58) d_mo_type_56 rfl rfl ?_
      refine go_bipush (q := 60) d_mo_type_58 rfl (by decide) ?_
      refine go_icmp_gt (t := 67) (q := 63) d_mo_type_60 (by decide) rfl (by omega) (by omega) (fun c3 => ?_) (fun c3 => ?_)
      ·
        refine go_iconst (q := 68) d_mo_type_67 rfl ?_
        refine go_istore (q := 70) (L' := [some (mv_R o), some (mv_L z), none, some (mv_I (i : Int)), some (mv_I 0), some (mv_I c)]) d_mo_type_68 rfl (by decide) rfl ?_
        refine go_iload_n (q := 71) d_mo_type_70 rfl rfl rfl ?_
        refine go_iconst (q := 72) d_mo_type_71 rfl ?_
        refine go_iadd (q := 73) d_mo_type_72 rfl ?_
        refine go_istore_n (q := 74) (L' := [some (mv_R o), some (mv_L z), none, some (mv_I ((i : Int) + 1)), some (mv_I 0), some (mv_I c)]) d_mo_type_73 rfl rfl (by decide) rfl ?_
        refine go_goto (q := 10) d_mo_type_74 (by decide) ?_
        refine go_fg 5 (L' := [some (mv_R o), some (mv_L z), none, some (mv_I ((i : Int) + 1)), some (mv_I 0), none]) rfl ?_
        exact k2 c1 c2 c3
      ·
        refine go_iconst (q := 64) d_mo_type_63 rfl ?_
        refine go_goto (q := 68) d_mo_type_64 (by decide) ?_
        refine go_istore (q := 70) (L' := [some (mv_R o), some (mv_L z), none, some (mv_I (i : Int)), some (mv_I 1), some (mv_I c)]) d_mo_type_68 rfl (by decide) rfl ?_
        refine go_iload_n (q := 71) d_mo_type_70 rfl rfl rfl ?_
        refine go_iconst (q := 72) d_mo_type_71 rfl ?_
        refine go_iadd (q := 73) d_mo_type_72 rfl ?_
        refine go_istore_n (q := 74) (L' := [some (mv_R o), some (mv_L z), none, some (mv_I ((i : Int) + 1)), some (mv_I 1), some (mv_I c)]) d_mo_type_73 rfl rfl (by decide) rfl ?_
        refine go_goto (q := 10) d_mo_type_74 (by decide) ?_
        refine go_fg 5 (L' := [some (mv_R o), some (mv_L z), none, some (mv_I ((i : Int) + 1)), some (mv_I 1), none]) rfl ?_
        exact k3 c1 c2 c3

set_option maxRecDepth 4000 in
theorem so_ty_77 {φ : go_F} {l : Launch} {h : mv_H} {n : Nat} {o : Nat} {I tx S ps cs bs : Nat → Int} {V : Nat → Nat} {z g : Int} {i len : Nat} (hV : mo_V h o (I, tx, S, ps, cs, bs) V) (hi : i ≤ 8) (hg : 0 ≤ g ∧ g ≤ 1) (hL : I 1 = (len : Int) ∧ len ≤ 120)
    (k0 : g = 0 → Go φ l m_mo_type (go_rm rd_mo_type rw_mo_type 0 0) (0, 0) 94 [some (mv_R o), some (mv_L z), none, some (mv_I (i : Int)), some (mv_I g), none] [mv_I 0] h n)
    (k1 : ¬ g = 0 → (I 1) + (i : Int) ≤ 120 → Go φ l m_mo_type (go_rm rd_mo_type rw_mo_type 0 0) (0, 0) 98 [some (mv_R o), some (mv_L z), none, some (mv_I (i : Int)), some (mv_I g), some (mv_I 0)] [] h n)
    (k2 : ¬ g = 0 → ¬ (I 1) + (i : Int) ≤ 120 → Go φ l m_mo_type (go_rm rd_mo_type rw_mo_type 0 0) (0, 0) 94 [some (mv_R o), some (mv_L z), none, some (mv_I (i : Int)), some (mv_I g), none] [mv_I 0] h n) :
    Go φ l m_mo_type (go_rm rd_mo_type rw_mo_type 0 0) (0, 0) 77 [some (mv_R o), some (mv_L z), none, some (mv_I (i : Int)), some (mv_I g), none] [] h n := by
  refine go_iload (q := 79) d_mo_type_77 rfl rfl ?_
  refine go_if_eq (t := 93) (q := 82) d_mo_type_79 (by decide) rfl (by omega) (fun c1 => ?_) (fun c1 => ?_)
  ·
    refine go_iconst (q := 94) d_mo_type_93 rfl ?_
    exact k0 c1
  ·
    refine go_aload_n (q := 83) d_mo_type_82 rfl rfl rfl ?_
    refine go_getf (v := mv_I (I 1)) (q := 86) f_mo_93 d_mo_type_83 rfl (mv_c0 hV) rfl ?_
    refine go_iload_n (q := 87) d_mo_type_86 rfl rfl rfl ?_
    refine go_iadd (q := 88) d_mo_type_87 rfl ?_
    refine go_bipush (q := 90) d_mo_type_88 rfl (by decide) ?_
    refine go_icmp_le (t := 95) (q := 93) d_mo_type_90 (by decide) rfl (by omega) (by omega) (fun c2 => ?_) (fun c2 => ?_)
    ·
      refine go_iconst (q := 96) d_mo_type_95 rfl ?_
      refine go_istore (q := 98) (L' := [some (mv_R o), some (mv_L z), none, some (mv_I (i : Int)), some (mv_I g), some (mv_I 0)]) d_mo_type_96 rfl (by decide) rfl ?_
      exact k1 c1 c2
    ·
      refine go_iconst (q := 94) d_mo_type_93 rfl ?_
      exact k2 c1 c2

set_option maxRecDepth 4000 in
theorem so_ty_98 {φ : go_F} {l : Launch} {h : mv_H} {n : Nat} {o : Nat} {I tx S ps cs bs : Nat → Int} {V : Nat → Nat} {z g : Int} {i k len : Nat} (hV : mo_V h o (I, tx, S, ps, cs, bs) V) (hz : -9223372036854775808 ≤ z ∧ z ≤ 9223372036854775807) (hi : i ≤ 8 ∧ k ≤ i) (hL : I 1 = (len : Int) ∧ len ≤ 120) (hs : len + i ≤ 120)
    (k0 : (i : Int) ≤ (k : Int) → ∀ h' : mv_H, mo_V h' o (va_up I 1 ((I 1) + (i : Int)), tx, S, ps, cs, bs) (V) → fr_ o 8 h h' → Go φ l m_mo_type (go_rm rd_mo_type rw_mo_type 0 0) (0, 0) 145 [some (mv_R o), some (mv_L z), none, some (mv_I (i : Int)), some (mv_I g), some (mv_I (k : Int))] [mv_I 1] h' n)
    (k1 : ¬ (i : Int) ≤ (k : Int) → ∀ h' : mv_H, mo_V h' o (I, va_up tx (len + k) ((z / ((2 ^ (8 * k) : Nat) : Int)) % 256), S, ps, cs, bs) (V) → fr_ o 8 h h' → Go φ l m_mo_type (go_rm rd_mo_type rw_mo_type 0 0) (0, 0) 98 [some (mv_R o), some (mv_L z), none, some (mv_I (i : Int)), some (mv_I g), some (mv_I ((k : Int) + 1))] [] h' n) :
    Go φ l m_mo_type (go_rm rd_mo_type rw_mo_type 0 0) (0, 0) 98 [some (mv_R o), some (mv_L z), none, some (mv_I (i : Int)), some (mv_I g), some (mv_I (k : Int))] [] h n := by
  refine go_iload (q := 100) d_mo_type_98 rfl rfl ?_
  refine go_iload_n (q := 101) d_mo_type_100 rfl rfl rfl ?_
  refine go_icmp_ge (t := 134) (q := 104) d_mo_type_101 (by decide) rfl (by omega) (by omega) (fun c1 => ?_) (fun c1 => ?_)
  ·
    refine go_aload_n (q := 135) d_mo_type_134 rfl rfl rfl ?_
    refine go_aload_n (q := 136) d_mo_type_135 rfl rfl rfl ?_
    refine go_getf (v := mv_I (I 1)) (q := 139) f_mo_93 d_mo_type_136 rfl (mv_c0 hV) rfl ?_
    refine go_iload_n (q := 140) d_mo_type_139 rfl rfl rfl ?_
    refine go_iadd (q := 141) d_mo_type_140 rfl ?_
    refine go_putf (q := 144) (v := mv_I ((I 1) + (i : Int))) f_mo_93 d_mo_type_141 rfl (mv_c0 hV) (Nat.le_of_ble_eq_true rfl) (go_fitI _) ?_
    have hV_3 := mv_u0 hV (va_up I 1 ((I 1) + (i : Int)))
    refine go_eq (h' := va_up h o (mv_O 8 [mv_I ((va_up I 1 ((I 1) + (i : Int))) 0), mv_I ((va_up I 1 ((I 1) + (i : Int))) 1), mv_R (o + 1), mv_I ((va_up I 1 ((I 1) + (i : Int))) 2), mv_R (o + 2), mv_R (o + 3), mv_R (o + 4), mv_R (o + 5), mv_R (o + 6), mv_R (o + 7), mv_I ((va_up I 1 ((I 1) + (i : Int))) 3), mv_I ((va_up I 1 ((I 1) + (i : Int))) 4), mv_I ((va_up I 1 ((I 1) + (i : Int))) 5)])) ?_
    have fr_4 : fr_ o 8 h (va_up h o (mv_O 8 [mv_I ((va_up I 1 ((I 1) + (i : Int))) 0), mv_I ((va_up I 1 ((I 1) + (i : Int))) 1), mv_R (o + 1), mv_I ((va_up I 1 ((I 1) + (i : Int))) 2), mv_R (o + 2), mv_R (o + 3), mv_R (o + 4), mv_R (o + 5), mv_R (o + 6), mv_R (o + 7), mv_I ((va_up I 1 ((I 1) + (i : Int))) 3), mv_I ((va_up I 1 ((I 1) + (i : Int))) 4), mv_I ((va_up I 1 ((I 1) + (i : Int))) 5)])) := fun z_ hz => va_up_ne _ _ (by omega)
    generalize va_up h o (mv_O 8 [mv_I ((va_up I 1 ((I 1) + (i : Int))) 0), mv_I ((va_up I 1 ((I 1) + (i : Int))) 1), mv_R (o + 1), mv_I ((va_up I 1 ((I 1) + (i : Int))) 2), mv_R (o + 2), mv_R (o + 3), mv_R (o + 4), mv_R (o + 5), mv_R (o + 6), mv_R (o + 7), mv_I ((va_up I 1 ((I 1) + (i : Int))) 3), mv_I ((va_up I 1 ((I 1) + (i : Int))) 4), mv_I ((va_up I 1 ((I 1) + (i : Int))) 5)]) = h_2 at hV_3 fr_4 ⊢
    refine go_iconst (q := 145) d_mo_type_144 rfl ?_
    exact k0 c1 _ hV_3 fr_4
  ·
    refine go_aload_n (q := 105) d_mo_type_104 rfl rfl rfl ?_
    refine go_getf (v := mv_R (o + 1)) (q := 108) f_mo_7 d_mo_type_105 rfl (mv_c0 hV) rfl ?_
    refine go_aload_n (q := 109) d_mo_type_108 rfl rfl rfl ?_
    refine go_getf (v := mv_I (I 1)) (q := 112) f_mo_93 d_mo_type_109 rfl (mv_c0 hV) rfl ?_
    refine go_iload (q := 114) d_mo_type_112 rfl rfl ?_
    refine go_iadd (q := 115) d_mo_type_114 rfl ?_
    refine go_lload_n (q := 116) d_mo_type_115 rfl rfl rfl ?_
    refine go_bipush (q := 118) d_mo_type_116 rfl (by decide) ?_
    refine go_iload (q := 120) d_mo_type_118 rfl rfl ?_
    refine go_imul (q := 121) d_mo_type_120 rfl ?_
    refine go_lshr (z := z / ((2 ^ (8 * k) : Nat) : Int)) (q := 122) d_mo_type_121 rfl (gn_shrL (8 * k) (by omega) (by omega) rfl hz) ?_
    refine go_ldc2 (z := 255) (q := 125) d_mo_type_122 rfl tw_4_137 (by decide) ?_
    refine go_land (z := (z / ((2 ^ (8 * k) : Nat) : Int)) % 256) (q := 126) d_mo_type_125 rfl (gn_maskZ 8 (by decide) (by decide) (by decide)) ?_
    refine go_l2i (q := 127) d_mo_type_126 rfl ?_
    refine go_iast (i := len + k) (q := 128) d_mo_type_127 rfl (mv_c1 hV) (by omega) (by omega) (by omega) ?_
    have hV_6 := mv_u1 hV (va_up tx (len + k) ((z / ((2 ^ (8 * k) : Nat) : Int)) % 256))
    have fr_7 : fr_ o 8 h (va_up h (o + 1) (mv_A 0 121 (va_up tx (len + k) ((z / ((2 ^ (8 * k) : Nat) : Int)) % 256)))) := fun z_ hz => va_up_ne _ _ (by omega)
    generalize va_up h (o + 1) (mv_A 0 121 (va_up tx (len + k) ((z / ((2 ^ (8 * k) : Nat) : Int)) % 256))) = h_5 at hV_6 fr_7 ⊢
    refine go_iinc (q := 131) (L' := [some (mv_R o), some (mv_L z), none, some (mv_I (i : Int)), some (mv_I g), some (mv_I ((k : Int) + 1))]) d_mo_type_128 rfl (by decide) rfl rfl ?_
    refine go_goto (q := 98) d_mo_type_131 (by decide) ?_
    exact k1 c1 _ hV_6 fr_7

set_option maxRecDepth 4000 in
theorem so_er {φ : go_F} {l : Launch} {h : mv_H} {n : Nat} {o : Nat} {I tx S ps cs bs : Nat → Int} {V : Nat → Nat}  (hV : mo_V h o (I, tx, S, ps, cs, bs) V) 
    (k0 : ∀ h' : mv_H, mo_V h' o (va_up (va_up I 0 0) 1 0, tx, S, ps, cs, bs) (V) → fr_ o 8 h h' → Go φ l m_mo_erase (go_rm rd_mo_erase rw_mo_erase 0 0) (0, 0) 16 [some (mv_R o), some (mv_I (I 1))] [mv_I (I 1)] h' n) :
    Go φ l m_mo_erase (go_rm rd_mo_erase rw_mo_erase 0 0) (0, 0) 0 [some (mv_R o), none] [] h n := by
  refine go_aload_n (q := 1) d_mo_erase_0 rfl rfl rfl ?_
  refine go_iconst (q := 2) d_mo_erase_1 rfl ?_
  refine go_putf (q := 5) (v := mv_I 0) f_mo_42 d_mo_erase_2 rfl (mv_c0 hV) (Nat.le_of_ble_eq_true rfl) (go_fitI _) ?_
  have hV_2 := mv_u0 hV (va_up I 0 0)
  refine go_eq (h' := va_up h o (mv_O 8 [mv_I ((va_up I 0 0) 0), mv_I ((va_up I 0 0) 1), mv_R (o + 1), mv_I ((va_up I 0 0) 2), mv_R (o + 2), mv_R (o + 3), mv_R (o + 4), mv_R (o + 5), mv_R (o + 6), mv_R (o + 7), mv_I ((va_up I 0 0) 3), mv_I ((va_up I 0 0) 4), mv_I ((va_up I 0 0) 5)])) ?_
  have fr_3 : fr_ o 8 h (va_up h o (mv_O 8 [mv_I ((va_up I 0 0) 0), mv_I ((va_up I 0 0) 1), mv_R (o + 1), mv_I ((va_up I 0 0) 2), mv_R (o + 2), mv_R (o + 3), mv_R (o + 4), mv_R (o + 5), mv_R (o + 6), mv_R (o + 7), mv_I ((va_up I 0 0) 3), mv_I ((va_up I 0 0) 4), mv_I ((va_up I 0 0) 5)])) := fun z_ hz => va_up_ne _ _ (by omega)
  generalize va_up h o (mv_O 8 [mv_I ((va_up I 0 0) 0), mv_I ((va_up I 0 0) 1), mv_R (o + 1), mv_I ((va_up I 0 0) 2), mv_R (o + 2), mv_R (o + 3), mv_R (o + 4), mv_R (o + 5), mv_R (o + 6), mv_R (o + 7), mv_I ((va_up I 0 0) 3), mv_I ((va_up I 0 0) 4), mv_I ((va_up I 0 0) 5)]) = h_1 at hV_2 fr_3 ⊢
  refine go_aload_n (q := 6) d_mo_erase_5 rfl rfl rfl ?_
  refine go_getf (v := mv_I (I 1)) (q := 9) f_mo_93 d_mo_erase_6 rfl (mv_c0 hV_2) rfl ?_
  refine go_istore_n (q := 10) (L' := [some (mv_R o), some (mv_I (I 1))]) d_mo_erase_9 rfl rfl (by decide) rfl ?_
  refine go_aload_n (q := 11) d_mo_erase_10 rfl rfl rfl ?_
  refine go_iconst (q := 12) d_mo_erase_11 rfl ?_
  refine go_putf (q := 15) (v := mv_I 0) f_mo_93 d_mo_erase_12 rfl (mv_c0 hV_2) (Nat.le_of_ble_eq_true rfl) (go_fitI _) ?_
  have hV_5 := mv_u0 hV_2 (va_up (va_up I 0 0) 1 0)
  refine go_eq (h' := va_up h_1 o (mv_O 8 [mv_I ((va_up (va_up I 0 0) 1 0) 0), mv_I ((va_up (va_up I 0 0) 1 0) 1), mv_R (o + 1), mv_I ((va_up (va_up I 0 0) 1 0) 2), mv_R (o + 2), mv_R (o + 3), mv_R (o + 4), mv_R (o + 5), mv_R (o + 6), mv_R (o + 7), mv_I ((va_up (va_up I 0 0) 1 0) 3), mv_I ((va_up (va_up I 0 0) 1 0) 4), mv_I ((va_up (va_up I 0 0) 1 0) 5)])) ?_
  have fr_6 : fr_ o 8 h_1 (va_up h_1 o (mv_O 8 [mv_I ((va_up (va_up I 0 0) 1 0) 0), mv_I ((va_up (va_up I 0 0) 1 0) 1), mv_R (o + 1), mv_I ((va_up (va_up I 0 0) 1 0) 2), mv_R (o + 2), mv_R (o + 3), mv_R (o + 4), mv_R (o + 5), mv_R (o + 6), mv_R (o + 7), mv_I ((va_up (va_up I 0 0) 1 0) 3), mv_I ((va_up (va_up I 0 0) 1 0) 4), mv_I ((va_up (va_up I 0 0) 1 0) 5)])) := fun z_ hz => va_up_ne _ _ (by omega)
  generalize va_up h_1 o (mv_O 8 [mv_I ((va_up (va_up I 0 0) 1 0) 0), mv_I ((va_up (va_up I 0 0) 1 0) 1), mv_R (o + 1), mv_I ((va_up (va_up I 0 0) 1 0) 2), mv_R (o + 2), mv_R (o + 3), mv_R (o + 4), mv_R (o + 5), mv_R (o + 6), mv_R (o + 7), mv_I ((va_up (va_up I 0 0) 1 0) 3), mv_I ((va_up (va_up I 0 0) 1 0) 4), mv_I ((va_up (va_up I 0 0) 1 0) 5)]) = h_4 at hV_5 fr_6 ⊢
  refine go_iload_n (q := 16) d_mo_erase_15 rfl rfl rfl ?_
  exact k0  _ hV_5 (fr_.tr fr_3 fr_6)

set_option maxRecDepth 4000 in
theorem so_fa {φ : go_F} {l : Launch} {h : mv_H} {n : Nat} {o : Nat} {I tx S ps cs bs : Nat → Int} {V : Nat → Nat}  (hV : mo_V h o (I, tx, S, ps, cs, bs) V) 
    (k0 : ∀ h' : mv_H, mo_V h' o (va_up I 0 0, tx, S, ps, cs, bs) (V) → fr_ o 8 h h' → Go φ l m_mo_fault (go_rm rd_mo_fault rw_mo_fault 0 0) (0, 0) 9 [some (mv_R o)] [mv_I (I 2)] h' n) :
    Go φ l m_mo_fault (go_rm rd_mo_fault rw_mo_fault 0 0) (0, 0) 0 [some (mv_R o)] [] h n := by
  refine go_aload_n (q := 1) d_mo_fault_0 rfl rfl rfl ?_
  refine go_iconst (q := 2) d_mo_fault_1 rfl ?_
  refine go_putf (q := 5) (v := mv_I 0) f_mo_42 d_mo_fault_2 rfl (mv_c0 hV) (Nat.le_of_ble_eq_true rfl) (go_fitI _) ?_
  have hV_2 := mv_u0 hV (va_up I 0 0)
  refine go_eq (h' := va_up h o (mv_O 8 [mv_I ((va_up I 0 0) 0), mv_I ((va_up I 0 0) 1), mv_R (o + 1), mv_I ((va_up I 0 0) 2), mv_R (o + 2), mv_R (o + 3), mv_R (o + 4), mv_R (o + 5), mv_R (o + 6), mv_R (o + 7), mv_I ((va_up I 0 0) 3), mv_I ((va_up I 0 0) 4), mv_I ((va_up I 0 0) 5)])) ?_
  have fr_3 : fr_ o 8 h (va_up h o (mv_O 8 [mv_I ((va_up I 0 0) 0), mv_I ((va_up I 0 0) 1), mv_R (o + 1), mv_I ((va_up I 0 0) 2), mv_R (o + 2), mv_R (o + 3), mv_R (o + 4), mv_R (o + 5), mv_R (o + 6), mv_R (o + 7), mv_I ((va_up I 0 0) 3), mv_I ((va_up I 0 0) 4), mv_I ((va_up I 0 0) 5)])) := fun z_ hz => va_up_ne _ _ (by omega)
  generalize va_up h o (mv_O 8 [mv_I ((va_up I 0 0) 0), mv_I ((va_up I 0 0) 1), mv_R (o + 1), mv_I ((va_up I 0 0) 2), mv_R (o + 2), mv_R (o + 3), mv_R (o + 4), mv_R (o + 5), mv_R (o + 6), mv_R (o + 7), mv_I ((va_up I 0 0) 3), mv_I ((va_up I 0 0) 4), mv_I ((va_up I 0 0) 5)]) = h_1 at hV_2 fr_3 ⊢
  refine go_aload_n (q := 6) d_mo_fault_5 rfl rfl rfl ?_
  refine go_getf (v := mv_I (I 2)) (q := 9) f_mo_13 d_mo_fault_6 rfl (mv_c0 hV_2) rfl ?_
  exact k0  _ hV_2 fr_3

