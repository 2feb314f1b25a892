set_option maxRecDepth 4000 in
theorem so_sk_0 {φ : go_F} {l : Launch} {h : mv_H} {n : Nat} {o : Nat} {I tx S ps cs bs : Nat → Int} {V : Nat → Nat} {p : Nat} (hV : mo_V h o (I, tx, S, ps, cs, bs) V) 
    (k0 : Go φ l m_mo_skip (go_rm rd_mo_skip rw_mo_skip 0 0) (0, 0) 7 [some (mv_R o), some (mv_I (p : Int)), some (mv_I 0), some (mv_I (p : Int)), some (mv_I 1), none] [] h n) :
    Go φ l m_mo_skip (go_rm rd_mo_skip rw_mo_skip 0 0) (0, 0) 0 [some (mv_R o), some (mv_I (p : Int)), none, none, none, none] [] h n := by
  refine go_iconst (q := 1) d_mo_skip_0 rfl ?_
  refine go_istore_n (q := 2) (L' := [some (mv_R o), some (mv_I (p : Int)), some (mv_I 0), none, none, none]) d_mo_skip_1 rfl rfl (by decide) rfl ?_
  refine go_iload_n (q := 3) d_mo_skip_2 rfl rfl rfl ?_
  refine go_istore_n (q := 4) (L' := [some (mv_R o), some (mv_I (p : Int)), some (mv_I 0), some (mv_I (p : Int)), none, none]) d_mo_skip_3 rfl rfl (by decide) rfl ?_
  refine go_iconst (q := 5) d_mo_skip_4 rfl ?_
  refine go_istore (q := 7) (L' := [some (mv_R o), some (mv_I (p : Int)), some (mv_I 0), some (mv_I (p : Int)), some (mv_I 1), none]) d_mo_skip_5 rfl (by decide) rfl ?_
  exact k0 

set_option maxRecDepth 4000 in
theorem so_sk_7 {φ : go_F} {l : Launch} {h : mv_H} {n : Nat} {o : Nat} {I tx S ps cs bs : Nat → Int} {V : Nat → Nat} {p d a len : Nat} (hV : mo_V h o (I, tx, S, ps, cs, bs) V) (hL : I 1 = (len : Int)) (hl : len ≤ 120) (ht : ∀ i, 0 ≤ tx i ∧ tx i ≤ 127) (ha : a ≤ 200) (hd : d ≤ 200)
    (k0 : ¬ ch_ tx len a = 40 → ¬ ch_ tx len a = 41 → 0 < (d : Int) → Go φ l m_mo_skip (go_rm rd_mo_skip rw_mo_skip 0 0) (0, 0) 7 [some (mv_R o), some (mv_I (p : Int)), some (mv_I (d : Int)), some (mv_I ((a : Int) + 1)), some (mv_I 1), none] [] h n)
    (k1 : ¬ ch_ tx len a = 40 → ¬ ch_ tx len a = 41 → ¬ 0 < (d : Int) → ch_ tx len (a + 1) = 32 → Go φ l m_mo_skip (go_rm rd_mo_skip rw_mo_skip 0 0) (0, 0) 7 [some (mv_R o), some (mv_I (p : Int)), some (mv_I (d : Int)), some (mv_I ((a : Int) + 1)), some (mv_I 0), none] [] h n)
    (k2 : ¬ ch_ tx len a = 40 → ¬ ch_ tx len a = 41 → ¬ 0 < (d : Int) → ¬ ch_ tx len (a + 1) = 32 → ch_ tx len (a + 1) = 41 → Go φ l m_mo_skip (go_rm rd_mo_skip rw_mo_skip 0 0) (0, 0) 7 [some (mv_R o), some (mv_I (p : Int)), some (mv_I (d : Int)), some (mv_I ((a : Int) + 1)), some (mv_I 0), none] [] h n)
    (k3 : ¬ ch_ tx len a = 40 → ¬ ch_ tx len a = 41 → ¬ 0 < (d : Int) → ¬ ch_ tx len (a + 1) = 32 → ¬ ch_ tx len (a + 1) = 41 → ch_ tx len (a + 1) = 0 → Go φ l m_mo_skip (go_rm rd_mo_skip rw_mo_skip 0 0) (0, 0) 7 [some (mv_R o), some (mv_I (p : Int)), some (mv_I (d : Int)), some (mv_I ((a : Int) + 1)), some (mv_I 0), none] [] h n)
    (k4 : ¬ ch_ tx len a = 40 → ¬ ch_ tx len a = 41 → ¬ 0 < (d : Int) → ¬ ch_ tx len (a + 1) = 32 → ¬ ch_ tx len (a + 1) = 41 → ¬ ch_ tx len (a + 1) = 0 → Go φ l m_mo_skip (go_rm rd_mo_skip rw_mo_skip 0 0) (0, 0) 7 [some (mv_R o), some (mv_I (p : Int)), some (mv_I (d : Int)), some (mv_I ((a : Int) + 1)), some (mv_I 1), none] [] h n)
    (k5 : ¬ ch_ tx len a = 40 → ch_ tx len a = 41 → 0 < (d : Int) - 1 → Go φ l m_mo_skip (go_rm rd_mo_skip rw_mo_skip 0 0) (0, 0) 7 [some (mv_R o), some (mv_I (p : Int)), some (mv_I ((d : Int) - 1)), some (mv_I ((a : Int) + 1)), some (mv_I 1), none] [] h n)
    (k6 : ¬ ch_ tx len a = 40 → ch_ tx len a = 41 → ¬ 0 < (d : Int) - 1 → ch_ tx len (a + 1) = 32 → Go φ l m_mo_skip (go_rm rd_mo_skip rw_mo_skip 0 0) (0, 0) 7 [some (mv_R o), some (mv_I (p : Int)), some (mv_I ((d : Int) - 1)), some (mv_I ((a : Int) + 1)), some (mv_I 0), none] [] h n)
    (k7 : ¬ ch_ tx len a = 40 → ch_ tx len a = 41 → ¬ 0 < (d : Int) - 1 → ¬ ch_ tx len (a + 1) = 32 → ch_ tx len (a + 1) = 41 → Go φ l m_mo_skip (go_rm rd_mo_skip rw_mo_skip 0 0) (0, 0) 7 [some (mv_R o), some (mv_I (p : Int)), some (mv_I ((d : Int) - 1)), some (mv_I ((a : Int) + 1)), some (mv_I 0), none] [] h n)
    (k8 : ¬ ch_ tx len a = 40 → ch_ tx len a = 41 → ¬ 0 < (d : Int) - 1 → ¬ ch_ tx len (a + 1) = 32 → ¬ ch_ tx len (a + 1) = 41 → ch_ tx len (a + 1) = 0 → Go φ l m_mo_skip (go_rm rd_mo_skip rw_mo_skip 0 0) (0, 0) 7 [some (mv_R o), some (mv_I (p : Int)), some (mv_I ((d : Int) - 1)), some (mv_I ((a : Int) + 1)), some (mv_I 0), none] [] h n)
    (k9 : ¬ ch_ tx len a = 40 → ch_ tx len a = 41 → ¬ 0 < (d : Int) - 1 → ¬ ch_ tx len (a + 1) = 32 → ¬ ch_ tx len (a + 1) = 41 → ¬ ch_ tx len (a + 1) = 0 → Go φ l m_mo_skip (go_rm rd_mo_skip rw_mo_skip 0 0) (0, 0) 7 [some (mv_R o), some (mv_I (p : Int)), some (mv_I ((d : Int) - 1)), some (mv_I ((a : Int) + 1)), some (mv_I 1), none] [] h n)
    (k10 : ch_ tx len a = 40 → 0 < (d : Int) + 1 → Go φ l m_mo_skip (go_rm rd_mo_skip rw_mo_skip 0 0) (0, 0) 7 [some (mv_R o), some (mv_I (p : Int)), some (mv_I ((d : Int) + 1)), some (mv_I ((a : Int) + 1)), some (mv_I 1), none] [] h n)
    (k11 : ch_ tx len a = 40 → ¬ 0 < (d : Int) + 1 → ch_ tx len (a + 1) = 32 → Go φ l m_mo_skip (go_rm rd_mo_skip rw_mo_skip 0 0) (0, 0) 7 [some (mv_R o), some (mv_I (p : Int)), some (mv_I ((d : Int) + 1)), some (mv_I ((a : Int) + 1)), some (mv_I 0), none] [] h n)
    (k12 : ch_ tx len a = 40 → ¬ 0 < (d : Int) + 1 → ¬ ch_ tx len (a + 1) = 32 → ch_ tx len (a + 1) = 41 → Go φ l m_mo_skip (go_rm rd_mo_skip rw_mo_skip 0 0) (0, 0) 7 [some (mv_R o), some (mv_I (p : Int)), some (mv_I ((d : Int) + 1)), some (mv_I ((a : Int) + 1)), some (mv_I 0), none] [] h n)
    (k13 : ch_ tx len a = 40 → ¬ 0 < (d : Int) + 1 → ¬ ch_ tx len (a + 1) = 32 → ¬ ch_ tx len (a + 1) = 41 → ch_ tx len (a + 1) = 0 → Go φ l m_mo_skip (go_rm rd_mo_skip rw_mo_skip 0 0) (0, 0) 7 [some (mv_R o), some (mv_I (p : Int)), some (mv_I ((d : Int) + 1)), some (mv_I ((a : Int) + 1)), some (mv_I 0), none] [] h n)
    (k14 : ch_ tx len a = 40 → ¬ 0 < (d : Int) + 1 → ¬ ch_ tx len (a + 1) = 32 → ¬ ch_ tx len (a + 1) = 41 → ¬ ch_ tx len (a + 1) = 0 → Go φ l m_mo_skip (go_rm rd_mo_skip rw_mo_skip 0 0) (0, 0) 7 [some (mv_R o), some (mv_I (p : Int)), some (mv_I ((d : Int) + 1)), some (mv_I ((a : Int) + 1)), some (mv_I 1), none] [] h n) :
    Go φ l m_mo_skip (go_rm rd_mo_skip rw_mo_skip 0 0) (0, 0) 7 [some (mv_R o), some (mv_I (p : Int)), some (mv_I (d : Int)), some (mv_I (a : Int)), some (mv_I 1), none] [] h n := by
  refine go_iload (q := 9) d_mo_skip_7 rfl rfl ?_
  refine go_if_eq (t := 90) (q := 12) d_mo_skip_9 (by decide) rfl (by omega) (fun c1 => ?_) (fun c1 => ?_)
  ·
    exfalso; omega
  ·
    refine go_aload_n (q := 13) d_mo_skip_12 rfl rfl rfl ?_
    refine go_iload_n (q := 14) d_mo_skip_13 rfl rfl rfl ?_
    refine cl_charAt (p := a) (len := len) (q := 17) rfl d_mo_skip_14 rfl hV (show I 1 = (len : Int) from hL) (by omega) (by omega) (by omega) (Nat.le_of_ble_eq_true rfl) ⟨by decide, by decide, by decide, by decide⟩ ?_
    have q_2 := ch_b ht len a
    refine go_bipush (q := 19) d_mo_skip_17 rfl (by decide) ?_
    refine go_icmp_ne (t := 28) (q := 22) d_mo_skip_19 (by decide) rfl (by omega) (by omega) (fun c3 => ?_) (fun c3 => ?_)
    ·
      refine go_aload_n (q := 29) d_mo_skip_28 rfl rfl rfl ?_
      refine go_iload_n (q := 30) d_mo_skip_29 rfl rfl rfl ?_
      refine cl_charAt (p := a) (len := len) (q := 33) rfl d_mo_skip_30 rfl hV (show I 1 = (len : Int) from hL) (by omega) (by omega) (by omega) (Nat.le_of_ble_eq_true rfl) ⟨by decide, by decide, by decide, by decide⟩ ?_
      have q_4 := ch_b ht len a
      refine go_bipush (q := 35) d_mo_skip_33 rfl (by decide) ?_
      refine go_icmp_ne (t := 44) (q := 38) d_mo_skip_35 (by decide) rfl (by omega) (by omega) (fun c5 => ?_) (fun c5 => ?_)
      ·
        refine go_iload_n (q := 45) d_mo_skip_44 rfl rfl rfl ?_
        refine go_istore_n (q := 46) (L' := [some (mv_R o), some (mv_I (p : Int)), some (mv_I (d : Int)), some (mv_I (a : Int)), some (mv_I 1), none]) d_mo_skip_45 rfl rfl (by decide) rfl ?_
        refine go_iload_n (q := 47) d_mo_skip_46 rfl rfl rfl ?_
        refine go_iconst (q := 48) d_mo_skip_47 rfl ?_
        refine go_iadd (q := 49) d_mo_skip_48 rfl ?_
        refine go_istore_n (q := 50) (L' := [some (mv_R o), some (mv_I (p : Int)), some (mv_I (d : Int)), some (mv_I ((a : Int) + 1)), some (mv_I 1), none]) d_mo_skip_49 rfl rfl (by decide) rfl ?_
        refine go_aload_n (q := 51) d_mo_skip_50 rfl rfl rfl ?_
        refine go_iload_n (q := 52) d_mo_skip_51 rfl rfl rfl ?_
        refine cl_charAt (p := a + 1) (len := len) (q := 55) rfl d_mo_skip_52 rfl hV (show I 1 = (len : Int) from hL) (by omega) (by omega) (by omega) (Nat.le_of_ble_eq_true rfl) ⟨by decide, by decide, by decide, by decide⟩ ?_
        have q_6 := ch_b ht len (a + 1)
        refine go_istore (q := 57) (L' := [some (mv_R o), some (mv_I (p : Int)), some (mv_I (d : Int)), some (mv_I ((a : Int) + 1)), some (mv_I 1), some (mv_I (ch_ tx len (a + 1)))]) d_mo_skip_55 rfl (by decide) rfl ?_
        refine go_iload_n (q := 58) d_mo_skip_57 rfl rfl rfl ?_
        refine go_if_gt (t := 80) (q := 61) d_mo_skip_58 (by decide) rfl (by omega) (fun c7 => ?_) (fun c7 => ?_)
        ·
          refine go_iconst (q := 81) d_mo_skip_80 rfl ?_
          refine go_goto (q := 85) d_mo_skip_81 (by decide) ?_
          refine go_istore (q := 87) (L' := [some (mv_R o), some (mv_I (p : Int)), some (mv_I (d : Int)), some (mv_I ((a : Int) + 1)), some (mv_I 1), some (mv_I (ch_ tx len (a + 1)))]) d_mo_skip_85 rfl (by decide) rfl ?_
          refine go_goto (q := 7) d_mo_skip_87 (by decide) ?_
          refine go_fg 5 (L' := [some (mv_R o), some (mv_I (p : Int)), some (mv_I (d : Int)), some (mv_I ((a : Int) + 1)), some (mv_I 1), none]) rfl ?_
          exact k0 c3 c5 c7
        ·
          refine go_iload (q := 63) d_mo_skip_61 rfl rfl ?_
          refine go_bipush (q := 65) d_mo_skip_63 rfl (by decide) ?_
          refine go_icmp_eq (t := 84) (q := 68) d_mo_skip_65 (by decide) rfl (by omega) (by omega) (fun c8 => ?_) (fun c8 => ?_)
          ·
            refine go_iconst (q := 85) d_mo_skip_84 rfl ?_
            refine go_istore (q := 87) (L' := [some (mv_R o), some (mv_I (p : Int)), some (mv_I (d : Int)), some (mv_I ((a : Int) + 1)), some (mv_I 0), some (mv_I (ch_ tx len (a + 1)))]) d_mo_skip_85 rfl (by decide) rfl ?_
            refine go_goto (q := 7) d_mo_skip_87 (by decide) ?_
            refine go_fg 5 (L' := [some (mv_R o), some (mv_I (p : Int)), some (mv_I (d : Int)), some (mv_I ((a : Int) + 1)), some (mv_I 0), none]) rfl ?_
            exact k1 c3 c5 c7 c8
          ·
            refine go_iload (q := 70) d_mo_skip_68 rfl rfl ?_
            refine go_bipush (q := 72) d_mo_skip_70 rfl (by decide) ?_
            refine go_icmp_eq (t := 84) (q := 75) d_mo_skip_72 (by decide) rfl (by omega) (by omega) (fun c9 => ?_) (fun c9 => ?_)
            ·
              refine go_iconst (q := 85) d_mo_skip_84 rfl ?_
              refine go_istore (q := 87) (L' := [some (mv_R o), some (mv_I (p : Int)), some (mv_I (d : Int)), some (mv_I ((a : Int) + 1)), some (mv_I 0), some (mv_I (ch_ tx len (a + 1)))]) d_mo_skip_85 rfl (by decide) rfl ?_
              refine go_goto (q := 7) d_mo_skip_87 (by decide) ?_
              refine go_fg 5 (L' := [some (mv_R o), some (mv_I (p : Int)), some (mv_I (d : Int)), some (mv_I ((a : Int) + 1)), some (mv_I 0), none]) rfl ?_
              exact k2 c3 c5 c7 c8 c9
            ·
              refine go_iload (q := 77) d_mo_skip_75 rfl rfl ?_
              refine go_if_eq (t := 84) (q := 80) d_mo_skip_77 (by decide) rfl (by omega) (fun c10 => ?_) (fun c10 => ?_)
              ·
                refine go_iconst (q := 85) d_mo_skip_84 rfl ?_
                refine go_istore (q := 87) (L' := [some (mv_R o), some (mv_I (p : Int)), some (mv_I (d : Int)), some (mv_I ((a : Int) + 1)), some (mv_I 0), some (mv_I (ch_ tx len (a + 1)))]) d_mo_skip_85 rfl (by decide) rfl ?_
                refine go_goto (q := 7) d_mo_skip_87 (by decide) ?_
                refine go_fg 5 (L' := [some (mv_R o), some (mv_I (p : Int)), some (mv_I (d : Int)), some (mv_I ((a : Int) + 1)), some (mv_I 0), none]) rfl ?_
                exact k3 c3 c5 c7 c8 c9 c10
              ·
                refine go_iconst (q := 81) d_mo_skip_80 rfl ?_
                refine go_goto (q := 85) d_mo_skip_81 (by decide) ?_
                refine go_istore (q := 87) (L' := [some (mv_R o), some (mv_I (p : Int)), some (mv_I (d : Int)), some (mv_I ((a : Int) + 1)), some (mv_I 1), some (mv_I (ch_ tx len (a + 1)))]) d_mo_skip_85 rfl (by decide) rfl ?_
                refine go_goto (q := 7) d_mo_skip_87 (by decide) ?_
                refine go_fg 5 (L' := [some (mv_R o), some (mv_I (p : Int)), some (mv_I (d : Int)), some (mv_I ((a : Int) + 1)), some (mv_I 1), none]) rfl ?_
                exact k4 c3 c5 c7 c8 c9 c10
      ·
        refine go_iload_n (q := 39) d_mo_skip_38 rfl rfl rfl ?_
        refine go_iconst (q := 40) d_mo_skip_39 rfl ?_
        refine go_isub (q := 41) d_mo_skip_40 rfl ?_
        refine go_goto (q := 45) d_mo_skip_41 (by decide) ?_
        refine go_istore_n (q := 46) (L' := [some (mv_R o), some (mv_I (p : Int)), some (mv_I ((d : Int) - 1)), some (mv_I (a : Int)), some (mv_I 1), none]) d_mo_skip_45 rfl rfl (by decide) rfl ?_
        refine go_iload_n (q := 47) d_mo_skip_46 rfl rfl rfl ?_
        refine go_iconst (q := 48) d_mo_skip_47 rfl ?_
        refine go_iadd (q := 49) d_mo_skip_48 rfl ?_
        refine go_istore_n (q := 50) (L' := [some (mv_R o), some (mv_I (p : Int)), some (mv_I ((d : Int) - 1)), some (mv_I ((a : Int) + 1)), some (mv_I 1), none]) d_mo_skip_49 rfl rfl (by decide) rfl ?_
        refine go_aload_n (q := 51) d_mo_skip_50 rfl rfl rfl ?_
        refine go_iload_n (q := 52) d_mo_skip_51 rfl rfl rfl ?_
        refine cl_charAt (p := a + 1) (len := len) (q := 55) rfl d_mo_skip_52 rfl hV (show I 1 = (len : Int) from hL) (by omega) (by omega) (by omega) (Nat.le_of_ble_eq_true rfl) ⟨by decide, by decide, by decide, by decide⟩ ?_
        have q_11 := ch_b ht len (a + 1)
        refine go_istore (q := 57) (L' := [some (mv_R o), some (mv_I (p : Int)), some (mv_I ((d : Int) - 1)), some (mv_I ((a : Int) + 1)), some (mv_I 1), some (mv_I (ch_ tx len (a + 1)))]) d_mo_skip_55 rfl (by decide) rfl ?_
        refine go_iload_n (q := 58) d_mo_skip_57 rfl rfl rfl ?_
        refine go_if_gt (t := 80) (q := 61) d_mo_skip_58 (by decide) rfl (by omega) (fun c12 => ?_) (fun c12 => ?_)
        ·
          refine go_iconst (q := 81) d_mo_skip_80 rfl ?_
          refine go_goto (q := 85) d_mo_skip_81 (by decide) ?_
          refine go_istore (q := 87) (L' := [some (mv_R o), some (mv_I (p : Int)), some (mv_I ((d : Int) - 1)), some (mv_I ((a : Int) + 1)), some (mv_I 1), some (mv_I (ch_ tx len (a + 1)))]) d_mo_skip_85 rfl (by decide) rfl ?_
          refine go_goto (q := 7) d_mo_skip_87 (by decide) ?_
          refine go_fg 5 (L' := [some (mv_R o), some (mv_I (p : Int)), some (mv_I ((d : Int) - 1)), some (mv_I ((a : Int) + 1)), some (mv_I 1), none]) rfl ?_
          exact k5 c3 c5 c12
        ·
          refine go_iload (q := 63) d_mo_skip_61 rfl rfl ?_
          refine go_bipush (q := 65) d_mo_skip_63 rfl (by decide) ?_
          refine go_icmp_eq (t := 84) (q := 68) d_mo_skip_65 (by decide) rfl (by omega) (by omega) (fun c13 => ?_) (fun c13 => ?_)
          ·
            refine go_iconst (q := 85) d_mo_skip_84 rfl ?_
            refine go_istore (q := 87) (L' := [some (mv_R o), some (mv_I (p : Int)), some (mv_I ((d : Int) - 1)), some (mv_I ((a : Int) + 1)), some (mv_I 0), some (mv_I (ch_ tx len (a + 1)))]) d_mo_skip_85 rfl (by decide) rfl ?_
            refine go_goto (q := 7) d_mo_skip_87 (by decide) ?_
            refine go_fg 5 (L' := [some (mv_R o), some (mv_I (p : Int)), some (mv_I ((d : Int) - 1)), some (mv_I ((a : Int) + 1)), some (mv_I 0), none]) rfl ?_
            exact k6 c3 c5 c12 c13
          ·
            refine go_iload (q := 70) d_mo_skip_68 rfl rfl ?_
            refine go_bipush (q := 72) d_mo_skip_70 rfl (by decide) ?_
            refine go_icmp_eq (t := 84) (q := 75) d_mo_skip_72 (by decide) rfl (by omega) (by omega) (fun c14 => ?_) (fun c14 => ?_)
            ·
              refine go_iconst (q := 85) d_mo_skip_84 rfl ?_
              refine go_istore (q := 87) (L' := [some (mv_R o), some (mv_I (p : Int)), some (mv_I ((d : Int) - 1)), some (mv_I ((a : Int) + 1)), some (mv_I 0), some (mv_I (ch_ tx len (a + 1)))]) d_mo_skip_85 rfl (by decide) rfl ?_
              refine go_goto (q := 7) d_mo_skip_87 (by decide) ?_
              refine go_fg 5 (L' := [some (mv_R o), some (mv_I (p : Int)), some (mv_I ((d : Int) - 1)), some (mv_I ((a : Int) + 1)), some (mv_I 0), none]) rfl ?_
              exact k7 c3 c5 c12 c13 c14
            ·
              refine go_iload (q := 77) d_mo_skip_75 rfl rfl ?_
              refine go_if_eq (t := 84) (q := 80) d_mo_skip_77 (by decide) rfl (by omega) (fun c15 => ?_) (fun c15 => ?_)
              ·
                refine go_iconst (q := 85) d_mo_skip_84 rfl ?_
                refine go_istore (q := 87) (L' := [some (mv_R o), some (mv_I (p : Int)), some (mv_I ((d : Int) - 1)), some (mv_I ((a : Int) + 1)), some (mv_I 0), some (mv_I (ch_ tx len (a + 1)))]) d_mo_skip_85 rfl (by decide) rfl ?_
                refine go_goto (q := 7) d_mo_skip_87 (by decide) ?_
                refine go_fg 5 (L' := [some (mv_R o), some (mv_I (p : Int)), some (mv_I ((d : Int) - 1)), some (mv_I ((a : Int) + 1)), some (mv_I 0), none]) rfl ?_
                exact k8 c3 c5 c12 c13 c14 c15
              ·
                refine go_iconst (q := 81) d_mo_skip_80 rfl ?_
                refine go_goto (q := 85) d_mo_skip_81 (by decide) ?_
                refine go_istore (q := 87) (L' := [some (mv_R o), some (mv_I (p : Int)), some (mv_I ((d : Int) - 1)), some (mv_I ((a : Int) + 1)), some (mv_I 1), some (mv_I (ch_ tx len (a + 1)))]) d_mo_skip_85 rfl (by decide) rfl ?_
                refine go_goto (q := 7) d_mo_skip_87 (by decide) ?_
                refine go_fg 5 (L' := [some (mv_R o), some (mv_I (p : Int)), some (mv_I ((d : Int) - 1)), some (mv_I ((a : Int) + 1)), some (mv_I 1), none]) rfl ?_
                exact k9 c3 c5 c12 c13 c14 c15
    ·
      refine go_iload_n (q := 23) d_mo_skip_22 rfl rfl rfl ?_
      refine go_iconst (q := 24) d_mo_skip_23 rfl ?_
      refine go_iadd (q := 25) d_mo_skip_24 rfl ?_
      refine go_goto (q := 45) d_mo_skip_25 (by decide) ?_
      refine go_istore_n (q := 46) (L' := [some (mv_R o), some (mv_I (p : Int)), some (mv_I ((d : Int) + 1)), some (mv_I (a : Int)), some (mv_I 1), none]) d_mo_skip_45 rfl rfl (by decide) rfl ?_
      refine go_iload_n (q := 47) d_mo_skip_46 rfl rfl rfl ?_
      refine go_iconst (q := 48) d_mo_skip_47 rfl ?_
      refine go_iadd (q := 49) d_mo_skip_48 rfl ?_
      refine go_istore_n (q := 50) (L' := [some (mv_R o), some (mv_I (p : Int)), some (mv_I ((d : Int) + 1)), some (mv_I ((a : Int) + 1)), some (mv_I 1), none]) d_mo_skip_49 rfl rfl (by decide) rfl ?_
      refine go_aload_n (q := 51) d_mo_skip_50 rfl rfl rfl ?_
      refine go_iload_n (q := 52) d_mo_skip_51 rfl rfl rfl ?_
      refine cl_charAt (p := a + 1) (len := len) (q := 55) rfl d_mo_skip_52 rfl hV (show I 1 = (len : Int) from hL) (by omega) (by omega) (by omega) (Nat.le_of_ble_eq_true rfl) ⟨by decide, by decide, by decide, by decide⟩ ?_
      have q_16 := ch_b ht len (a + 1)
      refine go_istore (q := 57) (L' := [some (mv_R o), some (mv_I (p : Int)), some (mv_I ((d : Int) + 1)), some (mv_I ((a : Int) + 1)), some (mv_I 1), some (mv_I (ch_ tx len (a + 1)))]) d_mo_skip_55 rfl (by decide) rfl ?_
      refine go_iload_n (q := 58) d_mo_skip_57 rfl rfl rfl ?_
      refine go_if_gt (t := 80) (q := 61) d_mo_skip_58 (by decide) rfl (by omega) (fun c17 => ?_) (fun c17 => ?_)
      ·
        refine go_iconst (q := 81) d_mo_skip_80 rfl ?_
        refine go_goto (q := 85) d_mo_skip_81 (by decide) ?_
        refine go_istore (q := 87) (L' := [some (mv_R o), some (mv_I (p : Int)), some (mv_I ((d : Int) + 1)), some (mv_I ((a : Int) + 1)), some (mv_I 1), some (mv_I (ch_ tx len (a + 1)))]) d_mo_skip_85 rfl (by decide) rfl ?_
        refine go_goto (q := 7) d_mo_skip_87 (by decide) ?_
        refine go_fg 5 (L' := [some (mv_R o), some (mv_I (p : Int)), some (mv_I ((d : Int) + 1)), some (mv_I ((a : Int) + 1)), some (mv_I 1), none]) rfl ?_
        exact k10 c3 c17
      ·
        refine go_iload (q := 63) d_mo_skip_61 rfl rfl ?_
        refine go_bipush (q := 65) d_mo_skip_63 rfl (by decide) ?_
        refine go_icmp_eq (t := 84) (q := 68) d_mo_skip_65 (by decide) rfl (by omega) (by omega) (fun c18 => ?_) (fun c18 => ?_)
        ·
          refine go_iconst (q := 85) d_mo_skip_84 rfl ?_
          refine go_istore (q := 87) (L' := [some (mv_R o), some (mv_I (p : Int)), some (mv_I ((d : Int) + 1)), some (mv_I ((a : Int) + 1)), some (mv_I 0), some (mv_I (ch_ tx len (a + 1)))]) d_mo_skip_85 rfl (by decide) rfl ?_
          refine go_goto (q := 7) d_mo_skip_87 (by decide) ?_
          refine go_fg 5 (L' := [some (mv_R o), some (mv_I (p : Int)), some (mv_I ((d : Int) + 1)), some (mv_I ((a : Int) + 1)), some (mv_I 0), none]) rfl ?_
          exact k11 c3 c17 c18
        ·
          refine go_iload (q := 70) d_mo_skip_68 rfl rfl ?_
          refine go_bipush (q := 72) d_mo_skip_70 rfl (by decide) ?_
          refine go_icmp_eq (t := 84) (q := 75) d_mo_skip_72 (by decide) rfl (by omega) (by omega) (fun c19 => ?_) (fun c19 => ?_)
          ·
            refine go_iconst (q := 85) d_mo_skip_84 rfl ?_
            refine go_istore (q := 87) (L' := [some (mv_R o), some (mv_I (p : Int)), some (mv_I ((d : Int) + 1)), some (mv_I ((a : Int) + 1)), some (mv_I 0), some (mv_I (ch_ tx len (a + 1)))]) d_mo_skip_85 rfl (by decide) rfl ?_
            refine go_goto (q := 7) d_mo_skip_87 (by decide) ?_
            refine go_fg 5 (L' := [some (mv_R o), some (mv_I (p : Int)), some (mv_I ((d : Int) + 1)), some (mv_I ((a : Int) + 1)), some (mv_I 0), none]) rfl ?_
            exact k12 c3 c17 c18 c19
          ·
            refine go_iload (q := 77) d_mo_skip_75 rfl rfl ?_
            refine go_if_eq (t := 84) (q := 80) d_mo_skip_77 (by decide) rfl (by omega) (fun c20 => ?_) (fun c20 => ?_)
            ·
              refine go_iconst (q := 85) d_mo_skip_84 rfl ?_
              refine go_istore (q := 87) (L' := [some (mv_R o), some (mv_I (p : Int)), some (mv_I ((d : Int) + 1)), some (mv_I ((a : Int) + 1)), some (mv_I 0), some (mv_I (ch_ tx len (a + 1)))]) d_mo_skip_85 rfl (by decide) rfl ?_
              refine go_goto (q := 7) d_mo_skip_87 (by decide) ?_
              refine go_fg 5 (L' := [some (mv_R o), some (mv_I (p : Int)), some (mv_I ((d : Int) + 1)), some (mv_I ((a : Int) + 1)), some (mv_I 0), none]) rfl ?_
              exact k13 c3 c17 c18 c19 c20
            ·
              refine go_iconst (q := 81) d_mo_skip_80 rfl ?_
              refine go_goto (q := 85) d_mo_skip_81 (by decide) ?_
              refine go_istore (q := 87) (L' := [some (mv_R o), some (mv_I (p : Int)), some (mv_I ((d : Int) + 1)), some (mv_I ((a : Int) + 1)), some (mv_I 1), some (mv_I (ch_ tx len (a + 1)))]) d_mo_skip_85 rfl (by decide) rfl ?_
              refine go_goto (q := 7) d_mo_skip_87 (by decide) ?_
              refine go_fg 5 (L' := [some (mv_R o), some (mv_I (p : Int)), some (mv_I ((d : Int) + 1)), some (mv_I ((a : Int) + 1)), some (mv_I 1), none]) rfl ?_
              exact k14 c3 c17 c18 c19 c20

set_option maxRecDepth 4000 in
theorem so_sk_e {φ : go_F} {l : Launch} {h : mv_H} {n : Nat} {o : Nat} {I tx S ps cs bs : Nat → Int} {V : Nat → Nat} {p a : Nat} {d : Int} (hV : mo_V h o (I, tx, S, ps, cs, bs) V) 
    (k0 : Go φ l m_mo_skip (go_rm rd_mo_skip rw_mo_skip 0 0) (0, 0) 91 [some (mv_R o), some (mv_I (p : Int)), some (mv_I d), some (mv_I (a : Int)), some (mv_I 0), none] [mv_I (a : Int)] h n) :
    Go φ l m_mo_skip (go_rm rd_mo_skip rw_mo_skip 0 0) (0, 0) 7 [some (mv_R o), some (mv_I (p : Int)), some (mv_I d), some (mv_I (a : Int)), some (mv_I 0), none] [] h n := by
  refine go_iload (q := 9) d_mo_skip_7 rfl rfl ?_
  refine go_if_eq (t := 90) (q := 12) d_mo_skip_9 (by decide) rfl (by omega) (fun c1 => ?_) (fun c1 => ?_)
  ·
    refine go_iload_n (q := 91) d_mo_skip_90 rfl rfl rfl ?_
    exact k0 
  ·
    exfalso; omega

set_option maxRecDepth 4000 in
theorem so_nu_0 {φ : go_F} {l : Launch} {h : mv_H} {n : Nat} {o : Nat} {I tx S ps cs bs : Nat → Int} {V : Nat → Nat} {p m len : Nat} (hV : mo_V h o (I, tx, S, ps, cs, bs) V) (hL : I 1 = (len : Int)) (hl : len ≤ 120) (ht : ∀ i, 0 ≤ tx i ∧ tx i ≤ 127) (hA : I 5 = (p : Int) ∧ p ≤ 120) (hM : I 4 = (m : Int) ∧ m < 60)
    (k0 : ¬ ch_ tx len p = 45 → ∀ h' : mv_H, mo_V h' o (va_up I 5 (I 5), tx, S, ps, cs, bs) (va_up (va_up (va_up V (2 * m) 0) (2 * m + 1) 1) 151 0) → fr_ o 8 h h' → Go φ l m_mo_number (go_rm rd_mo_number rw_mo_number 0 0) (0, 0) 72 [some (mv_R o), some (mv_I 0)] [] h' n)
    (k1 : ch_ tx len p = 45 → ∀ h' : mv_H, mo_V h' o (va_up I 5 ((I 5) + 1), tx, S, ps, cs, bs) (va_up (va_up (va_up V (2 * m) 0) (2 * m + 1) 1) 151 0) → fr_ o 8 h h' → Go φ l m_mo_number (go_rm rd_mo_number rw_mo_number 0 0) (0, 0) 72 [some (mv_R o), some (mv_I 1)] [] h' n) :
    Go φ l m_mo_number (go_rm rd_mo_number rw_mo_number 0 0) (0, 0) 0 [some (mv_R o), none] [] h n := by
  refine go_aload_n (q := 1) d_mo_number_0 rfl rfl rfl ?_
  refine go_aload_n (q := 2) d_mo_number_1 rfl rfl rfl ?_
  refine go_getf (v := mv_I (I 5)) (q := 5) f_mo_121 d_mo_number_2 rfl (mv_c0 hV) rfl ?_
  refine go_eq (st' := [mv_I ((p : Nat) : Int), mv_R o]) ?_ rfl rfl (by first | (rw [show I 5 = ((p : Nat) : Int) by omega]; done) | (rw [← (show I 5 = ((p : Nat) : Int) by omega)]; done)) rfl rfl
  refine cl_charAt (p := p) (len := len) (q := 8) rfl d_mo_number_5 rfl hV (show I 1 = (len : Int) from hL) (by omega) (by omega) (by omega) (Nat.le_of_ble_eq_true rfl) ⟨by decide, by decide, by decide, by decide⟩ ?_
  have q_1 := ch_b ht len p
  refine go_bipush (q := 10) d_mo_number_8 rfl (by decide) ?_
  refine go_icmp_ne (t := 17) (q := 13) d_mo_number_10 (by decide) rfl (by omega) (by omega) (fun c2 => ?_) (fun c2 => ?_)
  ·
    refine go_iconst (q := 18) d_mo_number_17 rfl ?_
    refine go_istore_n (q := 19) (L' := [some (mv_R o), some (mv_I 0)]) d_mo_number_18 rfl rfl (by decide) rfl ?_
    refine go_aload_n (q := 20) d_mo_number_19 rfl rfl rfl ?_
    refine go_iload_n (q := 21) d_mo_number_20 rfl rfl rfl ?_
    refine go_if_eq (t := 33) (q := 24) d_mo_number_21 (by decide) rfl (by omega) (fun c3 => ?_) (fun c3 => ?_)
    ·
      refine go_aload_n (q := 34) d_mo_number_33 rfl rfl rfl ?_
      refine go_getf (v := mv_I (I 5)) (q := 37) f_mo_121 d_mo_number_34 rfl (mv_c0 hV) rfl ?_
      refine go_putf (q := 40) (v := mv_I (I 5)) f_mo_121 d_mo_number_37 rfl (mv_c0 hV) (Nat.le_of_ble_eq_true rfl) (go_fitI _) ?_
      have hV_5 := mv_u0 hV (va_up I 5 (I 5))
      refine go_eq (h' := va_up h o (mv_O 8 [mv_I ((va_up I 5 (I 5)) 0), mv_I ((va_up I 5 (I 5)) 1), mv_R (o + 1), mv_I ((va_up I 5 (I 5)) 2), mv_R (o + 2), mv_R (o + 3), mv_R (o + 4), mv_R (o + 5), mv_R (o + 6), mv_R (o + 7), mv_I ((va_up I 5 (I 5)) 3), mv_I ((va_up I 5 (I 5)) 4), mv_I ((va_up I 5 (I 5)) 5)])) ?_
      have fr_6 : fr_ o 8 h (va_up h o (mv_O 8 [mv_I ((va_up I 5 (I 5)) 0), mv_I ((va_up I 5 (I 5)) 1), mv_R (o + 1), mv_I ((va_up I 5 (I 5)) 2), mv_R (o + 2), mv_R (o + 3), mv_R (o + 4), mv_R (o + 5), mv_R (o + 6), mv_R (o + 7), mv_I ((va_up I 5 (I 5)) 3), mv_I ((va_up I 5 (I 5)) 4), mv_I ((va_up I 5 (I 5)) 5)])) := fun z_ hz => va_up_ne _ _ (by omega)
      generalize va_up h o (mv_O 8 [mv_I ((va_up I 5 (I 5)) 0), mv_I ((va_up I 5 (I 5)) 1), mv_R (o + 1), mv_I ((va_up I 5 (I 5)) 2), mv_R (o + 2), mv_R (o + 3), mv_R (o + 4), mv_R (o + 5), mv_R (o + 6), mv_R (o + 7), mv_I ((va_up I 5 (I 5)) 3), mv_I ((va_up I 5 (I 5)) 4), mv_I ((va_up I 5 (I 5)) 5)]) = h_4 at hV_5 fr_6 ⊢
      refine go_aload_n (q := 41) d_mo_number_40 rfl rfl rfl ?_
      refine go_iconst (q := 42) d_mo_number_41 rfl ?_
      refine go_aload_n (q := 43) d_mo_number_42 rfl rfl rfl ?_
      refine go_getf (v := mv_I (I 4)) (q := 46) f_mo_124 d_mo_number_43 rfl (mv_c0 hV_5) rfl ?_
      refine go_imul (q := 47) d_mo_number_46 rfl ?_
      refine go_iconst (q := 48) d_mo_number_47 rfl ?_
      refine go_eq (st' := [mv_I 0, mv_I ((2 * m : Nat) : Int), mv_R o]) ?_ rfl rfl (by first | (rw [show 2 * (I 4) = ((2 * m : Nat) : Int) by omega]; done) | (rw [← (show 2 * (I 4) = ((2 * m : Nat) : Int) by omega)]; done)) rfl rfl
      refine cl_set (r := 2 * m) (v := 0) (q := 51) rfl d_mo_number_48 rfl hV_5 (by omega) (by omega) (Nat.le_of_ble_eq_true rfl) ⟨by decide, by decide, by decide, by decide⟩ (fun h_7 hV_8 fr_9 => ?_)
      have hV_10 : mo_V h_7 o (va_up I 5 (I 5), tx, S, ps, cs, bs) (va_up V (2 * m) 0) := hV_8
      refine go_aload_n (q := 52) d_mo_number_51 rfl rfl rfl ?_
      refine go_iconst (q := 53) d_mo_number_52 rfl ?_
      refine go_aload_n (q := 54) d_mo_number_53 rfl rfl rfl ?_
      refine go_getf (v := mv_I (I 4)) (q := 57) f_mo_124 d_mo_number_54 rfl (mv_c0 hV_10) rfl ?_
      refine go_imul (q := 58) d_mo_number_57 rfl ?_
      refine go_iconst (q := 59) d_mo_number_58 rfl ?_
      refine go_iadd (q := 60) d_mo_number_59 rfl ?_
      refine go_iconst (q := 61) d_mo_number_60 rfl ?_
      refine go_eq (st' := [mv_I 1, mv_I ((2 * m + 1 : Nat) : Int), mv_R o]) ?_ rfl rfl (by first | (rw [show (2 * (I 4)) + 1 = ((2 * m + 1 : Nat) : Int) by omega]; done) | (rw [← (show (2 * (I 4)) + 1 = ((2 * m + 1 : Nat) : Int) by omega)]; done)) rfl rfl
      refine cl_set (r := 2 * m + 1) (v := 1) (q := 64) rfl d_mo_number_61 rfl hV_10 (by omega) (by omega) (Nat.le_of_ble_eq_true rfl) ⟨by decide, by decide, by decide, by decide⟩ (fun h_11 hV_12 fr_13 => ?_)
      have hV_14 : mo_V h_11 o (va_up I 5 (I 5), tx, S, ps, cs, bs) (va_up (va_up V (2 * m) 0) (2 * m + 1) 1) := hV_12
      refine go_aload_n (q := 65) d_mo_number_64 rfl rfl rfl ?_
      refine go_sipush (q := 68) d_mo_number_65 rfl (by decide) ?_
      refine go_iconst (q := 69) d_mo_number_68 rfl ?_
      refine cl_set (r := 151) (v := 0) (q := 72) rfl d_mo_number_69 rfl hV_14 (by omega) (by omega) (Nat.le_of_ble_eq_true rfl) ⟨by decide, by decide, by decide, by decide⟩ (fun h_15 hV_16 fr_17 => ?_)
      have hV_18 : mo_V h_15 o (va_up I 5 (I 5), tx, S, ps, cs, bs) (va_up (va_up (va_up V (2 * m) 0) (2 * m + 1) 1) 151 0) := hV_16
      exact k0 c2 _ hV_18 (fr_.tr (fr_.tr (fr_.tr fr_6 fr_9) fr_13) fr_17)
    ·
      exfalso; omega
  ·
    refine go_iconst (q := 14) d_mo_number_13 rfl ?_
    refine go_goto (q := 18) d_mo_number_14 (by decide) ?_
    refine go_istore_n (q := 19) (L' := [some (mv_R o), some (mv_I 1)]) d_mo_number_18 rfl rfl (by decide) rfl ?_
    refine go_aload_n (q := 20) d_mo_number_19 rfl rfl rfl ?_
    refine go_iload_n (q := 21) d_mo_number_20 rfl rfl rfl ?_
    refine go_if_eq (t := 33) (q := 24) d_mo_number_21 (by decide) rfl (by omega) (fun c19 => ?_) (fun c19 => ?_)
    ·
      exfalso; omega
    ·
      refine go_aload_n (q := 25) d_mo_number_24 rfl rfl rfl ?_
      refine go_getf (v := mv_I (I 5)) (q := 28) f_mo_121 d_mo_number_25 rfl (mv_c0 hV) rfl ?_
      refine go_iconst (q := 29) d_mo_number_28 rfl ?_
      refine go_iadd (q := 30) d_mo_number_29 rfl ?_
      refine go_goto (q := 37) d_mo_number_30 (by decide) ?_
      refine go_putf (q := 40) (v := mv_I ((I 5) + 1)) f_mo_121 d_mo_number_37 rfl (mv_c0 hV) (Nat.le_of_ble_eq_true rfl) (go_fitI _) ?_
      have hV_21 := mv_u0 hV (va_up I 5 ((I 5) + 1))
      refine go_eq (h' := va_up h o (mv_O 8 [mv_I ((va_up I 5 ((I 5) + 1)) 0), mv_I ((va_up I 5 ((I 5) + 1)) 1), mv_R (o + 1), mv_I ((va_up I 5 ((I 5) + 1)) 2), mv_R (o + 2), mv_R (o + 3), mv_R (o + 4), mv_R (o + 5), mv_R (o + 6), mv_R (o + 7), mv_I ((va_up I 5 ((I 5) + 1)) 3), mv_I ((va_up I 5 ((I 5) + 1)) 4), mv_I ((va_up I 5 ((I 5) + 1)) 5)])) ?_
      have fr_22 : fr_ o 8 h (va_up h o (mv_O 8 [mv_I ((va_up I 5 ((I 5) + 1)) 0), mv_I ((va_up I 5 ((I 5) + 1)) 1), mv_R (o + 1), mv_I ((va_up I 5 ((I 5) + 1)) 2), mv_R (o + 2), mv_R (o + 3), mv_R (o + 4), mv_R (o + 5), mv_R (o + 6), mv_R (o + 7), mv_I ((va_up I 5 ((I 5) + 1)) 3), mv_I ((va_up I 5 ((I 5) + 1)) 4), mv_I ((va_up I 5 ((I 5) + 1)) 5)])) := fun z_ hz => va_up_ne _ _ (by omega)
      generalize va_up h o (mv_O 8 [mv_I ((va_up I 5 ((I 5) + 1)) 0), mv_I ((va_up I 5 ((I 5) + 1)) 1), mv_R (o + 1), mv_I ((va_up I 5 ((I 5) + 1)) 2), mv_R (o + 2), mv_R (o + 3), mv_R (o + 4), mv_R (o + 5), mv_R (o + 6), mv_R (o + 7), mv_I ((va_up I 5 ((I 5) + 1)) 3), mv_I ((va_up I 5 ((I 5) + 1)) 4), mv_I ((va_up I 5 ((I 5) + 1)) 5)]) = h_20 at hV_21 fr_22 ⊢
      refine go_aload_n (q := 41) d_mo_number_40 rfl rfl rfl ?_
      refine go_iconst (q := 42) d_mo_number_41 rfl ?_
      refine go_aload_n (q := 43) d_mo_number_42 rfl rfl rfl ?_
      refine go_getf (v := mv_I (I 4)) (q := 46) f_mo_124 d_mo_number_43 rfl (mv_c0 hV_21) rfl ?_
      refine go_imul (q := 47) d_mo_number_46 rfl ?_
      refine go_iconst (q := 48) d_mo_number_47 rfl ?_
      refine go_eq (st' := [mv_I 0, mv_I ((2 * m : Nat) : Int), mv_R o]) ?_ rfl rfl (by first | (rw [show 2 * (I 4) = ((2 * m : Nat) : Int) by omega]; done) | (rw [← (show 2 * (I 4) = ((2 * m : Nat) : Int) by omega)]; done)) rfl rfl
      refine cl_set (r := 2 * m) (v := 0) (q := 51) rfl d_mo_number_48 rfl hV_21 (by omega) (by omega) (Nat.le_of_ble_eq_true rfl) ⟨by decide, by decide, by decide, by decide⟩ (fun h_23 hV_24 fr_25 => ?_)
      have hV_26 : mo_V h_23 o (va_up I 5 ((I 5) + 1), tx, S, ps, cs, bs) (va_up V (2 * m) 0) := hV_24
      refine go_aload_n (q := 52) d_mo_number_51 rfl rfl rfl ?_
      refine go_iconst (q := 53) d_mo_number_52 rfl ?_
      refine go_aload_n (q := 54) d_mo_number_53 rfl rfl rfl ?_
      refine go_getf (v := mv_I (I 4)) (q := 57) f_mo_124 d_mo_number_54 rfl (mv_c0 hV_26) rfl ?_
      refine go_imul (q := 58) d_mo_number_57 rfl ?_
      refine go_iconst (q := 59) d_mo_number_58 rfl ?_
      refine go_iadd (q := 60) d_mo_number_59 rfl ?_
      refine go_iconst (q := 61) d_mo_number_60 rfl ?_
      refine go_eq (st' := [mv_I 1, mv_I ((2 * m + 1 : Nat) : Int), mv_R o]) ?_ rfl rfl (by first | (rw [show (2 * (I 4)) + 1 = ((2 * m + 1 : Nat) : Int) by omega]; done) | (rw [← (show (2 * (I 4)) + 1 = ((2 * m + 1 : Nat) : Int) by omega)]; done)) rfl rfl
      refine cl_set (r := 2 * m + 1) (v := 1) (q := 64) rfl d_mo_number_61 rfl hV_26 (by omega) (by omega) (Nat.le_of_ble_eq_true rfl) ⟨by decide, by decide, by decide, by decide⟩ (fun h_27 hV_28 fr_29 => ?_)
      have hV_30 : mo_V h_27 o (va_up I 5 ((I 5) + 1), tx, S, ps, cs, bs) (va_up (va_up V (2 * m) 0) (2 * m + 1) 1) := hV_28
      refine go_aload_n (q := 65) d_mo_number_64 rfl rfl rfl ?_
      refine go_sipush (q := 68) d_mo_number_65 rfl (by decide) ?_
      refine go_iconst (q := 69) d_mo_number_68 rfl ?_
      refine cl_set (r := 151) (v := 0) (q := 72) rfl d_mo_number_69 rfl hV_30 (by omega) (by omega) (Nat.le_of_ble_eq_true rfl) ⟨by decide, by decide, by decide, by decide⟩ (fun h_31 hV_32 fr_33 => ?_)
      have hV_34 : mo_V h_31 o (va_up I 5 ((I 5) + 1), tx, S, ps, cs, bs) (va_up (va_up (va_up V (2 * m) 0) (2 * m + 1) 1) 151 0) := hV_32
      exact k1 c2 _ hV_34 (fr_.tr (fr_.tr (fr_.tr fr_22 fr_25) fr_29) fr_33)

set_option maxRecDepth 4000 in
theorem so_nu_72 {φ : go_F} {l : Launch} {h : mv_H} {n : Nat} {o : Nat} {I tx S ps cs bs : Nat → Int} {V : Nat → Nat} {p m len : Nat} {bl : Int} (hV : mo_V h o (I, tx, S, ps, cs, bs) V) (hL : I 1 = (len : Int)) (hl : len ≤ 120) (ht : ∀ i, 0 ≤ tx i ∧ tx i ≤ 127) (hA : I 5 = (p : Int) ∧ p ≤ 120) (hM : I 4 = (m : Int) ∧ m < 60) (hs : V (2 * m) * 10 < 10000 ^ 40) (hs2 : V (2 * m) * 10 + (ch_ tx len p - 48).toNat < 10000 ^ 40)
    (k0 : ¬ (48 ≤ ch_ tx len p ∧ ch_ tx len p ≤ 57) → Go φ l m_mo_number (go_rm rd_mo_number rw_mo_number 0 0) (0, 0) 152 [some (mv_R o), some (mv_I bl)] [] h n)
    (k1 : (48 ≤ ch_ tx len p ∧ ch_ tx len p ≤ 57) → ∀ h' : mv_H, mo_V h' o (va_up I 5 ((I 5) + 1), tx, S, ps, cs, bs) (va_up (va_up (va_up (va_up V 150 ((V (2 * m)) * 10)) 151 ((ch_ tx len p - 48).toNat)) 150 (((V (2 * m)) * 10) + ((ch_ tx len p - 48).toNat))) (2 * m) (((V (2 * m)) * 10) + ((ch_ tx len p - 48).toNat))) → fr_ o 8 h h' → Go φ l m_mo_number (go_rm rd_mo_number rw_mo_number 0 0) (0, 0) 72 [some (mv_R o), some (mv_I bl)] [] h' n) :
    Go φ l m_mo_number (go_rm rd_mo_number rw_mo_number 0 0) (0, 0) 72 [some (mv_R o), some (mv_I bl)] [] h n := by
  refine go_aload_n (q := 73) d_mo_number_72 rfl rfl rfl ?_
  refine go_aload_n (q := 74) d_mo_number_73 rfl rfl rfl ?_
  refine go_getf (v := mv_I (I 5)) (q := 77) f_mo_121 d_mo_number_74 rfl (mv_c0 hV) rfl ?_
  refine go_eq (st' := [mv_I ((p : Nat) : Int), mv_R o]) ?_ rfl rfl (by first | (rw [show I 5 = ((p : Nat) : Int) by omega]; done) | (rw [← (show I 5 = ((p : Nat) : Int) by omega)]; done)) rfl rfl
  refine cl_isDigit (p := p) (len := len) (q := 80) rfl d_mo_number_77 rfl hV (show I 1 = (len : Int) from hL) (by omega) ht (by omega) (Nat.le_of_ble_eq_true rfl) ⟨by decide, by decide, by decide, by decide⟩ ?_
  refine go_if_eq (t := 152) (q := 83) d_mo_number_80 (by decide) rfl it_rng (fun c1 => ?_) (fun c1 => ?_)
  · have c2 : ¬ (48 ≤ ch_ tx len p ∧ ch_ tx len p ≤ 57) := it_eqp c1
    exact k0 c2
  · have c3 : (48 ≤ ch_ tx len p ∧ ch_ tx len p ≤ 57) := it_eqn c1
    refine go_aload_n (q := 84) d_mo_number_83 rfl rfl rfl ?_
    refine go_iconst (q := 85) d_mo_number_84 rfl ?_
    refine go_aload_n (q := 86) d_mo_number_85 rfl rfl rfl ?_
    refine go_getf (v := mv_I (I 4)) (q := 89) f_mo_124 d_mo_number_86 rfl (mv_c0 hV) rfl ?_
    refine go_imul (q := 90) d_mo_number_89 rfl ?_
    refine go_bipush (q := 92) d_mo_number_90 rfl (by decide) ?_
    refine go_sipush (q := 95) d_mo_number_92 rfl (by decide) ?_
    refine go_eq (st' := [mv_I 150, mv_I 10, mv_I ((2 * m : Nat) : Int), mv_R o]) ?_ rfl rfl (by first | (rw [show 2 * (I 4) = ((2 * m : Nat) : Int) by omega]; done) | (rw [← (show 2 * (I 4) = ((2 * m : Nat) : Int) by omega)]; done)) rfl rfl
    refine cl_times (b := 2 * m) (y := 10) (t := 150) (q := 98) rfl d_mo_number_95 rfl hV (by omega) (by omega) (by omega) (by omega) (by rw [(show V (2 * m) = V (2 * m) from rfl)]; first | assumption | omega) (Nat.le_of_ble_eq_true rfl) ⟨by decide, by decide, by decide, by decide⟩ (fun h_4 hV_5 fr_6 => ?_)
    have hV_7 : mo_V h_4 o (I, tx, S, ps, cs, bs) (va_up V 150 ((V (2 * m)) * 10)) := by
      have e_ : (V) (2 * m) * 10 = (V (2 * m)) * 10 := by rw [(show V (2 * m) = V (2 * m) from rfl)]
      rw [← e_]
      exact hV_5
    refine go_aload_n (q := 99) d_mo_number_98 rfl rfl rfl ?_
    refine go_sipush (q := 102) d_mo_number_99 rfl (by decide) ?_
    refine go_aload_n (q := 103) d_mo_number_102 rfl rfl rfl ?_
    refine go_aload_n (q := 104) d_mo_number_103 rfl rfl rfl ?_
    refine go_getf (v := mv_I (I 5)) (q := 107) f_mo_121 d_mo_number_104 rfl (mv_c0 hV_7) rfl ?_
    refine go_eq (st' := [mv_I ((p : Nat) : Int), mv_R o, mv_I 151, mv_R o]) ?_ rfl rfl (by first | (rw [show I 5 = ((p : Nat) : Int) by omega]; done) | (rw [← (show I 5 = ((p : Nat) : Int) by omega)]; done)) rfl rfl
    refine cl_charAt (p := p) (len := len) (q := 110) rfl d_mo_number_107 rfl hV_7 (show I 1 = (len : Int) from hL) (by omega) (by omega) (by omega) (Nat.le_of_ble_eq_true rfl) ⟨by decide, by decide, by decide, by decide⟩ ?_
    have q_8 := ch_b ht len p
    refine go_bipush (q := 112) d_mo_number_110 rfl (by decide) ?_
    refine go_isub (q := 113) d_mo_number_112 rfl ?_
    refine go_eq (st' := [mv_I (((ch_ tx len p - 48).toNat : Nat) : Int), mv_I 151, mv_R o]) ?_ rfl rfl (by first | (rw [show (ch_ tx len p) - 48 = (((ch_ tx len p - 48).toNat : Nat) : Int) by omega]; done) | (rw [← (show (ch_ tx len p) - 48 = (((ch_ tx len p - 48).toNat : Nat) : Int) by omega)]; done)) rfl rfl
    refine cl_set (r := 151) (v := (ch_ tx len p - 48).toNat) (q := 116) rfl d_mo_number_113 rfl hV_7 (by omega) (by omega) (Nat.le_of_ble_eq_true rfl) ⟨by decide, by decide, by decide, by decide⟩ (fun h_9 hV_10 fr_11 => ?_)
    have hV_12 : mo_V h_9 o (I, tx, S, ps, cs, bs) (va_up (va_up V 150 ((V (2 * m)) * 10)) 151 ((ch_ tx len p - 48).toNat)) := hV_10
    refine go_aload_n (q := 117) d_mo_number_116 rfl rfl rfl ?_
    refine go_sipush (q := 120) d_mo_number_117 rfl (by decide) ?_
    refine go_sipush (q := 123) d_mo_number_120 rfl (by decide) ?_
    refine cl_addTo (a := 150) (b := 151) (q := 126) rfl d_mo_number_123 rfl hV_12 (by omega) (by omega) (by rw [(show (va_up (va_up V 150 ((V (2 * m)) * 10)) 151 ((ch_ tx len p - 48).toNat)) 150 = (V (2 * m)) * 10 from ((va_up_ne _ _ (by omega)).trans (va_up_self _ _ _))), (show (va_up (va_up V 150 ((V (2 * m)) * 10)) 151 ((ch_ tx len p - 48).toNat)) 151 = (ch_ tx len p - 48).toNat from (va_up_self _ _ _))]; omega) (Nat.le_of_ble_eq_true rfl) ⟨by decide, by decide, by decide, by decide⟩ (fun h_13 hV_14 fr_15 => ?_)
    have hV_16 : mo_V h_13 o (I, tx, S, ps, cs, bs) (va_up (va_up (va_up V 150 ((V (2 * m)) * 10)) 151 ((ch_ tx len p - 48).toNat)) 150 (((V (2 * m)) * 10) + ((ch_ tx len p - 48).toNat))) := by
      have e_ : (va_up (va_up V 150 ((V (2 * m)) * 10)) 151 ((ch_ tx len p - 48).toNat)) 150 + (va_up (va_up V 150 ((V (2 * m)) * 10)) 151 ((ch_ tx len p - 48).toNat)) 151 = ((V (2 * m)) * 10) + ((ch_ tx len p - 48).toNat) := by rw [(show (va_up (va_up V 150 ((V (2 * m)) * 10)) 151 ((ch_ tx len p - 48).toNat)) 150 = (V (2 * m)) * 10 from ((va_up_ne _ _ (by omega)).trans (va_up_self _ _ _))), (show (va_up (va_up V 150 ((V (2 * m)) * 10)) 151 ((ch_ tx len p - 48).toNat)) 151 = (ch_ tx len p - 48).toNat from (va_up_self _ _ _))]
      rw [← e_]
      exact hV_14
    refine go_aload_n (q := 127) d_mo_number_126 rfl rfl rfl ?_
    refine go_sipush (q := 130) d_mo_number_127 rfl (by decide) ?_
    refine go_iconst (q := 131) d_mo_number_130 rfl ?_
    refine go_aload_n (q := 132) d_mo_number_131 rfl rfl rfl ?_
    refine go_getf (v := mv_I (I 4)) (q := 135) f_mo_124 d_mo_number_132 rfl (mv_c0 hV_16) rfl ?_
    refine go_imul (q := 136) d_mo_number_135 rfl ?_
    refine go_eq (st' := [mv_I ((2 * m : Nat) : Int), mv_I 150, mv_R o]) ?_ rfl rfl (by first | (rw [show 2 * (I 4) = ((2 * m : Nat) : Int) by omega]; done) | (rw [← (show 2 * (I 4) = ((2 * m : Nat) : Int) by omega)]; done)) rfl rfl
    refine cl_copy (a := 150) (b := 2 * m) (q := 139) rfl d_mo_number_136 rfl hV_16 (by omega) (by omega) (Nat.le_of_ble_eq_true rfl) ⟨by decide, by decide, by decide, by decide⟩ (fun h_17 hV_18 fr_19 => ?_)
    have hV_20 : mo_V h_17 o (I, tx, S, ps, cs, bs) (va_up (va_up (va_up (va_up V 150 ((V (2 * m)) * 10)) 151 ((ch_ tx len p - 48).toNat)) 150 (((V (2 * m)) * 10) + ((ch_ tx len p - 48).toNat))) (2 * m) (((V (2 * m)) * 10) + ((ch_ tx len p - 48).toNat))) := by
      have e_ : (va_up (va_up (va_up V 150 ((V (2 * m)) * 10)) 151 ((ch_ tx len p - 48).toNat)) 150 (((V (2 * m)) * 10) + ((ch_ tx len p - 48).toNat))) 150 = ((V (2 * m)) * 10) + ((ch_ tx len p - 48).toNat) := by rw [(show (va_up (va_up (va_up V 150 ((V (2 * m)) * 10)) 151 ((ch_ tx len p - 48).toNat)) 150 (((V (2 * m)) * 10) + ((ch_ tx len p - 48).toNat))) 150 = ((V (2 * m)) * 10) + ((ch_ tx len p - 48).toNat) from (va_up_self _ _ _))]
      rw [← e_]
      exact hV_18
    refine go_aload_n (q := 140) d_mo_number_139 rfl rfl rfl ?_
    refine go_aload_n (q := 141) d_mo_number_140 rfl rfl rfl ?_
    refine go_getf (v := mv_I (I 5)) (q := 144) f_mo_121 d_mo_number_141 rfl (mv_c0 hV_20) rfl ?_
    refine go_iconst (q := 145) d_mo_number_144 rfl ?_
    refine go_iadd (q := 146) d_mo_number_145 rfl ?_
    refine go_putf (q := 149) (v := mv_I ((I 5) + 1)) f_mo_121 d_mo_number_146 rfl (mv_c0 hV_20) (Nat.le_of_ble_eq_true rfl) (go_fitI _) ?_
    have hV_22 := mv_u0 hV_20 (va_up I 5 ((I 5) + 1))
    refine go_eq (h' := va_up h_17 o (mv_O 8 [mv_I ((va_up I 5 ((I 5) + 1)) 0), mv_I ((va_up I 5 ((I 5) + 1)) 1), mv_R (o + 1), mv_I ((va_up I 5 ((I 5) + 1)) 2), mv_R (o + 2), mv_R (o + 3), mv_R (o + 4), mv_R (o + 5), mv_R (o + 6), mv_R (o + 7), mv_I ((va_up I 5 ((I 5) + 1)) 3), mv_I ((va_up I 5 ((I 5) + 1)) 4), mv_I ((va_up I 5 ((I 5) + 1)) 5)])) ?_
    have fr_23 : fr_ o 8 h_17 (va_up h_17 o (mv_O 8 [mv_I ((va_up I 5 ((I 5) + 1)) 0), mv_I ((va_up I 5 ((I 5) + 1)) 1), mv_R (o + 1), mv_I ((va_up I 5 ((I 5) + 1)) 2), mv_R (o + 2), mv_R (o + 3), mv_R (o + 4), mv_R (o + 5), mv_R (o + 6), mv_R (o + 7), mv_I ((va_up I 5 ((I 5) + 1)) 3), mv_I ((va_up I 5 ((I 5) + 1)) 4), mv_I ((va_up I 5 ((I 5) + 1)) 5)])) := fun z_ hz => va_up_ne _ _ (by omega)
    generalize va_up h_17 o (mv_O 8 [mv_I ((va_up I 5 ((I 5) + 1)) 0), mv_I ((va_up I 5 ((I 5) + 1)) 1), mv_R (o + 1), mv_I ((va_up I 5 ((I 5) + 1)) 2), mv_R (o + 2), mv_R (o + 3), mv_R (o + 4), mv_R (o + 5), mv_R (o + 6), mv_R (o + 7), mv_I ((va_up I 5 ((I 5) + 1)) 3), mv_I ((va_up I 5 ((I 5) + 1)) 4), mv_I ((va_up I 5 ((I 5) + 1)) 5)]) = h_21 at hV_22 fr_23 ⊢
    refine go_goto (q := 72) d_mo_number_149 (by decide) ?_
    exact k1 c3 _ hV_22 (fr_.tr (fr_.tr (fr_.tr (fr_.tr fr_6 fr_11) fr_15) fr_19) fr_23)

set_option maxRecDepth 4000 in
theorem so_nu_152 {φ : go_F} {l : Launch} {h : mv_H} {n : Nat} {o : Nat} {I tx S ps cs bs : Nat → Int} {V : Nat → Nat} {m : Nat} {bl : Int} (hV : mo_V h o (I, tx, S, ps, cs, bs) V) (hM : I 4 = (m : Int) ∧ m < 60) (hbl : 0 ≤ bl ∧ bl ≤ 1)
    (k0 : ¬ V (2 * m) = 0 → bl = 0 → V 158 ≤ V (2 * m) → ∀ h' : mv_H, mo_V h' o (va_up I 4 ((I 4) + 1), tx, va_up S m 1, ps, cs, bs) (V) → fr_ o 8 h h' → Go φ l m_mo_number (go_rm rd_mo_number rw_mo_number 0 0) (0, 0) 221 [some (mv_R o), some (mv_I bl)] [mv_I 1] h' n)
    (k1 : ¬ V (2 * m) = 0 → bl = 0 → V (2 * m) < V 158 → ∀ h' : mv_H, mo_V h' o (va_up I 4 ((I 4) + 1), tx, va_up S m 1, ps, cs, bs) (V) → fr_ o 8 h h' → Go φ l m_mo_number (go_rm rd_mo_number rw_mo_number 0 0) (0, 0) 221 [some (mv_R o), some (mv_I bl)] [mv_I 0] h' n)
    (k2 : ¬ V (2 * m) = 0 → ¬ bl = 0 → V 158 ≤ V (2 * m) → ∀ h' : mv_H, mo_V h' o (va_up I 4 ((I 4) + 1), tx, va_up S m (-1), ps, cs, bs) (V) → fr_ o 8 h h' → Go φ l m_mo_number (go_rm rd_mo_number rw_mo_number 0 0) (0, 0) 221 [some (mv_R o), some (mv_I bl)] [mv_I 1] h' n)
    (k3 : ¬ V (2 * m) = 0 → ¬ bl = 0 → V (2 * m) < V 158 → ∀ h' : mv_H, mo_V h' o (va_up I 4 ((I 4) + 1), tx, va_up S m (-1), ps, cs, bs) (V) → fr_ o 8 h h' → Go φ l m_mo_number (go_rm rd_mo_number rw_mo_number 0 0) (0, 0) 221 [some (mv_R o), some (mv_I bl)] [mv_I 0] h' n)
    (k4 : V (2 * m) = 0 → V 158 ≤ V (2 * m) → ∀ h' : mv_H, mo_V h' o (va_up I 4 ((I 4) + 1), tx, va_up S m 0, ps, cs, bs) (V) → fr_ o 8 h h' → Go φ l m_mo_number (go_rm rd_mo_number rw_mo_number 0 0) (0, 0) 221 [some (mv_R o), some (mv_I bl)] [mv_I 1] h' n)
    (k5 : V (2 * m) = 0 → V (2 * m) < V 158 → ∀ h' : mv_H, mo_V h' o (va_up I 4 ((I 4) + 1), tx, va_up S m 0, ps, cs, bs) (V) → fr_ o 8 h h' → Go φ l m_mo_number (go_rm rd_mo_number rw_mo_number 0 0) (0, 0) 221 [some (mv_R o), some (mv_I bl)] [mv_I 0] h' n) :
    Go φ l m_mo_number (go_rm rd_mo_number rw_mo_number 0 0) (0, 0) 152 [some (mv_R o), some (mv_I bl)] [] h n := by
  refine go_aload_n (q := 153) d_mo_number_152 rfl rfl rfl ?_
  refine go_getf (v := mv_R (o + 4)) (q := 156) f_mo_23 d_mo_number_153 rfl (mv_c0 hV) rfl ?_
  refine go_aload_n (q := 157) d_mo_number_156 rfl rfl rfl ?_
  refine go_getf (v := mv_I (I 4)) (q := 160) f_mo_124 d_mo_number_157 rfl (mv_c0 hV) rfl ?_
  refine go_aload_n (q := 161) d_mo_number_160 rfl rfl rfl ?_
  refine go_getf (v := mv_R (o + 3)) (q := 164) f_mo_20 d_mo_number_161 rfl (mv_c0 hV) rfl ?_
  refine go_iconst (q := 165) d_mo_number_164 rfl ?_
  refine go_aload_n (q := 166) d_mo_number_165 rfl rfl rfl ?_
  refine go_getf (v := mv_I (I 4)) (q := 169) f_mo_124 d_mo_number_166 rfl (mv_c0 hV) rfl ?_
  refine go_imul (q := 170) d_mo_number_169 rfl ?_
  obtain ⟨D_1, U_2, hm_3, hM_4⟩ := id hV
  have q_5 := hM_4.2.1 (2 * m)
  have q_6 : U_2 (2 * m) = 0 ↔ V (2 * m) = 0 := by
    have z_ := mo_U0 hM_4 (r := 2 * m) (by omega)
    rw [(show V (2 * m) = V (2 * m) from rfl)] at z_
    exact z_
  refine go_iald (i := 2 * m) (q := 171) d_mo_number_170 rfl (MD_c3 hm_3) (by omega) (by omega) (by omega) ?_
  refine go_if_ne (t := 178) (q := 174) d_mo_number_171 (by decide) rfl (by omega) (fun c7 => ?_) (fun c7 => ?_)
  · have c8 : ¬ V (2 * m) = 0 := (by omega : ¬ V (2 * m) = 0)
    refine go_iload_n (q := 179) d_mo_number_178 rfl rfl rfl ?_
    refine go_if_eq (t := 186) (q := 182) d_mo_number_179 (by decide) rfl (by omega) (fun c9 => ?_) (fun c9 => ?_)
    ·
      refine go_iconst (q := 187) d_mo_number_186 rfl ?_
      refine go_iast (i := m) (q := 188) d_mo_number_187 rfl (mv_c4 hV) (by omega) (by omega) (by omega) ?_
      have hV_11 := mv_u4 hV (va_up S m 1)
      have fr_12 : fr_ o 8 h (va_up h (o + 4) (mv_A 0 75 (va_up S m 1))) := fun z_ hz => va_up_ne _ _ (by omega)
      generalize va_up h (o + 4) (mv_A 0 75 (va_up S m 1)) = h_10 at hV_11 fr_12 ⊢
      refine go_aload_n (q := 189) d_mo_number_188 rfl rfl rfl ?_
      refine go_aload_n (q := 190) d_mo_number_189 rfl rfl rfl ?_
      refine go_getf (v := mv_I (I 4)) (q := 193) f_mo_124 d_mo_number_190 rfl (mv_c0 hV_11) rfl ?_
      refine go_iconst (q := 194) d_mo_number_193 rfl ?_
      refine go_iadd (q := 195) d_mo_number_194 rfl ?_
      refine go_putf (q := 198) (v := mv_I ((I 4) + 1)) f_mo_124 d_mo_number_195 rfl (mv_c0 hV_11) (Nat.le_of_ble_eq_true rfl) (go_fitI _) ?_
      have hV_14 := mv_u0 hV_11 (va_up I 4 ((I 4) + 1))
      refine go_eq (h' := va_up h_10 o (mv_O 8 [mv_I ((va_up I 4 ((I 4) + 1)) 0), mv_I ((va_up I 4 ((I 4) + 1)) 1), mv_R (o + 1), mv_I ((va_up I 4 ((I 4) + 1)) 2), mv_R (o + 2), mv_R (o + 3), mv_R (o + 4), mv_R (o + 5), mv_R (o + 6), mv_R (o + 7), mv_I ((va_up I 4 ((I 4) + 1)) 3), mv_I ((va_up I 4 ((I 4) + 1)) 4), mv_I ((va_up I 4 ((I 4) + 1)) 5)])) ?_
      have fr_15 : fr_ o 8 h_10 (va_up h_10 o (mv_O 8 [mv_I ((va_up I 4 ((I 4) + 1)) 0), mv_I ((va_up I 4 ((I 4) + 1)) 1), mv_R (o + 1), mv_I ((va_up I 4 ((I 4) + 1)) 2), mv_R (o + 2), mv_R (o + 3), mv_R (o + 4), mv_R (o + 5), mv_R (o + 6), mv_R (o + 7), mv_I ((va_up I 4 ((I 4) + 1)) 3), mv_I ((va_up I 4 ((I 4) + 1)) 4), mv_I ((va_up I 4 ((I 4) + 1)) 5)])) := fun z_ hz => va_up_ne _ _ (by omega)
      generalize va_up h_10 o (mv_O 8 [mv_I ((va_up I 4 ((I 4) + 1)) 0), mv_I ((va_up I 4 ((I 4) + 1)) 1), mv_R (o + 1), mv_I ((va_up I 4 ((I 4) + 1)) 2), mv_R (o + 2), mv_R (o + 3), mv_R (o + 4), mv_R (o + 5), mv_R (o + 6), mv_R (o + 7), mv_I ((va_up I 4 ((I 4) + 1)) 3), mv_I ((va_up I 4 ((I 4) + 1)) 4), mv_I ((va_up I 4 ((I 4) + 1)) 5)]) = h_13 at hV_14 fr_15 ⊢
      refine go_aload_n (q := 199) d_mo_number_198 rfl rfl rfl ?_
      refine go_iconst (q := 200) d_mo_number_199 rfl ?_
      refine go_aload_n (q := 201) d_mo_number_200 rfl rfl rfl ?_
      refine go_getf (v := mv_I ((I 4) + 1)) (q := 204) f_mo_124 d_mo_number_201 rfl (mv_c0 hV_14) rfl ?_
      refine go_imul (q := 205) d_mo_number_204 rfl ?_
      refine go_iconst (q := 206) d_mo_number_205 rfl ?_
      refine go_isub (q := 207) d_mo_number_206 rfl ?_
      refine go_sipush (q := 210) d_mo_number_207 rfl (by decide) ?_
      refine go_eq (st' := [mv_I 158, mv_I ((2 * m : Nat) : Int), mv_R o]) ?_ rfl rfl (by first | (rw [show (2 * ((I 4) + 1)) - 2 = ((2 * m : Nat) : Int) by omega]; done) | (rw [← (show (2 * ((I 4) + 1)) - 2 = ((2 * m : Nat) : Int) by omega)]; done)) rfl rfl
      refine cl_compare (a := 2 * m) (b := 158) (q := 213) rfl d_mo_number_210 rfl hV_14 (by omega) (by omega) (Nat.le_of_ble_eq_true rfl) ⟨by decide, by decide, by decide, by decide⟩ ?_
      rw [(show V (2 * m) = V (2 * m) from rfl), (show V 158 = V 158 from rfl)]
      refine go_if_ge (t := 220) (q := 216) d_mo_number_213 (by decide) rfl cm_rng (fun c16 => ?_) (fun c16 => ?_)
      · have c17 : V 158 ≤ V (2 * m) := cm_gep c16
        refine go_iconst (q := 221) d_mo_number_220 rfl ?_
        exact k0 c8 c9 c17 _ hV_14 (fr_.tr fr_12 fr_15)
      · have c18 : V (2 * m) < V 158 := cm_gen c16
        refine go_iconst (q := 217) d_mo_number_216 rfl ?_
        refine go_goto (q := 221) d_mo_number_217 (by decide) ?_
        exact k1 c8 c9 c18 _ hV_14 (fr_.tr fr_12 fr_15)
    ·
      refine go_iconst (q := 183) d_mo_number_182 rfl ?_
      refine go_goto (q := 187) d_mo_number_183 (by decide) ?_
      refine go_iast (i := m) (q := 188) d_mo_number_187 rfl (mv_c4 hV) (by omega) (by omega) (by omega) ?_
      have hV_20 := mv_u4 hV (va_up S m (-1))
      have fr_21 : fr_ o 8 h (va_up h (o + 4) (mv_A 0 75 (va_up S m (-1)))) := fun z_ hz => va_up_ne _ _ (by omega)
      generalize va_up h (o + 4) (mv_A 0 75 (va_up S m (-1))) = h_19 at hV_20 fr_21 ⊢
      refine go_aload_n (q := 189) d_mo_number_188 rfl rfl rfl ?_
      refine go_aload_n (q := 190) d_mo_number_189 rfl rfl rfl ?_
      refine go_getf (v := mv_I (I 4)) (q := 193) f_mo_124 d_mo_number_190 rfl (mv_c0 hV_20) rfl ?_
      refine go_iconst (q := 194) d_mo_number_193 rfl ?_
      refine go_iadd (q := 195) d_mo_number_194 rfl ?_
      refine go_putf (q := 198) (v := mv_I ((I 4) + 1)) f_mo_124 d_mo_number_195 rfl (mv_c0 hV_20) (Nat.le_of_ble_eq_true rfl) (go_fitI _) ?_
      have hV_23 := mv_u0 hV_20 (va_up I 4 ((I 4) + 1))
      refine go_eq (h' := va_up h_19 o (mv_O 8 [mv_I ((va_up I 4 ((I 4) + 1)) 0), mv_I ((va_up I 4 ((I 4) + 1)) 1), mv_R (o + 1), mv_I ((va_up I 4 ((I 4) + 1)) 2), mv_R (o + 2), mv_R (o + 3), mv_R (o + 4), mv_R (o + 5), mv_R (o + 6), mv_R (o + 7), mv_I ((va_up I 4 ((I 4) + 1)) 3), mv_I ((va_up I 4 ((I 4) + 1)) 4), mv_I ((va_up I 4 ((I 4) + 1)) 5)])) ?_
      have fr_24 : fr_ o 8 h_19 (va_up h_19 o (mv_O 8 [mv_I ((va_up I 4 ((I 4) + 1)) 0), mv_I ((va_up I 4 ((I 4) + 1)) 1), mv_R (o + 1), mv_I ((va_up I 4 ((I 4) + 1)) 2), mv_R (o + 2), mv_R (o + 3), mv_R (o + 4), mv_R (o + 5), mv_R (o + 6), mv_R (o + 7), mv_I ((va_up I 4 ((I 4) + 1)) 3), mv_I ((va_up I 4 ((I 4) + 1)) 4), mv_I ((va_up I 4 ((I 4) + 1)) 5)])) := fun z_ hz => va_up_ne _ _ (by omega)
      generalize va_up h_19 o (mv_O 8 [mv_I ((va_up I 4 ((I 4) + 1)) 0), mv_I ((va_up I 4 ((I 4) + 1)) 1), mv_R (o + 1), mv_I ((va_up I 4 ((I 4) + 1)) 2), mv_R (o + 2), mv_R (o + 3), mv_R (o + 4), mv_R (o + 5), mv_R (o + 6), mv_R (o + 7), mv_I ((va_up I 4 ((I 4) + 1)) 3), mv_I ((va_up I 4 ((I 4) + 1)) 4), mv_I ((va_up I 4 ((I 4) + 1)) 5)]) = h_22 at hV_23 fr_24 ⊢
      refine go_aload_n (q := 199) d_mo_number_198 rfl rfl rfl ?_
      refine go_iconst (q := 200) d_mo_number_199 rfl ?_
      refine go_aload_n (q := 201) d_mo_number_200 rfl rfl rfl ?_
      refine go_getf (v := mv_I ((I 4) + 1)) (q := 204) f_mo_124 d_mo_number_201 rfl (mv_c0 hV_23) rfl ?_
      refine go_imul (q := 205) d_mo_number_204 rfl ?_
      refine go_iconst (q := 206) d_mo_number_205 rfl ?_
      refine go_isub (q := 207) d_mo_number_206 rfl ?_
      refine go_sipush (q := 210) d_mo_number_207 rfl (by decide) ?_
      refine go_eq (st' := [mv_I 158, mv_I ((2 * m : Nat) : Int), mv_R o]) ?_ rfl rfl (by first | (rw [show (2 * ((I 4) + 1)) - 2 = ((2 * m : Nat) : Int) by omega]; done) | (rw [← (show (2 * ((I 4) + 1)) - 2 = ((2 * m : Nat) : Int) by omega)]; done)) rfl rfl
      refine cl_compare (a := 2 * m) (b := 158) (q := 213) rfl d_mo_number_210 rfl hV_23 (by omega) (by omega) (Nat.le_of_ble_eq_true rfl) ⟨by decide, by decide, by decide, by decide⟩ ?_
      rw [(show V (2 * m) = V (2 * m) from rfl), (show V 158 = V 158 from rfl)]
      refine go_if_ge (t := 220) (q := 216) d_mo_number_213 (by decide) rfl cm_rng (fun c25 => ?_) (fun c25 => ?_)
      · have c26 : V 158 ≤ V (2 * m) := cm_gep c25
        refine go_iconst (q := 221) d_mo_number_220 rfl ?_
        exact k2 c8 c9 c26 _ hV_23 (fr_.tr fr_21 fr_24)
      · have c27 : V (2 * m) < V 158 := cm_gen c25
        refine go_iconst (q := 217) d_mo_number_216 rfl ?_
        refine go_goto (q := 221) d_mo_number_217 (by decide) ?_
        exact k3 c8 c9 c27 _ hV_23 (fr_.tr fr_21 fr_24)
  · have c28 : V (2 * m) = 0 := (by omega : V (2 * m) = 0)
    refine go_iconst (q := 175) d_mo_number_174 rfl ?_
    refine go_goto (q := 187) d_mo_number_175 (by decide) ?_
    refine go_iast (i := m) (q := 188) d_mo_number_187 rfl (mv_c4 hV) (by omega) (by omega) (by omega) ?_
    have hV_30 := mv_u4 hV (va_up S m 0)
    have fr_31 : fr_ o 8 h (va_up h (o + 4) (mv_A 0 75 (va_up S m 0))) := fun z_ hz => va_up_ne _ _ (by omega)
    generalize va_up h (o + 4) (mv_A 0 75 (va_up S m 0)) = h_29 at hV_30 fr_31 ⊢
    refine go_aload_n (q := 189) d_mo_number_188 rfl rfl rfl ?_
    refine go_aload_n (q := 190) d_mo_number_189 rfl rfl rfl ?_
    refine go_getf (v := mv_I (I 4)) (q := 193) f_mo_124 d_mo_number_190 rfl (mv_c0 hV_30) rfl ?_
    refine go_iconst (q := 194) d_mo_number_193 rfl ?_
    refine go_iadd (q := 195) d_mo_number_194 rfl ?_
    refine go_putf (q := 198) (v := mv_I ((I 4) + 1)) f_mo_124 d_mo_number_195 rfl (mv_c0 hV_30) (Nat.le_of_ble_eq_true rfl) (go_fitI _) ?_
    have hV_33 := mv_u0 hV_30 (va_up I 4 ((I 4) + 1))
    refine go_eq (h' := va_up h_29 o (mv_O 8 [mv_I ((va_up I 4 ((I 4) + 1)) 0), mv_I ((va_up I 4 ((I 4) + 1)) 1), mv_R (o + 1), mv_I ((va_up I 4 ((I 4) + 1)) 2), mv_R (o + 2), mv_R (o + 3), mv_R (o + 4), mv_R (o + 5), mv_R (o + 6), mv_R (o + 7), mv_I ((va_up I 4 ((I 4) + 1)) 3), mv_I ((va_up I 4 ((I 4) + 1)) 4), mv_I ((va_up I 4 ((I 4) + 1)) 5)])) ?_
    have fr_34 : fr_ o 8 h_29 (va_up h_29 o (mv_O 8 [mv_I ((va_up I 4 ((I 4) + 1)) 0), mv_I ((va_up I 4 ((I 4) + 1)) 1), mv_R (o + 1), mv_I ((va_up I 4 ((I 4) + 1)) 2), mv_R (o + 2), mv_R (o + 3), mv_R (o + 4), mv_R (o + 5), mv_R (o + 6), mv_R (o + 7), mv_I ((va_up I 4 ((I 4) + 1)) 3), mv_I ((va_up I 4 ((I 4) + 1)) 4), mv_I ((va_up I 4 ((I 4) + 1)) 5)])) := fun z_ hz => va_up_ne _ _ (by omega)
    generalize va_up h_29 o (mv_O 8 [mv_I ((va_up I 4 ((I 4) + 1)) 0), mv_I ((va_up I 4 ((I 4) + 1)) 1), mv_R (o + 1), mv_I ((va_up I 4 ((I 4) + 1)) 2), mv_R (o + 2), mv_R (o + 3), mv_R (o + 4), mv_R (o + 5), mv_R (o + 6), mv_R (o + 7), mv_I ((va_up I 4 ((I 4) + 1)) 3), mv_I ((va_up I 4 ((I 4) + 1)) 4), mv_I ((va_up I 4 ((I 4) + 1)) 5)]) = h_32 at hV_33 fr_34 ⊢
    refine go_aload_n (q := 199) d_mo_number_198 rfl rfl rfl ?_
    refine go_iconst (q := 200) d_mo_number_199 rfl ?_
    refine go_aload_n (q := 201) d_mo_number_200 rfl rfl rfl ?_
    refine go_getf (v := mv_I ((I 4) + 1)) (q := 204) f_mo_124 d_mo_number_201 rfl (mv_c0 hV_33) rfl ?_
    refine go_imul (q := 205) d_mo_number_204 rfl ?_
    refine go_iconst (q := 206) d_mo_number_205 rfl ?_
    refine go_isub (q := 207) d_mo_number_206 rfl ?_
    refine go_sipush (q := 210) d_mo_number_207 rfl (by decide) ?_
    refine go_eq (st' := [mv_I 158, mv_I ((2 * m : Nat) : Int), mv_R o]) ?_ rfl rfl (by first | (rw [show (2 * ((I 4) + 1)) - 2 = ((2 * m : Nat) : Int) by omega]; done) | (rw [← (show (2 * ((I 4) + 1)) - 2 = ((2 * m : Nat) : Int) by omega)]; done)) rfl rfl
    refine cl_compare (a := 2 * m) (b := 158) (q := 213) rfl d_mo_number_210 rfl hV_33 (by omega) (by omega) (Nat.le_of_ble_eq_true rfl) ⟨by decide, by decide, by decide, by decide⟩ ?_
    rw [(show V (2 * m) = V (2 * m) from rfl), (show V 158 = V 158 from rfl)]
    refine go_if_ge (t := 220) (q := 216) d_mo_number_213 (by decide) rfl cm_rng (fun c35 => ?_) (fun c35 => ?_)
    · have c36 : V 158 ≤ V (2 * m) := cm_gep c35
      refine go_iconst (q := 221) d_mo_number_220 rfl ?_
      exact k4 c28 c36 _ hV_33 (fr_.tr fr_31 fr_34)
    · have c37 : V (2 * m) < V 158 := cm_gen c35
      refine go_iconst (q := 217) d_mo_number_216 rfl ?_
      refine go_goto (q := 221) d_mo_number_217 (by decide) ?_
      exact k5 c28 c37 _ hV_33 (fr_.tr fr_31 fr_34)

set_option maxRecDepth 4000 in
theorem so_be_0 {φ : go_F} {l : Launch} {h : mv_H} {n : Nat} {o : Nat} {I tx S ps cs bs : Nat → Int} {V : Nat → Nat} {p m k len : Nat} (hV : mo_V h o (I, tx, S, ps, cs, bs) V) (hL : I 1 = (len : Int)) (hl : len ≤ 120) (ht : ∀ i, 0 ≤ tx i ∧ tx i ≤ 127) (hA : I 5 = (p : Int) ∧ p ≤ 120) (hM : I 4 = (m : Int) ∧ m < 60) (hO : I 3 = (k : Int) ∧ k ≤ 12) (h12 : ch_ tx len p = 40 → k < 12)
    (k0 : ¬ ch_ tx len p = 40 → ch_ tx len p < 97 → Go φ l m_mo_begin (go_rm rd_mo_begin rw_mo_begin 0 0) (0, 0) 119 [some (mv_R o), some (mv_I (ch_ tx len p))] [mv_R o] h n)
    (k1 : ¬ ch_ tx len p = 40 → ¬ ch_ tx len p < 97 → 104 < ch_ tx len p → Go φ l m_mo_begin (go_rm rd_mo_begin rw_mo_begin 0 0) (0, 0) 119 [some (mv_R o), some (mv_I (ch_ tx len p))] [mv_R o] h n)
    (k2 : ¬ ch_ tx len p = 40 → ¬ ch_ tx len p < 97 → ¬ 104 < ch_ tx len p → ∀ h' : mv_H, mo_V h' o (va_up (va_up I 4 ((I 4) + 1)) 5 ((I 5) + 1), tx, va_up S m (S (64 + (ch_ tx len p - 97).toNat)), ps, cs, bs) (va_up (va_up V (2 * m) (V (2 * (64 + (ch_ tx len p - 97).toNat)))) (2 * m + 1) (V (2 * (64 + (ch_ tx len p - 97).toNat) + 1))) → fr_ o 8 h h' → Go φ l m_mo_begin (go_rm rd_mo_begin rw_mo_begin 0 0) (0, 0) 117 [some (mv_R o), some (mv_I (ch_ tx len p))] [mv_I 0] h' n)
    (k3 : ch_ tx len p = 40 → ∀ h' : mv_H, mo_V h' o (va_up (va_up I 3 ((I 3) + 1)) 5 ((I 5) + 2), tx, S, va_up ps (k + 1) (ch_ tx len (p + 1)), cs, va_up bs (k + 1) (I 4)) (V) → fr_ o 8 h h' → Go φ l m_mo_begin (go_rm rd_mo_begin rw_mo_begin 0 0) (0, 0) 68 [some (mv_R o), some (mv_I (ch_ tx len p))] [mv_I 0] h' n) :
    Go φ l m_mo_begin (go_rm rd_mo_begin rw_mo_begin 0 0) (0, 0) 0 [some (mv_R o), none] [] h n := by
  refine go_aload_n (q := 1) d_mo_begin_0 rfl rfl rfl ?_
  refine go_aload_n (q := 2) d_mo_begin_1 rfl rfl rfl ?_
  refine go_getf (v := mv_I (I 5)) (q := 5) f_mo_121 d_mo_begin_2 rfl (mv_c0 hV) rfl ?_
  refine go_eq (st' := [mv_I ((p : Nat) : Int), mv_R o]) ?_ rfl rfl (by first | (rw [show I 5 = ((p : Nat) : Int) by omega]; done) | (rw [← (show I 5 = ((p : Nat) : Int) by omega)]; done)) rfl rfl
  refine cl_charAt (p := p) (len := len) (q := 8) rfl d_mo_begin_5 rfl hV (show I 1 = (len : Int) from hL) (by omega) (by omega) (by omega) (Nat.le_of_ble_eq_true rfl) ⟨by decide, by decide, by decide, by decide⟩ ?_
  have q_1 := ch_b ht len p
  refine go_istore_n (q := 9) (L' := [some (mv_R o), some (mv_I (ch_ tx len p))]) d_mo_begin_8 rfl rfl (by decide) rfl ?_
  refine go_iload_n (q := 10) d_mo_begin_9 rfl rfl rfl ?_
  refine go_bipush (q := 12) d_mo_begin_10 rfl (by decide) ?_
  refine go_icmp_ne (t := 69) (q := 15) d_mo_begin_12 (by decide) rfl (by omega) (by omega) (fun c2 => ?_) (fun c2 => ?_)
  ·
    refine go_iload_n (q := 70) d_mo_begin_69 rfl rfl rfl ?_
    refine go_bipush (q := 72) d_mo_begin_70 rfl (by decide) ?_
    refine go_icmp_lt (t := 118) (q := 75) d_mo_begin_72 (by decide) rfl (by omega) (by omega) (fun c3 => ?_) (fun c3 => ?_)
    ·
      refine go_aload_n (q := 119) d_mo_begin_118 rfl rfl rfl ?_
      exact k0 c2 c3
    ·
      refine go_iload_n (q := 76) d_mo_begin_75 rfl rfl rfl ?_
      refine go_bipush (q := 78) d_mo_begin_76 rfl (by decide) ?_
      refine go_icmp_gt (t := 118) (q := 81) d_mo_begin_78 (by decide) rfl (by omega) (by omega) (fun c4 => ?_) (fun c4 => ?_)
      ·
        refine go_aload_n (q := 119) d_mo_begin_118 rfl rfl rfl ?_
        exact k1 c2 c3 c4
      ·
        refine go_aload_n (q := 82) d_mo_begin_81 rfl rfl rfl ?_
        refine go_bipush (q := 84) d_mo_begin_82 rfl (by decide) ?_
        refine go_iload_n (q := 85) d_mo_begin_84 rfl rfl rfl ?_
        refine go_iadd (q := 86) d_mo_begin_85 rfl ?_
        refine go_bipush (q := 88) d_mo_begin_86 rfl (by decide) ?_
        refine go_isub (q := 89) d_mo_begin_88 rfl ?_
        refine go_aload_n (q := 90) d_mo_begin_89 rfl rfl rfl ?_
        refine go_getf (v := mv_I (I 4)) (q := 93) f_mo_124 d_mo_begin_90 rfl (mv_c0 hV) rfl ?_
        refine go_eq (st' := [mv_I ((m : Nat) : Int), mv_I ((64 + (ch_ tx len p - 97).toNat : Nat) : Int), mv_R o]) ?_ rfl rfl (by first | (rw [show I 4 = ((m : Nat) : Int) by omega, show (64 + (ch_ tx len p)) - 97 = ((64 + (ch_ tx len p - 97).toNat : Nat) : Int) by omega]; done) | (rw [← (show I 4 = ((m : Nat) : Int) by omega), ← (show (64 + (ch_ tx len p)) - 97 = ((64 + (ch_ tx len p - 97).toNat : Nat) : Int) by omega)]; done)) rfl rfl
        refine cl_copyValue (a := 64 + (ch_ tx len p - 97).toNat) (b := m) (q := 96) rfl d_mo_begin_93 rfl hV (by omega) (by omega) (Nat.le_of_ble_eq_true rfl) ⟨by decide, by decide, by decide, by decide⟩ (fun h_5 hV_6 fr_7 => ?_)
        have hV_8 : mo_V h_5 o (I, tx, va_up S m (S (64 + (ch_ tx len p - 97).toNat)), ps, cs, bs) (va_up (va_up V (2 * m) (V (2 * (64 + (ch_ tx len p - 97).toNat)))) (2 * m + 1) (V (2 * (64 + (ch_ tx len p - 97).toNat) + 1))) := by
          rw [(show V (2 * (64 + (ch_ tx len p - 97).toNat)) = V (2 * (64 + (ch_ tx len p - 97).toNat)) from rfl), (show V (2 * (64 + (ch_ tx len p - 97).toNat) + 1) = V (2 * (64 + (ch_ tx len p - 97).toNat) + 1) from rfl)] at hV_6
          exact hV_6
        refine go_aload_n (q := 97) d_mo_begin_96 rfl rfl rfl ?_
        refine go_aload_n (q := 98) d_mo_begin_97 rfl rfl rfl ?_
        refine go_getf (v := mv_I (I 4)) (q := 101) f_mo_124 d_mo_begin_98 rfl (mv_c0 hV_8) rfl ?_
        refine go_iconst (q := 102) d_mo_begin_101 rfl ?_
        refine go_iadd (q := 103) d_mo_begin_102 rfl ?_
        refine go_putf (q := 106) (v := mv_I ((I 4) + 1)) f_mo_124 d_mo_begin_103 rfl (mv_c0 hV_8) (Nat.le_of_ble_eq_true rfl) (go_fitI _) ?_
        have hV_10 := mv_u0 hV_8 (va_up I 4 ((I 4) + 1))
        refine go_eq (h' := va_up h_5 o (mv_O 8 [mv_I ((va_up I 4 ((I 4) + 1)) 0), mv_I ((va_up I 4 ((I 4) + 1)) 1), mv_R (o + 1), mv_I ((va_up I 4 ((I 4) + 1)) 2), mv_R (o + 2), mv_R (o + 3), mv_R (o + 4), mv_R (o + 5), mv_R (o + 6), mv_R (o + 7), mv_I ((va_up I 4 ((I 4) + 1)) 3), mv_I ((va_up I 4 ((I 4) + 1)) 4), mv_I ((va_up I 4 ((I 4) + 1)) 5)])) ?_
        have fr_11 : fr_ o 8 h_5 (va_up h_5 o (mv_O 8 [mv_I ((va_up I 4 ((I 4) + 1)) 0), mv_I ((va_up I 4 ((I 4) + 1)) 1), mv_R (o + 1), mv_I ((va_up I 4 ((I 4) + 1)) 2), mv_R (o + 2), mv_R (o + 3), mv_R (o + 4), mv_R (o + 5), mv_R (o + 6), mv_R (o + 7), mv_I ((va_up I 4 ((I 4) + 1)) 3), mv_I ((va_up I 4 ((I 4) + 1)) 4), mv_I ((va_up I 4 ((I 4) + 1)) 5)])) := fun z_ hz => va_up_ne _ _ (by omega)
        generalize va_up h_5 o (mv_O 8 [mv_I ((va_up I 4 ((I 4) + 1)) 0), mv_I ((va_up I 4 ((I 4) + 1)) 1), mv_R (o + 1), mv_I ((va_up I 4 ((I 4) + 1)) 2), mv_R (o + 2), mv_R (o + 3), mv_R (o + 4), mv_R (o + 5), mv_R (o + 6), mv_R (o + 7), mv_I ((va_up I 4 ((I 4) + 1)) 3), mv_I ((va_up I 4 ((I 4) + 1)) 4), mv_I ((va_up I 4 ((I 4) + 1)) 5)]) = h_9 at hV_10 fr_11 ⊢
        refine go_aload_n (q := 107) d_mo_begin_106 rfl rfl rfl ?_
        refine go_aload_n (q := 108) d_mo_begin_107 rfl rfl rfl ?_
        refine go_getf (v := mv_I (I 5)) (q := 111) f_mo_121 d_mo_begin_108 rfl (mv_c0 hV_10) rfl ?_
        refine go_iconst (q := 112) d_mo_begin_111 rfl ?_
        refine go_iadd (q := 113) d_mo_begin_112 rfl ?_
        refine go_putf (q := 116) (v := mv_I ((I 5) + 1)) f_mo_121 d_mo_begin_113 rfl (mv_c0 hV_10) (Nat.le_of_ble_eq_true rfl) (go_fitI _) ?_
        have hV_13 := mv_u0 hV_10 (va_up (va_up I 4 ((I 4) + 1)) 5 ((I 5) + 1))
        refine go_eq (h' := va_up h_9 o (mv_O 8 [mv_I ((va_up (va_up I 4 ((I 4) + 1)) 5 ((I 5) + 1)) 0), mv_I ((va_up (va_up I 4 ((I 4) + 1)) 5 ((I 5) + 1)) 1), mv_R (o + 1), mv_I ((va_up (va_up I 4 ((I 4) + 1)) 5 ((I 5) + 1)) 2), mv_R (o + 2), mv_R (o + 3), mv_R (o + 4), mv_R (o + 5), mv_R (o + 6), mv_R (o + 7), mv_I ((va_up (va_up I 4 ((I 4) + 1)) 5 ((I 5) + 1)) 3), mv_I ((va_up (va_up I 4 ((I 4) + 1)) 5 ((I 5) + 1)) 4), mv_I ((va_up (va_up I 4 ((I 4) + 1)) 5 ((I 5) + 1)) 5)])) ?_
        have fr_14 : fr_ o 8 h_9 (va_up h_9 o (mv_O 8 [mv_I ((va_up (va_up I 4 ((I 4) + 1)) 5 ((I 5) + 1)) 0), mv_I ((va_up (va_up I 4 ((I 4) + 1)) 5 ((I 5) + 1)) 1), mv_R (o + 1), mv_I ((va_up (va_up I 4 ((I 4) + 1)) 5 ((I 5) + 1)) 2), mv_R (o + 2), mv_R (o + 3), mv_R (o + 4), mv_R (o + 5), mv_R (o + 6), mv_R (o + 7), mv_I ((va_up (va_up I 4 ((I 4) + 1)) 5 ((I 5) + 1)) 3), mv_I ((va_up (va_up I 4 ((I 4) + 1)) 5 ((I 5) + 1)) 4), mv_I ((va_up (va_up I 4 ((I 4) + 1)) 5 ((I 5) + 1)) 5)])) := fun z_ hz => va_up_ne _ _ (by omega)
        generalize va_up h_9 o (mv_O 8 [mv_I ((va_up (va_up I 4 ((I 4) + 1)) 5 ((I 5) + 1)) 0), mv_I ((va_up (va_up I 4 ((I 4) + 1)) 5 ((I 5) + 1)) 1), mv_R (o + 1), mv_I ((va_up (va_up I 4 ((I 4) + 1)) 5 ((I 5) + 1)) 2), mv_R (o + 2), mv_R (o + 3), mv_R (o + 4), mv_R (o + 5), mv_R (o + 6), mv_R (o + 7), mv_I ((va_up (va_up I 4 ((I 4) + 1)) 5 ((I 5) + 1)) 3), mv_I ((va_up (va_up I 4 ((I 4) + 1)) 5 ((I 5) + 1)) 4), mv_I ((va_up (va_up I 4 ((I 4) + 1)) 5 ((I 5) + 1)) 5)]) = h_12 at hV_13 fr_14 ⊢
        refine go_iconst (q := 117) d_mo_begin_116 rfl ?_
        exact k2 c2 c3 c4 _ hV_13 (fr_.tr (fr_.tr fr_7 fr_11) fr_14)
  ·
    have q_12 := h12 (by omega)
    refine go_aload_n (q := 16) d_mo_begin_15 rfl rfl rfl ?_
    refine go_aload_n (q := 17) d_mo_begin_16 rfl rfl rfl ?_
    refine go_getf (v := mv_I (I 3)) (q := 20) f_mo_103 d_mo_begin_17 rfl (mv_c0 hV) rfl ?_
    refine go_iconst (q := 21) d_mo_begin_20 rfl ?_
    refine go_iadd (q := 22) d_mo_begin_21 rfl ?_
    refine go_putf (q := 25) (v := mv_I ((I 3) + 1)) f_mo_103 d_mo_begin_22 rfl (mv_c0 hV) (Nat.le_of_ble_eq_true rfl) (go_fitI _) ?_
    have hV_16 := mv_u0 hV (va_up I 3 ((I 3) + 1))
    refine go_eq (h' := va_up h o (mv_O 8 [mv_I ((va_up I 3 ((I 3) + 1)) 0), mv_I ((va_up I 3 ((I 3) + 1)) 1), mv_R (o + 1), mv_I ((va_up I 3 ((I 3) + 1)) 2), mv_R (o + 2), mv_R (o + 3), mv_R (o + 4), mv_R (o + 5), mv_R (o + 6), mv_R (o + 7), mv_I ((va_up I 3 ((I 3) + 1)) 3), mv_I ((va_up I 3 ((I 3) + 1)) 4), mv_I ((va_up I 3 ((I 3) + 1)) 5)])) ?_
    have fr_17 : fr_ o 8 h (va_up h o (mv_O 8 [mv_I ((va_up I 3 ((I 3) + 1)) 0), mv_I ((va_up I 3 ((I 3) + 1)) 1), mv_R (o + 1), mv_I ((va_up I 3 ((I 3) + 1)) 2), mv_R (o + 2), mv_R (o + 3), mv_R (o + 4), mv_R (o + 5), mv_R (o + 6), mv_R (o + 7), mv_I ((va_up I 3 ((I 3) + 1)) 3), mv_I ((va_up I 3 ((I 3) + 1)) 4), mv_I ((va_up I 3 ((I 3) + 1)) 5)])) := fun z_ hz => va_up_ne _ _ (by omega)
    generalize va_up h o (mv_O 8 [mv_I ((va_up I 3 ((I 3) + 1)) 0), mv_I ((va_up I 3 ((I 3) + 1)) 1), mv_R (o + 1), mv_I ((va_up I 3 ((I 3) + 1)) 2), mv_R (o + 2), mv_R (o + 3), mv_R (o + 4), mv_R (o + 5), mv_R (o + 6), mv_R (o + 7), mv_I ((va_up I 3 ((I 3) + 1)) 3), mv_I ((va_up I 3 ((I 3) + 1)) 4), mv_I ((va_up I 3 ((I 3) + 1)) 5)]) = h_15 at hV_16 fr_17 ⊢
    refine go_aload_n (q := 26) d_mo_begin_25 rfl rfl rfl ?_
    refine go_getf (v := mv_R (o + 5)) (q := 29) f_mo_26 d_mo_begin_26 rfl (mv_c0 hV_16) rfl ?_
    refine go_aload_n (q := 30) d_mo_begin_29 rfl rfl rfl ?_
    refine go_getf (v := mv_I ((I 3) + 1)) (q := 33) f_mo_103 d_mo_begin_30 rfl (mv_c0 hV_16) rfl ?_
    refine go_aload_n (q := 34) d_mo_begin_33 rfl rfl rfl ?_
    refine go_aload_n (q := 35) d_mo_begin_34 rfl rfl rfl ?_
    refine go_getf (v := mv_I (I 5)) (q := 38) f_mo_121 d_mo_begin_35 rfl (mv_c0 hV_16) rfl ?_
    refine go_iconst (q := 39) d_mo_begin_38 rfl ?_
    refine go_iadd (q := 40) d_mo_begin_39 rfl ?_
    refine go_eq (st' := [mv_I ((p + 1 : Nat) : Int), mv_R o, mv_I ((I 3) + 1), mv_R (o + 5)]) ?_ rfl rfl (by first | (rw [show (I 5) + 1 = ((p + 1 : Nat) : Int) by omega]; done) | (rw [← (show (I 5) + 1 = ((p + 1 : Nat) : Int) by omega)]; done)) rfl rfl
    refine cl_charAt (p := p + 1) (len := len) (q := 43) rfl d_mo_begin_40 rfl hV_16 (show (va_up I 3 ((I 3) + 1)) 1 = (len : Int) from hL) (by omega) (by omega) (by omega) (Nat.le_of_ble_eq_true rfl) ⟨by decide, by decide, by decide, by decide⟩ ?_
    have q_18 := ch_b ht len (p + 1)
    refine go_iast (i := k + 1) (q := 44) d_mo_begin_43 rfl (mv_c5 hV_16) (by omega) (by omega) (by omega) ?_
    have hV_20 := mv_u5 hV_16 (va_up ps (k + 1) (ch_ tx len (p + 1)))
    have fr_21 : fr_ o 8 h_15 (va_up h_15 (o + 5) (mv_A 0 13 (va_up ps (k + 1) (ch_ tx len (p + 1))))) := fun z_ hz => va_up_ne _ _ (by omega)
    generalize va_up h_15 (o + 5) (mv_A 0 13 (va_up ps (k + 1) (ch_ tx len (p + 1)))) = h_19 at hV_20 fr_21 ⊢
    refine go_aload_n (q := 45) d_mo_begin_44 rfl rfl rfl ?_
    refine go_getf (v := mv_R (o + 7)) (q := 48) f_mo_32 d_mo_begin_45 rfl (mv_c0 hV_20) rfl ?_
    refine go_aload_n (q := 49) d_mo_begin_48 rfl rfl rfl ?_
    refine go_getf (v := mv_I ((I 3) + 1)) (q := 52) f_mo_103 d_mo_begin_49 rfl (mv_c0 hV_20) rfl ?_
    refine go_aload_n (q := 53) d_mo_begin_52 rfl rfl rfl ?_
    refine go_getf (v := mv_I (I 4)) (q := 56) f_mo_124 d_mo_begin_53 rfl (mv_c0 hV_20) rfl ?_
    refine go_iast (i := k + 1) (q := 57) d_mo_begin_56 rfl (mv_c7 hV_20) (by omega) (by omega) (by omega) ?_
    have hV_23 := mv_u7 hV_20 (va_up bs (k + 1) (I 4))
    have fr_24 : fr_ o 8 h_19 (va_up h_19 (o + 7) (mv_A 0 13 (va_up bs (k + 1) (I 4)))) := fun z_ hz => va_up_ne _ _ (by omega)
    generalize va_up h_19 (o + 7) (mv_A 0 13 (va_up bs (k + 1) (I 4))) = h_22 at hV_23 fr_24 ⊢
    refine go_aload_n (q := 58) d_mo_begin_57 rfl rfl rfl ?_
    refine go_aload_n (q := 59) d_mo_begin_58 rfl rfl rfl ?_
    refine go_getf (v := mv_I (I 5)) (q := 62) f_mo_121 d_mo_begin_59 rfl (mv_c0 hV_23) rfl ?_
    refine go_iconst (q := 63) d_mo_begin_62 rfl ?_
    refine go_iadd (q := 64) d_mo_begin_63 rfl ?_
    refine go_putf (q := 67) (v := mv_I ((I 5) + 2)) f_mo_121 d_mo_begin_64 rfl (mv_c0 hV_23) (Nat.le_of_ble_eq_true rfl) (go_fitI _) ?_
    have hV_26 := mv_u0 hV_23 (va_up (va_up I 3 ((I 3) + 1)) 5 ((I 5) + 2))
    refine go_eq (h' := va_up h_22 o (mv_O 8 [mv_I ((va_up (va_up I 3 ((I 3) + 1)) 5 ((I 5) + 2)) 0), mv_I ((va_up (va_up I 3 ((I 3) + 1)) 5 ((I 5) + 2)) 1), mv_R (o + 1), mv_I ((va_up (va_up I 3 ((I 3) + 1)) 5 ((I 5) + 2)) 2), mv_R (o + 2), mv_R (o + 3), mv_R (o + 4), mv_R (o + 5), mv_R (o + 6), mv_R (o + 7), mv_I ((va_up (va_up I 3 ((I 3) + 1)) 5 ((I 5) + 2)) 3), mv_I ((va_up (va_up I 3 ((I 3) + 1)) 5 ((I 5) + 2)) 4), mv_I ((va_up (va_up I 3 ((I 3) + 1)) 5 ((I 5) + 2)) 5)])) ?_
    have fr_27 : fr_ o 8 h_22 (va_up h_22 o (mv_O 8 [mv_I ((va_up (va_up I 3 ((I 3) + 1)) 5 ((I 5) + 2)) 0), mv_I ((va_up (va_up I 3 ((I 3) + 1)) 5 ((I 5) + 2)) 1), mv_R (o + 1), mv_I ((va_up (va_up I 3 ((I 3) + 1)) 5 ((I 5) + 2)) 2), mv_R (o + 2), mv_R (o + 3), mv_R (o + 4), mv_R (o + 5), mv_R (o + 6), mv_R (o + 7), mv_I ((va_up (va_up I 3 ((I 3) + 1)) 5 ((I 5) + 2)) 3), mv_I ((va_up (va_up I 3 ((I 3) + 1)) 5 ((I 5) + 2)) 4), mv_I ((va_up (va_up I 3 ((I 3) + 1)) 5 ((I 5) + 2)) 5)])) := fun z_ hz => va_up_ne _ _ (by omega)
    generalize va_up h_22 o (mv_O 8 [mv_I ((va_up (va_up I 3 ((I 3) + 1)) 5 ((I 5) + 2)) 0), mv_I ((va_up (va_up I 3 ((I 3) + 1)) 5 ((I 5) + 2)) 1), mv_R (o + 1), mv_I ((va_up (va_up I 3 ((I 3) + 1)) 5 ((I 5) + 2)) 2), mv_R (o + 2), mv_R (o + 3), mv_R (o + 4), mv_R (o + 5), mv_R (o + 6), mv_R (o + 7), mv_I ((va_up (va_up I 3 ((I 3) + 1)) 5 ((I 5) + 2)) 3), mv_I ((va_up (va_up I 3 ((I 3) + 1)) 5 ((I 5) + 2)) 4), mv_I ((va_up (va_up I 3 ((I 3) + 1)) 5 ((I 5) + 2)) 5)]) = h_25 at hV_26 fr_27 ⊢
    refine go_iconst (q := 68) d_mo_begin_67 rfl ?_
    exact k3 c2 _ hV_26 (fr_.tr (fr_.tr (fr_.tr fr_17 fr_21) fr_24) fr_27)

set_option maxRecDepth 4000 in
theorem so_go_0 {φ : go_F} {l : Launch} {h : mv_H} {n : Nat} {o : Nat} {I tx S ps cs bs : Nat → Int} {V : Nat → Nat}  (hV : mo_V h o (I, tx, S, ps, cs, bs) V) 
    (k0 : Go φ l m_mo_goOn (go_rm rd_mo_goOn rw_mo_goOn 0 0) (0, 0) 2 [some (mv_R o), some (mv_I 0), none, none, none] [] h n) :
    Go φ l m_mo_goOn (go_rm rd_mo_goOn rw_mo_goOn 0 0) (0, 0) 0 [some (mv_R o), none, none, none, none] [] h n := by
  refine go_iconst (q := 1) d_mo_goOn_0 rfl ?_
  refine go_istore_n (q := 2) (L' := [some (mv_R o), some (mv_I 0), none, none, none]) d_mo_goOn_1 rfl rfl (by decide) rfl ?_
  exact k0 

set_option maxRecDepth 4000 in
theorem so_go_2 {φ : go_F} {l : Launch} {h : mv_H} {n : Nat} {o : Nat} {I tx S ps cs bs : Nat → Int} {V : Nat → Nat} {f : Int} {k : Nat} (hV : mo_V h o (I, tx, S, ps, cs, bs) V) (hf : 0 ≤ f ∧ f ≤ 3) (hO : I 3 = (k : Int) ∧ k ≤ 12)
    (k0 : ¬ f = 0 → Go φ l m_mo_goOn (go_rm rd_mo_goOn rw_mo_goOn 0 0) (0, 0) 187 [some (mv_R o), some (mv_I f), none, none, none] [mv_I f] h n)
    (k1 : f = 0 → I 3 ≤ 0 → Go φ l m_mo_goOn (go_rm rd_mo_goOn rw_mo_goOn 0 0) (0, 0) 187 [some (mv_R o), some (mv_I f), none, none, none] [mv_I f] h n)
    (k2 : f = 0 → ¬ I 3 ≤ 0 → Go φ l m_mo_goOn (go_rm rd_mo_goOn rw_mo_goOn 0 0) (0, 0) 13 [some (mv_R o), some (mv_I f), none, none, none] [] h n) :
    Go φ l m_mo_goOn (go_rm rd_mo_goOn rw_mo_goOn 0 0) (0, 0) 2 [some (mv_R o), some (mv_I f), none, none, none] [] h n := by
  refine go_iload_n (q := 3) d_mo_goOn_2 rfl rfl rfl ?_
  refine go_if_ne (t := 186) (q := 6) d_mo_goOn_3 (by decide) rfl (by omega) (fun c1 => ?_) (fun c1 => ?_)
  ·
    refine go_iload_n (q := 187) d_mo_goOn_186 rfl rfl rfl ?_
    exact k0 c1
  ·
    refine go_aload_n (q := 7) d_mo_goOn_6 rfl rfl rfl ?_
    refine go_getf (v := mv_I (I 3)) (q := 10) f_mo_103 d_mo_goOn_7 rfl (mv_c0 hV) rfl ?_
    refine go_if_le (t := 186) (q := 13) d_mo_goOn_10 (by decide) rfl (by omega) (fun c2 => ?_) (fun c2 => ?_)
    ·
      refine go_iload_n (q := 187) d_mo_goOn_186 rfl rfl rfl ?_
      exact k1 c1 c2
    ·
      exact k2 c1 c2

set_option maxRecDepth 4000 in
theorem so_go_13 {φ : go_F} {l : Launch} {h : mv_H} {n : Nat} {o : Nat} {I tx S ps cs bs : Nat → Int} {V : Nat → Nat} {f : Int} {p m k b len : Nat} (hV : mo_V h o (I, tx, S, ps, cs, bs) V) (hL : I 1 = (len : Int)) (hl : len ≤ 120) (ht : ∀ i, 0 ≤ tx i ∧ tx i ≤ 127) (hA : I 5 = (p : Int) ∧ p ≤ 120) (hM : I 4 = (m : Int) ∧ m ≤ 60) (hO : I 3 = (k : Int) ∧ k ≤ 12) (hB : bs k = (b : Int) ∧ b ≤ m ∧ b < 60) (hP : 0 ≤ ps k ∧ ps k ≤ 127) (hS : ∀ i, -1 ≤ S i ∧ S i ≤ 1)
    (k0 : ¬ ps k = 63 → ¬ ch_ tx len p = 41 → ∀ h' : mv_H, mo_V h' o (va_up I 5 ((I 5) + 1), tx, S, ps, cs, bs) (V) → fr_ o 8 h h' → Go φ l m_mo_goOn (go_rm rd_mo_goOn rw_mo_goOn 0 0) (0, 0) 182 [some (mv_R o), some (mv_I f), some (mv_I (bs k)), some (mv_I ((I 4) - (bs k))), some (mv_I 0)] [mv_I 0] h' n)
    (k1 : ¬ ps k = 63 → ch_ tx len p = 41 → Go φ l m_mo_goOn (go_rm rd_mo_goOn rw_mo_goOn 0 0) (0, 0) 76 [some (mv_R o), some (mv_I f), some (mv_I (bs k)), some (mv_I ((I 4) - (bs k))), some (mv_I 0)] [mv_I ((I 4) - (bs k)), mv_I (bs k), mv_I (ps k), mv_R o] h n)
    (k2 : ps k = 63 → ¬ ch_ tx len p = 41 → ¬ (I 4) - (bs k) = 2 → ¬ (I 4) - (bs k) = 1 → ∀ h' : mv_H, mo_V h' o (va_up I 5 ((I 5) + 1), tx, S, ps, cs, bs) (V) → fr_ o 8 h h' → Go φ l m_mo_goOn (go_rm rd_mo_goOn rw_mo_goOn 0 0) (0, 0) 182 [some (mv_R o), some (mv_I f), some (mv_I (bs k)), some (mv_I ((I 4) - (bs k))), some (mv_I 1)] [mv_I 0] h' n)
    (k3 : ps k = 63 → ¬ ch_ tx len p = 41 → ¬ (I 4) - (bs k) = 2 → (I 4) - (bs k) = 1 → ¬ S b = 0 → ∀ h' : mv_H, mo_V h' o (va_up I 5 ((I 5) + 1), tx, S, ps, cs, bs) (V) → fr_ o 8 h h' → Go φ l m_mo_goOn (go_rm rd_mo_goOn rw_mo_goOn 0 0) (0, 0) 182 [some (mv_R o), some (mv_I f), some (mv_I (bs k)), some (mv_I ((I 4) - (bs k))), some (mv_I 1)] [mv_I 0] h' n)
    (k4 : ps k = 63 → ¬ ch_ tx len p = 41 → ¬ (I 4) - (bs k) = 2 → (I 4) - (bs k) = 1 → S b = 0 → Go φ l m_mo_goOn (go_rm rd_mo_goOn rw_mo_goOn 0 0) (0, 0) 164 [some (mv_R o), some (mv_I f), some (mv_I (bs k)), some (mv_I ((I 4) - (bs k))), some (mv_I 1)] [mv_I ((I 5) + 1), mv_R o, mv_R o] h n)
    (k5 : ps k = 63 → ¬ ch_ tx len p = 41 → (I 4) - (bs k) = 2 → Go φ l m_mo_goOn (go_rm rd_mo_goOn rw_mo_goOn 0 0) (0, 0) 128 [some (mv_R o), some (mv_I f), some (mv_I (bs k)), some (mv_I ((I 4) - (bs k))), some (mv_I 1)] [mv_I ((I 5) + 1), mv_R o, mv_R o] h n)
    (k6 : ps k = 63 → ch_ tx len p = 41 → Go φ l m_mo_goOn (go_rm rd_mo_goOn rw_mo_goOn 0 0) (0, 0) 76 [some (mv_R o), some (mv_I f), some (mv_I (bs k)), some (mv_I ((I 4) - (bs k))), some (mv_I 1)] [mv_I ((I 4) - (bs k)), mv_I (bs k), mv_I (ps k), mv_R o] h n) :
    Go φ l m_mo_goOn (go_rm rd_mo_goOn rw_mo_goOn 0 0) (0, 0) 13 [some (mv_R o), some (mv_I f), none, none, none] [] h n := by
  refine go_aload_n (q := 14) d_mo_goOn_13 rfl rfl rfl ?_
  refine go_getf (v := mv_R (o + 7)) (q := 17) f_mo_32 d_mo_goOn_14 rfl (mv_c0 hV) rfl ?_
  refine go_aload_n (q := 18) d_mo_goOn_17 rfl rfl rfl ?_
  refine go_getf (v := mv_I (I 3)) (q := 21) f_mo_103 d_mo_goOn_18 rfl (mv_c0 hV) rfl ?_
  refine go_iald (i := k) (q := 22) d_mo_goOn_21 rfl (mv_c7 hV) (by omega) (by omega) (by omega) ?_
  refine go_istore_n (q := 23) (L' := [some (mv_R o), some (mv_I f), some (mv_I (bs k)), none, none]) d_mo_goOn_22 rfl rfl (by decide) rfl ?_
  refine go_aload_n (q := 24) d_mo_goOn_23 rfl rfl rfl ?_
  refine go_getf (v := mv_I (I 4)) (q := 27) f_mo_124 d_mo_goOn_24 rfl (mv_c0 hV) rfl ?_
  refine go_iload_n (q := 28) d_mo_goOn_27 rfl rfl rfl ?_
  refine go_isub (q := 29) d_mo_goOn_28 rfl ?_
  refine go_istore_n (q := 30) (L' := [some (mv_R o), some (mv_I f), some (mv_I (bs k)), some (mv_I ((I 4) - (bs k))), none]) d_mo_goOn_29 rfl rfl (by decide) rfl ?_
  refine go_aload_n (q := 31) d_mo_goOn_30 rfl rfl rfl ?_
  refine go_getf (v := mv_R (o + 5)) (q := 34) f_mo_26 d_mo_goOn_31 rfl (mv_c0 hV) rfl ?_
  refine go_aload_n (q := 35) d_mo_goOn_34 rfl rfl rfl ?_
  refine go_getf (v := mv_I (I 3)) (q := 38) f_mo_103 d_mo_goOn_35 rfl (mv_c0 hV) rfl ?_
  refine go_iald (i := k) (q := 39) d_mo_goOn_38 rfl (mv_c5 hV) (by omega) (by omega) (by omega) ?_
  refine go_bipush (q := 41) d_mo_goOn_39 rfl (by decide) ?_
  refine go_icmp_ne (t := 48) (q := 44) d_mo_goOn_41 (by decide) rfl (by omega) (by omega) (fun c1 => ?_) (fun c1 => ?_)
  ·
    refine go_iconst (q := 49) d_mo_goOn_48 rfl ?_
    refine go_istore (q := 51) (L' := [some (mv_R o), some (mv_I f), some (mv_I (bs k)), some (mv_I ((I 4) - (bs k))), some (mv_I 0)]) d_mo_goOn_49 rfl (by decide) rfl ?_
    refine go_aload_n (q := 52) d_mo_goOn_51 rfl rfl rfl ?_
    refine go_aload_n (q := 53) d_mo_goOn_52 rfl rfl rfl ?_
    refine go_getf (v := mv_I (I 5)) (q := 56) f_mo_121 d_mo_goOn_53 rfl (mv_c0 hV) rfl ?_
    refine go_eq (st' := [mv_I ((p : Nat) : Int), mv_R o]) ?_ rfl rfl (by first | (rw [show I 5 = ((p : Nat) : Int) by omega]; done) | (rw [← (show I 5 = ((p : Nat) : Int) by omega)]; done)) rfl rfl
    refine cl_charAt (p := p) (len := len) (q := 59) rfl d_mo_goOn_56 rfl hV (show I 1 = (len : Int) from hL) (by omega) (by omega) (by omega) (Nat.le_of_ble_eq_true rfl) ⟨by decide, by decide, by decide, by decide⟩ ?_
    have q_2 := ch_b ht len p
    refine go_bipush (q := 61) d_mo_goOn_59 rfl (by decide) ?_
    refine go_icmp_ne (t := 110) (q := 64) d_mo_goOn_61 (by decide) rfl (by omega) (by omega) (fun c3 => ?_) (fun c3 => ?_)
    ·
      refine go_iload (q := 112) d_mo_goOn_110 rfl rfl ?_
      refine go_if_eq (t := 137) (q := 115) d_mo_goOn_112 (by decide) rfl (by omega) (fun c4 => ?_) (fun c4 => ?_)
      ·
        refine go_aload_n (q := 138) d_mo_goOn_137 rfl rfl rfl ?_
        refine go_iload (q := 140) d_mo_goOn_138 rfl rfl ?_
        refine go_if_eq (t := 172) (q := 143) d_mo_goOn_140 (by decide) rfl (by omega) (fun c5 => ?_) (fun c5 => ?_)
        ·
          refine go_aload_n (q := 173) d_mo_goOn_172 rfl rfl rfl ?_
          refine go_getf (v := mv_I (I 5)) (q := 176) f_mo_121 d_mo_goOn_173 rfl (mv_c0 hV) rfl ?_
          refine go_iconst (q := 177) d_mo_goOn_176 rfl ?_
          refine go_iadd (q := 178) d_mo_goOn_177 rfl ?_
          refine go_putf (q := 181) (v := mv_I ((I 5) + 1)) f_mo_121 d_mo_goOn_178 rfl (mv_c0 hV) (Nat.le_of_ble_eq_true rfl) (go_fitI _) ?_
          have hV_7 := mv_u0 hV (va_up I 5 ((I 5) + 1))
          refine go_eq (h' := va_up h o (mv_O 8 [mv_I ((va_up I 5 ((I 5) + 1)) 0), mv_I ((va_up I 5 ((I 5) + 1)) 1), mv_R (o + 1), mv_I ((va_up I 5 ((I 5) + 1)) 2), mv_R (o + 2), mv_R (o + 3), mv_R (o + 4), mv_R (o + 5), mv_R (o + 6), mv_R (o + 7), mv_I ((va_up I 5 ((I 5) + 1)) 3), mv_I ((va_up I 5 ((I 5) + 1)) 4), mv_I ((va_up I 5 ((I 5) + 1)) 5)])) ?_
          have fr_8 : fr_ o 8 h (va_up h o (mv_O 8 [mv_I ((va_up I 5 ((I 5) + 1)) 0), mv_I ((va_up I 5 ((I 5) + 1)) 1), mv_R (o + 1), mv_I ((va_up I 5 ((I 5) + 1)) 2), mv_R (o + 2), mv_R (o + 3), mv_R (o + 4), mv_R (o + 5), mv_R (o + 6), mv_R (o + 7), mv_I ((va_up I 5 ((I 5) + 1)) 3), mv_I ((va_up I 5 ((I 5) + 1)) 4), mv_I ((va_up I 5 ((I 5) + 1)) 5)])) := fun z_ hz => va_up_ne _ _ (by omega)
          generalize va_up h o (mv_O 8 [mv_I ((va_up I 5 ((I 5) + 1)) 0), mv_I ((va_up I 5 ((I 5) + 1)) 1), mv_R (o + 1), mv_I ((va_up I 5 ((I 5) + 1)) 2), mv_R (o + 2), mv_R (o + 3), mv_R (o + 4), mv_R (o + 5), mv_R (o + 6), mv_R (o + 7), mv_I ((va_up I 5 ((I 5) + 1)) 3), mv_I ((va_up I 5 ((I 5) + 1)) 4), mv_I ((va_up I 5 ((I 5) + 1)) 5)]) = h_6 at hV_7 fr_8 ⊢
          refine go_iconst (q := 182) d_mo_goOn_181 rfl ?_
          exact k0 c1 c3 _ hV_7 fr_8
        ·
          exfalso; omega
      ·
        exfalso; omega
    ·
      refine go_aload_n (q := 65) d_mo_goOn_64 rfl rfl rfl ?_
      refine go_aload_n (q := 66) d_mo_goOn_65 rfl rfl rfl ?_
      refine go_getf (v := mv_R (o + 5)) (q := 69) f_mo_26 d_mo_goOn_66 rfl (mv_c0 hV) rfl ?_
      refine go_aload_n (q := 70) d_mo_goOn_69 rfl rfl rfl ?_
      refine go_getf (v := mv_I (I 3)) (q := 73) f_mo_103 d_mo_goOn_70 rfl (mv_c0 hV) rfl ?_
      refine go_iald (i := k) (q := 74) d_mo_goOn_73 rfl (mv_c5 hV) (by omega) (by omega) (by omega) ?_
      refine go_iload_n (q := 75) d_mo_goOn_74 rfl rfl rfl ?_
      refine go_iload_n (q := 76) d_mo_goOn_75 rfl rfl rfl ?_
      exact k1 c1 c3
  ·
    refine go_iconst (q := 45) d_mo_goOn_44 rfl ?_
    refine go_goto (q := 49) d_mo_goOn_45 (by decide) ?_
    refine go_istore (q := 51) (L' := [some (mv_R o), some (mv_I f), some (mv_I (bs k)), some (mv_I ((I 4) - (bs k))), some (mv_I 1)]) d_mo_goOn_49 rfl (by decide) rfl ?_
    refine go_aload_n (q := 52) d_mo_goOn_51 rfl rfl rfl ?_
    refine go_aload_n (q := 53) d_mo_goOn_52 rfl rfl rfl ?_
    refine go_getf (v := mv_I (I 5)) (q := 56) f_mo_121 d_mo_goOn_53 rfl (mv_c0 hV) rfl ?_
    refine go_eq (st' := [mv_I ((p : Nat) : Int), mv_R o]) ?_ rfl rfl (by first | (rw [show I 5 = ((p : Nat) : Int) by omega]; done) | (rw [← (show I 5 = ((p : Nat) : Int) by omega)]; done)) rfl rfl
    refine cl_charAt (p := p) (len := len) (q := 59) rfl d_mo_goOn_56 rfl hV (show I 1 = (len : Int) from hL) (by omega) (by omega) (by omega) (Nat.le_of_ble_eq_true rfl) ⟨by decide, by decide, by decide, by decide⟩ ?_
    have q_9 := ch_b ht len p
    refine go_bipush (q := 61) d_mo_goOn_59 rfl (by decide) ?_
    refine go_icmp_ne (t := 110) (q := 64) d_mo_goOn_61 (by decide) rfl (by omega) (by omega) (fun c10 => ?_) (fun c10 => ?_)
    ·
      refine go_iload (q := 112) d_mo_goOn_110 rfl rfl ?_
      refine go_if_eq (t := 137) (q := 115) d_mo_goOn_112 (by decide) rfl (by omega) (fun c11 => ?_) (fun c11 => ?_)
      ·
        exfalso; omega
      ·
        refine go_iload_n (q := 116) d_mo_goOn_115 rfl rfl rfl ?_
        refine go_iconst (q := 117) d_mo_goOn_116 rfl ?_
        refine go_icmp_ne (t := 137) (q := 120) d_mo_goOn_117 (by decide) rfl (by omega) (by omega) (fun c12 => ?_) (fun c12 => ?_)
        ·
          refine go_aload_n (q := 138) d_mo_goOn_137 rfl rfl rfl ?_
          refine go_iload (q := 140) d_mo_goOn_138 rfl rfl ?_
          refine go_if_eq (t := 172) (q := 143) d_mo_goOn_140 (by decide) rfl (by omega) (fun c13 => ?_) (fun c13 => ?_)
          ·
            exfalso; omega
          ·
            refine go_iload_n (q := 144) d_mo_goOn_143 rfl rfl rfl ?_
            refine go_iconst (q := 145) d_mo_goOn_144 rfl ?_
            refine go_icmp_ne (t := 172) (q := 148) d_mo_goOn_145 (by decide) rfl (by omega) (by omega) (fun c14 => ?_) (fun c14 => ?_)
            ·
              refine go_aload_n (q := 173) d_mo_goOn_172 rfl rfl rfl ?_
              refine go_getf (v := mv_I (I 5)) (q := 176) f_mo_121 d_mo_goOn_173 rfl (mv_c0 hV) rfl ?_
              refine go_iconst (q := 177) d_mo_goOn_176 rfl ?_
              refine go_iadd (q := 178) d_mo_goOn_177 rfl ?_
              refine go_putf (q := 181) (v := mv_I ((I 5) + 1)) f_mo_121 d_mo_goOn_178 rfl (mv_c0 hV) (Nat.le_of_ble_eq_true rfl) (go_fitI _) ?_
              have hV_16 := mv_u0 hV (va_up I 5 ((I 5) + 1))
              refine go_eq (h' := va_up h o (mv_O 8 [mv_I ((va_up I 5 ((I 5) + 1)) 0), mv_I ((va_up I 5 ((I 5) + 1)) 1), mv_R (o + 1), mv_I ((va_up I 5 ((I 5) + 1)) 2), mv_R (o + 2), mv_R (o + 3), mv_R (o + 4), mv_R (o + 5), mv_R (o + 6), mv_R (o + 7), mv_I ((va_up I 5 ((I 5) + 1)) 3), mv_I ((va_up I 5 ((I 5) + 1)) 4), mv_I ((va_up I 5 ((I 5) + 1)) 5)])) ?_
              have fr_17 : fr_ o 8 h (va_up h o (mv_O 8 [mv_I ((va_up I 5 ((I 5) + 1)) 0), mv_I ((va_up I 5 ((I 5) + 1)) 1), mv_R (o + 1), mv_I ((va_up I 5 ((I 5) + 1)) 2), mv_R (o + 2), mv_R (o + 3), mv_R (o + 4), mv_R (o + 5), mv_R (o + 6), mv_R (o + 7), mv_I ((va_up I 5 ((I 5) + 1)) 3), mv_I ((va_up I 5 ((I 5) + 1)) 4), mv_I ((va_up I 5 ((I 5) + 1)) 5)])) := fun z_ hz => va_up_ne _ _ (by omega)
              generalize va_up h o (mv_O 8 [mv_I ((va_up I 5 ((I 5) + 1)) 0), mv_I ((va_up I 5 ((I 5) + 1)) 1), mv_R (o + 1), mv_I ((va_up I 5 ((I 5) + 1)) 2), mv_R (o + 2), mv_R (o + 3), mv_R (o + 4), mv_R (o + 5), mv_R (o + 6), mv_R (o + 7), mv_I ((va_up I 5 ((I 5) + 1)) 3), mv_I ((va_up I 5 ((I 5) + 1)) 4), mv_I ((va_up I 5 ((I 5) + 1)) 5)]) = h_15 at hV_16 fr_17 ⊢
              refine go_iconst (q := 182) d_mo_goOn_181 rfl ?_
              exact k2 c1 c10 c12 c14 _ hV_16 fr_17
            ·
              refine go_aload_n (q := 149) d_mo_goOn_148 rfl rfl rfl ?_
              refine go_getf (v := mv_R (o + 4)) (q := 152) f_mo_23 d_mo_goOn_149 rfl (mv_c0 hV) rfl ?_
              refine go_iload_n (q := 153) d_mo_goOn_152 rfl rfl rfl ?_
              refine go_iald (i := b) (q := 154) d_mo_goOn_153 rfl (mv_c4 hV) (by omega) (by omega) (by omega) ?_
              have q_18 := hS b
              refine go_if_ne (t := 172) (q := 157) d_mo_goOn_154 (by decide) rfl (by omega) (fun c19 => ?_) (fun c19 => ?_)
              ·
                refine go_aload_n (q := 173) d_mo_goOn_172 rfl rfl rfl ?_
                refine go_getf (v := mv_I (I 5)) (q := 176) f_mo_121 d_mo_goOn_173 rfl (mv_c0 hV) rfl ?_
                refine go_iconst (q := 177) d_mo_goOn_176 rfl ?_
                refine go_iadd (q := 178) d_mo_goOn_177 rfl ?_
                refine go_putf (q := 181) (v := mv_I ((I 5) + 1)) f_mo_121 d_mo_goOn_178 rfl (mv_c0 hV) (Nat.le_of_ble_eq_true rfl) (go_fitI _) ?_
                have hV_21 := mv_u0 hV (va_up I 5 ((I 5) + 1))
                refine go_eq (h' := va_up h o (mv_O 8 [mv_I ((va_up I 5 ((I 5) + 1)) 0), mv_I ((va_up I 5 ((I 5) + 1)) 1), mv_R (o + 1), mv_I ((va_up I 5 ((I 5) + 1)) 2), mv_R (o + 2), mv_R (o + 3), mv_R (o + 4), mv_R (o + 5), mv_R (o + 6), mv_R (o + 7), mv_I ((va_up I 5 ((I 5) + 1)) 3), mv_I ((va_up I 5 ((I 5) + 1)) 4), mv_I ((va_up I 5 ((I 5) + 1)) 5)])) ?_
                have fr_22 : fr_ o 8 h (va_up h o (mv_O 8 [mv_I ((va_up I 5 ((I 5) + 1)) 0), mv_I ((va_up I 5 ((I 5) + 1)) 1), mv_R (o + 1), mv_I ((va_up I 5 ((I 5) + 1)) 2), mv_R (o + 2), mv_R (o + 3), mv_R (o + 4), mv_R (o + 5), mv_R (o + 6), mv_R (o + 7), mv_I ((va_up I 5 ((I 5) + 1)) 3), mv_I ((va_up I 5 ((I 5) + 1)) 4), mv_I ((va_up I 5 ((I 5) + 1)) 5)])) := fun z_ hz => va_up_ne _ _ (by omega)
                generalize va_up h o (mv_O 8 [mv_I ((va_up I 5 ((I 5) + 1)) 0), mv_I ((va_up I 5 ((I 5) + 1)) 1), mv_R (o + 1), mv_I ((va_up I 5 ((I 5) + 1)) 2), mv_R (o + 2), mv_R (o + 3), mv_R (o + 4), mv_R (o + 5), mv_R (o + 6), mv_R (o + 7), mv_I ((va_up I 5 ((I 5) + 1)) 3), mv_I ((va_up I 5 ((I 5) + 1)) 4), mv_I ((va_up I 5 ((I 5) + 1)) 5)]) = h_20 at hV_21 fr_22 ⊢
                refine go_iconst (q := 182) d_mo_goOn_181 rfl ?_
                exact k3 c1 c10 c12 c14 c19 _ hV_21 fr_22
              ·
                refine go_aload_n (q := 158) d_mo_goOn_157 rfl rfl rfl ?_
                refine go_aload_n (q := 159) d_mo_goOn_158 rfl rfl rfl ?_
                refine go_getf (v := mv_I (I 5)) (q := 162) f_mo_121 d_mo_goOn_159 rfl (mv_c0 hV) rfl ?_
                refine go_iconst (q := 163) d_mo_goOn_162 rfl ?_
                refine go_iadd (q := 164) d_mo_goOn_163 rfl ?_
                exact k4 c1 c10 c12 c14 c19
        ·
          refine go_aload_n (q := 121) d_mo_goOn_120 rfl rfl rfl ?_
          refine go_aload_n (q := 122) d_mo_goOn_121 rfl rfl rfl ?_
          refine go_aload_n (q := 123) d_mo_goOn_122 rfl rfl rfl ?_
          refine go_getf (v := mv_I (I 5)) (q := 126) f_mo_121 d_mo_goOn_123 rfl (mv_c0 hV) rfl ?_
          refine go_iconst (q := 127) d_mo_goOn_126 rfl ?_
          refine go_iadd (q := 128) d_mo_goOn_127 rfl ?_
          exact k5 c1 c10 c12
    ·
      refine go_aload_n (q := 65) d_mo_goOn_64 rfl rfl rfl ?_
      refine go_aload_n (q := 66) d_mo_goOn_65 rfl rfl rfl ?_
      refine go_getf (v := mv_R (o + 5)) (q := 69) f_mo_26 d_mo_goOn_66 rfl (mv_c0 hV) rfl ?_
      refine go_aload_n (q := 70) d_mo_goOn_69 rfl rfl rfl ?_
      refine go_getf (v := mv_I (I 3)) (q := 73) f_mo_103 d_mo_goOn_70 rfl (mv_c0 hV) rfl ?_
      refine go_iald (i := k) (q := 74) d_mo_goOn_73 rfl (mv_c5 hV) (by omega) (by omega) (by omega) ?_
      refine go_iload_n (q := 75) d_mo_goOn_74 rfl rfl rfl ?_
      refine go_iload_n (q := 76) d_mo_goOn_75 rfl rfl rfl ?_
      exact k6 c1 c10

set_option maxRecDepth 4000 in
theorem so_go_79 {φ : go_F} {l : Launch} {h : mv_H} {n : Nat} {o : Nat} {I tx S ps cs bs : Nat → Int} {V : Nat → Nat} {f y x c z : Int} (hV : mo_V h o (I, tx, S, ps, cs, bs) V) 
    (k0 : ∀ h' : mv_H, mo_V h' o (va_up (va_up (va_up I 4 (y + 1)) 3 ((I 3) - 1)) 5 ((I 5) + 1), tx, S, ps, cs, bs) (V) → fr_ o 8 h h' → Go φ l m_mo_goOn (go_rm rd_mo_goOn rw_mo_goOn 0 0) (0, 0) 2 [some (mv_R o), some (mv_I z), none, none, none] [] h' n) :
    Go φ l m_mo_goOn (go_rm rd_mo_goOn rw_mo_goOn 0 0) (0, 0) 79 [some (mv_R o), some (mv_I f), some (mv_I y), some (mv_I x), some (mv_I c)] [mv_I z] h n := by
  refine go_istore_n (q := 80) (L' := [some (mv_R o), some (mv_I z), some (mv_I y), some (mv_I x), some (mv_I c)]) d_mo_goOn_79 rfl rfl (by decide) rfl ?_
  refine go_aload_n (q := 81) d_mo_goOn_80 rfl rfl rfl ?_
  refine go_iload_n (q := 82) d_mo_goOn_81 rfl rfl rfl ?_
  refine go_iconst (q := 83) d_mo_goOn_82 rfl ?_
  refine go_iadd (q := 84) d_mo_goOn_83 rfl ?_
  refine go_putf (q := 87) (v := mv_I (y + 1)) f_mo_124 d_mo_goOn_84 rfl (mv_c0 hV) (Nat.le_of_ble_eq_true rfl) (go_fitI _) ?_
  have hV_2 := mv_u0 hV (va_up I 4 (y + 1))
  refine go_eq (h' := va_up h o (mv_O 8 [mv_I ((va_up I 4 (y + 1)) 0), mv_I ((va_up I 4 (y + 1)) 1), mv_R (o + 1), mv_I ((va_up I 4 (y + 1)) 2), mv_R (o + 2), mv_R (o + 3), mv_R (o + 4), mv_R (o + 5), mv_R (o + 6), mv_R (o + 7), mv_I ((va_up I 4 (y + 1)) 3), mv_I ((va_up I 4 (y + 1)) 4), mv_I ((va_up I 4 (y + 1)) 5)])) ?_
  have fr_3 : fr_ o 8 h (va_up h o (mv_O 8 [mv_I ((va_up I 4 (y + 1)) 0), mv_I ((va_up I 4 (y + 1)) 1), mv_R (o + 1), mv_I ((va_up I 4 (y + 1)) 2), mv_R (o + 2), mv_R (o + 3), mv_R (o + 4), mv_R (o + 5), mv_R (o + 6), mv_R (o + 7), mv_I ((va_up I 4 (y + 1)) 3), mv_I ((va_up I 4 (y + 1)) 4), mv_I ((va_up I 4 (y + 1)) 5)])) := fun z_ hz => va_up_ne _ _ (by omega)
  generalize va_up h o (mv_O 8 [mv_I ((va_up I 4 (y + 1)) 0), mv_I ((va_up I 4 (y + 1)) 1), mv_R (o + 1), mv_I ((va_up I 4 (y + 1)) 2), mv_R (o + 2), mv_R (o + 3), mv_R (o + 4), mv_R (o + 5), mv_R (o + 6), mv_R (o + 7), mv_I ((va_up I 4 (y + 1)) 3), mv_I ((va_up I 4 (y + 1)) 4), mv_I ((va_up I 4 (y + 1)) 5)]) = h_1 at hV_2 fr_3 ⊢
  refine go_aload_n (q := 88) d_mo_goOn_87 rfl rfl rfl ?_
  refine go_aload_n (q := 89) d_mo_goOn_88 rfl rfl rfl ?_
  refine go_getf (v := mv_I (I 3)) (q := 92) f_mo_103 d_mo_goOn_89 rfl (mv_c0 hV_2) rfl ?_
  refine go_iconst (q := 93) d_mo_goOn_92 rfl ?_
  refine go_isub (q := 94) d_mo_goOn_93 rfl ?_
  refine go_putf (q := 97) (v := mv_I ((I 3) - 1)) f_mo_103 d_mo_goOn_94 rfl (mv_c0 hV_2) (Nat.le_of_ble_eq_true rfl) (go_fitI _) ?_
  have hV_5 := mv_u0 hV_2 (va_up (va_up I 4 (y + 1)) 3 ((I 3) - 1))
  refine go_eq (h' := va_up h_1 o (mv_O 8 [mv_I ((va_up (va_up I 4 (y + 1)) 3 ((I 3) - 1)) 0), mv_I ((va_up (va_up I 4 (y + 1)) 3 ((I 3) - 1)) 1), mv_R (o + 1), mv_I ((va_up (va_up I 4 (y + 1)) 3 ((I 3) - 1)) 2), mv_R (o + 2), mv_R (o + 3), mv_R (o + 4), mv_R (o + 5), mv_R (o + 6), mv_R (o + 7), mv_I ((va_up (va_up I 4 (y + 1)) 3 ((I 3) - 1)) 3), mv_I ((va_up (va_up I 4 (y + 1)) 3 ((I 3) - 1)) 4), mv_I ((va_up (va_up I 4 (y + 1)) 3 ((I 3) - 1)) 5)])) ?_
  have fr_6 : fr_ o 8 h_1 (va_up h_1 o (mv_O 8 [mv_I ((va_up (va_up I 4 (y + 1)) 3 ((I 3) - 1)) 0), mv_I ((va_up (va_up I 4 (y + 1)) 3 ((I 3) - 1)) 1), mv_R (o + 1), mv_I ((va_up (va_up I 4 (y + 1)) 3 ((I 3) - 1)) 2), mv_R (o + 2), mv_R (o + 3), mv_R (o + 4), mv_R (o + 5), mv_R (o + 6), mv_R (o + 7), mv_I ((va_up (va_up I 4 (y + 1)) 3 ((I 3) - 1)) 3), mv_I ((va_up (va_up I 4 (y + 1)) 3 ((I 3) - 1)) 4), mv_I ((va_up (va_up I 4 (y + 1)) 3 ((I 3) - 1)) 5)])) := fun z_ hz => va_up_ne _ _ (by omega)
  generalize va_up h_1 o (mv_O 8 [mv_I ((va_up (va_up I 4 (y + 1)) 3 ((I 3) - 1)) 0), mv_I ((va_up (va_up I 4 (y + 1)) 3 ((I 3) - 1)) 1), mv_R (o + 1), mv_I ((va_up (va_up I 4 (y + 1)) 3 ((I 3) - 1)) 2), mv_R (o + 2), mv_R (o + 3), mv_R (o + 4), mv_R (o + 5), mv_R (o + 6), mv_R (o + 7), mv_I ((va_up (va_up I 4 (y + 1)) 3 ((I 3) - 1)) 3), mv_I ((va_up (va_up I 4 (y + 1)) 3 ((I 3) - 1)) 4), mv_I ((va_up (va_up I 4 (y + 1)) 3 ((I 3) - 1)) 5)]) = h_4 at hV_5 fr_6 ⊢
  refine go_aload_n (q := 98) d_mo_goOn_97 rfl rfl rfl ?_
  refine go_aload_n (q := 99) d_mo_goOn_98 rfl rfl rfl ?_
  refine go_getf (v := mv_I (I 5)) (q := 102) f_mo_121 d_mo_goOn_99 rfl (mv_c0 hV_5) rfl ?_
  refine go_iconst (q := 103) d_mo_goOn_102 rfl ?_
  refine go_iadd (q := 104) d_mo_goOn_103 rfl ?_
  refine go_putf (q := 107) (v := mv_I ((I 5) + 1)) f_mo_121 d_mo_goOn_104 rfl (mv_c0 hV_5) (Nat.le_of_ble_eq_true rfl) (go_fitI _) ?_
  have hV_8 := mv_u0 hV_5 (va_up (va_up (va_up I 4 (y + 1)) 3 ((I 3) - 1)) 5 ((I 5) + 1))
  refine go_eq (h' := va_up h_4 o (mv_O 8 [mv_I ((va_up (va_up (va_up I 4 (y + 1)) 3 ((I 3) - 1)) 5 ((I 5) + 1)) 0), mv_I ((va_up (va_up (va_up I 4 (y + 1)) 3 ((I 3) - 1)) 5 ((I 5) + 1)) 1), mv_R (o + 1), mv_I ((va_up (va_up (va_up I 4 (y + 1)) 3 ((I 3) - 1)) 5 ((I 5) + 1)) 2), mv_R (o + 2), mv_R (o + 3), mv_R (o + 4), mv_R (o + 5), mv_R (o + 6), mv_R (o + 7), mv_I ((va_up (va_up (va_up I 4 (y + 1)) 3 ((I 3) - 1)) 5 ((I 5) + 1)) 3), mv_I ((va_up (va_up (va_up I 4 (y + 1)) 3 ((I 3) - 1)) 5 ((I 5) + 1)) 4), mv_I ((va_up (va_up (va_up I 4 (y + 1)) 3 ((I 3) - 1)) 5 ((I 5) + 1)) 5)])) ?_
  have fr_9 : fr_ o 8 h_4 (va_up h_4 o (mv_O 8 [mv_I ((va_up (va_up (va_up I 4 (y + 1)) 3 ((I 3) - 1)) 5 ((I 5) + 1)) 0), mv_I ((va_up (va_up (va_up I 4 (y + 1)) 3 ((I 3) - 1)) 5 ((I 5) + 1)) 1), mv_R (o + 1), mv_I ((va_up (va_up (va_up I 4 (y + 1)) 3 ((I 3) - 1)) 5 ((I 5) + 1)) 2), mv_R (o + 2), mv_R (o + 3), mv_R (o + 4), mv_R (o + 5), mv_R (o + 6), mv_R (o + 7), mv_I ((va_up (va_up (va_up I 4 (y + 1)) 3 ((I 3) - 1)) 5 ((I 5) + 1)) 3), mv_I ((va_up (va_up (va_up I 4 (y + 1)) 3 ((I 3) - 1)) 5 ((I 5) + 1)) 4), mv_I ((va_up (va_up (va_up I 4 (y + 1)) 3 ((I 3) - 1)) 5 ((I 5) + 1)) 5)])) := fun z_ hz => va_up_ne _ _ (by omega)
  generalize va_up h_4 o (mv_O 8 [mv_I ((va_up (va_up (va_up I 4 (y + 1)) 3 ((I 3) - 1)) 5 ((I 5) + 1)) 0), mv_I ((va_up (va_up (va_up I 4 (y + 1)) 3 ((I 3) - 1)) 5 ((I 5) + 1)) 1), mv_R (o + 1), mv_I ((va_up (va_up (va_up I 4 (y + 1)) 3 ((I 3) - 1)) 5 ((I 5) + 1)) 2), mv_R (o + 2), mv_R (o + 3), mv_R (o + 4), mv_R (o + 5), mv_R (o + 6), mv_R (o + 7), mv_I ((va_up (va_up (va_up I 4 (y + 1)) 3 ((I 3) - 1)) 5 ((I 5) + 1)) 3), mv_I ((va_up (va_up (va_up I 4 (y + 1)) 3 ((I 3) - 1)) 5 ((I 5) + 1)) 4), mv_I ((va_up (va_up (va_up I 4 (y + 1)) 3 ((I 3) - 1)) 5 ((I 5) + 1)) 5)]) = h_7 at hV_8 fr_9 ⊢
  refine go_goto (q := 183) d_mo_goOn_107 (by decide) ?_
  refine go_goto (q := 2) d_mo_goOn_183 (by decide) ?_
  refine go_fg 2 (L' := [some (mv_R o), some (mv_I z), none, some (mv_I x), some (mv_I c)]) rfl ?_
  refine go_fg 3 (L' := [some (mv_R o), some (mv_I z), none, none, some (mv_I c)]) rfl ?_
  refine go_fg 4 (L' := [some (mv_R o), some (mv_I z), none, none, none]) rfl ?_
  exact k0  _ hV_8 (fr_.tr (fr_.tr fr_3 fr_6) fr_9)

set_option maxRecDepth 4000 in
theorem so_go_131 {φ : go_F} {l : Launch} {h : mv_H} {n : Nat} {o : Nat} {I tx S ps cs bs : Nat → Int} {V : Nat → Nat} {f y x c : Int} {e : Nat} (hV : mo_V h o (I, tx, S, ps, cs, bs) V) 
    (k0 : ∀ h' : mv_H, mo_V h' o (va_up I 5 (e : Int), tx, S, ps, cs, bs) (V) → fr_ o 8 h h' → Go φ l m_mo_goOn (go_rm rd_mo_goOn rw_mo_goOn 0 0) (0, 0) 2 [some (mv_R o), some (mv_I f), none, none, none] [] h' n) :
    Go φ l m_mo_goOn (go_rm rd_mo_goOn rw_mo_goOn 0 0) (0, 0) 131 [some (mv_R o), some (mv_I f), some (mv_I y), some (mv_I x), some (mv_I c)] [mv_I (e : Int), mv_R o] h n := by
  refine go_putf (q := 134) (v := mv_I (e : Int)) f_mo_121 d_mo_goOn_131 rfl (mv_c0 hV) (Nat.le_of_ble_eq_true rfl) (go_fitI _) ?_
  have hV_2 := mv_u0 hV (va_up I 5 (e : Int))
  refine go_eq (h' := va_up h o (mv_O 8 [mv_I ((va_up I 5 (e : Int)) 0), mv_I ((va_up I 5 (e : Int)) 1), mv_R (o + 1), mv_I ((va_up I 5 (e : Int)) 2), mv_R (o + 2), mv_R (o + 3), mv_R (o + 4), mv_R (o + 5), mv_R (o + 6), mv_R (o + 7), mv_I ((va_up I 5 (e : Int)) 3), mv_I ((va_up I 5 (e : Int)) 4), mv_I ((va_up I 5 (e : Int)) 5)])) ?_
  have fr_3 : fr_ o 8 h (va_up h o (mv_O 8 [mv_I ((va_up I 5 (e : Int)) 0), mv_I ((va_up I 5 (e : Int)) 1), mv_R (o + 1), mv_I ((va_up I 5 (e : Int)) 2), mv_R (o + 2), mv_R (o + 3), mv_R (o + 4), mv_R (o + 5), mv_R (o + 6), mv_R (o + 7), mv_I ((va_up I 5 (e : Int)) 3), mv_I ((va_up I 5 (e : Int)) 4), mv_I ((va_up I 5 (e : Int)) 5)])) := fun z_ hz => va_up_ne _ _ (by omega)
  generalize va_up h o (mv_O 8 [mv_I ((va_up I 5 (e : Int)) 0), mv_I ((va_up I 5 (e : Int)) 1), mv_R (o + 1), mv_I ((va_up I 5 (e : Int)) 2), mv_R (o + 2), mv_R (o + 3), mv_R (o + 4), mv_R (o + 5), mv_R (o + 6), mv_R (o + 7), mv_I ((va_up I 5 (e : Int)) 3), mv_I ((va_up I 5 (e : Int)) 4), mv_I ((va_up I 5 (e : Int)) 5)]) = h_1 at hV_2 fr_3 ⊢
  refine go_goto (q := 183) d_mo_goOn_134 (by decide) ?_
  refine go_goto (q := 2) d_mo_goOn_183 (by decide) ?_
  refine go_fg 2 (L' := [some (mv_R o), some (mv_I f), none, some (mv_I x), some (mv_I c)]) rfl ?_
  refine go_fg 3 (L' := [some (mv_R o), some (mv_I f), none, none, some (mv_I c)]) rfl ?_
  refine go_fg 4 (L' := [some (mv_R o), some (mv_I f), none, none, none]) rfl ?_
  exact k0  _ hV_2 fr_3

set_option maxRecDepth 4000 in
theorem so_go_167 {φ : go_F} {l : Launch} {h : mv_H} {n : Nat} {o : Nat} {I tx S ps cs bs : Nat → Int} {V : Nat → Nat} {f y x c : Int} {e : Nat} (hV : mo_V h o (I, tx, S, ps, cs, bs) V) 
    (k0 : ∀ h' : mv_H, mo_V h' o (va_up I 5 ((e : Int) + 1), tx, S, ps, cs, bs) (V) → fr_ o 8 h h' → Go φ l m_mo_goOn (go_rm rd_mo_goOn rw_mo_goOn 0 0) (0, 0) 182 [some (mv_R o), some (mv_I f), some (mv_I y), some (mv_I x), some (mv_I c)] [mv_I 0] h' n) :
    Go φ l m_mo_goOn (go_rm rd_mo_goOn rw_mo_goOn 0 0) (0, 0) 167 [some (mv_R o), some (mv_I f), some (mv_I y), some (mv_I x), some (mv_I c)] [mv_I (e : Int), mv_R o] h n := by
  refine go_iconst (q := 168) d_mo_goOn_167 rfl ?_
  refine go_iadd (q := 169) d_mo_goOn_168 rfl ?_
  refine go_goto (q := 178) d_mo_goOn_169 (by decide) ?_
  refine go_putf (q := 181) (v := mv_I ((e : Int) + 1)) f_mo_121 d_mo_goOn_178 rfl (mv_c0 hV) (Nat.le_of_ble_eq_true rfl) (go_fitI _) ?_
  have hV_2 := mv_u0 hV (va_up I 5 ((e : Int) + 1))
  refine go_eq (h' := va_up h o (mv_O 8 [mv_I ((va_up I 5 ((e : Int) + 1)) 0), mv_I ((va_up I 5 ((e : Int) + 1)) 1), mv_R (o + 1), mv_I ((va_up I 5 ((e : Int) + 1)) 2), mv_R (o + 2), mv_R (o + 3), mv_R (o + 4), mv_R (o + 5), mv_R (o + 6), mv_R (o + 7), mv_I ((va_up I 5 ((e : Int) + 1)) 3), mv_I ((va_up I 5 ((e : Int) + 1)) 4), mv_I ((va_up I 5 ((e : Int) + 1)) 5)])) ?_
  have fr_3 : fr_ o 8 h (va_up h o (mv_O 8 [mv_I ((va_up I 5 ((e : Int) + 1)) 0), mv_I ((va_up I 5 ((e : Int) + 1)) 1), mv_R (o + 1), mv_I ((va_up I 5 ((e : Int) + 1)) 2), mv_R (o + 2), mv_R (o + 3), mv_R (o + 4), mv_R (o + 5), mv_R (o + 6), mv_R (o + 7), mv_I ((va_up I 5 ((e : Int) + 1)) 3), mv_I ((va_up I 5 ((e : Int) + 1)) 4), mv_I ((va_up I 5 ((e : Int) + 1)) 5)])) := fun z_ hz => va_up_ne _ _ (by omega)
  generalize va_up h o (mv_O 8 [mv_I ((va_up I 5 ((e : Int) + 1)) 0), mv_I ((va_up I 5 ((e : Int) + 1)) 1), mv_R (o + 1), mv_I ((va_up I 5 ((e : Int) + 1)) 2), mv_R (o + 2), mv_R (o + 3), mv_R (o + 4), mv_R (o + 5), mv_R (o + 6), mv_R (o + 7), mv_I ((va_up I 5 ((e : Int) + 1)) 3), mv_I ((va_up I 5 ((e : Int) + 1)) 4), mv_I ((va_up I 5 ((e : Int) + 1)) 5)]) = h_1 at hV_2 fr_3 ⊢
  refine go_iconst (q := 182) d_mo_goOn_181 rfl ?_
  exact k0  _ hV_2 fr_3

set_option maxRecDepth 4000 in
theorem so_wk_0 {φ : go_F} {l : Launch} {h : mv_H} {n : Nat} {o : Nat} {I tx S ps cs bs : Nat → Int} {V : Nat → Nat}  (hV : mo_V h o (I, tx, S, ps, cs, bs) V) 
    (k0 : ∀ h' : mv_H, mo_V h' o (va_up (va_up (va_up I 3 0) 4 0) 5 0, tx, S, ps, cs, bs) (V) → fr_ o 8 h h' → Go φ l m_mo_workOut (go_rm rd_mo_workOut rw_mo_workOut 0 0) (0, 0) 17 [some (mv_R o), some (mv_I 0)] [] h' n) :
    Go φ l m_mo_workOut (go_rm rd_mo_workOut rw_mo_workOut 0 0) (0, 0) 0 [some (mv_R o), none] [] h n := by
  refine go_aload_n (q := 1) d_mo_workOut_0 rfl rfl rfl ?_
  refine go_iconst (q := 2) d_mo_workOut_1 rfl ?_
  refine go_putf (q := 5) (v := mv_I 0) f_mo_103 d_mo_workOut_2 rfl (mv_c0 hV) (Nat.le_of_ble_eq_true rfl) (go_fitI _) ?_
  have hV_2 := mv_u0 hV (va_up I 3 0)
  refine go_eq (h' := va_up h o (mv_O 8 [mv_I ((va_up I 3 0) 0), mv_I ((va_up I 3 0) 1), mv_R (o + 1), mv_I ((va_up I 3 0) 2), mv_R (o + 2), mv_R (o + 3), mv_R (o + 4), mv_R (o + 5), mv_R (o + 6), mv_R (o + 7), mv_I ((va_up I 3 0) 3), mv_I ((va_up I 3 0) 4), mv_I ((va_up I 3 0) 5)])) ?_
  have fr_3 : fr_ o 8 h (va_up h o (mv_O 8 [mv_I ((va_up I 3 0) 0), mv_I ((va_up I 3 0) 1), mv_R (o + 1), mv_I ((va_up I 3 0) 2), mv_R (o + 2), mv_R (o + 3), mv_R (o + 4), mv_R (o + 5), mv_R (o + 6), mv_R (o + 7), mv_I ((va_up I 3 0) 3), mv_I ((va_up I 3 0) 4), mv_I ((va_up I 3 0) 5)])) := fun z_ hz => va_up_ne _ _ (by omega)
  generalize va_up h o (mv_O 8 [mv_I ((va_up I 3 0) 0), mv_I ((va_up I 3 0) 1), mv_R (o + 1), mv_I ((va_up I 3 0) 2), mv_R (o + 2), mv_R (o + 3), mv_R (o + 4), mv_R (o + 5), mv_R (o + 6), mv_R (o + 7), mv_I ((va_up I 3 0) 3), mv_I ((va_up I 3 0) 4), mv_I ((va_up I 3 0) 5)]) = h_1 at hV_2 fr_3 ⊢
  refine go_aload_n (q := 6) d_mo_workOut_5 rfl rfl rfl ?_
  refine go_iconst (q := 7) d_mo_workOut_6 rfl ?_
  refine go_putf (q := 10) (v := mv_I 0) f_mo_124 d_mo_workOut_7 rfl (mv_c0 hV_2) (Nat.le_of_ble_eq_true rfl) (go_fitI _) ?_
  have hV_5 := mv_u0 hV_2 (va_up (va_up I 3 0) 4 0)
  refine go_eq (h' := va_up h_1 o (mv_O 8 [mv_I ((va_up (va_up I 3 0) 4 0) 0), mv_I ((va_up (va_up I 3 0) 4 0) 1), mv_R (o + 1), mv_I ((va_up (va_up I 3 0) 4 0) 2), mv_R (o + 2), mv_R (o + 3), mv_R (o + 4), mv_R (o + 5), mv_R (o + 6), mv_R (o + 7), mv_I ((va_up (va_up I 3 0) 4 0) 3), mv_I ((va_up (va_up I 3 0) 4 0) 4), mv_I ((va_up (va_up I 3 0) 4 0) 5)])) ?_
  have fr_6 : fr_ o 8 h_1 (va_up h_1 o (mv_O 8 [mv_I ((va_up (va_up I 3 0) 4 0) 0), mv_I ((va_up (va_up I 3 0) 4 0) 1), mv_R (o + 1), mv_I ((va_up (va_up I 3 0) 4 0) 2), mv_R (o + 2), mv_R (o + 3), mv_R (o + 4), mv_R (o + 5), mv_R (o + 6), mv_R (o + 7), mv_I ((va_up (va_up I 3 0) 4 0) 3), mv_I ((va_up (va_up I 3 0) 4 0) 4), mv_I ((va_up (va_up I 3 0) 4 0) 5)])) := fun z_ hz => va_up_ne _ _ (by omega)
  generalize va_up h_1 o (mv_O 8 [mv_I ((va_up (va_up I 3 0) 4 0) 0), mv_I ((va_up (va_up I 3 0) 4 0) 1), mv_R (o + 1), mv_I ((va_up (va_up I 3 0) 4 0) 2), mv_R (o + 2), mv_R (o + 3), mv_R (o + 4), mv_R (o + 5), mv_R (o + 6), mv_R (o + 7), mv_I ((va_up (va_up I 3 0) 4 0) 3), mv_I ((va_up (va_up I 3 0) 4 0) 4), mv_I ((va_up (va_up I 3 0) 4 0) 5)]) = h_4 at hV_5 fr_6 ⊢
  refine go_aload_n (q := 11) d_mo_workOut_10 rfl rfl rfl ?_
  refine go_iconst (q := 12) d_mo_workOut_11 rfl ?_
  refine go_putf (q := 15) (v := mv_I 0) f_mo_121 d_mo_workOut_12 rfl (mv_c0 hV_5) (Nat.le_of_ble_eq_true rfl) (go_fitI _) ?_
  have hV_8 := mv_u0 hV_5 (va_up (va_up (va_up I 3 0) 4 0) 5 0)
  refine go_eq (h' := va_up h_4 o (mv_O 8 [mv_I ((va_up (va_up (va_up I 3 0) 4 0) 5 0) 0), mv_I ((va_up (va_up (va_up I 3 0) 4 0) 5 0) 1), mv_R (o + 1), mv_I ((va_up (va_up (va_up I 3 0) 4 0) 5 0) 2), mv_R (o + 2), mv_R (o + 3), mv_R (o + 4), mv_R (o + 5), mv_R (o + 6), mv_R (o + 7), mv_I ((va_up (va_up (va_up I 3 0) 4 0) 5 0) 3), mv_I ((va_up (va_up (va_up I 3 0) 4 0) 5 0) 4), mv_I ((va_up (va_up (va_up I 3 0) 4 0) 5 0) 5)])) ?_
  have fr_9 : fr_ o 8 h_4 (va_up h_4 o (mv_O 8 [mv_I ((va_up (va_up (va_up I 3 0) 4 0) 5 0) 0), mv_I ((va_up (va_up (va_up I 3 0) 4 0) 5 0) 1), mv_R (o + 1), mv_I ((va_up (va_up (va_up I 3 0) 4 0) 5 0) 2), mv_R (o + 2), mv_R (o + 3), mv_R (o + 4), mv_R (o + 5), mv_R (o + 6), mv_R (o + 7), mv_I ((va_up (va_up (va_up I 3 0) 4 0) 5 0) 3), mv_I ((va_up (va_up (va_up I 3 0) 4 0) 5 0) 4), mv_I ((va_up (va_up (va_up I 3 0) 4 0) 5 0) 5)])) := fun z_ hz => va_up_ne _ _ (by omega)
  generalize va_up h_4 o (mv_O 8 [mv_I ((va_up (va_up (va_up I 3 0) 4 0) 5 0) 0), mv_I ((va_up (va_up (va_up I 3 0) 4 0) 5 0) 1), mv_R (o + 1), mv_I ((va_up (va_up (va_up I 3 0) 4 0) 5 0) 2), mv_R (o + 2), mv_R (o + 3), mv_R (o + 4), mv_R (o + 5), mv_R (o + 6), mv_R (o + 7), mv_I ((va_up (va_up (va_up I 3 0) 4 0) 5 0) 3), mv_I ((va_up (va_up (va_up I 3 0) 4 0) 5 0) 4), mv_I ((va_up (va_up (va_up I 3 0) 4 0) 5 0) 5)]) = h_7 at hV_8 fr_9 ⊢
  refine go_iconst (q := 16) d_mo_workOut_15 rfl ?_
  refine go_istore_n (q := 17) (L' := [some (mv_R o), some (mv_I 0)]) d_mo_workOut_16 rfl rfl (by decide) rfl ?_
  exact k0  _ hV_8 (fr_.tr (fr_.tr fr_3 fr_6) fr_9)

set_option maxRecDepth 4000 in
theorem so_wk_17 {φ : go_F} {l : Launch} {h : mv_H} {n : Nat} {o : Nat} {I tx S ps cs bs : Nat → Int} {V : Nat → Nat} {f : Int} {p len : Nat} (hV : mo_V h o (I, tx, S, ps, cs, bs) V) (hf : 0 ≤ f ∧ f ≤ 3) (hA : I 5 = (p : Int) ∧ p ≤ 120) (hL : I 1 = (len : Int)) (hl : len ≤ 120)
    (k0 : ¬ f = 0 → Go φ l m_mo_workOut (go_rm rd_mo_workOut rw_mo_workOut 0 0) (0, 0) 54 [some (mv_R o), some (mv_I f)] [mv_I f] h n)
    (k1 : f = 0 → I 1 ≤ I 5 → Go φ l m_mo_workOut (go_rm rd_mo_workOut rw_mo_workOut 0 0) (0, 0) 54 [some (mv_R o), some (mv_I f)] [mv_I f] h n)
    (k2 : f = 0 → ¬ I 1 ≤ I 5 → Go φ l m_mo_workOut (go_rm rd_mo_workOut rw_mo_workOut 0 0) (0, 0) 33 [some (mv_R o), some (mv_I f)] [mv_R o] h n) :
    Go φ l m_mo_workOut (go_rm rd_mo_workOut rw_mo_workOut 0 0) (0, 0) 17 [some (mv_R o), some (mv_I f)] [] h n := by
  refine go_iload_n (q := 18) d_mo_workOut_17 rfl rfl rfl ?_
  refine go_if_ne (t := 53) (q := 21) d_mo_workOut_18 (by decide) rfl (by omega) (fun c1 => ?_) (fun c1 => ?_)
  ·
    refine go_iload_n (q := 54) d_mo_workOut_53 rfl rfl rfl ?_
    exact k0 c1
  ·
    refine go_aload_n (q := 22) d_mo_workOut_21 rfl rfl rfl ?_
    refine go_getf (v := mv_I (I 5)) (q := 25) f_mo_121 d_mo_workOut_22 rfl (mv_c0 hV) rfl ?_
    refine go_aload_n (q := 26) d_mo_workOut_25 rfl rfl rfl ?_
    refine go_getf (v := mv_I (I 1)) (q := 29) f_mo_93 d_mo_workOut_26 rfl (mv_c0 hV) rfl ?_
    refine go_icmp_ge (t := 53) (q := 32) d_mo_workOut_29 (by decide) rfl (by omega) (by omega) (fun c2 => ?_) (fun c2 => ?_)
    ·
      refine go_iload_n (q := 54) d_mo_workOut_53 rfl rfl rfl ?_
      exact k1 c1 c2
    ·
      refine go_aload_n (q := 33) d_mo_workOut_32 rfl rfl rfl ?_
      exact k2 c1 c2

set_option maxRecDepth 4000 in
theorem so_wk_36 {φ : go_F} {l : Launch} {h : mv_H} {n : Nat} {o : Nat} {I tx S ps cs bs : Nat → Int} {V : Nat → Nat} {f z : Int} (hV : mo_V h o (I, tx, S, ps, cs, bs) V) (hz : 0 ≤ z ∧ z ≤ 3)
    (k0 : z ≤ 0 → Go φ l m_mo_workOut (go_rm rd_mo_workOut rw_mo_workOut 0 0) (0, 0) 46 [some (mv_R o), some (mv_I z)] [mv_R o] h n)
    (k1 : ¬ z ≤ 0 → Go φ l m_mo_workOut (go_rm rd_mo_workOut rw_mo_workOut 0 0) (0, 0) 17 [some (mv_R o), some (mv_I z)] [] h n) :
    Go φ l m_mo_workOut (go_rm rd_mo_workOut rw_mo_workOut 0 0) (0, 0) 36 [some (mv_R o), some (mv_I f)] [mv_I z] h n := by
  refine go_istore_n (q := 37) (L' := [some (mv_R o), some (mv_I z)]) d_mo_workOut_36 rfl rfl (by decide) rfl ?_
  refine go_iload_n (q := 38) d_mo_workOut_37 rfl rfl rfl ?_
  refine go_if_le (t := 45) (q := 41) d_mo_workOut_38 (by decide) rfl (by omega) (fun c1 => ?_) (fun c1 => ?_)
  ·
    refine go_aload_n (q := 46) d_mo_workOut_45 rfl rfl rfl ?_
    exact k0 c1
  ·
    refine go_iload_n (q := 42) d_mo_workOut_41 rfl rfl rfl ?_
    refine go_goto (q := 49) d_mo_workOut_42 (by decide) ?_
    refine go_istore_n (q := 50) (L' := [some (mv_R o), some (mv_I z)]) d_mo_workOut_49 rfl rfl (by decide) rfl ?_
    refine go_goto (q := 17) d_mo_workOut_50 (by decide) ?_
    exact k1 c1

set_option maxRecDepth 4000 in
theorem so_wk_49 {φ : go_F} {l : Launch} {h : mv_H} {n : Nat} {o : Nat} {I tx S ps cs bs : Nat → Int} {V : Nat → Nat} {f z : Int} (hV : mo_V h o (I, tx, S, ps, cs, bs) V) 
    (k0 : Go φ l m_mo_workOut (go_rm rd_mo_workOut rw_mo_workOut 0 0) (0, 0) 17 [some (mv_R o), some (mv_I z)] [] h n) :
    Go φ l m_mo_workOut (go_rm rd_mo_workOut rw_mo_workOut 0 0) (0, 0) 49 [some (mv_R o), some (mv_I f)] [mv_I z] h n := by
  refine go_istore_n (q := 50) (L' := [some (mv_R o), some (mv_I z)]) d_mo_workOut_49 rfl rfl (by decide) rfl ?_
  refine go_goto (q := 17) d_mo_workOut_50 (by decide) ?_
  exact k0 

set_option maxRecDepth 4000 in
theorem so_ap_100 {φ : go_F} {l : Launch} {h : mv_H} {n : Nat} {o : Nat} {I tx S ps cs bs : Nat → Int} {V : Nat → Nat} {b x : Nat} {c : Int} (hV : mo_V h o (I, tx, S, ps, cs, bs) V) (hb : b < 60) (hx : x ≤ 60) (hc : 0 ≤ c ∧ c ≤ 127)
    (k0 : Go φ l m_mo_apply (go_rm rd_mo_apply rw_mo_apply 0 0) (0, 0) 106 [some (mv_R o), some (mv_I c), some (mv_I (b : Int)), some (mv_I (x : Int)), none] [mv_I c, mv_I 0, mv_I 0, mv_I (x : Int), mv_I (b : Int), mv_R o] h n) :
    Go φ l m_mo_apply (go_rm rd_mo_apply rw_mo_apply 0 0) (0, 0) 100 [some (mv_R o), some (mv_I c), some (mv_I (b : Int)), some (mv_I (x : Int)), none] [] h n := by
  refine go_aload_n (q := 101) d_mo_apply_100 rfl rfl rfl ?_
  refine go_iload_n (q := 102) d_mo_apply_101 rfl rfl rfl ?_
  refine go_iload_n (q := 103) d_mo_apply_102 rfl rfl rfl ?_
  refine go_iconst (q := 104) d_mo_apply_103 rfl ?_
  refine go_iconst (q := 105) d_mo_apply_104 rfl ?_
  refine go_iload_n (q := 106) d_mo_apply_105 rfl rfl rfl ?_
  exact k0 

set_option maxRecDepth 4000 in
theorem so_ap_110 {φ : go_F} {l : Launch} {h : mv_H} {n : Nat} {o : Nat} {I tx S ps cs bs : Nat → Int} {V : Nat → Nat} {b x : Nat} {c : Int} (hV : mo_V h o (I, tx, S, ps, cs, bs) V) (hb : b < 60) (hx : x ≤ 60) (hc : 0 ≤ c ∧ c ≤ 127)
    (k0 : Go φ l m_mo_apply (go_rm rd_mo_apply rw_mo_apply 0 0) (0, 0) 116 [some (mv_R o), some (mv_I c), some (mv_I (b : Int)), some (mv_I (x : Int)), none] [mv_I c, mv_I 1, mv_I 0, mv_I (x : Int), mv_I (b : Int), mv_R o] h n) :
    Go φ l m_mo_apply (go_rm rd_mo_apply rw_mo_apply 0 0) (0, 0) 110 [some (mv_R o), some (mv_I c), some (mv_I (b : Int)), some (mv_I (x : Int)), none] [] h n := by
  refine go_aload_n (q := 111) d_mo_apply_110 rfl rfl rfl ?_
  refine go_iload_n (q := 112) d_mo_apply_111 rfl rfl rfl ?_
  refine go_iload_n (q := 113) d_mo_apply_112 rfl rfl rfl ?_
  refine go_iconst (q := 114) d_mo_apply_113 rfl ?_
  refine go_iconst (q := 115) d_mo_apply_114 rfl ?_
  refine go_iload_n (q := 116) d_mo_apply_115 rfl rfl rfl ?_
  exact k0 

set_option maxRecDepth 4000 in
theorem so_ap_120 {φ : go_F} {l : Launch} {h : mv_H} {n : Nat} {o : Nat} {I tx S ps cs bs : Nat → Int} {V : Nat → Nat} {b x : Nat} {c : Int} (hV : mo_V h o (I, tx, S, ps, cs, bs) V) (hb : b < 60) (hx : x ≤ 60) (hc : 0 ≤ c ∧ c ≤ 127)
    (k0 : ¬ (x : Int) = 1 → Go φ l m_mo_apply (go_rm rd_mo_apply rw_mo_apply 0 0) (0, 0) 153 [some (mv_R o), some (mv_I c), some (mv_I (b : Int)), some (mv_I (x : Int)), none] [mv_I c, mv_I 0, mv_I 1, mv_I (x : Int), mv_I (b : Int), mv_R o] h n)
    (k1 : (x : Int) = 1 → ¬ c = 45 → Go φ l m_mo_apply (go_rm rd_mo_apply rw_mo_apply 0 0) (0, 0) 141 [some (mv_R o), some (mv_I c), some (mv_I (b : Int)), some (mv_I (x : Int)), none] [mv_I c, mv_I 1, mv_I 0, mv_I 1, mv_I (b : Int), mv_R o] h n)
    (k2 : (x : Int) = 1 → c = 45 → Go φ l m_mo_apply (go_rm rd_mo_apply rw_mo_apply 0 0) (0, 0) 141 [some (mv_R o), some (mv_I c), some (mv_I (b : Int)), some (mv_I (x : Int)), none] [mv_I c, mv_I 0, mv_I 0, mv_I 1, mv_I (b : Int), mv_R o] h n) :
    Go φ l m_mo_apply (go_rm rd_mo_apply rw_mo_apply 0 0) (0, 0) 120 [some (mv_R o), some (mv_I c), some (mv_I (b : Int)), some (mv_I (x : Int)), none] [] h n := by
  refine go_iload_n (q := 121) d_mo_apply_120 rfl rfl rfl ?_
  refine go_iconst (q := 122) d_mo_apply_121 rfl ?_
  refine go_icmp_ne (t := 147) (q := 125) d_mo_apply_122 (by decide) rfl (by omega) (by omega) (fun c1 => ?_) (fun c1 => ?_)
  ·
    refine go_aload_n (q := 148) d_mo_apply_147 rfl rfl rfl ?_
    refine go_iload_n (q := 149) d_mo_apply_148 rfl rfl rfl ?_
    refine go_iload_n (q := 150) d_mo_apply_149 rfl rfl rfl ?_
    refine go_iconst (q := 151) d_mo_apply_150 rfl ?_
    refine go_iconst (q := 152) d_mo_apply_151 rfl ?_
    refine go_iload_n (q := 153) d_mo_apply_152 rfl rfl rfl ?_
    exact k0 c1
  ·
    refine go_aload_n (q := 126) d_mo_apply_125 rfl rfl rfl ?_
    refine go_iload_n (q := 127) d_mo_apply_126 rfl rfl rfl ?_
    refine go_iconst (q := 128) d_mo_apply_127 rfl ?_
    refine go_iconst (q := 129) d_mo_apply_128 rfl ?_
    refine go_iload_n (q := 130) d_mo_apply_129 rfl rfl rfl ?_
    refine go_bipush (q := 132) d_mo_apply_130 rfl (by decide) ?_
    refine go_icmp_ne (t := 139) (q := 135) d_mo_apply_132 (by decide) rfl (by omega) (by omega) (fun c2 => ?_) (fun c2 => ?_)
    ·
      refine go_iconst (q := 140) d_mo_apply_139 rfl ?_
      refine go_iload_n (q := 141) d_mo_apply_140 rfl rfl rfl ?_
      exact k1 c1 c2
    ·
      refine go_iconst (q := 136) d_mo_apply_135 rfl ?_
      refine go_goto (q := 140) d_mo_apply_136 (by decide) ?_
      refine go_iload_n (q := 141) d_mo_apply_140 rfl rfl rfl ?_
      exact k2 c1 c2

set_option maxRecDepth 4000 in
theorem so_ap_157 {φ : go_F} {l : Launch} {h : mv_H} {n : Nat} {o : Nat} {I tx S ps cs bs : Nat → Int} {V : Nat → Nat} {b x : Nat} {c : Int} (hV : mo_V h o (I, tx, S, ps, cs, bs) V) (hb : b < 60) (hx : x ≤ 60) (hc : 0 ≤ c ∧ c ≤ 127)
    (k0 : ¬ c = 113 → Go φ l m_mo_apply (go_rm rd_mo_apply rw_mo_apply 0 0) (0, 0) 170 [some (mv_R o), some (mv_I c), some (mv_I (b : Int)), some (mv_I (x : Int)), none] [mv_I 0, mv_I (b : Int), mv_R o] h n)
    (k1 : c = 113 → Go φ l m_mo_apply (go_rm rd_mo_apply rw_mo_apply 0 0) (0, 0) 170 [some (mv_R o), some (mv_I c), some (mv_I (b : Int)), some (mv_I (x : Int)), none] [mv_I 1, mv_I (b : Int), mv_R o] h n) :
    Go φ l m_mo_apply (go_rm rd_mo_apply rw_mo_apply 0 0) (0, 0) 157 [some (mv_R o), some (mv_I c), some (mv_I (b : Int)), some (mv_I (x : Int)), none] [] h n := by
  refine go_aload_n (q := 158) d_mo_apply_157 rfl rfl rfl ?_
  refine go_iload_n (q := 159) d_mo_apply_158 rfl rfl rfl ?_
  refine go_iload_n (q := 160) d_mo_apply_159 rfl rfl rfl ?_
  refine go_bipush (q := 162) d_mo_apply_160 rfl (by decide) ?_
  refine go_icmp_ne (t := 169) (q := 165) d_mo_apply_162 (by decide) rfl (by omega) (by omega) (fun c1 => ?_) (fun c1 => ?_)
  ·
    refine go_iconst (q := 170) d_mo_apply_169 rfl ?_
    exact k0 c1
  ·
    refine go_iconst (q := 166) d_mo_apply_165 rfl ?_
    refine go_goto (q := 170) d_mo_apply_166 (by decide) ?_
    exact k1 c1

set_option maxRecDepth 4000 in
theorem so_ap_174 {φ : go_F} {l : Launch} {h : mv_H} {n : Nat} {o : Nat} {I tx S ps cs bs : Nat → Int} {V : Nat → Nat} {b x : Nat} {c : Int} (hV : mo_V h o (I, tx, S, ps, cs, bs) V) (hb : b < 60) (hx : x ≤ 60) (hc : 0 ≤ c ∧ c ≤ 127)
    (k0 : Go φ l m_mo_apply (go_rm rd_mo_apply rw_mo_apply 0 0) (0, 0) 177 [some (mv_R o), some (mv_I c), some (mv_I (b : Int)), some (mv_I (x : Int)), none] [mv_I (x : Int), mv_I (b : Int), mv_R o] h n) :
    Go φ l m_mo_apply (go_rm rd_mo_apply rw_mo_apply 0 0) (0, 0) 174 [some (mv_R o), some (mv_I c), some (mv_I (b : Int)), some (mv_I (x : Int)), none] [] h n := by
  refine go_aload_n (q := 175) d_mo_apply_174 rfl rfl rfl ?_
  refine go_iload_n (q := 176) d_mo_apply_175 rfl rfl rfl ?_
  refine go_iload_n (q := 177) d_mo_apply_176 rfl rfl rfl ?_
  exact k0 

set_option maxRecDepth 4000 in
theorem so_ap_181 {φ : go_F} {l : Launch} {h : mv_H} {n : Nat} {o : Nat} {I tx S ps cs bs : Nat → Int} {V : Nat → Nat} {b x : Nat} {c : Int} (hV : mo_V h o (I, tx, S, ps, cs, bs) V) (hb : b < 60) (hx : x ≤ 60) (hc : 0 ≤ c ∧ c ≤ 127)
    (k0 : Go φ l m_mo_apply (go_rm rd_mo_apply rw_mo_apply 0 0) (0, 0) 183 [some (mv_R o), some (mv_I c), some (mv_I (b : Int)), some (mv_I (x : Int)), none] [mv_I (b : Int), mv_R o] h n) :
    Go φ l m_mo_apply (go_rm rd_mo_apply rw_mo_apply 0 0) (0, 0) 181 [some (mv_R o), some (mv_I c), some (mv_I (b : Int)), some (mv_I (x : Int)), none] [] h n := by
  refine go_aload_n (q := 182) d_mo_apply_181 rfl rfl rfl ?_
  refine go_iload_n (q := 183) d_mo_apply_182 rfl rfl rfl ?_
  exact k0 

set_option maxRecDepth 4000 in
theorem so_ap_187 {φ : go_F} {l : Launch} {h : mv_H} {n : Nat} {o : Nat} {I tx S ps cs bs : Nat → Int} {V : Nat → Nat} {b x : Nat} {c : Int} (hV : mo_V h o (I, tx, S, ps, cs, bs) V) (hb : b < 60) (hx : x ≤ 60) (hc : 0 ≤ c ∧ c ≤ 127)
    (k0 : ∀ h' : mv_H, mo_V h' o (I, tx, S, ps, cs, bs) (va_up V ((2 * b) + 1) 1) → fr_ o 8 h h' → Go φ l m_mo_apply (go_rm rd_mo_apply rw_mo_apply 0 0) (0, 0) 198 [some (mv_R o), some (mv_I c), some (mv_I (b : Int)), some (mv_I (x : Int)), none] [mv_I 0] h' n) :
    Go φ l m_mo_apply (go_rm rd_mo_apply rw_mo_apply 0 0) (0, 0) 187 [some (mv_R o), some (mv_I c), some (mv_I (b : Int)), some (mv_I (x : Int)), none] [] h n := by
  refine go_aload_n (q := 188) d_mo_apply_187 rfl rfl rfl ?_
  refine go_iconst (q := 189) d_mo_apply_188 rfl ?_
  refine go_iload_n (q := 190) d_mo_apply_189 rfl rfl rfl ?_
  refine go_imul (q := 191) d_mo_apply_190 rfl ?_
  refine go_iconst (q := 192) d_mo_apply_191 rfl ?_
  refine go_iadd (q := 193) d_mo_apply_192 rfl ?_
  refine go_iconst (q := 194) d_mo_apply_193 rfl ?_
  refine cl_set (r := (2 * b) + 1) (v := 1) (q := 197) rfl d_mo_apply_194 rfl hV (by omega) (by omega) (Nat.le_of_ble_eq_true rfl) ⟨by decide, by decide, by decide, by decide⟩ (fun h_1 hV_2 fr_3 => ?_)
  have hV_4 : mo_V h_1 o (I, tx, S, ps, cs, bs) (va_up V ((2 * b) + 1) 1) := hV_2
  refine go_iconst (q := 198) d_mo_apply_197 rfl ?_
  exact k0  _ hV_4 fr_3

set_option maxRecDepth 4000 in
theorem so_ap_199 {φ : go_F} {l : Launch} {h : mv_H} {n : Nat} {o : Nat} {I tx S ps cs bs : Nat → Int} {V : Nat → Nat} {b x : Nat} {c : Int} (hV : mo_V h o (I, tx, S, ps, cs, bs) V) (hb : b < 60) (hx : x ≤ 60) (hc : 0 ≤ c ∧ c ≤ 127)
    (k0 : ∀ h' : mv_H, mo_V h' o (I, tx, va_up S b 1, ps, cs, bs) (va_up (va_up V (2 * b) (V ((2 * b) + 1))) ((2 * b) + 1) 1) → fr_ o 8 h h' → Go φ l m_mo_apply (go_rm rd_mo_apply rw_mo_apply 0 0) (0, 0) 229 [some (mv_R o), some (mv_I c), some (mv_I (b : Int)), some (mv_I (x : Int)), none] [mv_I 0] h' n) :
    Go φ l m_mo_apply (go_rm rd_mo_apply rw_mo_apply 0 0) (0, 0) 199 [some (mv_R o), some (mv_I c), some (mv_I (b : Int)), some (mv_I (x : Int)), none] [] h n := by
  refine go_aload_n (q := 200) d_mo_apply_199 rfl rfl rfl ?_
  refine go_iconst (q := 201) d_mo_apply_200 rfl ?_
  refine go_iload_n (q := 202) d_mo_apply_201 rfl rfl rfl ?_
  refine go_imul (q := 203) d_mo_apply_202 rfl ?_
  refine go_iconst (q := 204) d_mo_apply_203 rfl ?_
  refine go_iadd (q := 205) d_mo_apply_204 rfl ?_
  refine go_iconst (q := 206) d_mo_apply_205 rfl ?_
  refine go_iload_n (q := 207) d_mo_apply_206 rfl rfl rfl ?_
  refine go_imul (q := 208) d_mo_apply_207 rfl ?_
  refine cl_copy (a := (2 * b) + 1) (b := 2 * b) (q := 211) rfl d_mo_apply_208 rfl hV (by omega) (by omega) (Nat.le_of_ble_eq_true rfl) ⟨by decide, by decide, by decide, by decide⟩ (fun h_1 hV_2 fr_3 => ?_)
  have hV_4 : mo_V h_1 o (I, tx, S, ps, cs, bs) (va_up V (2 * b) (V ((2 * b) + 1))) := by
    have e_ : (V) ((2 * b) + 1) = V ((2 * b) + 1) := by rw [(show V ((2 * b) + 1) = V ((2 * b) + 1) from rfl)]
    rw [← e_]
    exact hV_2
  refine go_aload_n (q := 212) d_mo_apply_211 rfl rfl rfl ?_
  refine go_iconst (q := 213) d_mo_apply_212 rfl ?_
  refine go_iload_n (q := 214) d_mo_apply_213 rfl rfl rfl ?_
  refine go_imul (q := 215) d_mo_apply_214 rfl ?_
  refine go_iconst (q := 216) d_mo_apply_215 rfl ?_
  refine go_iadd (q := 217) d_mo_apply_216 rfl ?_
  refine go_iconst (q := 218) d_mo_apply_217 rfl ?_
  refine cl_set (r := (2 * b) + 1) (v := 1) (q := 221) rfl d_mo_apply_218 rfl hV_4 (by omega) (by omega) (Nat.le_of_ble_eq_true rfl) ⟨by decide, by decide, by decide, by decide⟩ (fun h_5 hV_6 fr_7 => ?_)
  have hV_8 : mo_V h_5 o (I, tx, S, ps, cs, bs) (va_up (va_up V (2 * b) (V ((2 * b) + 1))) ((2 * b) + 1) 1) := hV_6
  refine go_aload_n (q := 222) d_mo_apply_221 rfl rfl rfl ?_
  refine go_getf (v := mv_R (o + 4)) (q := 225) f_mo_23 d_mo_apply_222 rfl (mv_c0 hV_8) rfl ?_
  refine go_iload_n (q := 226) d_mo_apply_225 rfl rfl rfl ?_
  refine go_iconst (q := 227) d_mo_apply_226 rfl ?_
  refine go_iast (i := b) (q := 228) d_mo_apply_227 rfl (mv_c4 hV_8) (by omega) (by omega) (by omega) ?_
  have hV_10 := mv_u4 hV_8 (va_up S b 1)
  have fr_11 : fr_ o 8 h_5 (va_up h_5 (o + 4) (mv_A 0 75 (va_up S b 1))) := fun z_ hz => va_up_ne _ _ (by omega)
  generalize va_up h_5 (o + 4) (mv_A 0 75 (va_up S b 1)) = h_9 at hV_10 fr_11 ⊢
  refine go_iconst (q := 229) d_mo_apply_228 rfl ?_
  exact k0  _ hV_10 (fr_.tr (fr_.tr fr_3 fr_7) fr_11)

set_option maxRecDepth 4000 in
theorem so_ap_230 {φ : go_F} {l : Launch} {h : mv_H} {n : Nat} {o : Nat} {I tx S ps cs bs : Nat → Int} {V : Nat → Nat} {b x : Nat} {c : Int} (hV : mo_V h o (I, tx, S, ps, cs, bs) V) (hb : b < 60) (hx : x ≤ 60) (hc : 0 ≤ c ∧ c ≤ 127)
    (k0 : ∀ h' : mv_H, mo_V h' o (I, tx, va_up S b (S (b + 1)), ps, cs, bs) (va_up (va_up V (2 * b) (V (2 * (b + 1)))) (2 * b + 1) (V (2 * (b + 1) + 1))) → fr_ o 8 h h' → Go φ l m_mo_apply (go_rm rd_mo_apply rw_mo_apply 0 0) (0, 0) 239 [some (mv_R o), some (mv_I c), some (mv_I (b : Int)), some (mv_I (x : Int)), none] [mv_I 0] h' n) :
    Go φ l m_mo_apply (go_rm rd_mo_apply rw_mo_apply 0 0) (0, 0) 230 [some (mv_R o), some (mv_I c), some (mv_I (b : Int)), some (mv_I (x : Int)), none] [] h n := by
  refine go_aload_n (q := 231) d_mo_apply_230 rfl rfl rfl ?_
  refine go_iload_n (q := 232) d_mo_apply_231 rfl rfl rfl ?_
  refine go_iconst (q := 233) d_mo_apply_232 rfl ?_
  refine go_iadd (q := 234) d_mo_apply_233 rfl ?_
  refine go_iload_n (q := 235) d_mo_apply_234 rfl rfl rfl ?_
  refine cl_copyValue (a := b + 1) (b := b) (q := 238) rfl d_mo_apply_235 rfl hV (by omega) (by omega) (Nat.le_of_ble_eq_true rfl) ⟨by decide, by decide, by decide, by decide⟩ (fun h_1 hV_2 fr_3 => ?_)
  have hV_4 : mo_V h_1 o (I, tx, va_up S b (S (b + 1)), ps, cs, bs) (va_up (va_up V (2 * b) (V (2 * (b + 1)))) (2 * b + 1) (V (2 * (b + 1) + 1))) := by
    rw [(show V (2 * (b + 1)) = V (2 * (b + 1)) from rfl), (show V (2 * (b + 1) + 1) = V (2 * (b + 1) + 1) from rfl)] at hV_2
    exact hV_2
  refine go_iconst (q := 239) d_mo_apply_238 rfl ?_
  exact k0  _ hV_4 fr_3

set_option maxRecDepth 4000 in
theorem so_ap_240 {φ : go_F} {l : Launch} {h : mv_H} {n : Nat} {o : Nat} {I tx S ps cs bs : Nat → Int} {V : Nat → Nat} {b x : Nat} {c : Int} (hV : mo_V h o (I, tx, S, ps, cs, bs) V) (hb : b < 60) (hx : x ≤ 60) (hc : 0 ≤ c ∧ c ≤ 127)
    (k0 : Go φ l m_mo_apply (go_rm rd_mo_apply rw_mo_apply 0 0) (0, 0) 245 [some (mv_R o), some (mv_I c), some (mv_I (b : Int)), some (mv_I (x : Int)), none] [mv_I ((b : Int) + 1), mv_I (b : Int), mv_R o] h n) :
    Go φ l m_mo_apply (go_rm rd_mo_apply rw_mo_apply 0 0) (0, 0) 240 [some (mv_R o), some (mv_I c), some (mv_I (b : Int)), some (mv_I (x : Int)), none] [] h n := by
  refine go_aload_n (q := 241) d_mo_apply_240 rfl rfl rfl ?_
  refine go_iload_n (q := 242) d_mo_apply_241 rfl rfl rfl ?_
  refine go_iload_n (q := 243) d_mo_apply_242 rfl rfl rfl ?_
  refine go_iconst (q := 244) d_mo_apply_243 rfl ?_
  refine go_iadd (q := 245) d_mo_apply_244 rfl ?_
  exact k0 

set_option maxRecDepth 4000 in
theorem so_ap_248 {φ : go_F} {l : Launch} {h : mv_H} {n : Nat} {o : Nat} {I tx S ps cs bs : Nat → Int} {V : Nat → Nat} {b x : Nat} {c z : Int} (hV : mo_V h o (I, tx, S, ps, cs, bs) V) (hb : b < 60) (hx : x ≤ 60) (hc : 0 ≤ c ∧ c ≤ 127) (hz : -1 ≤ z ∧ z ≤ 1)
    (k0 : ¬ c = 60 → ¬ z = 0 → ∀ h' : mv_H, mo_V h' o (I, tx, va_up S b 0, ps, cs, bs) (va_up (va_up V (2 * b) 0) (2 * b + 1) 1) → fr_ o 8 h h' → Go φ l m_mo_apply (go_rm rd_mo_apply rw_mo_apply 0 0) (0, 0) 285 [some (mv_R o), some (mv_I c), some (mv_I (b : Int)), some (mv_I (x : Int)), some (mv_I z)] [mv_I 0] h' n)
    (k1 : ¬ c = 60 → z = 0 → ∀ h' : mv_H, mo_V h' o (I, tx, va_up S b 1, ps, cs, bs) (va_up (va_up V (2 * b) 1) (2 * b + 1) 1) → fr_ o 8 h h' → Go φ l m_mo_apply (go_rm rd_mo_apply rw_mo_apply 0 0) (0, 0) 285 [some (mv_R o), some (mv_I c), some (mv_I (b : Int)), some (mv_I (x : Int)), some (mv_I z)] [mv_I 0] h' n)
    (k2 : c = 60 → 0 ≤ z → ∀ h' : mv_H, mo_V h' o (I, tx, va_up S b 0, ps, cs, bs) (va_up (va_up V (2 * b) 0) (2 * b + 1) 1) → fr_ o 8 h h' → Go φ l m_mo_apply (go_rm rd_mo_apply rw_mo_apply 0 0) (0, 0) 285 [some (mv_R o), some (mv_I c), some (mv_I (b : Int)), some (mv_I (x : Int)), some (mv_I z)] [mv_I 0] h' n)
    (k3 : c = 60 → ¬ 0 ≤ z → ∀ h' : mv_H, mo_V h' o (I, tx, va_up S b 1, ps, cs, bs) (va_up (va_up V (2 * b) 1) (2 * b + 1) 1) → fr_ o 8 h h' → Go φ l m_mo_apply (go_rm rd_mo_apply rw_mo_apply 0 0) (0, 0) 285 [some (mv_R o), some (mv_I c), some (mv_I (b : Int)), some (mv_I (x : Int)), some (mv_I z)] [mv_I 0] h' n) :
    Go φ l m_mo_apply (go_rm rd_mo_apply rw_mo_apply 0 0) (0, 0) 248 [some (mv_R o), some (mv_I c), some (mv_I (b : Int)), some (mv_I (x : Int)), none] [mv_I z] h n := by
  refine go_istore (q := 250) (L' := [some (mv_R o), some (mv_I c), some (mv_I (b : Int)), some (mv_I (x : Int)), some (mv_I z)]) d_mo_apply_248 rfl (by decide) rfl ?_
  refine go_aload_n (q := 251) d_mo_apply_250 rfl rfl rfl ?_
  refine go_iload_n (q := 252) d_mo_apply_251 rfl rfl rfl ?_
  refine go_iload_n (q := 253) d_mo_apply_252 rfl rfl rfl ?_
  refine go_bipush (q := 255) d_mo_apply_253 rfl (by decide) ?_
  refine go_icmp_ne (t := 271) (q := 258) d_mo_apply_255 (by decide) rfl (by omega) (by omega) (fun c1 => ?_) (fun c1 => ?_)
  ·
    refine go_iload (q := 273) d_mo_apply_271 rfl rfl ?_
    refine go_if_ne (t := 280) (q := 276) d_mo_apply_273 (by decide) rfl (by omega) (fun c2 => ?_) (fun c2 => ?_)
    ·
      refine go_iconst (q := 281) d_mo_apply_280 rfl ?_
      refine cl_setValue (a := b) (v := 0) (q := 284) rfl d_mo_apply_281 rfl hV (by omega) (by omega) (Nat.le_of_ble_eq_true rfl) ⟨by decide, by decide, by decide, by decide⟩ (fun h_3 hV_4 fr_5 => ?_)
      have hV_6 : mo_V h_3 o (I, tx, va_up S b 0, ps, cs, bs) (va_up (va_up V (2 * b) 0) (2 * b + 1) 1) := hV_4
      refine go_iconst (q := 285) d_mo_apply_284 rfl ?_
      exact k0 c1 c2 _ hV_6 fr_5
    ·
      refine go_iconst (q := 277) d_mo_apply_276 rfl ?_
      refine go_goto (q := 281) d_mo_apply_277 (by decide) ?_
      refine cl_setValue (a := b) (v := 1) (q := 284) rfl d_mo_apply_281 rfl hV (by omega) (by omega) (Nat.le_of_ble_eq_true rfl) ⟨by decide, by decide, by decide, by decide⟩ (fun h_7 hV_8 fr_9 => ?_)
      have hV_10 : mo_V h_7 o (I, tx, va_up S b 1, ps, cs, bs) (va_up (va_up V (2 * b) 1) (2 * b + 1) 1) := hV_8
      refine go_iconst (q := 285) d_mo_apply_284 rfl ?_
      exact k1 c1 c2 _ hV_10 fr_9
  ·
    refine go_iload (q := 260) d_mo_apply_258 rfl rfl ?_
    refine go_if_ge (t := 267) (q := 263) d_mo_apply_260 (by decide) rfl (by omega) (fun c11 => ?_) (fun c11 => ?_)
    ·
      refine go_iconst (q := 268) d_mo_apply_267 rfl ?_
      refine go_goto (q := 281) d_mo_apply_268 (by decide) ?_
      refine cl_setValue (a := b) (v := 0) (q := 284) rfl d_mo_apply_281 rfl hV (by omega) (by omega) (Nat.le_of_ble_eq_true rfl) ⟨by decide, by decide, by decide, by decide⟩ (fun h_12 hV_13 fr_14 => ?_)
      have hV_15 : mo_V h_12 o (I, tx, va_up S b 0, ps, cs, bs) (va_up (va_up V (2 * b) 0) (2 * b + 1) 1) := hV_13
      refine go_iconst (q := 285) d_mo_apply_284 rfl ?_
      exact k2 c1 c11 _ hV_15 fr_14
    ·
      refine go_iconst (q := 264) d_mo_apply_263 rfl ?_
      refine go_goto (q := 281) d_mo_apply_264 (by decide) ?_
      refine cl_setValue (a := b) (v := 1) (q := 284) rfl d_mo_apply_281 rfl hV (by omega) (by omega) (Nat.le_of_ble_eq_true rfl) ⟨by decide, by decide, by decide, by decide⟩ (fun h_16 hV_17 fr_18 => ?_)
      have hV_19 : mo_V h_16 o (I, tx, va_up S b 1, ps, cs, bs) (va_up (va_up V (2 * b) 1) (2 * b + 1) 1) := hV_17
      refine go_iconst (q := 285) d_mo_apply_284 rfl ?_
      exact k3 c1 c11 _ hV_19 fr_18

set_option maxRecDepth 4000 in
theorem so_ch_0 {φ : go_F} {l : Launch} {h : mv_H} {n : Nat} {o : Nat} {I tx S ps cs bs : Nat → Int} {V : Nat → Nat} {b x fm fi : Nat} {c : Int} (hV : mo_V h o (I, tx, S, ps, cs, bs) V) (hb : b < 60) (hfm : fm ≤ 1) (hfi : fi ≤ 1)
    (k0 : ¬ (fm : Int) = 1 → ∀ h' : mv_H, mo_V h' o (I, tx, va_up S 73 (if fi = 0 then 0 else 1), ps, cs, bs) (va_up (va_up V (2 * 73) fi) (2 * 73 + 1) 1) → fr_ o 8 h h' → Go φ l m_mo_chain (go_rm rd_mo_chain rw_mo_chain 0 0) (0, 0) 26 [some (mv_R o), some (mv_I (b : Int)), some (mv_I (x : Int)), some (mv_I (fm : Int)), some (mv_I (fi : Int)), some (mv_I c), some (mv_I 0), some (mv_I (fm : Int)), none] [] h' n)
    (k1 : (fm : Int) = 1 → ∀ h' : mv_H, mo_V h' o (I, tx, va_up (va_up S 73 (if fi = 0 then 0 else 1)) 73 ((va_up S 73 (if fi = 0 then 0 else 1)) b), ps, cs, bs) (va_up (va_up (va_up (va_up V (2 * 73) fi) (2 * 73 + 1) 1) (2 * 73) (V (2 * b))) (2 * 73 + 1) (V (2 * b + 1))) → fr_ o 8 h h' → Go φ l m_mo_chain (go_rm rd_mo_chain rw_mo_chain 0 0) (0, 0) 26 [some (mv_R o), some (mv_I (b : Int)), some (mv_I (x : Int)), some (mv_I (fm : Int)), some (mv_I (fi : Int)), some (mv_I c), some (mv_I 0), some (mv_I (fm : Int)), none] [] h' n) :
    Go φ l m_mo_chain (go_rm rd_mo_chain rw_mo_chain 0 0) (0, 0) 0 [some (mv_R o), some (mv_I (b : Int)), some (mv_I (x : Int)), some (mv_I (fm : Int)), some (mv_I (fi : Int)), some (mv_I c), none, none, none] [] h n := by
  refine go_aload_n (q := 1) d_mo_chain_0 rfl rfl rfl ?_
  refine go_bipush (q := 3) d_mo_chain_1 rfl (by decide) ?_
  refine go_iload (q := 5) d_mo_chain_3 rfl rfl ?_
  refine cl_setValue (a := 73) (v := fi) (q := 8) rfl d_mo_chain_5 rfl hV (by omega) (by omega) (Nat.le_of_ble_eq_true rfl) ⟨by decide, by decide, by decide, by decide⟩ (fun h_1 hV_2 fr_3 => ?_)
  have hV_4 : mo_V h_1 o (I, tx, va_up S 73 (if fi = 0 then 0 else 1), ps, cs, bs) (va_up (va_up V (2 * 73) fi) (2 * 73 + 1) 1) := hV_2
  refine go_iload_n (q := 9) d_mo_chain_8 rfl rfl rfl ?_
  refine go_iconst (q := 10) d_mo_chain_9 rfl ?_
  refine go_icmp_ne (t := 20) (q := 13) d_mo_chain_10 (by decide) rfl (by omega) (by omega) (fun c5 => ?_) (fun c5 => ?_)
  ·
    refine go_iconst (q := 21) d_mo_chain_20 rfl ?_
    refine go_istore (q := 23) (L' := [some (mv_R o), some (mv_I (b : Int)), some (mv_I (x : Int)), some (mv_I (fm : Int)), some (mv_I (fi : Int)), some (mv_I c), some (mv_I 0), none, none]) d_mo_chain_21 rfl (by decide) rfl ?_
    refine go_iload_n (q := 24) d_mo_chain_23 rfl rfl rfl ?_
    refine go_istore (q := 26) (L' := [some (mv_R o), some (mv_I (b : Int)), some (mv_I (x : Int)), some (mv_I (fm : Int)), some (mv_I (fi : Int)), some (mv_I c), some (mv_I 0), some (mv_I (fm : Int)), none]) d_mo_chain_24 rfl (by decide) rfl ?_
    exact k0 c5 _ hV_4 fr_3
  ·
    refine go_aload_n (q := 14) d_mo_chain_13 rfl rfl rfl ?_
    refine go_iload_n (q := 15) d_mo_chain_14 rfl rfl rfl ?_
    refine go_bipush (q := 17) d_mo_chain_15 rfl (by decide) ?_
    refine cl_copyValue (a := b) (b := 73) (q := 20) rfl d_mo_chain_17 rfl hV_4 (by omega) (by omega) (Nat.le_of_ble_eq_true rfl) ⟨by decide, by decide, by decide, by decide⟩ (fun h_6 hV_7 fr_8 => ?_)
    have hV_9 : mo_V h_6 o (I, tx, va_up (va_up S 73 (if fi = 0 then 0 else 1)) 73 ((va_up S 73 (if fi = 0 then 0 else 1)) b), ps, cs, bs) (va_up (va_up (va_up (va_up V (2 * 73) fi) (2 * 73 + 1) 1) (2 * 73) (V (2 * b))) (2 * 73 + 1) (V (2 * b + 1))) := by
      rw [(show (va_up (va_up V (2 * 73) fi) (2 * 73 + 1) 1) (2 * b) = V (2 * b) from ((va_up_ne _ _ (by omega)).trans ((va_up_ne _ _ (by omega)).trans rfl))), (show (va_up (va_up V (2 * 73) fi) (2 * 73 + 1) 1) (2 * b + 1) = V (2 * b + 1) from ((va_up_ne _ _ (by omega)).trans ((va_up_ne _ _ (by omega)).trans rfl)))] at hV_7
      exact hV_7
    refine go_iconst (q := 21) d_mo_chain_20 rfl ?_
    refine go_istore (q := 23) (L' := [some (mv_R o), some (mv_I (b : Int)), some (mv_I (x : Int)), some (mv_I (fm : Int)), some (mv_I (fi : Int)), some (mv_I c), some (mv_I 0), none, none]) d_mo_chain_21 rfl (by decide) rfl ?_
    refine go_iload_n (q := 24) d_mo_chain_23 rfl rfl rfl ?_
    refine go_istore (q := 26) (L' := [some (mv_R o), some (mv_I (b : Int)), some (mv_I (x : Int)), some (mv_I (fm : Int)), some (mv_I (fi : Int)), some (mv_I c), some (mv_I 0), some (mv_I (fm : Int)), none]) d_mo_chain_24 rfl (by decide) rfl ?_
    exact k1 c5 _ hV_9 (fr_.tr fr_3 fr_8)

set_option maxRecDepth 4000 in
theorem so_ch_26 {φ : go_F} {l : Launch} {h : mv_H} {n : Nat} {o : Nat} {I tx S ps cs bs : Nat → Int} {V : Nat → Nat} {b x fm fi i : Nat} {c f : Int} (hV : mo_V h o (I, tx, S, ps, cs, bs) V) (hb : b < 60) (hx : x ≤ 60 ∧ i ≤ 61) (hf : 0 ≤ f ∧ f ≤ 3) (hc : 0 ≤ c ∧ c ≤ 127)
    (k0 : (x : Int) ≤ (i : Int) → Go φ l m_mo_chain (go_rm rd_mo_chain rw_mo_chain 0 0) (0, 0) 115 [some (mv_R o), some (mv_I (b : Int)), some (mv_I (x : Int)), some (mv_I (fm : Int)), some (mv_I (fi : Int)), some (mv_I c), some (mv_I f), some (mv_I (i : Int)), none] [] h n)
    (k1 : ¬ (x : Int) ≤ (i : Int) → ¬ f = 0 → Go φ l m_mo_chain (go_rm rd_mo_chain rw_mo_chain 0 0) (0, 0) 115 [some (mv_R o), some (mv_I (b : Int)), some (mv_I (x : Int)), some (mv_I (fm : Int)), some (mv_I (fi : Int)), some (mv_I c), some (mv_I f), some (mv_I (i : Int)), none] [] h n)
    (k2 : ¬ (x : Int) ≤ (i : Int) → f = 0 → ¬ c = 43 → ¬ c = 45 → ¬ c = 42 → Go φ l m_mo_chain (go_rm rd_mo_chain rw_mo_chain 0 0) (0, 0) 104 [some (mv_R o), some (mv_I (b : Int)), some (mv_I (x : Int)), some (mv_I (fm : Int)), some (mv_I (fi : Int)), some (mv_I c), some (mv_I f), some (mv_I (i : Int)), some (mv_I ((b : Int) + (i : Int)))] [mv_I ((b : Int) + (i : Int)), mv_I 73, mv_R o] h n)
    (k3 : ¬ (x : Int) ≤ (i : Int) → f = 0 → ¬ c = 43 → ¬ c = 45 → c = 42 → Go φ l m_mo_chain (go_rm rd_mo_chain rw_mo_chain 0 0) (0, 0) 93 [some (mv_R o), some (mv_I (b : Int)), some (mv_I (x : Int)), some (mv_I (fm : Int)), some (mv_I (fi : Int)), some (mv_I c), some (mv_I f), some (mv_I (i : Int)), some (mv_I ((b : Int) + (i : Int)))] [mv_I ((b : Int) + (i : Int)), mv_I 73, mv_R o] h n)
    (k4 : ¬ (x : Int) ≤ (i : Int) → f = 0 → ¬ c = 43 → c = 45 → Go φ l m_mo_chain (go_rm rd_mo_chain rw_mo_chain 0 0) (0, 0) 75 [some (mv_R o), some (mv_I (b : Int)), some (mv_I (x : Int)), some (mv_I (fm : Int)), some (mv_I (fi : Int)), some (mv_I c), some (mv_I f), some (mv_I (i : Int)), some (mv_I ((b : Int) + (i : Int)))] [mv_I (-1), mv_I ((b : Int) + (i : Int)), mv_I 73, mv_R o] h n)
    (k5 : ¬ (x : Int) ≤ (i : Int) → f = 0 → c = 43 → Go φ l m_mo_chain (go_rm rd_mo_chain rw_mo_chain 0 0) (0, 0) 56 [some (mv_R o), some (mv_I (b : Int)), some (mv_I (x : Int)), some (mv_I (fm : Int)), some (mv_I (fi : Int)), some (mv_I c), some (mv_I f), some (mv_I (i : Int)), some (mv_I ((b : Int) + (i : Int)))] [mv_I 1, mv_I ((b : Int) + (i : Int)), mv_I 73, mv_R o] h n) :
    Go φ l m_mo_chain (go_rm rd_mo_chain rw_mo_chain 0 0) (0, 0) 26 [some (mv_R o), some (mv_I (b : Int)), some (mv_I (x : Int)), some (mv_I (fm : Int)), some (mv_I (fi : Int)), some (mv_I c), some (mv_I f), some (mv_I (i : Int)), none] [] h n := by
  refine go_iload (q := 28) d_mo_chain_26 rfl rfl ?_
  refine go_iload_n (q := 29) d_mo_chain_28 rfl rfl rfl ?_
  refine go_icmp_ge (t := 115) (q := 32) d_mo_chain_29 (by decide) rfl (by omega) (by omega) (fun c1 => ?_) (fun c1 => ?_)
  ·
    exact k0 c1
  ·
    refine go_iload (q := 34) d_mo_chain_32 rfl rfl ?_
    refine go_if_ne (t := 115) (q := 37) d_mo_chain_34 (by decide) rfl (by omega) (fun c2 => ?_) (fun c2 => ?_)
    ·
      exact k1 c1 c2
    ·
      refine go_iload_n (q := 38) d_mo_chain_37 rfl rfl rfl ?_
      refine go_iload (q := 40) d_mo_chain_38 rfl rfl ?_
      refine go_iadd (q := 41) d_mo_chain_40 rfl ?_
      refine go_istore (q := 43) (L' := [some (mv_R o), some (mv_I (b : Int)), some (mv_I (x : Int)), some (mv_I (fm : Int)), some (mv_I (fi : Int)), some (mv_I c), some (mv_I f), some (mv_I (i : Int)), some (mv_I ((b : Int) + (i : Int)))]) d_mo_chain_41 rfl (by decide) rfl ?_
      refine go_iload (q := 45) d_mo_chain_43 rfl rfl ?_
      refine go_bipush (q := 47) d_mo_chain_45 rfl (by decide) ?_
      refine go_icmp_ne (t := 62) (q := 50) d_mo_chain_47 (by decide) rfl (by omega) (by omega) (fun c3 => ?_) (fun c3 => ?_)
      ·
        refine go_iload (q := 64) d_mo_chain_62 rfl rfl ?_
        refine go_bipush (q := 66) d_mo_chain_64 rfl (by decide) ?_
        refine go_icmp_ne (t := 81) (q := 69) d_mo_chain_66 (by decide) rfl (by omega) (by omega) (fun c4 => ?_) (fun c4 => ?_)
        ·
          refine go_iload (q := 83) d_mo_chain_81 rfl rfl ?_
          refine go_bipush (q := 85) d_mo_chain_83 rfl (by decide) ?_
          refine go_icmp_ne (t := 99) (q := 88) d_mo_chain_85 (by decide) rfl (by omega) (by omega) (fun c5 => ?_) (fun c5 => ?_)
          ·
            refine go_aload_n (q := 100) d_mo_chain_99 rfl rfl rfl ?_
            refine go_bipush (q := 102) d_mo_chain_100 rfl (by decide) ?_
            refine go_iload (q := 104) d_mo_chain_102 rfl rfl ?_
            exact k2 c1 c2 c3 c4 c5
          ·
            refine go_aload_n (q := 89) d_mo_chain_88 rfl rfl rfl ?_
            refine go_bipush (q := 91) d_mo_chain_89 rfl (by decide) ?_
            refine go_iload (q := 93) d_mo_chain_91 rfl rfl ?_
            exact k3 c1 c2 c3 c4 c5
        ·
          refine go_aload_n (q := 70) d_mo_chain_69 rfl rfl rfl ?_
          refine go_bipush (q := 72) d_mo_chain_70 rfl (by decide) ?_
          refine go_iload (q := 74) d_mo_chain_72 rfl rfl ?_
          refine go_iconst (q := 75) d_mo_chain_74 rfl ?_
          exact k4 c1 c2 c3 c4
      ·
        refine go_aload_n (q := 51) d_mo_chain_50 rfl rfl rfl ?_
        refine go_bipush (q := 53) d_mo_chain_51 rfl (by decide) ?_
        refine go_iload (q := 55) d_mo_chain_53 rfl rfl ?_
        refine go_iconst (q := 56) d_mo_chain_55 rfl ?_
        exact k5 c1 c2 c3

set_option maxRecDepth 4000 in
theorem so_ch_107 {φ : go_F} {l : Launch} {h : mv_H} {n : Nat} {o : Nat} {I tx S ps cs bs : Nat → Int} {V : Nat → Nat} {b x fm fi i : Nat} {c f y z : Int} (hV : mo_V h o (I, tx, S, ps, cs, bs) V) 
    (k0 : Go φ l m_mo_chain (go_rm rd_mo_chain rw_mo_chain 0 0) (0, 0) 26 [some (mv_R o), some (mv_I (b : Int)), some (mv_I (x : Int)), some (mv_I (fm : Int)), some (mv_I (fi : Int)), some (mv_I c), some (mv_I z), some (mv_I ((i : Int) + 1)), none] [] h n) :
    Go φ l m_mo_chain (go_rm rd_mo_chain rw_mo_chain 0 0) (0, 0) 107 [some (mv_R o), some (mv_I (b : Int)), some (mv_I (x : Int)), some (mv_I (fm : Int)), some (mv_I (fi : Int)), some (mv_I c), some (mv_I f), some (mv_I (i : Int)), some (mv_I y)] [mv_I z] h n := by
  refine go_istore (q := 109) (L' := [some (mv_R o), some (mv_I (b : Int)), some (mv_I (x : Int)), some (mv_I (fm : Int)), some (mv_I (fi : Int)), some (mv_I c), some (mv_I z), some (mv_I (i : Int)), some (mv_I y)]) d_mo_chain_107 rfl (by decide) rfl ?_
  refine go_iinc (q := 112) (L' := [some (mv_R o), some (mv_I (b : Int)), some (mv_I (x : Int)), some (mv_I (fm : Int)), some (mv_I (fi : Int)), some (mv_I c), some (mv_I z), some (mv_I ((i : Int) + 1)), some (mv_I y)]) d_mo_chain_109 rfl (by decide) rfl rfl ?_
  refine go_goto (q := 26) d_mo_chain_112 (by decide) ?_
  refine go_fg 8 (L' := [some (mv_R o), some (mv_I (b : Int)), some (mv_I (x : Int)), some (mv_I (fm : Int)), some (mv_I (fi : Int)), some (mv_I c), some (mv_I z), some (mv_I ((i : Int) + 1)), none]) rfl ?_
  exact k0 

set_option maxRecDepth 4000 in
theorem so_ch_115 {φ : go_F} {l : Launch} {h : mv_H} {n : Nat} {o : Nat} {I tx S ps cs bs : Nat → Int} {V : Nat → Nat} {b x fm fi i : Nat} {c f : Int} (hV : mo_V h o (I, tx, S, ps, cs, bs) V) (hb : b < 60)
    (k0 : ∀ h' : mv_H, mo_V h' o (I, tx, va_up S b (S 73), ps, cs, bs) (va_up (va_up V (2 * b) (V (2 * 73))) (2 * b + 1) (V (2 * 73 + 1))) → fr_ o 8 h h' → Go φ l m_mo_chain (go_rm rd_mo_chain rw_mo_chain 0 0) (0, 0) 124 [some (mv_R o), some (mv_I (b : Int)), some (mv_I (x : Int)), some (mv_I (fm : Int)), some (mv_I (fi : Int)), some (mv_I c), some (mv_I f), some (mv_I (i : Int)), none] [mv_I f] h' n) :
    Go φ l m_mo_chain (go_rm rd_mo_chain rw_mo_chain 0 0) (0, 0) 115 [some (mv_R o), some (mv_I (b : Int)), some (mv_I (x : Int)), some (mv_I (fm : Int)), some (mv_I (fi : Int)), some (mv_I c), some (mv_I f), some (mv_I (i : Int)), none] [] h n := by
  refine go_aload_n (q := 116) d_mo_chain_115 rfl rfl rfl ?_
  refine go_bipush (q := 118) d_mo_chain_116 rfl (by decide) ?_
  refine go_iload_n (q := 119) d_mo_chain_118 rfl rfl rfl ?_
  refine cl_copyValue (a := 73) (b := b) (q := 122) rfl d_mo_chain_119 rfl hV (by omega) (by omega) (Nat.le_of_ble_eq_true rfl) ⟨by decide, by decide, by decide, by decide⟩ (fun h_1 hV_2 fr_3 => ?_)
  have hV_4 : mo_V h_1 o (I, tx, va_up S b (S 73), ps, cs, bs) (va_up (va_up V (2 * b) (V (2 * 73))) (2 * b + 1) (V (2 * 73 + 1))) := by
    rw [(show V (2 * 73) = V (2 * 73) from rfl), (show V (2 * 73 + 1) = V (2 * 73 + 1) from rfl)] at hV_2
    exact hV_2
  refine go_iload (q := 124) d_mo_chain_122 rfl rfl ?_
  exact k0  _ hV_4 fr_3

set_option maxRecDepth 4000 in
theorem so_qu {φ : go_F} {l : Launch} {h : mv_H} {n : Nat} {o : Nat} {I tx S ps cs bs : Nat → Int} {V : Nat → Nat} {b : Nat} {w : Int} (hV : mo_V h o (I, tx, S, ps, cs, bs) V) (hb : b < 59) (hw : 0 ≤ w ∧ w ≤ 1) (hS : ∀ i, -1 ≤ S i ∧ S i ≤ 1) (hy : S (b + 1) ≠ 0 → 0 < V ((2 * b) + 2) ∧ V ((2 * b) + 2) < 10000 ^ 39)
    (k0 : ¬ V (2 * b + 1) = 1 → Go φ l m_mo_quotient (go_rm rd_mo_quotient rw_mo_quotient 0 0) (0, 0) 19 [some (mv_R o), some (mv_I (b : Int)), some (mv_I w), none, none] [mv_I 3] h n)
    (k1 : V (2 * b + 1) = 1 → V (2 * (b + 1) + 1) = 1 → ¬ S (b + 1) = 0 → ∀ (V_16 : Nat → Nat), V_16 152 = (V (2 * b)) / (V ((2 * b) + 2)) → V_16 153 = (V (2 * b)) % (V ((2 * b) + 2)) → (∀ i, i ≠ 152 → i ≠ 153 → i ≠ 157 → V_16 i = (V) i) → w = 0 → ¬ V_16 153 = 0 → ∀ h' : mv_H, mo_V h' o (I, tx, va_up S b (S b), ps, cs, bs) (va_up V_16 (2 * b) (V_16 153)) → fr_ o 8 h h' → Go φ l m_mo_quotient (go_rm rd_mo_quotient rw_mo_quotient 0 0) (0, 0) 122 [some (mv_R o), some (mv_I (b : Int)), some (mv_I w), some (mv_I (S b)), some (mv_I ((S b) * (S (b + 1))))] [mv_I 0] h' n)
    (k2 : V (2 * b + 1) = 1 → V (2 * (b + 1) + 1) = 1 → ¬ S (b + 1) = 0 → ∀ (V_16 : Nat → Nat), V_16 152 = (V (2 * b)) / (V ((2 * b) + 2)) → V_16 153 = (V (2 * b)) % (V ((2 * b) + 2)) → (∀ i, i ≠ 152 → i ≠ 153 → i ≠ 157 → V_16 i = (V) i) → w = 0 → V_16 153 = 0 → ∀ h' : mv_H, mo_V h' o (I, tx, va_up S b 0, ps, cs, bs) (va_up V_16 (2 * b) (V_16 153)) → fr_ o 8 h h' → Go φ l m_mo_quotient (go_rm rd_mo_quotient rw_mo_quotient 0 0) (0, 0) 122 [some (mv_R o), some (mv_I (b : Int)), some (mv_I w), some (mv_I (S b)), some (mv_I ((S b) * (S (b + 1))))] [mv_I 0] h' n)
    (k3 : V (2 * b + 1) = 1 → V (2 * (b + 1) + 1) = 1 → ¬ S (b + 1) = 0 → ∀ (V_16 : Nat → Nat), V_16 152 = (V (2 * b)) / (V ((2 * b) + 2)) → V_16 153 = (V (2 * b)) % (V ((2 * b) + 2)) → (∀ i, i ≠ 152 → i ≠ 153 → i ≠ 157 → V_16 i = (V) i) → ¬ w = 0 → ¬ V_16 152 = 0 → ∀ h' : mv_H, mo_V h' o (I, tx, va_up S b ((S b) * (S (b + 1))), ps, cs, bs) (va_up V_16 (2 * b) (V_16 152)) → fr_ o 8 h h' → Go φ l m_mo_quotient (go_rm rd_mo_quotient rw_mo_quotient 0 0) (0, 0) 122 [some (mv_R o), some (mv_I (b : Int)), some (mv_I w), some (mv_I (S b)), some (mv_I ((S b) * (S (b + 1))))] [mv_I 0] h' n)
    (k4 : V (2 * b + 1) = 1 → V (2 * (b + 1) + 1) = 1 → ¬ S (b + 1) = 0 → ∀ (V_16 : Nat → Nat), V_16 152 = (V (2 * b)) / (V ((2 * b) + 2)) → V_16 153 = (V (2 * b)) % (V ((2 * b) + 2)) → (∀ i, i ≠ 152 → i ≠ 153 → i ≠ 157 → V_16 i = (V) i) → ¬ w = 0 → V_16 152 = 0 → ∀ h' : mv_H, mo_V h' o (I, tx, va_up S b 0, ps, cs, bs) (va_up V_16 (2 * b) (V_16 152)) → fr_ o 8 h h' → Go φ l m_mo_quotient (go_rm rd_mo_quotient rw_mo_quotient 0 0) (0, 0) 122 [some (mv_R o), some (mv_I (b : Int)), some (mv_I w), some (mv_I (S b)), some (mv_I ((S b) * (S (b + 1))))] [mv_I 0] h' n)
    (k5 : V (2 * b + 1) = 1 → V (2 * (b + 1) + 1) = 1 → S (b + 1) = 0 → Go φ l m_mo_quotient (go_rm rd_mo_quotient rw_mo_quotient 0 0) (0, 0) 32 [some (mv_R o), some (mv_I (b : Int)), some (mv_I w), none, none] [mv_I 2] h n)
    (k6 : V (2 * b + 1) = 1 → ¬ V (2 * (b + 1) + 1) = 1 → Go φ l m_mo_quotient (go_rm rd_mo_quotient rw_mo_quotient 0 0) (0, 0) 19 [some (mv_R o), some (mv_I (b : Int)), some (mv_I w), none, none] [mv_I 3] h n) :
    Go φ l m_mo_quotient (go_rm rd_mo_quotient rw_mo_quotient 0 0) (0, 0) 0 [some (mv_R o), some (mv_I (b : Int)), some (mv_I w), none, none] [] h n := by
  refine go_aload_n (q := 1) d_mo_quotient_0 rfl rfl rfl ?_
  refine go_iload_n (q := 2) d_mo_quotient_1 rfl rfl rfl ?_
  refine cl_isWhole (v := b) (q := 5) rfl d_mo_quotient_2 rfl hV (by omega) (Nat.le_of_ble_eq_true rfl) ⟨by decide, by decide, by decide, by decide⟩ ?_
  rw [(show V (2 * b + 1) = V (2 * b + 1) from rfl)]
  refine go_if_eq (t := 18) (q := 8) d_mo_quotient_5 (by decide) rfl it_rng (fun c1 => ?_) (fun c1 => ?_)
  · have c2 : ¬ V (2 * b + 1) = 1 := it_eqp c1
    refine go_iconst (q := 19) d_mo_quotient_18 rfl ?_
    exact k0 c2
  · have c3 : V (2 * b + 1) = 1 := it_eqn c1
    refine go_aload_n (q := 9) d_mo_quotient_8 rfl rfl rfl ?_
    refine go_iload_n (q := 10) d_mo_quotient_9 rfl rfl rfl ?_
    refine go_iconst (q := 11) d_mo_quotient_10 rfl ?_
    refine go_iadd (q := 12) d_mo_quotient_11 rfl ?_
    refine cl_isWhole (v := b + 1) (q := 15) rfl d_mo_quotient_12 rfl hV (by omega) (Nat.le_of_ble_eq_true rfl) ⟨by decide, by decide, by decide, by decide⟩ ?_
    rw [(show V (2 * (b + 1) + 1) = V (2 * (b + 1) + 1) from rfl)]
    refine go_if_ne (t := 20) (q := 18) d_mo_quotient_15 (by decide) rfl it_rng (fun c4 => ?_) (fun c4 => ?_)
    · have c5 : V (2 * (b + 1) + 1) = 1 := it_nep c4
      refine go_aload_n (q := 21) d_mo_quotient_20 rfl rfl rfl ?_
      refine go_getf (v := mv_R (o + 4)) (q := 24) f_mo_23 d_mo_quotient_21 rfl (mv_c0 hV) rfl ?_
      refine go_iload_n (q := 25) d_mo_quotient_24 rfl rfl rfl ?_
      refine go_iconst (q := 26) d_mo_quotient_25 rfl ?_
      refine go_iadd (q := 27) d_mo_quotient_26 rfl ?_
      refine go_iald (i := b + 1) (q := 28) d_mo_quotient_27 rfl (mv_c4 hV) (by omega) (by omega) (by omega) ?_
      have q_6 := hS (b + 1)
      refine go_if_ne (t := 33) (q := 31) d_mo_quotient_28 (by decide) rfl (by omega) (fun c7 => ?_) (fun c7 => ?_)
      ·
        refine go_aload_n (q := 34) d_mo_quotient_33 rfl rfl rfl ?_
        refine go_getf (v := mv_R (o + 4)) (q := 37) f_mo_23 d_mo_quotient_34 rfl (mv_c0 hV) rfl ?_
        refine go_iload_n (q := 38) d_mo_quotient_37 rfl rfl rfl ?_
        refine go_iald (i := b) (q := 39) d_mo_quotient_38 rfl (mv_c4 hV) (by omega) (by omega) (by omega) ?_
        have q_8 := hS b
        refine go_istore_n (q := 40) (L' := [some (mv_R o), some (mv_I (b : Int)), some (mv_I w), some (mv_I (S b)), none]) d_mo_quotient_39 rfl rfl (by decide) rfl ?_
        refine go_iload_n (q := 41) d_mo_quotient_40 rfl rfl rfl ?_
        refine go_aload_n (q := 42) d_mo_quotient_41 rfl rfl rfl ?_
        refine go_getf (v := mv_R (o + 4)) (q := 45) f_mo_23 d_mo_quotient_42 rfl (mv_c0 hV) rfl ?_
        refine go_iload_n (q := 46) d_mo_quotient_45 rfl rfl rfl ?_
        refine go_iconst (q := 47) d_mo_quotient_46 rfl ?_
        refine go_iadd (q := 48) d_mo_quotient_47 rfl ?_
        refine go_iald (i := b + 1) (q := 49) d_mo_quotient_48 rfl (mv_c4 hV) (by omega) (by omega) (by omega) ?_
        have q_9 := hS (b + 1)
        refine go_imul (q := 50) d_mo_quotient_49 rfl ?_
        refine go_istore (q := 52) (L' := [some (mv_R o), some (mv_I (b : Int)), some (mv_I w), some (mv_I (S b)), some (mv_I ((S b) * (S (b + 1))))]) d_mo_quotient_50 rfl (by decide) rfl ?_
        refine go_aload_n (q := 53) d_mo_quotient_52 rfl rfl rfl ?_
        refine go_iconst (q := 54) d_mo_quotient_53 rfl ?_
        refine go_iload_n (q := 55) d_mo_quotient_54 rfl rfl rfl ?_
        refine go_imul (q := 56) d_mo_quotient_55 rfl ?_
        refine go_iconst (q := 57) d_mo_quotient_56 rfl ?_
        refine go_iload_n (q := 58) d_mo_quotient_57 rfl rfl rfl ?_
        refine go_imul (q := 59) d_mo_quotient_58 rfl ?_
        refine go_iconst (q := 60) d_mo_quotient_59 rfl ?_
        refine go_iadd (q := 61) d_mo_quotient_60 rfl ?_
        refine go_sipush (q := 64) d_mo_quotient_61 rfl (by decide) ?_
        refine go_sipush (q := 67) d_mo_quotient_64 rfl (by decide) ?_
        have hy_ := hy (by omega)
        refine cl_divide (a := 2 * b) (b := (2 * b) + 2) (c := 152) (e := 153) (q := 70) rfl d_mo_quotient_67 rfl hV (by omega) (by rw [(show V ((2 * b) + 2) = V ((2 * b) + 2) from rfl)]; omega) (by rw [(show V ((2 * b) + 2) = V ((2 * b) + 2) from rfl)]; omega) (Nat.le_of_ble_eq_true rfl) ⟨by decide, by decide, by decide, by decide⟩ (fun h_10 V_16 hV_11 fr_12 e_13 e_14 o_15 => ?_)
        rw [(show V (2 * b) = V (2 * b) from rfl), (show V ((2 * b) + 2) = V ((2 * b) + 2) from rfl)] at e_13 e_14
        refine go_aload_n (q := 71) d_mo_quotient_70 rfl rfl rfl ?_
        refine go_iload_n (q := 72) d_mo_quotient_71 rfl rfl rfl ?_
        refine go_if_eq (t := 81) (q := 75) d_mo_quotient_72 (by decide) rfl (by omega) (fun c17 => ?_) (fun c17 => ?_)
        ·
          refine go_sipush (q := 84) d_mo_quotient_81 rfl (by decide) ?_
          refine go_iconst (q := 85) d_mo_quotient_84 rfl ?_
          refine go_iload_n (q := 86) d_mo_quotient_85 rfl rfl rfl ?_
          refine go_imul (q := 87) d_mo_quotient_86 rfl ?_
          refine cl_copy (a := 153) (b := 2 * b) (q := 90) rfl d_mo_quotient_87 rfl hV_11 (by omega) (by omega) (Nat.le_of_ble_eq_true rfl) ⟨by decide, by decide, by decide, by decide⟩ (fun h_18 hV_19 fr_20 => ?_)
          have hV_21 : mo_V h_18 o (I, tx, S, ps, cs, bs) (va_up V_16 (2 * b) (V_16 153)) := by
            have e_ : (V_16) 153 = V_16 153 := by rw [(show V_16 153 = V_16 153 from rfl)]
            rw [← e_]
            exact hV_19
          refine go_aload_n (q := 91) d_mo_quotient_90 rfl rfl rfl ?_
          refine go_getf (v := mv_R (o + 4)) (q := 94) f_mo_23 d_mo_quotient_91 rfl (mv_c0 hV_21) rfl ?_
          refine go_iload_n (q := 95) d_mo_quotient_94 rfl rfl rfl ?_
          refine go_aload_n (q := 96) d_mo_quotient_95 rfl rfl rfl ?_
          refine go_getf (v := mv_R (o + 3)) (q := 99) f_mo_20 d_mo_quotient_96 rfl (mv_c0 hV_21) rfl ?_
          refine go_iconst (q := 100) d_mo_quotient_99 rfl ?_
          refine go_iload_n (q := 101) d_mo_quotient_100 rfl rfl rfl ?_
          refine go_imul (q := 102) d_mo_quotient_101 rfl ?_
          obtain ⟨D_22, U_23, hm_24, hM_25⟩ := id hV_21
          have q_26 := hM_25.2.1 (2 * b)
          have q_27 : U_23 (2 * b) = 0 ↔ V_16 153 = 0 := by
            have z_ := mo_U0 hM_25 (r := 2 * b) (by omega)
            rw [(show (va_up V_16 (2 * b) (V_16 153)) (2 * b) = V_16 153 from (va_up_self _ _ _))] at z_
            exact z_
          refine go_iald (i := 2 * b) (q := 103) d_mo_quotient_102 rfl (MD_c3 hm_24) (by omega) (by omega) (by omega) ?_
          refine go_if_ne (t := 110) (q := 106) d_mo_quotient_103 (by decide) rfl (by omega) (fun c28 => ?_) (fun c28 => ?_)
          · have c29 : ¬ V_16 153 = 0 := (by omega : ¬ V_16 153 = 0)
            refine go_iload_n (q := 111) d_mo_quotient_110 rfl rfl rfl ?_
            refine go_if_eq (t := 119) (q := 114) d_mo_quotient_111 (by decide) rfl (by omega) (fun c30 => ?_) (fun c30 => ?_)
            ·
              refine go_iload_n (q := 120) d_mo_quotient_119 rfl rfl rfl ?_
              refine go_iast (i := b) (q := 121) d_mo_quotient_120 rfl (mv_c4 hV_21) (by omega) (by omega) (by omega) ?_
              have hV_32 := mv_u4 hV_21 (va_up S b (S b))
              have fr_33 : fr_ o 8 h_18 (va_up h_18 (o + 4) (mv_A 0 75 (va_up S b (S b)))) := fun z_ hz => va_up_ne _ _ (by omega)
              generalize va_up h_18 (o + 4) (mv_A 0 75 (va_up S b (S b))) = h_31 at hV_32 fr_33 ⊢
              refine go_iconst (q := 122) d_mo_quotient_121 rfl ?_
              exact k1 c3 c5 c7 V_16 e_13 e_14 o_15 c17 c29 _ hV_32 (fr_.tr (fr_.tr fr_12 fr_20) fr_33)
            ·
              exfalso; omega
          · have c34 : V_16 153 = 0 := (by omega : V_16 153 = 0)
            refine go_iconst (q := 107) d_mo_quotient_106 rfl ?_
            refine go_goto (q := 120) d_mo_quotient_107 (by decide) ?_
            refine go_iast (i := b) (q := 121) d_mo_quotient_120 rfl (mv_c4 hV_21) (by omega) (by omega) (by omega) ?_
            have hV_36 := mv_u4 hV_21 (va_up S b 0)
            have fr_37 : fr_ o 8 h_18 (va_up h_18 (o + 4) (mv_A 0 75 (va_up S b 0))) := fun z_ hz => va_up_ne _ _ (by omega)
            generalize va_up h_18 (o + 4) (mv_A 0 75 (va_up S b 0)) = h_35 at hV_36 fr_37 ⊢
            refine go_iconst (q := 122) d_mo_quotient_121 rfl ?_
            exact k2 c3 c5 c7 V_16 e_13 e_14 o_15 c17 c34 _ hV_36 (fr_.tr (fr_.tr fr_12 fr_20) fr_37)
        ·
          refine go_sipush (q := 78) d_mo_quotient_75 rfl (by decide) ?_
          refine go_goto (q := 84) d_mo_quotient_78 (by decide) ?_
          refine go_iconst (q := 85) d_mo_quotient_84 rfl ?_
          refine go_iload_n (q := 86) d_mo_quotient_85 rfl rfl rfl ?_
          refine go_imul (q := 87) d_mo_quotient_86 rfl ?_
          refine cl_copy (a := 152) (b := 2 * b) (q := 90) rfl d_mo_quotient_87 rfl hV_11 (by omega) (by omega) (Nat.le_of_ble_eq_true rfl) ⟨by decide, by decide, by decide, by decide⟩ (fun h_38 hV_39 fr_40 => ?_)
          have hV_41 : mo_V h_38 o (I, tx, S, ps, cs, bs) (va_up V_16 (2 * b) (V_16 152)) := by
            have e_ : (V_16) 152 = V_16 152 := by rw [(show V_16 152 = V_16 152 from rfl)]
            rw [← e_]
            exact hV_39
          refine go_aload_n (q := 91) d_mo_quotient_90 rfl rfl rfl ?_
          refine go_getf (v := mv_R (o + 4)) (q := 94) f_mo_23 d_mo_quotient_91 rfl (mv_c0 hV_41) rfl ?_
          refine go_iload_n (q := 95) d_mo_quotient_94 rfl rfl rfl ?_
          refine go_aload_n (q := 96) d_mo_quotient_95 rfl rfl rfl ?_
          refine go_getf (v := mv_R (o + 3)) (q := 99) f_mo_20 d_mo_quotient_96 rfl (mv_c0 hV_41) rfl ?_
          refine go_iconst (q := 100) d_mo_quotient_99 rfl ?_
          refine go_iload_n (q := 101) d_mo_quotient_100 rfl rfl rfl ?_
          refine go_imul (q := 102) d_mo_quotient_101 rfl ?_
          obtain ⟨D_42, U_43, hm_44, hM_45⟩ := id hV_41
          have q_46 := hM_45.2.1 (2 * b)
          have q_47 : U_43 (2 * b) = 0 ↔ V_16 152 = 0 := by
            have z_ := mo_U0 hM_45 (r := 2 * b) (by omega)
            rw [(show (va_up V_16 (2 * b) (V_16 152)) (2 * b) = V_16 152 from (va_up_self _ _ _))] at z_
            exact z_
          refine go_iald (i := 2 * b) (q := 103) d_mo_quotient_102 rfl (MD_c3 hm_44) (by omega) (by omega) (by omega) ?_
          refine go_if_ne (t := 110) (q := 106) d_mo_quotient_103 (by decide) rfl (by omega) (fun c48 => ?_) (fun c48 => ?_)
          · have c49 : ¬ V_16 152 = 0 := (by omega : ¬ V_16 152 = 0)
            refine go_iload_n (q := 111) d_mo_quotient_110 rfl rfl rfl ?_
            refine go_if_eq (t := 119) (q := 114) d_mo_quotient_111 (by decide) rfl (by omega) (fun c50 => ?_) (fun c50 => ?_)
            ·
              exfalso; omega
            ·
              refine go_iload (q := 116) d_mo_quotient_114 rfl rfl ?_
              refine go_goto (q := 120) d_mo_quotient_116 (by decide) ?_
              refine go_iast (i := b) (q := 121) d_mo_quotient_120 rfl (mv_c4 hV_41) (by omega) (by omega) (by omega) ?_
              have hV_52 := mv_u4 hV_41 (va_up S b ((S b) * (S (b + 1))))
              have fr_53 : fr_ o 8 h_38 (va_up h_38 (o + 4) (mv_A 0 75 (va_up S b ((S b) * (S (b + 1)))))) := fun z_ hz => va_up_ne _ _ (by omega)
              generalize va_up h_38 (o + 4) (mv_A 0 75 (va_up S b ((S b) * (S (b + 1))))) = h_51 at hV_52 fr_53 ⊢
              refine go_iconst (q := 122) d_mo_quotient_121 rfl ?_
              exact k3 c3 c5 c7 V_16 e_13 e_14 o_15 c17 c49 _ hV_52 (fr_.tr (fr_.tr fr_12 fr_40) fr_53)
          · have c54 : V_16 152 = 0 := (by omega : V_16 152 = 0)
            refine go_iconst (q := 107) d_mo_quotient_106 rfl ?_
            refine go_goto (q := 120) d_mo_quotient_107 (by decide) ?_
            refine go_iast (i := b) (q := 121) d_mo_quotient_120 rfl (mv_c4 hV_41) (by omega) (by omega) (by omega) ?_
            have hV_56 := mv_u4 hV_41 (va_up S b 0)
            have fr_57 : fr_ o 8 h_38 (va_up h_38 (o + 4) (mv_A 0 75 (va_up S b 0))) := fun z_ hz => va_up_ne _ _ (by omega)
            generalize va_up h_38 (o + 4) (mv_A 0 75 (va_up S b 0)) = h_55 at hV_56 fr_57 ⊢
            refine go_iconst (q := 122) d_mo_quotient_121 rfl ?_
            exact k4 c3 c5 c7 V_16 e_13 e_14 o_15 c17 c54 _ hV_56 (fr_.tr (fr_.tr fr_12 fr_40) fr_57)
      ·
        refine go_iconst (q := 32) d_mo_quotient_31 rfl ?_
        exact k5 c3 c5 c7
    · have c58 : ¬ V (2 * (b + 1) + 1) = 1 := it_nen c4
      refine go_iconst (q := 19) d_mo_quotient_18 rfl ?_
      exact k6 c3 c58

set_option maxRecDepth 4000 in
theorem so_dv_0 {φ : go_F} {l : Launch} {h : mv_H} {n : Nat} {o : Nat} {I tx S ps cs bs : Nat → Int} {V : Nat → Nat} {b x : Nat} (hV : mo_V h o (I, tx, S, ps, cs, bs) V) 
    (k0 : Go φ l m_mo_divisor (go_rm rd_mo_divisor rw_mo_divisor 0 0) (0, 0) 2 [some (mv_R o), some (mv_I (b : Int)), some (mv_I (x : Int)), some (mv_I 0)] [] h n) :
    Go φ l m_mo_divisor (go_rm rd_mo_divisor rw_mo_divisor 0 0) (0, 0) 0 [some (mv_R o), some (mv_I (b : Int)), some (mv_I (x : Int)), none] [] h n := by
  refine go_iconst (q := 1) d_mo_divisor_0 rfl ?_
  refine go_istore_n (q := 2) (L' := [some (mv_R o), some (mv_I (b : Int)), some (mv_I (x : Int)), some (mv_I 0)]) d_mo_divisor_1 rfl rfl (by decide) rfl ?_
  exact k0 

set_option maxRecDepth 4000 in
theorem so_dv_2 {φ : go_F} {l : Launch} {h : mv_H} {n : Nat} {o : Nat} {I tx S ps cs bs : Nat → Int} {V : Nat → Nat} {b x i : Nat} (hV : mo_V h o (I, tx, S, ps, cs, bs) V) (hb : b + x ≤ 60 ∧ i ≤ x)
    (k0 : (x : Int) ≤ (i : Int) → Go φ l m_mo_divisor (go_rm rd_mo_divisor rw_mo_divisor 0 0) (0, 0) 25 [some (mv_R o), some (mv_I (b : Int)), some (mv_I (x : Int)), some (mv_I (i : Int))] [] h n)
    (k1 : ¬ (x : Int) ≤ (i : Int) → V (2 * (b + i) + 1) = 1 → Go φ l m_mo_divisor (go_rm rd_mo_divisor rw_mo_divisor 0 0) (0, 0) 2 [some (mv_R o), some (mv_I (b : Int)), some (mv_I (x : Int)), some (mv_I ((i : Int) + 1))] [] h n)
    (k2 : ¬ (x : Int) ≤ (i : Int) → ¬ V (2 * (b + i) + 1) = 1 → Go φ l m_mo_divisor (go_rm rd_mo_divisor rw_mo_divisor 0 0) (0, 0) 18 [some (mv_R o), some (mv_I (b : Int)), some (mv_I (x : Int)), some (mv_I (i : Int))] [mv_I 3] h n) :
    Go φ l m_mo_divisor (go_rm rd_mo_divisor rw_mo_divisor 0 0) (0, 0) 2 [some (mv_R o), some (mv_I (b : Int)), some (mv_I (x : Int)), some (mv_I (i : Int))] [] h n := by
  refine go_iload_n (q := 3) d_mo_divisor_2 rfl rfl rfl ?_
  refine go_iload_n (q := 4) d_mo_divisor_3 rfl rfl rfl ?_
  refine go_icmp_ge (t := 25) (q := 7) d_mo_divisor_4 (by decide) rfl (by omega) (by omega) (fun c1 => ?_) (fun c1 => ?_)
  ·
    exact k0 c1
  ·
    refine go_aload_n (q := 8) d_mo_divisor_7 rfl rfl rfl ?_
    refine go_iload_n (q := 9) d_mo_divisor_8 rfl rfl rfl ?_
    refine go_iload_n (q := 10) d_mo_divisor_9 rfl rfl rfl ?_
    refine go_iadd (q := 11) d_mo_divisor_10 rfl ?_
    refine cl_isWhole (v := b + i) (q := 14) rfl d_mo_divisor_11 rfl hV (by omega) (Nat.le_of_ble_eq_true rfl) ⟨by decide, by decide, by decide, by decide⟩ ?_
    rw [(show V (2 * (b + i) + 1) = V (2 * (b + i) + 1) from rfl)]
    refine go_if_ne (t := 19) (q := 17) d_mo_divisor_14 (by decide) rfl it_rng (fun c2 => ?_) (fun c2 => ?_)
    · have c3 : V (2 * (b + i) + 1) = 1 := it_nep c2
      refine go_iinc (q := 22) (L' := [some (mv_R o), some (mv_I (b : Int)), some (mv_I (x : Int)), some (mv_I ((i : Int) + 1))]) d_mo_divisor_19 rfl (by decide) rfl rfl ?_
      refine go_goto (q := 2) d_mo_divisor_22 (by decide) ?_
      exact k1 c1 c3
    · have c4 : ¬ V (2 * (b + i) + 1) = 1 := it_nen c2
      refine go_iconst (q := 18) d_mo_divisor_17 rfl ?_
      exact k2 c1 c4

set_option maxRecDepth 4000 in
theorem so_dv_25 {φ : go_F} {l : Launch} {h : mv_H} {n : Nat} {o : Nat} {I tx S ps cs bs : Nat → Int} {V : Nat → Nat} {b x i : Nat} (hV : mo_V h o (I, tx, S, ps, cs, bs) V) 
    (k0 : ∀ h' : mv_H, mo_V h' o (I, tx, va_up S 73 0, ps, cs, bs) (va_up (va_up V (2 * 73) 0) (2 * 73 + 1) 1) → fr_ o 8 h h' → Go φ l m_mo_divisor (go_rm rd_mo_divisor rw_mo_divisor 0 0) (0, 0) 34 [some (mv_R o), some (mv_I (b : Int)), some (mv_I (x : Int)), some (mv_I 0)] [] h' n) :
    Go φ l m_mo_divisor (go_rm rd_mo_divisor rw_mo_divisor 0 0) (0, 0) 25 [some (mv_R o), some (mv_I (b : Int)), some (mv_I (x : Int)), some (mv_I (i : Int))] [] h n := by
  refine go_aload_n (q := 26) d_mo_divisor_25 rfl rfl rfl ?_
  refine go_bipush (q := 28) d_mo_divisor_26 rfl (by decide) ?_
  refine go_iconst (q := 29) d_mo_divisor_28 rfl ?_
  refine cl_setValue (a := 73) (v := 0) (q := 32) rfl d_mo_divisor_29 rfl hV (by omega) (by omega) (Nat.le_of_ble_eq_true rfl) ⟨by decide, by decide, by decide, by decide⟩ (fun h_1 hV_2 fr_3 => ?_)
  have hV_4 : mo_V h_1 o (I, tx, va_up S 73 0, ps, cs, bs) (va_up (va_up V (2 * 73) 0) (2 * 73 + 1) 1) := hV_2
  refine go_iconst (q := 33) d_mo_divisor_32 rfl ?_
  refine go_istore_n (q := 34) (L' := [some (mv_R o), some (mv_I (b : Int)), some (mv_I (x : Int)), some (mv_I 0)]) d_mo_divisor_33 rfl rfl (by decide) rfl ?_
  exact k0  _ hV_4 fr_3

set_option maxRecDepth 4000 in
theorem so_dv_34 {φ : go_F} {l : Launch} {h : mv_H} {n : Nat} {o : Nat} {I tx S ps cs bs : Nat → Int} {V : Nat → Nat} {b x i : Nat} (hV : mo_V h o (I, tx, S, ps, cs, bs) V) (hb : b + x ≤ 60 ∧ i ≤ x)
    (k0 : (x : Int) ≤ (i : Int) → Go φ l m_mo_divisor (go_rm rd_mo_divisor rw_mo_divisor 0 0) (0, 0) 67 [some (mv_R o), some (mv_I (b : Int)), some (mv_I (x : Int)), some (mv_I (i : Int))] [] h n)
    (k1 : ¬ (x : Int) ≤ (i : Int) → ∀ (V_7 : Nat → Nat), V_7 154 = Nat.gcd (V 146) (V (2 * (b + i))) → (∀ i, i ≠ 154 → i ≠ 155 → V_7 i = (V) i) → ∀ h' : mv_H, mo_V h' o (I, tx, S, ps, cs, bs) (va_up V_7 146 (V_7 154)) → fr_ o 8 h h' → Go φ l m_mo_divisor (go_rm rd_mo_divisor rw_mo_divisor 0 0) (0, 0) 34 [some (mv_R o), some (mv_I (b : Int)), some (mv_I (x : Int)), some (mv_I ((i : Int) + 1))] [] h' n) :
    Go φ l m_mo_divisor (go_rm rd_mo_divisor rw_mo_divisor 0 0) (0, 0) 34 [some (mv_R o), some (mv_I (b : Int)), some (mv_I (x : Int)), some (mv_I (i : Int))] [] h n := by
  refine go_iload_n (q := 35) d_mo_divisor_34 rfl rfl rfl ?_
  refine go_iload_n (q := 36) d_mo_divisor_35 rfl rfl rfl ?_
  refine go_icmp_ge (t := 67) (q := 39) d_mo_divisor_36 (by decide) rfl (by omega) (by omega) (fun c1 => ?_) (fun c1 => ?_)
  ·
    exact k0 c1
  ·
    refine go_aload_n (q := 40) d_mo_divisor_39 rfl rfl rfl ?_
    refine go_sipush (q := 43) d_mo_divisor_40 rfl (by decide) ?_
    refine go_iconst (q := 44) d_mo_divisor_43 rfl ?_
    refine go_iload_n (q := 45) d_mo_divisor_44 rfl rfl rfl ?_
    refine go_iload_n (q := 46) d_mo_divisor_45 rfl rfl rfl ?_
    refine go_iadd (q := 47) d_mo_divisor_46 rfl ?_
    refine go_imul (q := 48) d_mo_divisor_47 rfl ?_
    refine cl_common (a := 146) (b := 2 * (b + i)) (q := 51) rfl d_mo_divisor_48 rfl hV (by omega) (Nat.le_of_ble_eq_true rfl) ⟨by decide, by decide, by decide, by decide⟩ (fun h_2 V_7 hV_3 fr_4 e_5 o_6 => ?_)
    rw [(show V 146 = V 146 from rfl), (show V (2 * (b + i)) = V (2 * (b + i)) from rfl)] at e_5
    refine go_aload_n (q := 52) d_mo_divisor_51 rfl rfl rfl ?_
    refine go_sipush (q := 55) d_mo_divisor_52 rfl (by decide) ?_
    refine go_sipush (q := 58) d_mo_divisor_55 rfl (by decide) ?_
    refine cl_copy (a := 154) (b := 146) (q := 61) rfl d_mo_divisor_58 rfl hV_3 (by omega) (by omega) (Nat.le_of_ble_eq_true rfl) ⟨by decide, by decide, by decide, by decide⟩ (fun h_8 hV_9 fr_10 => ?_)
    have hV_11 : mo_V h_8 o (I, tx, S, ps, cs, bs) (va_up V_7 146 (V_7 154)) := by
      have e_ : (V_7) 154 = V_7 154 := by rw [(show V_7 154 = V_7 154 from rfl)]
      rw [← e_]
      exact hV_9
    refine go_iinc (q := 64) (L' := [some (mv_R o), some (mv_I (b : Int)), some (mv_I (x : Int)), some (mv_I ((i : Int) + 1))]) d_mo_divisor_61 rfl (by decide) rfl rfl ?_
    refine go_goto (q := 34) d_mo_divisor_64 (by decide) ?_
    exact k1 c1 V_7 e_5 o_6 _ hV_11 (fr_.tr fr_4 fr_10)

set_option maxRecDepth 4000 in
theorem so_dv_67 {φ : go_F} {l : Launch} {h : mv_H} {n : Nat} {o : Nat} {I tx S ps cs bs : Nat → Int} {V : Nat → Nat} {b x i : Nat} (hV : mo_V h o (I, tx, S, ps, cs, bs) V) (hb : b < 60)
    (k0 : ¬ V 146 = 0 → ∀ h' : mv_H, mo_V h' o (I, tx, va_up (va_up S 73 1) b ((va_up S 73 1) 73), ps, cs, bs) (va_up (va_up V (2 * b) (V (2 * 73))) (2 * b + 1) (V (2 * 73 + 1))) → fr_ o 8 h h' → Go φ l m_mo_divisor (go_rm rd_mo_divisor rw_mo_divisor 0 0) (0, 0) 98 [some (mv_R o), some (mv_I (b : Int)), some (mv_I (x : Int)), some (mv_I (i : Int))] [mv_I 0] h' n)
    (k1 : V 146 = 0 → ∀ h' : mv_H, mo_V h' o (I, tx, va_up (va_up S 73 0) b ((va_up S 73 0) 73), ps, cs, bs) (va_up (va_up V (2 * b) (V (2 * 73))) (2 * b + 1) (V (2 * 73 + 1))) → fr_ o 8 h h' → Go φ l m_mo_divisor (go_rm rd_mo_divisor rw_mo_divisor 0 0) (0, 0) 98 [some (mv_R o), some (mv_I (b : Int)), some (mv_I (x : Int)), some (mv_I (i : Int))] [mv_I 0] h' n) :
    Go φ l m_mo_divisor (go_rm rd_mo_divisor rw_mo_divisor 0 0) (0, 0) 67 [some (mv_R o), some (mv_I (b : Int)), some (mv_I (x : Int)), some (mv_I (i : Int))] [] h n := by
  refine go_aload_n (q := 68) d_mo_divisor_67 rfl rfl rfl ?_
  refine go_getf (v := mv_R (o + 4)) (q := 71) f_mo_23 d_mo_divisor_68 rfl (mv_c0 hV) rfl ?_
  refine go_bipush (q := 73) d_mo_divisor_71 rfl (by decide) ?_
  refine go_aload_n (q := 74) d_mo_divisor_73 rfl rfl rfl ?_
  refine go_getf (v := mv_R (o + 3)) (q := 77) f_mo_20 d_mo_divisor_74 rfl (mv_c0 hV) rfl ?_
  refine go_sipush (q := 80) d_mo_divisor_77 rfl (by decide) ?_
  obtain ⟨D_1, U_2, hm_3, hM_4⟩ := id hV
  have q_5 := hM_4.2.1 146
  have q_6 : U_2 146 = 0 ↔ V 146 = 0 := by
    have z_ := mo_U0 hM_4 (r := 146) (by omega)
    rw [(show V 146 = V 146 from rfl)] at z_
    exact z_
  refine go_iald (i := 146) (q := 81) d_mo_divisor_80 rfl (MD_c3 hm_3) (by omega) (by omega) (by omega) ?_
  refine go_if_ne (t := 88) (q := 84) d_mo_divisor_81 (by decide) rfl (by omega) (fun c7 => ?_) (fun c7 => ?_)
  · have c8 : ¬ V 146 = 0 := (by omega : ¬ V 146 = 0)
    refine go_iconst (q := 89) d_mo_divisor_88 rfl ?_
    refine go_iast (i := 73) (q := 90) d_mo_divisor_89 rfl (mv_c4 hV) (by omega) (by omega) (by omega) ?_
    have hV_10 := mv_u4 hV (va_up S 73 1)
    have fr_11 : fr_ o 8 h (va_up h (o + 4) (mv_A 0 75 (va_up S 73 1))) := fun z_ hz => va_up_ne _ _ (by omega)
    generalize va_up h (o + 4) (mv_A 0 75 (va_up S 73 1)) = h_9 at hV_10 fr_11 ⊢
    refine go_aload_n (q := 91) d_mo_divisor_90 rfl rfl rfl ?_
    refine go_bipush (q := 93) d_mo_divisor_91 rfl (by decide) ?_
    refine go_iload_n (q := 94) d_mo_divisor_93 rfl rfl rfl ?_
    refine cl_copyValue (a := 73) (b := b) (q := 97) rfl d_mo_divisor_94 rfl hV_10 (by omega) (by omega) (Nat.le_of_ble_eq_true rfl) ⟨by decide, by decide, by decide, by decide⟩ (fun h_12 hV_13 fr_14 => ?_)
    have hV_15 : mo_V h_12 o (I, tx, va_up (va_up S 73 1) b ((va_up S 73 1) 73), ps, cs, bs) (va_up (va_up V (2 * b) (V (2 * 73))) (2 * b + 1) (V (2 * 73 + 1))) := by
      rw [(show V (2 * 73) = V (2 * 73) from rfl), (show V (2 * 73 + 1) = V (2 * 73 + 1) from rfl)] at hV_13
      exact hV_13
    refine go_iconst (q := 98) d_mo_divisor_97 rfl ?_
    exact k0 c8 _ hV_15 (fr_.tr fr_11 fr_14)
  · have c16 : V 146 = 0 := (by omega : V 146 = 0)
    refine go_iconst (q := 85) d_mo_divisor_84 rfl ?_
    refine go_goto (q := 89) d_mo_divisor_85 (by decide) ?_
    refine go_iast (i := 73) (q := 90) d_mo_divisor_89 rfl (mv_c4 hV) (by omega) (by omega) (by omega) ?_
    have hV_18 := mv_u4 hV (va_up S 73 0)
    have fr_19 : fr_ o 8 h (va_up h (o + 4) (mv_A 0 75 (va_up S 73 0))) := fun z_ hz => va_up_ne _ _ (by omega)
    generalize va_up h (o + 4) (mv_A 0 75 (va_up S 73 0)) = h_17 at hV_18 fr_19 ⊢
    refine go_aload_n (q := 91) d_mo_divisor_90 rfl rfl rfl ?_
    refine go_bipush (q := 93) d_mo_divisor_91 rfl (by decide) ?_
    refine go_iload_n (q := 94) d_mo_divisor_93 rfl rfl rfl ?_
    refine cl_copyValue (a := 73) (b := b) (q := 97) rfl d_mo_divisor_94 rfl hV_18 (by omega) (by omega) (Nat.le_of_ble_eq_true rfl) ⟨by decide, by decide, by decide, by decide⟩ (fun h_20 hV_21 fr_22 => ?_)
    have hV_23 : mo_V h_20 o (I, tx, va_up (va_up S 73 0) b ((va_up S 73 0) 73), ps, cs, bs) (va_up (va_up V (2 * b) (V (2 * 73))) (2 * b + 1) (V (2 * 73 + 1))) := by
      rw [(show V (2 * 73) = V (2 * 73) from rfl), (show V (2 * 73 + 1) = V (2 * 73 + 1) from rfl)] at hV_21
      exact hV_21
    refine go_iconst (q := 98) d_mo_divisor_97 rfl ?_
    exact k1 c16 _ hV_23 (fr_.tr fr_19 fr_22)

set_option maxRecDepth 4000 in
theorem so_pw_0 {φ : go_F} {l : Launch} {h : mv_H} {n : Nat} {o : Nat} {I tx S ps cs bs : Nat → Int} {V : Nat → Nat} {b : Nat} (hV : mo_V h o (I, tx, S, ps, cs, bs) V) (hb : b < 59)
    (k0 : ¬ V (2 * (b + 1)) = 0 → Go φ l m_mo_power (go_rm rd_mo_power rw_mo_power 0 0) (0, 0) 19 [some (mv_R o), some (mv_I (b : Int)), some (mv_I ((b : Int) + 1)), none, none, none] [] h n)
    (k1 : V (2 * (b + 1)) = 0 → Go φ l m_mo_power (go_rm rd_mo_power rw_mo_power 0 0) (0, 0) 28 [some (mv_R o), some (mv_I (b : Int)), some (mv_I ((b : Int) + 1)), none, none, none] [mv_I 0] h n) :
    Go φ l m_mo_power (go_rm rd_mo_power rw_mo_power 0 0) (0, 0) 0 [some (mv_R o), some (mv_I (b : Int)), none, none, none, none] [] h n := by
  refine go_iload_n (q := 1) d_mo_power_0 rfl rfl rfl ?_
  refine go_iconst (q := 2) d_mo_power_1 rfl ?_
  refine go_iadd (q := 3) d_mo_power_2 rfl ?_
  refine go_istore_n (q := 4) (L' := [some (mv_R o), some (mv_I (b : Int)), some (mv_I ((b : Int) + 1)), none, none, none]) d_mo_power_3 rfl rfl (by decide) rfl ?_
  refine go_aload_n (q := 5) d_mo_power_4 rfl rfl rfl ?_
  refine go_getf (v := mv_R (o + 3)) (q := 8) f_mo_20 d_mo_power_5 rfl (mv_c0 hV) rfl ?_
  refine go_iconst (q := 9) d_mo_power_8 rfl ?_
  refine go_iload_n (q := 10) d_mo_power_9 rfl rfl rfl ?_
  refine go_imul (q := 11) d_mo_power_10 rfl ?_
  obtain ⟨D_1, U_2, hm_3, hM_4⟩ := id hV
  have q_5 := hM_4.2.1 (2 * (b + 1))
  have q_6 : U_2 (2 * (b + 1)) = 0 ↔ V (2 * (b + 1)) = 0 := by
    have z_ := mo_U0 hM_4 (r := 2 * (b + 1)) (by omega)
    rw [(show V (2 * (b + 1)) = V (2 * (b + 1)) from rfl)] at z_
    exact z_
  refine go_iald (i := 2 * (b + 1)) (q := 12) d_mo_power_11 rfl (MD_c3 hm_3) (by omega) (by omega) (by omega) ?_
  refine go_if_ne (t := 19) (q := 15) d_mo_power_12 (by decide) rfl (by omega) (fun c7 => ?_) (fun c7 => ?_)
  · have c8 : ¬ V (2 * (b + 1)) = 0 := (by omega : ¬ V (2 * (b + 1)) = 0)
    exact k0 c8
  · have c9 : V (2 * (b + 1)) = 0 := (by omega : V (2 * (b + 1)) = 0)
    refine go_iconst (q := 16) d_mo_power_15 rfl ?_
    refine go_goto (q := 28) d_mo_power_16 (by decide) ?_
    exact k1 c9

set_option maxRecDepth 4000 in
theorem so_pw_28 {φ : go_F} {l : Launch} {h : mv_H} {n : Nat} {o : Nat} {I tx S ps cs bs : Nat → Int} {V : Nat → Nat} {b : Nat} {z : Int} (hV : mo_V h o (I, tx, S, ps, cs, bs) V) (hb : b < 59) (hS : ∀ i, -1 ≤ S i ∧ S i ≤ 1)
    (k0 : ¬ V (2 * (b + 1) + 1) = 1 → Go φ l m_mo_power (go_rm rd_mo_power rw_mo_power 0 0) (0, 0) 64 [some (mv_R o), some (mv_I (b : Int)), some (mv_I ((b : Int) + 1)), some (mv_I z), none, none] [] h n)
    (k1 : V (2 * (b + 1) + 1) = 1 → S (b + 1) < 0 → Go φ l m_mo_power (go_rm rd_mo_power rw_mo_power 0 0) (0, 0) 64 [some (mv_R o), some (mv_I (b : Int)), some (mv_I ((b : Int) + 1)), some (mv_I z), none, none] [] h n)
    (k2 : V (2 * (b + 1) + 1) = 1 → ¬ S (b + 1) < 0 → Go φ l m_mo_power (go_rm rd_mo_power rw_mo_power 0 0) (0, 0) 46 [some (mv_R o), some (mv_I (b : Int)), some (mv_I ((b : Int) + 1)), some (mv_I z), none, none] [] h n) :
    Go φ l m_mo_power (go_rm rd_mo_power rw_mo_power 0 0) (0, 0) 28 [some (mv_R o), some (mv_I (b : Int)), some (mv_I ((b : Int) + 1)), none, none, none] [mv_I z] h n := by
  refine go_istore_n (q := 29) (L' := [some (mv_R o), some (mv_I (b : Int)), some (mv_I ((b : Int) + 1)), some (mv_I z), none, none]) d_mo_power_28 rfl rfl (by decide) rfl ?_
  refine go_aload_n (q := 30) d_mo_power_29 rfl rfl rfl ?_
  refine go_iload_n (q := 31) d_mo_power_30 rfl rfl rfl ?_
  refine cl_isWhole (v := b + 1) (q := 34) rfl d_mo_power_31 rfl hV (by omega) (Nat.le_of_ble_eq_true rfl) ⟨by decide, by decide, by decide, by decide⟩ ?_
  rw [(show V (2 * (b + 1) + 1) = V (2 * (b + 1) + 1) from rfl)]
  refine go_if_eq (t := 64) (q := 37) d_mo_power_34 (by decide) rfl it_rng (fun c1 => ?_) (fun c1 => ?_)
  · have c2 : ¬ V (2 * (b + 1) + 1) = 1 := it_eqp c1
    exact k0 c2
  · have c3 : V (2 * (b + 1) + 1) = 1 := it_eqn c1
    refine go_aload_n (q := 38) d_mo_power_37 rfl rfl rfl ?_
    refine go_getf (v := mv_R (o + 4)) (q := 41) f_mo_23 d_mo_power_38 rfl (mv_c0 hV) rfl ?_
    refine go_iload_n (q := 42) d_mo_power_41 rfl rfl rfl ?_
    refine go_iald (i := b + 1) (q := 43) d_mo_power_42 rfl (mv_c4 hV) (by omega) (by omega) (by omega) ?_
    have q_4 := hS (b + 1)
    refine go_if_lt (t := 64) (q := 46) d_mo_power_43 (by decide) rfl (by omega) (fun c5 => ?_) (fun c5 => ?_)
    ·
      exact k1 c3 c5
    ·
      exact k2 c3 c5

set_option maxRecDepth 4000 in
theorem so_pw_64 {φ : go_F} {l : Launch} {h : mv_H} {n : Nat} {o : Nat} {I tx S ps cs bs : Nat → Int} {V : Nat → Nat} {b : Nat} {z : Int} (hV : mo_V h o (I, tx, S, ps, cs, bs) V) 
    (k0 : Go φ l m_mo_power (go_rm rd_mo_power rw_mo_power 0 0) (0, 0) 65 [some (mv_R o), some (mv_I (b : Int)), some (mv_I ((b : Int) + 1)), some (mv_I z), none, none] [mv_I 3] h n) :
    Go φ l m_mo_power (go_rm rd_mo_power rw_mo_power 0 0) (0, 0) 64 [some (mv_R o), some (mv_I (b : Int)), some (mv_I ((b : Int) + 1)), some (mv_I z), none, none] [] h n := by
  refine go_iconst (q := 65) d_mo_power_64 rfl ?_
  exact k0 

set_option maxRecDepth 4000 in
theorem so_pw_58 {φ : go_F} {l : Launch} {h : mv_H} {n : Nat} {o : Nat} {I tx S ps cs bs : Nat → Int} {V : Nat → Nat} {b t : Nat} (hV : mo_V h o (I, tx, S, ps, cs, bs) V) (hb : b < 59) (htt : t ≤ 9999)
    (k0 : (t : Int) ≤ 64 → ∀ h' : mv_H, mo_V h' o (I, tx, va_up (va_up S 73 1) 74 ((va_up S 73 1) b), ps, cs, bs) (va_up (va_up (va_up (va_up V (2 * 73) 1) (2 * 73 + 1) 1) (2 * 74) (V (2 * b))) (2 * 74 + 1) (V (2 * b + 1))) → fr_ o 8 h h' → Go φ l m_mo_power (go_rm rd_mo_power rw_mo_power 0 0) (0, 0) 86 [some (mv_R o), some (mv_I (b : Int)), some (mv_I ((b : Int) + 1)), some (mv_I (t : Int)), some (mv_I 0), some (mv_I 0)] [] h' n)
    (k1 : ¬ (t : Int) ≤ 64 → Go φ l m_mo_power (go_rm rd_mo_power rw_mo_power 0 0) (0, 0) 64 [some (mv_R o), some (mv_I (b : Int)), some (mv_I ((b : Int) + 1)), some (mv_I (t : Int)), none, none] [] h n) :
    Go φ l m_mo_power (go_rm rd_mo_power rw_mo_power 0 0) (0, 0) 58 [some (mv_R o), some (mv_I (b : Int)), some (mv_I ((b : Int) + 1)), some (mv_I (t : Int)), none, none] [] h n := by
  refine go_iload_n (q := 59) d_mo_power_58 rfl rfl rfl ?_
  refine go_bipush (q := 61) d_mo_power_59 rfl (by decide) ?_
  refine go_icmp_le (t := 66) (q := 64) d_mo_power_61 (by decide) rfl (by omega) (by omega) (fun c1 => ?_) (fun c1 => ?_)
  ·
    refine go_aload_n (q := 67) d_mo_power_66 rfl rfl rfl ?_
    refine go_bipush (q := 69) d_mo_power_67 rfl (by decide) ?_
    refine go_iconst (q := 70) d_mo_power_69 rfl ?_
    refine cl_setValue (a := 73) (v := 1) (q := 73) rfl d_mo_power_70 rfl hV (by omega) (by omega) (Nat.le_of_ble_eq_true rfl) ⟨by decide, by decide, by decide, by decide⟩ (fun h_2 hV_3 fr_4 => ?_)
    have hV_5 : mo_V h_2 o (I, tx, va_up S 73 1, ps, cs, bs) (va_up (va_up V (2 * 73) 1) (2 * 73 + 1) 1) := hV_3
    refine go_aload_n (q := 74) d_mo_power_73 rfl rfl rfl ?_
    refine go_iload_n (q := 75) d_mo_power_74 rfl rfl rfl ?_
    refine go_bipush (q := 77) d_mo_power_75 rfl (by decide) ?_
    refine cl_copyValue (a := b) (b := 74) (q := 80) rfl d_mo_power_77 rfl hV_5 (by omega) (by omega) (Nat.le_of_ble_eq_true rfl) ⟨by decide, by decide, by decide, by decide⟩ (fun h_6 hV_7 fr_8 => ?_)
    have hV_9 : mo_V h_6 o (I, tx, va_up (va_up S 73 1) 74 ((va_up S 73 1) b), ps, cs, bs) (va_up (va_up (va_up (va_up V (2 * 73) 1) (2 * 73 + 1) 1) (2 * 74) (V (2 * b))) (2 * 74 + 1) (V (2 * b + 1))) := by
      rw [(show (va_up (va_up V (2 * 73) 1) (2 * 73 + 1) 1) (2 * b) = V (2 * b) from ((va_up_ne _ _ (by omega)).trans ((va_up_ne _ _ (by omega)).trans rfl))), (show (va_up (va_up V (2 * 73) 1) (2 * 73 + 1) 1) (2 * b + 1) = V (2 * b + 1) from ((va_up_ne _ _ (by omega)).trans ((va_up_ne _ _ (by omega)).trans rfl)))] at hV_7
      exact hV_7
    refine go_iconst (q := 81) d_mo_power_80 rfl ?_
    refine go_istore (q := 83) (L' := [some (mv_R o), some (mv_I (b : Int)), some (mv_I ((b : Int) + 1)), some (mv_I (t : Int)), some (mv_I 0), none]) d_mo_power_81 rfl (by decide) rfl ?_
    refine go_iconst (q := 84) d_mo_power_83 rfl ?_
    refine go_istore (q := 86) (L' := [some (mv_R o), some (mv_I (b : Int)), some (mv_I ((b : Int) + 1)), some (mv_I (t : Int)), some (mv_I 0), some (mv_I 0)]) d_mo_power_84 rfl (by decide) rfl ?_
    exact k0 c1 _ hV_9 (fr_.tr fr_4 fr_8)
  ·
    exact k1 c1

set_option maxRecDepth 4000 in
theorem so_pw_86 {φ : go_F} {l : Launch} {h : mv_H} {n : Nat} {o : Nat} {I tx S ps cs bs : Nat → Int} {V : Nat → Nat} {b t i : Nat} {f : Int} (hV : mo_V h o (I, tx, S, ps, cs, bs) V) (hb : b < 59) (htt : t ≤ 64 ∧ i ≤ t) (hf : 0 ≤ f ∧ f ≤ 3)
    (k0 : (t : Int) ≤ (i : Int) → Go φ l m_mo_power (go_rm rd_mo_power rw_mo_power 0 0) (0, 0) 113 [some (mv_R o), some (mv_I (b : Int)), some (mv_I ((b : Int) + 1)), some (mv_I (t : Int)), some (mv_I f), some (mv_I (i : Int))] [] h n)
    (k1 : ¬ (t : Int) ≤ (i : Int) → ¬ f = 0 → Go φ l m_mo_power (go_rm rd_mo_power rw_mo_power 0 0) (0, 0) 113 [some (mv_R o), some (mv_I (b : Int)), some (mv_I ((b : Int) + 1)), some (mv_I (t : Int)), some (mv_I f), some (mv_I (i : Int))] [] h n)
    (k2 : ¬ (t : Int) ≤ (i : Int) → f = 0 → Go φ l m_mo_power (go_rm rd_mo_power rw_mo_power 0 0) (0, 0) 102 [some (mv_R o), some (mv_I (b : Int)), some (mv_I ((b : Int) + 1)), some (mv_I (t : Int)), some (mv_I f), some (mv_I (i : Int))] [mv_I 74, mv_I 73, mv_R o] h n) :
    Go φ l m_mo_power (go_rm rd_mo_power rw_mo_power 0 0) (0, 0) 86 [some (mv_R o), some (mv_I (b : Int)), some (mv_I ((b : Int) + 1)), some (mv_I (t : Int)), some (mv_I f), some (mv_I (i : Int))] [] h n := by
  refine go_iload (q := 88) d_mo_power_86 rfl rfl ?_
  refine go_iload_n (q := 89) d_mo_power_88 rfl rfl rfl ?_
  refine go_icmp_ge (t := 113) (q := 92) d_mo_power_89 (by decide) rfl (by omega) (by omega) (fun c1 => ?_) (fun c1 => ?_)
  ·
    exact k0 c1
  ·
    refine go_iload (q := 94) d_mo_power_92 rfl rfl ?_
    refine go_if_ne (t := 113) (q := 97) d_mo_power_94 (by decide) rfl (by omega) (fun c2 => ?_) (fun c2 => ?_)
    ·
      exact k1 c1 c2
    ·
      refine go_aload_n (q := 98) d_mo_power_97 rfl rfl rfl ?_
      refine go_bipush (q := 100) d_mo_power_98 rfl (by decide) ?_
      refine go_bipush (q := 102) d_mo_power_100 rfl (by decide) ?_
      exact k2 c1 c2

set_option maxRecDepth 4000 in
theorem so_pw_105 {φ : go_F} {l : Launch} {h : mv_H} {n : Nat} {o : Nat} {I tx S ps cs bs : Nat → Int} {V : Nat → Nat} {b t i : Nat} {f z : Int} (hV : mo_V h o (I, tx, S, ps, cs, bs) V) 
    (k0 : Go φ l m_mo_power (go_rm rd_mo_power rw_mo_power 0 0) (0, 0) 86 [some (mv_R o), some (mv_I (b : Int)), some (mv_I ((b : Int) + 1)), some (mv_I (t : Int)), some (mv_I z), some (mv_I ((i : Int) + 1))] [] h n) :
    Go φ l m_mo_power (go_rm rd_mo_power rw_mo_power 0 0) (0, 0) 105 [some (mv_R o), some (mv_I (b : Int)), some (mv_I ((b : Int) + 1)), some (mv_I (t : Int)), some (mv_I f), some (mv_I (i : Int))] [mv_I z] h n := by
  refine go_istore (q := 107) (L' := [some (mv_R o), some (mv_I (b : Int)), some (mv_I ((b : Int) + 1)), some (mv_I (t : Int)), some (mv_I z), some (mv_I (i : Int))]) d_mo_power_105 rfl (by decide) rfl ?_
  refine go_iinc (q := 110) (L' := [some (mv_R o), some (mv_I (b : Int)), some (mv_I ((b : Int) + 1)), some (mv_I (t : Int)), some (mv_I z), some (mv_I ((i : Int) + 1))]) d_mo_power_107 rfl (by decide) rfl rfl ?_
  refine go_goto (q := 86) d_mo_power_110 (by decide) ?_
  exact k0 

set_option maxRecDepth 4000 in
theorem so_pw_113 {φ : go_F} {l : Launch} {h : mv_H} {n : Nat} {o : Nat} {I tx S ps cs bs : Nat → Int} {V : Nat → Nat} {b t i : Nat} {f : Int} (hV : mo_V h o (I, tx, S, ps, cs, bs) V) (hb : b < 59)
    (k0 : ∀ h' : mv_H, mo_V h' o (I, tx, va_up S b (S 73), ps, cs, bs) (va_up (va_up V (2 * b) (V (2 * 73))) (2 * b + 1) (V (2 * 73 + 1))) → fr_ o 8 h h' → Go φ l m_mo_power (go_rm rd_mo_power rw_mo_power 0 0) (0, 0) 122 [some (mv_R o), some (mv_I (b : Int)), some (mv_I ((b : Int) + 1)), some (mv_I (t : Int)), some (mv_I f), some (mv_I (i : Int))] [mv_I f] h' n) :
    Go φ l m_mo_power (go_rm rd_mo_power rw_mo_power 0 0) (0, 0) 113 [some (mv_R o), some (mv_I (b : Int)), some (mv_I ((b : Int) + 1)), some (mv_I (t : Int)), some (mv_I f), some (mv_I (i : Int))] [] h n := by
  refine go_aload_n (q := 114) d_mo_power_113 rfl rfl rfl ?_
  refine go_bipush (q := 116) d_mo_power_114 rfl (by decide) ?_
  refine go_iload_n (q := 117) d_mo_power_116 rfl rfl rfl ?_
  refine cl_copyValue (a := 73) (b := b) (q := 120) rfl d_mo_power_117 rfl hV (by omega) (by omega) (Nat.le_of_ble_eq_true rfl) ⟨by decide, by decide, by decide, by decide⟩ (fun h_1 hV_2 fr_3 => ?_)
  have hV_4 : mo_V h_1 o (I, tx, va_up S b (S 73), ps, cs, bs) (va_up (va_up V (2 * b) (V (2 * 73))) (2 * b + 1) (V (2 * 73 + 1))) := by
    rw [(show V (2 * 73) = V (2 * 73) from rfl), (show V (2 * 73 + 1) = V (2 * 73 + 1) from rfl)] at hV_2
    exact hV_2
  refine go_iload (q := 122) d_mo_power_120 rfl rfl ?_
  exact k0  _ hV_4 fr_3

