set_option maxRecDepth 4000 in
theorem so_isDigit {φ : go_F} {l : Launch} {h : mv_H} {n : Nat} {o : Nat} {I tx S ps cs bs : Nat → Int} {V : Nat → Nat} {p len : Nat} (hV : mo_V h o (I, tx, S, ps, cs, bs) V) (hL : I 1 = (len : Int)) (hl : len ≤ 120) (hp : p < 2000) (ht : ∀ i, 0 ≤ tx i ∧ tx i ≤ 127)
    (k0 : ch_ tx len p < 48 → Go φ l m_mo_isDigit (go_rm rd_mo_isDigit rw_mo_isDigit 0 0) (0, 0) 25 [some (mv_R o), some (mv_I (p : Int))] [mv_I 0] h n)
    (k1 : ¬ ch_ tx len p < 48 → 57 < ch_ tx len p → Go φ l m_mo_isDigit (go_rm rd_mo_isDigit rw_mo_isDigit 0 0) (0, 0) 25 [some (mv_R o), some (mv_I (p : Int))] [mv_I 0] h n)
    (k2 : ¬ ch_ tx len p < 48 → ¬ 57 < ch_ tx len p → Go φ l m_mo_isDigit (go_rm rd_mo_isDigit rw_mo_isDigit 0 0) (0, 0) 25 [some (mv_R o), some (mv_I (p : Int))] [mv_I 1] h n) :
    Go φ l m_mo_isDigit (go_rm rd_mo_isDigit rw_mo_isDigit 0 0) (0, 0) 0 [some (mv_R o), some (mv_I (p : Int))] [] h n := by
  refine go_aload_n (q := 1) d_mo_isDigit_0 rfl rfl rfl ?_
  refine go_iload_n (q := 2) d_mo_isDigit_1 rfl rfl rfl ?_
  refine cl_charAt (p := p) (len := len) (q := 5) rfl d_mo_isDigit_2 rfl hV (show I 1 = (len : Int) from hL) (by omega) (by omega) (by omega) (Nat.le_of_ble_eq_true rfl) ⟨by decide, by decide, by decide, by decide⟩ ?_
  have q_1 := ch_b ht len p
  refine go_bipush (q := 7) d_mo_isDigit_5 rfl (by decide) ?_
  refine go_icmp_lt (t := 24) (q := 10) d_mo_isDigit_7 (by decide) rfl (by omega) (by omega) (fun c2 => ?_) (fun c2 => ?_)
  ·
    refine go_iconst (q := 25) d_mo_isDigit_24 rfl ?_
    exact k0 c2
  ·
    refine go_aload_n (q := 11) d_mo_isDigit_10 rfl rfl rfl ?_
    refine go_iload_n (q := 12) d_mo_isDigit_11 rfl rfl rfl ?_
    refine cl_charAt (p := p) (len := len) (q := 15) rfl d_mo_isDigit_12 rfl hV (show I 1 = (len : Int) from hL) (by omega) (by omega) (by omega) (Nat.le_of_ble_eq_true rfl) ⟨by decide, by decide, by decide, by decide⟩ ?_
    have q_3 := ch_b ht len p
    refine go_bipush (q := 17) d_mo_isDigit_15 rfl (by decide) ?_
    refine go_icmp_gt (t := 24) (q := 20) d_mo_isDigit_17 (by decide) rfl (by omega) (by omega) (fun c4 => ?_) (fun c4 => ?_)
    ·
      refine go_iconst (q := 25) d_mo_isDigit_24 rfl ?_
      exact k1 c2 c4
    ·
      refine go_iconst (q := 21) d_mo_isDigit_20 rfl ?_
      refine go_goto (q := 25) d_mo_isDigit_21 (by decide) ?_
      exact k2 c2 c4

