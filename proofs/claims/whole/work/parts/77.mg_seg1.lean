set_option maxRecDepth 4000 in
theorem sm_charAt {φ : go_F} {l : Launch} {h : mv_H} {n : Nat} {o : Nat} {I tx S ps cs bs : Nat → Int} {V : Nat → Nat} {p len : Nat} (hV : mo_V h o (I, tx, S, ps, cs, bs) V) (hL : I 1 = (len : Int)) (hl : len ≤ 120) (hp : p < 2000)
    (k0 : I 1 ≤ (p : Int) → Go φ l m_mo_charAt (go_rm rd_mo_charAt rw_mo_charAt 0 0) (0, 0) 18 [some (mv_R o), some (mv_I (p : Int))] [mv_I 0] h n)
    (k1 : ¬ I 1 ≤ (p : Int) → Go φ l m_mo_charAt (go_rm rd_mo_charAt rw_mo_charAt 0 0) (0, 0) 18 [some (mv_R o), some (mv_I (p : Int))] [mv_I (tx p)] h n) :
    Go φ l m_mo_charAt (go_rm rd_mo_charAt rw_mo_charAt 0 0) (0, 0) 0 [some (mv_R o), some (mv_I (p : Int))] [] h n := by
  refine go_iload_n (q := 1) d_mo_charAt_0 rfl rfl rfl ?_
  refine go_aload_n (q := 2) d_mo_charAt_1 rfl rfl rfl ?_
  refine go_getf (v := mv_I (I 1)) (q := 5) f_mo_93 d_mo_charAt_2 rfl (mv_c0 hV) rfl ?_
  refine go_icmp_ge (t := 17) (q := 8) d_mo_charAt_5 (by decide) rfl (by omega) (by omega) (fun c1 => ?_) (fun c1 => ?_)
  ·
    refine go_iconst (q := 18) d_mo_charAt_17 rfl ?_
    exact k0 c1
  ·
    refine go_aload_n (q := 9) d_mo_charAt_8 rfl rfl rfl ?_
    refine go_getf (v := mv_R (o + 1)) (q := 12) f_mo_7 d_mo_charAt_9 rfl (mv_c0 hV) rfl ?_
    refine go_iload_n (q := 13) d_mo_charAt_12 rfl rfl rfl ?_
    refine go_iald (i := p) (q := 14) d_mo_charAt_13 rfl (mv_c1 hV) (by omega) (by omega) (by omega) ?_
    refine go_goto (q := 18) d_mo_charAt_14 (by decide) ?_
    exact k1 c1

