set_option maxRecDepth 4000 in
theorem sp_chr {φ : go_F} {l : Launch} {R : Room} {u : Nat × Nat} {h : mv_H} {n : Nat} {z : Int} {i : Nat}  (hi : i < 8)
    (k0 : Go φ l m_pn_characterOf R u 11 [some (mv_L z), none, some (mv_I (i : Int))] [mv_I (((z % 18446744073709551616) / ((2 ^ (8 * i) : Nat) : Int)) % 256)] h n) :
    Go φ l m_pn_characterOf R u 0 [some (mv_L z), none, some (mv_I (i : Int))] [] h n := by
  refine go_lload_n (q := 1) d_pn_characterOf_0 rfl rfl rfl ?_
  refine go_bipush (q := 3) d_pn_characterOf_1 rfl (by decide) ?_
  refine go_iload_n (q := 4) d_pn_characterOf_3 rfl rfl rfl ?_
  refine go_imul (q := 5) d_pn_characterOf_4 rfl ?_
  refine go_lushr (z := (z % 18446744073709551616) / ((2 ^ (8 * i) : Nat) : Int)) (q := 6) d_pn_characterOf_5 rfl (gn_ushrZ (8 * i) (by omega) (by omega) rfl) ?_
  refine go_l2i (q := 7) d_pn_characterOf_6 rfl ?_
  refine go_sipush (q := 10) d_pn_characterOf_7 rfl (by decide) ?_
  refine go_iand (z := ((z % 18446744073709551616) / ((2 ^ (8 * i) : Nat) : Int)) % 256) (q := 11) d_pn_characterOf_10 rfl (gn_mask 8 (by decide) (by decide) (by decide)) ?_
  exact k0 

