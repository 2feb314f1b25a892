set_option maxRecDepth 4000 in
theorem sg_isDigit {φ : go_F} {l : Launch} {R : Room} {u : Nat × Nat} {h : mv_H} {n : Nat} {c : Int}  (hc : 0 ≤ c ∧ c ≤ 127)
    (k0 : c < 48 → Go φ l m_pn_isDigit R u 17 [some (mv_I c)] [mv_I 0] h n)
    (k1 : ¬ c < 48 → 57 < c → Go φ l m_pn_isDigit R u 17 [some (mv_I c)] [mv_I 0] h n)
    (k2 : ¬ c < 48 → ¬ 57 < c → Go φ l m_pn_isDigit R u 17 [some (mv_I c)] [mv_I 1] h n) :
    Go φ l m_pn_isDigit R u 0 [some (mv_I c)] [] h n := by
  refine go_iload_n (q := 1) d_pn_isDigit_0 rfl rfl rfl ?_
  refine go_bipush (q := 3) d_pn_isDigit_1 rfl (by decide) ?_
  refine go_icmp_lt (t := 16) (q := 6) d_pn_isDigit_3 (by decide) rfl (by omega) (by omega) (fun c1 => ?_) (fun c1 => ?_)
  ·
    refine go_iconst (q := 17) d_pn_isDigit_16 rfl ?_
    exact k0 c1
  ·
    refine go_iload_n (q := 7) d_pn_isDigit_6 rfl rfl rfl ?_
    refine go_bipush (q := 9) d_pn_isDigit_7 rfl (by decide) ?_
    refine go_icmp_gt (t := 16) (q := 12) d_pn_isDigit_9 (by decide) rfl (by omega) (by omega) (fun c2 => ?_) (fun c2 => ?_)
    ·
      refine go_iconst (q := 17) d_pn_isDigit_16 rfl ?_
      exact k1 c1 c2
    ·
      refine go_iconst (q := 13) d_pn_isDigit_12 rfl ?_
      refine go_goto (q := 17) d_pn_isDigit_13 (by decide) ?_
      exact k2 c1 c2

set_option maxRecDepth 4000 in
theorem sg_isVar {φ : go_F} {l : Launch} {R : Room} {u : Nat × Nat} {h : mv_H} {n : Nat} {c : Int}  (hc : 0 ≤ c ∧ c ≤ 127)
    (k0 : c < 97 → Go φ l m_pn_isVariable R u 17 [some (mv_I c)] [mv_I 0] h n)
    (k1 : ¬ c < 97 → 105 ≤ c → Go φ l m_pn_isVariable R u 17 [some (mv_I c)] [mv_I 0] h n)
    (k2 : ¬ c < 97 → ¬ 105 ≤ c → Go φ l m_pn_isVariable R u 17 [some (mv_I c)] [mv_I 1] h n) :
    Go φ l m_pn_isVariable R u 0 [some (mv_I c)] [] h n := by
  refine go_iload_n (q := 1) d_pn_isVariable_0 rfl rfl rfl ?_
  refine go_bipush (q := 3) d_pn_isVariable_1 rfl (by decide) ?_
  refine go_icmp_lt (t := 16) (q := 6) d_pn_isVariable_3 (by decide) rfl (by omega) (by omega) (fun c1 => ?_) (fun c1 => ?_)
  ·
    refine go_iconst (q := 17) d_pn_isVariable_16 rfl ?_
    exact k0 c1
  ·
    refine go_iload_n (q := 7) d_pn_isVariable_6 rfl rfl rfl ?_
    refine go_bipush (q := 9) d_pn_isVariable_7 rfl (by decide) ?_
    refine go_icmp_ge (t := 16) (q := 12) d_pn_isVariable_9 (by decide) rfl (by omega) (by omega) (fun c2 => ?_) (fun c2 => ?_)
    ·
      refine go_iconst (q := 17) d_pn_isVariable_16 rfl ?_
      exact k1 c1 c2
    ·
      refine go_iconst (q := 13) d_pn_isVariable_12 rfl ?_
      refine go_goto (q := 17) d_pn_isVariable_13 (by decide) ?_
      exact k2 c1 c2

