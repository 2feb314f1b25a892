set_option maxRecDepth 4000 in
theorem sm_most {φ : go_F} {l : Launch} {R : Room} {u : Nat × Nat} {h : mv_H} {n : Nat} {c : Int}  (hc : 0 ≤ c ∧ c ≤ 127)
    (k0 : c = 43 → Go φ l m_mo_most R u 40 [some (mv_I c)] [mv_I 200] h n)
    (k1 : ¬ c = 43 → c = 42 → Go φ l m_mo_most R u 40 [some (mv_I c)] [mv_I 200] h n)
    (k2 : ¬ c = 43 → ¬ c = 42 → c = 103 → Go φ l m_mo_most R u 40 [some (mv_I c)] [mv_I 200] h n)
    (k3 : ¬ c = 43 → ¬ c = 42 → ¬ c = 103 → c = 45 → Go φ l m_mo_most R u 40 [some (mv_I c)] [mv_I 200] h n)
    (k4 : ¬ c = 43 → ¬ c = 42 → ¬ c = 103 → ¬ c = 45 → ¬ c = 47 → Go φ l m_mo_most R u 37 [some (mv_I c)] [mv_I c] h n)
    (k5 : ¬ c = 43 → ¬ c = 42 → ¬ c = 103 → ¬ c = 45 → c = 47 → Go φ l m_mo_most R u 40 [some (mv_I c)] [mv_I 200] h n) :
    Go φ l m_mo_most R u 0 [some (mv_I c)] [] h n := by
  refine go_iload_n (q := 1) d_mo_most_0 rfl rfl rfl ?_
  refine go_bipush (q := 3) d_mo_most_1 rfl (by decide) ?_
  refine go_icmp_eq (t := 30) (q := 6) d_mo_most_3 (by decide) rfl (by omega) (by omega) (fun c1 => ?_) (fun c1 => ?_)
  ·
    refine go_sipush (q := 33) d_mo_most_30 rfl (by decide) ?_
    refine go_goto (q := 40) d_mo_most_33 (by decide) ?_
    exact k0 c1
  ·
    refine go_iload_n (q := 7) d_mo_most_6 rfl rfl rfl ?_
    refine go_bipush (q := 9) d_mo_most_7 rfl (by decide) ?_
    refine go_icmp_eq (t := 30) (q := 12) d_mo_most_9 (by decide) rfl (by omega) (by omega) (fun c2 => ?_) (fun c2 => ?_)
    ·
      refine go_sipush (q := 33) d_mo_most_30 rfl (by decide) ?_
      refine go_goto (q := 40) d_mo_most_33 (by decide) ?_
      exact k1 c1 c2
    ·
      refine go_iload_n (q := 13) d_mo_most_12 rfl rfl rfl ?_
      refine go_bipush (q := 15) d_mo_most_13 rfl (by decide) ?_
      refine go_icmp_eq (t := 30) (q := 18) d_mo_most_15 (by decide) rfl (by omega) (by omega) (fun c3 => ?_) (fun c3 => ?_)
      ·
        refine go_sipush (q := 33) d_mo_most_30 rfl (by decide) ?_
        refine go_goto (q := 40) d_mo_most_33 (by decide) ?_
        exact k2 c1 c2 c3
      ·
        refine go_iload_n (q := 19) d_mo_most_18 rfl rfl rfl ?_
        refine go_bipush (q := 21) d_mo_most_19 rfl (by decide) ?_
        refine go_icmp_eq (t := 30) (q := 24) d_mo_most_21 (by decide) rfl (by omega) (by omega) (fun c4 => ?_) (fun c4 => ?_)
        ·
          refine go_sipush (q := 33) d_mo_most_30 rfl (by decide) ?_
          refine go_goto (q := 40) d_mo_most_33 (by decide) ?_
          exact k3 c1 c2 c3 c4
        ·
          refine go_iload_n (q := 25) d_mo_most_24 rfl rfl rfl ?_
          refine go_bipush (q := 27) d_mo_most_25 rfl (by decide) ?_
          refine go_icmp_ne (t := 36) (q := 30) d_mo_most_27 (by decide) rfl (by omega) (by omega) (fun c5 => ?_) (fun c5 => ?_)
          ·
            refine go_iload_n (q := 37) d_mo_most_36 rfl rfl rfl ?_
            exact k4 c1 c2 c3 c4 c5
          ·
            refine go_sipush (q := 33) d_mo_most_30 rfl (by decide) ?_
            refine go_goto (q := 40) d_mo_most_33 (by decide) ?_
            exact k5 c1 c2 c3 c4 c5

set_option maxRecDepth 4000 in
theorem sm_isOp {φ : go_F} {l : Launch} {R : Room} {u : Nat × Nat} {h : mv_H} {n : Nat} {c : Int}  (hc : 0 ≤ c ∧ c ≤ 127)
    (k0 : c = 43 → Go φ l m_mo_isOp R u 93 [some (mv_I c), some (mv_I 1)] [mv_I 1] h n)
    (k1 : ¬ c = 43 → c = 45 → Go φ l m_mo_isOp R u 93 [some (mv_I c), some (mv_I 1)] [mv_I 1] h n)
    (k2 : ¬ c = 43 → ¬ c = 45 → c = 42 → Go φ l m_mo_isOp R u 93 [some (mv_I c), some (mv_I 1)] [mv_I 1] h n)
    (k3 : ¬ c = 43 → ¬ c = 45 → ¬ c = 42 → c = 47 → Go φ l m_mo_isOp R u 93 [some (mv_I c), some (mv_I 1)] [mv_I 1] h n)
    (k4 : ¬ c = 43 → ¬ c = 45 → ¬ c = 42 → ¬ c = 47 → c = 113 → Go φ l m_mo_isOp R u 93 [some (mv_I c), some (mv_I 1)] [mv_I 1] h n)
    (k5 : ¬ c = 43 → ¬ c = 45 → ¬ c = 42 → ¬ c = 47 → ¬ c = 113 → c = 114 → Go φ l m_mo_isOp R u 93 [some (mv_I c), some (mv_I 1)] [mv_I 1] h n)
    (k6 : ¬ c = 43 → ¬ c = 45 → ¬ c = 42 → ¬ c = 47 → ¬ c = 113 → ¬ c = 114 → ¬ c = 103 → c = 94 → Go φ l m_mo_isOp R u 93 [some (mv_I c), some (mv_I 0)] [mv_I 1] h n)
    (k7 : ¬ c = 43 → ¬ c = 45 → ¬ c = 42 → ¬ c = 47 → ¬ c = 113 → ¬ c = 114 → ¬ c = 103 → ¬ c = 94 → c = 110 → Go φ l m_mo_isOp R u 93 [some (mv_I c), some (mv_I 0)] [mv_I 1] h n)
    (k8 : ¬ c = 43 → ¬ c = 45 → ¬ c = 42 → ¬ c = 47 → ¬ c = 113 → ¬ c = 114 → ¬ c = 103 → ¬ c = 94 → ¬ c = 110 → c = 100 → Go φ l m_mo_isOp R u 93 [some (mv_I c), some (mv_I 0)] [mv_I 1] h n)
    (k9 : ¬ c = 43 → ¬ c = 45 → ¬ c = 42 → ¬ c = 47 → ¬ c = 113 → ¬ c = 114 → ¬ c = 103 → ¬ c = 94 → ¬ c = 110 → ¬ c = 100 → c = 60 → Go φ l m_mo_isOp R u 93 [some (mv_I c), some (mv_I 0)] [mv_I 1] h n)
    (k10 : ¬ c = 43 → ¬ c = 45 → ¬ c = 42 → ¬ c = 47 → ¬ c = 113 → ¬ c = 114 → ¬ c = 103 → ¬ c = 94 → ¬ c = 110 → ¬ c = 100 → ¬ c = 60 → c = 61 → Go φ l m_mo_isOp R u 93 [some (mv_I c), some (mv_I 0)] [mv_I 1] h n)
    (k11 : ¬ c = 43 → ¬ c = 45 → ¬ c = 42 → ¬ c = 47 → ¬ c = 113 → ¬ c = 114 → ¬ c = 103 → ¬ c = 94 → ¬ c = 110 → ¬ c = 100 → ¬ c = 60 → ¬ c = 61 → ¬ c = 63 → Go φ l m_mo_isOp R u 93 [some (mv_I c), some (mv_I 0)] [mv_I 0] h n)
    (k12 : ¬ c = 43 → ¬ c = 45 → ¬ c = 42 → ¬ c = 47 → ¬ c = 113 → ¬ c = 114 → ¬ c = 103 → ¬ c = 94 → ¬ c = 110 → ¬ c = 100 → ¬ c = 60 → ¬ c = 61 → c = 63 → Go φ l m_mo_isOp R u 93 [some (mv_I c), some (mv_I 0)] [mv_I 1] h n)
    (k13 : ¬ c = 43 → ¬ c = 45 → ¬ c = 42 → ¬ c = 47 → ¬ c = 113 → ¬ c = 114 → c = 103 → Go φ l m_mo_isOp R u 93 [some (mv_I c), some (mv_I 1)] [mv_I 1] h n) :
    Go φ l m_mo_isOp R u 0 [some (mv_I c), none] [] h n := by
  refine go_iload_n (q := 1) d_mo_isOp_0 rfl rfl rfl ?_
  refine go_bipush (q := 3) d_mo_isOp_1 rfl (by decide) ?_
  refine go_icmp_eq (t := 42) (q := 6) d_mo_isOp_3 (by decide) rfl (by omega) (by omega) (fun c1 => ?_) (fun c1 => ?_)
  ·
    refine go_iconst (q := 43) d_mo_isOp_42 rfl ?_
    refine go_goto (q := 47) d_mo_isOp_43 (by decide) ?_
    refine go_istore_n (q := 48) (L' := [some (mv_I c), some (mv_I 1)]) d_mo_isOp_47 rfl rfl (by decide) rfl ?_
    refine go_iload_n (q := 49) d_mo_isOp_48 rfl rfl rfl ?_
    refine go_if_ne (t := 88) (q := 52) d_mo_isOp_49 (by decide) rfl (by omega) (fun c2 => ?_) (fun c2 => ?_)
    ·
      refine go_iconst (q := 89) d_mo_isOp_88 rfl ?_
      refine go_goto (q := 93) d_mo_isOp_89 (by decide) ?_
      exact k0 c1
    ·
      exfalso; omega
  ·
    refine go_iload_n (q := 7) d_mo_isOp_6 rfl rfl rfl ?_
    refine go_bipush (q := 9) d_mo_isOp_7 rfl (by decide) ?_
    refine go_icmp_eq (t := 42) (q := 12) d_mo_isOp_9 (by decide) rfl (by omega) (by omega) (fun c3 => ?_) (fun c3 => ?_)
    ·
      refine go_iconst (q := 43) d_mo_isOp_42 rfl ?_
      refine go_goto (q := 47) d_mo_isOp_43 (by decide) ?_
      refine go_istore_n (q := 48) (L' := [some (mv_I c), some (mv_I 1)]) d_mo_isOp_47 rfl rfl (by decide) rfl ?_
      refine go_iload_n (q := 49) d_mo_isOp_48 rfl rfl rfl ?_
      refine go_if_ne (t := 88) (q := 52) d_mo_isOp_49 (by decide) rfl (by omega) (fun c4 => ?_) (fun c4 => ?_)
      ·
        refine go_iconst (q := 89) d_mo_isOp_88 rfl ?_
        refine go_goto (q := 93) d_mo_isOp_89 (by decide) ?_
        exact k1 c1 c3
      ·
        exfalso; omega
    ·
      refine go_iload_n (q := 13) d_mo_isOp_12 rfl rfl rfl ?_
      refine go_bipush (q := 15) d_mo_isOp_13 rfl (by decide) ?_
      refine go_icmp_eq (t := 42) (q := 18) d_mo_isOp_15 (by decide) rfl (by omega) (by omega) (fun c5 => ?_) (fun c5 => ?_)
      ·
        refine go_iconst (q := 43) d_mo_isOp_42 rfl ?_
        refine go_goto (q := 47) d_mo_isOp_43 (by decide) ?_
        refine go_istore_n (q := 48) (L' := [some (mv_I c), some (mv_I 1)]) d_mo_isOp_47 rfl rfl (by decide) rfl ?_
        refine go_iload_n (q := 49) d_mo_isOp_48 rfl rfl rfl ?_
        refine go_if_ne (t := 88) (q := 52) d_mo_isOp_49 (by decide) rfl (by omega) (fun c6 => ?_) (fun c6 => ?_)
        ·
          refine go_iconst (q := 89) d_mo_isOp_88 rfl ?_
          refine go_goto (q := 93) d_mo_isOp_89 (by decide) ?_
          exact k2 c1 c3 c5
        ·
          exfalso; omega
      ·
        refine go_iload_n (q := 19) d_mo_isOp_18 rfl rfl rfl ?_
        refine go_bipush (q := 21) d_mo_isOp_19 rfl (by decide) ?_
        refine go_icmp_eq (t := 42) (q := 24) d_mo_isOp_21 (by decide) rfl (by omega) (by omega) (fun c7 => ?_) (fun c7 => ?_)
        ·
          refine go_iconst (q := 43) d_mo_isOp_42 rfl ?_
          refine go_goto (q := 47) d_mo_isOp_43 (by decide) ?_
          refine go_istore_n (q := 48) (L' := [some (mv_I c), some (mv_I 1)]) d_mo_isOp_47 rfl rfl (by decide) rfl ?_
          refine go_iload_n (q := 49) d_mo_isOp_48 rfl rfl rfl ?_
          refine go_if_ne (t := 88) (q := 52) d_mo_isOp_49 (by decide) rfl (by omega) (fun c8 => ?_) (fun c8 => ?_)
          ·
            refine go_iconst (q := 89) d_mo_isOp_88 rfl ?_
            refine go_goto (q := 93) d_mo_isOp_89 (by decide) ?_
            exact k3 c1 c3 c5 c7
          ·
            exfalso; omega
        ·
          refine go_iload_n (q := 25) d_mo_isOp_24 rfl rfl rfl ?_
          refine go_bipush (q := 27) d_mo_isOp_25 rfl (by decide) ?_
          refine go_icmp_eq (t := 42) (q := 30) d_mo_isOp_27 (by decide) rfl (by omega) (by omega) (fun c9 => ?_) (fun c9 => ?_)
          ·
            refine go_iconst (q := 43) d_mo_isOp_42 rfl ?_
            refine go_goto (q := 47) d_mo_isOp_43 (by decide) ?_
            refine go_istore_n (q := 48) (L' := [some (mv_I c), some (mv_I 1)]) d_mo_isOp_47 rfl rfl (by decide) rfl ?_
            refine go_iload_n (q := 49) d_mo_isOp_48 rfl rfl rfl ?_
            refine go_if_ne (t := 88) (q := 52) d_mo_isOp_49 (by decide) rfl (by omega) (fun c10 => ?_) (fun c10 => ?_)
            ·
              refine go_iconst (q := 89) d_mo_isOp_88 rfl ?_
              refine go_goto (q := 93) d_mo_isOp_89 (by decide) ?_
              exact k4 c1 c3 c5 c7 c9
            ·
              exfalso; omega
          ·
            refine go_iload_n (q := 31) d_mo_isOp_30 rfl rfl rfl ?_
            refine go_bipush (q := 33) d_mo_isOp_31 rfl (by decide) ?_
            refine go_icmp_eq (t := 42) (q := 36) d_mo_isOp_33 (by decide) rfl (by omega) (by omega) (fun c11 => ?_) (fun c11 => ?_)
            ·
              refine go_iconst (q := 43) d_mo_isOp_42 rfl ?_
              refine go_goto (q := 47) d_mo_isOp_43 (by decide) ?_
              refine go_istore_n (q := 48) (L' := [some (mv_I c), some (mv_I 1)]) d_mo_isOp_47 rfl rfl (by decide) rfl ?_
              refine go_iload_n (q := 49) d_mo_isOp_48 rfl rfl rfl ?_
              refine go_if_ne (t := 88) (q := 52) d_mo_isOp_49 (by decide) rfl (by omega) (fun c12 => ?_) (fun c12 => ?_)
              ·
                refine go_iconst (q := 89) d_mo_isOp_88 rfl ?_
                refine go_goto (q := 93) d_mo_isOp_89 (by decide) ?_
                exact k5 c1 c3 c5 c7 c9 c11
              ·
                exfalso; omega
            ·
              refine go_iload_n (q := 37) d_mo_isOp_36 rfl rfl rfl ?_
              refine go_bipush (q := 39) d_mo_isOp_37 rfl (by decide) ?_
              refine go_icmp_ne (t := 46) (q := 42) d_mo_isOp_39 (by decide) rfl (by omega) (by omega) (fun c13 => ?_) (fun c13 => ?_)
              ·
                refine go_iconst (q := 47) d_mo_isOp_46 rfl ?_
                refine go_istore_n (q := 48) (L' := [some (mv_I c), some (mv_I 0)]) d_mo_isOp_47 rfl rfl (by decide) rfl ?_
                refine go_iload_n (q := 49) d_mo_isOp_48 rfl rfl rfl ?_
                refine go_if_ne (t := 88) (q := 52) d_mo_isOp_49 (by decide) rfl (by omega) (fun c14 => ?_) (fun c14 => ?_)
                ·
                  exfalso; omega
                ·
                  refine go_iload_n (q := 53) d_mo_isOp_52 rfl rfl rfl ?_
                  refine go_bipush (q := 55) d_mo_isOp_53 rfl (by decide) ?_
                  refine go_icmp_eq (t := 88) (q := 58) d_mo_isOp_55 (by decide) rfl (by omega) (by omega) (fun c15 => ?_) (fun c15 => ?_)
                  ·
                    refine go_iconst (q := 89) d_mo_isOp_88 rfl ?_
                    refine go_goto (q := 93) d_mo_isOp_89 (by decide) ?_
                    exact k6 c1 c3 c5 c7 c9 c11 c13 c15
                  ·
                    refine go_iload_n (q := 59) d_mo_isOp_58 rfl rfl rfl ?_
                    refine go_bipush (q := 61) d_mo_isOp_59 rfl (by decide) ?_
                    refine go_icmp_eq (t := 88) (q := 64) d_mo_isOp_61 (by decide) rfl (by omega) (by omega) (fun c16 => ?_) (fun c16 => ?_)
                    ·
                      refine go_iconst (q := 89) d_mo_isOp_88 rfl ?_
                      refine go_goto (q := 93) d_mo_isOp_89 (by decide) ?_
                      exact k7 c1 c3 c5 c7 c9 c11 c13 c15 c16
                    ·
                      refine go_iload_n (q := 65) d_mo_isOp_64 rfl rfl rfl ?_
                      refine go_bipush (q := 67) d_mo_isOp_65 rfl (by decide) ?_
                      refine go_icmp_eq (t := 88) (q := 70) d_mo_isOp_67 (by decide) rfl (by omega) (by omega) (fun c17 => ?_) (fun c17 => ?_)
                      ·
                        refine go_iconst (q := 89) d_mo_isOp_88 rfl ?_
                        refine go_goto (q := 93) d_mo_isOp_89 (by decide) ?_
                        exact k8 c1 c3 c5 c7 c9 c11 c13 c15 c16 c17
                      ·
                        refine go_iload_n (q := 71) d_mo_isOp_70 rfl rfl rfl ?_
                        refine go_bipush (q := 73) d_mo_isOp_71 rfl (by decide) ?_
                        refine go_icmp_eq (t := 88) (q := 76) d_mo_isOp_73 (by decide) rfl (by omega) (by omega) (fun c18 => ?_) (fun c18 => ?_)
                        ·
                          refine go_iconst (q := 89) d_mo_isOp_88 rfl ?_
                          refine go_goto (q := 93) d_mo_isOp_89 (by decide) ?_
                          exact k9 c1 c3 c5 c7 c9 c11 c13 c15 c16 c17 c18
                        ·
                          refine go_iload_n (q := 77) d_mo_isOp_76 rfl rfl rfl ?_
                          refine go_bipush (q := 79) d_mo_isOp_77 rfl (by decide) ?_
                          refine go_icmp_eq (t := 88) (q := 82) d_mo_isOp_79 (by decide) rfl (by omega) (by omega) (fun c19 => ?_) (fun c19 => ?_)
                          ·
                            refine go_iconst (q := 89) d_mo_isOp_88 rfl ?_
                            refine go_goto (q := 93) d_mo_isOp_89 (by decide) ?_
                            exact k10 c1 c3 c5 c7 c9 c11 c13 c15 c16 c17 c18 c19
                          ·
                            refine go_iload_n (q := 83) d_mo_isOp_82 rfl rfl rfl ?_
                            refine go_bipush (q := 85) d_mo_isOp_83 rfl (by decide) ?_
                            refine go_icmp_ne (t := 92) (q := 88) d_mo_isOp_85 (by decide) rfl (by omega) (by omega) (fun c20 => ?_) (fun c20 => ?_)
                            ·
                              refine go_iconst (q := 93) d_mo_isOp_92 rfl ?_
                              exact k11 c1 c3 c5 c7 c9 c11 c13 c15 c16 c17 c18 c19 c20
                            ·
                              refine go_iconst (q := 89) d_mo_isOp_88 rfl ?_
                              refine go_goto (q := 93) d_mo_isOp_89 (by decide) ?_
                              exact k12 c1 c3 c5 c7 c9 c11 c13 c15 c16 c17 c18 c19 c20
              ·
                refine go_iconst (q := 43) d_mo_isOp_42 rfl ?_
                refine go_goto (q := 47) d_mo_isOp_43 (by decide) ?_
                refine go_istore_n (q := 48) (L' := [some (mv_I c), some (mv_I 1)]) d_mo_isOp_47 rfl rfl (by decide) rfl ?_
                refine go_iload_n (q := 49) d_mo_isOp_48 rfl rfl rfl ?_
                refine go_if_ne (t := 88) (q := 52) d_mo_isOp_49 (by decide) rfl (by omega) (fun c21 => ?_) (fun c21 => ?_)
                ·
                  refine go_iconst (q := 89) d_mo_isOp_88 rfl ?_
                  refine go_goto (q := 93) d_mo_isOp_89 (by decide) ?_
                  exact k13 c1 c3 c5 c7 c9 c11 c13
                ·
                  exfalso; omega

set_option maxRecDepth 4000 in
theorem sm_isVar {φ : go_F} {l : Launch} {R : Room} {u : Nat × Nat} {h : mv_H} {n : Nat} {v : Int}  (hv : -2147483648 ≤ v ∧ v ≤ 2147483647)
    (k0 : v < 0 → Go φ l m_mo_isVariable R u 15 [some (mv_I v)] [mv_I 0] h n)
    (k1 : ¬ v < 0 → 8 ≤ v → Go φ l m_mo_isVariable R u 15 [some (mv_I v)] [mv_I 0] h n)
    (k2 : ¬ v < 0 → ¬ 8 ≤ v → Go φ l m_mo_isVariable R u 15 [some (mv_I v)] [mv_I 1] h n) :
    Go φ l m_mo_isVariable R u 0 [some (mv_I v)] [] h n := by
  refine go_iload_n (q := 1) d_mo_isVariable_0 rfl rfl rfl ?_
  refine go_if_lt (t := 14) (q := 4) d_mo_isVariable_1 (by decide) rfl (by omega) (fun c1 => ?_) (fun c1 => ?_)
  ·
    refine go_iconst (q := 15) d_mo_isVariable_14 rfl ?_
    exact k0 c1
  ·
    refine go_iload_n (q := 5) d_mo_isVariable_4 rfl rfl rfl ?_
    refine go_bipush (q := 7) d_mo_isVariable_5 rfl (by decide) ?_
    refine go_icmp_ge (t := 14) (q := 10) d_mo_isVariable_7 (by decide) rfl (by omega) (by omega) (fun c2 => ?_) (fun c2 => ?_)
    ·
      refine go_iconst (q := 15) d_mo_isVariable_14 rfl ?_
      exact k1 c1 c2
    ·
      refine go_iconst (q := 11) d_mo_isVariable_10 rfl ?_
      refine go_goto (q := 15) d_mo_isVariable_11 (by decide) ?_
      exact k2 c1 c2

