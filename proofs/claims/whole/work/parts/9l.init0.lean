/-! constructors: new objects -/
section InitNew
variable {φ : go_F} {l : Launch} {M : go_M} {R : Room} {u : Nat × Nat} {pc q : Nat} {L : List (Option mv_V)} {st : List mv_V} {h : mv_H} {n : Nat}
theorem ok_d {fs : List mv_V} (hf : ∀ v ∈ fs, v = mv_N ∨ v = mv_I 0) : ok_S 0 fs := by
  intro v hv
  rcases hf v hv with rfl | rfl
  · exact trivial
  · exact trivial
theorem nw_wh {idx : Nat} (hw1 : Cond.classLink M.1.cls idx R_wh ∈ go_T) (hd : decode M.2.1 pc = .ok (.new idx, 3)) (hp : pc + 3 = q) (hr1 : u.1 + 1 ≤ R.cells) (hr2 : u.2 + 2 ≤ R.slots)
    (kk : Go φ l M R (u.1 + 1, u.2 + 2) q L (mv_R n :: st) (va_up h n (mv_O 5 [mv_N, mv_I 0])) (n + 1)) : Go φ l M R u pc L st h n :=
  go_new cl_wh hw1 tw_1_41 tw_1_3 hd hp (fun j hj zt ad => match j, hj with
    | 0, _ => rfl
    | 1, _ => rfl
    | k + 2, hk => absurd hk (by omega)) (ok_d (by decide)) hr1 hr2 kk
theorem nw_fr {idx : Nat} (hw1 : Cond.classLink M.1.cls idx R_fr ∈ go_T) (hd : decode M.2.1 pc = .ok (.new idx, 3)) (hp : pc + 3 = q) (hr1 : u.1 + 1 ≤ R.cells) (hr2 : u.2 + 3 ≤ R.slots)
    (kk : Go φ l M R (u.1 + 1, u.2 + 3) q L (mv_R n :: st) (va_up h n (mv_O 2 [mv_N, mv_N, mv_I 0])) (n + 1)) : Go φ l M R u pc L st h n :=
  go_new cl_fr hw1 tw_1_35 tw_1_2 hd hp (fun j hj zt ad => match j, hj with
    | 0, _ => rfl
    | 1, _ => rfl
    | 2, _ => rfl
    | k + 3, hk => absurd hk (by omega)) (ok_d (by decide)) hr1 hr2 kk
theorem nw_wr {idx : Nat} (hw1 : Cond.classLink M.1.cls idx R_wr ∈ go_T) (hd : decode M.2.1 pc = .ok (.new idx, 3)) (hp : pc + 3 = q) (hr1 : u.1 + 1 ≤ R.cells) (hr2 : u.2 + 3 ≤ R.slots)
    (kk : Go φ l M R (u.1 + 1, u.2 + 3) q L (mv_R n :: st) (va_up h n (mv_O 6 [mv_N, mv_N, mv_I 0])) (n + 1)) : Go φ l M R u pc L st h n :=
  go_new cl_wr hw1 tw_1_86 tw_1_4 hd hp (fun j hj zt ad => match j, hj with
    | 0, _ => rfl
    | 1, _ => rfl
    | 2, _ => rfl
    | k + 3, hk => absurd hk (by omega)) (ok_d (by decide)) hr1 hr2 kk
theorem nw_gr {idx : Nat} (hw1 : Cond.classLink M.1.cls idx R_gr ∈ go_T) (hd : decode M.2.1 pc = .ok (.new idx, 3)) (hp : pc + 3 = q) (hr1 : u.1 + 1 ≤ R.cells) (hr2 : u.2 + 3 ≤ R.slots)
    (kk : Go φ l M R (u.1 + 1, u.2 + 3) q L (mv_R n :: st) (va_up h n (mv_O 3 [mv_N, mv_N, mv_I 0])) (n + 1)) : Go φ l M R u pc L st h n :=
  go_new cl_gr hw1 tw_1_104 tw_1_5 hd hp (fun j hj zt ad => match j, hj with
    | 0, _ => rfl
    | 1, _ => rfl
    | 2, _ => rfl
    | k + 3, hk => absurd hk (by omega)) (ok_d (by decide)) hr1 hr2 kk
theorem nw_di {idx : Nat} (hw1 : Cond.classLink M.1.cls idx R_di ∈ go_T) (hd : decode M.2.1 pc = .ok (.new idx, 3)) (hp : pc + 3 = q) (hr1 : u.1 + 1 ≤ R.cells) (hr2 : u.2 + 4 ≤ R.slots)
    (kk : Go φ l M R (u.1 + 1, u.2 + 4) q L (mv_R n :: st) (va_up h n (mv_O 1 [mv_N, mv_N, mv_N, mv_N])) (n + 1)) : Go φ l M R u pc L st h n :=
  go_new cl_di hw1 tw_1_132 tw_1_8 hd hp (fun j hj zt ad => match j, hj with
    | 0, _ => rfl
    | 1, _ => rfl
    | 2, _ => rfl
    | 3, _ => rfl
    | k + 4, hk => absurd hk (by omega)) (ok_d (by decide)) hr1 hr2 kk
theorem nw_ca {idx : Nat} (hw1 : Cond.classLink M.1.cls idx R_ca ∈ go_T) (hd : decode M.2.1 pc = .ok (.new idx, 3)) (hp : pc + 3 = q) (hr1 : u.1 + 1 ≤ R.cells) (hr2 : u.2 + 7 ≤ R.slots)
    (kk : Go φ l M R (u.1 + 1, u.2 + 7) q L (mv_R n :: st) (va_up h n (mv_O 0 [mv_N, mv_N, mv_N, mv_N, mv_N, mv_N, mv_N])) (n + 1)) : Go φ l M R u pc L st h n :=
  go_new cl_ca hw1 tw_1_126 tw_1_7 hd hp (fun j hj zt ad => match j, hj with
    | 0, _ => rfl
    | 1, _ => rfl
    | 2, _ => rfl
    | 3, _ => rfl
    | 4, _ => rfl
    | 5, _ => rfl
    | 6, _ => rfl
    | k + 7, hk => absurd hk (by omega)) (ok_d (by decide)) hr1 hr2 kk
theorem nw_ma {idx : Nat} (hw1 : Cond.classLink M.1.cls idx R_ma ∈ go_T) (hd : decode M.2.1 pc = .ok (.new idx, 3)) (hp : pc + 3 = q) (hr1 : u.1 + 1 ≤ R.cells) (hr2 : u.2 + 10 ≤ R.slots)
    (kk : Go φ l M R (u.1 + 1, u.2 + 10) q L (mv_R n :: st) (va_up h n (mv_O 4 [mv_N, mv_N, mv_N, mv_N, mv_N, mv_N, mv_N, mv_N, mv_I 0, mv_I 0])) (n + 1)) : Go φ l M R u pc L st h n :=
  go_new cl_ma hw1 tw_1_120 tw_1_6 hd hp (fun j hj zt ad => match j, hj with
    | 0, _ => rfl
    | 1, _ => rfl
    | 2, _ => rfl
    | 3, _ => rfl
    | 4, _ => rfl
    | 5, _ => rfl
    | 6, _ => rfl
    | 7, _ => rfl
    | 8, _ => rfl
    | 9, _ => rfl
    | k + 10, hk => absurd hk (by omega)) (ok_d (by decide)) hr1 hr2 kk
theorem nw_pn {idx : Nat} (hw1 : Cond.classLink M.1.cls idx R_pn ∈ go_T) (hd : decode M.2.1 pc = .ok (.new idx, 3)) (hp : pc + 3 = q) (hr1 : u.1 + 1 ≤ R.cells) (hr2 : u.2 + 7 ≤ R.slots)
    (kk : Go φ l M R (u.1 + 1, u.2 + 7) q L (mv_R n :: st) (va_up h n (mv_O 7 [mv_N, mv_I 0, mv_I 0, mv_N, mv_N, mv_N, mv_N])) (n + 1)) : Go φ l M R u pc L st h n :=
  go_new cl_pn hw1 tw_1_27 tw_1_1 hd hp (fun j hj zt ad => match j, hj with
    | 0, _ => rfl
    | 1, _ => rfl
    | 2, _ => rfl
    | 3, _ => rfl
    | 4, _ => rfl
    | 5, _ => rfl
    | 6, _ => rfl
    | k + 7, hk => absurd hk (by omega)) (ok_d (by decide)) hr1 hr2 kk
theorem nw_mo {idx : Nat} (hw1 : Cond.classLink M.1.cls idx R_mo ∈ go_T) (hd : decode M.2.1 pc = .ok (.new idx, 3)) (hp : pc + 3 = q) (hr1 : u.1 + 1 ≤ R.cells) (hr2 : u.2 + 13 ≤ R.slots)
    (kk : Go φ l M R (u.1 + 1, u.2 + 13) q L (mv_R n :: st) (va_up h n (mv_O 8 [mv_I 0, mv_I 0, mv_N, mv_I 0, mv_N, mv_N, mv_N, mv_N, mv_N, mv_N, mv_I 0, mv_I 0, mv_I 0])) (n + 1)) : Go φ l M R u pc L st h n :=
  go_new cl_mo hw1 tw_4_72 tw_1_9 hd hp (fun j hj zt ad => match j, hj with
    | 0, _ => rfl
    | 1, _ => rfl
    | 2, _ => rfl
    | 3, _ => rfl
    | 4, _ => rfl
    | 5, _ => rfl
    | 6, _ => rfl
    | 7, _ => rfl
    | 8, _ => rfl
    | 9, _ => rfl
    | 10, _ => rfl
    | 11, _ => rfl
    | 12, _ => rfl
    | k + 13, hk => absurd hk (by omega)) (ok_d (by decide)) hr1 hr2 kk
end InitNew
