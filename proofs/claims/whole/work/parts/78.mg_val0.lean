/-! the model's text: charAt, isDigit, least, most, isOp -/
def ch_ (t : Nat → Int) (len p : Nat) : Int := if p < len then t p else 0
theorem ch_b {t : Nat → Int} (ht : ∀ i, 0 ≤ t i ∧ t i ≤ 127) (len p : Nat) : 0 ≤ ch_ t len p ∧ ch_ t len p ≤ 127 := by
  unfold ch_
  split
  · exact ht p
  · omega
def ls_ (c : Int) : Int := if c = 43 ∨ c = 42 ∨ c = 103 then 0 else if c = 45 ∨ c = 47 ∨ c = 110 ∨ c = 100 then 1 else if c = 63 then 3 else 2
def ms_ (c : Int) : Int := if c = 43 ∨ c = 42 ∨ c = 103 ∨ c = 45 ∨ c = 47 then 200 else ls_ c
theorem ls_b (c : Int) : 0 ≤ ls_ c ∧ ls_ c ≤ 3 := by
  unfold ls_
  split
  · omega
  · split
    · omega
    · split <;> omega
theorem ms_b (c : Int) : 0 ≤ ms_ c ∧ ms_ c ≤ 200 := by
  unfold ms_
  split
  · omega
  · have := ls_b c
    omega
theorem opx_iff {c : Int} : 0 ≤ opx_ c 0 13 ↔ (c = 43 ∨ c = 42 ∨ c = 45 ∨ c = 47 ∨ c = 113 ∨ c = 114 ∨ c = 103 ∨ c = 94 ∨ c = 110 ∨ c = 100 ∨ c = 60 ∨ c = 61 ∨ c = 63) := by
  constructor
  · intro h
    obtain ⟨x1, x2, x3⟩ := opx_b (c := c) 13 0
    have h1 := (x3 h).2
    have h2 := (by decide : ∀ i, i < 13 → (cx_opsI i = 43 ∨ cx_opsI i = 42 ∨ cx_opsI i = 45 ∨ cx_opsI i = 47 ∨ cx_opsI i = 113 ∨ cx_opsI i = 114 ∨ cx_opsI i = 103 ∨ cx_opsI i = 94 ∨ cx_opsI i = 110 ∨ cx_opsI i = 100 ∨ cx_opsI i = 60 ∨ cx_opsI i = 61 ∨ cx_opsI i = 63)) (opx_ c 0 13).toNat (by omega)
    rw [h1] at h2
    exact h2
  · rintro (h | h | h | h | h | h | h | h | h | h | h | h | h) <;> subst h <;> decide
theorem ls_few : ∀ i, i < 13 → ls_ (cx_opsI i) = cx_fewI i := by decide
theorem ms_most : ∀ i, i < 13 → (cx_mostI i = 120 ∧ ms_ (cx_opsI i) = 200) ∨ (cx_mostI i = ms_ (cx_opsI i) ∧ ms_ (cx_opsI i) ≤ 3) := by decide
section MgVal0
variable {φ : go_F} {l : Launch} {M : go_M} {R : Room} {u : Nat × Nat} {pc q n o : Nat} {L : List (Option mv_V)} {rest : List mv_V} {h : mv_H} {I tx S ps cs bs : Nat → Int} {V : Nat → Nat}
theorem tm_least {c : Int} (hc : 0 ≤ c ∧ c ≤ 127) : Fn l m_mo_least rd_mo_least rw_mo_least 0 0 [mv_I c] h n (fun w h' n' => w = some (mv_I (ls_ c)) ∧ n' = n ∧ h' = h) := by
  refine fn_of rfl (Nat.le_of_ble_eq_true rfl) rfl ?_
  refine go_iload_n (q := 1) d_mo_least_0 rfl rfl rfl ?_
  have r0 : ls_ c = 0 → Go (go_f 0 0 fun w h' n' => w = some (mv_I (ls_ c)) ∧ n' = n ∧ h' = h) l m_mo_least (go_rm rd_mo_least rw_mo_least 0 0) (0, 0) 76 [some (mv_I c)] [] h n := fun e => by
    rw [e]
    exact go_iconst (q := 77) d_mo_least_76 rfl (go_iret d_mo_least_77 rfl go_le0 ⟨rfl, rfl, rfl⟩)
  have r1 : ls_ c = 1 → Go (go_f 0 0 fun w h' n' => w = some (mv_I (ls_ c)) ∧ n' = n ∧ h' = h) l m_mo_least (go_rm rd_mo_least rw_mo_least 0 0) (0, 0) 78 [some (mv_I c)] [] h n := fun e => by
    rw [e]
    exact go_iconst (q := 79) d_mo_least_78 rfl (go_iret d_mo_least_79 rfl go_le0 ⟨rfl, rfl, rfl⟩)
  have r3 : ls_ c = 3 → Go (go_f 0 0 fun w h' n' => w = some (mv_I (ls_ c)) ∧ n' = n ∧ h' = h) l m_mo_least (go_rm rd_mo_least rw_mo_least 0 0) (0, 0) 80 [some (mv_I c)] [] h n := fun e => by
    rw [e]
    exact go_iconst (q := 81) d_mo_least_80 rfl (go_iret d_mo_least_81 rfl go_le0 ⟨rfl, rfl, rfl⟩)
  have r2 : ls_ c = 2 → Go (go_f 0 0 fun w h' n' => w = some (mv_I (ls_ c)) ∧ n' = n ∧ h' = h) l m_mo_least (go_rm rd_mo_least rw_mo_least 0 0) (0, 0) 82 [some (mv_I c)] [] h n := fun e => by
    rw [e]
    exact go_iconst (q := 83) d_mo_least_82 rfl (go_iret d_mo_least_83 rfl go_le0 ⟨rfl, rfl, rfl⟩)
  by_cases c1 : c = 42
  · subst c1; exact go_lsw (d := 76) (a := 42) (off := 75) d_mo_least_1 (by decide) (by decide) rfl (by decide) (r0 (by decide))
  by_cases c2 : c = 43
  · subst c2; exact go_lsw (d := 76) (a := 43) (off := 75) d_mo_least_1 (by decide) (by decide) rfl (by decide) (r0 (by decide))
  by_cases c3 : c = 45
  · subst c3; exact go_lsw (d := 78) (a := 45) (off := 77) d_mo_least_1 (by decide) (by decide) rfl (by decide) (r1 (by decide))
  by_cases c4 : c = 47
  · subst c4; exact go_lsw (d := 78) (a := 47) (off := 77) d_mo_least_1 (by decide) (by decide) rfl (by decide) (r1 (by decide))
  by_cases c5 : c = 63
  · subst c5; exact go_lsw (d := 80) (a := 63) (off := 79) d_mo_least_1 (by decide) (by decide) rfl (by decide) (r3 (by decide))
  by_cases c6 : c = 100
  · subst c6; exact go_lsw (d := 78) (a := 100) (off := 77) d_mo_least_1 (by decide) (by decide) rfl (by decide) (r1 (by decide))
  by_cases c7 : c = 103
  · subst c7; exact go_lsw (d := 76) (a := 103) (off := 75) d_mo_least_1 (by decide) (by decide) rfl (by decide) (r0 (by decide))
  by_cases c8 : c = 110
  · subst c8; exact go_lsw (d := 78) (a := 110) (off := 77) d_mo_least_1 (by decide) (by decide) rfl (by decide) (r1 (by decide))
  refine go_lswd (d := 82) d_mo_least_1 (by decide) (by omega) ?_ (by decide) (r2 ?_)
  · simp
    omega
  · unfold ls_
    rw [if_neg (by omega), if_neg (by omega), if_neg (by omega)]
theorem cl_least {c : Int} (hc : M.1.cls = "PromotedNumbersModel") (hd : decode M.2.1 pc = .ok (.invokestatic 100, 3)) (hp : pc + 3 = q) (hcb : 0 ≤ c ∧ c ≤ 127) (hw : (rest.map mv_k).sum ≤ 8) (hR : go_fit R u 1 rd_mo_least rw_mo_least 0 0) (k : Go φ l M R u q L (mv_I (ls_ c) :: rest) h n) : Go φ l M R u pc L (mv_I c :: rest) h n := by
  refine go_callS (M' := m_mo_least) (d := rd_mo_least) (w := rw_mo_least) (mc := 0) (ms := 0) (as := [mv_I c]) (rest := rest) (q := q) g_mo_least s_mo_least (by rw [hc]; exact l_mo_100) hd hp rfl rfl hw hR (tm_least hcb) ?_
  rintro w h1 n1 ⟨rfl, rfl, rfl⟩ -
  exact go_u0 k
theorem tm_most {c : Int} (hc : 0 ≤ c ∧ c ≤ 127) : Fn l m_mo_most rd_mo_most rw_mo_most 0 0 [mv_I c] h n (fun w h' n' => w = some (mv_I (ms_ c)) ∧ n' = n ∧ h' = h) := by
  refine fn_of rfl (Nat.le_of_ble_eq_true rfl) rfl ?_
  have r : (c = 43 ∨ c = 42 ∨ c = 103 ∨ c = 45 ∨ c = 47) → Go (go_f 0 0 fun w h' n' => w = some (mv_I (ms_ c)) ∧ n' = n ∧ h' = h) l m_mo_most (go_rm rd_mo_most rw_mo_most 0 0) (0, 0) 40 [some (mv_I c)] [mv_I 200] h n := fun e => by
    have : ms_ c = 200 := if_pos e
    rw [this]
    exact go_iret d_mo_most_40 rfl go_le0 ⟨rfl, rfl, rfl⟩
  refine sm_most hc (fun c1 => r (by omega)) (fun _ c1 => r (by omega)) (fun _ _ c1 => r (by omega)) (fun _ _ _ c1 => r (by omega)) (fun c1 c2 c3 c4 c5 => ?_) (fun _ _ _ _ c1 => r (by omega))
  refine cl_least (q := 40) rfl d_mo_most_37 rfl hc (by decide) ⟨by decide, by decide, by decide, by decide⟩ ?_
  have : ms_ c = ls_ c := if_neg (by omega)
  rw [this]
  exact go_iret d_mo_most_40 rfl go_le0 ⟨rfl, rfl, rfl⟩
theorem cl_most {c : Int} (hc : M.1.cls = "PromotedNumbersModel") (hd : decode M.2.1 pc = .ok (.invokestatic 112, 3)) (hp : pc + 3 = q) (hcb : 0 ≤ c ∧ c ≤ 127) (hw : (rest.map mv_k).sum ≤ 8) (hR : go_fit R u 1 rd_mo_most rw_mo_most 0 0) (k : Go φ l M R u q L (mv_I (ms_ c) :: rest) h n) : Go φ l M R u pc L (mv_I c :: rest) h n := by
  refine go_callS (M' := m_mo_most) (d := rd_mo_most) (w := rw_mo_most) (mc := 0) (ms := 0) (as := [mv_I c]) (rest := rest) (q := q) g_mo_most s_mo_most (by rw [hc]; exact l_mo_112) hd hp rfl rfl hw hR (tm_most hcb) ?_
  rintro w h1 n1 ⟨rfl, rfl, rfl⟩ -
  exact go_u0 k
theorem tm_isOp {c : Int} (hc : 0 ≤ c ∧ c ≤ 127) : Fn l m_mo_isOp rd_mo_isOp rw_mo_isOp 0 0 [mv_I c] h n (fun w h' n' => w = some (mv_I (if 0 ≤ opx_ c 0 13 then 1 else 0)) ∧ n' = n ∧ h' = h) := by
  refine fn_of rfl (Nat.le_of_ble_eq_true rfl) rfl ?_
  have hi := opx_iff (c := c)
  have r1 : ∀ y, 0 ≤ opx_ c 0 13 → Go (go_f 0 0 fun w h' n' => w = some (mv_I (if 0 ≤ opx_ c 0 13 then 1 else 0)) ∧ n' = n ∧ h' = h) l m_mo_isOp (go_rm rd_mo_isOp rw_mo_isOp 0 0) (0, 0) 93 [some (mv_I c), some (mv_I y)] [mv_I 1] h n := fun y e => by
    rw [if_pos e]
    exact go_zret d_mo_isOp_93 rfl (by decide) go_le0 ⟨rfl, rfl, rfl⟩
  refine sm_isOp hc (fun c1 => r1 _ (hi.mpr (by omega))) (fun _ c1 => r1 _ (hi.mpr (by omega))) (fun _ _ c1 => r1 _ (hi.mpr (by omega))) (fun _ _ _ c1 => r1 _ (hi.mpr (by omega))) (fun _ _ _ _ c1 => r1 _ (hi.mpr (by omega))) (fun _ _ _ _ _ c1 => r1 _ (hi.mpr (by omega))) (fun _ _ _ _ _ _ _ c1 => r1 _ (hi.mpr (by omega))) (fun _ _ _ _ _ _ _ _ c1 => r1 _ (hi.mpr (by omega))) (fun _ _ _ _ _ _ _ _ _ c1 => r1 _ (hi.mpr (by omega))) (fun _ _ _ _ _ _ _ _ _ _ c1 => r1 _ (hi.mpr (by omega))) (fun _ _ _ _ _ _ _ _ _ _ _ c1 => r1 _ (hi.mpr (by omega))) (fun a1 a2 a3 a4 a5 a6 a7 a8 a9 a10 a11 a12 a13 => ?_) (fun _ _ _ _ _ _ _ _ _ _ _ _ c1 => r1 _ (hi.mpr (by omega))) (fun _ _ _ _ _ _ c1 => r1 _ (hi.mpr (by omega)))
  have e : ¬ 0 ≤ opx_ c 0 13 := fun z => by
    have := hi.mp z
    omega
  rw [if_neg e]
  exact go_zret d_mo_isOp_93 rfl (by decide) go_le0 ⟨rfl, rfl, rfl⟩
theorem cl_isOp {c : Int} (hc : M.1.cls = "PromotedNumbersModel") (hd : decode M.2.1 pc = .ok (.invokestatic 106, 3)) (hp : pc + 3 = q) (hcb : 0 ≤ c ∧ c ≤ 127) (hw : (rest.map mv_k).sum ≤ 8) (hR : go_fit R u 2 rd_mo_isOp rw_mo_isOp 0 0) (k : Go φ l M R u q L (mv_I (if 0 ≤ opx_ c 0 13 then 1 else 0) :: rest) h n) : Go φ l M R u pc L (mv_I c :: rest) h n := by
  refine go_callS (M' := m_mo_isOp) (d := rd_mo_isOp) (w := rw_mo_isOp) (mc := 0) (ms := 0) (as := [mv_I c]) (rest := rest) (q := q) g_mo_isOp s_mo_isOp (by rw [hc]; exact l_mo_106) hd hp rfl rfl hw hR (tm_isOp hcb) ?_
  rintro w h1 n1 ⟨rfl, rfl, rfl⟩ -
  exact go_u0 k
theorem tm_charAt {p len : Nat} (hV : mo_V h o (I, tx, S, ps, cs, bs) V) (hL : I 1 = (len : Int)) (hl : len ≤ 120) (hp : p < 2000) : Fn l m_mo_charAt rd_mo_charAt rw_mo_charAt 0 0 [mv_R o, mv_I (p : Int)] h n (fun w h' n' => w = some (mv_I (ch_ tx len p)) ∧ n' = n ∧ h' = h) := by
  refine fn_of rfl (Nat.le_of_ble_eq_true rfl) rfl ?_
  refine sm_charAt hV hL hl hp (fun c => ?_) (fun c => ?_)
  · exact go_iret d_mo_charAt_18 rfl go_le0 ⟨by unfold ch_; rw [if_neg (by omega)], rfl, rfl⟩
  · exact go_iret d_mo_charAt_18 rfl go_le0 ⟨by unfold ch_; rw [if_pos (by omega)], rfl, rfl⟩
theorem cl_charAt {p len : Nat} (hc : M.1.cls = "PromotedNumbersModel") (hd : decode M.2.1 pc = .ok (.invokevirtual 96, 3)) (hq : pc + 3 = q) (hV : mo_V h o (I, tx, S, ps, cs, bs) V) (hL : I 1 = (len : Int)) (hl : len ≤ 120) (hp : p < 2000) (hp0 : 0 ≤ p) (hw : (rest.map mv_k).sum ≤ 8) (hR : go_fit R u 2 rd_mo_charAt rw_mo_charAt 0 0) (k : Go φ l M R u q L (mv_I (ch_ tx len p) :: rest) h n) : Go φ l M R u pc L (mv_I (p : Int) :: mv_R o :: rest) h n := by
  obtain ⟨fs, hob⟩ := mo_Vob hV
  refine go_callV (M' := m_mo_charAt) (d := rd_mo_charAt) (w := rw_mo_charAt) (mc := 0) (ms := 0) (as := [mv_I (p : Int)]) (b := o) (rest := rest) (q := q) g_mo_charAt i_mo_charAt v_mo_charAt (by rw [hc]; exact l_mo_96) hd hq rfl rfl hob rfl hw hR (tm_charAt hV hL hl hp) ?_
  rintro w h1 n1 ⟨rfl, rfl, rfl⟩ -
  exact go_u0 k
end MgVal0
