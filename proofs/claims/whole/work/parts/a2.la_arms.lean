/-! the law's loop -/
theorem xi_b (x : Int32) : -2147483648 ≤ x.toInt ∧ x.toInt ≤ 2147483647 := by
  have h1 := Int32.le_toInt x
  have h2 := Int32.toInt_lt x
  omega
theorem tk_tu {len k : Nat} {tx : Nat → Int} {z : Int} (ht : tk_ len tx) (hg : gd_ z k) (hk : len + k ≤ 120) : tk_ (len + k) (tu_ tx len z k) := by
  refine ⟨hk, fun i => ?_, fun i hi => ?_⟩
  · unfold tu_
    split
    · have := hg (i - len) (by omega)
      omega
    · exact ht.2.1 i
  · unfold tu_
    split
    · have := hg (i - len) (by omega)
      omega
    · exact ht.2.2 i (by omega)
theorem tk_0 {len : Nat} {tx : Nat → Int} (ht : tk_ len tx) : tk_ 0 tx := ⟨by omega, ht.2.1, fun i hi => absurd hi (by omega)⟩
theorem rc_1 {h : mv_H} {len : Nat} {tx : Nat → Int} {told : Int} {x : qv_} {var : Nat → qv_} {ga gb : Nat → Int} (hr : rc_ h len tx told x var ga gb) : ∃ fs, h 1 = mv_O 7 fs := by
  obtain ⟨I, wr, mo, mf, mg, B, V, hV, -⟩ := hr
  exact ⟨_, pn_c1 hV⟩
theorem rm_1 {h : mv_H} {o : Nat} {c : Int} {len : Nat} {tx : Nat → Int} {told : Int} {x : qv_} {var : Nat → qv_} (hr : rm_ h o c len tx told x var) : ∃ fs, h o = mv_O 8 fs := by
  obtain ⟨J, S, ps, cs, bs, W, hV, -⟩ := hr
  exact mo_Vob hV
theorem rm_v {h : mv_H} {o : Nat} {c : Int} {len : Nat} {tx : Nat → Int} {told : Int} {x : qv_} {var : Nat → qv_} (hr : rm_ h o c len tx told x var) : q_in x ∧ ∀ v, v < 8 → q_in (var v) := by
  obtain ⟨J, S, ps, cs, bs, W, hV, -, -, -, -, hx, hv, -⟩ := hr
  exact ⟨hx, fun v h => (hv v h).2⟩
theorem rm_c {h h1' : mv_H} {c : Int} {len : Nat} {tx : Nat → Int} {told : Int} {x : qv_} {var : Nat → qv_} (h1 : fr_ 1 389 h h1') (hr : rm_ h 390 c len tx told x var) : rm_ h1' 390 c len tx told x var := rm_k hr fun j a b => h1 j (by omega)
theorem rc_c {h h1' : mv_H} {len : Nat} {tx : Nat → Int} {told : Int} {x : qv_} {var : Nat → qv_} {ga gb : Nat → Int} (h1 : fr_ 390 8 h h1') (hr : rc_ h len tx told x var ga gb) : rc_ h1' len tx told x var ga gb := rc_k hr fun j a b => h1 j (by omega)
/-- between two calls -/
def lsw_ (h : mv_H) : Prop := ∃ (len : Nat) (tx : Nat → Int) (told : Int) (x : qv_) (var : Nat → qv_) (c : Int) (ga gb g : Nat → Int), rc_ h len tx told x var ga gb ∧ rm_ h 390 c len tx told x var ∧ tk_ len tx ∧ h 398 = mv_A 1 1 g
theorem cl_37 : Cond.constantLong "PromotedNumbersLaw" 37 4294967295 ∈ go_T := by decide +kernel
theorem go_same {φ : go_F} {l : Launch} {M : go_M} {R : Room} {u : Nat × Nat} {pc n : Nat} {L : List (Option mv_V)} {st : List mv_V} {h : mv_H} {a off : Int} {t : Nat} (hd : decode M.2.1 pc = .ok (.if_icmp .eq off, 3)) (ht : (pc : Int) + off = (t : Int)) (kt : Go φ l M R u t L st h n) : Go φ l M R u pc L (mv_I a :: mv_I a :: st) h n := by
  intro p e s m args below meth c D ca zt A n0 ad0 C H locs ls ad hS hP hD hl hn hadr oh ol os
  exact lv_icmp_eq C.1 C.2.1 hd ht (fun _ => kt p e s m args below meth c D ca zt A n0 ad0 C H locs ls ad hS hP hD hl hn hadr oh ol os.tl.tl) (fun z => absurd rfl z)
section LaLoop
variable {l : Launch} {N : Nat} {xs : Nat → Int32} {b p : Nat} {h : mv_H} {u : Nat × Nat}
abbrev low_ (p : Nat) : List (Option mv_V) := [some (mv_X 9), some (mv_R 1), some (mv_R 390), some (mv_R 398), some (mv_I (p : Int)), none, none]
abbrev gow_ (l : Launch) (N : Nat) (xs : Nat → Int32) (b : Nat) (u : Nat × Nat) (pc p : Nat) (st : List mv_V) (h : mv_H) : Prop := Go (go_xx N xs (go_le b)) l m_la_law room_1 u pc (low_ p) st h 399
theorem la_erase (hp : p + 3 ≤ N) (hN : N ≤ 1536) (hu : u.1 ≤ 600999 ∧ u.2 ≤ 7000999) (hs : lsw_ h) (k : ∀ h', lsw_ h' → gow_ l N xs b u 479 p [] h') : gow_ l N xs b u 153 p [] h := by
  obtain ⟨len, tx, told, x, var, c, ga, gb, g, hr, hm, ht, hg⟩ := hs
  obtain ⟨fs1, ob1⟩ := rc_1 hr
  refine go_aload_n (q := 154) d_la_law_153 rfl rfl rfl ?_
  refine go_callV (M' := m_pn_erase) (d := rd_pn_erase) (w := rw_pn_erase) (mc := 0) (ms := 0) (as := []) (b := 1) (rest := []) (q := 157) g_pn_erase i_pn_erase v_pn_erase l_la_44 d_la_law_154 rfl rfl rfl ob1 rfl (Nat.le_of_ble_eq_true rfl) ⟨by decide, by decide, by show u.1 + 0 ≤ 601024; omega, by show u.2 + 0 ≤ 7293034; omega⟩ (pc_erase hr) ?_
  rintro w h1 n1 ⟨rfl, rfl, hf1, hr1⟩ -
  have hm1 := rm_c hf1 hm
  obtain ⟨fs2, ob2⟩ := rm_1 hm1
  refine go_u0 ?_
  refine go_aload_n (q := 158) d_la_law_157 rfl rfl rfl ?_
  refine go_callV (M' := m_mo_erase) (d := rd_mo_erase) (w := rw_mo_erase) (mc := 0) (ms := 0) (as := []) (b := 390) (rest := [mv_I ((len : Int))]) (q := 161) g_mo_erase i_mo_erase v_mo_erase l_la_47 d_la_law_158 rfl rfl rfl ob2 rfl (Nat.le_of_ble_eq_true rfl) ⟨by decide, by decide, by show u.1 + 0 ≤ 601024; omega, by show u.2 + 0 ≤ 7293034; omega⟩ (pm_erase hm1) ?_
  rintro w h2 n2 ⟨rfl, rfl, hf2, hr2⟩ -
  exact go_u0 (go_same (t := 479) d_la_law_161 (by decide) (k h2 ⟨0, tx, told, x, var, 0, ga, gb, g, rc_c hf2 hr1, hr2, tk_0 ht, (hf2 398 (by omega)).trans ((hf1 398 (by omega)).trans hg)⟩))
theorem la_fault (hp : p + 3 ≤ N) (hN : N ≤ 1536) (hu : u.1 ≤ 600999 ∧ u.2 ≤ 7000999) (hs : lsw_ h) (k : ∀ h', lsw_ h' → gow_ l N xs b u 479 p [] h') : gow_ l N xs b u 166 p [] h := by
  obtain ⟨len, tx, told, x, var, c, ga, gb, g, hr, hm, ht, hg⟩ := hs
  obtain ⟨fs1, ob1⟩ := rc_1 hr
  refine go_aload_n (q := 167) d_la_law_166 rfl rfl rfl ?_
  refine go_callV (M' := m_pn_fault) (d := rd_pn_fault) (w := rw_pn_fault) (mc := 0) (ms := 0) (as := []) (b := 1) (rest := []) (q := 170) g_pn_fault i_pn_fault v_pn_fault l_la_48 d_la_law_167 rfl rfl rfl ob1 rfl (Nat.le_of_ble_eq_true rfl) ⟨by decide, by decide, by show u.1 + 0 ≤ 601024; omega, by show u.2 + 0 ≤ 7293034; omega⟩ (pc_fault hr) ?_
  rintro w h1 n1 ⟨rfl, rfl, rfl⟩ -
  have hm1 := hm
  obtain ⟨fs2, ob2⟩ := rm_1 hm1
  refine go_u0 ?_
  refine go_aload_n (q := 171) d_la_law_170 rfl rfl rfl ?_
  refine go_callV (M' := m_mo_fault) (d := rd_mo_fault) (w := rw_mo_fault) (mc := 0) (ms := 0) (as := []) (b := 390) (rest := [mv_I (told)]) (q := 174) g_mo_fault i_mo_fault v_mo_fault l_la_51 d_la_law_171 rfl rfl rfl ob2 rfl (Nat.le_of_ble_eq_true rfl) ⟨by decide, by decide, by show u.1 + 0 ≤ 601024; omega, by show u.2 + 0 ≤ 7293034; omega⟩ (pm_fault hm1) ?_
  rintro w h2 n2 ⟨rfl, rfl, hf2, hr2⟩ -
  exact go_u0 (go_same (t := 479) d_la_law_174 (by decide) (k h2 ⟨len, tx, told, x, var, 0, ga, gb, g, rc_c hf2 hr, hr2, ht, (hf2 398 (by omega)).trans hg⟩))
theorem la_form (hp : p + 3 ≤ N) (hN : N ≤ 1536) (hu : u.1 ≤ 600999 ∧ u.2 ≤ 7000999) (hs : lsw_ h) (k : ∀ h', lsw_ h' → gow_ l N xs b u 479 p [] h') : gow_ l N xs b u 279 p [] h := by
  obtain ⟨len, tx, told, x, var, c, ga, gb, g, hr, hm, ht, hg⟩ := hs
  obtain ⟨fs1, ob1⟩ := rc_1 hr
  refine go_aload_n (q := 280) d_la_law_279 rfl rfl rfl ?_
  refine go_callV (M' := m_pn_form) (d := rd_pn_form) (w := rw_pn_form) (mc := 0) (ms := 0) (as := []) (b := 1) (rest := []) (q := 283) g_pn_form i_pn_form v_pn_form l_la_65 d_la_law_280 rfl rfl rfl ob1 rfl (Nat.le_of_ble_eq_true rfl) ⟨by decide, by decide, by show u.1 + 0 ≤ 601024; omega, by show u.2 + 0 ≤ 7293034; omega⟩ (pc_form hr) ?_
  rintro w h1 n1 ⟨rfl, rfl, rfl⟩ -
  have hm1 := hm
  obtain ⟨fs2, ob2⟩ := rm_1 hm1
  refine go_u0 ?_
  refine go_aload_n (q := 284) d_la_law_283 rfl rfl rfl ?_
  refine go_callV (M' := m_mo_form) (d := rd_mo_form) (w := rw_mo_form) (mc := 0) (ms := 0) (as := []) (b := 390) (rest := [mv_I (q_form x)]) (q := 287) g_mo_form i_mo_form v_mo_form l_la_68 d_la_law_284 rfl rfl rfl ob2 rfl (Nat.le_of_ble_eq_true rfl) ⟨by decide, by decide, by show u.1 + 0 ≤ 601024; omega, by show u.2 + 0 ≤ 7293034; omega⟩ (pm_form hm1) ?_
  rintro w h2 n2 ⟨rfl, rfl, hf2, hr2⟩ -
  exact go_u0 (go_same (t := 479) d_la_law_287 (by decide) (k h2 ⟨len, tx, told, x, var, 0, ga, gb, g, rc_c hf2 hr, hr2, ht, (hf2 398 (by omega)).trans hg⟩))
theorem la_sign (hp : p + 3 ≤ N) (hN : N ≤ 1536) (hu : u.1 ≤ 600999 ∧ u.2 ≤ 7000999) (hs : lsw_ h) (k : ∀ h', lsw_ h' → gow_ l N xs b u 479 p [] h') : gow_ l N xs b u 292 p [] h := by
  obtain ⟨len, tx, told, x, var, c, ga, gb, g, hr, hm, ht, hg⟩ := hs
  obtain ⟨fs1, ob1⟩ := rc_1 hr
  refine go_aload_n (q := 293) d_la_law_292 rfl rfl rfl ?_
  refine go_callV (M' := m_pn_sign) (d := rd_pn_sign) (w := rw_pn_sign) (mc := 0) (ms := 0) (as := []) (b := 1) (rest := []) (q := 296) g_pn_sign i_pn_sign v_pn_sign l_la_69 d_la_law_293 rfl rfl rfl ob1 rfl (Nat.le_of_ble_eq_true rfl) ⟨by decide, by decide, by show u.1 + 0 ≤ 601024; omega, by show u.2 + 0 ≤ 7293034; omega⟩ (pc_sign hr) ?_
  rintro w h1 n1 ⟨rfl, rfl, rfl⟩ -
  have hm1 := hm
  obtain ⟨fs2, ob2⟩ := rm_1 hm1
  refine go_u0 ?_
  refine go_aload_n (q := 297) d_la_law_296 rfl rfl rfl ?_
  refine go_callV (M' := m_mo_sign) (d := rd_mo_sign) (w := rw_mo_sign) (mc := 0) (ms := 0) (as := []) (b := 390) (rest := [mv_I (x.1)]) (q := 300) g_mo_sign i_mo_sign v_mo_sign l_la_72 d_la_law_297 rfl rfl rfl ob2 rfl (Nat.le_of_ble_eq_true rfl) ⟨by decide, by decide, by show u.1 + 0 ≤ 601024; omega, by show u.2 + 0 ≤ 7293034; omega⟩ (pm_sign hm1) ?_
  rintro w h2 n2 ⟨rfl, rfl, hf2, hr2⟩ -
  exact go_u0 (go_same (t := 479) d_la_law_300 (by decide) (k h2 ⟨len, tx, told, x, var, 0, ga, gb, g, rc_c hf2 hr, hr2, ht, (hf2 398 (by omega)).trans hg⟩))
theorem la_digit (hp : p + 3 ≤ N) (hN : N ≤ 1536) (hu : u.1 ≤ 600999 ∧ u.2 ≤ 7000999) (hs : lsw_ h) (k : ∀ h', lsw_ h' → gow_ l N xs b u 479 p [] h') : gow_ l N xs b u 305 p [] h := by
  obtain ⟨len, tx, told, x, var, c, ga, gb, g, hr, hm, ht, hg⟩ := hs
  obtain ⟨fs1, ob1⟩ := rc_1 hr
  refine go_aload_n (q := 306) d_la_law_305 rfl rfl rfl ?_
  refine go_aload_nX (q := 307) d_la_law_306 rfl rfl rfl ?_
  refine go_iload (q := 309) d_la_law_307 rfl rfl ?_
  refine go_iconst (q := 310) d_la_law_309 rfl ?_
  refine go_iadd (q := 311) d_la_law_310 rfl ?_
  refine go_sld (i := p + 1) (q := 312) d_la_law_311 rfl (by omega) (by omega) (by omega) ?_
  refine go_callV (M' := m_pn_digit) (d := rd_pn_digit) (w := rw_pn_digit) (mc := 0) (ms := 0) (as := [mv_I (xs (p + 1)).toInt]) (b := 1) (rest := []) (q := 315) g_pn_digit i_pn_digit v_pn_digit l_la_73 d_la_law_312 rfl rfl rfl ob1 rfl (Nat.le_of_ble_eq_true rfl) ⟨by decide, by decide, by show u.1 + 0 ≤ 601024; omega, by show u.2 + 0 ≤ 7293034; omega⟩ (pc_digit hr (xi_b _)) ?_
  rintro w h1 n1 ⟨⟨L1, K1, dl1, dk1, rfl⟩, rfl, rfl⟩ -
  have hm1 := hm
  obtain ⟨fs2, ob2⟩ := rm_1 hm1
  refine go_u0 ?_
  refine go_aload_n (q := 316) d_la_law_315 rfl rfl rfl ?_
  refine go_aload_nX (q := 317) d_la_law_316 rfl rfl rfl ?_
  refine go_iload (q := 319) d_la_law_317 rfl rfl ?_
  refine go_iconst (q := 320) d_la_law_319 rfl ?_
  refine go_iadd (q := 321) d_la_law_320 rfl ?_
  refine go_sld (i := p + 1) (q := 322) d_la_law_321 rfl (by omega) (by omega) (by omega) ?_
  refine go_callV (M' := m_mo_digit) (d := rd_mo_digit) (w := rw_mo_digit) (mc := 0) (ms := 0) (as := [mv_I (xs (p + 1)).toInt]) (b := 390) (rest := [mv_I (di_ x.1 x.2.1 x.2.2 L1 K1 (xs (p + 1)).toInt)]) (q := 325) g_mo_digit i_mo_digit v_mo_digit l_la_77 d_la_law_322 rfl rfl rfl ob2 rfl (Nat.le_of_ble_eq_true rfl) ⟨by decide, by decide, by show u.1 + 0 ≤ 601024; omega, by show u.2 + 0 ≤ 7293034; omega⟩ (pm_digit hm1 (xi_b _)) ?_
  rintro w h2 n2 ⟨⟨L2, K2, dl2, dk2, rfl⟩, rfl, hf2, hr2⟩ -
  obtain rfl := Dl_u dl1 dl2
  obtain rfl := Dl_u dk1 dk2
  exact go_u0 (go_same (t := 479) d_la_law_325 (by decide) (k h2 ⟨len, tx, told, x, var, 0, ga, gb, g, rc_c hf2 hr, hr2, ht, (hf2 398 (by omega)).trans hg⟩))
theorem la_bits (hp : p + 3 ≤ N) (hN : N ≤ 1536) (hu : u.1 ≤ 600999 ∧ u.2 ≤ 7000999) (hs : lsw_ h) (k : ∀ h', lsw_ h' → gow_ l N xs b u 479 p [] h') : gow_ l N xs b u 330 p [] h := by
  obtain ⟨len, tx, told, x, var, c, ga, gb, g, hr, hm, ht, hg⟩ := hs
  obtain ⟨fs1, ob1⟩ := rc_1 hr
  refine go_aload_n (q := 331) d_la_law_330 rfl rfl rfl ?_
  refine go_aload_nX (q := 332) d_la_law_331 rfl rfl rfl ?_
  refine go_iload (q := 334) d_la_law_332 rfl rfl ?_
  refine go_iconst (q := 335) d_la_law_334 rfl ?_
  refine go_iadd (q := 336) d_la_law_335 rfl ?_
  refine go_sld (i := p + 1) (q := 337) d_la_law_336 rfl (by omega) (by omega) (by omega) ?_
  refine go_aload_nX (q := 338) d_la_law_337 rfl rfl rfl ?_
  refine go_iload (q := 340) d_la_law_338 rfl rfl ?_
  refine go_iconst (q := 341) d_la_law_340 rfl ?_
  refine go_iadd (q := 342) d_la_law_341 rfl ?_
  refine go_sld (i := p + 2) (q := 343) d_la_law_342 rfl (by omega) (by omega) (by omega) ?_
  refine go_callV (M' := m_pn_bits) (d := rd_pn_bits) (w := rw_pn_bits) (mc := 0) (ms := 0) (as := [mv_I (xs (p + 1)).toInt, mv_I (xs (p + 2)).toInt]) (b := 1) (rest := []) (q := 346) g_pn_bits i_pn_bits v_pn_bits l_la_78 d_la_law_343 rfl rfl rfl ob1 rfl (Nat.le_of_ble_eq_true rfl) ⟨by decide, by decide, by show u.1 + 0 ≤ 601024; omega, by show u.2 + 0 ≤ 7293034; omega⟩ (pc_bits hr (xi_b _) (xi_b _)) ?_
  rintro w h1 n1 ⟨rfl, rfl, rfl⟩ -
  have hm1 := hm
  obtain ⟨fs2, ob2⟩ := rm_1 hm1
  refine go_u0 ?_
  refine go_aload_n (q := 347) d_la_law_346 rfl rfl rfl ?_
  refine go_aload_nX (q := 348) d_la_law_347 rfl rfl rfl ?_
  refine go_iload (q := 350) d_la_law_348 rfl rfl ?_
  refine go_iconst (q := 351) d_la_law_350 rfl ?_
  refine go_iadd (q := 352) d_la_law_351 rfl ?_
  refine go_sld (i := p + 1) (q := 353) d_la_law_352 rfl (by omega) (by omega) (by omega) ?_
  refine go_aload_nX (q := 354) d_la_law_353 rfl rfl rfl ?_
  refine go_iload (q := 356) d_la_law_354 rfl rfl ?_
  refine go_iconst (q := 357) d_la_law_356 rfl ?_
  refine go_iadd (q := 358) d_la_law_357 rfl ?_
  refine go_sld (i := p + 2) (q := 359) d_la_law_358 rfl (by omega) (by omega) (by omega) ?_
  refine go_callV (M' := m_mo_bits) (d := rd_mo_bits) (w := rw_mo_bits) (mc := 0) (ms := 0) (as := [mv_I (xs (p + 1)).toInt, mv_I (xs (p + 2)).toInt]) (b := 390) (rest := [mv_I (bw_ (if (xs (p + 1)).toInt = 0 then x.2.1 else x.2.2) (xs (p + 2)).toInt)]) (q := 362) g_mo_bits i_mo_bits v_mo_bits l_la_82 d_la_law_359 rfl rfl rfl ob2 rfl (Nat.le_of_ble_eq_true rfl) ⟨by decide, by decide, by show u.1 + 0 ≤ 601024; omega, by show u.2 + 0 ≤ 7293034; omega⟩ (pm_bits hm1 (xi_b _) (xi_b _)) ?_
  rintro w h2 n2 ⟨rfl, rfl, hf2, hr2⟩ -
  exact go_u0 (go_same (t := 479) d_la_law_362 (by decide) (k h2 ⟨len, tx, told, x, var, 0, ga, gb, g, rc_c hf2 hr, hr2, ht, (hf2 398 (by omega)).trans hg⟩))
theorem la_type (hp : p + 3 ≤ N) (hN : N ≤ 1536) (hu : u.1 ≤ 600999 ∧ u.2 ≤ 7000999) (hs : lsw_ h) (k : ∀ h', lsw_ h' → gow_ l N xs b u 479 p [] h') : gow_ l N xs b u 96 p [] h := by
  obtain ⟨len, tx, told, x, var, c, ga, gb, g, hr, hm, ht, hg⟩ := hs
  obtain ⟨fs1, ob1⟩ := rc_1 hr
  obtain ⟨kk, hkk⟩ := nb_ex (wz_ (xs (p + 1)).toInt (xs (p + 2)).toInt)
  refine go_aload_n (q := 97) d_la_law_96 rfl rfl rfl ?_
  refine go_aload_nX (q := 98) d_la_law_97 rfl rfl rfl ?_
  refine go_iload (q := 100) d_la_law_98 rfl rfl ?_
  refine go_iconst (q := 101) d_la_law_100 rfl ?_
  refine go_iadd (q := 102) d_la_law_101 rfl ?_
  refine go_sld (i := p + 1) (q := 103) d_la_law_102 rfl (by omega) (by omega) (by omega) ?_
  refine go_row1 (q := 107) (q2 := 0) (q3 := 0) d_la_law_103 d_la_law_104 d_la_law_106 rfl (xi_b _) ?_
  refine go_aload_nX (q := 108) d_la_law_107 rfl rfl rfl ?_
  refine go_iload (q := 110) d_la_law_108 rfl rfl ?_
  refine go_iconst (q := 111) d_la_law_110 rfl ?_
  refine go_iadd (q := 112) d_la_law_111 rfl ?_
  refine go_sld (i := p + 2) (q := 113) d_la_law_112 rfl (by omega) (by omega) (by omega) ?_
  refine go_row2 (q := 119) d_la_law_113 d_la_law_114 cl_37 d_la_law_117 d_la_law_118 rfl (xi_b _) ?_
  refine go_callV (M' := m_pn_type) (d := rd_pn_type) (w := rw_pn_type) (mc := 0) (ms := 0) (as := [mv_L (wz_ (xs (p + 1)).toInt (xs (p + 2)).toInt)]) (b := 1) (rest := []) (q := 122) g_pn_type i_pn_type v_pn_type l_la_39 d_la_law_119 rfl rfl rfl ob1 rfl (Nat.le_of_ble_eq_true rfl) ⟨by decide, by decide, by show u.1 + 0 ≤ 601024; omega, by show u.2 + 0 ≤ 7293034; omega⟩ (pc_type hr ht hkk) ?_
  rintro w h1 n1 ⟨rfl, hf1, hq1⟩ -
  have hm1 := rm_c hf1 hm
  obtain ⟨fs2, ob2⟩ := rm_1 hm1
  obtain ⟨w1, rfl⟩ : ∃ z, w = some (mv_I z) := by rcases hq1 with ⟨-, rfl, -⟩ | ⟨-, rfl, -⟩ <;> exact ⟨_, rfl⟩
  refine go_u0 ?_
  refine go_aload_n (q := 123) d_la_law_122 rfl rfl rfl ?_
  refine go_aload_nX (q := 124) d_la_law_123 rfl rfl rfl ?_
  refine go_iload (q := 126) d_la_law_124 rfl rfl ?_
  refine go_iconst (q := 127) d_la_law_126 rfl ?_
  refine go_iadd (q := 128) d_la_law_127 rfl ?_
  refine go_sld (i := p + 1) (q := 129) d_la_law_128 rfl (by omega) (by omega) (by omega) ?_
  refine go_row1 (q := 133) (q2 := 0) (q3 := 0) d_la_law_129 d_la_law_130 d_la_law_132 rfl (xi_b _) ?_
  refine go_aload_nX (q := 134) d_la_law_133 rfl rfl rfl ?_
  refine go_iload (q := 136) d_la_law_134 rfl rfl ?_
  refine go_iconst (q := 137) d_la_law_136 rfl ?_
  refine go_iadd (q := 138) d_la_law_137 rfl ?_
  refine go_sld (i := p + 2) (q := 139) d_la_law_138 rfl (by omega) (by omega) (by omega) ?_
  refine go_row2 (q := 145) d_la_law_139 d_la_law_140 cl_37 d_la_law_143 d_la_law_144 rfl (xi_b _) ?_
  refine go_callV (M' := m_mo_type) (d := rd_mo_type) (w := rw_mo_type) (mc := 0) (ms := 0) (as := [mv_L (wz_ (xs (p + 1)).toInt (xs (p + 2)).toInt)]) (b := 390) (rest := [mv_I w1]) (q := 148) g_mo_type i_mo_type v_mo_type l_la_43 d_la_law_145 rfl rfl rfl ob2 rfl (Nat.le_of_ble_eq_true rfl) ⟨by decide, by decide, by show u.1 + 0 ≤ 601024; omega, by show u.2 + 0 ≤ 7293034; omega⟩ (pm_type hm1 ht (wz_b _ _) hkk) ?_
  rintro w h2 n2 ⟨rfl, hf2, hq2⟩ -
  have hg2 := (hf2 398 (by omega)).trans ((hf1 398 (by omega)).trans hg)
  rcases hq1 with ⟨g1, e1, r1⟩ | ⟨g1, e1, r1⟩
  · rcases hq2 with ⟨g2, rfl, r2⟩ | ⟨g2, rfl, r2⟩
    · obtain rfl : w1 = 1 := by injection e1 with e1; injection e1
      exact go_u0 (go_same (t := 479) d_la_law_148 (by decide) (k h2 ⟨_, _, told, x, var, 0, ga, gb, g, rc_c hf2 r1, r2, tk_tu ht g1.1 g1.2, hg2⟩))
    · exact absurd g1 g2
  · rcases hq2 with ⟨g2, rfl, r2⟩ | ⟨g2, rfl, r2⟩
    · exact absurd g2 g1
    · obtain rfl : w1 = 0 := by injection e1 with e1; injection e1
      exact go_u0 (go_same (t := 479) d_la_law_148 (by decide) (k h2 ⟨_, _, told, x, var, 0, ga, gb, g, rc_c hf2 r1, r2, ht, hg2⟩))
end LaLoop
