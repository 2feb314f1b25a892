/-! the law's arms with handlers: work, keep, against, fetch -/
section LaArms
variable {l : Launch} {N : Nat} {xs : Nat → Int32} {b p : Nat} {h : mv_H} {u : Nat × Nat} {len : Nat} {tx ga gb g : Nat → Int} {told : Int} {x : qv_} {var : Nat → qv_}
theorem lt_work {c1 z6 : Int} (hu : u.1 ≤ 601000 ∧ u.2 ≤ 7001005) (hc : 0 ≤ c1 ∧ c1 ≤ 5) (hm : rm_ h 390 c1 len tx told x var) (hg : h 398 = mv_A 1 1 g) (hz : c1 = 0 → g 0 = z6 ∧ -2147483648 ≤ z6 ∧ z6 ≤ 2147483647) (k : gow_ l N xs b u 479 p [] h) : Go (go_xx N xs (go_le b)) l m_la_law room_1 u 190 [some (mv_X 9), some (mv_R 1), some (mv_R 390), some (mv_R 398), some (mv_I (p : Int)), some (mv_I c1), none] [mv_I z6] h 399 := by
  obtain ⟨fs2, ob2⟩ := rm_1 hm
  have tl : Go (go_xx N xs (go_le b)) l m_la_law room_1 u 220 [some (mv_X 9), some (mv_R 1), some (mv_R 390), some (mv_R 398), some (mv_I (p : Int)), some (mv_I c1), some (mv_I z6)] [] h 399 := go_fg (L' := [some (mv_X 9), some (mv_R 1), some (mv_R 390), some (mv_R 398), some (mv_I (p : Int)), none, some (mv_I z6)]) 5 rfl (go_fg (L' := low_ p) 6 rfl (go_goto (q := 479) d_la_law_220 (by decide) k))
  refine go_istore (q := 192) (L' := [some (mv_X 9), some (mv_R 1), some (mv_R 390), some (mv_R 398), some (mv_I (p : Int)), some (mv_I c1), some (mv_I z6)]) d_la_law_190 rfl (by decide) rfl ?_
  refine go_aload_n (q := 193) d_la_law_192 rfl rfl rfl ?_
  refine go_callV (M' := m_mo_thrown) (d := rd_mo_thrown) (w := rw_mo_thrown) (mc := 0) (ms := 0) (as := []) (b := 390) (rest := []) (q := 196) g_mo_thrown i_mo_thrown v_mo_thrown l_la_58 d_la_law_193 rfl rfl rfl ob2 rfl (by decide) ⟨by decide, by decide, by show u.1 + 0 ≤ 601024; omega, by show u.2 + 0 ≤ 7293034; omega⟩ (pm_thrown hm) ?_
  rintro w h1 n1 ⟨rfl, rfl, rfl⟩ -
  refine go_u0 ?_
  refine go_iload (q := 198) d_la_law_196 rfl rfl ?_
  refine go_same (t := 203) d_la_law_198 (by decide) ?_
  refine go_iload (q := 205) d_la_law_203 rfl rfl ?_
  refine go_if_ne (t := 220) (q := 208) d_la_law_205 (by decide) rfl (by omega) (fun _ => tl) (fun c => ?_)
  obtain ⟨z1, z2⟩ := hz c
  refine go_aload_n (q := 209) d_la_law_208 rfl rfl rfl ?_
  refine go_iconst (q := 210) d_la_law_209 rfl ?_
  refine go_lald (N := 1) (f := g) (i := 0) (q := 211) d_la_law_210 rfl hg rfl (by decide) (by decide) ?_
  refine go_iload (q := 213) d_la_law_211 rfl rfl ?_
  refine go_i2l (q := 214) d_la_law_213 rfl z2 ?_
  refine go_lcmp (q := 215) d_la_law_214 rfl (by omega) (by omega) ?_
  rw [if_neg (by omega), if_pos z1]
  exact go_if_eq (t := 220) (q := 218) d_la_law_215 (by decide) rfl (by decide) (fun _ => tl) (fun c => absurd rfl c)
theorem la_work (hl : l.stackTraces = false) (hp : p + 3 ≤ N) (hN : N ≤ 1536) (hu : u.1 ≤ 600999 ∧ u.2 ≤ 7000999) (hs : lsw_ h) (k : ∀ h', lsw_ h' → gow_ l N xs b (u.1 + 1, u.2 + 6) 479 p [] h') : gow_ l N xs b u 179 p [] h := by
  obtain ⟨len, tx, told, x, var, c, ga, gb, g, hr, hm, ht, hg⟩ := hs
  refine go_aload_n (q := 180) d_la_law_179 rfl rfl rfl ?_
  refine go_aload_n (q := 181) d_la_law_180 rfl rfl rfl ?_
  by_cases he : gr_ tx len len 0 0 ga gb = -1
  · obtain ⟨r, hE⟩ := ev_all (fun _ => (0, 0, 1)) ht.1 (rm_v hm).2 he
    have hrb := ex_b hE
    have hcs : r.1 = 0 ∨ r.1 = 1 ∨ r.1 = 2 ∨ r.1 = 3 := by omega
    rcases hcs with h0 | h0 | h0 | h0
    · refine go_callSW (np := 2) (M' := m_la_work) (hh := hh_la_work) (d := rd_la_work) (w := rw_la_work) (mc := 1) (ms := 6) (as := [mv_R 1, mv_R 398]) (rest := []) (q := 184) cw_la_work in_la ⟨by decide, by decide⟩ (by decide +kernel) s_la_work l_la_52 d_la_law_181 rfl rfl rfl (by decide) ⟨by decide, by decide, by show u.1 + 1 ≤ 601024; omega, by show u.2 + 6 ≤ 7293034; omega⟩ (lh_work0 hl hr hg ht he hE h0) ?_
      rintro w h1 n1 ⟨rfl, hf1, rfl, g1, ga1, gb1, hg1, hz1, hr1⟩ -
      have hm1 := rm_k hm (fun j a b => hf1 j (by omega) (by omega))
      obtain ⟨fs2, ob2⟩ := rm_1 hm1
      refine go_istore (q := 186) (L' := [some (mv_X 9), some (mv_R 1), some (mv_R 390), some (mv_R 398), some (mv_I (p : Int)), some (mv_I 0), none]) d_la_law_184 rfl (by decide) rfl ?_
      refine go_aload_n (q := 187) d_la_law_186 rfl rfl rfl ?_
      refine go_callV (M' := m_mo_work) (d := rd_mo_work) (w := rw_mo_work) (mc := 0) (ms := 0) (as := []) (b := 390) (rest := []) (q := 190) g_mo_work i_mo_work v_mo_work l_la_57 d_la_law_187 rfl rfl rfl ob2 rfl (by decide) ⟨by decide, by decide, by show u.1 + 1 + 0 ≤ 601024; omega, by show u.2 + 6 + 0 ≤ 7293034; omega⟩ (pm_work (g := ga) (b := gb) hm1 ht (fun _ => hE)) ?_
      rintro w h2 n2 ⟨rfl, hf2, hw2⟩ -
      rcases hw2 with ⟨e1, rfl, hr2⟩ | ⟨e1, e2, rfl, hr2⟩ | ⟨e1, e2, rfl, hr2⟩
      · exact absurd he e1
      · exact absurd h0 e2
      · exact go_u0 (lt_work (c1 := 0) (by show u.1 + 1 ≤ 601000 ∧ u.2 + 6 ≤ 7001005; omega) (by decide) hr2 ((hf2 398 (by omega)).trans hg1) (fun _ => ⟨hz1, by have := qf_b r.2; omega⟩) (k h2 ⟨len, tx, -1, r.2, var, 0, ga1, gb1, g1, rc_c hf2 hr1, hr2, ht, (hf2 398 (by omega)).trans hg1⟩))
    · refine go_callSW (np := 2) (M' := m_la_work) (hh := hh_la_work) (d := rd_la_work) (w := rw_la_work) (mc := 1) (ms := 6) (as := [mv_R 1, mv_R 398]) (rest := []) (q := 184) cw_la_work in_la ⟨by decide, by decide⟩ (by decide +kernel) s_la_work l_la_52 d_la_law_181 rfl rfl rfl (by decide) ⟨by decide, by decide, by show u.1 + 1 ≤ 601024; omega, by show u.2 + 6 ≤ 7293034; omega⟩ (lh_work1 hl hr hg ht he hE h0) ?_
      rintro w h1 n1 ⟨rfl, hf1, rfl, g1, ga1, gb1, hg1, hr1⟩ -
      have hm1 := rm_k hm (fun j a b => hf1 j (by omega) (by omega))
      obtain ⟨fs2, ob2⟩ := rm_1 hm1
      refine go_istore (q := 186) (L' := [some (mv_X 9), some (mv_R 1), some (mv_R 390), some (mv_R 398), some (mv_I (p : Int)), some (mv_I 2), none]) d_la_law_184 rfl (by decide) rfl ?_
      refine go_aload_n (q := 187) d_la_law_186 rfl rfl rfl ?_
      refine go_callV (M' := m_mo_work) (d := rd_mo_work) (w := rw_mo_work) (mc := 0) (ms := 0) (as := []) (b := 390) (rest := []) (q := 190) g_mo_work i_mo_work v_mo_work l_la_57 d_la_law_187 rfl rfl rfl ob2 rfl (by decide) ⟨by decide, by decide, by show u.1 + 1 + 0 ≤ 601024; omega, by show u.2 + 6 + 0 ≤ 7293034; omega⟩ (pm_work (g := ga) (b := gb) hm1 ht (fun _ => hE)) ?_
      rintro w h2 n2 ⟨rfl, hf2, hw2⟩ -
      rcases hw2 with ⟨e1, rfl, hr2⟩ | ⟨e1, e2, rfl, hr2⟩ | ⟨e1, e2, rfl, hr2⟩
      · exact absurd he e1
      · rw [h0] at hr2
        exact go_u0 (lt_work (c1 := 2) (by show u.1 + 1 ≤ 601000 ∧ u.2 + 6 ≤ 7001005; omega) (by decide) hr2 ((hf2 398 (by omega)).trans hg1) (fun z => absurd z (by decide)) (k h2 ⟨len, tx, -1, x, var, _, ga1, gb1, g1, rc_c hf2 hr1, hr2, ht, (hf2 398 (by omega)).trans hg1⟩))
      · exact absurd (h0.symm.trans e2) (by decide)
    · refine go_callSW (np := 2) (M' := m_la_work) (hh := hh_la_work) (d := rd_la_work) (w := rw_la_work) (mc := 1) (ms := 6) (as := [mv_R 1, mv_R 398]) (rest := []) (q := 184) cw_la_work in_la ⟨by decide, by decide⟩ (by decide +kernel) s_la_work l_la_52 d_la_law_181 rfl rfl rfl (by decide) ⟨by decide, by decide, by show u.1 + 1 ≤ 601024; omega, by show u.2 + 6 ≤ 7293034; omega⟩ (lh_work2 hl hr hg ht he hE h0) ?_
      rintro w h1 n1 ⟨rfl, hf1, rfl, g1, ga1, gb1, hg1, hr1⟩ -
      have hm1 := rm_k hm (fun j a b => hf1 j (by omega) (by omega))
      obtain ⟨fs2, ob2⟩ := rm_1 hm1
      refine go_istore (q := 186) (L' := [some (mv_X 9), some (mv_R 1), some (mv_R 390), some (mv_R 398), some (mv_I (p : Int)), some (mv_I 3), none]) d_la_law_184 rfl (by decide) rfl ?_
      refine go_aload_n (q := 187) d_la_law_186 rfl rfl rfl ?_
      refine go_callV (M' := m_mo_work) (d := rd_mo_work) (w := rw_mo_work) (mc := 0) (ms := 0) (as := []) (b := 390) (rest := []) (q := 190) g_mo_work i_mo_work v_mo_work l_la_57 d_la_law_187 rfl rfl rfl ob2 rfl (by decide) ⟨by decide, by decide, by show u.1 + 1 + 0 ≤ 601024; omega, by show u.2 + 6 + 0 ≤ 7293034; omega⟩ (pm_work (g := ga) (b := gb) hm1 ht (fun _ => hE)) ?_
      rintro w h2 n2 ⟨rfl, hf2, hw2⟩ -
      rcases hw2 with ⟨e1, rfl, hr2⟩ | ⟨e1, e2, rfl, hr2⟩ | ⟨e1, e2, rfl, hr2⟩
      · exact absurd he e1
      · rw [h0] at hr2
        exact go_u0 (lt_work (c1 := 3) (by show u.1 + 1 ≤ 601000 ∧ u.2 + 6 ≤ 7001005; omega) (by decide) hr2 ((hf2 398 (by omega)).trans hg1) (fun z => absurd z (by decide)) (k h2 ⟨len, tx, -1, x, var, _, ga1, gb1, g1, rc_c hf2 hr1, hr2, ht, (hf2 398 (by omega)).trans hg1⟩))
      · exact absurd (h0.symm.trans e2) (by decide)
    · refine go_callSW (np := 2) (M' := m_la_work) (hh := hh_la_work) (d := rd_la_work) (w := rw_la_work) (mc := 1) (ms := 6) (as := [mv_R 1, mv_R 398]) (rest := []) (q := 184) cw_la_work in_la ⟨by decide, by decide⟩ (by decide +kernel) s_la_work l_la_52 d_la_law_181 rfl rfl rfl (by decide) ⟨by decide, by decide, by show u.1 + 1 ≤ 601024; omega, by show u.2 + 6 ≤ 7293034; omega⟩ (lh_work3 hl hr hg ht he hE h0) ?_
      rintro w h1 n1 ⟨rfl, hf1, rfl, g1, ga1, gb1, hg1, hr1⟩ -
      have hm1 := rm_k hm (fun j a b => hf1 j (by omega) (by omega))
      obtain ⟨fs2, ob2⟩ := rm_1 hm1
      refine go_istore (q := 186) (L' := [some (mv_X 9), some (mv_R 1), some (mv_R 390), some (mv_R 398), some (mv_I (p : Int)), some (mv_I 4), none]) d_la_law_184 rfl (by decide) rfl ?_
      refine go_aload_n (q := 187) d_la_law_186 rfl rfl rfl ?_
      refine go_callV (M' := m_mo_work) (d := rd_mo_work) (w := rw_mo_work) (mc := 0) (ms := 0) (as := []) (b := 390) (rest := []) (q := 190) g_mo_work i_mo_work v_mo_work l_la_57 d_la_law_187 rfl rfl rfl ob2 rfl (by decide) ⟨by decide, by decide, by show u.1 + 1 + 0 ≤ 601024; omega, by show u.2 + 6 + 0 ≤ 7293034; omega⟩ (pm_work (g := ga) (b := gb) hm1 ht (fun _ => hE)) ?_
      rintro w h2 n2 ⟨rfl, hf2, hw2⟩ -
      rcases hw2 with ⟨e1, rfl, hr2⟩ | ⟨e1, e2, rfl, hr2⟩ | ⟨e1, e2, rfl, hr2⟩
      · exact absurd he e1
      · rw [h0] at hr2
        exact go_u0 (lt_work (c1 := 4) (by show u.1 + 1 ≤ 601000 ∧ u.2 + 6 ≤ 7001005; omega) (by decide) hr2 ((hf2 398 (by omega)).trans hg1) (fun z => absurd z (by decide)) (k h2 ⟨len, tx, -1, x, var, _, ga1, gb1, g1, rc_c hf2 hr1, hr2, ht, (hf2 398 (by omega)).trans hg1⟩))
      · exact absurd (h0.symm.trans e2) (by decide)
  · refine go_callSW (np := 2) (M' := m_la_work) (hh := hh_la_work) (d := rd_la_work) (w := rw_la_work) (mc := 1) (ms := 6) (as := [mv_R 1, mv_R 398]) (rest := []) (q := 184) cw_la_work in_la ⟨by decide, by decide⟩ (by decide +kernel) s_la_work l_la_52 d_la_law_181 rfl rfl rfl (by decide) ⟨by decide, by decide, by show u.1 + 1 ≤ 601024; omega, by show u.2 + 6 ≤ 7293034; omega⟩ (lh_workE hl hr hg ht he) ?_
    rintro w h1 n1 ⟨rfl, hf1, rfl, g1, ga1, gb1, hg1, hr1⟩ -
    have hm1 := rm_k hm (fun j a b => hf1 j (by omega) (by omega))
    obtain ⟨fs2, ob2⟩ := rm_1 hm1
    refine go_istore (q := 186) (L' := [some (mv_X 9), some (mv_R 1), some (mv_R 390), some (mv_R 398), some (mv_I (p : Int)), some (mv_I 1), none]) d_la_law_184 rfl (by decide) rfl ?_
    refine go_aload_n (q := 187) d_la_law_186 rfl rfl rfl ?_
    refine go_callV (M' := m_mo_work) (d := rd_mo_work) (w := rw_mo_work) (mc := 0) (ms := 0) (as := []) (b := 390) (rest := []) (q := 190) g_mo_work i_mo_work v_mo_work l_la_57 d_la_law_187 rfl rfl rfl ob2 rfl (by decide) ⟨by decide, by decide, by show u.1 + 1 + 0 ≤ 601024; omega, by show u.2 + 6 + 0 ≤ 7293034; omega⟩ (pm_work (g := ga) (b := gb) (f := fun _ => (0, 0, 1)) (r := (0, (0, 0, 1))) hm1 ht (fun z => absurd z he)) ?_
    rintro w h2 n2 ⟨rfl, hf2, hw2⟩ -
    rcases hw2 with ⟨e1, rfl, hr2⟩ | ⟨e1, e2, rfl, hr2⟩ | ⟨e1, e2, rfl, hr2⟩
    · exact go_u0 (lt_work (c1 := 1) (by show u.1 + 1 ≤ 601000 ∧ u.2 + 6 ≤ 7001005; omega) (by decide) hr2 ((hf2 398 (by omega)).trans hg1) (fun z => absurd z (by decide)) (k h2 ⟨len, tx, gr_ tx len len 0 0 ga gb, x, var, _, ga1, gb1, g1, rc_c hf2 hr1, hr2, ht, (hf2 398 (by omega)).trans hg1⟩))
    · exact absurd e1 he
    · exact absurd e1 he
theorem lt_keep {c1 z6 : Int} (hu : u.1 ≤ 601000 ∧ u.2 ≤ 7001005) (hc : 0 ≤ c1 ∧ c1 ≤ 5) (hm : rm_ h 390 c1 len tx told x var) (hg : h 398 = mv_A 1 1 g) (hz : c1 = 0 → g 0 = z6 ∧ -2147483648 ≤ z6 ∧ z6 ≤ 2147483647) (k : gow_ l N xs b u 479 p [] h) : Go (go_xx N xs (go_le b)) l m_la_law room_1 u 246 [some (mv_X 9), some (mv_R 1), some (mv_R 390), some (mv_R 398), some (mv_I (p : Int)), some (mv_I c1), none] [mv_I z6] h 399 := by
  obtain ⟨fs2, ob2⟩ := rm_1 hm
  have tl : Go (go_xx N xs (go_le b)) l m_la_law room_1 u 276 [some (mv_X 9), some (mv_R 1), some (mv_R 390), some (mv_R 398), some (mv_I (p : Int)), some (mv_I c1), some (mv_I z6)] [] h 399 := go_fg (L' := [some (mv_X 9), some (mv_R 1), some (mv_R 390), some (mv_R 398), some (mv_I (p : Int)), none, some (mv_I z6)]) 5 rfl (go_fg (L' := low_ p) 6 rfl (go_goto (q := 479) d_la_law_276 (by decide) k))
  refine go_istore (q := 248) (L' := [some (mv_X 9), some (mv_R 1), some (mv_R 390), some (mv_R 398), some (mv_I (p : Int)), some (mv_I c1), some (mv_I z6)]) d_la_law_246 rfl (by decide) rfl ?_
  refine go_aload_n (q := 249) d_la_law_248 rfl rfl rfl ?_
  refine go_callV (M' := m_mo_thrown) (d := rd_mo_thrown) (w := rw_mo_thrown) (mc := 0) (ms := 0) (as := []) (b := 390) (rest := []) (q := 252) g_mo_thrown i_mo_thrown v_mo_thrown l_la_58 d_la_law_249 rfl rfl rfl ob2 rfl (by decide) ⟨by decide, by decide, by show u.1 + 0 ≤ 601024; omega, by show u.2 + 0 ≤ 7293034; omega⟩ (pm_thrown hm) ?_
  rintro w h1 n1 ⟨rfl, rfl, rfl⟩ -
  refine go_u0 ?_
  refine go_iload (q := 254) d_la_law_252 rfl rfl ?_
  refine go_same (t := 259) d_la_law_254 (by decide) ?_
  refine go_iload (q := 261) d_la_law_259 rfl rfl ?_
  refine go_if_ne (t := 276) (q := 264) d_la_law_261 (by decide) rfl (by omega) (fun _ => tl) (fun c => ?_)
  obtain ⟨z1, z2⟩ := hz c
  refine go_aload_n (q := 265) d_la_law_264 rfl rfl rfl ?_
  refine go_iconst (q := 266) d_la_law_265 rfl ?_
  refine go_lald (N := 1) (f := g) (i := 0) (q := 267) d_la_law_266 rfl hg rfl (by decide) (by decide) ?_
  refine go_iload (q := 269) d_la_law_267 rfl rfl ?_
  refine go_i2l (q := 270) d_la_law_269 rfl z2 ?_
  refine go_lcmp (q := 271) d_la_law_270 rfl (by omega) (by omega) ?_
  rw [if_neg (by omega), if_pos z1]
  exact go_if_eq (t := 276) (q := 274) d_la_law_271 (by decide) rfl (by decide) (fun _ => tl) (fun c => absurd rfl c)
theorem la_keep (hl : l.stackTraces = false) (hp : p + 3 ≤ N) (hN : N ≤ 1536) (hu : u.1 ≤ 600999 ∧ u.2 ≤ 7000999) (hs : lsw_ h) (k : ∀ h', lsw_ h' → gow_ l N xs b (u.1 + 1, u.2 + 6) 479 p [] h') : gow_ l N xs b u 223 p [] h := by
  obtain ⟨len, tx, told, x, var, c, ga, gb, g, hr, hm, ht, hg⟩ := hs
  refine go_aload_n (q := 224) d_la_law_223 rfl rfl rfl ?_
  refine go_aload_nX (q := 225) d_la_law_224 rfl rfl rfl ?_
  refine go_iload (q := 227) d_la_law_225 rfl rfl ?_
  refine go_iconst (q := 228) d_la_law_227 rfl ?_
  refine go_iadd (q := 229) d_la_law_228 rfl ?_
  refine go_sld (i := p + 1) (q := 230) d_la_law_229 rfl (by omega) (by omega) (by omega) ?_
  refine go_aload_n (q := 231) d_la_law_230 rfl rfl rfl ?_
  by_cases hv : 0 ≤ (xs (p + 1)).toInt ∧ (xs (p + 1)).toInt < 8
  · by_cases he : gr_ tx len len 0 0 ga gb = -1
    · obtain ⟨r, hE⟩ := ev_all (fun _ => (0, 0, 1)) ht.1 (rm_v hm).2 he
      have hrb := ex_b hE
      have hcs : r.1 = 0 ∨ r.1 = 1 ∨ r.1 = 2 ∨ r.1 = 3 := by omega
      rcases hcs with h0 | h0 | h0 | h0
      · refine go_callSW (np := 3) (M' := m_la_keep) (hh := hh_la_keep) (d := rd_la_keep) (w := rw_la_keep) (mc := 1) (ms := 6) (as := [mv_R 1, mv_I (xs (p + 1)).toInt, mv_R 398]) (rest := []) (q := 234) cw_la_keep in_la ⟨by decide, by decide⟩ (by decide +kernel) s_la_keep l_la_61 d_la_law_231 rfl rfl rfl (by decide) ⟨by decide, by decide, by show u.1 + 1 ≤ 601024; omega, by show u.2 + 6 ≤ 7293034; omega⟩ (lh_keep0 hl hr hg hv ht he hE h0) ?_
        rintro w h1 n1 ⟨rfl, hf1, rfl, g1, ga1, gb1, hg1, hz1, hr1⟩ -
        have hm1 := rm_k hm (fun j a b => hf1 j (by omega) (by omega))
        obtain ⟨fs2, ob2⟩ := rm_1 hm1
        refine go_istore (q := 236) (L' := [some (mv_X 9), some (mv_R 1), some (mv_R 390), some (mv_R 398), some (mv_I (p : Int)), some (mv_I 0), none]) d_la_law_234 rfl (by decide) rfl ?_
        refine go_aload_n (q := 237) d_la_law_236 rfl rfl rfl ?_
        refine go_aload_nX (q := 238) d_la_law_237 rfl rfl rfl ?_
        refine go_iload (q := 240) d_la_law_238 rfl rfl ?_
        refine go_iconst (q := 241) d_la_law_240 rfl ?_
        refine go_iadd (q := 242) d_la_law_241 rfl ?_
        refine go_sld (i := p + 1) (q := 243) d_la_law_242 rfl (by omega) (by omega) (by omega) ?_
        refine go_callV (M' := m_mo_keep) (d := rd_mo_keep) (w := rw_mo_keep) (mc := 0) (ms := 0) (as := [mv_I (xs (p + 1)).toInt]) (b := 390) (rest := []) (q := 246) g_mo_keep i_mo_keep v_mo_keep l_la_64 d_la_law_243 rfl rfl rfl ob2 rfl (by decide) ⟨by decide, by decide, by show u.1 + 1 + 0 ≤ 601024; omega, by show u.2 + 6 + 0 ≤ 7293034; omega⟩ (pm_keep (g := ga) (b := gb) hm1 ht (xi_b _) (fun _ => hE)) ?_
        rintro w h2 n2 ⟨rfl, hf2, ⟨z6, rfl⟩, hw2⟩ -
        rcases hw2 with ⟨e0, hr2⟩ | ⟨e0, e1, hr2⟩ | ⟨e0, e1, e2, hr2⟩ | ⟨e0, e1, e2, e3, hr2⟩
        · exact absurd hv e0
        · exact absurd he e1
        · exact absurd h0 e2
        · obtain rfl : z6 = q_form r.2 := by injection e3 with e3; injection e3
          exact go_u0 (lt_keep (c1 := 0) (by show u.1 + 1 ≤ 601000 ∧ u.2 + 6 ≤ 7001005; omega) (by decide) hr2 ((hf2 398 (by omega)).trans hg1) (fun _ => ⟨hz1, by have := qf_b r.2; omega⟩) (k h2 ⟨0, tx, -1, r.2, va_up var (xs (p + 1)).toInt.toNat r.2, 0, ga1, gb1, g1, rc_c hf2 hr1, hr2, tk_0 ht, (hf2 398 (by omega)).trans hg1⟩))
      · refine go_callSW (np := 3) (M' := m_la_keep) (hh := hh_la_keep) (d := rd_la_keep) (w := rw_la_keep) (mc := 1) (ms := 6) (as := [mv_R 1, mv_I (xs (p + 1)).toInt, mv_R 398]) (rest := []) (q := 234) cw_la_keep in_la ⟨by decide, by decide⟩ (by decide +kernel) s_la_keep l_la_61 d_la_law_231 rfl rfl rfl (by decide) ⟨by decide, by decide, by show u.1 + 1 ≤ 601024; omega, by show u.2 + 6 ≤ 7293034; omega⟩ (lh_keep1 hl hr hg hv ht he hE h0) ?_
        rintro w h1 n1 ⟨rfl, hf1, rfl, g1, ga1, gb1, hg1, hr1⟩ -
        have hm1 := rm_k hm (fun j a b => hf1 j (by omega) (by omega))
        obtain ⟨fs2, ob2⟩ := rm_1 hm1
        refine go_istore (q := 236) (L' := [some (mv_X 9), some (mv_R 1), some (mv_R 390), some (mv_R 398), some (mv_I (p : Int)), some (mv_I 3), none]) d_la_law_234 rfl (by decide) rfl ?_
        refine go_aload_n (q := 237) d_la_law_236 rfl rfl rfl ?_
        refine go_aload_nX (q := 238) d_la_law_237 rfl rfl rfl ?_
        refine go_iload (q := 240) d_la_law_238 rfl rfl ?_
        refine go_iconst (q := 241) d_la_law_240 rfl ?_
        refine go_iadd (q := 242) d_la_law_241 rfl ?_
        refine go_sld (i := p + 1) (q := 243) d_la_law_242 rfl (by omega) (by omega) (by omega) ?_
        refine go_callV (M' := m_mo_keep) (d := rd_mo_keep) (w := rw_mo_keep) (mc := 0) (ms := 0) (as := [mv_I (xs (p + 1)).toInt]) (b := 390) (rest := []) (q := 246) g_mo_keep i_mo_keep v_mo_keep l_la_64 d_la_law_243 rfl rfl rfl ob2 rfl (by decide) ⟨by decide, by decide, by show u.1 + 1 + 0 ≤ 601024; omega, by show u.2 + 6 + 0 ≤ 7293034; omega⟩ (pm_keep (g := ga) (b := gb) hm1 ht (xi_b _) (fun _ => hE)) ?_
        rintro w h2 n2 ⟨rfl, hf2, ⟨z6, rfl⟩, hw2⟩ -
        rcases hw2 with ⟨e0, hr2⟩ | ⟨e0, e1, hr2⟩ | ⟨e0, e1, e2, hr2⟩ | ⟨e0, e1, e2, e3, hr2⟩
        · exact absurd hv e0
        · exact absurd he e1
        · rw [h0] at hr2
          exact go_u0 (lt_keep (c1 := 3) (by show u.1 + 1 ≤ 601000 ∧ u.2 + 6 ≤ 7001005; omega) (by decide) hr2 ((hf2 398 (by omega)).trans hg1) (fun z => absurd z (by decide)) (k h2 ⟨len, tx, -1, x, var, _, ga1, gb1, g1, rc_c hf2 hr1, hr2, ht, (hf2 398 (by omega)).trans hg1⟩))
        · exact absurd (h0.symm.trans e2) (by decide)
      · refine go_callSW (np := 3) (M' := m_la_keep) (hh := hh_la_keep) (d := rd_la_keep) (w := rw_la_keep) (mc := 1) (ms := 6) (as := [mv_R 1, mv_I (xs (p + 1)).toInt, mv_R 398]) (rest := []) (q := 234) cw_la_keep in_la ⟨by decide, by decide⟩ (by decide +kernel) s_la_keep l_la_61 d_la_law_231 rfl rfl rfl (by decide) ⟨by decide, by decide, by show u.1 + 1 ≤ 601024; omega, by show u.2 + 6 ≤ 7293034; omega⟩ (lh_keep2 hl hr hg hv ht he hE h0) ?_
        rintro w h1 n1 ⟨rfl, hf1, rfl, g1, ga1, gb1, hg1, hr1⟩ -
        have hm1 := rm_k hm (fun j a b => hf1 j (by omega) (by omega))
        obtain ⟨fs2, ob2⟩ := rm_1 hm1
        refine go_istore (q := 236) (L' := [some (mv_X 9), some (mv_R 1), some (mv_R 390), some (mv_R 398), some (mv_I (p : Int)), some (mv_I 4), none]) d_la_law_234 rfl (by decide) rfl ?_
        refine go_aload_n (q := 237) d_la_law_236 rfl rfl rfl ?_
        refine go_aload_nX (q := 238) d_la_law_237 rfl rfl rfl ?_
        refine go_iload (q := 240) d_la_law_238 rfl rfl ?_
        refine go_iconst (q := 241) d_la_law_240 rfl ?_
        refine go_iadd (q := 242) d_la_law_241 rfl ?_
        refine go_sld (i := p + 1) (q := 243) d_la_law_242 rfl (by omega) (by omega) (by omega) ?_
        refine go_callV (M' := m_mo_keep) (d := rd_mo_keep) (w := rw_mo_keep) (mc := 0) (ms := 0) (as := [mv_I (xs (p + 1)).toInt]) (b := 390) (rest := []) (q := 246) g_mo_keep i_mo_keep v_mo_keep l_la_64 d_la_law_243 rfl rfl rfl ob2 rfl (by decide) ⟨by decide, by decide, by show u.1 + 1 + 0 ≤ 601024; omega, by show u.2 + 6 + 0 ≤ 7293034; omega⟩ (pm_keep (g := ga) (b := gb) hm1 ht (xi_b _) (fun _ => hE)) ?_
        rintro w h2 n2 ⟨rfl, hf2, ⟨z6, rfl⟩, hw2⟩ -
        rcases hw2 with ⟨e0, hr2⟩ | ⟨e0, e1, hr2⟩ | ⟨e0, e1, e2, hr2⟩ | ⟨e0, e1, e2, e3, hr2⟩
        · exact absurd hv e0
        · exact absurd he e1
        · rw [h0] at hr2
          exact go_u0 (lt_keep (c1 := 4) (by show u.1 + 1 ≤ 601000 ∧ u.2 + 6 ≤ 7001005; omega) (by decide) hr2 ((hf2 398 (by omega)).trans hg1) (fun z => absurd z (by decide)) (k h2 ⟨len, tx, -1, x, var, _, ga1, gb1, g1, rc_c hf2 hr1, hr2, ht, (hf2 398 (by omega)).trans hg1⟩))
        · exact absurd (h0.symm.trans e2) (by decide)
      · refine go_callSW (np := 3) (M' := m_la_keep) (hh := hh_la_keep) (d := rd_la_keep) (w := rw_la_keep) (mc := 1) (ms := 6) (as := [mv_R 1, mv_I (xs (p + 1)).toInt, mv_R 398]) (rest := []) (q := 234) cw_la_keep in_la ⟨by decide, by decide⟩ (by decide +kernel) s_la_keep l_la_61 d_la_law_231 rfl rfl rfl (by decide) ⟨by decide, by decide, by show u.1 + 1 ≤ 601024; omega, by show u.2 + 6 ≤ 7293034; omega⟩ (lh_keep3 hl hr hg hv ht he hE h0) ?_
        rintro w h1 n1 ⟨rfl, hf1, rfl, g1, ga1, gb1, hg1, hr1⟩ -
        have hm1 := rm_k hm (fun j a b => hf1 j (by omega) (by omega))
        obtain ⟨fs2, ob2⟩ := rm_1 hm1
        refine go_istore (q := 236) (L' := [some (mv_X 9), some (mv_R 1), some (mv_R 390), some (mv_R 398), some (mv_I (p : Int)), some (mv_I 5), none]) d_la_law_234 rfl (by decide) rfl ?_
        refine go_aload_n (q := 237) d_la_law_236 rfl rfl rfl ?_
        refine go_aload_nX (q := 238) d_la_law_237 rfl rfl rfl ?_
        refine go_iload (q := 240) d_la_law_238 rfl rfl ?_
        refine go_iconst (q := 241) d_la_law_240 rfl ?_
        refine go_iadd (q := 242) d_la_law_241 rfl ?_
        refine go_sld (i := p + 1) (q := 243) d_la_law_242 rfl (by omega) (by omega) (by omega) ?_
        refine go_callV (M' := m_mo_keep) (d := rd_mo_keep) (w := rw_mo_keep) (mc := 0) (ms := 0) (as := [mv_I (xs (p + 1)).toInt]) (b := 390) (rest := []) (q := 246) g_mo_keep i_mo_keep v_mo_keep l_la_64 d_la_law_243 rfl rfl rfl ob2 rfl (by decide) ⟨by decide, by decide, by show u.1 + 1 + 0 ≤ 601024; omega, by show u.2 + 6 + 0 ≤ 7293034; omega⟩ (pm_keep (g := ga) (b := gb) hm1 ht (xi_b _) (fun _ => hE)) ?_
        rintro w h2 n2 ⟨rfl, hf2, ⟨z6, rfl⟩, hw2⟩ -
        rcases hw2 with ⟨e0, hr2⟩ | ⟨e0, e1, hr2⟩ | ⟨e0, e1, e2, hr2⟩ | ⟨e0, e1, e2, e3, hr2⟩
        · exact absurd hv e0
        · exact absurd he e1
        · rw [h0] at hr2
          exact go_u0 (lt_keep (c1 := 5) (by show u.1 + 1 ≤ 601000 ∧ u.2 + 6 ≤ 7001005; omega) (by decide) hr2 ((hf2 398 (by omega)).trans hg1) (fun z => absurd z (by decide)) (k h2 ⟨len, tx, -1, x, var, _, ga1, gb1, g1, rc_c hf2 hr1, hr2, ht, (hf2 398 (by omega)).trans hg1⟩))
        · exact absurd (h0.symm.trans e2) (by decide)
    · refine go_callSW (np := 3) (M' := m_la_keep) (hh := hh_la_keep) (d := rd_la_keep) (w := rw_la_keep) (mc := 1) (ms := 6) (as := [mv_R 1, mv_I (xs (p + 1)).toInt, mv_R 398]) (rest := []) (q := 234) cw_la_keep in_la ⟨by decide, by decide⟩ (by decide +kernel) s_la_keep l_la_61 d_la_law_231 rfl rfl rfl (by decide) ⟨by decide, by decide, by show u.1 + 1 ≤ 601024; omega, by show u.2 + 6 ≤ 7293034; omega⟩ (lh_keepE hl hr hg hv ht he) ?_
      rintro w h1 n1 ⟨rfl, hf1, rfl, g1, ga1, gb1, hg1, hr1⟩ -
      have hm1 := rm_k hm (fun j a b => hf1 j (by omega) (by omega))
      obtain ⟨fs2, ob2⟩ := rm_1 hm1
      refine go_istore (q := 236) (L' := [some (mv_X 9), some (mv_R 1), some (mv_R 390), some (mv_R 398), some (mv_I (p : Int)), some (mv_I 2), none]) d_la_law_234 rfl (by decide) rfl ?_
      refine go_aload_n (q := 237) d_la_law_236 rfl rfl rfl ?_
      refine go_aload_nX (q := 238) d_la_law_237 rfl rfl rfl ?_
      refine go_iload (q := 240) d_la_law_238 rfl rfl ?_
      refine go_iconst (q := 241) d_la_law_240 rfl ?_
      refine go_iadd (q := 242) d_la_law_241 rfl ?_
      refine go_sld (i := p + 1) (q := 243) d_la_law_242 rfl (by omega) (by omega) (by omega) ?_
      refine go_callV (M' := m_mo_keep) (d := rd_mo_keep) (w := rw_mo_keep) (mc := 0) (ms := 0) (as := [mv_I (xs (p + 1)).toInt]) (b := 390) (rest := []) (q := 246) g_mo_keep i_mo_keep v_mo_keep l_la_64 d_la_law_243 rfl rfl rfl ob2 rfl (by decide) ⟨by decide, by decide, by show u.1 + 1 + 0 ≤ 601024; omega, by show u.2 + 6 + 0 ≤ 7293034; omega⟩ (pm_keep (g := ga) (b := gb) (f := fun _ => (0, 0, 1)) (r := (0, (0, 0, 1))) hm1 ht (xi_b _) (fun z => absurd z he)) ?_
      rintro w h2 n2 ⟨rfl, hf2, ⟨z6, rfl⟩, hw2⟩ -
      rcases hw2 with ⟨e0, hr2⟩ | ⟨e0, e1, hr2⟩ | ⟨e0, e1, e2, hr2⟩ | ⟨e0, e1, e2, e3, hr2⟩
      · exact absurd hv e0
      · exact go_u0 (lt_keep (c1 := 2) (by show u.1 + 1 ≤ 601000 ∧ u.2 + 6 ≤ 7001005; omega) (by decide) hr2 ((hf2 398 (by omega)).trans hg1) (fun z => absurd z (by decide)) (k h2 ⟨len, tx, gr_ tx len len 0 0 ga gb, x, var, _, ga1, gb1, g1, rc_c hf2 hr1, hr2, ht, (hf2 398 (by omega)).trans hg1⟩))
      · exact absurd e1 he
      · exact absurd e1 he
  · obtain ⟨f0, r, hE⟩ : ∃ (f : Nat → qv_) (r : Int × qv_), gr_ tx len len 0 0 ga gb = -1 → Ev tx len var true 0 [] 0 f r := by
      by_cases he : gr_ tx len len 0 0 ga gb = -1
      · obtain ⟨r, hE⟩ := ev_all (fun _ => (0, 0, 1)) ht.1 (rm_v hm).2 he
        exact ⟨_, r, fun _ => hE⟩
      · exact ⟨fun _ => (0, 0, 1), (0, (0, 0, 1)), fun z => absurd z he⟩
    refine go_callSW (np := 3) (M' := m_la_keep) (hh := hh_la_keep) (d := rd_la_keep) (w := rw_la_keep) (mc := 1) (ms := 6) (as := [mv_R 1, mv_I (xs (p + 1)).toInt, mv_R 398]) (rest := []) (q := 234) cw_la_keep in_la ⟨by decide, by decide⟩ (by decide +kernel) s_la_keep l_la_61 d_la_law_231 rfl rfl rfl (by decide) ⟨by decide, by decide, by show u.1 + 1 ≤ 601024; omega, by show u.2 + 6 ≤ 7293034; omega⟩ (lh_keepV hl hr hg (xi_b _) hv) ?_
    rintro w h1 n1 ⟨rfl, hf1, rfl, g1, ga1, gb1, hg1, hr1⟩ -
    have hm1 := rm_k hm (fun j a b => hf1 j (by omega) (by omega))
    obtain ⟨fs2, ob2⟩ := rm_1 hm1
    refine go_istore (q := 236) (L' := [some (mv_X 9), some (mv_R 1), some (mv_R 390), some (mv_R 398), some (mv_I (p : Int)), some (mv_I 1), none]) d_la_law_234 rfl (by decide) rfl ?_
    refine go_aload_n (q := 237) d_la_law_236 rfl rfl rfl ?_
    refine go_aload_nX (q := 238) d_la_law_237 rfl rfl rfl ?_
    refine go_iload (q := 240) d_la_law_238 rfl rfl ?_
    refine go_iconst (q := 241) d_la_law_240 rfl ?_
    refine go_iadd (q := 242) d_la_law_241 rfl ?_
    refine go_sld (i := p + 1) (q := 243) d_la_law_242 rfl (by omega) (by omega) (by omega) ?_
    refine go_callV (M' := m_mo_keep) (d := rd_mo_keep) (w := rw_mo_keep) (mc := 0) (ms := 0) (as := [mv_I (xs (p + 1)).toInt]) (b := 390) (rest := []) (q := 246) g_mo_keep i_mo_keep v_mo_keep l_la_64 d_la_law_243 rfl rfl rfl ob2 rfl (by decide) ⟨by decide, by decide, by show u.1 + 1 + 0 ≤ 601024; omega, by show u.2 + 6 + 0 ≤ 7293034; omega⟩ (pm_keep (g := ga) (b := gb) hm1 ht (xi_b _) hE) ?_
    rintro w h2 n2 ⟨rfl, hf2, ⟨z6, rfl⟩, hw2⟩ -
    rcases hw2 with ⟨e0, hr2⟩ | ⟨e0, e1, hr2⟩ | ⟨e0, e1, e2, hr2⟩ | ⟨e0, e1, e2, e3, hr2⟩
    · exact go_u0 (lt_keep (c1 := 1) (by show u.1 + 1 ≤ 601000 ∧ u.2 + 6 ≤ 7001005; omega) (by decide) hr2 ((hf2 398 (by omega)).trans hg1) (fun z => absurd z (by decide)) (k h2 ⟨len, tx, told, x, var, _, ga1, gb1, g1, rc_c hf2 hr1, hr2, ht, (hf2 398 (by omega)).trans hg1⟩))
    · exact absurd e0 hv
    · exact absurd e0 hv
    · exact absurd e0 hv
theorem lt_against {c1 z6 : Int} (hu : u.1 ≤ 601000 ∧ u.2 ≤ 7001005) (hc : 0 ≤ c1 ∧ c1 ≤ 5) (hm : rm_ h 390 c1 len tx told x var) (hg : h 398 = mv_A 1 1 g) (hz : c1 = 0 → g 0 = z6 ∧ -2147483648 ≤ z6 ∧ z6 ≤ 2147483647) (k : gow_ l N xs b u 479 p [] h) : Go (go_xx N xs (go_le b)) l m_la_law room_1 u 390 [some (mv_X 9), some (mv_R 1), some (mv_R 390), some (mv_R 398), some (mv_I (p : Int)), some (mv_I c1), none] [mv_I z6] h 399 := by
  obtain ⟨fs2, ob2⟩ := rm_1 hm
  have tl : Go (go_xx N xs (go_le b)) l m_la_law room_1 u 420 [some (mv_X 9), some (mv_R 1), some (mv_R 390), some (mv_R 398), some (mv_I (p : Int)), some (mv_I c1), some (mv_I z6)] [] h 399 := go_fg (L' := [some (mv_X 9), some (mv_R 1), some (mv_R 390), some (mv_R 398), some (mv_I (p : Int)), none, some (mv_I z6)]) 5 rfl (go_fg (L' := low_ p) 6 rfl (go_goto (q := 479) d_la_law_420 (by decide) k))
  refine go_istore (q := 392) (L' := [some (mv_X 9), some (mv_R 1), some (mv_R 390), some (mv_R 398), some (mv_I (p : Int)), some (mv_I c1), some (mv_I z6)]) d_la_law_390 rfl (by decide) rfl ?_
  refine go_aload_n (q := 393) d_la_law_392 rfl rfl rfl ?_
  refine go_callV (M' := m_mo_thrown) (d := rd_mo_thrown) (w := rw_mo_thrown) (mc := 0) (ms := 0) (as := []) (b := 390) (rest := []) (q := 396) g_mo_thrown i_mo_thrown v_mo_thrown l_la_58 d_la_law_393 rfl rfl rfl ob2 rfl (by decide) ⟨by decide, by decide, by show u.1 + 0 ≤ 601024; omega, by show u.2 + 0 ≤ 7293034; omega⟩ (pm_thrown hm) ?_
  rintro w h1 n1 ⟨rfl, rfl, rfl⟩ -
  refine go_u0 ?_
  refine go_iload (q := 398) d_la_law_396 rfl rfl ?_
  refine go_same (t := 403) d_la_law_398 (by decide) ?_
  refine go_iload (q := 405) d_la_law_403 rfl rfl ?_
  refine go_if_ne (t := 420) (q := 408) d_la_law_405 (by decide) rfl (by omega) (fun _ => tl) (fun c => ?_)
  obtain ⟨z1, z2⟩ := hz c
  refine go_aload_n (q := 409) d_la_law_408 rfl rfl rfl ?_
  refine go_iconst (q := 410) d_la_law_409 rfl ?_
  refine go_lald (N := 1) (f := g) (i := 0) (q := 411) d_la_law_410 rfl hg rfl (by decide) (by decide) ?_
  refine go_iload (q := 413) d_la_law_411 rfl rfl ?_
  refine go_i2l (q := 414) d_la_law_413 rfl z2 ?_
  refine go_lcmp (q := 415) d_la_law_414 rfl (by omega) (by omega) ?_
  rw [if_neg (by omega), if_pos z1]
  exact go_if_eq (t := 420) (q := 418) d_la_law_415 (by decide) rfl (by decide) (fun _ => tl) (fun c => absurd rfl c)
theorem la_against (hl : l.stackTraces = false) (hp : p + 3 ≤ N) (hN : N ≤ 1536) (hu : u.1 ≤ 600999 ∧ u.2 ≤ 7000999) (hs : lsw_ h) (k : ∀ h', lsw_ h' → gow_ l N xs b (u.1 + 1, u.2 + 6) 479 p [] h') : gow_ l N xs b u 367 p [] h := by
  obtain ⟨len, tx, told, x, var, c, ga, gb, g, hr, hm, ht, hg⟩ := hs
  refine go_aload_n (q := 368) d_la_law_367 rfl rfl rfl ?_
  refine go_aload_nX (q := 369) d_la_law_368 rfl rfl rfl ?_
  refine go_iload (q := 371) d_la_law_369 rfl rfl ?_
  refine go_iconst (q := 372) d_la_law_371 rfl ?_
  refine go_iadd (q := 373) d_la_law_372 rfl ?_
  refine go_sld (i := p + 1) (q := 374) d_la_law_373 rfl (by omega) (by omega) (by omega) ?_
  refine go_aload_n (q := 375) d_la_law_374 rfl rfl rfl ?_
  by_cases hv : 0 ≤ (xs (p + 1)).toInt ∧ (xs (p + 1)).toInt < 8
  · refine go_callSW (np := 3) (M' := m_la_against) (hh := hh_la_against) (d := rd_la_against) (w := rw_la_against) (mc := 1) (ms := 6) (as := [mv_R 1, mv_I (xs (p + 1)).toInt, mv_R 398]) (rest := []) (q := 378) cw_la_against in_la ⟨by decide, by decide⟩ (by decide +kernel) s_la_against l_la_83 d_la_law_375 rfl rfl rfl (by decide) ⟨by decide, by decide, by show u.1 + 1 ≤ 601024; omega, by show u.2 + 6 ≤ 7293034; omega⟩ (lh_against0 hl hr hg hv) ?_
    rintro w h1 n1 ⟨rfl, hf1, rfl, g1, ga1, gb1, hg1, hz1, hr1⟩ -
    have hm1 := rm_k hm (fun j a b => hf1 j (by omega) (by omega))
    obtain ⟨fs2, ob2⟩ := rm_1 hm1
    refine go_istore (q := 380) (L' := [some (mv_X 9), some (mv_R 1), some (mv_R 390), some (mv_R 398), some (mv_I (p : Int)), some (mv_I 0), none]) d_la_law_378 rfl (by decide) rfl ?_
    refine go_aload_n (q := 381) d_la_law_380 rfl rfl rfl ?_
    refine go_aload_nX (q := 382) d_la_law_381 rfl rfl rfl ?_
    refine go_iload (q := 384) d_la_law_382 rfl rfl ?_
    refine go_iconst (q := 385) d_la_law_384 rfl ?_
    refine go_iadd (q := 386) d_la_law_385 rfl ?_
    refine go_sld (i := p + 1) (q := 387) d_la_law_386 rfl (by omega) (by omega) (by omega) ?_
    refine go_callV (M' := m_mo_against) (d := rd_mo_against) (w := rw_mo_against) (mc := 0) (ms := 0) (as := [mv_I (xs (p + 1)).toInt]) (b := 390) (rest := []) (q := 390) g_mo_against i_mo_against v_mo_against l_la_85 d_la_law_387 rfl rfl rfl ob2 rfl (by decide) ⟨by decide, by decide, by show u.1 + 1 + 0 ≤ 601024; omega, by show u.2 + 6 + 0 ≤ 7293034; omega⟩ (pm_against hm1 (xi_b _)) ?_
    rintro w h2 n2 ⟨rfl, hf2, ⟨z6, rfl⟩, hw2⟩ -
    rcases hw2 with ⟨e0, e3, hr2⟩ | ⟨e0, hr2⟩
    · obtain rfl : z6 = q_ord x (var (xs (p + 1)).toInt.toNat) := by injection e3 with e3; injection e3
      exact go_u0 (lt_against (c1 := 0) (by show u.1 + 1 ≤ 601000 ∧ u.2 + 6 ≤ 7001005; omega) (by decide) hr2 ((hf2 398 (by omega)).trans hg1) (fun _ => ⟨hz1, by have := qo_b (y := var (xs (p + 1)).toInt.toNat) (rc_q hr).1; omega⟩) (k h2 ⟨len, tx, told, x, var, 0, ga1, gb1, g1, rc_c hf2 hr1, hr2, ht, (hf2 398 (by omega)).trans hg1⟩))
    · exact absurd hv e0
  · refine go_callSW (np := 3) (M' := m_la_against) (hh := hh_la_against) (d := rd_la_against) (w := rw_la_against) (mc := 1) (ms := 6) (as := [mv_R 1, mv_I (xs (p + 1)).toInt, mv_R 398]) (rest := []) (q := 378) cw_la_against in_la ⟨by decide, by decide⟩ (by decide +kernel) s_la_against l_la_83 d_la_law_375 rfl rfl rfl (by decide) ⟨by decide, by decide, by show u.1 + 1 ≤ 601024; omega, by show u.2 + 6 ≤ 7293034; omega⟩ (lh_againstV hl hr hg (xi_b _) hv) ?_
    rintro w h1 n1 ⟨rfl, hf1, rfl, g1, ga1, gb1, hg1, hr1⟩ -
    have hm1 := rm_k hm (fun j a b => hf1 j (by omega) (by omega))
    obtain ⟨fs2, ob2⟩ := rm_1 hm1
    refine go_istore (q := 380) (L' := [some (mv_X 9), some (mv_R 1), some (mv_R 390), some (mv_R 398), some (mv_I (p : Int)), some (mv_I 1), none]) d_la_law_378 rfl (by decide) rfl ?_
    refine go_aload_n (q := 381) d_la_law_380 rfl rfl rfl ?_
    refine go_aload_nX (q := 382) d_la_law_381 rfl rfl rfl ?_
    refine go_iload (q := 384) d_la_law_382 rfl rfl ?_
    refine go_iconst (q := 385) d_la_law_384 rfl ?_
    refine go_iadd (q := 386) d_la_law_385 rfl ?_
    refine go_sld (i := p + 1) (q := 387) d_la_law_386 rfl (by omega) (by omega) (by omega) ?_
    refine go_callV (M' := m_mo_against) (d := rd_mo_against) (w := rw_mo_against) (mc := 0) (ms := 0) (as := [mv_I (xs (p + 1)).toInt]) (b := 390) (rest := []) (q := 390) g_mo_against i_mo_against v_mo_against l_la_85 d_la_law_387 rfl rfl rfl ob2 rfl (by decide) ⟨by decide, by decide, by show u.1 + 1 + 0 ≤ 601024; omega, by show u.2 + 6 + 0 ≤ 7293034; omega⟩ (pm_against hm1 (xi_b _)) ?_
    rintro w h2 n2 ⟨rfl, hf2, ⟨z6, rfl⟩, hw2⟩ -
    rcases hw2 with ⟨e0, e3, hr2⟩ | ⟨e0, hr2⟩
    · exact absurd e0 hv
    · exact go_u0 (lt_against (c1 := 1) (by show u.1 + 1 ≤ 601000 ∧ u.2 + 6 ≤ 7001005; omega) (by decide) hr2 ((hf2 398 (by omega)).trans hg1) (fun z => absurd z (by decide)) (k h2 ⟨len, tx, told, x, var, _, ga1, gb1, g1, rc_c hf2 hr1, hr2, ht, (hf2 398 (by omega)).trans hg1⟩))
theorem lt_fetch {c1 z6 : Int} (hu : u.1 ≤ 601000 ∧ u.2 ≤ 7001005) (hc : 0 ≤ c1 ∧ c1 ≤ 5) (hm : rm_ h 390 c1 len tx told x var) (hg : h 398 = mv_A 1 1 g) (hz : c1 = 0 → g 0 = z6 ∧ -2147483648 ≤ z6 ∧ z6 ≤ 2147483647) (k : gow_ l N xs b u 479 p [] h) : Go (go_xx N xs (go_le b)) l m_la_law room_1 u 446 [some (mv_X 9), some (mv_R 1), some (mv_R 390), some (mv_R 398), some (mv_I (p : Int)), some (mv_I c1), none] [mv_I z6] h 399 := by
  obtain ⟨fs2, ob2⟩ := rm_1 hm
  have tl : Go (go_xx N xs (go_le b)) l m_la_law room_1 u 476 [some (mv_X 9), some (mv_R 1), some (mv_R 390), some (mv_R 398), some (mv_I (p : Int)), some (mv_I c1), some (mv_I z6)] [] h 399 := go_fg (L' := [some (mv_X 9), some (mv_R 1), some (mv_R 390), some (mv_R 398), some (mv_I (p : Int)), none, some (mv_I z6)]) 5 rfl (go_fg (L' := low_ p) 6 rfl (go_goto (q := 479) d_la_law_476 (by decide) k))
  refine go_istore (q := 448) (L' := [some (mv_X 9), some (mv_R 1), some (mv_R 390), some (mv_R 398), some (mv_I (p : Int)), some (mv_I c1), some (mv_I z6)]) d_la_law_446 rfl (by decide) rfl ?_
  refine go_aload_n (q := 449) d_la_law_448 rfl rfl rfl ?_
  refine go_callV (M' := m_mo_thrown) (d := rd_mo_thrown) (w := rw_mo_thrown) (mc := 0) (ms := 0) (as := []) (b := 390) (rest := []) (q := 452) g_mo_thrown i_mo_thrown v_mo_thrown l_la_58 d_la_law_449 rfl rfl rfl ob2 rfl (by decide) ⟨by decide, by decide, by show u.1 + 0 ≤ 601024; omega, by show u.2 + 0 ≤ 7293034; omega⟩ (pm_thrown hm) ?_
  rintro w h1 n1 ⟨rfl, rfl, rfl⟩ -
  refine go_u0 ?_
  refine go_iload (q := 454) d_la_law_452 rfl rfl ?_
  refine go_same (t := 459) d_la_law_454 (by decide) ?_
  refine go_iload (q := 461) d_la_law_459 rfl rfl ?_
  refine go_if_ne (t := 476) (q := 464) d_la_law_461 (by decide) rfl (by omega) (fun _ => tl) (fun c => ?_)
  obtain ⟨z1, z2⟩ := hz c
  refine go_aload_n (q := 465) d_la_law_464 rfl rfl rfl ?_
  refine go_iconst (q := 466) d_la_law_465 rfl ?_
  refine go_lald (N := 1) (f := g) (i := 0) (q := 467) d_la_law_466 rfl hg rfl (by decide) (by decide) ?_
  refine go_iload (q := 469) d_la_law_467 rfl rfl ?_
  refine go_i2l (q := 470) d_la_law_469 rfl z2 ?_
  refine go_lcmp (q := 471) d_la_law_470 rfl (by omega) (by omega) ?_
  rw [if_neg (by omega), if_pos z1]
  exact go_if_eq (t := 476) (q := 474) d_la_law_471 (by decide) rfl (by decide) (fun _ => tl) (fun c => absurd rfl c)
theorem la_fetch (hl : l.stackTraces = false) (hp : p + 3 ≤ N) (hN : N ≤ 1536) (hu : u.1 ≤ 600999 ∧ u.2 ≤ 7000999) (hs : lsw_ h) (k : ∀ h', lsw_ h' → gow_ l N xs b (u.1 + 1, u.2 + 6) 479 p [] h') : gow_ l N xs b u 423 p [] h := by
  obtain ⟨len, tx, told, x, var, c, ga, gb, g, hr, hm, ht, hg⟩ := hs
  refine go_aload_n (q := 424) d_la_law_423 rfl rfl rfl ?_
  refine go_aload_nX (q := 425) d_la_law_424 rfl rfl rfl ?_
  refine go_iload (q := 427) d_la_law_425 rfl rfl ?_
  refine go_iconst (q := 428) d_la_law_427 rfl ?_
  refine go_iadd (q := 429) d_la_law_428 rfl ?_
  refine go_sld (i := p + 1) (q := 430) d_la_law_429 rfl (by omega) (by omega) (by omega) ?_
  refine go_aload_n (q := 431) d_la_law_430 rfl rfl rfl ?_
  by_cases hv : 0 ≤ (xs (p + 1)).toInt ∧ (xs (p + 1)).toInt < 8
  · refine go_callSW (np := 3) (M' := m_la_fetch) (hh := hh_la_fetch) (d := rd_la_fetch) (w := rw_la_fetch) (mc := 1) (ms := 6) (as := [mv_R 1, mv_I (xs (p + 1)).toInt, mv_R 398]) (rest := []) (q := 434) cw_la_fetch in_la ⟨by decide, by decide⟩ (by decide +kernel) s_la_fetch l_la_86 d_la_law_431 rfl rfl rfl (by decide) ⟨by decide, by decide, by show u.1 + 1 ≤ 601024; omega, by show u.2 + 6 ≤ 7293034; omega⟩ (lh_fetch0 hl hr hg hv) ?_
    rintro w h1 n1 ⟨rfl, hf1, rfl, g1, ga1, gb1, hg1, hz1, hr1⟩ -
    have hm1 := rm_k hm (fun j a b => hf1 j (by omega) (by omega))
    obtain ⟨fs2, ob2⟩ := rm_1 hm1
    refine go_istore (q := 436) (L' := [some (mv_X 9), some (mv_R 1), some (mv_R 390), some (mv_R 398), some (mv_I (p : Int)), some (mv_I 0), none]) d_la_law_434 rfl (by decide) rfl ?_
    refine go_aload_n (q := 437) d_la_law_436 rfl rfl rfl ?_
    refine go_aload_nX (q := 438) d_la_law_437 rfl rfl rfl ?_
    refine go_iload (q := 440) d_la_law_438 rfl rfl ?_
    refine go_iconst (q := 441) d_la_law_440 rfl ?_
    refine go_iadd (q := 442) d_la_law_441 rfl ?_
    refine go_sld (i := p + 1) (q := 443) d_la_law_442 rfl (by omega) (by omega) (by omega) ?_
    refine go_callV (M' := m_mo_fetch) (d := rd_mo_fetch) (w := rw_mo_fetch) (mc := 0) (ms := 0) (as := [mv_I (xs (p + 1)).toInt]) (b := 390) (rest := []) (q := 446) g_mo_fetch i_mo_fetch v_mo_fetch l_la_88 d_la_law_443 rfl rfl rfl ob2 rfl (by decide) ⟨by decide, by decide, by show u.1 + 1 + 0 ≤ 601024; omega, by show u.2 + 6 + 0 ≤ 7293034; omega⟩ (pm_fetch hm1 (xi_b _)) ?_
    rintro w h2 n2 ⟨rfl, hf2, ⟨z6, rfl⟩, hw2⟩ -
    rcases hw2 with ⟨e0, e3, hr2⟩ | ⟨e0, hr2⟩
    · obtain rfl : z6 = q_form (var (xs (p + 1)).toInt.toNat) := by injection e3 with e3; injection e3
      exact go_u0 (lt_fetch (c1 := 0) (by show u.1 + 1 ≤ 601000 ∧ u.2 + 6 ≤ 7001005; omega) (by decide) hr2 ((hf2 398 (by omega)).trans hg1) (fun _ => ⟨hz1, by have := qf_b (var (xs (p + 1)).toInt.toNat); omega⟩) (k h2 ⟨len, tx, told, var (xs (p + 1)).toInt.toNat, var, 0, ga1, gb1, g1, rc_c hf2 hr1, hr2, ht, (hf2 398 (by omega)).trans hg1⟩))
    · exact absurd hv e0
  · refine go_callSW (np := 3) (M' := m_la_fetch) (hh := hh_la_fetch) (d := rd_la_fetch) (w := rw_la_fetch) (mc := 1) (ms := 6) (as := [mv_R 1, mv_I (xs (p + 1)).toInt, mv_R 398]) (rest := []) (q := 434) cw_la_fetch in_la ⟨by decide, by decide⟩ (by decide +kernel) s_la_fetch l_la_86 d_la_law_431 rfl rfl rfl (by decide) ⟨by decide, by decide, by show u.1 + 1 ≤ 601024; omega, by show u.2 + 6 ≤ 7293034; omega⟩ (lh_fetchV hl hr hg (xi_b _) hv) ?_
    rintro w h1 n1 ⟨rfl, hf1, rfl, g1, ga1, gb1, hg1, hr1⟩ -
    have hm1 := rm_k hm (fun j a b => hf1 j (by omega) (by omega))
    obtain ⟨fs2, ob2⟩ := rm_1 hm1
    refine go_istore (q := 436) (L' := [some (mv_X 9), some (mv_R 1), some (mv_R 390), some (mv_R 398), some (mv_I (p : Int)), some (mv_I 1), none]) d_la_law_434 rfl (by decide) rfl ?_
    refine go_aload_n (q := 437) d_la_law_436 rfl rfl rfl ?_
    refine go_aload_nX (q := 438) d_la_law_437 rfl rfl rfl ?_
    refine go_iload (q := 440) d_la_law_438 rfl rfl ?_
    refine go_iconst (q := 441) d_la_law_440 rfl ?_
    refine go_iadd (q := 442) d_la_law_441 rfl ?_
    refine go_sld (i := p + 1) (q := 443) d_la_law_442 rfl (by omega) (by omega) (by omega) ?_
    refine go_callV (M' := m_mo_fetch) (d := rd_mo_fetch) (w := rw_mo_fetch) (mc := 0) (ms := 0) (as := [mv_I (xs (p + 1)).toInt]) (b := 390) (rest := []) (q := 446) g_mo_fetch i_mo_fetch v_mo_fetch l_la_88 d_la_law_443 rfl rfl rfl ob2 rfl (by decide) ⟨by decide, by decide, by show u.1 + 1 + 0 ≤ 601024; omega, by show u.2 + 6 + 0 ≤ 7293034; omega⟩ (pm_fetch hm1 (xi_b _)) ?_
    rintro w h2 n2 ⟨rfl, hf2, ⟨z6, rfl⟩, hw2⟩ -
    rcases hw2 with ⟨e0, e3, hr2⟩ | ⟨e0, hr2⟩
    · exact absurd e0 hv
    · exact go_u0 (lt_fetch (c1 := 1) (by show u.1 + 1 ≤ 601000 ∧ u.2 + 6 ≤ 7001005; omega) (by decide) hr2 ((hf2 398 (by omega)).trans hg1) (fun z => absurd z (by decide)) (k h2 ⟨len, tx, told, x, var, _, ga1, gb1, g1, rc_c hf2 hr1, hr2, ht, (hf2 398 (by omega)).trans hg1⟩))
end LaArms
