/-! the law's loop, and its walk from the start -/
section LaWhole
variable {l : Launch} {N : Nat} {xs : Nat → Int32} {b p : Nat} {h : mv_H} {u : Nat × Nat}
theorem la_hd (hp : p ≤ 1539) (hN : N ≤ 1536) (k0 : N < p + 3 → gow_ l N xs b u 485 p [] h) (k1 : p + 3 ≤ N → gow_ l N xs b u 32 p [] h) : gow_ l N xs b u 23 p [] h := by
  refine go_iload (q := 25) d_la_law_23 rfl rfl ?_
  refine go_aload_nX (q := 26) d_la_law_25 rfl rfl rfl ?_
  refine go_slen (q := 27) d_la_law_26 rfl ?_
  refine go_iconst (q := 28) d_la_law_27 rfl ?_
  refine go_isub (q := 29) d_la_law_28 rfl ?_
  exact go_icmp_gt (t := 485) (q := 32) d_la_law_29 (by decide) rfl (by omega) (by omega) (fun c => k0 (by omega)) (fun c => k1 (by omega))
theorem la_sw (hl : l.stackTraces = false) (hp : p + 3 ≤ N) (hN : N ≤ 1536) (hu : u.1 ≤ 600999 ∧ u.2 ≤ 7000999) (hs : lsw_ h) (k : ∀ h', lsw_ h' → gow_ l N xs b u 479 p [] h') (k1 : ∀ h', lsw_ h' → gow_ l N xs b (u.1 + 1, u.2 + 6) 479 p [] h') : gow_ l N xs b u 32 p [] h := by
  refine go_aload_nX (q := 33) d_la_law_32 rfl rfl rfl ?_
  refine go_iload (q := 35) d_la_law_33 rfl rfl ?_
  refine go_sld (i := p) (q := 36) d_la_law_35 rfl rfl (by omega) (by omega) ?_
  refine go_bipush (q := 38) d_la_law_36 rfl (by decide) ?_
  refine go_iand (z := (xs p).toInt % 16) (q := 39) d_la_law_38 rfl (gn_mask 4 (by decide) (by decide) (by decide)) ?_
  have h1 := Int.emod_nonneg (xs p).toInt (show (16 : Int) ≠ 0 by decide)
  have h2 := Int.emod_lt_of_pos (xs p).toInt (show (0 : Int) < 16 by decide)
  generalize (xs p).toInt % 16 = d at h1 h2
  have hd : d = 0 ∨ d = 1 ∨ d = 2 ∨ d = 3 ∨ d = 4 ∨ d = 5 ∨ d = 6 ∨ d = 7 ∨ d = 8 ∨ d = 9 ∨ d = 10 ∨ 11 ≤ d := by omega
  rcases hd with rfl | rfl | rfl | rfl | rfl | rfl | rfl | rfl | rfl | rfl | rfl | hd
  · exact go_tabI (tgt := 96) (off := 57) d_la_law_39 (by decide) (by decide) rfl (by decide) (la_type hp hN hu hs k)
  · exact go_tabI (tgt := 153) (off := 114) d_la_law_39 (by decide) (by decide) rfl (by decide) (la_erase hp hN hu hs k)
  · exact go_tabI (tgt := 166) (off := 127) d_la_law_39 (by decide) (by decide) rfl (by decide) (la_fault hp hN hu hs k)
  · exact go_tabI (tgt := 179) (off := 140) d_la_law_39 (by decide) (by decide) rfl (by decide) (la_work hl hp hN hu hs k1)
  · exact go_tabI (tgt := 223) (off := 184) d_la_law_39 (by decide) (by decide) rfl (by decide) (la_keep hl hp hN hu hs k1)
  · exact go_tabI (tgt := 279) (off := 240) d_la_law_39 (by decide) (by decide) rfl (by decide) (la_form hp hN hu hs k)
  · exact go_tabI (tgt := 292) (off := 253) d_la_law_39 (by decide) (by decide) rfl (by decide) (la_sign hp hN hu hs k)
  · exact go_tabI (tgt := 305) (off := 266) d_la_law_39 (by decide) (by decide) rfl (by decide) (la_digit hp hN hu hs k)
  · exact go_tabI (tgt := 330) (off := 291) d_la_law_39 (by decide) (by decide) rfl (by decide) (la_bits hp hN hu hs k)
  · exact go_tabI (tgt := 367) (off := 328) d_la_law_39 (by decide) (by decide) rfl (by decide) (la_against hl hp hN hu hs k1)
  · exact go_tabI (tgt := 423) (off := 384) d_la_law_39 (by decide) (by decide) rfl (by decide) (la_fetch hl hp hN hu hs k1)
  · exact go_tabO (tgt := 479) d_la_law_39 (by omega) (Or.inr (by omega)) (by decide) (k h hs)
theorem lp_law (hl : l.stackTraces = false) (hN : N ≤ 1536) : ∀ (m p : Nat) (h : mv_H) (u : Nat × Nat), N < p + 3 * m + 3 → p ≤ 1536 → u.1 + m ≤ 600999 → u.2 + 6 * m ≤ 7000999 → lsw_ h → gow_ l N xs b u 23 p [] h := by
  intro m
  induction m with
  | zero =>
    intro p h u h1 h2 h3 h4 hs
    exact la_hd (by omega) hN (fun _ => go_iconst (q := 486) d_la_law_485 rfl (go_lend d_la_law_486 ⟨by omega, by omega⟩)) (fun c => absurd c (by omega))
  | succ m ih =>
    intro p h u h1 h2 h3 h4 hs
    refine la_hd (by omega) hN (fun _ => go_iconst (q := 486) d_la_law_485 rfl (go_lend d_la_law_486 ⟨by omega, by omega⟩)) (fun c => ?_)
    have tl : ∀ (h' : mv_H) (u' : Nat × Nat), u'.1 + m ≤ 600999 → u'.2 + 6 * m ≤ 7000999 → lsw_ h' → gow_ l N xs b u' 479 p [] h' := fun h' u' a1 a2 hs' =>
      go_iinc (q := 482) (L' := low_ (p + 3)) d_la_law_479 rfl (by decide) rfl rfl (go_goto (q := 23) d_la_law_482 (by decide) (ih (p + 3) h' u' (by omega) (by omega) a1 a2 hs'))
    exact la_sw hl c hN ⟨by omega, by omega⟩ hs (fun h' hs' => tl h' u (by omega) (by omega) hs') (fun h' hs' => tl h' _ (by show u.1 + 1 + m ≤ 600999; omega) (by show u.2 + 6 + 6 * m ≤ 7000999; omega) hs')
/-- the law from its first instruction: the world has no cell yet -/
theorem la_all (hl : l.stackTraces = false) (hN : N ≤ 1536) : Go (go_xx N xs (go_le b)) l m_la_law room_1 (0, 0) 0 [some (mv_X 9), none, none, none, none, none, none] [] h 1 := by
  refine nw_pn (q := 3) tw_1_26 d_la_law_0 rfl (by decide) (by decide) ?_
  refine go_dup (q := 4) d_la_law_3 rfl rfl ?_
  refine go_callI (M' := m_pn_init) (d := rd_pn_init) (w := rw_pn_init) (mc := 388) (ms := 2263) (as := []) (b := 1) (rest := [mv_R 1]) (q := 7) g_pn_init rfl i_pn_init rfl l_la_33 d_la_law_4 rfl rfl rfl (by decide) ⟨by decide, by decide, by decide, by decide⟩ (ti_pn (va_up_self _ _ _)) ?_
  rintro w h1 n1 ⟨rfl, rfl, hr1, -⟩ -
  refine go_astore_n (q := 8) (L' := [some (mv_X 9), some (mv_R 1), none, none, none, none, none]) d_la_law_7 rfl rfl (by decide) rfl ?_
  refine nw_mo (q := 11) tw_4_71 d_la_law_8 rfl (by decide) (by decide) ?_
  refine go_dup (q := 12) d_la_law_11 rfl rfl ?_
  refine go_callI (M' := m_mo_init) (d := rd_mo_init) (w := rw_mo_init) (mc := 7) (ms := 6795) (as := []) (b := 390) (rest := [mv_R 390]) (q := 15) g_mo_init rfl i_mo_init rfl l_la_36 d_la_law_12 rfl rfl rfl (by decide) ⟨by decide, by decide, by decide, by decide⟩ (ti_mo (va_up_self _ _ _)) ?_
  rintro w h2 n2 ⟨rfl, rfl, hm2, hf2⟩ -
  refine go_astore_n (q := 16) (L' := [some (mv_X 9), some (mv_R 1), some (mv_R 390), none, none, none, none]) d_la_law_15 rfl rfl (by decide) rfl ?_
  refine go_iconst (q := 17) d_la_law_16 rfl ?_
  refine go_newL (N := 1) (q := 19) tw_5_101 d_la_law_17 rfl rfl (by decide) (by decide) (by decide) (by decide) ?_
  refine go_astore_n (q := 20) (L' := [some (mv_X 9), some (mv_R 1), some (mv_R 390), some (mv_R 398), none, none, none]) d_la_law_19 rfl rfl (by decide) rfl ?_
  refine go_iconst (q := 21) d_la_law_20 rfl ?_
  refine go_istore (q := 23) (L' := low_ 0) d_la_law_21 rfl (by decide) rfl ?_
  refine lp_law hl hN 512 0 _ _ (by omega) (by decide) (by decide) (by decide) ⟨0, fun _ => 0, -1, (0, 0, 1), fun _ => (0, 0, 1), 0, fun _ => 0, fun _ => 0, fun _ => 0, rc_k hr1 fun j a1 a2 => ?_, rm_k hm2 fun j a1 a2 => va_up_ne _ _ (by omega), ⟨by decide, fun _ => ⟨show (0 : Int) ≤ 0 by decide, show (0 : Int) ≤ 127 by decide⟩, fun i hi => absurd hi (by omega)⟩, va_up_self _ _ _⟩
  rw [va_up_ne _ _ (by omega), hf2 j (by omega), va_up_ne _ _ (by omega)]
end LaWhole
