theorem st_L {args : Array Value} {s : State} {n d : String} (h : (Cond.laysStatic xt_ n d).before args s = true) : xl_ n d s := by
  obtain ⟨c, k, i, f, a, cell, hc, hi, hst, ha, hcell, hs, hcls, hlt, hty⟩ := Cond.laysStatic_spec h
  exact ⟨c, i, k, f, a, cell, hc, hi, hst, ha, hcell, hs, hcls, hlt, hty⟩
theorem st_X {args : Array Value} {s : State} (hts : ∀ w ∈ lw_tbl, w.before args s = true) (hgv : (Jvm.Cond.and given_1 narrow_1).before args s = true) : ex_ s := by
  have hs := flat_of_before _ hgv
  refine ⟨fun X hX => ?_, fun X hX Y hY hn c t hc ht => ?_, st_L (hts _ (by decide +kernel)), st_L (hts _ (by decide +kernel))⟩
  · obtain ⟨c3, c4, hc3, -⟩ := Cond.castable_spec (hts _ ((by decide +kernel : ∀ X ∈ xn_, Cond.castable X X ∈ lw_tbl) X hX))
    exact ⟨c3, hc3⟩
  · have h := hs _ ((by decide +kernel : ∀ X ∈ xn_, ∀ Y ∈ xn_, X ≠ Y → Cond.not (.castable X Y) ∈ flatC (Jvm.Cond.and given_1 narrow_1)) X hX Y hY hn)
    have hv := Cond.holds_not_iff.mp h
    simp only [Cond.value, hc, ht] at hv
    exact Option.some.inj hv
theorem whole_start {p : Program} {e : Env} {s : State} {m : MethodId} {below : List Frame} {meth : Method} {c : Code} (l : Launch) (hls : l.stackTraces = false) (hnm : meth.name = x.name) {b L : Nat} {xs : Nat → Int32} (hL : L ≤ 1536) (C0 : lw_At p s m meth c b L xs) : W p l e room_1 s m #[Value.ref b] below meth c s.heap [] 0 0 (lw_Z below #[Value.ref b] s) (entryFrame m ([Value.ref b] : List Value).toArray 7) := by
  obtain ⟨hx, hb, hr, hml, hown, hts, hX, hbl, hlk, hgv⟩ := C0
  have hA : ∀ a : Nat, a < s.heap.size → ¬ (fun q : Nat => s.heap.size ≤ q) a := fun a h => Nat.not_le.mpr h
  obtain ⟨zt, hz9, hZ⟩ := st_Z hts hgv hA b
  subst hz9
  have hw : ∀ w ∈ go_T, w.before #[Value.ref (zt 9)] s = true := fun w hw => hts w (go_T_tbl hw)
  obtain ⟨D, ca, hK⟩ := st_K hw (hts _ (by decide +kernel))
  have hl := lv_entry ([mv_X 9].map (mv_c zt (fun _ => 0))) (n := 7) (by rw [mv_sl_len]; decide)
  have hnil : ∀ (k : Nat) (q : Nat × va_E), (mv_W ca zt (fun _ => 0) (fun _ => mv_A 0 0 fun _ => 0) 1)[k]? = some q → False := fun k q hk => by simp [mv_W] at hk
  have K := la_all (h := fun _ => mv_A 0 0 fun _ => 0) (N := L) (xs := xs) (b := zt 9) hls hL p e s m #[Value.ref (zt 9)] below meth c D ca zt (fun q => s.heap.size ≤ q) 1 (fun _ => 0) ⟨hx, hb, hml, hr, hlk, hnm, hown, hw, ⟨hK, go_N_of hts, hZ⟩, fun q hq => hq⟩ s.heap [] _ (fun _ => 0) va_S.rf (fun k q hk => (hnil k q hk).elim) ⟨fun i j p q hi => (hnil i p hi).elim, fun k q hk => (hnil k q hk).elim⟩ (mv_ls_en hl) (Nat.le_refl _) (fun _ _ => rfl) ⟨by decide, fun i hi => absurd hi (by omega)⟩ (show ok_L 1 (mv_en [mv_X 9] 7) from ok_L_en (ok_S.cons (v := mv_X 9) trivial ok_S.nil)) ok_S.nil
  intro T hT X
  obtain ⟨t, a1, b1⟩ := K T hT X
  rw [show entryFrame m ([Value.ref (zt 9)] : List Value).toArray 7 = entryFrame m ([mv_X 9].map (mv_c zt (fun _ => 0))).toArray 7 from rfl, lg_entry_eq]
  exact ⟨t, a1, b1 (st_X hts hgv) ⟨hX, hbl, hA _ hbl⟩ ⟨rfl, fun q h => h⟩⟩
