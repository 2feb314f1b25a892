/-! the model's length, fromEnd, digit -/
theorem dl_mk {v t k a : Nat} (h1 : t * 10 ^ k ≤ v) (h2 : v < (t + 1) * 10 ^ k) (ha : 1 ≤ a) (h3 : 10 ^ (a - 1) ≤ t) (h4 : t < 10 ^ a) : Dl v (k + a) := by
  refine ⟨by omega, ?_, Or.inr ?_⟩
  · have : (t + 1) * 10 ^ k ≤ 10 ^ a * 10 ^ k := Nat.mul_le_mul_right _ h4
    rw [← Nat.pow_add, Nat.add_comm a k] at this
    omega
  · have : 10 ^ (a - 1) * 10 ^ k ≤ t * 10 ^ k := Nat.mul_le_mul_right _ h3
    rw [← Nat.pow_add] at this
    rw [show k + a - 1 = a - 1 + k by omega]
    omega
section MoDig
variable {φ : go_F} {l : Launch} {h : mv_H} {n o : Nat} {I tx S ps cs bs : Nat → Int} {V : Nat → Nat}
theorem tm_length {r : Nat} (hV : mo_V h o (I, tx, S, ps, cs, bs) V) (hr : r < 160) : Fn l m_mo_length rd_mo_length rw_mo_length 0 0 [mv_R o, mv_I (r : Int)] h n (fun w h' n' => (∃ L : Nat, Dl (V r) L ∧ L ≤ 160 ∧ w = some (mv_I (L : Int))) ∧ n' = n ∧ h' = h) := by
  refine fn_of rfl (Nat.le_of_ble_eq_true rfl) rfl ?_
  obtain ⟨D, U, hm, hM⟩ := id hV
  have hU := hM.2.1 r
  have hrw := hM.2.2 r hr
  obtain ⟨us, hus⟩ : ∃ us : Nat, U r = (us : Int) := ⟨(U r).toNat, by omega⟩
  refine go_aload_n (q := 1) d_mo_length_0 rfl rfl rfl ?_
  refine go_getf (q := 4) f_mo_20 d_mo_length_1 rfl (MD_c0 hm) rfl ?_
  refine go_iload_n (q := 5) d_mo_length_4 rfl rfl rfl ?_
  refine go_iald (i := r) (q := 6) d_mo_length_5 rfl (MD_c3 hm) rfl hr (by decide) ?_
  refine go_if_ne (t := 11) (q := 9) d_mo_length_6 (by decide) rfl (by omega) (fun c => ?_) (fun c => ?_)
  · have hup : 0 < us := by omega
    obtain ⟨k, hk⟩ : ∃ k, us = k + 1 := ⟨us - 1, by omega⟩
    have hext := mo_ext (k := us) hrw (by omega) (by omega)
    have hDt := hM.1 (40 * r + k)
    have hnz := hrw.2.1 (by omega)
    rw [show (U r).toNat = k + 1 by omega, show 40 * r + (k + 1) - 1 = 40 * r + k by omega] at hnz
    obtain ⟨t, ht⟩ : ∃ t : Nat, D (40 * r + k) = (t : Int) := ⟨(D (40 * r + k)).toNat, by omega⟩
    -- the highest digit t, and what is below
    have hsplit : V r = nv 10000 (fun i => (D (40 * r + i)).toNat) k + t * 10000 ^ k := by
      rw [← hext, hk]
      show nv 10000 (fun i => (D (40 * r + i)).toNat) k + (D (40 * r + k)).toNat * 10000 ^ k = _
      rw [ht, Int.toNat_natCast]
    have hlow : nv 10000 (fun i => (D (40 * r + i)).toNat) k < 10000 ^ k := nv_lt (fun j _ => by have := hM.1 (40 * r + j); omega)
    have e4 : (10000 : Nat) ^ k = 10 ^ (4 * k) := by rw [show (10000 : Nat) = 10 ^ 4 from rfl, ← Nat.pow_mul]
    rw [e4] at hsplit hlow
    have g1 : t * 10 ^ (4 * k) ≤ V r := by omega
    have g2 : V r < (t + 1) * 10 ^ (4 * k) := by
      rw [Nat.add_mul, Nat.one_mul]
      omega
    refine go_aload_n (q := 12) d_mo_length_11 rfl rfl rfl ?_
    refine go_getf (q := 15) f_mo_17 d_mo_length_12 rfl (MD_c0 hm) rfl ?_
    refine go_bipush (q := 17) d_mo_length_15 rfl (by decide) ?_
    refine go_iload_n (q := 18) d_mo_length_17 rfl rfl rfl ?_
    refine go_imul (q := 19) d_mo_length_18 rfl ?_
    refine go_aload_n (q := 20) d_mo_length_19 rfl rfl rfl ?_
    refine go_getf (q := 23) f_mo_20 d_mo_length_20 rfl (MD_c0 hm) rfl ?_
    refine go_iload_n (q := 24) d_mo_length_23 rfl rfl rfl ?_
    refine go_iald (i := r) (q := 25) d_mo_length_24 rfl (MD_c3 hm) rfl hr (by decide) ?_
    refine go_iadd (q := 26) d_mo_length_25 rfl ?_
    refine go_iconst (q := 27) d_mo_length_26 rfl ?_
    refine go_isub (q := 28) d_mo_length_27 rfl ?_
    refine go_iald (i := 40 * r + k) (q := 29) d_mo_length_28 rfl (MD_c2 hm) (by omega) (by omega) (by decide) ?_
    rw [ht]
    refine go_istore_n (q := 30) (L' := [some (mv_R o), some (mv_I (r : Int)), some (mv_I (t : Int))]) d_mo_length_29 rfl rfl (by decide) rfl ?_
    refine go_iconst (q := 31) d_mo_length_30 rfl ?_
    refine go_aload_n (q := 32) d_mo_length_31 rfl rfl rfl ?_
    refine go_getf (q := 35) f_mo_20 d_mo_length_32 rfl (MD_c0 hm) rfl ?_
    refine go_iload_n (q := 36) d_mo_length_35 rfl rfl rfl ?_
    refine go_iald (i := r) (q := 37) d_mo_length_36 rfl (MD_c3 hm) rfl hr (by decide) ?_
    refine go_imul (q := 38) d_mo_length_37 rfl ?_
    refine go_iconst (q := 39) d_mo_length_38 rfl ?_
    refine go_isub (q := 40) d_mo_length_39 rfl ?_
    have fin : ∀ a : Nat, 1 ≤ a → a ≤ 4 → 10 ^ (a - 1) ≤ t → t < 10 ^ a → Go (go_f 0 0 fun w h' n' => (∃ L : Nat, Dl (V r) L ∧ L ≤ 160 ∧ w = some (mv_I (L : Int))) ∧ n' = n ∧ h' = h) l m_mo_length (go_rm rd_mo_length rw_mo_length 0 0) (0, 0) 72 [some (mv_R o), some (mv_I (r : Int)), some (mv_I (t : Int))] [mv_I (a : Int), mv_I (4 * U r - 4)] h n := by
      intro a h1 h4 h2 h3
      refine go_iadd (q := 73) d_mo_length_72 rfl ?_
      rw [show 4 * U r - 4 + (a : Int) = ((4 * k + a : Nat) : Int) by omega]
      exact go_iret d_mo_length_73 rfl go_le0 ⟨⟨4 * k + a, dl_mk g1 g2 h1 h2 h3, by omega, rfl⟩, rfl, rfl⟩
    refine go_iload_n (q := 41) d_mo_length_40 rfl rfl rfl ?_
    refine go_sipush (q := 44) d_mo_length_41 rfl (by decide) ?_
    refine go_icmp_le (t := 51) (q := 47) d_mo_length_44 (by decide) rfl (by omega) (by decide) (fun c1 => ?_) (fun c1 => ?_)
    · refine go_iload_n (q := 52) d_mo_length_51 rfl rfl rfl ?_
      refine go_bipush (q := 54) d_mo_length_52 rfl (by decide) ?_
      refine go_icmp_le (t := 61) (q := 57) d_mo_length_54 (by decide) rfl (by omega) (by decide) (fun c2 => ?_) (fun c2 => ?_)
      · refine go_iload_n (q := 62) d_mo_length_61 rfl rfl rfl ?_
        refine go_bipush (q := 64) d_mo_length_62 rfl (by decide) ?_
        refine go_icmp_le (t := 71) (q := 67) d_mo_length_64 (by decide) rfl (by omega) (by decide) (fun c3 => ?_) (fun c3 => ?_)
        · refine go_iconst (q := 72) d_mo_length_71 rfl ?_
          exact fin 1 (by decide) (by decide) (by show 1 ≤ t; omega) (by show t < 10; omega)
        · refine go_iconst (q := 68) d_mo_length_67 rfl ?_
          refine go_goto (q := 72) d_mo_length_68 (by decide) ?_
          exact fin 2 (by decide) (by decide) (by show 10 ≤ t; omega) (by show t < 100; omega)
      · refine go_iconst (q := 58) d_mo_length_57 rfl ?_
        refine go_goto (q := 72) d_mo_length_58 (by decide) ?_
        exact fin 3 (by decide) (by decide) (by show 100 ≤ t; omega) (by show t < 1000; omega)
    · refine go_iconst (q := 48) d_mo_length_47 rfl ?_
      refine go_goto (q := 72) d_mo_length_48 (by decide) ?_
      exact fin 4 (by decide) (by decide) (by show 1000 ≤ t; omega) (by show t < 10000; omega)
  · refine go_iconst (q := 10) d_mo_length_9 rfl ?_
    have hv0 : V r = 0 := (mo_U0 hM hr).mp (by omega)
    exact go_iret d_mo_length_10 rfl go_le0 ⟨⟨1, ⟨Nat.le_refl _, by rw [hv0]; decide, Or.inl rfl⟩, by decide, rfl⟩, rfl, rfl⟩
theorem tm_fromEnd {r k : Nat} (hV : mo_V h o (I, tx, S, ps, cs, bs) V) (hr : r < 160) (hk : k < 160) : Fn l m_mo_fromEnd rd_mo_fromEnd rw_mo_fromEnd 0 0 [mv_R o, mv_I (r : Int), mv_I (k : Int)] h n (fun w h' n' => w = some (mv_I (dg_ (V r) k : Int)) ∧ n' = n ∧ h' = h) := by
  refine fn_of rfl (Nat.le_of_ble_eq_true rfl) rfl ?_
  obtain ⟨D, U, hm, hM⟩ := id hV
  have hrw := hM.2.2 r hr
  have hD := hM.1 (40 * r + k / 4)
  obtain ⟨t, ht⟩ : ∃ t : Nat, D (40 * r + k / 4) = (t : Int) := ⟨(D (40 * r + k / 4)).toNat, by omega⟩
  have hdig : V r / 10000 ^ (k / 4) % 10000 = t := by
    rw [← hrw.2.2, nv_dgt (by decide) (k / 4) 40 _ (fun j _ => by have := hM.1 (40 * r + j); omega) (by omega)]
    show (D (40 * r + k / 4)).toNat = t
    rw [ht, Int.toNat_natCast]
  have e10 : V r / 10 ^ k = V r / 10000 ^ (k / 4) / 10 ^ (k % 4) := by
    rw [Nat.div_div_eq_div_mul, show (10000 : Nat) = 10 ^ 4 from rfl, ← Nat.pow_mul, ← Nat.pow_add, show 4 * (k / 4) + k % 4 = k by omega]
  refine go_aload_n (q := 1) d_mo_fromEnd_0 rfl rfl rfl ?_
  refine go_getf (q := 4) f_mo_17 d_mo_fromEnd_1 rfl (MD_c0 hm) rfl ?_
  refine go_bipush (q := 6) d_mo_fromEnd_4 rfl (by decide) ?_
  refine go_iload_n (q := 7) d_mo_fromEnd_6 rfl rfl rfl ?_
  refine go_imul (q := 8) d_mo_fromEnd_7 rfl ?_
  refine go_iload_n (q := 9) d_mo_fromEnd_8 rfl rfl rfl ?_
  refine go_iconst (q := 10) d_mo_fromEnd_9 rfl ?_
  refine go_idiv (z := (k : Int) / 4) (q := 11) d_mo_fromEnd_10 rfl (gn_ne0 (by decide)) (gn_div (by omega) (by decide)) ?_
  refine go_iadd (q := 12) d_mo_fromEnd_11 rfl ?_
  refine go_iald (i := 40 * r + k / 4) (q := 13) d_mo_fromEnd_12 rfl (MD_c2 hm) (by omega) (by omega) (by decide) ?_
  rw [ht]
  refine go_istore_n (q := 14) (L' := [some (mv_R o), some (mv_I (r : Int)), some (mv_I (k : Int)), some (mv_I (t : Int)), none]) d_mo_fromEnd_13 rfl rfl (by decide) rfl ?_
  refine go_iload_n (q := 15) d_mo_fromEnd_14 rfl rfl rfl ?_
  refine go_iconst (q := 16) d_mo_fromEnd_15 rfl ?_
  refine go_irem (z := (k : Int) % 4) (q := 17) d_mo_fromEnd_16 rfl (gn_ne0 (by decide)) (gn_rem (by omega) (by decide)) ?_
  refine go_istore (q := 19) (L' := [some (mv_R o), some (mv_I (r : Int)), some (mv_I (k : Int)), some (mv_I (t : Int)), some (mv_I ((k : Int) % 4))]) d_mo_fromEnd_17 rfl (by decide) rfl ?_
  have fin : ∀ (x : Nat) (L : List (Option mv_V)), x = dg_ (V r) k → Go (go_f 0 0 fun w h' n' => w = some (mv_I (dg_ (V r) k : Int)) ∧ n' = n ∧ h' = h) l m_mo_fromEnd (go_rm rd_mo_fromEnd rw_mo_fromEnd 0 0) (0, 0) 68 L [mv_I (x : Int)] h n := fun x L e => by
    subst e
    exact go_iret d_mo_fromEnd_68 rfl go_le0 ⟨rfl, rfl, rfl⟩
  have dgk : ∀ (j : Nat), k % 4 = j → dg_ (V r) k = V r / 10000 ^ (k / 4) / 10 ^ j % 10 := fun j e => by
    unfold dg_
    rw [e10, e]
  refine go_iload (q := 21) d_mo_fromEnd_19 rfl rfl ?_
  refine go_if_ne (t := 31) (q := 24) d_mo_fromEnd_21 (by decide) rfl (by omega) (fun c0 => ?_) (fun c0 => ?_)
  · refine go_iload (q := 33) d_mo_fromEnd_31 rfl rfl ?_
    refine go_iconst (q := 34) d_mo_fromEnd_33 rfl ?_
    refine go_icmp_ne (t := 47) (q := 37) d_mo_fromEnd_34 (by decide) rfl (by omega) (by decide) (fun c1 => ?_) (fun c1 => ?_)
    · refine go_iload (q := 49) d_mo_fromEnd_47 rfl rfl ?_
      refine go_iconst (q := 50) d_mo_fromEnd_49 rfl ?_
      refine go_icmp_ne (t := 63) (q := 53) d_mo_fromEnd_50 (by decide) rfl (by omega) (by decide) (fun c2 => ?_) (fun c2 => ?_)
      · refine go_iload_n (q := 64) d_mo_fromEnd_63 rfl rfl rfl ?_
        refine go_sipush (q := 67) d_mo_fromEnd_64 rfl (by decide) ?_
        refine go_idiv (z := (t : Int) / 1000) (q := 68) d_mo_fromEnd_67 rfl (gn_ne0 (by decide)) (gn_div (by omega) (by decide)) ?_
        rw [show (t : Int) / 1000 = ((t / 1000 : Nat) : Int) by omega]
        refine fin _ _ ?_
        rw [dgk 3 (by omega)]
        generalize V r / 10000 ^ (k / 4) = Q at hdig
        show t / 1000 = Q / 1000 % 10
        omega
      · refine go_iload_n (q := 54) d_mo_fromEnd_53 rfl rfl rfl ?_
        refine go_bipush (q := 56) d_mo_fromEnd_54 rfl (by decide) ?_
        refine go_idiv (z := (t : Int) / 100) (q := 57) d_mo_fromEnd_56 rfl (gn_ne0 (by decide)) (gn_div (by omega) (by decide)) ?_
        refine go_bipush (q := 59) d_mo_fromEnd_57 rfl (by decide) ?_
        refine go_irem (z := (t : Int) / 100 % 10) (q := 60) d_mo_fromEnd_59 rfl (gn_ne0 (by decide)) (gn_rem (by omega) (by decide)) ?_
        refine go_goto (q := 68) d_mo_fromEnd_60 (by decide) ?_
        rw [show (t : Int) / 100 % 10 = ((t / 100 % 10 : Nat) : Int) by omega]
        refine fin _ _ ?_
        rw [dgk 2 (by omega)]
        generalize V r / 10000 ^ (k / 4) = Q at hdig
        show t / 100 % 10 = Q / 100 % 10
        omega
    · refine go_iload_n (q := 38) d_mo_fromEnd_37 rfl rfl rfl ?_
      refine go_bipush (q := 40) d_mo_fromEnd_38 rfl (by decide) ?_
      refine go_idiv (z := (t : Int) / 10) (q := 41) d_mo_fromEnd_40 rfl (gn_ne0 (by decide)) (gn_div (by omega) (by decide)) ?_
      refine go_bipush (q := 43) d_mo_fromEnd_41 rfl (by decide) ?_
      refine go_irem (z := (t : Int) / 10 % 10) (q := 44) d_mo_fromEnd_43 rfl (gn_ne0 (by decide)) (gn_rem (by omega) (by decide)) ?_
      refine go_goto (q := 68) d_mo_fromEnd_44 (by decide) ?_
      rw [show (t : Int) / 10 % 10 = ((t / 10 % 10 : Nat) : Int) by omega]
      refine fin _ _ ?_
      rw [dgk 1 (by omega)]
      generalize V r / 10000 ^ (k / 4) = Q at hdig
      show t / 10 % 10 = Q / 10 % 10
      omega
  · refine go_iload_n (q := 25) d_mo_fromEnd_24 rfl rfl rfl ?_
    refine go_bipush (q := 27) d_mo_fromEnd_25 rfl (by decide) ?_
    refine go_irem (z := (t : Int) % 10) (q := 28) d_mo_fromEnd_27 rfl (gn_ne0 (by decide)) (gn_rem (by omega) (by decide)) ?_
    refine go_goto (q := 68) d_mo_fromEnd_28 (by decide) ?_
    rw [show (t : Int) % 10 = ((t % 10 : Nat) : Int) by omega]
    refine fin _ _ ?_
    rw [dgk 0 (by omega)]
    generalize V r / 10000 ^ (k / 4) = Q at hdig
    show t % 10 = Q / 1 % 10
    omega
theorem tm_digit {i : Int} (hV : mo_V h o (I, tx, S, ps, cs, bs) V) (hS : ∀ i, -1 ≤ S i ∧ S i ≤ 1) (hi : -2147483648 ≤ i ∧ i ≤ 2147483647) (hb : V 144 < 2 ^ 240 ∧ V 145 < 2 ^ 240) : Fn l m_mo_digit rd_mo_digit rw_mo_digit 0 0 [mv_R o, mv_I i] h n
    (fun w h' n' => (∃ L K, Dl (V 144) L ∧ Dl (V 145) K ∧ w = some (mv_I (di_ (S 72) (V 144) (V 145) L K i))) ∧ n' = n ∧ fr_ o 8 h h' ∧ mo_V h' o (va_up I 0 0, tx, S, ps, cs, bs) V) := by
  refine fn_of rfl (Nat.le_of_ble_eq_true rfl) rfl ?_
  refine so_di_0 hV (fun h1 hV1 hf1 => ?_)
  obtain ⟨fs, hob⟩ := mo_Vob hV1
  refine go_callV (M' := m_mo_length) (d := rd_mo_length) (w := rw_mo_length) (mc := 0) (ms := 0) (as := [mv_I 144]) (b := o) (rest := []) (q := 12) g_mo_length i_mo_length v_mo_length l_mo_191 d_mo_digit_9 rfl rfl rfl hob rfl (by decide) ⟨by decide, by decide, by decide, by decide⟩ (tm_length (r := 144) hV1 (by decide)) ?_
  rintro w h2 n2 ⟨⟨L, hL, -, rfl⟩, rfl, rfl⟩ -
  refine go_u0 (so_di_12 hV1 ?_)
  refine go_callV (M' := m_mo_length) (d := rd_mo_length) (w := rw_mo_length) (mc := 0) (ms := 0) (as := [mv_I 145]) (b := o) (rest := []) (q := 20) g_mo_length i_mo_length v_mo_length l_mo_191 d_mo_digit_17 rfl rfl rfl hob rfl (by decide) ⟨by decide, by decide, by decide, by decide⟩ (tm_length (r := 145) hV1 (by decide)) ?_
  rintro w h2 n2 ⟨⟨K, hK, -, rfl⟩, rfl, rfl⟩ -
  have hL73 := Dl_73 hL hb.1
  have hK73 := Dl_73 hK hb.2
  -- the place k behind the sign
  have body : ∀ k : Int, (if S 72 < 0 then i - 1 else i) = k → Go (go_f 0 0 fun w h' n' => (∃ L K, Dl (V 144) L ∧ Dl (V 145) K ∧ w = some (mv_I (di_ (S 72) (V 144) (V 145) L K i))) ∧ n' = n2 ∧ fr_ o 8 h h' ∧ mo_V h' o (va_up I 0 0, tx, S, ps, cs, bs) V) l m_mo_digit (go_rm rd_mo_digit rw_mo_digit 0 0) (0, 0) 40 [some (mv_R o), some (mv_I i), some (mv_I (L : Int)), some (mv_I (K : Int)), some (mv_I k)] [] h2 n2 := by
    intro k hk
    have hkb : 0 ≤ i → -1 ≤ k ∧ k ≤ 2147483647 := fun h0 => by
      rw [← hk]
      split <;> omega
    have fin : ∀ (pc : Nat) (x : Int) (L' : List (Option mv_V)), decode b_mo_digit pc = .ok (.ireturn, 1) → x = di_ (S 72) (V 144) (V 145) L K i → Go (go_f 0 0 fun w h' n' => (∃ L K, Dl (V 144) L ∧ Dl (V 145) K ∧ w = some (mv_I (di_ (S 72) (V 144) (V 145) L K i))) ∧ n' = n2 ∧ fr_ o 8 h h' ∧ mo_V h' o (va_up I 0 0, tx, S, ps, cs, bs) V) l m_mo_digit (go_rm rd_mo_digit rw_mo_digit 0 0) (0, 0) pc L' [mv_I x] h2 n2 := fun pc x L' hd e => by
      subst e
      have hb2 := di_b (S 72) (V 144) (V 145) L K i
      exact go_zret hd rfl (nr_char (by omega)) go_le0 ⟨⟨L, K, hL, hK, rfl⟩, rfl, hf1, hV1⟩
    have edi : 0 ≤ i → di_ (S 72) (V 144) (V 145) L K i = dk_ (V 144) (V 145) L K k := fun h0 => by
      unfold di_
      rw [if_neg (by omega), hk]
    have e145 : V (2 * 72 + 1) = V 145 := rfl
    refine so_di_40 hV1 hi hkb (by omega) (fun c1 c2 c3 c4 => ?_) (fun c1 c2 c3 c4 c5 c6 => ?_) (fun c1 c2 c3 c4 c5 c6 => ?_) (fun c1 c2 c3 c4 c5 => ?_) (fun c1 c2 c3 => ?_) (fun c1 c2 => ?_) (fun c1 => ?_)
    · refine fin 96 0 _ d_mo_digit_96 ?_
      rw [edi c1]
      unfold dk_
      rw [if_neg (by omega), if_neg (by omega), if_pos (Or.inl c4)]
    · rw [show (L : Int) + (K : Int) - k = ((L + K - k.toNat : Nat) : Int) by omega]
      refine go_callV (M' := m_mo_fromEnd) (d := rd_mo_fromEnd) (w := rw_mo_fromEnd) (mc := 0) (ms := 0) (as := [mv_I 145, mv_I ((L + K - k.toNat : Nat) : Int)]) (b := o) (rest := [mv_I 48]) (q := 123) g_mo_fromEnd i_mo_fromEnd v_mo_fromEnd l_mo_194 d_mo_digit_120 rfl rfl rfl hob rfl (by decide) ⟨by decide, by decide, by decide, by decide⟩ (tm_fromEnd (r := 145) hV1 (by decide) (by omega)) ?_
      rintro w h3 n3 ⟨rfl, rfl, rfl⟩ -
      have hdb := dg_b (V 145) (L + K - k.toNat)
      refine go_u0 (go_iadd (q := 124) d_mo_digit_123 rfl ?_)
      refine go_i2c (q := 125) d_mo_digit_124 rfl (by omega) ?_
      refine fin 125 _ _ d_mo_digit_125 ?_
      rw [edi c1]
      unfold dk_
      rw [if_neg (by omega), if_neg (by omega), if_neg (fun z => by rcases z with z | z; exact c4 z; omega), if_neg c6]
    · refine fin 125 47 _ d_mo_digit_125 ?_
      rw [edi c1]
      unfold dk_
      rw [if_neg (by omega), if_neg (by omega), if_neg (fun z => by rcases z with z | z; exact c4 z; omega), if_pos c6]
    · refine fin 96 0 _ d_mo_digit_96 ?_
      rw [edi c1]
      unfold dk_
      rw [if_neg (by omega), if_neg (by omega), if_pos (Or.inr (by omega))]
    · rw [show (L : Int) - 1 - k = ((L - 1 - k.toNat : Nat) : Int) by omega]
      refine go_callV (M' := m_mo_fromEnd) (d := rd_mo_fromEnd) (w := rw_mo_fromEnd) (mc := 0) (ms := 0) (as := [mv_I 144, mv_I ((L - 1 - k.toNat : Nat) : Int)]) (b := o) (rest := [mv_I 48]) (q := 75) g_mo_fromEnd i_mo_fromEnd v_mo_fromEnd l_mo_194 d_mo_digit_72 rfl rfl rfl hob rfl (by decide) ⟨by decide, by decide, by decide, by decide⟩ (tm_fromEnd (r := 144) hV1 (by decide) (by omega)) ?_
      rintro w h3 n3 ⟨rfl, rfl, rfl⟩ -
      have hdb := dg_b (V 144) (L - 1 - k.toNat)
      refine go_u0 (go_iadd (q := 76) d_mo_digit_75 rfl ?_)
      refine go_i2c (q := 77) d_mo_digit_76 rfl (by omega) ?_
      refine fin 77 _ _ d_mo_digit_77 ?_
      rw [edi c1]
      unfold dk_
      rw [if_neg (by omega), if_pos (by omega)]
    · refine fin 53 45 _ d_mo_digit_53 ?_
      rw [edi c1]
      unfold dk_
      rw [if_pos (by omega)]
    · refine fin 45 0 _ d_mo_digit_45 ?_
      unfold di_
      rw [if_pos (by omega)]
  refine go_u0 (so_di_20 hV1 hS (fun c => body i (if_neg (by omega))) (fun c => body (i - 1) (if_pos (by omega))))
end MoDig
