/-! the class's Writing; settle; digit -/
theorem nr_char {x : Int} (hx : 0 ≤ x ∧ x ≤ 65535) : narrow .char (.int (Int32.ofInt x)) = .int (Int32.ofInt x) := congrArg Value.int (gn_char hx)
section WrVal
variable {φ : go_F} {l : Launch} {h : mv_H} {n : Nat} {I tx wr ga gb mo mf mg : Nat → Int} {B : Nat → Int} {V : Nat → Nat}
theorem tz_put {c : Int} {s : Nat} (hV : pn_V h (I, tx, wr, ga, gb, mo, mf, mg) B V) (hc : 0 ≤ c ∧ c ≤ 127) (hs : I 2 = (s : Int) + 1 ∧ s < 148) :
    Fn l m_wr_put rd_wr_put rw_wr_put 0 0 [mv_R 8, mv_I c] h n (fun w h' n' => w = none ∧ n' = n ∧ fr_ 1 389 h h' ∧ pn_V h' (va_up I 2 (I 2 - 1), tx, va_up wr s c, ga, gb, mo, mf, mg) B V) := by
  refine fn_of rfl (Nat.le_of_ble_eq_true rfl) rfl ?_
  exact sz_put hV hc hs fun h1 hV1 hf1 => go_vret d_wr_put_20 rfl go_le0 ⟨rfl, rfl, hf1, hV1⟩
def pa_ (h : mv_H) (n : Nat) (I tx wr ga gb mo mf mg : Nat → Int) (B : Nat → Int) (V : Nat → Nat) (s v L : Nat) (w : Option mv_V) (h' : mv_H) (n' : Nat) : Prop :=
  w = none ∧ n' = n ∧ fr_ 1 389 h h' ∧ ∃ (I' : Nat → Int) (V' : Nat → Nat), pn_V h' (I', tx, wa_ wr s v L, ga, gb, mo, mf, mg) B V' ∧ I' 2 = ((s - L : Nat) : Int) ∧ (∀ i, i ≠ 2 → I' i = I i) ∧ ∀ i, i ≠ 10 → V' i = V i
theorem tz_pa {p s v L : Nat} (hV : pn_V h (I, tx, wr, ga, gb, mo, mf, mg) B V) (hp : p = 4 ∨ p = 6) (hv : V p = v) (hb : v < 2 ^ 240) (hL : Dl v L) (hs : I 2 = (s : Int) ∧ L ≤ s ∧ s ≤ 148) :
    Fn l m_wr_putAmount rd_wr_putAmount rw_wr_putAmount 0 0 [mv_R 8, mv_R p] h n (pa_ h n I tx wr ga gb mo mf mg B V s v L) := by
  refine fn_of rfl (Nat.le_of_ble_eq_true rfl) rfl ?_
  have hL73 := Dl_73 hL hb
  obtain ⟨l1, l2, l3⟩ := hL
  have rp : ro_ p := by unfold ro_; omega
  have lp : ∀ (d k : Nat) (h1 : mv_H) (I1 : Nat → Int) (V1 : Nat → Nat), k + d = L → 1 ≤ k → pn_V h1 (I1, tx, wa_ wr s v k, ga, gb, mo, mf, mg) B V1 → fr_ 1 389 h h1 → I1 2 = ((s - k : Nat) : Int) → (∀ i, i ≠ 2 → I1 i = I i) → V1 10 = v / 10 ^ k → (∀ i, i ≠ 10 → V1 i = V i) →
      Go (go_f 0 0 (pa_ h n I tx wr ga gb mo mf mg B V s v L)) l m_wr_putAmount (go_rm rd_wr_putAmount rw_wr_putAmount 0 0) (0, 0) 27 [some (mv_R 8), some (mv_R p), some (mv_I (k : Int))] [] h1 n := by
    intro d
    induction d with
    | zero =>
      intro k h1 I1 V1 hk hk1 hV1 hf1 h2 hI hv1 hW
      have ek : k = L := by omega
      subst ek
      have fin : Go (go_f 0 0 (pa_ h n I tx wr ga gb mo mf mg B V s v k)) l m_wr_putAmount (go_rm rd_wr_putAmount rw_wr_putAmount 0 0) (0, 0) 66 [some (mv_R 8), some (mv_R p), some (mv_I (k : Int))] [] h1 n :=
        go_vret d_wr_putAmount_66 rfl go_le0 ⟨rfl, rfl, hf1, I1, V1, hV1, h2, hI, hW⟩
      refine sz_pa_27 hV1 hL73 (fun _ => fin) (fun _ _ => fin) (fun _ c => ?_)
      rw [hv1, Nat.div_eq_of_lt l2] at c
      exact absurd rfl c
    | succ d ih =>
      intro k h1 I1 V1 hk hk1 hV1 hf1 h2 hI hv1 hW
      have hge : 10 ^ k ≤ v := by
        have : 10 ^ k ≤ 10 ^ (L - 1) := Nat.pow_le_pow_right (by decide) (by omega)
        omega
      have hpos : V1 10 ≠ 0 := by
        rw [hv1]
        have := Nat.div_pos hge (Nat.pow_pos (by decide))
        omega
      refine sz_pa_27 hV1 (by omega) (fun c => by omega) (fun _ c => absurd c hpos) (fun _ _ h3 hV3 hf3 => ?_)
      have e1 : ((V1 10 % 10 : Nat) : Int) = (dg_ v k : Int) := by rw [hv1]; rfl
      rw [e1]
      have hdb := dg_b v k
      refine go_callV (M' := m_wr_put) (d := rd_wr_put) (w := rw_wr_put) (mc := 0) (ms := 0) (as := [mv_I (48 + (dg_ v k : Int))]) (b := 8) (rest := []) (q := 60) g_wr_put i_wr_put v_wr_put l_wr_41 d_wr_putAmount_57 rfl rfl rfl (pn_c8 hV3) rfl (by decide) ⟨by decide, by decide, by decide, by decide⟩ (tz_put (s := s - k - 1) hV3 (by omega) ⟨by rw [h2]; omega, by omega⟩) ?_
      rintro w h4 n4 ⟨rfl, rfl, hf4, hV4⟩ -
      rw [wa_s (by omega)] at hV4
      refine go_u0 (sz_pa_60 hV4 ?_)
      rw [show ((k : Int) + 1) = ((k + 1 : Nat) : Int) by omega]
      refine ih (k + 1) h4 _ _ (by omega) (by omega) hV4 (hf1.tr (hf3.tr hf4)) (by rw [va_up_self, h2]; omega) (fun i hi => by rw [va_up_ne _ _ hi]; exact hI i hi) (by rw [va_up_self, hv1, Nat.div_div_eq_div_mul, Nat.pow_succ]) (fun i hi => by rw [va_up_ne _ _ hi]; exact hW i hi)
  refine sz_pa_0 hV hp rp (by rw [hv, w_240]; exact hb) (fun h1 hV1 hf1 => ?_)
  have e1 : ((V p % 10 : Nat) : Int) = (dg_ v 0 : Int) := by
    rw [hv]
    unfold dg_
    rw [Nat.pow_zero, Nat.div_one]
  rw [e1]
  have hdb := dg_b v 0
  refine go_callV (M' := m_wr_put) (d := rd_wr_put) (w := rw_wr_put) (mc := 0) (ms := 0) (as := [mv_I (48 + (dg_ v 0 : Int))]) (b := 8) (rest := []) (q := 25) g_wr_put i_wr_put v_wr_put l_wr_41 d_wr_putAmount_22 rfl rfl rfl (pn_c8 hV1) rfl (by decide) ⟨by decide, by decide, by decide, by decide⟩ (tz_put (s := s - 0 - 1) hV1 (by omega) ⟨by omega, by omega⟩) ?_
  rintro w h4 n4 ⟨rfl, rfl, hf4, hV4⟩ -
  have ew : va_up wr (s - 0 - 1) (48 + (dg_ v 0 : Int)) = wa_ wr s v 1 := by
    have := wa_s (wr := wr) (s := s) (v := v) (k := 0) (by omega)
    rw [wa_0] at this
    exact this
  rw [ew] at hV4
  refine go_u0 (sz_pa_25 hV4 ?_)
  exact lp (L - 1) 1 h4 _ _ (by omega) (Nat.le_refl _) hV4 (hf1.tr hf4) (by rw [va_up_self]; omega) (fun i hi => va_up_ne _ _ hi) (by rw [va_up_self, hv]) (fun i hi => by rw [va_up_ne _ _ hi, va_up_ne _ _ hi])
def wrq_ (h : mv_H) (n : Nat) (I tx ga gb mo mf mg : Nat → Int) (B : Nat → Int) (V : Nat → Nat) (w : Option mv_V) (h' : mv_H) (n' : Nat) : Prop :=
  w = none ∧ n' = n ∧ fr_ 1 389 h h' ∧ ∃ (I' wr' : Nat → Int) (V' : Nat → Nat), pn_V h' (I', tx, wr', ga, gb, mo, mf, mg) B V' ∧ (∀ i, i ≠ 2 → I' i = I i) ∧ (∀ i, i ≠ 10 → V' i = V i) ∧ wrv_ (I' 2) wr' (kq_ B V 3)
theorem tz_write (hV : pn_V h (I, tx, wr, ga, gb, mo, mf, mg) B V) (hw : wf_ B V 3) : Fn l m_wr_write rd_wr_write rw_wr_write 0 0 [mv_R 8, mv_R 3] h n (wrq_ h n I tx ga gb mo mf mg B V) := by
  refine fn_of rfl (Nat.le_of_ble_eq_true rfl) rfl ?_
  obtain ⟨b1, b2⟩ := ca_b8 hV fa_r
  obtain ⟨L, hL⟩ := Dl_ex (V 4)
  obtain ⟨K, hK⟩ := Dl_ex (V 6)
  have hL73 := Dl_73 hL b1
  have hK73 := Dl_73 hK b2
  have es : (kq_ B V 3).1 = if V 4 = 0 then 0 else if B 3 = 0 then 1 else -1 := rfl
  have hsp : B 3 = 0 → ¬ (kq_ B V 3).1 < 0 := fun c => by
    rw [es, c]
    split
    · omega
    · rw [if_pos rfl]; omega
  have hsn : ¬ B 3 = 0 → (kq_ B V 3).1 < 0 := fun c => by
    rw [es, if_neg (fun z => c (hw.2 z)), if_neg c]
    omega
  -- the amount n, and then the sign: s characters of room are left
  have body : ∀ (h1 : mv_H) (I1 wr1 : Nat → Int) (V1 : Nat → Nat) (s : Nat), pn_V h1 (I1, tx, wr1, ga, gb, mo, mf, mg) B V1 → fr_ 1 389 h h1 → I1 2 = (s : Int) → s ≤ 148 → s = (if V 6 = 1 then 148 else 147 - K) → (∀ i, i ≠ 2 → I1 i = I i) → (∀ i, i ≠ 10 → V1 i = V i) → (∀ k : Nat, k < L + (if V 6 = 1 then 0 else 1 + K) → wa_ wr1 s (V 4) L (s - L + k) = dk_ (V 4) (V 6) L K (k : Int)) →
      Go (go_f 0 0 (wrq_ h n I tx ga gb mo mf mg B V)) l m_wr_write (go_rm rd_wr_write rw_wr_write 0 0) (0, 0) 28 [some (mv_R 8), some (mv_R 3)] [] h1 n := by
    intro h1 I1 wr1 V1 s hV1 hf1 h2 hs148 hs hI hW hk
    have hsL : 74 ≤ s := by
      rw [hs]
      split <;> omega
    have hwt : ∀ g : Nat, (if V 6 = 1 then 148 else 147 - K) = s → 148 - (g + L + (if V 6 = 1 then 0 else 1 + K)) = s - L - g := fun g e => by
      split at e
      · next c => rw [if_pos c]; omega
      · next c => rw [if_neg c]; omega
    refine sz_wr_28 hV1 ?_
    refine go_callV (M' := m_wr_putAmount) (d := rd_wr_putAmount) (w := rw_wr_putAmount) (mc := 0) (ms := 0) (as := [mv_R 4]) (b := 8) (rest := []) (q := 36) g_wr_putAmount i_wr_putAmount v_wr_putAmount l_wr_37 d_wr_write_33 rfl rfl rfl (pn_c8 hV1) rfl (by decide) ⟨by decide, by decide, by decide, by decide⟩ (tz_pa (p := 4) (s := s) (v := V 4) (L := L) hV1 (Or.inl rfl) (hW 4 (by decide)) b1 hL ⟨h2, by omega, hs148⟩) ?_
    rintro w h3 n3 ⟨rfl, rfl, hf3, I3, V3, hV3, h23, hI3, hW3⟩ -
    refine go_u0 (sz_wr_36 hV3 (fun c => ?_) (fun c => ?_))
    · refine go_vret d_wr_write_49 rfl go_le0 ⟨rfl, rfl, hf1.tr hf3, I3, _, V3, hV3, fun i hi => (hI3 i hi).trans (hI i hi), fun i hi => (hW3 i hi).trans (hW i hi), L, K, hL, hK, hL73, hK73, ?_, ?_⟩
      · have e := hwt 0 hs.symm
        have ew : wt_ (kq_ B V 3).1 (kq_ B V 3).2.2 L K = 0 + L + (if V 6 = 1 then 0 else 1 + K) := by
          unfold wt_
          rw [if_neg (hsp c)]
          rfl
        rw [ew, h23]
        have hle : 0 + L + (if V 6 = 1 then 0 else 1 + K) ≤ 148 := by split <;> omega
        omega
      · have e := hwt 0 hs.symm
        have ew : wt_ (kq_ B V 3).1 (kq_ B V 3).2.2 L K = 0 + L + (if V 6 = 1 then 0 else 1 + K) := by
          unfold wt_
          rw [if_neg (hsp c)]
          rfl
        have h5 := wv_sign (X := wa_ wr1 s (V 4) L) (s := (kq_ B V 3).1) (n := V 4) (d := V 6) (L := L) (K := K) (b := s - L) hk (hsp c)
        intro j hj
        have := h5 j hj
        rw [ew, e, show s - L - 0 = s - L by omega]
        exact this
    · refine go_callV (M' := m_wr_put) (d := rd_wr_put) (w := rw_wr_put) (mc := 0) (ms := 0) (as := [mv_I 45]) (b := 8) (rest := []) (q := 49) g_wr_put i_wr_put v_wr_put l_wr_41 d_wr_write_46 rfl rfl rfl (pn_c8 hV3) rfl (by decide) ⟨by decide, by decide, by decide, by decide⟩ (tz_put (s := s - L - 1) hV3 (by decide) ⟨by rw [h23]; omega, by omega⟩) ?_
      rintro w h4 n4 ⟨rfl, rfl, hf4, hV4⟩ -
      have ew : wt_ (kq_ B V 3).1 (kq_ B V 3).2.2 L K = 1 + L + (if V 6 = 1 then 0 else 1 + K) := by
        unfold wt_
        rw [if_pos (hsn c)]
        rfl
      have e := hwt 1 hs.symm
      refine go_u0 (go_vret d_wr_write_49 rfl go_le0 ⟨rfl, rfl, hf1.tr (hf3.tr hf4), _, _, V3, hV4, fun i hi => by rw [va_up_ne _ _ hi]; exact (hI3 i hi).trans (hI i hi), fun i hi => (hW3 i hi).trans (hW i hi), L, K, hL, hK, hL73, hK73, ?_, ?_⟩)
      · rw [va_up_self, h23, ew]
        have hle : 1 + L + (if V 6 = 1 then 0 else 1 + K) ≤ 148 := by split <;> omega
        omega
      · have h5 := wv_minus (X := wa_ wr1 s (V 4) L) (s := (kq_ B V 3).1) (n := V 4) (d := V 6) (L := L) (K := K) (b := s - L - 1) (fun k hk2 => by rw [show s - L - 1 + 1 + k = s - L + k by omega]; exact hk k hk2) (hsn c)
        intro j hj
        have := h5 j hj
        rw [ew, e]
        exact this
  refine sz_wr_0 hV (fun c h1 hV1 hf1 => ?_) (fun c h1 hV1 hf1 => ?_)
  · exact body h1 _ wr V 148 hV1 hf1 (va_up_self _ _ _) (Nat.le_refl _) (by rw [if_pos c]) (fun i hi => va_up_ne _ _ hi) (fun _ _ => rfl) (wv_whole c hL73)
  · refine go_callV (M' := m_wr_putAmount) (d := rd_wr_putAmount) (w := rw_wr_putAmount) (mc := 0) (ms := 0) (as := [mv_R 6]) (b := 8) (rest := []) (q := 22) g_wr_putAmount i_wr_putAmount v_wr_putAmount l_wr_37 d_wr_write_19 rfl rfl rfl (pn_c8 hV1) rfl (by decide) ⟨by decide, by decide, by decide, by decide⟩ (tz_pa (p := 6) (s := 148) (v := V 6) (L := K) hV1 (Or.inr rfl) rfl b2 hK ⟨va_up_self _ _ _, by omega, Nat.le_refl _⟩) ?_
    rintro w h3 n3 ⟨rfl, rfl, hf3, I3, V3, hV3, h23, hI3, hW3⟩ -
    have hK1 := hK.1
    refine go_u0 (sz_wr_22 hV3 ?_)
    refine go_callV (M' := m_wr_put) (d := rd_wr_put) (w := rw_wr_put) (mc := 0) (ms := 0) (as := [mv_I 47]) (b := 8) (rest := []) (q := 28) g_wr_put i_wr_put v_wr_put l_wr_41 d_wr_write_25 rfl rfl rfl (pn_c8 hV3) rfl (by decide) ⟨by decide, by decide, by decide, by decide⟩ (tz_put (s := 147 - K) hV3 (by decide) ⟨by rw [h23]; omega, by omega⟩) ?_
    rintro w h4 n4 ⟨rfl, rfl, hf4, hV4⟩ -
    exact go_u0 (body h4 _ _ V3 (147 - K) hV4 (hf1.tr (hf3.tr hf4)) (by rw [va_up_self, h23]; omega) (by omega) (by rw [if_neg c]) (fun i hi => by rw [va_up_ne _ _ hi, hI3 i hi, va_up_ne _ _ hi]) hW3 (wv_frac c hL73 hK73 hK1))
theorem tz_character {i : Int} {x : qv_} (hV : pn_V h (I, tx, wr, ga, gb, mo, mf, mg) B V) (hw : wrv_ (I 2) wr x) (hi : -2147483648 ≤ i ∧ i ≤ 2147483647) : Fn l m_wr_character rd_wr_character rw_wr_character 0 0 [mv_R 8, mv_I i] h n (fun w h' n' => (∃ L K, Dl x.2.1 L ∧ Dl x.2.2 K ∧ w = some (mv_I (di_ x.1 x.2.1 x.2.2 L K i))) ∧ n' = n ∧ h' = h) := by
  refine fn_of rfl (Nat.le_of_ble_eq_true rfl) rfl ?_
  obtain ⟨L, K, hL, hK, hL3, hK3, hs, hj⟩ := hw
  have hT : wt_ x.1 x.2.2 L K ≤ 148 := by
    unfold wt_
    split
    · split <;> omega
    · split <;> omega
  refine sz_ch (s := 148 - wt_ x.1 x.2.2 L K) hV hi ⟨by omega, by omega⟩ (fun c => ?_) (fun c1 c2 => ?_) (fun c1 c2 => ?_)
  · refine go_zret d_wr_character_31 rfl (by decide) go_le0 ⟨⟨L, K, hL, hK, ?_⟩, rfl, rfl⟩
    unfold di_
    rw [if_pos c]
  · refine go_zret d_wr_character_31 rfl (by decide) go_le0 ⟨⟨L, K, hL, hK, ?_⟩, rfl, rfl⟩
    rw [di_0 (by omega) (by omega)]
  · have e := hj i.toNat (by omega)
    rw [Int.toNat_of_nonneg (by omega)] at e
    rw [e]
    have hb := di_b x.1 x.2.1 x.2.2 L K i
    exact go_zret d_wr_character_31 rfl (nr_char (by omega)) go_le0 ⟨⟨L, K, hL, hK, rfl⟩, rfl, rfl⟩
theorem tp_digit {i : Int} {x : qv_} (hV : pn_V h (I, tx, wr, ga, gb, mo, mf, mg) B V) (hw : wrv_ (I 2) wr x) (hi : -2147483648 ≤ i ∧ i ≤ 2147483647) : Fn l m_pn_digit rd_pn_digit rw_pn_digit 0 0 [mv_R 1, mv_I i] h n (fun w h' n' => (∃ L K, Dl x.2.1 L ∧ Dl x.2.2 K ∧ w = some (mv_I (di_ x.1 x.2.1 x.2.2 L K i))) ∧ n' = n ∧ h' = h) := by
  refine fn_of rfl (Nat.le_of_ble_eq_true rfl) rfl ?_
  refine sp_digit hV ?_
  refine go_callV (M' := m_wr_character) (d := rd_wr_character) (w := rw_wr_character) (mc := 0) (ms := 0) (as := [mv_I i]) (b := 8) (rest := []) (q := 8) g_wr_character i_wr_character v_wr_character l_pn_89 d_pn_digit_5 rfl rfl rfl (pn_c8 hV) rfl (by decide) ⟨by decide, by decide, by decide, by decide⟩ (tz_character hV hw hi) ?_
  rintro w h1 n1 ⟨⟨L, K, hL, hK, rfl⟩, rfl, rfl⟩ -
  have hb := di_b x.1 x.2.1 x.2.2 L K i
  exact go_u0 (go_zret d_pn_digit_8 rfl (nr_char (by omega)) go_le0 ⟨⟨L, K, hL, hK, rfl⟩, rfl, rfl⟩)
/-- the result is the value a, and is written out -/
def stq_ (h : mv_H) (n : Nat) (I tx ga gb mo mf mg : Nat → Int) (B : Nat → Int) (V : Nat → Nat) (a : Nat) (w : Option mv_V) (h' : mv_H) (n' : Nat) : Prop :=
  w = some (mv_I (q_form (kq_ B V a))) ∧ n' = n ∧ fr_ 1 389 h h' ∧ ∃ (I' wr' : Nat → Int) (B' : Nat → Int) (V' : Nat → Nat), pn_V h' (I', tx, wr', ga, gb, mo, mf, mg) B' V' ∧ (∀ i, i ≠ 2 → I' i = I i) ∧ (∀ i, i ≠ 3 → B' i = B i) ∧ (∀ i, i ≠ 4 → i ≠ 6 → i ≠ 10 → V' i = V i) ∧ kq_ B' V' 3 = kq_ B V a ∧ wf_ B' V' 3 ∧ wrv_ (I' 2) wr' (kq_ B V a)
theorem tp_settle {a : Nat} (hV : pn_V h (I, tx, wr, ga, gb, mo, mf, mg) B V) (ha : 50 ≤ a ∧ a < 390 ∧ a % 5 = 0) (hw : wf_ B V a) : Fn l m_pn_settle rd_pn_settle rw_pn_settle 0 0 [mv_R 1, mv_R a] h n (stq_ h n I tx ga gb mo mf mg B V a) := by
  refine fn_of rfl (Nat.le_of_ble_eq_true rfl) rfl ?_
  refine sp_st_0 hV ha (fun h1 hV1 hf1 => ?_)
  have e : kq_ (va_up B 3 (B a)) (va_up (va_up V 4 (V (a + 1))) 6 (V (a + 3))) 3 = kq_ B V a := kq_at (by rw [va_up_ne _ _ (by decide), va_up_self]) (va_up_self _ _ _) (va_up_self _ _ _)
  have w3 : wf_ (va_up B 3 (B a)) (va_up (va_up V 4 (V (a + 1))) 6 (V (a + 3))) 3 := by
    refine ⟨by rw [e]; exact hw.1, ?_⟩
    show va_up (va_up V 4 (V (a + 1))) 6 (V (a + 3)) 4 = 0 → va_up B 3 (B a) 3 = 0
    rw [va_up_ne _ _ (by decide), va_up_self, va_up_self]
    exact hw.2
  refine go_callV (M' := m_wr_write) (d := rd_wr_write) (w := rw_wr_write) (mc := 0) (ms := 0) (as := [mv_R 3]) (b := 8) (rest := []) (q := 19) g_wr_write i_wr_write v_wr_write l_pn_134 d_pn_settle_16 rfl rfl rfl (pn_c8 hV1) rfl (by decide) ⟨by decide, by decide, by decide, by decide⟩ (tz_write hV1 w3) ?_
  rintro w h2 n2 ⟨rfl, rfl, hf2, I2, wr2, V2, hV2, hI2, hW2, hwv⟩ -
  rw [e] at hwv
  have e2 : kq_ (va_up B 3 (B a)) V2 3 = kq_ B V a := (kq_ext rfl (hW2 4 (by decide)) (hW2 6 (by decide))).trans e
  have w2 : wf_ (va_up B 3 (B a)) V2 3 := wf_ext rfl (hW2 4 (by decide)) (hW2 6 (by decide)) w3
  refine go_u0 (sp_st_19 hV2 ?_)
  refine go_callV (M' := m_fr_kind) (d := rd_fr_kind) (w := rw_fr_kind) (mc := 0) (ms := 0) (as := []) (b := 3) (rest := []) (q := 26) g_fr_kind i_fr_kind v_fr_kind l_pn_82 d_pn_settle_23 rfl rfl rfl (pn_cf hV2 fa_r) rfl (by decide) ⟨by decide, by decide, by decide, by decide⟩ (tf_kind hV2 fa_r) ?_
  rintro w h3 n3 ⟨rfl, rfl, rfl⟩ -
  exact go_u0 (go_iret d_pn_settle_26 rfl go_le0 ⟨by rw [e2], rfl, hf1.tr hf2, I2, wr2, _, V2, hV2, hI2, fun i hi => va_up_ne _ _ hi, fun i i1 i2 i3 => by rw [hW2 i i3, va_up_ne _ _ i2, va_up_ne _ _ i1], e2, w2, hwv⟩)
end WrVal
