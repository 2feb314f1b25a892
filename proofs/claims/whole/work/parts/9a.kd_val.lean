/-! kind, side, word; form, sign, bits of both -/
theorem gn_cong32 {a b : Int} (h : a % 4294967296 = b % 4294967296) : Int32.ofInt a = Int32.ofInt b := by
  apply Int32.toBitVec_inj.mp
  apply BitVec.eq_of_toNat_eq
  rw [gn_tn32, gn_tn32, h]
def sgx_ (v : Nat) : Int := if v % 4294967296 < 2147483648 then ((v % 4294967296 : Nat) : Int) else ((v % 4294967296 : Nat) : Int) - 4294967296
theorem sgx_b (v : Nat) : -2147483648 ≤ sgx_ v ∧ sgx_ v ≤ 2147483647 := by
  unfold sgx_
  split <;> omega
theorem sgx_m (v : Nat) : sgx_ v % 4294967296 = ((v % 4294967296 : Nat) : Int) := by
  unfold sgx_
  split <;> omega
section KdRule
variable {φ : go_F} {l : Launch} {M : go_M} {R : Room} {u : Nat × Nat} {pc q : Nat} {L : List (Option mv_V)} {st : List mv_V} {h : mv_H} {n : Nat}
/-- an int may be written by another number of its class -/
theorem go_ivc {a b : Int} (he : a % 4294967296 = b % 4294967296) (k : Go φ l M R u pc L (mv_I b :: st) h n) : Go φ l M R u pc L (mv_I a :: st) h n := by
  intro p e s m args below meth c D ca zt A n0 ad0 C H locs ls ad hS hP hD hl hn ha oh ol os
  have k1 := k p e s m args below meth c D ca zt A n0 ad0 C H locs ls ad hS hP hD hl hn ha oh ol (ok_S.cons trivial os.tl)
  have e2 : (mv_I a :: st).map (mv_c zt ad) = (mv_I b :: st).map (mv_c zt ad) := by
    show mv_c zt ad (mv_I a) :: st.map (mv_c zt ad) = mv_c zt ad (mv_I b) :: st.map (mv_c zt ad)
    have : mv_c zt ad (mv_I a) = mv_c zt ad (mv_I b) := congrArg Value.int (gn_cong32 he)
    rw [this]
  rw [e2]
  exact k1
end KdRule
theorem wd_eq {v j : Nat} (hj : j < 8) : (wq_ v j + wq_ v (j + 1) * 1073741824) / 2 ^ (2 * j) % 4294967296 = v / 2 ^ (32 * j) % 4294967296 := by
  have e1 : wq_ v (j + 1) = v / 1073741824 ^ j / 1073741824 % 1073741824 := by
    unfold wq_
    rw [Nat.pow_succ, Nat.div_div_eq_div_mul]
  have e2 : v / 2 ^ (32 * j) = v / 1073741824 ^ j / 2 ^ (2 * j) := by
    rw [Nat.div_div_eq_div_mul]
    congr 1
    rw [show (1073741824 : Nat) = 2 ^ 30 from rfl, ← Nat.pow_mul, ← Nat.pow_add]
    congr 1
    omega
  rw [e1, e2]
  unfold wq_
  generalize v / 1073741824 ^ j = Q
  have h : j = 0 ∨ j = 1 ∨ j = 2 ∨ j = 3 ∨ j = 4 ∨ j = 5 ∨ j = 6 ∨ j = 7 := by omega
  rcases h with h | h | h | h | h | h | h | h <;> subst h
  · show (Q % 1073741824 + Q / 1073741824 % 1073741824 * 1073741824) / 1 % 4294967296 = Q / 1 % 4294967296
    omega
  · show (Q % 1073741824 + Q / 1073741824 % 1073741824 * 1073741824) / 4 % 4294967296 = Q / 4 % 4294967296
    omega
  · show (Q % 1073741824 + Q / 1073741824 % 1073741824 * 1073741824) / 16 % 4294967296 = Q / 16 % 4294967296
    omega
  · show (Q % 1073741824 + Q / 1073741824 % 1073741824 * 1073741824) / 64 % 4294967296 = Q / 64 % 4294967296
    omega
  · show (Q % 1073741824 + Q / 1073741824 % 1073741824 * 1073741824) / 256 % 4294967296 = Q / 256 % 4294967296
    omega
  · show (Q % 1073741824 + Q / 1073741824 % 1073741824 * 1073741824) / 1024 % 4294967296 = Q / 1024 % 4294967296
    omega
  · show (Q % 1073741824 + Q / 1073741824 % 1073741824 * 1073741824) / 4096 % 4294967296 = Q / 4096 % 4294967296
    omega
  · show (Q % 1073741824 + Q / 1073741824 % 1073741824 * 1073741824) / 16384 % 4294967296 = Q / 16384 % 4294967296
    omega
/-- what bits answers of the number v -/
def bw_ (v : Nat) (i : Int) : Int := if i < 0 ∨ 7 < i then 0 else sgx_ (v / 2 ^ (32 * i.toNat))
section KdVal
variable {φ : go_F} {l : Launch} {h : mv_H} {n : Nat} {I tx wr ga gb mo mf mg : Nat → Int} {B : Nat → Int} {V : Nat → Nat}
theorem tw_word {p N v : Nat} {i : Int} (hm : WV h p N v) (hi : -2147483648 ≤ i ∧ i ≤ 2147483647) : Fn l m_wh_word rd_wh_word rw_wh_word 0 0 [mv_R p, mv_I i] h n (fun w h' n' => w = some (mv_I (bw_ v i)) ∧ n' = n ∧ h' = h) := by
  refine fn_of rfl (Nat.le_of_ble_eq_true rfl) rfl ?_
  have hmv := hm
  obtain ⟨f, s, hm1, hw⟩ := hm
  refine sc_word_0 hm1 hi (fun c => go_iret d_wh_word_11 rfl go_le0 ⟨by unfold bw_; rw [if_pos (Or.inl c)], rfl, rfl⟩) (fun c1 c2 => ?_) (fun c1 c2 => go_iret d_wh_word_11 rfl go_le0 ⟨by unfold bw_; rw [if_pos (by omega)], rfl, rfl⟩)
  obtain ⟨j, hj⟩ : ∃ j : Nat, i = (j : Int) := ⟨i.toNat, by omega⟩
  subst hj
  have hj8 : j < 8 := by omega
  rw [show (32 * (j : Int)) / 30 = (j : Int) by omega]
  have b0 : wq_ v j < 1073741824 := Nat.mod_lt _ (by decide)
  have b1 : wq_ v (j + 1) < 1073741824 := Nat.mod_lt _ (by decide)
  refine cw_limb (i := (j : Int)) (q := 25) l_wh_25 d_wh_word_22 rfl hmv (by omega) (Nat.le_of_ble_eq_true rfl) ⟨by decide, by decide, by decide, by decide⟩ ?_
  rw [if_neg (by omega), Int.toNat_natCast]
  refine go_i2l (q := 26) d_wh_word_25 rfl (by omega) ?_
  refine go_aload_n (q := 27) d_wh_word_26 rfl rfl rfl ?_
  refine go_iload_n (q := 28) d_wh_word_27 rfl rfl rfl ?_
  refine go_iconst (q := 29) d_wh_word_28 rfl ?_
  refine go_iadd (q := 30) d_wh_word_29 rfl ?_
  rw [show (j : Int) + 1 = ((j + 1 : Nat) : Int) by omega]
  refine cw_limb (i := ((j + 1 : Nat) : Int)) (q := 33) l_wh_25 d_wh_word_30 rfl hmv (by omega) (Nat.le_of_ble_eq_true rfl) ⟨by decide, by decide, by decide, by decide⟩ ?_
  rw [if_neg (by omega), Int.toNat_natCast]
  refine go_i2l (q := 34) d_wh_word_33 rfl (by omega) ?_
  refine go_bipush (q := 36) d_wh_word_34 rfl (by decide) ?_
  refine go_lshl (z := (wq_ v (j + 1) : Int) * 1073741824) (q := 37) d_wh_word_36 rfl (gn_shlL 30 (by decide) rfl (by decide) (by omega)) ?_
  refine go_lor (z := (wq_ v (j + 1) : Int) * 1073741824 + (wq_ v j : Int)) (q := 38) d_wh_word_37 rfl (by rw [Int64.or_comm]; exact gn_orL (c := (wq_ v (j + 1) : Int)) (p := 1073741824) 30 (by decide) (by omega) (by omega) rfl (by omega)) ?_
  refine go_lstore_n (q := 39) (L' := [some (mv_R p), some (mv_I (j : Int)), some (mv_I (j : Int)), some (mv_L ((wq_ v (j + 1) : Int) * 1073741824 + (wq_ v j : Int))), none]) d_wh_word_38 rfl rfl (by decide) rfl ?_
  refine go_lload_n (q := 40) d_wh_word_39 rfl rfl rfl ?_
  refine go_bipush (q := 42) d_wh_word_40 rfl (by decide) ?_
  refine go_iload_n (q := 43) d_wh_word_42 rfl rfl rfl ?_
  refine go_imul (q := 44) d_wh_word_43 rfl ?_
  refine go_bipush (q := 46) d_wh_word_44 rfl (by decide) ?_
  refine go_irem (z := (32 * (j : Int)) % 30) (q := 47) d_wh_word_46 rfl (gn_ne0 (by decide)) (gn_rem (by omega) (by decide)) ?_
  refine go_lushr (z := ((wq_ v (j + 1) : Int) * 1073741824 + (wq_ v j : Int)) / ((2 ^ (2 * j) : Nat) : Int)) (q := 48) d_wh_word_47 rfl (gn_ushrL (2 * j) (by omega) (by omega) rfl (by omega)) ?_
  refine go_l2i (q := 49) d_wh_word_48 rfl ?_
  refine go_ivc (b := sgx_ (v / 2 ^ (32 * j))) ?_ (go_iret d_wh_word_49 rfl go_le0 ⟨by unfold bw_; rw [if_neg (by omega), Int.toNat_natCast], rfl, rfl⟩)
  rw [sgx_m, ← wd_eq hj8]
  have e : (wq_ v (j + 1) : Int) * 1073741824 + (wq_ v j : Int) = ((wq_ v j + wq_ v (j + 1) * 1073741824 : Nat) : Int) := by omega
  rw [e, ← Int.natCast_ediv]
  omega
theorem tf_kind {a : Nat} (hV : pn_V h (I, tx, wr, ga, gb, mo, mf, mg) B V) (ha : fa_ a) : Fn l m_fr_kind rd_fr_kind rw_fr_kind 0 0 [mv_R a] h n (fun w h' n' => w = some (mv_I (q_form (kq_ B V a))) ∧ n' = n ∧ h' = h) := by
  refine fn_of rfl (Nat.le_of_ble_eq_true rfl) rfl ?_
  have e62 : (2 : Nat) ^ 62 = 4611686018427387904 := rfl
  have small : V (a + 3) = 1 → V (a + 1) < 2 ^ 62 → ∀ L, Go (go_f 0 0 fun w h' n' => w = some (mv_I (q_form (kq_ B V a))) ∧ n' = n ∧ h' = h) l m_fr_kind (go_rm rd_fr_kind rw_fr_kind 0 0) (0, 0) 59 L [mv_I 0] h n := fun c1 c2 L =>
    go_iret d_fr_kind_59 rfl go_le0 ⟨by show _ = some (mv_I (if V (a + 3) = 1 then (if V (a + 1) < 2 ^ 62 then 0 else 1) else 2)); rw [if_pos c1, if_pos c2], rfl, rfl⟩
  have large : V (a + 3) = 1 → ¬ V (a + 1) < 2 ^ 62 → ∀ L, Go (go_f 0 0 fun w h' n' => w = some (mv_I (q_form (kq_ B V a))) ∧ n' = n ∧ h' = h) l m_fr_kind (go_rm rd_fr_kind rw_fr_kind 0 0) (0, 0) 59 L [mv_I 1] h n := fun c1 c2 L =>
    go_iret d_fr_kind_59 rfl go_le0 ⟨by show _ = some (mv_I (if V (a + 3) = 1 then (if V (a + 1) < 2 ^ 62 then 0 else 1) else 2)); rw [if_pos c1, if_neg c2], rfl, rfl⟩
  refine sf_kind_0 hV ha (fun c1 => ?_) (fun c1 => go_iret d_fr_kind_8 rfl go_le0 ⟨by show _ = some (mv_I (if V (a + 3) = 1 then (if V (a + 1) < 2 ^ 62 then 0 else 1) else 2)); rw [if_neg c1], rfl, rfl⟩)
  obtain ⟨f, s, hm, hw⟩ := pn_w hV (p := a + 1) (fa_n ha).1
  have hs := hw.1
  have hN := hw.2.1
  have hlt := wl_lt hw
  refine go_aload_n (q := 10) d_fr_kind_9 rfl rfl rfl ?_
  refine go_getf (q := 13) f_fr_14 d_fr_kind_10 rfl (pn_cf hV ha) rfl ?_
  refine go_getf (q := 16) f_fr_45 d_fr_kind_13 rfl (WO_c0 hm) rfl ?_
  refine go_iconst (q := 17) d_fr_kind_16 rfl ?_
  refine go_icmp_lt (t := 44) (q := 20) d_fr_kind_17 (by decide) rfl (by omega) (by decide) (fun c2 => ?_) (fun c2 => ?_)
  · refine sf_kind_44 (small c1 ?_ _)
    have h2 : (1073741824 : Nat) ^ s ≤ 1073741824 ^ 2 := Nat.pow_le_pow_right (by decide) (by omega)
    omega
  · refine go_aload_n (q := 21) d_fr_kind_20 rfl rfl rfl ?_
    refine go_getf (q := 24) f_fr_14 d_fr_kind_21 rfl (pn_cf hV ha) rfl ?_
    refine go_getf (q := 27) f_fr_45 d_fr_kind_24 rfl (WO_c0 hm) rfl ?_
    refine go_iconst (q := 28) d_fr_kind_27 rfl ?_
    refine go_icmp_ne (t := 48) (q := 31) d_fr_kind_28 (by decide) rfl (by omega) (by decide) (fun c3 => ?_) (fun c3 => ?_)
    · refine sf_kind_48 (large c1 (fun z => ?_) _)
      have := wl_le (k := 3) hw (by omega)
      omega
    · have hs3 : s = 3 := by omega
      subst hs3
      have hlm := hw.2.2.1 2
      have hdig := nb_div hw.2.2.1 (s := 3) 2 (by decide)
      rw [hw.2.2.2.2] at hdig
      have hq : V (a + 1) / 1073741824 ^ 2 < 1073741824 := by
        rw [Nat.div_lt_iff_lt_mul (by decide)]
        exact hlt
      rw [Nat.mod_eq_of_lt hq] at hdig
      refine go_aload_n (q := 32) d_fr_kind_31 rfl rfl rfl ?_
      refine go_getf (q := 35) f_fr_14 d_fr_kind_32 rfl (pn_cf hV ha) rfl ?_
      refine go_getf (q := 38) f_fr_49 d_fr_kind_35 rfl (WO_c0 hm) rfl ?_
      refine go_iconst (q := 39) d_fr_kind_38 rfl ?_
      refine go_iald (i := 2) (q := 40) d_fr_kind_39 rfl (WO_c1 hm) (by decide) (by omega) (by omega) ?_
      refine go_iconst (q := 41) d_fr_kind_40 rfl ?_
      refine go_icmp_ge (t := 48) (q := 44) d_fr_kind_41 (by decide) rfl (by omega) (by decide) (fun c4 => ?_) (fun c4 => ?_)
      · refine sf_kind_48 (large c1 (fun z => ?_) _)
        have : V (a + 1) / 1073741824 ^ 2 < 4 := by
          rw [Nat.div_lt_iff_lt_mul (by decide)]
          omega
        omega
      · refine sf_kind_44 (small c1 ?_ _)
        have h4 : V (a + 1) / 1073741824 ^ 2 < 4 := by omega
        rw [Nat.div_lt_iff_lt_mul (by decide)] at h4
        omega
theorem tf_side {a : Nat} (hV : pn_V h (I, tx, wr, ga, gb, mo, mf, mg) B V) (ha : fa_ a) (hw : wf_ B V a) : Fn l m_fr_side rd_fr_side rw_fr_side 0 0 [mv_R a] h n (fun w h' n' => w = some (mv_I (kq_ B V a).1) ∧ n' = n ∧ h' = h) := by
  refine fn_of rfl (Nat.le_of_ble_eq_true rfl) rfl ?_
  refine sf_side hV ha (fun c1 c2 => ?_) (fun c1 c2 => ?_) (fun c1 => ?_)
  · exact go_iret d_fr_side_23 rfl go_le0 ⟨by show _ = some (mv_I (if V (a + 1) = 0 then 0 else if B a = 0 then 1 else -1)); rw [if_neg c2, if_pos c1], rfl, rfl⟩
  · exact go_iret d_fr_side_23 rfl go_le0 ⟨by show _ = some (mv_I (if V (a + 1) = 0 then 0 else if B a = 0 then 1 else -1)); rw [if_pos c2], rfl, rfl⟩
  · exact go_iret d_fr_side_23 rfl go_le0 ⟨by show _ = some (mv_I (if V (a + 1) = 0 then 0 else if B a = 0 then 1 else -1)); rw [if_neg (fun z => c1 (hw.2 z)), if_neg c1], rfl, rfl⟩
theorem tp_form (hV : pn_V h (I, tx, wr, ga, gb, mo, mf, mg) B V) : Fn l m_pn_form rd_pn_form rw_pn_form 0 0 [mv_R 1] h n (fun w h' n' => w = some (mv_I (q_form (kq_ B V 3))) ∧ n' = n ∧ h' = h) := by
  refine fn_of rfl (Nat.le_of_ble_eq_true rfl) rfl ?_
  refine sp_form hV ?_
  refine go_callV (M' := m_fr_kind) (d := rd_fr_kind) (w := rw_fr_kind) (mc := 0) (ms := 0) (as := []) (b := 3) (rest := []) (q := 7) g_fr_kind i_fr_kind v_fr_kind l_pn_82 d_pn_form_4 rfl rfl rfl (pn_cf hV fa_r) rfl (by decide) ⟨by decide, by decide, by decide, by decide⟩ (tf_kind hV fa_r) ?_
  rintro w h1 n1 ⟨rfl, rfl, rfl⟩ -
  exact go_u0 (go_iret d_pn_form_7 rfl go_le0 ⟨rfl, rfl, rfl⟩)
theorem tp_sign (hV : pn_V h (I, tx, wr, ga, gb, mo, mf, mg) B V) (hw : wf_ B V 3) : Fn l m_pn_sign rd_pn_sign rw_pn_sign 0 0 [mv_R 1] h n (fun w h' n' => w = some (mv_I (kq_ B V 3).1) ∧ n' = n ∧ h' = h) := by
  refine fn_of rfl (Nat.le_of_ble_eq_true rfl) rfl ?_
  refine sp_sign hV ?_
  refine go_callV (M' := m_fr_side) (d := rd_fr_side) (w := rw_fr_side) (mc := 0) (ms := 0) (as := []) (b := 3) (rest := []) (q := 7) g_fr_side i_fr_side v_fr_side l_pn_86 d_pn_sign_4 rfl rfl rfl (pn_cf hV fa_r) rfl (by decide) ⟨by decide, by decide, by decide, by decide⟩ (tf_side hV fa_r hw) ?_
  rintro w h1 n1 ⟨rfl, rfl, rfl⟩ -
  exact go_u0 (go_iret d_pn_sign_7 rfl go_le0 ⟨rfl, rfl, rfl⟩)
theorem tp_bits {p i : Int} (hV : pn_V h (I, tx, wr, ga, gb, mo, mf, mg) B V) (hp : -2147483648 ≤ p ∧ p ≤ 2147483647) (hi : -2147483648 ≤ i ∧ i ≤ 2147483647) : Fn l m_pn_bits rd_pn_bits rw_pn_bits 0 0 [mv_R 1, mv_I p, mv_I i] h n (fun w h' n' => w = some (mv_I (bw_ (if p = 0 then V 4 else V 6) i)) ∧ n' = n ∧ h' = h) := by
  refine fn_of rfl (Nat.le_of_ble_eq_true rfl) rfl ?_
  refine sp_bits hV hp (fun c => ?_) (fun c => ?_)
  · obtain ⟨f, s, hm, hw⟩ := pn_w hV (p := 6) (by unfold ro_; decide)
    refine go_callV (M' := m_wh_word) (d := rd_wh_word) (w := rw_wh_word) (mc := 0) (ms := 0) (as := [mv_I i]) (b := 6) (rest := []) (q := 29) g_wh_word i_wh_word v_wh_word l_pn_97 d_pn_bits_26 rfl rfl rfl (WO_c0 hm) rfl (by decide) ⟨by decide, by decide, by decide, by decide⟩ (tw_word (pn_w hV (p := 6) (by unfold ro_; decide)) hi) ?_
    rintro w h1 n1 ⟨rfl, rfl, rfl⟩ -
    exact go_u0 (go_iret d_pn_bits_29 rfl go_le0 ⟨by rw [if_neg c], rfl, rfl⟩)
  · obtain ⟨f, s, hm, hw⟩ := pn_w hV (p := 4) (by unfold ro_; decide)
    refine go_callV (M' := m_wh_word) (d := rd_wh_word) (w := rw_wh_word) (mc := 0) (ms := 0) (as := [mv_I i]) (b := 4) (rest := []) (q := 15) g_wh_word i_wh_word v_wh_word l_pn_97 d_pn_bits_12 rfl rfl rfl (WO_c0 hm) rfl (by decide) ⟨by decide, by decide, by decide, by decide⟩ (tw_word (pn_w hV (p := 4) (by unfold ro_; decide)) hi) ?_
    rintro w h1 n1 ⟨rfl, rfl, rfl⟩ -
    exact go_u0 (go_goto (q := 29) d_pn_bits_15 (by decide) (go_iret d_pn_bits_29 rfl go_le0 ⟨by rw [if_pos c], rfl, rfl⟩))
end KdVal
section KdMo
variable {φ : go_F} {l : Launch} {h : mv_H} {n o : Nat} {I tx S ps cs bs : Nat → Int} {V : Nat → Nat}
theorem tm_form (hV : mo_V h o (I, tx, S, ps, cs, bs) V) (hL : V 159 = 2 ^ 62) : Fn l m_mo_form rd_mo_form rw_mo_form 0 0 [mv_R o] h n (fun w h' n' => w = some (mv_I (q_form (q_at S V 72))) ∧ n' = n ∧ fr_ o 8 h h' ∧ mo_V h' o (va_up I 0 0, tx, S, ps, cs, bs) V) := by
  refine fn_of rfl (Nat.le_of_ble_eq_true rfl) rfl ?_
  refine so_form hV (fun h1 hV1 hf1 => ?_)
  obtain ⟨fs, hob⟩ := mo_Vob hV1
  refine go_callV (M' := m_mo_formOf) (d := rd_mo_formOf) (w := rw_mo_formOf) (mc := 0) (ms := 0) (as := [mv_I 72]) (b := o) (rest := []) (q := 11) g_mo_formOf i_mo_formOf v_mo_formOf l_mo_182 d_mo_form_8 rfl rfl rfl hob rfl (by decide) ⟨by decide, by decide, by decide, by decide⟩ (tm_formOf (v := 72) hV1 (by decide) hL) ?_
  rintro w h2 n2 ⟨rfl, rfl, rfl⟩ -
  exact go_u0 (go_iret d_mo_form_11 rfl go_le0 ⟨rfl, rfl, hf1, hV1⟩)
theorem tm_sign (hV : mo_V h o (I, tx, S, ps, cs, bs) V) : Fn l m_mo_sign rd_mo_sign rw_mo_sign 0 0 [mv_R o] h n (fun w h' n' => w = some (mv_I (q_at S V 72).1) ∧ n' = n ∧ fr_ o 8 h h' ∧ mo_V h' o (va_up I 0 0, tx, S, ps, cs, bs) V) := by
  refine fn_of rfl (Nat.le_of_ble_eq_true rfl) rfl ?_
  exact so_sign hV (fun h1 hV1 hf1 => go_iret d_mo_sign_12 rfl go_le0 ⟨rfl, rfl, hf1, hV1⟩)
def bim_ (h : mv_H) (n o : Nat) (I tx S ps cs bs : Nat → Int) (V : Nat → Nat) (r : Int) (w : Option mv_V) (h' : mv_H) (n' : Nat) : Prop :=
  w = some (mv_I r) ∧ n' = n ∧ fr_ o 8 h h' ∧ ∃ V', mo_V h' o (va_up I 0 0, tx, S, ps, cs, bs) V' ∧ ∀ i, (i < 150 ∨ 158 ≤ i) → V' i = V i
/-- the digits are put together -/
theorem lp_bi {p : Int} {i : Nat} {r : Int} {h0 : mv_H} {V0 : Nat → Nat} (hV : mo_V h o (va_up I 0 0, tx, S, ps, cs, bs) V) (hf : fr_ o 8 h0 h) (hW : ∀ i, (i < 150 ∨ 158 ≤ i) → V i = V0 i) (hr : r = sgx_ (V 150)) : Go (go_f 0 0 (bim_ h0 n o I tx S ps cs bs V0 r)) l m_mo_bits (go_rm rd_mo_bits rw_mo_bits 0 0) (0, 0) 62 [some (mv_R o), some (mv_I p), some (mv_I (i : Int)), some (mv_I ((2 * i : Nat) : Int)), none] [] h n := by
  obtain ⟨D, U, hm, hM⟩ := id hV
  have hU := hM.2.1 150
  have hrw := hM.2.2 150 (by decide)
  refine go_iconst (q := 63) d_mo_bits_62 rfl ?_
  refine go_istore_n (q := 64) (L' := [some (mv_R o), some (mv_I p), some (mv_I (i : Int)), some (mv_I 0), none]) d_mo_bits_63 rfl rfl (by decide) rfl ?_
  refine go_aload_n (q := 65) d_mo_bits_64 rfl rfl rfl ?_
  refine go_getf (q := 68) f_mo_20 d_mo_bits_65 rfl (MD_c0 hm) rfl ?_
  refine go_sipush (q := 71) d_mo_bits_68 rfl (by decide) ?_
  refine go_iald (i := 150) (q := 72) d_mo_bits_71 rfl (MD_c3 hm) (by decide) (by decide) (by decide) ?_
  refine go_iconst (q := 73) d_mo_bits_72 rfl ?_
  refine go_isub (q := 74) d_mo_bits_73 rfl ?_
  refine go_istore (q := 76) (L' := [some (mv_R o), some (mv_I p), some (mv_I (i : Int)), some (mv_I 0), some (mv_I (U 150 - 1))]) d_mo_bits_74 rfl (by decide) rfl ?_
  obtain ⟨us, hus⟩ : ∃ us : Nat, U 150 = (us : Int) := ⟨(U 150).toNat, by omega⟩
  have hnv := mo_ext (k := us) hrw (by omega) (by omega)
  -- digits k .. us - 1 stand in the sum
  have lp : ∀ (d : Nat) (acc : Nat), d ≤ us → acc = nh 10000 (fun k => (D (40 * 150 + k)).toNat) d us → Go (go_f 0 0 (bim_ h0 n o I tx S ps cs bs V0 r)) l m_mo_bits (go_rm rd_mo_bits rw_mo_bits 0 0) (0, 0) 76 [some (mv_R o), some (mv_I p), some (mv_I (i : Int)), some (mv_I (acc : Int)), some (mv_I ((d : Int) - 1))] [] h n := by
    intro d
    induction d with
    | zero =>
      intro acc _ ha
      refine go_iload (q := 78) d_mo_bits_76 rfl rfl ?_
      refine go_if_lt (t := 105) (q := 81) d_mo_bits_78 (by decide) rfl (by decide) (fun _ => ?_) (fun z => absurd z (by decide))
      refine go_iload_n (q := 106) d_mo_bits_105 rfl rfl rfl ?_
      rw [nh_0, hnv] at ha
      subst ha
      refine go_ivc (b := sgx_ (V 150)) (by rw [sgx_m]; omega) ?_
      exact go_iret d_mo_bits_106 rfl go_le0 ⟨by rw [hr], rfl, hf, V, hV, hW⟩
    | succ d ih =>
      intro acc hd ha
      have hDd := hM.1 (40 * 150 + d)
      refine go_iload (q := 78) d_mo_bits_76 rfl rfl ?_
      refine go_if_lt (t := 105) (q := 81) d_mo_bits_78 (by decide) rfl (by omega) (fun z => by omega) (fun _ => ?_)
      refine go_iload_n (q := 82) d_mo_bits_81 rfl rfl rfl ?_
      refine go_sipush (q := 85) d_mo_bits_82 rfl (by decide) ?_
      refine go_imul (q := 86) d_mo_bits_85 rfl ?_
      refine go_aload_n (q := 87) d_mo_bits_86 rfl rfl rfl ?_
      refine go_getf (q := 90) f_mo_17 d_mo_bits_87 rfl (MD_c0 hm) rfl ?_
      refine go_sipush (q := 93) d_mo_bits_90 rfl (by decide) ?_
      refine go_iload (q := 95) d_mo_bits_93 rfl rfl ?_
      refine go_iadd (q := 96) d_mo_bits_95 rfl ?_
      refine go_iald (i := 40 * 150 + d) (q := 97) d_mo_bits_96 rfl (MD_c2 hm) (by omega) (by omega) (by decide) ?_
      refine go_iadd (q := 98) d_mo_bits_97 rfl ?_
      refine go_istore_n (q := 99) (L' := [some (mv_R o), some (mv_I p), some (mv_I (i : Int)), some (mv_I ((acc : Int) * 10000 + D (40 * 150 + d))), some (mv_I (((d + 1 : Nat) : Int) - 1))]) d_mo_bits_98 rfl rfl (by decide) rfl ?_
      refine go_iinc (q := 102) (L' := [some (mv_R o), some (mv_I p), some (mv_I (i : Int)), some (mv_I ((acc : Int) * 10000 + D (40 * 150 + d))), some (mv_I ((((d + 1 : Nat) : Int) - 1) + (-1)))]) d_mo_bits_99 rfl (by decide) rfl rfl ?_
      refine go_goto (q := 76) d_mo_bits_102 (by decide) ?_
      have e1 : (acc : Int) * 10000 + D (40 * 150 + d) = ((acc * 10000 + (D (40 * 150 + d)).toNat : Nat) : Int) := by omega
      have e2 : (((d + 1 : Nat) : Int) - 1) + (-1) = (d : Int) - 1 := by omega
      rw [e1, e2]
      refine ih _ (by omega) ?_
      rw [nh_step (by omega), ha]
      omega
  rw [hus]
  exact lp us 0 (Nat.le_refl _) (by rw [nh_n])
theorem tm_bits {p i : Int} (hV : mo_V h o (I, tx, S, ps, cs, bs) V) (hp : -2147483648 ≤ p ∧ p ≤ 2147483647) (hi : -2147483648 ≤ i ∧ i ≤ 2147483647) : Fn l m_mo_bits rd_mo_bits rw_mo_bits 0 0 [mv_R o, mv_I p, mv_I i] h n (bim_ h n o I tx S ps cs bs V (bw_ (if p = 0 then V 144 else V 145) i)) := by
  refine fn_of rfl (Nat.le_of_ble_eq_true rfl) rfl ?_
  have zero : i < 0 ∨ 7 < i → ∀ (h1 : mv_H) (L : List (Option mv_V)), mo_V h1 o (va_up I 0 0, tx, S, ps, cs, bs) V → fr_ o 8 h h1 → Go (go_f 0 0 (bim_ h n o I tx S ps cs bs V (bw_ (if p = 0 then V 144 else V 145) i))) l m_mo_bits (go_rm rd_mo_bits rw_mo_bits 0 0) (0, 0) 16 L [mv_I 0] h1 n := fun c h1 L hV1 hf1 =>
    go_iret d_mo_bits_16 rfl go_le0 ⟨by unfold bw_; rw [if_pos c], rfl, hf1, V, hV1, fun _ _ => rfl⟩
  have work : ∀ (v : Nat) (h1 : mv_H), ¬ i < 0 → i ≤ 7 → (if p = 0 then V 144 else V 145) = v → mo_V h1 o (va_up I 0 0, tx, S, ps, cs, bs) (va_up V 150 v) → fr_ o 8 h h1 → Go (go_f 0 0 (bim_ h n o I tx S ps cs bs V (bw_ (if p = 0 then V 144 else V 145) i))) l m_mo_bits (go_rm rd_mo_bits rw_mo_bits 0 0) (0, 0) 39 [some (mv_R o), some (mv_I p), some (mv_I i), some (mv_I 0), none] [] h1 n := by
    intro v h1 c1 c2 ev hV1 hf1
    rw [ev]
    obtain ⟨j, hj⟩ : ∃ j : Nat, i = (j : Int) := ⟨i.toNat, by omega⟩
    subst hj
    have lp : ∀ (d k : Nat) (h2 : mv_H) (V2 : Nat → Nat), k + d = 2 * j → mo_V h2 o (va_up I 0 0, tx, S, ps, cs, bs) V2 → fr_ o 8 h h2 → (∀ i, (i < 150 ∨ 158 ≤ i) → V2 i = V i) → V2 150 = v / 65536 ^ k → Go (go_f 0 0 (bim_ h n o I tx S ps cs bs V (bw_ v (j : Int)))) l m_mo_bits (go_rm rd_mo_bits rw_mo_bits 0 0) (0, 0) 39 [some (mv_R o), some (mv_I p), some (mv_I (j : Int)), some (mv_I (k : Int)), none] [] h2 n := by
      intro d
      induction d with
      | zero =>
        intro k h2 V2 hk hV2 hf2 hW hv
        have ek : k = 2 * j := by omega
        subst ek
        refine so_bi_39 hV2 ⟨by omega, Nat.le_refl _⟩ (fun _ => ?_) (fun z => by omega)
        refine lp_bi hV2 hf2 hW ?_
        unfold bw_
        rw [if_neg (by omega), Int.toNat_natCast, hv, show (65536 : Nat) = 2 ^ 16 from rfl, ← Nat.pow_mul, show 16 * (2 * j) = 32 * j by omega]
      | succ d ih =>
        intro k h2 V2 hk hV2 hf2 hW hv
        refine so_bi_39 hV2 ⟨by omega, by omega⟩ (fun z => by omega) (fun _ h3 hV3 hf3 => ?_)
        rw [show ((k : Int) + 1) = ((k + 1 : Nat) : Int) by omega]
        refine ih (k + 1) h3 _ (by omega) hV3 (hf2.tr hf3) (fun i hi => by rw [va_up_ne _ _ (by omega)]; exact hW i hi) ?_
        rw [va_up_self, hv, Nat.div_div_eq_div_mul, Nat.pow_succ]
    exact lp (2 * j) 0 h1 _ (by omega) hV1 hf1 (fun i hi => va_up_ne _ _ (by omega)) (by rw [va_up_self, Nat.pow_zero, Nat.div_one])
  exact so_bi_0 hV hp hi (fun c h1 hV1 hf1 => zero (Or.inl c) h1 _ hV1 hf1) (fun c1 c2 c3 h1 hV1 hf1 => work (V 145) h1 c1 c2 (if_neg c3) hV1 hf1) (fun c1 c2 c3 h1 hV1 hf1 => work (V 144) h1 c1 c2 (if_pos c3) hV1 hf1) (fun c1 c2 h1 hV1 hf1 => zero (Or.inr (by omega)) h1 _ hV1 hf1)
end KdMo
