/-! the class's Machine: powers, brackets, arguments, numbers, and the whole work -/
section MaWork
variable {φ : go_F} {l : Launch} {h : mv_H} {n : Nat} {I tx wr ga gb mo mf mg : Nat → Int} {B : Nat → Int} {V : Nat → Nat}
theorem lp_raise {b t : Nat} {x : qv_} {h0 : mv_H} {B0 : Nat → Int} {V0 : Nat → Nat} {r : Int × qv_} {F : Nat → qv_} (hF : ∀ j, F j = x) (hb : b < 59) (ht : t ≤ 64) :
    ∀ (d i j : Nat) (h : mv_H) (B : Nat → Int) (V : Nat → Nat), i + d = t → pn_V h (I, tx, wr, ga, gb, mo, mf, mg) B V → fr_ 1 389 h0 h → cs_ B0 B V0 V → wf_ B V 40 → kq_ B0 V0 (90 + 5 * b) = x → wf_ B0 V0 (90 + 5 * b) → r = q_run 42 F d j (kq_ B V 40) →
      Go (go_f 0 0 (ks_ h0 n (I, tx, wr, ga, gb, mo, mf, mg) B0 V0 r)) l m_ma_raise (go_rm rd_ma_raise rw_ma_raise 0 0) (0, 0) 80 [some (mv_R 15), some (mv_R (90 + 5 * b)), some (mv_R (90 + 5 * (b + 1))), some (mv_I (t : Int)), some (mv_I 0), some (mv_I (i : Int))] [] h n := by
  intro d
  induction d with
  | zero =>
    intro i j h B V hi hV hf hcs hw hx hwx hr
    refine sn_raise_80 hV hb ⟨ht, by omega⟩ (by decide) (fun _ => ?_) (fun c1 => by omega) (fun c1 => by omega)
    subst hr
    exact go_iret d_ma_raise_124 rfl go_le0 ⟨rfl, rfl, hf, B, V, hV, hcs, fun _ => ⟨rfl, hw⟩⟩
  | succ d ih =>
    intro i j h B V hi hV hf hcs hw hx hwx hr
    refine sn_raise_80 hV hb ⟨ht, by omega⟩ (by decide) (fun c1 => by omega) (fun _ c1 => absurd rfl c1) (fun _ _ => ?_)
    have fa : fa_ (90 + 5 * b) := fa_s (by omega)
    have k1 : B (90 + 5 * b) = B0 (90 + 5 * b) := hcs.2 _ (by omega)
    have k2 : V (90 + 5 * b + 1) = V0 (90 + 5 * b + 1) := hcs.1 _ (by omega) (by omega) (by omega)
    have k3 : V (90 + 5 * b + 3) = V0 (90 + 5 * b + 3) := hcs.1 _ (by omega) (by omega) (by omega)
    have hk := (kq_ext k1 k2 k3).trans hx
    have hw2 := wf_ext k1 k2 k3 hwx
    have i1 := wf_in hV fa_t hw
    have i2 := wf_in hV fa hw2
    have e : q_run 42 F (d + 1) j (kq_ B V 40) = if q_bg (q_mul (kq_ B V 40) (F j)) = 0 then q_run 42 F d (j + 1) (q_mul (kq_ B V 40) (F j)) else (q_bg (q_mul (kq_ B V 40) (F j)), kq_ B V 40) := rfl
    rw [e, hF, ← hk] at hr
    refine go_callV (M' := m_ca_multiply) (d := rd_ca_multiply) (w := rw_ca_multiply) (mc := 0) (ms := 0) (as := [mv_R 40, mv_R (90 + 5 * b + 1), mv_R (90 + 5 * b + 3), mv_I (B (90 + 5 * b))]) (b := 16) (rest := []) (q := 114) g_ca_multiply i_ca_multiply v_ca_multiply l_ma_130 d_ma_raise_111 rfl rfl rfl (pn_c16 hV) rfl (by decide) ⟨by decide, by decide, by decide, by decide⟩ (tk_multiply (w2 := (0, 0, 0)) hV (by omega) (by omega) (hV.2.1 _) hw (wf_gcd hw2).1 (wf_gcd hw2).2 i2.2.1 i2.2.2 rfl) ?_
    intro w h1 n1 hk1 _
    obtain ⟨rfl, rfl, hf1, B1, V1, hV1, hcs1, hz⟩ := ko_ks (r := q_mul (kq_ B V 40) (kq_ B V (90 + 5 * b))) (fun _ => q_mul_ok i1.1 i2.1) hk1
    have e1 : ((i : Int) + 1) = ((i + 1 : Nat) : Int) := by omega
    refine go_u0 (sn_raise_114 hV1 ?_)
    rw [e1]
    by_cases c0 : q_bg (q_mul (kq_ B V 40) (kq_ B V (90 + 5 * b))) = 0
    · rw [if_pos c0] at hr
      obtain ⟨z1, z2⟩ := hz c0
      show Go _ l m_ma_raise _ _ 80 [some (mv_R 15), some (mv_R (90 + 5 * b)), some (mv_R (90 + 5 * (b + 1))), some (mv_I (t : Int)), some (mv_I (q_bg (q_mul (kq_ B V 40) (kq_ B V (90 + 5 * b))))), some (mv_I ((i + 1 : Nat) : Int))] [] h1 n1
      rw [c0]
      refine ih (i + 1) (j + 1) h1 B1 V1 (by omega) hV1 (hf.tr hf1) (hcs.tr hcs1) z2 hx hwx ?_
      rw [hr, z1]
    · rw [if_neg c0] at hr
      have hb3 := q_bgb (q_mul (kq_ B V 40) (kq_ B V (90 + 5 * b)))
      have fin : ∀ L, Go (go_f 0 0 (ks_ h0 n1 (I, tx, wr, ga, gb, mo, mf, mg) B0 V0 r)) l m_ma_raise (go_rm rd_ma_raise rw_ma_raise 0 0) (0, 0) 124 L [mv_I (q_bg (q_mul (kq_ B V 40) (kq_ B V (90 + 5 * b))))] h1 n1 := fun L => by
        subst hr
        exact go_iret d_ma_raise_124 rfl go_le0 ⟨rfl, rfl, hf.tr hf1, B1, V1, hV1, hcs.tr hcs1, fun z => absurd z c0⟩
      exact sn_raise_80 hV1 hb ⟨ht, by omega⟩ ⟨hb3.1, by omega⟩ (fun _ => fin _) (fun _ _ => fin _) (fun _ z => absurd z c0)
theorem tn_raise {b : Nat} {f : Nat → qv_} (hV : pn_V h (I, tx, wr, ga, gb, mo, mf, mg) B V) (hb : b < 59) (h5 : I 5 = (b : Int) + 2) (hv : vl_ B V (b + 2) f) :
    Fn l m_ma_raise rd_ma_raise rw_ma_raise 0 0 [mv_R 15] h n (ks_ h n (I, tx, wr, ga, gb, mo, mf, mg) B V (q_app 94 2 fun j => f (b + j))) := by
  refine fn_of rfl (Nat.le_of_ble_eq_true rfl) rfl ?_
  obtain ⟨f1, f2⟩ := hv b (by omega)
  obtain ⟨g1, g2⟩ := hv (b + 1) (by omega)
  have fa : fa_ (90 + 5 * (b + 1)) := fa_s (by omega)
  have ea : q_app 94 2 (fun j => f (b + j)) = if (f (b + 1)).2.2 = 1 ∧ 0 ≤ (f (b + 1)).1 ∧ (f (b + 1)).2.1 ≤ 64 then q_run 42 (fun _ => f (b + 0)) (f (b + 1)).2.1 0 (q_sm 1) else (3, f (b + 0)) := rfl
  rw [← g1] at ea
  have bad : ¬ ((kq_ B V (90 + 5 * (b + 1))).2.2 = 1 ∧ 0 ≤ (kq_ B V (90 + 5 * (b + 1))).1 ∧ (kq_ B V (90 + 5 * (b + 1))).2.1 ≤ 64) → ∀ z, Go (go_f 0 0 (ks_ h n (I, tx, wr, ga, gb, mo, mf, mg) B V (q_app 94 2 fun j => f (b + j)))) l m_ma_raise (go_rm rd_ma_raise rw_ma_raise 0 0) (0, 0) 64 [some (mv_R 15), some (mv_R (90 + 5 * b)), some (mv_R (90 + 5 * (b + 1))), some (mv_I z), none, none] [] h n := fun hn z => by
    rw [if_neg hn] at ea
    rw [ea]
    exact sn_raise_64 hV (go_iret d_ma_raise_65 rfl go_le0 ⟨rfl, rfl, fr_.rf, B, V, hV, cs_.rf, fun z => absurd z (show ¬ (3 : Int) = 0 by decide)⟩)
  refine sn_raise_0 hV ⟨h5, hb⟩ ?_
  refine cp_limb (i := 0) (p := 90 + 5 * (b + 1) + 1) (q := 32) l_ma_117 d_ma_raise_29 rfl hV (fa_n fa).1 (by decide) (Nat.le_of_ble_eq_true rfl) ⟨by decide, by decide, by decide, by decide⟩ ?_
  rw [if_neg (by decide)]
  show Go _ l m_ma_raise _ _ 32 _ [mv_I ((wq_ (V (90 + 5 * (b + 1) + 1)) 0 : Nat) : Int)] h n
  have ht : wq_ (V (90 + 5 * (b + 1) + 1)) 0 < 1073741824 := Nat.mod_lt _ (by decide)
  refine sn_raise_32 hV hb (fun c1 => bad (fun z => c1 z.1) _) (fun c1 c2 => bad (fun z => ?_) _) (fun c1 c2 => ?_)
  · have z2 := z.2.1
    change 0 ≤ (if V (90 + 5 * (b + 1) + 1) = 0 then (0 : Int) else if B (90 + 5 * (b + 1)) = 0 then 1 else -1) at z2
    by_cases c3 : V (90 + 5 * (b + 1) + 1) = 0
    · exact c2 (g2.2 c3)
    · rw [if_neg c3, if_neg c2] at z2
      omega
  · refine go_aload_n (q := 48) d_ma_raise_47 rfl rfl rfl ?_
    refine go_getf (q := 51) f_ma_106 d_ma_raise_48 rfl (pn_cf hV fa) rfl ?_
    obtain ⟨f_, s, hm_, hw⟩ := pn_w hV (p := 90 + 5 * (b + 1) + 1) (fa_n fa).1
    have hs := hw.1
    have hN := hw.2.1
    refine go_getf (q := 54) f_ma_124 d_ma_raise_51 rfl (WO_c0 hm_) rfl ?_
    refine go_iconst (q := 55) d_ma_raise_54 rfl ?_
    refine go_icmp_gt (t := 64) (q := 58) d_ma_raise_55 (by decide) rfl (by omega) (by omega) (fun c3 => ?_) (fun c3 => ?_)
    · refine bad (fun z => ?_) _
      have z3 : V (90 + 5 * (b + 1) + 1) ≤ 64 := z.2.2
      have := wl_le (k := 1) hw (by omega)
      omega
    · have hlt : V (90 + 5 * (b + 1) + 1) < 1073741824 := by
        have h1 := wl_lt hw
        have h2 : (1073741824 : Nat) ^ s ≤ 1073741824 ^ 1 := Nat.pow_le_pow_right (by decide) (by omega)
        omega
      have et : wq_ (V (90 + 5 * (b + 1) + 1)) 0 = V (90 + 5 * (b + 1) + 1) := by
        unfold wq_
        rw [Nat.pow_zero, Nat.div_one, Nat.mod_eq_of_lt hlt]
      refine sn_raise_58 hV hb (by omega) (fun c4 h1 hV1 hf1 => ?_) (fun c4 => bad (fun z => ?_) _)
      · obtain ⟨e1, e2⟩ := q_sm_ok0 (B := B) (V := V) (v := 1) (by decide)
        refine lp_raise (F := fun _ => f (b + 0)) (x := f b) (fun _ => rfl) hb (by omega) _ 0 0 h1 _ _ (Nat.zero_add _) hV1 hf1 cs_sm e2 f1 f2 ?_
        have hs0 : 0 ≤ (kq_ B V (90 + 5 * (b + 1))).1 := by
          show 0 ≤ (if V (90 + 5 * (b + 1) + 1) = 0 then (0 : Int) else if B (90 + 5 * (b + 1)) = 0 then 1 else -1)
          rw [c2, if_pos (rfl : (0 : Int) = 0)]
          split <;> decide
        rw [if_pos ⟨c1, hs0, by show V (90 + 5 * (b + 1) + 1) ≤ 64; omega⟩] at ea
        rw [ea, e1, et]
        rfl
      · have z3 : V (90 + 5 * (b + 1) + 1) ≤ 64 := z.2.2
        omega
theorem tn_open {c : Int} {k : Nat} (hV : pn_V h (I, tx, wr, ga, gb, mo, mf, mg) B V) (hc : 0 ≤ c ∧ c ≤ 127) (hO : I 4 = (k : Int) ∧ k < 12) :
    Fn l m_ma_openBracket rd_ma_openBracket rw_ma_openBracket 0 0 [mv_R 15, mv_I c] h n (fun w h' n' => w = none ∧ n' = n ∧ fr_ 1 389 h h' ∧ pn_V h' (va_up I 4 (I 4 + 1), tx, wr, ga, gb, va_up mo k c, va_up mf k (I 5), va_up mg k 0) B V) := by
  refine fn_of rfl (Nat.le_of_ble_eq_true rfl) rfl ?_
  exact sn_open hV hc hO fun h1 hV1 hf1 => go_vret d_ma_openBracket_43 rfl go_le0 ⟨rfl, rfl, hf1, hV1⟩
theorem tn_close {k b : Nat} (hV : pn_V h (I, tx, wr, ga, gb, mo, mf, mg) B V) (hO : I 4 = (k : Int) + 1 ∧ k < 12) (hb : mf k = (b : Int) ∧ b < 60) :
    Fn l m_ma_closeBracket rd_ma_closeBracket rw_ma_closeBracket 0 0 [mv_R 15] h n (fun w h' n' => w = none ∧ n' = n ∧ fr_ 1 389 h h' ∧ pn_V h' (va_up (va_up I 4 (I 4 - 1)) 5 (mf k + 1), tx, wr, ga, gb, mo, mf, mg) (va_up B (90 + 5 * b) (B 40)) (va_up (va_up V (90 + 5 * b + 1) (V 41)) (90 + 5 * b + 3) (V 43))) := by
  refine fn_of rfl (Nat.le_of_ble_eq_true rfl) rfl ?_
  exact sn_close hV hO hb fun h1 hV1 hf1 => go_vret d_ma_closeBracket_46 rfl go_le0 ⟨rfl, rfl, hf1, hV1⟩
/-- whether the coming argument is passed over -/
def sks_ (op : Int) (c : Nat) (z : Bool) : Int := if op = 63 ∧ c ≠ 0 ∧ (z = decide (c = 1)) then 1 else 0
theorem tn_skips {op : Int} {k b c : Nat} (hV : pn_V h (I, tx, wr, ga, gb, mo, mf, mg) B V) (hO : I 4 = (k : Int) + 1 ∧ k < 12) (hb : mf k = (b : Int) ∧ b < 60) (hc : mg k = (c : Int) ∧ c ≤ 120) (ho : mo k = op) (hop : 0 ≤ op ∧ op ≤ 127) :
    Fn l m_ma_skipsArgument rd_ma_skipsArgument rw_ma_skipsArgument 0 0 [mv_R 15] h n (fun w h' n' => w = some (mv_I (sks_ op c (decide (V (90 + 5 * b + 1) = 0)))) ∧ n' = n ∧ fr_ 1 389 h h' ∧ pn_V h' (I, tx, wr, ga, gb, mo, mf, va_up mg k ((c : Int) + 1)) B V) := by
  refine fn_of rfl (Nat.le_of_ble_eq_true rfl) rfl ?_
  have no : ¬ (op = 63 ∧ c ≠ 0) → sks_ op c (decide (V (90 + 5 * b + 1) = 0)) = 0 := fun z => if_neg (fun y => z ⟨y.1, y.2.1⟩)
  refine sn_skips_0 hV hO hb (by omega) (by omega) (fun c1 h1 hV1 hf1 => ?_) (fun c1 c2 h1 hV1 hf1 => ?_) (fun c1 c2 h1 hV1 hf1 => ?_)
  · rw [hc.1] at hV1
    exact go_zret d_ma_skipsArgument_48 rfl (by decide) go_le0 ⟨by rw [no (fun z => c1 (ho.trans z.1))], rfl, hf1, hV1⟩
  · rw [hc.1] at hV1
    refine cp_fr_isZero (a := 90 + 5 * b) (q := 68) l_ma_92 d_ma_skipsArgument_65 rfl hV1 (fa_s hb.2) (Nat.le_of_ble_eq_true rfl) ⟨by decide, by decide, by decide, by decide⟩ ?_
    have c0 : c ≠ 0 := by omega
    have o63 : op = 63 := by omega
    by_cases cz : V (90 + 5 * b + 1) = 0
    · rw [if_pos cz]
      refine sn_skips_68 hV1 (by decide) (by omega) (fun d1 d2 => ?_) (fun d1 d2 => absurd d2 (by decide)) (fun d1 d2 => absurd rfl d2) (fun d1 d2 => ?_)
      · refine go_zret d_ma_skipsArgument_88 rfl (by decide) go_le0 ⟨?_, rfl, hf1, hV1⟩
        unfold sks_
        rw [if_neg (fun z => ?_)]
        have z3 := z.2.2
        rw [decide_eq_true cz, decide_eq_false (by omega)] at z3
        cases z3
      · refine go_zret d_ma_skipsArgument_88 rfl (by decide) go_le0 ⟨?_, rfl, hf1, hV1⟩
        unfold sks_
        rw [if_pos ⟨o63, c0, by rw [decide_eq_true cz, decide_eq_true (by omega)]⟩]
    · rw [if_neg cz]
      refine sn_skips_68 hV1 (by decide) (by omega) (fun d1 d2 => absurd rfl d2) (fun d1 d2 => ?_) (fun d1 d2 => ?_) (fun d1 d2 => absurd d2 (by decide))
      · refine go_zret d_ma_skipsArgument_88 rfl (by decide) go_le0 ⟨?_, rfl, hf1, hV1⟩
        unfold sks_
        rw [if_pos ⟨o63, c0, by rw [decide_eq_false cz, decide_eq_false (by omega)]⟩]
      · refine go_zret d_ma_skipsArgument_88 rfl (by decide) go_le0 ⟨?_, rfl, hf1, hV1⟩
        unfold sks_
        rw [if_neg (fun z => ?_)]
        have z3 := z.2.2
        rw [decide_eq_false cz, decide_eq_true (by omega)] at z3
        cases z3
  · rw [hc.1] at hV1
    exact go_zret d_ma_skipsArgument_48 rfl (by decide) go_le0 ⟨by rw [no (fun z => z.2 (by omega))], rfl, hf1, hV1⟩
theorem lp_eoa {p len d a e : Nat} (hV : pn_V h (I, tx, wr, ga, gb, mo, mf, mg) B V) (ht : ∀ i : Nat, 0 ≤ tx i ∧ tx i ≤ 127) (hl : len ≤ 120) (hk : sk_ tx len d a e) : d ≤ a →
    Go (go_f 0 0 fun w h' n' => w = some (mv_I (e : Int)) ∧ n' = n ∧ h' = h) l m_ma_endOfArgument (go_rm rd_ma_endOfArgument rw_ma_endOfArgument 0 0) (0, 0) 6 [some (mv_R 15), some (mv_R 2), some (mv_I (p : Int)), some (mv_I (len : Int)), some (mv_I (d : Int)), some (mv_I (a : Int)), none] [] h n := by
  induction hk using sk_.ind with
  | fin =>
    intro _
    refine sn_eoa_6 hV ht hl (Nat.le_refl _) (by omega) (fun _ => ?_) (fun c => by omega) (fun c => by omega) (fun c => by omega) (fun c => by omega) (fun c => by omega) (fun c => by omega) (fun c => by omega)
    exact go_iret d_ma_endOfArgument_70 rfl go_le0 ⟨rfl, rfl, rfl⟩
  | @stop a h1 hc =>
    intro _
    refine sn_eoa_6 hV ht hl (by omega) (by omega) (fun c => by omega) (fun _ c => absurd rfl c) (fun _ c => absurd rfl c) (fun _ c => absurd rfl c) (fun _ _ _ => ?_) (fun _ _ c1 c2 => by omega) (fun _ _ c1 c2 => by omega) (fun _ _ _ _ => ?_)
    · exact go_iret d_ma_endOfArgument_39 rfl go_le0 ⟨rfl, rfl, rfl⟩
    · exact go_iret d_ma_endOfArgument_39 rfl go_le0 ⟨rfl, rfl, rfl⟩
  | @up d a e h1 hc k ih =>
    intro hd
    have := ih (by omega)
    rw [show ((d + 1 : Nat) : Int) = (d : Int) + 1 by omega, show ((a + 1 : Nat) : Int) = (a : Int) + 1 by omega] at this
    exact sn_eoa_6 hV ht hl (by omega) (by omega) (fun c => by omega) (fun _ _ c => absurd hc c) (fun _ _ c => absurd hc c) (fun _ _ _ => this) (fun _ _ c => by omega) (fun _ _ _ _ c => absurd hc c) (fun _ _ _ _ _ => this) (fun _ _ _ c => by omega)
  | @down d a e h1 hc k ih =>
    intro hd
    have := ih (by omega)
    rw [show ((a + 1 : Nat) : Int) = (a : Int) + 1 by omega, show (d : Int) = ((d + 1 : Nat) : Int) + (-1) by omega] at this
    exact sn_eoa_6 hV ht hl (by omega) (by omega) (fun c => by omega) (fun _ _ _ c => absurd hc c) (fun _ _ _ _ => this) (fun _ _ c => by omega) (fun _ c => by omega) (fun _ c => by omega) (fun _ c => by omega) (fun _ c => by omega)
  | @on d a e h1 hc hd0 k ih =>
    intro hd
    have := ih (by omega)
    rw [show ((a + 1 : Nat) : Int) = (a : Int) + 1 by omega] at this
    exact sn_eoa_6 hV ht hl (by omega) (by omega) (fun c => by omega) (fun _ _ _ _ => this) (fun _ _ _ c => absurd c hc.2) (fun _ _ c => absurd c hc.1) (fun _ c c2 => absurd c2 (hd0 (by omega))) (fun _ _ _ _ _ => this) (fun _ _ _ _ c => absurd c hc.1) (fun _ _ _ c => absurd c hc.2)
theorem tn_eoa {p len e : Nat} (hV : pn_V h (I, tx, wr, ga, gb, mo, mf, mg) B V) (ht : ∀ i : Nat, 0 ≤ tx i ∧ tx i ≤ 127) (hl : len ≤ 120) (hk : sk_ tx len 0 p e) :
    Fn l m_ma_endOfArgument rd_ma_endOfArgument rw_ma_endOfArgument 0 0 [mv_R 15, mv_R 2, mv_I (p : Int), mv_I (len : Int)] h n (fun w h' n' => w = some (mv_I (e : Int)) ∧ n' = n ∧ h' = h) := by
  refine fn_of rfl (Nat.le_of_ble_eq_true rfl) rfl ?_
  exact sn_eoa_0 hV (lp_eoa hV ht hl hk (Nat.zero_le _))
theorem dn_mono {t : Nat → Int} {a : Nat} : ∀ (j k : Nat), dn_ t a k ≤ dn_ t a (k + j) := by
  intro j
  induction j with
  | zero => intro k; exact Nat.le_refl _
  | succ j ih =>
    intro k
    have := ih k
    have e : dn_ t a (k + (j + 1)) = 10 * dn_ t a (k + j) + (t (a + (k + j)) - 48).toNat := rfl
    omega
/-- what takeNumber leaves -/
def tkn_ (h : mv_H) (n : Nat) (I tx wr ga gb mo mf mg : Nat → Int) (B : Nat → Int) (V : Nat → Nat) (m v : Nat) (s : Int) (w : Option mv_V) (h' : mv_H) (n' : Nat) : Prop :=
  n' = n ∧ fr_ 1 389 h h' ∧ ((v < 2 ^ 240 ∧ w = some (mv_I 0) ∧ ∃ B' V', pn_V h' (va_up I 5 (I 5 + 1), tx, wr, ga, gb, mo, mf, mg) B' V' ∧ (∀ i, i ≠ 90 + 5 * m → B' i = B i) ∧ (∀ i, i ≠ 45 → i ≠ 90 + 5 * m + 1 → i ≠ 90 + 5 * m + 3 → V' i = V i) ∧ kq_ B' V' (90 + 5 * m) = (if v = 0 then 0 else s, v, 1) ∧ (V' (90 + 5 * m + 1) = 0 → B' (90 + 5 * m) = 0)) ∨
    (¬ v < 2 ^ 240 ∧ w = some (mv_I 1) ∧ ∃ V', pn_V h' (I, tx, wr, ga, gb, mo, mf, mg) B V' ∧ ∀ i, i ≠ 45 → V' i = V i))
theorem num_lim : (2 : Nat) ^ 240 * 10 + 100 < 1073741824 ^ 18 := by decide +kernel
theorem lp_num {p a e m : Nat} {bl s : Int} {h0 : mv_H} {V0 : Nat → Nat} (ht : ∀ i : Nat, 0 ≤ tx i ∧ tx i ≤ 127) (he : e ≤ 120) (hd : ∀ i, a ≤ i → i < e → 48 ≤ tx i ∧ tx i ≤ 57) (hbl : (bl = 0 ∧ s = 1) ∨ (bl = 1 ∧ s = -1)) (hm : I 5 = (m : Int) ∧ m < 60) :
    ∀ (d i : Nat) (h : mv_H) (V : Nat → Nat), i + d = e → a ≤ i → pn_V h (I, tx, wr, ga, gb, mo, mf, mg) B V → fr_ 1 389 h0 h → (∀ i, i ≠ 45 → V i = V0 i) → V 45 = dn_ tx a (i - a) → V 45 < 2 ^ 240 →
      Go (go_f 0 0 (tkn_ h0 n I tx wr ga gb mo mf mg B V0 m (dn_ tx a (e - a)) s)) l m_ma_takeNumber (go_rm rd_ma_takeNumber rw_ma_takeNumber 0 0) (0, 0) 37 [some (mv_R 15), some (mv_R 2), some (mv_I (p : Int)), some (mv_I (e : Int)), some (mv_I bl), some (mv_I (i : Int))] [] h n := by
  have lim := num_lim
  intro d
  induction d with
  | zero =>
    intro i h V hi ha hV hf ho hv hlt
    have ei : i = e := by omega
    subst ei
    have ti := ht i
    refine sn_num_37 hV ht ⟨he, Nat.le_refl _⟩ (fun z => absurd z (Nat.lt_irrefl _)) (by omega) (fun _ => ?_) (fun z => by omega) (fun z => by omega)
    have hs : V 45 < 1073741824 ^ 8 := by rw [w_240]; exact hlt
    have h1 : (1 : Nat) ≠ 3 := by decide
    refine sn_num_77 hV (by omega) hm hs (fun c1 h2 hV2 hf2 => ?_) (fun c1 c2 h2 hV2 hf2 => ?_) (fun c1 c2 h2 hV2 hf2 => ?_)
    · refine go_iret d_ma_takeNumber_142 rfl go_le0 ⟨rfl, hf.tr hf2, Or.inl ⟨by rw [← hv]; exact hlt, rfl, _, _, hV2, fun i hi => by rw [va_up_ne _ _ hi, va_up_ne _ _ hi], fun i i1 i2 i3 => by rw [va_up_ne _ _ i2, va_up_ne _ _ i3, va_up_ne _ _ i2]; exact ho i i1, ?_, fun _ => va_up_self _ _ _⟩⟩
      rw [kq_at (x := V 45) (y := 1) (b := 0) (va_up_self _ _ _) (by rw [va_up_ne _ _ (by omega), va_up_self]) (va_up_self _ _ _), if_pos (rfl : (0 : Int) = 0), ← hv, show s = 1 by omega]
    · refine go_iret d_ma_takeNumber_142 rfl go_le0 ⟨rfl, hf.tr hf2, Or.inl ⟨by rw [← hv]; exact hlt, rfl, _, _, hV2, fun i hi => by rw [va_up_ne _ _ hi, va_up_ne _ _ hi], fun i i1 i2 i3 => by rw [va_up_ne _ _ i2, va_up_ne _ _ i3, va_up_ne _ _ i2]; exact ho i i1, ?_, fun _ => va_up_self _ _ _⟩⟩
      rw [kq_at (x := V 45) (y := 1) (b := 0) (va_up_self _ _ _) (by rw [va_up_ne _ _ (by omega), va_up_self]) (va_up_self _ _ _), ← hv, if_pos c2, if_pos c2]
    · refine go_iret d_ma_takeNumber_142 rfl go_le0 ⟨rfl, hf.tr hf2, Or.inl ⟨by rw [← hv]; exact hlt, rfl, _, _, hV2, fun i hi => by rw [va_up_ne _ _ hi, va_up_ne _ _ hi], fun i i1 i2 i3 => by rw [va_up_ne _ _ i2, va_up_ne _ _ i3, va_up_ne _ _ i2]; exact ho i i1, ?_, fun z => ?_⟩⟩
      · rw [kq_at (x := V 45) (y := 1) (b := 1) (va_up_self _ _ _) (by rw [va_up_ne _ _ (by omega), va_up_self]) (va_up_self _ _ _), ← hv, if_neg c2, if_neg c2, if_neg (by decide), show s = -1 by omega]
      · rw [va_up_self] at z
        exact absurd z c2
  | succ d ih =>
    intro i h V hi ha hV hf ho hv hlt
    have ti := ht i
    have hdi := hd i ha (by omega)
    have es : V 45 * 10 + (tx i - 48).toNat = dn_ tx a (i + 1 - a) := by
      rw [show i + 1 - a = (i - a) + 1 by omega, hv]
      show _ = 10 * dn_ tx a (i - a) + (tx (a + (i - a)) - 48).toNat
      rw [show a + (i - a) = i by omega]
      omega
    refine sn_num_37 hV ht ⟨he, by omega⟩ (fun _ => hdi) (by omega) (fun z => by omega) (fun _ c1 h2 hV2 hf2 => ?_) (fun _ c1 h2 hV2 hf2 => ?_)
    · rw [show ((i : Int) + 1) = ((i + 1 : Nat) : Int) by omega]
      refine ih (i + 1) h2 _ (by omega) (by omega) hV2 (hf.tr hf2) (fun j hj => by rw [va_up_ne _ _ hj]; exact ho j hj) (by rw [va_up_self]; exact es) (by rw [va_up_self]; exact c1)
    · refine go_iret d_ma_takeNumber_70 rfl go_le0 ⟨rfl, hf.tr hf2, Or.inr ⟨fun z => c1 ?_, rfl, _, hV2, fun j hj => by rw [va_up_ne _ _ hj]; exact ho j hj⟩⟩
      rw [es]
      have := dn_mono (t := tx) (a := a) (e - a - (i + 1 - a)) (i + 1 - a)
      rw [show i + 1 - a + (e - a - (i + 1 - a)) = e - a by omega] at this
      omega
theorem tn_num {len p a e m : Nat} (hV : pn_V h (I, tx, wr, ga, gb, mo, mf, mg) B V) (ht : ∀ i : Nat, 0 ≤ tx i ∧ tx i ≤ 127) (hl : len ≤ 120) (hn : nm_ tx len p a e) (hm : I 5 = (m : Int) ∧ m < 60) :
    Fn l m_ma_takeNumber rd_ma_takeNumber rw_ma_takeNumber 0 0 [mv_R 15, mv_R 2, mv_I (p : Int), mv_I (e : Int)] h n (tkn_ h n I tx wr ga gb mo mf mg B V m (dn_ tx a (e - a)) (if tx p = 45 then -1 else 1)) := by
  refine fn_of rfl (Nat.le_of_ble_eq_true rfl) rfl ?_
  obtain ⟨n1, n2, n3, n4, n5⟩ := hn
  have z240 : (0 : Nat) < 2 ^ 240 := Nat.pow_pos (by decide)
  refine sn_num_0 hV ht (by omega) (fun c1 h1 hV1 hf1 => ?_) (fun c1 h1 hV1 hf1 => ?_)
  · have ea : a = p := by omega
    subst ea
    rw [if_neg c1]
    exact lp_num ht (by omega) n4 (Or.inl ⟨rfl, rfl⟩) hm (e - a) a h1 _ (by omega) (Nat.le_refl _) hV1 hf1 (fun i hi => va_up_ne _ _ hi) (by rw [va_up_self, Nat.sub_self]; rfl) (by rw [va_up_self]; exact z240)
  · have ea : a = p + 1 := by omega
    subst ea
    rw [if_pos c1, show ((p : Int) + 1) = ((p + 1 : Nat) : Int) by omega]
    exact lp_num ht (by omega) n4 (Or.inr ⟨rfl, rfl⟩) hm (e - (p + 1)) (p + 1) h1 _ (by omega) (Nat.le_refl _) hV1 hf1 (fun i hi => va_up_ne _ _ hi) (by rw [va_up_self, Nat.sub_self]; rfl) (by rw [va_up_self]; exact z240)
/-- how the work stands -/
def ws_ (h0 : mv_H) (I0 tx wr ga gb : Nat → Int) (B0 : Nat → Int) (V0 : Nat → Nat) (st : List bk_) (m : Nat) (f : Nat → qv_) (h : mv_H) (I mo mf mg : Nat → Int) (B : Nat → Int) (V : Nat → Nat) : Prop :=
  pn_V h (I, tx, wr, ga, gb, mo, mf, mg) B V ∧ fr_ 1 389 h0 h ∧ (∀ i, i ≠ 4 → i ≠ 5 → I i = I0 i) ∧ un_ B0 B V0 V ∧ I 4 = (st.length : Int) ∧ I 5 = (m : Int) ∧ br_ mo mf mg st ∧ vl_ B V m f
/-- how it ends -/
def wo_ (h0 : mv_H) (n : Nat) (I0 tx wr ga gb : Nat → Int) (B0 : Nat → Int) (V0 : Nat → Nat) (r : Int × qv_) (w : Option mv_V) (h' : mv_H) (n' : Nat) : Prop :=
  w = some (mv_I r.1) ∧ n' = n ∧ fr_ 1 389 h0 h' ∧ ∃ (I' mo' mf' mg' : Nat → Int) (B' : Nat → Int) (V' : Nat → Nat), pn_V h' (I', tx, wr, ga, gb, mo', mf', mg') B' V' ∧ (∀ i, i ≠ 4 → i ≠ 5 → I' i = I0 i) ∧ un_ B0 B' V0 V' ∧ (r.1 = 0 → kq_ B' V' 90 = r.2 ∧ wf_ B' V' 90)
theorem wo_skip {len nx : Nat} (hV : pn_V h (I, tx, wr, ga, gb, mo, mf, mg) B V) (ht : ∀ i : Nat, 0 ≤ tx i ∧ tx i ≤ 127) (hl : len ≤ 120) (hnx : nx ≤ len) (k : Go φ l m_ma_workOut (go_rm rd_ma_workOut rw_ma_workOut 0 0) (0, 0) 18 [some (mv_R 15), some (mv_R 2), some (mv_I (len : Int)), some (mv_I 0), some (mv_I (nx : Int)), some (mv_I (nx : Int)), none] [] h n) :
    ∀ (d p : Nat), p + d = nx → Go φ l m_ma_workOut (go_rm rd_ma_workOut rw_ma_workOut 0 0) (0, 0) 18 [some (mv_R 15), some (mv_R 2), some (mv_I (len : Int)), some (mv_I 0), some (mv_I (nx : Int)), some (mv_I (p : Int)), none] [] h n := by
  intro d
  induction d with
  | zero =>
    intro p hp
    have e : p = nx := by omega
    rw [e]
    exact k
  | succ d ih =>
    intro p hp
    refine sn_wo_18 hV ht hl ⟨by omega, hnx⟩ (by decide) (fun c => by omega) (fun _ c => absurd rfl c) (fun _ _ c => by omega) (fun _ _ _ => ?_)
    rw [show ((p : Int) + 1) = ((p + 1 : Nat) : Int) by omega]
    exact ih (p + 1) (by omega)
/-- a failure ends it -/
theorem wo_fail {len nx p : Nat} {x : Int} {h0 : mv_H} {I0 : Nat → Int} {B0 : Nat → Int} {V0 : Nat → Nat} {r : qv_} (hV : pn_V h (I, tx, wr, ga, gb, mo, mf, mg) B V) (ht : ∀ i : Nat, 0 ≤ tx i ∧ tx i ≤ 127) (hl : len ≤ 120) (hp : p ≤ len ∧ nx ≤ len) (hx : 0 ≤ x ∧ x ≤ 3) (hx0 : x ≠ 0) (hf : fr_ 1 389 h0 h) (hI : ∀ i, i ≠ 4 → i ≠ 5 → I i = I0 i) (hu : un_ B0 B V0 V) :
    Go (go_f 0 0 (wo_ h0 n I0 tx wr ga gb B0 V0 (x, r))) l m_ma_workOut (go_rm rd_ma_workOut rw_ma_workOut 0 0) (0, 0) 18 [some (mv_R 15), some (mv_R 2), some (mv_I (len : Int)), some (mv_I x), some (mv_I (nx : Int)), some (mv_I (p : Int)), none] [] h n := by
  have fin : Go (go_f 0 0 (wo_ h0 n I0 tx wr ga gb B0 V0 (x, r))) l m_ma_workOut (go_rm rd_ma_workOut rw_ma_workOut 0 0) (0, 0) 217 [some (mv_R 15), some (mv_R 2), some (mv_I (len : Int)), some (mv_I x), some (mv_I (nx : Int)), some (mv_I (p : Int)), none] [] h n :=
    sn_wo_217 hV (go_iret d_ma_workOut_218 rfl go_le0 ⟨rfl, rfl, hf, I, mo, mf, mg, B, V, hV, hI, hu, fun z => absurd z hx0⟩)
  exact sn_wo_18 hV ht hl hp hx (fun _ => fin) (fun _ _ => fin) (fun _ z => absurd z hx0) (fun _ z => absurd z hx0)
/-- a bracket's end -/
theorem wo_cls {len nx p : Nat} {h0 : mv_H} {I0 : Nat → Int} {B0 : Nat → Int} {V0 : Nat → Nat} {op : Int} {b c : Nat} {st : List bk_} {m : Nat} {f : Nat → qv_} (hw : ws_ h0 I0 tx wr ga gb B0 V0 ((op, b, c) :: st) m f h I mo mf mg B V) (ht : ∀ i : Nat, 0 ≤ tx i ∧ tx i ≤ 127) (hl : len ≤ 120) (hp : p < len) (hnx : nx ≤ p) (hc : tx p = 41) (ho : st.length < 12) (hb : b ≤ m ∧ m ≤ 60 ∧ b < 60) (ha : ar_ op (m - b))
    (k : ∀ (h' : mv_H) (I' : Nat → Int) (B' : Nat → Int) (V' : Nat → Nat), pn_V h' (I', tx, wr, ga, gb, mo, mf, mg) B' V' → fr_ 1 389 h0 h' → (∀ i, i ≠ 4 → i ≠ 5 → I' i = I0 i) → un_ B0 B' V0 V' → I' 4 = (st.length : Int) → I' 5 = ((b + 1 : Nat) : Int) → br_ mo mf mg st → ((q_app op (m - b) fun i => f (b + i)).1 = 0 → vl_ B' V' (b + 1) (va_up f b (q_app op (m - b) fun i => f (b + i)).2)) →
      Go φ l m_ma_workOut (go_rm rd_ma_workOut rw_ma_workOut 0 0) (0, 0) 18 [some (mv_R 15), some (mv_R 2), some (mv_I (len : Int)), some (mv_I (q_app op (m - b) fun i => f (b + i)).1), some (mv_I (nx : Int)), some (mv_I ((p + 1 : Nat) : Int)), none] [] h' n) :
    Go φ l m_ma_workOut (go_rm rd_ma_workOut rw_ma_workOut 0 0) (0, 0) 18 [some (mv_R 15), some (mv_R 2), some (mv_I (len : Int)), some (mv_I 0), some (mv_I (nx : Int)), some (mv_I (p : Int)), none] [] h n := by
  obtain ⟨hV, hf, hI, hu, h4, h5, ⟨b1, b2, b3, b4, b5, b6, b7⟩, hv⟩ := hw
  have h4' : I 4 = (st.length : Int) + 1 := by rw [h4]; show ((st.length + 1 : Nat) : Int) = _; omega
  -- behind the fold
  have beh : ∀ (w : Option mv_V) (h1 : mv_H) (n1 : Nat), ks_ h n (I, tx, wr, ga, gb, mo, mf, mg) B V (q_app op (m - b) fun i => f (b + i)) w h1 n1 → Go φ l m_ma_workOut (go_rm rd_ma_workOut rw_ma_workOut 0 0) (0, 0) 106 [some (mv_R 15), some (mv_R 2), some (mv_I (len : Int)), some (mv_I (q_app op (m - b) fun i => f (b + i)).1), some (mv_I (nx : Int)), some (mv_I (p : Int)), some (mv_I (tx p))] [mv_R 15] h1 n := by
    rintro w h1 n1 ⟨-, rfl, hf1, B1, V1, hV1, hcs1, hz⟩
    refine go_callV (M' := m_ma_closeBracket) (d := rd_ma_closeBracket) (w := rw_ma_closeBracket) (mc := 0) (ms := 0) (as := []) (b := 15) (rest := []) (q := 109) g_ma_closeBracket i_ma_closeBracket v_ma_closeBracket l_ma_70 d_ma_workOut_106 rfl rfl rfl (pn_c15 hV1) rfl (by decide) ⟨by decide, by decide, by decide, by decide⟩ (tn_close hV1 ⟨h4', ho⟩ ⟨b2, b5⟩) ?_
    rintro w h2 n2 ⟨rfl, rfl, hf2, hV2⟩ -
    refine go_u0 (sn_wo_109 hV2 ?_)
    rw [show ((p : Int) + 1) = ((p + 1 : Nat) : Int) by omega]
    have hu1 := hu.tr (un_cs hcs1)
    refine k h2 _ _ _ hV2 (hf.tr (hf1.tr hf2)) (fun i i1 i2 => by rw [va_up_ne _ _ i2, va_up_ne _ _ i1]; exact hI i i1 i2) (hu1.tr ⟨fun i hi => by rw [va_up_ne _ _ (by omega), va_up_ne _ _ (by omega)], fun i hi => va_up_ne _ _ (by omega)⟩) (by rw [va_up_ne _ _ (by decide), va_up_self]; omega) (by rw [va_up_self, b2]; omega) b7 (fun z => ?_)
    obtain ⟨z1, z2⟩ := hz z
    have e : kq_ (va_up B1 (90 + 5 * b) (B1 40)) (va_up (va_up V1 (90 + 5 * b + 1) (V1 41)) (90 + 5 * b + 3) (V1 43)) (90 + 5 * b) = kq_ B1 V1 40 := kq_at (by rw [va_up_ne _ _ (by omega), va_up_self]) (va_up_self _ _ _) (va_up_self _ _ _)
    refine vl_put hb.1 (fun i hi => va_up_ne _ _ hi) (fun i _ i1 i2 => by rw [va_up_ne _ _ i2, va_up_ne _ _ i1]) (vl_cs hcs1 hv) (e.trans z1) ⟨by rw [e]; exact z2.1, ?_⟩
    rw [va_up_ne _ _ (by omega), va_up_self, va_up_self]
    exact z2.2
  refine sn_wo_18 hV ht hl ⟨by omega, by omega⟩ (by decide) (fun c => by omega) (fun _ c => absurd rfl c) (fun _ _ _ => ?_) (fun _ _ c => by omega)
  refine sn_wo_44 (k := st.length) (m := m) hV ht hl hp (fun z => by omega) (fun _ => ⟨h4', ho, by omega⟩) (fun z => by omega) (fun _ z => absurd hc z) (fun _ z => absurd hc z) (fun _ z => absurd hc z) (fun _ _ c94 => ?_) (fun _ _ c94 => ?_) (fun z => by omega)
  · refine go_callV (M' := m_ma_fold) (d := rd_ma_fold) (w := rw_ma_fold) (mc := 0) (ms := 0) (as := []) (b := 15) (rest := []) (q := 104) g_ma_fold i_ma_fold v_ma_fold l_ma_67 d_ma_workOut_101 rfl rfl rfl (pn_c15 hV) rfl (by decide) ⟨by decide, by decide, by decide, by decide⟩ (tn_fold (f := f) hV b4 ⟨h4', ho⟩ b1 b2 ⟨b5, hb.1, hb.2.1⟩ h5 hv (by omega)) ?_
    intro w h1 n1 hk _
    have hk' := hk
    obtain ⟨rfl, rfl, -, B1, V1, hV1, -⟩ := hk'
    exact go_u0 (sn_wo_104 hV1 (beh _ h1 _ hk))
  · have e94 : op = 94 := by omega
    subst e94
    have em : m = b + 2 := by
      unfold ar_ at ha
      omega
    subst em
    have e2 : b + 2 - b = 2 := by omega
    rw [e2] at beh
    refine go_callV (M' := m_ma_raise) (d := rd_ma_raise) (w := rw_ma_raise) (mc := 0) (ms := 0) (as := []) (b := 15) (rest := []) (q := 97) g_ma_raise i_ma_raise v_ma_raise l_ma_63 d_ma_workOut_94 rfl rfl rfl (pn_c15 hV) rfl (by decide) ⟨by decide, by decide, by decide, by decide⟩ (tn_raise (f := f) hV (by omega) (by omega) hv) ?_
    intro w h1 n1 hk _
    have hk' := hk
    obtain ⟨rfl, rfl, -, B1, V1, hV1, -⟩ := hk'
    exact go_u0 (sn_wo_97 hV1 (beh _ h1 _ hk))
/-- a blank -/
theorem wo_sp {len nx p : Nat} {h0 : mv_H} {I0 : Nat → Int} {B0 : Nat → Int} {V0 : Nat → Nat} {op : Int} {b c : Nat} {st : List bk_} {m : Nat} {f : Nat → qv_} (hw : ws_ h0 I0 tx wr ga gb B0 V0 ((op, b, c) :: st) m f h I mo mf mg B V) (ht : ∀ i : Nat, 0 ≤ tx i ∧ tx i ≤ 127) (hl : len ≤ 120) (hp : p < len) (hnx : nx ≤ p) (hc : tx p = 32) (ho : st.length < 12) (hc2 : c < 120)
    (k : ∀ (h' : mv_H) (mg' : Nat → Int), ws_ h0 I0 tx wr ga gb B0 V0 ((op, b, c + 1) :: st) m f h' I mo mf mg' B V →
      (sks_ op c (decide (V (90 + 5 * b + 1) = 0)) = 0 ∧ Go φ l m_ma_workOut (go_rm rd_ma_workOut rw_ma_workOut 0 0) (0, 0) 18 [some (mv_R 15), some (mv_R 2), some (mv_I (len : Int)), some (mv_I 0), some (mv_I ((p + 1 : Nat) : Int)), some (mv_I ((p + 1 : Nat) : Int)), none] [] h' n) ∨
      (sks_ op c (decide (V (90 + 5 * b + 1) = 0)) = 1 ∧ ∃ e : Nat, sk_ tx len 0 (p + 1) e ∧ Go φ l m_ma_workOut (go_rm rd_ma_workOut rw_ma_workOut 0 0) (0, 0) 18 [some (mv_R 15), some (mv_R 2), some (mv_I (len : Int)), some (mv_I 0), some (mv_I (e : Int)), some (mv_I (e : Int)), none] [] h' n)) :
    Go φ l m_ma_workOut (go_rm rd_ma_workOut rw_ma_workOut 0 0) (0, 0) 18 [some (mv_R 15), some (mv_R 2), some (mv_I (len : Int)), some (mv_I 0), some (mv_I (nx : Int)), some (mv_I (p : Int)), none] [] h n := by
  obtain ⟨hV, hf, hI, hu, h4, h5, ⟨b1, b2, b3, b4, b5, b6, b7⟩, hv⟩ := hw
  have h4' : I 4 = (st.length : Int) + 1 := by rw [h4]; show ((st.length + 1 : Nat) : Int) = _; omega
  refine sn_wo_18 hV ht hl ⟨by omega, by omega⟩ (by decide) (fun c => by omega) (fun _ c => absurd rfl c) (fun _ _ _ => ?_) (fun _ _ c => by omega)
  refine sn_wo_44 (k := 0) (m := m) hV ht hl hp (fun z => by omega) (fun z => by omega) (fun z => by omega) (fun _ _ z => absurd hc z) (fun _ _ z => absurd hc z) (fun _ _ _ => ?_) (fun _ z => by omega) (fun _ z => by omega) (fun z => by omega)
  refine go_callV (M' := m_ma_skipsArgument) (d := rd_ma_skipsArgument) (w := rw_ma_skipsArgument) (mc := 0) (ms := 0) (as := []) (b := 15) (rest := []) (q := 123) g_ma_skipsArgument i_ma_skipsArgument v_ma_skipsArgument l_ma_73 d_ma_workOut_120 rfl rfl rfl (pn_c15 hV) rfl (by decide) ⟨by decide, by decide, by decide, by decide⟩ (tn_skips (op := op) (c := c) hV ⟨h4', ho⟩ ⟨b2, b5⟩ ⟨b3, b6⟩ b1 b4) ?_
  rintro w h1 n1 ⟨rfl, rfl, hf1, hV1⟩ -
  have hws1 : ws_ h0 I0 tx wr ga gb B0 V0 ((op, b, c + 1) :: st) m f h1 I mo mf (va_up mg st.length ((c : Int) + 1)) B V :=
    ⟨hV1, hf.tr hf1, hI, hu, h4, h5, ⟨b1, b2, by rw [va_up_self]; omega, b4, b5, by omega, br_ext st b7 (fun i hi => ⟨rfl, rfl, va_up_ne _ _ (by omega)⟩)⟩, hv⟩
  rcases k h1 _ hws1 with ⟨z, kz⟩ | ⟨z, e, he, kz⟩
  · rw [z]
    refine go_u0 (sn_wo_123 hV1 (by decide) (fun _ => ?_) (fun y => absurd rfl y))
    rw [show ((p : Int) + 1) = ((p + 1 : Nat) : Int) by omega]
    exact kz
  · rw [z]
    refine go_u0 (sn_wo_123 hV1 (by decide) (fun y => absurd y (by decide)) (fun _ => ?_))
    rw [show ((p : Int) + 1) = ((p + 1 : Nat) : Int) by omega]
    have hle := sk_le he
    refine go_callV (M' := m_ma_endOfArgument) (d := rd_ma_endOfArgument) (w := rw_ma_endOfArgument) (mc := 0) (ms := 0) (as := [mv_R 2, mv_I ((p + 1 : Nat) : Int), mv_I (len : Int)]) (b := 15) (rest := []) (q := 136) g_ma_endOfArgument i_ma_endOfArgument v_ma_endOfArgument l_ma_77 d_ma_workOut_133 rfl rfl rfl (pn_c15 hV1) rfl (by decide) ⟨by decide, by decide, by decide, by decide⟩ (tn_eoa hV1 ht hl he) ?_
    rintro w h2 n2 ⟨rfl, rfl, rfl⟩ -
    refine go_u0 (sn_wo_136 hV1 ?_)
    rw [show ((p : Int) + 1) = ((p + 1 : Nat) : Int) by omega]
    exact wo_skip hV1 ht hl hle.2 kz (e - (p + 1)) (p + 1) (by omega)
theorem un_var {B0 B : Nat → Int} {V0 V : Nat → Nat} {var : Nat → qv_} (hu : un_ B0 B V0 V) (hvar : ∀ v, v < 8 → kq_ B0 V0 (50 + 5 * v) = var v ∧ wf_ B0 V0 (50 + 5 * v)) : ∀ v, v < 8 → kq_ B V (50 + 5 * v) = var v ∧ wf_ B V (50 + 5 * v) := fun v hv => by
  have e1 : B (50 + 5 * v) = B0 (50 + 5 * v) := hu.2 _ (by omega)
  have e2 : V (50 + 5 * v + 1) = V0 (50 + 5 * v + 1) := hu.1 _ (by omega)
  have e3 : V (50 + 5 * v + 3) = V0 (50 + 5 * v + 3) := hu.1 _ (by omega)
  exact ⟨(kq_ext e1 e2 e3).trans (hvar v hv).1, wf_ext e1 e2 e3 (hvar v hv).2⟩
theorem tn_ev {len : Nat} {var : Nat → qv_} {h0 : mv_H} {I0 : Nat → Int} {B0 : Nat → Int} {V0 : Nat → Nat} (ht : ∀ i : Nat, 0 ≤ tx i ∧ tx i ≤ 127) (hl : len ≤ 120) (hvar : ∀ v, v < 8 → kq_ B0 V0 (50 + 5 * v) = var v ∧ wf_ B0 V0 (50 + 5 * v)) {md : Bool} {p : Nat} {st : List bk_} {m : Nat} {f : Nat → qv_} {r : Int × qv_} (hE : Ev tx len var md p st m f r) :
    ∀ (h : mv_H) (I mo mf mg : Nat → Int) (B : Nat → Int) (V : Nat → Nat) (nx : Nat), ws_ h0 I0 tx wr ga gb B0 V0 st m f h I mo mf mg B V → nx ≤ p →
      Go (go_f 0 0 (wo_ h0 n I0 tx wr ga gb B0 V0 r)) l m_ma_workOut (go_rm rd_ma_workOut rw_ma_workOut 0 0) (0, 0) 18 [some (mv_R 15), some (mv_R 2), some (mv_I (len : Int)), some (mv_I 0), some (mv_I (nx : Int)), some (mv_I (p : Int)), none] [] h n := by
  induction hE using Ev.ind with
  | @opn p st m f r hp hc ho hm k ih =>
    intro h I mo mf mg B V nx hw hnx
    obtain ⟨hV, hf, hI, hu, h4, h5, hb, hv⟩ := hw
    refine sn_wo_18 hV ht hl ⟨by omega, by omega⟩ (by decide) (fun c => by omega) (fun _ c => absurd rfl c) (fun _ _ _ => ?_) (fun _ _ c => by omega)
    refine sn_wo_44 (k := 0) (m := m) hV ht hl (by omega) (fun _ => hp) (fun z => by omega) (fun z => by omega) (fun z => absurd hc z) (fun z => absurd hc z) (fun z => absurd hc z) (fun z => absurd hc z) (fun z => absurd hc z) (fun _ => ?_)
    refine go_callV (M' := m_ma_openBracket) (d := rd_ma_openBracket) (w := rw_ma_openBracket) (mc := 0) (ms := 0) (as := [mv_I (tx (p + 1))]) (b := 15) (rest := []) (q := 61) g_ma_openBracket i_ma_openBracket v_ma_openBracket l_ma_59 d_ma_workOut_58 rfl rfl rfl (pn_c15 hV) rfl (by decide) ⟨by decide, by decide, by decide, by decide⟩ (tn_open hV (ht (p + 1)) ⟨h4, ho⟩) ?_
    rintro w h1 n1 ⟨rfl, rfl, hf1, hV1⟩ -
    refine go_u0 (sn_wo_61 hV1 ?_)
    rw [show ((p : Int) + 2) = ((p + 2 : Nat) : Int) by omega, show ((p : Int) + 1) = ((p + 1 : Nat) : Int) by omega]
    refine wo_skip hV1 ht hl (by omega) (ih h1 _ _ _ _ B V (p + 2) ⟨hV1, hf.tr hf1, fun i i1 i2 => by rw [va_up_ne _ _ i1]; exact hI i i1 i2, hu, ?_, by rw [va_up_ne _ _ (by decide)]; exact h5, ⟨va_up_self _ _ _, by rw [va_up_self]; exact h5, va_up_self _ _ _, ht (p + 1), hm, by omega, br_ext st hb (fun i hi => ⟨va_up_ne _ _ (by omega), va_up_ne _ _ (by omega), va_up_ne _ _ (by omega)⟩)⟩, hv⟩ (Nat.le_refl _)) 1 (p + 1) (by omega)
    rw [va_up_self, h4]
    show (st.length : Int) + 1 = ((st.length + 1 : Nat) : Int)
    omega
  | @vr p st m f r hp hc hm k ih =>
    intro h I mo mf mg B V nx hw hnx
    obtain ⟨hV, hf, hI, hu, h4, h5, hb, hv⟩ := hw
    refine sn_wo_18 hV ht hl ⟨by omega, by omega⟩ (by decide) (fun c => by omega) (fun _ c => absurd rfl c) (fun _ _ _ => ?_) (fun _ _ c => by omega)
    refine sn_wo_44 (k := 0) (m := m) hV ht hl hp (fun z => by omega) (fun z => by omega) (fun _ => ⟨h5, hm⟩) (fun _ _ _ z => absurd hc z) (fun _ _ _ _ h1 hV1 hf1 => ?_) (fun _ _ z => by omega) (fun _ z => by omega) (fun _ z => by omega) (fun z => by omega)
    rw [show ((p : Int) + 1) = ((p + 1 : Nat) : Int) by omega]
    obtain ⟨v1, v2⟩ := un_var hu hvar (tx p - 97).toNat (by omega)
    have e : kq_ (va_up B (90 + 5 * m) (B (50 + 5 * (tx p - 97).toNat))) (va_up (va_up V (90 + 5 * m + 1) (V (50 + 5 * (tx p - 97).toNat + 1))) (90 + 5 * m + 3) (V (50 + 5 * (tx p - 97).toNat + 3))) (90 + 5 * m) = kq_ B V (50 + 5 * (tx p - 97).toNat) := kq_at (by rw [va_up_ne _ _ (by omega), va_up_self]) (va_up_self _ _ _) (va_up_self _ _ _)
    refine ih h1 _ mo mf mg _ _ nx ⟨hV1, hf.tr hf1, fun i i1 i2 => by rw [va_up_ne _ _ i2]; exact hI i i1 i2, hu.tr ⟨fun i hi => by rw [va_up_ne _ _ (by omega), va_up_ne _ _ (by omega)], fun i hi => va_up_ne _ _ (by omega)⟩, by rw [va_up_ne _ _ (by decide)]; exact h4, by rw [va_up_self]; omega, hb, vl_put (Nat.le_refl _) (fun i hi => va_up_ne _ _ hi) (fun i _ i1 i2 => by rw [va_up_ne _ _ i2, va_up_ne _ _ i1]) hv (e.trans v1) ⟨by rw [e]; exact v2.1, ?_⟩⟩ (by omega)
    rw [va_up_ne _ _ (by omega), va_up_self, va_up_self]
    exact v2.2
  | @num p a e st m f r hn hm hlt k ih =>
    intro h I mo mf mg B V nx hw hnx
    obtain ⟨hV, hf, hI, hu, h4, h5, hb, hv⟩ := hw
    have hsk := nm_sk hn
    have hn' := hn
    obtain ⟨n1, n2, n3, n4, n5⟩ := hn'
    have hpd : tx p = 45 ∨ (48 ≤ tx p ∧ tx p ≤ 57) := by
      rcases n1 with ⟨e1, e2⟩ | ⟨e1, e2⟩
      · right
        rw [← e1]
        exact n4 a (Nat.le_refl _) n2
      · exact Or.inl e2
    refine sn_wo_18 hV ht hl ⟨by omega, by omega⟩ (by decide) (fun c => by omega) (fun _ c => absurd rfl c) (fun _ _ _ => ?_) (fun _ _ c => by omega)
    refine sn_wo_44 (k := 0) (m := m) hV ht hl (by omega) (fun z => by omega) (fun z => by omega) (fun _ => ⟨h5, hm⟩) (fun _ _ _ _ => ?_) (fun _ _ _ z => by omega) (fun _ _ z => by omega) (fun _ z => by omega) (fun _ z => by omega) (fun z => by omega)
    refine go_callV (M' := m_ma_endOfArgument) (d := rd_ma_endOfArgument) (w := rw_ma_endOfArgument) (mc := 0) (ms := 0) (as := [mv_R 2, mv_I (p : Int), mv_I (len : Int)]) (b := 15) (rest := []) (q := 199) g_ma_endOfArgument i_ma_endOfArgument v_ma_endOfArgument l_ma_77 d_ma_workOut_196 rfl rfl rfl (pn_c15 hV) rfl (by decide) ⟨by decide, by decide, by decide, by decide⟩ (tn_eoa hV ht hl hsk) ?_
    rintro w h1 n1' ⟨rfl, rfl, rfl⟩ -
    refine go_u0 (sn_wo_199 hV ?_)
    refine go_callV (M' := m_ma_takeNumber) (d := rd_ma_takeNumber) (w := rw_ma_takeNumber) (mc := 0) (ms := 0) (as := [mv_R 2, mv_I (p : Int), mv_I (e : Int)]) (b := 15) (rest := []) (q := 210) g_ma_takeNumber i_ma_takeNumber v_ma_takeNumber l_ma_89 d_ma_workOut_207 rfl rfl rfl (pn_c15 hV) rfl (by decide) ⟨by decide, by decide, by decide, by decide⟩ (tn_num hV ht hl hn ⟨h5, hm⟩) ?_
    rintro w h2 n2' ⟨rfl, hf2, hk⟩ -
    rcases hk with ⟨-, rfl, B', V', hV2, hB, hVV, hkq, hb0⟩ | ⟨hbad, -⟩
    · refine go_u0 (sn_wo_210 hV2 ?_)
      rw [show ((p : Int) + 1) = ((p + 1 : Nat) : Int) by omega]
      refine wo_skip hV2 ht hl n3 (ih h2 _ mo mf mg B' V' e ⟨hV2, hf.tr hf2, fun i i1 i2 => by rw [va_up_ne _ _ i2]; exact hI i i1 i2, hu.tr ⟨fun i hi => hVV i (by omega) (by omega) (by omega), fun i hi => hB i (by omega)⟩, by rw [va_up_ne _ _ (by decide)]; exact h4, by rw [va_up_self]; omega, hb, vl_put (Nat.le_refl _) hB (fun i i0 i1 i2 => hVV i (by omega) i1 i2) hv hkq ⟨by rw [hkq]; exact (q_num_in hlt).1, hb0⟩⟩ (Nat.le_refl _)) (e - (p + 1)) (p + 1) (by omega)
    · exact absurd hlt hbad
  | @numF p a e st m f r hn hm hlt =>
    intro h I mo mf mg B V nx hw hnx
    obtain ⟨hV, hf, hI, hu, h4, h5, hb, hv⟩ := hw
    have hsk := nm_sk hn
    have hn' := hn
    obtain ⟨n1, n2, n3, n4, n5⟩ := hn'
    have hpd : tx p = 45 ∨ (48 ≤ tx p ∧ tx p ≤ 57) := by
      rcases n1 with ⟨e1, e2⟩ | ⟨e1, e2⟩
      · right
        rw [← e1]
        exact n4 a (Nat.le_refl _) n2
      · exact Or.inl e2
    refine sn_wo_18 hV ht hl ⟨by omega, by omega⟩ (by decide) (fun c => by omega) (fun _ c => absurd rfl c) (fun _ _ _ => ?_) (fun _ _ c => by omega)
    refine sn_wo_44 (k := 0) (m := m) hV ht hl (by omega) (fun z => by omega) (fun z => by omega) (fun _ => ⟨h5, hm⟩) (fun _ _ _ _ => ?_) (fun _ _ _ z => by omega) (fun _ _ z => by omega) (fun _ z => by omega) (fun _ z => by omega) (fun z => by omega)
    refine go_callV (M' := m_ma_endOfArgument) (d := rd_ma_endOfArgument) (w := rw_ma_endOfArgument) (mc := 0) (ms := 0) (as := [mv_R 2, mv_I (p : Int), mv_I (len : Int)]) (b := 15) (rest := []) (q := 199) g_ma_endOfArgument i_ma_endOfArgument v_ma_endOfArgument l_ma_77 d_ma_workOut_196 rfl rfl rfl (pn_c15 hV) rfl (by decide) ⟨by decide, by decide, by decide, by decide⟩ (tn_eoa hV ht hl hsk) ?_
    rintro w h1 n1' ⟨rfl, rfl, rfl⟩ -
    refine go_u0 (sn_wo_199 hV ?_)
    refine go_callV (M' := m_ma_takeNumber) (d := rd_ma_takeNumber) (w := rw_ma_takeNumber) (mc := 0) (ms := 0) (as := [mv_R 2, mv_I (p : Int), mv_I (e : Int)]) (b := 15) (rest := []) (q := 210) g_ma_takeNumber i_ma_takeNumber v_ma_takeNumber l_ma_89 d_ma_workOut_207 rfl rfl rfl (pn_c15 hV) rfl (by decide) ⟨by decide, by decide, by decide, by decide⟩ (tn_num hV ht hl hn ⟨h5, hm⟩) ?_
    rintro w h2 n2' ⟨rfl, hf2, hk⟩ -
    rcases hk with ⟨hbad, -⟩ | ⟨-, rfl, V', hV2, hVV⟩
    · exact absurd hbad hlt
    · refine go_u0 (sn_wo_210 hV2 ?_)
      rw [show ((p : Int) + 1) = ((p + 1 : Nat) : Int) by omega]
      exact wo_fail (r := r) hV2 ht hl ⟨by omega, n3⟩ (by decide) (by decide) (hf.tr hf2) hI (hu.tr ⟨fun i hi => hVV i (by omega), fun _ _ => rfl⟩)
  | @fin f =>
    intro h I mo mf mg B V nx hw hnx
    obtain ⟨hV, hf, hI, hu, h4, h5, hb, hv⟩ := hw
    refine sn_wo_18 hV ht hl ⟨Nat.le_refl _, hnx⟩ (by decide) (fun _ => ?_) (fun c => by omega) (fun c => by omega) (fun c => by omega)
    exact sn_wo_217 hV (go_iret d_ma_workOut_218 rfl go_le0 ⟨rfl, rfl, hf, I, mo, mf, mg, B, V, hV, hI, hu, fun _ => hv 0 (by decide)⟩)
  | @cls p op b c st m f r hp hc ho hb ha h0' k ih =>
    intro h I mo mf mg B V nx hw hnx
    refine wo_cls hw ht hl hp hnx hc ho hb ha (fun h1 I1 B1 V1 hV1 hf1 hI1 hu1 h41 h51 hb1 hv1 => ?_)
    rw [h0']
    exact ih h1 I1 mo mf mg B1 V1 nx ⟨hV1, hf1, hI1, hu1, h41, h51, hb1, hv1 h0'⟩ (by omega)
  | @clsF p op b c st m f r hp hc ho hb ha h0' =>
    intro h I mo mf mg B V nx hw hnx
    refine wo_cls hw ht hl hp hnx hc ho hb ha (fun h1 I1 B1 V1 hV1 hf1 hI1 hu1 h41 h51 hb1 hv1 => ?_)
    exact wo_fail hV1 ht hl ⟨by omega, by omega⟩ q_app_b h0' hf1 hI1 hu1
  | @arg p op b c st m f r hp hc ho hb hk hs k ih =>
    intro h I mo mf mg B V nx hw hnx
    have hfb : c = 1 → m = b + 1 → (f b).2.1 = V (90 + 5 * b + 1) := fun _ e => by
      obtain ⟨-, -, -, -, -, -, -, hv⟩ := hw
      rw [← (hv b (by omega)).1]
      rfl
    refine wo_sp hw ht hl hp hnx hc ho hk (fun h1 mg1 hw1 => Or.inl ⟨?_, ih h1 _ _ _ _ _ _ (p + 1) hw1 (Nat.le_refl _)⟩)
    refine if_neg (fun z => ?_)
    rcases hs z.1 with ⟨s1, s2⟩ | ⟨s1, s2, s3⟩
    · exact z.2.1 s1
    · have z3 := z.2.2
      rw [decide_eq_true s1, ← hfb s1 s2] at z3
      exact s3 (of_decide_eq_true z3)
  | @third p e b st m f r hp hc ho hb hm hz he hpe hk hce k ih =>
    intro h I mo mf mg B V nx hw hnx
    have hV0 : V (90 + 5 * b + 1) = 0 := by
      obtain ⟨-, -, -, -, -, -, -, hv⟩ := hw
      have := (hv b (by omega)).1
      rw [← hz, ← this]
      rfl
    refine wo_sp hw ht hl hp hnx hc ho (by decide) (fun h1 mg1 hw1 => Or.inr ⟨?_, e, hk, ?_⟩)
    · unfold sks_
      rw [decide_eq_true hV0]
      rfl
    · refine wo_sp hw1 ht hl he (Nat.le_refl _) hce ho (by decide) (fun h2 mg2 hw2 => Or.inl ⟨?_, ih h2 _ _ _ _ _ _ (e + 1) hw2 (Nat.le_refl _)⟩)
      unfold sks_
      rw [decide_eq_true hV0]
      rfl
  | @rest p e b st m f r hp hc ho hb hm hz he hpe hk hce k ih =>
    intro h I mo mf mg B V nx hw hnx
    have hV0 : ¬ V (90 + 5 * b + 1) = 0 := by
      obtain ⟨-, -, -, -, -, -, -, hv⟩ := hw
      have := (hv b (by omega)).1
      rw [← this] at hz
      exact hz
    refine wo_sp hw ht hl hp hnx hc ho (by decide) (fun h1 mg1 hw1 => Or.inr ⟨?_, e, hk, ih h1 _ _ _ _ _ _ e hw1 (Nat.le_refl _)⟩)
    unfold sks_
    rw [decide_eq_false hV0]
    rfl
theorem tn_workOut {len : Nat} {var : Nat → qv_} {f : Nat → qv_} {r : Int × qv_} (hV : pn_V h (I, tx, wr, ga, gb, mo, mf, mg) B V) (ht : ∀ i : Nat, 0 ≤ tx i ∧ tx i ≤ 127) (hl : len ≤ 120) (hvar : ∀ v, v < 8 → kq_ B V (50 + 5 * v) = var v ∧ wf_ B V (50 + 5 * v)) (hE : Ev tx len var true 0 [] 0 f r) :
    Fn l m_ma_workOut rd_ma_workOut rw_ma_workOut 0 0 [mv_R 15, mv_R 2, mv_I (len : Int)] h n (wo_ h n I tx wr ga gb B V r) := by
  refine fn_of rfl (Nat.le_of_ble_eq_true rfl) rfl ?_
  refine sn_wo_0 hV (fun h1 hV1 hf1 => ?_)
  exact tn_ev ht hl hvar hE h1 _ mo mf mg B V 0 ⟨hV1, hf1, fun i i1 i2 => by rw [va_up_ne _ _ i2, va_up_ne _ _ i1], un_.rf, by rw [va_up_ne _ _ (by decide), va_up_self]; rfl, va_up_self _ _ _, trivial, fun i hi => absurd hi (by omega)⟩ (Nat.le_refl _)
end MaWork
