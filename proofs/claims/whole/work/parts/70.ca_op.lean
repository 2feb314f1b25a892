/-! the Calculator: settleAt, addSpare, compare, add, multiply, divideWhole, joinGreatest -/
section CaOp
variable {φ : go_F} {l : Launch} {M : go_M} {R : Room} {u : Nat × Nat} {pc q n idx : Nat} {L : List (Option mv_V)} {rest : List mv_V} {h : mv_H} {I tx wr ga gb mo mf mg : Nat → Int} {B : Nat → Int} {V : Nat → Nat}
theorem tk_settleAt {x : Nat} {b : Int} (hV : pn_V h (I, tx, wr, ga, gb, mo, mf, mg) B V) (hb : 0 ≤ b ∧ b ≤ 1) (hx : 18 ≤ x ∧ x ≤ 32 ∧ x % 2 = 0) : Fn l m_ca_settleAt rd_ca_settleAt rw_ca_settleAt 0 0 [mv_R 16, mv_R 40, mv_I b, mv_R x] h n
    (fun w h' n' => n' = n ∧ fr_ 1 389 h h' ∧ ((¬ (V x < 2 ^ 240 ∧ V 34 < 2 ^ 240) ∧ w = some (mv_I 1) ∧ pn_V h' (I, tx, wr, ga, gb, mo, mf, mg) B V) ∨ ((V x < 2 ^ 240 ∧ V 34 < 2 ^ 240) ∧ w = some (mv_I 0) ∧ pn_V h' (I, tx, wr, ga, gb, mo, mf, mg) (va_up B 40 (if V x = 0 then 0 else b)) (va_up (va_up V 41 (V x)) 43 (V 34))))) := by
  refine fn_of rfl (Nat.le_of_ble_eq_true rfl) rfl ?_
  refine sk_settleAt hV hb hx (ro_w (by omega)).1 (fun c => ?_) (fun c1 c2 c3 h1 hV1 hf1 => ?_) (fun c1 c2 c3 c4 h1 hV1 hf1 => ?_) (fun c1 c2 c3 c4 h1 hV1 hf1 => ?_) (fun c1 c2 => ?_)
  · exact go_iret d_ca_settleAt_18 rfl go_le0 ⟨rfl, fr_.rf, Or.inl ⟨fun z => c z.1, rfl, hV⟩⟩
  · refine go_iret d_ca_settleAt_59 rfl go_le0 ⟨rfl, hf1, Or.inr ⟨⟨c1, c2⟩, rfl, ?_⟩⟩
    have : (if V x = 0 then (0 : Int) else b) = 0 := by split <;> omega
    rw [this]
    exact hV1
  · refine go_iret d_ca_settleAt_59 rfl go_le0 ⟨rfl, hf1, Or.inr ⟨⟨c1, c2⟩, rfl, ?_⟩⟩
    rw [if_pos c4]
    exact hV1
  · refine go_iret d_ca_settleAt_59 rfl go_le0 ⟨rfl, hf1, Or.inr ⟨⟨c1, c2⟩, rfl, ?_⟩⟩
    rw [if_neg c4, show b = 1 by omega]
    exact hV1
  · exact go_iret d_ca_settleAt_18 rfl go_le0 ⟨rfl, fr_.rf, Or.inl ⟨fun z => c2 z.2, rfl, hV⟩⟩
/-- the end of every operation: n / bottom is settled -/
theorem ck_end {x : Nat} {b : Int} {r : Int × Nat × Nat} {V0 : Nat → Nat} (hlk : go_lnk M.1.cls 69 m_ca_settleAt) (hd : decode M.2.1 pc = .ok (.invokevirtual 69, 3)) (hp : pc + 3 = q) (hV : pn_V h (I, tx, wr, ga, gb, mo, mf, mg) B V) (hb : 0 ≤ b ∧ b ≤ 1) (hx : 18 ≤ x ∧ x ≤ 32 ∧ x % 2 = 0) (hr : r = (if V x = 0 then 0 else if b = 0 then 1 else -1, V x, V 34)) (hV0 : ∀ i, (i < 16 ∨ 38 ≤ i) → i ≠ 41 → i ≠ 43 → V i = V0 i) (hw : (rest.map mv_k).sum ≤ 8) (hR : go_fit R u 4 rd_ca_settleAt rw_ca_settleAt 0 0)
    (k : ∀ h' B' V', pn_V h' (I, tx, wr, ga, gb, mo, mf, mg) B' V' → fr_ 1 389 h h' → cs_ B B' V0 V' → (q_bg r = 0 → kq_ B' V' 40 = r ∧ (V' 41 = 0 → B' 40 = 0)) → Go φ l M R u q L (mv_I (q_bg r) :: rest) h' n) : Go φ l M R u pc L (mv_R x :: mv_I b :: mv_R 40 :: mv_R 16 :: rest) h n := by
  subst hr
  refine go_callV (M' := m_ca_settleAt) (d := rd_ca_settleAt) (w := rw_ca_settleAt) (mc := 0) (ms := 0) (as := [mv_R 40, mv_I b, mv_R x]) (b := 16) (rest := rest) (q := q) g_ca_settleAt i_ca_settleAt v_ca_settleAt hlk hd hp rfl rfl (pn_c16 hV) rfl hw hR (tk_settleAt hV hb hx) ?_
  rintro w h1 n1 ⟨rfl, hf, ⟨c, rfl, hV1⟩ | ⟨c, rfl, hV1⟩⟩ -
  · have e : q_bg (if V x = 0 then 0 else if b = 0 then 1 else -1, V x, V 34) = 1 := if_neg c
    refine go_u0 ?_
    have := k h1 B V hV1 hf ⟨hV0, fun _ _ => rfl⟩ (fun z => absurd (e.symm.trans z) (by decide))
    rw [e] at this
    exact this
  · have e : q_bg (if V x = 0 then 0 else if b = 0 then 1 else -1, V x, V 34) = 0 := if_pos c
    refine go_u0 ?_
    have := k h1 _ _ hV1 hf ⟨fun i i1 i2 i3 => by rw [va_up_ne _ _ i3, va_up_ne _ _ i2]; exact hV0 i i1 i2 i3, fun i i1 => va_up_ne _ _ i1⟩ (fun _ => ?_)
    · rw [e] at this
      exact this
    · have e1 : va_up (va_up V 41 (V x)) 43 (V 34) 41 = V x := by rw [va_up_ne _ _ (by decide), va_up_self]
      have e3 : va_up (va_up V 41 (V x)) 43 (V 34) 43 = V 34 := va_up_self _ _ _
      constructor
      · unfold kq_
        rw [show 40 + 1 = 41 from rfl, show 40 + 3 = 43 from rfl, e1, e3, va_up_self]
        by_cases z : V x = 0
        · rw [if_pos z, if_pos z]
        · rw [if_neg z, if_neg z, if_neg z]
      · rw [e1, va_up_self]
        intro z
        rw [if_pos z]
theorem tk_addSpare {b c : Int} (hV : pn_V h (I, tx, wr, ga, gb, mo, mf, mg) B V) (hb : 0 ≤ b ∧ b ≤ 1) (hc : 0 ≤ c ∧ c ≤ 1) (hs : V 32 + V 36 < 1073741824 ^ 18) : Fn l m_ca_addSpare rd_ca_addSpare rw_ca_addSpare 0 0 [mv_R 16, mv_I b, mv_I c] h n
    (fun w h' n' => w = some (mv_I (ka_ b c (V 32) (V 36)).2) ∧ n' = n ∧ fr_ 1 389 h h' ∧ ∃ s, pn_V h' (I, tx, wr, ga, gb, mo, mf, mg) B (va_up (va_up V 36 s) 32 (ka_ b c (V 32) (V 36)).1)) := by
  refine fn_of rfl (Nat.le_of_ble_eq_true rfl) rfl ?_
  have e36 : va_up V 36 (V 36) = V := by
    funext i
    unfold va_up
    split
    · next e => rw [e]
    · rfl
  refine sk_addSpare hV hb hc hs (by omega) (fun c1 c2 h1 hV1 hf1 => ?_) (fun c1 c2 h1 hV1 hf1 => ?_) (fun c1 h1 hV1 hf1 => ?_)
  · rw [ka_gt c1 (by omega)]
    refine go_zret d_ca_addSpare_68 rfl ?_ go_le0 ⟨rfl, rfl, hf1, _, hV1⟩
    rcases (show c = 0 ∨ c = 1 by omega) with e | e <;> subst e <;> decide
  · rw [ka_le c1 c2]
    refine go_zret d_ca_addSpare_44 rfl ?_ go_le0 ⟨rfl, rfl, hf1, V 36, by rw [e36]; exact hV1⟩
    rcases (show b = 0 ∨ b = 1 by omega) with e | e <;> subst e <;> decide
  · have e : ka_ b c (V 32) (V 36) = (V 32 + V 36, b) := if_pos c1
    rw [e]
    refine go_zret d_ca_addSpare_17 rfl ?_ go_le0 ⟨rfl, rfl, hf1, V 36, by rw [e36]; exact hV1⟩
    rcases (show b = 0 ∨ b = 1 by omega) with e | e <;> subst e <;> decide
theorem ca_b8 {a : Nat} (hV : pn_V h (I, tx, wr, ga, gb, mo, mf, mg) B V) (ha : fa_ a) : V (a + 1) < 2 ^ 240 ∧ V (a + 3) < 2 ^ 240 := by
  have := fr_b hV ha
  rw [w_240] at this
  exact this
theorem tk_compare {o a : Nat} (hV : pn_V h (I, tx, wr, ga, gb, mo, mf, mg) B V) (ho : fa_ o) (ha : fa_ a) (w1 : wf_ B V o) (w2 : wf_ B V a) : Fn l m_ca_compare rd_ca_compare rw_ca_compare 0 0 [mv_R 16, mv_R o, mv_R a] h n
    (fun w h' n' => w = some (mv_I (q_ord (kq_ B V o) (kq_ B V a))) ∧ n' = n ∧ fr_ 1 389 h h' ∧ ∃ V', pn_V h' (I, tx, wr, ga, gb, mo, mf, mg) B V' ∧ ∀ i, (i < 16 ∨ 38 ≤ i) → V' i = V i) := by
  have b1 := fr_b hV ho
  have b2 := fr_b hV ha
  obtain ⟨g1, p1⟩ := wf_gcd w1
  obtain ⟨g2, p2⟩ := wf_gcd w2
  have z1 := w1.2
  have z2 := w2.2
  have B1 := hV.2.1 o
  have B2 := hV.2.1 a
  refine fn_of rfl (Nat.le_of_ble_eq_true rfl) rfl ?_
  have hcm : ∀ x y : Nat, cm_ x y = -cm_ y x := by
    intro x y
    unfold cm_
    rcases Nat.lt_trichotomy x y with c | c | c
    · rw [if_pos c, if_neg (by omega), if_neg (by omega)]
    · subst c; rw [if_neg (by omega), if_pos rfl]; rfl
    · rw [if_neg (by omega), if_neg (by omega), if_pos c]; rfl
  have ord : q_ord (kq_ B V o) (kq_ B V a) = if (if V (o + 1) = 0 then (0 : Int) else if B o = 0 then 1 else -1) = (if V (a + 1) = 0 then (0 : Int) else if B a = 0 then 1 else -1) then (if V (o + 1) = 0 then (0 : Int) else if B o = 0 then 1 else -1) * cm_ (V (o + 1) * V (a + 3)) (V (a + 1) * V (o + 3)) else if (if V (a + 1) = 0 then (0 : Int) else if B a = 0 then 1 else -1) ≤ (if V (o + 1) = 0 then (0 : Int) else if B o = 0 then 1 else -1) then 1 else -1 := rfl
  refine sk_compare hV ho ha ⟨8, 8, b1.1, b2.2, by omega⟩ ⟨8, 8, b2.1, b1.2, by omega⟩ (fun c1 c2 h1 hV1 hf1 => ?_) (fun c1 c2 h1 hV1 hf1 => ?_) (fun c1 c2 => ?_) (fun c1 c2 => ?_)
  · refine go_iret d_ca_compare_86 rfl go_le0 ⟨?_, rfl, hf1, _, hV1, fun i hi => by rw [va_up_ne _ _ (by omega), va_up_ne _ _ (by omega)]⟩
    have c3 : B a = 0 := by omega
    rw [ord, c2, c3]
    congr 2
    by_cases n1 : V (o + 1) = 0
    · rw [if_pos n1]
      by_cases n2 : V (a + 1) = 0
      · rw [if_pos n2, if_pos rfl, n1, n2, Nat.zero_mul, Nat.zero_mul]; rfl
      · have : 0 < V (a + 1) * V (o + 3) := Nat.mul_pos (by omega) p1
        rw [if_neg n2, if_pos rfl, if_neg (by decide), if_neg (by decide), n1, Nat.zero_mul]
        exact if_pos this
    · rw [if_neg n1, if_pos rfl]
      by_cases n2 : V (a + 1) = 0
      · have : 0 < V (o + 1) * V (a + 3) := Nat.mul_pos (by omega) p2
        rw [if_pos n2, if_neg (by decide), if_pos (by decide), n2, Nat.zero_mul]
        unfold cm_
        rw [if_neg (by omega), if_neg (by omega)]
      · rw [if_neg n2, if_pos rfl, Int.one_mul]
  · refine go_iret d_ca_compare_86 rfl go_le0 ⟨?_, rfl, hf1, _, hV1, fun i hi => by rw [va_up_ne _ _ (by omega), va_up_ne _ _ (by omega)]⟩
    have c3 : ¬ B a = 0 := by omega
    have n1 : ¬ V (o + 1) = 0 := fun z => c2 (z1 z)
    have n2 : ¬ V (a + 1) = 0 := fun z => c3 (z2 z)
    rw [ord, if_neg n1, if_neg n2, if_neg c2, if_neg c3, if_pos rfl]
    congr 2
    rw [hcm]
    omega
  · refine go_iret d_ca_compare_23 rfl go_le0 ⟨?_, rfl, fr_.rf, V, hV, fun _ _ => rfl⟩
    have c3 : ¬ B a = 0 := by omega
    have n2 : ¬ V (a + 1) = 0 := fun z => c3 (z2 z)
    rw [ord, if_neg n2, if_neg c3, c2]
    congr 2
    by_cases n1 : V (o + 1) = 0
    · rw [if_pos n1, if_neg (by decide), if_pos (by decide)]
    · rw [if_neg n1, if_pos rfl, if_neg (by decide), if_pos (by decide)]
  · refine go_iret d_ca_compare_23 rfl go_le0 ⟨?_, rfl, fr_.rf, V, hV, fun _ _ => rfl⟩
    have c3 : B a = 0 := by omega
    have n1 : ¬ V (o + 1) = 0 := fun z => c2 (z1 z)
    rw [ord, if_neg n1, if_neg c2, c3]
    congr 2
    by_cases n2 : V (a + 1) = 0
    · rw [if_pos n2, if_neg (by decide), if_neg (by decide)]
    · rw [if_neg n2, if_pos rfl, if_neg (by decide), if_neg (by decide)]
/-- what an operation with the total answers -/
def ko_ (h : mv_H) (n : Nat) (X : pn_X) (B : Nat → Int) (V : Nat → Nat) (r : Int × Nat × Nat) (w : Option mv_V) (h' : mv_H) (n' : Nat) : Prop :=
  w = some (mv_I (q_bg r)) ∧ n' = n ∧ fr_ 1 389 h h' ∧ ∃ B' V', pn_V h' X B' V' ∧ cs_ B B' V V' ∧ (q_bg r = 0 → kq_ B' V' 40 = r ∧ (V' 41 = 0 → B' 40 = 0))
theorem ca_lim : (2 : Nat) ^ 240 * 2 ^ 240 < 2 ^ 1000 ∧ (2 : Nat) ^ 240 < 1073741824 ^ 17 ∧ (2 : Nat) ^ 240 * 2 ^ 240 + 2 ^ 240 * 2 ^ 240 < 1073741824 ^ 17 ∧ (2 : Nat) ^ 240 * 2 ^ 240 + 2 ^ 240 * 2 ^ 240 < 1073741824 ^ 18 ∧ ((2 : Nat) ^ 240 * 2 ^ 240 + 2 ^ 240 * 2 ^ 240) * 2 ^ 240 < 2 ^ 1000 := by decide +kernel
theorem tk_multiply {x y : Nat} {b : Int} {w2 : Int × Nat × Nat} (hV : pn_V h (I, tx, wr, ga, gb, mo, mf, mg) B V) (hx : 50 ≤ x ∧ x < 390 ∧ (x % 5 = 1 ∨ x % 5 = 3)) (hy : 50 ≤ y ∧ y < 390 ∧ (y % 5 = 1 ∨ y % 5 = 3)) (hb : 0 ≤ b ∧ b ≤ 1) (w1 : wf_ B V 40) (hg : Nat.gcd (V x) (V y) = 1) (hy0 : 0 < V y) (hx2 : V x < 2 ^ 240) (hy2 : V y < 2 ^ 240) {s : Int} (hs : s = if V x = 0 then 0 else if b = 0 then 1 else -1) : Fn l m_ca_multiply rd_ca_multiply rw_ca_multiply 0 0 [mv_R 16, mv_R 40, mv_R x, mv_R y, mv_I b] h n
    (ko_ h n (I, tx, wr, ga, gb, mo, mf, mg) B V (q_lw ((kq_ B V 40).1 * s) (V 41 * V x) (V 43 * V y))) := by
  obtain ⟨l1, l2, l3, l4, l5⟩ := ca_lim
  have b1 := ca_b8 hV fa_t
  obtain ⟨g1, p1⟩ := wf_gcd w1
  have B1 := hV.2.1 40
  have rx : ro_ x := by unfold ro_; omega
  have ry : ro_ y := by unfold ro_; omega
  have mb : ∀ {a c : Nat}, a < 2 ^ 240 → c < 2 ^ 240 → a * c < 2 ^ 1000 := fun u v => Nat.lt_trans (q_mulb u v) l1
  have dv : ∀ {a c : Nat}, a < 2 ^ 240 → a / c < 1073741824 ^ 8 := fun {a c} u => by rw [w_240]; exact Nat.lt_of_le_of_lt (Nat.div_le_self a c) u
  refine fn_of rfl (Nat.le_of_ble_eq_true rfl) rfl ?_
  obtain ⟨m1, m2⟩ := nt_mul g1 hg p1 hy0
  have key : ∀ (e : Int), (0 ≤ e ∧ e ≤ 1) → (e = if B 40 = b then 0 else 1) → q_lw ((kq_ B V 40).1 * s) (V 41 * V x) (V 43 * V y) = (if V 41 / Nat.gcd (V 41) (V y) * (V x / Nat.gcd (V x) (V 43)) = 0 then 0 else if e = 0 then 1 else -1, V 41 / Nat.gcd (V 41) (V y) * (V x / Nat.gcd (V x) (V 43)), V y / Nat.gcd (V 41) (V y) * (V 43 / Nat.gcd (V x) (V 43))) := by
    intro e he ee
    unfold q_lw
    rw [m1, m2]
    congr 1
    by_cases z : V 41 / Nat.gcd (V 41) (V y) * (V x / Nat.gcd (V x) (V 43)) = 0
    · rw [if_pos z, if_pos z]
    · rw [if_neg z, if_neg z, hs]
      have n1 : ¬ V 41 = 0 := fun k => z (by rw [k, Nat.zero_div, Nat.zero_mul])
      have n2 : ¬ V x = 0 := fun k => z (by rw [k, Nat.zero_div, Nat.mul_zero])
      show (if V 41 = 0 then (0 : Int) else if B 40 = 0 then 1 else -1) * (if V x = 0 then 0 else if b = 0 then 1 else -1) = _
      rw [if_neg n1, if_neg n2]
      rcases (show B 40 = 0 ∨ B 40 = 1 by omega) with k1 | k1 <;> rcases (show b = 0 ∨ b = 1 by omega) with k2 | k2 <;> rw [k1, k2] at ee <;> rw [k1, k2, ee] <;> decide
  refine sk_mul hV rx ry hx hy hb (mb b1.1 hy2) (Nat.lt_trans b1.1 l2) (Nat.lt_trans hy2 l2) (mb hx2 b1.2) (Nat.lt_trans hx2 l2) (Nat.lt_trans b1.2 l2) ⟨8, 8, dv b1.1, dv hx2, by omega⟩ ⟨8, 8, dv hy2, dv b1.2, by omega⟩ (fun s1 s2 s3 s4 s5 s6 s7 s8 c h1 hV1 hf1 => ?_) (fun s1 s2 s3 s4 s5 s6 s7 s8 c h1 hV1 hf1 => ?_)
  · refine ck_end (V0 := V) (q := 155) l_ca_69 d_ca_multiply_152 rfl hV1 (by omega) (by omega) (key 0 (by omega) (by rw [if_pos c])) (fun i i1 i2 i3 => ?_) (Nat.le_of_ble_eq_true rfl) ⟨by decide, by decide, by decide, by decide⟩ (fun h2 B2 V2 hV2 hf2 c2 r2 => ?_)
    · simp only [va_up_ne _ _ (show i ≠ 22 by omega), va_up_ne _ _ (show i ≠ 24 by omega), va_up_ne _ _ (show i ≠ 26 by omega), va_up_ne _ _ (show i ≠ 20 by omega), va_up_ne _ _ (show i ≠ 18 by omega), va_up_ne _ _ (show i ≠ 28 by omega), va_up_ne _ _ (show i ≠ 30 by omega), va_up_ne _ _ (show i ≠ 36 by omega), va_up_ne _ _ (show i ≠ 32 by omega), va_up_ne _ _ (show i ≠ 34 by omega)]
    · exact go_iret d_ca_multiply_155 rfl go_le0 ⟨rfl, rfl, fr_.tr hf1 hf2, B2, V2, hV2, c2, r2⟩
  · refine ck_end (V0 := V) (q := 155) l_ca_69 d_ca_multiply_152 rfl hV1 (by omega) (by omega) (key 1 (by omega) (by rw [if_neg c])) (fun i i1 i2 i3 => ?_) (Nat.le_of_ble_eq_true rfl) ⟨by decide, by decide, by decide, by decide⟩ (fun h2 B2 V2 hV2 hf2 c2 r2 => ?_)
    · simp only [va_up_ne _ _ (show i ≠ 22 by omega), va_up_ne _ _ (show i ≠ 24 by omega), va_up_ne _ _ (show i ≠ 26 by omega), va_up_ne _ _ (show i ≠ 20 by omega), va_up_ne _ _ (show i ≠ 18 by omega), va_up_ne _ _ (show i ≠ 28 by omega), va_up_ne _ _ (show i ≠ 30 by omega), va_up_ne _ _ (show i ≠ 36 by omega), va_up_ne _ _ (show i ≠ 32 by omega), va_up_ne _ _ (show i ≠ 34 by omega)]
    · exact go_iret d_ca_multiply_155 rfl go_le0 ⟨rfl, rfl, fr_.tr hf1 hf2, B2, V2, hV2, c2, r2⟩
theorem tk_add {a : Nat} {b : Int} (hV : pn_V h (I, tx, wr, ga, gb, mo, mf, mg) B V) (ha : 50 ≤ a ∧ a < 390 ∧ a % 5 = 0) (hb : b = 0 ∨ b = 1) (w1 : wf_ B V 40) (w2 : wf_ B V a) : Fn l m_ca_add rd_ca_add rw_ca_add 0 0 [mv_R 16, mv_R 40, mv_R a, mv_I b] h n
    (ko_ h n (I, tx, wr, ga, gb, mo, mf, mg) B V (q_add (kq_ B V 40) (kq_ B V a) (if b = 0 then 1 else -1))) := by
  obtain ⟨l1, l2, l3, l4, l5⟩ := ca_lim
  have b1 := ca_b8 hV fa_t
  have b2 := ca_b8 hV (a := a) (Or.inr (Or.inr ha))
  obtain ⟨g1, p1⟩ := wf_gcd w1
  obtain ⟨g2, p2⟩ := wf_gcd w2
  have B1 := hV.2.1 40
  have B2 := hV.2.1 a
  have mb : ∀ {a c : Nat}, a < 2 ^ 240 → c < 2 ^ 240 → a * c < 2 ^ 1000 := fun u v => Nat.lt_trans (q_mulb u v) l1
  have dv : ∀ {a c : Nat}, a < 2 ^ 240 → a / c < 1073741824 ^ 8 := fun {a c} u => by rw [w_240]; exact Nat.lt_of_le_of_lt (Nat.div_le_self a c) u
  have dv2 : ∀ {a c : Nat}, a < 2 ^ 240 → a / c < 2 ^ 240 := fun {a c} u => Nat.lt_of_le_of_lt (Nat.div_le_self a c) u
  obtain ⟨g, hg⟩ : ∃ g, g = Nat.gcd (V 43) (V (a + 3)) := ⟨_, rfl⟩
  have hg0 : 0 < g := by rw [hg]; exact Nat.gcd_pos_of_pos_left _ p1
  have hgl : g < 2 ^ 240 := by rw [hg]; exact Nat.lt_of_le_of_lt (Nat.gcd_le_left _ p1) b1.2
  obtain ⟨T, hT⟩ : ∃ T, T = V 41 * (V (a + 3) / g) := ⟨_, rfl⟩
  obtain ⟨U, hU⟩ : ∃ U, U = V (a + 1) * (V 43 / g) := ⟨_, rfl⟩
  have hTl : T < 2 ^ 240 * 2 ^ 240 := by rw [hT]; exact q_mulb b1.1 (dv2 b2.2)
  have hUl : U < 2 ^ 240 * 2 ^ 240 := by rw [hU]; exact q_mulb b2.1 (dv2 b1.2)
  refine fn_of rfl (Nat.le_of_ble_eq_true rfl) rfl ?_
  have main : ∀ (e : Int) (s1 s2 s3 s4 : Nat) (h1 : mv_H), (e = 0 ∨ e = 1) → ((b = 0 ∧ e = B a) ∨ (b = 1 ∧ e = 1 - B a)) → pn_V h1 (I, tx, wr, ga, gb, mo, mf, mg) B (va_up (va_up (va_up (va_up (va_up (va_up (va_up (va_up (va_up (va_up (va_up V 22 s1) 24 s2) 26 (Nat.gcd (V 43) (V (a + 3)))) 20 s3) 18 ((V 43) % (Nat.gcd (V 43) (V (a + 3))))) 28 ((V 43) / (Nat.gcd (V 43) (V (a + 3))))) 20 s4) 18 ((V (a + 3)) % (Nat.gcd (V 43) (V (a + 3))))) 30 ((V (a + 3)) / (Nat.gcd (V 43) (V (a + 3))))) 32 ((V 41) * ((V (a + 3)) / (Nat.gcd (V 43) (V (a + 3)))))) 36 ((V (a + 1)) * ((V 43) / (Nat.gcd (V 43) (V (a + 3)))))) → fr_ 1 389 h h1 →
      Go (go_f 0 0 (ko_ h n (I, tx, wr, ga, gb, mo, mf, mg) B V (q_add (kq_ B V 40) (kq_ B V a) (if b = 0 then 1 else -1)))) l m_ca_add (go_rm rd_ca_add rw_ca_add 0 0) (0, 0) 105 [some (mv_R 16), some (mv_R 40), some (mv_R a), some (mv_I b), none] [mv_I e, mv_I (B 40), mv_R 16] h1 n := by
    intro e s1 s2 s3 s4 h1 he hbe hV1 hf1
    rw [← hg, ← hT, ← hU] at hV1
    obtain ⟨W, hW⟩ : ∃ W : Nat → Nat, W = va_up (va_up (va_up (va_up (va_up (va_up (va_up (va_up (va_up (va_up (va_up V 22 s1) 24 s2) 26 g) 20 s3) 18 (V 43 % g)) 28 (V 43 / g)) 20 s4) 18 (V (a + 3) % g)) 30 (V (a + 3) / g)) 32 T) 36 U := ⟨_, rfl⟩
    rw [← hW] at hV1
    have W36 : W 36 = U := by rw [hW]; exact va_up_self _ _ _
    have W32 : W 32 = T := by rw [hW, va_up_ne _ _ (by decide)]; exact va_up_self _ _ _
    have W28 : W 28 = V 43 / g := by rw [hW, va_up_ne _ _ (by decide), va_up_ne _ _ (by decide), va_up_ne _ _ (by decide), va_up_ne _ _ (by decide), va_up_ne _ _ (by decide)]; exact va_up_self _ _ _
    have W26 : W 26 = g := by rw [hW, va_up_ne _ _ (by decide), va_up_ne _ _ (by decide), va_up_ne _ _ (by decide), va_up_ne _ _ (by decide), va_up_ne _ _ (by decide), va_up_ne _ _ (by decide), va_up_ne _ _ (by decide), va_up_ne _ _ (by decide)]; exact va_up_self _ _ _
    have Wo : ∀ i, (i < 16 ∨ 38 ≤ i) → W i = V i := fun i hi => by
      rw [hW]
      simp only [va_up_ne _ _ (show i ≠ 22 by omega), va_up_ne _ _ (show i ≠ 24 by omega), va_up_ne _ _ (show i ≠ 26 by omega), va_up_ne _ _ (show i ≠ 20 by omega), va_up_ne _ _ (show i ≠ 18 by omega), va_up_ne _ _ (show i ≠ 28 by omega), va_up_ne _ _ (show i ≠ 30 by omega), va_up_ne _ _ (show i ≠ 36 by omega), va_up_ne _ _ (show i ≠ 32 by omega)]
    refine go_callV (M' := m_ca_addSpare) (d := rd_ca_addSpare) (w := rw_ca_addSpare) (mc := 0) (ms := 0) (as := [mv_I (B 40), mv_I e]) (b := 16) (rest := []) (q := 108) g_ca_addSpare i_ca_addSpare v_ca_addSpare l_ca_65 d_ca_add_105 rfl rfl rfl (pn_c16 hV1) rfl (Nat.le_of_ble_eq_true rfl) ⟨by decide, by decide, by decide, by decide⟩ (tk_addSpare hV1 B1 (by omega) (by rw [W32, W36]; exact Nat.lt_trans (Nat.add_lt_add hTl hUl) l4)) ?_
    rintro w2' h2 n2 ⟨rfl, rfl, hf2, s5, hV2⟩ -
    rw [W32, W36] at hV2 ⊢
    obtain ⟨tp, htp⟩ : ∃ tp, tp = (ka_ (B 40) e T U).1 := ⟨_, rfl⟩
    obtain ⟨bl, hbl⟩ : ∃ bl, bl = (ka_ (B 40) e T U).2 := ⟨_, rfl⟩
    have hblr : 0 ≤ bl ∧ bl ≤ 1 := by
      rw [hbl]
      unfold ka_
      split
      · exact B1
      · split
        · exact B1
        · show 0 ≤ e ∧ e ≤ 1
          omega
    have htpl : tp ≤ T + U ∧ (tp + U = T ∨ tp = T + U ∨ tp + T = U) := by
      rw [htp]
      unfold ka_
      split
      · exact ⟨Nat.le_refl _, Or.inr (Or.inl rfl)⟩
      · split
        · next k => exact ⟨by show T - U ≤ T + U; omega, Or.inl (by show T - U + U = T; omega)⟩
        · next k => exact ⟨by show U - T ≤ T + U; omega, Or.inr (Or.inr (by show U - T + T = U; omega))⟩
    rw [← htp] at hV2
    show Go _ _ m_ca_add _ _ 108 _ [mv_I (ka_ (B 40) e T U).2] _ _
    rw [← hbl]
    have X32 : va_up (va_up W 36 s5) 32 tp 32 = tp := va_up_self _ _ _
    have X26 : va_up (va_up W 36 s5) 32 tp 26 = g := by rw [va_up_ne _ _ (by decide), va_up_ne _ _ (by decide)]; exact W26
    have X28 : va_up (va_up W 36 s5) 32 tp 28 = V 43 / g := by rw [va_up_ne _ _ (by decide), va_up_ne _ _ (by decide)]; exact W28
    have Xo : ∀ i, (i < 16 ∨ 38 ≤ i) → va_up (va_up W 36 s5) 32 tp i = V i := fun i hi => by rw [va_up_ne _ _ (by omega), va_up_ne _ _ (by omega)]; exact Wo i hi
    have Xa : va_up (va_up W 36 s5) 32 tp (a + 3) = V (a + 3) := Xo _ (by omega)
    have htl : tp < 2 ^ 240 * 2 ^ 240 + 2 ^ 240 * 2 ^ 240 := Nat.lt_of_le_of_lt htpl.1 (Nat.add_lt_add hTl hUl)
    refine sk_add_108 hV2 ha ?_ ?_ ?_ ?_ (fun t1 t2 t3 t4 h3 hV3 hf3 => ?_)
    · rw [X32, X26]
      exact Nat.lt_trans (Nat.mul_lt_mul'' htl hgl) l5
    · rw [Xa]
      exact Nat.lt_trans b2.2 l2
    · rw [X28, Xa]
      exact ⟨8, 8, dv b1.2, dv b2.2, by omega⟩
    · rw [X32]
      exact Nat.lt_trans htl l3
    · rw [X32, X26, X28, Xa] at hV3
      obtain ⟨m1, m2⟩ := nt_add (n1 := V 41) (d1 := V 43) (n2 := V (a + 1)) (d2 := V (a + 3)) (top := tp) (g := g) g1 g2 p1 p2 hg (by rw [← hT, ← hU]; exact htpl.2)
      have hq : q_add (kq_ B V 40) (kq_ B V a) (if b = 0 then 1 else -1) = q_lw (if bl = 0 then 1 else -1) (g * tp) (V 43 * V (a + 3)) := by
        rw [hbl, htp]
        have gd1 : g ∣ V 43 := by rw [hg]; exact Nat.gcd_dvd_left _ _
        have gd2 : g ∣ V (a + 3) := by rw [hg]; exact Nat.gcd_dvd_right _ _
        refine ka_add (x := kq_ B V 40) (y := kq_ B V a) (b := B 40) (c := B a) (by omega) (by omega) rfl rfl w1.2 ?_ hg0 ?_ ?_ p1 p2
        · rcases hbe with ⟨z1, z2⟩ | ⟨z1, z2⟩
          · exact Or.inl ⟨if_pos z1, z2⟩
          · exact Or.inr ⟨if_neg (by omega), z2⟩
        · show V 41 * V (a + 3) = g * T
          rw [hT]
          have := Nat.mul_div_cancel' gd2
          generalize V (a + 3) / g = r at *
          rw [← this]
          grind
        · show V (a + 1) * V 43 = g * U
          rw [hU]
          have := Nat.mul_div_cancel' gd1
          generalize V 43 / g = r at *
          rw [← this]
          grind
      refine ck_end (V0 := V) (r := q_add (kq_ B V 40) (kq_ B V a) (if b = 0 then 1 else -1)) (q := 193) l_ca_69 d_ca_add_190 rfl hV3 hblr (by omega) ?_ (fun i i1 i2 i3 => ?_) (Nat.le_of_ble_eq_true rfl) ⟨by decide, by decide, by decide, by decide⟩ (fun h4 B4 V4 hV4 hf4 c4 r4 => ?_)
      · rw [hq]
        unfold q_lw
        rw [m1, m2, va_up_self, va_up_ne _ _ (show (34 : Nat) ≠ 26 by decide), va_up_ne _ _ (show (34 : Nat) ≠ 18 by decide), va_up_ne _ _ (show (34 : Nat) ≠ 20 by decide), va_up_self]
      · simp only [va_up_ne _ _ (show i ≠ 22 by omega), va_up_ne _ _ (show i ≠ 24 by omega), va_up_ne _ _ (show i ≠ 26 by omega), va_up_ne _ _ (show i ≠ 20 by omega), va_up_ne _ _ (show i ≠ 18 by omega), va_up_ne _ _ (show i ≠ 30 by omega), va_up_ne _ _ (show i ≠ 36 by omega), va_up_ne _ _ (show i ≠ 32 by omega), va_up_ne _ _ (show i ≠ 34 by omega)]
        exact Wo i i1
      · exact go_iret d_ca_add_193 rfl go_le0 ⟨rfl, rfl, fr_.tr hf1 (fr_.tr hf2 (fr_.tr hf3 hf4)), B4, V4, hV4, c4, r4⟩
  refine sk_add_0 hV ha (by omega) (mb b1.2 b2.2) (Nat.lt_trans b1.2 l2) (Nat.lt_trans b2.2 l2) ⟨8, 8, by rw [w_240]; exact b1.1, dv b2.2, by omega⟩ ⟨8, 8, by rw [w_240]; exact b2.1, dv b1.2, by omega⟩ (fun s1 s2 s3 s4 c h1 hV1 hf1 => main 0 s1 s2 s3 s4 h1 (by omega) (by omega) hV1 hf1) (fun s1 s2 s3 s4 c h1 hV1 hf1 => main 1 s1 s2 s3 s4 h1 (by omega) (by omega) hV1 hf1)
/-- the whole part of x / y, and what is left -/
def q_quo (x y : Int × Nat × Nat) : Int × Nat × Nat := (if x.2.1 / y.2.1 = 0 then 0 else x.1 * y.1, x.2.1 / y.2.1, 1)
def q_rem (x y : Int × Nat × Nat) : Int × Nat × Nat := (if x.2.1 % y.2.1 = 0 then 0 else x.1, x.2.1 % y.2.1, 1)
def q_gcd (x y : Int × Nat × Nat) : Int × Nat × Nat := (if Nat.gcd x.2.1 y.2.1 = 0 then 0 else 1, Nat.gcd x.2.1 y.2.1, 1)
theorem tk_divideWhole {a : Nat} {b : Int} (hV : pn_V h (I, tx, wr, ga, gb, mo, mf, mg) B V) (ha : 50 ≤ a ∧ a < 390 ∧ a % 5 = 0) (hb : b = 0 ∨ b = 1) : Fn l m_ca_divideWhole rd_ca_divideWhole rw_ca_divideWhole 0 0 [mv_R 16, mv_R 40, mv_R a, mv_I b] h n
    (fun w h' n' => (¬ (V 43 = 1 ∧ V (a + 3) = 1) ∧ w = some (mv_I 3) ∧ n' = n ∧ h' = h) ∨ ((V 43 = 1 ∧ V (a + 3) = 1) ∧ V (a + 1) = 0 ∧ w = some (mv_I 2) ∧ n' = n ∧ h' = h) ∨ ((V 43 = 1 ∧ V (a + 3) = 1) ∧ V (a + 1) ≠ 0 ∧ q_bg (if b = 0 then q_quo (kq_ B V 40) (kq_ B V a) else q_rem (kq_ B V 40) (kq_ B V a)) = 0 ∧ ko_ h n (I, tx, wr, ga, gb, mo, mf, mg) B V (if b = 0 then q_quo (kq_ B V 40) (kq_ B V a) else q_rem (kq_ B V 40) (kq_ B V a)) w h' n')) := by
  obtain ⟨l1, l2, l3, l4, l5⟩ := ca_lim
  have b1 := ca_b8 hV fa_t
  have b2 := ca_b8 hV (a := a) (Or.inr (Or.inr ha))
  have B1 := hV.2.1 40
  have B2 := hV.2.1 a
  refine fn_of rfl (Nat.le_of_ble_eq_true rfl) rfl ?_
  have one : (1 : Nat) < 2 ^ 240 := by decide +kernel
  have frame : ∀ (s : Nat) (i : Nat), (i < 16 ∨ 38 ≤ i) → va_up (va_up (va_up (va_up V 20 s) 18 (V 41 % V (a + 1))) 32 (V 41 / V (a + 1))) 34 1 i = V i := fun s i hi => by
    rw [va_up_ne _ _ (by omega), va_up_ne _ _ (by omega), va_up_ne _ _ (by omega), va_up_ne _ _ (by omega)]
  have bq : q_bg (q_quo (kq_ B V 40) (kq_ B V a)) = 0 := if_pos ⟨Nat.lt_of_le_of_lt (Nat.div_le_self _ _) b1.1, one⟩
  have br : q_bg (q_rem (kq_ B V 40) (kq_ B V a)) = 0 := if_pos ⟨Nat.lt_of_le_of_lt (Nat.mod_le _ _) b1.1, one⟩
  have quo : ∀ (e : Int), (e = if B 40 = B a then 0 else 1) → V (a + 1) ≠ 0 → q_quo (kq_ B V 40) (kq_ B V a) = (if V 41 / V (a + 1) = 0 then 0 else if e = 0 then 1 else -1, V 41 / V (a + 1), 1) := by
    intro e ee n2
    unfold q_quo
    congr 1
    show (if V 41 / V (a + 1) = 0 then (0 : Int) else (if V 41 = 0 then (0 : Int) else if B 40 = 0 then 1 else -1) * (if V (a + 1) = 0 then 0 else if B a = 0 then 1 else -1)) = _
    by_cases z : V 41 / V (a + 1) = 0
    · rw [if_pos z, if_pos z]
    · have n1 : ¬ V 41 = 0 := fun k => z (by rw [k, Nat.zero_div])
      rw [if_neg z, if_neg z, if_neg n1, if_neg n2]
      rcases (show B 40 = 0 ∨ B 40 = 1 by omega) with k1 | k1 <;> rcases (show B a = 0 ∨ B a = 1 by omega) with k2 | k2 <;> rw [k1, k2] at ee <;> rw [k1, k2, ee] <;> decide
  refine sk_dw hV ha (by omega) (Nat.lt_trans b1.1 l2) (fun c => ?_) (fun c1 c2 c3 s1 c4 c5 h1 hV1 hf1 => ?_) (fun c1 c2 c3 s1 c4 c5 h1 hV1 hf1 => ?_) (fun c1 c2 c3 s1 c4 h1 hV1 hf1 => ?_) (fun c1 c2 c3 => ?_) (fun c1 c2 => ?_)
  · exact go_iret d_ca_divideWhole_15 rfl go_le0 (Or.inl ⟨fun z => c z.1, rfl, rfl, rfl⟩)
  · rw [if_pos c4]
    refine ck_end (V0 := V) (r := q_quo (kq_ B V 40) (kq_ B V a)) (q := 98) l_ca_69 d_ca_divideWhole_95 rfl hV1 (by omega) (by omega) ?_ (fun i i1 _ _ => frame s1 i i1) (Nat.le_of_ble_eq_true rfl) ⟨by decide, by decide, by decide, by decide⟩ (fun h4 B4 V4 hV4 hf4 c4 r4 => ?_)
    · rw [va_up_self, va_up_ne _ _ (show (32 : Nat) ≠ 34 by decide), va_up_self]
      exact quo 0 (by rw [if_pos c5]) c3
    · exact go_iret d_ca_divideWhole_98 rfl go_le0 (Or.inr (Or.inr ⟨⟨c1, c2⟩, c3, bq, rfl, rfl, fr_.tr hf1 hf4, B4, V4, hV4, c4, r4⟩))
  · rw [if_pos c4]
    refine ck_end (V0 := V) (r := q_quo (kq_ B V 40) (kq_ B V a)) (q := 98) l_ca_69 d_ca_divideWhole_95 rfl hV1 (by omega) (by omega) ?_ (fun i i1 _ _ => frame s1 i i1) (Nat.le_of_ble_eq_true rfl) ⟨by decide, by decide, by decide, by decide⟩ (fun h4 B4 V4 hV4 hf4 c4 r4 => ?_)
    · rw [va_up_self, va_up_ne _ _ (show (32 : Nat) ≠ 34 by decide), va_up_self]
      exact quo 1 (by rw [if_neg c5]) c3
    · exact go_iret d_ca_divideWhole_98 rfl go_le0 (Or.inr (Or.inr ⟨⟨c1, c2⟩, c3, bq, rfl, rfl, fr_.tr hf1 hf4, B4, V4, hV4, c4, r4⟩))
  · rw [if_neg c4]
    refine ck_end (V0 := V) (r := q_rem (kq_ B V 40) (kq_ B V a)) (q := 72) l_ca_69 d_ca_divideWhole_69 rfl hV1 B1 (by omega) ?_ (fun i i1 _ _ => frame s1 i i1) (Nat.le_of_ble_eq_true rfl) ⟨by decide, by decide, by decide, by decide⟩ (fun h4 B4 V4 hV4 hf4 c4 r4 => ?_)
    · rw [va_up_self, va_up_ne _ _ (show (18 : Nat) ≠ 34 by decide), va_up_ne _ _ (show (18 : Nat) ≠ 32 by decide), va_up_self]
      unfold q_rem
      congr 1
      show (if V 41 % V (a + 1) = 0 then (0 : Int) else (if V 41 = 0 then (0 : Int) else if B 40 = 0 then 1 else -1)) = _
      by_cases z : V 41 % V (a + 1) = 0
      · rw [if_pos z, if_pos z]
      · have n1 : ¬ V 41 = 0 := fun k => z (by rw [k, Nat.zero_mod])
        rw [if_neg z, if_neg z, if_neg n1]
    · exact go_iret d_ca_divideWhole_72 rfl go_le0 (Or.inr (Or.inr ⟨⟨c1, c2⟩, c3, br, rfl, rfl, fr_.tr hf1 hf4, B4, V4, hV4, c4, r4⟩))
  · exact go_iret d_ca_divideWhole_24 rfl go_le0 (Or.inr (Or.inl ⟨⟨c1, c2⟩, c3, rfl, rfl, rfl⟩))
  · exact go_iret d_ca_divideWhole_15 rfl go_le0 (Or.inl ⟨fun z => c2 z.2, rfl, rfl, rfl⟩)
theorem tk_joinGreatest {a : Nat} (hV : pn_V h (I, tx, wr, ga, gb, mo, mf, mg) B V) (ha : 50 ≤ a ∧ a < 390 ∧ a % 5 = 0) : Fn l m_ca_joinGreatest rd_ca_joinGreatest rw_ca_joinGreatest 0 0 [mv_R 16, mv_R 40, mv_R a] h n
    (fun w h' n' => (V (a + 3) ≠ 1 ∧ w = some (mv_I 3) ∧ n' = n ∧ h' = h) ∨ (V (a + 3) = 1 ∧ q_bg (q_gcd (kq_ B V 40) (kq_ B V a)) = 0 ∧ ko_ h n (I, tx, wr, ga, gb, mo, mf, mg) B V (q_gcd (kq_ B V 40) (kq_ B V a)) w h' n')) := by
  obtain ⟨l1, l2, l3, l4, l5⟩ := ca_lim
  have b1 := ca_b8 hV fa_t
  have b2 := ca_b8 hV (a := a) (Or.inr (Or.inr ha))
  refine fn_of rfl (Nat.le_of_ble_eq_true rfl) rfl ?_
  have one : (1 : Nat) < 2 ^ 240 := by decide +kernel
  have gl : Nat.gcd (V 41) (V (a + 1)) < 2 ^ 240 := by
    rcases Nat.eq_zero_or_pos (V 41) with z | z
    · rw [z, Nat.gcd_zero_left]
      exact b2.1
    · exact Nat.lt_of_le_of_lt (Nat.gcd_le_left _ z) b1.1
  have bq : q_bg (q_gcd (kq_ B V 40) (kq_ B V a)) = 0 := if_pos ⟨gl, one⟩
  refine sk_join hV ha (Nat.lt_trans (q_mulb b1.1 b2.1) l1) (fun c s1 s2 h1 hV1 hf1 => ?_) (fun c => ?_)
  · refine ck_end (V0 := V) (r := q_gcd (kq_ B V 40) (kq_ B V a)) (q := 46) l_ca_69 d_ca_joinGreatest_43 rfl hV1 (by omega) (by omega) ?_ (fun i i1 _ _ => by rw [va_up_ne _ _ (by omega), va_up_ne _ _ (by omega), va_up_ne _ _ (by omega), va_up_ne _ _ (by omega)]) (Nat.le_of_ble_eq_true rfl) ⟨by decide, by decide, by decide, by decide⟩ (fun h4 B4 V4 hV4 hf4 c4 r4 => ?_)
    · rw [va_up_self, va_up_ne _ _ (show (32 : Nat) ≠ 34 by decide), va_up_self]
      rfl
    · exact go_iret d_ca_joinGreatest_46 rfl go_le0 (Or.inr ⟨c, bq, rfl, rfl, fr_.tr hf1 hf4, B4, V4, hV4, c4, r4⟩)
  · exact go_iret d_ca_joinGreatest_8 rfl go_le0 (Or.inl ⟨c, rfl, rfl, rfl⟩)
end CaOp
