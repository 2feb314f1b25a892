/-! the model's values: a sign and two rows; sums, products, ratios in lowest terms -/
def q_lw (s : Int) (n d : Nat) : Int × Nat × Nat := (if n / Nat.gcd n d = 0 then 0 else s, n / Nat.gcd n d, d / Nat.gcd n d)
def q_at (S : Nat → Int) (V : Nat → Nat) (v : Nat) : Int × Nat × Nat := (S v, V (2 * v), V (2 * v + 1))
def q_bg (x : Int × Nat × Nat) : Int := if x.2.1 < 2 ^ 240 ∧ x.2.2 < 2 ^ 240 then 0 else 1
/-- the sum of x and t * y (t 1 or -1) -/
def q_add (x y : Int × Nat × Nat) (t : Int) : Int × Nat × Nat :=
  if x.1 * (y.1 * t) < 0 then (if y.2.1 * x.2.2 ≤ x.2.1 * y.2.2 then q_lw x.1 (x.2.1 * y.2.2 - y.2.1 * x.2.2) (x.2.2 * y.2.2) else q_lw (y.1 * t) (y.2.1 * x.2.2 - x.2.1 * y.2.2) (x.2.2 * y.2.2))
  else q_lw (if x.1 = 0 then y.1 * t else x.1) (x.2.1 * y.2.2 + y.2.1 * x.2.2) (x.2.2 * y.2.2)
def q_mul (x y : Int × Nat × Nat) : Int × Nat × Nat := q_lw (x.1 * y.1) (x.2.1 * y.2.1) (x.2.2 * y.2.2)
def q_div (x y : Int × Nat × Nat) : Int × Nat × Nat := q_lw (x.1 * y.1) (x.2.1 * y.2.2) (x.2.2 * y.2.1)
def q_ord (x y : Int × Nat × Nat) : Int := if x.1 = y.1 then x.1 * cm_ (x.2.1 * y.2.2) (y.2.1 * x.2.2) else if y.1 ≤ x.1 then 1 else -1
/-- a value that the model may hold -/
def q_ok (x : Int × Nat × Nat) : Prop := (-1 ≤ x.1 ∧ x.1 ≤ 1) ∧ (x.1 = 0 ↔ x.2.1 = 0) ∧ Nat.gcd x.2.1 x.2.2 = 1 ∧ 0 < x.2.2
/-- .. and one that isn't too large -/
def q_in (x : Int × Nat × Nat) : Prop := q_ok x ∧ x.2.1 < 2 ^ 240 ∧ x.2.2 < 2 ^ 240
/-- the value v was written -/
def q_up (S : Nat → Int) (V : Nat → Nat) (v : Nat) (x : Int × Nat × Nat) (S' : Nat → Int) (V' : Nat → Nat) : Prop := S' = va_up S v x.1 ∧ V' (2 * v) = x.2.1 ∧ V' (2 * v + 1) = x.2.2 ∧ ∀ i, i ≠ 2 * v → i ≠ 2 * v + 1 → (i < 150 ∨ 158 ≤ i) → V' i = V i
theorem q_480 : (2 : Nat) ^ 240 * 2 ^ 240 + 2 ^ 240 * 2 ^ 240 < 10000 ^ 39 := by decide +kernel
theorem q_mulb {x y : Nat} (hx : x < 2 ^ 240) (hy : y < 2 ^ 240) : x * y < 2 ^ 240 * 2 ^ 240 := Nat.mul_lt_mul'' hx hy
theorem q_lw_ok {s : Int} {n d : Nat} (hd : 0 < d) (hs : -1 ≤ s ∧ s ≤ 1) (h0 : s = 0 → n = 0) : q_ok (q_lw s n d) := by
  have hg : 0 < Nat.gcd n d := Nat.gcd_pos_of_pos_right _ hd
  unfold q_lw q_ok
  refine ⟨?_, ?_, Nat.gcd_div_gcd_div_gcd_of_pos_right hd, Nat.div_pos (Nat.gcd_le_right _ hd) hg⟩
  · show -1 ≤ (if n / Nat.gcd n d = 0 then (0 : Int) else s) ∧ (if n / Nat.gcd n d = 0 then (0 : Int) else s) ≤ 1
    split
    · omega
    · exact hs
  · show (if n / Nat.gcd n d = 0 then (0 : Int) else s) = 0 ↔ n / Nat.gcd n d = 0
    by_cases hz : n / Nat.gcd n d = 0
    · rw [if_pos hz]
      exact ⟨fun _ => hz, fun _ => rfl⟩
    · rw [if_neg hz]
      refine ⟨fun h => ?_, fun h => absurd h hz⟩
      have := h0 h
      subst this
      exact absurd (Nat.zero_div _) hz
section MoVal
variable {φ : go_F} {l : Launch} {h : mv_H} {n o : Nat} {I tx S ps cs bs : Nat → Int} {V : Nat → Nat}
theorem tm_lowest {v : Nat} {s : Int} (hV : mo_V h o (I, tx, S, ps, cs, bs) V) (hv : v < 75) (hL : V 158 = 2 ^ 240) (h0 : 0 < V 152) (h1 : V 152 < 10000 ^ 39) : Fn l m_mo_lowest rd_mo_lowest rw_mo_lowest 0 0 [mv_R o, mv_I (v : Int), mv_I s] h n
    (fun w h' n' => w = some (mv_I (q_bg (q_lw s (V 150) (V 152)))) ∧ n' = n ∧ fr_ o 8 h h' ∧ ∃ S' V', mo_V h' o (I, tx, S', ps, cs, bs) V' ∧ q_up S V v (q_lw s (V 150) (V 152)) S' V') := by
  refine fn_of rfl (Nat.le_of_ble_eq_true rfl) rfl ?_
  have hg : 0 < Nat.gcd (V 150) (V 152) := Nat.gcd_pos_of_pos_right _ h0
  have hg2 : Nat.gcd (V 150) (V 152) ≤ V 152 := Nat.gcd_le_right _ h0
  have fin : ∀ (h1 : mv_H) (V1 : Nat → Nat), mo_V h1 o (I, tx, S, ps, cs, bs) V1 → fr_ o 8 h h1 → V1 (2 * v) = V 150 / Nat.gcd (V 150) (V 152) → V1 (2 * v + 1) = V 152 / Nat.gcd (V 150) (V 152) → (∀ i, i ≠ 2 * v → i ≠ 2 * v + 1 → (i < 150 ∨ 158 ≤ i) → V1 i = V i) →
      Go (go_f 0 0 fun w h' n' => w = some (mv_I (q_bg (q_lw s (V 150) (V 152)))) ∧ n' = n ∧ fr_ o 8 h h' ∧ ∃ S' V', mo_V h' o (I, tx, S', ps, cs, bs) V' ∧ q_up S V v (q_lw s (V 150) (V 152)) S' V') l m_mo_lowest (go_rm rd_mo_lowest rw_mo_lowest 0 0) (0, 0) 88 [some (mv_R o), some (mv_I (v : Int)), some (mv_I s)] [] h1 n := by
    intro h2 V1 hV1 hf1 e1 e2 ho
    have eL : V1 158 = 2 ^ 240 := (ho 158 (by omega) (by omega) (by omega)).trans hL
    have fin2 : ∀ (h3 : mv_H) (z t : Int), mo_V h3 o (I, tx, va_up S v t, ps, cs, bs) V1 → fr_ o 8 h2 h3 → t = (q_lw s (V 150) (V 152)).1 → z = q_bg (q_lw s (V 150) (V 152)) → Go (go_f 0 0 fun w h' n' => w = some (mv_I (q_bg (q_lw s (V 150) (V 152)))) ∧ n' = n ∧ fr_ o 8 h h' ∧ ∃ S' V', mo_V h' o (I, tx, S', ps, cs, bs) V' ∧ q_up S V v (q_lw s (V 150) (V 152)) S' V') l m_mo_lowest (go_rm rd_mo_lowest rw_mo_lowest 0 0) (0, 0) 143 [some (mv_R o), some (mv_I (v : Int)), some (mv_I s)] [mv_I z] h3 n := by
      intro h3 z t hV3 hf3 ht hz
      subst hz
      exact go_iret d_mo_lowest_143 rfl go_le0 ⟨rfl, rfl, fr_.tr hf1 hf3, _, V1, hV3, by rw [ht], e1, e2, ho⟩
    have q1 : ∀ (c : V1 (2 * v) = 0), (0 : Int) = (q_lw s (V 150) (V 152)).1 := fun c => by unfold q_lw; rw [e1] at c; show (0 : Int) = if _ then _ else _; rw [if_pos c]
    have q2 : ∀ (c : ¬ V1 (2 * v) = 0), s = (q_lw s (V 150) (V 152)).1 := fun c => by unfold q_lw; rw [e1] at c; show s = if _ then _ else _; rw [if_neg c]
    have b1 : V1 (2 * v) < 2 ^ 240 → V1 (2 * v + 1) < 2 ^ 240 → (0 : Int) = q_bg (q_lw s (V 150) (V 152)) := fun c1 c2 => by unfold q_bg q_lw; rw [e1] at c1; rw [e2] at c2; show (0 : Int) = if _ then _ else _; rw [if_pos ⟨c1, c2⟩]
    have b2 : ¬ (V1 (2 * v) < 2 ^ 240 ∧ V1 (2 * v + 1) < 2 ^ 240) → (1 : Int) = q_bg (q_lw s (V 150) (V 152)) := fun c => by unfold q_bg q_lw; rw [e1, e2] at c; show (1 : Int) = if _ then _ else _; rw [if_neg c]
    refine sw_lowest_88 hV1 hv (fun c1 c2 h3 hV3 hf3 => ?_) (fun c1 c2 c3 h3 hV3 hf3 => ?_) (fun c1 c2 c3 h3 hV3 hf3 => ?_) (fun c1 c2 h3 hV3 hf3 => ?_) (fun c1 c2 c3 h3 hV3 hf3 => ?_) (fun c1 c2 c3 h3 hV3 hf3 => ?_)
    · exact fin2 h3 1 s hV3 hf3 (q2 c1) (b2 (fun z => by omega))
    · exact fin2 h3 1 s hV3 hf3 (q2 c1) (b2 (fun z => by omega))
    · exact fin2 h3 0 s hV3 hf3 (q2 c1) (b1 (by omega) (by omega))
    · exact fin2 h3 1 0 hV3 hf3 (q1 c1) (b2 (fun z => by omega))
    · exact fin2 h3 1 0 hV3 hf3 (q1 c1) (b2 (fun z => by omega))
    · exact fin2 h3 0 0 hV3 hf3 (q1 c1) (b1 (by omega) (by omega))
  refine sw_lowest_0 hV hv (fun c h2 hV2 hf2 => ?_) (fun c1 c2 => ?_) (fun c1 c2 h2 hV2 hf2 => ?_)
  · refine fin h2 _ hV2 hf2 ?_ ?_ (fun i i1 i2 i3 => by rw [va_up_ne _ _ i2, va_up_ne _ _ i1])
    · rw [va_up_ne _ _ (by omega), va_up_self, c, Nat.gcd_one_right, Nat.div_one]
    · rw [va_up_self, c, Nat.gcd_one_right]
  · refine sw_lowest_44 hV hv (fun V1 e1 o1 h2 hV2 hf2 => ?_)
    have x0 : V1 150 = V 150 := o1 150 (by omega) (by omega)
    have x2 : V1 152 = V 152 := o1 152 (by omega) (by omega)
    refine sw_lowest_54 hV2 hv (by rw [e1]; omega) (fun V2 e2 e3 o2 h3 hV3 hf3 => ?_)
    have y4 : V2 154 = Nat.gcd (V 150) (V 152) := (o2 154 (by omega) (by omega) (by omega)).trans e1
    have y2 : V2 152 = V 152 := (o2 152 (by omega) (by omega) (by omega)).trans x2
    refine sw_lowest_70 hV3 hv (by rw [y4]; omega) (fun V3 e4 e5 o3 h4 hV4 hf4 => ?_)
    refine fin h4 V3 hV4 (fr_.tr hf2 (fr_.tr hf3 hf4)) ?_ ?_ (fun i i1 i2 i3 => ?_)
    · rw [o3 _ (by omega) (by omega) (by omega), e2, x0, e1]
    · rw [e4, y2, y4]
    · rw [o3 i i2 (by omega) (by omega), o2 i i1 (by omega) (by omega), o1 i (by omega) (by omega)]
  · refine fin h2 _ hV2 hf2 ?_ ?_ (fun i i1 i2 i3 => by rw [va_up_ne _ _ i2, va_up_ne _ _ i1])
    · rw [va_up_ne _ _ (by omega), va_up_self, c2, Nat.zero_div]
    · rw [va_up_self, c2, Nat.gcd_zero_left, Nat.div_self h0]
theorem cl_lowest {M : go_M} {R : Room} {u : Nat × Nat} {pc q : Nat} {L : List (Option mv_V)} {rest : List mv_V} {v : Nat} {s : Int} (hc : M.1.cls = "PromotedNumbersModel") (hd : decode M.2.1 pc = .ok (.invokevirtual 85, 3)) (hp : pc + 3 = q) (hV : mo_V h o (I, tx, S, ps, cs, bs) V) (hv : v < 75) (hL : V 158 = 2 ^ 240) (h0 : 0 < V 152) (h1 : V 152 < 10000 ^ 39) (hw : (rest.map mv_k).sum ≤ 8) (hR : go_fit R u 3 rd_mo_lowest rw_mo_lowest 0 0)
    (k : ∀ h' (S' : Nat → Int) (V' : Nat → Nat), mo_V h' o (I, tx, S', ps, cs, bs) V' → fr_ o 8 h h' → q_up S V v (q_lw s (V 150) (V 152)) S' V' → Go φ l M R u q L (mv_I (q_bg (q_lw s (V 150) (V 152))) :: rest) h' n) : Go φ l M R u pc L (mv_I s :: mv_I (v : Int) :: mv_R o :: rest) h n := by
  obtain ⟨fs, hob⟩ := mo_Vob hV
  refine go_callV (M' := m_mo_lowest) (d := rd_mo_lowest) (w := rw_mo_lowest) (mc := 0) (ms := 0) (as := [mv_I (v : Int), mv_I s]) (b := o) (rest := rest) (q := q) g_mo_lowest i_mo_lowest v_mo_lowest (by rw [hc]; exact l_mo_85) hd hp rfl rfl hob rfl hw hR (tm_lowest hV hv hL h0 h1) ?_
  rintro w h1 n1 ⟨rfl, rfl, h2, S', V', h3, h4⟩ -
  exact go_u0 (k h1 S' V' h3 h2 h4)
theorem q_upW {S S' : Nat → Int} {V W V' : Nat → Nat} {v : Nat} {x : Int × Nat × Nat} (h : q_up S W v x S' V') (hW : ∀ i, (i < 150 ∨ 158 ≤ i) → W i = V i) : q_up S V v x S' V' :=
  ⟨h.1, h.2.1, h.2.2.1, fun i i1 i2 i3 => (h.2.2.2 i i1 i2 i3).trans (hW i i3)⟩
theorem tm_product {v w : Nat} (hV : mo_V h o (I, tx, S, ps, cs, bs) V) (hv : v < 75) (hw : w < 75) (hL : V 158 = 2 ^ 240) (hS : ∀ i, -1 ≤ S i ∧ S i ≤ 1) (hx : q_in (q_at S V v)) (hy : q_in (q_at S V w)) : Fn l m_mo_product rd_mo_product rw_mo_product 0 0 [mv_R o, mv_I (v : Int), mv_I (w : Int)] h n
    (fun r h' n' => r = some (mv_I (q_bg (q_mul (q_at S V v) (q_at S V w)))) ∧ n' = n ∧ fr_ o 8 h h' ∧ ∃ S' V', mo_V h' o (I, tx, S', ps, cs, bs) V' ∧ q_up S V v (q_mul (q_at S V v) (q_at S V w)) S' V') := by
  refine fn_of rfl (Nat.le_of_ble_eq_true rfl) rfl ?_
  obtain ⟨⟨-, -, -, x1⟩, x2, x3⟩ := hx
  obtain ⟨⟨-, -, -, y1⟩, y2, y3⟩ := hy
  have b0 := q_480
  have m1 := q_mulb x2 y2
  have m2 := q_mulb x3 y3
  have m3 : 0 < V (2 * v + 1) * V (2 * w + 1) := Nat.mul_pos x1 y1
  dsimp only [q_at] at m1 m2
  refine sw_product hV hv hw (by omega) (by omega) hS (fun h1 hV1 hf1 => ?_)
  have e0 : va_up (va_up V 150 (V (2 * v) * V (2 * w))) 152 (V (2 * v + 1) * V (2 * w + 1)) 150 = V (2 * v) * V (2 * w) := by rw [va_up_ne _ _ (by omega), va_up_self]
  have e2 : va_up (va_up V 150 (V (2 * v) * V (2 * w))) 152 (V (2 * v + 1) * V (2 * w + 1)) 152 = V (2 * v + 1) * V (2 * w + 1) := va_up_self _ _ _
  refine cl_lowest (q := 50) rfl d_mo_product_47 rfl hV1 hv (by rw [va_up_ne _ _ (by omega), va_up_ne _ _ (by omega)]; exact hL) (by rw [e2]; exact m3) (by rw [e2]; omega) (by decide) ⟨by decide, by decide, by decide, by decide⟩ (fun h2 S2 V2 hV2 hf2 hq => ?_)
  rw [e0, e2] at hq ⊢
  exact go_iret d_mo_product_50 rfl go_le0 ⟨rfl, rfl, fr_.tr hf1 hf2, S2, V2, hV2, q_upW hq (fun i hi => by rw [va_up_ne _ _ (by omega), va_up_ne _ _ (by omega)])⟩
theorem tm_ratio {v w : Nat} (hV : mo_V h o (I, tx, S, ps, cs, bs) V) (hv : v < 75) (hw : w < 75) (hL : V 158 = 2 ^ 240) (hS : ∀ i, -1 ≤ S i ∧ S i ≤ 1) (hx : q_in (q_at S V v)) (hy : q_in (q_at S V w)) : Fn l m_mo_ratio rd_mo_ratio rw_mo_ratio 0 0 [mv_R o, mv_I (v : Int), mv_I (w : Int)] h n
    (fun r h' n' => n' = n ∧ fr_ o 8 h h' ∧ ((S w = 0 ∧ r = some (mv_I 2) ∧ h' = h) ∨ (S w ≠ 0 ∧ r = some (mv_I (q_bg (q_div (q_at S V v) (q_at S V w)))) ∧ ∃ S' V', mo_V h' o (I, tx, S', ps, cs, bs) V' ∧ q_up S V v (q_div (q_at S V v) (q_at S V w)) S' V'))) := by
  refine fn_of rfl (Nat.le_of_ble_eq_true rfl) rfl ?_
  obtain ⟨⟨-, -, -, x1⟩, x2, x3⟩ := hx
  obtain ⟨⟨-, y0, -, y1⟩, y2, y3⟩ := hy
  have b0 := q_480
  have m1 := q_mulb x2 y3
  have m2 := q_mulb x3 y2
  dsimp only [q_at] at m1 m2 y0 x1
  refine sw_ratio hV hv hw (by omega) (by omega) hS (fun c h1 hV1 hf1 => ?_) (fun c => ?_)
  · have hw0 : 0 < V (2 * w) := Nat.pos_of_ne_zero (fun z => c (y0.mpr z))
    have m3 : 0 < V (2 * v + 1) * V (2 * w) := Nat.mul_pos x1 hw0
    have e0 : va_up (va_up V 150 (V (2 * v) * V (2 * w + 1))) 152 (V (2 * v + 1) * V (2 * w)) 150 = V (2 * v) * V (2 * w + 1) := by rw [va_up_ne _ _ (by omega), va_up_self]
    have e2 : va_up (va_up V 150 (V (2 * v) * V (2 * w + 1))) 152 (V (2 * v + 1) * V (2 * w)) 152 = V (2 * v + 1) * V (2 * w) := va_up_self _ _ _
    refine cl_lowest (q := 61) rfl d_mo_ratio_58 rfl hV1 hv (by rw [va_up_ne _ _ (by omega), va_up_ne _ _ (by omega)]; exact hL) (by rw [e2]; exact m3) (by rw [e2]; omega) (by decide) ⟨by decide, by decide, by decide, by decide⟩ (fun h2 S2 V2 hV2 hf2 hq => ?_)
    rw [e0, e2] at hq ⊢
    exact go_iret d_mo_ratio_61 rfl go_le0 ⟨rfl, fr_.tr hf1 hf2, Or.inr ⟨c, rfl, S2, V2, hV2, q_upW hq (fun i hi => by rw [va_up_ne _ _ (by omega), va_up_ne _ _ (by omega)])⟩⟩
  · exact go_iret d_mo_ratio_10 rfl go_le0 ⟨rfl, fr_.rf, Or.inl ⟨c, rfl, rfl⟩⟩
theorem tm_sum {v w : Nat} {t : Int} (hV : mo_V h o (I, tx, S, ps, cs, bs) V) (hv : v < 75) (hw : w < 75) (ht : -1 ≤ t ∧ t ≤ 1) (hL : V 158 = 2 ^ 240) (hS : ∀ i, -1 ≤ S i ∧ S i ≤ 1) (hx : q_in (q_at S V v)) (hy : q_in (q_at S V w)) : Fn l m_mo_sum rd_mo_sum rw_mo_sum 0 0 [mv_R o, mv_I (v : Int), mv_I (w : Int), mv_I t] h n
    (fun r h' n' => r = some (mv_I (q_bg (q_add (q_at S V v) (q_at S V w) t))) ∧ n' = n ∧ fr_ o 8 h h' ∧ ∃ S' V', mo_V h' o (I, tx, S', ps, cs, bs) V' ∧ q_up S V v (q_add (q_at S V v) (q_at S V w) t) S' V') := by
  refine fn_of rfl (Nat.le_of_ble_eq_true rfl) rfl ?_
  obtain ⟨⟨-, -, -, x1⟩, x2, x3⟩ := hx
  obtain ⟨⟨-, -, -, y1⟩, y2, y3⟩ := hy
  have b0 := q_480
  have m1 := q_mulb x2 y3
  have m2 := q_mulb y2 x3
  have m3 := q_mulb x3 y3
  have m4 : 0 < V (2 * v + 1) * V (2 * w + 1) := Nat.mul_pos x1 y1
  dsimp only [q_at] at m1 m2 m3
  have fin : ∀ (h1 : mv_H) (W : Nat → Nat) (pc q : Nat) (s : Int), mo_V h1 o (I, tx, S, ps, cs, bs) W → fr_ o 8 h h1 → (∀ i, (i < 150 ∨ 158 ≤ i) → W i = V i) → W 152 = V (2 * v + 1) * V (2 * w + 1) → q_lw s (W 150) (V (2 * v + 1) * V (2 * w + 1)) = q_add (q_at S V v) (q_at S V w) t → decode m_mo_sum.2.1 pc = .ok (.invokevirtual 85, 3) → pc + 3 = q → decode m_mo_sum.2.1 q = .ok (.ireturn, 1) → ∀ L, Go (go_f 0 0 fun r h' n' => r = some (mv_I (q_bg (q_add (q_at S V v) (q_at S V w) t))) ∧ n' = n ∧ fr_ o 8 h h' ∧ ∃ S' V', mo_V h' o (I, tx, S', ps, cs, bs) V' ∧ q_up S V v (q_add (q_at S V v) (q_at S V w) t) S' V') l m_mo_sum (go_rm rd_mo_sum rw_mo_sum 0 0) (0, 0) pc L [mv_I s, mv_I (v : Int), mv_R o] h1 n := by
    intro h1 W pc q s hW hf1 ho e2 hq hd hp hd2 L
    refine cl_lowest (q := q) rfl hd hp hW hv (by rw [ho 158 (by omega)]; exact hL) (by rw [e2]; exact m4) (by rw [e2]; omega) (by decide) ⟨by decide, by decide, by decide, by decide⟩ (fun h2 S2 V2 hV2 hf2 hu => ?_)
    rw [e2, hq] at hu ⊢
    exact go_iret hd2 rfl go_le0 ⟨rfl, rfl, fr_.tr hf1 hf2, S2, V2, hV2, q_upW hu ho⟩
  refine sw_sum hV hv hw (by omega) (by omega) (by omega) (by omega) ht hS (fun c1 c2 h1 hV1 hf1 => ?_) (fun c1 c2 h1 hV1 hf1 => ?_) (fun c1 c2 h1 hV1 hf1 => ?_) (fun c1 c2 h1 hV1 hf1 => ?_)
  · refine fin h1 _ 156 159 _ hV1 hf1 (fun i hi => ?_) ?_ ?_ d_mo_sum_156 rfl d_mo_sum_159 _
    · rw [va_up_ne _ _ (by omega), va_up_ne _ _ (by omega), va_up_ne _ _ (by omega), va_up_ne _ _ (by omega), va_up_ne _ _ (by omega)]
    · rw [va_up_ne _ _ (by omega), va_up_ne _ _ (by omega), va_up_self]
    · rw [va_up_self]
      unfold q_add q_at
      rw [if_pos c1, if_neg (by show ¬ V (2 * w) * V (2 * v + 1) ≤ V (2 * v) * V (2 * w + 1); omega)]
  · refine fin h1 _ 128 131 _ hV1 hf1 (fun i hi => ?_) ?_ ?_ d_mo_sum_128 rfl d_mo_sum_131 _
    · rw [va_up_ne _ _ (by omega), va_up_ne _ _ (by omega), va_up_ne _ _ (by omega), va_up_ne _ _ (by omega)]
    · rw [va_up_ne _ _ (by omega), va_up_self]
    · rw [va_up_self]
      unfold q_add q_at
      rw [if_pos c1, if_pos c2]
  · refine fin h1 _ 97 100 _ hV1 hf1 (fun i hi => ?_) ?_ ?_ d_mo_sum_97 rfl d_mo_sum_100 _
    · rw [va_up_ne _ _ (by omega), va_up_ne _ _ (by omega), va_up_ne _ _ (by omega), va_up_ne _ _ (by omega)]
    · rw [va_up_ne _ _ (by omega), va_up_self]
    · rw [va_up_self]
      unfold q_add q_at
      rw [if_neg c1, if_neg c2]
  · refine fin h1 _ 97 100 _ hV1 hf1 (fun i hi => ?_) ?_ ?_ d_mo_sum_97 rfl d_mo_sum_100 _
    · rw [va_up_ne _ _ (by omega), va_up_ne _ _ (by omega), va_up_ne _ _ (by omega), va_up_ne _ _ (by omega)]
    · rw [va_up_ne _ _ (by omega), va_up_self]
    · rw [va_up_self]
      unfold q_add q_at
      rw [if_neg c1, if_pos c2]
theorem tm_order {v w : Nat} (hV : mo_V h o (I, tx, S, ps, cs, bs) V) (hv : v < 75) (hw : w < 75) (hS : ∀ i, -1 ≤ S i ∧ S i ≤ 1) (hx : q_in (q_at S V v)) (hy : q_in (q_at S V w)) : Fn l m_mo_order rd_mo_order rw_mo_order 0 0 [mv_R o, mv_I (v : Int), mv_I (w : Int)] h n
    (fun r h' n' => r = some (mv_I (q_ord (q_at S V v) (q_at S V w))) ∧ n' = n ∧ fr_ o 8 h h' ∧ ∃ V', mo_V h' o (I, tx, S, ps, cs, bs) V' ∧ ∀ i, (i < 150 ∨ 158 ≤ i) → V' i = V i) := by
  refine fn_of rfl (Nat.le_of_ble_eq_true rfl) rfl ?_
  obtain ⟨-, x2, x3⟩ := hx
  obtain ⟨-, y2, y3⟩ := hy
  have b0 := q_480
  have m1 := q_mulb x2 y3
  have m2 := q_mulb y2 x3
  dsimp only [q_at] at m1 m2
  refine sw_order hV hv hw (by omega) (by omega) hS (fun c h1 hV1 hf1 => ?_) (fun c1 c2 => ?_) (fun c1 c2 => ?_)
  · refine go_iret d_mo_order_83 rfl go_le0 ⟨?_, rfl, hf1, _, hV1, fun i hi => by rw [va_up_ne _ _ (by omega), va_up_ne _ _ (by omega)]⟩
    unfold q_ord q_at
    rw [if_pos c]
  · refine go_iret d_mo_order_35 rfl go_le0 ⟨?_, rfl, fr_.rf, V, hV, fun _ _ => rfl⟩
    unfold q_ord q_at
    rw [if_neg c1, if_pos c2]
  · refine go_iret d_mo_order_35 rfl go_le0 ⟨?_, rfl, fr_.rf, V, hV, fun _ _ => rfl⟩
    unfold q_ord q_at
    rw [if_neg c1, if_neg c2]
def q_form (x : Int × Nat × Nat) : Int := if x.2.2 = 1 then (if x.2.1 < 2 ^ 62 then 0 else 1) else 2
theorem tm_formOf {v : Nat} (hV : mo_V h o (I, tx, S, ps, cs, bs) V) (hv : v < 75) (hL : V 159 = 2 ^ 62) : Fn l m_mo_formOf rd_mo_formOf rw_mo_formOf 0 0 [mv_R o, mv_I (v : Int)] h n
    (fun r h' n' => r = some (mv_I (q_form (q_at S V v))) ∧ n' = n ∧ h' = h) := by
  refine fn_of rfl (Nat.le_of_ble_eq_true rfl) rfl ?_
  refine sw_formOf hV hv (fun c1 c2 => ?_) (fun c1 c2 => ?_) (fun c1 => ?_)
  · refine go_iret d_mo_formOf_30 rfl go_le0 ⟨?_, rfl, rfl⟩
    unfold q_form q_at
    rw [if_pos c1, if_neg (by show ¬ V (2 * v) < 2 ^ 62; omega)]
  · refine go_iret d_mo_formOf_30 rfl go_le0 ⟨?_, rfl, rfl⟩
    unfold q_form q_at
    rw [if_pos c1, if_pos (by show V (2 * v) < 2 ^ 62; omega)]
  · refine go_iret d_mo_formOf_30 rfl go_le0 ⟨?_, rfl, rfl⟩
    unfold q_form q_at
    rw [if_neg c1]
end MoVal
