/-! the class's object: the cells 1 to 389; fractions by their place, whole numbers by theirs -/
abbrev pn_X : Type := (Nat → Int) × (Nat → Int) × (Nat → Int) × (Nat → Int) × (Nat → Int) × (Nat → Int) × (Nat → Int) × (Nat → Int)
def fa_ (a : Nat) : Prop := a = 3 ∨ a = 40 ∨ (50 ≤ a ∧ a < 390 ∧ a % 5 = 0)
def ro_ (p : Nat) : Prop := p = 4 ∨ p = 6 ∨ p = 10 ∨ (18 ≤ p ∧ p ≤ 36 ∧ p % 2 = 0) ∨ p = 41 ∨ p = 43 ∨ p = 45 ∨ (50 ≤ p ∧ p < 390 ∧ (p % 5 = 1 ∨ p % 5 = 3))
def rn_ (p : Nat) : Nat := if (18 ≤ p ∧ p ≤ 36) ∨ p = 45 then 18 else 8
def fx_ (z : Nat) : Prop := z = 38 ∨ z = 39 ∨ z = 1 ∨ z = 2 ∨ z = 8 ∨ z = 9 ∨ z = 12 ∨ z = 13 ∨ z = 14 ∨ z = 15 ∨ z = 16 ∨ z = 17 ∨ z = 47 ∨ z = 48 ∨ z = 49
def pn_S (h : mv_H) (X : pn_X) (B : Nat → Int) : Prop :=
  h 1 = mv_O 7 [mv_R 2, mv_I (X.1 0), mv_I (X.1 1), mv_R 3, mv_R 8, mv_R 12, mv_R 15] ∧ h 2 = mv_A 2 120 X.2.1 ∧ h 8 = mv_O 6 [mv_R 9, mv_R 10, mv_I (X.1 2)] ∧ h 9 = mv_A 2 148 X.2.2.1 ∧ h 12 = mv_O 3 [mv_R 13, mv_R 14, mv_I (X.1 3)] ∧ h 13 = mv_A 0 12 X.2.2.2.1 ∧ h 14 = mv_A 0 12 X.2.2.2.2.1 ∧ h 15 = mv_O 4 [mv_R 16, mv_R 38, mv_R 39, mv_R 40, mv_R 45, mv_R 47, mv_R 48, mv_R 49, mv_I (X.1 4), mv_I (X.1 5)] ∧ h 16 = mv_O 0 [mv_R 17, mv_R 26, mv_R 28, mv_R 30, mv_R 32, mv_R 34, mv_R 36] ∧ h 17 = mv_O 1 [mv_R 18, mv_R 20, mv_R 22, mv_R 24] ∧ h 47 = mv_A 2 12 X.2.2.2.2.2.1 ∧ h 48 = mv_A 0 12 X.2.2.2.2.2.2.1 ∧ h 49 = mv_A 0 12 X.2.2.2.2.2.2.2 ∧ (∃ f, h 38 = mv_Q 3 8 f ∧ ∀ v, v < 8 → f v = some (50 + 5 * v)) ∧ (∃ f, h 39 = mv_Q 3 60 f ∧ ∀ v, v < 60 → f v = some (90 + 5 * v)) ∧ ∀ a, fa_ a → h a = mv_O 2 [mv_R (a + 1), mv_R (a + 3), mv_I (B a)]
def pn_V (h : mv_H) (X : pn_X) (B : Nat → Int) (V : Nat → Nat) : Prop := pn_S h X B ∧ (∀ a, 0 ≤ B a ∧ B a ≤ 1) ∧ ∀ p, ro_ p → WV h p (rn_ p) (V p)
theorem ro_ap {p r : Nat} (hp : ro_ p) (hr : ro_ r) (hn : p ≠ r) : p + 1 < r ∨ r + 1 < p := by
  unfold ro_ at hp hr
  omega
theorem ro_fx {p z : Nat} (hp : ro_ p) (hz : fx_ z ∨ fa_ z) : z < p ∨ p + 2 ≤ z := by
  unfold ro_ at hp
  unfold fx_ fa_ at hz
  omega
theorem ro_in {p z : Nat} (hp : ro_ p) (hz : z < 1 ∨ 390 ≤ z) : z < p ∨ p + 2 ≤ z := by
  unfold ro_ at hp
  omega
theorem fa_fx {a z : Nat} (ha : fa_ a) (hz : fx_ z) : z ≠ a := by
  unfold fa_ at ha
  unfold fx_ at hz
  omega
theorem fa_ro {a p : Nat} (ha : fa_ a) (hp : ro_ p) : a < p ∨ p + 2 ≤ a := ro_fx hp (Or.inr ha)
theorem fa_n {a : Nat} (ha : fa_ a) : ro_ (a + 1) ∧ ro_ (a + 3) ∧ rn_ (a + 1) = 8 ∧ rn_ (a + 3) = 8 := by
  unfold fa_ at ha
  unfold ro_ rn_
  refine ⟨by omega, by omega, if_neg (by omega), if_neg (by omega)⟩
theorem fa_v {v : Nat} (h : v < 8) : fa_ (50 + 5 * v) := by unfold fa_; omega
theorem fa_s {v : Nat} (h : v < 60) : fa_ (90 + 5 * v) := by unfold fa_; omega
theorem fa_r : fa_ 3 := by unfold fa_; omega
theorem fa_t : fa_ 40 := by unfold fa_; omega
theorem ro_w {p : Nat} (h : 18 ≤ p ∧ p ≤ 36 ∧ p % 2 = 0) : ro_ p ∧ rn_ p = 18 := by
  unfold ro_ rn_
  exact ⟨by omega, if_pos (by omega)⟩
theorem rn_le (p : Nat) : rn_ p = 8 ∨ rn_ p = 18 := by
  unfold rn_
  split
  · exact Or.inr rfl
  · exact Or.inl rfl
theorem pn_S_k {h h' : mv_H} {X : pn_X} {B : Nat → Int} (hS : pn_S h X B) (hk : ∀ z, fx_ z ∨ fa_ z → h' z = h z) : pn_S h' X B := by
  obtain ⟨c1, c2, c8, c9, c12, c13, c14, c15, c16, c17, c47, c48, c49, q38, q39, cf⟩ := hS
  have hx : ∀ z, fx_ z → h' z = h z := fun z hz => hk z (Or.inl hz)
  refine ⟨(hx 1 (by unfold fx_; omega)).trans c1, (hx 2 (by unfold fx_; omega)).trans c2, (hx 8 (by unfold fx_; omega)).trans c8, (hx 9 (by unfold fx_; omega)).trans c9, (hx 12 (by unfold fx_; omega)).trans c12, (hx 13 (by unfold fx_; omega)).trans c13, (hx 14 (by unfold fx_; omega)).trans c14, (hx 15 (by unfold fx_; omega)).trans c15, (hx 16 (by unfold fx_; omega)).trans c16, (hx 17 (by unfold fx_; omega)).trans c17, (hx 47 (by unfold fx_; omega)).trans c47, (hx 48 (by unfold fx_; omega)).trans c48, (hx 49 (by unfold fx_; omega)).trans c49, ?_, ?_, fun a ha => (hk a (Or.inr ha)).trans (cf a ha)⟩
  · obtain ⟨f, e1, e2⟩ := q38
    exact ⟨f, (hx 38 (by unfold fx_; omega)).trans e1, e2⟩
  · obtain ⟨f, e1, e2⟩ := q39
    exact ⟨f, (hx 39 (by unfold fx_; omega)).trans e1, e2⟩
/-- one row is written -/
theorem pn_row {h h' : mv_H} {X : pn_X} {B : Nat → Int} {V : Nat → Nat} {p v : Nat} (hV : pn_V h X B V) (hp : ro_ p) (hw : WV h' p (rn_ p) v) (hf : fr_ p 2 h h') : pn_V h' X B (va_up V p v) ∧ fr_ 1 389 h h' := by
  obtain ⟨hS, hB, hR⟩ := hV
  refine ⟨⟨pn_S_k hS fun z hz => hf z (ro_fx hp hz), hB, fun r hr => ?_⟩, fun z hz => hf z (ro_in hp (by omega))⟩
  by_cases e : r = p
  · subst e
    rw [va_up_self]
    exact hw
  · rw [va_up_ne _ _ e]
    exact WV_fr (hR r hr) hf (ro_ap hr hp e)
/-- rows are written -/
theorem pn_rows {h h' : mv_H} {X : pn_X} {B : Nat → Int} {V : Nat → Nat} {V' : Nat → Nat} (hV : pn_V h X B V) (hk : ∀ z, fx_ z ∨ fa_ z → h' z = h z) (hR : ∀ p, ro_ p → WV h' p (rn_ p) (V' p)) : pn_V h' X B V' := ⟨pn_S_k hV.1 hk, hV.2.1, hR⟩
theorem pn_w {h : mv_H} {X : pn_X} {B : Nat → Int} {V : Nat → Nat} {p : Nat} (hV : pn_V h X B V) (hp : ro_ p) : WV h p (rn_ p) (V p) := hV.2.2 p hp
theorem pn_cf {h : mv_H} {X : pn_X} {B : Nat → Int} {V : Nat → Nat} {a : Nat} (hV : pn_V h X B V) (ha : fa_ a) : h a = mv_O 2 [mv_R (a + 1), mv_R (a + 3), mv_I (B a)] := by
  obtain ⟨⟨c1, c2, c8, c9, c12, c13, c14, c15, c16, c17, c47, c48, c49, q38, q39, cf⟩, -⟩ := hV
  exact cf a ha
theorem pn_q38 {h : mv_H} {X : pn_X} {B : Nat → Int} {V : Nat → Nat} (hV : pn_V h X B V) : ∃ f, h 38 = mv_Q 3 8 f ∧ ∀ v, v < 8 → f v = some (50 + 5 * v) := by
  obtain ⟨⟨c1, c2, c8, c9, c12, c13, c14, c15, c16, c17, c47, c48, c49, q38, q39, cf⟩, -⟩ := hV
  exact q38
theorem pn_q39 {h : mv_H} {X : pn_X} {B : Nat → Int} {V : Nat → Nat} (hV : pn_V h X B V) : ∃ f, h 39 = mv_Q 3 60 f ∧ ∀ v, v < 60 → f v = some (90 + 5 * v) := by
  obtain ⟨⟨c1, c2, c8, c9, c12, c13, c14, c15, c16, c17, c47, c48, c49, q38, q39, cf⟩, -⟩ := hV
  exact q39
theorem pn_eq {h : mv_H} {X : pn_X} {B : Nat → Int} {V : Nat → Nat} {V' : Nat → Nat} (hV : pn_V h X B V) (he : ∀ p, ro_ p → V' p = V p) : pn_V h X B V' := ⟨hV.1, hV.2.1, fun p hp => by rw [he p hp]; exact hV.2.2 p hp⟩
theorem pn_c1 {h : mv_H} {I tx wr ga gb mo mf mg : Nat → Int} {B : Nat → Int} {V : Nat → Nat} (hV : pn_V h (I, tx, wr, ga, gb, mo, mf, mg) B V) : h 1 = mv_O 7 [mv_R 2, mv_I (I 0), mv_I (I 1), mv_R 3, mv_R 8, mv_R 12, mv_R 15] := by
  obtain ⟨⟨c1, c2, c8, c9, c12, c13, c14, c15, c16, c17, c47, c48, c49, q38, q39, cf⟩, -⟩ := hV
  exact c1
theorem pn_c2 {h : mv_H} {I tx wr ga gb mo mf mg : Nat → Int} {B : Nat → Int} {V : Nat → Nat} (hV : pn_V h (I, tx, wr, ga, gb, mo, mf, mg) B V) : h 2 = mv_A 2 120 tx := by
  obtain ⟨⟨c1, c2, c8, c9, c12, c13, c14, c15, c16, c17, c47, c48, c49, q38, q39, cf⟩, -⟩ := hV
  exact c2
theorem pn_c8 {h : mv_H} {I tx wr ga gb mo mf mg : Nat → Int} {B : Nat → Int} {V : Nat → Nat} (hV : pn_V h (I, tx, wr, ga, gb, mo, mf, mg) B V) : h 8 = mv_O 6 [mv_R 9, mv_R 10, mv_I (I 2)] := by
  obtain ⟨⟨c1, c2, c8, c9, c12, c13, c14, c15, c16, c17, c47, c48, c49, q38, q39, cf⟩, -⟩ := hV
  exact c8
theorem pn_c9 {h : mv_H} {I tx wr ga gb mo mf mg : Nat → Int} {B : Nat → Int} {V : Nat → Nat} (hV : pn_V h (I, tx, wr, ga, gb, mo, mf, mg) B V) : h 9 = mv_A 2 148 wr := by
  obtain ⟨⟨c1, c2, c8, c9, c12, c13, c14, c15, c16, c17, c47, c48, c49, q38, q39, cf⟩, -⟩ := hV
  exact c9
theorem pn_c12 {h : mv_H} {I tx wr ga gb mo mf mg : Nat → Int} {B : Nat → Int} {V : Nat → Nat} (hV : pn_V h (I, tx, wr, ga, gb, mo, mf, mg) B V) : h 12 = mv_O 3 [mv_R 13, mv_R 14, mv_I (I 3)] := by
  obtain ⟨⟨c1, c2, c8, c9, c12, c13, c14, c15, c16, c17, c47, c48, c49, q38, q39, cf⟩, -⟩ := hV
  exact c12
theorem pn_c13 {h : mv_H} {I tx wr ga gb mo mf mg : Nat → Int} {B : Nat → Int} {V : Nat → Nat} (hV : pn_V h (I, tx, wr, ga, gb, mo, mf, mg) B V) : h 13 = mv_A 0 12 ga := by
  obtain ⟨⟨c1, c2, c8, c9, c12, c13, c14, c15, c16, c17, c47, c48, c49, q38, q39, cf⟩, -⟩ := hV
  exact c13
theorem pn_c14 {h : mv_H} {I tx wr ga gb mo mf mg : Nat → Int} {B : Nat → Int} {V : Nat → Nat} (hV : pn_V h (I, tx, wr, ga, gb, mo, mf, mg) B V) : h 14 = mv_A 0 12 gb := by
  obtain ⟨⟨c1, c2, c8, c9, c12, c13, c14, c15, c16, c17, c47, c48, c49, q38, q39, cf⟩, -⟩ := hV
  exact c14
theorem pn_c15 {h : mv_H} {I tx wr ga gb mo mf mg : Nat → Int} {B : Nat → Int} {V : Nat → Nat} (hV : pn_V h (I, tx, wr, ga, gb, mo, mf, mg) B V) : h 15 = mv_O 4 [mv_R 16, mv_R 38, mv_R 39, mv_R 40, mv_R 45, mv_R 47, mv_R 48, mv_R 49, mv_I (I 4), mv_I (I 5)] := by
  obtain ⟨⟨c1, c2, c8, c9, c12, c13, c14, c15, c16, c17, c47, c48, c49, q38, q39, cf⟩, -⟩ := hV
  exact c15
theorem pn_c16 {h : mv_H} {I tx wr ga gb mo mf mg : Nat → Int} {B : Nat → Int} {V : Nat → Nat} (hV : pn_V h (I, tx, wr, ga, gb, mo, mf, mg) B V) : h 16 = mv_O 0 [mv_R 17, mv_R 26, mv_R 28, mv_R 30, mv_R 32, mv_R 34, mv_R 36] := by
  obtain ⟨⟨c1, c2, c8, c9, c12, c13, c14, c15, c16, c17, c47, c48, c49, q38, q39, cf⟩, -⟩ := hV
  exact c16
theorem pn_c17 {h : mv_H} {I tx wr ga gb mo mf mg : Nat → Int} {B : Nat → Int} {V : Nat → Nat} (hV : pn_V h (I, tx, wr, ga, gb, mo, mf, mg) B V) : h 17 = mv_O 1 [mv_R 18, mv_R 20, mv_R 22, mv_R 24] := by
  obtain ⟨⟨c1, c2, c8, c9, c12, c13, c14, c15, c16, c17, c47, c48, c49, q38, q39, cf⟩, -⟩ := hV
  exact c17
theorem pn_c47 {h : mv_H} {I tx wr ga gb mo mf mg : Nat → Int} {B : Nat → Int} {V : Nat → Nat} (hV : pn_V h (I, tx, wr, ga, gb, mo, mf, mg) B V) : h 47 = mv_A 2 12 mo := by
  obtain ⟨⟨c1, c2, c8, c9, c12, c13, c14, c15, c16, c17, c47, c48, c49, q38, q39, cf⟩, -⟩ := hV
  exact c47
theorem pn_c48 {h : mv_H} {I tx wr ga gb mo mf mg : Nat → Int} {B : Nat → Int} {V : Nat → Nat} (hV : pn_V h (I, tx, wr, ga, gb, mo, mf, mg) B V) : h 48 = mv_A 0 12 mf := by
  obtain ⟨⟨c1, c2, c8, c9, c12, c13, c14, c15, c16, c17, c47, c48, c49, q38, q39, cf⟩, -⟩ := hV
  exact c48
theorem pn_c49 {h : mv_H} {I tx wr ga gb mo mf mg : Nat → Int} {B : Nat → Int} {V : Nat → Nat} (hV : pn_V h (I, tx, wr, ga, gb, mo, mf, mg) B V) : h 49 = mv_A 0 12 mg := by
  obtain ⟨⟨c1, c2, c8, c9, c12, c13, c14, c15, c16, c17, c47, c48, c49, q38, q39, cf⟩, -⟩ := hV
  exact c49
theorem pn_u1 {h : mv_H} {I tx wr ga gb mo mf mg : Nat → Int} {B : Nat → Int} {V : Nat → Nat} (hV : pn_V h (I, tx, wr, ga, gb, mo, mf, mg) B V) (I' : Nat → Int) (he : ∀ i, i ≠ 0 → i ≠ 1 → I' i = I i) : pn_V (va_up h 1 (mv_O 7 [mv_R 2, mv_I (I' 0), mv_I (I' 1), mv_R 3, mv_R 8, mv_R 12, mv_R 15])) (I', tx, wr, ga, gb, mo, mf, mg) B V := by
  obtain ⟨⟨c1, c2, c8, c9, c12, c13, c14, c15, c16, c17, c47, c48, c49, q38, q39, cf⟩, hB, hR⟩ := hV
  refine ⟨⟨va_up_self _ _ _, (va_up_ne _ _ (by decide)).trans c2, (by rw [va_up_ne _ _ (by decide)]; show h 8 = mv_O 6 [mv_R 9, mv_R 10, mv_I (I' 2)]; rw [he 2 (by decide) (by decide)]; exact c8), (va_up_ne _ _ (by decide)).trans c9, (by rw [va_up_ne _ _ (by decide)]; show h 12 = mv_O 3 [mv_R 13, mv_R 14, mv_I (I' 3)]; rw [he 3 (by decide) (by decide)]; exact c12), (va_up_ne _ _ (by decide)).trans c13, (va_up_ne _ _ (by decide)).trans c14, (by rw [va_up_ne _ _ (by decide)]; show h 15 = mv_O 4 [mv_R 16, mv_R 38, mv_R 39, mv_R 40, mv_R 45, mv_R 47, mv_R 48, mv_R 49, mv_I (I' 4), mv_I (I' 5)]; rw [he 4 (by decide) (by decide), he 5 (by decide) (by decide)]; exact c15), (va_up_ne _ _ (by decide)).trans c16, (va_up_ne _ _ (by decide)).trans c17, (va_up_ne _ _ (by decide)).trans c47, (va_up_ne _ _ (by decide)).trans c48, (va_up_ne _ _ (by decide)).trans c49, ?_, ?_, fun a ha => (va_up_ne _ _ (fun e => by subst e; unfold fa_ at ha; omega)).trans (cf a ha)⟩, hB, fun p hp => WV_k (hR p hp) fun j h1 h2 => va_up_ne _ _ (fun e => by subst e; unfold ro_ at hp; omega)⟩
  · obtain ⟨f, e1, e2⟩ := q38
    exact ⟨f, (va_up_ne _ _ (by decide)).trans e1, e2⟩
  · obtain ⟨f, e1, e2⟩ := q39
    exact ⟨f, (va_up_ne _ _ (by decide)).trans e1, e2⟩
theorem pn_u2 {h : mv_H} {I tx wr ga gb mo mf mg : Nat → Int} {B : Nat → Int} {V : Nat → Nat} (hV : pn_V h (I, tx, wr, ga, gb, mo, mf, mg) B V) (tx' : Nat → Int) : pn_V (va_up h 2 (mv_A 2 120 tx')) (I, tx', wr, ga, gb, mo, mf, mg) B V := by
  obtain ⟨⟨c1, c2, c8, c9, c12, c13, c14, c15, c16, c17, c47, c48, c49, q38, q39, cf⟩, hB, hR⟩ := hV
  refine ⟨⟨(va_up_ne _ _ (by decide)).trans c1, va_up_self _ _ _, (va_up_ne _ _ (by decide)).trans c8, (va_up_ne _ _ (by decide)).trans c9, (va_up_ne _ _ (by decide)).trans c12, (va_up_ne _ _ (by decide)).trans c13, (va_up_ne _ _ (by decide)).trans c14, (va_up_ne _ _ (by decide)).trans c15, (va_up_ne _ _ (by decide)).trans c16, (va_up_ne _ _ (by decide)).trans c17, (va_up_ne _ _ (by decide)).trans c47, (va_up_ne _ _ (by decide)).trans c48, (va_up_ne _ _ (by decide)).trans c49, ?_, ?_, fun a ha => (va_up_ne _ _ (fun e => by subst e; unfold fa_ at ha; omega)).trans (cf a ha)⟩, hB, fun p hp => WV_k (hR p hp) fun j h1 h2 => va_up_ne _ _ (fun e => by subst e; unfold ro_ at hp; omega)⟩
  · obtain ⟨f, e1, e2⟩ := q38
    exact ⟨f, (va_up_ne _ _ (by decide)).trans e1, e2⟩
  · obtain ⟨f, e1, e2⟩ := q39
    exact ⟨f, (va_up_ne _ _ (by decide)).trans e1, e2⟩
theorem pn_u8 {h : mv_H} {I tx wr ga gb mo mf mg : Nat → Int} {B : Nat → Int} {V : Nat → Nat} (hV : pn_V h (I, tx, wr, ga, gb, mo, mf, mg) B V) (I' : Nat → Int) (he : ∀ i, i ≠ 2 → I' i = I i) : pn_V (va_up h 8 (mv_O 6 [mv_R 9, mv_R 10, mv_I (I' 2)])) (I', tx, wr, ga, gb, mo, mf, mg) B V := by
  obtain ⟨⟨c1, c2, c8, c9, c12, c13, c14, c15, c16, c17, c47, c48, c49, q38, q39, cf⟩, hB, hR⟩ := hV
  refine ⟨⟨(by rw [va_up_ne _ _ (by decide)]; show h 1 = mv_O 7 [mv_R 2, mv_I (I' 0), mv_I (I' 1), mv_R 3, mv_R 8, mv_R 12, mv_R 15]; rw [he 0 (by decide), he 1 (by decide)]; exact c1), (va_up_ne _ _ (by decide)).trans c2, va_up_self _ _ _, (va_up_ne _ _ (by decide)).trans c9, (by rw [va_up_ne _ _ (by decide)]; show h 12 = mv_O 3 [mv_R 13, mv_R 14, mv_I (I' 3)]; rw [he 3 (by decide)]; exact c12), (va_up_ne _ _ (by decide)).trans c13, (va_up_ne _ _ (by decide)).trans c14, (by rw [va_up_ne _ _ (by decide)]; show h 15 = mv_O 4 [mv_R 16, mv_R 38, mv_R 39, mv_R 40, mv_R 45, mv_R 47, mv_R 48, mv_R 49, mv_I (I' 4), mv_I (I' 5)]; rw [he 4 (by decide), he 5 (by decide)]; exact c15), (va_up_ne _ _ (by decide)).trans c16, (va_up_ne _ _ (by decide)).trans c17, (va_up_ne _ _ (by decide)).trans c47, (va_up_ne _ _ (by decide)).trans c48, (va_up_ne _ _ (by decide)).trans c49, ?_, ?_, fun a ha => (va_up_ne _ _ (fun e => by subst e; unfold fa_ at ha; omega)).trans (cf a ha)⟩, hB, fun p hp => WV_k (hR p hp) fun j h1 h2 => va_up_ne _ _ (fun e => by subst e; unfold ro_ at hp; omega)⟩
  · obtain ⟨f, e1, e2⟩ := q38
    exact ⟨f, (va_up_ne _ _ (by decide)).trans e1, e2⟩
  · obtain ⟨f, e1, e2⟩ := q39
    exact ⟨f, (va_up_ne _ _ (by decide)).trans e1, e2⟩
theorem pn_u9 {h : mv_H} {I tx wr ga gb mo mf mg : Nat → Int} {B : Nat → Int} {V : Nat → Nat} (hV : pn_V h (I, tx, wr, ga, gb, mo, mf, mg) B V) (wr' : Nat → Int) : pn_V (va_up h 9 (mv_A 2 148 wr')) (I, tx, wr', ga, gb, mo, mf, mg) B V := by
  obtain ⟨⟨c1, c2, c8, c9, c12, c13, c14, c15, c16, c17, c47, c48, c49, q38, q39, cf⟩, hB, hR⟩ := hV
  refine ⟨⟨(va_up_ne _ _ (by decide)).trans c1, (va_up_ne _ _ (by decide)).trans c2, (va_up_ne _ _ (by decide)).trans c8, va_up_self _ _ _, (va_up_ne _ _ (by decide)).trans c12, (va_up_ne _ _ (by decide)).trans c13, (va_up_ne _ _ (by decide)).trans c14, (va_up_ne _ _ (by decide)).trans c15, (va_up_ne _ _ (by decide)).trans c16, (va_up_ne _ _ (by decide)).trans c17, (va_up_ne _ _ (by decide)).trans c47, (va_up_ne _ _ (by decide)).trans c48, (va_up_ne _ _ (by decide)).trans c49, ?_, ?_, fun a ha => (va_up_ne _ _ (fun e => by subst e; unfold fa_ at ha; omega)).trans (cf a ha)⟩, hB, fun p hp => WV_k (hR p hp) fun j h1 h2 => va_up_ne _ _ (fun e => by subst e; unfold ro_ at hp; omega)⟩
  · obtain ⟨f, e1, e2⟩ := q38
    exact ⟨f, (va_up_ne _ _ (by decide)).trans e1, e2⟩
  · obtain ⟨f, e1, e2⟩ := q39
    exact ⟨f, (va_up_ne _ _ (by decide)).trans e1, e2⟩
theorem pn_u12 {h : mv_H} {I tx wr ga gb mo mf mg : Nat → Int} {B : Nat → Int} {V : Nat → Nat} (hV : pn_V h (I, tx, wr, ga, gb, mo, mf, mg) B V) (I' : Nat → Int) (he : ∀ i, i ≠ 3 → I' i = I i) : pn_V (va_up h 12 (mv_O 3 [mv_R 13, mv_R 14, mv_I (I' 3)])) (I', tx, wr, ga, gb, mo, mf, mg) B V := by
  obtain ⟨⟨c1, c2, c8, c9, c12, c13, c14, c15, c16, c17, c47, c48, c49, q38, q39, cf⟩, hB, hR⟩ := hV
  refine ⟨⟨(by rw [va_up_ne _ _ (by decide)]; show h 1 = mv_O 7 [mv_R 2, mv_I (I' 0), mv_I (I' 1), mv_R 3, mv_R 8, mv_R 12, mv_R 15]; rw [he 0 (by decide), he 1 (by decide)]; exact c1), (va_up_ne _ _ (by decide)).trans c2, (by rw [va_up_ne _ _ (by decide)]; show h 8 = mv_O 6 [mv_R 9, mv_R 10, mv_I (I' 2)]; rw [he 2 (by decide)]; exact c8), (va_up_ne _ _ (by decide)).trans c9, va_up_self _ _ _, (va_up_ne _ _ (by decide)).trans c13, (va_up_ne _ _ (by decide)).trans c14, (by rw [va_up_ne _ _ (by decide)]; show h 15 = mv_O 4 [mv_R 16, mv_R 38, mv_R 39, mv_R 40, mv_R 45, mv_R 47, mv_R 48, mv_R 49, mv_I (I' 4), mv_I (I' 5)]; rw [he 4 (by decide), he 5 (by decide)]; exact c15), (va_up_ne _ _ (by decide)).trans c16, (va_up_ne _ _ (by decide)).trans c17, (va_up_ne _ _ (by decide)).trans c47, (va_up_ne _ _ (by decide)).trans c48, (va_up_ne _ _ (by decide)).trans c49, ?_, ?_, fun a ha => (va_up_ne _ _ (fun e => by subst e; unfold fa_ at ha; omega)).trans (cf a ha)⟩, hB, fun p hp => WV_k (hR p hp) fun j h1 h2 => va_up_ne _ _ (fun e => by subst e; unfold ro_ at hp; omega)⟩
  · obtain ⟨f, e1, e2⟩ := q38
    exact ⟨f, (va_up_ne _ _ (by decide)).trans e1, e2⟩
  · obtain ⟨f, e1, e2⟩ := q39
    exact ⟨f, (va_up_ne _ _ (by decide)).trans e1, e2⟩
theorem pn_u13 {h : mv_H} {I tx wr ga gb mo mf mg : Nat → Int} {B : Nat → Int} {V : Nat → Nat} (hV : pn_V h (I, tx, wr, ga, gb, mo, mf, mg) B V) (ga' : Nat → Int) : pn_V (va_up h 13 (mv_A 0 12 ga')) (I, tx, wr, ga', gb, mo, mf, mg) B V := by
  obtain ⟨⟨c1, c2, c8, c9, c12, c13, c14, c15, c16, c17, c47, c48, c49, q38, q39, cf⟩, hB, hR⟩ := hV
  refine ⟨⟨(va_up_ne _ _ (by decide)).trans c1, (va_up_ne _ _ (by decide)).trans c2, (va_up_ne _ _ (by decide)).trans c8, (va_up_ne _ _ (by decide)).trans c9, (va_up_ne _ _ (by decide)).trans c12, va_up_self _ _ _, (va_up_ne _ _ (by decide)).trans c14, (va_up_ne _ _ (by decide)).trans c15, (va_up_ne _ _ (by decide)).trans c16, (va_up_ne _ _ (by decide)).trans c17, (va_up_ne _ _ (by decide)).trans c47, (va_up_ne _ _ (by decide)).trans c48, (va_up_ne _ _ (by decide)).trans c49, ?_, ?_, fun a ha => (va_up_ne _ _ (fun e => by subst e; unfold fa_ at ha; omega)).trans (cf a ha)⟩, hB, fun p hp => WV_k (hR p hp) fun j h1 h2 => va_up_ne _ _ (fun e => by subst e; unfold ro_ at hp; omega)⟩
  · obtain ⟨f, e1, e2⟩ := q38
    exact ⟨f, (va_up_ne _ _ (by decide)).trans e1, e2⟩
  · obtain ⟨f, e1, e2⟩ := q39
    exact ⟨f, (va_up_ne _ _ (by decide)).trans e1, e2⟩
theorem pn_u14 {h : mv_H} {I tx wr ga gb mo mf mg : Nat → Int} {B : Nat → Int} {V : Nat → Nat} (hV : pn_V h (I, tx, wr, ga, gb, mo, mf, mg) B V) (gb' : Nat → Int) : pn_V (va_up h 14 (mv_A 0 12 gb')) (I, tx, wr, ga, gb', mo, mf, mg) B V := by
  obtain ⟨⟨c1, c2, c8, c9, c12, c13, c14, c15, c16, c17, c47, c48, c49, q38, q39, cf⟩, hB, hR⟩ := hV
  refine ⟨⟨(va_up_ne _ _ (by decide)).trans c1, (va_up_ne _ _ (by decide)).trans c2, (va_up_ne _ _ (by decide)).trans c8, (va_up_ne _ _ (by decide)).trans c9, (va_up_ne _ _ (by decide)).trans c12, (va_up_ne _ _ (by decide)).trans c13, va_up_self _ _ _, (va_up_ne _ _ (by decide)).trans c15, (va_up_ne _ _ (by decide)).trans c16, (va_up_ne _ _ (by decide)).trans c17, (va_up_ne _ _ (by decide)).trans c47, (va_up_ne _ _ (by decide)).trans c48, (va_up_ne _ _ (by decide)).trans c49, ?_, ?_, fun a ha => (va_up_ne _ _ (fun e => by subst e; unfold fa_ at ha; omega)).trans (cf a ha)⟩, hB, fun p hp => WV_k (hR p hp) fun j h1 h2 => va_up_ne _ _ (fun e => by subst e; unfold ro_ at hp; omega)⟩
  · obtain ⟨f, e1, e2⟩ := q38
    exact ⟨f, (va_up_ne _ _ (by decide)).trans e1, e2⟩
  · obtain ⟨f, e1, e2⟩ := q39
    exact ⟨f, (va_up_ne _ _ (by decide)).trans e1, e2⟩
theorem pn_u15 {h : mv_H} {I tx wr ga gb mo mf mg : Nat → Int} {B : Nat → Int} {V : Nat → Nat} (hV : pn_V h (I, tx, wr, ga, gb, mo, mf, mg) B V) (I' : Nat → Int) (he : ∀ i, i ≠ 4 → i ≠ 5 → I' i = I i) : pn_V (va_up h 15 (mv_O 4 [mv_R 16, mv_R 38, mv_R 39, mv_R 40, mv_R 45, mv_R 47, mv_R 48, mv_R 49, mv_I (I' 4), mv_I (I' 5)])) (I', tx, wr, ga, gb, mo, mf, mg) B V := by
  obtain ⟨⟨c1, c2, c8, c9, c12, c13, c14, c15, c16, c17, c47, c48, c49, q38, q39, cf⟩, hB, hR⟩ := hV
  refine ⟨⟨(by rw [va_up_ne _ _ (by decide)]; show h 1 = mv_O 7 [mv_R 2, mv_I (I' 0), mv_I (I' 1), mv_R 3, mv_R 8, mv_R 12, mv_R 15]; rw [he 0 (by decide) (by decide), he 1 (by decide) (by decide)]; exact c1), (va_up_ne _ _ (by decide)).trans c2, (by rw [va_up_ne _ _ (by decide)]; show h 8 = mv_O 6 [mv_R 9, mv_R 10, mv_I (I' 2)]; rw [he 2 (by decide) (by decide)]; exact c8), (va_up_ne _ _ (by decide)).trans c9, (by rw [va_up_ne _ _ (by decide)]; show h 12 = mv_O 3 [mv_R 13, mv_R 14, mv_I (I' 3)]; rw [he 3 (by decide) (by decide)]; exact c12), (va_up_ne _ _ (by decide)).trans c13, (va_up_ne _ _ (by decide)).trans c14, va_up_self _ _ _, (va_up_ne _ _ (by decide)).trans c16, (va_up_ne _ _ (by decide)).trans c17, (va_up_ne _ _ (by decide)).trans c47, (va_up_ne _ _ (by decide)).trans c48, (va_up_ne _ _ (by decide)).trans c49, ?_, ?_, fun a ha => (va_up_ne _ _ (fun e => by subst e; unfold fa_ at ha; omega)).trans (cf a ha)⟩, hB, fun p hp => WV_k (hR p hp) fun j h1 h2 => va_up_ne _ _ (fun e => by subst e; unfold ro_ at hp; omega)⟩
  · obtain ⟨f, e1, e2⟩ := q38
    exact ⟨f, (va_up_ne _ _ (by decide)).trans e1, e2⟩
  · obtain ⟨f, e1, e2⟩ := q39
    exact ⟨f, (va_up_ne _ _ (by decide)).trans e1, e2⟩
theorem pn_u47 {h : mv_H} {I tx wr ga gb mo mf mg : Nat → Int} {B : Nat → Int} {V : Nat → Nat} (hV : pn_V h (I, tx, wr, ga, gb, mo, mf, mg) B V) (mo' : Nat → Int) : pn_V (va_up h 47 (mv_A 2 12 mo')) (I, tx, wr, ga, gb, mo', mf, mg) B V := by
  obtain ⟨⟨c1, c2, c8, c9, c12, c13, c14, c15, c16, c17, c47, c48, c49, q38, q39, cf⟩, hB, hR⟩ := hV
  refine ⟨⟨(va_up_ne _ _ (by decide)).trans c1, (va_up_ne _ _ (by decide)).trans c2, (va_up_ne _ _ (by decide)).trans c8, (va_up_ne _ _ (by decide)).trans c9, (va_up_ne _ _ (by decide)).trans c12, (va_up_ne _ _ (by decide)).trans c13, (va_up_ne _ _ (by decide)).trans c14, (va_up_ne _ _ (by decide)).trans c15, (va_up_ne _ _ (by decide)).trans c16, (va_up_ne _ _ (by decide)).trans c17, va_up_self _ _ _, (va_up_ne _ _ (by decide)).trans c48, (va_up_ne _ _ (by decide)).trans c49, ?_, ?_, fun a ha => (va_up_ne _ _ (fun e => by subst e; unfold fa_ at ha; omega)).trans (cf a ha)⟩, hB, fun p hp => WV_k (hR p hp) fun j h1 h2 => va_up_ne _ _ (fun e => by subst e; unfold ro_ at hp; omega)⟩
  · obtain ⟨f, e1, e2⟩ := q38
    exact ⟨f, (va_up_ne _ _ (by decide)).trans e1, e2⟩
  · obtain ⟨f, e1, e2⟩ := q39
    exact ⟨f, (va_up_ne _ _ (by decide)).trans e1, e2⟩
theorem pn_u48 {h : mv_H} {I tx wr ga gb mo mf mg : Nat → Int} {B : Nat → Int} {V : Nat → Nat} (hV : pn_V h (I, tx, wr, ga, gb, mo, mf, mg) B V) (mf' : Nat → Int) : pn_V (va_up h 48 (mv_A 0 12 mf')) (I, tx, wr, ga, gb, mo, mf', mg) B V := by
  obtain ⟨⟨c1, c2, c8, c9, c12, c13, c14, c15, c16, c17, c47, c48, c49, q38, q39, cf⟩, hB, hR⟩ := hV
  refine ⟨⟨(va_up_ne _ _ (by decide)).trans c1, (va_up_ne _ _ (by decide)).trans c2, (va_up_ne _ _ (by decide)).trans c8, (va_up_ne _ _ (by decide)).trans c9, (va_up_ne _ _ (by decide)).trans c12, (va_up_ne _ _ (by decide)).trans c13, (va_up_ne _ _ (by decide)).trans c14, (va_up_ne _ _ (by decide)).trans c15, (va_up_ne _ _ (by decide)).trans c16, (va_up_ne _ _ (by decide)).trans c17, (va_up_ne _ _ (by decide)).trans c47, va_up_self _ _ _, (va_up_ne _ _ (by decide)).trans c49, ?_, ?_, fun a ha => (va_up_ne _ _ (fun e => by subst e; unfold fa_ at ha; omega)).trans (cf a ha)⟩, hB, fun p hp => WV_k (hR p hp) fun j h1 h2 => va_up_ne _ _ (fun e => by subst e; unfold ro_ at hp; omega)⟩
  · obtain ⟨f, e1, e2⟩ := q38
    exact ⟨f, (va_up_ne _ _ (by decide)).trans e1, e2⟩
  · obtain ⟨f, e1, e2⟩ := q39
    exact ⟨f, (va_up_ne _ _ (by decide)).trans e1, e2⟩
theorem pn_u49 {h : mv_H} {I tx wr ga gb mo mf mg : Nat → Int} {B : Nat → Int} {V : Nat → Nat} (hV : pn_V h (I, tx, wr, ga, gb, mo, mf, mg) B V) (mg' : Nat → Int) : pn_V (va_up h 49 (mv_A 0 12 mg')) (I, tx, wr, ga, gb, mo, mf, mg') B V := by
  obtain ⟨⟨c1, c2, c8, c9, c12, c13, c14, c15, c16, c17, c47, c48, c49, q38, q39, cf⟩, hB, hR⟩ := hV
  refine ⟨⟨(va_up_ne _ _ (by decide)).trans c1, (va_up_ne _ _ (by decide)).trans c2, (va_up_ne _ _ (by decide)).trans c8, (va_up_ne _ _ (by decide)).trans c9, (va_up_ne _ _ (by decide)).trans c12, (va_up_ne _ _ (by decide)).trans c13, (va_up_ne _ _ (by decide)).trans c14, (va_up_ne _ _ (by decide)).trans c15, (va_up_ne _ _ (by decide)).trans c16, (va_up_ne _ _ (by decide)).trans c17, (va_up_ne _ _ (by decide)).trans c47, (va_up_ne _ _ (by decide)).trans c48, va_up_self _ _ _, ?_, ?_, fun a ha => (va_up_ne _ _ (fun e => by subst e; unfold fa_ at ha; omega)).trans (cf a ha)⟩, hB, fun p hp => WV_k (hR p hp) fun j h1 h2 => va_up_ne _ _ (fun e => by subst e; unfold ro_ at hp; omega)⟩
  · obtain ⟨f, e1, e2⟩ := q38
    exact ⟨f, (va_up_ne _ _ (by decide)).trans e1, e2⟩
  · obtain ⟨f, e1, e2⟩ := q39
    exact ⟨f, (va_up_ne _ _ (by decide)).trans e1, e2⟩
theorem pn_uf {h : mv_H} {X : pn_X} {B : Nat → Int} {V : Nat → Nat} {a : Nat} {x : Int} (hV : pn_V h X B V) (ha : fa_ a) (hx : 0 ≤ x ∧ x ≤ 1) : pn_V (va_up h a (mv_O 2 [mv_R (a + 1), mv_R (a + 3), mv_I x])) X (va_up B a x) V := by
  obtain ⟨⟨c1, c2, c8, c9, c12, c13, c14, c15, c16, c17, c47, c48, c49, q38, q39, cf⟩, hB, hR⟩ := hV
  refine ⟨⟨(va_up_ne _ _ (fun e => by subst e; unfold fa_ at ha; omega)).trans c1, (va_up_ne _ _ (fun e => by subst e; unfold fa_ at ha; omega)).trans c2, (va_up_ne _ _ (fun e => by subst e; unfold fa_ at ha; omega)).trans c8, (va_up_ne _ _ (fun e => by subst e; unfold fa_ at ha; omega)).trans c9, (va_up_ne _ _ (fun e => by subst e; unfold fa_ at ha; omega)).trans c12, (va_up_ne _ _ (fun e => by subst e; unfold fa_ at ha; omega)).trans c13, (va_up_ne _ _ (fun e => by subst e; unfold fa_ at ha; omega)).trans c14, (va_up_ne _ _ (fun e => by subst e; unfold fa_ at ha; omega)).trans c15, (va_up_ne _ _ (fun e => by subst e; unfold fa_ at ha; omega)).trans c16, (va_up_ne _ _ (fun e => by subst e; unfold fa_ at ha; omega)).trans c17, (va_up_ne _ _ (fun e => by subst e; unfold fa_ at ha; omega)).trans c47, (va_up_ne _ _ (fun e => by subst e; unfold fa_ at ha; omega)).trans c48, (va_up_ne _ _ (fun e => by subst e; unfold fa_ at ha; omega)).trans c49, ?_, ?_, fun b hb => ?_⟩, fun b => ?_, fun p hp => WV_k (hR p hp) fun j h1 h2 => va_up_ne _ _ (fun e => by subst e; have := fa_ro ha hp; omega)⟩
  · obtain ⟨f, e1, e2⟩ := q38
    exact ⟨f, (va_up_ne _ _ (fun e => by subst e; unfold fa_ at ha; omega)).trans e1, e2⟩
  · obtain ⟨f, e1, e2⟩ := q39
    exact ⟨f, (va_up_ne _ _ (fun e => by subst e; unfold fa_ at ha; omega)).trans e1, e2⟩
  · by_cases e : b = a
    · subst e
      rw [va_up_self, va_up_self]
    · rw [va_up_ne _ _ e, va_up_ne _ _ e]
      exact cf b hb
  · unfold va_up
    split
    · exact hx
    · exact hB b
