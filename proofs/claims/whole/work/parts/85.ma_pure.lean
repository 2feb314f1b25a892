/-! the class's Machine: its arrays and values against brackets and values -/
def br_ (mo mf mg : Nat → Int) : List bk_ → Prop
  | [] => True
  | (op, b, c) :: st => mo st.length = op ∧ mf st.length = (b : Int) ∧ mg st.length = (c : Int) ∧ (0 ≤ op ∧ op ≤ 127) ∧ b < 60 ∧ c ≤ 120 ∧ br_ mo mf mg st
theorem br_ext {mo mf mg mo' mf' mg' : Nat → Int} : ∀ (st : List bk_), br_ mo mf mg st → (∀ i, i < st.length → mo' i = mo i ∧ mf' i = mf i ∧ mg' i = mg i) → br_ mo' mf' mg' st
  | [], _, _ => trivial
  | (op, b, c) :: st, h, he => by
    obtain ⟨h1, h2, h3, h4, h5, h6, h7⟩ := h
    obtain ⟨e1, e2, e3⟩ := he st.length (by show st.length < st.length + 1; omega)
    exact ⟨e1.trans h1, e2.trans h2, e3.trans h3, h4, h5, h6, br_ext st h7 (fun i hi => he i (by show i < st.length + 1; omega))⟩
theorem kq_ext {B B' : Nat → Int} {V V' : Nat → Nat} {a : Nat} (h1 : B' a = B a) (h2 : V' (a + 1) = V (a + 1)) (h3 : V' (a + 3) = V (a + 3)) : kq_ B' V' a = kq_ B V a := by
  unfold kq_
  rw [h1, h2, h3]
theorem wf_ext {B B' : Nat → Int} {V V' : Nat → Nat} {a : Nat} (h1 : B' a = B a) (h2 : V' (a + 1) = V (a + 1)) (h3 : V' (a + 3) = V (a + 3)) (h : wf_ B V a) : wf_ B' V' a := by
  unfold wf_ at h ⊢
  rw [kq_ext h1 h2 h3, h1, h2]
  exact h
/-- values 0 .. m - 1 -/
def vl_ (B : Nat → Int) (V : Nat → Nat) (m : Nat) (f : Nat → qv_) : Prop := ∀ i, i < m → kq_ B V (90 + 5 * i) = f i ∧ wf_ B V (90 + 5 * i)
/-- what working out leaves alone -/
def un_ (B B' : Nat → Int) (V V' : Nat → Nat) : Prop := (∀ i, (i < 16 ∨ (50 ≤ i ∧ i < 90)) → V' i = V i) ∧ ∀ i, (i < 40 ∨ (50 ≤ i ∧ i < 90)) → B' i = B i
theorem un_.rf {B : Nat → Int} {V : Nat → Nat} : un_ B B V V := ⟨fun _ _ => rfl, fun _ _ => rfl⟩
theorem un_.tr {B B' B'' : Nat → Int} {V V' V'' : Nat → Nat} (a : un_ B B' V V') (b : un_ B' B'' V' V'') : un_ B B'' V V'' := ⟨fun i hi => (b.1 i hi).trans (a.1 i hi), fun i hi => (b.2 i hi).trans (a.2 i hi)⟩
theorem un_cs {B B' : Nat → Int} {V V' : Nat → Nat} (h : cs_ B B' V V') : un_ B B' V V' := ⟨fun i hi => h.1 i (by omega) (by omega) (by omega), fun i hi => h.2 i (by omega)⟩
theorem vl_cs {B B' : Nat → Int} {V V' : Nat → Nat} {m : Nat} {f : Nat → qv_} (h : cs_ B B' V V') (hv : vl_ B V m f) : vl_ B' V' m f := fun i hi => by
  have h1 : B' (90 + 5 * i) = B (90 + 5 * i) := h.2 _ (by omega)
  have h2 : V' (90 + 5 * i + 1) = V (90 + 5 * i + 1) := h.1 _ (by omega) (by omega) (by omega)
  have h3 : V' (90 + 5 * i + 3) = V (90 + 5 * i + 3) := h.1 _ (by omega) (by omega) (by omega)
  exact ⟨(kq_ext h1 h2 h3).trans (hv i hi).1, wf_ext h1 h2 h3 (hv i hi).2⟩
/-- one value was written -/
theorem vl_put {B B' : Nat → Int} {V V' : Nat → Nat} {m b : Nat} {f : Nat → qv_} {v : qv_} (hb : b ≤ m) (h1 : ∀ i, i ≠ 90 + 5 * b → B' i = B i) (h2 : ∀ i, 90 ≤ i → i ≠ 90 + 5 * b + 1 → i ≠ 90 + 5 * b + 3 → V' i = V i) (hv : vl_ B V m f) (hk : kq_ B' V' (90 + 5 * b) = v) (hw : wf_ B' V' (90 + 5 * b)) : vl_ B' V' (b + 1) (va_up f b v) := fun i hi => by
  by_cases e : i = b
  · subst e
    rw [va_up_self]
    exact ⟨hk, hw⟩
  · rw [va_up_ne _ _ e]
    have e1 : B' (90 + 5 * i) = B (90 + 5 * i) := h1 _ (by omega)
    have e2 : V' (90 + 5 * i + 1) = V (90 + 5 * i + 1) := h2 _ (by omega) (by omega) (by omega)
    have e3 : V' (90 + 5 * i + 3) = V (90 + 5 * i + 3) := h2 _ (by omega) (by omega) (by omega)
    exact ⟨(kq_ext e1 e2 e3).trans (hv i (by omega)).1, wf_ext e1 e2 e3 (hv i (by omega)).2⟩
/-- a step's outcome in the total -/
def ks_ (h : mv_H) (n : Nat) (X : pn_X) (B : Nat → Int) (V : Nat → Nat) (r : Int × qv_) (w : Option mv_V) (h' : mv_H) (n' : Nat) : Prop :=
  w = some (mv_I r.1) ∧ n' = n ∧ fr_ 1 389 h h' ∧ ∃ B' V', pn_V h' X B' V' ∧ cs_ B B' V V' ∧ (r.1 = 0 → kq_ B' V' 40 = r.2 ∧ wf_ B' V' 40)
theorem cs_.rf {B : Nat → Int} {V : Nat → Nat} : cs_ B B V V := ⟨fun _ _ _ _ => rfl, fun _ _ => rfl⟩
theorem cs_.tr {B B' B'' : Nat → Int} {V V' V'' : Nat → Nat} (a : cs_ B B' V V') (b : cs_ B' B'' V' V'') : cs_ B B'' V V'' := ⟨fun i h1 h2 h3 => (b.1 i h1 h2 h3).trans (a.1 i h1 h2 h3), fun i hi => (b.2 i hi).trans (a.2 i hi)⟩
theorem b3_ite {c : Prop} [Decidable c] {a b : Int × qv_} (ha : 0 ≤ a.1 ∧ a.1 ≤ 3) (hb : 0 ≤ b.1 ∧ b.1 ≤ 3) : 0 ≤ (if c then a else b).1 ∧ (if c then a else b).1 ≤ 3 := by
  by_cases h : c
  · rw [if_pos h]; exact ha
  · rw [if_neg h]; exact hb
theorem b3_bg (x y : qv_) : 0 ≤ (q_bg x, y).1 ∧ (q_bg x, y).1 ≤ 3 := by
  have := q_bgb x
  show 0 ≤ q_bg x ∧ q_bg x ≤ 3
  omega
theorem b3_0 (y : qv_) : 0 ≤ ((0 : Int), y).1 ∧ ((0 : Int), y).1 ≤ 3 := by show 0 ≤ (0 : Int) ∧ (0 : Int) ≤ 3; omega
theorem b3_2 (y : qv_) : 0 ≤ ((2 : Int), y).1 ∧ ((2 : Int), y).1 ≤ 3 := by show 0 ≤ (2 : Int) ∧ (2 : Int) ≤ 3; omega
theorem b3_3 (y : qv_) : 0 ≤ ((3 : Int), y).1 ∧ ((3 : Int), y).1 ≤ 3 := by show 0 ≤ (3 : Int) ∧ (3 : Int) ≤ 3; omega
theorem q_step_b {op : Int} (x y : qv_) : 0 ≤ (q_step op x y).1 ∧ (q_step op x y).1 ≤ 3 := by
  unfold q_step
  exact b3_ite (b3_bg _ _) (b3_ite (b3_bg _ _) (b3_ite (b3_bg _ _) (b3_ite (b3_ite (b3_2 _) (b3_bg _ _)) (b3_ite (b3_ite (b3_3 _) (b3_ite (b3_2 _) (b3_0 _))) (b3_ite (b3_ite (b3_3 _) (b3_ite (b3_2 _) (b3_0 _))) (b3_ite (b3_ite (b3_3 _) (b3_0 _)) (b3_ite (b3_0 _) (b3_ite (b3_0 _) (b3_ite (b3_0 _) (b3_ite (b3_0 _) (b3_0 _)))))))))))
theorem q_run_b {op : Int} {f : Nat → qv_} : ∀ (k i : Nat) (x : qv_), 0 ≤ (q_run op f k i x).1 ∧ (q_run op f k i x).1 ≤ 3 := by
  intro k
  induction k with
  | zero => intro i x; show 0 ≤ (0 : Int) ∧ (0 : Int) ≤ 3; omega
  | succ k ih =>
    intro i x
    have e : q_run op f (k + 1) i x = if (q_step op x (f i)).1 = 0 then q_run op f k (i + 1) (q_step op x (f i)).2 else ((q_step op x (f i)).1, x) := rfl
    rw [e]
    split
    · exact ih _ _
    · exact q_step_b x (f i)
theorem q_app_b {op : Int} {n : Nat} {f : Nat → qv_} : 0 ≤ (q_app op n f).1 ∧ (q_app op n f).1 ≤ 3 := by
  unfold q_app
  split
  · split
    · exact q_run_b _ _ _
    · show 0 ≤ (3 : Int) ∧ (3 : Int) ≤ 3; omega
  · split
    · exact q_run_b _ _ _
    · exact q_run_b _ _ _
