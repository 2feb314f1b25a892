/-! what working out means: steps, brackets, a derivation -/
abbrev qv_ : Type := Int × Nat × Nat
def q_sm (v : Nat) : qv_ := (if v = 0 then 0 else 1, v, 1)
def q_step (op : Int) (x y : qv_) : Int × qv_ :=
  if op = 43 then (q_bg (q_add x y 1), q_add x y 1)
  else if op = 45 then (q_bg (q_add x y (-1)), q_add x y (-1))
  else if op = 42 then (q_bg (q_mul x y), q_mul x y)
  else if op = 47 then (if y.2.1 = 0 then (2, x) else (q_bg (q_div x y), q_div x y))
  else if op = 113 then (if ¬ (x.2.2 = 1 ∧ y.2.2 = 1) then (3, x) else if y.2.1 = 0 then (2, x) else (0, q_quo x y))
  else if op = 114 then (if ¬ (x.2.2 = 1 ∧ y.2.2 = 1) then (3, x) else if y.2.1 = 0 then (2, x) else (0, q_rem x y))
  else if op = 103 then (if ¬ y.2.2 = 1 then (3, x) else (0, q_gcd x y))
  else if op = 110 then (0, (y.1, y.2.1, 1))
  else if op = 100 then (0, (1, y.2.2, 1))
  else if op = 60 then (0, q_sm (if q_ord x y < 0 then 1 else 0))
  else if op = 61 then (0, q_sm (if q_ord x y = 0 then 1 else 0))
  else (0, y)
def q_run (op : Int) (f : Nat → qv_) : Nat → Nat → qv_ → Int × qv_
  | 0, _, x => (0, x)
  | k + 1, i, x => if (q_step op x (f i)).1 = 0 then q_run op f k (i + 1) (q_step op x (f i)).2 else ((q_step op x (f i)).1, x)
def q_app (op : Int) (n : Nat) (f : Nat → qv_) : Int × qv_ :=
  if op = 94 then (if (f 1).2.2 = 1 ∧ 0 ≤ (f 1).1 ∧ (f 1).2.1 ≤ 64 then q_run 42 (fun _ => f 0) (f 1).2.1 0 (q_sm 1) else (3, f 0))
  else if 1 < n ∧ ¬ (op = 43 ∨ op = 42 ∨ op = 103) then q_run op f (n - 1) 1 (f 0)
  else q_run op f n 0 (if op = 42 ∨ op = 47 then q_sm 1 else q_sm 0)
def ar_ (op : Int) (n : Nat) : Prop := (op = 43 ∨ op = 42 ∨ op = 103) ∨ ((op = 45 ∨ op = 47) ∧ 1 ≤ n) ∨ ((op = 113 ∨ op = 114 ∨ op = 94 ∨ op = 60 ∨ op = 61 ∨ op = 63) ∧ n = 2) ∨ ((op = 110 ∨ op = 100) ∧ n = 1)
theorem q_bg0 {x : qv_} (h : q_bg x = 0) : x.2.1 < 2 ^ 240 ∧ x.2.2 < 2 ^ 240 := by
  unfold q_bg at h
  by_cases c : x.2.1 < 2 ^ 240 ∧ x.2.2 < 2 ^ 240
  · exact c
  · rw [if_neg c] at h
    exact absurd h (by decide)
theorem q_bgb (x : qv_) : 0 ≤ q_bg x ∧ q_bg x ≤ 1 := by
  unfold q_bg
  split <;> decide
theorem q_sm_in {v : Nat} (h : v ≤ 64) : q_in (q_sm v) := by
  unfold q_sm q_in q_ok
  have : (64 : Nat) < 2 ^ 240 := by decide +kernel
  have h1 : (1 : Nat) < 2 ^ 240 := by decide +kernel
  refine ⟨⟨?_, ?_, Nat.gcd_one_right _, Nat.one_pos⟩, Nat.lt_of_le_of_lt h this, h1⟩
  · show -1 ≤ (if v = 0 then (0 : Int) else 1) ∧ (if v = 0 then (0 : Int) else 1) ≤ 1
    split <;> omega
  · show (if v = 0 then (0 : Int) else 1) = 0 ↔ v = 0
    split <;> omega
theorem sg_mul {a b : Int} (ha : -1 ≤ a ∧ a ≤ 1) (hb : -1 ≤ b ∧ b ≤ 1) : (-1 ≤ a * b ∧ a * b ≤ 1) ∧ (a * b = 0 → a = 0 ∨ b = 0) := by
  have h1 : a = -1 ∨ a = 0 ∨ a = 1 := by omega
  have h2 : b = -1 ∨ b = 0 ∨ b = 1 := by omega
  rcases h1 with e | e | e <;> rcases h2 with d | d | d <;> subst e <;> subst d <;> decide
theorem q_add_ok {x y : qv_} {t : Int} (hx : q_ok x) (hy : q_ok y) (ht : t = 1 ∨ t = -1) : q_ok (q_add x y t) := by
  obtain ⟨x1, x2, x3, x4⟩ := hx
  obtain ⟨y1, y2, y3, y4⟩ := hy
  have hd : 0 < x.2.2 * y.2.2 := Nat.mul_pos x4 y4
  have ht1 : -1 ≤ t ∧ t ≤ 1 := by omega
  obtain ⟨m1, m2⟩ := sg_mul y1 ht1
  have hyt : y.1 * t = 0 → y.2.1 = 0 := fun z => by
    rcases m2 z with e | e
    · exact y2.mp e
    · omega
  unfold q_add
  split
  · next c =>
    split
    · refine q_lw_ok hd x1 (fun z => ?_)
      rw [z, Int.zero_mul] at c
      exact absurd c (by decide)
    · refine q_lw_ok hd m1 (fun z => ?_)
      rw [z, Int.mul_zero] at c
      exact absurd c (by decide)
  · refine q_lw_ok hd ?_ ?_
    · split
      · exact m1
      · exact x1
    · intro z
      by_cases c : x.1 = 0
      · rw [if_pos c] at z
        rw [x2.mp c, hyt z, Nat.zero_mul, Nat.zero_mul]
      · rw [if_neg c] at z
        exact absurd z c
theorem q_mul_ok {x y : qv_} (hx : q_ok x) (hy : q_ok y) : q_ok (q_mul x y) := by
  obtain ⟨x1, x2, x3, x4⟩ := hx
  obtain ⟨y1, y2, y3, y4⟩ := hy
  obtain ⟨m1, m2⟩ := sg_mul x1 y1
  refine q_lw_ok (Nat.mul_pos x4 y4) m1 (fun z => ?_)
  rcases m2 z with e | e
  · rw [x2.mp e, Nat.zero_mul]
  · rw [y2.mp e, Nat.mul_zero]
theorem q_div_ok {x y : qv_} (hx : q_ok x) (hy : q_ok y) (h0 : y.2.1 ≠ 0) : q_ok (q_div x y) := by
  obtain ⟨x1, x2, x3, x4⟩ := hx
  obtain ⟨y1, y2, y3, y4⟩ := hy
  obtain ⟨m1, m2⟩ := sg_mul x1 y1
  refine q_lw_ok (Nat.mul_pos x4 (Nat.pos_of_ne_zero h0)) m1 (fun z => ?_)
  rcases m2 z with e | e
  · rw [x2.mp e, Nat.zero_mul]
  · exact absurd (y2.mp e) h0
theorem q_mk {s : Int} {n : Nat} (hs : -1 ≤ s ∧ s ≤ 1) (h0 : s = 0 ↔ n = 0) (hn : n < 2 ^ 240) : q_in (s, n, 1) :=
  ⟨⟨hs, h0, Nat.gcd_one_right _, Nat.one_pos⟩, hn, by show 1 < 2 ^ 240; decide +kernel⟩
theorem q_mk0 {s : Int} {n : Nat} (hs : -1 ≤ s ∧ s ≤ 1) (h0 : s = 0 → n = 0) (hn : n < 2 ^ 240) : q_in (if n = 0 then 0 else s, n, 1) := by
  refine q_mk ?_ ?_ hn
  · split <;> omega
  · split <;> omega
theorem q_step_in {op : Int} {x y : qv_} (hx : q_in x) (hy : q_in y) (h : (q_step op x y).1 = 0) : q_in (q_step op x y).2 := by
  have bx := hx.2
  have s1 := sg_mul hx.1.1 hy.1.1
  unfold q_step at h ⊢
  by_cases c1 : op = 43
  · rw [if_pos c1] at h ⊢
    exact ⟨q_add_ok hx.1 hy.1 (Or.inl rfl), q_bg0 h⟩
  rw [if_neg c1] at h ⊢
  by_cases c1 : op = 45
  · rw [if_pos c1] at h ⊢
    exact ⟨q_add_ok hx.1 hy.1 (Or.inr rfl), q_bg0 h⟩
  rw [if_neg c1] at h ⊢
  by_cases c1 : op = 42
  · rw [if_pos c1] at h ⊢
    exact ⟨q_mul_ok hx.1 hy.1, q_bg0 h⟩
  rw [if_neg c1] at h ⊢
  by_cases c1 : op = 47
  · rw [if_pos c1] at h ⊢
    by_cases c2 : y.2.1 = 0
    · rw [if_pos c2] at h
      exact absurd h (show ¬ (2 : Int) = 0 by decide)
    · rw [if_neg c2] at h ⊢
      exact ⟨q_div_ok hx.1 hy.1 c2, q_bg0 h⟩
  rw [if_neg c1] at h ⊢
  by_cases c1 : op = 113
  · rw [if_pos c1] at h ⊢
    by_cases c2 : ¬ (x.2.2 = 1 ∧ y.2.2 = 1)
    · rw [if_pos c2] at h
      exact absurd h (show ¬ (3 : Int) = 0 by decide)
    · rw [if_neg c2] at h ⊢
      by_cases c3 : y.2.1 = 0
      · rw [if_pos c3] at h
        exact absurd h (show ¬ (2 : Int) = 0 by decide)
      · rw [if_neg c3]
        refine q_mk0 s1.1 (fun z => ?_) (Nat.lt_of_le_of_lt (Nat.div_le_self _ _) bx.1)
        rcases s1.2 z with e | e
        · rw [hx.1.2.1.mp e, Nat.zero_div]
        · exact absurd (hy.1.2.1.mp e) c3
  rw [if_neg c1] at h ⊢
  by_cases c1 : op = 114
  · rw [if_pos c1] at h ⊢
    by_cases c2 : ¬ (x.2.2 = 1 ∧ y.2.2 = 1)
    · rw [if_pos c2] at h
      exact absurd h (show ¬ (3 : Int) = 0 by decide)
    · rw [if_neg c2] at h ⊢
      by_cases c3 : y.2.1 = 0
      · rw [if_pos c3] at h
        exact absurd h (show ¬ (2 : Int) = 0 by decide)
      · rw [if_neg c3]
        refine q_mk0 hx.1.1 (fun z => ?_) (Nat.lt_of_le_of_lt (Nat.mod_le _ _) bx.1)
        rw [hx.1.2.1.mp z, Nat.zero_mod]
  rw [if_neg c1] at h ⊢
  by_cases c1 : op = 103
  · rw [if_pos c1] at h ⊢
    by_cases c2 : ¬ y.2.2 = 1
    · rw [if_pos c2] at h
      exact absurd h (show ¬ (3 : Int) = 0 by decide)
    · rw [if_neg c2]
      refine q_mk0 (by decide) (fun z => absurd z (by decide)) ?_
      by_cases c3 : x.2.1 = 0
      · rw [c3, Nat.gcd_zero_left]
        exact hy.2.1
      · exact Nat.lt_of_le_of_lt (Nat.gcd_le_left _ (Nat.pos_of_ne_zero c3)) bx.1
  rw [if_neg c1] at h ⊢
  by_cases c1 : op = 110
  · rw [if_pos c1]
    exact q_mk hy.1.1 hy.1.2.1 hy.2.1
  rw [if_neg c1] at h ⊢
  by_cases c1 : op = 100
  · rw [if_pos c1]
    refine q_mk (by decide) ⟨fun z => absurd z (by decide), fun z => ?_⟩ hy.2.2
    have := hy.1.2.2.2
    rw [z] at this
    exact absurd this (Nat.lt_irrefl _)
  rw [if_neg c1] at h ⊢
  by_cases c1 : op = 60
  · rw [if_pos c1]
    refine q_sm_in ?_
    split <;> omega
  rw [if_neg c1] at h ⊢
  by_cases c1 : op = 61
  · rw [if_pos c1]
    refine q_sm_in ?_
    split <;> omega
  rw [if_neg c1]
  exact hy
theorem q_run_in {op : Int} {f : Nat → qv_} : ∀ (k i : Nat) (x : qv_), q_in x → (∀ j, i ≤ j → j < i + k → q_in (f j)) → (q_run op f k i x).1 = 0 → q_in (q_run op f k i x).2 := by
  intro k
  induction k with
  | zero => exact fun i x hx _ _ => hx
  | succ k ih =>
    intro i x hx hf h
    have e : q_run op f (k + 1) i x = if (q_step op x (f i)).1 = 0 then q_run op f k (i + 1) (q_step op x (f i)).2 else ((q_step op x (f i)).1, x) := rfl
    rw [e] at h ⊢
    by_cases c : (q_step op x (f i)).1 = 0
    · rw [if_pos c] at h ⊢
      exact ih (i + 1) _ (q_step_in hx (hf i (Nat.le_refl _) (by omega)) c) (fun j h1 h2 => hf j (by omega) (by omega)) h
    · rw [if_neg c] at h
      exact absurd h c
theorem q_app_in {op : Int} {n : Nat} {f : Nat → qv_} (ha : ar_ op n) (hf : ∀ j, j < n → q_in (f j)) (h : (q_app op n f).1 = 0) : q_in (q_app op n f).2 := by
  unfold q_app at h ⊢
  by_cases c1 : op = 94
  · rw [if_pos c1] at h ⊢
    have hn : n = 2 := by
      unfold ar_ at ha
      omega
    by_cases c2 : (f 1).2.2 = 1 ∧ 0 ≤ (f 1).1 ∧ (f 1).2.1 ≤ 64
    · rw [if_pos c2] at h ⊢
      exact q_run_in _ _ _ (q_sm_in (by decide)) (fun j _ _ => hf 0 (by omega)) h
    · rw [if_neg c2] at h
      exact absurd h (show ¬ (3 : Int) = 0 by decide)
  · rw [if_neg c1] at h ⊢
    by_cases c2 : 1 < n ∧ ¬ (op = 43 ∨ op = 42 ∨ op = 103)
    · rw [if_pos c2] at h ⊢
      exact q_run_in _ _ _ (hf 0 (by omega)) (fun j _ h2 => hf j (by omega)) h
    · rw [if_neg c2] at h ⊢
      refine q_run_in _ _ _ ?_ (fun j _ h2 => hf j (by omega)) h
      split
      · exact q_sm_in (by decide)
      · exact q_sm_in (by decide)
/-- the end of an argument, from place a at depth d -/
def sk_ (t : Nat → Int) (len : Nat) (d : Nat) (a : Nat) (e : Nat) : Prop := ∀ P : Nat → Nat → Nat → Prop, (P 0 len len) → (∀ {a : Nat}, a < len → (t a = 32 ∨ t a = 41) → P 0 a a) → (∀ {d a e : Nat}, a < len → t a = 40 → P (d + 1) (a + 1) e → P d a e) → (∀ {d a e : Nat}, a < len → t a = 41 → P d (a + 1) e → P (d + 1) a e) → (∀ {d a e : Nat}, a < len → (t a ≠ 40 ∧ t a ≠ 41) → (d = 0 → t a ≠ 32) → P d (a + 1) e → P d a e) → P d a e
theorem sk_.fin {t : Nat → Int} {len : Nat}  : sk_ t len 0 len len := fun P c0 c1 c2 c3 c4 => c0 
theorem sk_.stop {t : Nat → Int} {len : Nat} {a : Nat} (h : a < len) (hc : (t a = 32 ∨ t a = 41)) : sk_ t len 0 a a := fun P c0 c1 c2 c3 c4 => c1 h hc
theorem sk_.up {t : Nat → Int} {len : Nat} {d a e : Nat} (h : a < len) (hc : t a = 40) (k : sk_ t len (d + 1) (a + 1) e) : sk_ t len d a e := fun P c0 c1 c2 c3 c4 => c2 h hc (k P c0 c1 c2 c3 c4)
theorem sk_.down {t : Nat → Int} {len : Nat} {d a e : Nat} (h : a < len) (hc : t a = 41) (k : sk_ t len d (a + 1) e) : sk_ t len (d + 1) a e := fun P c0 c1 c2 c3 c4 => c3 h hc (k P c0 c1 c2 c3 c4)
theorem sk_.on {t : Nat → Int} {len : Nat} {d a e : Nat} (h : a < len) (hc : (t a ≠ 40 ∧ t a ≠ 41)) (hd : (d = 0 → t a ≠ 32)) (k : sk_ t len d (a + 1) e) : sk_ t len d a e := fun P c0 c1 c2 c3 c4 => c4 h hc hd (k P c0 c1 c2 c3 c4)
theorem sk_.ind {t : Nat → Int} {len : Nat} {motive : ∀ (d : Nat) (a : Nat) (e : Nat), sk_ t len d a e → Prop} (fin : motive 0 len len sk_.fin) (stop : ∀ {a : Nat} (h : a < len) (hc : (t a = 32 ∨ t a = 41)), motive 0 a a (sk_.stop h hc)) (up : ∀ {d a e : Nat} (h : a < len) (hc : t a = 40) (k : sk_ t len (d + 1) (a + 1) e) (ih : motive (d + 1) (a + 1) e k), motive d a e (sk_.up h hc k)) (down : ∀ {d a e : Nat} (h : a < len) (hc : t a = 41) (k : sk_ t len d (a + 1) e) (ih : motive d (a + 1) e k), motive (d + 1) a e (sk_.down h hc k)) (on : ∀ {d a e : Nat} (h : a < len) (hc : (t a ≠ 40 ∧ t a ≠ 41)) (hd : (d = 0 → t a ≠ 32)) (k : sk_ t len d (a + 1) e) (ih : motive d (a + 1) e k), motive d a e (sk_.on h hc hd k)) {d : Nat} {a : Nat} {e : Nat} (h : sk_ t len d a e) : motive d a e h := by
  have key : ∃ hk : sk_ t len d a e, motive d a e hk := h (fun d a e => ∃ hk : sk_ t len d a e, motive d a e hk)
    (by intros; exact ⟨sk_.fin, fin⟩)
    (by rintro _ h hc; exact ⟨sk_.stop h hc, stop h hc⟩)
    (by rintro _ _ _ h hc ⟨k, ih⟩; exact ⟨sk_.up h hc k, up h hc k ih⟩)
    (by rintro _ _ _ h hc ⟨k, ih⟩; exact ⟨sk_.down h hc k, down h hc k ih⟩)
    (by rintro _ _ _ h hc hd ⟨k, ih⟩; exact ⟨sk_.on h hc hd k, on h hc hd k ih⟩)
  obtain ⟨hk, hm⟩ := key
  exact hm
theorem sk_le {t : Nat → Int} {len d a e : Nat} (h : sk_ t len d a e) : a ≤ e ∧ e ≤ len := by
  induction h using sk_.ind with
  | fin => omega
  | stop => omega
  | up => omega
  | down => omega
  | on => omega
/-- the value of k digits from a -/
def dn_ (t : Nat → Int) (a : Nat) : Nat → Nat
  | 0 => 0
  | k + 1 => 10 * dn_ t a k + (t (a + k) - 48).toNat
/-- a number from p to e; its digits begin at a -/
def nm_ (t : Nat → Int) (len p a e : Nat) : Prop := ((a = p ∧ t p ≠ 45) ∨ (a = p + 1 ∧ t p = 45)) ∧ a < e ∧ e ≤ len ∧ (∀ i, a ≤ i → i < e → 48 ≤ t i ∧ t i ≤ 57) ∧ (e = len ∨ t e = 32 ∨ t e = 41)
abbrev bk_ : Type := Int × Nat × Nat
/-- working out: from a start of an expression (true) or behind a part (false), at place p, with brackets and values -/
def Ev (t : Nat → Int) (len : Nat) (var : Nat → qv_) (md : Bool) (p : Nat) (st : List bk_) (m : Nat) (f : Nat → qv_) (r : Int × qv_) : Prop := ∀ P : Bool → Nat → List bk_ → Nat → (Nat → qv_) → Int × qv_ → Prop, (∀ {p : Nat} {st : List bk_} {m : Nat} {f : Nat → qv_} {r : Int × qv_}, p + 1 < len → t p = 40 → st.length < 12 → m < 60 → P false (p + 2) ((t (p + 1), m, 0) :: st) m f r → P true p st m f r) → (∀ {p : Nat} {st : List bk_} {m : Nat} {f : Nat → qv_} {r : Int × qv_}, p < len → (97 ≤ t p ∧ t p ≤ 104) → m < 60 → P false (p + 1) st (m + 1) (va_up f m (var (t p - 97).toNat)) r → P true p st m f r) → (∀ {p a e : Nat} {st : List bk_} {m : Nat} {f : Nat → qv_} {r : Int × qv_}, nm_ t len p a e → m < 60 → dn_ t a (e - a) < 2 ^ 240 → P false e st (m + 1) (va_up f m (if dn_ t a (e - a) = 0 then 0 else if t p = 45 then -1 else 1, dn_ t a (e - a), 1)) r → P true p st m f r) → (∀ {p a e : Nat} {st : List bk_} {m : Nat} {f : Nat → qv_} {r : qv_}, nm_ t len p a e → m < 60 → ¬ dn_ t a (e - a) < 2 ^ 240 → P true p st m f (1, r)) → (∀ {f : Nat → qv_}, P false len [] 1 f (0, f 0)) → (∀ {p : Nat} {op : Int} {b c : Nat} {st : List bk_} {m : Nat} {f : Nat → qv_} {r : Int × qv_}, p < len → t p = 41 → st.length < 12 → (b ≤ m ∧ m ≤ 60 ∧ b < 60) → ar_ op (m - b) → (q_app op (m - b) fun i => f (b + i)).1 = 0 → P false (p + 1) st (b + 1) (va_up f b (q_app op (m - b) fun i => f (b + i)).2) r → P false p ((op, b, c) :: st) m f r) → (∀ {p : Nat} {op : Int} {b c : Nat} {st : List bk_} {m : Nat} {f : Nat → qv_} {r : qv_}, p < len → t p = 41 → st.length < 12 → (b ≤ m ∧ m ≤ 60 ∧ b < 60) → ar_ op (m - b) → (q_app op (m - b) fun i => f (b + i)).1 ≠ 0 → P false p ((op, b, c) :: st) m f ((q_app op (m - b) fun i => f (b + i)).1, r)) → (∀ {p : Nat} {op : Int} {b c : Nat} {st : List bk_} {m : Nat} {f : Nat → qv_} {r : Int × qv_}, p < len → t p = 32 → st.length < 12 → (b ≤ m ∧ m ≤ 60 ∧ b < 60) → c < 120 → (op = 63 → (c = 0 ∧ m = b) ∨ (c = 1 ∧ m = b + 1 ∧ (f b).2.1 ≠ 0)) → P true (p + 1) ((op, b, c + 1) :: st) m f r → P false p ((op, b, c) :: st) m f r) → (∀ {p e : Nat} {b : Nat} {st : List bk_} {m : Nat} {f : Nat → qv_} {r : Int × qv_}, p < len → t p = 32 → st.length < 12 → b < 60 → m = b + 1 → (f b).2.1 = 0 → e < len → p + 1 < e → sk_ t len 0 (p + 1) e → t e = 32 → P true (e + 1) ((63, b, 3) :: st) m f r → P false p ((63, b, 1) :: st) m f r) → (∀ {p e : Nat} {b : Nat} {st : List bk_} {m : Nat} {f : Nat → qv_} {r : Int × qv_}, p < len → t p = 32 → st.length < 12 → b < 59 → m = b + 2 → (f b).2.1 ≠ 0 → e < len → p + 1 < e → sk_ t len 0 (p + 1) e → t e = 41 → P false e ((63, b, 3) :: st) m f r → P false p ((63, b, 2) :: st) m f r) → P md p st m f r
theorem Ev.opn {t : Nat → Int} {len : Nat} {var : Nat → qv_} {p : Nat} {st : List bk_} {m : Nat} {f : Nat → qv_} {r : Int × qv_} (hp : p + 1 < len) (hc : t p = 40) (ho : st.length < 12) (hm : m < 60) (k : Ev t len var false (p + 2) ((t (p + 1), m, 0) :: st) m f r) : Ev t len var true p st m f r := fun P c0 c1 c2 c3 c4 c5 c6 c7 c8 c9 => c0 hp hc ho hm (k P c0 c1 c2 c3 c4 c5 c6 c7 c8 c9)
theorem Ev.vr {t : Nat → Int} {len : Nat} {var : Nat → qv_} {p : Nat} {st : List bk_} {m : Nat} {f : Nat → qv_} {r : Int × qv_} (hp : p < len) (hc : (97 ≤ t p ∧ t p ≤ 104)) (hm : m < 60) (k : Ev t len var false (p + 1) st (m + 1) (va_up f m (var (t p - 97).toNat)) r) : Ev t len var true p st m f r := fun P c0 c1 c2 c3 c4 c5 c6 c7 c8 c9 => c1 hp hc hm (k P c0 c1 c2 c3 c4 c5 c6 c7 c8 c9)
theorem Ev.num {t : Nat → Int} {len : Nat} {var : Nat → qv_} {p a e : Nat} {st : List bk_} {m : Nat} {f : Nat → qv_} {r : Int × qv_} (hn : nm_ t len p a e) (hm : m < 60) (hv : dn_ t a (e - a) < 2 ^ 240) (k : Ev t len var false e st (m + 1) (va_up f m (if dn_ t a (e - a) = 0 then 0 else if t p = 45 then -1 else 1, dn_ t a (e - a), 1)) r) : Ev t len var true p st m f r := fun P c0 c1 c2 c3 c4 c5 c6 c7 c8 c9 => c2 hn hm hv (k P c0 c1 c2 c3 c4 c5 c6 c7 c8 c9)
theorem Ev.numF {t : Nat → Int} {len : Nat} {var : Nat → qv_} {p a e : Nat} {st : List bk_} {m : Nat} {f : Nat → qv_} {r : qv_} (hn : nm_ t len p a e) (hm : m < 60) (hv : ¬ dn_ t a (e - a) < 2 ^ 240) : Ev t len var true p st m f (1, r) := fun P c0 c1 c2 c3 c4 c5 c6 c7 c8 c9 => c3 hn hm hv
theorem Ev.fin {t : Nat → Int} {len : Nat} {var : Nat → qv_} {f : Nat → qv_} : Ev t len var false len [] 1 f (0, f 0) := fun P c0 c1 c2 c3 c4 c5 c6 c7 c8 c9 => c4 
theorem Ev.cls {t : Nat → Int} {len : Nat} {var : Nat → qv_} {p : Nat} {op : Int} {b c : Nat} {st : List bk_} {m : Nat} {f : Nat → qv_} {r : Int × qv_} (hp : p < len) (hc : t p = 41) (ho : st.length < 12) (hb : (b ≤ m ∧ m ≤ 60 ∧ b < 60)) (ha : ar_ op (m - b)) (h0 : (q_app op (m - b) fun i => f (b + i)).1 = 0) (k : Ev t len var false (p + 1) st (b + 1) (va_up f b (q_app op (m - b) fun i => f (b + i)).2) r) : Ev t len var false p ((op, b, c) :: st) m f r := fun P c0 c1 c2 c3 c4 c5 c6 c7 c8 c9 => c5 hp hc ho hb ha h0 (k P c0 c1 c2 c3 c4 c5 c6 c7 c8 c9)
theorem Ev.clsF {t : Nat → Int} {len : Nat} {var : Nat → qv_} {p : Nat} {op : Int} {b c : Nat} {st : List bk_} {m : Nat} {f : Nat → qv_} {r : qv_} (hp : p < len) (hc : t p = 41) (ho : st.length < 12) (hb : (b ≤ m ∧ m ≤ 60 ∧ b < 60)) (ha : ar_ op (m - b)) (h0 : (q_app op (m - b) fun i => f (b + i)).1 ≠ 0) : Ev t len var false p ((op, b, c) :: st) m f ((q_app op (m - b) fun i => f (b + i)).1, r) := fun P c0 c1 c2 c3 c4 c5 c6 c7 c8 c9 => c6 hp hc ho hb ha h0
theorem Ev.arg {t : Nat → Int} {len : Nat} {var : Nat → qv_} {p : Nat} {op : Int} {b c : Nat} {st : List bk_} {m : Nat} {f : Nat → qv_} {r : Int × qv_} (hp : p < len) (hc : t p = 32) (ho : st.length < 12) (hb : (b ≤ m ∧ m ≤ 60 ∧ b < 60)) (hk : c < 120) (hs : (op = 63 → (c = 0 ∧ m = b) ∨ (c = 1 ∧ m = b + 1 ∧ (f b).2.1 ≠ 0))) (k : Ev t len var true (p + 1) ((op, b, c + 1) :: st) m f r) : Ev t len var false p ((op, b, c) :: st) m f r := fun P c0 c1 c2 c3 c4 c5 c6 c7 c8 c9 => c7 hp hc ho hb hk hs (k P c0 c1 c2 c3 c4 c5 c6 c7 c8 c9)
theorem Ev.third {t : Nat → Int} {len : Nat} {var : Nat → qv_} {p e : Nat} {b : Nat} {st : List bk_} {m : Nat} {f : Nat → qv_} {r : Int × qv_} (hp : p < len) (hc : t p = 32) (ho : st.length < 12) (hb : b < 60) (hm : m = b + 1) (hz : (f b).2.1 = 0) (he : e < len) (hpe : p + 1 < e) (hk : sk_ t len 0 (p + 1) e) (hce : t e = 32) (k : Ev t len var true (e + 1) ((63, b, 3) :: st) m f r) : Ev t len var false p ((63, b, 1) :: st) m f r := fun P c0 c1 c2 c3 c4 c5 c6 c7 c8 c9 => c8 hp hc ho hb hm hz he hpe hk hce (k P c0 c1 c2 c3 c4 c5 c6 c7 c8 c9)
theorem Ev.rest {t : Nat → Int} {len : Nat} {var : Nat → qv_} {p e : Nat} {b : Nat} {st : List bk_} {m : Nat} {f : Nat → qv_} {r : Int × qv_} (hp : p < len) (hc : t p = 32) (ho : st.length < 12) (hb : b < 59) (hm : m = b + 2) (hz : (f b).2.1 ≠ 0) (he : e < len) (hpe : p + 1 < e) (hk : sk_ t len 0 (p + 1) e) (hce : t e = 41) (k : Ev t len var false e ((63, b, 3) :: st) m f r) : Ev t len var false p ((63, b, 2) :: st) m f r := fun P c0 c1 c2 c3 c4 c5 c6 c7 c8 c9 => c9 hp hc ho hb hm hz he hpe hk hce (k P c0 c1 c2 c3 c4 c5 c6 c7 c8 c9)
theorem Ev.ind {t : Nat → Int} {len : Nat} {var : Nat → qv_} {motive : ∀ (md : Bool) (p : Nat) (st : List bk_) (m : Nat) (f : Nat → qv_) (r : Int × qv_), Ev t len var md p st m f r → Prop} (opn : ∀ {p : Nat} {st : List bk_} {m : Nat} {f : Nat → qv_} {r : Int × qv_} (hp : p + 1 < len) (hc : t p = 40) (ho : st.length < 12) (hm : m < 60) (k : Ev t len var false (p + 2) ((t (p + 1), m, 0) :: st) m f r) (ih : motive false (p + 2) ((t (p + 1), m, 0) :: st) m f r k), motive true p st m f r (Ev.opn hp hc ho hm k)) (vr : ∀ {p : Nat} {st : List bk_} {m : Nat} {f : Nat → qv_} {r : Int × qv_} (hp : p < len) (hc : (97 ≤ t p ∧ t p ≤ 104)) (hm : m < 60) (k : Ev t len var false (p + 1) st (m + 1) (va_up f m (var (t p - 97).toNat)) r) (ih : motive false (p + 1) st (m + 1) (va_up f m (var (t p - 97).toNat)) r k), motive true p st m f r (Ev.vr hp hc hm k)) (num : ∀ {p a e : Nat} {st : List bk_} {m : Nat} {f : Nat → qv_} {r : Int × qv_} (hn : nm_ t len p a e) (hm : m < 60) (hv : dn_ t a (e - a) < 2 ^ 240) (k : Ev t len var false e st (m + 1) (va_up f m (if dn_ t a (e - a) = 0 then 0 else if t p = 45 then -1 else 1, dn_ t a (e - a), 1)) r) (ih : motive false e st (m + 1) (va_up f m (if dn_ t a (e - a) = 0 then 0 else if t p = 45 then -1 else 1, dn_ t a (e - a), 1)) r k), motive true p st m f r (Ev.num hn hm hv k)) (numF : ∀ {p a e : Nat} {st : List bk_} {m : Nat} {f : Nat → qv_} {r : qv_} (hn : nm_ t len p a e) (hm : m < 60) (hv : ¬ dn_ t a (e - a) < 2 ^ 240), motive true p st m f (1, r) (Ev.numF hn hm hv)) (fin : ∀ {f : Nat → qv_}, motive false len [] 1 f (0, f 0) Ev.fin) (cls : ∀ {p : Nat} {op : Int} {b c : Nat} {st : List bk_} {m : Nat} {f : Nat → qv_} {r : Int × qv_} (hp : p < len) (hc : t p = 41) (ho : st.length < 12) (hb : (b ≤ m ∧ m ≤ 60 ∧ b < 60)) (ha : ar_ op (m - b)) (h0 : (q_app op (m - b) fun i => f (b + i)).1 = 0) (k : Ev t len var false (p + 1) st (b + 1) (va_up f b (q_app op (m - b) fun i => f (b + i)).2) r) (ih : motive false (p + 1) st (b + 1) (va_up f b (q_app op (m - b) fun i => f (b + i)).2) r k), motive false p ((op, b, c) :: st) m f r (Ev.cls hp hc ho hb ha h0 k)) (clsF : ∀ {p : Nat} {op : Int} {b c : Nat} {st : List bk_} {m : Nat} {f : Nat → qv_} {r : qv_} (hp : p < len) (hc : t p = 41) (ho : st.length < 12) (hb : (b ≤ m ∧ m ≤ 60 ∧ b < 60)) (ha : ar_ op (m - b)) (h0 : (q_app op (m - b) fun i => f (b + i)).1 ≠ 0), motive false p ((op, b, c) :: st) m f ((q_app op (m - b) fun i => f (b + i)).1, r) (Ev.clsF hp hc ho hb ha h0)) (arg : ∀ {p : Nat} {op : Int} {b c : Nat} {st : List bk_} {m : Nat} {f : Nat → qv_} {r : Int × qv_} (hp : p < len) (hc : t p = 32) (ho : st.length < 12) (hb : (b ≤ m ∧ m ≤ 60 ∧ b < 60)) (hk : c < 120) (hs : (op = 63 → (c = 0 ∧ m = b) ∨ (c = 1 ∧ m = b + 1 ∧ (f b).2.1 ≠ 0))) (k : Ev t len var true (p + 1) ((op, b, c + 1) :: st) m f r) (ih : motive true (p + 1) ((op, b, c + 1) :: st) m f r k), motive false p ((op, b, c) :: st) m f r (Ev.arg hp hc ho hb hk hs k)) (third : ∀ {p e : Nat} {b : Nat} {st : List bk_} {m : Nat} {f : Nat → qv_} {r : Int × qv_} (hp : p < len) (hc : t p = 32) (ho : st.length < 12) (hb : b < 60) (hm : m = b + 1) (hz : (f b).2.1 = 0) (he : e < len) (hpe : p + 1 < e) (hk : sk_ t len 0 (p + 1) e) (hce : t e = 32) (k : Ev t len var true (e + 1) ((63, b, 3) :: st) m f r) (ih : motive true (e + 1) ((63, b, 3) :: st) m f r k), motive false p ((63, b, 1) :: st) m f r (Ev.third hp hc ho hb hm hz he hpe hk hce k)) (rest : ∀ {p e : Nat} {b : Nat} {st : List bk_} {m : Nat} {f : Nat → qv_} {r : Int × qv_} (hp : p < len) (hc : t p = 32) (ho : st.length < 12) (hb : b < 59) (hm : m = b + 2) (hz : (f b).2.1 ≠ 0) (he : e < len) (hpe : p + 1 < e) (hk : sk_ t len 0 (p + 1) e) (hce : t e = 41) (k : Ev t len var false e ((63, b, 3) :: st) m f r) (ih : motive false e ((63, b, 3) :: st) m f r k), motive false p ((63, b, 2) :: st) m f r (Ev.rest hp hc ho hb hm hz he hpe hk hce k)) {md : Bool} {p : Nat} {st : List bk_} {m : Nat} {f : Nat → qv_} {r : Int × qv_} (h : Ev t len var md p st m f r) : motive md p st m f r h := by
  have key : ∃ hk : Ev t len var md p st m f r, motive md p st m f r hk := h (fun md p st m f r => ∃ hk : Ev t len var md p st m f r, motive md p st m f r hk)
    (by rintro _ _ _ _ _ hp hc ho hm ⟨k, ih⟩; exact ⟨Ev.opn hp hc ho hm k, opn hp hc ho hm k ih⟩)
    (by rintro _ _ _ _ _ hp hc hm ⟨k, ih⟩; exact ⟨Ev.vr hp hc hm k, vr hp hc hm k ih⟩)
    (by rintro _ _ _ _ _ _ _ hn hm hv ⟨k, ih⟩; exact ⟨Ev.num hn hm hv k, num hn hm hv k ih⟩)
    (by rintro _ _ _ _ _ _ _ hn hm hv; exact ⟨Ev.numF hn hm hv, numF hn hm hv⟩)
    (by intros; exact ⟨Ev.fin, fin⟩)
    (by rintro _ _ _ _ _ _ _ _ hp hc ho hb ha h0 ⟨k, ih⟩; exact ⟨Ev.cls hp hc ho hb ha h0 k, cls hp hc ho hb ha h0 k ih⟩)
    (by rintro _ _ _ _ _ _ _ _ hp hc ho hb ha h0; exact ⟨Ev.clsF hp hc ho hb ha h0, clsF hp hc ho hb ha h0⟩)
    (by rintro _ _ _ _ _ _ _ _ hp hc ho hb hk hs ⟨k, ih⟩; exact ⟨Ev.arg hp hc ho hb hk hs k, arg hp hc ho hb hk hs k ih⟩)
    (by rintro _ _ _ _ _ _ _ hp hc ho hb hm hz he hpe hk hce ⟨k, ih⟩; exact ⟨Ev.third hp hc ho hb hm hz he hpe hk hce k, third hp hc ho hb hm hz he hpe hk hce k ih⟩)
    (by rintro _ _ _ _ _ _ _ hp hc ho hb hm hz he hpe hk hce ⟨k, ih⟩; exact ⟨Ev.rest hp hc ho hb hm hz he hpe hk hce k, rest hp hc ho hb hm hz he hpe hk hce k ih⟩)
  obtain ⟨hk, hm⟩ := key
  exact hm
/-! what acceptance says of the next character -/
theorem acc_lt {t : Nat → Int} {len p : Nat} {s : Int} {o : Nat} {g b : Nat → Int} (hp : p < len) (h : gr_at t len p s o g b = -1) : (ga_step s o g b (t p)).1 ≠ 5 ∧ gr_at t len (p + 1) (ga_step s o g b (t p)).1 (ga_step s o g b (t p)).2.1 (ga_step s o g b (t p)).2.2.1 (ga_step s o g b (t p)).2.2.2 = -1 := by
  by_cases c : (ga_step s o g b (t p)).1 = 5
  · rw [gr_bad hp c] at h
    omega
  · exact ⟨c, (gr_go hp rfl c).symm.trans h⟩
theorem acc_E {t : Nat → Int} {len p o : Nat} {g b : Nat → Int} (hp : p ≤ len) (h : gr_at t len p 0 o g b = -1) : p < len ∧
    (((48 ≤ t p ∧ t p ≤ 57) ∧ gr_at t len (p + 1) 3 o g b = -1) ∨ ((97 ≤ t p ∧ t p ≤ 104) ∧ gr_at t len (p + 1) 4 o g b = -1) ∨
     (t p = 45 ∧ p + 1 < len ∧ (48 ≤ t (p + 1) ∧ t (p + 1) ≤ 57) ∧ gr_at t len (p + 2) 3 o g b = -1) ∨
     (t p = 40 ∧ o < 12 ∧ p + 1 < len ∧ 0 ≤ opx_ (t (p + 1)) 0 13 ∧ gr_at t len (p + 2) 4 (o + 1) (va_up g o (opx_ (t (p + 1)) 0 13)) (va_up b o 0) = -1)) := by
  have hlt : p < len := by
    by_cases c : p < len
    · exact c
    · have e : p = len := by omega
      subst e
      rw [gr_end, if_neg (fun z => by have := z.2; omega)] at h
      omega
  refine ⟨hlt, ?_⟩
  obtain ⟨h1, h2⟩ := acc_lt hlt h
  rw [gs_start] at h1 h2
  change ga_start o (t p) ≠ 5 at h1
  change gr_at t len (p + 1) (ga_start o (t p)) o g b = -1 at h2
  unfold ga_start at h1 h2
  by_cases c1 : 48 ≤ t p ∧ t p ≤ 57
  · rw [if_pos c1] at h2
    exact Or.inl ⟨c1, h2⟩
  rw [if_neg c1] at h1 h2
  by_cases c2 : 97 ≤ t p ∧ t p ≤ 104
  · rw [if_pos c2] at h2
    exact Or.inr (Or.inl ⟨c2, h2⟩)
  rw [if_neg c2] at h1 h2
  by_cases c3 : t p = 45
  · rw [if_pos c3] at h2
    have hlt2 : p + 1 < len := by
      by_cases c : p + 1 < len
      · exact c
      · have e : p + 1 = len := by omega
        rw [e, gr_end, if_neg (fun z => by have := z.2; omega)] at h2
        omega
    obtain ⟨h3, h4⟩ := acc_lt hlt2 h2
    rw [gs_min] at h3 h4
    by_cases c4 : 48 ≤ t (p + 1) ∧ t (p + 1) ≤ 57
    · rw [if_pos c4] at h4
      exact Or.inr (Or.inr (Or.inl ⟨c3, hlt2, c4, h4⟩))
    · rw [if_neg c4] at h3
      exact absurd rfl h3
  rw [if_neg c3] at h1 h2
  by_cases c4 : t p = 40 ∧ o < 12
  · rw [if_pos c4] at h2
    have hlt2 : p + 1 < len := by
      by_cases c : p + 1 < len
      · exact c
      · have e : p + 1 = len := by omega
        rw [e, gr_end, if_neg (fun z => by have := z.2; omega)] at h2
        omega
    obtain ⟨h3, h4⟩ := acc_lt hlt2 h2
    rw [gs_op] at h3 h4
    unfold ga_op at h3 h4
    by_cases c5 : opx_ (t (p + 1)) 0 13 < 0
    · rw [if_pos c5] at h3
      exact absurd rfl h3
    · rw [if_neg c5] at h4
      exact Or.inr (Or.inr (Or.inr ⟨c4.1, c4.2, hlt2, by omega, h4⟩))
  rw [if_neg c4] at h1
  exact absurd rfl h1
theorem acc_D {t : Nat → Int} {len o : Nat} {g b : Nat → Int} : ∀ (d p : Nat), len < p + d → p ≤ len → gr_at t len p 3 o g b = -1 → ∃ e, p ≤ e ∧ e ≤ len ∧ (∀ i, p ≤ i → i < e → 48 ≤ t i ∧ t i ≤ 57) ∧ (e < len → ¬ (48 ≤ t e ∧ t e ≤ 57)) ∧ gr_at t len e 3 o g b = -1 := by
  intro d
  induction d with
  | zero => intro p h1 h2; omega
  | succ d ih =>
    intro p h1 h2 h
    by_cases c : p < len ∧ 48 ≤ t p ∧ t p ≤ 57
    · obtain ⟨a1, a2⟩ := acc_lt c.1 h
      rw [gs_dig (Or.inr (Or.inr rfl)) c.2] at a2
      obtain ⟨e, e1, e2, e3, e4, e5⟩ := ih (p + 1) (by omega) (by omega) a2
      refine ⟨e, by omega, e2, fun i i1 i2 => ?_, e4, e5⟩
      by_cases ci : i = p
      · rw [ci]; exact c.2
      · exact e3 i (by omega) i2
    · exact ⟨p, Nat.le_refl _, h2, fun i i1 i2 => absurd i1 (by omega), fun z y => c ⟨z, y⟩, h⟩
theorem acc_G {t : Nat → Int} {len p o : Nat} {s : Int} {g b : Nat → Int} (hp : p ≤ len) (hs : s = 4 ∨ (s = 3 ∧ (p < len → ¬ (48 ≤ t p ∧ t p ≤ 57)))) (h : gr_at t len p s o g b = -1) : (p = len ∧ o = 0) ∨ (p < len ∧ 0 < o ∧
    ((t p = 32 ∧ b (o - 1) < cx_mostI (g (o - 1)).toNat ∧ gr_at t len (p + 1) 0 o g (va_up b (o - 1) (b (o - 1) + 1)) = -1) ∨ (t p = 41 ∧ cx_fewI (g (o - 1)).toNat ≤ b (o - 1) ∧ gr_at t len (p + 1) 4 (o - 1) g b = -1))) := by
  by_cases c : p < len
  · right
    obtain ⟨h1, h2⟩ := acc_lt c h
    rw [gs_part (by rcases hs with e | e; exact Or.inl e; exact Or.inr ⟨e.1, e.2 c⟩)] at h1 h2
    unfold ga_part at h1 h2
    by_cases c0 : o = 0
    · rw [if_pos c0] at h1
      exact absurd rfl h1
    rw [if_neg c0] at h1 h2
    by_cases c1 : t p = 32 ∧ b (o - 1) < cx_mostI (g (o - 1)).toNat
    · rw [if_pos c1] at h2
      exact ⟨c, by omega, Or.inl ⟨c1.1, c1.2, h2⟩⟩
    rw [if_neg c1] at h1 h2
    by_cases c2 : t p = 41 ∧ cx_fewI (g (o - 1)).toNat ≤ b (o - 1)
    · rw [if_pos c2] at h2
      exact ⟨c, by omega, Or.inr ⟨c2.1, c2.2, h2⟩⟩
    rw [if_neg c2] at h1
    exact absurd rfl h1
  · left
    have e : p = len := by omega
    subst e
    rw [gr_end] at h
    by_cases c0 : o = 0
    · exact ⟨rfl, c0⟩
    · rw [if_neg (fun z => c0 z.1)] at h
      omega
theorem sk_digs {t : Nat → Int} {len e d : Nat} (k : sk_ t len d e e ∨ ∃ x, sk_ t len d e x ∧ x = e) : ∀ (j a : Nat), a + j = e → e ≤ len → (∀ i, a ≤ i → i < e → 48 ≤ t i ∧ t i ≤ 57) → sk_ t len d a e := by
  have k' : sk_ t len d e e := by
    rcases k with h | ⟨x, h1, h2⟩
    · exact h
    · rw [h2] at h1; exact h1
  intro j
  induction j with
  | zero => intro a h1 _ _; have : a = e := by omega
            rw [this]; exact k'
  | succ j ih =>
    intro a h1 h2 h3
    have := h3 a (Nat.le_refl _) (by omega)
    exact sk_.on (by omega) (by omega) (fun _ => by omega) (ih (a + 1) (by omega) h2 (fun i i1 i2 => h3 i (by omega) i2))
theorem sk_digs' {t : Nat → Int} {len e d x : Nat} (k : sk_ t len d e x) : ∀ (j a : Nat), a + j = e → e ≤ len → (∀ i, a ≤ i → i < e → 48 ≤ t i ∧ t i ≤ 57) → sk_ t len d a x := by
  intro j
  induction j with
  | zero => intro a h1 _ _; have : a = e := by omega
            rw [this]; exact k
  | succ j ih =>
    intro a h1 h2 h3
    have := h3 a (Nat.le_refl _) (by omega)
    exact sk_.on (by omega) (by omega) (fun _ => by omega) (ih (a + 1) (by omega) h2 (fun i i1 i2 => h3 i (by omega) i2))
theorem nm_sk {t : Nat → Int} {len p a e : Nat} (h : nm_ t len p a e) : sk_ t len 0 p e := by
  obtain ⟨h1, h2, h3, h4, h5⟩ := h
  have k : sk_ t len 0 e e := by
    by_cases c : e = len
    · rw [c]; exact sk_.fin
    · exact sk_.stop (by omega) (by omega)
  have k2 := sk_digs' k (e - a) a (by omega) h3 h4
  rcases h1 with ⟨e1, e2⟩ | ⟨e1, e2⟩
  · rw [← e1]; exact k2
  · refine sk_.on (by omega) (by omega) (fun _ => by omega) ?_
    rw [← e1]; exact k2
/-! skipping an argument of an accepted text -/
def sx_ (t : Nat → Int) (len o0 j a : Nat) (g b : Nat → Int) (strict : Bool) : Prop :=
  ∃ (e : Nat) (s : Int) (g' b' : Nat → Int), sk_ t len j a e ∧ e < len ∧ (strict = true → a < e) ∧ (s = 4 ∨ (s = 3 ∧ (e < len → ¬ (48 ≤ t e ∧ t e ≤ 57)))) ∧ (t e = 32 ∨ t e = 41) ∧ gr_at t len e s o0 g' b' = -1 ∧ ∀ i, i < o0 → g' i = g i ∧ b' i = b i
theorem skip_ex {t : Nat → Int} {len o0 : Nat} (ho : 0 < o0) : ∀ (d : Nat),
    (∀ (a j : Nat) (g b : Nat → Int), len < a + d → a ≤ len → gr_at t len a 0 (o0 + j) g b = -1 → sx_ t len o0 j a g b true) ∧
    (∀ (a j : Nat) (s : Int) (g b : Nat → Int), len < a + d → a ≤ len → (s = 4 ∨ (s = 3 ∧ (a < len → ¬ (48 ≤ t a ∧ t a ≤ 57)))) → gr_at t len a s (o0 + j) g b = -1 → sx_ t len o0 j a g b false) := by
  intro d
  induction d with
  | zero => exact ⟨fun a j g b h1 h2 => absurd h1 (by omega), fun a j s g b h1 h2 => absurd h1 (by omega)⟩
  | succ d ih =>
    obtain ⟨ihE, ihG⟩ := ih
    constructor
    · intro a j g b h1 h2 h
      obtain ⟨hlt, h3⟩ := acc_E h2 h
      rcases h3 with ⟨c, h4⟩ | ⟨c, h4⟩ | ⟨c, c1, c2, h4⟩ | ⟨c, c1, c2, c3, h4⟩
      · obtain ⟨e, e1, e2, e3, e4, e5⟩ := acc_D (len + 1) (a + 1) (by omega) (by omega) h4
        obtain ⟨x, s, g', b', x1, x2, x3, x4, x5, x6, x7⟩ := ihG e j 3 g b (by omega) e2 (Or.inr ⟨rfl, e4⟩) e5
        have := sk_le x1
        refine ⟨x, s, g', b', sk_digs' x1 (e - a) a (by omega) e2 (fun i i1 i2 => ?_), x2, fun _ => by omega, x4, x5, x6, x7⟩
        by_cases ci : i = a
        · rw [ci]; exact c
        · exact e3 i (by omega) i2
      · obtain ⟨x, s, g', b', x1, x2, x3, x4, x5, x6, x7⟩ := ihG (a + 1) j 4 g b (by omega) (by omega) (Or.inl rfl) h4
        have := sk_le x1
        exact ⟨x, s, g', b', sk_.on hlt (by omega) (fun _ => by omega) x1, x2, fun _ => by omega, x4, x5, x6, x7⟩
      · obtain ⟨e, e1, e2, e3, e4, e5⟩ := acc_D (len + 1) (a + 2) (by omega) (by omega) h4
        obtain ⟨x, s, g', b', x1, x2, x3, x4, x5, x6, x7⟩ := ihG e j 3 g b (by omega) e2 (Or.inr ⟨rfl, e4⟩) e5
        have := sk_le x1
        refine ⟨x, s, g', b', sk_.on hlt (by omega) (fun _ => by omega) (sk_digs' x1 (e - (a + 1)) (a + 1) (by omega) e2 (fun i i1 i2 => ?_)), x2, fun _ => by omega, x4, x5, x6, x7⟩
        by_cases ci : i = a + 1
        · rw [ci]; exact c2
        · exact e3 i (by omega) i2
      · have h5 : gr_at t len (a + 2) 4 (o0 + (j + 1)) (va_up g (o0 + j) (opx_ (t (a + 1)) 0 13)) (va_up b (o0 + j) 0) = -1 := h4
        obtain ⟨x, s, g', b', x1, x2, x3, x4, x5, x6, x7⟩ := ihG (a + 2) (j + 1) 4 _ _ (by omega) (by omega) (Or.inl rfl) h5
        have := sk_le x1
        have hop := opx_iff.mp c3
        refine ⟨x, s, g', b', sk_.up hlt c (sk_.on c2 (by omega) (fun z => by omega) x1), x2, fun _ => by omega, x4, x5, x6, fun i hi => ?_⟩
        have := x7 i hi
        rw [va_up_ne _ _ (show i ≠ o0 + j by omega), va_up_ne _ _ (show i ≠ o0 + j by omega)] at this
        exact this
    · intro a j s g b h1 h2 hs h
      rcases acc_G h2 hs h with ⟨c1, c2⟩ | ⟨c1, c2, c3⟩
      · omega
      · by_cases cj : j = 0
        · subst cj
          have hc : t a = 32 ∨ t a = 41 := by
            rcases c3 with ⟨c3, -⟩ | ⟨c3, -⟩
            · exact Or.inl c3
            · exact Or.inr c3
          exact ⟨a, s, g, b, sk_.stop c1 hc, c1, fun z => absurd z (by decide), hs, hc, h, fun i _ => ⟨rfl, rfl⟩⟩
        · rcases c3 with ⟨c3, c4, c5⟩ | ⟨c3, c4, c5⟩
          · obtain ⟨x, s, g', b', x1, x2, x3, x4, x5, x6, x7⟩ := ihE (a + 1) j g _ (by omega) (by omega) c5
            refine ⟨x, s, g', b', sk_.on c1 (by omega) (fun z => absurd z cj) x1, x2, fun z => absurd z (by decide), x4, x5, x6, fun i hi => ?_⟩
            have := x7 i hi
            rw [va_up_ne _ _ (show i ≠ o0 + j - 1 by omega)] at this
            exact this
          · obtain ⟨i, hi⟩ : ∃ i, j = i + 1 := ⟨j - 1, by omega⟩
            subst hi
            have e : o0 + (i + 1) - 1 = o0 + i := by omega
            rw [e] at c5
            obtain ⟨x, s, g', b', x1, x2, x3, x4, x5, x6, x7⟩ := ihG (a + 1) i 4 g b (by omega) (by omega) (Or.inl rfl) c5
            exact ⟨x, s, g', b', sk_.down c1 c3 x1, x2, fun z => absurd z (by decide), x4, x5, x6, x7⟩
/-! the derivation exists -/
def rlE_ (op : Int) (k n : Nat) (z : qv_) : Prop := (op = 63 → (k = 1 ∧ n = 0) ∨ (k = 2 ∧ n = 1 ∧ z.2.1 ≠ 0) ∨ (k = 3 ∧ n = 1)) ∧ (op ≠ 63 → n + 1 = k)
def rlG_ (op : Int) (k n : Nat) (z : qv_) : Prop := (op = 63 → (k = 0 ∧ n = 0) ∨ (k = 1 ∧ n = 1) ∨ (k = 2 ∧ n = 2 ∧ z.2.1 ≠ 0) ∨ (k = 3 ∧ n = 2)) ∧ (op ≠ 63 → n = k)
def wfE_ (f : Nat → qv_) (p : Nat) : List bk_ → Nat → Prop
  | [], m => m = 0
  | (op, b, k) :: st, m => b ≤ m ∧ 2 * b + 2 ≤ p ∧ rlE_ op k (m - b) (f b) ∧ wfE_ f p st b
def wfG_ (f : Nat → qv_) (p : Nat) : List bk_ → Nat → Prop
  | [], m => m = 1
  | (op, b, k) :: st, m => b ≤ m ∧ 2 * b + 2 ≤ p ∧ rlG_ op k (m - b) (f b) ∧ wfE_ f p st b
def lk_ (g b : Nat → Int) : List bk_ → Prop
  | [] => True
  | (op, _, k) :: st => (0 ≤ g st.length ∧ g st.length ≤ 12) ∧ op = cx_opsI (g st.length).toNat ∧ b st.length = (k : Int) ∧ (k : Int) ≤ cx_mostI (g st.length).toNat ∧ lk_ g b st
theorem lk_ext {g b g' b' : Nat → Int} : ∀ (st : List bk_), lk_ g b st → (∀ i, i < st.length → g' i = g i ∧ b' i = b i) → lk_ g' b' st
  | [], _, _ => trivial
  | (op, x, k) :: st, h, he => by
    obtain ⟨h1, h2, h3, h4, h5⟩ := h
    obtain ⟨e1, e2⟩ := he st.length (by show st.length < st.length + 1; omega)
    refine ⟨by rw [e1]; exact h1, by rw [e1]; exact h2, by rw [e2]; exact h3, by rw [e1]; exact h4, lk_ext st h5 (fun i hi => he i (by show i < st.length + 1; omega))⟩
theorem wfE_ext {f f' : Nat → qv_} {p p' : Nat} (hp : p ≤ p') : ∀ (st : List bk_) (m : Nat), wfE_ f p st m → (∀ i, i < m → f' i = f i) → wfE_ f' p' st m
  | [], _, h, _ => h
  | (op, b, k) :: st, m, h, he => by
    obtain ⟨h1, h2, h3, h4⟩ := h
    refine ⟨h1, by omega, ⟨fun z => ?_, h3.2⟩, wfE_ext hp st b h4 (fun i hi => he i (by omega))⟩
    rcases h3.1 z with c | ⟨c1, c2, c3⟩ | c
    · exact Or.inl c
    · exact Or.inr (Or.inl ⟨c1, c2, by rw [he b (by omega)]; exact c3⟩)
    · exact Or.inr (Or.inr c)
theorem wf_push {f : Nat → qv_} {p p' m : Nat} {v : qv_} (hp : p ≤ p') : ∀ (st : List bk_), wfE_ f p st m → wfG_ (va_up f m v) p' st (m + 1)
  | [], h => by show m + 1 = 1; have : m = 0 := h; omega
  | (op, b, k) :: st, h => by
    obtain ⟨h1, h2, h3, h4⟩ := h
    refine ⟨by omega, by omega, ⟨fun z => ?_, fun z => by have := h3.2 z; omega⟩, wfE_ext hp st b h4 (fun i hi => va_up_ne _ _ (by omega))⟩
    rcases h3.1 z with c | ⟨c1, c2, c3⟩ | c
    · exact Or.inr (Or.inl (by omega))
    · exact Or.inr (Or.inr (Or.inl ⟨c1, by omega, by rw [va_up_ne _ _ (show b ≠ m by omega)]; exact c3⟩))
    · exact Or.inr (Or.inr (Or.inr (by omega)))
theorem ar_tab : ∀ i, i < 13 → (cx_opsI i = 63 → cx_fewI i = 3 ∧ cx_mostI i = 3) ∧ ((cx_opsI i = 43 ∨ cx_opsI i = 42 ∨ cx_opsI i = 103) ∨ ((cx_opsI i = 45 ∨ cx_opsI i = 47) ∧ cx_fewI i = 1) ∨ ((cx_opsI i = 113 ∨ cx_opsI i = 114 ∨ cx_opsI i = 94 ∨ cx_opsI i = 60 ∨ cx_opsI i = 61) ∧ cx_fewI i = 2 ∧ cx_mostI i = 2) ∨ ((cx_opsI i = 110 ∨ cx_opsI i = 100) ∧ cx_fewI i = 1 ∧ cx_mostI i = 1) ∨ cx_opsI i = 63) := by decide
theorem q_up_in {f : Nat → qv_} {m : Nat} {v : qv_} (h : ∀ i, i < m → q_in (f i)) (hv : q_in v) : ∀ i, i < m + 1 → q_in (va_up f m v i) := by
  intro i hi
  by_cases e : i = m
  · rw [e, va_up_self]; exact hv
  · rw [va_up_ne _ _ e]; exact h i (by omega)
theorem q_num_in {v : Nat} {c : Prop} [Decidable c] (h : v < 2 ^ 240) : q_in (if v = 0 then 0 else if c then -1 else 1, v, 1) := by
  refine q_mk ?_ ?_ h
  · split
    · omega
    · split <;> omega
  · split
    · omega
    · split <;> omega
theorem ev_ex {t : Nat → Int} {len : Nat} {var : Nat → qv_} (hl : len ≤ 120) (hvar : ∀ i, i < 8 → q_in (var i)) : ∀ (d : Nat),
    (∀ (p : Nat) (st : List bk_) (m : Nat) (f : Nat → qv_) (g b : Nat → Int), len < p + d → p ≤ len → st.length ≤ 12 → gr_at t len p 0 st.length g b = -1 → lk_ g b st → wfE_ f p st m → 2 * m ≤ p → (∀ i, i < m → q_in (f i)) → ∃ r, Ev t len var true p st m f r) ∧
    (∀ (p : Nat) (s : Int) (st : List bk_) (m : Nat) (f : Nat → qv_) (g b : Nat → Int), len < p + d → p ≤ len → (s = 4 ∨ (s = 3 ∧ (p < len → ¬ (48 ≤ t p ∧ t p ≤ 57)))) → st.length ≤ 12 → gr_at t len p s st.length g b = -1 → lk_ g b st → wfG_ f p st m → 2 * m ≤ p + 1 → (∀ i, i < m → q_in (f i)) → ∃ r, Ev t len var false p st m f r) := by
  intro d
  induction d with
  | zero => exact ⟨fun p st m f g b h1 h2 => absurd h1 (by omega), fun p s st m f g b h1 h2 => absurd h1 (by omega)⟩
  | succ d ih =>
    obtain ⟨ihE, ihG⟩ := ih
    constructor
    · intro p st m f g b h1 h2 h12 h hk hw hm hq
      obtain ⟨hlt, h3⟩ := acc_E h2 h
      have num : ∀ a e, nm_ t len p a e → p < e → (e < len → ¬ (48 ≤ t e ∧ t e ≤ 57)) → gr_at t len e 3 st.length g b = -1 → ∃ r, Ev t len var true p st m f r := fun a e hn hpe he hg => by
        by_cases c : dn_ t a (e - a) < 2 ^ 240
        · obtain ⟨r, hr⟩ := ihG e 3 st (m + 1) _ g b (by omega) hn.2.2.1 (Or.inr ⟨rfl, he⟩) h12 hg hk (wf_push (v := (if dn_ t a (e - a) = 0 then 0 else if t p = 45 then -1 else 1, dn_ t a (e - a), 1)) (Nat.le_of_lt hpe) st hw) (by omega) (q_up_in hq (q_num_in c))
          exact ⟨r, Ev.num hn (by omega) c hr⟩
        · exact ⟨(1, f 0), Ev.numF hn (by omega) c⟩
      have endc : ∀ e, e ≤ len → (e < len → ¬ (48 ≤ t e ∧ t e ≤ 57)) → gr_at t len e 3 st.length g b = -1 → e = len ∨ t e = 32 ∨ t e = 41 := fun e he hd hg => by
        rcases acc_G he (Or.inr ⟨rfl, hd⟩) hg with ⟨c1, -⟩ | ⟨-, -, c3⟩
        · exact Or.inl c1
        · rcases c3 with ⟨c3, -⟩ | ⟨c3, -⟩
          · exact Or.inr (Or.inl c3)
          · exact Or.inr (Or.inr c3)
      rcases h3 with ⟨c, h4⟩ | ⟨c, h4⟩ | ⟨c, c1, c2, h4⟩ | ⟨c, c1, c2, c3, h4⟩
      · obtain ⟨e, e1, e2, e3, e4, e5⟩ := acc_D (len + 1) (p + 1) (by omega) (by omega) h4
        refine num p e ⟨Or.inl ⟨rfl, by omega⟩, by omega, e2, fun i i1 i2 => ?_, endc e e2 e4 e5⟩ (by omega) e4 e5
        by_cases ci : i = p
        · rw [ci]; exact c
        · exact e3 i (by omega) i2
      · obtain ⟨r, hr⟩ := ihG (p + 1) 4 st (m + 1) _ g b (by omega) (by omega) (Or.inl rfl) h12 h4 hk (wf_push (v := var (t p - 97).toNat) (Nat.le_succ p) st hw) (by omega) (q_up_in hq (hvar _ (by omega)))
        exact ⟨r, Ev.vr hlt c (by omega) hr⟩
      · obtain ⟨e, e1, e2, e3, e4, e5⟩ := acc_D (len + 1) (p + 2) (by omega) (by omega) h4
        refine num (p + 1) e ⟨Or.inr ⟨rfl, c⟩, by omega, e2, fun i i1 i2 => ?_, endc e e2 e4 e5⟩ (by omega) e4 e5
        by_cases ci : i = p + 1
        · rw [ci]; exact c2
        · exact e3 i (by omega) i2
      · obtain ⟨x1, x2, x3⟩ := opx_b (c := t (p + 1)) 13 0
        have hB := cx_BM (opx_ (t (p + 1)) 0 13).toNat (by omega)
        obtain ⟨r, hr⟩ := ihG (p + 2) 4 ((t (p + 1), m, 0) :: st) m f _ _ (by omega) (by omega) (Or.inl rfl) (by show st.length + 1 ≤ 12; omega) h4
          ⟨by rw [va_up_self]; omega, by rw [va_up_self]; exact (x3 c3).2.symm, by rw [va_up_self]; rfl, by rw [va_up_self]; omega, lk_ext st hk (fun i hi => ⟨va_up_ne _ _ (by omega), va_up_ne _ _ (by omega)⟩)⟩
          ⟨Nat.le_refl _, by omega, ⟨fun _ => Or.inl ⟨rfl, by omega⟩, fun _ => by omega⟩, wfE_ext (by omega) st m hw (fun _ _ => rfl)⟩ (by omega) hq
        exact ⟨r, Ev.opn c2 c c1 (by omega) hr⟩
    · intro p s st m f g b h1 h2 hs h12 h hk hw hm hq
      rcases acc_G h2 hs h with ⟨c1, c2⟩ | ⟨c1, c2, c3⟩
      · cases st with
        | nil =>
          have hm1 : m = 1 := hw
          subst hm1
          subst c1
          exact ⟨_, Ev.fin⟩
        | cons x st => exact absurd c2 (by show ¬ st.length + 1 = 0; omega)
      · cases st with
        | nil => exact absurd c2 (by show ¬ 0 < 0; omega)
        | cons x st =>
          obtain ⟨op, bs, k⟩ := x
          obtain ⟨k1, k2, k3, k4, k5⟩ := hk
          obtain ⟨w1, w2, w3, w4⟩ := hw
          have e0 : ((op, bs, k) :: st).length - 1 = st.length := rfl
          have h12' : st.length < 12 := h12
          rw [e0] at c3
          have tab := ar_tab (g st.length).toNat (by omega)
          have bm := cx_BM (g st.length).toNat (by omega)
          rw [← k2] at tab
          rcases c3 with ⟨c3, c4, c5⟩ | ⟨c3, c4, c5⟩
          · -- another argument
            have lk2 : ∀ j : Nat, (j : Int) ≤ cx_mostI (g st.length).toNat → lk_ g (va_up b st.length (j : Int)) ((op, bs, j) :: st) := fun j hj =>
              ⟨k1, k2, va_up_self _ _ _, hj, lk_ext st k5 (fun i hi => ⟨rfl, va_up_ne _ _ (by omega)⟩)⟩
            have eb : b st.length + 1 = ((k + 1 : Nat) : Int) := by omega
            rw [eb] at c5
            have arg : (op = 63 → (k = 0 ∧ m = bs) ∨ (k = 1 ∧ m = bs + 1 ∧ (f bs).2.1 ≠ 0)) → ∃ r, Ev t len var false p ((op, bs, k) :: st) m f r := fun ha => by
              obtain ⟨r, hr⟩ := ihE (p + 1) ((op, bs, k + 1) :: st) m f g _ (by omega) (by omega) h12 c5 (lk2 (k + 1) (by omega))
                ⟨w1, by omega, ⟨fun z => by
                  rcases ha z with ⟨a1, a2⟩ | ⟨a1, a2, a3⟩
                  · exact Or.inl (by omega)
                  · exact Or.inr (Or.inl ⟨by omega, by omega, a3⟩), fun z => by have := w3.2 z; omega⟩, wfE_ext (by omega) st bs w4 (fun _ _ => rfl)⟩ (by omega) hq
              exact ⟨r, Ev.arg c1 c3 h12' (by omega) (by omega) ha hr⟩
            by_cases c63 : op = 63
            · have t63 := tab.1 c63
              rcases w3.1 c63 with ⟨a1, a2⟩ | ⟨a1, a2⟩ | ⟨a1, a2, a3⟩ | ⟨a1, a2⟩
              · exact arg (fun _ => Or.inl (by omega))
              · by_cases cz : (f bs).2.1 = 0
                · obtain ⟨e, s', g', b', x1, x2, x3, x4, x5, x6, x7⟩ := (skip_ex (t := t) (len := len) (o0 := st.length + 1) (by omega) (len + 1)).1 (p + 1) 0 g _ (by omega) (by omega) c5
                  have hpe := x3 rfl
                  obtain ⟨y1, y2⟩ := x7 st.length (by omega)
                  rw [va_up_self] at y2
                  rcases acc_G (Nat.le_of_lt x2) x4 x6 with ⟨z1, -⟩ | ⟨-, -, z3⟩
                  · omega
                  · have e1 : st.length + 1 - 1 = st.length := rfl
                    rw [e1, y1, y2] at z3
                    rcases z3 with ⟨z3, z4, z5⟩ | ⟨z3, z4, z5⟩
                    · subst c63
                      have e3 : ((k + 1 : Nat) : Int) + 1 = ((3 : Nat) : Int) := by omega
                      rw [e3] at z5
                      obtain ⟨r, hr⟩ := ihE (e + 1) ((63, bs, 3) :: st) m f g' _ (by omega) (by omega) h12 z5
                        ⟨by rw [y1]; exact k1, by rw [y1]; exact k2, va_up_self _ _ _, by rw [y1]; omega, lk_ext st k5 (fun i hi => ⟨(x7 i (by omega)).1, by rw [va_up_ne _ _ (show i ≠ st.length by omega), (x7 i (by omega)).2, va_up_ne _ _ (show i ≠ st.length by omega)]⟩)⟩
                        ⟨w1, by omega, ⟨fun _ => Or.inr (Or.inr ⟨rfl, a2⟩), fun z => absurd rfl z⟩, wfE_ext (by omega) st bs w4 (fun _ _ => rfl)⟩ (by omega) hq
                      subst a1
                      exact ⟨r, Ev.third c1 c3 h12' (by omega) (by omega) cz x2 hpe x1 z3 hr⟩
                    · omega
                · exact arg (fun _ => Or.inr ⟨a1, by omega, cz⟩)
              · obtain ⟨e, s', g', b', x1, x2, x3, x4, x5, x6, x7⟩ := (skip_ex (t := t) (len := len) (o0 := st.length + 1) (by omega) (len + 1)).1 (p + 1) 0 g _ (by omega) (by omega) c5
                have hpe := x3 rfl
                obtain ⟨y1, y2⟩ := x7 st.length (by omega)
                rw [va_up_self] at y2
                have hce : t e = 41 := by
                  rcases acc_G (Nat.le_of_lt x2) x4 x6 with ⟨z1, -⟩ | ⟨-, -, z3⟩
                  · omega
                  · have e1 : st.length + 1 - 1 = st.length := rfl
                    rw [e1, y1, y2] at z3
                    rcases z3 with ⟨z3, z4, z5⟩ | ⟨z3, z4, z5⟩
                    · omega
                    · exact z3
                subst c63
                subst a1
                obtain ⟨r, hr⟩ := ihG e s' ((63, bs, 3) :: st) m f g' b' (by omega) (by omega) x4 h12 x6
                  ⟨by rw [y1]; exact k1, by rw [y1]; exact k2, y2, by rw [y1]; omega, lk_ext st k5 (fun i hi => ⟨(x7 i (by omega)).1, by rw [(x7 i (by omega)).2, va_up_ne _ _ (show i ≠ st.length by omega)]⟩)⟩
                  ⟨w1, by omega, ⟨fun _ => Or.inr (Or.inr (Or.inr ⟨rfl, a2⟩)), fun z => absurd rfl z⟩, wfE_ext (by omega) st bs w4 (fun _ _ => rfl)⟩ (by omega) hq
                exact ⟨r, Ev.rest c1 c3 h12' (by omega) (by omega) a3 x2 hpe x1 hce hr⟩
              · omega
            · exact arg (fun z => absurd z c63)
          · -- the bracket's end
            have har : ar_ op (m - bs) := by
              have r1 := w3.1
              have r2 := w3.2
              unfold ar_
              by_cases c63 : op = 63
              · have := tab.1 c63
                have := r1 c63
                exact Or.inr (Or.inr (Or.inl ⟨by omega, by omega⟩))
              · have := r2 c63
                rcases tab.2 with t1 | ⟨t1, t2⟩ | ⟨t1, t2, t3⟩ | ⟨t1, t2, t3⟩ | t1
                · exact Or.inl t1
                · exact Or.inr (Or.inl ⟨t1, by omega⟩)
                · exact Or.inr (Or.inr (Or.inl ⟨by omega, by omega⟩))
                · exact Or.inr (Or.inr (Or.inr ⟨t1, by omega⟩))
                · exact absurd t1 c63
            by_cases c0 : (q_app op (m - bs) fun i => f (bs + i)).1 = 0
            · have hqv := q_app_in (f := fun i => f (bs + i)) har (fun j hj => hq (bs + j) (by omega)) c0
              obtain ⟨r, hr⟩ := ihG (p + 1) 4 st (bs + 1) _ g b (by omega) (by omega) (Or.inl rfl) (by omega) c5 k5 (wf_push (v := (q_app op (m - bs) fun i => f (bs + i)).2) (Nat.le_succ p) st w4) (by omega) (q_up_in (fun i hi => hq i (by omega)) hqv)
              exact ⟨r, Ev.cls c1 c3 h12' (by omega) har c0 hr⟩
            · exact ⟨_, Ev.clsF (r := f 0) c1 c3 h12' (by omega) har c0⟩
/-- every accepted text has a derivation -/
theorem ev_all {t : Nat → Int} {len : Nat} {var : Nat → qv_} {g b : Nat → Int} (f : Nat → qv_) (hl : len ≤ 120) (hvar : ∀ i, i < 8 → q_in (var i)) (h : gr_ t len len 0 0 g b = -1) : ∃ r, Ev t len var true 0 [] 0 f r :=
  (ev_ex hl hvar (len + 1)).1 0 [] 0 f g b (by omega) (by omega) (by show 0 ≤ 12; omega) h trivial rfl (by omega) (fun i hi => absurd hi (by omega))
