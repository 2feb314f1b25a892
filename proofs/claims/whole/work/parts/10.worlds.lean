/-! THE PURE MACHINE, part 1: values, cells and worlds by indices; ints, longs and references as integers. -/
abbrev mv_V : Type := Int ⊕ (Int ⊕ (Option Nat ⊕ Nat))
abbrev mv_I (z : Int) : mv_V := Sum.inl z
abbrev mv_L (z : Int) : mv_V := Sum.inr (Sum.inl z)
abbrev mv_R (i : Nat) : mv_V := Sum.inr (Sum.inr (Sum.inl (some i)))
abbrev mv_N : mv_V := Sum.inr (Sum.inr (Sum.inl none))
abbrev mv_X (k : Nat) : mv_V := Sum.inr (Sum.inr (Sum.inr k))
/-- what a value is in the machine: ad are the addresses of the world's cells, zt those of a few cells outside it -/
def mv_c (zt ad : Nat → Nat) : mv_V → Value
  | .inl z => .int (Int32.ofInt z)
  | .inr (.inl z) => .long (Int64.ofInt z)
  | .inr (.inr (.inl none)) => .null
  | .inr (.inr (.inl (some i))) => .ref (ad i)
  | .inr (.inr (.inr k)) => .ref (zt k)
def mv_k : mv_V → Nat
  | .inr (.inl _) => 2
  | _ => 1
def mv_w : Option mv_V → Bool
  | some (.inr (.inl _)) => true
  | _ => false
theorem mv_cat (zt ad : Nat → Nat) (v : mv_V) : (mv_c zt ad v).category = mv_k v := by
  rcases v with z | z | (_ | i) | k <;> rfl
theorem mv_sum (zt ad : Nat → Nat) (st : List mv_V) : ((st.map (mv_c zt ad)).map fun v => v.category).sum = (st.map mv_k).sum := by
  rw [List.map_map]
  congr 1
  exact List.map_congr_left fun v _ => mv_cat zt ad v
theorem mv_k2 {v : mv_V} (h : mv_k v = 2) : mv_w (some v) = true := by
  rcases v with z | z | (_ | i) | k <;> first | rfl | (exact absurd (show (1 : Nat) = 2 from h) (by decide))
abbrev mv_E : Type := (Nat × Nat × (Nat → Int)) ⊕ ((Nat × Nat × (Nat → Option Nat)) ⊕ (Nat × List mv_V))
abbrev mv_H : Type := Nat → mv_E
/-- an array of numbers: its kind (0 int, 1 long, 2 char), its length, its contents; one of references (3); an object -/
abbrev mv_A (t n : Nat) (f : Nat → Int) : mv_E := Sum.inl (t, n, f)
abbrev mv_Q (t n : Nat) (f : Nat → Option Nat) : mv_E := Sum.inr (Sum.inl (t, n, f))
abbrev mv_O (c : Nat) (fs : List mv_V) : mv_E := Sum.inr (Sum.inr (c, fs))
def mv_a (t : Nat) (f : Nat → Int) : (Nat → Int32) ⊕ (Nat → Int64) ⊕ (Nat → UInt32) ⊕ (Nat → UInt64) ⊕ (Nat → Option Nat) :=
  match t with
  | 1 => .inr (.inl fun j => Int64.ofInt (f j))
  | _ => .inl fun j => Int32.ofInt (f j)
def mv_e (ca : Nat → ClassId) (zt ad : Nat → Nat) : mv_E → va_E
  | .inl (t, n, f) => .inl (ca t, n, mv_a t f)
  | .inr (.inl (t, n, f)) => .inl (ca t, n, .inr (.inr (.inr (.inr fun j => (f j).map ad))))
  | .inr (.inr (c, fs)) => .inr (c, fs.map (mv_c zt ad))
def mv_W (ca : Nat → ClassId) (zt ad : Nat → Nat) (h : mv_H) (n : Nat) : va_W := (List.range (n - 1)).map fun i => (ad (i + 1), mv_e ca zt ad (h (i + 1)))
/-! references lie within the world -/
def ok_V (n : Nat) : mv_V → Prop
  | .inr (.inr (.inl (some i))) => 0 < i ∧ i < n
  | _ => True
def ok_E (n : Nat) : mv_E → Prop
  | .inl _ => True
  | .inr (.inl (_, _, f)) => ∀ j i, f j = some i → 0 < i ∧ i < n
  | .inr (.inr (_, fs)) => ∀ v ∈ fs, ok_V n v
def ok_H (n : Nat) (h : mv_H) : Prop := 0 < n ∧ ∀ i, (0 < i ∧ i < n) → ok_E n (h i)
def ok_S (n : Nat) (st : List mv_V) : Prop := ∀ v ∈ st, ok_V n v
def ok_L (n : Nat) (L : List (Option mv_V)) : Prop := ∀ (i : Nat) (v : mv_V), L[i]? = some (some v) → ok_V n v
theorem ok_V.mono {n m : Nat} {v : mv_V} (hm : n ≤ m) (h : ok_V n v) : ok_V m v := by
  rcases v with z | z | (_ | i) | k
  · exact trivial
  · exact trivial
  · exact trivial
  · exact ⟨h.1, Nat.lt_of_lt_of_le h.2 hm⟩
  · exact trivial
theorem ok_E.mono {n m : Nat} {x : mv_E} (hm : n ≤ m) (h : ok_E n x) : ok_E m x := by
  rcases x with ⟨t, n', f⟩ | ⟨t, n', f⟩ | ⟨c, fs⟩
  · exact trivial
  · exact fun j i hj => ⟨(h j i hj).1, Nat.lt_of_lt_of_le (h j i hj).2 hm⟩
  · exact fun v hv => (h v hv).mono hm
theorem ok_S.mono {n m : Nat} {st : List mv_V} (hm : n ≤ m) (h : ok_S n st) : ok_S m st := fun v hv => (h v hv).mono hm
theorem ok_L.mono {n m : Nat} {L : List (Option mv_V)} (hm : n ≤ m) (h : ok_L n L) : ok_L m L := fun i v hv => (h i v hv).mono hm
theorem ok_S.hd {n : Nat} {v : mv_V} {st : List mv_V} (h : ok_S n (v :: st)) : ok_V n v := h v List.mem_cons_self
theorem ok_S.tl {n : Nat} {v : mv_V} {st : List mv_V} (h : ok_S n (v :: st)) : ok_S n st := fun w hw => h w (List.mem_cons_of_mem _ hw)
theorem ok_S.cons {n : Nat} {v : mv_V} {st : List mv_V} (hv : ok_V n v) (h : ok_S n st) : ok_S n (v :: st) := fun w hw => by
  rcases List.mem_cons.mp hw with rfl | hw
  · exact hv
  · exact h w hw
theorem ok_S.app {n : Nat} {s1 s2 : List mv_V} (h1 : ok_S n s1) (h2 : ok_S n s2) : ok_S n (s1 ++ s2) := fun w hw => by
  rcases List.mem_append.mp hw with hw | hw
  · exact h1 w hw
  · exact h2 w hw
theorem ok_S.left {n : Nat} {s1 s2 : List mv_V} (h : ok_S n (s1 ++ s2)) : ok_S n s1 := fun w hw => h w (List.mem_append_left _ hw)
theorem ok_S.right {n : Nat} {s1 s2 : List mv_V} (h : ok_S n (s1 ++ s2)) : ok_S n s2 := fun w hw => h w (List.mem_append_right _ hw)
theorem ok_S.nil {n : Nat} : ok_S n [] := fun w hw => by cases hw
theorem ok_S.rev {n : Nat} {st : List mv_V} (h : ok_S n st.reverse) : ok_S n st := fun w hw => h w (List.mem_reverse.mpr hw)
theorem mv_c_congr {n : Nat} {zt ad ad' : Nat → Nat} {v : mv_V} (h : ok_V n v) (ha : ∀ i, i < n → ad' i = ad i) : mv_c zt ad' v = mv_c zt ad v := by
  rcases v with z | z | (_ | i) | k
  · rfl
  · rfl
  · rfl
  · show Value.ref (ad' i) = Value.ref (ad i)
    rw [ha i h.2]
  · rfl
theorem mv_map_congr {n : Nat} {zt ad ad' : Nat → Nat} {st : List mv_V} (h : ok_S n st) (ha : ∀ i, i < n → ad' i = ad i) : st.map (mv_c zt ad') = st.map (mv_c zt ad) :=
  List.map_congr_left fun v hv => mv_c_congr (h v hv) ha
theorem mv_e_congr {n : Nat} {ca : Nat → ClassId} {zt ad ad' : Nat → Nat} {x : mv_E} (h : ok_E n x) (ha : ∀ i, i < n → ad' i = ad i) : mv_e ca zt ad' x = mv_e ca zt ad x := by
  rcases x with ⟨t, n', f⟩ | ⟨t, n', f⟩ | ⟨c, fs⟩
  · rfl
  · show (Sum.inl (ca t, n', Sum.inr (Sum.inr (Sum.inr (Sum.inr fun j => (f j).map ad')))) : va_E) = Sum.inl (ca t, n', Sum.inr (Sum.inr (Sum.inr (Sum.inr fun j => (f j).map ad))))
    have hf : (fun j => (f j).map ad') = fun j => (f j).map ad := by
      funext j
      cases hj : f j with
      | none => rfl
      | some i => simp [ha i (h j i hj).2]
    rw [hf]
  · show (Sum.inr (c, fs.map (mv_c zt ad')) : va_E) = Sum.inr (c, fs.map (mv_c zt ad))
    rw [mv_map_congr (st := fs) h ha]
theorem mv_W_at {ca : Nat → ClassId} {zt ad : Nat → Nat} {h : mv_H} {n i : Nat} (hi : 0 < i ∧ i < n) : (mv_W ca zt ad h n)[i - 1]? = some (ad i, mv_e ca zt ad (h i)) := by
  obtain ⟨j, rfl⟩ : ∃ j, i = j + 1 := ⟨i - 1, by omega⟩
  have hj : j < n - 1 := by omega
  simp [mv_W, hj]
theorem mv_W_is {ca : Nat → ClassId} {zt ad : Nat → Nat} {h : mv_H} {n i : Nat} {x : mv_E} (hi : 0 < i ∧ i < n) (hx : h i = x) : (mv_W ca zt ad h n)[i - 1]? = some (ad i, mv_e ca zt ad x) := by
  rw [mv_W_at hi, hx]
theorem mv_W_j {ca : Nat → ClassId} {zt ad : Nat → Nat} {h : mv_H} {n j : Nat} (hj : j + 1 < n) : (mv_W ca zt ad h n)[j]? = some (ad (j + 1), mv_e ca zt ad (h (j + 1))) := by
  have := mv_W_at (ca := ca) (zt := zt) (ad := ad) (h := h) (n := n) (i := j + 1) ⟨by omega, hj⟩
  rw [Nat.add_sub_cancel] at this
  exact this
theorem mv_W_n {ca : Nat → ClassId} {zt ad : Nat → Nat} {h : mv_H} {n j : Nat} (hj : ¬ j + 1 < n) : (mv_W ca zt ad h n)[j]? = none := by
  refine List.getElem?_eq_none ?_
  unfold mv_W
  rw [List.length_map, List.length_range]
  omega
theorem mv_W_set {ca : Nat → ClassId} {zt ad : Nat → Nat} {h : mv_H} {n i : Nat} {x : mv_E} (hi : 0 < i) : (mv_W ca zt ad h n).set (i - 1) (ad i, mv_e ca zt ad x) = mv_W ca zt ad (va_up h i x) n := by
  obtain ⟨k, rfl⟩ : ∃ k, i = k + 1 := ⟨i - 1, by omega⟩
  rw [Nat.add_sub_cancel]
  apply List.ext_getElem?
  intro j
  by_cases hj : j = k
  · subst hj
    by_cases hl : j + 1 < n
    · rw [mv_W_j hl, va_up_self, List.getElem?_set_self]
      unfold mv_W
      rw [List.length_map, List.length_range]
      omega
    · rw [mv_W_n hl]
      refine List.getElem?_eq_none ?_
      rw [List.length_set]
      unfold mv_W
      rw [List.length_map, List.length_range]
      omega
  · rw [List.getElem?_set_ne (Ne.symm hj)]
    by_cases hl : j + 1 < n
    · rw [mv_W_j hl, mv_W_j hl, va_up_ne _ _ (by omega)]
    · rw [mv_W_n hl, mv_W_n hl]
theorem mv_W_push {ca : Nat → ClassId} {zt ad : Nat → Nat} {h : mv_H} {n q : Nat} {x : mv_E} {e : va_E} (oh : ok_H n h) (he : mv_e ca zt (va_up ad n q) x = e) : mv_W ca zt ad h n ++ [(q, e)] = mv_W ca zt (va_up ad n q) (va_up h n x) (n + 1) := by
  subst he
  obtain ⟨h0, oh⟩ := oh
  obtain ⟨m, rfl⟩ : ∃ m, n = m + 1 := ⟨n - 1, by omega⟩
  unfold mv_W
  rw [Nat.add_sub_cancel, Nat.add_sub_cancel, List.range_succ, List.map_append]
  congr 1
  · apply List.map_congr_left
    intro i hi
    have hl : i < m := List.mem_range.mp hi
    have hne : i + 1 ≠ m + 1 := by omega
    rw [va_up_ne _ _ hne, va_up_ne _ _ hne, mv_e_congr (oh (i + 1) ⟨by omega, by omega⟩) (fun j hj => va_up_ne _ _ (Nat.ne_of_lt hj))]
  · simp [va_up_self]
theorem ok_H.up {n i : Nat} {h : mv_H} {x : mv_E} (oh : ok_H n h) (ox : ok_E n x) : ok_H n (va_up h i x) := by
  refine ⟨oh.1, fun j hj => ?_⟩
  by_cases hji : j = i
  · subst hji
    rw [va_up_self]
    exact ox
  · rw [va_up_ne _ _ hji]
    exact oh.2 j hj
theorem ok_H.push {n : Nat} {h : mv_H} {x : mv_E} (oh : ok_H n h) (ox : ok_E (n + 1) x) : ok_H (n + 1) (va_up h n x) := by
  refine ⟨Nat.succ_pos _, fun j hj => ?_⟩
  by_cases hji : j = n
  · subst hji
    rw [va_up_self]
    exact ox
  · rw [va_up_ne _ _ hji]
    exact (oh.2 j (by omega)).mono (Nat.le_succ n)
/-! the locals: a list by their places; 'none' is a place that is not known -/
def mv_ls (zt ad : Nat → Nat) (ls : Array Slot) (nL : Nat) (L : List (Option mv_V)) : Prop := ls.size = nL ∧ lv_wf ls ∧ ∀ (i : Nat) (v : mv_V), L[i]? = some (some v) → ls[i]? = some (.val (mv_c zt ad v))
def mv_al (zt ad : Nat → Nat) (L : List (Option mv_V)) : List (Nat × Value) := L.zipIdx.filterMap fun q => q.1.map fun v => (q.2, mv_c zt ad v)
theorem mv_al_in {zt ad : Nat → Nat} {L : List (Option mv_V)} {i : Nat} {v : mv_V} (h : L[i]? = some (some v)) : (i, mv_c zt ad v) ∈ mv_al zt ad L :=
  List.mem_filterMap.mpr ⟨(some v, i), List.mk_mem_zipIdx_iff_getElem?.mpr h, rfl⟩
theorem mv_ls.has {zt ad : Nat → Nat} {ls : Array Slot} {nL : Nat} {L : List (Option mv_V)} (h : mv_ls zt ad ls nL L) : lv_has ls nL (mv_al zt ad L) := by
  refine ⟨h.1, h.2.1, fun q hq => ?_⟩
  obtain ⟨⟨o, i⟩, h1, h2⟩ := List.mem_filterMap.mp hq
  have h3 : L[i]? = some o := List.mk_mem_zipIdx_iff_getElem?.mp h1
  cases o with
  | none => cases h2
  | some v =>
    cases h2
    exact h.2.2 i v h3
theorem mv_ls.congr {n : Nat} {zt ad ad' : Nat → Nat} {ls : Array Slot} {nL : Nat} {L : List (Option mv_V)} (h : mv_ls zt ad ls nL L) (ol : ok_L n L) (ha : ∀ i, i < n → ad' i = ad i) : mv_ls zt ad' ls nL L :=
  ⟨h.1, h.2.1, fun i v hv => by rw [mv_c_congr (ol i v hv) ha]; exact h.2.2 i v hv⟩
def mv_kl : List (Option mv_V) → List (Option mv_V)
  | [] => []
  | _ :: L => none :: L
def mv_st : List (Option mv_V) → Nat → mv_V → List (Option mv_V)
  | [], _, _ => []
  | _ :: L, 0, v => some v :: (if mv_k v = 2 then mv_kl L else L)
  | o :: L, i + 1, v => (if i = 0 ∧ mv_w o = true then none else o) :: mv_st L i v
theorem mv_st_spec {v w : mv_V} : ∀ (L : List (Option mv_V)) (i j : Nat), (mv_st L i v)[j]? = some (some w) →
    (j = i ∧ w = v) ∨ (j ≠ i ∧ L[j]? = some (some w) ∧ ¬ (j + 1 = i ∧ mv_k w = 2) ∧ ¬ (j = i + 1 ∧ mv_k v = 2))
  | [], _, _, h => by simp [mv_st] at h
  | o :: L, 0, 0, h => by
    have h' : some (some v) = some (some w) := h
    cases h'
    exact Or.inl ⟨rfl, rfl⟩
  | o :: L, 0, j + 1, h => by
    refine Or.inr ⟨by omega, ?_⟩
    have h' : (if mv_k v = 2 then mv_kl L else L)[j]? = some (some w) := h
    by_cases hv : mv_k v = 2
    · rw [if_pos hv] at h'
      cases L with
      | nil => simp [mv_kl] at h'
      | cons o' L' =>
        cases j with
        | zero => cases h'
        | succ j' => exact ⟨h', by omega, by omega⟩
    · rw [if_neg hv] at h'
      exact ⟨h', by omega, fun q => hv q.2⟩
  | o :: L, i + 1, 0, h => by
    refine Or.inr ⟨by omega, ?_⟩
    have h' : some (if i = 0 ∧ mv_w o = true then none else o) = some (some w) := h
    by_cases hv : i = 0 ∧ mv_w o = true
    · rw [if_pos hv] at h'
      cases h'
    · rw [if_neg hv] at h'
      have ho : o = some w := Option.some.inj h'
      refine ⟨h', fun q => hv ⟨by omega, ?_⟩, by omega⟩
      rw [ho]
      exact mv_k2 q.2
  | o :: L, i + 1, j + 1, h => by
    have h' : (mv_st L i v)[j]? = some (some w) := h
    rcases mv_st_spec L i j h' with ⟨h1, h2⟩ | ⟨h1, h2, h3, h4⟩
    · exact Or.inl ⟨by omega, h2⟩
    · exact Or.inr ⟨by omega, h2, fun q => h3 ⟨by omega, q.2⟩, fun q => h4 ⟨by omega, q.2⟩⟩
theorem ok_L.st {n : Nat} {L : List (Option mv_V)} {i : Nat} {v : mv_V} (h : ok_L n L) (hv : ok_V n v) : ok_L n (mv_st L i v) := by
  intro j w hw
  rcases mv_st_spec L i j hw with ⟨-, rfl⟩ | ⟨-, h2, -⟩
  · exact hv
  · exact h j w h2
theorem mv_ls_st1 {zt ad : Nat → Nat} {ls' : Array Slot} {nL i : Nat} {L : List (Option mv_V)} {v : mv_V} (hl : lv_has ls' nL ((i, mv_c zt ad v) :: (mv_al zt ad L).filter (fun q => !(q.1 == i) && !(q.1 + 1 == i && q.2.category == 2)))) : mv_ls zt ad ls' nL (mv_st L i v) := by
  refine ⟨hl.1, hl.2.1, fun j w hw => ?_⟩
  rcases mv_st_spec L i j hw with ⟨rfl, rfl⟩ | ⟨h1, h2, h3, -⟩
  · exact hl.2.2 _ List.mem_cons_self
  · refine hl.2.2 (j, mv_c zt ad w) (List.mem_cons_of_mem _ (List.mem_filter.mpr ⟨mv_al_in h2, ?_⟩))
    have e1 : (j == i) = false := by simpa using h1
    have e2 : (j + 1 == i && (mv_c zt ad w).category == 2) = false := by
      rw [mv_cat]
      by_cases a : j + 1 = i
      · have : ¬ mv_k w = 2 := fun b => h3 ⟨a, b⟩
        simp [this]
      · simp [a]
    simp [e1, e2]
theorem mv_ls_st2 {zt ad : Nat → Nat} {ls' : Array Slot} {nL i : Nat} {L : List (Option mv_V)} {v : mv_V} (h2 : mv_k v = 2) (hl : lv_has ls' nL ((i, mv_c zt ad v) :: (mv_al zt ad L).filter (fun q => !(q.1 == i) && (!(q.1 == i + 1) && !(q.1 + 1 == i && q.2.category == 2))))) : mv_ls zt ad ls' nL (mv_st L i v) := by
  refine ⟨hl.1, hl.2.1, fun j w hw => ?_⟩
  rcases mv_st_spec L i j hw with ⟨rfl, rfl⟩ | ⟨h1, h2', h3, h4⟩
  · exact hl.2.2 _ List.mem_cons_self
  · refine hl.2.2 (j, mv_c zt ad w) (List.mem_cons_of_mem _ (List.mem_filter.mpr ⟨mv_al_in h2', ?_⟩))
    have e1 : (j == i) = false := by simpa using h1
    have e3 : (j == i + 1) = false := by
      have : ¬ j = i + 1 := fun a => h4 ⟨a, h2⟩
      simpa using this
    have e2 : (j + 1 == i && (mv_c zt ad w).category == 2) = false := by
      rw [mv_cat]
      by_cases a : j + 1 = i
      · have : ¬ mv_k w = 2 := fun b => h3 ⟨a, b⟩
        simp [this]
      · simp [a]
    simp [e1, e2, e3]
/-! the locals with which a method begins -/
def mv_sl : List mv_V → List (Option mv_V)
  | [] => []
  | v :: vs => if mv_k v = 2 then some v :: none :: mv_sl vs else some v :: mv_sl vs
def mv_en (vs : List mv_V) (n : Nat) : List (Option mv_V) := mv_sl vs ++ List.replicate (n - (mv_sl vs).length) none
theorem mv_sl_len (zt ad : Nat → Nat) : ∀ vs : List mv_V, (lg_sl (vs.map (mv_c zt ad))).length = (mv_sl vs).length
  | [] => rfl
  | v :: vs => by
    have ih := mv_sl_len zt ad vs
    unfold lg_sl at ih ⊢
    rw [List.map_cons, List.flatMap_cons, List.length_append, ih, mv_cat, show mv_sl (v :: vs) = if mv_k v = 2 then some v :: none :: mv_sl vs else some v :: mv_sl vs from rfl]
    by_cases hv : mv_k v = 2
    · rw [if_pos hv, if_pos hv]
      simp only [List.length_cons, List.length_nil]
      omega
    · rw [if_neg hv, if_neg hv]
      simp only [List.length_cons, List.length_nil]
      omega
theorem mv_sl_at {zt ad : Nat → Nat} {w : mv_V} : ∀ (vs : List mv_V) (k i : Nat), (mv_sl vs)[i]? = some (some w) → (k + i, mv_c zt ad w) ∈ lv_args k (vs.map (mv_c zt ad))
  | [], _, _, h => by simp [mv_sl] at h
  | v :: vs, k, i, h => by
    unfold mv_sl at h
    rw [List.map_cons]
    unfold lv_args
    rw [mv_cat]
    by_cases hv : mv_k v = 2
    · rw [if_pos hv] at h ⊢
      match i, h with
      | 0, h => cases h; exact List.mem_cons_self
      | 1, h => cases h
      | i + 2, h =>
        have h' : (mv_sl vs)[i]? = some (some w) := h
        have := mv_sl_at (zt := zt) (ad := ad) vs (k + 2) i h'
        rw [show k + (i + 2) = k + 2 + i by omega]
        exact List.mem_cons_of_mem _ this
    · rw [if_neg hv] at h ⊢
      match i, h with
      | 0, h => cases h; exact List.mem_cons_self
      | i + 1, h =>
        have h' : (mv_sl vs)[i]? = some (some w) := h
        have := mv_sl_at (zt := zt) (ad := ad) vs (k + 1) i h'
        rw [show k + (i + 1) = k + 1 + i by omega]
        exact List.mem_cons_of_mem _ this
theorem mv_en_at {vs : List mv_V} {n i : Nat} {w : mv_V} (h : (mv_en vs n)[i]? = some (some w)) : (mv_sl vs)[i]? = some (some w) := by
  unfold mv_en at h
  by_cases hl : i < (mv_sl vs).length
  · rwa [List.getElem?_append_left hl] at h
  · rw [List.getElem?_append_right (by omega), List.getElem?_replicate] at h
    split at h
    · cases h
    · cases h
theorem mv_sl_in {w : mv_V} : ∀ (vs : List mv_V) (i : Nat), (mv_sl vs)[i]? = some (some w) → w ∈ vs
  | [], _, h => by simp [mv_sl] at h
  | v :: vs, i, h => by
    unfold mv_sl at h
    by_cases hv : mv_k v = 2
    · rw [if_pos hv] at h
      match i, h with
      | 0, h => cases h; exact List.mem_cons_self
      | 1, h => cases h
      | i + 2, h => exact List.mem_cons_of_mem _ (mv_sl_in vs i h)
    · rw [if_neg hv] at h
      match i, h with
      | 0, h => cases h; exact List.mem_cons_self
      | i + 1, h => exact List.mem_cons_of_mem _ (mv_sl_in vs i h)
theorem mv_ls_en {zt ad : Nat → Nat} {vs : List mv_V} {n : Nat} {ls : Array Slot} (h : lv_has ls n (lv_args 0 (vs.map (mv_c zt ad)))) : mv_ls zt ad ls n (mv_en vs n) :=
  ⟨h.1, h.2.1, fun i v hv => h.2.2 (i, mv_c zt ad v) (by have := mv_sl_at (zt := zt) (ad := ad) vs 0 i (mv_en_at hv); rwa [Nat.zero_add] at this)⟩
theorem ok_L_en {vs : List mv_V} {n k : Nat} (h : ok_S k vs) : ok_L k (mv_en vs n) := fun i v hv => h v (mv_sl_in vs i (mv_en_at hv))
