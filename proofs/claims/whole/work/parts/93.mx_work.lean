/-! the model's skip, number, begin, goOn, workOut against the derivation -/
theorem sk0' {t : Nat → Int} {len d a e : Nat} (h : sk_ t len d a e) : d = 0 → (a = e ∧ (a = len ∨ (a < len ∧ (t a = 32 ∨ t a = 41)))) ∨ (a ≠ e ∧ a < len ∧ t a ≠ 32 ∧ t a ≠ 41) := by
  induction h using sk_.ind with
  | fin => exact fun _ => Or.inl ⟨rfl, Or.inl rfl⟩
  | stop h1 hc => exact fun _ => Or.inl ⟨rfl, Or.inr ⟨h1, hc⟩⟩
  | up h1 hc k ih => intro _; have := sk_le k; exact Or.inr ⟨by omega, h1, by omega, by omega⟩
  | down h1 hc k ih => intro z; omega
  | on h1 hc hd k ih => intro z; have := sk_le k; exact Or.inr ⟨by omega, h1, hd z, hc.2⟩
theorem sk0 {t : Nat → Int} {len a e : Nat} (h : sk_ t len 0 a e) : (a = e ∧ (a = len ∨ (a < len ∧ (t a = 32 ∨ t a = 41)))) ∨ (a ≠ e ∧ a < len ∧ t a ≠ 32 ∧ t a ≠ 41) := sk0' h rfl
theorem dn_lt {t : Nat → Int} {a : Nat} : ∀ (k : Nat), (∀ i, a ≤ i → i < a + k → t i ≤ 57) → dn_ t a k < 10 ^ k := by
  intro k
  induction k with
  | zero => intro _; show 0 < 10 ^ 0; decide
  | succ k ih =>
    intro h
    have h1 := ih (fun i i1 i2 => h i i1 (by omega))
    have h2 := h (a + k) (by omega) (by omega)
    have e : dn_ t a (k + 1) = 10 * dn_ t a k + (t (a + k) - 48).toNat := rfl
    rw [e, Nat.pow_succ]
    omega
theorem dn_120 {t : Nat → Int} {a k : Nat} (hk : k ≤ 120) (h : ∀ i, a ≤ i → i < a + k → t i ≤ 57) : dn_ t a k < 10 ^ 120 := Nat.lt_of_lt_of_le (dn_lt k h) (Nat.pow_le_pow_right (by decide) hk)
theorem nu_lim : (10 : Nat) ^ 120 * 10 + 100 < 10000 ^ 40 := by decide +kernel
def bl_ (ps bs : Nat → Int) : List bk_ → Prop
  | [] => True
  | (op, b, _) :: st => ps (st.length + 1) = op ∧ bs (st.length + 1) = (b : Int) ∧ bl_ ps bs st
theorem bl_ext {ps bs ps' bs' : Nat → Int} : ∀ (st : List bk_), bl_ ps bs st → (∀ i, i ≤ st.length → ps' i = ps i ∧ bs' i = bs i) → bl_ ps' bs' st
  | [], _, _ => trivial
  | (op, b, c) :: st, h, he => by
    obtain ⟨h1, h2, h3⟩ := h
    obtain ⟨e1, e2⟩ := he (st.length + 1) (Nat.le_refl _)
    exact ⟨e1.trans h1, e2.trans h2, bl_ext st h3 (fun i hi => he i (by show i ≤ st.length + 1; omega))⟩
section MxWork
variable {φ : go_F} {l : Launch} {h : mv_H} {n o : Nat} {I tx S ps cs bs : Nat → Int} {V : Nat → Nat}
theorem lp_skip {p len d a e : Nat} (hV : mo_V h o (I, tx, S, ps, cs, bs) V) (hL : I 1 = (len : Int)) (hl : len ≤ 120) (ht : ∀ i, 0 ≤ tx i ∧ tx i ≤ 127) (hpos : ∀ i, i < len → tx i ≠ 0) (hk : sk_ tx len d a e) : d ≤ a → ¬ (d = 0 ∧ a = e) →
    Go (go_f 0 0 fun w h' n' => w = some (mv_I (e : Int)) ∧ n' = n ∧ h' = h) l m_mo_skip (go_rm rd_mo_skip rw_mo_skip 0 0) (0, 0) 7 [some (mv_R o), some (mv_I (p : Int)), some (mv_I (d : Int)), some (mv_I (a : Int)), some (mv_I 1), none] [] h n := by
  induction hk using sk_.ind with
  | fin => intro _ hn; exact absurd ⟨rfl, rfl⟩ hn
  | stop h1 hc => intro _ hn; exact absurd ⟨rfl, rfl⟩ hn
  | @up d a e h1 hc k ih =>
    intro hd _
    have this := ih (by omega) (fun z => by omega)
    rw [show ((d + 1 : Nat) : Int) = (d : Int) + 1 by omega, show ((a + 1 : Nat) : Int) = (a : Int) + 1 by omega] at this
    have ech : ch_ tx len a = 40 := by rw [ch_in h1]; exact hc
    exact so_sk_7 hV hL hl ht (by omega) (by omega) (fun z => absurd ech z) (fun z => absurd ech z) (fun z => absurd ech z) (fun z => absurd ech z) (fun z => absurd ech z) (fun z => absurd ech z) (fun z => absurd ech z) (fun z => absurd ech z) (fun z => absurd ech z) (fun z => absurd ech z) (fun _ _ => this) (fun _ z => by omega) (fun _ z => by omega) (fun _ z => by omega) (fun _ z => by omega)
  | @down d a e h1 hc k ih =>
    intro hd _
    have ech : ch_ tx len a = 41 := by rw [ch_in h1]; exact hc
    have more : ¬ (d = 0 ∧ a + 1 = e) → Go (go_f 0 0 fun w h' n' => w = some (mv_I (e : Int)) ∧ n' = n ∧ h' = h) l m_mo_skip (go_rm rd_mo_skip rw_mo_skip 0 0) (0, 0) 7 [some (mv_R o), some (mv_I (p : Int)), some (mv_I (((d + 1 : Nat) : Int) - 1)), some (mv_I ((a : Int) + 1)), some (mv_I 1), none] [] h n := fun hn => by
      have this := ih (by omega) hn
      rw [show ((a + 1 : Nat) : Int) = (a : Int) + 1 by omega, show (d : Int) = ((d + 1 : Nat) : Int) - 1 by omega] at this
      exact this
    have done : a + 1 = e → Go (go_f 0 0 fun w h' n' => w = some (mv_I (e : Int)) ∧ n' = n ∧ h' = h) l m_mo_skip (go_rm rd_mo_skip rw_mo_skip 0 0) (0, 0) 7 [some (mv_R o), some (mv_I (p : Int)), some (mv_I (((d + 1 : Nat) : Int) - 1)), some (mv_I ((a : Int) + 1)), some (mv_I 0), none] [] h n := fun he => by
      rw [show (a : Int) + 1 = ((a + 1 : Nat) : Int) by omega]
      exact so_sk_e hV (go_iret d_mo_skip_91 rfl go_le0 ⟨by rw [he], rfl, rfl⟩)
    have at0 : d = 0 → (a + 1 = e ∧ (ch_ tx len (a + 1) = 32 ∨ ch_ tx len (a + 1) = 41 ∨ ch_ tx len (a + 1) = 0)) ∨ (a + 1 ≠ e ∧ ch_ tx len (a + 1) ≠ 32 ∧ ch_ tx len (a + 1) ≠ 41 ∧ ch_ tx len (a + 1) ≠ 0) := fun d0 => by
      subst d0
      rcases sk0 k with ⟨k1, k2 | ⟨k2, k3⟩⟩ | ⟨k1, k2, k3, k4⟩
      · exact Or.inl ⟨k1, Or.inr (Or.inr (by rw [k2]; exact ch_end))⟩
      · rw [ch_in k2]
        exact Or.inl ⟨k1, by omega⟩
      · rw [ch_in k2]
        exact Or.inr ⟨k1, k3, k4, hpos _ k2⟩
    refine so_sk_7 hV hL hl ht (by omega) (by omega) (fun _ z => absurd ech z) (fun _ z => absurd ech z) (fun _ z => absurd ech z) (fun _ z => absurd ech z) (fun _ z => absurd ech z) (fun _ _ c3 => more (fun z => by omega)) (fun _ _ c3 c4 => done ?_) (fun _ _ c3 c4 c5 => done ?_) (fun _ _ c3 c4 c5 c6 => done ?_) (fun _ _ c3 c4 c5 c6 => more ?_) (fun z => by omega) (fun z => by omega) (fun z => by omega) (fun z => by omega) (fun z => by omega)
    · have := at0 (by omega); omega
    · have := at0 (by omega); omega
    · have := at0 (by omega); omega
    · have := at0 (by omega); omega
  | @on d a e h1 hc hd0 k ih =>
    intro hd _
    have ech : ch_ tx len a ≠ 40 ∧ ch_ tx len a ≠ 41 := by rw [ch_in h1]; exact hc
    have more : ¬ (d = 0 ∧ a + 1 = e) → Go (go_f 0 0 fun w h' n' => w = some (mv_I (e : Int)) ∧ n' = n ∧ h' = h) l m_mo_skip (go_rm rd_mo_skip rw_mo_skip 0 0) (0, 0) 7 [some (mv_R o), some (mv_I (p : Int)), some (mv_I (d : Int)), some (mv_I ((a : Int) + 1)), some (mv_I 1), none] [] h n := fun hn => by
      have this := ih (by omega) hn
      rw [show ((a + 1 : Nat) : Int) = (a : Int) + 1 by omega] at this
      exact this
    have done : a + 1 = e → Go (go_f 0 0 fun w h' n' => w = some (mv_I (e : Int)) ∧ n' = n ∧ h' = h) l m_mo_skip (go_rm rd_mo_skip rw_mo_skip 0 0) (0, 0) 7 [some (mv_R o), some (mv_I (p : Int)), some (mv_I (d : Int)), some (mv_I ((a : Int) + 1)), some (mv_I 0), none] [] h n := fun he => by
      rw [show (a : Int) + 1 = ((a + 1 : Nat) : Int) by omega]
      exact so_sk_e hV (go_iret d_mo_skip_91 rfl go_le0 ⟨by rw [he], rfl, rfl⟩)
    have at0 : d = 0 → (a + 1 = e ∧ (ch_ tx len (a + 1) = 32 ∨ ch_ tx len (a + 1) = 41 ∨ ch_ tx len (a + 1) = 0)) ∨ (a + 1 ≠ e ∧ ch_ tx len (a + 1) ≠ 32 ∧ ch_ tx len (a + 1) ≠ 41 ∧ ch_ tx len (a + 1) ≠ 0) := fun d0 => by
      subst d0
      rcases sk0 k with ⟨k1, k2 | ⟨k2, k3⟩⟩ | ⟨k1, k2, k3, k4⟩
      · exact Or.inl ⟨k1, Or.inr (Or.inr (by rw [k2]; exact ch_end))⟩
      · rw [ch_in k2]
        exact Or.inl ⟨k1, by omega⟩
      · rw [ch_in k2]
        exact Or.inr ⟨k1, k3, k4, hpos _ k2⟩
    refine so_sk_7 hV hL hl ht (by omega) (by omega) (fun _ _ c3 => more (fun z => by omega)) (fun _ _ c3 c4 => done ?_) (fun _ _ c3 c4 c5 => done ?_) (fun _ _ c3 c4 c5 c6 => done ?_) (fun _ _ c3 c4 c5 c6 => more ?_) (fun _ z => absurd z ech.2) (fun _ z => absurd z ech.2) (fun _ z => absurd z ech.2) (fun _ z => absurd z ech.2) (fun _ z => absurd z ech.2) (fun z => absurd z ech.1) (fun z => absurd z ech.1) (fun z => absurd z ech.1) (fun z => absurd z ech.1) (fun z => absurd z ech.1)
    · have := at0 (by omega); omega
    · have := at0 (by omega); omega
    · have := at0 (by omega); omega
    · have := at0 (by omega); omega
theorem tm_skip {p len e : Nat} (hV : mo_V h o (I, tx, S, ps, cs, bs) V) (hL : I 1 = (len : Int)) (hl : len ≤ 120) (ht : ∀ i, 0 ≤ tx i ∧ tx i ≤ 127) (hpos : ∀ i, i < len → tx i ≠ 0) (hk : sk_ tx len 0 p e) (hpe : p < e) :
    Fn l m_mo_skip rd_mo_skip rw_mo_skip 0 0 [mv_R o, mv_I (p : Int)] h n (fun w h' n' => w = some (mv_I (e : Int)) ∧ n' = n ∧ h' = h) := by
  refine fn_of rfl (Nat.le_of_ble_eq_true rfl) rfl ?_
  exact so_sk_0 hV (lp_skip hV hL hl ht hpos hk (Nat.zero_le _) (fun z => by omega))
/-- what the model's number leaves -/
def mn_ (h : mv_H) (n o : Nat) (I tx S ps cs bs : Nat → Int) (V : Nat → Nat) (m v e : Nat) (s : Int) (w : Option mv_V) (h' : mv_H) (n' : Nat) : Prop :=
  w = some (mv_I (if v < 2 ^ 240 then 0 else 1)) ∧ n' = n ∧ fr_ o 8 h h' ∧ ∃ (I' : Nat → Int) (V' : Nat → Nat), mo_V h' o (I', tx, va_up S m (if v = 0 then 0 else s), ps, cs, bs) V' ∧ (∀ i, i ≠ 4 → i ≠ 5 → I' i = I i) ∧ I' 4 = I 4 + 1 ∧ I' 5 = (e : Int) ∧ V' (2 * m) = v ∧ V' (2 * m + 1) = 1 ∧ ∀ i, i ≠ 2 * m → i ≠ 2 * m + 1 → (i < 150 ∨ 158 ≤ i) → V' i = V i
theorem lp_nu {len a e m : Nat} {bl s : Int} {h0 : mv_H} {I0 : Nat → Int} {V0 : Nat → Nat} (hl : len ≤ 120) (ht : ∀ i, 0 ≤ tx i ∧ tx i ≤ 127) (he : e ≤ len) (hd : ∀ i, a ≤ i → i < e → 48 ≤ tx i ∧ tx i ≤ 57) (hend : e = len ∨ tx e = 32 ∨ tx e = 41) (hbl : (bl = 0 ∧ s = 1) ∨ (bl = 1 ∧ s = -1)) (hm : m < 60) (hLm : V0 158 = 2 ^ 240) :
    ∀ (d i : Nat) (h : mv_H) (I : Nat → Int) (V : Nat → Nat), i + d = e → a ≤ i → mo_V h o (I, tx, S, ps, cs, bs) V → fr_ o 8 h0 h → (∀ i, i ≠ 5 → I i = I0 i) → I0 1 = (len : Int) → I0 4 = (m : Int) → I 5 = (i : Int) → V (2 * m) = dn_ tx a (i - a) → V (2 * m + 1) = 1 → (∀ i, i ≠ 2 * m → i ≠ 2 * m + 1 → (i < 150 ∨ 158 ≤ i) → V i = V0 i) →
      Go (go_f 0 0 (mn_ h0 n o I0 tx S ps cs bs V0 m (dn_ tx a (e - a)) e s)) l m_mo_number (go_rm rd_mo_number rw_mo_number 0 0) (0, 0) 72 [some (mv_R o), some (mv_I bl)] [] h n := by
  have lim := nu_lim
  intro d
  induction d with
  | zero =>
    intro i h I V hi ha hV hf hI h1 h4 h5 hv hv1 hW
    have ei : i = e := by omega
    subst ei
    have hb := ch_b ht len i
    have hdn := dn_120 (t := tx) (a := a) (k := i - a) (by omega) (fun j j1 j2 => by have := hd j j1 (by omega); omega)
    have hI1 : I 1 = (len : Int) := (hI 1 (by decide)).trans h1
    have hI4 : I 4 = (m : Int) := (hI 4 (by decide)).trans h4
    have hnd : ¬ (48 ≤ ch_ tx len i ∧ ch_ tx len i ≤ 57) := by
      by_cases c : i < len
      · rw [ch_in c]; omega
      · have : i = len := by omega
        rw [this, ch_end]; omega
    have h158 : V 158 = 2 ^ 240 := (hW 158 (by omega) (by omega) (by omega)).trans hLm
    refine so_nu_72 hV hI1 hl ht ⟨h5, by omega⟩ ⟨hI4, hm⟩ (by omega) (by omega) (fun _ => ?_) (fun z => absurd z hnd)
    have fin : ∀ (h1 : mv_H) (x y : Int), x = (if dn_ tx a (i - a) = 0 then 0 else s) → y = (if dn_ tx a (i - a) < 2 ^ 240 then 0 else 1) → mo_V h1 o (va_up I 4 ((I 4) + 1), tx, va_up S m x, ps, cs, bs) V → fr_ o 8 h h1 → ∀ L, Go (go_f 0 0 (mn_ h0 n o I0 tx S ps cs bs V0 m (dn_ tx a (i - a)) i s)) l m_mo_number (go_rm rd_mo_number rw_mo_number 0 0) (0, 0) 221 L [mv_I y] h1 n := by
      intro h1 x y hx hy hV1 hf1 L
      rw [hx] at hV1
      exact go_iret d_mo_number_221 rfl go_le0 ⟨by rw [hy], rfl, hf.tr hf1, _, V, hV1, fun j j1 j2 => by rw [va_up_ne _ _ j1]; exact hI j j2, by rw [va_up_self, hI 4 (by decide)], by rw [va_up_ne _ _ (by decide)]; exact h5, hv, hv1, hW⟩
    refine so_nu_152 hV ⟨hI4, hm⟩ (by omega) (fun c1 c2 c3 h1 hV1 hf1 => ?_) (fun c1 c2 c3 h1 hV1 hf1 => ?_) (fun c1 c2 c3 h1 hV1 hf1 => ?_) (fun c1 c2 c3 h1 hV1 hf1 => ?_) (fun c1 c3 h1 hV1 hf1 => ?_) (fun c1 c3 h1 hV1 hf1 => ?_)
    · rw [hv] at c1 c3; rw [h158] at c3
      exact fin h1 _ _ (by rw [if_neg c1]; omega) (by rw [if_neg (by omega)]) hV1 hf1 _
    · rw [hv] at c1 c3; rw [h158] at c3
      exact fin h1 _ _ (by rw [if_neg c1]; omega) (by rw [if_pos c3]) hV1 hf1 _
    · rw [hv] at c1 c3; rw [h158] at c3
      exact fin h1 _ _ (by rw [if_neg c1]; omega) (by rw [if_neg (by omega)]) hV1 hf1 _
    · rw [hv] at c1 c3; rw [h158] at c3
      exact fin h1 _ _ (by rw [if_neg c1]; omega) (by rw [if_pos c3]) hV1 hf1 _
    · rw [hv] at c1 c3; rw [h158] at c3
      exact fin h1 _ _ (by rw [if_pos c1]) (by rw [if_neg (by omega)]) hV1 hf1 _
    · rw [hv] at c1 c3; rw [h158] at c3
      exact fin h1 _ _ (by rw [if_pos c1]) (by rw [if_pos c3]) hV1 hf1 _
  | succ d ih =>
    intro i h I V hi ha hV hf hI h1 h4 h5 hv hv1 hW
    have hb := ch_b ht len i
    have hdn := dn_120 (t := tx) (a := a) (k := i - a) (by omega) (fun j j1 j2 => by have := hd j j1 (by omega); omega)
    have hI1 : I 1 = (len : Int) := (hI 1 (by decide)).trans h1
    have hI4 : I 4 = (m : Int) := (hI 4 (by decide)).trans h4
    have hdi := hd i ha (by omega)
    have ech : ch_ tx len i = tx i := ch_in (by omega)
    refine so_nu_72 hV hI1 hl ht ⟨h5, by omega⟩ ⟨hI4, hm⟩ (by omega) (by omega) (fun z => absurd (by rw [ech]; exact hdi) z) (fun _ h1' hV1 hf1 => ?_)
    have es : V (2 * m) * 10 + (ch_ tx len i - 48).toNat = dn_ tx a (i + 1 - a) := by
      rw [show i + 1 - a = (i - a) + 1 by omega, hv, ech]
      show _ = 10 * dn_ tx a (i - a) + (tx (a + (i - a)) - 48).toNat
      rw [show a + (i - a) = i by omega]
      omega
    refine ih (i + 1) h1' _ _ (by omega) (by omega) hV1 (hf.tr hf1) (fun j hj => by rw [va_up_ne _ _ hj]; exact hI j hj) h1 h4 (by rw [va_up_self]; omega) (by rw [va_up_self]; exact es) ?_ (fun j j1 j2 j3 => ?_)
    · rw [va_up_ne _ _ (by omega), va_up_ne _ _ (by omega), va_up_ne _ _ (by omega), va_up_ne _ _ (by omega)]
      exact hv1
    · rw [va_up_ne _ _ j1, va_up_ne _ _ (by omega), va_up_ne _ _ (by omega), va_up_ne _ _ (by omega)]
      exact hW j j1 j2 j3
theorem tm_number {len p a e m : Nat} (hV : mo_V h o (I, tx, S, ps, cs, bs) V) (hL : I 1 = (len : Int)) (hl : len ≤ 120) (ht : ∀ i, 0 ≤ tx i ∧ tx i ≤ 127) (hn : nm_ tx len p a e) (h5 : I 5 = (p : Int)) (h4 : I 4 = (m : Int)) (hm : m < 60) (hLm : V 158 = 2 ^ 240) :
    Fn l m_mo_number rd_mo_number rw_mo_number 0 0 [mv_R o] h n (mn_ h n o I tx S ps cs bs V m (dn_ tx a (e - a)) e (if tx p = 45 then -1 else 1)) := by
  refine fn_of rfl (Nat.le_of_ble_eq_true rfl) rfl ?_
  obtain ⟨n1, n2, n3, n4, n5⟩ := hn
  have ech : ch_ tx len p = tx p := ch_in (by omega)
  have hW : ∀ j, j ≠ 2 * m → j ≠ 2 * m + 1 → (j < 150 ∨ 158 ≤ j) → va_up (va_up (va_up V (2 * m) 0) (2 * m + 1) 1) 151 0 j = V j := fun j j1 j2 j3 => by rw [va_up_ne _ _ (by omega), va_up_ne _ _ j2, va_up_ne _ _ j1]
  have e0 : va_up (va_up (va_up V (2 * m) 0) (2 * m + 1) 1) 151 0 (2 * m) = 0 := by rw [va_up_ne _ _ (by omega), va_up_ne _ _ (by omega), va_up_self]
  have e1 : va_up (va_up (va_up V (2 * m) 0) (2 * m + 1) 1) 151 0 (2 * m + 1) = 1 := by rw [va_up_ne _ _ (by omega), va_up_self]
  refine so_nu_0 hV hL hl ht ⟨h5, by omega⟩ ⟨h4, hm⟩ (fun c1 h1 hV1 hf1 => ?_) (fun c1 h1 hV1 hf1 => ?_)
  · rw [ech] at c1
    have ea : a = p := by omega
    subst ea
    rw [if_neg c1]
    exact lp_nu hl ht n3 n4 n5 (Or.inl ⟨rfl, rfl⟩) hm hLm (e - a) a h1 _ _ (by omega) (Nat.le_refl _) hV1 hf1 (fun i hi => va_up_ne _ _ hi) hL h4 (by rw [va_up_self]; exact h5) (by rw [e0, Nat.sub_self]; rfl) e1 hW
  · rw [ech] at c1
    have ea : a = p + 1 := by omega
    subst ea
    rw [if_pos c1]
    exact lp_nu hl ht n3 n4 n5 (Or.inr ⟨rfl, rfl⟩) hm hLm (e - (p + 1)) (p + 1) h1 _ _ (by omega) (Nat.le_refl _) hV1 hf1 (fun i hi => va_up_ne _ _ hi) hL h4 (by rw [va_up_self]; omega) (by rw [e0, Nat.sub_self]; rfl) e1 hW
/-- what working out leaves alone in the model -/
def mu_ (h0 : mv_H) (o : Nat) (I0 tx S0 cs : Nat → Int) (V0 : Nat → Nat) (h : mv_H) (I S ps bs : Nat → Int) (V : Nat → Nat) : Prop :=
  mo_V h o (I, tx, S, ps, cs, bs) V ∧ fr_ o 8 h0 h ∧ (∀ i, i ≠ 3 → i ≠ 4 → i ≠ 5 → I i = I0 i) ∧ (∀ i, 64 ≤ i → i < 73 → S i = S0 i) ∧ (∀ i, -1 ≤ S i ∧ S i ≤ 1) ∧ (∀ i, (128 ≤ i ∧ i < 146 ∨ 158 ≤ i) → V i = V0 i) ∧ ∀ i, 0 ≤ ps i ∧ ps i ≤ 127
/-- how the model stands -/
def mt_ (st : List bk_) (m : Nat) (f : Nat → qv_) (p : Nat) (I S ps bs : Nat → Int) (V : Nat → Nat) : Prop :=
  I 3 = (st.length : Int) ∧ I 4 = (m : Int) ∧ I 5 = (p : Int) ∧ bl_ ps bs st ∧ ∀ i, i < m → q_at S V i = f i ∧ q_in (f i)
theorem ev_inv {t : Nat → Int} {len : Nat} {var : Nat → qv_} {md : Bool} {p : Nat} {st : List bk_} {m : Nat} {f : Nat → qv_} {r : Int × qv_} (h : Ev t len var md p st m f r) : md = true →
    (p + 1 < len ∧ t p = 40 ∧ st.length < 12 ∧ m < 60 ∧ Ev t len var false (p + 2) ((t (p + 1), m, 0) :: st) m f r) ∨
    (p < len ∧ (97 ≤ t p ∧ t p ≤ 104) ∧ m < 60 ∧ Ev t len var false (p + 1) st (m + 1) (va_up f m (var (t p - 97).toNat)) r) ∨
    (∃ a e, nm_ t len p a e ∧ m < 60 ∧ dn_ t a (e - a) < 2 ^ 240 ∧ Ev t len var false e st (m + 1) (va_up f m (if dn_ t a (e - a) = 0 then 0 else if t p = 45 then -1 else 1, dn_ t a (e - a), 1)) r) ∨
    (∃ a e, nm_ t len p a e ∧ m < 60 ∧ ¬ dn_ t a (e - a) < 2 ^ 240 ∧ r.1 = 1) := by
  induction h using Ev.ind with
  | opn hp hc ho hm k ih => exact fun _ => Or.inl ⟨hp, hc, ho, hm, k⟩
  | vr hp hc hm k ih => exact fun _ => Or.inr (Or.inl ⟨hp, hc, hm, k⟩)
  | @num p a e st m f r hn hm hv k ih => exact fun _ => Or.inr (Or.inr (Or.inl ⟨a, e, hn, hm, hv, k⟩))
  | @numF p a e st m f r hn hm hv => exact fun _ => Or.inr (Or.inr (Or.inr ⟨a, e, hn, hm, hv, rfl⟩))
  | fin => intro z; cases z
  | cls => intro z; cases z
  | clsF => intro z; cases z
  | arg => intro z; cases z
  | third => intro z; cases z
  | rest => intro z; cases z
theorem ev_lt {t : Nat → Int} {len : Nat} {var : Nat → qv_} {p : Nat} {st : List bk_} {m : Nat} {f : Nat → qv_} {r : Int × qv_} (h : Ev t len var true p st m f r) : p < len ∧ m < 60 := by
  rcases ev_inv h rfl with ⟨hp, -, -, hm, -⟩ | ⟨hp, -, hm, -⟩ | ⟨a, e, hn, hm, -⟩ | ⟨a, e, hn, hm, -⟩
  · exact ⟨by omega, hm⟩
  · exact ⟨hp, hm⟩
  · obtain ⟨n1, n2, n3, -⟩ := hn; exact ⟨by omega, hm⟩
  · obtain ⟨n1, n2, n3, -⟩ := hn; exact ⟨by omega, hm⟩
/-- behind begin -/
def bq_ (h0 : mv_H) (n o : Nat) (I0 tx S0 cs : Nat → Int) (V0 : Nat → Nat) (len : Nat) (var : Nat → qv_) (p : Nat) (r : Int × qv_) (w : Option mv_V) (h' : mv_H) (n' : Nat) : Prop :=
  n' = n ∧ ∃ (I' S' ps' bs' : Nat → Int) (V' : Nat → Nat), mu_ h0 o I0 tx S0 cs V0 h' I' S' ps' bs' V' ∧
    ((w = some (mv_I 0) ∧ ∃ p' st' m' f', Ev tx len var false p' st' m' f' r ∧ p < p' ∧ st'.length ≤ 12 ∧ mt_ st' m' f' p' I' S' ps' bs' V') ∨ (w = some (mv_I 1) ∧ r.1 = 1))
theorem tm_begin {len : Nat} {var : Nat → qv_} {p : Nat} {st : List bk_} {m : Nat} {f : Nat → qv_} {r : Int × qv_} {h0 : mv_H} {I0 S0 : Nat → Int} {V0 : Nat → Nat} (hu : mu_ h0 o I0 tx S0 cs V0 h I S ps bs V) (hs : mt_ st m f p I S ps bs V) (h12 : st.length ≤ 12) (hE : Ev tx len var true p st m f r) (hL : I0 1 = (len : Int)) (hl : len ≤ 120) (ht : ∀ i, 0 ≤ tx i ∧ tx i ≤ 127) (hLm : V0 158 = 2 ^ 240) (hvar : ∀ v, v < 8 → q_at S0 V0 (64 + v) = var v ∧ q_in (var v)) :
    Fn l m_mo_begin rd_mo_begin rw_mo_begin 0 0 [mv_R o] h n (bq_ h0 n o I0 tx S0 cs V0 len var p r) := by
  refine fn_of rfl (Nat.le_of_ble_eq_true rfl) rfl ?_
  obtain ⟨hV, hf, hI, hS, hR, hW, hP⟩ := hu
  obtain ⟨h3, h4, h5, hb, hv⟩ := hs
  obtain ⟨hlt, hm60⟩ := ev_lt hE
  have hI1 : I 1 = (len : Int) := (hI 1 (by decide) (by decide) (by decide)).trans hL
  have ech : ch_ tx len p = tx p := ch_in hlt
  have h158 : V 158 = 2 ^ 240 := (hW 158 (by omega)).trans hLm
  obtain ⟨fs, hob⟩ := mo_Vob hV
  -- a number
  have num : ∀ a e, nm_ tx len p a e → (dn_ tx a (e - a) < 2 ^ 240 → Ev tx len var false e st (m + 1) (va_up f m (if dn_ tx a (e - a) = 0 then 0 else if tx p = 45 then -1 else 1, dn_ tx a (e - a), 1)) r) → (¬ dn_ tx a (e - a) < 2 ^ 240 → r.1 = 1) → Go (go_f 0 0 (bq_ h0 n o I0 tx S0 cs V0 len var p r)) l m_mo_begin (go_rm rd_mo_begin rw_mo_begin 0 0) (0, 0) 0 [some (mv_R o), none] [] h n := by
    intro a e hn hgood hbad
    have hn' := hn
    obtain ⟨n1, n2, n3, n4, n5⟩ := hn'
    have hpd : tx p = 45 ∨ (48 ≤ tx p ∧ tx p ≤ 57) := by
      rcases n1 with ⟨e1, e2⟩ | ⟨e1, e2⟩
      · right
        rw [← e1]
        exact n4 a (Nat.le_refl _) n2
      · exact Or.inl e2
    have go119 : ∀ L, Go (go_f 0 0 (bq_ h0 n o I0 tx S0 cs V0 len var p r)) l m_mo_begin (go_rm rd_mo_begin rw_mo_begin 0 0) (0, 0) 119 L [mv_R o] h n := fun L => by
      refine go_callV (M' := m_mo_number) (d := rd_mo_number) (w := rw_mo_number) (mc := 0) (ms := 0) (as := []) (b := o) (rest := []) (q := 122) g_mo_number i_mo_number v_mo_number l_mo_130 d_mo_begin_119 rfl rfl rfl hob rfl (by decide) ⟨by decide, by decide, by decide, by decide⟩ (tm_number hV hI1 hl ht hn h5 h4 hm60 h158) ?_
      rintro w h1 n1' ⟨rfl, rfl, hf1, I1, V1, hV1, hI1', h41, h51, v1, v2, hW1⟩ -
      have hmu : mu_ h0 o I0 tx S0 cs V0 h1 I1 (va_up S m (if dn_ tx a (e - a) = 0 then 0 else if tx p = 45 then -1 else 1)) ps bs V1 := by
        refine ⟨hV1, hf.tr hf1, fun i i1 i2 i3 => (hI1' i i2 i3).trans (hI i i1 i2 i3), fun i i1 i2 => by rw [va_up_ne _ _ (by omega)]; exact hS i i1 i2, sr_up hR ?_, fun i hi => (hW1 i (by omega) (by omega) (by omega)).trans (hW i hi), hP⟩
        split
        · decide
        · split <;> decide
      by_cases c0 : dn_ tx a (e - a) < 2 ^ 240
      · rw [if_pos c0]
        refine go_u0 (go_iret d_mo_begin_122 rfl go_le0 ⟨rfl, _, _, _, _, _, hmu, Or.inl ⟨rfl, e, st, m + 1, _, hgood c0, by omega, h12, (hI1' 3 (by decide) (by decide)).trans h3, by rw [h41, h4]; omega, h51, hb, fun i hi => ?_⟩⟩)
        by_cases ei : i = m
        · subst ei
          rw [va_up_self]
          refine ⟨?_, q_num_in c0⟩
          unfold q_at
          rw [va_up_self, v1, v2]
        · rw [va_up_ne _ _ ei]
          obtain ⟨j1, j2⟩ := hv i (by omega)
          refine ⟨?_, j2⟩
          rw [← j1]
          exact q_at_ext (va_up_ne _ _ ei) (hW1 _ (by omega) (by omega) (by omega)) (hW1 _ (by omega) (by omega) (by omega))
      · rw [if_neg c0]
        exact go_u0 (go_iret d_mo_begin_122 rfl go_le0 ⟨rfl, _, _, _, _, _, hmu, Or.inr ⟨rfl, hbad c0⟩⟩)
    refine so_be_0 (k := st.length) hV hI1 hl ht ⟨h5, by omega⟩ ⟨h4, hm60⟩ ⟨h3, h12⟩ (fun z => by omega) (fun _ _ => go119 _) (fun _ _ _ => go119 _) (fun _ c1 c2 => by omega) (fun z => by omega)
  rcases ev_inv hE rfl with ⟨hp, hc, ho, hm, k⟩ | ⟨hp, hc, hm, k⟩ | ⟨a, e, hn, hm, hlv, k⟩ | ⟨a, e, hn, hm, hlv, hr1⟩
  ·
    have ech2 : ch_ tx len (p + 1) = tx (p + 1) := ch_in (by omega)
    refine so_be_0 (k := st.length) hV hI1 hl ht ⟨h5, by omega⟩ ⟨h4, hm60⟩ ⟨h3, h12⟩ (fun _ => ho) (fun z => absurd (ech.trans hc) z) (fun z => absurd (ech.trans hc) z) (fun z => absurd (ech.trans hc) z) (fun _ h1 hV1 hf1 => ?_)
    rw [ech2] at hV1
    refine go_iret d_mo_begin_68 rfl go_le0 ⟨rfl, _, _, _, _, _, ⟨hV1, hf.tr hf1, fun i i1 i2 i3 => by rw [va_up_ne _ _ i3, va_up_ne _ _ i1]; exact hI i i1 i2 i3, hS, hR, hW, ga_up hP (ht (p + 1))⟩, Or.inl ⟨rfl, p + 2, _, m, f, k, by omega, by show st.length + 1 ≤ 12; omega, ?_, ?_, ?_, ⟨va_up_self _ _ _, by rw [va_up_self]; exact h4, bl_ext st hb (fun i hi => ⟨va_up_ne _ _ (by omega), va_up_ne _ _ (by omega)⟩)⟩, hv⟩⟩
    · rw [va_up_ne _ _ (by decide), va_up_self, h3]
      show (st.length : Int) + 1 = ((st.length + 1 : Nat) : Int)
      omega
    · rw [va_up_ne _ _ (by decide), va_up_ne _ _ (by decide)]
      exact h4
    · rw [va_up_self]
      omega
  ·
    refine so_be_0 (k := st.length) hV hI1 hl ht ⟨h5, by omega⟩ ⟨h4, hm60⟩ ⟨h3, h12⟩ (fun z => by omega) (fun _ z => by omega) (fun _ _ z => by omega) (fun _ _ _ h1 hV1 hf1 => ?_) (fun z => by omega)
    rw [ech] at hV1
    obtain ⟨v1, v2⟩ := hvar (tx p - 97).toNat (by omega)
    refine go_iret d_mo_begin_117 rfl go_le0 ⟨rfl, _, _, _, _, _, ⟨hV1, hf.tr hf1, fun i i1 i2 i3 => by rw [va_up_ne _ _ i3, va_up_ne _ _ i2]; exact hI i i1 i2 i3, fun i i1 i2 => by rw [va_up_ne _ _ (by omega)]; exact hS i i1 i2, sr_up hR (hR _), fun i hi => by rw [va_up_ne _ _ (by omega), va_up_ne _ _ (by omega)]; exact hW i hi, hP⟩, Or.inl ⟨rfl, p + 1, st, m + 1, _, k, by omega, h12, ?_, ?_, ?_, hb, fun i hi => ?_⟩⟩
    · rw [va_up_ne _ _ (by decide), va_up_ne _ _ (by decide)]
      exact h3
    · rw [va_up_ne _ _ (by decide), va_up_self]
      omega
    · rw [va_up_self]
      omega
    · by_cases ei : i = m
      · subst ei
        rw [va_up_self, q_at_up]
        refine ⟨?_, v2⟩
        rw [← v1]
        unfold q_at
        rw [hS _ (by omega) (by omega), hW _ (by omega), hW _ (by omega)]
      · rw [va_up_ne _ _ ei]
        obtain ⟨j1, j2⟩ := hv i (by omega)
        refine ⟨?_, j2⟩
        rw [← j1]
        exact q_at_ext (va_up_ne _ _ ei) (by rw [va_up_ne _ _ (by omega), va_up_ne _ _ (by omega)]) (by rw [va_up_ne _ _ (by omega), va_up_ne _ _ (by omega)])
  · exact num _ _ hn (fun _ => k) (fun z => absurd hlv z)
  · exact num _ _ hn (fun z => absurd z hlv) (fun _ => hr1)
/-- behind goOn -/
def gq2_ (h0 : mv_H) (n o : Nat) (I0 tx S0 cs : Nat → Int) (V0 : Nat → Nat) (len : Nat) (var : Nat → qv_) (p0 : Nat) (r : Int × qv_) (w : Option mv_V) (h' : mv_H) (n' : Nat) : Prop :=
  n' = n ∧ ∃ (I' S' ps' bs' : Nat → Int) (V' : Nat → Nat), mu_ h0 o I0 tx S0 cs V0 h' I' S' ps' bs' V' ∧
    ((w = some (mv_I 0) ∧ ∃ p' st' m' f', Ev tx len var true p' st' m' f' r ∧ p0 ≤ p' ∧ st'.length ≤ 12 ∧ mt_ st' m' f' p' I' S' ps' bs' V') ∨ (w = some (mv_I 0) ∧ ∃ f', r = (0, f' 0) ∧ mt_ [] 1 f' len I' S' ps' bs' V') ∨ (w = some (mv_I r.1) ∧ r.1 ≠ 0 ∧ 0 ≤ r.1 ∧ r.1 ≤ 3))
/-- a bracket's end -/
theorem mg_cls {len p : Nat} {h0 : mv_H} {I0 S0 : Nat → Int} {V0 : Nat → Nat} {op : Int} {b c : Nat} {st : List bk_} {m : Nat} {f : Nat → qv_} (hu : mu_ h0 o I0 tx S0 cs V0 h I S ps bs V) (hs : mt_ ((op, b, c) :: st) m f p I S ps bs V) (hL : I0 1 = (len : Int)) (hl : len ≤ 120) (ht : ∀ i, 0 ≤ tx i ∧ tx i ≤ 127) (hLm : V0 158 = 2 ^ 240) (hp : p < len) (hc : tx p = 41) (ho : st.length < 12) (hb : b ≤ m ∧ m ≤ 60 ∧ b < 60) (ha : ar_ op (m - b))
    (k : ∀ (h' : mv_H) (I' S' : Nat → Int) (V' : Nat → Nat), mu_ h0 o I0 tx S0 cs V0 h' I' S' ps bs V' → I' 3 = (st.length : Int) → I' 4 = ((b + 1 : Nat) : Int) → I' 5 = ((p + 1 : Nat) : Int) → bl_ ps bs st → (∀ i, i < b → q_at S' V' i = f i ∧ q_in (f i)) → ((q_app op (m - b) fun i => f (b + i)).1 = 0 → q_at S' V' b = (q_app op (m - b) fun i => f (b + i)).2) →
      Go φ l m_mo_goOn (go_rm rd_mo_goOn rw_mo_goOn 0 0) (0, 0) 2 [some (mv_R o), some (mv_I (q_app op (m - b) fun i => f (b + i)).1), none, none, none] [] h' n) :
    Go φ l m_mo_goOn (go_rm rd_mo_goOn rw_mo_goOn 0 0) (0, 0) 2 [some (mv_R o), some (mv_I 0), none, none, none] [] h n := by
  obtain ⟨hV, hf, hI, hS, hR, hW, hP⟩ := hu
  obtain ⟨h3, h4, h5, ⟨b1, b2, b3⟩, hv⟩ := hs
  have h3' : I 3 = ((st.length + 1 : Nat) : Int) := h3
  have hI1 : I 1 = (len : Int) := (hI 1 (by decide) (by decide) (by decide)).trans hL
  have ech : ch_ tx len p = 41 := by rw [ch_in hp]; exact hc
  have h158 : V 158 = 2 ^ 240 := (hW 158 (by omega)).trans hLm
  obtain ⟨fs, hob⟩ := mo_Vob hV
  have beh : ∀ (x y : Int), Go φ l m_mo_goOn (go_rm rd_mo_goOn rw_mo_goOn 0 0) (0, 0) 76 [some (mv_R o), some (mv_I y), some (mv_I (bs (st.length + 1))), some (mv_I ((I 4) - (bs (st.length + 1)))), some (mv_I x)] [mv_I ((I 4) - (bs (st.length + 1))), mv_I (bs (st.length + 1)), mv_I (ps (st.length + 1)), mv_R o] h n := by
    intro x y
    rw [b1, b2, show I 4 - (b : Int) = ((m - b : Nat) : Int) by omega]
    refine go_callV (M' := m_mo_apply) (d := rd_mo_apply) (w := rw_mo_apply) (mc := 0) (ms := 0) (as := [mv_I op, mv_I (b : Int), mv_I ((m - b : Nat) : Int)]) (b := o) (rest := []) (q := 79) g_mo_apply i_mo_apply v_mo_apply l_mo_134 d_mo_goOn_76 rfl rfl rfl hob rfl (by decide) ⟨by decide, by decide, by decide, by decide⟩ (tm_apply (g := fun i => f (b + i)) hV ⟨hb.2.2, by omega⟩ ha h158 hR (fun j hj => hv (b + j) (by omega))) ?_
    rintro w h1 n1 ⟨rfl, rfl, hf1, S1, V1, hV1, ⟨s1, s2, s3⟩, hz⟩ -
    refine go_u0 (so_go_79 hV1 (fun h2 hV2 hf2 => ?_))
    refine k h2 _ S1 V1 ⟨hV2, hf.tr (hf1.tr hf2), fun i i1 i2 i3 => by rw [va_up_ne _ _ i3, va_up_ne _ _ i1, va_up_ne _ _ i2]; exact hI i i1 i2 i3, fun i i1 i2 => (s1 i (by omega) (by omega)).trans (hS i i1 i2), s2, fun i hi => (s3 i (by omega) (by omega) (by omega)).trans (hW i hi), hP⟩ ?_ ?_ ?_ b3 (fun i hi => ?_) hz
    · rw [va_up_ne _ _ (by decide), va_up_self]
      omega
    · rw [va_up_ne _ _ (by decide), va_up_ne _ _ (by decide), va_up_self]
      omega
    · rw [va_up_self]
      omega
    · obtain ⟨j1, j2⟩ := hv i (by omega)
      refine ⟨?_, j2⟩
      rw [← j1]
      exact q_at_ext (s1 i (by omega) (by omega)) (s3 _ (by omega) (by omega) (by omega)) (s3 _ (by omega) (by omega) (by omega))
  refine so_go_2 (k := st.length + 1) hV (by decide) ⟨h3', by omega⟩ (fun z => absurd rfl z) (fun _ z => by omega) (fun _ _ => ?_)
  exact so_go_13 (k := st.length + 1) (b := b) hV hI1 hl ht ⟨h5, by omega⟩ ⟨h4, hb.2.1⟩ ⟨h3', by omega⟩ ⟨b2, hb.1, hb.2.2⟩ (hP _) hR (fun _ z => absurd ech z) (fun _ _ => beh _ _) (fun _ z => absurd ech z) (fun _ z => absurd ech z) (fun _ z => absurd ech z) (fun _ z => absurd ech z) (fun _ _ => beh _ _)
theorem lp_go {len : Nat} {var : Nat → qv_} {h0 : mv_H} {I0 S0 : Nat → Int} {V0 : Nat → Nat} {p0 : Nat} (hL : I0 1 = (len : Int)) (hl : len ≤ 120) (ht : ∀ i, 0 ≤ tx i ∧ tx i ≤ 127) (hpos : ∀ i, i < len → tx i ≠ 0) (hLm : V0 158 = 2 ^ 240) {md : Bool} {p : Nat} {st : List bk_} {m : Nat} {f : Nat → qv_} {r : Int × qv_} (hE : Ev tx len var md p st m f r) :
    md = false → p0 ≤ p → st.length ≤ 12 → ∀ (h : mv_H) (I S ps bs : Nat → Int) (V : Nat → Nat), mu_ h0 o I0 tx S0 cs V0 h I S ps bs V → mt_ st m f p I S ps bs V →
      Go (go_f 0 0 (gq2_ h0 n o I0 tx S0 cs V0 len var p0 r)) l m_mo_goOn (go_rm rd_mo_goOn rw_mo_goOn 0 0) (0, 0) 2 [some (mv_R o), some (mv_I 0), none, none, none] [] h n := by
  induction hE using Ev.ind with
  | opn => intro z; cases z
  | vr => intro z; cases z
  | num => intro z; cases z
  | numF => intro z; cases z
  | @fin f =>
    intro _ hp0 h12 h I S ps bs V hu hs
    have h3 : I 3 = 0 := hs.1
    refine so_go_2 (k := 0) hu.1 (by decide) ⟨h3, by decide⟩ (fun z => absurd rfl z) (fun _ _ => ?_) (fun _ z => by omega)
    exact go_iret d_mo_goOn_187 rfl go_le0 ⟨rfl, I, S, ps, bs, V, hu, Or.inr (Or.inl ⟨rfl, f, rfl, hs⟩)⟩
  | @cls p op b c st m f r hp hc ho hb ha h0' k ih =>
    intro _ hp0 h12 h I S ps bs V hu hs
    have hqin : ∀ j, j < m - b → q_in (f (b + j)) := fun j hj => (hs.2.2.2.2 (b + j) (by omega)).2
    refine mg_cls hu hs hL hl ht hLm hp hc ho hb ha (fun h1 I1 S1 V1 hu1 h31 h41 h51 hb1 hv1 hz => ?_)
    rw [h0']
    refine ih rfl (by omega) (by omega) h1 I1 S1 ps bs V1 hu1 ⟨h31, h41, h51, hb1, fun i hi => ?_⟩
    by_cases e : i = b
    · subst e
      rw [va_up_self]
      exact ⟨hz h0', q_app_in ha hqin h0'⟩
    · rw [va_up_ne _ _ e]
      exact hv1 i (by omega)
  | @clsF p op b c st m f r hp hc ho hb ha h0' =>
    intro _ hp0 h12 h I S ps bs V hu hs
    refine mg_cls hu hs hL hl ht hLm hp hc ho hb ha (fun h1 I1 S1 V1 hu1 h31 h41 h51 hb1 hv1 hz => ?_)
    have b3 := q_app_b (op := op) (n := m - b) (f := fun i => f (b + i))
    refine so_go_2 (k := st.length) hu1.1 b3 ⟨h31, by omega⟩ (fun _ => ?_) (fun z => absurd z h0') (fun z => absurd z h0')
    exact go_iret d_mo_goOn_187 rfl go_le0 ⟨rfl, I1, S1, ps, bs, V1, hu1, Or.inr (Or.inr ⟨rfl, h0', b3⟩)⟩
  | @arg p op b c st m f r hp hc ho hb hk hs' k ih =>
    intro _ hp0 h12 h I S ps bs V hu hs
    obtain ⟨hV, hf, hI, hS, hR, hW, hP⟩ := hu
    obtain ⟨h3, h4, h5, ⟨b1, b2, b3⟩, hv⟩ := hs
    have h3' : I 3 = ((st.length + 1 : Nat) : Int) := h3
    have hI1 : I 1 = (len : Int) := (hI 1 (by decide) (by decide) (by decide)).trans hL
    have ech : ch_ tx len p = 32 := by rw [ch_in hp]; exact hc
    have nch : ¬ ch_ tx len p = 41 := by omega
    have fin : ∀ (h1 : mv_H), mo_V h1 o (va_up I 5 ((I 5) + 1), tx, S, ps, cs, bs) V → fr_ o 8 h h1 → ∀ L, Go (go_f 0 0 (gq2_ h0 n o I0 tx S0 cs V0 len var p0 r)) l m_mo_goOn (go_rm rd_mo_goOn rw_mo_goOn 0 0) (0, 0) 182 L [mv_I 0] h1 n := by
      intro h1 hV1 hf1 L
      refine go_iret d_mo_goOn_182 rfl go_le0 ⟨rfl, _, S, ps, bs, V, ⟨hV1, hf.tr hf1, fun i i1 i2 i3 => by rw [va_up_ne _ _ i3]; exact hI i i1 i2 i3, hS, hR, hW, hP⟩, Or.inl ⟨rfl, p + 1, _, m, f, k, by omega, h12, by rw [va_up_ne _ _ (by decide)]; exact h3, by rw [va_up_ne _ _ (by decide)]; exact h4, by rw [va_up_self]; omega, ⟨b1, b2, b3⟩, hv⟩⟩
    refine so_go_2 (k := st.length + 1) hV (by decide) ⟨h3', by omega⟩ (fun z => absurd rfl z) (fun _ z => by omega) (fun _ _ => ?_)
    refine so_go_13 (k := st.length + 1) (b := b) (m := m) hV hI1 hl ht ⟨h5, by omega⟩ ⟨h4, hb.2.1⟩ ⟨h3', by omega⟩ ⟨b2, hb.1, hb.2.2⟩ (hP _) hR (fun _ _ h1 hV1 hf1 => fin h1 hV1 hf1 _) (fun _ z => absurd z nch) (fun _ _ _ _ h1 hV1 hf1 => fin h1 hV1 hf1 _) (fun _ _ _ _ _ h1 hV1 hf1 => fin h1 hV1 hf1 _) (fun c1 _ c2 c3 c4 => ?_) (fun c1 _ c2 => ?_) (fun _ z => absurd z nch)
    · rcases hs' (by omega) with ⟨s1, s2⟩ | ⟨s1, s2, s3⟩
      · omega
      · obtain ⟨j1, j2⟩ := hv b (by omega)
        have := j2.1.2.1.mp (by rw [← j1]; exact c4)
        exact absurd this s3
    · rcases hs' (by omega) with ⟨s1, s2⟩ | ⟨s1, s2, s3⟩ <;> omega
  | @third p e b st m f r hp hc ho hb hm hz he hpe hk hce k ih =>
    intro _ hp0 h12 h I S ps bs V hu hs
    obtain ⟨hV, hf, hI, hS, hR, hW, hP⟩ := hu
    obtain ⟨h3, h4, h5, ⟨b1, b2, b3⟩, hv⟩ := hs
    have h3' : I 3 = ((st.length + 1 : Nat) : Int) := h3
    have hI1 : I 1 = (len : Int) := (hI 1 (by decide) (by decide) (by decide)).trans hL
    have ech : ch_ tx len p = 32 := by rw [ch_in hp]; exact hc
    have nch : ¬ ch_ tx len p = 41 := by omega
    obtain ⟨j1, j2⟩ := hv b (by omega)
    have hSb : S b = 0 := by
      have := j2.1.2.1.mpr hz
      rw [← j1] at this
      exact this
    obtain ⟨fs, hob⟩ := mo_Vob hV
    refine so_go_2 (k := st.length + 1) hV (by decide) ⟨h3', by omega⟩ (fun z => absurd rfl z) (fun _ z => by omega) (fun _ _ => ?_)
    refine so_go_13 (k := st.length + 1) (b := b) (m := m) hV hI1 hl ht ⟨h5, by omega⟩ ⟨h4, by omega⟩ ⟨h3', by omega⟩ ⟨b2, by omega, by omega⟩ (hP _) hR (fun z => absurd b1 z) (fun _ z => absurd z nch) (fun _ _ _ z => by omega) (fun _ _ _ _ z => absurd hSb z) (fun _ _ _ _ _ => ?_) (fun _ _ z => by omega) (fun _ z => absurd z nch)
    rw [show I 5 + 1 = ((p + 1 : Nat) : Int) by omega]
    refine go_callV (M' := m_mo_skip) (d := rd_mo_skip) (w := rw_mo_skip) (mc := 0) (ms := 0) (as := [mv_I ((p + 1 : Nat) : Int)]) (b := o) (rest := [mv_R o]) (q := 167) g_mo_skip i_mo_skip v_mo_skip l_mo_138 d_mo_goOn_164 rfl rfl rfl hob rfl (Nat.le_of_ble_eq_true rfl) ⟨by decide, by decide, by decide, by decide⟩ (tm_skip hV hI1 hl ht hpos hk hpe) ?_
    rintro w h1 n1 ⟨rfl, rfl, rfl⟩ -
    refine go_u0 (so_go_167 hV (fun h2 hV2 hf2 => ?_))
    exact go_iret d_mo_goOn_182 rfl go_le0 ⟨rfl, _, S, ps, bs, V, ⟨hV2, hf.tr hf2, fun i i1 i2 i3 => by rw [va_up_ne _ _ i3]; exact hI i i1 i2 i3, hS, hR, hW, hP⟩, Or.inl ⟨rfl, e + 1, _, m, f, k, by omega, h12, by rw [va_up_ne _ _ (by decide)]; exact h3, by rw [va_up_ne _ _ (by decide)]; exact h4, by rw [va_up_self]; omega, ⟨b1, b2, b3⟩, hv⟩⟩
  | @rest p e b st m f r hp hc ho hb hm hz he hpe hk hce k ih =>
    intro _ hp0 h12 h I S ps bs V hu hs
    obtain ⟨hV, hf, hI, hS, hR, hW, hP⟩ := hu
    obtain ⟨h3, h4, h5, ⟨b1, b2, b3⟩, hv⟩ := hs
    have h3' : I 3 = ((st.length + 1 : Nat) : Int) := h3
    have hI1 : I 1 = (len : Int) := (hI 1 (by decide) (by decide) (by decide)).trans hL
    have ech : ch_ tx len p = 32 := by rw [ch_in hp]; exact hc
    have nch : ¬ ch_ tx len p = 41 := by omega
    obtain ⟨fs, hob⟩ := mo_Vob hV
    refine so_go_2 (k := st.length + 1) hV (by decide) ⟨h3', by omega⟩ (fun z => absurd rfl z) (fun _ z => by omega) (fun _ _ => ?_)
    refine so_go_13 (k := st.length + 1) (b := b) (m := m) hV hI1 hl ht ⟨h5, by omega⟩ ⟨h4, by omega⟩ ⟨h3', by omega⟩ ⟨b2, by omega, by omega⟩ (hP _) hR (fun z => absurd b1 z) (fun _ z => absurd z nch) (fun _ _ z => by omega) (fun _ _ z => by omega) (fun _ _ z => by omega) (fun _ _ _ => ?_) (fun _ z => absurd z nch)
    rw [show I 5 + 1 = ((p + 1 : Nat) : Int) by omega]
    refine go_callV (M' := m_mo_skip) (d := rd_mo_skip) (w := rw_mo_skip) (mc := 0) (ms := 0) (as := [mv_I ((p + 1 : Nat) : Int)]) (b := o) (rest := [mv_R o]) (q := 131) g_mo_skip i_mo_skip v_mo_skip l_mo_138 d_mo_goOn_128 rfl rfl rfl hob rfl (Nat.le_of_ble_eq_true rfl) ⟨by decide, by decide, by decide, by decide⟩ (tm_skip hV hI1 hl ht hpos hk hpe) ?_
    rintro w h1 n1 ⟨rfl, rfl, rfl⟩ -
    refine go_u0 (so_go_131 hV (fun h2 hV2 hf2 => ?_))
    exact ih rfl (by omega) h12 h2 _ S ps bs V ⟨hV2, hf.tr hf2, fun i i1 i2 i3 => by rw [va_up_ne _ _ i3]; exact hI i i1 i2 i3, hS, hR, hW, hP⟩ ⟨by rw [va_up_ne _ _ (by decide)]; exact h3, by rw [va_up_ne _ _ (by decide)]; exact h4, va_up_self _ _ _, ⟨b1, b2, b3⟩, hv⟩
/-- how the model's work ends -/
def mw_ (h0 : mv_H) (n o : Nat) (I0 tx S0 cs : Nat → Int) (V0 : Nat → Nat) (r : Int × qv_) (w : Option mv_V) (h' : mv_H) (n' : Nat) : Prop :=
  w = some (mv_I r.1) ∧ n' = n ∧ ∃ (I' S' ps' bs' : Nat → Int) (V' : Nat → Nat), mu_ h0 o I0 tx S0 cs V0 h' I' S' ps' bs' V' ∧ (r.1 = 0 → q_at S' V' 0 = r.2 ∧ q_in r.2)
theorem lp_wk {len : Nat} {var : Nat → qv_} {h0 : mv_H} {I0 S0 : Nat → Int} {V0 : Nat → Nat} {r : Int × qv_} (hL : I0 1 = (len : Int)) (hl : len ≤ 120) (ht : ∀ i, 0 ≤ tx i ∧ tx i ≤ 127) (hpos : ∀ i, i < len → tx i ≠ 0) (hLm : V0 158 = 2 ^ 240) (hvar : ∀ v, v < 8 → q_at S0 V0 (64 + v) = var v ∧ q_in (var v)) :
    ∀ (d p : Nat) (st : List bk_) (m : Nat) (f : Nat → qv_) (h : mv_H) (I S ps bs : Nat → Int) (V : Nat → Nat), len < p + d → Ev tx len var true p st m f r → st.length ≤ 12 → mu_ h0 o I0 tx S0 cs V0 h I S ps bs V → mt_ st m f p I S ps bs V →
      Go (go_f 0 0 (mw_ h0 n o I0 tx S0 cs V0 r)) l m_mo_workOut (go_rm rd_mo_workOut rw_mo_workOut 0 0) (0, 0) 17 [some (mv_R o), some (mv_I 0)] [] h n := by
  intro d
  induction d with
  | zero =>
    intro p st m f h I S ps bs V hd hE
    have := (ev_lt hE).1
    omega
  | succ d ih =>
    intro p st m f h I S ps bs V hd hE h12 hu hs
    have hlt := (ev_lt hE).1
    have hV := hu.1
    have hI1 : I 1 = (len : Int) := (hu.2.2.1 1 (by decide) (by decide) (by decide)).trans hL
    have h5 := hs.2.2.1
    obtain ⟨fs, hob⟩ := mo_Vob hV
    refine so_wk_17 hV (by decide) ⟨h5, by omega⟩ hI1 hl (fun z => absurd rfl z) (fun _ z => by omega) (fun _ _ => ?_)
    refine go_callV (M' := m_mo_begin) (d := rd_mo_begin) (w := rw_mo_begin) (mc := 0) (ms := 0) (as := []) (b := o) (rest := []) (q := 36) g_mo_begin i_mo_begin v_mo_begin l_mo_141 d_mo_workOut_33 rfl rfl rfl hob rfl (by decide) ⟨by decide, by decide, by decide, by decide⟩ (tm_begin hu hs h12 hE hL hl ht hLm hvar) ?_
    rintro w h1 n1 ⟨rfl, I1, S1, ps1, bs1, V1, hu1, hw⟩ -
    have failing : ∀ (z : Int) (h2 : mv_H) (I2 S2 ps2 bs2 : Nat → Int) (V2 : Nat → Nat), mu_ h0 o I0 tx S0 cs V0 h2 I2 S2 ps2 bs2 V2 → (0 ≤ z ∧ z ≤ 3) → z ≠ 0 → r.1 = z → Go (go_f 0 0 (mw_ h0 n1 o I0 tx S0 cs V0 r)) l m_mo_workOut (go_rm rd_mo_workOut rw_mo_workOut 0 0) (0, 0) 17 [some (mv_R o), some (mv_I z)] [] h2 n1 := by
      intro z h2 I2 S2 ps2 bs2 V2 hu2 hz hz0 hr
      have r54 : ∀ L, Go (go_f 0 0 (mw_ h0 n1 o I0 tx S0 cs V0 r)) l m_mo_workOut (go_rm rd_mo_workOut rw_mo_workOut 0 0) (0, 0) 54 L [mv_I z] h2 n1 := fun L => go_iret d_mo_workOut_54 rfl go_le0 ⟨by rw [hr], rfl, I2, S2, ps2, bs2, V2, hu2, fun y => absurd (hr.symm.trans y) hz0⟩
      refine go_iload_n (q := 18) d_mo_workOut_17 rfl rfl rfl ?_
      refine go_if_ne (t := 53) (q := 21) d_mo_workOut_18 (by decide) rfl (by omega) (fun _ => ?_) (fun y => absurd y hz0)
      exact go_iload_n (q := 54) d_mo_workOut_53 rfl rfl rfl (r54 _)
    rcases hw with ⟨rfl, p', st', m', f', hE1, hpp, h121, hs1⟩ | ⟨rfl, hr⟩
    · refine go_u0 (so_wk_36 hu1.1 (by decide) (fun _ => ?_) (fun z => absurd (Int.le_refl 0) z))
      obtain ⟨fs1, hob1⟩ := mo_Vob hu1.1
      have hgo : Fn l m_mo_goOn rd_mo_goOn rw_mo_goOn 0 0 [mv_R o] h1 n1 (gq2_ h0 n1 o I0 tx S0 cs V0 len var p' r) := by
        refine fn_of rfl (Nat.le_of_ble_eq_true rfl) rfl ?_
        exact so_go_0 hu1.1 (lp_go hL hl ht hpos hLm hE1 rfl (Nat.le_refl _) h121 h1 I1 S1 ps1 bs1 V1 hu1 hs1)
      refine go_callV (M' := m_mo_goOn) (d := rd_mo_goOn) (w := rw_mo_goOn) (mc := 0) (ms := 0) (as := []) (b := o) (rest := []) (q := 49) g_mo_goOn i_mo_goOn v_mo_goOn l_mo_144 d_mo_workOut_46 rfl rfl rfl hob1 rfl (by decide) ⟨by decide, by decide, by decide, by decide⟩ hgo ?_
      rintro w h2 n2 ⟨rfl, I2, S2, ps2, bs2, V2, hu2, hw2⟩ -
      rcases hw2 with ⟨rfl, p2, st2, m2, f2, hE2, hpp2, h122, hs2⟩ | ⟨rfl, f2, hr2, hs2⟩ | ⟨rfl, hr0, hr1, hr3⟩
      · exact go_u0 (so_wk_49 hu2.1 (ih p2 st2 m2 f2 h2 I2 S2 ps2 bs2 V2 (by omega) hE2 h122 hu2 hs2))
      · refine go_u0 (so_wk_49 hu2.1 ?_)
        have hI21 : I2 1 = (len : Int) := (hu2.2.2.1 1 (by decide) (by decide) (by decide)).trans hL
        refine so_wk_17 hu2.1 (by decide) ⟨hs2.2.2.1, by omega⟩ hI21 hl (fun z => absurd rfl z) (fun _ _ => ?_) (fun _ z => by have := hs2.2.2.1; omega)
        refine go_iret d_mo_workOut_54 rfl go_le0 ⟨by rw [hr2], rfl, I2, S2, ps2, bs2, V2, hu2, fun _ => ?_⟩
        obtain ⟨j1, j2⟩ := hs2.2.2.2.2 0 (by decide)
        rw [hr2]
        exact ⟨j1, j2⟩
      · exact go_u0 (so_wk_49 hu2.1 (failing r.1 h2 I2 S2 ps2 bs2 V2 hu2 ⟨hr1, hr3⟩ hr0 rfl))
    · exact go_u0 (so_wk_36 hu1.1 (by decide) (fun z => absurd z (by decide)) (fun _ => failing 1 h1 I1 S1 ps1 bs1 V1 hu1 (by decide) (by decide) hr))
theorem tm_workOut {len : Nat} {var : Nat → qv_} {f : Nat → qv_} {r : Int × qv_} (hV : mo_V h o (I, tx, S, ps, cs, bs) V) (hL : I 1 = (len : Int)) (hl : len ≤ 120) (ht : ∀ i, 0 ≤ tx i ∧ tx i ≤ 127) (hpos : ∀ i, i < len → tx i ≠ 0) (hLm : V 158 = 2 ^ 240) (hS : ∀ i, -1 ≤ S i ∧ S i ≤ 1) (hP : ∀ i, 0 ≤ ps i ∧ ps i ≤ 127) (hvar : ∀ v, v < 8 → q_at S V (64 + v) = var v ∧ q_in (var v)) (hE : Ev tx len var true 0 [] 0 f r) :
    Fn l m_mo_workOut rd_mo_workOut rw_mo_workOut 0 0 [mv_R o] h n (mw_ h n o I tx S cs V r) := by
  refine fn_of rfl (Nat.le_of_ble_eq_true rfl) rfl ?_
  refine so_wk_0 hV (fun h1 hV1 hf1 => ?_)
  refine lp_wk hL hl ht hpos hLm hvar (len + 1) 0 [] 0 f h1 _ S ps bs V (by omega) hE (by decide) ⟨hV1, hf1, fun i i1 i2 i3 => by rw [va_up_ne _ _ i3, va_up_ne _ _ i2, va_up_ne _ _ i1], fun _ _ _ => rfl, hS, fun _ _ => rfl, hP⟩ ⟨?_, ?_, va_up_self _ _ _, trivial, fun i hi => absurd hi (by omega)⟩
  · rw [va_up_ne _ _ (by decide), va_up_ne _ _ (by decide), va_up_self]
    rfl
  · rw [va_up_ne _ _ (by decide), va_up_self]
    rfl
end MxWork
