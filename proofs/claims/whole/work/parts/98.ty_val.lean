/-! type, erase, fault of both -/
section TyVal
variable {φ : go_F} {l : Launch} {h : mv_H} {n : Nat} {I tx wr ga gb mo mf mg : Nat → Int} {B : Nat → Int} {V : Nat → Nat}
def tyc_ (h : mv_H) (n : Nat) (I tx wr ga gb mo mf mg : Nat → Int) (B : Nat → Int) (V : Nat → Nat) (len : Nat) (z : Int) (k : Nat) (w : Option mv_V) (h' : mv_H) (n' : Nat) : Prop :=
  n' = n ∧ fr_ 1 389 h h' ∧ (((gd_ z k ∧ len + k ≤ 120) ∧ w = some (mv_I 1) ∧ pn_V h' (va_up I 0 ((len + k : Nat) : Int), tu_ tx len z k, wr, ga, gb, mo, mf, mg) B V) ∨ (¬ (gd_ z k ∧ len + k ≤ 120) ∧ w = some (mv_I 0) ∧ pn_V h' (I, tx, wr, ga, gb, mo, mf, mg) B V))
theorem tp_type {z : Int} {k len : Nat} (hV : pn_V h (I, tx, wr, ga, gb, mo, mf, mg) B V) (hL : I 0 = (len : Int) ∧ len ≤ 120) (hn : nb_ z k) : Fn l m_pn_type rd_pn_type rw_pn_type 0 0 [mv_R 1, mv_L z] h n (tyc_ h n I tx wr ga gb mo mf mg B V len z k) := by
  refine fn_of rfl (Nat.le_of_ble_eq_true rfl) rfl ?_
  obtain ⟨n1, n2, n3⟩ := hn
  have bad : ∀ (pc : Nat) (L : List (Option mv_V)), decode b_pn_type pc = .ok (.ireturn, 1) → ¬ (gd_ z k ∧ len + k ≤ 120) → Go (go_f 0 0 (tyc_ h n I tx wr ga gb mo mf mg B V len z k)) l m_pn_type (go_rm rd_pn_type rw_pn_type 0 0) (0, 0) pc L [mv_I 0] h n := fun pc L hd hb =>
    go_zret hd rfl (by decide) go_le0 ⟨rfl, fr_.rf, Or.inr ⟨hb, rfl, hV⟩⟩
  -- the row goes to the text
  have put : gd_ z k → len + k ≤ 120 → ∀ (d i : Nat) (h1 : mv_H), i + d = k → pn_V h1 (I, tu_ tx len z i, wr, ga, gb, mo, mf, mg) B V → fr_ 1 389 h h1 → Go (go_f 0 0 (tyc_ h n I tx wr ga gb mo mf mg B V len z k)) l m_pn_type (go_rm rd_pn_type rw_pn_type 0 0) (0, 0) 61 [some (mv_R 1), some (mv_L z), none, some (mv_I (k : Int)), some (mv_I (i : Int))] [] h1 n := by
    intro hg hk d
    induction d with
    | zero =>
      intro i h1 hi hV1 hf1
      have ei : i = k := by omega
      subst ei
      refine sp_ty_61 hV1 ⟨n1, Nat.le_refl _⟩ hL hk (fun _ h2 hV2 hf2 => ?_) (fun z => by omega)
      rw [show I 0 + (i : Int) = ((len + i : Nat) : Int) by omega] at hV2
      exact go_zret d_pn_type_103 rfl (by decide) go_le0 ⟨rfl, hf1.tr hf2, Or.inl ⟨⟨hg, hk⟩, rfl, hV2⟩⟩
    | succ d ih =>
      intro i h1 hi hV1 hf1
      refine sp_ty_61 hV1 ⟨n1, by omega⟩ hL hk (fun z => by omega) (fun _ h2 hV2 hf2 => ?_)
      rw [tu_s] at hV2
      rw [show ((i : Int) + 1) = ((i + 1 : Nat) : Int) by omega]
      exact ih (i + 1) h2 (by omega) hV2 (hf1.tr hf2)
  have lp : ∀ (d i : Nat), i + d = k → gd_ z i → Go (go_f 0 0 (tyc_ h n I tx wr ga gb mo mf mg B V len z k)) l m_pn_type (go_rm rd_pn_type rw_pn_type 0 0) (0, 0) 2 [some (mv_R 1), some (mv_L z), none, some (mv_I (i : Int)), none] [] h n := by
    intro d
    induction d with
    | zero =>
      intro i hi hg
      have ei : i = k := by omega
      subst ei
      have r45 : Go (go_f 0 0 (tyc_ h n I tx wr ga gb mo mf mg B V len z i)) l m_pn_type (go_rm rd_pn_type rw_pn_type 0 0) (0, 0) 45 [some (mv_R 1), some (mv_L z), none, some (mv_I (i : Int)), none] [] h n := by
        refine sp_ty_45 hV n1 hL (fun c => ?_) (fun c => bad 57 _ d_pn_type_57 (fun y => by omega))
        exact put hg (by omega) i 0 h (by omega) (by rw [tu_0]; exact hV) fr_.rf
      exact sp_ty_2 hV n1 (fun _ => r45) (fun _ _ => r45) (fun c1 c2 => by omega) (fun c1 c2 => by omega) (fun c1 c2 => by omega)
    | succ d ih =>
      intro i hi hg
      have hne := n2 i (by omega)
      refine sp_ty_2 hV (by omega) (fun c => by omega) (fun _ c => absurd c hne) (fun _ _ c => bad 38 _ d_pn_type_38 (fun y => by have := y.1 i (by omega); omega)) (fun _ _ c1 c2 => ?_) (fun _ _ _ c => bad 38 _ d_pn_type_38 (fun y => by have := y.1 i (by omega); omega))
      rw [show ((i : Int) + 1) = ((i + 1 : Nat) : Int) by omega]
      refine ih (i + 1) (by omega) (fun j hj => ?_)
      by_cases e : j = i
      · rw [e]; omega
      · exact hg j (by omega)
  exact sp_ty_0 hV (lp k 0 (by omega) (fun j hj => absurd hj (by omega)))
theorem tp_erase (hV : pn_V h (I, tx, wr, ga, gb, mo, mf, mg) B V) : Fn l m_pn_erase rd_pn_erase rw_pn_erase 0 0 [mv_R 1] h n (fun w h' n' => w = some (mv_I (I 0)) ∧ n' = n ∧ fr_ 1 389 h h' ∧ pn_V h' (va_up I 0 0, tx, wr, ga, gb, mo, mf, mg) B V) := by
  refine fn_of rfl (Nat.le_of_ble_eq_true rfl) rfl ?_
  exact sp_er hV fun h1 hV1 hf1 => go_iret d_pn_erase_11 rfl go_le0 ⟨rfl, rfl, hf1, hV1⟩
theorem tp_fault (hV : pn_V h (I, tx, wr, ga, gb, mo, mf, mg) B V) : Fn l m_pn_fault rd_pn_fault rw_pn_fault 0 0 [mv_R 1] h n (fun w h' n' => w = some (mv_I (I 1)) ∧ n' = n ∧ h' = h) := by
  refine fn_of rfl (Nat.le_of_ble_eq_true rfl) rfl ?_
  exact sp_fa hV (go_iret d_pn_fault_4 rfl go_le0 ⟨rfl, rfl, rfl⟩)
end TyVal
section TyMo
variable {φ : go_F} {l : Launch} {h : mv_H} {n o : Nat} {I tx S ps cs bs : Nat → Int} {V : Nat → Nat}
def tym_ (h : mv_H) (n o : Nat) (I tx S ps cs bs : Nat → Int) (V : Nat → Nat) (len : Nat) (z : Int) (k : Nat) (w : Option mv_V) (h' : mv_H) (n' : Nat) : Prop :=
  n' = n ∧ fr_ o 8 h h' ∧ (((gd_ z k ∧ len + k ≤ 120) ∧ w = some (mv_I 1) ∧ mo_V h' o (va_up (va_up I 0 0) 1 ((len + k : Nat) : Int), tu_ tx len z k, S, ps, cs, bs) V) ∨ (¬ (gd_ z k ∧ len + k ≤ 120) ∧ w = some (mv_I 0) ∧ mo_V h' o (va_up I 0 0, tx, S, ps, cs, bs) V))
theorem tm_type {z : Int} {k len : Nat} (hV : mo_V h o (I, tx, S, ps, cs, bs) V) (hL : I 1 = (len : Int) ∧ len ≤ 120) (hz : -9223372036854775808 ≤ z ∧ z ≤ 9223372036854775807) (hn : nb_ z k) : Fn l m_mo_type rd_mo_type rw_mo_type 0 0 [mv_R o, mv_L z] h n (tym_ h n o I tx S ps cs bs V len z k) := by
  refine fn_of rfl (Nat.le_of_ble_eq_true rfl) rfl ?_
  obtain ⟨n1, n2, n3⟩ := hn
  refine so_ty_0 hV (fun h0 hV0 hf0 => ?_)
  have hL0 : va_up I 0 0 1 = (len : Int) ∧ len ≤ 120 := ⟨(va_up_ne _ _ (by decide)).trans hL.1, hL.2⟩
  have bad : ∀ (L : List (Option mv_V)), ¬ (gd_ z k ∧ len + k ≤ 120) → Go (go_f 0 0 (tym_ h n o I tx S ps cs bs V len z k)) l m_mo_type (go_rm rd_mo_type rw_mo_type 0 0) (0, 0) 94 L [mv_I 0] h0 n := fun L hb =>
    go_zret d_mo_type_94 rfl (by decide) go_le0 ⟨rfl, hf0, Or.inr ⟨hb, rfl, hV0⟩⟩
  have put : gd_ z k → len + k ≤ 120 → ∀ (d i : Nat) (h1 : mv_H) (g : Int), i + d = k → mo_V h1 o (va_up I 0 0, tu_ tx len z i, S, ps, cs, bs) V → fr_ o 8 h h1 → Go (go_f 0 0 (tym_ h n o I tx S ps cs bs V len z k)) l m_mo_type (go_rm rd_mo_type rw_mo_type 0 0) (0, 0) 98 [some (mv_R o), some (mv_L z), none, some (mv_I (k : Int)), some (mv_I g), some (mv_I (i : Int))] [] h1 n := by
    intro hg hk d
    induction d with
    | zero =>
      intro i h1 g hi hV1 hf1
      have ei : i = k := by omega
      subst ei
      refine so_ty_98 hV1 hz ⟨n1, Nat.le_refl _⟩ hL0 hk (fun _ h2 hV2 hf2 => ?_) (fun z => by omega)
      rw [show va_up I 0 0 1 + (i : Int) = ((len + i : Nat) : Int) by rw [hL0.1]; omega] at hV2
      exact go_zret d_mo_type_145 rfl (by decide) go_le0 ⟨rfl, hf1.tr hf2, Or.inl ⟨⟨hg, hk⟩, rfl, hV2⟩⟩
    | succ d ih =>
      intro i h1 g hi hV1 hf1
      refine so_ty_98 hV1 hz ⟨n1, by omega⟩ hL0 hk (fun z => by omega) (fun _ h2 hV2 hf2 => ?_)
      rw [cb_eq (by omega), tu_s] at hV2
      rw [show ((i : Int) + 1) = ((i + 1 : Nat) : Int) by omega]
      exact ih (i + 1) h2 g (by omega) hV2 (hf1.tr hf2)
  have lp : ∀ (d i : Nat) (g : Int), i + d = k → (g = 1 ∧ gd_ z i ∨ g = 0 ∧ ¬ gd_ z i) → Go (go_f 0 0 (tym_ h n o I tx S ps cs bs V len z k)) l m_mo_type (go_rm rd_mo_type rw_mo_type 0 0) (0, 0) 10 [some (mv_R o), some (mv_L z), none, some (mv_I (i : Int)), some (mv_I g), none] [] h0 n := by
    intro d
    induction d with
    | zero =>
      intro i g hi hg
      have ei : i = k := by omega
      subst ei
      have r77 : Go (go_f 0 0 (tym_ h n o I tx S ps cs bs V len z i)) l m_mo_type (go_rm rd_mo_type rw_mo_type 0 0) (0, 0) 77 [some (mv_R o), some (mv_L z), none, some (mv_I (i : Int)), some (mv_I g), none] [] h0 n := by
        refine so_ty_77 hV0 n1 (by omega) hL0 (fun c => bad _ (fun y => ?_)) (fun c1 c2 => ?_) (fun c1 c2 => bad _ (fun y => ?_))
        · rcases hg with ⟨a, b⟩ | ⟨a, b⟩
          · omega
          · exact b y.1
        · rcases hg with ⟨a, b⟩ | ⟨a, b⟩
          · exact put b (by rw [hL0.1] at c2; omega) i 0 h0 g (by omega) (by rw [tu_0]; exact hV0) hf0
          · omega
        · rw [hL0.1] at c2
          omega
      refine so_ty_10 hV0 hz n1 (fun _ => r77) (fun c => ?_)
      have hb := cb_b z i
      rw [cb_eq (by omega)]
      refine go_lcmp (q := 28) d_mo_type_27 rfl (by omega) (by decide) ?_
      have c0 : cb_ z i = 0 := by omega
      rw [c0, if_neg (by decide), if_pos rfl]
      exact go_if_eq (t := 77) (q := 31) d_mo_type_28 (by decide) rfl (by decide) (fun _ => r77) (fun y => absurd rfl y)
    | succ d ih =>
      intro i g hi hg
      have hne := n2 i (by omega)
      have hb := cb_b z i
      refine so_ty_10 hV0 hz (by omega) (fun c => by omega) (fun _ => ?_)
      rw [cb_eq (by omega)]
      refine go_lcmp (q := 28) d_mo_type_27 rfl (by omega) (by decide) ?_
      rw [if_pos (by omega)]
      refine go_if_eq (t := 77) (q := 31) d_mo_type_28 (by decide) rfl (by decide) (fun y => absurd y (by decide)) (fun _ => ?_)
      refine so_ty_31 hV0 hz (by omega) (by omega) ?_
      rw [cb_eq (by omega)]
      have e1 : ((i : Int) + 1) = ((i + 1 : Nat) : Int) := by omega
      refine so_ty_44 hV0 (by omega) (by omega) (fun c => ?_) (fun c1 c2 => ?_) (fun c1 c2 c3 => ?_) (fun c1 c2 c3 => ?_)
      · rw [e1]
        refine ih (i + 1) 0 (by omega) (Or.inr ⟨rfl, fun y => ?_⟩)
        rcases hg with ⟨a, b⟩ | ⟨a, b⟩
        · omega
        · exact b (fun j hj => y j (by omega))
      · rw [e1]
        exact ih (i + 1) 0 (by omega) (Or.inr ⟨rfl, fun y => by have := y i (by omega); omega⟩)
      · rw [e1]
        exact ih (i + 1) 0 (by omega) (Or.inr ⟨rfl, fun y => by have := y i (by omega); omega⟩)
      · rw [e1]
        refine ih (i + 1) 1 (by omega) (Or.inl ⟨rfl, fun j hj => ?_⟩)
        rcases hg with ⟨a, b⟩ | ⟨a, b⟩
        · by_cases e : j = i
          · rw [e]; omega
          · exact b j (by omega)
        · omega
  exact lp k 0 1 (by omega) (Or.inl ⟨rfl, fun j hj => absurd hj (by omega)⟩)
theorem tm_erase (hV : mo_V h o (I, tx, S, ps, cs, bs) V) : Fn l m_mo_erase rd_mo_erase rw_mo_erase 0 0 [mv_R o] h n (fun w h' n' => w = some (mv_I (I 1)) ∧ n' = n ∧ fr_ o 8 h h' ∧ mo_V h' o (va_up (va_up I 0 0) 1 0, tx, S, ps, cs, bs) V) := by
  refine fn_of rfl (Nat.le_of_ble_eq_true rfl) rfl ?_
  exact so_er hV fun h1 hV1 hf1 => go_iret d_mo_erase_16 rfl go_le0 ⟨rfl, rfl, hf1, hV1⟩
theorem tm_fault (hV : mo_V h o (I, tx, S, ps, cs, bs) V) : Fn l m_mo_fault rd_mo_fault rw_mo_fault 0 0 [mv_R o] h n (fun w h' n' => w = some (mv_I (I 2)) ∧ n' = n ∧ fr_ o 8 h h' ∧ mo_V h' o (va_up I 0 0, tx, S, ps, cs, bs) V) := by
  refine fn_of rfl (Nat.le_of_ble_eq_true rfl) rfl ?_
  exact so_fa hV fun h1 hV1 hf1 => go_iret d_mo_fault_9 rfl go_le0 ⟨rfl, rfl, hf1, hV1⟩
end TyMo
