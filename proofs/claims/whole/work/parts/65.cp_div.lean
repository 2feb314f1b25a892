/-! calls of the Divider, over the class's object -/
theorem iz_rng {p : Prop} {d : Decidable p} : -2147483648 ≤ (if p then (0 : Int) else 1) ∧ (if p then (0 : Int) else 1) ≤ 2147483647 := by
  split <;> omega
theorem iz_nep {p : Prop} {d : Decidable p} (h : ¬ (if p then (0 : Int) else 1) = 0) : ¬ p := fun hp => by
  rw [if_pos hp] at h
  exact h rfl
theorem iz_nen {p : Prop} {d : Decidable p} (h : (if p then (0 : Int) else 1) = 0) : p := by
  by_cases hp : p
  · exact hp
  · rw [if_neg hp] at h
    exact absurd h (by decide)
theorem iz_eqp {p : Prop} {d : Decidable p} (h : (if p then (0 : Int) else 1) = 0) : p := iz_nen h
theorem iz_eqn {p : Prop} {d : Decidable p} (h : ¬ (if p then (0 : Int) else 1) = 0) : ¬ p := iz_nep h
theorem fr_b {h : mv_H} {X : pn_X} {B : Nat → Int} {V : Nat → Nat} {a : Nat} (hV : pn_V h X B V) (ha : fa_ a) : V (a + 1) < 1073741824 ^ 8 ∧ V (a + 3) < 1073741824 ^ 8 := by
  obtain ⟨h1, h2, h3, h4⟩ := fa_n ha
  have a1 := WV_N (pn_w hV h1)
  have a2 := WV_N (pn_w hV h2)
  rw [h3] at a1
  rw [h4] at a2
  exact ⟨a1, a2⟩
section CpDiv
variable {φ : go_F} {l : Launch} {M : go_M} {R : Room} {u : Nat × Nat} {pc q n x y qq idx : Nat} {L : List (Option mv_V)} {rest : List mv_V} {h : mv_H} {X : pn_X} {B : Nat → Int} {V : Nat → Nat}
theorem cp_divide (hlk : go_lnk M.1.cls idx m_di_divide) (hd : decode M.2.1 pc = .ok (.invokevirtual idx, 3)) (hp : pc + 3 = q) (hV : pn_V h X B V) (hx : ro_ x) (hy : ro_ y) (hq : ro_ qq) (hn : x ≠ 18 ∧ x ≠ 20 ∧ y ≠ 18 ∧ y ≠ 20 ∧ qq ≠ 18 ∧ qq ≠ 20 ∧ qq ≠ x ∧ qq ≠ y) (hq8 : rn_ qq = 18) (hv : V x < 1073741824 ^ 17) (hw : (rest.map mv_k).sum ≤ 8) (hR : go_fit R u 6 rd_di_divide rw_di_divide 0 0)
    (k : ∀ (s : Nat) h', pn_V h' X B (va_up (va_up (va_up V 20 s) 18 (V x % V y)) qq (V x / V y)) → fr_ 1 389 h h' → Go φ l M R u q L rest h' n) : Go φ l M R u pc L (mv_R qq :: mv_R y :: mv_R x :: mv_R 17 :: rest) h n := by
  refine go_callV (M' := m_di_divide) (d := rd_di_divide) (w := rw_di_divide) (mc := 0) (ms := 0) (as := [mv_R x, mv_R y, mv_R qq]) (b := 17) (rest := rest) (q := q) g_di_divide i_di_divide v_di_divide hlk hd hp rfl rfl (pn_d17 hV) rfl hw hR (tw_divide hV hx hy hq hn hq8 hv) ?_
  rintro w h1 n1 ⟨rfl, rfl, h2, V', h3, h4, h5, h6⟩ -
  refine go_u0 (k (V' 20) h1 (pn_eq h3 fun p _ => ?_) h2)
  by_cases e1 : p = qq
  · subst e1; rw [va_up_self, h4]
  · rw [va_up_ne _ _ e1]
    by_cases e2 : p = 18
    · subst e2; rw [va_up_self, h5]
    · rw [va_up_ne _ _ e2]
      by_cases e3 : p = 20
      · subst e3; rw [va_up_self]
      · rw [va_up_ne _ _ e3, h6 p e1 e2 e3]
theorem cp_findGreatest (hlk : go_lnk M.1.cls idx m_di_findGreatest) (hd : decode M.2.1 pc = .ok (.invokevirtual idx, 3)) (hp : pc + 3 = q) (hV : pn_V h X B V) (hx : ro_ x) (hy : ro_ y) (hq : ro_ qq) (hn : x ≠ 22 ∧ x ≠ 24 ∧ y ≠ 22 ∧ y ≠ 24 ∧ qq ≠ 22 ∧ qq ≠ 24 ∧ qq ≠ x ∧ qq ≠ y) (hq8 : rn_ qq = 18) (hv : V x * V y < 2 ^ 1000) (hw : (rest.map mv_k).sum ≤ 8) (hR : go_fit R u 10 rd_di_findGreatest rw_di_findGreatest 0 0)
    (k : ∀ (s t : Nat) h', pn_V h' X B (va_up (va_up (va_up V 22 s) 24 t) qq (Nat.gcd (V x) (V y))) → fr_ 1 389 h h' → Go φ l M R u q L rest h' n) : Go φ l M R u pc L (mv_R qq :: mv_R y :: mv_R x :: mv_R 17 :: rest) h n := by
  refine go_callV (M' := m_di_findGreatest) (d := rd_di_findGreatest) (w := rw_di_findGreatest) (mc := 0) (ms := 0) (as := [mv_R x, mv_R y, mv_R qq]) (b := 17) (rest := rest) (q := q) g_di_findGreatest i_di_findGreatest v_di_findGreatest hlk hd hp rfl rfl (pn_d17 hV) rfl hw hR (tw_findGreatest hV hx hy hq hn hq8 hv) ?_
  rintro w h1 n1 ⟨rfl, rfl, h2, V', h3, h4, h6⟩ -
  refine go_u0 (k (V' 22) (V' 24) h1 (pn_eq h3 fun p _ => ?_) h2)
  by_cases e1 : p = qq
  · subst e1; rw [va_up_self, h4]
  · rw [va_up_ne _ _ e1]
    by_cases e2 : p = 24
    · subst e2; rw [va_up_self]
    · rw [va_up_ne _ _ e2]
      by_cases e3 : p = 22
      · subst e3; rw [va_up_self]
      · rw [va_up_ne _ _ e3, h6 p e1 e3 e2]
end CpDiv
