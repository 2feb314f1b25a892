/-! the model's rows: divide -/
theorem nv_split {B : Nat} {f : Nat → Nat} (k m : Nat) : nv B f (k + m) = nv B f k + B ^ k * nv B (fun j => f (k + j)) m := by
  induction m with
  | zero => simp [nv]
  | succ m ih =>
    rw [show nv B f (k + (m + 1)) = nv B f (k + m) + f (k + m) * B ^ (k + m) from rfl, ih, show nv B (fun j => f (k + j)) (m + 1) = nv B (fun j => f (k + j)) m + f (k + m) * B ^ m from rfl, Nat.pow_add]
    grind
theorem nv_dig {B : Nat} {f : Nat → Nat} {n k : Nat} (hB : 0 < B) (hf : ∀ k, k < n → f k < B) (hk : k < n) : nv B f n / B ^ k % B = f k := by
  have h1 := nv_split (B := B) (f := f) k (n - k)
  rw [show k + (n - k) = n by omega] at h1
  have h2 : nv B f k < B ^ k := nv_lt fun j hj => hf j (by omega)
  rw [h1, Nat.add_comm, Nat.mul_add_div (Nat.pow_pos hB), Nat.div_eq_of_lt h2, Nat.add_zero, show n - k = n - k - 1 + 1 by omega, nv_low, Nat.add_mul_mod_self_left]
  exact Nat.mod_eq_of_lt (hf _ (by omega))
theorem mo_dig {D U : Nat → Int} {V : Nat → Nat} {r k : Nat} (hM : mo_MN D U V) (hr : r < 160) (hk : k < 40) : D (40 * r + k) = ((V r / 10000 ^ k % 10000 : Nat) : Int) := by
  have h1 := hM.2.2 r hr
  have h2 := nv_dig (B := 10000) (n := 40) (k := k) (f := fun k => (D (40 * r + k)).toNat) (by decide) (fun j _ => mo_dlt hM.1 _) hk
  rw [h1.2.2] at h2
  rw [h2]
  have := hM.1 (40 * r + k)
  show _ = ((D (40 * r + k)).toNat : Int)
  omega
theorem dv_step {a b x d low : Nat} (hb : 0 < b) (h1 : b * low ≤ d + 10000 * (x % b)) (h2 : d + 10000 * (x % b) < b * (low + 1)) : (10000 * x + d) / b = low + 10000 * (x / b) ∧ (10000 * x + d) % b = d + 10000 * (x % b) - b * low := by
  have h3 := Nat.div_add_mod x b
  have h4 : 10000 * x + d = (d + 10000 * (x % b) - b * low) + b * (low + 10000 * (x / b)) := by
    have h5 : 10000 * (b * (x / b) + x % b) = 10000 * x := by rw [h3]
    have h6 : b * (low + 10000 * (x / b)) = b * low + 10000 * (b * (x / b)) := by grind
    rw [h6]
    omega
  have h7 : d + 10000 * (x % b) - b * low < b := by
    rw [Nat.mul_add, Nat.mul_one] at h2
    omega
  refine ⟨?_, ?_⟩
  · rw [h4, Nat.add_mul_div_left _ _ hb, Nat.div_eq_of_lt h7, Nat.zero_add]
  · rw [h4, Nat.add_mul_mod_self_left, Nat.mod_eq_of_lt h7]
section MoDiv
variable {φ : go_F} {l : Launch} {h : mv_H} {n o : Nat} {I tx S ps cs bs : Nat → Int} {V : Nat → Nat}
theorem lp_bs {a b q e : Nat} {k : Int} {B0 E0 : Nat} (hr : a < 157 ∧ b < 157 ∧ q < 157 ∧ e < 157 ∧ q ≠ e ∧ a ≠ q ∧ a ≠ e ∧ b ≠ q ∧ b ≠ e) (hB : B0 < 10000 ^ 39) : ∀ (g x y : Nat), y - x ≤ g → x ≤ y → y ≤ 9999 → ∀ {h : mv_H} {V : Nat → Nat}, mo_V h o (I, tx, S, ps, cs, bs) V → V b = B0 → V e = E0 → B0 * x ≤ E0 → E0 < B0 * (y + 1) →
    (∀ (h' : mv_H) (V' : Nat → Nat) (x' : Nat) (y' : Int), mo_V h' o (I, tx, S, ps, cs, bs) V' → fr_ o 8 h h' → (∀ i, i ≠ 157 → V' i = V i) → x' ≤ 9999 → B0 * x' ≤ E0 → E0 < B0 * (x' + 1) → Go φ l m_mo_divide (go_rm rd_mo_divide rw_mo_divide 0 0) (0, 0) 110 [some (mv_R o), some (mv_I (a : Int)), some (mv_I (b : Int)), some (mv_I (q : Int)), some (mv_I (e : Int)), some (mv_I k), some (mv_I (x' : Int)), some (mv_I y'), none] [] h' n) →
    Go φ l m_mo_divide (go_rm rd_mo_divide rw_mo_divide 0 0) (0, 0) 54 [some (mv_R o), some (mv_I (a : Int)), some (mv_I (b : Int)), some (mv_I (q : Int)), some (mv_I (e : Int)), some (mv_I k), some (mv_I (x : Int)), some (mv_I (y : Int)), none] [] h n := by
  intro g
  induction g with
  | zero =>
    intro x y hg hxy hy h V hV hVb hVe h1 h2 kx
    have e0 : y = x := by omega
    subst e0
    have hs : V b * ((y + y + 1) / 2) < 10000 ^ 40 := by
      rw [hVb]
      have h3 : B0 * ((y + y + 1) / 2) ≤ B0 * 9999 := Nat.mul_le_mul_left _ (by omega)
      omega
    exact sv_divide_54 hV hr ⟨hxy, hy⟩ hs (fun _ => kx h V y y hV fr_.rf (fun _ _ => rfl) hy h1 h2) (fun c => absurd (by omega) c) (fun c => absurd (by omega) c)
  | succ g ih =>
    intro x y hg hxy hy h V hV hVb hVe h1 h2 kx
    have hs : V b * ((x + y + 1) / 2) < 10000 ^ 40 := by
      rw [hVb]
      have h3 : B0 * ((x + y + 1) / 2) ≤ B0 * 9999 := Nat.mul_le_mul_left _ (by omega)
      omega
    refine sv_divide_54 hV hr ⟨hxy, hy⟩ hs (fun c => ?_) (fun c c2 h' hV' hf => ?_) (fun c c2 h' hV' hf => ?_)
    · have e0 : y = x := by omega
      subst e0
      exact kx h V y y hV fr_.rf (fun _ _ => rfl) hy h1 h2
    · rw [show ((((x : Int) + (y : Int)) + 1) / 2) - 1 = (((x + y + 1) / 2 - 1 : Nat) : Int) by omega]
      rw [hVb, hVe] at c2
      refine ih x ((x + y + 1) / 2 - 1) (by omega) (by omega) (by omega) hV' ((va_up_ne _ _ (by omega)).trans hVb) ((va_up_ne _ _ (by omega)).trans hVe) h1 ?_ (fun h'' V' x' y' a1 a2 a3 => kx h'' V' x' y' a1 (fr_.tr hf a2) (fun i hi => (a3 i hi).trans (va_up_ne _ _ hi)))
      rw [show (x + y + 1) / 2 - 1 + 1 = (x + y + 1) / 2 by omega]
      exact c2
    · rw [show ((((x : Int) + (y : Int)) + 1) / 2) = (((x + y + 1) / 2 : Nat) : Int) by omega]
      rw [hVb, hVe] at c2
      exact ih ((x + y + 1) / 2) y (by omega) (by omega) (by omega) hV' ((va_up_ne _ _ (by omega)).trans hVb) ((va_up_ne _ _ (by omega)).trans hVe) c2 h2 (fun h'' V' x' y' a1 a2 a3 => kx h'' V' x' y' a1 (fr_.tr hf a2) (fun i hi => (a3 i hi).trans (va_up_ne _ _ hi)))
theorem lp_div {a b q e A0 B0 : Nat} {V0 : Nat → Nat} (hr : a < 157 ∧ b < 157 ∧ q < 157 ∧ e < 157 ∧ q ≠ e ∧ a ≠ q ∧ a ≠ e ∧ b ≠ q ∧ b ≠ e) (hB : B0 < 10000 ^ 39) (hB1 : 0 < B0) (hA : A0 < 10000 ^ 40) : ∀ (j : Nat) (k : Int), k = (j : Int) - 1 → j ≤ 40 → ∀ {h : mv_H} {V : Nat → Nat}, mo_V h o (I, tx, S, ps, cs, bs) V → V a = A0 → V b = B0 → V q = A0 / 10000 ^ j / B0 → V e = A0 / 10000 ^ j % B0 → (∀ i, i ≠ q → i ≠ e → i ≠ 157 → V i = V0 i) →
    (∀ (h' : mv_H) (V' : Nat → Nat), mo_V h' o (I, tx, S, ps, cs, bs) V' → fr_ o 8 h h' → V' q = A0 / B0 → V' e = A0 % B0 → (∀ i, i ≠ q → i ≠ e → i ≠ 157 → V' i = V0 i) → Go φ l m_mo_divide (go_rm rd_mo_divide rw_mo_divide 0 0) (0, 0) 142 [some (mv_R o), some (mv_I (a : Int)), some (mv_I (b : Int)), some (mv_I (q : Int)), some (mv_I (e : Int)), some (mv_I (-1)), none, none, none] [] h' n) →
    Go φ l m_mo_divide (go_rm rd_mo_divide rw_mo_divide 0 0) (0, 0) 23 [some (mv_R o), some (mv_I (a : Int)), some (mv_I (b : Int)), some (mv_I (q : Int)), some (mv_I (e : Int)), some (mv_I k), none, none, none] [] h n := by
  intro j
  induction j with
  | zero =>
    intro k hk hj h V hV hVa hVb hVq hVe ho kx
    have e0 : k = -1 := by omega
    subst e0
    obtain ⟨D, U, hm, hM⟩ := id hV
    simp only [Nat.pow_zero, Nat.div_one] at hVq hVe
    exact sg_divide_23 hm (by omega) (by omega) hM.1 (fun _ => kx h V hV fr_.rf hVq hVe ho) (fun c => absurd (by omega) c)
  | succ j ih =>
    intro k hk hj h V hV hVa hVb hVq hVe ho kx
    have e0 : k.toNat = j := by omega
    obtain ⟨D, U, hm, hM⟩ := id hV
    refine sg_divide_23 hm (by omega) (by omega) hM.1 (fun c => absurd c (by omega)) (fun _ => ?_)
    rw [e0, mo_dig hM (by omega) (by omega), hVa]
    have hElt : A0 / 10000 ^ (j + 1) % B0 < B0 := Nat.mod_lt _ hB1
    refine cl_shift (r := e) (v := A0 / 10000 ^ j % 10000) (q := 46) rfl d_mo_divide_43 rfl hV (by omega) (by omega) (by rw [hVe]; omega) (by decide) ⟨by decide, by decide, by decide, by decide⟩ (fun h1 hV1 hf1 => ?_)
    rw [hVe] at hV1
    refine sv_divide_46 hV1 ?_
    have hd : A0 / 10000 ^ j % 10000 < 10000 := Nat.mod_lt _ (by decide)
    refine lp_bs (B0 := B0) (E0 := A0 / 10000 ^ j % 10000 + 10000 * (A0 / 10000 ^ (j + 1) % B0)) hr hB 9999 0 9999 (by omega) (by omega) (by omega) hV1 ((va_up_ne _ _ (by omega)).trans hVb) (va_up_self _ _ _) (by omega) (by omega) (fun h2 V2 x y hV2 hf2 hs2 hx hx1 hx2 => ?_)
    have w1 : V2 b = B0 := (hs2 b (by omega)).trans ((va_up_ne _ _ (by omega)).trans hVb)
    have w2 : V2 e = A0 / 10000 ^ j % 10000 + 10000 * (A0 / 10000 ^ (j + 1) % B0) := (hs2 e (by omega)).trans (va_up_self _ _ _)
    have w3 : V2 q = A0 / 10000 ^ (j + 1) / B0 := (hs2 q (by omega)).trans ((va_up_ne _ _ (by omega)).trans hVq)
    have w4 : V2 a = A0 := (hs2 a (by omega)).trans ((va_up_ne _ _ (by omega)).trans hVa)
    have hxl : A0 / 10000 ^ (j + 1) < 10000 ^ 39 := by
      rw [Nat.div_lt_iff_lt_mul (Nat.pow_pos (by decide))]
      have : 10000 ^ 40 ≤ 10000 ^ 39 * 10000 ^ (j + 1) := by
        rw [← Nat.pow_add]
        exact Nat.pow_le_pow_right (by decide) (by omega)
      omega
    have hq39 : A0 / 10000 ^ (j + 1) / B0 < 10000 ^ 39 := Nat.lt_of_le_of_lt (Nat.div_le_self _ _) hxl
    have hex : A0 / 10000 ^ j = 10000 * (A0 / 10000 ^ (j + 1)) + A0 / 10000 ^ j % 10000 := by
      have h5 := Nat.div_add_mod (A0 / 10000 ^ j) 10000
      rw [Nat.div_div_eq_div_mul, ← Nat.pow_succ] at h5
      exact h5.symm
    obtain ⟨s1, s2⟩ := dv_step (a := 0) hB1 hx1 hx2
    rw [← hex] at s1 s2
    refine sv_divide_110 hV2 hr hx (by omega) (by rw [w1]; have h3 : B0 * x ≤ B0 * 9999 := Nat.mul_le_mul_left _ hx; omega) (by rw [w1, w2]; exact hx1) (by rw [w3]; exact hq39) (fun h3 hV3 hf3 => ?_)
    rw [w1, w2, w3] at hV3
    refine ih (k + (-1)) (by omega) (by omega) hV3 ?_ ?_ ?_ ?_ (fun i i1 i2 i3 => ?_) (fun h4 V4 a1 a2 => kx h4 V4 a1 (fr_.tr hf1 (fr_.tr hf2 (fr_.tr hf3 a2))))
    · rw [va_up_ne _ _ (by omega), va_up_ne _ _ (by omega), va_up_ne _ _ (by omega)]; exact w4
    · rw [va_up_ne _ _ (by omega), va_up_ne _ _ (by omega), va_up_ne _ _ (by omega)]; exact w1
    · rw [va_up_self]; exact s1.symm
    · rw [va_up_ne _ _ (by omega), va_up_self]; exact s2.symm
    · rw [va_up_ne _ _ i1, va_up_ne _ _ i2, va_up_ne _ _ i3, hs2 i i3, va_up_ne _ _ i2]
      exact ho i i1 i2 i3
theorem tm_divide {a b q e : Nat} (hV : mo_V h o (I, tx, S, ps, cs, bs) V) (hr : a < 157 ∧ b < 157 ∧ q < 157 ∧ e < 157 ∧ q ≠ e ∧ a ≠ q ∧ a ≠ e ∧ b ≠ q ∧ b ≠ e) (hb0 : 0 < V b) (hb1 : V b < 10000 ^ 39) : Fn l m_mo_divide rd_mo_divide rw_mo_divide 0 0 [mv_R o, mv_I (a : Int), mv_I (b : Int), mv_I (q : Int), mv_I (e : Int)] h n
    (fun w h' n' => w = none ∧ n' = n ∧ fr_ o 8 h h' ∧ ∃ V', mo_V h' o (I, tx, S, ps, cs, bs) V' ∧ V' q = V a / V b ∧ V' e = V a % V b ∧ ∀ i, i ≠ q → i ≠ e → i ≠ 157 → V' i = V i) := by
  refine fn_of rfl (Nat.le_of_ble_eq_true rfl) rfl ?_
  have hA := mo_Vlt hV (r := a) (by omega)
  refine sv_divide_0 hV hr (fun h1 hV1 hf1 => ?_)
  have w1 : va_up (va_up V q 0) e 0 a = V a := by rw [va_up_ne _ _ (by omega), va_up_ne _ _ (by omega)]
  have w2 : va_up (va_up V q 0) e 0 b = V b := by rw [va_up_ne _ _ (by omega), va_up_ne _ _ (by omega)]
  obtain ⟨D, U, hm, hM⟩ := id hV1
  have hUa := hM.2.1 a
  have ra := hM.2.2 a (by omega)
  have hlt := mo_lt hM.1 hUa ra
  rw [w1] at hlt
  refine sg_divide_13 hm (by omega) hM.2.1 ?_
  refine lp_div (A0 := V a) (B0 := V b) (V0 := V) hr hb1 hb0 hA (U a).toNat (U a - 1) (by omega) (by omega) hV1 w1 w2 ?_ ?_ (fun i i1 i2 _ => by rw [va_up_ne _ _ i2, va_up_ne _ _ i1]) (fun h2 V2 hV2 hf2 c1 c2 c3 => ?_)
  · rw [va_up_ne _ _ (by omega), va_up_self, Nat.div_eq_of_lt hlt, Nat.zero_div]
  · rw [va_up_self, Nat.div_eq_of_lt hlt, Nat.zero_mod]
  · exact go_vret d_mo_divide_142 rfl go_le0 ⟨rfl, rfl, fr_.tr hf1 hf2, V2, hV2, c1, c2, c3⟩
end MoDiv
