/-! the model's rows: divideSmall -/
theorem ds_dig {e y d : Int} (hy : 0 < y) (he : 0 ≤ e ∧ e < y) (hd : 0 ≤ d ∧ d ≤ 9999) : 0 ≤ (e * 10000 + d) / y ∧ (e * 10000 + d) / y ≤ 9999 := by
  refine ⟨Int.ediv_nonneg (by omega) (by omega), ?_⟩
  have h : (e * 10000 + d) / y < 10000 := by
    apply Int.ediv_lt_of_lt_mul hy
    omega
  omega
theorem ds_nat {e y d : Int} (hy : 0 < y) (he : 0 ≤ e ∧ e < y) (hd : 0 ≤ d ∧ d ≤ 9999) : ((e * 10000 + d) / y).toNat = (e.toNat * 10000 + d.toNat) / y.toNat ∧ ((e * 10000 + d) % y).toNat = (e.toNat * 10000 + d.toNat) % y.toNat := by
  obtain ⟨e', rfl⟩ := Int.eq_ofNat_of_zero_le he.1
  obtain ⟨d', rfl⟩ := Int.eq_ofNat_of_zero_le hd.1
  obtain ⟨y', rfl⟩ := Int.eq_ofNat_of_zero_le (Int.le_of_lt hy)
  simp only [Int.toNat_natCast]
  rw [show ((e' : Int) * 10000 + (d' : Int)) = ((e' * 10000 + d' : Nat) : Int) by omega, ← Int.natCast_ediv, ← Int.natCast_emod]
  exact ⟨Int.toNat_natCast _, Int.toNat_natCast _⟩
/-- dividing by y: the digits from j on are done, e is left -/
def ds_I (D0 D : Nat → Int) (r n j : Nat) (y e : Int) : Prop := (∀ j, 0 ≤ D j ∧ D j ≤ 9999) ∧ (0 ≤ e ∧ e < y) ∧ (∀ i, (i < 40 * r + j ∨ 40 * r + n ≤ i) → D i = D0 i) ∧
  nh 10000 (fun k => (D0 (40 * r + k)).toNat) j n = nh 10000 (fun k => (D (40 * r + k)).toNat) j n * y.toNat + e.toNat
theorem nh_congr {B : Nat} {f g : Nat → Nat} {j n : Nat} (h : ∀ k, j ≤ k → k < n → f k = g k) : nh B f j n = nh B g j n := by
  unfold nh
  exact nv_congr fun k hk => h _ (by omega) (by omega)
theorem ds_step {D0 D : Nat → Int} {r n j : Nat} {y e : Int} (h : ds_I D0 D r n (j + 1) y e) (hj : j < n) (hy : 0 < y) : ds_I D0 (va_up D (40 * r + j) ((e * 10000 + D (40 * r + j)) / y)) r n j y ((e * 10000 + D (40 * r + j)) % y) := by
  obtain ⟨h1, h2, h3, h4⟩ := h
  have hd := h1 (40 * r + j)
  have e0 : D (40 * r + j) = D0 (40 * r + j) := h3 _ (by omega)
  obtain ⟨n1, n2⟩ := ds_nat hy h2 hd
  refine ⟨fun k => ?_, ⟨Int.emod_nonneg _ (by omega), Int.emod_lt_of_pos _ hy⟩, fun i hi => ?_, ?_⟩
  · unfold va_up
    split
    · exact ds_dig hy h2 hd
    · exact h1 k
  · rw [va_up_ne _ _ (by omega)]
    exact h3 i (by omega)
  · have e1 : nh 10000 (fun k => (D (40 * r + k)).toNat) (j + 1) n = nh 10000 (fun k => (va_up D (40 * r + j) ((e * 10000 + D (40 * r + j)) / y) (40 * r + k)).toNat) (j + 1) n := nh_congr fun k a b => by
      show (D (40 * r + k)).toNat = (va_up D (40 * r + j) ((e * 10000 + D (40 * r + j)) / y) (40 * r + k)).toNat
      rw [va_up_ne _ _ (by omega)]
    rw [e1] at h4
    rw [n2, show (D (40 * r + j)).toNat = (D0 (40 * r + j)).toNat by rw [e0]]
    exact nh_div hj h4 (by
      show (va_up D (40 * r + j) ((e * 10000 + D (40 * r + j)) / y) (40 * r + j)).toNat = (e.toNat * 10000 + (D0 (40 * r + j)).toNat) / y.toNat
      rw [va_up_self, n1, show (D (40 * r + j)).toNat = (D0 (40 * r + j)).toNat by rw [e0]])
section MoDsm
variable {φ : go_F} {l : Launch} {R : Room} {u : Nat × Nat} {h : mv_H} {n o : Nat} {X : mo_X} {D U : Nat → Int} {V : Nat → Nat}
theorem lp_dsm {r m : Nat} {y : Int} {D0 : Nat → Int} (hr : r < 160) (hm0 : m ≤ 40) (hy : 0 < y ∧ y ≤ 65536) : ∀ (j : Nat) (k : Int), k = (j : Int) - 1 → j ≤ m → ∀ {h : mv_H} {D : Nat → Int} {e : Int}, MD h o X D U → ds_I D0 D r m j y e →
    (∀ (h' : mv_H) (D' : Nat → Int) (e' : Int), MD h' o X D' U → fr_ o 8 h h' → ds_I D0 D' r m 0 y e' → Go φ l m_mo_divideSmall R u 64 [some (mv_R o), some (mv_I (r : Int)), some (mv_I y), some (mv_I e'), some (mv_I (-1)), none] [] h' n) →
    Go φ l m_mo_divideSmall R u 12 [some (mv_R o), some (mv_I (r : Int)), some (mv_I y), some (mv_I e), some (mv_I k), none] [] h n := by
  intro j
  induction j with
  | zero =>
    intro k hk hj h D e hm hi kx
    have e0 : k = -1 := by omega
    subst e0
    exact sg_dsm_12 hm hr (by omega) hy hi.2.1 hi.1 (fun _ => kx h D e hm fr_.rf hi) (fun c => absurd (by omega) c)
  | succ j ih =>
    intro k hk hj h D e hm hi kx
    have e0 : k.toNat = j := by omega
    refine sg_dsm_12 hm hr (by omega) hy hi.2.1 hi.1 (fun c => absurd c (by omega)) (fun _ h' hm' hf => ?_)
    rw [e0] at hm' ⊢
    exact ih (k + (-1)) (by omega) (by omega) hm' (ds_step hi (by omega) hy.1) (fun h'' D' e' hm'' hf' => kx h'' D' e' hm'' (fr_.tr hf hf'))
theorem tm_divideSmall {r y : Nat} (hV : mo_V h o X V) (hr : r < 160) (hy : 0 < y ∧ y ≤ 65536) : Fn l m_mo_divideSmall rd_mo_divideSmall rw_mo_divideSmall 0 0 [mv_R o, mv_I (r : Int), mv_I (y : Int)] h n
    (fun w h' n' => w = some (mv_I ((V r % y : Nat) : Int)) ∧ n' = n ∧ mo_V h' o X (va_up V r (V r / y)) ∧ fr_ o 8 h h') := by
  obtain ⟨D, U, hm, hM⟩ := hV
  refine fn_of rfl (Nat.le_of_ble_eq_true rfl) rfl ?_
  have rr := hM.2.2 r hr
  have hUr := hM.2.1 r
  refine sg_dsm_0 hm hr ?_
  refine lp_dsm (D0 := D) (m := (U r).toNat) hr (by omega) (by omega) (U r).toNat (U r - 1) (by omega) (Nat.le_refl _) hm ⟨hM.1, by omega, fun i _ => rfl, by rw [nh_n]; simp⟩ (fun h1 D1 e1 hm1 hf1 hi => ?_)
  obtain ⟨i1, i2, i3, i4⟩ := hi
  rw [nh_0, nh_0, mo_ext rr (by omega) (by omega), Int.toNat_natCast] at i4
  have hz : ∀ i, (U r).toNat ≤ i → i < 40 → D1 (40 * r + i) = 0 := fun i p q => by
    rw [i3 _ (by omega)]
    exact rr.1 i q (by omega)
  have hq : V r / y = nv 10000 (fun k => (D1 (40 * r + k)).toNat) (U r).toNat ∧ V r % y = e1.toNat := by
    have h5 : e1.toNat < y := by omega
    rw [i4, Nat.mul_comm]
    exact ⟨by rw [Nat.mul_add_div hy.1, Nat.div_eq_of_lt h5, Nat.add_zero], by rw [Nat.mul_add_mod, Nat.mod_eq_of_lt h5]⟩
  have hval : nv 10000 (fun k => (D1 (40 * r + k)).toNat) 40 = V r / y := by
    rw [nv_ext (m := (U r).toNat) (by omega) (fun i p q => by show (D1 (40 * r + i)).toNat = 0; rw [hz i p q]; rfl), hq.1]
  refine sg_dsm_64 hm1 hr ?_
  rw [show mv_I (U r) = mv_I (((U r).toNat : Nat) : Int) by rw [show (((U r).toNat : Nat) : Int) = U r by omega]]
  refine go_callV (M' := m_mo_trim) (d := rd_mo_trim) (w := rw_mo_trim) (mc := 0) (ms := 0) (as := [mv_I (r : Int), mv_I (((U r).toNat : Nat) : Int)]) (b := o) (rest := []) (q := 75) g_mo_trim i_mo_trim v_mo_trim l_mo_45 d_mo_divideSmall_72 rfl rfl rfl (MD_c0 hm1) rfl (by decide) ⟨by decide, by decide, by decide, by decide⟩ (tm_trim hm1 i1 hr (by omega)) ?_
  rintro w h3 n3 ⟨rfl, rfl, kk, p1, p2, p3, hm3, hf3⟩ -
  refine sg_dsm_75 hm3 (go_iret d_mo_divideSmall_76 rfl go_le0 ⟨?_, rfl, ⟨_, _, hm3, mo_trimmed hM i1 hM.2.1 (fun j hj => i3 j (by omega)) (fun _ _ => rfl) (by omega) hz p1 p2 p3 hval⟩, fr_.tr hf1 hf3⟩)
  rw [hq.2, Int.toNat_of_nonneg i2.1]
end MoDsm
