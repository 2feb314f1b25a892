/-! Fraction: contracts and calls -/
section FrVal
variable {φ : go_F} {l : Launch} {M : go_M} {R : Room} {u : Nat × Nat} {pc q n idx : Nat} {L : List (Option mv_V)} {rest : List mv_V} {h : mv_H} {I tx wr ga gb mo mf mg : Nat → Int} {B : Nat → Int} {V : Nat → Nat}
theorem tf_become {a v : Nat} (hV : pn_V h (I, tx, wr, ga, gb, mo, mf, mg) B V) (ha : fa_ a) (hv : v ≤ 1073741823) : Fn l m_fr_become rd_fr_become rw_fr_become 0 0 [mv_R a, mv_I (v : Int)] h n
    (fun w h' n' => w = none ∧ n' = n ∧ pn_V h' (I, tx, wr, ga, gb, mo, mf, mg) (va_up B a 0) (va_up (va_up V (a + 1) v) (a + 3) 1) ∧ fr_ 1 389 h h') := by
  refine fn_of rfl (Nat.le_of_ble_eq_true rfl) rfl ?_
  exact sf_become hV ha hv fun h1 hV1 hf1 => go_vret d_fr_become_21 rfl go_le0 ⟨rfl, rfl, hV1, hf1⟩
theorem tf_copy {a c : Nat} (hV : pn_V h (I, tx, wr, ga, gb, mo, mf, mg) B V) (ha : fa_ a) (hc : fa_ c) (hn : a ≠ c) : Fn l m_fr_copy rd_fr_copy rw_fr_copy 0 0 [mv_R a, mv_R c] h n
    (fun w h' n' => w = none ∧ n' = n ∧ pn_V h' (I, tx, wr, ga, gb, mo, mf, mg) (va_up B a (B c)) (va_up (va_up V (a + 1) (V (c + 1))) (a + 3) (V (c + 3))) ∧ fr_ 1 389 h h') := by
  refine fn_of rfl (Nat.le_of_ble_eq_true rfl) rfl ?_
  exact sf_copy hV ha hc hn fun h1 hV1 hf1 => go_vret d_fr_copy_30 rfl go_le0 ⟨rfl, rfl, hV1, hf1⟩
theorem tf_isWhole {a : Nat} (hV : pn_V h (I, tx, wr, ga, gb, mo, mf, mg) B V) (ha : fa_ a) : Fn l m_fr_isWhole rd_fr_isWhole rw_fr_isWhole 0 0 [mv_R a] h n
    (fun w h' n' => w = some (mv_I (if V (a + 3) = 1 then 1 else 0)) ∧ n' = n ∧ h' = h) := by
  refine fn_of rfl (Nat.le_of_ble_eq_true rfl) rfl ?_
  refine sf_isWhole hV ha (go_zret d_fr_isWhole_7 rfl ?_ go_le0 ⟨rfl, rfl, rfl⟩)
  split <;> decide
theorem tf_isZero {a : Nat} (hV : pn_V h (I, tx, wr, ga, gb, mo, mf, mg) B V) (ha : fa_ a) : Fn l m_fr_isZero rd_fr_isZero rw_fr_isZero 0 0 [mv_R a] h n
    (fun w h' n' => w = some (mv_I (if V (a + 1) = 0 then 1 else 0)) ∧ n' = n ∧ h' = h) := by
  refine fn_of rfl (Nat.le_of_ble_eq_true rfl) rfl ?_
  refine sf_isZero hV ha (go_zret d_fr_isZero_7 rfl ?_ go_le0 ⟨rfl, rfl, rfl⟩)
  split <;> decide
theorem cp_fr_become {a v : Nat} (hlk : go_lnk M.1.cls idx m_fr_become) (hd : decode M.2.1 pc = .ok (.invokevirtual idx, 3)) (hp : pc + 3 = q) (hV : pn_V h (I, tx, wr, ga, gb, mo, mf, mg) B V) (ha : fa_ a) (hv : v ≤ 1073741823) (hw : (rest.map mv_k).sum ≤ 8) (hR : go_fit R u 2 rd_fr_become rw_fr_become 0 0)
    (k : ∀ h', pn_V h' (I, tx, wr, ga, gb, mo, mf, mg) (va_up B a 0) (va_up (va_up V (a + 1) v) (a + 3) 1) → fr_ 1 389 h h' → Go φ l M R u q L rest h' n) : Go φ l M R u pc L (mv_I (v : Int) :: mv_R a :: rest) h n := by
  refine go_callV (M' := m_fr_become) (d := rd_fr_become) (w := rw_fr_become) (mc := 0) (ms := 0) (as := [mv_I (v : Int)]) (b := a) (rest := rest) (q := q) g_fr_become i_fr_become v_fr_become hlk hd hp rfl rfl (pn_cf hV ha) rfl hw hR (tf_become hV ha hv) ?_
  rintro w h1 n1 ⟨rfl, rfl, h2, h3⟩ -
  exact go_u0 (k h1 h2 h3)

theorem cp_fr_copy {a c : Nat} (hlk : go_lnk M.1.cls idx m_fr_copy) (hd : decode M.2.1 pc = .ok (.invokevirtual idx, 3)) (hp : pc + 3 = q) (hV : pn_V h (I, tx, wr, ga, gb, mo, mf, mg) B V) (ha : fa_ a) (hc : fa_ c) (hn : a ≠ c) (hw : (rest.map mv_k).sum ≤ 8) (hR : go_fit R u 2 rd_fr_copy rw_fr_copy 0 0)
    (k : ∀ h', pn_V h' (I, tx, wr, ga, gb, mo, mf, mg) (va_up B a (B c)) (va_up (va_up V (a + 1) (V (c + 1))) (a + 3) (V (c + 3))) → fr_ 1 389 h h' → Go φ l M R u q L rest h' n) : Go φ l M R u pc L (mv_R c :: mv_R a :: rest) h n := by
  refine go_callV (M' := m_fr_copy) (d := rd_fr_copy) (w := rw_fr_copy) (mc := 0) (ms := 0) (as := [mv_R c]) (b := a) (rest := rest) (q := q) g_fr_copy i_fr_copy v_fr_copy hlk hd hp rfl rfl (pn_cf hV ha) rfl hw hR (tf_copy hV ha hc hn) ?_
  rintro w h1 n1 ⟨rfl, rfl, h2, h3⟩ -
  exact go_u0 (k h1 h2 h3)

theorem cp_fr_isWhole {a : Nat} (hlk : go_lnk M.1.cls idx m_fr_isWhole) (hd : decode M.2.1 pc = .ok (.invokevirtual idx, 3)) (hp : pc + 3 = q) (hV : pn_V h (I, tx, wr, ga, gb, mo, mf, mg) B V) (ha : fa_ a) (hw : (rest.map mv_k).sum ≤ 8) (hR : go_fit R u 1 rd_fr_isWhole rw_fr_isWhole 0 0)
    (k : Go φ l M R u q L (mv_I (if V (a + 3) = 1 then 1 else 0) :: rest) h n) : Go φ l M R u pc L (mv_R a :: rest) h n := by
  refine go_callV (M' := m_fr_isWhole) (d := rd_fr_isWhole) (w := rw_fr_isWhole) (mc := 0) (ms := 0) (as := []) (b := a) (rest := rest) (q := q) g_fr_isWhole i_fr_isWhole v_fr_isWhole hlk hd hp rfl rfl (pn_cf hV ha) rfl hw hR (tf_isWhole hV ha) ?_
  rintro w h1 n1 ⟨rfl, rfl, rfl⟩ -
  exact go_u0 (k)

theorem cp_fr_isZero {a : Nat} (hlk : go_lnk M.1.cls idx m_fr_isZero) (hd : decode M.2.1 pc = .ok (.invokevirtual idx, 3)) (hp : pc + 3 = q) (hV : pn_V h (I, tx, wr, ga, gb, mo, mf, mg) B V) (ha : fa_ a) (hw : (rest.map mv_k).sum ≤ 8) (hR : go_fit R u 1 rd_fr_isZero rw_fr_isZero 0 0)
    (k : Go φ l M R u q L (mv_I (if V (a + 1) = 0 then 1 else 0) :: rest) h n) : Go φ l M R u pc L (mv_R a :: rest) h n := by
  refine go_callV (M' := m_fr_isZero) (d := rd_fr_isZero) (w := rw_fr_isZero) (mc := 0) (ms := 0) (as := []) (b := a) (rest := rest) (q := q) g_fr_isZero i_fr_isZero v_fr_isZero hlk hd hp rfl rfl (pn_cf hV ha) rfl hw hR (tf_isZero hV ha) ?_
  rintro w h1 n1 ⟨rfl, rfl, rfl⟩ -
  exact go_u0 (k)

end FrVal
