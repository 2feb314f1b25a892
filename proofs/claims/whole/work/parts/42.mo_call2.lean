/-! calls of common, divide, isWhole, copyValue, setValue -/
section MoCall2
variable {φ : go_F} {l : Launch} {M : go_M} {R : Room} {u : Nat × Nat} {pc q n o : Nat} {L : List (Option mv_V)} {rest : List mv_V} {h : mv_H} {I tx S ps cs bs : Nat → Int} {V : Nat → Nat}
theorem cl_common {a b : Nat} (hc : M.1.cls = "PromotedNumbersModel") (hd : decode M.2.1 pc = .ok (.invokevirtual 75, 3)) (hp : pc + 3 = q) (hV : mo_V h o (I, tx, S, ps, cs, bs) V) (hr : a < 154 ∧ b < 154) (hw : (rest.map mv_k).sum ≤ 8) (hR : go_fit R u 6 rd_mo_common rw_mo_common 0 0)
    (k : ∀ h' (V' : Nat → Nat), mo_V h' o (I, tx, S, ps, cs, bs) V' → fr_ o 8 h h' → V' 154 = Nat.gcd (V a) (V b) → (∀ i, i ≠ 154 → i ≠ 155 → V' i = V i) → Go φ l M R u q L rest h' n) : Go φ l M R u pc L (mv_I (b : Int) :: mv_I (a : Int) :: mv_R o :: rest) h n := by
  obtain ⟨fs, hob⟩ := mo_Vob hV
  refine go_callV (M' := m_mo_common) (d := rd_mo_common) (w := rw_mo_common) (mc := 0) (ms := 0) (as := [mv_I (a : Int), mv_I (b : Int)]) (b := o) (rest := rest) (q := q) g_mo_common i_mo_common v_mo_common (by rw [hc]; exact l_mo_75) hd hp rfl rfl hob rfl hw hR (tm_common hV hr) ?_
  rintro w h1 n1 ⟨rfl, rfl, h2, V', h3, h4, h5⟩ -
  exact go_u0 (k h1 V' h3 h2 h4 h5)
theorem cl_divide {a b c e : Nat} (hc : M.1.cls = "PromotedNumbersModel") (hd : decode M.2.1 pc = .ok (.invokevirtual 78, 3)) (hp : pc + 3 = q) (hV : mo_V h o (I, tx, S, ps, cs, bs) V) (hr : a < 157 ∧ b < 157 ∧ c < 157 ∧ e < 157 ∧ c ≠ e ∧ a ≠ c ∧ a ≠ e ∧ b ≠ c ∧ b ≠ e) (hb0 : 0 < V b) (hb1 : V b < 10000 ^ 39) (hw : (rest.map mv_k).sum ≤ 8) (hR : go_fit R u 9 rd_mo_divide rw_mo_divide 0 0)
    (k : ∀ h' (V' : Nat → Nat), mo_V h' o (I, tx, S, ps, cs, bs) V' → fr_ o 8 h h' → V' c = V a / V b → V' e = V a % V b → (∀ i, i ≠ c → i ≠ e → i ≠ 157 → V' i = V i) → Go φ l M R u q L rest h' n) : Go φ l M R u pc L (mv_I (e : Int) :: mv_I (c : Int) :: mv_I (b : Int) :: mv_I (a : Int) :: mv_R o :: rest) h n := by
  obtain ⟨fs, hob⟩ := mo_Vob hV
  refine go_callV (M' := m_mo_divide) (d := rd_mo_divide) (w := rw_mo_divide) (mc := 0) (ms := 0) (as := [mv_I (a : Int), mv_I (b : Int), mv_I (c : Int), mv_I (e : Int)]) (b := o) (rest := rest) (q := q) g_mo_divide i_mo_divide v_mo_divide (by rw [hc]; exact l_mo_78) hd hp rfl rfl hob rfl hw hR (tm_divide hV hr hb0 hb1) ?_
  rintro w h1 n1 ⟨rfl, rfl, h2, V', h3, h4, h5, h6⟩ -
  exact go_u0 (k h1 V' h3 h2 h4 h5 h6)
theorem tm_isWhole {v : Nat} (hV : mo_V h o (I, tx, S, ps, cs, bs) V) (hv : v < 75) : Fn l m_mo_isWhole rd_mo_isWhole rw_mo_isWhole 0 0 [mv_R o, mv_I (v : Int)] h n
    (fun w h' n' => w = some (mv_I (if V (2 * v + 1) = 1 then 1 else 0)) ∧ n' = n ∧ h' = h) := by
  refine fn_of rfl (Nat.le_of_ble_eq_true rfl) rfl ?_
  refine sv_isWhole hV hv (go_zret d_mo_isWhole_9 rfl ?_ go_le0 ⟨rfl, rfl, rfl⟩)
  split <;> decide
theorem cl_isWhole {v : Nat} (hc : M.1.cls = "PromotedNumbersModel") (hd : decode M.2.1 pc = .ok (.invokevirtual 88, 3)) (hp : pc + 3 = q) (hV : mo_V h o (I, tx, S, ps, cs, bs) V) (hv : v < 75) (hw : (rest.map mv_k).sum ≤ 8) (hR : go_fit R u 2 rd_mo_isWhole rw_mo_isWhole 0 0)
    (k : Go φ l M R u q L (mv_I (if V (2 * v + 1) = 1 then 1 else 0) :: rest) h n) : Go φ l M R u pc L (mv_I (v : Int) :: mv_R o :: rest) h n := by
  obtain ⟨fs, hob⟩ := mo_Vob hV
  refine go_callV (M' := m_mo_isWhole) (d := rd_mo_isWhole) (w := rw_mo_isWhole) (mc := 0) (ms := 0) (as := [mv_I (v : Int)]) (b := o) (rest := rest) (q := q) g_mo_isWhole i_mo_isWhole v_mo_isWhole (by rw [hc]; exact l_mo_88) hd hp rfl rfl hob rfl hw hR (tm_isWhole hV hv) ?_
  rintro w h1 n1 ⟨rfl, rfl, rfl⟩ -
  exact go_u0 k
theorem tm_copyValue {a b : Nat} (hV : mo_V h o (I, tx, S, ps, cs, bs) V) (ha : a < 75) (hb : b < 75) : Fn l m_mo_copyValue rd_mo_copyValue rw_mo_copyValue 0 0 [mv_R o, mv_I (a : Int), mv_I (b : Int)] h n
    (fun w h' n' => w = none ∧ n' = n ∧ mo_V h' o (I, tx, va_up S b (S a), ps, cs, bs) (va_up (va_up V (2 * b) (V (2 * a))) (2 * b + 1) (V (2 * a + 1))) ∧ fr_ o 8 h h') := by
  refine fn_of rfl (Nat.le_of_ble_eq_true rfl) rfl ?_
  exact sv_copyValue hV ha hb fun h' hV' hf => go_vret d_mo_copyValue_36 rfl go_le0 ⟨rfl, rfl, hV', hf⟩
theorem cl_copyValue {a b : Nat} (hc : M.1.cls = "PromotedNumbersModel") (hd : decode M.2.1 pc = .ok (.invokevirtual 127, 3)) (hp : pc + 3 = q) (hV : mo_V h o (I, tx, S, ps, cs, bs) V) (ha : a < 75) (hb : b < 75) (hw : (rest.map mv_k).sum ≤ 8) (hR : go_fit R u 3 rd_mo_copyValue rw_mo_copyValue 0 0)
    (k : ∀ h', mo_V h' o (I, tx, va_up S b (S a), ps, cs, bs) (va_up (va_up V (2 * b) (V (2 * a))) (2 * b + 1) (V (2 * a + 1))) → fr_ o 8 h h' → Go φ l M R u q L rest h' n) : Go φ l M R u pc L (mv_I (b : Int) :: mv_I (a : Int) :: mv_R o :: rest) h n := by
  obtain ⟨fs, hob⟩ := mo_Vob hV
  refine go_callV (M' := m_mo_copyValue) (d := rd_mo_copyValue) (w := rw_mo_copyValue) (mc := 0) (ms := 0) (as := [mv_I (a : Int), mv_I (b : Int)]) (b := o) (rest := rest) (q := q) g_mo_copyValue i_mo_copyValue v_mo_copyValue (by rw [hc]; exact l_mo_127) hd hp rfl rfl hob rfl hw hR (tm_copyValue hV ha hb) ?_
  rintro w h1 n1 ⟨rfl, rfl, h2, h3⟩ -
  exact go_u0 (k h1 h2 h3)
theorem tm_setValue {a v : Nat} (hV : mo_V h o (I, tx, S, ps, cs, bs) V) (ha : a < 75) (hv : v ≤ 9999) : Fn l m_mo_setValue rd_mo_setValue rw_mo_setValue 0 0 [mv_R o, mv_I (a : Int), mv_I (v : Int)] h n
    (fun w h' n' => w = none ∧ n' = n ∧ mo_V h' o (I, tx, va_up S a (if v = 0 then 0 else 1), ps, cs, bs) (va_up (va_up V (2 * a) v) (2 * a + 1) 1) ∧ fr_ o 8 h h') := by
  refine fn_of rfl (Nat.le_of_ble_eq_true rfl) rfl ?_
  refine sv_setValue hV ha hv (fun c h' hV' hf => go_vret d_mo_setValue_33 rfl go_le0 ⟨rfl, rfl, ?_, hf⟩) (fun c h' hV' hf => go_vret d_mo_setValue_33 rfl go_le0 ⟨rfl, rfl, ?_, hf⟩)
  · rw [if_pos (by omega)]; exact hV'
  · rw [if_neg (by omega)]; exact hV'
theorem cl_setValue {a v : Nat} (hc : M.1.cls = "PromotedNumbersModel") (hd : decode M.2.1 pc = .ok (.invokevirtual 164, 3)) (hp : pc + 3 = q) (hV : mo_V h o (I, tx, S, ps, cs, bs) V) (ha : a < 75) (hv : v ≤ 9999) (hw : (rest.map mv_k).sum ≤ 8) (hR : go_fit R u 3 rd_mo_setValue rw_mo_setValue 0 0)
    (k : ∀ h', mo_V h' o (I, tx, va_up S a (if v = 0 then 0 else 1), ps, cs, bs) (va_up (va_up V (2 * a) v) (2 * a + 1) 1) → fr_ o 8 h h' → Go φ l M R u q L rest h' n) : Go φ l M R u pc L (mv_I (v : Int) :: mv_I (a : Int) :: mv_R o :: rest) h n := by
  obtain ⟨fs, hob⟩ := mo_Vob hV
  refine go_callV (M' := m_mo_setValue) (d := rd_mo_setValue) (w := rw_mo_setValue) (mc := 0) (ms := 0) (as := [mv_I (a : Int), mv_I (v : Int)]) (b := o) (rest := rest) (q := q) g_mo_setValue i_mo_setValue v_mo_setValue (by rw [hc]; exact l_mo_164) hd hp rfl rfl hob rfl hw hR (tm_setValue hV ha hv) ?_
  rintro w h1 n1 ⟨rfl, rfl, h2, h3⟩ -
  exact go_u0 (k h1 h2 h3)
end MoCall2
