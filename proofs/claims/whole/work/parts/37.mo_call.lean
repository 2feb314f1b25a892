/-! calls of the model's methods on its rows, from any method of the model -/
theorem go_u0 {φ : go_F} {l : Launch} {M : go_M} {R : Room} {u : Nat × Nat} {pc n : Nat} {L : List (Option mv_V)} {st : List mv_V} {h : mv_H} (k : Go φ l M R u pc L st h n) : Go φ l M R (u.1 + 0, u.2 + 0) pc L st h n := k
section MoCall
variable {φ : go_F} {l : Launch} {M : go_M} {R : Room} {u : Nat × Nat} {pc q n o : Nat} {L : List (Option mv_V)} {rest : List mv_V} {h : mv_H} {X : mo_X} {V : Nat → Nat}
theorem mo_Vob (hV : mo_V h o X V) : ∃ fs, h o = mv_O 8 fs := by
  obtain ⟨D, U, hm, -⟩ := hV
  exact ⟨_, MD_c0 hm⟩
theorem cl_set {r v : Nat} (hc : M.1.cls = "PromotedNumbersModel") (hd : decode M.2.1 pc = .ok (.invokevirtual 35, 3)) (hp : pc + 3 = q) (hV : mo_V h o X V) (hr : r < 160) (hv : v ≤ 9999) (hw : (rest.map mv_k).sum ≤ 8) (hR : go_fit R u 4 rd_mo_set rw_mo_set 0 0)
    (k : ∀ h', mo_V h' o X (va_up V r v) → fr_ o 8 h h' → Go φ l M R u q L rest h' n) : Go φ l M R u pc L (mv_I (v : Int) :: mv_I (r : Int) :: mv_R o :: rest) h n := by
  obtain ⟨fs, hob⟩ := mo_Vob hV
  refine go_callV (M' := m_mo_set) (d := rd_mo_set) (w := rw_mo_set) (mc := 0) (ms := 0) (as := [mv_I (r : Int), mv_I (v : Int)]) (b := o) (rest := rest) (q := q) g_mo_set i_mo_set v_mo_set (by rw [hc]; exact l_mo_35) hd hp rfl rfl hob rfl hw hR (tm_set hV hr hv) ?_
  rintro w h1 n1 ⟨rfl, rfl, h2, h3⟩ -
  exact go_u0 (k h1 h2 h3)
theorem cl_copy {a b : Nat} (hc : M.1.cls = "PromotedNumbersModel") (hd : decode M.2.1 pc = .ok (.invokevirtual 62, 3)) (hp : pc + 3 = q) (hV : mo_V h o X V) (ha : a < 160) (hb : b < 160) (hw : (rest.map mv_k).sum ≤ 8) (hR : go_fit R u 4 rd_mo_copy rw_mo_copy 0 0)
    (k : ∀ h', mo_V h' o X (va_up V b (V a)) → fr_ o 8 h h' → Go φ l M R u q L rest h' n) : Go φ l M R u pc L (mv_I (b : Int) :: mv_I (a : Int) :: mv_R o :: rest) h n := by
  obtain ⟨fs, hob⟩ := mo_Vob hV
  refine go_callV (M' := m_mo_copy) (d := rd_mo_copy) (w := rw_mo_copy) (mc := 0) (ms := 0) (as := [mv_I (a : Int), mv_I (b : Int)]) (b := o) (rest := rest) (q := q) g_mo_copy i_mo_copy v_mo_copy (by rw [hc]; exact l_mo_62) hd hp rfl rfl hob rfl hw hR (tm_copy hV ha hb) ?_
  rintro w h1 n1 ⟨rfl, rfl, h2, h3⟩ -
  exact go_u0 (k h1 h2 h3)
theorem cl_compare {a b : Nat} (hc : M.1.cls = "PromotedNumbersModel") (hd : decode M.2.1 pc = .ok (.invokevirtual 55, 3)) (hp : pc + 3 = q) (hV : mo_V h o X V) (ha : a < 160) (hb : b < 160) (hw : (rest.map mv_k).sum ≤ 8) (hR : go_fit R u 4 rd_mo_compare rw_mo_compare 0 0)
    (k : Go φ l M R u q L (mv_I (cm_ (V a) (V b)) :: rest) h n) : Go φ l M R u pc L (mv_I (b : Int) :: mv_I (a : Int) :: mv_R o :: rest) h n := by
  obtain ⟨fs, hob⟩ := mo_Vob hV
  refine go_callV (M' := m_mo_compare) (d := rd_mo_compare) (w := rw_mo_compare) (mc := 0) (ms := 0) (as := [mv_I (a : Int), mv_I (b : Int)]) (b := o) (rest := rest) (q := q) g_mo_compare i_mo_compare v_mo_compare (by rw [hc]; exact l_mo_55) hd hp rfl rfl hob rfl hw hR (tm_compare hV ha hb) ?_
  rintro w h1 n1 ⟨rfl, rfl, rfl⟩ -
  exact go_u0 k
theorem cl_addTo {a b : Nat} (hc : M.1.cls = "PromotedNumbersModel") (hd : decode M.2.1 pc = .ok (.invokevirtual 39, 3)) (hp : pc + 3 = q) (hV : mo_V h o X V) (ha : a < 160) (hb : b < 160) (hs : V a + V b < 10000 ^ 40) (hw : (rest.map mv_k).sum ≤ 8) (hR : go_fit R u 7 rd_mo_addTo rw_mo_addTo 0 0)
    (k : ∀ h', mo_V h' o X (va_up V a (V a + V b)) → fr_ o 8 h h' → Go φ l M R u q L rest h' n) : Go φ l M R u pc L (mv_I (b : Int) :: mv_I (a : Int) :: mv_R o :: rest) h n := by
  obtain ⟨fs, hob⟩ := mo_Vob hV
  refine go_callV (M' := m_mo_addTo) (d := rd_mo_addTo) (w := rw_mo_addTo) (mc := 0) (ms := 0) (as := [mv_I (a : Int), mv_I (b : Int)]) (b := o) (rest := rest) (q := q) g_mo_addTo i_mo_addTo v_mo_addTo (by rw [hc]; exact l_mo_39) hd hp rfl rfl hob rfl hw hR (tm_addTo hV ha hb hs) ?_
  rintro w h1 n1 ⟨rfl, rfl, h2, h3⟩ -
  exact go_u0 (k h1 h2 h3)
theorem cl_takeOff {a b : Nat} (hc : M.1.cls = "PromotedNumbersModel") (hd : decode M.2.1 pc = .ok (.invokevirtual 59, 3)) (hp : pc + 3 = q) (hV : mo_V h o X V) (ha : a < 160) (hb : b < 160) (hs : V b ≤ V a) (hw : (rest.map mv_k).sum ≤ 8) (hR : go_fit R u 6 rd_mo_takeOff rw_mo_takeOff 0 0)
    (k : ∀ h', mo_V h' o X (va_up V a (V a - V b)) → fr_ o 8 h h' → Go φ l M R u q L rest h' n) : Go φ l M R u pc L (mv_I (b : Int) :: mv_I (a : Int) :: mv_R o :: rest) h n := by
  obtain ⟨fs, hob⟩ := mo_Vob hV
  refine go_callV (M' := m_mo_takeOff) (d := rd_mo_takeOff) (w := rw_mo_takeOff) (mc := 0) (ms := 0) (as := [mv_I (a : Int), mv_I (b : Int)]) (b := o) (rest := rest) (q := q) g_mo_takeOff i_mo_takeOff v_mo_takeOff (by rw [hc]; exact l_mo_59) hd hp rfl rfl hob rfl hw hR (tm_takeOff hV ha hb hs) ?_
  rintro w h1 n1 ⟨rfl, rfl, h2, h3⟩ -
  exact go_u0 (k h1 h2 h3)
theorem cl_multiply {a b t : Nat} (hc : M.1.cls = "PromotedNumbersModel") (hd : decode M.2.1 pc = .ok (.invokevirtual 82, 3)) (hp : pc + 3 = q) (hV : mo_V h o X V) (ha : a < 160) (hb : b < 160) (ht : t < 160) (hta : t ≠ a) (htb : t ≠ b) (hs : V a * V b < 10000 ^ 40) (hw : (rest.map mv_k).sum ≤ 8) (hR : go_fit R u 9 rd_mo_multiply rw_mo_multiply 0 0)
    (k : ∀ h', mo_V h' o X (va_up V t (V a * V b)) → fr_ o 8 h h' → Go φ l M R u q L rest h' n) : Go φ l M R u pc L (mv_I (t : Int) :: mv_I (b : Int) :: mv_I (a : Int) :: mv_R o :: rest) h n := by
  obtain ⟨fs, hob⟩ := mo_Vob hV
  refine go_callV (M' := m_mo_multiply) (d := rd_mo_multiply) (w := rw_mo_multiply) (mc := 0) (ms := 0) (as := [mv_I (a : Int), mv_I (b : Int), mv_I (t : Int)]) (b := o) (rest := rest) (q := q) g_mo_multiply i_mo_multiply v_mo_multiply (by rw [hc]; exact l_mo_82) hd hp rfl rfl hob rfl hw hR (tm_multiply hV ha hb ht hta htb hs) ?_
  rintro w h1 n1 ⟨rfl, rfl, h2, h3⟩ -
  exact go_u0 (k h1 h2 h3)
theorem cl_times {b t y : Nat} (hc : M.1.cls = "PromotedNumbersModel") (hd : decode M.2.1 pc = .ok (.invokevirtual 51, 3)) (hp : pc + 3 = q) (hV : mo_V h o X V) (hb : b < 160) (ht : t < 160) (htb : t ≠ b) (hy : y ≤ 9999) (hs : V b * y < 10000 ^ 40) (hw : (rest.map mv_k).sum ≤ 8) (hR : go_fit R u 7 rd_mo_times rw_mo_times 0 0)
    (k : ∀ h', mo_V h' o X (va_up V t (V b * y)) → fr_ o 8 h h' → Go φ l M R u q L rest h' n) : Go φ l M R u pc L (mv_I (t : Int) :: mv_I (y : Int) :: mv_I (b : Int) :: mv_R o :: rest) h n := by
  obtain ⟨fs, hob⟩ := mo_Vob hV
  refine go_callV (M' := m_mo_times) (d := rd_mo_times) (w := rw_mo_times) (mc := 0) (ms := 0) (as := [mv_I (b : Int), mv_I (y : Int), mv_I (t : Int)]) (b := o) (rest := rest) (q := q) g_mo_times i_mo_times v_mo_times (by rw [hc]; exact l_mo_51) hd hp rfl rfl hob rfl hw hR (tm_times hV hb ht htb hy hs) ?_
  rintro w h1 n1 ⟨rfl, rfl, h2, h3⟩ -
  exact go_u0 (k h1 h2 h3)
theorem cl_shift {r v : Nat} (hc : M.1.cls = "PromotedNumbersModel") (hd : decode M.2.1 pc = .ok (.invokevirtual 48, 3)) (hp : pc + 3 = q) (hV : mo_V h o X V) (hr : r < 160) (hv : v ≤ 9999) (hs : V r < 10000 ^ 39) (hw : (rest.map mv_k).sum ≤ 8) (hR : go_fit R u 4 rd_mo_shift rw_mo_shift 0 0)
    (k : ∀ h', mo_V h' o X (va_up V r (v + 10000 * V r)) → fr_ o 8 h h' → Go φ l M R u q L rest h' n) : Go φ l M R u pc L (mv_I (v : Int) :: mv_I (r : Int) :: mv_R o :: rest) h n := by
  obtain ⟨fs, hob⟩ := mo_Vob hV
  refine go_callV (M' := m_mo_shift) (d := rd_mo_shift) (w := rw_mo_shift) (mc := 0) (ms := 0) (as := [mv_I (r : Int), mv_I (v : Int)]) (b := o) (rest := rest) (q := q) g_mo_shift i_mo_shift v_mo_shift (by rw [hc]; exact l_mo_48) hd hp rfl rfl hob rfl hw hR (tm_shift hV hr hv hs) ?_
  rintro w h1 n1 ⟨rfl, rfl, h2, h3⟩ -
  exact go_u0 (k h1 h2 h3)
theorem cl_divideSmall {r y : Nat} (hc : M.1.cls = "PromotedNumbersModel") (hd : decode M.2.1 pc = .ok (.invokevirtual 69, 3)) (hp : pc + 3 = q) (hV : mo_V h o X V) (hr : r < 160) (hy : 0 < y ∧ y ≤ 65536) (hw : (rest.map mv_k).sum ≤ 8) (hR : go_fit R u 6 rd_mo_divideSmall rw_mo_divideSmall 0 0)
    (k : ∀ h', mo_V h' o X (va_up V r (V r / y)) → fr_ o 8 h h' → Go φ l M R u q L (mv_I ((V r % y : Nat) : Int) :: rest) h' n) : Go φ l M R u pc L (mv_I (y : Int) :: mv_I (r : Int) :: mv_R o :: rest) h n := by
  obtain ⟨fs, hob⟩ := mo_Vob hV
  refine go_callV (M' := m_mo_divideSmall) (d := rd_mo_divideSmall) (w := rw_mo_divideSmall) (mc := 0) (ms := 0) (as := [mv_I (r : Int), mv_I (y : Int)]) (b := o) (rest := rest) (q := q) g_mo_divideSmall i_mo_divideSmall v_mo_divideSmall (by rw [hc]; exact l_mo_69) hd hp rfl rfl hob rfl hw hR (tm_divideSmall hV hr hy) ?_
  rintro w h1 n1 ⟨rfl, rfl, h2, h3⟩ -
  exact go_u0 (k h1 h2 h3)
theorem cl_isOne {r : Nat} (hc : M.1.cls = "PromotedNumbersModel") (hd : decode M.2.1 pc = .ok (.invokevirtual 72, 3)) (hp : pc + 3 = q) (hV : mo_V h o X V) (hr : r < 160) (hw : (rest.map mv_k).sum ≤ 8) (hR : go_fit R u 2 rd_mo_isOne rw_mo_isOne 0 0)
    (k : Go φ l M R u q L (mv_I (if V r = 1 then 1 else 0) :: rest) h n) : Go φ l M R u pc L (mv_I (r : Int) :: mv_R o :: rest) h n := by
  obtain ⟨fs, hob⟩ := mo_Vob hV
  refine go_callV (M' := m_mo_isOne) (d := rd_mo_isOne) (w := rw_mo_isOne) (mc := 0) (ms := 0) (as := [mv_I (r : Int)]) (b := o) (rest := rest) (q := q) g_mo_isOne i_mo_isOne v_mo_isOne (by rw [hc]; exact l_mo_72) hd hp rfl rfl hob rfl hw hR (tm_isOne hV hr) ?_
  rintro w h1 n1 ⟨rfl, rfl, rfl⟩ -
  exact go_u0 k
theorem cl_isEven {r : Nat} (hc : M.1.cls = "PromotedNumbersModel") (hd : decode M.2.1 pc = .ok (.invokevirtual 65, 3)) (hp : pc + 3 = q) (hV : mo_V h o X V) (hr : r < 160) (hw : (rest.map mv_k).sum ≤ 8) (hR : go_fit R u 2 rd_mo_isEven rw_mo_isEven 0 0)
    (k : Go φ l M R u q L (mv_I (if V r % 2 = 0 then 1 else 0) :: rest) h n) : Go φ l M R u pc L (mv_I (r : Int) :: mv_R o :: rest) h n := by
  obtain ⟨fs, hob⟩ := mo_Vob hV
  refine go_callV (M' := m_mo_isEven) (d := rd_mo_isEven) (w := rw_mo_isEven) (mc := 0) (ms := 0) (as := [mv_I (r : Int)]) (b := o) (rest := rest) (q := q) g_mo_isEven i_mo_isEven v_mo_isEven (by rw [hc]; exact l_mo_65) hd hp rfl rfl hob rfl hw hR (tm_isEven hV hr) ?_
  rintro w h1 n1 ⟨rfl, rfl, rfl⟩ -
  exact go_u0 k
theorem mo_U0 {D U : Nat → Int} {r : Nat} (hM : mo_MN D U V) (hr : r < 160) : U r = 0 ↔ V r = 0 := by
  have rr := hM.2.2 r hr
  have hUr := hM.2.1 r
  constructor
  · intro h0
    have := mo_lt hM.1 hUr rr
    rw [h0] at this
    simp at this
    exact this
  · intro h0
    by_cases hp : 0 < U r
    · have h1 := mo_ge hM.1 hUr rr hp
      have h2 : 0 < 10000 ^ ((U r).toNat - 1) := Nat.pow_pos (by decide)
      omega
    · omega
theorem mo_Vlt (hV : mo_V h o X V) {r : Nat} (hr : r < 160) : V r < 10000 ^ 40 := by
  obtain ⟨D, U, -, hM⟩ := hV
  exact mo_RW_lt hM.1 (hM.2.2 r hr)
end MoCall
