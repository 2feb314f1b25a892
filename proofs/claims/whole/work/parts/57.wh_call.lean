/-! calls of the class's Whole, from any method -/
section WhCall
variable {φ : go_F} {l : Launch} {M : go_M} {R : Room} {u : Nat × Nat} {pc q n p r x y N K J v w idx : Nat} {L : List (Option mv_V)} {rest : List mv_V} {h : mv_H}
theorem cw_become  (hlk : go_lnk M.1.cls idx m_wh_become) (hd : decode M.2.1 pc = .ok (.invokevirtual idx, 3)) (hp : pc + 3 = q) (hm : WV h p N w) (hN : 0 < N) (hv : v ≤ 1073741823) (hw : (rest.map mv_k).sum ≤ 8) (hR : go_fit R u 2 rd_wh_become rw_wh_become 0 0)
    (k : ∀ h', WV h' p N v → fr_ p 2 h h' → Go φ l M R u q L rest h' n) : Go φ l M R u pc L (mv_I (v : Int) :: mv_R p :: rest) h n := by
  obtain ⟨fs, hob⟩ := WV_ob hm
  refine go_callV (M' := m_wh_become) (d := rd_wh_become) (w := rw_wh_become) (mc := 0) (ms := 0) (as := [mv_I (v : Int)]) (b := p) (rest := rest) (q := q) g_wh_become i_wh_become v_wh_become hlk hd hp rfl rfl hob rfl hw hR (tw_become hm hN hv) ?_
  rintro w h1 n1 ⟨rfl, rfl, h2, h3⟩ -
  exact go_u0 (k h1 h2 h3)
theorem cw_isZero  (hlk : go_lnk M.1.cls idx m_wh_isZero) (hd : decode M.2.1 pc = .ok (.invokevirtual idx, 3)) (hp : pc + 3 = q) (hm : WV h p N v) (hw : (rest.map mv_k).sum ≤ 8) (hR : go_fit R u 1 rd_wh_isZero rw_wh_isZero 0 0)
    (k : Go φ l M R u q L (mv_I (if v = 0 then 1 else 0) :: rest) h n) : Go φ l M R u pc L (mv_R p :: rest) h n := by
  obtain ⟨fs, hob⟩ := WV_ob hm
  refine go_callV (M' := m_wh_isZero) (d := rd_wh_isZero) (w := rw_wh_isZero) (mc := 0) (ms := 0) (as := []) (b := p) (rest := rest) (q := q) g_wh_isZero i_wh_isZero v_wh_isZero hlk hd hp rfl rfl hob rfl hw hR (tw_isZero hm) ?_
  rintro w h1 n1 ⟨rfl, rfl, rfl⟩ -
  exact go_u0 k
theorem cw_isOne  (hlk : go_lnk M.1.cls idx m_wh_isOne) (hd : decode M.2.1 pc = .ok (.invokevirtual idx, 3)) (hp : pc + 3 = q) (hm : WV h p N v) (hw : (rest.map mv_k).sum ≤ 8) (hR : go_fit R u 1 rd_wh_isOne rw_wh_isOne 0 0)
    (k : Go φ l M R u q L (mv_I (if v = 1 then 1 else 0) :: rest) h n) : Go φ l M R u pc L (mv_R p :: rest) h n := by
  obtain ⟨fs, hob⟩ := WV_ob hm
  refine go_callV (M' := m_wh_isOne) (d := rd_wh_isOne) (w := rw_wh_isOne) (mc := 0) (ms := 0) (as := []) (b := p) (rest := rest) (q := q) g_wh_isOne i_wh_isOne v_wh_isOne hlk hd hp rfl rfl hob rfl hw hR (tw_isOne hm) ?_
  rintro w h1 n1 ⟨rfl, rfl, rfl⟩ -
  exact go_u0 k
theorem cw_isTooLarge  (hlk : go_lnk M.1.cls idx m_wh_isTooLarge) (hd : decode M.2.1 pc = .ok (.invokevirtual idx, 3)) (hp : pc + 3 = q) (hm : WV h p N v) (hw : (rest.map mv_k).sum ≤ 8) (hR : go_fit R u 1 rd_wh_isTooLarge rw_wh_isTooLarge 0 0)
    (k : Go φ l M R u q L (mv_I (if v < 2 ^ 240 then 0 else 1) :: rest) h n) : Go φ l M R u pc L (mv_R p :: rest) h n := by
  obtain ⟨fs, hob⟩ := WV_ob hm
  refine go_callV (M' := m_wh_isTooLarge) (d := rd_wh_isTooLarge) (w := rw_wh_isTooLarge) (mc := 0) (ms := 0) (as := []) (b := p) (rest := rest) (q := q) g_wh_isTooLarge i_wh_isTooLarge v_wh_isTooLarge hlk hd hp rfl rfl hob rfl hw hR (tw_isTooLarge hm) ?_
  rintro w h1 n1 ⟨rfl, rfl, rfl⟩ -
  exact go_u0 k
theorem cw_limb {i : Int} (hlk : go_lnk M.1.cls idx m_wh_limb) (hd : decode M.2.1 pc = .ok (.invokevirtual idx, 3)) (hp : pc + 3 = q) (hm : WV h p N v) (hi : -2147483648 ≤ i ∧ i ≤ 2147483647) (hw : (rest.map mv_k).sum ≤ 8) (hR : go_fit R u 2 rd_wh_limb rw_wh_limb 0 0)
    (k : Go φ l M R u q L (mv_I (if i < 0 then 0 else (wq_ v i.toNat : Int)) :: rest) h n) : Go φ l M R u pc L (mv_I i :: mv_R p :: rest) h n := by
  obtain ⟨fs, hob⟩ := WV_ob hm
  refine go_callV (M' := m_wh_limb) (d := rd_wh_limb) (w := rw_wh_limb) (mc := 0) (ms := 0) (as := [mv_I i]) (b := p) (rest := rest) (q := q) g_wh_limb i_wh_limb v_wh_limb hlk hd hp rfl rfl hob rfl hw hR (tw_limb hm hi) ?_
  rintro w h1 n1 ⟨rfl, rfl, rfl⟩ -
  exact go_u0 k
theorem cw_compare  (hlk : go_lnk M.1.cls idx m_wh_compare) (hd : decode M.2.1 pc = .ok (.invokevirtual idx, 3)) (hp : pc + 3 = q) (hm : WV h p N v) (hr : WV h r K w) (hw : (rest.map mv_k).sum ≤ 8) (hR : go_fit R u 3 rd_wh_compare rw_wh_compare 0 0)
    (k : Go φ l M R u q L (mv_I (cm_ v w) :: rest) h n) : Go φ l M R u pc L (mv_R r :: mv_R p :: rest) h n := by
  obtain ⟨fs, hob⟩ := WV_ob hm
  refine go_callV (M' := m_wh_compare) (d := rd_wh_compare) (w := rw_wh_compare) (mc := 0) (ms := 0) (as := [mv_R r]) (b := p) (rest := rest) (q := q) g_wh_compare i_wh_compare v_wh_compare hlk hd hp rfl rfl hob rfl hw hR (tw_compare hm hr) ?_
  rintro w h1 n1 ⟨rfl, rfl, rfl⟩ -
  exact go_u0 k
theorem cw_copy  (hlk : go_lnk M.1.cls idx m_wh_copy) (hd : decode M.2.1 pc = .ok (.invokevirtual idx, 3)) (hp : pc + 3 = q) (hm : WV h p N v) (hr : WV h r K w) (hdis : p + 1 < r ∨ r + 1 < p) (hv : w < 1073741824 ^ N) (hw : (rest.map mv_k).sum ≤ 8) (hR : go_fit R u 2 rd_wh_copy rw_wh_copy 0 0)
    (k : ∀ h', WV h' p N w → fr_ p 2 h h' → Go φ l M R u q L rest h' n) : Go φ l M R u pc L (mv_R r :: mv_R p :: rest) h n := by
  obtain ⟨fs, hob⟩ := WV_ob hm
  refine go_callV (M' := m_wh_copy) (d := rd_wh_copy) (w := rw_wh_copy) (mc := 0) (ms := 0) (as := [mv_R r]) (b := p) (rest := rest) (q := q) g_wh_copy i_wh_copy v_wh_copy hlk hd hp rfl rfl hob rfl hw hR (tw_copy hm hr hdis hv) ?_
  rintro w h1 n1 ⟨rfl, rfl, h2, h3⟩ -
  exact go_u0 (k h1 h2 h3)
theorem cw_add  (hlk : go_lnk M.1.cls idx m_wh_add) (hd : decode M.2.1 pc = .ok (.invokevirtual idx, 3)) (hp : pc + 3 = q) (hm : WV h p N v) (hr : WV h r K w) (hdis : p + 1 < r ∨ r + 1 < p) (hv : v + w < 1073741824 ^ N) (hw : (rest.map mv_k).sum ≤ 8) (hR : go_fit R u 6 rd_wh_add rw_wh_add 0 0)
    (k : ∀ h', WV h' p N (v + w) → fr_ p 2 h h' → Go φ l M R u q L rest h' n) : Go φ l M R u pc L (mv_R r :: mv_R p :: rest) h n := by
  obtain ⟨fs, hob⟩ := WV_ob hm
  refine go_callV (M' := m_wh_add) (d := rd_wh_add) (w := rw_wh_add) (mc := 0) (ms := 0) (as := [mv_R r]) (b := p) (rest := rest) (q := q) g_wh_add i_wh_add v_wh_add hlk hd hp rfl rfl hob rfl hw hR (tw_add hm hr hdis hv) ?_
  rintro w h1 n1 ⟨rfl, rfl, h2, h3⟩ -
  exact go_u0 (k h1 h2 h3)
theorem cw_subtract  (hlk : go_lnk M.1.cls idx m_wh_subtract) (hd : decode M.2.1 pc = .ok (.invokevirtual idx, 3)) (hp : pc + 3 = q) (hm : WV h p N v) (hr : WV h r K w) (hdis : p + 1 < r ∨ r + 1 < p) (hv : w ≤ v) (hw : (rest.map mv_k).sum ≤ 8) (hR : go_fit R u 5 rd_wh_subtract rw_wh_subtract 0 0)
    (k : ∀ h', WV h' p N (v - w) → fr_ p 2 h h' → Go φ l M R u q L rest h' n) : Go φ l M R u pc L (mv_R r :: mv_R p :: rest) h n := by
  obtain ⟨fs, hob⟩ := WV_ob hm
  refine go_callV (M' := m_wh_subtract) (d := rd_wh_subtract) (w := rw_wh_subtract) (mc := 0) (ms := 0) (as := [mv_R r]) (b := p) (rest := rest) (q := q) g_wh_subtract i_wh_subtract v_wh_subtract hlk hd hp rfl rfl hob rfl hw hR (tw_subtract hm hr hdis hv) ?_
  rintro w h1 n1 ⟨rfl, rfl, h2, h3⟩ -
  exact go_u0 (k h1 h2 h3)
theorem cw_timesPlus  (hlk : go_lnk M.1.cls idx m_wh_timesPlus) (hd : decode M.2.1 pc = .ok (.invokevirtual idx, 3)) (hp : pc + 3 = q) (hm : WV h p N v) (hx : 1 ≤ x ∧ x ≤ 1073741824) (hy : y ≤ 1073741823) (hv : v * x + y < 1073741824 ^ N) (hw : (rest.map mv_k).sum ≤ 8) (hR : go_fit R u 8 rd_wh_timesPlus rw_wh_timesPlus 0 0)
    (k : ∀ h', WV h' p N (v * x + y) → fr_ p 2 h h' → Go φ l M R u q L rest h' n) : Go φ l M R u pc L (mv_I (y : Int) :: mv_I (x : Int) :: mv_R p :: rest) h n := by
  obtain ⟨fs, hob⟩ := WV_ob hm
  refine go_callV (M' := m_wh_timesPlus) (d := rd_wh_timesPlus) (w := rw_wh_timesPlus) (mc := 0) (ms := 0) (as := [mv_I (x : Int), mv_I (y : Int)]) (b := p) (rest := rest) (q := q) g_wh_timesPlus i_wh_timesPlus v_wh_timesPlus hlk hd hp rfl rfl hob rfl hw hR (tw_timesPlus hm hx hy hv) ?_
  rintro w h1 n1 ⟨rfl, rfl, h2, h3⟩ -
  exact go_u0 (k h1 h2 h3)
theorem cw_divideBy  (hlk : go_lnk M.1.cls idx m_wh_divideBy) (hd : decode M.2.1 pc = .ok (.invokevirtual idx, 3)) (hp : pc + 3 = q) (hm : WV h p N v) (hx : 0 < x ∧ x ≤ 1073741824) (hw : (rest.map mv_k).sum ≤ 8) (hR : go_fit R u 7 rd_wh_divideBy rw_wh_divideBy 0 0)
    (k : ∀ h', WV h' p N (v / x) → fr_ p 2 h h' → Go φ l M R u q L (mv_I ((v % x : Nat) : Int) :: rest) h' n) : Go φ l M R u pc L (mv_I (x : Int) :: mv_R p :: rest) h n := by
  obtain ⟨fs, hob⟩ := WV_ob hm
  refine go_callV (M' := m_wh_divideBy) (d := rd_wh_divideBy) (w := rw_wh_divideBy) (mc := 0) (ms := 0) (as := [mv_I (x : Int)]) (b := p) (rest := rest) (q := q) g_wh_divideBy i_wh_divideBy v_wh_divideBy hlk hd hp rfl rfl hob rfl hw hR (tw_divideBy hm hx) ?_
  rintro w h1 n1 ⟨rfl, rfl, h2, h3⟩ -
  exact go_u0 (k h1 h2 h3)
theorem cw_becomeProduct  (hlk : go_lnk M.1.cls idx m_wh_becomeProduct) (hd : decode M.2.1 pc = .ok (.invokevirtual idx, 3)) (hp : pc + 3 = q) (hm : WV h p N w) (hx : WV h x K v) (hy : WV h y J r) (hdis : (p + 1 < x ∨ x + 1 < p) ∧ (p + 1 < y ∨ y + 1 < p)) (hK : K + J ≤ N ∨ (∃ i j, v < 1073741824 ^ i ∧ r < 1073741824 ^ j ∧ i + j ≤ N)) (hw : (rest.map mv_k).sum ≤ 8) (hR : go_fit R u 11 rd_wh_becomeProduct rw_wh_becomeProduct 0 0)
    (k : ∀ h', WV h' p N (v * r) → fr_ p 2 h h' → Go φ l M R u q L rest h' n) : Go φ l M R u pc L (mv_R y :: mv_R x :: mv_R p :: rest) h n := by
  obtain ⟨fs, hob⟩ := WV_ob hm
  refine go_callV (M' := m_wh_becomeProduct) (d := rd_wh_becomeProduct) (w := rw_wh_becomeProduct) (mc := 0) (ms := 0) (as := [mv_R x, mv_R y]) (b := p) (rest := rest) (q := q) g_wh_becomeProduct i_wh_becomeProduct v_wh_becomeProduct hlk hd hp rfl rfl hob rfl hw hR (tw_becomeProduct hm hx hy hdis hK) ?_
  rintro w h1 n1 ⟨rfl, rfl, h2, h3⟩ -
  exact go_u0 (k h1 h2 h3)
theorem cw_dropTwos  (hlk : go_lnk M.1.cls idx m_wh_dropTwos) (hd : decode M.2.1 pc = .ok (.invokevirtual idx, 3)) (hp : pc + 3 = q) (hm : WV h p N v) (hv : 0 < v) (hw : (rest.map mv_k).sum ≤ 8) (hR : go_fit R u 6 rd_wh_dropTwos rw_wh_dropTwos 0 0)
    (k : ∀ (t m : Nat) h', v = 2 ^ t * (2 * m + 1) → t < 3000 → WV h' p N (2 * m + 1) → fr_ p 2 h h' → Go φ l M R u q L (mv_I (t : Int) :: rest) h' n) : Go φ l M R u pc L (mv_R p :: rest) h n := by
  obtain ⟨fs, hob⟩ := WV_ob hm
  refine go_callV (M' := m_wh_dropTwos) (d := rd_wh_dropTwos) (w := rw_wh_dropTwos) (mc := 0) (ms := 0) (as := []) (b := p) (rest := rest) (q := q) g_wh_dropTwos i_wh_dropTwos v_wh_dropTwos hlk hd hp rfl rfl hob rfl hw hR (tw_dropTwos hm hv) ?_
  rintro w h1 n1 ⟨k1, m1, e1, e2, rfl, rfl, h2, h3⟩ -
  exact go_u0 (k k1 m1 h1 e1 e2 h2 h3)
end WhCall
