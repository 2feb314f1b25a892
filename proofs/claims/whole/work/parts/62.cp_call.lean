/-! calls of the class's Whole, over the class's object -/
section CpCall
variable {φ : go_F} {l : Launch} {M : go_M} {R : Room} {u : Nat × Nat} {pc q n p r x y v idx : Nat} {L : List (Option mv_V)} {rest : List mv_V} {h : mv_H} {X : pn_X} {B : Nat → Int} {V : Nat → Nat}
theorem cp_become  (hlk : go_lnk M.1.cls idx m_wh_become) (hd : decode M.2.1 pc = .ok (.invokevirtual idx, 3)) (hq : pc + 3 = q) (hV : pn_V h X B V) (hp : ro_ p) (hv : v ≤ 1073741823) (hw : (rest.map mv_k).sum ≤ 8) (hR : go_fit R u 2 rd_wh_become rw_wh_become 0 0)
    (k : ∀ h', pn_V h' X B (va_up V p v) → fr_ 1 389 h h' → Go φ l M R u q L rest h' n) : Go φ l M R u pc L (mv_I (v : Int) :: mv_R p :: rest) h n := by
  refine cw_become hlk hd hq (pn_w hV hp) (by have := rn_le p; omega) hv hw hR (fun h1 a b => ?_)
  obtain ⟨c1, c2⟩ := pn_row hV hp a b
  exact k h1 c1 c2
theorem cp_isZero  (hlk : go_lnk M.1.cls idx m_wh_isZero) (hd : decode M.2.1 pc = .ok (.invokevirtual idx, 3)) (hq : pc + 3 = q) (hV : pn_V h X B V) (hp : ro_ p)  (hw : (rest.map mv_k).sum ≤ 8) (hR : go_fit R u 1 rd_wh_isZero rw_wh_isZero 0 0)
    (k : Go φ l M R u q L (mv_I (if V p = 0 then 1 else 0) :: rest) h n) : Go φ l M R u pc L (mv_R p :: rest) h n := by
  refine cw_isZero hlk hd hq (pn_w hV hp)  hw hR ?_
  exact k
theorem cp_isOne  (hlk : go_lnk M.1.cls idx m_wh_isOne) (hd : decode M.2.1 pc = .ok (.invokevirtual idx, 3)) (hq : pc + 3 = q) (hV : pn_V h X B V) (hp : ro_ p)  (hw : (rest.map mv_k).sum ≤ 8) (hR : go_fit R u 1 rd_wh_isOne rw_wh_isOne 0 0)
    (k : Go φ l M R u q L (mv_I (if V p = 1 then 1 else 0) :: rest) h n) : Go φ l M R u pc L (mv_R p :: rest) h n := by
  refine cw_isOne hlk hd hq (pn_w hV hp)  hw hR ?_
  exact k
theorem cp_isTooLarge  (hlk : go_lnk M.1.cls idx m_wh_isTooLarge) (hd : decode M.2.1 pc = .ok (.invokevirtual idx, 3)) (hq : pc + 3 = q) (hV : pn_V h X B V) (hp : ro_ p)  (hw : (rest.map mv_k).sum ≤ 8) (hR : go_fit R u 1 rd_wh_isTooLarge rw_wh_isTooLarge 0 0)
    (k : Go φ l M R u q L (mv_I (if V p < 2 ^ 240 then 0 else 1) :: rest) h n) : Go φ l M R u pc L (mv_R p :: rest) h n := by
  refine cw_isTooLarge hlk hd hq (pn_w hV hp)  hw hR ?_
  exact k
theorem cp_limb {i : Int} (hlk : go_lnk M.1.cls idx m_wh_limb) (hd : decode M.2.1 pc = .ok (.invokevirtual idx, 3)) (hq : pc + 3 = q) (hV : pn_V h X B V) (hp : ro_ p) (hi : -2147483648 ≤ i ∧ i ≤ 2147483647) (hw : (rest.map mv_k).sum ≤ 8) (hR : go_fit R u 2 rd_wh_limb rw_wh_limb 0 0)
    (k : Go φ l M R u q L (mv_I (if i < 0 then 0 else (wq_ (V p) i.toNat : Int)) :: rest) h n) : Go φ l M R u pc L (mv_I i :: mv_R p :: rest) h n := by
  refine cw_limb hlk hd hq (pn_w hV hp) hi hw hR ?_
  exact k
theorem cp_compare  (hlk : go_lnk M.1.cls idx m_wh_compare) (hd : decode M.2.1 pc = .ok (.invokevirtual idx, 3)) (hq : pc + 3 = q) (hV : pn_V h X B V) (hp : ro_ p) (hr : ro_ r) (hw : (rest.map mv_k).sum ≤ 8) (hR : go_fit R u 3 rd_wh_compare rw_wh_compare 0 0)
    (k : Go φ l M R u q L (mv_I (cm_ (V p) (V r)) :: rest) h n) : Go φ l M R u pc L (mv_R r :: mv_R p :: rest) h n := by
  refine cw_compare hlk hd hq (pn_w hV hp) (pn_w hV hr) hw hR ?_
  exact k
theorem cp_copy  (hlk : go_lnk M.1.cls idx m_wh_copy) (hd : decode M.2.1 pc = .ok (.invokevirtual idx, 3)) (hq : pc + 3 = q) (hV : pn_V h X B V) (hp : ro_ p) (hr : ro_ r) (hn : p ≠ r) (hv : V r < 1073741824 ^ rn_ p) (hw : (rest.map mv_k).sum ≤ 8) (hR : go_fit R u 2 rd_wh_copy rw_wh_copy 0 0)
    (k : ∀ h', pn_V h' X B (va_up V p (V r)) → fr_ 1 389 h h' → Go φ l M R u q L rest h' n) : Go φ l M R u pc L (mv_R r :: mv_R p :: rest) h n := by
  refine cw_copy hlk hd hq (pn_w hV hp) (pn_w hV hr) (ro_ap hp hr hn) hv hw hR (fun h1 a b => ?_)
  obtain ⟨c1, c2⟩ := pn_row hV hp a b
  exact k h1 c1 c2
theorem cp_add  (hlk : go_lnk M.1.cls idx m_wh_add) (hd : decode M.2.1 pc = .ok (.invokevirtual idx, 3)) (hq : pc + 3 = q) (hV : pn_V h X B V) (hp : ro_ p) (hr : ro_ r) (hn : p ≠ r) (hv : V p + V r < 1073741824 ^ rn_ p) (hw : (rest.map mv_k).sum ≤ 8) (hR : go_fit R u 6 rd_wh_add rw_wh_add 0 0)
    (k : ∀ h', pn_V h' X B (va_up V p (V p + V r)) → fr_ 1 389 h h' → Go φ l M R u q L rest h' n) : Go φ l M R u pc L (mv_R r :: mv_R p :: rest) h n := by
  refine cw_add hlk hd hq (pn_w hV hp) (pn_w hV hr) (ro_ap hp hr hn) hv hw hR (fun h1 a b => ?_)
  obtain ⟨c1, c2⟩ := pn_row hV hp a b
  exact k h1 c1 c2
theorem cp_subtract  (hlk : go_lnk M.1.cls idx m_wh_subtract) (hd : decode M.2.1 pc = .ok (.invokevirtual idx, 3)) (hq : pc + 3 = q) (hV : pn_V h X B V) (hp : ro_ p) (hr : ro_ r) (hn : p ≠ r) (hv : V r ≤ V p) (hw : (rest.map mv_k).sum ≤ 8) (hR : go_fit R u 5 rd_wh_subtract rw_wh_subtract 0 0)
    (k : ∀ h', pn_V h' X B (va_up V p (V p - V r)) → fr_ 1 389 h h' → Go φ l M R u q L rest h' n) : Go φ l M R u pc L (mv_R r :: mv_R p :: rest) h n := by
  refine cw_subtract hlk hd hq (pn_w hV hp) (pn_w hV hr) (ro_ap hp hr hn) hv hw hR (fun h1 a b => ?_)
  obtain ⟨c1, c2⟩ := pn_row hV hp a b
  exact k h1 c1 c2
theorem cp_timesPlus  (hlk : go_lnk M.1.cls idx m_wh_timesPlus) (hd : decode M.2.1 pc = .ok (.invokevirtual idx, 3)) (hq : pc + 3 = q) (hV : pn_V h X B V) (hp : ro_ p) (hx : 1 ≤ x ∧ x ≤ 1073741824) (hy : y ≤ 1073741823) (hv : V p * x + y < 1073741824 ^ rn_ p) (hw : (rest.map mv_k).sum ≤ 8) (hR : go_fit R u 8 rd_wh_timesPlus rw_wh_timesPlus 0 0)
    (k : ∀ h', pn_V h' X B (va_up V p (V p * x + y)) → fr_ 1 389 h h' → Go φ l M R u q L rest h' n) : Go φ l M R u pc L (mv_I (y : Int) :: mv_I (x : Int) :: mv_R p :: rest) h n := by
  refine cw_timesPlus hlk hd hq (pn_w hV hp) hx hy hv hw hR (fun h1 a b => ?_)
  obtain ⟨c1, c2⟩ := pn_row hV hp a b
  exact k h1 c1 c2
theorem cp_divideBy  (hlk : go_lnk M.1.cls idx m_wh_divideBy) (hd : decode M.2.1 pc = .ok (.invokevirtual idx, 3)) (hq : pc + 3 = q) (hV : pn_V h X B V) (hp : ro_ p) (hx : 0 < x ∧ x ≤ 1073741824) (hw : (rest.map mv_k).sum ≤ 8) (hR : go_fit R u 7 rd_wh_divideBy rw_wh_divideBy 0 0)
    (k : ∀ h', pn_V h' X B (va_up V p (V p / x)) → fr_ 1 389 h h' → Go φ l M R u q L (mv_I ((V p % x : Nat) : Int) :: rest) h' n) : Go φ l M R u pc L (mv_I (x : Int) :: mv_R p :: rest) h n := by
  refine cw_divideBy hlk hd hq (pn_w hV hp) hx hw hR (fun h1 a b => ?_)
  obtain ⟨c1, c2⟩ := pn_row hV hp a b
  exact k h1 c1 c2
theorem cp_becomeProduct  (hlk : go_lnk M.1.cls idx m_wh_becomeProduct) (hd : decode M.2.1 pc = .ok (.invokevirtual idx, 3)) (hq : pc + 3 = q) (hV : pn_V h X B V) (hp : ro_ p) (hx : ro_ x) (hy : ro_ y) (hn : p ≠ x ∧ p ≠ y) (hK : ∃ i j, V x < 1073741824 ^ i ∧ V y < 1073741824 ^ j ∧ i + j ≤ rn_ p) (hw : (rest.map mv_k).sum ≤ 8) (hR : go_fit R u 11 rd_wh_becomeProduct rw_wh_becomeProduct 0 0)
    (k : ∀ h', pn_V h' X B (va_up V p (V x * V y)) → fr_ 1 389 h h' → Go φ l M R u q L rest h' n) : Go φ l M R u pc L (mv_R y :: mv_R x :: mv_R p :: rest) h n := by
  refine cw_becomeProduct hlk hd hq (pn_w hV hp) (pn_w hV hx) (pn_w hV hy) ⟨ro_ap hp hx hn.1, ro_ap hp hy hn.2⟩ (Or.inr hK) hw hR (fun h1 a b => ?_)
  obtain ⟨c1, c2⟩ := pn_row hV hp a b
  exact k h1 c1 c2
theorem cp_dropTwos (hlk : go_lnk M.1.cls idx m_wh_dropTwos) (hd : decode M.2.1 pc = .ok (.invokevirtual idx, 3)) (hq : pc + 3 = q) (hV : pn_V h X B V) (hp : ro_ p) (hv : 0 < V p) (hw : (rest.map mv_k).sum ≤ 8) (hR : go_fit R u 6 rd_wh_dropTwos rw_wh_dropTwos 0 0)
    (k : ∀ (t m : Nat) h', V p = 2 ^ t * (2 * m + 1) → t < 3000 → pn_V h' X B (va_up V p (2 * m + 1)) → fr_ 1 389 h h' → Go φ l M R u q L (mv_I (t : Int) :: rest) h' n) : Go φ l M R u pc L (mv_R p :: rest) h n := by
  refine cw_dropTwos hlk hd hq (pn_w hV hp) hv hw hR (fun t m h1 e1 e2 a b => ?_)
  obtain ⟨c1, c2⟩ := pn_row hV hp a b
  exact k t m h1 e1 e2 c1 c2
end CpCall
