/-! characterOf -/
section TyChr
variable {φ : go_F} {l : Launch} {M : go_M} {R : Room} {u : Nat × Nat} {pc q n idx : Nat} {L : List (Option mv_V)} {rest : List mv_V} {h : mv_H} {I tx wr ga gb mo mf mg : Nat → Int} {B : Nat → Int} {V : Nat → Nat}
theorem tp_chr {z : Int} {i : Nat} (hi : i < 8) : Fn l m_pn_characterOf rd_pn_characterOf rw_pn_characterOf 0 0 [mv_L z, mv_I (i : Int)] h n (fun w h' n' => w = some (mv_I (cb_ z i)) ∧ n' = n ∧ h' = h) := by
  refine fn_of rfl (Nat.le_of_ble_eq_true rfl) rfl ?_
  exact sp_chr hi (go_iret d_pn_characterOf_11 rfl go_le0 ⟨rfl, rfl, rfl⟩)
theorem cp_chr {z : Int} {i : Nat} (hlk : go_lnk M.1.cls idx m_pn_characterOf) (hd : decode M.2.1 pc = .ok (.invokestatic idx, 3)) (hp : pc + 3 = q) (hi : i < 8) (hw : (rest.map mv_k).sum ≤ 8) (hR : go_fit R u 3 rd_pn_characterOf rw_pn_characterOf 0 0)
    (k : Go φ l M R u q L (mv_I (cb_ z i) :: rest) h n) : Go φ l M R u pc L (mv_I (i : Int) :: mv_L z :: rest) h n := by
  refine go_callS (M' := m_pn_characterOf) (d := rd_pn_characterOf) (w := rw_pn_characterOf) (mc := 0) (ms := 0) (as := [mv_L z, mv_I (i : Int)]) (rest := rest) (q := q) g_pn_characterOf s_pn_characterOf hlk hd hp rfl rfl hw hR (tp_chr hi) ?_
  rintro w h1 n1 ⟨rfl, rfl, rfl⟩ -
  exact go_u0 (k)

end TyChr
