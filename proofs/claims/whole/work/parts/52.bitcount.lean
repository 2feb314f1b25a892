/-! Integer.bitCount of 2 ^ k - 1 -/
theorem d_bc_0 : decode b_jInteger_bitCount 0 = .ok (.iload_n 0, 1) := by decide +kernel
theorem d_bc_1 : decode b_jInteger_bitCount 1 = .ok (.iload_n 0, 1) := by decide +kernel
theorem d_bc_2 : decode b_jInteger_bitCount 2 = .ok (.iconst 1, 1) := by decide +kernel
theorem d_bc_3 : decode b_jInteger_bitCount 3 = .ok (.iushr, 1) := by decide +kernel
theorem d_bc_4 : decode b_jInteger_bitCount 4 = .ok (.ldc_w 265, 3) := by decide +kernel
theorem d_bc_7 : decode b_jInteger_bitCount 7 = .ok (.iand, 1) := by decide +kernel
theorem d_bc_8 : decode b_jInteger_bitCount 8 = .ok (.isub, 1) := by decide +kernel
theorem d_bc_9 : decode b_jInteger_bitCount 9 = .ok (.istore_n 0, 1) := by decide +kernel
theorem d_bc_10 : decode b_jInteger_bitCount 10 = .ok (.iload_n 0, 1) := by decide +kernel
theorem d_bc_11 : decode b_jInteger_bitCount 11 = .ok (.ldc_w 266, 3) := by decide +kernel
theorem d_bc_14 : decode b_jInteger_bitCount 14 = .ok (.iand, 1) := by decide +kernel
theorem d_bc_15 : decode b_jInteger_bitCount 15 = .ok (.iload_n 0, 1) := by decide +kernel
theorem d_bc_16 : decode b_jInteger_bitCount 16 = .ok (.iconst 2, 1) := by decide +kernel
theorem d_bc_17 : decode b_jInteger_bitCount 17 = .ok (.iushr, 1) := by decide +kernel
theorem d_bc_18 : decode b_jInteger_bitCount 18 = .ok (.ldc_w 266, 3) := by decide +kernel
theorem d_bc_21 : decode b_jInteger_bitCount 21 = .ok (.iand, 1) := by decide +kernel
theorem d_bc_22 : decode b_jInteger_bitCount 22 = .ok (.iadd, 1) := by decide +kernel
theorem d_bc_23 : decode b_jInteger_bitCount 23 = .ok (.istore_n 0, 1) := by decide +kernel
theorem d_bc_24 : decode b_jInteger_bitCount 24 = .ok (.iload_n 0, 1) := by decide +kernel
theorem d_bc_25 : decode b_jInteger_bitCount 25 = .ok (.iload_n 0, 1) := by decide +kernel
theorem d_bc_26 : decode b_jInteger_bitCount 26 = .ok (.iconst 4, 1) := by decide +kernel
theorem d_bc_27 : decode b_jInteger_bitCount 27 = .ok (.iushr, 1) := by decide +kernel
theorem d_bc_28 : decode b_jInteger_bitCount 28 = .ok (.iadd, 1) := by decide +kernel
theorem d_bc_29 : decode b_jInteger_bitCount 29 = .ok (.ldc_w 267, 3) := by decide +kernel
theorem d_bc_32 : decode b_jInteger_bitCount 32 = .ok (.iand, 1) := by decide +kernel
theorem d_bc_33 : decode b_jInteger_bitCount 33 = .ok (.istore_n 0, 1) := by decide +kernel
theorem d_bc_34 : decode b_jInteger_bitCount 34 = .ok (.iload_n 0, 1) := by decide +kernel
theorem d_bc_35 : decode b_jInteger_bitCount 35 = .ok (.iload_n 0, 1) := by decide +kernel
theorem d_bc_36 : decode b_jInteger_bitCount 36 = .ok (.bipush 8, 2) := by decide +kernel
theorem d_bc_38 : decode b_jInteger_bitCount 38 = .ok (.iushr, 1) := by decide +kernel
theorem d_bc_39 : decode b_jInteger_bitCount 39 = .ok (.iadd, 1) := by decide +kernel
theorem d_bc_40 : decode b_jInteger_bitCount 40 = .ok (.istore_n 0, 1) := by decide +kernel
theorem d_bc_41 : decode b_jInteger_bitCount 41 = .ok (.iload_n 0, 1) := by decide +kernel
theorem d_bc_42 : decode b_jInteger_bitCount 42 = .ok (.iload_n 0, 1) := by decide +kernel
theorem d_bc_43 : decode b_jInteger_bitCount 43 = .ok (.bipush 16, 2) := by decide +kernel
theorem d_bc_45 : decode b_jInteger_bitCount 45 = .ok (.iushr, 1) := by decide +kernel
theorem d_bc_46 : decode b_jInteger_bitCount 46 = .ok (.iadd, 1) := by decide +kernel
theorem d_bc_47 : decode b_jInteger_bitCount 47 = .ok (.istore_n 0, 1) := by decide +kernel
theorem d_bc_48 : decode b_jInteger_bitCount 48 = .ok (.iload_n 0, 1) := by decide +kernel
theorem d_bc_49 : decode b_jInteger_bitCount 49 = .ok (.bipush 63, 2) := by decide +kernel
theorem d_bc_51 : decode b_jInteger_bitCount 51 = .ok (.iand, 1) := by decide +kernel
theorem d_bc_52 : decode b_jInteger_bitCount 52 = .ok (.ireturn, 1) := by decide +kernel
def bc_u (a k : Int) : Int := (((Int32.ofInt a).toUInt32 >>> ((Int32.ofInt k).toUInt32 &&& Int32.toUInt32 31)).toInt32).toInt
def bc_a (a b : Int) : Int := (Int32.ofInt a &&& Int32.ofInt b).toInt
def bc_1 (a : Int) : Int := a - bc_a (bc_u a 1) 1431655765
def bc_2 (a : Int) : Int := bc_a a 858993459 + bc_a (bc_u a 2) 858993459
def bc_3 (a : Int) : Int := bc_a (a + bc_u a 4) 252645135
def bc_4 (a : Int) : Int := a + bc_u a 8
def bc_5 (a : Int) : Int := a + bc_u a 16
def bc_ (a : Int) : Int := bc_a (bc_5 (bc_4 (bc_3 (bc_2 (bc_1 a))))) 63
theorem bc_pow : ∀ k : Nat, k < 31 → bc_ (((2 ^ k : Nat) : Int) - 1) = (k : Int) := by decide +kernel
theorem tm_bitCount {l : Launch} {a : Int} {h : mv_H} {n : Nat} : Fn l m_jInteger_bitCount 0 0 0 0 [mv_I a] h n (fun w h' n' => w = some (mv_I (bc_ a)) ∧ n' = n ∧ h' = h) := by
  refine fn_of rfl (Nat.le_of_ble_eq_true rfl) rfl ?_
  refine go_iload_n (q := 1) d_bc_0 rfl rfl rfl ?_
  refine go_iload_n (q := 2) d_bc_1 rfl rfl rfl ?_
  refine go_iconst (q := 3) d_bc_2 rfl ?_
  refine go_iushr (z := bc_u (a) 1) (q := 4) d_bc_3 rfl (Int32.ofInt_toInt _).symm ?_
  refine go_ldcw (z := 1431655765) (q := 7) d_bc_4 rfl tw_3_63 (by decide) ?_
  refine go_iand (z := bc_a (bc_u (a) 1) 1431655765) (q := 8) d_bc_7 rfl (Int32.ofInt_toInt _).symm ?_
  refine go_isub (q := 9) d_bc_8 rfl ?_
  refine go_istore_n (q := 10) (L' := [some (mv_I (bc_1 (a)))]) d_bc_9 rfl rfl (by decide) rfl ?_
  refine go_iload_n (q := 11) d_bc_10 rfl rfl rfl ?_
  refine go_ldcw (z := 858993459) (q := 14) d_bc_11 rfl tw_3_64 (by decide) ?_
  refine go_iand (z := bc_a (bc_1 (a)) 858993459) (q := 15) d_bc_14 rfl (Int32.ofInt_toInt _).symm ?_
  refine go_iload_n (q := 16) d_bc_15 rfl rfl rfl ?_
  refine go_iconst (q := 17) d_bc_16 rfl ?_
  refine go_iushr (z := bc_u (bc_1 (a)) 2) (q := 18) d_bc_17 rfl (Int32.ofInt_toInt _).symm ?_
  refine go_ldcw (z := 858993459) (q := 21) d_bc_18 rfl tw_3_64 (by decide) ?_
  refine go_iand (z := bc_a (bc_u (bc_1 (a)) 2) 858993459) (q := 22) d_bc_21 rfl (Int32.ofInt_toInt _).symm ?_
  refine go_iadd (q := 23) d_bc_22 rfl ?_
  refine go_istore_n (q := 24) (L' := [some (mv_I (bc_2 (bc_1 (a))))]) d_bc_23 rfl rfl (by decide) rfl ?_
  refine go_iload_n (q := 25) d_bc_24 rfl rfl rfl ?_
  refine go_iload_n (q := 26) d_bc_25 rfl rfl rfl ?_
  refine go_iconst (q := 27) d_bc_26 rfl ?_
  refine go_iushr (z := bc_u (bc_2 (bc_1 (a))) 4) (q := 28) d_bc_27 rfl (Int32.ofInt_toInt _).symm ?_
  refine go_iadd (q := 29) d_bc_28 rfl ?_
  refine go_ldcw (z := 252645135) (q := 32) d_bc_29 rfl tw_3_65 (by decide) ?_
  refine go_iand (z := bc_a ((bc_2 (bc_1 (a))) + (bc_u (bc_2 (bc_1 (a))) 4)) 252645135) (q := 33) d_bc_32 rfl (Int32.ofInt_toInt _).symm ?_
  refine go_istore_n (q := 34) (L' := [some (mv_I (bc_3 (bc_2 (bc_1 (a)))))]) d_bc_33 rfl rfl (by decide) rfl ?_
  refine go_iload_n (q := 35) d_bc_34 rfl rfl rfl ?_
  refine go_iload_n (q := 36) d_bc_35 rfl rfl rfl ?_
  refine go_bipush (q := 38) d_bc_36 rfl (by decide) ?_
  refine go_iushr (z := bc_u (bc_3 (bc_2 (bc_1 (a)))) 8) (q := 39) d_bc_38 rfl (Int32.ofInt_toInt _).symm ?_
  refine go_iadd (q := 40) d_bc_39 rfl ?_
  refine go_istore_n (q := 41) (L' := [some (mv_I (bc_4 (bc_3 (bc_2 (bc_1 (a))))))]) d_bc_40 rfl rfl (by decide) rfl ?_
  refine go_iload_n (q := 42) d_bc_41 rfl rfl rfl ?_
  refine go_iload_n (q := 43) d_bc_42 rfl rfl rfl ?_
  refine go_bipush (q := 45) d_bc_43 rfl (by decide) ?_
  refine go_iushr (z := bc_u (bc_4 (bc_3 (bc_2 (bc_1 (a))))) 16) (q := 46) d_bc_45 rfl (Int32.ofInt_toInt _).symm ?_
  refine go_iadd (q := 47) d_bc_46 rfl ?_
  refine go_istore_n (q := 48) (L' := [some (mv_I (bc_5 (bc_4 (bc_3 (bc_2 (bc_1 (a)))))))]) d_bc_47 rfl rfl (by decide) rfl ?_
  refine go_iload_n (q := 49) d_bc_48 rfl rfl rfl ?_
  refine go_bipush (q := 51) d_bc_49 rfl (by decide) ?_
  refine go_iand (z := bc_a (bc_5 (bc_4 (bc_3 (bc_2 (bc_1 (a)))))) 63) (q := 52) d_bc_51 rfl (Int32.ofInt_toInt _).symm ?_
  exact go_iret d_bc_52 rfl go_le0 ⟨rfl, rfl, rfl⟩
