/-! String.indexOf of the operators' text, on the JDK's own bytes -/
theorem d_jcoder_0 : decode prog_20_method_152_code 0 = .ok (.getstatic 38, 3) := by decide +kernel
theorem d_jcoder_3 : decode prog_20_method_152_code 3 = .ok (.ifCond .eq 10, 3) := by decide +kernel
theorem d_jcoder_6 : decode prog_20_method_152_code 6 = .ok (.aload_n 0, 1) := by decide +kernel
theorem d_jcoder_7 : decode prog_20_method_152_code 7 = .ok (.getfield 15, 3) := by decide +kernel
theorem d_jcoder_10 : decode prog_20_method_152_code 10 = .ok (.goto 4, 3) := by decide +kernel
theorem d_jcoder_13 : decode prog_20_method_152_code 13 = .ok (.iconst 1, 1) := by decide +kernel
theorem d_jcoder_14 : decode prog_20_method_152_code 14 = .ok (.ireturn, 1) := by decide +kernel
theorem d_jlength_0 : decode prog_20_method_54_code 0 = .ok (.aload_n 0, 1) := by decide +kernel
theorem d_jlength_1 : decode prog_20_method_54_code 1 = .ok (.getfield 9, 3) := by decide +kernel
theorem d_jlength_4 : decode prog_20_method_54_code 4 = .ok (.arraylength, 1) := by decide +kernel
theorem d_jlength_5 : decode prog_20_method_54_code 5 = .ok (.aload_n 0, 1) := by decide +kernel
theorem d_jlength_6 : decode prog_20_method_54_code 6 = .ok (.invokevirtual 335, 3) := by decide +kernel
theorem d_jlength_9 : decode prog_20_method_54_code 9 = .ok (.ishr, 1) := by decide +kernel
theorem d_jlength_10 : decode prog_20_method_54_code 10 = .ok (.ireturn, 1) := by decide +kernel
theorem d_jisLatin1_0 : decode prog_20_method_154_code 0 = .ok (.getstatic 38, 3) := by decide +kernel
theorem d_jisLatin1_3 : decode prog_20_method_154_code 3 = .ok (.ifCond .eq 14, 3) := by decide +kernel
theorem d_jisLatin1_6 : decode prog_20_method_154_code 6 = .ok (.aload_n 0, 1) := by decide +kernel
theorem d_jisLatin1_7 : decode prog_20_method_154_code 7 = .ok (.getfield 15, 3) := by decide +kernel
theorem d_jisLatin1_10 : decode prog_20_method_154_code 10 = .ok (.ifCond .ne 7, 3) := by decide +kernel
theorem d_jisLatin1_13 : decode prog_20_method_154_code 13 = .ok (.iconst 1, 1) := by decide +kernel
theorem d_jisLatin1_14 : decode prog_20_method_154_code 14 = .ok (.goto 4, 3) := by decide +kernel
theorem d_jisLatin1_18 : decode prog_20_method_154_code 18 = .ok (.ireturn, 1) := by decide +kernel
theorem d_jio1_0 : decode prog_20_method_80_code 0 = .ok (.aload_n 0, 1) := by decide +kernel
theorem d_jio1_1 : decode prog_20_method_80_code 1 = .ok (.invokevirtual 492, 3) := by decide +kernel
theorem d_jio1_4 : decode prog_20_method_80_code 4 = .ok (.ifCond .eq 19, 3) := by decide +kernel
theorem d_jio1_7 : decode prog_20_method_80_code 7 = .ok (.aload_n 0, 1) := by decide +kernel
theorem d_jio1_8 : decode prog_20_method_80_code 8 = .ok (.getfield 9, 3) := by decide +kernel
theorem d_jio1_11 : decode prog_20_method_80_code 11 = .ok (.iload_n 1, 1) := by decide +kernel
theorem d_jio1_12 : decode prog_20_method_80_code 12 = .ok (.iload_n 2, 1) := by decide +kernel
theorem d_jio1_13 : decode prog_20_method_80_code 13 = .ok (.aload_n 0, 1) := by decide +kernel
theorem d_jio1_14 : decode prog_20_method_80_code 14 = .ok (.invokevirtual 505, 3) := by decide +kernel
theorem d_jio1_17 : decode prog_20_method_80_code 17 = .ok (.invokestatic 637, 3) := by decide +kernel
theorem d_jio1_20 : decode prog_20_method_80_code 20 = .ok (.goto 16, 3) := by decide +kernel
theorem d_jio1_36 : decode prog_20_method_80_code 36 = .ok (.ireturn, 1) := by decide +kernel
theorem d_jio0_0 : decode prog_20_method_79_code 0 = .ok (.aload_n 0, 1) := by decide +kernel
theorem d_jio0_1 : decode prog_20_method_79_code 1 = .ok (.iload_n 1, 1) := by decide +kernel
theorem d_jio0_2 : decode prog_20_method_79_code 2 = .ok (.iconst 0, 1) := by decide +kernel
theorem d_jio0_3 : decode prog_20_method_79_code 3 = .ok (.invokevirtual 633, 3) := by decide +kernel
theorem d_jio0_6 : decode prog_20_method_79_code 6 = .ok (.ireturn, 1) := by decide +kernel
theorem d_jsio_0 : decode prog_21_method_22_code 0 = .ok (.iload_n 1, 1) := by decide +kernel
theorem d_jsio_1 : decode prog_21_method_22_code 1 = .ok (.invokestatic 88, 3) := by decide +kernel
theorem d_jsio_4 : decode prog_21_method_22_code 4 = .ok (.ifCond .ne 5, 3) := by decide +kernel
theorem d_jsio_9 : decode prog_21_method_22_code 9 = .ok (.iload_n 2, 1) := by decide +kernel
theorem d_jsio_10 : decode prog_21_method_22_code 10 = .ok (.iconst 0, 1) := by decide +kernel
theorem d_jsio_11 : decode prog_21_method_22_code 11 = .ok (.invokestatic 92, 3) := by decide +kernel
theorem d_jsio_14 : decode prog_21_method_22_code 14 = .ok (.istore_n 2, 1) := by decide +kernel
theorem d_jsio_15 : decode prog_21_method_22_code 15 = .ok (.iload_n 3, 1) := by decide +kernel
theorem d_jsio_16 : decode prog_21_method_22_code 16 = .ok (.aload_n 0, 1) := by decide +kernel
theorem d_jsio_17 : decode prog_21_method_22_code 17 = .ok (.arraylength, 1) := by decide +kernel
theorem d_jsio_18 : decode prog_21_method_22_code 18 = .ok (.invokestatic 38, 3) := by decide +kernel
theorem d_jsio_21 : decode prog_21_method_22_code 21 = .ok (.istore_n 3, 1) := by decide +kernel
theorem d_jsio_22 : decode prog_21_method_22_code 22 = .ok (.iload_n 2, 1) := by decide +kernel
theorem d_jsio_23 : decode prog_21_method_22_code 23 = .ok (.iload_n 3, 1) := by decide +kernel
theorem d_jsio_24 : decode prog_21_method_22_code 24 = .ok (.if_icmp .lt 5, 3) := by decide +kernel
theorem d_jsio_29 : decode prog_21_method_22_code 29 = .ok (.aload_n 0, 1) := by decide +kernel
theorem d_jsio_30 : decode prog_21_method_22_code 30 = .ok (.iload_n 1, 1) := by decide +kernel
theorem d_jsio_31 : decode prog_21_method_22_code 31 = .ok (.iload_n 2, 1) := by decide +kernel
theorem d_jsio_32 : decode prog_21_method_22_code 32 = .ok (.iload_n 3, 1) := by decide +kernel
theorem d_jsio_33 : decode prog_21_method_22_code 33 = .ok (.invokestatic 95, 3) := by decide +kernel
theorem d_jsio_36 : decode prog_21_method_22_code 36 = .ok (.ireturn, 1) := by decide +kernel
theorem d_jcan_0 : decode prog_21_method_4_code 0 = .ok (.iload_n 0, 1) := by decide +kernel
theorem d_jcan_1 : decode prog_21_method_4_code 1 = .ok (.ifCond .lt 14, 3) := by decide +kernel
theorem d_jcan_4 : decode prog_21_method_4_code 4 = .ok (.iload_n 0, 1) := by decide +kernel
theorem d_jcan_5 : decode prog_21_method_4_code 5 = .ok (.sipush 255, 3) := by decide +kernel
theorem d_jcan_8 : decode prog_21_method_4_code 8 = .ok (.if_icmp .gt 7, 3) := by decide +kernel
theorem d_jcan_11 : decode prog_21_method_4_code 11 = .ok (.iconst 1, 1) := by decide +kernel
theorem d_jcan_12 : decode prog_21_method_4_code 12 = .ok (.goto 4, 3) := by decide +kernel
theorem d_jcan_16 : decode prog_21_method_4_code 16 = .ok (.ireturn, 1) := by decide +kernel
theorem d_jioc_0 : decode prog_21_method_23_code 0 = .ok (.iload_n 1, 1) := by decide +kernel
theorem d_jioc_1 : decode prog_21_method_23_code 1 = .ok (.i2b, 1) := by decide +kernel
theorem d_jioc_2 : decode prog_21_method_23_code 2 = .ok (.istore 4, 2) := by decide +kernel
theorem d_jioc_4 : decode prog_21_method_23_code 4 = .ok (.iload_n 2, 1) := by decide +kernel
theorem d_jioc_5 : decode prog_21_method_23_code 5 = .ok (.istore 5, 2) := by decide +kernel
theorem d_jioc_7 : decode prog_21_method_23_code 7 = .ok (.iload 5, 2) := by decide +kernel
theorem d_jioc_9 : decode prog_21_method_23_code 9 = .ok (.iload_n 3, 1) := by decide +kernel
theorem d_jioc_10 : decode prog_21_method_23_code 10 = .ok (.if_icmp .ge 21, 3) := by decide +kernel
theorem d_jioc_13 : decode prog_21_method_23_code 13 = .ok (.aload_n 0, 1) := by decide +kernel
theorem d_jioc_14 : decode prog_21_method_23_code 14 = .ok (.iload 5, 2) := by decide +kernel
theorem d_jioc_16 : decode prog_21_method_23_code 16 = .ok (.baload, 1) := by decide +kernel
theorem d_jioc_17 : decode prog_21_method_23_code 17 = .ok (.iload 4, 2) := by decide +kernel
theorem d_jioc_19 : decode prog_21_method_23_code 19 = .ok (.if_icmp .ne 6, 3) := by decide +kernel
theorem d_jioc_22 : decode prog_21_method_23_code 22 = .ok (.iload 5, 2) := by decide +kernel
theorem d_jioc_24 : decode prog_21_method_23_code 24 = .ok (.ireturn, 1) := by decide +kernel
theorem d_jioc_25 : decode prog_21_method_23_code 25 = .ok (.iinc 5 1, 3) := by decide +kernel
theorem d_jioc_28 : decode prog_21_method_23_code 28 = .ok (.goto (-21), 3) := by decide +kernel
theorem d_jioc_31 : decode prog_21_method_23_code 31 = .ok (.iconst (-1), 1) := by decide +kernel
theorem d_jioc_32 : decode prog_21_method_23_code 32 = .ok (.ireturn, 1) := by decide +kernel
abbrev m_jcoder : go_M := (⟨"java/lang/String", "coder", "()B"⟩, prog_20_method_152_code, 1, some .byte)
theorem g_jcoder : go_met m_jcoder 0 := ⟨tw_2_123, tw_1_10, by decide, by decide +kernel⟩
abbrev m_jlength : go_M := (⟨"java/lang/String", "length", "()I"⟩, prog_20_method_54_code, 1, some .int)
theorem g_jlength : go_met m_jlength 0 := ⟨tw_2_119, tw_1_10, by decide, by decide +kernel⟩
abbrev m_jsio : go_M := (⟨"java/lang/StringLatin1", "indexOf", "([BIII)I"⟩, prog_21_method_22_code, 4, some .int)
theorem g_jsio : go_met m_jsio 4 := ⟨tw_2_126, tw_1_11, by decide, by decide +kernel⟩
section JdkIdx
variable {φ : go_F} {l : Launch} {M : go_M} {R : Room} {u : Nat × Nat} {pc q n : Nat} {L : List (Option mv_V)} {st rest : List mv_V} {h : mv_H}
theorem go_i2b {a : Int} (hd : decode M.2.1 pc = .ok (.i2b, 1)) (hp : pc + 1 = q) (ha : (Int32.ofInt a).toInt8.toInt32 = Int32.ofInt a) (k : Go φ l M R u q L (mv_I a :: st) h n) : Go φ l M R u pc L (mv_I a :: st) h n := by
  subst hp
  exact go_pure (xs := [mv_I a]) (ys := [mv_I a]) (fun _ => go_okI) (fun p e s m args below meth c H locs Q ls zt ad rest _ _ hx hb k => lv_i2b hx hb hd ha k) k
theorem tj_coder : Fn l m_jcoder 0 0 0 0 [mv_X 2] h n (fun w h' n' => w = some (mv_I 0) ∧ n' = n ∧ h' = h) := by
  refine fn_of rfl (Nat.le_of_ble_eq_true rfl) rfl ?_
  refine go_getsC (q := 3) rfl d_jcoder_0 rfl ?_
  refine go_if_eq (t := 13) (q := 6) d_jcoder_3 (by decide) rfl (by decide) (fun c => absurd c (by decide)) (fun _ => ?_)
  refine go_aload_nX (q := 7) d_jcoder_6 rfl rfl rfl ?_
  refine go_getfS (q := 10) (Or.inr ⟨rfl, rfl⟩) rfl d_jcoder_7 rfl ?_
  refine go_goto (q := 14) d_jcoder_10 (by decide) ?_
  exact go_zret d_jcoder_14 rfl (by decide) go_le0 ⟨rfl, rfl, rfl⟩
theorem tj_length : Fn l m_jlength 1 20 0 0 [mv_X 2] h n (fun w h' n' => w = some (mv_I 13) ∧ n' = n ∧ h' = h) := by
  refine fn_of rfl (Nat.le_of_ble_eq_true rfl) rfl ?_
  refine go_aload_nX (q := 1) d_jlength_0 rfl rfl rfl ?_
  refine go_getfS (q := 4) (Or.inl ⟨rfl, rfl⟩) rfl d_jlength_1 rfl ?_
  refine go_tlen (q := 5) d_jlength_4 rfl ?_
  refine go_aload_nX (q := 6) d_jlength_5 rfl rfl rfl ?_
  refine go_callX (M' := m_jcoder) (d := 0) (w := 0) (mc := 0) (ms := 0) (as := []) (rest := [mv_I 13]) (q := 9) rfl g_jcoder tw_2_121 tw_2_122 (Or.inl tw_2_120) d_jlength_6 rfl rfl rfl (by decide) ⟨by decide, by decide, by decide, by decide⟩ tj_coder ?_
  rintro v h1 n1 ⟨rfl, rfl, rfl⟩ -
  refine go_u0 (go_ishr (z := 13) (q := 10) d_jlength_9 rfl (by decide) ?_)
  exact go_iret d_jlength_10 rfl go_le0 ⟨rfl, rfl, rfl⟩
theorem tj_isLatin1 : Fn l m_jString_isLatin1 0 0 0 0 [mv_X 2] h n (fun w h' n' => w = some (mv_I 1) ∧ n' = n ∧ h' = h) := by
  refine fn_of rfl (Nat.le_of_ble_eq_true rfl) rfl ?_
  refine go_getsC (q := 3) rfl d_jisLatin1_0 rfl ?_
  refine go_if_eq (t := 17) (q := 6) d_jisLatin1_3 (by decide) rfl (by decide) (fun c => absurd c (by decide)) (fun _ => ?_)
  refine go_aload_nX (q := 7) d_jisLatin1_6 rfl rfl rfl ?_
  refine go_getfS (q := 10) (Or.inr ⟨rfl, rfl⟩) rfl d_jisLatin1_7 rfl ?_
  refine go_if_ne (t := 17) (q := 13) d_jisLatin1_10 (by decide) rfl (by decide) (fun c => absurd rfl c) (fun _ => ?_)
  refine go_iconst (q := 14) d_jisLatin1_13 rfl ?_
  refine go_goto (q := 18) d_jisLatin1_14 (by decide) ?_
  exact go_zret d_jisLatin1_18 rfl (by decide) go_le0 ⟨rfl, rfl, rfl⟩
theorem tj_can {c : Int} (hc : 0 ≤ c ∧ c ≤ 127) : Fn l m_jStringLatin1_canEncode 0 0 0 0 [mv_I c] h n (fun w h' n' => w = some (mv_I 1) ∧ n' = n ∧ h' = h) := by
  refine fn_of rfl (Nat.le_of_ble_eq_true rfl) rfl ?_
  refine go_iload_n (q := 1) d_jcan_0 rfl rfl rfl ?_
  refine go_if_lt (t := 15) (q := 4) d_jcan_1 (by decide) rfl (by omega) (fun z => absurd z (by omega)) (fun _ => ?_)
  refine go_iload_n (q := 5) d_jcan_4 rfl rfl rfl ?_
  refine go_sipush (q := 8) d_jcan_5 rfl (by decide) ?_
  refine go_icmp_gt (t := 15) (q := 11) d_jcan_8 (by decide) rfl (by omega) (by omega) (fun z => absurd z (by omega)) (fun _ => ?_)
  refine go_iconst (q := 12) d_jcan_11 rfl ?_
  refine go_goto (q := 16) d_jcan_12 (by decide) ?_
  exact go_zret d_jcan_16 rfl (by decide) go_le0 ⟨rfl, rfl, rfl⟩
/-- the place of the operator c, or -1 -/
def opx_ (c : Int) (i : Nat) : Nat → Int
  | 0 => -1
  | k + 1 => if cx_opsI i = c then (i : Int) else opx_ c (i + 1) k
theorem lp_ioc {c : Int} (hc : 0 ≤ c ∧ c ≤ 127) : ∀ (k i : Nat), i + k = 13 → (∀ z, z = opx_ c i k → Go φ l m_jStringLatin1_indexOfChar R u 24 [some (mv_X 3), some (mv_I c), some (mv_I 0), some (mv_I 13), some (mv_I c), some (mv_I z)] [mv_I z] h n) → (opx_ c i k = -1 → Go φ l m_jStringLatin1_indexOfChar R u 31 [some (mv_X 3), some (mv_I c), some (mv_I 0), some (mv_I 13), some (mv_I c), some (mv_I 13)] [] h n) →
    Go φ l m_jStringLatin1_indexOfChar R u 7 [some (mv_X 3), some (mv_I c), some (mv_I 0), some (mv_I 13), some (mv_I c), some (mv_I (i : Int))] [] h n := by
  intro k
  induction k with
  | zero =>
    intro i hi k1 k2
    refine go_iload (q := 9) d_jioc_7 rfl rfl ?_
    refine go_iload_n (q := 10) d_jioc_9 rfl rfl rfl ?_
    refine go_icmp_ge (t := 31) (q := 13) d_jioc_10 (by decide) rfl (by omega) (by omega) (fun _ => ?_) (fun z => absurd (by omega) z)
    have e : i = 13 := by omega
    subst e
    exact k2 rfl
  | succ k ih =>
    intro i hi k1 k2
    have hb : 0 ≤ cx_opsI i ∧ cx_opsI i ≤ 127 := (by decide : ∀ i, i < 13 → 0 ≤ cx_opsI i ∧ cx_opsI i ≤ 127) i (by omega)
    refine go_iload (q := 9) d_jioc_7 rfl rfl ?_
    refine go_iload_n (q := 10) d_jioc_9 rfl rfl rfl ?_
    refine go_icmp_ge (t := 31) (q := 13) d_jioc_10 (by decide) rfl (by omega) (by omega) (fun z => absurd z (by omega)) (fun _ => ?_)
    refine go_aload_nX (q := 14) d_jioc_13 rfl rfl rfl ?_
    refine go_iload (q := 16) d_jioc_14 rfl rfl ?_
    refine go_tbld (i := i) (q := 17) d_jioc_16 rfl rfl (by omega) ?_
    refine go_iload (q := 19) d_jioc_17 rfl rfl ?_
    refine go_icmp_ne (t := 25) (q := 22) d_jioc_19 (by decide) rfl (by omega) (by omega) (fun z => ?_) (fun z => ?_)
    · refine go_iinc (q := 28) (L' := [some (mv_X 3), some (mv_I c), some (mv_I 0), some (mv_I 13), some (mv_I c), some (mv_I ((i : Int) + 1))]) d_jioc_25 rfl (by decide) rfl rfl ?_
      refine go_goto (q := 7) d_jioc_28 (by decide) ?_
      have e : opx_ c i (k + 1) = opx_ c (i + 1) k := if_neg z
      rw [e] at k1 k2
      exact ih (i + 1) (by omega) k1 k2
    · refine go_iload (q := 24) d_jioc_22 rfl rfl ?_
      exact k1 _ (show (i : Int) = opx_ c i (k + 1) from (if_pos z).symm)
theorem tj_ioc {c : Int} (hc : 0 ≤ c ∧ c ≤ 127) : Fn l m_jStringLatin1_indexOfChar 0 0 0 0 [mv_X 3, mv_I c, mv_I 0, mv_I 13] h n (fun w h' n' => w = some (mv_I (opx_ c 0 13)) ∧ n' = n ∧ h' = h) := by
  refine fn_of rfl (Nat.le_of_ble_eq_true rfl) rfl ?_
  refine go_iload_n (q := 1) d_jioc_0 rfl rfl rfl ?_
  have hb : (Int32.ofInt c).toInt8.toInt32 = Int32.ofInt c := by
    obtain ⟨k, rfl⟩ := Int.eq_ofNat_of_zero_le hc.1
    exact (by decide +kernel : ∀ k : Nat, k < 128 → (Int32.ofInt (k : Int)).toInt8.toInt32 = Int32.ofInt (k : Int)) k (by omega)
  refine go_i2b (q := 2) d_jioc_1 rfl hb ?_
  refine go_istore (q := 4) (L' := [some (mv_X 3), some (mv_I c), some (mv_I 0), some (mv_I 13), some (mv_I c), none]) d_jioc_2 rfl (by decide) rfl ?_
  refine go_iload_n (q := 5) d_jioc_4 rfl rfl rfl ?_
  refine go_istore (q := 7) (L' := [some (mv_X 3), some (mv_I c), some (mv_I 0), some (mv_I 13), some (mv_I c), some (mv_I 0)]) d_jioc_5 rfl (by decide) rfl ?_
  refine lp_ioc hc 13 0 (by omega) (fun z hz => ?_) (fun hz => ?_)
  · exact go_iret d_jioc_24 rfl go_le0 ⟨by rw [hz], rfl, rfl⟩
  · refine go_iconst (q := 32) d_jioc_31 rfl ?_
    exact go_iret d_jioc_32 rfl go_le0 ⟨by rw [hz], rfl, rfl⟩
theorem tj_sio {c : Int} (hc : 0 ≤ c ∧ c ≤ 127) : Fn l m_jsio 1 25 0 0 [mv_X 3, mv_I c, mv_I 0, mv_I 13] h n (fun w h' n' => w = some (mv_I (opx_ c 0 13)) ∧ n' = n ∧ h' = h) := by
  refine fn_of rfl (Nat.le_of_ble_eq_true rfl) rfl ?_
  refine go_iload_n (q := 1) d_jsio_0 rfl rfl rfl ?_
  refine go_callS (M' := m_jStringLatin1_canEncode) (d := 0) (w := 0) (mc := 0) (ms := 0) (as := [mv_I c]) (rest := []) (q := 4) g_jStringLatin1_canEncode s_jStringLatin1_canEncode l_jStringLatin1_88 d_jsio_1 rfl rfl rfl (by decide) ⟨by decide, by decide, by decide, by decide⟩ (tj_can hc) ?_
  rintro v h1 n1 ⟨rfl, rfl, rfl⟩ -
  refine go_u0 (go_if_ne (t := 9) (q := 7) d_jsio_4 (by decide) rfl (by decide) (fun _ => ?_) (fun z => absurd z (by decide)))
  refine go_iload_n (q := 10) d_jsio_9 rfl rfl rfl ?_
  refine go_iconst (q := 11) d_jsio_10 rfl ?_
  refine go_mmax (q := 14) tw_2_130 tw_2_131 tw_1_12 tw_2_132 d_jsio_11 rfl (by decide) (by decide) ⟨by decide, by decide, by decide, by decide⟩ ?_
  refine go_istore_n (q := 15) (L' := [some (mv_X 3), some (mv_I c), some (mv_I 0), some (mv_I 13)]) d_jsio_14 rfl rfl (by decide) rfl ?_
  refine go_iload_n (q := 16) d_jsio_15 rfl rfl rfl ?_
  refine go_aload_nX (q := 17) d_jsio_16 rfl rfl rfl ?_
  refine go_tlen (q := 18) d_jsio_17 rfl ?_
  refine go_mmin (q := 21) tw_2_133 tw_2_134 tw_1_12 tw_2_135 d_jsio_18 rfl (by decide) (by decide) ⟨by decide, by decide, by decide, by decide⟩ ?_
  refine go_istore_n (q := 22) (L' := [some (mv_X 3), some (mv_I c), some (mv_I 0), some (mv_I 13)]) d_jsio_21 rfl rfl (by decide) rfl ?_
  refine go_iload_n (q := 23) d_jsio_22 rfl rfl rfl ?_
  refine go_iload_n (q := 24) d_jsio_23 rfl rfl rfl ?_
  refine go_icmp_lt (t := 29) (q := 27) d_jsio_24 (by decide) rfl (by decide) (by decide) (fun _ => ?_) (fun z => absurd (by decide) z)
  refine go_aload_nX (q := 30) d_jsio_29 rfl rfl rfl ?_
  refine go_iload_n (q := 31) d_jsio_30 rfl rfl rfl ?_
  refine go_iload_n (q := 32) d_jsio_31 rfl rfl rfl ?_
  refine go_iload_n (q := 33) d_jsio_32 rfl rfl rfl ?_
  refine go_callS (M' := m_jStringLatin1_indexOfChar) (d := 0) (w := 0) (mc := 0) (ms := 0) (as := [mv_X 3, mv_I c, mv_I 0, mv_I 13]) (rest := []) (q := 36) g_jStringLatin1_indexOfChar s_jStringLatin1_indexOfChar l_jStringLatin1_95 d_jsio_33 rfl rfl rfl (by decide) ⟨by decide, by decide, by decide, by decide⟩ (tj_ioc hc) ?_
  rintro v h2 n2 ⟨rfl, rfl, rfl⟩ -
  exact go_u0 (go_iret d_jsio_36 rfl go_le0 ⟨rfl, rfl, rfl⟩)
theorem tj_io1 {c : Int} (hc : 0 ≤ c ∧ c ≤ 127) : Fn l m_jString_indexOf1 2 48 0 0 [mv_X 2, mv_I c, mv_I 0] h n (fun w h' n' => w = some (mv_I (opx_ c 0 13)) ∧ n' = n ∧ h' = h) := by
  refine fn_of rfl (Nat.le_of_ble_eq_true rfl) rfl ?_
  refine go_aload_nX (q := 1) d_jio1_0 rfl rfl rfl ?_
  refine go_callX (M' := m_jString_isLatin1) (d := 0) (w := 0) (mc := 0) (ms := 0) (as := []) (rest := []) (q := 4) rfl g_jString_isLatin1 i_jString_isLatin1 v_jString_isLatin1 l_jString_492 d_jio1_1 rfl rfl rfl (by decide) ⟨by decide, by decide, by decide, by decide⟩ tj_isLatin1 ?_
  rintro v h1 n1 ⟨rfl, rfl, rfl⟩ -
  refine go_u0 (go_if_eq (t := 23) (q := 7) d_jio1_4 (by decide) rfl (by decide) (fun z => absurd z (by decide)) (fun _ => ?_))
  refine go_aload_nX (q := 8) d_jio1_7 rfl rfl rfl ?_
  refine go_getfS (q := 11) (Or.inl ⟨rfl, rfl⟩) rfl d_jio1_8 rfl ?_
  refine go_iload_n (q := 12) d_jio1_11 rfl rfl rfl ?_
  refine go_iload_n (q := 13) d_jio1_12 rfl rfl rfl ?_
  refine go_aload_nX (q := 14) d_jio1_13 rfl rfl rfl ?_
  refine go_callX (M' := m_jlength) (d := 1) (w := 20) (mc := 0) (ms := 0) (as := []) (rest := [mv_I 0, mv_I c, mv_X 3]) (q := 17) rfl g_jlength tw_2_117 tw_2_118 (Or.inl tw_2_116) d_jio1_14 rfl rfl rfl (Nat.le_of_ble_eq_true rfl) ⟨by decide, by decide, by decide, by decide⟩ tj_length ?_
  rintro v h2 n2 ⟨rfl, rfl, rfl⟩ -
  refine go_u0 (go_callS (M' := m_jsio) (d := 1) (w := 25) (mc := 0) (ms := 0) (as := [mv_X 3, mv_I c, mv_I 0, mv_I 13]) (rest := []) (q := 20) g_jsio tw_2_125 (Or.inl tw_2_124) d_jio1_17 rfl rfl rfl (by decide) ⟨by decide, by decide, by decide, by decide⟩ (tj_sio hc) ?_)
  rintro v h3 n3 ⟨rfl, rfl, rfl⟩ -
  refine go_u0 (go_goto (q := 36) d_jio1_20 (by decide) ?_)
  exact go_iret d_jio1_36 rfl go_le0 ⟨rfl, rfl, rfl⟩
theorem tj_io0 {c : Int} (hc : 0 ≤ c ∧ c ≤ 127) : Fn l m_jString_indexOf0 3 70 0 0 [mv_X 2, mv_I c] h n (fun w h' n' => w = some (mv_I (opx_ c 0 13)) ∧ n' = n ∧ h' = h) := by
  refine fn_of rfl (Nat.le_of_ble_eq_true rfl) rfl ?_
  refine go_aload_nX (q := 1) d_jio0_0 rfl rfl rfl ?_
  refine go_iload_n (q := 2) d_jio0_1 rfl rfl rfl ?_
  refine go_iconst (q := 3) d_jio0_2 rfl ?_
  refine go_callX (M' := m_jString_indexOf1) (d := 2) (w := 48) (mc := 0) (ms := 0) (as := [mv_I c, mv_I 0]) (rest := []) (q := 6) rfl g_jString_indexOf1 i_jString_indexOf1 v_jString_indexOf1 l_jString_633 d_jio0_3 rfl rfl rfl (by decide) ⟨by decide, by decide, by decide, by decide⟩ (tj_io1 hc) ?_
  rintro v h1 n1 ⟨rfl, rfl, rfl⟩ -
  exact go_u0 (go_iret d_jio0_6 rfl go_le0 ⟨rfl, rfl, rfl⟩)
end JdkIdx
