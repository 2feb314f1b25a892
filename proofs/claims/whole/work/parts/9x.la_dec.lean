/-! the law's own methods: names and decode rows -/
abbrev y_la_work : MethodName := ⟨"PromotedNumbersLaw", "work", "(LPromotedNumbers;[J)I"⟩
abbrev m_la_work : go_M := (y_la_work, method_3_code, 3, some .int)
abbrev hh_la_work : List (Nat × Nat × Nat × Nat) := [(0, 8, 11, 13), (0, 8, 14, 15), (0, 8, 17, 17), (0, 8, 20, 19)]
theorem cw_la_work : Cond.codeWith m_la_work.1 m_la_work.2.1 m_la_work.2.2.1 m_la_work.2.2.2 hh_la_work ∈ go_T := by decide +kernel
theorem s_la_work : Cond.static m_la_work.1 ∈ go_T := by decide +kernel
abbrev y_la_keep : MethodName := ⟨"PromotedNumbersLaw", "keep", "(LPromotedNumbers;I[J)I"⟩
abbrev m_la_keep : go_M := (y_la_keep, method_4_code, 4, some .int)
abbrev hh_la_keep : List (Nat × Nat × Nat × Nat) := [(0, 9, 12, 25), (0, 9, 15, 13), (0, 9, 18, 15), (0, 9, 21, 17), (0, 9, 24, 19)]
theorem cw_la_keep : Cond.codeWith m_la_keep.1 m_la_keep.2.1 m_la_keep.2.2.1 m_la_keep.2.2.2 hh_la_keep ∈ go_T := by decide +kernel
theorem s_la_keep : Cond.static m_la_keep.1 ∈ go_T := by decide +kernel
abbrev y_la_against : MethodName := ⟨"PromotedNumbersLaw", "against", "(LPromotedNumbers;I[J)I"⟩
abbrev m_la_against : go_M := (y_la_against, method_5_code, 4, some .int)
abbrev hh_la_against : List (Nat × Nat × Nat × Nat) := [(0, 9, 12, 25)]
theorem cw_la_against : Cond.codeWith m_la_against.1 m_la_against.2.1 m_la_against.2.2.1 m_la_against.2.2.2 hh_la_against ∈ go_T := by decide +kernel
theorem s_la_against : Cond.static m_la_against.1 ∈ go_T := by decide +kernel
abbrev y_la_fetch : MethodName := ⟨"PromotedNumbersLaw", "fetch", "(LPromotedNumbers;I[J)I"⟩
abbrev m_la_fetch : go_M := (y_la_fetch, method_6_code, 4, some .int)
abbrev hh_la_fetch : List (Nat × Nat × Nat × Nat) := [(0, 9, 12, 25)]
theorem cw_la_fetch : Cond.codeWith m_la_fetch.1 m_la_fetch.2.1 m_la_fetch.2.2.1 m_la_fetch.2.2.2 hh_la_fetch ∈ go_T := by decide +kernel
theorem s_la_fetch : Cond.static m_la_fetch.1 ∈ go_T := by decide +kernel
theorem in_la : Cond.initialized "PromotedNumbersLaw" ∈ go_T := tw_1_0
abbrev m_la_law : go_M := (x, code, 7, ret)
theorem l_la_52 : Cond.methodLink "PromotedNumbersLaw" 52 y_la_work ∈ go_T := by decide +kernel
theorem l_la_61 : Cond.methodLink "PromotedNumbersLaw" 61 y_la_keep ∈ go_T := by decide +kernel
theorem l_la_83 : Cond.methodLink "PromotedNumbersLaw" 83 y_la_against ∈ go_T := by decide +kernel
theorem l_la_86 : Cond.methodLink "PromotedNumbersLaw" 86 y_la_fetch ∈ go_T := by decide +kernel
theorem k_la_7 : Cond.methodLink "PromotedNumbersLaw" 7 m_pn_work.1 ∈ go_T := by decide +kernel
theorem k_la_21 : Cond.methodLink "PromotedNumbersLaw" 21 m_pn_keep.1 ∈ go_T := by decide +kernel
theorem k_la_27 : Cond.methodLink "PromotedNumbersLaw" 27 m_pn_against.1 ∈ go_T := by decide +kernel
theorem k_la_30 : Cond.methodLink "PromotedNumbersLaw" 30 m_pn_fetch.1 ∈ go_T := by decide +kernel
theorem c_la_13 : Cond.classLink "PromotedNumbersLaw" 13 "java/lang/IllegalArgumentException" ∈ go_T := by decide +kernel
theorem c_la_15 : Cond.classLink "PromotedNumbersLaw" 15 "java/lang/UnsupportedOperationException" ∈ go_T := by decide +kernel
theorem c_la_17 : Cond.classLink "PromotedNumbersLaw" 17 "java/lang/ArithmeticException" ∈ go_T := by decide +kernel
theorem c_la_19 : Cond.classLink "PromotedNumbersLaw" 19 "java/lang/IllegalStateException" ∈ go_T := by decide +kernel
theorem c_la_25 : Cond.classLink "PromotedNumbersLaw" 25 "java/lang/IndexOutOfBoundsException" ∈ go_T := by decide +kernel
theorem d_la_work_0 : decode method_3_code 0 = .ok (.aload_n 1, 1) := by decide +kernel
theorem d_la_work_1 : decode method_3_code 1 = .ok (.iconst 0, 1) := by decide +kernel
theorem d_la_work_2 : decode method_3_code 2 = .ok (.aload_n 0, 1) := by decide +kernel
theorem d_la_work_3 : decode method_3_code 3 = .ok (.invokevirtual 7, 3) := by decide +kernel
theorem d_la_work_6 : decode method_3_code 6 = .ok (.i2l, 1) := by decide +kernel
theorem d_la_work_7 : decode method_3_code 7 = .ok (.lastore, 1) := by decide +kernel
theorem d_la_work_8 : decode method_3_code 8 = .ok (.goto 15, 3) := by decide +kernel
theorem d_la_work_11 : decode method_3_code 11 = .ok (.astore_n 2, 1) := by decide +kernel
theorem d_la_work_12 : decode method_3_code 12 = .ok (.iconst 1, 1) := by decide +kernel
theorem d_la_work_13 : decode method_3_code 13 = .ok (.ireturn, 1) := by decide +kernel
theorem d_la_work_14 : decode method_3_code 14 = .ok (.astore_n 2, 1) := by decide +kernel
theorem d_la_work_15 : decode method_3_code 15 = .ok (.iconst 2, 1) := by decide +kernel
theorem d_la_work_16 : decode method_3_code 16 = .ok (.ireturn, 1) := by decide +kernel
theorem d_la_work_17 : decode method_3_code 17 = .ok (.astore_n 2, 1) := by decide +kernel
theorem d_la_work_18 : decode method_3_code 18 = .ok (.iconst 3, 1) := by decide +kernel
theorem d_la_work_19 : decode method_3_code 19 = .ok (.ireturn, 1) := by decide +kernel
theorem d_la_work_20 : decode method_3_code 20 = .ok (.astore_n 2, 1) := by decide +kernel
theorem d_la_work_21 : decode method_3_code 21 = .ok (.iconst 4, 1) := by decide +kernel
theorem d_la_work_22 : decode method_3_code 22 = .ok (.ireturn, 1) := by decide +kernel
theorem d_la_work_23 : decode method_3_code 23 = .ok (.iconst 0, 1) := by decide +kernel
theorem d_la_work_24 : decode method_3_code 24 = .ok (.ireturn, 1) := by decide +kernel
theorem d_la_keep_0 : decode method_4_code 0 = .ok (.aload_n 2, 1) := by decide +kernel
theorem d_la_keep_1 : decode method_4_code 1 = .ok (.iconst 0, 1) := by decide +kernel
theorem d_la_keep_2 : decode method_4_code 2 = .ok (.aload_n 0, 1) := by decide +kernel
theorem d_la_keep_3 : decode method_4_code 3 = .ok (.iload_n 1, 1) := by decide +kernel
theorem d_la_keep_4 : decode method_4_code 4 = .ok (.invokevirtual 21, 3) := by decide +kernel
theorem d_la_keep_7 : decode method_4_code 7 = .ok (.i2l, 1) := by decide +kernel
theorem d_la_keep_8 : decode method_4_code 8 = .ok (.lastore, 1) := by decide +kernel
theorem d_la_keep_9 : decode method_4_code 9 = .ok (.goto 18, 3) := by decide +kernel
theorem d_la_keep_12 : decode method_4_code 12 = .ok (.astore_n 3, 1) := by decide +kernel
theorem d_la_keep_13 : decode method_4_code 13 = .ok (.iconst 1, 1) := by decide +kernel
theorem d_la_keep_14 : decode method_4_code 14 = .ok (.ireturn, 1) := by decide +kernel
theorem d_la_keep_15 : decode method_4_code 15 = .ok (.astore_n 3, 1) := by decide +kernel
theorem d_la_keep_16 : decode method_4_code 16 = .ok (.iconst 2, 1) := by decide +kernel
theorem d_la_keep_17 : decode method_4_code 17 = .ok (.ireturn, 1) := by decide +kernel
theorem d_la_keep_18 : decode method_4_code 18 = .ok (.astore_n 3, 1) := by decide +kernel
theorem d_la_keep_19 : decode method_4_code 19 = .ok (.iconst 3, 1) := by decide +kernel
theorem d_la_keep_20 : decode method_4_code 20 = .ok (.ireturn, 1) := by decide +kernel
theorem d_la_keep_21 : decode method_4_code 21 = .ok (.astore_n 3, 1) := by decide +kernel
theorem d_la_keep_22 : decode method_4_code 22 = .ok (.iconst 4, 1) := by decide +kernel
theorem d_la_keep_23 : decode method_4_code 23 = .ok (.ireturn, 1) := by decide +kernel
theorem d_la_keep_24 : decode method_4_code 24 = .ok (.astore_n 3, 1) := by decide +kernel
theorem d_la_keep_25 : decode method_4_code 25 = .ok (.iconst 5, 1) := by decide +kernel
theorem d_la_keep_26 : decode method_4_code 26 = .ok (.ireturn, 1) := by decide +kernel
theorem d_la_keep_27 : decode method_4_code 27 = .ok (.iconst 0, 1) := by decide +kernel
theorem d_la_keep_28 : decode method_4_code 28 = .ok (.ireturn, 1) := by decide +kernel
theorem d_la_against_0 : decode method_5_code 0 = .ok (.aload_n 2, 1) := by decide +kernel
theorem d_la_against_1 : decode method_5_code 1 = .ok (.iconst 0, 1) := by decide +kernel
theorem d_la_against_2 : decode method_5_code 2 = .ok (.aload_n 0, 1) := by decide +kernel
theorem d_la_against_3 : decode method_5_code 3 = .ok (.iload_n 1, 1) := by decide +kernel
theorem d_la_against_4 : decode method_5_code 4 = .ok (.invokevirtual 27, 3) := by decide +kernel
theorem d_la_against_7 : decode method_5_code 7 = .ok (.i2l, 1) := by decide +kernel
theorem d_la_against_8 : decode method_5_code 8 = .ok (.lastore, 1) := by decide +kernel
theorem d_la_against_9 : decode method_5_code 9 = .ok (.goto 6, 3) := by decide +kernel
theorem d_la_against_12 : decode method_5_code 12 = .ok (.astore_n 3, 1) := by decide +kernel
theorem d_la_against_13 : decode method_5_code 13 = .ok (.iconst 1, 1) := by decide +kernel
theorem d_la_against_14 : decode method_5_code 14 = .ok (.ireturn, 1) := by decide +kernel
theorem d_la_against_15 : decode method_5_code 15 = .ok (.iconst 0, 1) := by decide +kernel
theorem d_la_against_16 : decode method_5_code 16 = .ok (.ireturn, 1) := by decide +kernel
theorem d_la_fetch_0 : decode method_6_code 0 = .ok (.aload_n 2, 1) := by decide +kernel
theorem d_la_fetch_1 : decode method_6_code 1 = .ok (.iconst 0, 1) := by decide +kernel
theorem d_la_fetch_2 : decode method_6_code 2 = .ok (.aload_n 0, 1) := by decide +kernel
theorem d_la_fetch_3 : decode method_6_code 3 = .ok (.iload_n 1, 1) := by decide +kernel
theorem d_la_fetch_4 : decode method_6_code 4 = .ok (.invokevirtual 30, 3) := by decide +kernel
theorem d_la_fetch_7 : decode method_6_code 7 = .ok (.i2l, 1) := by decide +kernel
theorem d_la_fetch_8 : decode method_6_code 8 = .ok (.lastore, 1) := by decide +kernel
theorem d_la_fetch_9 : decode method_6_code 9 = .ok (.goto 6, 3) := by decide +kernel
theorem d_la_fetch_12 : decode method_6_code 12 = .ok (.astore_n 3, 1) := by decide +kernel
theorem d_la_fetch_13 : decode method_6_code 13 = .ok (.iconst 1, 1) := by decide +kernel
theorem d_la_fetch_14 : decode method_6_code 14 = .ok (.ireturn, 1) := by decide +kernel
theorem d_la_fetch_15 : decode method_6_code 15 = .ok (.iconst 0, 1) := by decide +kernel
theorem d_la_fetch_16 : decode method_6_code 16 = .ok (.ireturn, 1) := by decide +kernel
theorem d_la_law_0 : decode code 0 = .ok (.new 8, 3) := by decide +kernel
theorem d_la_law_3 : decode code 3 = .ok (.dup, 1) := by decide +kernel
theorem d_la_law_4 : decode code 4 = .ok (.invokespecial 33, 3) := by decide +kernel
theorem d_la_law_7 : decode code 7 = .ok (.astore_n 1, 1) := by decide +kernel
theorem d_la_law_8 : decode code 8 = .ok (.new 34, 3) := by decide +kernel
theorem d_la_law_11 : decode code 11 = .ok (.dup, 1) := by decide +kernel
theorem d_la_law_12 : decode code 12 = .ok (.invokespecial 36, 3) := by decide +kernel
theorem d_la_law_15 : decode code 15 = .ok (.astore_n 2, 1) := by decide +kernel
theorem d_la_law_16 : decode code 16 = .ok (.iconst 1, 1) := by decide +kernel
theorem d_la_law_17 : decode code 17 = .ok (.newarray .long, 2) := by decide +kernel
theorem d_la_law_19 : decode code 19 = .ok (.astore_n 3, 1) := by decide +kernel
theorem d_la_law_20 : decode code 20 = .ok (.iconst 0, 1) := by decide +kernel
theorem d_la_law_21 : decode code 21 = .ok (.istore 4, 2) := by decide +kernel
theorem d_la_law_23 : decode code 23 = .ok (.iload 4, 2) := by decide +kernel
theorem d_la_law_25 : decode code 25 = .ok (.aload_n 0, 1) := by decide +kernel
theorem d_la_law_26 : decode code 26 = .ok (.arraylength, 1) := by decide +kernel
theorem d_la_law_27 : decode code 27 = .ok (.iconst 3, 1) := by decide +kernel
theorem d_la_law_28 : decode code 28 = .ok (.isub, 1) := by decide +kernel
theorem d_la_law_29 : decode code 29 = .ok (.if_icmp .gt 456, 3) := by decide +kernel
theorem d_la_law_32 : decode code 32 = .ok (.aload_n 0, 1) := by decide +kernel
theorem d_la_law_33 : decode code 33 = .ok (.iload 4, 2) := by decide +kernel
theorem d_la_law_35 : decode code 35 = .ok (.iaload, 1) := by decide +kernel
theorem d_la_law_36 : decode code 36 = .ok (.bipush 15, 2) := by decide +kernel
theorem d_la_law_38 : decode code 38 = .ok (.iand, 1) := by decide +kernel
theorem d_la_law_39 : decode code 39 = .ok (.tableswitch 440 0 10 #[57, 114, 127, 140, 184, 240, 253, 266, 291, 328, 384], 57) := by decide +kernel
theorem d_la_law_96 : decode code 96 = .ok (.aload_n 1, 1) := by decide +kernel
theorem d_la_law_97 : decode code 97 = .ok (.aload_n 0, 1) := by decide +kernel
theorem d_la_law_98 : decode code 98 = .ok (.iload 4, 2) := by decide +kernel
theorem d_la_law_100 : decode code 100 = .ok (.iconst 1, 1) := by decide +kernel
theorem d_la_law_101 : decode code 101 = .ok (.iadd, 1) := by decide +kernel
theorem d_la_law_102 : decode code 102 = .ok (.iaload, 1) := by decide +kernel
theorem d_la_law_103 : decode code 103 = .ok (.i2l, 1) := by decide +kernel
theorem d_la_law_104 : decode code 104 = .ok (.bipush 32, 2) := by decide +kernel
theorem d_la_law_106 : decode code 106 = .ok (.lshl, 1) := by decide +kernel
theorem d_la_law_107 : decode code 107 = .ok (.aload_n 0, 1) := by decide +kernel
theorem d_la_law_108 : decode code 108 = .ok (.iload 4, 2) := by decide +kernel
theorem d_la_law_110 : decode code 110 = .ok (.iconst 2, 1) := by decide +kernel
theorem d_la_law_111 : decode code 111 = .ok (.iadd, 1) := by decide +kernel
theorem d_la_law_112 : decode code 112 = .ok (.iaload, 1) := by decide +kernel
theorem d_la_law_113 : decode code 113 = .ok (.i2l, 1) := by decide +kernel
theorem d_la_law_114 : decode code 114 = .ok (.ldc2_w 37, 3) := by decide +kernel
theorem d_la_law_117 : decode code 117 = .ok (.land, 1) := by decide +kernel
theorem d_la_law_118 : decode code 118 = .ok (.lor, 1) := by decide +kernel
theorem d_la_law_119 : decode code 119 = .ok (.invokevirtual 39, 3) := by decide +kernel
theorem d_la_law_122 : decode code 122 = .ok (.aload_n 2, 1) := by decide +kernel
theorem d_la_law_123 : decode code 123 = .ok (.aload_n 0, 1) := by decide +kernel
theorem d_la_law_124 : decode code 124 = .ok (.iload 4, 2) := by decide +kernel
theorem d_la_law_126 : decode code 126 = .ok (.iconst 1, 1) := by decide +kernel
theorem d_la_law_127 : decode code 127 = .ok (.iadd, 1) := by decide +kernel
theorem d_la_law_128 : decode code 128 = .ok (.iaload, 1) := by decide +kernel
theorem d_la_law_129 : decode code 129 = .ok (.i2l, 1) := by decide +kernel
theorem d_la_law_130 : decode code 130 = .ok (.bipush 32, 2) := by decide +kernel
theorem d_la_law_132 : decode code 132 = .ok (.lshl, 1) := by decide +kernel
theorem d_la_law_133 : decode code 133 = .ok (.aload_n 0, 1) := by decide +kernel
theorem d_la_law_134 : decode code 134 = .ok (.iload 4, 2) := by decide +kernel
theorem d_la_law_136 : decode code 136 = .ok (.iconst 2, 1) := by decide +kernel
theorem d_la_law_137 : decode code 137 = .ok (.iadd, 1) := by decide +kernel
theorem d_la_law_138 : decode code 138 = .ok (.iaload, 1) := by decide +kernel
theorem d_la_law_139 : decode code 139 = .ok (.i2l, 1) := by decide +kernel
theorem d_la_law_140 : decode code 140 = .ok (.ldc2_w 37, 3) := by decide +kernel
theorem d_la_law_143 : decode code 143 = .ok (.land, 1) := by decide +kernel
theorem d_la_law_144 : decode code 144 = .ok (.lor, 1) := by decide +kernel
theorem d_la_law_145 : decode code 145 = .ok (.invokevirtual 43, 3) := by decide +kernel
theorem d_la_law_148 : decode code 148 = .ok (.if_icmp .eq 331, 3) := by decide +kernel
theorem d_la_law_151 : decode code 151 = .ok (.iconst 0, 1) := by decide +kernel
theorem d_la_law_152 : decode code 152 = .ok (.ireturn, 1) := by decide +kernel
theorem d_la_law_153 : decode code 153 = .ok (.aload_n 1, 1) := by decide +kernel
theorem d_la_law_154 : decode code 154 = .ok (.invokevirtual 44, 3) := by decide +kernel
theorem d_la_law_157 : decode code 157 = .ok (.aload_n 2, 1) := by decide +kernel
theorem d_la_law_158 : decode code 158 = .ok (.invokevirtual 47, 3) := by decide +kernel
theorem d_la_law_161 : decode code 161 = .ok (.if_icmp .eq 318, 3) := by decide +kernel
theorem d_la_law_164 : decode code 164 = .ok (.iconst 0, 1) := by decide +kernel
theorem d_la_law_165 : decode code 165 = .ok (.ireturn, 1) := by decide +kernel
theorem d_la_law_166 : decode code 166 = .ok (.aload_n 1, 1) := by decide +kernel
theorem d_la_law_167 : decode code 167 = .ok (.invokevirtual 48, 3) := by decide +kernel
theorem d_la_law_170 : decode code 170 = .ok (.aload_n 2, 1) := by decide +kernel
theorem d_la_law_171 : decode code 171 = .ok (.invokevirtual 51, 3) := by decide +kernel
theorem d_la_law_174 : decode code 174 = .ok (.if_icmp .eq 305, 3) := by decide +kernel
theorem d_la_law_177 : decode code 177 = .ok (.iconst 0, 1) := by decide +kernel
theorem d_la_law_178 : decode code 178 = .ok (.ireturn, 1) := by decide +kernel
theorem d_la_law_179 : decode code 179 = .ok (.aload_n 1, 1) := by decide +kernel
theorem d_la_law_180 : decode code 180 = .ok (.aload_n 3, 1) := by decide +kernel
theorem d_la_law_181 : decode code 181 = .ok (.invokestatic 52, 3) := by decide +kernel
theorem d_la_law_184 : decode code 184 = .ok (.istore 5, 2) := by decide +kernel
theorem d_la_law_186 : decode code 186 = .ok (.aload_n 2, 1) := by decide +kernel
theorem d_la_law_187 : decode code 187 = .ok (.invokevirtual 57, 3) := by decide +kernel
theorem d_la_law_190 : decode code 190 = .ok (.istore 6, 2) := by decide +kernel
theorem d_la_law_192 : decode code 192 = .ok (.aload_n 2, 1) := by decide +kernel
theorem d_la_law_193 : decode code 193 = .ok (.invokevirtual 58, 3) := by decide +kernel
theorem d_la_law_196 : decode code 196 = .ok (.iload 5, 2) := by decide +kernel
theorem d_la_law_198 : decode code 198 = .ok (.if_icmp .eq 5, 3) := by decide +kernel
theorem d_la_law_201 : decode code 201 = .ok (.iconst 0, 1) := by decide +kernel
theorem d_la_law_202 : decode code 202 = .ok (.ireturn, 1) := by decide +kernel
theorem d_la_law_203 : decode code 203 = .ok (.iload 5, 2) := by decide +kernel
theorem d_la_law_205 : decode code 205 = .ok (.ifCond .ne 15, 3) := by decide +kernel
theorem d_la_law_208 : decode code 208 = .ok (.aload_n 3, 1) := by decide +kernel
theorem d_la_law_209 : decode code 209 = .ok (.iconst 0, 1) := by decide +kernel
theorem d_la_law_210 : decode code 210 = .ok (.laload, 1) := by decide +kernel
theorem d_la_law_211 : decode code 211 = .ok (.iload 6, 2) := by decide +kernel
theorem d_la_law_213 : decode code 213 = .ok (.i2l, 1) := by decide +kernel
theorem d_la_law_214 : decode code 214 = .ok (.lcmp, 1) := by decide +kernel
theorem d_la_law_215 : decode code 215 = .ok (.ifCond .eq 5, 3) := by decide +kernel
theorem d_la_law_218 : decode code 218 = .ok (.iconst 0, 1) := by decide +kernel
theorem d_la_law_219 : decode code 219 = .ok (.ireturn, 1) := by decide +kernel
theorem d_la_law_220 : decode code 220 = .ok (.goto 259, 3) := by decide +kernel
theorem d_la_law_223 : decode code 223 = .ok (.aload_n 1, 1) := by decide +kernel
theorem d_la_law_224 : decode code 224 = .ok (.aload_n 0, 1) := by decide +kernel
theorem d_la_law_225 : decode code 225 = .ok (.iload 4, 2) := by decide +kernel
theorem d_la_law_227 : decode code 227 = .ok (.iconst 1, 1) := by decide +kernel
theorem d_la_law_228 : decode code 228 = .ok (.iadd, 1) := by decide +kernel
theorem d_la_law_229 : decode code 229 = .ok (.iaload, 1) := by decide +kernel
theorem d_la_law_230 : decode code 230 = .ok (.aload_n 3, 1) := by decide +kernel
theorem d_la_law_231 : decode code 231 = .ok (.invokestatic 61, 3) := by decide +kernel
theorem d_la_law_234 : decode code 234 = .ok (.istore 5, 2) := by decide +kernel
theorem d_la_law_236 : decode code 236 = .ok (.aload_n 2, 1) := by decide +kernel
theorem d_la_law_237 : decode code 237 = .ok (.aload_n 0, 1) := by decide +kernel
theorem d_la_law_238 : decode code 238 = .ok (.iload 4, 2) := by decide +kernel
theorem d_la_law_240 : decode code 240 = .ok (.iconst 1, 1) := by decide +kernel
theorem d_la_law_241 : decode code 241 = .ok (.iadd, 1) := by decide +kernel
theorem d_la_law_242 : decode code 242 = .ok (.iaload, 1) := by decide +kernel
theorem d_la_law_243 : decode code 243 = .ok (.invokevirtual 64, 3) := by decide +kernel
theorem d_la_law_246 : decode code 246 = .ok (.istore 6, 2) := by decide +kernel
theorem d_la_law_248 : decode code 248 = .ok (.aload_n 2, 1) := by decide +kernel
theorem d_la_law_249 : decode code 249 = .ok (.invokevirtual 58, 3) := by decide +kernel
theorem d_la_law_252 : decode code 252 = .ok (.iload 5, 2) := by decide +kernel
theorem d_la_law_254 : decode code 254 = .ok (.if_icmp .eq 5, 3) := by decide +kernel
theorem d_la_law_257 : decode code 257 = .ok (.iconst 0, 1) := by decide +kernel
theorem d_la_law_258 : decode code 258 = .ok (.ireturn, 1) := by decide +kernel
theorem d_la_law_259 : decode code 259 = .ok (.iload 5, 2) := by decide +kernel
theorem d_la_law_261 : decode code 261 = .ok (.ifCond .ne 15, 3) := by decide +kernel
theorem d_la_law_264 : decode code 264 = .ok (.aload_n 3, 1) := by decide +kernel
theorem d_la_law_265 : decode code 265 = .ok (.iconst 0, 1) := by decide +kernel
theorem d_la_law_266 : decode code 266 = .ok (.laload, 1) := by decide +kernel
theorem d_la_law_267 : decode code 267 = .ok (.iload 6, 2) := by decide +kernel
theorem d_la_law_269 : decode code 269 = .ok (.i2l, 1) := by decide +kernel
theorem d_la_law_270 : decode code 270 = .ok (.lcmp, 1) := by decide +kernel
theorem d_la_law_271 : decode code 271 = .ok (.ifCond .eq 5, 3) := by decide +kernel
theorem d_la_law_274 : decode code 274 = .ok (.iconst 0, 1) := by decide +kernel
theorem d_la_law_275 : decode code 275 = .ok (.ireturn, 1) := by decide +kernel
theorem d_la_law_276 : decode code 276 = .ok (.goto 203, 3) := by decide +kernel
theorem d_la_law_279 : decode code 279 = .ok (.aload_n 1, 1) := by decide +kernel
theorem d_la_law_280 : decode code 280 = .ok (.invokevirtual 65, 3) := by decide +kernel
theorem d_la_law_283 : decode code 283 = .ok (.aload_n 2, 1) := by decide +kernel
theorem d_la_law_284 : decode code 284 = .ok (.invokevirtual 68, 3) := by decide +kernel
theorem d_la_law_287 : decode code 287 = .ok (.if_icmp .eq 192, 3) := by decide +kernel
theorem d_la_law_290 : decode code 290 = .ok (.iconst 0, 1) := by decide +kernel
theorem d_la_law_291 : decode code 291 = .ok (.ireturn, 1) := by decide +kernel
theorem d_la_law_292 : decode code 292 = .ok (.aload_n 1, 1) := by decide +kernel
theorem d_la_law_293 : decode code 293 = .ok (.invokevirtual 69, 3) := by decide +kernel
theorem d_la_law_296 : decode code 296 = .ok (.aload_n 2, 1) := by decide +kernel
theorem d_la_law_297 : decode code 297 = .ok (.invokevirtual 72, 3) := by decide +kernel
theorem d_la_law_300 : decode code 300 = .ok (.if_icmp .eq 179, 3) := by decide +kernel
theorem d_la_law_303 : decode code 303 = .ok (.iconst 0, 1) := by decide +kernel
theorem d_la_law_304 : decode code 304 = .ok (.ireturn, 1) := by decide +kernel
theorem d_la_law_305 : decode code 305 = .ok (.aload_n 1, 1) := by decide +kernel
theorem d_la_law_306 : decode code 306 = .ok (.aload_n 0, 1) := by decide +kernel
theorem d_la_law_307 : decode code 307 = .ok (.iload 4, 2) := by decide +kernel
theorem d_la_law_309 : decode code 309 = .ok (.iconst 1, 1) := by decide +kernel
theorem d_la_law_310 : decode code 310 = .ok (.iadd, 1) := by decide +kernel
theorem d_la_law_311 : decode code 311 = .ok (.iaload, 1) := by decide +kernel
theorem d_la_law_312 : decode code 312 = .ok (.invokevirtual 73, 3) := by decide +kernel
theorem d_la_law_315 : decode code 315 = .ok (.aload_n 2, 1) := by decide +kernel
theorem d_la_law_316 : decode code 316 = .ok (.aload_n 0, 1) := by decide +kernel
theorem d_la_law_317 : decode code 317 = .ok (.iload 4, 2) := by decide +kernel
theorem d_la_law_319 : decode code 319 = .ok (.iconst 1, 1) := by decide +kernel
theorem d_la_law_320 : decode code 320 = .ok (.iadd, 1) := by decide +kernel
theorem d_la_law_321 : decode code 321 = .ok (.iaload, 1) := by decide +kernel
theorem d_la_law_322 : decode code 322 = .ok (.invokevirtual 77, 3) := by decide +kernel
theorem d_la_law_325 : decode code 325 = .ok (.if_icmp .eq 154, 3) := by decide +kernel
theorem d_la_law_328 : decode code 328 = .ok (.iconst 0, 1) := by decide +kernel
theorem d_la_law_329 : decode code 329 = .ok (.ireturn, 1) := by decide +kernel
theorem d_la_law_330 : decode code 330 = .ok (.aload_n 1, 1) := by decide +kernel
theorem d_la_law_331 : decode code 331 = .ok (.aload_n 0, 1) := by decide +kernel
theorem d_la_law_332 : decode code 332 = .ok (.iload 4, 2) := by decide +kernel
theorem d_la_law_334 : decode code 334 = .ok (.iconst 1, 1) := by decide +kernel
theorem d_la_law_335 : decode code 335 = .ok (.iadd, 1) := by decide +kernel
theorem d_la_law_336 : decode code 336 = .ok (.iaload, 1) := by decide +kernel
theorem d_la_law_337 : decode code 337 = .ok (.aload_n 0, 1) := by decide +kernel
theorem d_la_law_338 : decode code 338 = .ok (.iload 4, 2) := by decide +kernel
theorem d_la_law_340 : decode code 340 = .ok (.iconst 2, 1) := by decide +kernel
theorem d_la_law_341 : decode code 341 = .ok (.iadd, 1) := by decide +kernel
theorem d_la_law_342 : decode code 342 = .ok (.iaload, 1) := by decide +kernel
theorem d_la_law_343 : decode code 343 = .ok (.invokevirtual 78, 3) := by decide +kernel
theorem d_la_law_346 : decode code 346 = .ok (.aload_n 2, 1) := by decide +kernel
theorem d_la_law_347 : decode code 347 = .ok (.aload_n 0, 1) := by decide +kernel
theorem d_la_law_348 : decode code 348 = .ok (.iload 4, 2) := by decide +kernel
theorem d_la_law_350 : decode code 350 = .ok (.iconst 1, 1) := by decide +kernel
theorem d_la_law_351 : decode code 351 = .ok (.iadd, 1) := by decide +kernel
theorem d_la_law_352 : decode code 352 = .ok (.iaload, 1) := by decide +kernel
theorem d_la_law_353 : decode code 353 = .ok (.aload_n 0, 1) := by decide +kernel
theorem d_la_law_354 : decode code 354 = .ok (.iload 4, 2) := by decide +kernel
theorem d_la_law_356 : decode code 356 = .ok (.iconst 2, 1) := by decide +kernel
theorem d_la_law_357 : decode code 357 = .ok (.iadd, 1) := by decide +kernel
theorem d_la_law_358 : decode code 358 = .ok (.iaload, 1) := by decide +kernel
theorem d_la_law_359 : decode code 359 = .ok (.invokevirtual 82, 3) := by decide +kernel
theorem d_la_law_362 : decode code 362 = .ok (.if_icmp .eq 117, 3) := by decide +kernel
theorem d_la_law_365 : decode code 365 = .ok (.iconst 0, 1) := by decide +kernel
theorem d_la_law_366 : decode code 366 = .ok (.ireturn, 1) := by decide +kernel
theorem d_la_law_367 : decode code 367 = .ok (.aload_n 1, 1) := by decide +kernel
theorem d_la_law_368 : decode code 368 = .ok (.aload_n 0, 1) := by decide +kernel
theorem d_la_law_369 : decode code 369 = .ok (.iload 4, 2) := by decide +kernel
theorem d_la_law_371 : decode code 371 = .ok (.iconst 1, 1) := by decide +kernel
theorem d_la_law_372 : decode code 372 = .ok (.iadd, 1) := by decide +kernel
theorem d_la_law_373 : decode code 373 = .ok (.iaload, 1) := by decide +kernel
theorem d_la_law_374 : decode code 374 = .ok (.aload_n 3, 1) := by decide +kernel
theorem d_la_law_375 : decode code 375 = .ok (.invokestatic 83, 3) := by decide +kernel
theorem d_la_law_378 : decode code 378 = .ok (.istore 5, 2) := by decide +kernel
theorem d_la_law_380 : decode code 380 = .ok (.aload_n 2, 1) := by decide +kernel
theorem d_la_law_381 : decode code 381 = .ok (.aload_n 0, 1) := by decide +kernel
theorem d_la_law_382 : decode code 382 = .ok (.iload 4, 2) := by decide +kernel
theorem d_la_law_384 : decode code 384 = .ok (.iconst 1, 1) := by decide +kernel
theorem d_la_law_385 : decode code 385 = .ok (.iadd, 1) := by decide +kernel
theorem d_la_law_386 : decode code 386 = .ok (.iaload, 1) := by decide +kernel
theorem d_la_law_387 : decode code 387 = .ok (.invokevirtual 85, 3) := by decide +kernel
theorem d_la_law_390 : decode code 390 = .ok (.istore 6, 2) := by decide +kernel
theorem d_la_law_392 : decode code 392 = .ok (.aload_n 2, 1) := by decide +kernel
theorem d_la_law_393 : decode code 393 = .ok (.invokevirtual 58, 3) := by decide +kernel
theorem d_la_law_396 : decode code 396 = .ok (.iload 5, 2) := by decide +kernel
theorem d_la_law_398 : decode code 398 = .ok (.if_icmp .eq 5, 3) := by decide +kernel
theorem d_la_law_401 : decode code 401 = .ok (.iconst 0, 1) := by decide +kernel
theorem d_la_law_402 : decode code 402 = .ok (.ireturn, 1) := by decide +kernel
theorem d_la_law_403 : decode code 403 = .ok (.iload 5, 2) := by decide +kernel
theorem d_la_law_405 : decode code 405 = .ok (.ifCond .ne 15, 3) := by decide +kernel
theorem d_la_law_408 : decode code 408 = .ok (.aload_n 3, 1) := by decide +kernel
theorem d_la_law_409 : decode code 409 = .ok (.iconst 0, 1) := by decide +kernel
theorem d_la_law_410 : decode code 410 = .ok (.laload, 1) := by decide +kernel
theorem d_la_law_411 : decode code 411 = .ok (.iload 6, 2) := by decide +kernel
theorem d_la_law_413 : decode code 413 = .ok (.i2l, 1) := by decide +kernel
theorem d_la_law_414 : decode code 414 = .ok (.lcmp, 1) := by decide +kernel
theorem d_la_law_415 : decode code 415 = .ok (.ifCond .eq 5, 3) := by decide +kernel
theorem d_la_law_418 : decode code 418 = .ok (.iconst 0, 1) := by decide +kernel
theorem d_la_law_419 : decode code 419 = .ok (.ireturn, 1) := by decide +kernel
theorem d_la_law_420 : decode code 420 = .ok (.goto 59, 3) := by decide +kernel
theorem d_la_law_423 : decode code 423 = .ok (.aload_n 1, 1) := by decide +kernel
theorem d_la_law_424 : decode code 424 = .ok (.aload_n 0, 1) := by decide +kernel
theorem d_la_law_425 : decode code 425 = .ok (.iload 4, 2) := by decide +kernel
theorem d_la_law_427 : decode code 427 = .ok (.iconst 1, 1) := by decide +kernel
theorem d_la_law_428 : decode code 428 = .ok (.iadd, 1) := by decide +kernel
theorem d_la_law_429 : decode code 429 = .ok (.iaload, 1) := by decide +kernel
theorem d_la_law_430 : decode code 430 = .ok (.aload_n 3, 1) := by decide +kernel
theorem d_la_law_431 : decode code 431 = .ok (.invokestatic 86, 3) := by decide +kernel
theorem d_la_law_434 : decode code 434 = .ok (.istore 5, 2) := by decide +kernel
theorem d_la_law_436 : decode code 436 = .ok (.aload_n 2, 1) := by decide +kernel
theorem d_la_law_437 : decode code 437 = .ok (.aload_n 0, 1) := by decide +kernel
theorem d_la_law_438 : decode code 438 = .ok (.iload 4, 2) := by decide +kernel
theorem d_la_law_440 : decode code 440 = .ok (.iconst 1, 1) := by decide +kernel
theorem d_la_law_441 : decode code 441 = .ok (.iadd, 1) := by decide +kernel
theorem d_la_law_442 : decode code 442 = .ok (.iaload, 1) := by decide +kernel
theorem d_la_law_443 : decode code 443 = .ok (.invokevirtual 88, 3) := by decide +kernel
theorem d_la_law_446 : decode code 446 = .ok (.istore 6, 2) := by decide +kernel
theorem d_la_law_448 : decode code 448 = .ok (.aload_n 2, 1) := by decide +kernel
theorem d_la_law_449 : decode code 449 = .ok (.invokevirtual 58, 3) := by decide +kernel
theorem d_la_law_452 : decode code 452 = .ok (.iload 5, 2) := by decide +kernel
theorem d_la_law_454 : decode code 454 = .ok (.if_icmp .eq 5, 3) := by decide +kernel
theorem d_la_law_457 : decode code 457 = .ok (.iconst 0, 1) := by decide +kernel
theorem d_la_law_458 : decode code 458 = .ok (.ireturn, 1) := by decide +kernel
theorem d_la_law_459 : decode code 459 = .ok (.iload 5, 2) := by decide +kernel
theorem d_la_law_461 : decode code 461 = .ok (.ifCond .ne 15, 3) := by decide +kernel
theorem d_la_law_464 : decode code 464 = .ok (.aload_n 3, 1) := by decide +kernel
theorem d_la_law_465 : decode code 465 = .ok (.iconst 0, 1) := by decide +kernel
theorem d_la_law_466 : decode code 466 = .ok (.laload, 1) := by decide +kernel
theorem d_la_law_467 : decode code 467 = .ok (.iload 6, 2) := by decide +kernel
theorem d_la_law_469 : decode code 469 = .ok (.i2l, 1) := by decide +kernel
theorem d_la_law_470 : decode code 470 = .ok (.lcmp, 1) := by decide +kernel
theorem d_la_law_471 : decode code 471 = .ok (.ifCond .eq 5, 3) := by decide +kernel
theorem d_la_law_474 : decode code 474 = .ok (.iconst 0, 1) := by decide +kernel
theorem d_la_law_475 : decode code 475 = .ok (.ireturn, 1) := by decide +kernel
theorem d_la_law_476 : decode code 476 = .ok (.goto 3, 3) := by decide +kernel
theorem d_la_law_479 : decode code 479 = .ok (.iinc 4 3, 3) := by decide +kernel
theorem d_la_law_482 : decode code 482 = .ok (.goto (-459), 3) := by decide +kernel
theorem d_la_law_485 : decode code 485 = .ok (.iconst 1, 1) := by decide +kernel
theorem d_la_law_486 : decode code 486 = .ok (.ireturn, 1) := by decide +kernel
