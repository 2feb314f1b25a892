theorem d_ma_init_0 : decode b_ma_init 0 = .ok (.aload_n 0, 1) := by decide +kernel
theorem d_ma_init_1 : decode b_ma_init 1 = .ok (.invokespecial 3, 3) := by decide +kernel
theorem d_ma_init_4 : decode b_ma_init 4 = .ok (.aload_n 0, 1) := by decide +kernel
theorem d_ma_init_5 : decode b_ma_init 5 = .ok (.new 9, 3) := by decide +kernel
theorem d_ma_init_8 : decode b_ma_init 8 = .ok (.dup, 1) := by decide +kernel
theorem d_ma_init_9 : decode b_ma_init 9 = .ok (.invokespecial 11, 3) := by decide +kernel
theorem d_ma_init_12 : decode b_ma_init 12 = .ok (.putfield 12, 3) := by decide +kernel
theorem d_ma_init_15 : decode b_ma_init 15 = .ok (.aload_n 0, 1) := by decide +kernel
theorem d_ma_init_16 : decode b_ma_init 16 = .ok (.bipush 8, 2) := by decide +kernel
theorem d_ma_init_18 : decode b_ma_init 18 = .ok (.anewarray 18, 3) := by decide +kernel
theorem d_ma_init_21 : decode b_ma_init 21 = .ok (.putfield 20, 3) := by decide +kernel
theorem d_ma_init_24 : decode b_ma_init 24 = .ok (.aload_n 0, 1) := by decide +kernel
theorem d_ma_init_25 : decode b_ma_init 25 = .ok (.bipush 60, 2) := by decide +kernel
theorem d_ma_init_27 : decode b_ma_init 27 = .ok (.anewarray 18, 3) := by decide +kernel
theorem d_ma_init_30 : decode b_ma_init 30 = .ok (.putfield 24, 3) := by decide +kernel
theorem d_ma_init_33 : decode b_ma_init 33 = .ok (.aload_n 0, 1) := by decide +kernel
theorem d_ma_init_34 : decode b_ma_init 34 = .ok (.new 18, 3) := by decide +kernel
theorem d_ma_init_37 : decode b_ma_init 37 = .ok (.dup, 1) := by decide +kernel
theorem d_ma_init_38 : decode b_ma_init 38 = .ok (.invokespecial 27, 3) := by decide +kernel
theorem d_ma_init_41 : decode b_ma_init 41 = .ok (.putfield 28, 3) := by decide +kernel
theorem d_ma_init_44 : decode b_ma_init 44 = .ok (.aload_n 0, 1) := by decide +kernel
theorem d_ma_init_45 : decode b_ma_init 45 = .ok (.new 32, 3) := by decide +kernel
theorem d_ma_init_48 : decode b_ma_init 48 = .ok (.dup, 1) := by decide +kernel
theorem d_ma_init_49 : decode b_ma_init 49 = .ok (.bipush 18, 2) := by decide +kernel
theorem d_ma_init_51 : decode b_ma_init 51 = .ok (.invokespecial 34, 3) := by decide +kernel
theorem d_ma_init_54 : decode b_ma_init 54 = .ok (.putfield 37, 3) := by decide +kernel
theorem d_ma_init_57 : decode b_ma_init 57 = .ok (.aload_n 0, 1) := by decide +kernel
theorem d_ma_init_58 : decode b_ma_init 58 = .ok (.bipush 12, 2) := by decide +kernel
theorem d_ma_init_60 : decode b_ma_init 60 = .ok (.newarray .char, 2) := by decide +kernel
theorem d_ma_init_62 : decode b_ma_init 62 = .ok (.putfield 41, 3) := by decide +kernel
theorem d_ma_init_65 : decode b_ma_init 65 = .ok (.aload_n 0, 1) := by decide +kernel
theorem d_ma_init_66 : decode b_ma_init 66 = .ok (.bipush 12, 2) := by decide +kernel
theorem d_ma_init_68 : decode b_ma_init 68 = .ok (.newarray .int, 2) := by decide +kernel
theorem d_ma_init_70 : decode b_ma_init 70 = .ok (.putfield 45, 3) := by decide +kernel
theorem d_ma_init_73 : decode b_ma_init 73 = .ok (.aload_n 0, 1) := by decide +kernel
theorem d_ma_init_74 : decode b_ma_init 74 = .ok (.bipush 12, 2) := by decide +kernel
theorem d_ma_init_76 : decode b_ma_init 76 = .ok (.newarray .int, 2) := by decide +kernel
theorem d_ma_init_78 : decode b_ma_init 78 = .ok (.putfield 49, 3) := by decide +kernel
theorem d_ma_init_81 : decode b_ma_init 81 = .ok (.iconst 0, 1) := by decide +kernel
theorem d_ma_init_82 : decode b_ma_init 82 = .ok (.istore_n 1, 1) := by decide +kernel
theorem d_ma_init_83 : decode b_ma_init 83 = .ok (.iload_n 1, 1) := by decide +kernel
theorem d_ma_init_84 : decode b_ma_init 84 = .ok (.bipush 8, 2) := by decide +kernel
theorem d_ma_init_86 : decode b_ma_init 86 = .ok (.if_icmp .ge 22, 3) := by decide +kernel
theorem d_ma_init_89 : decode b_ma_init 89 = .ok (.aload_n 0, 1) := by decide +kernel
theorem d_ma_init_90 : decode b_ma_init 90 = .ok (.getfield 20, 3) := by decide +kernel
theorem d_ma_init_93 : decode b_ma_init 93 = .ok (.iload_n 1, 1) := by decide +kernel
theorem d_ma_init_94 : decode b_ma_init 94 = .ok (.new 18, 3) := by decide +kernel
theorem d_ma_init_97 : decode b_ma_init 97 = .ok (.dup, 1) := by decide +kernel
theorem d_ma_init_98 : decode b_ma_init 98 = .ok (.invokespecial 27, 3) := by decide +kernel
theorem d_ma_init_101 : decode b_ma_init 101 = .ok (.aastore, 1) := by decide +kernel
theorem d_ma_init_102 : decode b_ma_init 102 = .ok (.iinc 1 1, 3) := by decide +kernel
theorem d_ma_init_105 : decode b_ma_init 105 = .ok (.goto (-22), 3) := by decide +kernel
theorem d_ma_init_108 : decode b_ma_init 108 = .ok (.iconst 0, 1) := by decide +kernel
theorem d_ma_init_109 : decode b_ma_init 109 = .ok (.istore_n 1, 1) := by decide +kernel
theorem d_ma_init_110 : decode b_ma_init 110 = .ok (.iload_n 1, 1) := by decide +kernel
theorem d_ma_init_111 : decode b_ma_init 111 = .ok (.bipush 60, 2) := by decide +kernel
theorem d_ma_init_113 : decode b_ma_init 113 = .ok (.if_icmp .ge 22, 3) := by decide +kernel
theorem d_ma_init_116 : decode b_ma_init 116 = .ok (.aload_n 0, 1) := by decide +kernel
theorem d_ma_init_117 : decode b_ma_init 117 = .ok (.getfield 24, 3) := by decide +kernel
theorem d_ma_init_120 : decode b_ma_init 120 = .ok (.iload_n 1, 1) := by decide +kernel
theorem d_ma_init_121 : decode b_ma_init 121 = .ok (.new 18, 3) := by decide +kernel
theorem d_ma_init_124 : decode b_ma_init 124 = .ok (.dup, 1) := by decide +kernel
theorem d_ma_init_125 : decode b_ma_init 125 = .ok (.invokespecial 27, 3) := by decide +kernel
theorem d_ma_init_128 : decode b_ma_init 128 = .ok (.aastore, 1) := by decide +kernel
theorem d_ma_init_129 : decode b_ma_init 129 = .ok (.iinc 1 1, 3) := by decide +kernel
theorem d_ma_init_132 : decode b_ma_init 132 = .ok (.goto (-22), 3) := by decide +kernel
theorem d_ma_init_135 : decode b_ma_init 135 = .ok (.return_, 1) := by decide +kernel
theorem d_ma_value_0 : decode b_ma_value 0 = .ok (.aload_n 0, 1) := by decide +kernel
theorem d_ma_value_1 : decode b_ma_value 1 = .ok (.getfield 24, 3) := by decide +kernel
theorem d_ma_value_4 : decode b_ma_value 4 = .ok (.iconst 0, 1) := by decide +kernel
theorem d_ma_value_5 : decode b_ma_value 5 = .ok (.aaload, 1) := by decide +kernel
theorem d_ma_value_6 : decode b_ma_value 6 = .ok (.areturn, 1) := by decide +kernel
theorem d_ma_workOut_0 : decode b_ma_workOut 0 = .ok (.aload_n 0, 1) := by decide +kernel
theorem d_ma_workOut_1 : decode b_ma_workOut 1 = .ok (.iconst 0, 1) := by decide +kernel
theorem d_ma_workOut_2 : decode b_ma_workOut 2 = .ok (.putfield 52, 3) := by decide +kernel
theorem d_ma_workOut_5 : decode b_ma_workOut 5 = .ok (.aload_n 0, 1) := by decide +kernel
theorem d_ma_workOut_6 : decode b_ma_workOut 6 = .ok (.iconst 0, 1) := by decide +kernel
theorem d_ma_workOut_7 : decode b_ma_workOut 7 = .ok (.putfield 56, 3) := by decide +kernel
theorem d_ma_workOut_10 : decode b_ma_workOut 10 = .ok (.iconst 0, 1) := by decide +kernel
theorem d_ma_workOut_11 : decode b_ma_workOut 11 = .ok (.istore_n 3, 1) := by decide +kernel
theorem d_ma_workOut_12 : decode b_ma_workOut 12 = .ok (.iconst 0, 1) := by decide +kernel
theorem d_ma_workOut_13 : decode b_ma_workOut 13 = .ok (.istore 4, 2) := by decide +kernel
theorem d_ma_workOut_15 : decode b_ma_workOut 15 = .ok (.iconst 0, 1) := by decide +kernel
theorem d_ma_workOut_16 : decode b_ma_workOut 16 = .ok (.istore 5, 2) := by decide +kernel
theorem d_ma_workOut_18 : decode b_ma_workOut 18 = .ok (.iload 5, 2) := by decide +kernel
theorem d_ma_workOut_20 : decode b_ma_workOut 20 = .ok (.iload_n 2, 1) := by decide +kernel
theorem d_ma_workOut_21 : decode b_ma_workOut 21 = .ok (.if_icmp .ge 196, 3) := by decide +kernel
theorem d_ma_workOut_24 : decode b_ma_workOut 24 = .ok (.iload_n 3, 1) := by decide +kernel
theorem d_ma_workOut_25 : decode b_ma_workOut 25 = .ok (.ifCond .ne 192, 3) := by decide +kernel
theorem d_ma_workOut_28 : decode b_ma_workOut 28 = .ok (.aload_n 1, 1) := by decide +kernel
theorem d_ma_workOut_29 : decode b_ma_workOut 29 = .ok (.iload 5, 2) := by decide +kernel
theorem d_ma_workOut_31 : decode b_ma_workOut 31 = .ok (.caload, 1) := by decide +kernel
theorem d_ma_workOut_32 : decode b_ma_workOut 32 = .ok (.istore 6, 2) := by decide +kernel
theorem d_ma_workOut_34 : decode b_ma_workOut 34 = .ok (.iload 5, 2) := by decide +kernel
theorem d_ma_workOut_36 : decode b_ma_workOut 36 = .ok (.iload 4, 2) := by decide +kernel
theorem d_ma_workOut_38 : decode b_ma_workOut 38 = .ok (.if_icmp .ge 6, 3) := by decide +kernel
theorem d_ma_workOut_41 : decode b_ma_workOut 41 = .ok (.goto 170, 3) := by decide +kernel
theorem d_ma_workOut_44 : decode b_ma_workOut 44 = .ok (.iload 6, 2) := by decide +kernel
theorem d_ma_workOut_46 : decode b_ma_workOut 46 = .ok (.bipush 40, 2) := by decide +kernel
theorem d_ma_workOut_48 : decode b_ma_workOut 48 = .ok (.if_icmp .ne 22, 3) := by decide +kernel
theorem d_ma_workOut_51 : decode b_ma_workOut 51 = .ok (.aload_n 0, 1) := by decide +kernel
theorem d_ma_workOut_52 : decode b_ma_workOut 52 = .ok (.aload_n 1, 1) := by decide +kernel
theorem d_ma_workOut_53 : decode b_ma_workOut 53 = .ok (.iload 5, 2) := by decide +kernel
theorem d_ma_workOut_55 : decode b_ma_workOut 55 = .ok (.iconst 1, 1) := by decide +kernel
theorem d_ma_workOut_56 : decode b_ma_workOut 56 = .ok (.iadd, 1) := by decide +kernel
theorem d_ma_workOut_57 : decode b_ma_workOut 57 = .ok (.caload, 1) := by decide +kernel
theorem d_ma_workOut_58 : decode b_ma_workOut 58 = .ok (.invokevirtual 59, 3) := by decide +kernel
theorem d_ma_workOut_61 : decode b_ma_workOut 61 = .ok (.iload 5, 2) := by decide +kernel
theorem d_ma_workOut_63 : decode b_ma_workOut 63 = .ok (.iconst 2, 1) := by decide +kernel
theorem d_ma_workOut_64 : decode b_ma_workOut 64 = .ok (.iadd, 1) := by decide +kernel
theorem d_ma_workOut_65 : decode b_ma_workOut 65 = .ok (.istore 4, 2) := by decide +kernel
theorem d_ma_workOut_67 : decode b_ma_workOut 67 = .ok (.goto 144, 3) := by decide +kernel
theorem d_ma_workOut_70 : decode b_ma_workOut 70 = .ok (.iload 6, 2) := by decide +kernel
theorem d_ma_workOut_72 : decode b_ma_workOut 72 = .ok (.bipush 41, 2) := by decide +kernel
theorem d_ma_workOut_74 : decode b_ma_workOut 74 = .ok (.if_icmp .ne 38, 3) := by decide +kernel
theorem d_ma_workOut_77 : decode b_ma_workOut 77 = .ok (.aload_n 0, 1) := by decide +kernel
theorem d_ma_workOut_78 : decode b_ma_workOut 78 = .ok (.getfield 41, 3) := by decide +kernel
theorem d_ma_workOut_81 : decode b_ma_workOut 81 = .ok (.aload_n 0, 1) := by decide +kernel
theorem d_ma_workOut_82 : decode b_ma_workOut 82 = .ok (.getfield 52, 3) := by decide +kernel
theorem d_ma_workOut_85 : decode b_ma_workOut 85 = .ok (.iconst 1, 1) := by decide +kernel
theorem d_ma_workOut_86 : decode b_ma_workOut 86 = .ok (.isub, 1) := by decide +kernel
theorem d_ma_workOut_87 : decode b_ma_workOut 87 = .ok (.caload, 1) := by decide +kernel
theorem d_ma_workOut_88 : decode b_ma_workOut 88 = .ok (.bipush 94, 2) := by decide +kernel
theorem d_ma_workOut_90 : decode b_ma_workOut 90 = .ok (.if_icmp .ne 10, 3) := by decide +kernel
theorem d_ma_workOut_93 : decode b_ma_workOut 93 = .ok (.aload_n 0, 1) := by decide +kernel
theorem d_ma_workOut_94 : decode b_ma_workOut 94 = .ok (.invokevirtual 63, 3) := by decide +kernel
theorem d_ma_workOut_97 : decode b_ma_workOut 97 = .ok (.goto 7, 3) := by decide +kernel
theorem d_ma_workOut_100 : decode b_ma_workOut 100 = .ok (.aload_n 0, 1) := by decide +kernel
theorem d_ma_workOut_101 : decode b_ma_workOut 101 = .ok (.invokevirtual 67, 3) := by decide +kernel
theorem d_ma_workOut_104 : decode b_ma_workOut 104 = .ok (.istore_n 3, 1) := by decide +kernel
theorem d_ma_workOut_105 : decode b_ma_workOut 105 = .ok (.aload_n 0, 1) := by decide +kernel
theorem d_ma_workOut_106 : decode b_ma_workOut 106 = .ok (.invokevirtual 70, 3) := by decide +kernel
theorem d_ma_workOut_109 : decode b_ma_workOut 109 = .ok (.goto 102, 3) := by decide +kernel
theorem d_ma_workOut_112 : decode b_ma_workOut 112 = .ok (.iload 6, 2) := by decide +kernel
theorem d_ma_workOut_114 : decode b_ma_workOut 114 = .ok (.bipush 32, 2) := by decide +kernel
theorem d_ma_workOut_116 : decode b_ma_workOut 116 = .ok (.if_icmp .ne 32, 3) := by decide +kernel
theorem d_ma_workOut_119 : decode b_ma_workOut 119 = .ok (.aload_n 0, 1) := by decide +kernel
theorem d_ma_workOut_120 : decode b_ma_workOut 120 = .ok (.invokevirtual 73, 3) := by decide +kernel
theorem d_ma_workOut_123 : decode b_ma_workOut 123 = .ok (.ifCond .eq 16, 3) := by decide +kernel
theorem d_ma_workOut_126 : decode b_ma_workOut 126 = .ok (.aload_n 0, 1) := by decide +kernel
theorem d_ma_workOut_127 : decode b_ma_workOut 127 = .ok (.aload_n 1, 1) := by decide +kernel
theorem d_ma_workOut_128 : decode b_ma_workOut 128 = .ok (.iload 5, 2) := by decide +kernel
theorem d_ma_workOut_130 : decode b_ma_workOut 130 = .ok (.iconst 1, 1) := by decide +kernel
theorem d_ma_workOut_131 : decode b_ma_workOut 131 = .ok (.iadd, 1) := by decide +kernel
theorem d_ma_workOut_132 : decode b_ma_workOut 132 = .ok (.iload_n 2, 1) := by decide +kernel
theorem d_ma_workOut_133 : decode b_ma_workOut 133 = .ok (.invokevirtual 77, 3) := by decide +kernel
theorem d_ma_workOut_136 : decode b_ma_workOut 136 = .ok (.goto 7, 3) := by decide +kernel
theorem d_ma_workOut_139 : decode b_ma_workOut 139 = .ok (.iload 5, 2) := by decide +kernel
theorem d_ma_workOut_141 : decode b_ma_workOut 141 = .ok (.iconst 1, 1) := by decide +kernel
theorem d_ma_workOut_142 : decode b_ma_workOut 142 = .ok (.iadd, 1) := by decide +kernel
theorem d_ma_workOut_143 : decode b_ma_workOut 143 = .ok (.istore 4, 2) := by decide +kernel
theorem d_ma_workOut_145 : decode b_ma_workOut 145 = .ok (.goto 66, 3) := by decide +kernel
theorem d_ma_workOut_148 : decode b_ma_workOut 148 = .ok (.iload 6, 2) := by decide +kernel
theorem d_ma_workOut_150 : decode b_ma_workOut 150 = .ok (.invokestatic 81, 3) := by decide +kernel
theorem d_ma_workOut_153 : decode b_ma_workOut 153 = .ok (.ifCond .eq 38, 3) := by decide +kernel
theorem d_ma_workOut_156 : decode b_ma_workOut 156 = .ok (.aload_n 0, 1) := by decide +kernel
theorem d_ma_workOut_157 : decode b_ma_workOut 157 = .ok (.getfield 24, 3) := by decide +kernel
theorem d_ma_workOut_160 : decode b_ma_workOut 160 = .ok (.aload_n 0, 1) := by decide +kernel
theorem d_ma_workOut_161 : decode b_ma_workOut 161 = .ok (.getfield 56, 3) := by decide +kernel
theorem d_ma_workOut_164 : decode b_ma_workOut 164 = .ok (.aaload, 1) := by decide +kernel
theorem d_ma_workOut_165 : decode b_ma_workOut 165 = .ok (.aload_n 0, 1) := by decide +kernel
theorem d_ma_workOut_166 : decode b_ma_workOut 166 = .ok (.getfield 20, 3) := by decide +kernel
theorem d_ma_workOut_169 : decode b_ma_workOut 169 = .ok (.iload 6, 2) := by decide +kernel
theorem d_ma_workOut_171 : decode b_ma_workOut 171 = .ok (.bipush 97, 2) := by decide +kernel
theorem d_ma_workOut_173 : decode b_ma_workOut 173 = .ok (.isub, 1) := by decide +kernel
theorem d_ma_workOut_174 : decode b_ma_workOut 174 = .ok (.aaload, 1) := by decide +kernel
theorem d_ma_workOut_175 : decode b_ma_workOut 175 = .ok (.invokevirtual 85, 3) := by decide +kernel
theorem d_ma_workOut_178 : decode b_ma_workOut 178 = .ok (.aload_n 0, 1) := by decide +kernel
theorem d_ma_workOut_179 : decode b_ma_workOut 179 = .ok (.dup, 1) := by decide +kernel
theorem d_ma_workOut_180 : decode b_ma_workOut 180 = .ok (.getfield 56, 3) := by decide +kernel
theorem d_ma_workOut_183 : decode b_ma_workOut 183 = .ok (.iconst 1, 1) := by decide +kernel
theorem d_ma_workOut_184 : decode b_ma_workOut 184 = .ok (.iadd, 1) := by decide +kernel
theorem d_ma_workOut_185 : decode b_ma_workOut 185 = .ok (.putfield 56, 3) := by decide +kernel
theorem d_ma_workOut_188 : decode b_ma_workOut 188 = .ok (.goto 23, 3) := by decide +kernel
theorem d_ma_workOut_191 : decode b_ma_workOut 191 = .ok (.aload_n 0, 1) := by decide +kernel
theorem d_ma_workOut_192 : decode b_ma_workOut 192 = .ok (.aload_n 1, 1) := by decide +kernel
theorem d_ma_workOut_193 : decode b_ma_workOut 193 = .ok (.iload 5, 2) := by decide +kernel
theorem d_ma_workOut_195 : decode b_ma_workOut 195 = .ok (.iload_n 2, 1) := by decide +kernel
theorem d_ma_workOut_196 : decode b_ma_workOut 196 = .ok (.invokevirtual 77, 3) := by decide +kernel
theorem d_ma_workOut_199 : decode b_ma_workOut 199 = .ok (.istore 4, 2) := by decide +kernel
theorem d_ma_workOut_201 : decode b_ma_workOut 201 = .ok (.aload_n 0, 1) := by decide +kernel
theorem d_ma_workOut_202 : decode b_ma_workOut 202 = .ok (.aload_n 1, 1) := by decide +kernel
theorem d_ma_workOut_203 : decode b_ma_workOut 203 = .ok (.iload 5, 2) := by decide +kernel
theorem d_ma_workOut_205 : decode b_ma_workOut 205 = .ok (.iload 4, 2) := by decide +kernel
theorem d_ma_workOut_207 : decode b_ma_workOut 207 = .ok (.invokevirtual 89, 3) := by decide +kernel
theorem d_ma_workOut_210 : decode b_ma_workOut 210 = .ok (.istore_n 3, 1) := by decide +kernel
theorem d_ma_workOut_211 : decode b_ma_workOut 211 = .ok (.iinc 5 1, 3) := by decide +kernel
theorem d_ma_workOut_214 : decode b_ma_workOut 214 = .ok (.goto (-196), 3) := by decide +kernel
theorem d_ma_workOut_217 : decode b_ma_workOut 217 = .ok (.iload_n 3, 1) := by decide +kernel
theorem d_ma_workOut_218 : decode b_ma_workOut 218 = .ok (.ireturn, 1) := by decide +kernel
theorem d_ma_openBracket_0 : decode b_ma_openBracket 0 = .ok (.aload_n 0, 1) := by decide +kernel
theorem d_ma_openBracket_1 : decode b_ma_openBracket 1 = .ok (.getfield 41, 3) := by decide +kernel
theorem d_ma_openBracket_4 : decode b_ma_openBracket 4 = .ok (.aload_n 0, 1) := by decide +kernel
theorem d_ma_openBracket_5 : decode b_ma_openBracket 5 = .ok (.getfield 52, 3) := by decide +kernel
theorem d_ma_openBracket_8 : decode b_ma_openBracket 8 = .ok (.iload_n 1, 1) := by decide +kernel
theorem d_ma_openBracket_9 : decode b_ma_openBracket 9 = .ok (.castore, 1) := by decide +kernel
theorem d_ma_openBracket_10 : decode b_ma_openBracket 10 = .ok (.aload_n 0, 1) := by decide +kernel
theorem d_ma_openBracket_11 : decode b_ma_openBracket 11 = .ok (.getfield 45, 3) := by decide +kernel
theorem d_ma_openBracket_14 : decode b_ma_openBracket 14 = .ok (.aload_n 0, 1) := by decide +kernel
theorem d_ma_openBracket_15 : decode b_ma_openBracket 15 = .ok (.getfield 52, 3) := by decide +kernel
theorem d_ma_openBracket_18 : decode b_ma_openBracket 18 = .ok (.aload_n 0, 1) := by decide +kernel
theorem d_ma_openBracket_19 : decode b_ma_openBracket 19 = .ok (.getfield 56, 3) := by decide +kernel
theorem d_ma_openBracket_22 : decode b_ma_openBracket 22 = .ok (.iastore, 1) := by decide +kernel
theorem d_ma_openBracket_23 : decode b_ma_openBracket 23 = .ok (.aload_n 0, 1) := by decide +kernel
theorem d_ma_openBracket_24 : decode b_ma_openBracket 24 = .ok (.getfield 49, 3) := by decide +kernel
theorem d_ma_openBracket_27 : decode b_ma_openBracket 27 = .ok (.aload_n 0, 1) := by decide +kernel
theorem d_ma_openBracket_28 : decode b_ma_openBracket 28 = .ok (.getfield 52, 3) := by decide +kernel
theorem d_ma_openBracket_31 : decode b_ma_openBracket 31 = .ok (.iconst 0, 1) := by decide +kernel
theorem d_ma_openBracket_32 : decode b_ma_openBracket 32 = .ok (.iastore, 1) := by decide +kernel
theorem d_ma_openBracket_33 : decode b_ma_openBracket 33 = .ok (.aload_n 0, 1) := by decide +kernel
theorem d_ma_openBracket_34 : decode b_ma_openBracket 34 = .ok (.dup, 1) := by decide +kernel
theorem d_ma_openBracket_35 : decode b_ma_openBracket 35 = .ok (.getfield 52, 3) := by decide +kernel
theorem d_ma_openBracket_38 : decode b_ma_openBracket 38 = .ok (.iconst 1, 1) := by decide +kernel
theorem d_ma_openBracket_39 : decode b_ma_openBracket 39 = .ok (.iadd, 1) := by decide +kernel
theorem d_ma_openBracket_40 : decode b_ma_openBracket 40 = .ok (.putfield 52, 3) := by decide +kernel
theorem d_ma_openBracket_43 : decode b_ma_openBracket 43 = .ok (.return_, 1) := by decide +kernel
theorem d_ma_closeBracket_0 : decode b_ma_closeBracket 0 = .ok (.aload_n 0, 1) := by decide +kernel
theorem d_ma_closeBracket_1 : decode b_ma_closeBracket 1 = .ok (.dup, 1) := by decide +kernel
theorem d_ma_closeBracket_2 : decode b_ma_closeBracket 2 = .ok (.getfield 52, 3) := by decide +kernel
theorem d_ma_closeBracket_5 : decode b_ma_closeBracket 5 = .ok (.iconst 1, 1) := by decide +kernel
theorem d_ma_closeBracket_6 : decode b_ma_closeBracket 6 = .ok (.isub, 1) := by decide +kernel
theorem d_ma_closeBracket_7 : decode b_ma_closeBracket 7 = .ok (.putfield 52, 3) := by decide +kernel
theorem d_ma_closeBracket_10 : decode b_ma_closeBracket 10 = .ok (.aload_n 0, 1) := by decide +kernel
theorem d_ma_closeBracket_11 : decode b_ma_closeBracket 11 = .ok (.getfield 24, 3) := by decide +kernel
theorem d_ma_closeBracket_14 : decode b_ma_closeBracket 14 = .ok (.aload_n 0, 1) := by decide +kernel
theorem d_ma_closeBracket_15 : decode b_ma_closeBracket 15 = .ok (.getfield 45, 3) := by decide +kernel
theorem d_ma_closeBracket_18 : decode b_ma_closeBracket 18 = .ok (.aload_n 0, 1) := by decide +kernel
theorem d_ma_closeBracket_19 : decode b_ma_closeBracket 19 = .ok (.getfield 52, 3) := by decide +kernel
theorem d_ma_closeBracket_22 : decode b_ma_closeBracket 22 = .ok (.iaload, 1) := by decide +kernel
theorem d_ma_closeBracket_23 : decode b_ma_closeBracket 23 = .ok (.aaload, 1) := by decide +kernel
theorem d_ma_closeBracket_24 : decode b_ma_closeBracket 24 = .ok (.aload_n 0, 1) := by decide +kernel
theorem d_ma_closeBracket_25 : decode b_ma_closeBracket 25 = .ok (.getfield 28, 3) := by decide +kernel
theorem d_ma_closeBracket_28 : decode b_ma_closeBracket 28 = .ok (.invokevirtual 85, 3) := by decide +kernel
theorem d_ma_closeBracket_31 : decode b_ma_closeBracket 31 = .ok (.aload_n 0, 1) := by decide +kernel
theorem d_ma_closeBracket_32 : decode b_ma_closeBracket 32 = .ok (.aload_n 0, 1) := by decide +kernel
theorem d_ma_closeBracket_33 : decode b_ma_closeBracket 33 = .ok (.getfield 45, 3) := by decide +kernel
theorem d_ma_closeBracket_36 : decode b_ma_closeBracket 36 = .ok (.aload_n 0, 1) := by decide +kernel
theorem d_ma_closeBracket_37 : decode b_ma_closeBracket 37 = .ok (.getfield 52, 3) := by decide +kernel
theorem d_ma_closeBracket_40 : decode b_ma_closeBracket 40 = .ok (.iaload, 1) := by decide +kernel
theorem d_ma_closeBracket_41 : decode b_ma_closeBracket 41 = .ok (.iconst 1, 1) := by decide +kernel
theorem d_ma_closeBracket_42 : decode b_ma_closeBracket 42 = .ok (.iadd, 1) := by decide +kernel
theorem d_ma_closeBracket_43 : decode b_ma_closeBracket 43 = .ok (.putfield 56, 3) := by decide +kernel
theorem d_ma_closeBracket_46 : decode b_ma_closeBracket 46 = .ok (.return_, 1) := by decide +kernel
theorem d_ma_skipsArgument_0 : decode b_ma_skipsArgument 0 = .ok (.aload_n 0, 1) := by decide +kernel
theorem d_ma_skipsArgument_1 : decode b_ma_skipsArgument 1 = .ok (.getfield 49, 3) := by decide +kernel
theorem d_ma_skipsArgument_4 : decode b_ma_skipsArgument 4 = .ok (.aload_n 0, 1) := by decide +kernel
theorem d_ma_skipsArgument_5 : decode b_ma_skipsArgument 5 = .ok (.getfield 52, 3) := by decide +kernel
theorem d_ma_skipsArgument_8 : decode b_ma_skipsArgument 8 = .ok (.iconst 1, 1) := by decide +kernel
theorem d_ma_skipsArgument_9 : decode b_ma_skipsArgument 9 = .ok (.isub, 1) := by decide +kernel
theorem d_ma_skipsArgument_10 : decode b_ma_skipsArgument 10 = .ok (.iaload, 1) := by decide +kernel
theorem d_ma_skipsArgument_11 : decode b_ma_skipsArgument 11 = .ok (.istore_n 1, 1) := by decide +kernel
theorem d_ma_skipsArgument_12 : decode b_ma_skipsArgument 12 = .ok (.aload_n 0, 1) := by decide +kernel
theorem d_ma_skipsArgument_13 : decode b_ma_skipsArgument 13 = .ok (.getfield 49, 3) := by decide +kernel
theorem d_ma_skipsArgument_16 : decode b_ma_skipsArgument 16 = .ok (.aload_n 0, 1) := by decide +kernel
theorem d_ma_skipsArgument_17 : decode b_ma_skipsArgument 17 = .ok (.getfield 52, 3) := by decide +kernel
theorem d_ma_skipsArgument_20 : decode b_ma_skipsArgument 20 = .ok (.iconst 1, 1) := by decide +kernel
theorem d_ma_skipsArgument_21 : decode b_ma_skipsArgument 21 = .ok (.isub, 1) := by decide +kernel
theorem d_ma_skipsArgument_22 : decode b_ma_skipsArgument 22 = .ok (.dup2, 1) := by decide +kernel
theorem d_ma_skipsArgument_23 : decode b_ma_skipsArgument 23 = .ok (.iaload, 1) := by decide +kernel
theorem d_ma_skipsArgument_24 : decode b_ma_skipsArgument 24 = .ok (.iconst 1, 1) := by decide +kernel
theorem d_ma_skipsArgument_25 : decode b_ma_skipsArgument 25 = .ok (.iadd, 1) := by decide +kernel
theorem d_ma_skipsArgument_26 : decode b_ma_skipsArgument 26 = .ok (.iastore, 1) := by decide +kernel
theorem d_ma_skipsArgument_27 : decode b_ma_skipsArgument 27 = .ok (.aload_n 0, 1) := by decide +kernel
theorem d_ma_skipsArgument_28 : decode b_ma_skipsArgument 28 = .ok (.getfield 41, 3) := by decide +kernel
theorem d_ma_skipsArgument_31 : decode b_ma_skipsArgument 31 = .ok (.aload_n 0, 1) := by decide +kernel
theorem d_ma_skipsArgument_32 : decode b_ma_skipsArgument 32 = .ok (.getfield 52, 3) := by decide +kernel
theorem d_ma_skipsArgument_35 : decode b_ma_skipsArgument 35 = .ok (.iconst 1, 1) := by decide +kernel
theorem d_ma_skipsArgument_36 : decode b_ma_skipsArgument 36 = .ok (.isub, 1) := by decide +kernel
theorem d_ma_skipsArgument_37 : decode b_ma_skipsArgument 37 = .ok (.caload, 1) := by decide +kernel
theorem d_ma_skipsArgument_38 : decode b_ma_skipsArgument 38 = .ok (.bipush 63, 2) := by decide +kernel
theorem d_ma_skipsArgument_40 : decode b_ma_skipsArgument 40 = .ok (.if_icmp .ne 7, 3) := by decide +kernel
theorem d_ma_skipsArgument_43 : decode b_ma_skipsArgument 43 = .ok (.iload_n 1, 1) := by decide +kernel
theorem d_ma_skipsArgument_44 : decode b_ma_skipsArgument 44 = .ok (.ifCond .ne 5, 3) := by decide +kernel
theorem d_ma_skipsArgument_47 : decode b_ma_skipsArgument 47 = .ok (.iconst 0, 1) := by decide +kernel
theorem d_ma_skipsArgument_48 : decode b_ma_skipsArgument 48 = .ok (.ireturn, 1) := by decide +kernel
theorem d_ma_skipsArgument_49 : decode b_ma_skipsArgument 49 = .ok (.aload_n 0, 1) := by decide +kernel
theorem d_ma_skipsArgument_50 : decode b_ma_skipsArgument 50 = .ok (.getfield 24, 3) := by decide +kernel
theorem d_ma_skipsArgument_53 : decode b_ma_skipsArgument 53 = .ok (.aload_n 0, 1) := by decide +kernel
theorem d_ma_skipsArgument_54 : decode b_ma_skipsArgument 54 = .ok (.getfield 45, 3) := by decide +kernel
theorem d_ma_skipsArgument_57 : decode b_ma_skipsArgument 57 = .ok (.aload_n 0, 1) := by decide +kernel
theorem d_ma_skipsArgument_58 : decode b_ma_skipsArgument 58 = .ok (.getfield 52, 3) := by decide +kernel
theorem d_ma_skipsArgument_61 : decode b_ma_skipsArgument 61 = .ok (.iconst 1, 1) := by decide +kernel
theorem d_ma_skipsArgument_62 : decode b_ma_skipsArgument 62 = .ok (.isub, 1) := by decide +kernel
theorem d_ma_skipsArgument_63 : decode b_ma_skipsArgument 63 = .ok (.iaload, 1) := by decide +kernel
theorem d_ma_skipsArgument_64 : decode b_ma_skipsArgument 64 = .ok (.aaload, 1) := by decide +kernel
theorem d_ma_skipsArgument_65 : decode b_ma_skipsArgument 65 = .ok (.invokevirtual 92, 3) := by decide +kernel
theorem d_ma_skipsArgument_68 : decode b_ma_skipsArgument 68 = .ok (.istore_n 2, 1) := by decide +kernel
theorem d_ma_skipsArgument_69 : decode b_ma_skipsArgument 69 = .ok (.iload_n 2, 1) := by decide +kernel
theorem d_ma_skipsArgument_70 : decode b_ma_skipsArgument 70 = .ok (.iload_n 1, 1) := by decide +kernel
theorem d_ma_skipsArgument_71 : decode b_ma_skipsArgument 71 = .ok (.iconst 1, 1) := by decide +kernel
theorem d_ma_skipsArgument_72 : decode b_ma_skipsArgument 72 = .ok (.if_icmp .ne 7, 3) := by decide +kernel
theorem d_ma_skipsArgument_75 : decode b_ma_skipsArgument 75 = .ok (.iconst 1, 1) := by decide +kernel
theorem d_ma_skipsArgument_76 : decode b_ma_skipsArgument 76 = .ok (.goto 4, 3) := by decide +kernel
theorem d_ma_skipsArgument_79 : decode b_ma_skipsArgument 79 = .ok (.iconst 0, 1) := by decide +kernel
theorem d_ma_skipsArgument_80 : decode b_ma_skipsArgument 80 = .ok (.if_icmp .ne 7, 3) := by decide +kernel
theorem d_ma_skipsArgument_83 : decode b_ma_skipsArgument 83 = .ok (.iconst 1, 1) := by decide +kernel
theorem d_ma_skipsArgument_84 : decode b_ma_skipsArgument 84 = .ok (.goto 4, 3) := by decide +kernel
theorem d_ma_skipsArgument_87 : decode b_ma_skipsArgument 87 = .ok (.iconst 0, 1) := by decide +kernel
theorem d_ma_skipsArgument_88 : decode b_ma_skipsArgument 88 = .ok (.ireturn, 1) := by decide +kernel
theorem d_ma_endOfArgument_0 : decode b_ma_endOfArgument 0 = .ok (.iconst 0, 1) := by decide +kernel
theorem d_ma_endOfArgument_1 : decode b_ma_endOfArgument 1 = .ok (.istore 4, 2) := by decide +kernel
theorem d_ma_endOfArgument_3 : decode b_ma_endOfArgument 3 = .ok (.iload_n 2, 1) := by decide +kernel
theorem d_ma_endOfArgument_4 : decode b_ma_endOfArgument 4 = .ok (.istore 5, 2) := by decide +kernel
theorem d_ma_endOfArgument_6 : decode b_ma_endOfArgument 6 = .ok (.iload 5, 2) := by decide +kernel
theorem d_ma_endOfArgument_8 : decode b_ma_endOfArgument 8 = .ok (.iload_n 3, 1) := by decide +kernel
theorem d_ma_endOfArgument_9 : decode b_ma_endOfArgument 9 = .ok (.if_icmp .ge 60, 3) := by decide +kernel
theorem d_ma_endOfArgument_12 : decode b_ma_endOfArgument 12 = .ok (.aload_n 1, 1) := by decide +kernel
theorem d_ma_endOfArgument_13 : decode b_ma_endOfArgument 13 = .ok (.iload 5, 2) := by decide +kernel
theorem d_ma_endOfArgument_15 : decode b_ma_endOfArgument 15 = .ok (.caload, 1) := by decide +kernel
theorem d_ma_endOfArgument_16 : decode b_ma_endOfArgument 16 = .ok (.istore 6, 2) := by decide +kernel
theorem d_ma_endOfArgument_18 : decode b_ma_endOfArgument 18 = .ok (.iload 4, 2) := by decide +kernel
theorem d_ma_endOfArgument_20 : decode b_ma_endOfArgument 20 = .ok (.ifCond .ne 20, 3) := by decide +kernel
theorem d_ma_endOfArgument_23 : decode b_ma_endOfArgument 23 = .ok (.iload 6, 2) := by decide +kernel
theorem d_ma_endOfArgument_25 : decode b_ma_endOfArgument 25 = .ok (.bipush 32, 2) := by decide +kernel
theorem d_ma_endOfArgument_27 : decode b_ma_endOfArgument 27 = .ok (.if_icmp .eq 10, 3) := by decide +kernel
theorem d_ma_endOfArgument_30 : decode b_ma_endOfArgument 30 = .ok (.iload 6, 2) := by decide +kernel
theorem d_ma_endOfArgument_32 : decode b_ma_endOfArgument 32 = .ok (.bipush 41, 2) := by decide +kernel
theorem d_ma_endOfArgument_34 : decode b_ma_endOfArgument 34 = .ok (.if_icmp .ne 6, 3) := by decide +kernel
theorem d_ma_endOfArgument_37 : decode b_ma_endOfArgument 37 = .ok (.iload 5, 2) := by decide +kernel
theorem d_ma_endOfArgument_39 : decode b_ma_endOfArgument 39 = .ok (.ireturn, 1) := by decide +kernel
theorem d_ma_endOfArgument_40 : decode b_ma_endOfArgument 40 = .ok (.iload 6, 2) := by decide +kernel
theorem d_ma_endOfArgument_42 : decode b_ma_endOfArgument 42 = .ok (.bipush 40, 2) := by decide +kernel
theorem d_ma_endOfArgument_44 : decode b_ma_endOfArgument 44 = .ok (.if_icmp .ne 9, 3) := by decide +kernel
theorem d_ma_endOfArgument_47 : decode b_ma_endOfArgument 47 = .ok (.iinc 4 1, 3) := by decide +kernel
theorem d_ma_endOfArgument_50 : decode b_ma_endOfArgument 50 = .ok (.goto 13, 3) := by decide +kernel
theorem d_ma_endOfArgument_53 : decode b_ma_endOfArgument 53 = .ok (.iload 6, 2) := by decide +kernel
theorem d_ma_endOfArgument_55 : decode b_ma_endOfArgument 55 = .ok (.bipush 41, 2) := by decide +kernel
theorem d_ma_endOfArgument_57 : decode b_ma_endOfArgument 57 = .ok (.if_icmp .ne 6, 3) := by decide +kernel
theorem d_ma_endOfArgument_60 : decode b_ma_endOfArgument 60 = .ok (.iinc 4 (-1), 3) := by decide +kernel
theorem d_ma_endOfArgument_63 : decode b_ma_endOfArgument 63 = .ok (.iinc 5 1, 3) := by decide +kernel
theorem d_ma_endOfArgument_66 : decode b_ma_endOfArgument 66 = .ok (.goto (-60), 3) := by decide +kernel
theorem d_ma_endOfArgument_69 : decode b_ma_endOfArgument 69 = .ok (.iload_n 3, 1) := by decide +kernel
theorem d_ma_endOfArgument_70 : decode b_ma_endOfArgument 70 = .ok (.ireturn, 1) := by decide +kernel
theorem d_ma_takeNumber_0 : decode b_ma_takeNumber 0 = .ok (.aload_n 1, 1) := by decide +kernel
theorem d_ma_takeNumber_1 : decode b_ma_takeNumber 1 = .ok (.iload_n 2, 1) := by decide +kernel
theorem d_ma_takeNumber_2 : decode b_ma_takeNumber 2 = .ok (.caload, 1) := by decide +kernel
theorem d_ma_takeNumber_3 : decode b_ma_takeNumber 3 = .ok (.bipush 45, 2) := by decide +kernel
theorem d_ma_takeNumber_5 : decode b_ma_takeNumber 5 = .ok (.if_icmp .ne 7, 3) := by decide +kernel
theorem d_ma_takeNumber_8 : decode b_ma_takeNumber 8 = .ok (.iconst 1, 1) := by decide +kernel
theorem d_ma_takeNumber_9 : decode b_ma_takeNumber 9 = .ok (.goto 4, 3) := by decide +kernel
theorem d_ma_takeNumber_12 : decode b_ma_takeNumber 12 = .ok (.iconst 0, 1) := by decide +kernel
theorem d_ma_takeNumber_13 : decode b_ma_takeNumber 13 = .ok (.istore 4, 2) := by decide +kernel
theorem d_ma_takeNumber_15 : decode b_ma_takeNumber 15 = .ok (.aload_n 0, 1) := by decide +kernel
theorem d_ma_takeNumber_16 : decode b_ma_takeNumber 16 = .ok (.getfield 37, 3) := by decide +kernel
theorem d_ma_takeNumber_19 : decode b_ma_takeNumber 19 = .ok (.iconst 0, 1) := by decide +kernel
theorem d_ma_takeNumber_20 : decode b_ma_takeNumber 20 = .ok (.invokevirtual 95, 3) := by decide +kernel
theorem d_ma_takeNumber_23 : decode b_ma_takeNumber 23 = .ok (.iload 4, 2) := by decide +kernel
theorem d_ma_takeNumber_25 : decode b_ma_takeNumber 25 = .ok (.ifCond .eq 9, 3) := by decide +kernel
theorem d_ma_takeNumber_28 : decode b_ma_takeNumber 28 = .ok (.iload_n 2, 1) := by decide +kernel
theorem d_ma_takeNumber_29 : decode b_ma_takeNumber 29 = .ok (.iconst 1, 1) := by decide +kernel
theorem d_ma_takeNumber_30 : decode b_ma_takeNumber 30 = .ok (.iadd, 1) := by decide +kernel
theorem d_ma_takeNumber_31 : decode b_ma_takeNumber 31 = .ok (.goto 4, 3) := by decide +kernel
theorem d_ma_takeNumber_34 : decode b_ma_takeNumber 34 = .ok (.iload_n 2, 1) := by decide +kernel
theorem d_ma_takeNumber_35 : decode b_ma_takeNumber 35 = .ok (.istore 5, 2) := by decide +kernel
theorem d_ma_takeNumber_37 : decode b_ma_takeNumber 37 = .ok (.iload 5, 2) := by decide +kernel
theorem d_ma_takeNumber_39 : decode b_ma_takeNumber 39 = .ok (.iload_n 3, 1) := by decide +kernel
theorem d_ma_takeNumber_40 : decode b_ma_takeNumber 40 = .ok (.if_icmp .ge 37, 3) := by decide +kernel
theorem d_ma_takeNumber_43 : decode b_ma_takeNumber 43 = .ok (.aload_n 0, 1) := by decide +kernel
theorem d_ma_takeNumber_44 : decode b_ma_takeNumber 44 = .ok (.getfield 37, 3) := by decide +kernel
theorem d_ma_takeNumber_47 : decode b_ma_takeNumber 47 = .ok (.bipush 10, 2) := by decide +kernel
theorem d_ma_takeNumber_49 : decode b_ma_takeNumber 49 = .ok (.aload_n 1, 1) := by decide +kernel
theorem d_ma_takeNumber_50 : decode b_ma_takeNumber 50 = .ok (.iload 5, 2) := by decide +kernel
theorem d_ma_takeNumber_52 : decode b_ma_takeNumber 52 = .ok (.caload, 1) := by decide +kernel
theorem d_ma_takeNumber_53 : decode b_ma_takeNumber 53 = .ok (.bipush 48, 2) := by decide +kernel
theorem d_ma_takeNumber_55 : decode b_ma_takeNumber 55 = .ok (.isub, 1) := by decide +kernel
theorem d_ma_takeNumber_56 : decode b_ma_takeNumber 56 = .ok (.invokevirtual 98, 3) := by decide +kernel
theorem d_ma_takeNumber_59 : decode b_ma_takeNumber 59 = .ok (.aload_n 0, 1) := by decide +kernel
theorem d_ma_takeNumber_60 : decode b_ma_takeNumber 60 = .ok (.getfield 37, 3) := by decide +kernel
theorem d_ma_takeNumber_63 : decode b_ma_takeNumber 63 = .ok (.invokevirtual 102, 3) := by decide +kernel
theorem d_ma_takeNumber_66 : decode b_ma_takeNumber 66 = .ok (.ifCond .eq 5, 3) := by decide +kernel
theorem d_ma_takeNumber_69 : decode b_ma_takeNumber 69 = .ok (.iconst 1, 1) := by decide +kernel
theorem d_ma_takeNumber_70 : decode b_ma_takeNumber 70 = .ok (.ireturn, 1) := by decide +kernel
theorem d_ma_takeNumber_71 : decode b_ma_takeNumber 71 = .ok (.iinc 5 1, 3) := by decide +kernel
theorem d_ma_takeNumber_74 : decode b_ma_takeNumber 74 = .ok (.goto (-37), 3) := by decide +kernel
theorem d_ma_takeNumber_77 : decode b_ma_takeNumber 77 = .ok (.aload_n 0, 1) := by decide +kernel
theorem d_ma_takeNumber_78 : decode b_ma_takeNumber 78 = .ok (.getfield 24, 3) := by decide +kernel
theorem d_ma_takeNumber_81 : decode b_ma_takeNumber 81 = .ok (.aload_n 0, 1) := by decide +kernel
theorem d_ma_takeNumber_82 : decode b_ma_takeNumber 82 = .ok (.getfield 56, 3) := by decide +kernel
theorem d_ma_takeNumber_85 : decode b_ma_takeNumber 85 = .ok (.aaload, 1) := by decide +kernel
theorem d_ma_takeNumber_86 : decode b_ma_takeNumber 86 = .ok (.astore 5, 2) := by decide +kernel
theorem d_ma_takeNumber_88 : decode b_ma_takeNumber 88 = .ok (.aload 5, 2) := by decide +kernel
theorem d_ma_takeNumber_90 : decode b_ma_takeNumber 90 = .ok (.iconst 0, 1) := by decide +kernel
theorem d_ma_takeNumber_91 : decode b_ma_takeNumber 91 = .ok (.invokevirtual 105, 3) := by decide +kernel
theorem d_ma_takeNumber_94 : decode b_ma_takeNumber 94 = .ok (.aload 5, 2) := by decide +kernel
theorem d_ma_takeNumber_96 : decode b_ma_takeNumber 96 = .ok (.getfield 106, 3) := by decide +kernel
theorem d_ma_takeNumber_99 : decode b_ma_takeNumber 99 = .ok (.aload_n 0, 1) := by decide +kernel
theorem d_ma_takeNumber_100 : decode b_ma_takeNumber 100 = .ok (.getfield 37, 3) := by decide +kernel
theorem d_ma_takeNumber_103 : decode b_ma_takeNumber 103 = .ok (.invokevirtual 109, 3) := by decide +kernel
theorem d_ma_takeNumber_106 : decode b_ma_takeNumber 106 = .ok (.aload 5, 2) := by decide +kernel
theorem d_ma_takeNumber_108 : decode b_ma_takeNumber 108 = .ok (.iload 4, 2) := by decide +kernel
theorem d_ma_takeNumber_110 : decode b_ma_takeNumber 110 = .ok (.ifCond .eq 17, 3) := by decide +kernel
theorem d_ma_takeNumber_113 : decode b_ma_takeNumber 113 = .ok (.aload_n 0, 1) := by decide +kernel
theorem d_ma_takeNumber_114 : decode b_ma_takeNumber 114 = .ok (.getfield 37, 3) := by decide +kernel
theorem d_ma_takeNumber_117 : decode b_ma_takeNumber 117 = .ok (.invokevirtual 112, 3) := by decide +kernel
theorem d_ma_takeNumber_120 : decode b_ma_takeNumber 120 = .ok (.ifCond .ne 7, 3) := by decide +kernel
theorem d_ma_takeNumber_123 : decode b_ma_takeNumber 123 = .ok (.iconst 1, 1) := by decide +kernel
theorem d_ma_takeNumber_124 : decode b_ma_takeNumber 124 = .ok (.goto 4, 3) := by decide +kernel
theorem d_ma_takeNumber_127 : decode b_ma_takeNumber 127 = .ok (.iconst 0, 1) := by decide +kernel
theorem d_ma_takeNumber_128 : decode b_ma_takeNumber 128 = .ok (.putfield 113, 3) := by decide +kernel
theorem d_ma_takeNumber_131 : decode b_ma_takeNumber 131 = .ok (.aload_n 0, 1) := by decide +kernel
theorem d_ma_takeNumber_132 : decode b_ma_takeNumber 132 = .ok (.dup, 1) := by decide +kernel
theorem d_ma_takeNumber_133 : decode b_ma_takeNumber 133 = .ok (.getfield 56, 3) := by decide +kernel
theorem d_ma_takeNumber_136 : decode b_ma_takeNumber 136 = .ok (.iconst 1, 1) := by decide +kernel
theorem d_ma_takeNumber_137 : decode b_ma_takeNumber 137 = .ok (.iadd, 1) := by decide +kernel
theorem d_ma_takeNumber_138 : decode b_ma_takeNumber 138 = .ok (.putfield 56, 3) := by decide +kernel
theorem d_ma_takeNumber_141 : decode b_ma_takeNumber 141 = .ok (.iconst 0, 1) := by decide +kernel
theorem d_ma_takeNumber_142 : decode b_ma_takeNumber 142 = .ok (.ireturn, 1) := by decide +kernel
theorem d_ma_raise_0 : decode b_ma_raise 0 = .ok (.aload_n 0, 1) := by decide +kernel
theorem d_ma_raise_1 : decode b_ma_raise 1 = .ok (.getfield 24, 3) := by decide +kernel
theorem d_ma_raise_4 : decode b_ma_raise 4 = .ok (.aload_n 0, 1) := by decide +kernel
theorem d_ma_raise_5 : decode b_ma_raise 5 = .ok (.getfield 56, 3) := by decide +kernel
theorem d_ma_raise_8 : decode b_ma_raise 8 = .ok (.iconst 2, 1) := by decide +kernel
theorem d_ma_raise_9 : decode b_ma_raise 9 = .ok (.isub, 1) := by decide +kernel
theorem d_ma_raise_10 : decode b_ma_raise 10 = .ok (.aaload, 1) := by decide +kernel
theorem d_ma_raise_11 : decode b_ma_raise 11 = .ok (.astore_n 1, 1) := by decide +kernel
theorem d_ma_raise_12 : decode b_ma_raise 12 = .ok (.aload_n 0, 1) := by decide +kernel
theorem d_ma_raise_13 : decode b_ma_raise 13 = .ok (.getfield 24, 3) := by decide +kernel
theorem d_ma_raise_16 : decode b_ma_raise 16 = .ok (.aload_n 0, 1) := by decide +kernel
theorem d_ma_raise_17 : decode b_ma_raise 17 = .ok (.getfield 56, 3) := by decide +kernel
theorem d_ma_raise_20 : decode b_ma_raise 20 = .ok (.iconst 1, 1) := by decide +kernel
theorem d_ma_raise_21 : decode b_ma_raise 21 = .ok (.isub, 1) := by decide +kernel
theorem d_ma_raise_22 : decode b_ma_raise 22 = .ok (.aaload, 1) := by decide +kernel
theorem d_ma_raise_23 : decode b_ma_raise 23 = .ok (.astore_n 2, 1) := by decide +kernel
theorem d_ma_raise_24 : decode b_ma_raise 24 = .ok (.aload_n 2, 1) := by decide +kernel
theorem d_ma_raise_25 : decode b_ma_raise 25 = .ok (.getfield 106, 3) := by decide +kernel
theorem d_ma_raise_28 : decode b_ma_raise 28 = .ok (.iconst 0, 1) := by decide +kernel
theorem d_ma_raise_29 : decode b_ma_raise 29 = .ok (.invokevirtual 117, 3) := by decide +kernel
theorem d_ma_raise_32 : decode b_ma_raise 32 = .ok (.istore_n 3, 1) := by decide +kernel
theorem d_ma_raise_33 : decode b_ma_raise 33 = .ok (.aload_n 2, 1) := by decide +kernel
theorem d_ma_raise_34 : decode b_ma_raise 34 = .ok (.invokevirtual 121, 3) := by decide +kernel
theorem d_ma_raise_37 : decode b_ma_raise 37 = .ok (.ifCond .eq 27, 3) := by decide +kernel
theorem d_ma_raise_40 : decode b_ma_raise 40 = .ok (.aload_n 2, 1) := by decide +kernel
theorem d_ma_raise_41 : decode b_ma_raise 41 = .ok (.getfield 113, 3) := by decide +kernel
theorem d_ma_raise_44 : decode b_ma_raise 44 = .ok (.ifCond .ne 20, 3) := by decide +kernel
theorem d_ma_raise_47 : decode b_ma_raise 47 = .ok (.aload_n 2, 1) := by decide +kernel
theorem d_ma_raise_48 : decode b_ma_raise 48 = .ok (.getfield 106, 3) := by decide +kernel
theorem d_ma_raise_51 : decode b_ma_raise 51 = .ok (.getfield 124, 3) := by decide +kernel
theorem d_ma_raise_54 : decode b_ma_raise 54 = .ok (.iconst 1, 1) := by decide +kernel
theorem d_ma_raise_55 : decode b_ma_raise 55 = .ok (.if_icmp .gt 9, 3) := by decide +kernel
theorem d_ma_raise_58 : decode b_ma_raise 58 = .ok (.iload_n 3, 1) := by decide +kernel
theorem d_ma_raise_59 : decode b_ma_raise 59 = .ok (.bipush 64, 2) := by decide +kernel
theorem d_ma_raise_61 : decode b_ma_raise 61 = .ok (.if_icmp .le 5, 3) := by decide +kernel
theorem d_ma_raise_64 : decode b_ma_raise 64 = .ok (.iconst 3, 1) := by decide +kernel
theorem d_ma_raise_65 : decode b_ma_raise 65 = .ok (.ireturn, 1) := by decide +kernel
theorem d_ma_raise_66 : decode b_ma_raise 66 = .ok (.iconst 0, 1) := by decide +kernel
theorem d_ma_raise_67 : decode b_ma_raise 67 = .ok (.istore 4, 2) := by decide +kernel
theorem d_ma_raise_69 : decode b_ma_raise 69 = .ok (.aload_n 0, 1) := by decide +kernel
theorem d_ma_raise_70 : decode b_ma_raise 70 = .ok (.getfield 28, 3) := by decide +kernel
theorem d_ma_raise_73 : decode b_ma_raise 73 = .ok (.iconst 1, 1) := by decide +kernel
theorem d_ma_raise_74 : decode b_ma_raise 74 = .ok (.invokevirtual 105, 3) := by decide +kernel
theorem d_ma_raise_77 : decode b_ma_raise 77 = .ok (.iconst 0, 1) := by decide +kernel
theorem d_ma_raise_78 : decode b_ma_raise 78 = .ok (.istore 5, 2) := by decide +kernel
theorem d_ma_raise_80 : decode b_ma_raise 80 = .ok (.iload 5, 2) := by decide +kernel
theorem d_ma_raise_82 : decode b_ma_raise 82 = .ok (.iload_n 3, 1) := by decide +kernel
theorem d_ma_raise_83 : decode b_ma_raise 83 = .ok (.if_icmp .ge 39, 3) := by decide +kernel
theorem d_ma_raise_86 : decode b_ma_raise 86 = .ok (.iload 4, 2) := by decide +kernel
theorem d_ma_raise_88 : decode b_ma_raise 88 = .ok (.ifCond .ne 34, 3) := by decide +kernel
theorem d_ma_raise_91 : decode b_ma_raise 91 = .ok (.aload_n 0, 1) := by decide +kernel
theorem d_ma_raise_92 : decode b_ma_raise 92 = .ok (.getfield 12, 3) := by decide +kernel
theorem d_ma_raise_95 : decode b_ma_raise 95 = .ok (.aload_n 0, 1) := by decide +kernel
theorem d_ma_raise_96 : decode b_ma_raise 96 = .ok (.getfield 28, 3) := by decide +kernel
theorem d_ma_raise_99 : decode b_ma_raise 99 = .ok (.aload_n 1, 1) := by decide +kernel
theorem d_ma_raise_100 : decode b_ma_raise 100 = .ok (.getfield 106, 3) := by decide +kernel
theorem d_ma_raise_103 : decode b_ma_raise 103 = .ok (.aload_n 1, 1) := by decide +kernel
theorem d_ma_raise_104 : decode b_ma_raise 104 = .ok (.getfield 127, 3) := by decide +kernel
theorem d_ma_raise_107 : decode b_ma_raise 107 = .ok (.aload_n 1, 1) := by decide +kernel
theorem d_ma_raise_108 : decode b_ma_raise 108 = .ok (.getfield 113, 3) := by decide +kernel
theorem d_ma_raise_111 : decode b_ma_raise 111 = .ok (.invokevirtual 130, 3) := by decide +kernel
theorem d_ma_raise_114 : decode b_ma_raise 114 = .ok (.istore 4, 2) := by decide +kernel
theorem d_ma_raise_116 : decode b_ma_raise 116 = .ok (.iinc 5 1, 3) := by decide +kernel
theorem d_ma_raise_119 : decode b_ma_raise 119 = .ok (.goto (-39), 3) := by decide +kernel
theorem d_ma_raise_122 : decode b_ma_raise 122 = .ok (.iload 4, 2) := by decide +kernel
theorem d_ma_raise_124 : decode b_ma_raise 124 = .ok (.ireturn, 1) := by decide +kernel
theorem d_ma_fold_0 : decode b_ma_fold 0 = .ok (.aload_n 0, 1) := by decide +kernel
theorem d_ma_fold_1 : decode b_ma_fold 1 = .ok (.getfield 41, 3) := by decide +kernel
theorem d_ma_fold_4 : decode b_ma_fold 4 = .ok (.aload_n 0, 1) := by decide +kernel
theorem d_ma_fold_5 : decode b_ma_fold 5 = .ok (.getfield 52, 3) := by decide +kernel
theorem d_ma_fold_8 : decode b_ma_fold 8 = .ok (.iconst 1, 1) := by decide +kernel
theorem d_ma_fold_9 : decode b_ma_fold 9 = .ok (.isub, 1) := by decide +kernel
theorem d_ma_fold_10 : decode b_ma_fold 10 = .ok (.caload, 1) := by decide +kernel
theorem d_ma_fold_11 : decode b_ma_fold 11 = .ok (.istore_n 1, 1) := by decide +kernel
theorem d_ma_fold_12 : decode b_ma_fold 12 = .ok (.aload_n 0, 1) := by decide +kernel
theorem d_ma_fold_13 : decode b_ma_fold 13 = .ok (.getfield 45, 3) := by decide +kernel
theorem d_ma_fold_16 : decode b_ma_fold 16 = .ok (.aload_n 0, 1) := by decide +kernel
theorem d_ma_fold_17 : decode b_ma_fold 17 = .ok (.getfield 52, 3) := by decide +kernel
theorem d_ma_fold_20 : decode b_ma_fold 20 = .ok (.iconst 1, 1) := by decide +kernel
theorem d_ma_fold_21 : decode b_ma_fold 21 = .ok (.isub, 1) := by decide +kernel
theorem d_ma_fold_22 : decode b_ma_fold 22 = .ok (.iaload, 1) := by decide +kernel
theorem d_ma_fold_23 : decode b_ma_fold 23 = .ok (.istore_n 2, 1) := by decide +kernel
theorem d_ma_fold_24 : decode b_ma_fold 24 = .ok (.iload_n 1, 1) := by decide +kernel
theorem d_ma_fold_25 : decode b_ma_fold 25 = .ok (.aload_n 0, 1) := by decide +kernel
theorem d_ma_fold_26 : decode b_ma_fold 26 = .ok (.getfield 56, 3) := by decide +kernel
theorem d_ma_fold_29 : decode b_ma_fold 29 = .ok (.iload_n 2, 1) := by decide +kernel
theorem d_ma_fold_30 : decode b_ma_fold 30 = .ok (.isub, 1) := by decide +kernel
theorem d_ma_fold_31 : decode b_ma_fold 31 = .ok (.invokestatic 134, 3) := by decide +kernel
theorem d_ma_fold_34 : decode b_ma_fold 34 = .ok (.istore_n 3, 1) := by decide +kernel
theorem d_ma_fold_35 : decode b_ma_fold 35 = .ok (.iload_n 3, 1) := by decide +kernel
theorem d_ma_fold_36 : decode b_ma_fold 36 = .ok (.ifCond .eq 19, 3) := by decide +kernel
theorem d_ma_fold_39 : decode b_ma_fold 39 = .ok (.aload_n 0, 1) := by decide +kernel
theorem d_ma_fold_40 : decode b_ma_fold 40 = .ok (.getfield 28, 3) := by decide +kernel
theorem d_ma_fold_43 : decode b_ma_fold 43 = .ok (.aload_n 0, 1) := by decide +kernel
theorem d_ma_fold_44 : decode b_ma_fold 44 = .ok (.getfield 24, 3) := by decide +kernel
theorem d_ma_fold_47 : decode b_ma_fold 47 = .ok (.iload_n 2, 1) := by decide +kernel
theorem d_ma_fold_48 : decode b_ma_fold 48 = .ok (.aaload, 1) := by decide +kernel
theorem d_ma_fold_49 : decode b_ma_fold 49 = .ok (.invokevirtual 85, 3) := by decide +kernel
theorem d_ma_fold_52 : decode b_ma_fold 52 = .ok (.goto 27, 3) := by decide +kernel
theorem d_ma_fold_55 : decode b_ma_fold 55 = .ok (.aload_n 0, 1) := by decide +kernel
theorem d_ma_fold_56 : decode b_ma_fold 56 = .ok (.getfield 28, 3) := by decide +kernel
theorem d_ma_fold_59 : decode b_ma_fold 59 = .ok (.iload_n 1, 1) := by decide +kernel
theorem d_ma_fold_60 : decode b_ma_fold 60 = .ok (.bipush 42, 2) := by decide +kernel
theorem d_ma_fold_62 : decode b_ma_fold 62 = .ok (.if_icmp .eq 9, 3) := by decide +kernel
theorem d_ma_fold_65 : decode b_ma_fold 65 = .ok (.iload_n 1, 1) := by decide +kernel
theorem d_ma_fold_66 : decode b_ma_fold 66 = .ok (.bipush 47, 2) := by decide +kernel
theorem d_ma_fold_68 : decode b_ma_fold 68 = .ok (.if_icmp .ne 7, 3) := by decide +kernel
theorem d_ma_fold_71 : decode b_ma_fold 71 = .ok (.iconst 1, 1) := by decide +kernel
theorem d_ma_fold_72 : decode b_ma_fold 72 = .ok (.goto 4, 3) := by decide +kernel
theorem d_ma_fold_75 : decode b_ma_fold 75 = .ok (.iconst 0, 1) := by decide +kernel
theorem d_ma_fold_76 : decode b_ma_fold 76 = .ok (.invokevirtual 105, 3) := by decide +kernel
theorem d_ma_fold_79 : decode b_ma_fold 79 = .ok (.iconst 0, 1) := by decide +kernel
theorem d_ma_fold_80 : decode b_ma_fold 80 = .ok (.istore 4, 2) := by decide +kernel
theorem d_ma_fold_82 : decode b_ma_fold 82 = .ok (.iload_n 3, 1) := by decide +kernel
theorem d_ma_fold_83 : decode b_ma_fold 83 = .ok (.ifCond .eq 9, 3) := by decide +kernel
theorem d_ma_fold_86 : decode b_ma_fold 86 = .ok (.iload_n 2, 1) := by decide +kernel
theorem d_ma_fold_87 : decode b_ma_fold 87 = .ok (.iconst 1, 1) := by decide +kernel
theorem d_ma_fold_88 : decode b_ma_fold 88 = .ok (.iadd, 1) := by decide +kernel
theorem d_ma_fold_89 : decode b_ma_fold 89 = .ok (.goto 4, 3) := by decide +kernel
theorem d_ma_fold_92 : decode b_ma_fold 92 = .ok (.iload_n 2, 1) := by decide +kernel
theorem d_ma_fold_93 : decode b_ma_fold 93 = .ok (.istore 5, 2) := by decide +kernel
theorem d_ma_fold_95 : decode b_ma_fold 95 = .ok (.iload 5, 2) := by decide +kernel
theorem d_ma_fold_97 : decode b_ma_fold 97 = .ok (.aload_n 0, 1) := by decide +kernel
theorem d_ma_fold_98 : decode b_ma_fold 98 = .ok (.getfield 56, 3) := by decide +kernel
theorem d_ma_fold_101 : decode b_ma_fold 101 = .ok (.if_icmp .ge 28, 3) := by decide +kernel
theorem d_ma_fold_104 : decode b_ma_fold 104 = .ok (.iload 4, 2) := by decide +kernel
theorem d_ma_fold_106 : decode b_ma_fold 106 = .ok (.ifCond .ne 23, 3) := by decide +kernel
theorem d_ma_fold_109 : decode b_ma_fold 109 = .ok (.aload_n 0, 1) := by decide +kernel
theorem d_ma_fold_110 : decode b_ma_fold 110 = .ok (.iload_n 1, 1) := by decide +kernel
theorem d_ma_fold_111 : decode b_ma_fold 111 = .ok (.aload_n 0, 1) := by decide +kernel
theorem d_ma_fold_112 : decode b_ma_fold 112 = .ok (.getfield 24, 3) := by decide +kernel
theorem d_ma_fold_115 : decode b_ma_fold 115 = .ok (.iload 5, 2) := by decide +kernel
theorem d_ma_fold_117 : decode b_ma_fold 117 = .ok (.aaload, 1) := by decide +kernel
theorem d_ma_fold_118 : decode b_ma_fold 118 = .ok (.invokevirtual 138, 3) := by decide +kernel
theorem d_ma_fold_121 : decode b_ma_fold 121 = .ok (.istore 4, 2) := by decide +kernel
theorem d_ma_fold_123 : decode b_ma_fold 123 = .ok (.iinc 5 1, 3) := by decide +kernel
theorem d_ma_fold_126 : decode b_ma_fold 126 = .ok (.goto (-31), 3) := by decide +kernel
theorem d_ma_fold_129 : decode b_ma_fold 129 = .ok (.iload 4, 2) := by decide +kernel
theorem d_ma_fold_131 : decode b_ma_fold 131 = .ok (.ireturn, 1) := by decide +kernel
theorem d_ma_beginsWithFirst_0 : decode b_ma_beginsWithFirst 0 = .ok (.iload_n 0, 1) := by decide +kernel
theorem d_ma_beginsWithFirst_1 : decode b_ma_beginsWithFirst 1 = .ok (.bipush 43, 2) := by decide +kernel
theorem d_ma_beginsWithFirst_3 : decode b_ma_beginsWithFirst 3 = .ok (.if_icmp .eq 15, 3) := by decide +kernel
theorem d_ma_beginsWithFirst_6 : decode b_ma_beginsWithFirst 6 = .ok (.iload_n 0, 1) := by decide +kernel
theorem d_ma_beginsWithFirst_7 : decode b_ma_beginsWithFirst 7 = .ok (.bipush 42, 2) := by decide +kernel
theorem d_ma_beginsWithFirst_9 : decode b_ma_beginsWithFirst 9 = .ok (.if_icmp .eq 9, 3) := by decide +kernel
theorem d_ma_beginsWithFirst_12 : decode b_ma_beginsWithFirst 12 = .ok (.iload_n 0, 1) := by decide +kernel
theorem d_ma_beginsWithFirst_13 : decode b_ma_beginsWithFirst 13 = .ok (.bipush 103, 2) := by decide +kernel
theorem d_ma_beginsWithFirst_15 : decode b_ma_beginsWithFirst 15 = .ok (.if_icmp .ne 7, 3) := by decide +kernel
theorem d_ma_beginsWithFirst_18 : decode b_ma_beginsWithFirst 18 = .ok (.iconst 1, 1) := by decide +kernel
theorem d_ma_beginsWithFirst_19 : decode b_ma_beginsWithFirst 19 = .ok (.goto 4, 3) := by decide +kernel
theorem d_ma_beginsWithFirst_22 : decode b_ma_beginsWithFirst 22 = .ok (.iconst 0, 1) := by decide +kernel
theorem d_ma_beginsWithFirst_23 : decode b_ma_beginsWithFirst 23 = .ok (.istore_n 2, 1) := by decide +kernel
theorem d_ma_beginsWithFirst_24 : decode b_ma_beginsWithFirst 24 = .ok (.iload_n 1, 1) := by decide +kernel
theorem d_ma_beginsWithFirst_25 : decode b_ma_beginsWithFirst 25 = .ok (.iconst 1, 1) := by decide +kernel
theorem d_ma_beginsWithFirst_26 : decode b_ma_beginsWithFirst 26 = .ok (.if_icmp .le 11, 3) := by decide +kernel
theorem d_ma_beginsWithFirst_29 : decode b_ma_beginsWithFirst 29 = .ok (.iload_n 2, 1) := by decide +kernel
theorem d_ma_beginsWithFirst_30 : decode b_ma_beginsWithFirst 30 = .ok (.ifCond .ne 7, 3) := by decide +kernel
theorem d_ma_beginsWithFirst_33 : decode b_ma_beginsWithFirst 33 = .ok (.iconst 1, 1) := by decide +kernel
theorem d_ma_beginsWithFirst_34 : decode b_ma_beginsWithFirst 34 = .ok (.goto 4, 3) := by decide +kernel
theorem d_ma_beginsWithFirst_37 : decode b_ma_beginsWithFirst 37 = .ok (.iconst 0, 1) := by decide +kernel
theorem d_ma_beginsWithFirst_38 : decode b_ma_beginsWithFirst 38 = .ok (.ireturn, 1) := by decide +kernel
theorem d_ma_step_0 : decode b_ma_step 0 = .ok (.iload_n 1, 1) := by decide +kernel
theorem d_ma_step_1 : decode b_ma_step 1 = .ok (.lookupswitch 195 #[(42, 95), (43, 67), (45, 81), (47, 119), (103, 182), (113, 154), (114, 168)], 67) := by decide +kernel
theorem d_ma_step_68 : decode b_ma_step 68 = .ok (.aload_n 0, 1) := by decide +kernel
theorem d_ma_step_69 : decode b_ma_step 69 = .ok (.getfield 12, 3) := by decide +kernel
theorem d_ma_step_72 : decode b_ma_step 72 = .ok (.aload_n 0, 1) := by decide +kernel
theorem d_ma_step_73 : decode b_ma_step 73 = .ok (.getfield 28, 3) := by decide +kernel
theorem d_ma_step_76 : decode b_ma_step 76 = .ok (.aload_n 2, 1) := by decide +kernel
theorem d_ma_step_77 : decode b_ma_step 77 = .ok (.iconst 0, 1) := by decide +kernel
theorem d_ma_step_78 : decode b_ma_step 78 = .ok (.invokevirtual 142, 3) := by decide +kernel
theorem d_ma_step_81 : decode b_ma_step 81 = .ok (.ireturn, 1) := by decide +kernel
theorem d_ma_step_82 : decode b_ma_step 82 = .ok (.aload_n 0, 1) := by decide +kernel
theorem d_ma_step_83 : decode b_ma_step 83 = .ok (.getfield 12, 3) := by decide +kernel
theorem d_ma_step_86 : decode b_ma_step 86 = .ok (.aload_n 0, 1) := by decide +kernel
theorem d_ma_step_87 : decode b_ma_step 87 = .ok (.getfield 28, 3) := by decide +kernel
theorem d_ma_step_90 : decode b_ma_step 90 = .ok (.aload_n 2, 1) := by decide +kernel
theorem d_ma_step_91 : decode b_ma_step 91 = .ok (.iconst 1, 1) := by decide +kernel
theorem d_ma_step_92 : decode b_ma_step 92 = .ok (.invokevirtual 142, 3) := by decide +kernel
theorem d_ma_step_95 : decode b_ma_step 95 = .ok (.ireturn, 1) := by decide +kernel
theorem d_ma_step_96 : decode b_ma_step 96 = .ok (.aload_n 0, 1) := by decide +kernel
theorem d_ma_step_97 : decode b_ma_step 97 = .ok (.getfield 12, 3) := by decide +kernel
theorem d_ma_step_100 : decode b_ma_step 100 = .ok (.aload_n 0, 1) := by decide +kernel
theorem d_ma_step_101 : decode b_ma_step 101 = .ok (.getfield 28, 3) := by decide +kernel
theorem d_ma_step_104 : decode b_ma_step 104 = .ok (.aload_n 2, 1) := by decide +kernel
theorem d_ma_step_105 : decode b_ma_step 105 = .ok (.getfield 106, 3) := by decide +kernel
theorem d_ma_step_108 : decode b_ma_step 108 = .ok (.aload_n 2, 1) := by decide +kernel
theorem d_ma_step_109 : decode b_ma_step 109 = .ok (.getfield 127, 3) := by decide +kernel
theorem d_ma_step_112 : decode b_ma_step 112 = .ok (.aload_n 2, 1) := by decide +kernel
theorem d_ma_step_113 : decode b_ma_step 113 = .ok (.getfield 113, 3) := by decide +kernel
theorem d_ma_step_116 : decode b_ma_step 116 = .ok (.invokevirtual 130, 3) := by decide +kernel
theorem d_ma_step_119 : decode b_ma_step 119 = .ok (.ireturn, 1) := by decide +kernel
theorem d_ma_step_120 : decode b_ma_step 120 = .ok (.aload_n 2, 1) := by decide +kernel
theorem d_ma_step_121 : decode b_ma_step 121 = .ok (.invokevirtual 92, 3) := by decide +kernel
theorem d_ma_step_124 : decode b_ma_step 124 = .ok (.ifCond .eq 7, 3) := by decide +kernel
theorem d_ma_step_127 : decode b_ma_step 127 = .ok (.iconst 2, 1) := by decide +kernel
theorem d_ma_step_128 : decode b_ma_step 128 = .ok (.goto 26, 3) := by decide +kernel
theorem d_ma_step_131 : decode b_ma_step 131 = .ok (.aload_n 0, 1) := by decide +kernel
theorem d_ma_step_132 : decode b_ma_step 132 = .ok (.getfield 12, 3) := by decide +kernel
theorem d_ma_step_135 : decode b_ma_step 135 = .ok (.aload_n 0, 1) := by decide +kernel
theorem d_ma_step_136 : decode b_ma_step 136 = .ok (.getfield 28, 3) := by decide +kernel
theorem d_ma_step_139 : decode b_ma_step 139 = .ok (.aload_n 2, 1) := by decide +kernel
theorem d_ma_step_140 : decode b_ma_step 140 = .ok (.getfield 127, 3) := by decide +kernel
theorem d_ma_step_143 : decode b_ma_step 143 = .ok (.aload_n 2, 1) := by decide +kernel
theorem d_ma_step_144 : decode b_ma_step 144 = .ok (.getfield 106, 3) := by decide +kernel
theorem d_ma_step_147 : decode b_ma_step 147 = .ok (.aload_n 2, 1) := by decide +kernel
theorem d_ma_step_148 : decode b_ma_step 148 = .ok (.getfield 113, 3) := by decide +kernel
theorem d_ma_step_151 : decode b_ma_step 151 = .ok (.invokevirtual 130, 3) := by decide +kernel
theorem d_ma_step_154 : decode b_ma_step 154 = .ok (.ireturn, 1) := by decide +kernel
theorem d_ma_step_155 : decode b_ma_step 155 = .ok (.aload_n 0, 1) := by decide +kernel
theorem d_ma_step_156 : decode b_ma_step 156 = .ok (.getfield 12, 3) := by decide +kernel
theorem d_ma_step_159 : decode b_ma_step 159 = .ok (.aload_n 0, 1) := by decide +kernel
theorem d_ma_step_160 : decode b_ma_step 160 = .ok (.getfield 28, 3) := by decide +kernel
theorem d_ma_step_163 : decode b_ma_step 163 = .ok (.aload_n 2, 1) := by decide +kernel
theorem d_ma_step_164 : decode b_ma_step 164 = .ok (.iconst 0, 1) := by decide +kernel
theorem d_ma_step_165 : decode b_ma_step 165 = .ok (.invokevirtual 146, 3) := by decide +kernel
theorem d_ma_step_168 : decode b_ma_step 168 = .ok (.ireturn, 1) := by decide +kernel
theorem d_ma_step_169 : decode b_ma_step 169 = .ok (.aload_n 0, 1) := by decide +kernel
theorem d_ma_step_170 : decode b_ma_step 170 = .ok (.getfield 12, 3) := by decide +kernel
theorem d_ma_step_173 : decode b_ma_step 173 = .ok (.aload_n 0, 1) := by decide +kernel
theorem d_ma_step_174 : decode b_ma_step 174 = .ok (.getfield 28, 3) := by decide +kernel
theorem d_ma_step_177 : decode b_ma_step 177 = .ok (.aload_n 2, 1) := by decide +kernel
theorem d_ma_step_178 : decode b_ma_step 178 = .ok (.iconst 1, 1) := by decide +kernel
theorem d_ma_step_179 : decode b_ma_step 179 = .ok (.invokevirtual 146, 3) := by decide +kernel
theorem d_ma_step_182 : decode b_ma_step 182 = .ok (.ireturn, 1) := by decide +kernel
theorem d_ma_step_183 : decode b_ma_step 183 = .ok (.aload_n 0, 1) := by decide +kernel
theorem d_ma_step_184 : decode b_ma_step 184 = .ok (.getfield 12, 3) := by decide +kernel
theorem d_ma_step_187 : decode b_ma_step 187 = .ok (.aload_n 0, 1) := by decide +kernel
theorem d_ma_step_188 : decode b_ma_step 188 = .ok (.getfield 28, 3) := by decide +kernel
theorem d_ma_step_191 : decode b_ma_step 191 = .ok (.aload_n 2, 1) := by decide +kernel
theorem d_ma_step_192 : decode b_ma_step 192 = .ok (.invokevirtual 149, 3) := by decide +kernel
theorem d_ma_step_195 : decode b_ma_step 195 = .ok (.ireturn, 1) := by decide +kernel
theorem d_ma_step_196 : decode b_ma_step 196 = .ok (.aload_n 0, 1) := by decide +kernel
theorem d_ma_step_197 : decode b_ma_step 197 = .ok (.iload_n 1, 1) := by decide +kernel
theorem d_ma_step_198 : decode b_ma_step 198 = .ok (.aload_n 2, 1) := by decide +kernel
theorem d_ma_step_199 : decode b_ma_step 199 = .ok (.invokevirtual 153, 3) := by decide +kernel
theorem d_ma_step_202 : decode b_ma_step 202 = .ok (.ireturn, 1) := by decide +kernel
theorem d_ma_replace_0 : decode b_ma_replace 0 = .ok (.iload_n 1, 1) := by decide +kernel
theorem d_ma_replace_1 : decode b_ma_replace 1 = .ok (.lookupswitch 150 #[(60, 90), (61, 120), (100, 65), (110, 43)], 43) := by decide +kernel
theorem d_ma_replace_44 : decode b_ma_replace 44 = .ok (.aload_n 0, 1) := by decide +kernel
theorem d_ma_replace_45 : decode b_ma_replace 45 = .ok (.getfield 28, 3) := by decide +kernel
theorem d_ma_replace_48 : decode b_ma_replace 48 = .ok (.aload_n 2, 1) := by decide +kernel
theorem d_ma_replace_49 : decode b_ma_replace 49 = .ok (.invokevirtual 85, 3) := by decide +kernel
theorem d_ma_replace_52 : decode b_ma_replace 52 = .ok (.aload_n 0, 1) := by decide +kernel
theorem d_ma_replace_53 : decode b_ma_replace 53 = .ok (.getfield 28, 3) := by decide +kernel
theorem d_ma_replace_56 : decode b_ma_replace 56 = .ok (.getfield 127, 3) := by decide +kernel
theorem d_ma_replace_59 : decode b_ma_replace 59 = .ok (.iconst 1, 1) := by decide +kernel
theorem d_ma_replace_60 : decode b_ma_replace 60 = .ok (.invokevirtual 95, 3) := by decide +kernel
theorem d_ma_replace_63 : decode b_ma_replace 63 = .ok (.goto 96, 3) := by decide +kernel
theorem d_ma_replace_66 : decode b_ma_replace 66 = .ok (.aload_n 0, 1) := by decide +kernel
theorem d_ma_replace_67 : decode b_ma_replace 67 = .ok (.getfield 28, 3) := by decide +kernel
theorem d_ma_replace_70 : decode b_ma_replace 70 = .ok (.iconst 0, 1) := by decide +kernel
theorem d_ma_replace_71 : decode b_ma_replace 71 = .ok (.invokevirtual 105, 3) := by decide +kernel
theorem d_ma_replace_74 : decode b_ma_replace 74 = .ok (.aload_n 0, 1) := by decide +kernel
theorem d_ma_replace_75 : decode b_ma_replace 75 = .ok (.getfield 28, 3) := by decide +kernel
theorem d_ma_replace_78 : decode b_ma_replace 78 = .ok (.getfield 106, 3) := by decide +kernel
theorem d_ma_replace_81 : decode b_ma_replace 81 = .ok (.aload_n 2, 1) := by decide +kernel
theorem d_ma_replace_82 : decode b_ma_replace 82 = .ok (.getfield 127, 3) := by decide +kernel
theorem d_ma_replace_85 : decode b_ma_replace 85 = .ok (.invokevirtual 109, 3) := by decide +kernel
theorem d_ma_replace_88 : decode b_ma_replace 88 = .ok (.goto 71, 3) := by decide +kernel
theorem d_ma_replace_91 : decode b_ma_replace 91 = .ok (.aload_n 0, 1) := by decide +kernel
theorem d_ma_replace_92 : decode b_ma_replace 92 = .ok (.getfield 28, 3) := by decide +kernel
theorem d_ma_replace_95 : decode b_ma_replace 95 = .ok (.aload_n 0, 1) := by decide +kernel
theorem d_ma_replace_96 : decode b_ma_replace 96 = .ok (.getfield 12, 3) := by decide +kernel
theorem d_ma_replace_99 : decode b_ma_replace 99 = .ok (.aload_n 0, 1) := by decide +kernel
theorem d_ma_replace_100 : decode b_ma_replace 100 = .ok (.getfield 28, 3) := by decide +kernel
theorem d_ma_replace_103 : decode b_ma_replace 103 = .ok (.aload_n 2, 1) := by decide +kernel
theorem d_ma_replace_104 : decode b_ma_replace 104 = .ok (.invokevirtual 156, 3) := by decide +kernel
theorem d_ma_replace_107 : decode b_ma_replace 107 = .ok (.ifCond .ge 7, 3) := by decide +kernel
theorem d_ma_replace_110 : decode b_ma_replace 110 = .ok (.iconst 1, 1) := by decide +kernel
theorem d_ma_replace_111 : decode b_ma_replace 111 = .ok (.goto 4, 3) := by decide +kernel
theorem d_ma_replace_114 : decode b_ma_replace 114 = .ok (.iconst 0, 1) := by decide +kernel
theorem d_ma_replace_115 : decode b_ma_replace 115 = .ok (.invokevirtual 105, 3) := by decide +kernel
theorem d_ma_replace_118 : decode b_ma_replace 118 = .ok (.goto 41, 3) := by decide +kernel
theorem d_ma_replace_121 : decode b_ma_replace 121 = .ok (.aload_n 0, 1) := by decide +kernel
theorem d_ma_replace_122 : decode b_ma_replace 122 = .ok (.getfield 28, 3) := by decide +kernel
theorem d_ma_replace_125 : decode b_ma_replace 125 = .ok (.aload_n 0, 1) := by decide +kernel
theorem d_ma_replace_126 : decode b_ma_replace 126 = .ok (.getfield 12, 3) := by decide +kernel
theorem d_ma_replace_129 : decode b_ma_replace 129 = .ok (.aload_n 0, 1) := by decide +kernel
theorem d_ma_replace_130 : decode b_ma_replace 130 = .ok (.getfield 28, 3) := by decide +kernel
theorem d_ma_replace_133 : decode b_ma_replace 133 = .ok (.aload_n 2, 1) := by decide +kernel
theorem d_ma_replace_134 : decode b_ma_replace 134 = .ok (.invokevirtual 156, 3) := by decide +kernel
theorem d_ma_replace_137 : decode b_ma_replace 137 = .ok (.ifCond .ne 7, 3) := by decide +kernel
theorem d_ma_replace_140 : decode b_ma_replace 140 = .ok (.iconst 1, 1) := by decide +kernel
theorem d_ma_replace_141 : decode b_ma_replace 141 = .ok (.goto 4, 3) := by decide +kernel
theorem d_ma_replace_144 : decode b_ma_replace 144 = .ok (.iconst 0, 1) := by decide +kernel
theorem d_ma_replace_145 : decode b_ma_replace 145 = .ok (.invokevirtual 105, 3) := by decide +kernel
theorem d_ma_replace_148 : decode b_ma_replace 148 = .ok (.goto 11, 3) := by decide +kernel
theorem d_ma_replace_151 : decode b_ma_replace 151 = .ok (.aload_n 0, 1) := by decide +kernel
theorem d_ma_replace_152 : decode b_ma_replace 152 = .ok (.getfield 28, 3) := by decide +kernel
theorem d_ma_replace_155 : decode b_ma_replace 155 = .ok (.aload_n 2, 1) := by decide +kernel
theorem d_ma_replace_156 : decode b_ma_replace 156 = .ok (.invokevirtual 85, 3) := by decide +kernel
theorem d_ma_replace_159 : decode b_ma_replace 159 = .ok (.iconst 0, 1) := by decide +kernel
theorem d_ma_replace_160 : decode b_ma_replace 160 = .ok (.ireturn, 1) := by decide +kernel
