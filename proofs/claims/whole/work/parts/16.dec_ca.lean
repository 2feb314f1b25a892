theorem d_ca_init_0 : decode b_ca_init 0 = .ok (.aload_n 0, 1) := by decide +kernel
theorem d_ca_init_1 : decode b_ca_init 1 = .ok (.invokespecial 3, 3) := by decide +kernel
theorem d_ca_init_4 : decode b_ca_init 4 = .ok (.aload_n 0, 1) := by decide +kernel
theorem d_ca_init_5 : decode b_ca_init 5 = .ok (.new 9, 3) := by decide +kernel
theorem d_ca_init_8 : decode b_ca_init 8 = .ok (.dup, 1) := by decide +kernel
theorem d_ca_init_9 : decode b_ca_init 9 = .ok (.invokespecial 11, 3) := by decide +kernel
theorem d_ca_init_12 : decode b_ca_init 12 = .ok (.putfield 12, 3) := by decide +kernel
theorem d_ca_init_15 : decode b_ca_init 15 = .ok (.aload_n 0, 1) := by decide +kernel
theorem d_ca_init_16 : decode b_ca_init 16 = .ok (.new 18, 3) := by decide +kernel
theorem d_ca_init_19 : decode b_ca_init 19 = .ok (.dup, 1) := by decide +kernel
theorem d_ca_init_20 : decode b_ca_init 20 = .ok (.bipush 18, 2) := by decide +kernel
theorem d_ca_init_22 : decode b_ca_init 22 = .ok (.invokespecial 20, 3) := by decide +kernel
theorem d_ca_init_25 : decode b_ca_init 25 = .ok (.putfield 23, 3) := by decide +kernel
theorem d_ca_init_28 : decode b_ca_init 28 = .ok (.aload_n 0, 1) := by decide +kernel
theorem d_ca_init_29 : decode b_ca_init 29 = .ok (.new 18, 3) := by decide +kernel
theorem d_ca_init_32 : decode b_ca_init 32 = .ok (.dup, 1) := by decide +kernel
theorem d_ca_init_33 : decode b_ca_init 33 = .ok (.bipush 18, 2) := by decide +kernel
theorem d_ca_init_35 : decode b_ca_init 35 = .ok (.invokespecial 20, 3) := by decide +kernel
theorem d_ca_init_38 : decode b_ca_init 38 = .ok (.putfield 27, 3) := by decide +kernel
theorem d_ca_init_41 : decode b_ca_init 41 = .ok (.aload_n 0, 1) := by decide +kernel
theorem d_ca_init_42 : decode b_ca_init 42 = .ok (.new 18, 3) := by decide +kernel
theorem d_ca_init_45 : decode b_ca_init 45 = .ok (.dup, 1) := by decide +kernel
theorem d_ca_init_46 : decode b_ca_init 46 = .ok (.bipush 18, 2) := by decide +kernel
theorem d_ca_init_48 : decode b_ca_init 48 = .ok (.invokespecial 20, 3) := by decide +kernel
theorem d_ca_init_51 : decode b_ca_init 51 = .ok (.putfield 30, 3) := by decide +kernel
theorem d_ca_init_54 : decode b_ca_init 54 = .ok (.aload_n 0, 1) := by decide +kernel
theorem d_ca_init_55 : decode b_ca_init 55 = .ok (.new 18, 3) := by decide +kernel
theorem d_ca_init_58 : decode b_ca_init 58 = .ok (.dup, 1) := by decide +kernel
theorem d_ca_init_59 : decode b_ca_init 59 = .ok (.bipush 18, 2) := by decide +kernel
theorem d_ca_init_61 : decode b_ca_init 61 = .ok (.invokespecial 20, 3) := by decide +kernel
theorem d_ca_init_64 : decode b_ca_init 64 = .ok (.putfield 33, 3) := by decide +kernel
theorem d_ca_init_67 : decode b_ca_init 67 = .ok (.aload_n 0, 1) := by decide +kernel
theorem d_ca_init_68 : decode b_ca_init 68 = .ok (.new 18, 3) := by decide +kernel
theorem d_ca_init_71 : decode b_ca_init 71 = .ok (.dup, 1) := by decide +kernel
theorem d_ca_init_72 : decode b_ca_init 72 = .ok (.bipush 18, 2) := by decide +kernel
theorem d_ca_init_74 : decode b_ca_init 74 = .ok (.invokespecial 20, 3) := by decide +kernel
theorem d_ca_init_77 : decode b_ca_init 77 = .ok (.putfield 36, 3) := by decide +kernel
theorem d_ca_init_80 : decode b_ca_init 80 = .ok (.aload_n 0, 1) := by decide +kernel
theorem d_ca_init_81 : decode b_ca_init 81 = .ok (.new 18, 3) := by decide +kernel
theorem d_ca_init_84 : decode b_ca_init 84 = .ok (.dup, 1) := by decide +kernel
theorem d_ca_init_85 : decode b_ca_init 85 = .ok (.bipush 18, 2) := by decide +kernel
theorem d_ca_init_87 : decode b_ca_init 87 = .ok (.invokespecial 20, 3) := by decide +kernel
theorem d_ca_init_90 : decode b_ca_init 90 = .ok (.putfield 39, 3) := by decide +kernel
theorem d_ca_init_93 : decode b_ca_init 93 = .ok (.return_, 1) := by decide +kernel
theorem d_ca_add_0 : decode b_ca_add 0 = .ok (.aload_n 0, 1) := by decide +kernel
theorem d_ca_add_1 : decode b_ca_add 1 = .ok (.getfield 12, 3) := by decide +kernel
theorem d_ca_add_4 : decode b_ca_add 4 = .ok (.aload_n 1, 1) := by decide +kernel
theorem d_ca_add_5 : decode b_ca_add 5 = .ok (.getfield 42, 3) := by decide +kernel
theorem d_ca_add_8 : decode b_ca_add 8 = .ok (.aload_n 2, 1) := by decide +kernel
theorem d_ca_add_9 : decode b_ca_add 9 = .ok (.getfield 42, 3) := by decide +kernel
theorem d_ca_add_12 : decode b_ca_add 12 = .ok (.aload_n 0, 1) := by decide +kernel
theorem d_ca_add_13 : decode b_ca_add 13 = .ok (.getfield 23, 3) := by decide +kernel
theorem d_ca_add_16 : decode b_ca_add 16 = .ok (.invokevirtual 47, 3) := by decide +kernel
theorem d_ca_add_19 : decode b_ca_add 19 = .ok (.aload_n 0, 1) := by decide +kernel
theorem d_ca_add_20 : decode b_ca_add 20 = .ok (.getfield 12, 3) := by decide +kernel
theorem d_ca_add_23 : decode b_ca_add 23 = .ok (.aload_n 1, 1) := by decide +kernel
theorem d_ca_add_24 : decode b_ca_add 24 = .ok (.getfield 42, 3) := by decide +kernel
theorem d_ca_add_27 : decode b_ca_add 27 = .ok (.aload_n 0, 1) := by decide +kernel
theorem d_ca_add_28 : decode b_ca_add 28 = .ok (.getfield 23, 3) := by decide +kernel
theorem d_ca_add_31 : decode b_ca_add 31 = .ok (.aload_n 0, 1) := by decide +kernel
theorem d_ca_add_32 : decode b_ca_add 32 = .ok (.getfield 27, 3) := by decide +kernel
theorem d_ca_add_35 : decode b_ca_add 35 = .ok (.invokevirtual 51, 3) := by decide +kernel
theorem d_ca_add_38 : decode b_ca_add 38 = .ok (.aload_n 0, 1) := by decide +kernel
theorem d_ca_add_39 : decode b_ca_add 39 = .ok (.getfield 12, 3) := by decide +kernel
theorem d_ca_add_42 : decode b_ca_add 42 = .ok (.aload_n 2, 1) := by decide +kernel
theorem d_ca_add_43 : decode b_ca_add 43 = .ok (.getfield 42, 3) := by decide +kernel
theorem d_ca_add_46 : decode b_ca_add 46 = .ok (.aload_n 0, 1) := by decide +kernel
theorem d_ca_add_47 : decode b_ca_add 47 = .ok (.getfield 23, 3) := by decide +kernel
theorem d_ca_add_50 : decode b_ca_add 50 = .ok (.aload_n 0, 1) := by decide +kernel
theorem d_ca_add_51 : decode b_ca_add 51 = .ok (.getfield 30, 3) := by decide +kernel
theorem d_ca_add_54 : decode b_ca_add 54 = .ok (.invokevirtual 51, 3) := by decide +kernel
theorem d_ca_add_57 : decode b_ca_add 57 = .ok (.aload_n 0, 1) := by decide +kernel
theorem d_ca_add_58 : decode b_ca_add 58 = .ok (.getfield 33, 3) := by decide +kernel
theorem d_ca_add_61 : decode b_ca_add 61 = .ok (.aload_n 1, 1) := by decide +kernel
theorem d_ca_add_62 : decode b_ca_add 62 = .ok (.getfield 54, 3) := by decide +kernel
theorem d_ca_add_65 : decode b_ca_add 65 = .ok (.aload_n 0, 1) := by decide +kernel
theorem d_ca_add_66 : decode b_ca_add 66 = .ok (.getfield 30, 3) := by decide +kernel
theorem d_ca_add_69 : decode b_ca_add 69 = .ok (.invokevirtual 57, 3) := by decide +kernel
theorem d_ca_add_72 : decode b_ca_add 72 = .ok (.aload_n 0, 1) := by decide +kernel
theorem d_ca_add_73 : decode b_ca_add 73 = .ok (.getfield 39, 3) := by decide +kernel
theorem d_ca_add_76 : decode b_ca_add 76 = .ok (.aload_n 2, 1) := by decide +kernel
theorem d_ca_add_77 : decode b_ca_add 77 = .ok (.getfield 54, 3) := by decide +kernel
theorem d_ca_add_80 : decode b_ca_add 80 = .ok (.aload_n 0, 1) := by decide +kernel
theorem d_ca_add_81 : decode b_ca_add 81 = .ok (.getfield 27, 3) := by decide +kernel
theorem d_ca_add_84 : decode b_ca_add 84 = .ok (.invokevirtual 57, 3) := by decide +kernel
theorem d_ca_add_87 : decode b_ca_add 87 = .ok (.aload_n 0, 1) := by decide +kernel
theorem d_ca_add_88 : decode b_ca_add 88 = .ok (.aload_n 1, 1) := by decide +kernel
theorem d_ca_add_89 : decode b_ca_add 89 = .ok (.getfield 61, 3) := by decide +kernel
theorem d_ca_add_92 : decode b_ca_add 92 = .ok (.aload_n 2, 1) := by decide +kernel
theorem d_ca_add_93 : decode b_ca_add 93 = .ok (.getfield 61, 3) := by decide +kernel
theorem d_ca_add_96 : decode b_ca_add 96 = .ok (.iload_n 3, 1) := by decide +kernel
theorem d_ca_add_97 : decode b_ca_add 97 = .ok (.if_icmp .eq 7, 3) := by decide +kernel
theorem d_ca_add_100 : decode b_ca_add 100 = .ok (.iconst 1, 1) := by decide +kernel
theorem d_ca_add_101 : decode b_ca_add 101 = .ok (.goto 4, 3) := by decide +kernel
theorem d_ca_add_104 : decode b_ca_add 104 = .ok (.iconst 0, 1) := by decide +kernel
theorem d_ca_add_105 : decode b_ca_add 105 = .ok (.invokevirtual 65, 3) := by decide +kernel
theorem d_ca_add_108 : decode b_ca_add 108 = .ok (.istore 4, 2) := by decide +kernel
theorem d_ca_add_110 : decode b_ca_add 110 = .ok (.aload_n 0, 1) := by decide +kernel
theorem d_ca_add_111 : decode b_ca_add 111 = .ok (.getfield 12, 3) := by decide +kernel
theorem d_ca_add_114 : decode b_ca_add 114 = .ok (.aload_n 0, 1) := by decide +kernel
theorem d_ca_add_115 : decode b_ca_add 115 = .ok (.getfield 33, 3) := by decide +kernel
theorem d_ca_add_118 : decode b_ca_add 118 = .ok (.aload_n 0, 1) := by decide +kernel
theorem d_ca_add_119 : decode b_ca_add 119 = .ok (.getfield 23, 3) := by decide +kernel
theorem d_ca_add_122 : decode b_ca_add 122 = .ok (.aload_n 0, 1) := by decide +kernel
theorem d_ca_add_123 : decode b_ca_add 123 = .ok (.getfield 39, 3) := by decide +kernel
theorem d_ca_add_126 : decode b_ca_add 126 = .ok (.invokevirtual 47, 3) := by decide +kernel
theorem d_ca_add_129 : decode b_ca_add 129 = .ok (.aload_n 0, 1) := by decide +kernel
theorem d_ca_add_130 : decode b_ca_add 130 = .ok (.getfield 12, 3) := by decide +kernel
theorem d_ca_add_133 : decode b_ca_add 133 = .ok (.aload_n 2, 1) := by decide +kernel
theorem d_ca_add_134 : decode b_ca_add 134 = .ok (.getfield 42, 3) := by decide +kernel
theorem d_ca_add_137 : decode b_ca_add 137 = .ok (.aload_n 0, 1) := by decide +kernel
theorem d_ca_add_138 : decode b_ca_add 138 = .ok (.getfield 39, 3) := by decide +kernel
theorem d_ca_add_141 : decode b_ca_add 141 = .ok (.aload_n 0, 1) := by decide +kernel
theorem d_ca_add_142 : decode b_ca_add 142 = .ok (.getfield 30, 3) := by decide +kernel
theorem d_ca_add_145 : decode b_ca_add 145 = .ok (.invokevirtual 51, 3) := by decide +kernel
theorem d_ca_add_148 : decode b_ca_add 148 = .ok (.aload_n 0, 1) := by decide +kernel
theorem d_ca_add_149 : decode b_ca_add 149 = .ok (.getfield 36, 3) := by decide +kernel
theorem d_ca_add_152 : decode b_ca_add 152 = .ok (.aload_n 0, 1) := by decide +kernel
theorem d_ca_add_153 : decode b_ca_add 153 = .ok (.getfield 27, 3) := by decide +kernel
theorem d_ca_add_156 : decode b_ca_add 156 = .ok (.aload_n 0, 1) := by decide +kernel
theorem d_ca_add_157 : decode b_ca_add 157 = .ok (.getfield 30, 3) := by decide +kernel
theorem d_ca_add_160 : decode b_ca_add 160 = .ok (.invokevirtual 57, 3) := by decide +kernel
theorem d_ca_add_163 : decode b_ca_add 163 = .ok (.aload_n 0, 1) := by decide +kernel
theorem d_ca_add_164 : decode b_ca_add 164 = .ok (.getfield 12, 3) := by decide +kernel
theorem d_ca_add_167 : decode b_ca_add 167 = .ok (.aload_n 0, 1) := by decide +kernel
theorem d_ca_add_168 : decode b_ca_add 168 = .ok (.getfield 33, 3) := by decide +kernel
theorem d_ca_add_171 : decode b_ca_add 171 = .ok (.aload_n 0, 1) := by decide +kernel
theorem d_ca_add_172 : decode b_ca_add 172 = .ok (.getfield 39, 3) := by decide +kernel
theorem d_ca_add_175 : decode b_ca_add 175 = .ok (.aload_n 0, 1) := by decide +kernel
theorem d_ca_add_176 : decode b_ca_add 176 = .ok (.getfield 23, 3) := by decide +kernel
theorem d_ca_add_179 : decode b_ca_add 179 = .ok (.invokevirtual 51, 3) := by decide +kernel
theorem d_ca_add_182 : decode b_ca_add 182 = .ok (.aload_n 0, 1) := by decide +kernel
theorem d_ca_add_183 : decode b_ca_add 183 = .ok (.aload_n 1, 1) := by decide +kernel
theorem d_ca_add_184 : decode b_ca_add 184 = .ok (.iload 4, 2) := by decide +kernel
theorem d_ca_add_186 : decode b_ca_add 186 = .ok (.aload_n 0, 1) := by decide +kernel
theorem d_ca_add_187 : decode b_ca_add 187 = .ok (.getfield 23, 3) := by decide +kernel
theorem d_ca_add_190 : decode b_ca_add 190 = .ok (.invokevirtual 69, 3) := by decide +kernel
theorem d_ca_add_193 : decode b_ca_add 193 = .ok (.ireturn, 1) := by decide +kernel
theorem d_ca_addSpare_0 : decode b_ca_addSpare 0 = .ok (.iload_n 1, 1) := by decide +kernel
theorem d_ca_addSpare_1 : decode b_ca_addSpare 1 = .ok (.iload_n 2, 1) := by decide +kernel
theorem d_ca_addSpare_2 : decode b_ca_addSpare 2 = .ok (.if_icmp .ne 16, 3) := by decide +kernel
theorem d_ca_addSpare_5 : decode b_ca_addSpare 5 = .ok (.aload_n 0, 1) := by decide +kernel
theorem d_ca_addSpare_6 : decode b_ca_addSpare 6 = .ok (.getfield 33, 3) := by decide +kernel
theorem d_ca_addSpare_9 : decode b_ca_addSpare 9 = .ok (.aload_n 0, 1) := by decide +kernel
theorem d_ca_addSpare_10 : decode b_ca_addSpare 10 = .ok (.getfield 39, 3) := by decide +kernel
theorem d_ca_addSpare_13 : decode b_ca_addSpare 13 = .ok (.invokevirtual 73, 3) := by decide +kernel
theorem d_ca_addSpare_16 : decode b_ca_addSpare 16 = .ok (.iload_n 1, 1) := by decide +kernel
theorem d_ca_addSpare_17 : decode b_ca_addSpare 17 = .ok (.ireturn, 1) := by decide +kernel
theorem d_ca_addSpare_18 : decode b_ca_addSpare 18 = .ok (.aload_n 0, 1) := by decide +kernel
theorem d_ca_addSpare_19 : decode b_ca_addSpare 19 = .ok (.getfield 33, 3) := by decide +kernel
theorem d_ca_addSpare_22 : decode b_ca_addSpare 22 = .ok (.aload_n 0, 1) := by decide +kernel
theorem d_ca_addSpare_23 : decode b_ca_addSpare 23 = .ok (.getfield 39, 3) := by decide +kernel
theorem d_ca_addSpare_26 : decode b_ca_addSpare 26 = .ok (.invokevirtual 77, 3) := by decide +kernel
theorem d_ca_addSpare_29 : decode b_ca_addSpare 29 = .ok (.ifCond .lt 16, 3) := by decide +kernel
theorem d_ca_addSpare_32 : decode b_ca_addSpare 32 = .ok (.aload_n 0, 1) := by decide +kernel
theorem d_ca_addSpare_33 : decode b_ca_addSpare 33 = .ok (.getfield 33, 3) := by decide +kernel
theorem d_ca_addSpare_36 : decode b_ca_addSpare 36 = .ok (.aload_n 0, 1) := by decide +kernel
theorem d_ca_addSpare_37 : decode b_ca_addSpare 37 = .ok (.getfield 39, 3) := by decide +kernel
theorem d_ca_addSpare_40 : decode b_ca_addSpare 40 = .ok (.invokevirtual 81, 3) := by decide +kernel
theorem d_ca_addSpare_43 : decode b_ca_addSpare 43 = .ok (.iload_n 1, 1) := by decide +kernel
theorem d_ca_addSpare_44 : decode b_ca_addSpare 44 = .ok (.ireturn, 1) := by decide +kernel
theorem d_ca_addSpare_45 : decode b_ca_addSpare 45 = .ok (.aload_n 0, 1) := by decide +kernel
theorem d_ca_addSpare_46 : decode b_ca_addSpare 46 = .ok (.getfield 39, 3) := by decide +kernel
theorem d_ca_addSpare_49 : decode b_ca_addSpare 49 = .ok (.aload_n 0, 1) := by decide +kernel
theorem d_ca_addSpare_50 : decode b_ca_addSpare 50 = .ok (.getfield 33, 3) := by decide +kernel
theorem d_ca_addSpare_53 : decode b_ca_addSpare 53 = .ok (.invokevirtual 81, 3) := by decide +kernel
theorem d_ca_addSpare_56 : decode b_ca_addSpare 56 = .ok (.aload_n 0, 1) := by decide +kernel
theorem d_ca_addSpare_57 : decode b_ca_addSpare 57 = .ok (.getfield 33, 3) := by decide +kernel
theorem d_ca_addSpare_60 : decode b_ca_addSpare 60 = .ok (.aload_n 0, 1) := by decide +kernel
theorem d_ca_addSpare_61 : decode b_ca_addSpare 61 = .ok (.getfield 39, 3) := by decide +kernel
theorem d_ca_addSpare_64 : decode b_ca_addSpare 64 = .ok (.invokevirtual 84, 3) := by decide +kernel
theorem d_ca_addSpare_67 : decode b_ca_addSpare 67 = .ok (.iload_n 2, 1) := by decide +kernel
theorem d_ca_addSpare_68 : decode b_ca_addSpare 68 = .ok (.ireturn, 1) := by decide +kernel
theorem d_ca_multiply_0 : decode b_ca_multiply 0 = .ok (.aload_n 0, 1) := by decide +kernel
theorem d_ca_multiply_1 : decode b_ca_multiply 1 = .ok (.getfield 12, 3) := by decide +kernel
theorem d_ca_multiply_4 : decode b_ca_multiply 4 = .ok (.aload_n 1, 1) := by decide +kernel
theorem d_ca_multiply_5 : decode b_ca_multiply 5 = .ok (.getfield 54, 3) := by decide +kernel
theorem d_ca_multiply_8 : decode b_ca_multiply 8 = .ok (.aload_n 3, 1) := by decide +kernel
theorem d_ca_multiply_9 : decode b_ca_multiply 9 = .ok (.aload_n 0, 1) := by decide +kernel
theorem d_ca_multiply_10 : decode b_ca_multiply 10 = .ok (.getfield 23, 3) := by decide +kernel
theorem d_ca_multiply_13 : decode b_ca_multiply 13 = .ok (.invokevirtual 47, 3) := by decide +kernel
theorem d_ca_multiply_16 : decode b_ca_multiply 16 = .ok (.aload_n 0, 1) := by decide +kernel
theorem d_ca_multiply_17 : decode b_ca_multiply 17 = .ok (.getfield 12, 3) := by decide +kernel
theorem d_ca_multiply_20 : decode b_ca_multiply 20 = .ok (.aload_n 1, 1) := by decide +kernel
theorem d_ca_multiply_21 : decode b_ca_multiply 21 = .ok (.getfield 54, 3) := by decide +kernel
theorem d_ca_multiply_24 : decode b_ca_multiply 24 = .ok (.aload_n 0, 1) := by decide +kernel
theorem d_ca_multiply_25 : decode b_ca_multiply 25 = .ok (.getfield 23, 3) := by decide +kernel
theorem d_ca_multiply_28 : decode b_ca_multiply 28 = .ok (.aload_n 0, 1) := by decide +kernel
theorem d_ca_multiply_29 : decode b_ca_multiply 29 = .ok (.getfield 27, 3) := by decide +kernel
theorem d_ca_multiply_32 : decode b_ca_multiply 32 = .ok (.invokevirtual 51, 3) := by decide +kernel
theorem d_ca_multiply_35 : decode b_ca_multiply 35 = .ok (.aload_n 0, 1) := by decide +kernel
theorem d_ca_multiply_36 : decode b_ca_multiply 36 = .ok (.getfield 12, 3) := by decide +kernel
theorem d_ca_multiply_39 : decode b_ca_multiply 39 = .ok (.aload_n 3, 1) := by decide +kernel
theorem d_ca_multiply_40 : decode b_ca_multiply 40 = .ok (.aload_n 0, 1) := by decide +kernel
theorem d_ca_multiply_41 : decode b_ca_multiply 41 = .ok (.getfield 23, 3) := by decide +kernel
theorem d_ca_multiply_44 : decode b_ca_multiply 44 = .ok (.aload_n 0, 1) := by decide +kernel
theorem d_ca_multiply_45 : decode b_ca_multiply 45 = .ok (.getfield 30, 3) := by decide +kernel
theorem d_ca_multiply_48 : decode b_ca_multiply 48 = .ok (.invokevirtual 51, 3) := by decide +kernel
theorem d_ca_multiply_51 : decode b_ca_multiply 51 = .ok (.aload_n 0, 1) := by decide +kernel
theorem d_ca_multiply_52 : decode b_ca_multiply 52 = .ok (.getfield 12, 3) := by decide +kernel
theorem d_ca_multiply_55 : decode b_ca_multiply 55 = .ok (.aload_n 2, 1) := by decide +kernel
theorem d_ca_multiply_56 : decode b_ca_multiply 56 = .ok (.aload_n 1, 1) := by decide +kernel
theorem d_ca_multiply_57 : decode b_ca_multiply 57 = .ok (.getfield 42, 3) := by decide +kernel
theorem d_ca_multiply_60 : decode b_ca_multiply 60 = .ok (.aload_n 0, 1) := by decide +kernel
theorem d_ca_multiply_61 : decode b_ca_multiply 61 = .ok (.getfield 23, 3) := by decide +kernel
theorem d_ca_multiply_64 : decode b_ca_multiply 64 = .ok (.invokevirtual 47, 3) := by decide +kernel
theorem d_ca_multiply_67 : decode b_ca_multiply 67 = .ok (.aload_n 0, 1) := by decide +kernel
theorem d_ca_multiply_68 : decode b_ca_multiply 68 = .ok (.getfield 12, 3) := by decide +kernel
theorem d_ca_multiply_71 : decode b_ca_multiply 71 = .ok (.aload_n 2, 1) := by decide +kernel
theorem d_ca_multiply_72 : decode b_ca_multiply 72 = .ok (.aload_n 0, 1) := by decide +kernel
theorem d_ca_multiply_73 : decode b_ca_multiply 73 = .ok (.getfield 23, 3) := by decide +kernel
theorem d_ca_multiply_76 : decode b_ca_multiply 76 = .ok (.aload_n 0, 1) := by decide +kernel
theorem d_ca_multiply_77 : decode b_ca_multiply 77 = .ok (.getfield 39, 3) := by decide +kernel
theorem d_ca_multiply_80 : decode b_ca_multiply 80 = .ok (.invokevirtual 51, 3) := by decide +kernel
theorem d_ca_multiply_83 : decode b_ca_multiply 83 = .ok (.aload_n 0, 1) := by decide +kernel
theorem d_ca_multiply_84 : decode b_ca_multiply 84 = .ok (.getfield 33, 3) := by decide +kernel
theorem d_ca_multiply_87 : decode b_ca_multiply 87 = .ok (.aload_n 0, 1) := by decide +kernel
theorem d_ca_multiply_88 : decode b_ca_multiply 88 = .ok (.getfield 27, 3) := by decide +kernel
theorem d_ca_multiply_91 : decode b_ca_multiply 91 = .ok (.aload_n 0, 1) := by decide +kernel
theorem d_ca_multiply_92 : decode b_ca_multiply 92 = .ok (.getfield 39, 3) := by decide +kernel
theorem d_ca_multiply_95 : decode b_ca_multiply 95 = .ok (.invokevirtual 57, 3) := by decide +kernel
theorem d_ca_multiply_98 : decode b_ca_multiply 98 = .ok (.aload_n 0, 1) := by decide +kernel
theorem d_ca_multiply_99 : decode b_ca_multiply 99 = .ok (.getfield 12, 3) := by decide +kernel
theorem d_ca_multiply_102 : decode b_ca_multiply 102 = .ok (.aload_n 1, 1) := by decide +kernel
theorem d_ca_multiply_103 : decode b_ca_multiply 103 = .ok (.getfield 42, 3) := by decide +kernel
theorem d_ca_multiply_106 : decode b_ca_multiply 106 = .ok (.aload_n 0, 1) := by decide +kernel
theorem d_ca_multiply_107 : decode b_ca_multiply 107 = .ok (.getfield 23, 3) := by decide +kernel
theorem d_ca_multiply_110 : decode b_ca_multiply 110 = .ok (.aload_n 0, 1) := by decide +kernel
theorem d_ca_multiply_111 : decode b_ca_multiply 111 = .ok (.getfield 39, 3) := by decide +kernel
theorem d_ca_multiply_114 : decode b_ca_multiply 114 = .ok (.invokevirtual 51, 3) := by decide +kernel
theorem d_ca_multiply_117 : decode b_ca_multiply 117 = .ok (.aload_n 0, 1) := by decide +kernel
theorem d_ca_multiply_118 : decode b_ca_multiply 118 = .ok (.getfield 36, 3) := by decide +kernel
theorem d_ca_multiply_121 : decode b_ca_multiply 121 = .ok (.aload_n 0, 1) := by decide +kernel
theorem d_ca_multiply_122 : decode b_ca_multiply 122 = .ok (.getfield 30, 3) := by decide +kernel
theorem d_ca_multiply_125 : decode b_ca_multiply 125 = .ok (.aload_n 0, 1) := by decide +kernel
theorem d_ca_multiply_126 : decode b_ca_multiply 126 = .ok (.getfield 39, 3) := by decide +kernel
theorem d_ca_multiply_129 : decode b_ca_multiply 129 = .ok (.invokevirtual 57, 3) := by decide +kernel
theorem d_ca_multiply_132 : decode b_ca_multiply 132 = .ok (.aload_n 0, 1) := by decide +kernel
theorem d_ca_multiply_133 : decode b_ca_multiply 133 = .ok (.aload_n 1, 1) := by decide +kernel
theorem d_ca_multiply_134 : decode b_ca_multiply 134 = .ok (.aload_n 1, 1) := by decide +kernel
theorem d_ca_multiply_135 : decode b_ca_multiply 135 = .ok (.getfield 61, 3) := by decide +kernel
theorem d_ca_multiply_138 : decode b_ca_multiply 138 = .ok (.iload 4, 2) := by decide +kernel
theorem d_ca_multiply_140 : decode b_ca_multiply 140 = .ok (.if_icmp .eq 7, 3) := by decide +kernel
theorem d_ca_multiply_143 : decode b_ca_multiply 143 = .ok (.iconst 1, 1) := by decide +kernel
theorem d_ca_multiply_144 : decode b_ca_multiply 144 = .ok (.goto 4, 3) := by decide +kernel
theorem d_ca_multiply_147 : decode b_ca_multiply 147 = .ok (.iconst 0, 1) := by decide +kernel
theorem d_ca_multiply_148 : decode b_ca_multiply 148 = .ok (.aload_n 0, 1) := by decide +kernel
theorem d_ca_multiply_149 : decode b_ca_multiply 149 = .ok (.getfield 33, 3) := by decide +kernel
theorem d_ca_multiply_152 : decode b_ca_multiply 152 = .ok (.invokevirtual 69, 3) := by decide +kernel
theorem d_ca_multiply_155 : decode b_ca_multiply 155 = .ok (.ireturn, 1) := by decide +kernel
theorem d_ca_divideWhole_0 : decode b_ca_divideWhole 0 = .ok (.aload_n 1, 1) := by decide +kernel
theorem d_ca_divideWhole_1 : decode b_ca_divideWhole 1 = .ok (.invokevirtual 87, 3) := by decide +kernel
theorem d_ca_divideWhole_4 : decode b_ca_divideWhole 4 = .ok (.ifCond .eq 10, 3) := by decide +kernel
theorem d_ca_divideWhole_7 : decode b_ca_divideWhole 7 = .ok (.aload_n 2, 1) := by decide +kernel
theorem d_ca_divideWhole_8 : decode b_ca_divideWhole 8 = .ok (.invokevirtual 87, 3) := by decide +kernel
theorem d_ca_divideWhole_11 : decode b_ca_divideWhole 11 = .ok (.ifCond .ne 5, 3) := by decide +kernel
theorem d_ca_divideWhole_14 : decode b_ca_divideWhole 14 = .ok (.iconst 3, 1) := by decide +kernel
theorem d_ca_divideWhole_15 : decode b_ca_divideWhole 15 = .ok (.ireturn, 1) := by decide +kernel
theorem d_ca_divideWhole_16 : decode b_ca_divideWhole 16 = .ok (.aload_n 2, 1) := by decide +kernel
theorem d_ca_divideWhole_17 : decode b_ca_divideWhole 17 = .ok (.invokevirtual 91, 3) := by decide +kernel
theorem d_ca_divideWhole_20 : decode b_ca_divideWhole 20 = .ok (.ifCond .eq 5, 3) := by decide +kernel
theorem d_ca_divideWhole_23 : decode b_ca_divideWhole 23 = .ok (.iconst 2, 1) := by decide +kernel
theorem d_ca_divideWhole_24 : decode b_ca_divideWhole 24 = .ok (.ireturn, 1) := by decide +kernel
theorem d_ca_divideWhole_25 : decode b_ca_divideWhole 25 = .ok (.aload_n 0, 1) := by decide +kernel
theorem d_ca_divideWhole_26 : decode b_ca_divideWhole 26 = .ok (.getfield 12, 3) := by decide +kernel
theorem d_ca_divideWhole_29 : decode b_ca_divideWhole 29 = .ok (.aload_n 1, 1) := by decide +kernel
theorem d_ca_divideWhole_30 : decode b_ca_divideWhole 30 = .ok (.getfield 54, 3) := by decide +kernel
theorem d_ca_divideWhole_33 : decode b_ca_divideWhole 33 = .ok (.aload_n 2, 1) := by decide +kernel
theorem d_ca_divideWhole_34 : decode b_ca_divideWhole 34 = .ok (.getfield 54, 3) := by decide +kernel
theorem d_ca_divideWhole_37 : decode b_ca_divideWhole 37 = .ok (.aload_n 0, 1) := by decide +kernel
theorem d_ca_divideWhole_38 : decode b_ca_divideWhole 38 = .ok (.getfield 33, 3) := by decide +kernel
theorem d_ca_divideWhole_41 : decode b_ca_divideWhole 41 = .ok (.invokevirtual 51, 3) := by decide +kernel
theorem d_ca_divideWhole_44 : decode b_ca_divideWhole 44 = .ok (.aload_n 0, 1) := by decide +kernel
theorem d_ca_divideWhole_45 : decode b_ca_divideWhole 45 = .ok (.getfield 36, 3) := by decide +kernel
theorem d_ca_divideWhole_48 : decode b_ca_divideWhole 48 = .ok (.iconst 1, 1) := by decide +kernel
theorem d_ca_divideWhole_49 : decode b_ca_divideWhole 49 = .ok (.invokevirtual 94, 3) := by decide +kernel
theorem d_ca_divideWhole_52 : decode b_ca_divideWhole 52 = .ok (.iload_n 3, 1) := by decide +kernel
theorem d_ca_divideWhole_53 : decode b_ca_divideWhole 53 = .ok (.ifCond .eq 20, 3) := by decide +kernel
theorem d_ca_divideWhole_56 : decode b_ca_divideWhole 56 = .ok (.aload_n 0, 1) := by decide +kernel
theorem d_ca_divideWhole_57 : decode b_ca_divideWhole 57 = .ok (.aload_n 1, 1) := by decide +kernel
theorem d_ca_divideWhole_58 : decode b_ca_divideWhole 58 = .ok (.aload_n 1, 1) := by decide +kernel
theorem d_ca_divideWhole_59 : decode b_ca_divideWhole 59 = .ok (.getfield 61, 3) := by decide +kernel
theorem d_ca_divideWhole_62 : decode b_ca_divideWhole 62 = .ok (.aload_n 0, 1) := by decide +kernel
theorem d_ca_divideWhole_63 : decode b_ca_divideWhole 63 = .ok (.getfield 12, 3) := by decide +kernel
theorem d_ca_divideWhole_66 : decode b_ca_divideWhole 66 = .ok (.getfield 97, 3) := by decide +kernel
theorem d_ca_divideWhole_69 : decode b_ca_divideWhole 69 = .ok (.invokevirtual 69, 3) := by decide +kernel
theorem d_ca_divideWhole_72 : decode b_ca_divideWhole 72 = .ok (.ireturn, 1) := by decide +kernel
theorem d_ca_divideWhole_73 : decode b_ca_divideWhole 73 = .ok (.aload_n 0, 1) := by decide +kernel
theorem d_ca_divideWhole_74 : decode b_ca_divideWhole 74 = .ok (.aload_n 1, 1) := by decide +kernel
theorem d_ca_divideWhole_75 : decode b_ca_divideWhole 75 = .ok (.aload_n 1, 1) := by decide +kernel
theorem d_ca_divideWhole_76 : decode b_ca_divideWhole 76 = .ok (.getfield 61, 3) := by decide +kernel
theorem d_ca_divideWhole_79 : decode b_ca_divideWhole 79 = .ok (.aload_n 2, 1) := by decide +kernel
theorem d_ca_divideWhole_80 : decode b_ca_divideWhole 80 = .ok (.getfield 61, 3) := by decide +kernel
theorem d_ca_divideWhole_83 : decode b_ca_divideWhole 83 = .ok (.if_icmp .eq 7, 3) := by decide +kernel
theorem d_ca_divideWhole_86 : decode b_ca_divideWhole 86 = .ok (.iconst 1, 1) := by decide +kernel
theorem d_ca_divideWhole_87 : decode b_ca_divideWhole 87 = .ok (.goto 4, 3) := by decide +kernel
theorem d_ca_divideWhole_90 : decode b_ca_divideWhole 90 = .ok (.iconst 0, 1) := by decide +kernel
theorem d_ca_divideWhole_91 : decode b_ca_divideWhole 91 = .ok (.aload_n 0, 1) := by decide +kernel
theorem d_ca_divideWhole_92 : decode b_ca_divideWhole 92 = .ok (.getfield 33, 3) := by decide +kernel
theorem d_ca_divideWhole_95 : decode b_ca_divideWhole 95 = .ok (.invokevirtual 69, 3) := by decide +kernel
theorem d_ca_divideWhole_98 : decode b_ca_divideWhole 98 = .ok (.ireturn, 1) := by decide +kernel
theorem d_ca_joinGreatest_0 : decode b_ca_joinGreatest 0 = .ok (.aload_n 2, 1) := by decide +kernel
theorem d_ca_joinGreatest_1 : decode b_ca_joinGreatest 1 = .ok (.invokevirtual 87, 3) := by decide +kernel
theorem d_ca_joinGreatest_4 : decode b_ca_joinGreatest 4 = .ok (.ifCond .ne 5, 3) := by decide +kernel
theorem d_ca_joinGreatest_7 : decode b_ca_joinGreatest 7 = .ok (.iconst 3, 1) := by decide +kernel
theorem d_ca_joinGreatest_8 : decode b_ca_joinGreatest 8 = .ok (.ireturn, 1) := by decide +kernel
theorem d_ca_joinGreatest_9 : decode b_ca_joinGreatest 9 = .ok (.aload_n 0, 1) := by decide +kernel
theorem d_ca_joinGreatest_10 : decode b_ca_joinGreatest 10 = .ok (.getfield 12, 3) := by decide +kernel
theorem d_ca_joinGreatest_13 : decode b_ca_joinGreatest 13 = .ok (.aload_n 1, 1) := by decide +kernel
theorem d_ca_joinGreatest_14 : decode b_ca_joinGreatest 14 = .ok (.getfield 54, 3) := by decide +kernel
theorem d_ca_joinGreatest_17 : decode b_ca_joinGreatest 17 = .ok (.aload_n 2, 1) := by decide +kernel
theorem d_ca_joinGreatest_18 : decode b_ca_joinGreatest 18 = .ok (.getfield 54, 3) := by decide +kernel
theorem d_ca_joinGreatest_21 : decode b_ca_joinGreatest 21 = .ok (.aload_n 0, 1) := by decide +kernel
theorem d_ca_joinGreatest_22 : decode b_ca_joinGreatest 22 = .ok (.getfield 33, 3) := by decide +kernel
theorem d_ca_joinGreatest_25 : decode b_ca_joinGreatest 25 = .ok (.invokevirtual 47, 3) := by decide +kernel
theorem d_ca_joinGreatest_28 : decode b_ca_joinGreatest 28 = .ok (.aload_n 0, 1) := by decide +kernel
theorem d_ca_joinGreatest_29 : decode b_ca_joinGreatest 29 = .ok (.getfield 36, 3) := by decide +kernel
theorem d_ca_joinGreatest_32 : decode b_ca_joinGreatest 32 = .ok (.iconst 1, 1) := by decide +kernel
theorem d_ca_joinGreatest_33 : decode b_ca_joinGreatest 33 = .ok (.invokevirtual 94, 3) := by decide +kernel
theorem d_ca_joinGreatest_36 : decode b_ca_joinGreatest 36 = .ok (.aload_n 0, 1) := by decide +kernel
theorem d_ca_joinGreatest_37 : decode b_ca_joinGreatest 37 = .ok (.aload_n 1, 1) := by decide +kernel
theorem d_ca_joinGreatest_38 : decode b_ca_joinGreatest 38 = .ok (.iconst 0, 1) := by decide +kernel
theorem d_ca_joinGreatest_39 : decode b_ca_joinGreatest 39 = .ok (.aload_n 0, 1) := by decide +kernel
theorem d_ca_joinGreatest_40 : decode b_ca_joinGreatest 40 = .ok (.getfield 33, 3) := by decide +kernel
theorem d_ca_joinGreatest_43 : decode b_ca_joinGreatest 43 = .ok (.invokevirtual 69, 3) := by decide +kernel
theorem d_ca_joinGreatest_46 : decode b_ca_joinGreatest 46 = .ok (.ireturn, 1) := by decide +kernel
theorem d_ca_compare_0 : decode b_ca_compare 0 = .ok (.aload_n 1, 1) := by decide +kernel
theorem d_ca_compare_1 : decode b_ca_compare 1 = .ok (.getfield 61, 3) := by decide +kernel
theorem d_ca_compare_4 : decode b_ca_compare 4 = .ok (.aload_n 2, 1) := by decide +kernel
theorem d_ca_compare_5 : decode b_ca_compare 5 = .ok (.getfield 61, 3) := by decide +kernel
theorem d_ca_compare_8 : decode b_ca_compare 8 = .ok (.if_icmp .eq 16, 3) := by decide +kernel
theorem d_ca_compare_11 : decode b_ca_compare 11 = .ok (.aload_n 1, 1) := by decide +kernel
theorem d_ca_compare_12 : decode b_ca_compare 12 = .ok (.getfield 61, 3) := by decide +kernel
theorem d_ca_compare_15 : decode b_ca_compare 15 = .ok (.ifCond .eq 7, 3) := by decide +kernel
theorem d_ca_compare_18 : decode b_ca_compare 18 = .ok (.iconst (-1), 1) := by decide +kernel
theorem d_ca_compare_19 : decode b_ca_compare 19 = .ok (.goto 4, 3) := by decide +kernel
theorem d_ca_compare_22 : decode b_ca_compare 22 = .ok (.iconst 1, 1) := by decide +kernel
theorem d_ca_compare_23 : decode b_ca_compare 23 = .ok (.ireturn, 1) := by decide +kernel
theorem d_ca_compare_24 : decode b_ca_compare 24 = .ok (.aload_n 0, 1) := by decide +kernel
theorem d_ca_compare_25 : decode b_ca_compare 25 = .ok (.getfield 33, 3) := by decide +kernel
theorem d_ca_compare_28 : decode b_ca_compare 28 = .ok (.aload_n 1, 1) := by decide +kernel
theorem d_ca_compare_29 : decode b_ca_compare 29 = .ok (.getfield 54, 3) := by decide +kernel
theorem d_ca_compare_32 : decode b_ca_compare 32 = .ok (.aload_n 2, 1) := by decide +kernel
theorem d_ca_compare_33 : decode b_ca_compare 33 = .ok (.getfield 42, 3) := by decide +kernel
theorem d_ca_compare_36 : decode b_ca_compare 36 = .ok (.invokevirtual 57, 3) := by decide +kernel
theorem d_ca_compare_39 : decode b_ca_compare 39 = .ok (.aload_n 0, 1) := by decide +kernel
theorem d_ca_compare_40 : decode b_ca_compare 40 = .ok (.getfield 36, 3) := by decide +kernel
theorem d_ca_compare_43 : decode b_ca_compare 43 = .ok (.aload_n 2, 1) := by decide +kernel
theorem d_ca_compare_44 : decode b_ca_compare 44 = .ok (.getfield 54, 3) := by decide +kernel
theorem d_ca_compare_47 : decode b_ca_compare 47 = .ok (.aload_n 1, 1) := by decide +kernel
theorem d_ca_compare_48 : decode b_ca_compare 48 = .ok (.getfield 42, 3) := by decide +kernel
theorem d_ca_compare_51 : decode b_ca_compare 51 = .ok (.invokevirtual 57, 3) := by decide +kernel
theorem d_ca_compare_54 : decode b_ca_compare 54 = .ok (.aload_n 1, 1) := by decide +kernel
theorem d_ca_compare_55 : decode b_ca_compare 55 = .ok (.getfield 61, 3) := by decide +kernel
theorem d_ca_compare_58 : decode b_ca_compare 58 = .ok (.ifCond .eq 17, 3) := by decide +kernel
theorem d_ca_compare_61 : decode b_ca_compare 61 = .ok (.aload_n 0, 1) := by decide +kernel
theorem d_ca_compare_62 : decode b_ca_compare 62 = .ok (.getfield 36, 3) := by decide +kernel
theorem d_ca_compare_65 : decode b_ca_compare 65 = .ok (.aload_n 0, 1) := by decide +kernel
theorem d_ca_compare_66 : decode b_ca_compare 66 = .ok (.getfield 33, 3) := by decide +kernel
theorem d_ca_compare_69 : decode b_ca_compare 69 = .ok (.invokevirtual 77, 3) := by decide +kernel
theorem d_ca_compare_72 : decode b_ca_compare 72 = .ok (.goto 14, 3) := by decide +kernel
theorem d_ca_compare_75 : decode b_ca_compare 75 = .ok (.aload_n 0, 1) := by decide +kernel
theorem d_ca_compare_76 : decode b_ca_compare 76 = .ok (.getfield 33, 3) := by decide +kernel
theorem d_ca_compare_79 : decode b_ca_compare 79 = .ok (.aload_n 0, 1) := by decide +kernel
theorem d_ca_compare_80 : decode b_ca_compare 80 = .ok (.getfield 36, 3) := by decide +kernel
theorem d_ca_compare_83 : decode b_ca_compare 83 = .ok (.invokevirtual 77, 3) := by decide +kernel
theorem d_ca_compare_86 : decode b_ca_compare 86 = .ok (.ireturn, 1) := by decide +kernel
theorem d_ca_settleAt_0 : decode b_ca_settleAt 0 = .ok (.aload_n 3, 1) := by decide +kernel
theorem d_ca_settleAt_1 : decode b_ca_settleAt 1 = .ok (.invokevirtual 100, 3) := by decide +kernel
theorem d_ca_settleAt_4 : decode b_ca_settleAt 4 = .ok (.ifCond .ne 13, 3) := by decide +kernel
theorem d_ca_settleAt_7 : decode b_ca_settleAt 7 = .ok (.aload_n 0, 1) := by decide +kernel
theorem d_ca_settleAt_8 : decode b_ca_settleAt 8 = .ok (.getfield 36, 3) := by decide +kernel
theorem d_ca_settleAt_11 : decode b_ca_settleAt 11 = .ok (.invokevirtual 100, 3) := by decide +kernel
theorem d_ca_settleAt_14 : decode b_ca_settleAt 14 = .ok (.ifCond .eq 5, 3) := by decide +kernel
theorem d_ca_settleAt_17 : decode b_ca_settleAt 17 = .ok (.iconst 1, 1) := by decide +kernel
theorem d_ca_settleAt_18 : decode b_ca_settleAt 18 = .ok (.ireturn, 1) := by decide +kernel
theorem d_ca_settleAt_19 : decode b_ca_settleAt 19 = .ok (.aload_n 1, 1) := by decide +kernel
theorem d_ca_settleAt_20 : decode b_ca_settleAt 20 = .ok (.getfield 54, 3) := by decide +kernel
theorem d_ca_settleAt_23 : decode b_ca_settleAt 23 = .ok (.aload_n 3, 1) := by decide +kernel
theorem d_ca_settleAt_24 : decode b_ca_settleAt 24 = .ok (.invokevirtual 84, 3) := by decide +kernel
theorem d_ca_settleAt_27 : decode b_ca_settleAt 27 = .ok (.aload_n 1, 1) := by decide +kernel
theorem d_ca_settleAt_28 : decode b_ca_settleAt 28 = .ok (.getfield 42, 3) := by decide +kernel
theorem d_ca_settleAt_31 : decode b_ca_settleAt 31 = .ok (.aload_n 0, 1) := by decide +kernel
theorem d_ca_settleAt_32 : decode b_ca_settleAt 32 = .ok (.getfield 36, 3) := by decide +kernel
theorem d_ca_settleAt_35 : decode b_ca_settleAt 35 = .ok (.invokevirtual 84, 3) := by decide +kernel
theorem d_ca_settleAt_38 : decode b_ca_settleAt 38 = .ok (.aload_n 1, 1) := by decide +kernel
theorem d_ca_settleAt_39 : decode b_ca_settleAt 39 = .ok (.iload_n 2, 1) := by decide +kernel
theorem d_ca_settleAt_40 : decode b_ca_settleAt 40 = .ok (.ifCond .eq 14, 3) := by decide +kernel
theorem d_ca_settleAt_43 : decode b_ca_settleAt 43 = .ok (.aload_n 3, 1) := by decide +kernel
theorem d_ca_settleAt_44 : decode b_ca_settleAt 44 = .ok (.invokevirtual 103, 3) := by decide +kernel
theorem d_ca_settleAt_47 : decode b_ca_settleAt 47 = .ok (.ifCond .ne 7, 3) := by decide +kernel
theorem d_ca_settleAt_50 : decode b_ca_settleAt 50 = .ok (.iconst 1, 1) := by decide +kernel
theorem d_ca_settleAt_51 : decode b_ca_settleAt 51 = .ok (.goto 4, 3) := by decide +kernel
theorem d_ca_settleAt_54 : decode b_ca_settleAt 54 = .ok (.iconst 0, 1) := by decide +kernel
theorem d_ca_settleAt_55 : decode b_ca_settleAt 55 = .ok (.putfield 61, 3) := by decide +kernel
theorem d_ca_settleAt_58 : decode b_ca_settleAt 58 = .ok (.iconst 0, 1) := by decide +kernel
theorem d_ca_settleAt_59 : decode b_ca_settleAt 59 = .ok (.ireturn, 1) := by decide +kernel
