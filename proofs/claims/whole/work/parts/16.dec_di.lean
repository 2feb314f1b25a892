theorem d_di_init_0 : decode b_di_init 0 = .ok (.aload_n 0, 1) := by decide +kernel
theorem d_di_init_1 : decode b_di_init 1 = .ok (.invokespecial 3, 3) := by decide +kernel
theorem d_di_init_4 : decode b_di_init 4 = .ok (.aload_n 0, 1) := by decide +kernel
theorem d_di_init_5 : decode b_di_init 5 = .ok (.new 9, 3) := by decide +kernel
theorem d_di_init_8 : decode b_di_init 8 = .ok (.dup, 1) := by decide +kernel
theorem d_di_init_9 : decode b_di_init 9 = .ok (.bipush 18, 2) := by decide +kernel
theorem d_di_init_11 : decode b_di_init 11 = .ok (.invokespecial 11, 3) := by decide +kernel
theorem d_di_init_14 : decode b_di_init 14 = .ok (.putfield 14, 3) := by decide +kernel
theorem d_di_init_17 : decode b_di_init 17 = .ok (.aload_n 0, 1) := by decide +kernel
theorem d_di_init_18 : decode b_di_init 18 = .ok (.new 9, 3) := by decide +kernel
theorem d_di_init_21 : decode b_di_init 21 = .ok (.dup, 1) := by decide +kernel
theorem d_di_init_22 : decode b_di_init 22 = .ok (.bipush 18, 2) := by decide +kernel
theorem d_di_init_24 : decode b_di_init 24 = .ok (.invokespecial 11, 3) := by decide +kernel
theorem d_di_init_27 : decode b_di_init 27 = .ok (.putfield 20, 3) := by decide +kernel
theorem d_di_init_30 : decode b_di_init 30 = .ok (.aload_n 0, 1) := by decide +kernel
theorem d_di_init_31 : decode b_di_init 31 = .ok (.new 9, 3) := by decide +kernel
theorem d_di_init_34 : decode b_di_init 34 = .ok (.dup, 1) := by decide +kernel
theorem d_di_init_35 : decode b_di_init 35 = .ok (.bipush 18, 2) := by decide +kernel
theorem d_di_init_37 : decode b_di_init 37 = .ok (.invokespecial 11, 3) := by decide +kernel
theorem d_di_init_40 : decode b_di_init 40 = .ok (.putfield 23, 3) := by decide +kernel
theorem d_di_init_43 : decode b_di_init 43 = .ok (.aload_n 0, 1) := by decide +kernel
theorem d_di_init_44 : decode b_di_init 44 = .ok (.new 9, 3) := by decide +kernel
theorem d_di_init_47 : decode b_di_init 47 = .ok (.dup, 1) := by decide +kernel
theorem d_di_init_48 : decode b_di_init 48 = .ok (.bipush 18, 2) := by decide +kernel
theorem d_di_init_50 : decode b_di_init 50 = .ok (.invokespecial 11, 3) := by decide +kernel
theorem d_di_init_53 : decode b_di_init 53 = .ok (.putfield 26, 3) := by decide +kernel
theorem d_di_init_56 : decode b_di_init 56 = .ok (.return_, 1) := by decide +kernel
theorem d_di_divide_0 : decode b_di_divide 0 = .ok (.aload_n 0, 1) := by decide +kernel
theorem d_di_divide_1 : decode b_di_divide 1 = .ok (.getfield 14, 3) := by decide +kernel
theorem d_di_divide_4 : decode b_di_divide 4 = .ok (.aload_n 1, 1) := by decide +kernel
theorem d_di_divide_5 : decode b_di_divide 5 = .ok (.invokevirtual 29, 3) := by decide +kernel
theorem d_di_divide_8 : decode b_di_divide 8 = .ok (.aload_n 3, 1) := by decide +kernel
theorem d_di_divide_9 : decode b_di_divide 9 = .ok (.iconst 0, 1) := by decide +kernel
theorem d_di_divide_10 : decode b_di_divide 10 = .ok (.invokevirtual 33, 3) := by decide +kernel
theorem d_di_divide_13 : decode b_di_divide 13 = .ok (.aload_n 2, 1) := by decide +kernel
theorem d_di_divide_14 : decode b_di_divide 14 = .ok (.invokevirtual 36, 3) := by decide +kernel
theorem d_di_divide_17 : decode b_di_divide 17 = .ok (.ifCond .ne 11, 3) := by decide +kernel
theorem d_di_divide_20 : decode b_di_divide 20 = .ok (.aload_n 1, 1) := by decide +kernel
theorem d_di_divide_21 : decode b_di_divide 21 = .ok (.aload_n 2, 1) := by decide +kernel
theorem d_di_divide_22 : decode b_di_divide 22 = .ok (.invokevirtual 40, 3) := by decide +kernel
theorem d_di_divide_25 : decode b_di_divide 25 = .ok (.ifCond .ge 4, 3) := by decide +kernel
theorem d_di_divide_28 : decode b_di_divide 28 = .ok (.return_, 1) := by decide +kernel
theorem d_di_divide_29 : decode b_di_divide 29 = .ok (.ldc 44, 2) := by decide +kernel
theorem d_di_divide_31 : decode b_di_divide 31 = .ok (.aload_n 2, 1) := by decide +kernel
theorem d_di_divide_32 : decode b_di_divide 32 = .ok (.getfield 45, 3) := by decide +kernel
theorem d_di_divide_35 : decode b_di_divide 35 = .ok (.aload_n 2, 1) := by decide +kernel
theorem d_di_divide_36 : decode b_di_divide 36 = .ok (.getfield 49, 3) := by decide +kernel
theorem d_di_divide_39 : decode b_di_divide 39 = .ok (.iconst 1, 1) := by decide +kernel
theorem d_di_divide_40 : decode b_di_divide 40 = .ok (.isub, 1) := by decide +kernel
theorem d_di_divide_41 : decode b_di_divide 41 = .ok (.iaload, 1) := by decide +kernel
theorem d_di_divide_42 : decode b_di_divide 42 = .ok (.iconst 1, 1) := by decide +kernel
theorem d_di_divide_43 : decode b_di_divide 43 = .ok (.iadd, 1) := by decide +kernel
theorem d_di_divide_44 : decode b_di_divide 44 = .ok (.idiv, 1) := by decide +kernel
theorem d_di_divide_45 : decode b_di_divide 45 = .ok (.istore 4, 2) := by decide +kernel
theorem d_di_divide_47 : decode b_di_divide 47 = .ok (.aload_n 0, 1) := by decide +kernel
theorem d_di_divide_48 : decode b_di_divide 48 = .ok (.getfield 20, 3) := by decide +kernel
theorem d_di_divide_51 : decode b_di_divide 51 = .ok (.aload_n 2, 1) := by decide +kernel
theorem d_di_divide_52 : decode b_di_divide 52 = .ok (.invokevirtual 29, 3) := by decide +kernel
theorem d_di_divide_55 : decode b_di_divide 55 = .ok (.aload_n 0, 1) := by decide +kernel
theorem d_di_divide_56 : decode b_di_divide 56 = .ok (.getfield 20, 3) := by decide +kernel
theorem d_di_divide_59 : decode b_di_divide 59 = .ok (.iload 4, 2) := by decide +kernel
theorem d_di_divide_61 : decode b_di_divide 61 = .ok (.iconst 0, 1) := by decide +kernel
theorem d_di_divide_62 : decode b_di_divide 62 = .ok (.invokevirtual 53, 3) := by decide +kernel
theorem d_di_divide_65 : decode b_di_divide 65 = .ok (.aload_n 0, 1) := by decide +kernel
theorem d_di_divide_66 : decode b_di_divide 66 = .ok (.getfield 14, 3) := by decide +kernel
theorem d_di_divide_69 : decode b_di_divide 69 = .ok (.getfield 45, 3) := by decide +kernel
theorem d_di_divide_72 : decode b_di_divide 72 = .ok (.aload_n 1, 1) := by decide +kernel
theorem d_di_divide_73 : decode b_di_divide 73 = .ok (.getfield 49, 3) := by decide +kernel
theorem d_di_divide_76 : decode b_di_divide 76 = .ok (.iconst 0, 1) := by decide +kernel
theorem d_di_divide_77 : decode b_di_divide 77 = .ok (.iastore, 1) := by decide +kernel
theorem d_di_divide_78 : decode b_di_divide 78 = .ok (.aload_n 0, 1) := by decide +kernel
theorem d_di_divide_79 : decode b_di_divide 79 = .ok (.getfield 14, 3) := by decide +kernel
theorem d_di_divide_82 : decode b_di_divide 82 = .ok (.iload 4, 2) := by decide +kernel
theorem d_di_divide_84 : decode b_di_divide 84 = .ok (.iconst 0, 1) := by decide +kernel
theorem d_di_divide_85 : decode b_di_divide 85 = .ok (.invokevirtual 53, 3) := by decide +kernel
theorem d_di_divide_88 : decode b_di_divide 88 = .ok (.aload_n 1, 1) := by decide +kernel
theorem d_di_divide_89 : decode b_di_divide 89 = .ok (.getfield 49, 3) := by decide +kernel
theorem d_di_divide_92 : decode b_di_divide 92 = .ok (.aload_n 2, 1) := by decide +kernel
theorem d_di_divide_93 : decode b_di_divide 93 = .ok (.getfield 49, 3) := by decide +kernel
theorem d_di_divide_96 : decode b_di_divide 96 = .ok (.isub, 1) := by decide +kernel
theorem d_di_divide_97 : decode b_di_divide 97 = .ok (.istore 5, 2) := by decide +kernel
theorem d_di_divide_99 : decode b_di_divide 99 = .ok (.iload 5, 2) := by decide +kernel
theorem d_di_divide_101 : decode b_di_divide 101 = .ok (.ifCond .lt 22, 3) := by decide +kernel
theorem d_di_divide_104 : decode b_di_divide 104 = .ok (.aload_n 3, 1) := by decide +kernel
theorem d_di_divide_105 : decode b_di_divide 105 = .ok (.getfield 45, 3) := by decide +kernel
theorem d_di_divide_108 : decode b_di_divide 108 = .ok (.iload 5, 2) := by decide +kernel
theorem d_di_divide_110 : decode b_di_divide 110 = .ok (.aload_n 0, 1) := by decide +kernel
theorem d_di_divide_111 : decode b_di_divide 111 = .ok (.iload 5, 2) := by decide +kernel
theorem d_di_divide_113 : decode b_di_divide 113 = .ok (.invokevirtual 57, 3) := by decide +kernel
theorem d_di_divide_116 : decode b_di_divide 116 = .ok (.iastore, 1) := by decide +kernel
theorem d_di_divide_117 : decode b_di_divide 117 = .ok (.iinc 5 (-1), 3) := by decide +kernel
theorem d_di_divide_120 : decode b_di_divide 120 = .ok (.goto (-21), 3) := by decide +kernel
theorem d_di_divide_123 : decode b_di_divide 123 = .ok (.aload_n 3, 1) := by decide +kernel
theorem d_di_divide_124 : decode b_di_divide 124 = .ok (.aload_n 1, 1) := by decide +kernel
theorem d_di_divide_125 : decode b_di_divide 125 = .ok (.getfield 49, 3) := by decide +kernel
theorem d_di_divide_128 : decode b_di_divide 128 = .ok (.aload_n 2, 1) := by decide +kernel
theorem d_di_divide_129 : decode b_di_divide 129 = .ok (.getfield 49, 3) := by decide +kernel
theorem d_di_divide_132 : decode b_di_divide 132 = .ok (.isub, 1) := by decide +kernel
theorem d_di_divide_133 : decode b_di_divide 133 = .ok (.iconst 1, 1) := by decide +kernel
theorem d_di_divide_134 : decode b_di_divide 134 = .ok (.iadd, 1) := by decide +kernel
theorem d_di_divide_135 : decode b_di_divide 135 = .ok (.invokevirtual 61, 3) := by decide +kernel
theorem d_di_divide_138 : decode b_di_divide 138 = .ok (.aload_n 0, 1) := by decide +kernel
theorem d_di_divide_139 : decode b_di_divide 139 = .ok (.getfield 14, 3) := by decide +kernel
theorem d_di_divide_142 : decode b_di_divide 142 = .ok (.aload_n 2, 1) := by decide +kernel
theorem d_di_divide_143 : decode b_di_divide 143 = .ok (.getfield 49, 3) := by decide +kernel
theorem d_di_divide_146 : decode b_di_divide 146 = .ok (.invokevirtual 61, 3) := by decide +kernel
theorem d_di_divide_149 : decode b_di_divide 149 = .ok (.aload_n 0, 1) := by decide +kernel
theorem d_di_divide_150 : decode b_di_divide 150 = .ok (.getfield 14, 3) := by decide +kernel
theorem d_di_divide_153 : decode b_di_divide 153 = .ok (.iload 4, 2) := by decide +kernel
theorem d_di_divide_155 : decode b_di_divide 155 = .ok (.invokevirtual 64, 3) := by decide +kernel
theorem d_di_divide_158 : decode b_di_divide 158 = .ok (.pop, 1) := by decide +kernel
theorem d_di_divide_159 : decode b_di_divide 159 = .ok (.return_, 1) := by decide +kernel
theorem d_di_takeAway_0 : decode b_di_takeAway 0 = .ok (.iload_n 1, 1) := by decide +kernel
theorem d_di_takeAway_1 : decode b_di_takeAway 1 = .ok (.aload_n 0, 1) := by decide +kernel
theorem d_di_takeAway_2 : decode b_di_takeAway 2 = .ok (.getfield 20, 3) := by decide +kernel
theorem d_di_takeAway_5 : decode b_di_takeAway 5 = .ok (.getfield 49, 3) := by decide +kernel
theorem d_di_takeAway_8 : decode b_di_takeAway 8 = .ok (.iadd, 1) := by decide +kernel
theorem d_di_takeAway_9 : decode b_di_takeAway 9 = .ok (.istore_n 2, 1) := by decide +kernel
theorem d_di_takeAway_10 : decode b_di_takeAway 10 = .ok (.aload_n 0, 1) := by decide +kernel
theorem d_di_takeAway_11 : decode b_di_takeAway 11 = .ok (.getfield 14, 3) := by decide +kernel
theorem d_di_takeAway_14 : decode b_di_takeAway 14 = .ok (.getfield 45, 3) := by decide +kernel
theorem d_di_takeAway_17 : decode b_di_takeAway 17 = .ok (.iload_n 2, 1) := by decide +kernel
theorem d_di_takeAway_18 : decode b_di_takeAway 18 = .ok (.iaload, 1) := by decide +kernel
theorem d_di_takeAway_19 : decode b_di_takeAway 19 = .ok (.i2l, 1) := by decide +kernel
theorem d_di_takeAway_20 : decode b_di_takeAway 20 = .ok (.bipush 30, 2) := by decide +kernel
theorem d_di_takeAway_22 : decode b_di_takeAway 22 = .ok (.lshl, 1) := by decide +kernel
theorem d_di_takeAway_23 : decode b_di_takeAway 23 = .ok (.aload_n 0, 1) := by decide +kernel
theorem d_di_takeAway_24 : decode b_di_takeAway 24 = .ok (.getfield 14, 3) := by decide +kernel
theorem d_di_takeAway_27 : decode b_di_takeAway 27 = .ok (.getfield 45, 3) := by decide +kernel
theorem d_di_takeAway_30 : decode b_di_takeAway 30 = .ok (.iload_n 2, 1) := by decide +kernel
theorem d_di_takeAway_31 : decode b_di_takeAway 31 = .ok (.iconst 1, 1) := by decide +kernel
theorem d_di_takeAway_32 : decode b_di_takeAway 32 = .ok (.isub, 1) := by decide +kernel
theorem d_di_takeAway_33 : decode b_di_takeAway 33 = .ok (.iaload, 1) := by decide +kernel
theorem d_di_takeAway_34 : decode b_di_takeAway 34 = .ok (.i2l, 1) := by decide +kernel
theorem d_di_takeAway_35 : decode b_di_takeAway 35 = .ok (.lor, 1) := by decide +kernel
theorem d_di_takeAway_36 : decode b_di_takeAway 36 = .ok (.lstore_n 3, 1) := by decide +kernel
theorem d_di_takeAway_37 : decode b_di_takeAway 37 = .ok (.lload_n 3, 1) := by decide +kernel
theorem d_di_takeAway_38 : decode b_di_takeAway 38 = .ok (.aload_n 0, 1) := by decide +kernel
theorem d_di_takeAway_39 : decode b_di_takeAway 39 = .ok (.getfield 20, 3) := by decide +kernel
theorem d_di_takeAway_42 : decode b_di_takeAway 42 = .ok (.getfield 45, 3) := by decide +kernel
theorem d_di_takeAway_45 : decode b_di_takeAway 45 = .ok (.aload_n 0, 1) := by decide +kernel
theorem d_di_takeAway_46 : decode b_di_takeAway 46 = .ok (.getfield 20, 3) := by decide +kernel
theorem d_di_takeAway_49 : decode b_di_takeAway 49 = .ok (.getfield 49, 3) := by decide +kernel
theorem d_di_takeAway_52 : decode b_di_takeAway 52 = .ok (.iconst 1, 1) := by decide +kernel
theorem d_di_takeAway_53 : decode b_di_takeAway 53 = .ok (.isub, 1) := by decide +kernel
theorem d_di_takeAway_54 : decode b_di_takeAway 54 = .ok (.iaload, 1) := by decide +kernel
theorem d_di_takeAway_55 : decode b_di_takeAway 55 = .ok (.i2l, 1) := by decide +kernel
theorem d_di_takeAway_56 : decode b_di_takeAway 56 = .ok (.ldiv, 1) := by decide +kernel
theorem d_di_takeAway_57 : decode b_di_takeAway 57 = .ok (.ldc2_w 67, 3) := by decide +kernel
theorem d_di_takeAway_60 : decode b_di_takeAway 60 = .ok (.invokestatic 69, 3) := by decide +kernel
theorem d_di_takeAway_63 : decode b_di_takeAway 63 = .ok (.lstore 5, 2) := by decide +kernel
theorem d_di_takeAway_65 : decode b_di_takeAway 65 = .ok (.lconst 0, 1) := by decide +kernel
theorem d_di_takeAway_66 : decode b_di_takeAway 66 = .ok (.lstore 7, 2) := by decide +kernel
theorem d_di_takeAway_68 : decode b_di_takeAway 68 = .ok (.iconst 0, 1) := by decide +kernel
theorem d_di_takeAway_69 : decode b_di_takeAway 69 = .ok (.istore 9, 2) := by decide +kernel
theorem d_di_takeAway_71 : decode b_di_takeAway 71 = .ok (.iload 9, 2) := by decide +kernel
theorem d_di_takeAway_73 : decode b_di_takeAway 73 = .ok (.aload_n 0, 1) := by decide +kernel
theorem d_di_takeAway_74 : decode b_di_takeAway 74 = .ok (.getfield 20, 3) := by decide +kernel
theorem d_di_takeAway_77 : decode b_di_takeAway 77 = .ok (.getfield 49, 3) := by decide +kernel
theorem d_di_takeAway_80 : decode b_di_takeAway 80 = .ok (.if_icmp .ge 68, 3) := by decide +kernel
theorem d_di_takeAway_83 : decode b_di_takeAway 83 = .ok (.aload_n 0, 1) := by decide +kernel
theorem d_di_takeAway_84 : decode b_di_takeAway 84 = .ok (.getfield 14, 3) := by decide +kernel
theorem d_di_takeAway_87 : decode b_di_takeAway 87 = .ok (.getfield 45, 3) := by decide +kernel
theorem d_di_takeAway_90 : decode b_di_takeAway 90 = .ok (.iload_n 1, 1) := by decide +kernel
theorem d_di_takeAway_91 : decode b_di_takeAway 91 = .ok (.iload 9, 2) := by decide +kernel
theorem d_di_takeAway_93 : decode b_di_takeAway 93 = .ok (.iadd, 1) := by decide +kernel
theorem d_di_takeAway_94 : decode b_di_takeAway 94 = .ok (.iaload, 1) := by decide +kernel
theorem d_di_takeAway_95 : decode b_di_takeAway 95 = .ok (.i2l, 1) := by decide +kernel
theorem d_di_takeAway_96 : decode b_di_takeAway 96 = .ok (.lload 5, 2) := by decide +kernel
theorem d_di_takeAway_98 : decode b_di_takeAway 98 = .ok (.aload_n 0, 1) := by decide +kernel
theorem d_di_takeAway_99 : decode b_di_takeAway 99 = .ok (.getfield 20, 3) := by decide +kernel
theorem d_di_takeAway_102 : decode b_di_takeAway 102 = .ok (.getfield 45, 3) := by decide +kernel
theorem d_di_takeAway_105 : decode b_di_takeAway 105 = .ok (.iload 9, 2) := by decide +kernel
theorem d_di_takeAway_107 : decode b_di_takeAway 107 = .ok (.iaload, 1) := by decide +kernel
theorem d_di_takeAway_108 : decode b_di_takeAway 108 = .ok (.i2l, 1) := by decide +kernel
theorem d_di_takeAway_109 : decode b_di_takeAway 109 = .ok (.lmul, 1) := by decide +kernel
theorem d_di_takeAway_110 : decode b_di_takeAway 110 = .ok (.lsub, 1) := by decide +kernel
theorem d_di_takeAway_111 : decode b_di_takeAway 111 = .ok (.lload 7, 2) := by decide +kernel
theorem d_di_takeAway_113 : decode b_di_takeAway 113 = .ok (.ladd, 1) := by decide +kernel
theorem d_di_takeAway_114 : decode b_di_takeAway 114 = .ok (.lstore 10, 2) := by decide +kernel
theorem d_di_takeAway_116 : decode b_di_takeAway 116 = .ok (.aload_n 0, 1) := by decide +kernel
theorem d_di_takeAway_117 : decode b_di_takeAway 117 = .ok (.getfield 14, 3) := by decide +kernel
theorem d_di_takeAway_120 : decode b_di_takeAway 120 = .ok (.getfield 45, 3) := by decide +kernel
theorem d_di_takeAway_123 : decode b_di_takeAway 123 = .ok (.iload_n 1, 1) := by decide +kernel
theorem d_di_takeAway_124 : decode b_di_takeAway 124 = .ok (.iload 9, 2) := by decide +kernel
theorem d_di_takeAway_126 : decode b_di_takeAway 126 = .ok (.iadd, 1) := by decide +kernel
theorem d_di_takeAway_127 : decode b_di_takeAway 127 = .ok (.lload 10, 2) := by decide +kernel
theorem d_di_takeAway_129 : decode b_di_takeAway 129 = .ok (.ldc2_w 67, 3) := by decide +kernel
theorem d_di_takeAway_132 : decode b_di_takeAway 132 = .ok (.land, 1) := by decide +kernel
theorem d_di_takeAway_133 : decode b_di_takeAway 133 = .ok (.l2i, 1) := by decide +kernel
theorem d_di_takeAway_134 : decode b_di_takeAway 134 = .ok (.iastore, 1) := by decide +kernel
theorem d_di_takeAway_135 : decode b_di_takeAway 135 = .ok (.lload 10, 2) := by decide +kernel
theorem d_di_takeAway_137 : decode b_di_takeAway 137 = .ok (.bipush 30, 2) := by decide +kernel
theorem d_di_takeAway_139 : decode b_di_takeAway 139 = .ok (.lshr, 1) := by decide +kernel
theorem d_di_takeAway_140 : decode b_di_takeAway 140 = .ok (.lstore 7, 2) := by decide +kernel
theorem d_di_takeAway_142 : decode b_di_takeAway 142 = .ok (.iinc 9 1, 3) := by decide +kernel
theorem d_di_takeAway_145 : decode b_di_takeAway 145 = .ok (.goto (-74), 3) := by decide +kernel
theorem d_di_takeAway_148 : decode b_di_takeAway 148 = .ok (.lload 7, 2) := by decide +kernel
theorem d_di_takeAway_150 : decode b_di_takeAway 150 = .ok (.aload_n 0, 1) := by decide +kernel
theorem d_di_takeAway_151 : decode b_di_takeAway 151 = .ok (.getfield 14, 3) := by decide +kernel
theorem d_di_takeAway_154 : decode b_di_takeAway 154 = .ok (.getfield 45, 3) := by decide +kernel
theorem d_di_takeAway_157 : decode b_di_takeAway 157 = .ok (.iload_n 2, 1) := by decide +kernel
theorem d_di_takeAway_158 : decode b_di_takeAway 158 = .ok (.iaload, 1) := by decide +kernel
theorem d_di_takeAway_159 : decode b_di_takeAway 159 = .ok (.i2l, 1) := by decide +kernel
theorem d_di_takeAway_160 : decode b_di_takeAway 160 = .ok (.ladd, 1) := by decide +kernel
theorem d_di_takeAway_161 : decode b_di_takeAway 161 = .ok (.lstore 7, 2) := by decide +kernel
theorem d_di_takeAway_163 : decode b_di_takeAway 163 = .ok (.iconst 0, 1) := by decide +kernel
theorem d_di_takeAway_164 : decode b_di_takeAway 164 = .ok (.istore 9, 2) := by decide +kernel
theorem d_di_takeAway_166 : decode b_di_takeAway 166 = .ok (.iload 9, 2) := by decide +kernel
theorem d_di_takeAway_168 : decode b_di_takeAway 168 = .ok (.iconst 2, 1) := by decide +kernel
theorem d_di_takeAway_169 : decode b_di_takeAway 169 = .ok (.if_icmp .ge 33, 3) := by decide +kernel
theorem d_di_takeAway_172 : decode b_di_takeAway 172 = .ok (.lload 7, 2) := by decide +kernel
theorem d_di_takeAway_174 : decode b_di_takeAway 174 = .ok (.lconst 0, 1) := by decide +kernel
theorem d_di_takeAway_175 : decode b_di_takeAway 175 = .ok (.lcmp, 1) := by decide +kernel
theorem d_di_takeAway_176 : decode b_di_takeAway 176 = .ok (.ifCond .ge 26, 3) := by decide +kernel
theorem d_di_takeAway_179 : decode b_di_takeAway 179 = .ok (.lload 7, 2) := by decide +kernel
theorem d_di_takeAway_181 : decode b_di_takeAway 181 = .ok (.aload_n 0, 1) := by decide +kernel
theorem d_di_takeAway_182 : decode b_di_takeAway 182 = .ok (.iload_n 1, 1) := by decide +kernel
theorem d_di_takeAway_183 : decode b_di_takeAway 183 = .ok (.invokevirtual 75, 3) := by decide +kernel
theorem d_di_takeAway_186 : decode b_di_takeAway 186 = .ok (.i2l, 1) := by decide +kernel
theorem d_di_takeAway_187 : decode b_di_takeAway 187 = .ok (.ladd, 1) := by decide +kernel
theorem d_di_takeAway_188 : decode b_di_takeAway 188 = .ok (.lstore 7, 2) := by decide +kernel
theorem d_di_takeAway_190 : decode b_di_takeAway 190 = .ok (.lload 5, 2) := by decide +kernel
theorem d_di_takeAway_192 : decode b_di_takeAway 192 = .ok (.lconst 1, 1) := by decide +kernel
theorem d_di_takeAway_193 : decode b_di_takeAway 193 = .ok (.lsub, 1) := by decide +kernel
theorem d_di_takeAway_194 : decode b_di_takeAway 194 = .ok (.lstore 5, 2) := by decide +kernel
theorem d_di_takeAway_196 : decode b_di_takeAway 196 = .ok (.iinc 9 1, 3) := by decide +kernel
theorem d_di_takeAway_199 : decode b_di_takeAway 199 = .ok (.goto (-33), 3) := by decide +kernel
theorem d_di_takeAway_202 : decode b_di_takeAway 202 = .ok (.lload 5, 2) := by decide +kernel
theorem d_di_takeAway_204 : decode b_di_takeAway 204 = .ok (.l2i, 1) := by decide +kernel
theorem d_di_takeAway_205 : decode b_di_takeAway 205 = .ok (.ireturn, 1) := by decide +kernel
theorem d_di_putBack_0 : decode b_di_putBack 0 = .ok (.iconst 0, 1) := by decide +kernel
theorem d_di_putBack_1 : decode b_di_putBack 1 = .ok (.istore_n 2, 1) := by decide +kernel
theorem d_di_putBack_2 : decode b_di_putBack 2 = .ok (.iconst 0, 1) := by decide +kernel
theorem d_di_putBack_3 : decode b_di_putBack 3 = .ok (.istore_n 3, 1) := by decide +kernel
theorem d_di_putBack_4 : decode b_di_putBack 4 = .ok (.iload_n 3, 1) := by decide +kernel
theorem d_di_putBack_5 : decode b_di_putBack 5 = .ok (.aload_n 0, 1) := by decide +kernel
theorem d_di_putBack_6 : decode b_di_putBack 6 = .ok (.getfield 20, 3) := by decide +kernel
theorem d_di_putBack_9 : decode b_di_putBack 9 = .ok (.getfield 49, 3) := by decide +kernel
theorem d_di_putBack_12 : decode b_di_putBack 12 = .ok (.if_icmp .ge 56, 3) := by decide +kernel
theorem d_di_putBack_15 : decode b_di_putBack 15 = .ok (.aload_n 0, 1) := by decide +kernel
theorem d_di_putBack_16 : decode b_di_putBack 16 = .ok (.getfield 14, 3) := by decide +kernel
theorem d_di_putBack_19 : decode b_di_putBack 19 = .ok (.getfield 45, 3) := by decide +kernel
theorem d_di_putBack_22 : decode b_di_putBack 22 = .ok (.iload_n 1, 1) := by decide +kernel
theorem d_di_putBack_23 : decode b_di_putBack 23 = .ok (.iload_n 3, 1) := by decide +kernel
theorem d_di_putBack_24 : decode b_di_putBack 24 = .ok (.iadd, 1) := by decide +kernel
theorem d_di_putBack_25 : decode b_di_putBack 25 = .ok (.iaload, 1) := by decide +kernel
theorem d_di_putBack_26 : decode b_di_putBack 26 = .ok (.aload_n 0, 1) := by decide +kernel
theorem d_di_putBack_27 : decode b_di_putBack 27 = .ok (.getfield 20, 3) := by decide +kernel
theorem d_di_putBack_30 : decode b_di_putBack 30 = .ok (.getfield 45, 3) := by decide +kernel
theorem d_di_putBack_33 : decode b_di_putBack 33 = .ok (.iload_n 3, 1) := by decide +kernel
theorem d_di_putBack_34 : decode b_di_putBack 34 = .ok (.iaload, 1) := by decide +kernel
theorem d_di_putBack_35 : decode b_di_putBack 35 = .ok (.iadd, 1) := by decide +kernel
theorem d_di_putBack_36 : decode b_di_putBack 36 = .ok (.iload_n 2, 1) := by decide +kernel
theorem d_di_putBack_37 : decode b_di_putBack 37 = .ok (.iadd, 1) := by decide +kernel
theorem d_di_putBack_38 : decode b_di_putBack 38 = .ok (.istore 4, 2) := by decide +kernel
theorem d_di_putBack_40 : decode b_di_putBack 40 = .ok (.aload_n 0, 1) := by decide +kernel
theorem d_di_putBack_41 : decode b_di_putBack 41 = .ok (.getfield 14, 3) := by decide +kernel
theorem d_di_putBack_44 : decode b_di_putBack 44 = .ok (.getfield 45, 3) := by decide +kernel
theorem d_di_putBack_47 : decode b_di_putBack 47 = .ok (.iload_n 1, 1) := by decide +kernel
theorem d_di_putBack_48 : decode b_di_putBack 48 = .ok (.iload_n 3, 1) := by decide +kernel
theorem d_di_putBack_49 : decode b_di_putBack 49 = .ok (.iadd, 1) := by decide +kernel
theorem d_di_putBack_50 : decode b_di_putBack 50 = .ok (.iload 4, 2) := by decide +kernel
theorem d_di_putBack_52 : decode b_di_putBack 52 = .ok (.ldc 78, 2) := by decide +kernel
theorem d_di_putBack_54 : decode b_di_putBack 54 = .ok (.iand, 1) := by decide +kernel
theorem d_di_putBack_55 : decode b_di_putBack 55 = .ok (.iastore, 1) := by decide +kernel
theorem d_di_putBack_56 : decode b_di_putBack 56 = .ok (.iload 4, 2) := by decide +kernel
theorem d_di_putBack_58 : decode b_di_putBack 58 = .ok (.bipush 30, 2) := by decide +kernel
theorem d_di_putBack_60 : decode b_di_putBack 60 = .ok (.iushr, 1) := by decide +kernel
theorem d_di_putBack_61 : decode b_di_putBack 61 = .ok (.istore_n 2, 1) := by decide +kernel
theorem d_di_putBack_62 : decode b_di_putBack 62 = .ok (.iinc 3 1, 3) := by decide +kernel
theorem d_di_putBack_65 : decode b_di_putBack 65 = .ok (.goto (-61), 3) := by decide +kernel
theorem d_di_putBack_68 : decode b_di_putBack 68 = .ok (.iload_n 2, 1) := by decide +kernel
theorem d_di_putBack_69 : decode b_di_putBack 69 = .ok (.ireturn, 1) := by decide +kernel
theorem d_di_findGreatest_0 : decode b_di_findGreatest 0 = .ok (.aload_n 1, 1) := by decide +kernel
theorem d_di_findGreatest_1 : decode b_di_findGreatest 1 = .ok (.invokevirtual 36, 3) := by decide +kernel
theorem d_di_findGreatest_4 : decode b_di_findGreatest 4 = .ok (.ifCond .ne 10, 3) := by decide +kernel
theorem d_di_findGreatest_7 : decode b_di_findGreatest 7 = .ok (.aload_n 2, 1) := by decide +kernel
theorem d_di_findGreatest_8 : decode b_di_findGreatest 8 = .ok (.invokevirtual 36, 3) := by decide +kernel
theorem d_di_findGreatest_11 : decode b_di_findGreatest 11 = .ok (.ifCond .eq 20, 3) := by decide +kernel
theorem d_di_findGreatest_14 : decode b_di_findGreatest 14 = .ok (.aload_n 3, 1) := by decide +kernel
theorem d_di_findGreatest_15 : decode b_di_findGreatest 15 = .ok (.aload_n 1, 1) := by decide +kernel
theorem d_di_findGreatest_16 : decode b_di_findGreatest 16 = .ok (.invokevirtual 36, 3) := by decide +kernel
theorem d_di_findGreatest_19 : decode b_di_findGreatest 19 = .ok (.ifCond .eq 7, 3) := by decide +kernel
theorem d_di_findGreatest_22 : decode b_di_findGreatest 22 = .ok (.aload_n 2, 1) := by decide +kernel
theorem d_di_findGreatest_23 : decode b_di_findGreatest 23 = .ok (.goto 4, 3) := by decide +kernel
theorem d_di_findGreatest_26 : decode b_di_findGreatest 26 = .ok (.aload_n 1, 1) := by decide +kernel
theorem d_di_findGreatest_27 : decode b_di_findGreatest 27 = .ok (.invokevirtual 29, 3) := by decide +kernel
theorem d_di_findGreatest_30 : decode b_di_findGreatest 30 = .ok (.return_, 1) := by decide +kernel
theorem d_di_findGreatest_31 : decode b_di_findGreatest 31 = .ok (.aload_n 0, 1) := by decide +kernel
theorem d_di_findGreatest_32 : decode b_di_findGreatest 32 = .ok (.getfield 23, 3) := by decide +kernel
theorem d_di_findGreatest_35 : decode b_di_findGreatest 35 = .ok (.astore 4, 2) := by decide +kernel
theorem d_di_findGreatest_37 : decode b_di_findGreatest 37 = .ok (.aload_n 0, 1) := by decide +kernel
theorem d_di_findGreatest_38 : decode b_di_findGreatest 38 = .ok (.getfield 26, 3) := by decide +kernel
theorem d_di_findGreatest_41 : decode b_di_findGreatest 41 = .ok (.astore 5, 2) := by decide +kernel
theorem d_di_findGreatest_43 : decode b_di_findGreatest 43 = .ok (.aload 4, 2) := by decide +kernel
theorem d_di_findGreatest_45 : decode b_di_findGreatest 45 = .ok (.aload_n 1, 1) := by decide +kernel
theorem d_di_findGreatest_46 : decode b_di_findGreatest 46 = .ok (.invokevirtual 29, 3) := by decide +kernel
theorem d_di_findGreatest_49 : decode b_di_findGreatest 49 = .ok (.aload 5, 2) := by decide +kernel
theorem d_di_findGreatest_51 : decode b_di_findGreatest 51 = .ok (.aload_n 2, 1) := by decide +kernel
theorem d_di_findGreatest_52 : decode b_di_findGreatest 52 = .ok (.invokevirtual 29, 3) := by decide +kernel
theorem d_di_findGreatest_55 : decode b_di_findGreatest 55 = .ok (.aload 4, 2) := by decide +kernel
theorem d_di_findGreatest_57 : decode b_di_findGreatest 57 = .ok (.invokevirtual 79, 3) := by decide +kernel
theorem d_di_findGreatest_60 : decode b_di_findGreatest 60 = .ok (.aload 5, 2) := by decide +kernel
theorem d_di_findGreatest_62 : decode b_di_findGreatest 62 = .ok (.invokevirtual 79, 3) := by decide +kernel
theorem d_di_findGreatest_65 : decode b_di_findGreatest 65 = .ok (.invokestatic 83, 3) := by decide +kernel
theorem d_di_findGreatest_68 : decode b_di_findGreatest 68 = .ok (.istore 6, 2) := by decide +kernel
theorem d_di_findGreatest_70 : decode b_di_findGreatest 70 = .ok (.iconst 0, 1) := by decide +kernel
theorem d_di_findGreatest_71 : decode b_di_findGreatest 71 = .ok (.istore 7, 2) := by decide +kernel
theorem d_di_findGreatest_73 : decode b_di_findGreatest 73 = .ok (.iload 7, 2) := by decide +kernel
theorem d_di_findGreatest_75 : decode b_di_findGreatest 75 = .ok (.sipush 1000, 3) := by decide +kernel
theorem d_di_findGreatest_78 : decode b_di_findGreatest 78 = .ok (.if_icmp .ge 64, 3) := by decide +kernel
theorem d_di_findGreatest_81 : decode b_di_findGreatest 81 = .ok (.aload 4, 2) := by decide +kernel
theorem d_di_findGreatest_83 : decode b_di_findGreatest 83 = .ok (.aload 5, 2) := by decide +kernel
theorem d_di_findGreatest_85 : decode b_di_findGreatest 85 = .ok (.invokevirtual 40, 3) := by decide +kernel
theorem d_di_findGreatest_88 : decode b_di_findGreatest 88 = .ok (.istore 8, 2) := by decide +kernel
theorem d_di_findGreatest_90 : decode b_di_findGreatest 90 = .ok (.iload 8, 2) := by decide +kernel
theorem d_di_findGreatest_92 : decode b_di_findGreatest 92 = .ok (.ifCond .ge 15, 3) := by decide +kernel
theorem d_di_findGreatest_95 : decode b_di_findGreatest 95 = .ok (.aload 4, 2) := by decide +kernel
theorem d_di_findGreatest_97 : decode b_di_findGreatest 97 = .ok (.astore 9, 2) := by decide +kernel
theorem d_di_findGreatest_99 : decode b_di_findGreatest 99 = .ok (.aload 5, 2) := by decide +kernel
theorem d_di_findGreatest_101 : decode b_di_findGreatest 101 = .ok (.astore 4, 2) := by decide +kernel
theorem d_di_findGreatest_103 : decode b_di_findGreatest 103 = .ok (.aload 9, 2) := by decide +kernel
theorem d_di_findGreatest_105 : decode b_di_findGreatest 105 = .ok (.astore 5, 2) := by decide +kernel
theorem d_di_findGreatest_107 : decode b_di_findGreatest 107 = .ok (.iload 8, 2) := by decide +kernel
theorem d_di_findGreatest_109 : decode b_di_findGreatest 109 = .ok (.ifCond .eq 33, 3) := by decide +kernel
theorem d_di_findGreatest_112 : decode b_di_findGreatest 112 = .ok (.aload 5, 2) := by decide +kernel
theorem d_di_findGreatest_114 : decode b_di_findGreatest 114 = .ok (.invokevirtual 86, 3) := by decide +kernel
theorem d_di_findGreatest_117 : decode b_di_findGreatest 117 = .ok (.ifCond .eq 6, 3) := by decide +kernel
theorem d_di_findGreatest_120 : decode b_di_findGreatest 120 = .ok (.goto 22, 3) := by decide +kernel
theorem d_di_findGreatest_123 : decode b_di_findGreatest 123 = .ok (.aload 4, 2) := by decide +kernel
theorem d_di_findGreatest_125 : decode b_di_findGreatest 125 = .ok (.aload 5, 2) := by decide +kernel
theorem d_di_findGreatest_127 : decode b_di_findGreatest 127 = .ok (.invokevirtual 89, 3) := by decide +kernel
theorem d_di_findGreatest_130 : decode b_di_findGreatest 130 = .ok (.aload 4, 2) := by decide +kernel
theorem d_di_findGreatest_132 : decode b_di_findGreatest 132 = .ok (.invokevirtual 79, 3) := by decide +kernel
theorem d_di_findGreatest_135 : decode b_di_findGreatest 135 = .ok (.pop, 1) := by decide +kernel
theorem d_di_findGreatest_136 : decode b_di_findGreatest 136 = .ok (.iinc 7 1, 3) := by decide +kernel
theorem d_di_findGreatest_139 : decode b_di_findGreatest 139 = .ok (.goto (-66), 3) := by decide +kernel
theorem d_di_findGreatest_142 : decode b_di_findGreatest 142 = .ok (.aload_n 3, 1) := by decide +kernel
theorem d_di_findGreatest_143 : decode b_di_findGreatest 143 = .ok (.aload 5, 2) := by decide +kernel
theorem d_di_findGreatest_145 : decode b_di_findGreatest 145 = .ok (.invokevirtual 29, 3) := by decide +kernel
theorem d_di_findGreatest_148 : decode b_di_findGreatest 148 = .ok (.iload 6, 2) := by decide +kernel
theorem d_di_findGreatest_150 : decode b_di_findGreatest 150 = .ok (.istore 7, 2) := by decide +kernel
theorem d_di_findGreatest_152 : decode b_di_findGreatest 152 = .ok (.iload 7, 2) := by decide +kernel
theorem d_di_findGreatest_154 : decode b_di_findGreatest 154 = .ok (.ifCond .le 23, 3) := by decide +kernel
theorem d_di_findGreatest_157 : decode b_di_findGreatest 157 = .ok (.aload_n 3, 1) := by decide +kernel
theorem d_di_findGreatest_158 : decode b_di_findGreatest 158 = .ok (.iconst 1, 1) := by decide +kernel
theorem d_di_findGreatest_159 : decode b_di_findGreatest 159 = .ok (.iload 7, 2) := by decide +kernel
theorem d_di_findGreatest_161 : decode b_di_findGreatest 161 = .ok (.bipush 30, 2) := by decide +kernel
theorem d_di_findGreatest_163 : decode b_di_findGreatest 163 = .ok (.invokestatic 83, 3) := by decide +kernel
theorem d_di_findGreatest_166 : decode b_di_findGreatest 166 = .ok (.ishl, 1) := by decide +kernel
theorem d_di_findGreatest_167 : decode b_di_findGreatest 167 = .ok (.iconst 0, 1) := by decide +kernel
theorem d_di_findGreatest_168 : decode b_di_findGreatest 168 = .ok (.invokevirtual 53, 3) := by decide +kernel
theorem d_di_findGreatest_171 : decode b_di_findGreatest 171 = .ok (.iinc 7 (-30), 3) := by decide +kernel
theorem d_di_findGreatest_174 : decode b_di_findGreatest 174 = .ok (.goto (-22), 3) := by decide +kernel
theorem d_di_findGreatest_177 : decode b_di_findGreatest 177 = .ok (.return_, 1) := by decide +kernel
