theorem d_mo_init_0 : decode b_mo_init 0 = .ok (.aload_n 0, 1) := by decide +kernel
theorem d_mo_init_1 : decode b_mo_init 1 = .ok (.invokespecial 1, 3) := by decide +kernel
theorem d_mo_init_4 : decode b_mo_init 4 = .ok (.aload_n 0, 1) := by decide +kernel
theorem d_mo_init_5 : decode b_mo_init 5 = .ok (.bipush 121, 2) := by decide +kernel
theorem d_mo_init_7 : decode b_mo_init 7 = .ok (.newarray .int, 2) := by decide +kernel
theorem d_mo_init_9 : decode b_mo_init 9 = .ok (.putfield 7, 3) := by decide +kernel
theorem d_mo_init_12 : decode b_mo_init 12 = .ok (.aload_n 0, 1) := by decide +kernel
theorem d_mo_init_13 : decode b_mo_init 13 = .ok (.iconst (-1), 1) := by decide +kernel
theorem d_mo_init_14 : decode b_mo_init 14 = .ok (.putfield 13, 3) := by decide +kernel
theorem d_mo_init_17 : decode b_mo_init 17 = .ok (.aload_n 0, 1) := by decide +kernel
theorem d_mo_init_18 : decode b_mo_init 18 = .ok (.sipush 6400, 3) := by decide +kernel
theorem d_mo_init_21 : decode b_mo_init 21 = .ok (.newarray .int, 2) := by decide +kernel
theorem d_mo_init_23 : decode b_mo_init 23 = .ok (.putfield 17, 3) := by decide +kernel
theorem d_mo_init_26 : decode b_mo_init 26 = .ok (.aload_n 0, 1) := by decide +kernel
theorem d_mo_init_27 : decode b_mo_init 27 = .ok (.sipush 160, 3) := by decide +kernel
theorem d_mo_init_30 : decode b_mo_init 30 = .ok (.newarray .int, 2) := by decide +kernel
theorem d_mo_init_32 : decode b_mo_init 32 = .ok (.putfield 20, 3) := by decide +kernel
theorem d_mo_init_35 : decode b_mo_init 35 = .ok (.aload_n 0, 1) := by decide +kernel
theorem d_mo_init_36 : decode b_mo_init 36 = .ok (.bipush 75, 2) := by decide +kernel
theorem d_mo_init_38 : decode b_mo_init 38 = .ok (.newarray .int, 2) := by decide +kernel
theorem d_mo_init_40 : decode b_mo_init 40 = .ok (.putfield 23, 3) := by decide +kernel
theorem d_mo_init_43 : decode b_mo_init 43 = .ok (.aload_n 0, 1) := by decide +kernel
theorem d_mo_init_44 : decode b_mo_init 44 = .ok (.bipush 13, 2) := by decide +kernel
theorem d_mo_init_46 : decode b_mo_init 46 = .ok (.newarray .int, 2) := by decide +kernel
theorem d_mo_init_48 : decode b_mo_init 48 = .ok (.putfield 26, 3) := by decide +kernel
theorem d_mo_init_51 : decode b_mo_init 51 = .ok (.aload_n 0, 1) := by decide +kernel
theorem d_mo_init_52 : decode b_mo_init 52 = .ok (.bipush 13, 2) := by decide +kernel
theorem d_mo_init_54 : decode b_mo_init 54 = .ok (.newarray .int, 2) := by decide +kernel
theorem d_mo_init_56 : decode b_mo_init 56 = .ok (.putfield 29, 3) := by decide +kernel
theorem d_mo_init_59 : decode b_mo_init 59 = .ok (.aload_n 0, 1) := by decide +kernel
theorem d_mo_init_60 : decode b_mo_init 60 = .ok (.bipush 13, 2) := by decide +kernel
theorem d_mo_init_62 : decode b_mo_init 62 = .ok (.newarray .int, 2) := by decide +kernel
theorem d_mo_init_64 : decode b_mo_init 64 = .ok (.putfield 32, 3) := by decide +kernel
theorem d_mo_init_67 : decode b_mo_init 67 = .ok (.iconst 0, 1) := by decide +kernel
theorem d_mo_init_68 : decode b_mo_init 68 = .ok (.istore_n 1, 1) := by decide +kernel
theorem d_mo_init_69 : decode b_mo_init 69 = .ok (.iload_n 1, 1) := by decide +kernel
theorem d_mo_init_70 : decode b_mo_init 70 = .ok (.bipush 75, 2) := by decide +kernel
theorem d_mo_init_72 : decode b_mo_init 72 = .ok (.if_icmp .ge 19, 3) := by decide +kernel
theorem d_mo_init_75 : decode b_mo_init 75 = .ok (.aload_n 0, 1) := by decide +kernel
theorem d_mo_init_76 : decode b_mo_init 76 = .ok (.iconst 2, 1) := by decide +kernel
theorem d_mo_init_77 : decode b_mo_init 77 = .ok (.iload_n 1, 1) := by decide +kernel
theorem d_mo_init_78 : decode b_mo_init 78 = .ok (.imul, 1) := by decide +kernel
theorem d_mo_init_79 : decode b_mo_init 79 = .ok (.iconst 1, 1) := by decide +kernel
theorem d_mo_init_80 : decode b_mo_init 80 = .ok (.iadd, 1) := by decide +kernel
theorem d_mo_init_81 : decode b_mo_init 81 = .ok (.iconst 1, 1) := by decide +kernel
theorem d_mo_init_82 : decode b_mo_init 82 = .ok (.invokevirtual 35, 3) := by decide +kernel
theorem d_mo_init_85 : decode b_mo_init 85 = .ok (.iinc 1 1, 3) := by decide +kernel
theorem d_mo_init_88 : decode b_mo_init 88 = .ok (.goto (-19), 3) := by decide +kernel
theorem d_mo_init_91 : decode b_mo_init 91 = .ok (.aload_n 0, 1) := by decide +kernel
theorem d_mo_init_92 : decode b_mo_init 92 = .ok (.sipush 158, 3) := by decide +kernel
theorem d_mo_init_95 : decode b_mo_init 95 = .ok (.iconst 1, 1) := by decide +kernel
theorem d_mo_init_96 : decode b_mo_init 96 = .ok (.invokevirtual 35, 3) := by decide +kernel
theorem d_mo_init_99 : decode b_mo_init 99 = .ok (.iconst 0, 1) := by decide +kernel
theorem d_mo_init_100 : decode b_mo_init 100 = .ok (.istore_n 1, 1) := by decide +kernel
theorem d_mo_init_101 : decode b_mo_init 101 = .ok (.iload_n 1, 1) := by decide +kernel
theorem d_mo_init_102 : decode b_mo_init 102 = .ok (.sipush 240, 3) := by decide +kernel
theorem d_mo_init_105 : decode b_mo_init 105 = .ok (.if_icmp .ge 19, 3) := by decide +kernel
theorem d_mo_init_108 : decode b_mo_init 108 = .ok (.aload_n 0, 1) := by decide +kernel
theorem d_mo_init_109 : decode b_mo_init 109 = .ok (.sipush 158, 3) := by decide +kernel
theorem d_mo_init_112 : decode b_mo_init 112 = .ok (.sipush 158, 3) := by decide +kernel
theorem d_mo_init_115 : decode b_mo_init 115 = .ok (.invokevirtual 39, 3) := by decide +kernel
theorem d_mo_init_118 : decode b_mo_init 118 = .ok (.iinc 1 1, 3) := by decide +kernel
theorem d_mo_init_121 : decode b_mo_init 121 = .ok (.goto (-20), 3) := by decide +kernel
theorem d_mo_init_124 : decode b_mo_init 124 = .ok (.aload_n 0, 1) := by decide +kernel
theorem d_mo_init_125 : decode b_mo_init 125 = .ok (.sipush 159, 3) := by decide +kernel
theorem d_mo_init_128 : decode b_mo_init 128 = .ok (.iconst 1, 1) := by decide +kernel
theorem d_mo_init_129 : decode b_mo_init 129 = .ok (.invokevirtual 35, 3) := by decide +kernel
theorem d_mo_init_132 : decode b_mo_init 132 = .ok (.iconst 0, 1) := by decide +kernel
theorem d_mo_init_133 : decode b_mo_init 133 = .ok (.istore_n 1, 1) := by decide +kernel
theorem d_mo_init_134 : decode b_mo_init 134 = .ok (.iload_n 1, 1) := by decide +kernel
theorem d_mo_init_135 : decode b_mo_init 135 = .ok (.bipush 62, 2) := by decide +kernel
theorem d_mo_init_137 : decode b_mo_init 137 = .ok (.if_icmp .ge 19, 3) := by decide +kernel
theorem d_mo_init_140 : decode b_mo_init 140 = .ok (.aload_n 0, 1) := by decide +kernel
theorem d_mo_init_141 : decode b_mo_init 141 = .ok (.sipush 159, 3) := by decide +kernel
theorem d_mo_init_144 : decode b_mo_init 144 = .ok (.sipush 159, 3) := by decide +kernel
theorem d_mo_init_147 : decode b_mo_init 147 = .ok (.invokevirtual 39, 3) := by decide +kernel
theorem d_mo_init_150 : decode b_mo_init 150 = .ok (.iinc 1 1, 3) := by decide +kernel
theorem d_mo_init_153 : decode b_mo_init 153 = .ok (.goto (-19), 3) := by decide +kernel
theorem d_mo_init_156 : decode b_mo_init 156 = .ok (.return_, 1) := by decide +kernel
theorem d_mo_thrown_0 : decode b_mo_thrown 0 = .ok (.aload_n 0, 1) := by decide +kernel
theorem d_mo_thrown_1 : decode b_mo_thrown 1 = .ok (.getfield 42, 3) := by decide +kernel
theorem d_mo_thrown_4 : decode b_mo_thrown 4 = .ok (.ireturn, 1) := by decide +kernel
theorem d_mo_set_0 : decode b_mo_set 0 = .ok (.aload_n 0, 1) := by decide +kernel
theorem d_mo_set_1 : decode b_mo_set 1 = .ok (.getfield 17, 3) := by decide +kernel
theorem d_mo_set_4 : decode b_mo_set 4 = .ok (.bipush 40, 2) := by decide +kernel
theorem d_mo_set_6 : decode b_mo_set 6 = .ok (.iload_n 1, 1) := by decide +kernel
theorem d_mo_set_7 : decode b_mo_set 7 = .ok (.imul, 1) := by decide +kernel
theorem d_mo_set_8 : decode b_mo_set 8 = .ok (.iload_n 2, 1) := by decide +kernel
theorem d_mo_set_9 : decode b_mo_set 9 = .ok (.iastore, 1) := by decide +kernel
theorem d_mo_set_10 : decode b_mo_set 10 = .ok (.iconst 1, 1) := by decide +kernel
theorem d_mo_set_11 : decode b_mo_set 11 = .ok (.istore_n 3, 1) := by decide +kernel
theorem d_mo_set_12 : decode b_mo_set 12 = .ok (.iload_n 3, 1) := by decide +kernel
theorem d_mo_set_13 : decode b_mo_set 13 = .ok (.bipush 40, 2) := by decide +kernel
theorem d_mo_set_15 : decode b_mo_set 15 = .ok (.if_icmp .ge 21, 3) := by decide +kernel
theorem d_mo_set_18 : decode b_mo_set 18 = .ok (.aload_n 0, 1) := by decide +kernel
theorem d_mo_set_19 : decode b_mo_set 19 = .ok (.getfield 17, 3) := by decide +kernel
theorem d_mo_set_22 : decode b_mo_set 22 = .ok (.bipush 40, 2) := by decide +kernel
theorem d_mo_set_24 : decode b_mo_set 24 = .ok (.iload_n 1, 1) := by decide +kernel
theorem d_mo_set_25 : decode b_mo_set 25 = .ok (.imul, 1) := by decide +kernel
theorem d_mo_set_26 : decode b_mo_set 26 = .ok (.iload_n 3, 1) := by decide +kernel
theorem d_mo_set_27 : decode b_mo_set 27 = .ok (.iadd, 1) := by decide +kernel
theorem d_mo_set_28 : decode b_mo_set 28 = .ok (.iconst 0, 1) := by decide +kernel
theorem d_mo_set_29 : decode b_mo_set 29 = .ok (.iastore, 1) := by decide +kernel
theorem d_mo_set_30 : decode b_mo_set 30 = .ok (.iinc 3 1, 3) := by decide +kernel
theorem d_mo_set_33 : decode b_mo_set 33 = .ok (.goto (-21), 3) := by decide +kernel
theorem d_mo_set_36 : decode b_mo_set 36 = .ok (.aload_n 0, 1) := by decide +kernel
theorem d_mo_set_37 : decode b_mo_set 37 = .ok (.getfield 20, 3) := by decide +kernel
theorem d_mo_set_40 : decode b_mo_set 40 = .ok (.iload_n 1, 1) := by decide +kernel
theorem d_mo_set_41 : decode b_mo_set 41 = .ok (.iload_n 2, 1) := by decide +kernel
theorem d_mo_set_42 : decode b_mo_set 42 = .ok (.ifCond .ne 7, 3) := by decide +kernel
theorem d_mo_set_45 : decode b_mo_set 45 = .ok (.iconst 0, 1) := by decide +kernel
theorem d_mo_set_46 : decode b_mo_set 46 = .ok (.goto 4, 3) := by decide +kernel
theorem d_mo_set_49 : decode b_mo_set 49 = .ok (.iconst 1, 1) := by decide +kernel
theorem d_mo_set_50 : decode b_mo_set 50 = .ok (.iastore, 1) := by decide +kernel
theorem d_mo_set_51 : decode b_mo_set 51 = .ok (.return_, 1) := by decide +kernel
theorem d_mo_copy_0 : decode b_mo_copy 0 = .ok (.iconst 0, 1) := by decide +kernel
theorem d_mo_copy_1 : decode b_mo_copy 1 = .ok (.istore_n 3, 1) := by decide +kernel
theorem d_mo_copy_2 : decode b_mo_copy 2 = .ok (.iload_n 3, 1) := by decide +kernel
theorem d_mo_copy_3 : decode b_mo_copy 3 = .ok (.bipush 40, 2) := by decide +kernel
theorem d_mo_copy_5 : decode b_mo_copy 5 = .ok (.if_icmp .ge 31, 3) := by decide +kernel
theorem d_mo_copy_8 : decode b_mo_copy 8 = .ok (.aload_n 0, 1) := by decide +kernel
theorem d_mo_copy_9 : decode b_mo_copy 9 = .ok (.getfield 17, 3) := by decide +kernel
theorem d_mo_copy_12 : decode b_mo_copy 12 = .ok (.bipush 40, 2) := by decide +kernel
theorem d_mo_copy_14 : decode b_mo_copy 14 = .ok (.iload_n 2, 1) := by decide +kernel
theorem d_mo_copy_15 : decode b_mo_copy 15 = .ok (.imul, 1) := by decide +kernel
theorem d_mo_copy_16 : decode b_mo_copy 16 = .ok (.iload_n 3, 1) := by decide +kernel
theorem d_mo_copy_17 : decode b_mo_copy 17 = .ok (.iadd, 1) := by decide +kernel
theorem d_mo_copy_18 : decode b_mo_copy 18 = .ok (.aload_n 0, 1) := by decide +kernel
theorem d_mo_copy_19 : decode b_mo_copy 19 = .ok (.getfield 17, 3) := by decide +kernel
theorem d_mo_copy_22 : decode b_mo_copy 22 = .ok (.bipush 40, 2) := by decide +kernel
theorem d_mo_copy_24 : decode b_mo_copy 24 = .ok (.iload_n 1, 1) := by decide +kernel
theorem d_mo_copy_25 : decode b_mo_copy 25 = .ok (.imul, 1) := by decide +kernel
theorem d_mo_copy_26 : decode b_mo_copy 26 = .ok (.iload_n 3, 1) := by decide +kernel
theorem d_mo_copy_27 : decode b_mo_copy 27 = .ok (.iadd, 1) := by decide +kernel
theorem d_mo_copy_28 : decode b_mo_copy 28 = .ok (.iaload, 1) := by decide +kernel
theorem d_mo_copy_29 : decode b_mo_copy 29 = .ok (.iastore, 1) := by decide +kernel
theorem d_mo_copy_30 : decode b_mo_copy 30 = .ok (.iinc 3 1, 3) := by decide +kernel
theorem d_mo_copy_33 : decode b_mo_copy 33 = .ok (.goto (-31), 3) := by decide +kernel
theorem d_mo_copy_36 : decode b_mo_copy 36 = .ok (.aload_n 0, 1) := by decide +kernel
theorem d_mo_copy_37 : decode b_mo_copy 37 = .ok (.getfield 20, 3) := by decide +kernel
theorem d_mo_copy_40 : decode b_mo_copy 40 = .ok (.iload_n 2, 1) := by decide +kernel
theorem d_mo_copy_41 : decode b_mo_copy 41 = .ok (.aload_n 0, 1) := by decide +kernel
theorem d_mo_copy_42 : decode b_mo_copy 42 = .ok (.getfield 20, 3) := by decide +kernel
theorem d_mo_copy_45 : decode b_mo_copy 45 = .ok (.iload_n 1, 1) := by decide +kernel
theorem d_mo_copy_46 : decode b_mo_copy 46 = .ok (.iaload, 1) := by decide +kernel
theorem d_mo_copy_47 : decode b_mo_copy 47 = .ok (.iastore, 1) := by decide +kernel
theorem d_mo_copy_48 : decode b_mo_copy 48 = .ok (.return_, 1) := by decide +kernel
theorem d_mo_trim_0 : decode b_mo_trim 0 = .ok (.iload_n 2, 1) := by decide +kernel
theorem d_mo_trim_1 : decode b_mo_trim 1 = .ok (.istore_n 3, 1) := by decide +kernel
theorem d_mo_trim_2 : decode b_mo_trim 2 = .ok (.iload_n 3, 1) := by decide +kernel
theorem d_mo_trim_3 : decode b_mo_trim 3 = .ok (.ifCond .le 26, 3) := by decide +kernel
theorem d_mo_trim_6 : decode b_mo_trim 6 = .ok (.aload_n 0, 1) := by decide +kernel
theorem d_mo_trim_7 : decode b_mo_trim 7 = .ok (.getfield 17, 3) := by decide +kernel
theorem d_mo_trim_10 : decode b_mo_trim 10 = .ok (.bipush 40, 2) := by decide +kernel
theorem d_mo_trim_12 : decode b_mo_trim 12 = .ok (.iload_n 1, 1) := by decide +kernel
theorem d_mo_trim_13 : decode b_mo_trim 13 = .ok (.imul, 1) := by decide +kernel
theorem d_mo_trim_14 : decode b_mo_trim 14 = .ok (.iload_n 3, 1) := by decide +kernel
theorem d_mo_trim_15 : decode b_mo_trim 15 = .ok (.iadd, 1) := by decide +kernel
theorem d_mo_trim_16 : decode b_mo_trim 16 = .ok (.iconst 1, 1) := by decide +kernel
theorem d_mo_trim_17 : decode b_mo_trim 17 = .ok (.isub, 1) := by decide +kernel
theorem d_mo_trim_18 : decode b_mo_trim 18 = .ok (.iaload, 1) := by decide +kernel
theorem d_mo_trim_19 : decode b_mo_trim 19 = .ok (.ifCond .ne 10, 3) := by decide +kernel
theorem d_mo_trim_22 : decode b_mo_trim 22 = .ok (.iload_n 3, 1) := by decide +kernel
theorem d_mo_trim_23 : decode b_mo_trim 23 = .ok (.iconst 1, 1) := by decide +kernel
theorem d_mo_trim_24 : decode b_mo_trim 24 = .ok (.isub, 1) := by decide +kernel
theorem d_mo_trim_25 : decode b_mo_trim 25 = .ok (.istore_n 3, 1) := by decide +kernel
theorem d_mo_trim_26 : decode b_mo_trim 26 = .ok (.goto (-24), 3) := by decide +kernel
theorem d_mo_trim_29 : decode b_mo_trim 29 = .ok (.aload_n 0, 1) := by decide +kernel
theorem d_mo_trim_30 : decode b_mo_trim 30 = .ok (.getfield 20, 3) := by decide +kernel
theorem d_mo_trim_33 : decode b_mo_trim 33 = .ok (.iload_n 1, 1) := by decide +kernel
theorem d_mo_trim_34 : decode b_mo_trim 34 = .ok (.iload_n 3, 1) := by decide +kernel
theorem d_mo_trim_35 : decode b_mo_trim 35 = .ok (.iastore, 1) := by decide +kernel
theorem d_mo_trim_36 : decode b_mo_trim 36 = .ok (.return_, 1) := by decide +kernel
theorem d_mo_compare_0 : decode b_mo_compare 0 = .ok (.aload_n 0, 1) := by decide +kernel
theorem d_mo_compare_1 : decode b_mo_compare 1 = .ok (.getfield 20, 3) := by decide +kernel
theorem d_mo_compare_4 : decode b_mo_compare 4 = .ok (.iload_n 1, 1) := by decide +kernel
theorem d_mo_compare_5 : decode b_mo_compare 5 = .ok (.iaload, 1) := by decide +kernel
theorem d_mo_compare_6 : decode b_mo_compare 6 = .ok (.aload_n 0, 1) := by decide +kernel
theorem d_mo_compare_7 : decode b_mo_compare 7 = .ok (.getfield 20, 3) := by decide +kernel
theorem d_mo_compare_10 : decode b_mo_compare 10 = .ok (.iload_n 2, 1) := by decide +kernel
theorem d_mo_compare_11 : decode b_mo_compare 11 = .ok (.iaload, 1) := by decide +kernel
theorem d_mo_compare_12 : decode b_mo_compare 12 = .ok (.if_icmp .eq 24, 3) := by decide +kernel
theorem d_mo_compare_15 : decode b_mo_compare 15 = .ok (.aload_n 0, 1) := by decide +kernel
theorem d_mo_compare_16 : decode b_mo_compare 16 = .ok (.getfield 20, 3) := by decide +kernel
theorem d_mo_compare_19 : decode b_mo_compare 19 = .ok (.iload_n 1, 1) := by decide +kernel
theorem d_mo_compare_20 : decode b_mo_compare 20 = .ok (.iaload, 1) := by decide +kernel
theorem d_mo_compare_21 : decode b_mo_compare 21 = .ok (.aload_n 0, 1) := by decide +kernel
theorem d_mo_compare_22 : decode b_mo_compare 22 = .ok (.getfield 20, 3) := by decide +kernel
theorem d_mo_compare_25 : decode b_mo_compare 25 = .ok (.iload_n 2, 1) := by decide +kernel
theorem d_mo_compare_26 : decode b_mo_compare 26 = .ok (.iaload, 1) := by decide +kernel
theorem d_mo_compare_27 : decode b_mo_compare 27 = .ok (.if_icmp .ge 7, 3) := by decide +kernel
theorem d_mo_compare_30 : decode b_mo_compare 30 = .ok (.iconst (-1), 1) := by decide +kernel
theorem d_mo_compare_31 : decode b_mo_compare 31 = .ok (.goto 4, 3) := by decide +kernel
theorem d_mo_compare_34 : decode b_mo_compare 34 = .ok (.iconst 1, 1) := by decide +kernel
theorem d_mo_compare_35 : decode b_mo_compare 35 = .ok (.ireturn, 1) := by decide +kernel
theorem d_mo_compare_36 : decode b_mo_compare 36 = .ok (.aload_n 0, 1) := by decide +kernel
theorem d_mo_compare_37 : decode b_mo_compare 37 = .ok (.getfield 20, 3) := by decide +kernel
theorem d_mo_compare_40 : decode b_mo_compare 40 = .ok (.iload_n 1, 1) := by decide +kernel
theorem d_mo_compare_41 : decode b_mo_compare 41 = .ok (.iaload, 1) := by decide +kernel
theorem d_mo_compare_42 : decode b_mo_compare 42 = .ok (.iconst 1, 1) := by decide +kernel
theorem d_mo_compare_43 : decode b_mo_compare 43 = .ok (.isub, 1) := by decide +kernel
theorem d_mo_compare_44 : decode b_mo_compare 44 = .ok (.istore_n 3, 1) := by decide +kernel
theorem d_mo_compare_45 : decode b_mo_compare 45 = .ok (.iload_n 3, 1) := by decide +kernel
theorem d_mo_compare_46 : decode b_mo_compare 46 = .ok (.ifCond .lt 35, 3) := by decide +kernel
theorem d_mo_compare_49 : decode b_mo_compare 49 = .ok (.aload_n 0, 1) := by decide +kernel
theorem d_mo_compare_50 : decode b_mo_compare 50 = .ok (.getfield 17, 3) := by decide +kernel
theorem d_mo_compare_53 : decode b_mo_compare 53 = .ok (.bipush 40, 2) := by decide +kernel
theorem d_mo_compare_55 : decode b_mo_compare 55 = .ok (.iload_n 1, 1) := by decide +kernel
theorem d_mo_compare_56 : decode b_mo_compare 56 = .ok (.imul, 1) := by decide +kernel
theorem d_mo_compare_57 : decode b_mo_compare 57 = .ok (.iload_n 3, 1) := by decide +kernel
theorem d_mo_compare_58 : decode b_mo_compare 58 = .ok (.iadd, 1) := by decide +kernel
theorem d_mo_compare_59 : decode b_mo_compare 59 = .ok (.iaload, 1) := by decide +kernel
theorem d_mo_compare_60 : decode b_mo_compare 60 = .ok (.aload_n 0, 1) := by decide +kernel
theorem d_mo_compare_61 : decode b_mo_compare 61 = .ok (.getfield 17, 3) := by decide +kernel
theorem d_mo_compare_64 : decode b_mo_compare 64 = .ok (.bipush 40, 2) := by decide +kernel
theorem d_mo_compare_66 : decode b_mo_compare 66 = .ok (.iload_n 2, 1) := by decide +kernel
theorem d_mo_compare_67 : decode b_mo_compare 67 = .ok (.imul, 1) := by decide +kernel
theorem d_mo_compare_68 : decode b_mo_compare 68 = .ok (.iload_n 3, 1) := by decide +kernel
theorem d_mo_compare_69 : decode b_mo_compare 69 = .ok (.iadd, 1) := by decide +kernel
theorem d_mo_compare_70 : decode b_mo_compare 70 = .ok (.iaload, 1) := by decide +kernel
theorem d_mo_compare_71 : decode b_mo_compare 71 = .ok (.if_icmp .ne 10, 3) := by decide +kernel
theorem d_mo_compare_74 : decode b_mo_compare 74 = .ok (.iload_n 3, 1) := by decide +kernel
theorem d_mo_compare_75 : decode b_mo_compare 75 = .ok (.iconst 1, 1) := by decide +kernel
theorem d_mo_compare_76 : decode b_mo_compare 76 = .ok (.isub, 1) := by decide +kernel
theorem d_mo_compare_77 : decode b_mo_compare 77 = .ok (.istore_n 3, 1) := by decide +kernel
theorem d_mo_compare_78 : decode b_mo_compare 78 = .ok (.goto (-33), 3) := by decide +kernel
theorem d_mo_compare_81 : decode b_mo_compare 81 = .ok (.iload_n 3, 1) := by decide +kernel
theorem d_mo_compare_82 : decode b_mo_compare 82 = .ok (.ifCond .ge 7, 3) := by decide +kernel
theorem d_mo_compare_85 : decode b_mo_compare 85 = .ok (.iconst 0, 1) := by decide +kernel
theorem d_mo_compare_86 : decode b_mo_compare 86 = .ok (.goto 33, 3) := by decide +kernel
theorem d_mo_compare_89 : decode b_mo_compare 89 = .ok (.aload_n 0, 1) := by decide +kernel
theorem d_mo_compare_90 : decode b_mo_compare 90 = .ok (.getfield 17, 3) := by decide +kernel
theorem d_mo_compare_93 : decode b_mo_compare 93 = .ok (.bipush 40, 2) := by decide +kernel
theorem d_mo_compare_95 : decode b_mo_compare 95 = .ok (.iload_n 1, 1) := by decide +kernel
theorem d_mo_compare_96 : decode b_mo_compare 96 = .ok (.imul, 1) := by decide +kernel
theorem d_mo_compare_97 : decode b_mo_compare 97 = .ok (.iload_n 3, 1) := by decide +kernel
theorem d_mo_compare_98 : decode b_mo_compare 98 = .ok (.iadd, 1) := by decide +kernel
theorem d_mo_compare_99 : decode b_mo_compare 99 = .ok (.iaload, 1) := by decide +kernel
theorem d_mo_compare_100 : decode b_mo_compare 100 = .ok (.aload_n 0, 1) := by decide +kernel
theorem d_mo_compare_101 : decode b_mo_compare 101 = .ok (.getfield 17, 3) := by decide +kernel
theorem d_mo_compare_104 : decode b_mo_compare 104 = .ok (.bipush 40, 2) := by decide +kernel
theorem d_mo_compare_106 : decode b_mo_compare 106 = .ok (.iload_n 2, 1) := by decide +kernel
theorem d_mo_compare_107 : decode b_mo_compare 107 = .ok (.imul, 1) := by decide +kernel
theorem d_mo_compare_108 : decode b_mo_compare 108 = .ok (.iload_n 3, 1) := by decide +kernel
theorem d_mo_compare_109 : decode b_mo_compare 109 = .ok (.iadd, 1) := by decide +kernel
theorem d_mo_compare_110 : decode b_mo_compare 110 = .ok (.iaload, 1) := by decide +kernel
theorem d_mo_compare_111 : decode b_mo_compare 111 = .ok (.if_icmp .ge 7, 3) := by decide +kernel
theorem d_mo_compare_114 : decode b_mo_compare 114 = .ok (.iconst (-1), 1) := by decide +kernel
theorem d_mo_compare_115 : decode b_mo_compare 115 = .ok (.goto 4, 3) := by decide +kernel
theorem d_mo_compare_118 : decode b_mo_compare 118 = .ok (.iconst 1, 1) := by decide +kernel
theorem d_mo_compare_119 : decode b_mo_compare 119 = .ok (.ireturn, 1) := by decide +kernel
theorem d_mo_addTo_0 : decode b_mo_addTo 0 = .ok (.aload_n 0, 1) := by decide +kernel
theorem d_mo_addTo_1 : decode b_mo_addTo 1 = .ok (.getfield 20, 3) := by decide +kernel
theorem d_mo_addTo_4 : decode b_mo_addTo 4 = .ok (.iload_n 1, 1) := by decide +kernel
theorem d_mo_addTo_5 : decode b_mo_addTo 5 = .ok (.iaload, 1) := by decide +kernel
theorem d_mo_addTo_6 : decode b_mo_addTo 6 = .ok (.aload_n 0, 1) := by decide +kernel
theorem d_mo_addTo_7 : decode b_mo_addTo 7 = .ok (.getfield 20, 3) := by decide +kernel
theorem d_mo_addTo_10 : decode b_mo_addTo 10 = .ok (.iload_n 2, 1) := by decide +kernel
theorem d_mo_addTo_11 : decode b_mo_addTo 11 = .ok (.iaload, 1) := by decide +kernel
theorem d_mo_addTo_12 : decode b_mo_addTo 12 = .ok (.if_icmp .le 12, 3) := by decide +kernel
theorem d_mo_addTo_15 : decode b_mo_addTo 15 = .ok (.aload_n 0, 1) := by decide +kernel
theorem d_mo_addTo_16 : decode b_mo_addTo 16 = .ok (.getfield 20, 3) := by decide +kernel
theorem d_mo_addTo_19 : decode b_mo_addTo 19 = .ok (.iload_n 1, 1) := by decide +kernel
theorem d_mo_addTo_20 : decode b_mo_addTo 20 = .ok (.iaload, 1) := by decide +kernel
theorem d_mo_addTo_21 : decode b_mo_addTo 21 = .ok (.goto 9, 3) := by decide +kernel
theorem d_mo_addTo_24 : decode b_mo_addTo 24 = .ok (.aload_n 0, 1) := by decide +kernel
theorem d_mo_addTo_25 : decode b_mo_addTo 25 = .ok (.getfield 20, 3) := by decide +kernel
theorem d_mo_addTo_28 : decode b_mo_addTo 28 = .ok (.iload_n 2, 1) := by decide +kernel
theorem d_mo_addTo_29 : decode b_mo_addTo 29 = .ok (.iaload, 1) := by decide +kernel
theorem d_mo_addTo_30 : decode b_mo_addTo 30 = .ok (.istore_n 3, 1) := by decide +kernel
theorem d_mo_addTo_31 : decode b_mo_addTo 31 = .ok (.iconst 0, 1) := by decide +kernel
theorem d_mo_addTo_32 : decode b_mo_addTo 32 = .ok (.istore 4, 2) := by decide +kernel
theorem d_mo_addTo_34 : decode b_mo_addTo 34 = .ok (.iconst 0, 1) := by decide +kernel
theorem d_mo_addTo_35 : decode b_mo_addTo 35 = .ok (.istore 5, 2) := by decide +kernel
theorem d_mo_addTo_37 : decode b_mo_addTo 37 = .ok (.iload 5, 2) := by decide +kernel
theorem d_mo_addTo_39 : decode b_mo_addTo 39 = .ok (.iload_n 3, 1) := by decide +kernel
theorem d_mo_addTo_40 : decode b_mo_addTo 40 = .ok (.if_icmp .gt 72, 3) := by decide +kernel
theorem d_mo_addTo_43 : decode b_mo_addTo 43 = .ok (.iload 5, 2) := by decide +kernel
theorem d_mo_addTo_45 : decode b_mo_addTo 45 = .ok (.bipush 40, 2) := by decide +kernel
theorem d_mo_addTo_47 : decode b_mo_addTo 47 = .ok (.if_icmp .ge 65, 3) := by decide +kernel
theorem d_mo_addTo_50 : decode b_mo_addTo 50 = .ok (.aload_n 0, 1) := by decide +kernel
theorem d_mo_addTo_51 : decode b_mo_addTo 51 = .ok (.getfield 17, 3) := by decide +kernel
theorem d_mo_addTo_54 : decode b_mo_addTo 54 = .ok (.bipush 40, 2) := by decide +kernel
theorem d_mo_addTo_56 : decode b_mo_addTo 56 = .ok (.iload_n 1, 1) := by decide +kernel
theorem d_mo_addTo_57 : decode b_mo_addTo 57 = .ok (.imul, 1) := by decide +kernel
theorem d_mo_addTo_58 : decode b_mo_addTo 58 = .ok (.iload 5, 2) := by decide +kernel
theorem d_mo_addTo_60 : decode b_mo_addTo 60 = .ok (.iadd, 1) := by decide +kernel
theorem d_mo_addTo_61 : decode b_mo_addTo 61 = .ok (.iaload, 1) := by decide +kernel
theorem d_mo_addTo_62 : decode b_mo_addTo 62 = .ok (.aload_n 0, 1) := by decide +kernel
theorem d_mo_addTo_63 : decode b_mo_addTo 63 = .ok (.getfield 17, 3) := by decide +kernel
theorem d_mo_addTo_66 : decode b_mo_addTo 66 = .ok (.bipush 40, 2) := by decide +kernel
theorem d_mo_addTo_68 : decode b_mo_addTo 68 = .ok (.iload_n 2, 1) := by decide +kernel
theorem d_mo_addTo_69 : decode b_mo_addTo 69 = .ok (.imul, 1) := by decide +kernel
theorem d_mo_addTo_70 : decode b_mo_addTo 70 = .ok (.iload 5, 2) := by decide +kernel
theorem d_mo_addTo_72 : decode b_mo_addTo 72 = .ok (.iadd, 1) := by decide +kernel
theorem d_mo_addTo_73 : decode b_mo_addTo 73 = .ok (.iaload, 1) := by decide +kernel
theorem d_mo_addTo_74 : decode b_mo_addTo 74 = .ok (.iadd, 1) := by decide +kernel
theorem d_mo_addTo_75 : decode b_mo_addTo 75 = .ok (.iload 4, 2) := by decide +kernel
theorem d_mo_addTo_77 : decode b_mo_addTo 77 = .ok (.iadd, 1) := by decide +kernel
theorem d_mo_addTo_78 : decode b_mo_addTo 78 = .ok (.istore 6, 2) := by decide +kernel
theorem d_mo_addTo_80 : decode b_mo_addTo 80 = .ok (.aload_n 0, 1) := by decide +kernel
theorem d_mo_addTo_81 : decode b_mo_addTo 81 = .ok (.getfield 17, 3) := by decide +kernel
theorem d_mo_addTo_84 : decode b_mo_addTo 84 = .ok (.bipush 40, 2) := by decide +kernel
theorem d_mo_addTo_86 : decode b_mo_addTo 86 = .ok (.iload_n 1, 1) := by decide +kernel
theorem d_mo_addTo_87 : decode b_mo_addTo 87 = .ok (.imul, 1) := by decide +kernel
theorem d_mo_addTo_88 : decode b_mo_addTo 88 = .ok (.iload 5, 2) := by decide +kernel
theorem d_mo_addTo_90 : decode b_mo_addTo 90 = .ok (.iadd, 1) := by decide +kernel
theorem d_mo_addTo_91 : decode b_mo_addTo 91 = .ok (.iload 6, 2) := by decide +kernel
theorem d_mo_addTo_93 : decode b_mo_addTo 93 = .ok (.sipush 10000, 3) := by decide +kernel
theorem d_mo_addTo_96 : decode b_mo_addTo 96 = .ok (.irem, 1) := by decide +kernel
theorem d_mo_addTo_97 : decode b_mo_addTo 97 = .ok (.iastore, 1) := by decide +kernel
theorem d_mo_addTo_98 : decode b_mo_addTo 98 = .ok (.iload 6, 2) := by decide +kernel
theorem d_mo_addTo_100 : decode b_mo_addTo 100 = .ok (.sipush 10000, 3) := by decide +kernel
theorem d_mo_addTo_103 : decode b_mo_addTo 103 = .ok (.idiv, 1) := by decide +kernel
theorem d_mo_addTo_104 : decode b_mo_addTo 104 = .ok (.istore 4, 2) := by decide +kernel
theorem d_mo_addTo_106 : decode b_mo_addTo 106 = .ok (.iinc 5 1, 3) := by decide +kernel
theorem d_mo_addTo_109 : decode b_mo_addTo 109 = .ok (.goto (-72), 3) := by decide +kernel
theorem d_mo_addTo_112 : decode b_mo_addTo 112 = .ok (.aload_n 0, 1) := by decide +kernel
theorem d_mo_addTo_113 : decode b_mo_addTo 113 = .ok (.iload_n 1, 1) := by decide +kernel
theorem d_mo_addTo_114 : decode b_mo_addTo 114 = .ok (.iload_n 3, 1) := by decide +kernel
theorem d_mo_addTo_115 : decode b_mo_addTo 115 = .ok (.bipush 40, 2) := by decide +kernel
theorem d_mo_addTo_117 : decode b_mo_addTo 117 = .ok (.if_icmp .ge 9, 3) := by decide +kernel
theorem d_mo_addTo_120 : decode b_mo_addTo 120 = .ok (.iload_n 3, 1) := by decide +kernel
theorem d_mo_addTo_121 : decode b_mo_addTo 121 = .ok (.iconst 1, 1) := by decide +kernel
theorem d_mo_addTo_122 : decode b_mo_addTo 122 = .ok (.iadd, 1) := by decide +kernel
theorem d_mo_addTo_123 : decode b_mo_addTo 123 = .ok (.goto 5, 3) := by decide +kernel
theorem d_mo_addTo_126 : decode b_mo_addTo 126 = .ok (.bipush 40, 2) := by decide +kernel
theorem d_mo_addTo_128 : decode b_mo_addTo 128 = .ok (.invokevirtual 45, 3) := by decide +kernel
theorem d_mo_addTo_131 : decode b_mo_addTo 131 = .ok (.return_, 1) := by decide +kernel
theorem d_mo_takeOff_0 : decode b_mo_takeOff 0 = .ok (.iconst 0, 1) := by decide +kernel
theorem d_mo_takeOff_1 : decode b_mo_takeOff 1 = .ok (.istore_n 3, 1) := by decide +kernel
theorem d_mo_takeOff_2 : decode b_mo_takeOff 2 = .ok (.iconst 0, 1) := by decide +kernel
theorem d_mo_takeOff_3 : decode b_mo_takeOff 3 = .ok (.istore 4, 2) := by decide +kernel
theorem d_mo_takeOff_5 : decode b_mo_takeOff 5 = .ok (.iload 4, 2) := by decide +kernel
theorem d_mo_takeOff_7 : decode b_mo_takeOff 7 = .ok (.aload_n 0, 1) := by decide +kernel
theorem d_mo_takeOff_8 : decode b_mo_takeOff 8 = .ok (.getfield 20, 3) := by decide +kernel
theorem d_mo_takeOff_11 : decode b_mo_takeOff 11 = .ok (.iload_n 1, 1) := by decide +kernel
theorem d_mo_takeOff_12 : decode b_mo_takeOff 12 = .ok (.iaload, 1) := by decide +kernel
theorem d_mo_takeOff_13 : decode b_mo_takeOff 13 = .ok (.if_icmp .ge 77, 3) := by decide +kernel
theorem d_mo_takeOff_16 : decode b_mo_takeOff 16 = .ok (.aload_n 0, 1) := by decide +kernel
theorem d_mo_takeOff_17 : decode b_mo_takeOff 17 = .ok (.getfield 17, 3) := by decide +kernel
theorem d_mo_takeOff_20 : decode b_mo_takeOff 20 = .ok (.bipush 40, 2) := by decide +kernel
theorem d_mo_takeOff_22 : decode b_mo_takeOff 22 = .ok (.iload_n 1, 1) := by decide +kernel
theorem d_mo_takeOff_23 : decode b_mo_takeOff 23 = .ok (.imul, 1) := by decide +kernel
theorem d_mo_takeOff_24 : decode b_mo_takeOff 24 = .ok (.iload 4, 2) := by decide +kernel
theorem d_mo_takeOff_26 : decode b_mo_takeOff 26 = .ok (.iadd, 1) := by decide +kernel
theorem d_mo_takeOff_27 : decode b_mo_takeOff 27 = .ok (.iaload, 1) := by decide +kernel
theorem d_mo_takeOff_28 : decode b_mo_takeOff 28 = .ok (.aload_n 0, 1) := by decide +kernel
theorem d_mo_takeOff_29 : decode b_mo_takeOff 29 = .ok (.getfield 17, 3) := by decide +kernel
theorem d_mo_takeOff_32 : decode b_mo_takeOff 32 = .ok (.bipush 40, 2) := by decide +kernel
theorem d_mo_takeOff_34 : decode b_mo_takeOff 34 = .ok (.iload_n 2, 1) := by decide +kernel
theorem d_mo_takeOff_35 : decode b_mo_takeOff 35 = .ok (.imul, 1) := by decide +kernel
theorem d_mo_takeOff_36 : decode b_mo_takeOff 36 = .ok (.iload 4, 2) := by decide +kernel
theorem d_mo_takeOff_38 : decode b_mo_takeOff 38 = .ok (.iadd, 1) := by decide +kernel
theorem d_mo_takeOff_39 : decode b_mo_takeOff 39 = .ok (.iaload, 1) := by decide +kernel
theorem d_mo_takeOff_40 : decode b_mo_takeOff 40 = .ok (.isub, 1) := by decide +kernel
theorem d_mo_takeOff_41 : decode b_mo_takeOff 41 = .ok (.iload_n 3, 1) := by decide +kernel
theorem d_mo_takeOff_42 : decode b_mo_takeOff 42 = .ok (.isub, 1) := by decide +kernel
theorem d_mo_takeOff_43 : decode b_mo_takeOff 43 = .ok (.istore 5, 2) := by decide +kernel
theorem d_mo_takeOff_45 : decode b_mo_takeOff 45 = .ok (.iload 5, 2) := by decide +kernel
theorem d_mo_takeOff_47 : decode b_mo_takeOff 47 = .ok (.ifCond .ge 7, 3) := by decide +kernel
theorem d_mo_takeOff_50 : decode b_mo_takeOff 50 = .ok (.iconst 1, 1) := by decide +kernel
theorem d_mo_takeOff_51 : decode b_mo_takeOff 51 = .ok (.goto 4, 3) := by decide +kernel
theorem d_mo_takeOff_54 : decode b_mo_takeOff 54 = .ok (.iconst 0, 1) := by decide +kernel
theorem d_mo_takeOff_55 : decode b_mo_takeOff 55 = .ok (.istore_n 3, 1) := by decide +kernel
theorem d_mo_takeOff_56 : decode b_mo_takeOff 56 = .ok (.aload_n 0, 1) := by decide +kernel
theorem d_mo_takeOff_57 : decode b_mo_takeOff 57 = .ok (.getfield 17, 3) := by decide +kernel
theorem d_mo_takeOff_60 : decode b_mo_takeOff 60 = .ok (.bipush 40, 2) := by decide +kernel
theorem d_mo_takeOff_62 : decode b_mo_takeOff 62 = .ok (.iload_n 1, 1) := by decide +kernel
theorem d_mo_takeOff_63 : decode b_mo_takeOff 63 = .ok (.imul, 1) := by decide +kernel
theorem d_mo_takeOff_64 : decode b_mo_takeOff 64 = .ok (.iload 4, 2) := by decide +kernel
theorem d_mo_takeOff_66 : decode b_mo_takeOff 66 = .ok (.iadd, 1) := by decide +kernel
theorem d_mo_takeOff_67 : decode b_mo_takeOff 67 = .ok (.iload 5, 2) := by decide +kernel
theorem d_mo_takeOff_69 : decode b_mo_takeOff 69 = .ok (.ifCond .ge 12, 3) := by decide +kernel
theorem d_mo_takeOff_72 : decode b_mo_takeOff 72 = .ok (.iload 5, 2) := by decide +kernel
theorem d_mo_takeOff_74 : decode b_mo_takeOff 74 = .ok (.sipush 10000, 3) := by decide +kernel
theorem d_mo_takeOff_77 : decode b_mo_takeOff 77 = .ok (.iadd, 1) := by decide +kernel
theorem d_mo_takeOff_78 : decode b_mo_takeOff 78 = .ok (.goto 5, 3) := by decide +kernel
theorem d_mo_takeOff_81 : decode b_mo_takeOff 81 = .ok (.iload 5, 2) := by decide +kernel
theorem d_mo_takeOff_83 : decode b_mo_takeOff 83 = .ok (.iastore, 1) := by decide +kernel
theorem d_mo_takeOff_84 : decode b_mo_takeOff 84 = .ok (.iinc 4 1, 3) := by decide +kernel
theorem d_mo_takeOff_87 : decode b_mo_takeOff 87 = .ok (.goto (-82), 3) := by decide +kernel
theorem d_mo_takeOff_90 : decode b_mo_takeOff 90 = .ok (.aload_n 0, 1) := by decide +kernel
theorem d_mo_takeOff_91 : decode b_mo_takeOff 91 = .ok (.iload_n 1, 1) := by decide +kernel
theorem d_mo_takeOff_92 : decode b_mo_takeOff 92 = .ok (.aload_n 0, 1) := by decide +kernel
theorem d_mo_takeOff_93 : decode b_mo_takeOff 93 = .ok (.getfield 20, 3) := by decide +kernel
theorem d_mo_takeOff_96 : decode b_mo_takeOff 96 = .ok (.iload_n 1, 1) := by decide +kernel
theorem d_mo_takeOff_97 : decode b_mo_takeOff 97 = .ok (.iaload, 1) := by decide +kernel
theorem d_mo_takeOff_98 : decode b_mo_takeOff 98 = .ok (.invokevirtual 45, 3) := by decide +kernel
theorem d_mo_takeOff_101 : decode b_mo_takeOff 101 = .ok (.return_, 1) := by decide +kernel
theorem d_mo_multiply_0 : decode b_mo_multiply 0 = .ok (.aload_n 0, 1) := by decide +kernel
theorem d_mo_multiply_1 : decode b_mo_multiply 1 = .ok (.iload_n 3, 1) := by decide +kernel
theorem d_mo_multiply_2 : decode b_mo_multiply 2 = .ok (.iconst 0, 1) := by decide +kernel
theorem d_mo_multiply_3 : decode b_mo_multiply 3 = .ok (.invokevirtual 35, 3) := by decide +kernel
theorem d_mo_multiply_6 : decode b_mo_multiply 6 = .ok (.iconst 0, 1) := by decide +kernel
theorem d_mo_multiply_7 : decode b_mo_multiply 7 = .ok (.istore 4, 2) := by decide +kernel
theorem d_mo_multiply_9 : decode b_mo_multiply 9 = .ok (.iload 4, 2) := by decide +kernel
theorem d_mo_multiply_11 : decode b_mo_multiply 11 = .ok (.aload_n 0, 1) := by decide +kernel
theorem d_mo_multiply_12 : decode b_mo_multiply 12 = .ok (.getfield 20, 3) := by decide +kernel
theorem d_mo_multiply_15 : decode b_mo_multiply 15 = .ok (.iload_n 1, 1) := by decide +kernel
theorem d_mo_multiply_16 : decode b_mo_multiply 16 = .ok (.iaload, 1) := by decide +kernel
theorem d_mo_multiply_17 : decode b_mo_multiply 17 = .ok (.if_icmp .ge 123, 3) := by decide +kernel
theorem d_mo_multiply_20 : decode b_mo_multiply 20 = .ok (.iconst 0, 1) := by decide +kernel
theorem d_mo_multiply_21 : decode b_mo_multiply 21 = .ok (.istore 5, 2) := by decide +kernel
theorem d_mo_multiply_23 : decode b_mo_multiply 23 = .ok (.iconst 0, 1) := by decide +kernel
theorem d_mo_multiply_24 : decode b_mo_multiply 24 = .ok (.istore 6, 2) := by decide +kernel
theorem d_mo_multiply_26 : decode b_mo_multiply 26 = .ok (.iload 6, 2) := by decide +kernel
theorem d_mo_multiply_28 : decode b_mo_multiply 28 = .ok (.aload_n 0, 1) := by decide +kernel
theorem d_mo_multiply_29 : decode b_mo_multiply 29 = .ok (.getfield 20, 3) := by decide +kernel
theorem d_mo_multiply_32 : decode b_mo_multiply 32 = .ok (.iload_n 2, 1) := by decide +kernel
theorem d_mo_multiply_33 : decode b_mo_multiply 33 = .ok (.iaload, 1) := by decide +kernel
theorem d_mo_multiply_34 : decode b_mo_multiply 34 = .ok (.if_icmp .lt 8, 3) := by decide +kernel
theorem d_mo_multiply_37 : decode b_mo_multiply 37 = .ok (.iload 5, 2) := by decide +kernel
theorem d_mo_multiply_39 : decode b_mo_multiply 39 = .ok (.ifCond .le 95, 3) := by decide +kernel
theorem d_mo_multiply_42 : decode b_mo_multiply 42 = .ok (.bipush 40, 2) := by decide +kernel
theorem d_mo_multiply_44 : decode b_mo_multiply 44 = .ok (.iload_n 3, 1) := by decide +kernel
theorem d_mo_multiply_45 : decode b_mo_multiply 45 = .ok (.imul, 1) := by decide +kernel
theorem d_mo_multiply_46 : decode b_mo_multiply 46 = .ok (.iload 4, 2) := by decide +kernel
theorem d_mo_multiply_48 : decode b_mo_multiply 48 = .ok (.iadd, 1) := by decide +kernel
theorem d_mo_multiply_49 : decode b_mo_multiply 49 = .ok (.iload 6, 2) := by decide +kernel
theorem d_mo_multiply_51 : decode b_mo_multiply 51 = .ok (.iadd, 1) := by decide +kernel
theorem d_mo_multiply_52 : decode b_mo_multiply 52 = .ok (.istore 7, 2) := by decide +kernel
theorem d_mo_multiply_54 : decode b_mo_multiply 54 = .ok (.aload_n 0, 1) := by decide +kernel
theorem d_mo_multiply_55 : decode b_mo_multiply 55 = .ok (.getfield 17, 3) := by decide +kernel
theorem d_mo_multiply_58 : decode b_mo_multiply 58 = .ok (.iload 7, 2) := by decide +kernel
theorem d_mo_multiply_60 : decode b_mo_multiply 60 = .ok (.iaload, 1) := by decide +kernel
theorem d_mo_multiply_61 : decode b_mo_multiply 61 = .ok (.aload_n 0, 1) := by decide +kernel
theorem d_mo_multiply_62 : decode b_mo_multiply 62 = .ok (.getfield 17, 3) := by decide +kernel
theorem d_mo_multiply_65 : decode b_mo_multiply 65 = .ok (.bipush 40, 2) := by decide +kernel
theorem d_mo_multiply_67 : decode b_mo_multiply 67 = .ok (.iload_n 1, 1) := by decide +kernel
theorem d_mo_multiply_68 : decode b_mo_multiply 68 = .ok (.imul, 1) := by decide +kernel
theorem d_mo_multiply_69 : decode b_mo_multiply 69 = .ok (.iload 4, 2) := by decide +kernel
theorem d_mo_multiply_71 : decode b_mo_multiply 71 = .ok (.iadd, 1) := by decide +kernel
theorem d_mo_multiply_72 : decode b_mo_multiply 72 = .ok (.iaload, 1) := by decide +kernel
theorem d_mo_multiply_73 : decode b_mo_multiply 73 = .ok (.iload 6, 2) := by decide +kernel
theorem d_mo_multiply_75 : decode b_mo_multiply 75 = .ok (.aload_n 0, 1) := by decide +kernel
theorem d_mo_multiply_76 : decode b_mo_multiply 76 = .ok (.getfield 20, 3) := by decide +kernel
theorem d_mo_multiply_79 : decode b_mo_multiply 79 = .ok (.iload_n 2, 1) := by decide +kernel
theorem d_mo_multiply_80 : decode b_mo_multiply 80 = .ok (.iaload, 1) := by decide +kernel
theorem d_mo_multiply_81 : decode b_mo_multiply 81 = .ok (.if_icmp .ge 18, 3) := by decide +kernel
theorem d_mo_multiply_84 : decode b_mo_multiply 84 = .ok (.aload_n 0, 1) := by decide +kernel
theorem d_mo_multiply_85 : decode b_mo_multiply 85 = .ok (.getfield 17, 3) := by decide +kernel
theorem d_mo_multiply_88 : decode b_mo_multiply 88 = .ok (.bipush 40, 2) := by decide +kernel
theorem d_mo_multiply_90 : decode b_mo_multiply 90 = .ok (.iload_n 2, 1) := by decide +kernel
theorem d_mo_multiply_91 : decode b_mo_multiply 91 = .ok (.imul, 1) := by decide +kernel
theorem d_mo_multiply_92 : decode b_mo_multiply 92 = .ok (.iload 6, 2) := by decide +kernel
theorem d_mo_multiply_94 : decode b_mo_multiply 94 = .ok (.iadd, 1) := by decide +kernel
theorem d_mo_multiply_95 : decode b_mo_multiply 95 = .ok (.iaload, 1) := by decide +kernel
theorem d_mo_multiply_96 : decode b_mo_multiply 96 = .ok (.goto 4, 3) := by decide +kernel
theorem d_mo_multiply_99 : decode b_mo_multiply 99 = .ok (.iconst 0, 1) := by decide +kernel
theorem d_mo_multiply_100 : decode b_mo_multiply 100 = .ok (.imul, 1) := by decide +kernel
theorem d_mo_multiply_101 : decode b_mo_multiply 101 = .ok (.iadd, 1) := by decide +kernel
theorem d_mo_multiply_102 : decode b_mo_multiply 102 = .ok (.iload 5, 2) := by decide +kernel
theorem d_mo_multiply_104 : decode b_mo_multiply 104 = .ok (.iadd, 1) := by decide +kernel
theorem d_mo_multiply_105 : decode b_mo_multiply 105 = .ok (.istore 8, 2) := by decide +kernel
theorem d_mo_multiply_107 : decode b_mo_multiply 107 = .ok (.aload_n 0, 1) := by decide +kernel
theorem d_mo_multiply_108 : decode b_mo_multiply 108 = .ok (.getfield 17, 3) := by decide +kernel
theorem d_mo_multiply_111 : decode b_mo_multiply 111 = .ok (.iload 7, 2) := by decide +kernel
theorem d_mo_multiply_113 : decode b_mo_multiply 113 = .ok (.iload 8, 2) := by decide +kernel
theorem d_mo_multiply_115 : decode b_mo_multiply 115 = .ok (.sipush 10000, 3) := by decide +kernel
theorem d_mo_multiply_118 : decode b_mo_multiply 118 = .ok (.irem, 1) := by decide +kernel
theorem d_mo_multiply_119 : decode b_mo_multiply 119 = .ok (.iastore, 1) := by decide +kernel
theorem d_mo_multiply_120 : decode b_mo_multiply 120 = .ok (.iload 8, 2) := by decide +kernel
theorem d_mo_multiply_122 : decode b_mo_multiply 122 = .ok (.sipush 10000, 3) := by decide +kernel
theorem d_mo_multiply_125 : decode b_mo_multiply 125 = .ok (.idiv, 1) := by decide +kernel
theorem d_mo_multiply_126 : decode b_mo_multiply 126 = .ok (.istore 5, 2) := by decide +kernel
theorem d_mo_multiply_128 : decode b_mo_multiply 128 = .ok (.iinc 6 1, 3) := by decide +kernel
theorem d_mo_multiply_131 : decode b_mo_multiply 131 = .ok (.goto (-105), 3) := by decide +kernel
theorem d_mo_multiply_134 : decode b_mo_multiply 134 = .ok (.iinc 4 1, 3) := by decide +kernel
theorem d_mo_multiply_137 : decode b_mo_multiply 137 = .ok (.goto (-128), 3) := by decide +kernel
theorem d_mo_multiply_140 : decode b_mo_multiply 140 = .ok (.aload_n 0, 1) := by decide +kernel
theorem d_mo_multiply_141 : decode b_mo_multiply 141 = .ok (.iload_n 3, 1) := by decide +kernel
theorem d_mo_multiply_142 : decode b_mo_multiply 142 = .ok (.bipush 40, 2) := by decide +kernel
theorem d_mo_multiply_144 : decode b_mo_multiply 144 = .ok (.invokevirtual 45, 3) := by decide +kernel
theorem d_mo_multiply_147 : decode b_mo_multiply 147 = .ok (.return_, 1) := by decide +kernel
theorem d_mo_shift_0 : decode b_mo_shift 0 = .ok (.aload_n 0, 1) := by decide +kernel
theorem d_mo_shift_1 : decode b_mo_shift 1 = .ok (.getfield 20, 3) := by decide +kernel
theorem d_mo_shift_4 : decode b_mo_shift 4 = .ok (.iload_n 1, 1) := by decide +kernel
theorem d_mo_shift_5 : decode b_mo_shift 5 = .ok (.iaload, 1) := by decide +kernel
theorem d_mo_shift_6 : decode b_mo_shift 6 = .ok (.istore_n 3, 1) := by decide +kernel
theorem d_mo_shift_7 : decode b_mo_shift 7 = .ok (.iload_n 3, 1) := by decide +kernel
theorem d_mo_shift_8 : decode b_mo_shift 8 = .ok (.ifCond .le 33, 3) := by decide +kernel
theorem d_mo_shift_11 : decode b_mo_shift 11 = .ok (.aload_n 0, 1) := by decide +kernel
theorem d_mo_shift_12 : decode b_mo_shift 12 = .ok (.getfield 17, 3) := by decide +kernel
theorem d_mo_shift_15 : decode b_mo_shift 15 = .ok (.bipush 40, 2) := by decide +kernel
theorem d_mo_shift_17 : decode b_mo_shift 17 = .ok (.iload_n 1, 1) := by decide +kernel
theorem d_mo_shift_18 : decode b_mo_shift 18 = .ok (.imul, 1) := by decide +kernel
theorem d_mo_shift_19 : decode b_mo_shift 19 = .ok (.iload_n 3, 1) := by decide +kernel
theorem d_mo_shift_20 : decode b_mo_shift 20 = .ok (.iadd, 1) := by decide +kernel
theorem d_mo_shift_21 : decode b_mo_shift 21 = .ok (.aload_n 0, 1) := by decide +kernel
theorem d_mo_shift_22 : decode b_mo_shift 22 = .ok (.getfield 17, 3) := by decide +kernel
theorem d_mo_shift_25 : decode b_mo_shift 25 = .ok (.bipush 40, 2) := by decide +kernel
theorem d_mo_shift_27 : decode b_mo_shift 27 = .ok (.iload_n 1, 1) := by decide +kernel
theorem d_mo_shift_28 : decode b_mo_shift 28 = .ok (.imul, 1) := by decide +kernel
theorem d_mo_shift_29 : decode b_mo_shift 29 = .ok (.iload_n 3, 1) := by decide +kernel
theorem d_mo_shift_30 : decode b_mo_shift 30 = .ok (.iadd, 1) := by decide +kernel
theorem d_mo_shift_31 : decode b_mo_shift 31 = .ok (.iconst 1, 1) := by decide +kernel
theorem d_mo_shift_32 : decode b_mo_shift 32 = .ok (.isub, 1) := by decide +kernel
theorem d_mo_shift_33 : decode b_mo_shift 33 = .ok (.iaload, 1) := by decide +kernel
theorem d_mo_shift_34 : decode b_mo_shift 34 = .ok (.iastore, 1) := by decide +kernel
theorem d_mo_shift_35 : decode b_mo_shift 35 = .ok (.iinc 3 (-1), 3) := by decide +kernel
theorem d_mo_shift_38 : decode b_mo_shift 38 = .ok (.goto (-31), 3) := by decide +kernel
theorem d_mo_shift_41 : decode b_mo_shift 41 = .ok (.aload_n 0, 1) := by decide +kernel
theorem d_mo_shift_42 : decode b_mo_shift 42 = .ok (.getfield 17, 3) := by decide +kernel
theorem d_mo_shift_45 : decode b_mo_shift 45 = .ok (.bipush 40, 2) := by decide +kernel
theorem d_mo_shift_47 : decode b_mo_shift 47 = .ok (.iload_n 1, 1) := by decide +kernel
theorem d_mo_shift_48 : decode b_mo_shift 48 = .ok (.imul, 1) := by decide +kernel
theorem d_mo_shift_49 : decode b_mo_shift 49 = .ok (.iload_n 2, 1) := by decide +kernel
theorem d_mo_shift_50 : decode b_mo_shift 50 = .ok (.iastore, 1) := by decide +kernel
theorem d_mo_shift_51 : decode b_mo_shift 51 = .ok (.aload_n 0, 1) := by decide +kernel
theorem d_mo_shift_52 : decode b_mo_shift 52 = .ok (.iload_n 1, 1) := by decide +kernel
theorem d_mo_shift_53 : decode b_mo_shift 53 = .ok (.aload_n 0, 1) := by decide +kernel
theorem d_mo_shift_54 : decode b_mo_shift 54 = .ok (.getfield 20, 3) := by decide +kernel
theorem d_mo_shift_57 : decode b_mo_shift 57 = .ok (.iload_n 1, 1) := by decide +kernel
theorem d_mo_shift_58 : decode b_mo_shift 58 = .ok (.iaload, 1) := by decide +kernel
theorem d_mo_shift_59 : decode b_mo_shift 59 = .ok (.iconst 1, 1) := by decide +kernel
theorem d_mo_shift_60 : decode b_mo_shift 60 = .ok (.iadd, 1) := by decide +kernel
theorem d_mo_shift_61 : decode b_mo_shift 61 = .ok (.invokevirtual 45, 3) := by decide +kernel
theorem d_mo_shift_64 : decode b_mo_shift 64 = .ok (.return_, 1) := by decide +kernel
theorem d_mo_divideSmall_0 : decode b_mo_divideSmall 0 = .ok (.iconst 0, 1) := by decide +kernel
theorem d_mo_divideSmall_1 : decode b_mo_divideSmall 1 = .ok (.istore_n 3, 1) := by decide +kernel
theorem d_mo_divideSmall_2 : decode b_mo_divideSmall 2 = .ok (.aload_n 0, 1) := by decide +kernel
theorem d_mo_divideSmall_3 : decode b_mo_divideSmall 3 = .ok (.getfield 20, 3) := by decide +kernel
theorem d_mo_divideSmall_6 : decode b_mo_divideSmall 6 = .ok (.iload_n 1, 1) := by decide +kernel
theorem d_mo_divideSmall_7 : decode b_mo_divideSmall 7 = .ok (.iaload, 1) := by decide +kernel
theorem d_mo_divideSmall_8 : decode b_mo_divideSmall 8 = .ok (.iconst 1, 1) := by decide +kernel
theorem d_mo_divideSmall_9 : decode b_mo_divideSmall 9 = .ok (.isub, 1) := by decide +kernel
theorem d_mo_divideSmall_10 : decode b_mo_divideSmall 10 = .ok (.istore 4, 2) := by decide +kernel
theorem d_mo_divideSmall_12 : decode b_mo_divideSmall 12 = .ok (.iload 4, 2) := by decide +kernel
theorem d_mo_divideSmall_14 : decode b_mo_divideSmall 14 = .ok (.ifCond .lt 50, 3) := by decide +kernel
theorem d_mo_divideSmall_17 : decode b_mo_divideSmall 17 = .ok (.iload_n 3, 1) := by decide +kernel
theorem d_mo_divideSmall_18 : decode b_mo_divideSmall 18 = .ok (.sipush 10000, 3) := by decide +kernel
theorem d_mo_divideSmall_21 : decode b_mo_divideSmall 21 = .ok (.imul, 1) := by decide +kernel
theorem d_mo_divideSmall_22 : decode b_mo_divideSmall 22 = .ok (.aload_n 0, 1) := by decide +kernel
theorem d_mo_divideSmall_23 : decode b_mo_divideSmall 23 = .ok (.getfield 17, 3) := by decide +kernel
theorem d_mo_divideSmall_26 : decode b_mo_divideSmall 26 = .ok (.bipush 40, 2) := by decide +kernel
theorem d_mo_divideSmall_28 : decode b_mo_divideSmall 28 = .ok (.iload_n 1, 1) := by decide +kernel
theorem d_mo_divideSmall_29 : decode b_mo_divideSmall 29 = .ok (.imul, 1) := by decide +kernel
theorem d_mo_divideSmall_30 : decode b_mo_divideSmall 30 = .ok (.iload 4, 2) := by decide +kernel
theorem d_mo_divideSmall_32 : decode b_mo_divideSmall 32 = .ok (.iadd, 1) := by decide +kernel
theorem d_mo_divideSmall_33 : decode b_mo_divideSmall 33 = .ok (.iaload, 1) := by decide +kernel
theorem d_mo_divideSmall_34 : decode b_mo_divideSmall 34 = .ok (.iadd, 1) := by decide +kernel
theorem d_mo_divideSmall_35 : decode b_mo_divideSmall 35 = .ok (.istore 5, 2) := by decide +kernel
theorem d_mo_divideSmall_37 : decode b_mo_divideSmall 37 = .ok (.aload_n 0, 1) := by decide +kernel
theorem d_mo_divideSmall_38 : decode b_mo_divideSmall 38 = .ok (.getfield 17, 3) := by decide +kernel
theorem d_mo_divideSmall_41 : decode b_mo_divideSmall 41 = .ok (.bipush 40, 2) := by decide +kernel
theorem d_mo_divideSmall_43 : decode b_mo_divideSmall 43 = .ok (.iload_n 1, 1) := by decide +kernel
theorem d_mo_divideSmall_44 : decode b_mo_divideSmall 44 = .ok (.imul, 1) := by decide +kernel
theorem d_mo_divideSmall_45 : decode b_mo_divideSmall 45 = .ok (.iload 4, 2) := by decide +kernel
theorem d_mo_divideSmall_47 : decode b_mo_divideSmall 47 = .ok (.iadd, 1) := by decide +kernel
theorem d_mo_divideSmall_48 : decode b_mo_divideSmall 48 = .ok (.iload 5, 2) := by decide +kernel
theorem d_mo_divideSmall_50 : decode b_mo_divideSmall 50 = .ok (.iload_n 2, 1) := by decide +kernel
theorem d_mo_divideSmall_51 : decode b_mo_divideSmall 51 = .ok (.idiv, 1) := by decide +kernel
theorem d_mo_divideSmall_52 : decode b_mo_divideSmall 52 = .ok (.iastore, 1) := by decide +kernel
theorem d_mo_divideSmall_53 : decode b_mo_divideSmall 53 = .ok (.iload 5, 2) := by decide +kernel
theorem d_mo_divideSmall_55 : decode b_mo_divideSmall 55 = .ok (.iload_n 2, 1) := by decide +kernel
theorem d_mo_divideSmall_56 : decode b_mo_divideSmall 56 = .ok (.irem, 1) := by decide +kernel
theorem d_mo_divideSmall_57 : decode b_mo_divideSmall 57 = .ok (.istore_n 3, 1) := by decide +kernel
theorem d_mo_divideSmall_58 : decode b_mo_divideSmall 58 = .ok (.iinc 4 (-1), 3) := by decide +kernel
theorem d_mo_divideSmall_61 : decode b_mo_divideSmall 61 = .ok (.goto (-49), 3) := by decide +kernel
theorem d_mo_divideSmall_64 : decode b_mo_divideSmall 64 = .ok (.aload_n 0, 1) := by decide +kernel
theorem d_mo_divideSmall_65 : decode b_mo_divideSmall 65 = .ok (.iload_n 1, 1) := by decide +kernel
theorem d_mo_divideSmall_66 : decode b_mo_divideSmall 66 = .ok (.aload_n 0, 1) := by decide +kernel
theorem d_mo_divideSmall_67 : decode b_mo_divideSmall 67 = .ok (.getfield 20, 3) := by decide +kernel
theorem d_mo_divideSmall_70 : decode b_mo_divideSmall 70 = .ok (.iload_n 1, 1) := by decide +kernel
theorem d_mo_divideSmall_71 : decode b_mo_divideSmall 71 = .ok (.iaload, 1) := by decide +kernel
theorem d_mo_divideSmall_72 : decode b_mo_divideSmall 72 = .ok (.invokevirtual 45, 3) := by decide +kernel
theorem d_mo_divideSmall_75 : decode b_mo_divideSmall 75 = .ok (.iload_n 3, 1) := by decide +kernel
theorem d_mo_divideSmall_76 : decode b_mo_divideSmall 76 = .ok (.ireturn, 1) := by decide +kernel
theorem d_mo_times_0 : decode b_mo_times 0 = .ok (.aload_n 0, 1) := by decide +kernel
theorem d_mo_times_1 : decode b_mo_times 1 = .ok (.iload_n 3, 1) := by decide +kernel
theorem d_mo_times_2 : decode b_mo_times 2 = .ok (.iconst 0, 1) := by decide +kernel
theorem d_mo_times_3 : decode b_mo_times 3 = .ok (.invokevirtual 35, 3) := by decide +kernel
theorem d_mo_times_6 : decode b_mo_times 6 = .ok (.iconst 0, 1) := by decide +kernel
theorem d_mo_times_7 : decode b_mo_times 7 = .ok (.istore 4, 2) := by decide +kernel
theorem d_mo_times_9 : decode b_mo_times 9 = .ok (.iconst 0, 1) := by decide +kernel
theorem d_mo_times_10 : decode b_mo_times 10 = .ok (.istore 5, 2) := by decide +kernel
theorem d_mo_times_12 : decode b_mo_times 12 = .ok (.iload 5, 2) := by decide +kernel
theorem d_mo_times_14 : decode b_mo_times 14 = .ok (.aload_n 0, 1) := by decide +kernel
theorem d_mo_times_15 : decode b_mo_times 15 = .ok (.getfield 20, 3) := by decide +kernel
theorem d_mo_times_18 : decode b_mo_times 18 = .ok (.iload_n 1, 1) := by decide +kernel
theorem d_mo_times_19 : decode b_mo_times 19 = .ok (.iaload, 1) := by decide +kernel
theorem d_mo_times_20 : decode b_mo_times 20 = .ok (.if_icmp .lt 8, 3) := by decide +kernel
theorem d_mo_times_23 : decode b_mo_times 23 = .ok (.iload 4, 2) := by decide +kernel
theorem d_mo_times_25 : decode b_mo_times 25 = .ok (.ifCond .le 69, 3) := by decide +kernel
theorem d_mo_times_28 : decode b_mo_times 28 = .ok (.iload 5, 2) := by decide +kernel
theorem d_mo_times_30 : decode b_mo_times 30 = .ok (.aload_n 0, 1) := by decide +kernel
theorem d_mo_times_31 : decode b_mo_times 31 = .ok (.getfield 20, 3) := by decide +kernel
theorem d_mo_times_34 : decode b_mo_times 34 = .ok (.iload_n 1, 1) := by decide +kernel
theorem d_mo_times_35 : decode b_mo_times 35 = .ok (.iaload, 1) := by decide +kernel
theorem d_mo_times_36 : decode b_mo_times 36 = .ok (.if_icmp .ge 20, 3) := by decide +kernel
theorem d_mo_times_39 : decode b_mo_times 39 = .ok (.aload_n 0, 1) := by decide +kernel
theorem d_mo_times_40 : decode b_mo_times 40 = .ok (.getfield 17, 3) := by decide +kernel
theorem d_mo_times_43 : decode b_mo_times 43 = .ok (.bipush 40, 2) := by decide +kernel
theorem d_mo_times_45 : decode b_mo_times 45 = .ok (.iload_n 1, 1) := by decide +kernel
theorem d_mo_times_46 : decode b_mo_times 46 = .ok (.imul, 1) := by decide +kernel
theorem d_mo_times_47 : decode b_mo_times 47 = .ok (.iload 5, 2) := by decide +kernel
theorem d_mo_times_49 : decode b_mo_times 49 = .ok (.iadd, 1) := by decide +kernel
theorem d_mo_times_50 : decode b_mo_times 50 = .ok (.iaload, 1) := by decide +kernel
theorem d_mo_times_51 : decode b_mo_times 51 = .ok (.iload_n 2, 1) := by decide +kernel
theorem d_mo_times_52 : decode b_mo_times 52 = .ok (.imul, 1) := by decide +kernel
theorem d_mo_times_53 : decode b_mo_times 53 = .ok (.goto 4, 3) := by decide +kernel
theorem d_mo_times_56 : decode b_mo_times 56 = .ok (.iconst 0, 1) := by decide +kernel
theorem d_mo_times_57 : decode b_mo_times 57 = .ok (.iload 4, 2) := by decide +kernel
theorem d_mo_times_59 : decode b_mo_times 59 = .ok (.iadd, 1) := by decide +kernel
theorem d_mo_times_60 : decode b_mo_times 60 = .ok (.istore 6, 2) := by decide +kernel
theorem d_mo_times_62 : decode b_mo_times 62 = .ok (.aload_n 0, 1) := by decide +kernel
theorem d_mo_times_63 : decode b_mo_times 63 = .ok (.getfield 17, 3) := by decide +kernel
theorem d_mo_times_66 : decode b_mo_times 66 = .ok (.bipush 40, 2) := by decide +kernel
theorem d_mo_times_68 : decode b_mo_times 68 = .ok (.iload_n 3, 1) := by decide +kernel
theorem d_mo_times_69 : decode b_mo_times 69 = .ok (.imul, 1) := by decide +kernel
theorem d_mo_times_70 : decode b_mo_times 70 = .ok (.iload 5, 2) := by decide +kernel
theorem d_mo_times_72 : decode b_mo_times 72 = .ok (.iadd, 1) := by decide +kernel
theorem d_mo_times_73 : decode b_mo_times 73 = .ok (.iload 6, 2) := by decide +kernel
theorem d_mo_times_75 : decode b_mo_times 75 = .ok (.sipush 10000, 3) := by decide +kernel
theorem d_mo_times_78 : decode b_mo_times 78 = .ok (.irem, 1) := by decide +kernel
theorem d_mo_times_79 : decode b_mo_times 79 = .ok (.iastore, 1) := by decide +kernel
theorem d_mo_times_80 : decode b_mo_times 80 = .ok (.iload 6, 2) := by decide +kernel
theorem d_mo_times_82 : decode b_mo_times 82 = .ok (.sipush 10000, 3) := by decide +kernel
theorem d_mo_times_85 : decode b_mo_times 85 = .ok (.idiv, 1) := by decide +kernel
theorem d_mo_times_86 : decode b_mo_times 86 = .ok (.istore 4, 2) := by decide +kernel
theorem d_mo_times_88 : decode b_mo_times 88 = .ok (.iinc 5 1, 3) := by decide +kernel
theorem d_mo_times_91 : decode b_mo_times 91 = .ok (.goto (-79), 3) := by decide +kernel
theorem d_mo_times_94 : decode b_mo_times 94 = .ok (.aload_n 0, 1) := by decide +kernel
theorem d_mo_times_95 : decode b_mo_times 95 = .ok (.iload_n 3, 1) := by decide +kernel
theorem d_mo_times_96 : decode b_mo_times 96 = .ok (.bipush 40, 2) := by decide +kernel
theorem d_mo_times_98 : decode b_mo_times 98 = .ok (.invokevirtual 45, 3) := by decide +kernel
theorem d_mo_times_101 : decode b_mo_times 101 = .ok (.return_, 1) := by decide +kernel
theorem d_mo_divide_0 : decode b_mo_divide 0 = .ok (.aload_n 0, 1) := by decide +kernel
theorem d_mo_divide_1 : decode b_mo_divide 1 = .ok (.iload_n 3, 1) := by decide +kernel
theorem d_mo_divide_2 : decode b_mo_divide 2 = .ok (.iconst 0, 1) := by decide +kernel
theorem d_mo_divide_3 : decode b_mo_divide 3 = .ok (.invokevirtual 35, 3) := by decide +kernel
theorem d_mo_divide_6 : decode b_mo_divide 6 = .ok (.aload_n 0, 1) := by decide +kernel
theorem d_mo_divide_7 : decode b_mo_divide 7 = .ok (.iload 4, 2) := by decide +kernel
theorem d_mo_divide_9 : decode b_mo_divide 9 = .ok (.iconst 0, 1) := by decide +kernel
theorem d_mo_divide_10 : decode b_mo_divide 10 = .ok (.invokevirtual 35, 3) := by decide +kernel
theorem d_mo_divide_13 : decode b_mo_divide 13 = .ok (.aload_n 0, 1) := by decide +kernel
theorem d_mo_divide_14 : decode b_mo_divide 14 = .ok (.getfield 20, 3) := by decide +kernel
theorem d_mo_divide_17 : decode b_mo_divide 17 = .ok (.iload_n 1, 1) := by decide +kernel
theorem d_mo_divide_18 : decode b_mo_divide 18 = .ok (.iaload, 1) := by decide +kernel
theorem d_mo_divide_19 : decode b_mo_divide 19 = .ok (.iconst 1, 1) := by decide +kernel
theorem d_mo_divide_20 : decode b_mo_divide 20 = .ok (.isub, 1) := by decide +kernel
theorem d_mo_divide_21 : decode b_mo_divide 21 = .ok (.istore 5, 2) := by decide +kernel
theorem d_mo_divide_23 : decode b_mo_divide 23 = .ok (.iload 5, 2) := by decide +kernel
theorem d_mo_divide_25 : decode b_mo_divide 25 = .ok (.ifCond .lt 117, 3) := by decide +kernel
theorem d_mo_divide_28 : decode b_mo_divide 28 = .ok (.aload_n 0, 1) := by decide +kernel
theorem d_mo_divide_29 : decode b_mo_divide 29 = .ok (.iload 4, 2) := by decide +kernel
theorem d_mo_divide_31 : decode b_mo_divide 31 = .ok (.aload_n 0, 1) := by decide +kernel
theorem d_mo_divide_32 : decode b_mo_divide 32 = .ok (.getfield 17, 3) := by decide +kernel
theorem d_mo_divide_35 : decode b_mo_divide 35 = .ok (.bipush 40, 2) := by decide +kernel
theorem d_mo_divide_37 : decode b_mo_divide 37 = .ok (.iload_n 1, 1) := by decide +kernel
theorem d_mo_divide_38 : decode b_mo_divide 38 = .ok (.imul, 1) := by decide +kernel
theorem d_mo_divide_39 : decode b_mo_divide 39 = .ok (.iload 5, 2) := by decide +kernel
theorem d_mo_divide_41 : decode b_mo_divide 41 = .ok (.iadd, 1) := by decide +kernel
theorem d_mo_divide_42 : decode b_mo_divide 42 = .ok (.iaload, 1) := by decide +kernel
theorem d_mo_divide_43 : decode b_mo_divide 43 = .ok (.invokevirtual 48, 3) := by decide +kernel
theorem d_mo_divide_46 : decode b_mo_divide 46 = .ok (.iconst 0, 1) := by decide +kernel
theorem d_mo_divide_47 : decode b_mo_divide 47 = .ok (.istore 6, 2) := by decide +kernel
theorem d_mo_divide_49 : decode b_mo_divide 49 = .ok (.sipush 9999, 3) := by decide +kernel
theorem d_mo_divide_52 : decode b_mo_divide 52 = .ok (.istore 7, 2) := by decide +kernel
theorem d_mo_divide_54 : decode b_mo_divide 54 = .ok (.iload 6, 2) := by decide +kernel
theorem d_mo_divide_56 : decode b_mo_divide 56 = .ok (.iload 7, 2) := by decide +kernel
theorem d_mo_divide_58 : decode b_mo_divide 58 = .ok (.if_icmp .ge 52, 3) := by decide +kernel
theorem d_mo_divide_61 : decode b_mo_divide 61 = .ok (.iload 6, 2) := by decide +kernel
theorem d_mo_divide_63 : decode b_mo_divide 63 = .ok (.iload 7, 2) := by decide +kernel
theorem d_mo_divide_65 : decode b_mo_divide 65 = .ok (.iadd, 1) := by decide +kernel
theorem d_mo_divide_66 : decode b_mo_divide 66 = .ok (.iconst 1, 1) := by decide +kernel
theorem d_mo_divide_67 : decode b_mo_divide 67 = .ok (.iadd, 1) := by decide +kernel
theorem d_mo_divide_68 : decode b_mo_divide 68 = .ok (.iconst 2, 1) := by decide +kernel
theorem d_mo_divide_69 : decode b_mo_divide 69 = .ok (.idiv, 1) := by decide +kernel
theorem d_mo_divide_70 : decode b_mo_divide 70 = .ok (.istore 8, 2) := by decide +kernel
theorem d_mo_divide_72 : decode b_mo_divide 72 = .ok (.aload_n 0, 1) := by decide +kernel
theorem d_mo_divide_73 : decode b_mo_divide 73 = .ok (.iload_n 2, 1) := by decide +kernel
theorem d_mo_divide_74 : decode b_mo_divide 74 = .ok (.iload 8, 2) := by decide +kernel
theorem d_mo_divide_76 : decode b_mo_divide 76 = .ok (.sipush 157, 3) := by decide +kernel
theorem d_mo_divide_79 : decode b_mo_divide 79 = .ok (.invokevirtual 51, 3) := by decide +kernel
theorem d_mo_divide_82 : decode b_mo_divide 82 = .ok (.aload_n 0, 1) := by decide +kernel
theorem d_mo_divide_83 : decode b_mo_divide 83 = .ok (.sipush 157, 3) := by decide +kernel
theorem d_mo_divide_86 : decode b_mo_divide 86 = .ok (.iload 4, 2) := by decide +kernel
theorem d_mo_divide_88 : decode b_mo_divide 88 = .ok (.invokevirtual 55, 3) := by decide +kernel
theorem d_mo_divide_91 : decode b_mo_divide 91 = .ok (.ifCond .gt 10, 3) := by decide +kernel
theorem d_mo_divide_94 : decode b_mo_divide 94 = .ok (.iload 8, 2) := by decide +kernel
theorem d_mo_divide_96 : decode b_mo_divide 96 = .ok (.istore 6, 2) := by decide +kernel
theorem d_mo_divide_98 : decode b_mo_divide 98 = .ok (.goto 9, 3) := by decide +kernel
theorem d_mo_divide_101 : decode b_mo_divide 101 = .ok (.iload 8, 2) := by decide +kernel
theorem d_mo_divide_103 : decode b_mo_divide 103 = .ok (.iconst 1, 1) := by decide +kernel
theorem d_mo_divide_104 : decode b_mo_divide 104 = .ok (.isub, 1) := by decide +kernel
theorem d_mo_divide_105 : decode b_mo_divide 105 = .ok (.istore 7, 2) := by decide +kernel
theorem d_mo_divide_107 : decode b_mo_divide 107 = .ok (.goto (-53), 3) := by decide +kernel
theorem d_mo_divide_110 : decode b_mo_divide 110 = .ok (.aload_n 0, 1) := by decide +kernel
theorem d_mo_divide_111 : decode b_mo_divide 111 = .ok (.iload_n 2, 1) := by decide +kernel
theorem d_mo_divide_112 : decode b_mo_divide 112 = .ok (.iload 6, 2) := by decide +kernel
theorem d_mo_divide_114 : decode b_mo_divide 114 = .ok (.sipush 157, 3) := by decide +kernel
theorem d_mo_divide_117 : decode b_mo_divide 117 = .ok (.invokevirtual 51, 3) := by decide +kernel
theorem d_mo_divide_120 : decode b_mo_divide 120 = .ok (.aload_n 0, 1) := by decide +kernel
theorem d_mo_divide_121 : decode b_mo_divide 121 = .ok (.iload 4, 2) := by decide +kernel
theorem d_mo_divide_123 : decode b_mo_divide 123 = .ok (.sipush 157, 3) := by decide +kernel
theorem d_mo_divide_126 : decode b_mo_divide 126 = .ok (.invokevirtual 59, 3) := by decide +kernel
theorem d_mo_divide_129 : decode b_mo_divide 129 = .ok (.aload_n 0, 1) := by decide +kernel
theorem d_mo_divide_130 : decode b_mo_divide 130 = .ok (.iload_n 3, 1) := by decide +kernel
theorem d_mo_divide_131 : decode b_mo_divide 131 = .ok (.iload 6, 2) := by decide +kernel
theorem d_mo_divide_133 : decode b_mo_divide 133 = .ok (.invokevirtual 48, 3) := by decide +kernel
theorem d_mo_divide_136 : decode b_mo_divide 136 = .ok (.iinc 5 (-1), 3) := by decide +kernel
theorem d_mo_divide_139 : decode b_mo_divide 139 = .ok (.goto (-116), 3) := by decide +kernel
theorem d_mo_divide_142 : decode b_mo_divide 142 = .ok (.return_, 1) := by decide +kernel
theorem d_mo_isEven_0 : decode b_mo_isEven 0 = .ok (.aload_n 0, 1) := by decide +kernel
theorem d_mo_isEven_1 : decode b_mo_isEven 1 = .ok (.getfield 17, 3) := by decide +kernel
theorem d_mo_isEven_4 : decode b_mo_isEven 4 = .ok (.bipush 40, 2) := by decide +kernel
theorem d_mo_isEven_6 : decode b_mo_isEven 6 = .ok (.iload_n 1, 1) := by decide +kernel
theorem d_mo_isEven_7 : decode b_mo_isEven 7 = .ok (.imul, 1) := by decide +kernel
theorem d_mo_isEven_8 : decode b_mo_isEven 8 = .ok (.iaload, 1) := by decide +kernel
theorem d_mo_isEven_9 : decode b_mo_isEven 9 = .ok (.iconst 2, 1) := by decide +kernel
theorem d_mo_isEven_10 : decode b_mo_isEven 10 = .ok (.irem, 1) := by decide +kernel
theorem d_mo_isEven_11 : decode b_mo_isEven 11 = .ok (.ifCond .ne 7, 3) := by decide +kernel
theorem d_mo_isEven_14 : decode b_mo_isEven 14 = .ok (.iconst 1, 1) := by decide +kernel
theorem d_mo_isEven_15 : decode b_mo_isEven 15 = .ok (.goto 4, 3) := by decide +kernel
theorem d_mo_isEven_18 : decode b_mo_isEven 18 = .ok (.iconst 0, 1) := by decide +kernel
theorem d_mo_isEven_19 : decode b_mo_isEven 19 = .ok (.ireturn, 1) := by decide +kernel
theorem d_mo_common_0 : decode b_mo_common 0 = .ok (.aload_n 0, 1) := by decide +kernel
theorem d_mo_common_1 : decode b_mo_common 1 = .ok (.iload_n 1, 1) := by decide +kernel
theorem d_mo_common_2 : decode b_mo_common 2 = .ok (.sipush 154, 3) := by decide +kernel
theorem d_mo_common_5 : decode b_mo_common 5 = .ok (.invokevirtual 62, 3) := by decide +kernel
theorem d_mo_common_8 : decode b_mo_common 8 = .ok (.aload_n 0, 1) := by decide +kernel
theorem d_mo_common_9 : decode b_mo_common 9 = .ok (.iload_n 2, 1) := by decide +kernel
theorem d_mo_common_10 : decode b_mo_common 10 = .ok (.sipush 155, 3) := by decide +kernel
theorem d_mo_common_13 : decode b_mo_common 13 = .ok (.invokevirtual 62, 3) := by decide +kernel
theorem d_mo_common_16 : decode b_mo_common 16 = .ok (.iconst 0, 1) := by decide +kernel
theorem d_mo_common_17 : decode b_mo_common 17 = .ok (.istore_n 3, 1) := by decide +kernel
theorem d_mo_common_18 : decode b_mo_common 18 = .ok (.aload_n 0, 1) := by decide +kernel
theorem d_mo_common_19 : decode b_mo_common 19 = .ok (.getfield 20, 3) := by decide +kernel
theorem d_mo_common_22 : decode b_mo_common 22 = .ok (.sipush 154, 3) := by decide +kernel
theorem d_mo_common_25 : decode b_mo_common 25 = .ok (.iaload, 1) := by decide +kernel
theorem d_mo_common_26 : decode b_mo_common 26 = .ok (.ifCond .le 130, 3) := by decide +kernel
theorem d_mo_common_29 : decode b_mo_common 29 = .ok (.aload_n 0, 1) := by decide +kernel
theorem d_mo_common_30 : decode b_mo_common 30 = .ok (.getfield 20, 3) := by decide +kernel
theorem d_mo_common_33 : decode b_mo_common 33 = .ok (.sipush 155, 3) := by decide +kernel
theorem d_mo_common_36 : decode b_mo_common 36 = .ok (.iaload, 1) := by decide +kernel
theorem d_mo_common_37 : decode b_mo_common 37 = .ok (.ifCond .le 119, 3) := by decide +kernel
theorem d_mo_common_40 : decode b_mo_common 40 = .ok (.aload_n 0, 1) := by decide +kernel
theorem d_mo_common_41 : decode b_mo_common 41 = .ok (.sipush 154, 3) := by decide +kernel
theorem d_mo_common_44 : decode b_mo_common 44 = .ok (.invokevirtual 65, 3) := by decide +kernel
theorem d_mo_common_47 : decode b_mo_common 47 = .ok (.istore 4, 2) := by decide +kernel
theorem d_mo_common_49 : decode b_mo_common 49 = .ok (.aload_n 0, 1) := by decide +kernel
theorem d_mo_common_50 : decode b_mo_common 50 = .ok (.sipush 155, 3) := by decide +kernel
theorem d_mo_common_53 : decode b_mo_common 53 = .ok (.invokevirtual 65, 3) := by decide +kernel
theorem d_mo_common_56 : decode b_mo_common 56 = .ok (.istore 5, 2) := by decide +kernel
theorem d_mo_common_58 : decode b_mo_common 58 = .ok (.iload 4, 2) := by decide +kernel
theorem d_mo_common_60 : decode b_mo_common 60 = .ok (.ifCond .ne 8, 3) := by decide +kernel
theorem d_mo_common_63 : decode b_mo_common 63 = .ok (.iload 5, 2) := by decide +kernel
theorem d_mo_common_65 : decode b_mo_common 65 = .ok (.ifCond .eq 52, 3) := by decide +kernel
theorem d_mo_common_68 : decode b_mo_common 68 = .ok (.iload 4, 2) := by decide +kernel
theorem d_mo_common_70 : decode b_mo_common 70 = .ok (.ifCond .eq 14, 3) := by decide +kernel
theorem d_mo_common_73 : decode b_mo_common 73 = .ok (.iload 5, 2) := by decide +kernel
theorem d_mo_common_75 : decode b_mo_common 75 = .ok (.ifCond .eq 9, 3) := by decide +kernel
theorem d_mo_common_78 : decode b_mo_common 78 = .ok (.iload_n 3, 1) := by decide +kernel
theorem d_mo_common_79 : decode b_mo_common 79 = .ok (.iconst 1, 1) := by decide +kernel
theorem d_mo_common_80 : decode b_mo_common 80 = .ok (.iadd, 1) := by decide +kernel
theorem d_mo_common_81 : decode b_mo_common 81 = .ok (.goto 4, 3) := by decide +kernel
theorem d_mo_common_84 : decode b_mo_common 84 = .ok (.iload_n 3, 1) := by decide +kernel
theorem d_mo_common_85 : decode b_mo_common 85 = .ok (.istore_n 3, 1) := by decide +kernel
theorem d_mo_common_86 : decode b_mo_common 86 = .ok (.iload 4, 2) := by decide +kernel
theorem d_mo_common_88 : decode b_mo_common 88 = .ok (.ifCond .eq 12, 3) := by decide +kernel
theorem d_mo_common_91 : decode b_mo_common 91 = .ok (.aload_n 0, 1) := by decide +kernel
theorem d_mo_common_92 : decode b_mo_common 92 = .ok (.sipush 154, 3) := by decide +kernel
theorem d_mo_common_95 : decode b_mo_common 95 = .ok (.iconst 2, 1) := by decide +kernel
theorem d_mo_common_96 : decode b_mo_common 96 = .ok (.invokevirtual 69, 3) := by decide +kernel
theorem d_mo_common_99 : decode b_mo_common 99 = .ok (.pop, 1) := by decide +kernel
theorem d_mo_common_100 : decode b_mo_common 100 = .ok (.iload 5, 2) := by decide +kernel
theorem d_mo_common_102 : decode b_mo_common 102 = .ok (.ifCond .eq 51, 3) := by decide +kernel
theorem d_mo_common_105 : decode b_mo_common 105 = .ok (.aload_n 0, 1) := by decide +kernel
theorem d_mo_common_106 : decode b_mo_common 106 = .ok (.sipush 155, 3) := by decide +kernel
theorem d_mo_common_109 : decode b_mo_common 109 = .ok (.iconst 2, 1) := by decide +kernel
theorem d_mo_common_110 : decode b_mo_common 110 = .ok (.invokevirtual 69, 3) := by decide +kernel
theorem d_mo_common_113 : decode b_mo_common 113 = .ok (.pop, 1) := by decide +kernel
theorem d_mo_common_114 : decode b_mo_common 114 = .ok (.goto 39, 3) := by decide +kernel
theorem d_mo_common_117 : decode b_mo_common 117 = .ok (.aload_n 0, 1) := by decide +kernel
theorem d_mo_common_118 : decode b_mo_common 118 = .ok (.sipush 154, 3) := by decide +kernel
theorem d_mo_common_121 : decode b_mo_common 121 = .ok (.sipush 155, 3) := by decide +kernel
theorem d_mo_common_124 : decode b_mo_common 124 = .ok (.invokevirtual 55, 3) := by decide +kernel
theorem d_mo_common_127 : decode b_mo_common 127 = .ok (.ifCond .ge 16, 3) := by decide +kernel
theorem d_mo_common_130 : decode b_mo_common 130 = .ok (.aload_n 0, 1) := by decide +kernel
theorem d_mo_common_131 : decode b_mo_common 131 = .ok (.sipush 155, 3) := by decide +kernel
theorem d_mo_common_134 : decode b_mo_common 134 = .ok (.sipush 154, 3) := by decide +kernel
theorem d_mo_common_137 : decode b_mo_common 137 = .ok (.invokevirtual 59, 3) := by decide +kernel
theorem d_mo_common_140 : decode b_mo_common 140 = .ok (.goto 13, 3) := by decide +kernel
theorem d_mo_common_143 : decode b_mo_common 143 = .ok (.aload_n 0, 1) := by decide +kernel
theorem d_mo_common_144 : decode b_mo_common 144 = .ok (.sipush 154, 3) := by decide +kernel
theorem d_mo_common_147 : decode b_mo_common 147 = .ok (.sipush 155, 3) := by decide +kernel
theorem d_mo_common_150 : decode b_mo_common 150 = .ok (.invokevirtual 59, 3) := by decide +kernel
theorem d_mo_common_153 : decode b_mo_common 153 = .ok (.goto (-135), 3) := by decide +kernel
theorem d_mo_common_156 : decode b_mo_common 156 = .ok (.aload_n 0, 1) := by decide +kernel
theorem d_mo_common_157 : decode b_mo_common 157 = .ok (.getfield 20, 3) := by decide +kernel
theorem d_mo_common_160 : decode b_mo_common 160 = .ok (.sipush 154, 3) := by decide +kernel
theorem d_mo_common_163 : decode b_mo_common 163 = .ok (.iaload, 1) := by decide +kernel
theorem d_mo_common_164 : decode b_mo_common 164 = .ok (.ifCond .ne 13, 3) := by decide +kernel
theorem d_mo_common_167 : decode b_mo_common 167 = .ok (.aload_n 0, 1) := by decide +kernel
theorem d_mo_common_168 : decode b_mo_common 168 = .ok (.sipush 155, 3) := by decide +kernel
theorem d_mo_common_171 : decode b_mo_common 171 = .ok (.sipush 154, 3) := by decide +kernel
theorem d_mo_common_174 : decode b_mo_common 174 = .ok (.invokevirtual 62, 3) := by decide +kernel
theorem d_mo_common_177 : decode b_mo_common 177 = .ok (.iconst 0, 1) := by decide +kernel
theorem d_mo_common_178 : decode b_mo_common 178 = .ok (.istore 4, 2) := by decide +kernel
theorem d_mo_common_180 : decode b_mo_common 180 = .ok (.iload 4, 2) := by decide +kernel
theorem d_mo_common_182 : decode b_mo_common 182 = .ok (.iload_n 3, 1) := by decide +kernel
theorem d_mo_common_183 : decode b_mo_common 183 = .ok (.if_icmp .ge 19, 3) := by decide +kernel
theorem d_mo_common_186 : decode b_mo_common 186 = .ok (.aload_n 0, 1) := by decide +kernel
theorem d_mo_common_187 : decode b_mo_common 187 = .ok (.sipush 154, 3) := by decide +kernel
theorem d_mo_common_190 : decode b_mo_common 190 = .ok (.sipush 154, 3) := by decide +kernel
theorem d_mo_common_193 : decode b_mo_common 193 = .ok (.invokevirtual 39, 3) := by decide +kernel
theorem d_mo_common_196 : decode b_mo_common 196 = .ok (.iinc 4 1, 3) := by decide +kernel
theorem d_mo_common_199 : decode b_mo_common 199 = .ok (.goto (-19), 3) := by decide +kernel
theorem d_mo_common_202 : decode b_mo_common 202 = .ok (.return_, 1) := by decide +kernel
theorem d_mo_copyValue_0 : decode b_mo_copyValue 0 = .ok (.aload_n 0, 1) := by decide +kernel
theorem d_mo_copyValue_1 : decode b_mo_copyValue 1 = .ok (.iconst 2, 1) := by decide +kernel
theorem d_mo_copyValue_2 : decode b_mo_copyValue 2 = .ok (.iload_n 1, 1) := by decide +kernel
theorem d_mo_copyValue_3 : decode b_mo_copyValue 3 = .ok (.imul, 1) := by decide +kernel
theorem d_mo_copyValue_4 : decode b_mo_copyValue 4 = .ok (.iconst 2, 1) := by decide +kernel
theorem d_mo_copyValue_5 : decode b_mo_copyValue 5 = .ok (.iload_n 2, 1) := by decide +kernel
theorem d_mo_copyValue_6 : decode b_mo_copyValue 6 = .ok (.imul, 1) := by decide +kernel
theorem d_mo_copyValue_7 : decode b_mo_copyValue 7 = .ok (.invokevirtual 62, 3) := by decide +kernel
theorem d_mo_copyValue_10 : decode b_mo_copyValue 10 = .ok (.aload_n 0, 1) := by decide +kernel
theorem d_mo_copyValue_11 : decode b_mo_copyValue 11 = .ok (.iconst 2, 1) := by decide +kernel
theorem d_mo_copyValue_12 : decode b_mo_copyValue 12 = .ok (.iload_n 1, 1) := by decide +kernel
theorem d_mo_copyValue_13 : decode b_mo_copyValue 13 = .ok (.imul, 1) := by decide +kernel
theorem d_mo_copyValue_14 : decode b_mo_copyValue 14 = .ok (.iconst 1, 1) := by decide +kernel
theorem d_mo_copyValue_15 : decode b_mo_copyValue 15 = .ok (.iadd, 1) := by decide +kernel
theorem d_mo_copyValue_16 : decode b_mo_copyValue 16 = .ok (.iconst 2, 1) := by decide +kernel
theorem d_mo_copyValue_17 : decode b_mo_copyValue 17 = .ok (.iload_n 2, 1) := by decide +kernel
theorem d_mo_copyValue_18 : decode b_mo_copyValue 18 = .ok (.imul, 1) := by decide +kernel
theorem d_mo_copyValue_19 : decode b_mo_copyValue 19 = .ok (.iconst 1, 1) := by decide +kernel
theorem d_mo_copyValue_20 : decode b_mo_copyValue 20 = .ok (.iadd, 1) := by decide +kernel
theorem d_mo_copyValue_21 : decode b_mo_copyValue 21 = .ok (.invokevirtual 62, 3) := by decide +kernel
theorem d_mo_copyValue_24 : decode b_mo_copyValue 24 = .ok (.aload_n 0, 1) := by decide +kernel
theorem d_mo_copyValue_25 : decode b_mo_copyValue 25 = .ok (.getfield 23, 3) := by decide +kernel
theorem d_mo_copyValue_28 : decode b_mo_copyValue 28 = .ok (.iload_n 2, 1) := by decide +kernel
theorem d_mo_copyValue_29 : decode b_mo_copyValue 29 = .ok (.aload_n 0, 1) := by decide +kernel
theorem d_mo_copyValue_30 : decode b_mo_copyValue 30 = .ok (.getfield 23, 3) := by decide +kernel
theorem d_mo_copyValue_33 : decode b_mo_copyValue 33 = .ok (.iload_n 1, 1) := by decide +kernel
theorem d_mo_copyValue_34 : decode b_mo_copyValue 34 = .ok (.iaload, 1) := by decide +kernel
theorem d_mo_copyValue_35 : decode b_mo_copyValue 35 = .ok (.iastore, 1) := by decide +kernel
theorem d_mo_copyValue_36 : decode b_mo_copyValue 36 = .ok (.return_, 1) := by decide +kernel
theorem d_mo_setValue_0 : decode b_mo_setValue 0 = .ok (.aload_n 0, 1) := by decide +kernel
theorem d_mo_setValue_1 : decode b_mo_setValue 1 = .ok (.iconst 2, 1) := by decide +kernel
theorem d_mo_setValue_2 : decode b_mo_setValue 2 = .ok (.iload_n 1, 1) := by decide +kernel
theorem d_mo_setValue_3 : decode b_mo_setValue 3 = .ok (.imul, 1) := by decide +kernel
theorem d_mo_setValue_4 : decode b_mo_setValue 4 = .ok (.iload_n 2, 1) := by decide +kernel
theorem d_mo_setValue_5 : decode b_mo_setValue 5 = .ok (.invokevirtual 35, 3) := by decide +kernel
theorem d_mo_setValue_8 : decode b_mo_setValue 8 = .ok (.aload_n 0, 1) := by decide +kernel
theorem d_mo_setValue_9 : decode b_mo_setValue 9 = .ok (.iconst 2, 1) := by decide +kernel
theorem d_mo_setValue_10 : decode b_mo_setValue 10 = .ok (.iload_n 1, 1) := by decide +kernel
theorem d_mo_setValue_11 : decode b_mo_setValue 11 = .ok (.imul, 1) := by decide +kernel
theorem d_mo_setValue_12 : decode b_mo_setValue 12 = .ok (.iconst 1, 1) := by decide +kernel
theorem d_mo_setValue_13 : decode b_mo_setValue 13 = .ok (.iadd, 1) := by decide +kernel
theorem d_mo_setValue_14 : decode b_mo_setValue 14 = .ok (.iconst 1, 1) := by decide +kernel
theorem d_mo_setValue_15 : decode b_mo_setValue 15 = .ok (.invokevirtual 35, 3) := by decide +kernel
theorem d_mo_setValue_18 : decode b_mo_setValue 18 = .ok (.aload_n 0, 1) := by decide +kernel
theorem d_mo_setValue_19 : decode b_mo_setValue 19 = .ok (.getfield 23, 3) := by decide +kernel
theorem d_mo_setValue_22 : decode b_mo_setValue 22 = .ok (.iload_n 1, 1) := by decide +kernel
theorem d_mo_setValue_23 : decode b_mo_setValue 23 = .ok (.iload_n 2, 1) := by decide +kernel
theorem d_mo_setValue_24 : decode b_mo_setValue 24 = .ok (.ifCond .le 7, 3) := by decide +kernel
theorem d_mo_setValue_27 : decode b_mo_setValue 27 = .ok (.iconst 1, 1) := by decide +kernel
theorem d_mo_setValue_28 : decode b_mo_setValue 28 = .ok (.goto 4, 3) := by decide +kernel
theorem d_mo_setValue_31 : decode b_mo_setValue 31 = .ok (.iconst 0, 1) := by decide +kernel
theorem d_mo_setValue_32 : decode b_mo_setValue 32 = .ok (.iastore, 1) := by decide +kernel
theorem d_mo_setValue_33 : decode b_mo_setValue 33 = .ok (.return_, 1) := by decide +kernel
theorem d_mo_isOne_0 : decode b_mo_isOne 0 = .ok (.aload_n 0, 1) := by decide +kernel
theorem d_mo_isOne_1 : decode b_mo_isOne 1 = .ok (.getfield 20, 3) := by decide +kernel
theorem d_mo_isOne_4 : decode b_mo_isOne 4 = .ok (.iload_n 1, 1) := by decide +kernel
theorem d_mo_isOne_5 : decode b_mo_isOne 5 = .ok (.iaload, 1) := by decide +kernel
theorem d_mo_isOne_6 : decode b_mo_isOne 6 = .ok (.iconst 1, 1) := by decide +kernel
theorem d_mo_isOne_7 : decode b_mo_isOne 7 = .ok (.if_icmp .ne 20, 3) := by decide +kernel
theorem d_mo_isOne_10 : decode b_mo_isOne 10 = .ok (.aload_n 0, 1) := by decide +kernel
theorem d_mo_isOne_11 : decode b_mo_isOne 11 = .ok (.getfield 17, 3) := by decide +kernel
theorem d_mo_isOne_14 : decode b_mo_isOne 14 = .ok (.bipush 40, 2) := by decide +kernel
theorem d_mo_isOne_16 : decode b_mo_isOne 16 = .ok (.iload_n 1, 1) := by decide +kernel
theorem d_mo_isOne_17 : decode b_mo_isOne 17 = .ok (.imul, 1) := by decide +kernel
theorem d_mo_isOne_18 : decode b_mo_isOne 18 = .ok (.iaload, 1) := by decide +kernel
theorem d_mo_isOne_19 : decode b_mo_isOne 19 = .ok (.iconst 1, 1) := by decide +kernel
theorem d_mo_isOne_20 : decode b_mo_isOne 20 = .ok (.if_icmp .ne 7, 3) := by decide +kernel
theorem d_mo_isOne_23 : decode b_mo_isOne 23 = .ok (.iconst 1, 1) := by decide +kernel
theorem d_mo_isOne_24 : decode b_mo_isOne 24 = .ok (.goto 4, 3) := by decide +kernel
theorem d_mo_isOne_27 : decode b_mo_isOne 27 = .ok (.iconst 0, 1) := by decide +kernel
theorem d_mo_isOne_28 : decode b_mo_isOne 28 = .ok (.ireturn, 1) := by decide +kernel
theorem d_mo_isWhole_0 : decode b_mo_isWhole 0 = .ok (.aload_n 0, 1) := by decide +kernel
theorem d_mo_isWhole_1 : decode b_mo_isWhole 1 = .ok (.iconst 2, 1) := by decide +kernel
theorem d_mo_isWhole_2 : decode b_mo_isWhole 2 = .ok (.iload_n 1, 1) := by decide +kernel
theorem d_mo_isWhole_3 : decode b_mo_isWhole 3 = .ok (.imul, 1) := by decide +kernel
theorem d_mo_isWhole_4 : decode b_mo_isWhole 4 = .ok (.iconst 1, 1) := by decide +kernel
theorem d_mo_isWhole_5 : decode b_mo_isWhole 5 = .ok (.iadd, 1) := by decide +kernel
theorem d_mo_isWhole_6 : decode b_mo_isWhole 6 = .ok (.invokevirtual 72, 3) := by decide +kernel
theorem d_mo_isWhole_9 : decode b_mo_isWhole 9 = .ok (.ireturn, 1) := by decide +kernel
theorem d_mo_lowest_0 : decode b_mo_lowest 0 = .ok (.aload_n 0, 1) := by decide +kernel
theorem d_mo_lowest_1 : decode b_mo_lowest 1 = .ok (.sipush 152, 3) := by decide +kernel
theorem d_mo_lowest_4 : decode b_mo_lowest 4 = .ok (.invokevirtual 72, 3) := by decide +kernel
theorem d_mo_lowest_7 : decode b_mo_lowest 7 = .ok (.ifCond .ne 14, 3) := by decide +kernel
theorem d_mo_lowest_10 : decode b_mo_lowest 10 = .ok (.aload_n 0, 1) := by decide +kernel
theorem d_mo_lowest_11 : decode b_mo_lowest 11 = .ok (.getfield 20, 3) := by decide +kernel
theorem d_mo_lowest_14 : decode b_mo_lowest 14 = .ok (.sipush 150, 3) := by decide +kernel
theorem d_mo_lowest_17 : decode b_mo_lowest 17 = .ok (.iaload, 1) := by decide +kernel
theorem d_mo_lowest_18 : decode b_mo_lowest 18 = .ok (.ifCond .ne 26, 3) := by decide +kernel
theorem d_mo_lowest_21 : decode b_mo_lowest 21 = .ok (.aload_n 0, 1) := by decide +kernel
theorem d_mo_lowest_22 : decode b_mo_lowest 22 = .ok (.sipush 150, 3) := by decide +kernel
theorem d_mo_lowest_25 : decode b_mo_lowest 25 = .ok (.iconst 2, 1) := by decide +kernel
theorem d_mo_lowest_26 : decode b_mo_lowest 26 = .ok (.iload_n 1, 1) := by decide +kernel
theorem d_mo_lowest_27 : decode b_mo_lowest 27 = .ok (.imul, 1) := by decide +kernel
theorem d_mo_lowest_28 : decode b_mo_lowest 28 = .ok (.invokevirtual 62, 3) := by decide +kernel
theorem d_mo_lowest_31 : decode b_mo_lowest 31 = .ok (.aload_n 0, 1) := by decide +kernel
theorem d_mo_lowest_32 : decode b_mo_lowest 32 = .ok (.iconst 2, 1) := by decide +kernel
theorem d_mo_lowest_33 : decode b_mo_lowest 33 = .ok (.iload_n 1, 1) := by decide +kernel
theorem d_mo_lowest_34 : decode b_mo_lowest 34 = .ok (.imul, 1) := by decide +kernel
theorem d_mo_lowest_35 : decode b_mo_lowest 35 = .ok (.iconst 1, 1) := by decide +kernel
theorem d_mo_lowest_36 : decode b_mo_lowest 36 = .ok (.iadd, 1) := by decide +kernel
theorem d_mo_lowest_37 : decode b_mo_lowest 37 = .ok (.iconst 1, 1) := by decide +kernel
theorem d_mo_lowest_38 : decode b_mo_lowest 38 = .ok (.invokevirtual 35, 3) := by decide +kernel
theorem d_mo_lowest_41 : decode b_mo_lowest 41 = .ok (.goto 47, 3) := by decide +kernel
theorem d_mo_lowest_44 : decode b_mo_lowest 44 = .ok (.aload_n 0, 1) := by decide +kernel
theorem d_mo_lowest_45 : decode b_mo_lowest 45 = .ok (.sipush 150, 3) := by decide +kernel
theorem d_mo_lowest_48 : decode b_mo_lowest 48 = .ok (.sipush 152, 3) := by decide +kernel
theorem d_mo_lowest_51 : decode b_mo_lowest 51 = .ok (.invokevirtual 75, 3) := by decide +kernel
theorem d_mo_lowest_54 : decode b_mo_lowest 54 = .ok (.aload_n 0, 1) := by decide +kernel
theorem d_mo_lowest_55 : decode b_mo_lowest 55 = .ok (.sipush 150, 3) := by decide +kernel
theorem d_mo_lowest_58 : decode b_mo_lowest 58 = .ok (.sipush 154, 3) := by decide +kernel
theorem d_mo_lowest_61 : decode b_mo_lowest 61 = .ok (.iconst 2, 1) := by decide +kernel
theorem d_mo_lowest_62 : decode b_mo_lowest 62 = .ok (.iload_n 1, 1) := by decide +kernel
theorem d_mo_lowest_63 : decode b_mo_lowest 63 = .ok (.imul, 1) := by decide +kernel
theorem d_mo_lowest_64 : decode b_mo_lowest 64 = .ok (.sipush 156, 3) := by decide +kernel
theorem d_mo_lowest_67 : decode b_mo_lowest 67 = .ok (.invokevirtual 78, 3) := by decide +kernel
theorem d_mo_lowest_70 : decode b_mo_lowest 70 = .ok (.aload_n 0, 1) := by decide +kernel
theorem d_mo_lowest_71 : decode b_mo_lowest 71 = .ok (.sipush 152, 3) := by decide +kernel
theorem d_mo_lowest_74 : decode b_mo_lowest 74 = .ok (.sipush 154, 3) := by decide +kernel
theorem d_mo_lowest_77 : decode b_mo_lowest 77 = .ok (.iconst 2, 1) := by decide +kernel
theorem d_mo_lowest_78 : decode b_mo_lowest 78 = .ok (.iload_n 1, 1) := by decide +kernel
theorem d_mo_lowest_79 : decode b_mo_lowest 79 = .ok (.imul, 1) := by decide +kernel
theorem d_mo_lowest_80 : decode b_mo_lowest 80 = .ok (.iconst 1, 1) := by decide +kernel
theorem d_mo_lowest_81 : decode b_mo_lowest 81 = .ok (.iadd, 1) := by decide +kernel
theorem d_mo_lowest_82 : decode b_mo_lowest 82 = .ok (.sipush 156, 3) := by decide +kernel
theorem d_mo_lowest_85 : decode b_mo_lowest 85 = .ok (.invokevirtual 78, 3) := by decide +kernel
theorem d_mo_lowest_88 : decode b_mo_lowest 88 = .ok (.aload_n 0, 1) := by decide +kernel
theorem d_mo_lowest_89 : decode b_mo_lowest 89 = .ok (.getfield 23, 3) := by decide +kernel
theorem d_mo_lowest_92 : decode b_mo_lowest 92 = .ok (.iload_n 1, 1) := by decide +kernel
theorem d_mo_lowest_93 : decode b_mo_lowest 93 = .ok (.aload_n 0, 1) := by decide +kernel
theorem d_mo_lowest_94 : decode b_mo_lowest 94 = .ok (.getfield 20, 3) := by decide +kernel
theorem d_mo_lowest_97 : decode b_mo_lowest 97 = .ok (.iconst 2, 1) := by decide +kernel
theorem d_mo_lowest_98 : decode b_mo_lowest 98 = .ok (.iload_n 1, 1) := by decide +kernel
theorem d_mo_lowest_99 : decode b_mo_lowest 99 = .ok (.imul, 1) := by decide +kernel
theorem d_mo_lowest_100 : decode b_mo_lowest 100 = .ok (.iaload, 1) := by decide +kernel
theorem d_mo_lowest_101 : decode b_mo_lowest 101 = .ok (.ifCond .ne 7, 3) := by decide +kernel
theorem d_mo_lowest_104 : decode b_mo_lowest 104 = .ok (.iconst 0, 1) := by decide +kernel
theorem d_mo_lowest_105 : decode b_mo_lowest 105 = .ok (.goto 4, 3) := by decide +kernel
theorem d_mo_lowest_108 : decode b_mo_lowest 108 = .ok (.iload_n 2, 1) := by decide +kernel
theorem d_mo_lowest_109 : decode b_mo_lowest 109 = .ok (.iastore, 1) := by decide +kernel
theorem d_mo_lowest_110 : decode b_mo_lowest 110 = .ok (.aload_n 0, 1) := by decide +kernel
theorem d_mo_lowest_111 : decode b_mo_lowest 111 = .ok (.iconst 2, 1) := by decide +kernel
theorem d_mo_lowest_112 : decode b_mo_lowest 112 = .ok (.iload_n 1, 1) := by decide +kernel
theorem d_mo_lowest_113 : decode b_mo_lowest 113 = .ok (.imul, 1) := by decide +kernel
theorem d_mo_lowest_114 : decode b_mo_lowest 114 = .ok (.sipush 158, 3) := by decide +kernel
theorem d_mo_lowest_117 : decode b_mo_lowest 117 = .ok (.invokevirtual 55, 3) := by decide +kernel
theorem d_mo_lowest_120 : decode b_mo_lowest 120 = .ok (.ifCond .ge 22, 3) := by decide +kernel
theorem d_mo_lowest_123 : decode b_mo_lowest 123 = .ok (.aload_n 0, 1) := by decide +kernel
theorem d_mo_lowest_124 : decode b_mo_lowest 124 = .ok (.iconst 2, 1) := by decide +kernel
theorem d_mo_lowest_125 : decode b_mo_lowest 125 = .ok (.iload_n 1, 1) := by decide +kernel
theorem d_mo_lowest_126 : decode b_mo_lowest 126 = .ok (.imul, 1) := by decide +kernel
theorem d_mo_lowest_127 : decode b_mo_lowest 127 = .ok (.iconst 1, 1) := by decide +kernel
theorem d_mo_lowest_128 : decode b_mo_lowest 128 = .ok (.iadd, 1) := by decide +kernel
theorem d_mo_lowest_129 : decode b_mo_lowest 129 = .ok (.sipush 158, 3) := by decide +kernel
theorem d_mo_lowest_132 : decode b_mo_lowest 132 = .ok (.invokevirtual 55, 3) := by decide +kernel
theorem d_mo_lowest_135 : decode b_mo_lowest 135 = .ok (.ifCond .ge 7, 3) := by decide +kernel
theorem d_mo_lowest_138 : decode b_mo_lowest 138 = .ok (.iconst 0, 1) := by decide +kernel
theorem d_mo_lowest_139 : decode b_mo_lowest 139 = .ok (.goto 4, 3) := by decide +kernel
theorem d_mo_lowest_142 : decode b_mo_lowest 142 = .ok (.iconst 1, 1) := by decide +kernel
theorem d_mo_lowest_143 : decode b_mo_lowest 143 = .ok (.ireturn, 1) := by decide +kernel
theorem d_mo_sum_0 : decode b_mo_sum 0 = .ok (.aload_n 0, 1) := by decide +kernel
theorem d_mo_sum_1 : decode b_mo_sum 1 = .ok (.iconst 2, 1) := by decide +kernel
theorem d_mo_sum_2 : decode b_mo_sum 2 = .ok (.iload_n 1, 1) := by decide +kernel
theorem d_mo_sum_3 : decode b_mo_sum 3 = .ok (.imul, 1) := by decide +kernel
theorem d_mo_sum_4 : decode b_mo_sum 4 = .ok (.iconst 2, 1) := by decide +kernel
theorem d_mo_sum_5 : decode b_mo_sum 5 = .ok (.iload_n 2, 1) := by decide +kernel
theorem d_mo_sum_6 : decode b_mo_sum 6 = .ok (.imul, 1) := by decide +kernel
theorem d_mo_sum_7 : decode b_mo_sum 7 = .ok (.iconst 1, 1) := by decide +kernel
theorem d_mo_sum_8 : decode b_mo_sum 8 = .ok (.iadd, 1) := by decide +kernel
theorem d_mo_sum_9 : decode b_mo_sum 9 = .ok (.sipush 150, 3) := by decide +kernel
theorem d_mo_sum_12 : decode b_mo_sum 12 = .ok (.invokevirtual 82, 3) := by decide +kernel
theorem d_mo_sum_15 : decode b_mo_sum 15 = .ok (.aload_n 0, 1) := by decide +kernel
theorem d_mo_sum_16 : decode b_mo_sum 16 = .ok (.iconst 2, 1) := by decide +kernel
theorem d_mo_sum_17 : decode b_mo_sum 17 = .ok (.iload_n 2, 1) := by decide +kernel
theorem d_mo_sum_18 : decode b_mo_sum 18 = .ok (.imul, 1) := by decide +kernel
theorem d_mo_sum_19 : decode b_mo_sum 19 = .ok (.iconst 2, 1) := by decide +kernel
theorem d_mo_sum_20 : decode b_mo_sum 20 = .ok (.iload_n 1, 1) := by decide +kernel
theorem d_mo_sum_21 : decode b_mo_sum 21 = .ok (.imul, 1) := by decide +kernel
theorem d_mo_sum_22 : decode b_mo_sum 22 = .ok (.iconst 1, 1) := by decide +kernel
theorem d_mo_sum_23 : decode b_mo_sum 23 = .ok (.iadd, 1) := by decide +kernel
theorem d_mo_sum_24 : decode b_mo_sum 24 = .ok (.sipush 151, 3) := by decide +kernel
theorem d_mo_sum_27 : decode b_mo_sum 27 = .ok (.invokevirtual 82, 3) := by decide +kernel
theorem d_mo_sum_30 : decode b_mo_sum 30 = .ok (.aload_n 0, 1) := by decide +kernel
theorem d_mo_sum_31 : decode b_mo_sum 31 = .ok (.iconst 2, 1) := by decide +kernel
theorem d_mo_sum_32 : decode b_mo_sum 32 = .ok (.iload_n 1, 1) := by decide +kernel
theorem d_mo_sum_33 : decode b_mo_sum 33 = .ok (.imul, 1) := by decide +kernel
theorem d_mo_sum_34 : decode b_mo_sum 34 = .ok (.iconst 1, 1) := by decide +kernel
theorem d_mo_sum_35 : decode b_mo_sum 35 = .ok (.iadd, 1) := by decide +kernel
theorem d_mo_sum_36 : decode b_mo_sum 36 = .ok (.iconst 2, 1) := by decide +kernel
theorem d_mo_sum_37 : decode b_mo_sum 37 = .ok (.iload_n 2, 1) := by decide +kernel
theorem d_mo_sum_38 : decode b_mo_sum 38 = .ok (.imul, 1) := by decide +kernel
theorem d_mo_sum_39 : decode b_mo_sum 39 = .ok (.iconst 1, 1) := by decide +kernel
theorem d_mo_sum_40 : decode b_mo_sum 40 = .ok (.iadd, 1) := by decide +kernel
theorem d_mo_sum_41 : decode b_mo_sum 41 = .ok (.sipush 152, 3) := by decide +kernel
theorem d_mo_sum_44 : decode b_mo_sum 44 = .ok (.invokevirtual 82, 3) := by decide +kernel
theorem d_mo_sum_47 : decode b_mo_sum 47 = .ok (.aload_n 0, 1) := by decide +kernel
theorem d_mo_sum_48 : decode b_mo_sum 48 = .ok (.getfield 23, 3) := by decide +kernel
theorem d_mo_sum_51 : decode b_mo_sum 51 = .ok (.iload_n 1, 1) := by decide +kernel
theorem d_mo_sum_52 : decode b_mo_sum 52 = .ok (.iaload, 1) := by decide +kernel
theorem d_mo_sum_53 : decode b_mo_sum 53 = .ok (.istore 4, 2) := by decide +kernel
theorem d_mo_sum_55 : decode b_mo_sum 55 = .ok (.aload_n 0, 1) := by decide +kernel
theorem d_mo_sum_56 : decode b_mo_sum 56 = .ok (.getfield 23, 3) := by decide +kernel
theorem d_mo_sum_59 : decode b_mo_sum 59 = .ok (.iload_n 2, 1) := by decide +kernel
theorem d_mo_sum_60 : decode b_mo_sum 60 = .ok (.iaload, 1) := by decide +kernel
theorem d_mo_sum_61 : decode b_mo_sum 61 = .ok (.iload_n 3, 1) := by decide +kernel
theorem d_mo_sum_62 : decode b_mo_sum 62 = .ok (.imul, 1) := by decide +kernel
theorem d_mo_sum_63 : decode b_mo_sum 63 = .ok (.istore 5, 2) := by decide +kernel
theorem d_mo_sum_65 : decode b_mo_sum 65 = .ok (.iload 4, 2) := by decide +kernel
theorem d_mo_sum_67 : decode b_mo_sum 67 = .ok (.iload 5, 2) := by decide +kernel
theorem d_mo_sum_69 : decode b_mo_sum 69 = .ok (.imul, 1) := by decide +kernel
theorem d_mo_sum_70 : decode b_mo_sum 70 = .ok (.ifCond .lt 31, 3) := by decide +kernel
theorem d_mo_sum_73 : decode b_mo_sum 73 = .ok (.aload_n 0, 1) := by decide +kernel
theorem d_mo_sum_74 : decode b_mo_sum 74 = .ok (.sipush 150, 3) := by decide +kernel
theorem d_mo_sum_77 : decode b_mo_sum 77 = .ok (.sipush 151, 3) := by decide +kernel
theorem d_mo_sum_80 : decode b_mo_sum 80 = .ok (.invokevirtual 39, 3) := by decide +kernel
theorem d_mo_sum_83 : decode b_mo_sum 83 = .ok (.aload_n 0, 1) := by decide +kernel
theorem d_mo_sum_84 : decode b_mo_sum 84 = .ok (.iload_n 1, 1) := by decide +kernel
theorem d_mo_sum_85 : decode b_mo_sum 85 = .ok (.iload 4, 2) := by decide +kernel
theorem d_mo_sum_87 : decode b_mo_sum 87 = .ok (.ifCond .ne 8, 3) := by decide +kernel
theorem d_mo_sum_90 : decode b_mo_sum 90 = .ok (.iload 5, 2) := by decide +kernel
theorem d_mo_sum_92 : decode b_mo_sum 92 = .ok (.goto 5, 3) := by decide +kernel
theorem d_mo_sum_95 : decode b_mo_sum 95 = .ok (.iload 4, 2) := by decide +kernel
theorem d_mo_sum_97 : decode b_mo_sum 97 = .ok (.invokevirtual 85, 3) := by decide +kernel
theorem d_mo_sum_100 : decode b_mo_sum 100 = .ok (.ireturn, 1) := by decide +kernel
theorem d_mo_sum_101 : decode b_mo_sum 101 = .ok (.aload_n 0, 1) := by decide +kernel
theorem d_mo_sum_102 : decode b_mo_sum 102 = .ok (.sipush 150, 3) := by decide +kernel
theorem d_mo_sum_105 : decode b_mo_sum 105 = .ok (.sipush 151, 3) := by decide +kernel
theorem d_mo_sum_108 : decode b_mo_sum 108 = .ok (.invokevirtual 55, 3) := by decide +kernel
theorem d_mo_sum_111 : decode b_mo_sum 111 = .ok (.ifCond .lt 21, 3) := by decide +kernel
theorem d_mo_sum_114 : decode b_mo_sum 114 = .ok (.aload_n 0, 1) := by decide +kernel
theorem d_mo_sum_115 : decode b_mo_sum 115 = .ok (.sipush 150, 3) := by decide +kernel
theorem d_mo_sum_118 : decode b_mo_sum 118 = .ok (.sipush 151, 3) := by decide +kernel
theorem d_mo_sum_121 : decode b_mo_sum 121 = .ok (.invokevirtual 59, 3) := by decide +kernel
theorem d_mo_sum_124 : decode b_mo_sum 124 = .ok (.aload_n 0, 1) := by decide +kernel
theorem d_mo_sum_125 : decode b_mo_sum 125 = .ok (.iload_n 1, 1) := by decide +kernel
theorem d_mo_sum_126 : decode b_mo_sum 126 = .ok (.iload 4, 2) := by decide +kernel
theorem d_mo_sum_128 : decode b_mo_sum 128 = .ok (.invokevirtual 85, 3) := by decide +kernel
theorem d_mo_sum_131 : decode b_mo_sum 131 = .ok (.ireturn, 1) := by decide +kernel
theorem d_mo_sum_132 : decode b_mo_sum 132 = .ok (.aload_n 0, 1) := by decide +kernel
theorem d_mo_sum_133 : decode b_mo_sum 133 = .ok (.sipush 151, 3) := by decide +kernel
theorem d_mo_sum_136 : decode b_mo_sum 136 = .ok (.sipush 150, 3) := by decide +kernel
theorem d_mo_sum_139 : decode b_mo_sum 139 = .ok (.invokevirtual 59, 3) := by decide +kernel
theorem d_mo_sum_142 : decode b_mo_sum 142 = .ok (.aload_n 0, 1) := by decide +kernel
theorem d_mo_sum_143 : decode b_mo_sum 143 = .ok (.sipush 151, 3) := by decide +kernel
theorem d_mo_sum_146 : decode b_mo_sum 146 = .ok (.sipush 150, 3) := by decide +kernel
theorem d_mo_sum_149 : decode b_mo_sum 149 = .ok (.invokevirtual 62, 3) := by decide +kernel
theorem d_mo_sum_152 : decode b_mo_sum 152 = .ok (.aload_n 0, 1) := by decide +kernel
theorem d_mo_sum_153 : decode b_mo_sum 153 = .ok (.iload_n 1, 1) := by decide +kernel
theorem d_mo_sum_154 : decode b_mo_sum 154 = .ok (.iload 5, 2) := by decide +kernel
theorem d_mo_sum_156 : decode b_mo_sum 156 = .ok (.invokevirtual 85, 3) := by decide +kernel
theorem d_mo_sum_159 : decode b_mo_sum 159 = .ok (.ireturn, 1) := by decide +kernel
theorem d_mo_product_0 : decode b_mo_product 0 = .ok (.aload_n 0, 1) := by decide +kernel
theorem d_mo_product_1 : decode b_mo_product 1 = .ok (.getfield 23, 3) := by decide +kernel
theorem d_mo_product_4 : decode b_mo_product 4 = .ok (.iload_n 1, 1) := by decide +kernel
theorem d_mo_product_5 : decode b_mo_product 5 = .ok (.iaload, 1) := by decide +kernel
theorem d_mo_product_6 : decode b_mo_product 6 = .ok (.aload_n 0, 1) := by decide +kernel
theorem d_mo_product_7 : decode b_mo_product 7 = .ok (.getfield 23, 3) := by decide +kernel
theorem d_mo_product_10 : decode b_mo_product 10 = .ok (.iload_n 2, 1) := by decide +kernel
theorem d_mo_product_11 : decode b_mo_product 11 = .ok (.iaload, 1) := by decide +kernel
theorem d_mo_product_12 : decode b_mo_product 12 = .ok (.imul, 1) := by decide +kernel
theorem d_mo_product_13 : decode b_mo_product 13 = .ok (.istore_n 3, 1) := by decide +kernel
theorem d_mo_product_14 : decode b_mo_product 14 = .ok (.aload_n 0, 1) := by decide +kernel
theorem d_mo_product_15 : decode b_mo_product 15 = .ok (.iconst 2, 1) := by decide +kernel
theorem d_mo_product_16 : decode b_mo_product 16 = .ok (.iload_n 1, 1) := by decide +kernel
theorem d_mo_product_17 : decode b_mo_product 17 = .ok (.imul, 1) := by decide +kernel
theorem d_mo_product_18 : decode b_mo_product 18 = .ok (.iconst 2, 1) := by decide +kernel
theorem d_mo_product_19 : decode b_mo_product 19 = .ok (.iload_n 2, 1) := by decide +kernel
theorem d_mo_product_20 : decode b_mo_product 20 = .ok (.imul, 1) := by decide +kernel
theorem d_mo_product_21 : decode b_mo_product 21 = .ok (.sipush 150, 3) := by decide +kernel
theorem d_mo_product_24 : decode b_mo_product 24 = .ok (.invokevirtual 82, 3) := by decide +kernel
theorem d_mo_product_27 : decode b_mo_product 27 = .ok (.aload_n 0, 1) := by decide +kernel
theorem d_mo_product_28 : decode b_mo_product 28 = .ok (.iconst 2, 1) := by decide +kernel
theorem d_mo_product_29 : decode b_mo_product 29 = .ok (.iload_n 1, 1) := by decide +kernel
theorem d_mo_product_30 : decode b_mo_product 30 = .ok (.imul, 1) := by decide +kernel
theorem d_mo_product_31 : decode b_mo_product 31 = .ok (.iconst 1, 1) := by decide +kernel
theorem d_mo_product_32 : decode b_mo_product 32 = .ok (.iadd, 1) := by decide +kernel
theorem d_mo_product_33 : decode b_mo_product 33 = .ok (.iconst 2, 1) := by decide +kernel
theorem d_mo_product_34 : decode b_mo_product 34 = .ok (.iload_n 2, 1) := by decide +kernel
theorem d_mo_product_35 : decode b_mo_product 35 = .ok (.imul, 1) := by decide +kernel
theorem d_mo_product_36 : decode b_mo_product 36 = .ok (.iconst 1, 1) := by decide +kernel
theorem d_mo_product_37 : decode b_mo_product 37 = .ok (.iadd, 1) := by decide +kernel
theorem d_mo_product_38 : decode b_mo_product 38 = .ok (.sipush 152, 3) := by decide +kernel
theorem d_mo_product_41 : decode b_mo_product 41 = .ok (.invokevirtual 82, 3) := by decide +kernel
theorem d_mo_product_44 : decode b_mo_product 44 = .ok (.aload_n 0, 1) := by decide +kernel
theorem d_mo_product_45 : decode b_mo_product 45 = .ok (.iload_n 1, 1) := by decide +kernel
theorem d_mo_product_46 : decode b_mo_product 46 = .ok (.iload_n 3, 1) := by decide +kernel
theorem d_mo_product_47 : decode b_mo_product 47 = .ok (.invokevirtual 85, 3) := by decide +kernel
theorem d_mo_product_50 : decode b_mo_product 50 = .ok (.ireturn, 1) := by decide +kernel
theorem d_mo_ratio_0 : decode b_mo_ratio 0 = .ok (.aload_n 0, 1) := by decide +kernel
theorem d_mo_ratio_1 : decode b_mo_ratio 1 = .ok (.getfield 23, 3) := by decide +kernel
theorem d_mo_ratio_4 : decode b_mo_ratio 4 = .ok (.iload_n 2, 1) := by decide +kernel
theorem d_mo_ratio_5 : decode b_mo_ratio 5 = .ok (.iaload, 1) := by decide +kernel
theorem d_mo_ratio_6 : decode b_mo_ratio 6 = .ok (.ifCond .ne 5, 3) := by decide +kernel
theorem d_mo_ratio_9 : decode b_mo_ratio 9 = .ok (.iconst 2, 1) := by decide +kernel
theorem d_mo_ratio_10 : decode b_mo_ratio 10 = .ok (.ireturn, 1) := by decide +kernel
theorem d_mo_ratio_11 : decode b_mo_ratio 11 = .ok (.aload_n 0, 1) := by decide +kernel
theorem d_mo_ratio_12 : decode b_mo_ratio 12 = .ok (.getfield 23, 3) := by decide +kernel
theorem d_mo_ratio_15 : decode b_mo_ratio 15 = .ok (.iload_n 1, 1) := by decide +kernel
theorem d_mo_ratio_16 : decode b_mo_ratio 16 = .ok (.iaload, 1) := by decide +kernel
theorem d_mo_ratio_17 : decode b_mo_ratio 17 = .ok (.aload_n 0, 1) := by decide +kernel
theorem d_mo_ratio_18 : decode b_mo_ratio 18 = .ok (.getfield 23, 3) := by decide +kernel
theorem d_mo_ratio_21 : decode b_mo_ratio 21 = .ok (.iload_n 2, 1) := by decide +kernel
theorem d_mo_ratio_22 : decode b_mo_ratio 22 = .ok (.iaload, 1) := by decide +kernel
theorem d_mo_ratio_23 : decode b_mo_ratio 23 = .ok (.imul, 1) := by decide +kernel
theorem d_mo_ratio_24 : decode b_mo_ratio 24 = .ok (.istore_n 3, 1) := by decide +kernel
theorem d_mo_ratio_25 : decode b_mo_ratio 25 = .ok (.aload_n 0, 1) := by decide +kernel
theorem d_mo_ratio_26 : decode b_mo_ratio 26 = .ok (.iconst 2, 1) := by decide +kernel
theorem d_mo_ratio_27 : decode b_mo_ratio 27 = .ok (.iload_n 1, 1) := by decide +kernel
theorem d_mo_ratio_28 : decode b_mo_ratio 28 = .ok (.imul, 1) := by decide +kernel
theorem d_mo_ratio_29 : decode b_mo_ratio 29 = .ok (.iconst 2, 1) := by decide +kernel
theorem d_mo_ratio_30 : decode b_mo_ratio 30 = .ok (.iload_n 2, 1) := by decide +kernel
theorem d_mo_ratio_31 : decode b_mo_ratio 31 = .ok (.imul, 1) := by decide +kernel
theorem d_mo_ratio_32 : decode b_mo_ratio 32 = .ok (.iconst 1, 1) := by decide +kernel
theorem d_mo_ratio_33 : decode b_mo_ratio 33 = .ok (.iadd, 1) := by decide +kernel
theorem d_mo_ratio_34 : decode b_mo_ratio 34 = .ok (.sipush 150, 3) := by decide +kernel
theorem d_mo_ratio_37 : decode b_mo_ratio 37 = .ok (.invokevirtual 82, 3) := by decide +kernel
theorem d_mo_ratio_40 : decode b_mo_ratio 40 = .ok (.aload_n 0, 1) := by decide +kernel
theorem d_mo_ratio_41 : decode b_mo_ratio 41 = .ok (.iconst 2, 1) := by decide +kernel
theorem d_mo_ratio_42 : decode b_mo_ratio 42 = .ok (.iload_n 1, 1) := by decide +kernel
theorem d_mo_ratio_43 : decode b_mo_ratio 43 = .ok (.imul, 1) := by decide +kernel
theorem d_mo_ratio_44 : decode b_mo_ratio 44 = .ok (.iconst 1, 1) := by decide +kernel
theorem d_mo_ratio_45 : decode b_mo_ratio 45 = .ok (.iadd, 1) := by decide +kernel
theorem d_mo_ratio_46 : decode b_mo_ratio 46 = .ok (.iconst 2, 1) := by decide +kernel
theorem d_mo_ratio_47 : decode b_mo_ratio 47 = .ok (.iload_n 2, 1) := by decide +kernel
theorem d_mo_ratio_48 : decode b_mo_ratio 48 = .ok (.imul, 1) := by decide +kernel
theorem d_mo_ratio_49 : decode b_mo_ratio 49 = .ok (.sipush 152, 3) := by decide +kernel
theorem d_mo_ratio_52 : decode b_mo_ratio 52 = .ok (.invokevirtual 82, 3) := by decide +kernel
theorem d_mo_ratio_55 : decode b_mo_ratio 55 = .ok (.aload_n 0, 1) := by decide +kernel
theorem d_mo_ratio_56 : decode b_mo_ratio 56 = .ok (.iload_n 1, 1) := by decide +kernel
theorem d_mo_ratio_57 : decode b_mo_ratio 57 = .ok (.iload_n 3, 1) := by decide +kernel
theorem d_mo_ratio_58 : decode b_mo_ratio 58 = .ok (.invokevirtual 85, 3) := by decide +kernel
theorem d_mo_ratio_61 : decode b_mo_ratio 61 = .ok (.ireturn, 1) := by decide +kernel
theorem d_mo_order_0 : decode b_mo_order 0 = .ok (.aload_n 0, 1) := by decide +kernel
theorem d_mo_order_1 : decode b_mo_order 1 = .ok (.getfield 23, 3) := by decide +kernel
theorem d_mo_order_4 : decode b_mo_order 4 = .ok (.iload_n 1, 1) := by decide +kernel
theorem d_mo_order_5 : decode b_mo_order 5 = .ok (.iaload, 1) := by decide +kernel
theorem d_mo_order_6 : decode b_mo_order 6 = .ok (.aload_n 0, 1) := by decide +kernel
theorem d_mo_order_7 : decode b_mo_order 7 = .ok (.getfield 23, 3) := by decide +kernel
theorem d_mo_order_10 : decode b_mo_order 10 = .ok (.iload_n 2, 1) := by decide +kernel
theorem d_mo_order_11 : decode b_mo_order 11 = .ok (.iaload, 1) := by decide +kernel
theorem d_mo_order_12 : decode b_mo_order 12 = .ok (.if_icmp .eq 24, 3) := by decide +kernel
theorem d_mo_order_15 : decode b_mo_order 15 = .ok (.aload_n 0, 1) := by decide +kernel
theorem d_mo_order_16 : decode b_mo_order 16 = .ok (.getfield 23, 3) := by decide +kernel
theorem d_mo_order_19 : decode b_mo_order 19 = .ok (.iload_n 1, 1) := by decide +kernel
theorem d_mo_order_20 : decode b_mo_order 20 = .ok (.iaload, 1) := by decide +kernel
theorem d_mo_order_21 : decode b_mo_order 21 = .ok (.aload_n 0, 1) := by decide +kernel
theorem d_mo_order_22 : decode b_mo_order 22 = .ok (.getfield 23, 3) := by decide +kernel
theorem d_mo_order_25 : decode b_mo_order 25 = .ok (.iload_n 2, 1) := by decide +kernel
theorem d_mo_order_26 : decode b_mo_order 26 = .ok (.iaload, 1) := by decide +kernel
theorem d_mo_order_27 : decode b_mo_order 27 = .ok (.if_icmp .ge 7, 3) := by decide +kernel
theorem d_mo_order_30 : decode b_mo_order 30 = .ok (.iconst (-1), 1) := by decide +kernel
theorem d_mo_order_31 : decode b_mo_order 31 = .ok (.goto 4, 3) := by decide +kernel
theorem d_mo_order_34 : decode b_mo_order 34 = .ok (.iconst 1, 1) := by decide +kernel
theorem d_mo_order_35 : decode b_mo_order 35 = .ok (.ireturn, 1) := by decide +kernel
theorem d_mo_order_36 : decode b_mo_order 36 = .ok (.aload_n 0, 1) := by decide +kernel
theorem d_mo_order_37 : decode b_mo_order 37 = .ok (.iconst 2, 1) := by decide +kernel
theorem d_mo_order_38 : decode b_mo_order 38 = .ok (.iload_n 1, 1) := by decide +kernel
theorem d_mo_order_39 : decode b_mo_order 39 = .ok (.imul, 1) := by decide +kernel
theorem d_mo_order_40 : decode b_mo_order 40 = .ok (.iconst 2, 1) := by decide +kernel
theorem d_mo_order_41 : decode b_mo_order 41 = .ok (.iload_n 2, 1) := by decide +kernel
theorem d_mo_order_42 : decode b_mo_order 42 = .ok (.imul, 1) := by decide +kernel
theorem d_mo_order_43 : decode b_mo_order 43 = .ok (.iconst 1, 1) := by decide +kernel
theorem d_mo_order_44 : decode b_mo_order 44 = .ok (.iadd, 1) := by decide +kernel
theorem d_mo_order_45 : decode b_mo_order 45 = .ok (.sipush 150, 3) := by decide +kernel
theorem d_mo_order_48 : decode b_mo_order 48 = .ok (.invokevirtual 82, 3) := by decide +kernel
theorem d_mo_order_51 : decode b_mo_order 51 = .ok (.aload_n 0, 1) := by decide +kernel
theorem d_mo_order_52 : decode b_mo_order 52 = .ok (.iconst 2, 1) := by decide +kernel
theorem d_mo_order_53 : decode b_mo_order 53 = .ok (.iload_n 2, 1) := by decide +kernel
theorem d_mo_order_54 : decode b_mo_order 54 = .ok (.imul, 1) := by decide +kernel
theorem d_mo_order_55 : decode b_mo_order 55 = .ok (.iconst 2, 1) := by decide +kernel
theorem d_mo_order_56 : decode b_mo_order 56 = .ok (.iload_n 1, 1) := by decide +kernel
theorem d_mo_order_57 : decode b_mo_order 57 = .ok (.imul, 1) := by decide +kernel
theorem d_mo_order_58 : decode b_mo_order 58 = .ok (.iconst 1, 1) := by decide +kernel
theorem d_mo_order_59 : decode b_mo_order 59 = .ok (.iadd, 1) := by decide +kernel
theorem d_mo_order_60 : decode b_mo_order 60 = .ok (.sipush 151, 3) := by decide +kernel
theorem d_mo_order_63 : decode b_mo_order 63 = .ok (.invokevirtual 82, 3) := by decide +kernel
theorem d_mo_order_66 : decode b_mo_order 66 = .ok (.aload_n 0, 1) := by decide +kernel
theorem d_mo_order_67 : decode b_mo_order 67 = .ok (.getfield 23, 3) := by decide +kernel
theorem d_mo_order_70 : decode b_mo_order 70 = .ok (.iload_n 1, 1) := by decide +kernel
theorem d_mo_order_71 : decode b_mo_order 71 = .ok (.iaload, 1) := by decide +kernel
theorem d_mo_order_72 : decode b_mo_order 72 = .ok (.aload_n 0, 1) := by decide +kernel
theorem d_mo_order_73 : decode b_mo_order 73 = .ok (.sipush 150, 3) := by decide +kernel
theorem d_mo_order_76 : decode b_mo_order 76 = .ok (.sipush 151, 3) := by decide +kernel
theorem d_mo_order_79 : decode b_mo_order 79 = .ok (.invokevirtual 55, 3) := by decide +kernel
theorem d_mo_order_82 : decode b_mo_order 82 = .ok (.imul, 1) := by decide +kernel
theorem d_mo_order_83 : decode b_mo_order 83 = .ok (.ireturn, 1) := by decide +kernel
theorem d_mo_formOf_0 : decode b_mo_formOf 0 = .ok (.aload_n 0, 1) := by decide +kernel
theorem d_mo_formOf_1 : decode b_mo_formOf 1 = .ok (.iload_n 1, 1) := by decide +kernel
theorem d_mo_formOf_2 : decode b_mo_formOf 2 = .ok (.invokevirtual 88, 3) := by decide +kernel
theorem d_mo_formOf_5 : decode b_mo_formOf 5 = .ok (.ifCond .ne 7, 3) := by decide +kernel
theorem d_mo_formOf_8 : decode b_mo_formOf 8 = .ok (.iconst 2, 1) := by decide +kernel
theorem d_mo_formOf_9 : decode b_mo_formOf 9 = .ok (.goto 21, 3) := by decide +kernel
theorem d_mo_formOf_12 : decode b_mo_formOf 12 = .ok (.aload_n 0, 1) := by decide +kernel
theorem d_mo_formOf_13 : decode b_mo_formOf 13 = .ok (.iconst 2, 1) := by decide +kernel
theorem d_mo_formOf_14 : decode b_mo_formOf 14 = .ok (.iload_n 1, 1) := by decide +kernel
theorem d_mo_formOf_15 : decode b_mo_formOf 15 = .ok (.imul, 1) := by decide +kernel
theorem d_mo_formOf_16 : decode b_mo_formOf 16 = .ok (.sipush 159, 3) := by decide +kernel
theorem d_mo_formOf_19 : decode b_mo_formOf 19 = .ok (.invokevirtual 55, 3) := by decide +kernel
theorem d_mo_formOf_22 : decode b_mo_formOf 22 = .ok (.ifCond .ge 7, 3) := by decide +kernel
theorem d_mo_formOf_25 : decode b_mo_formOf 25 = .ok (.iconst 0, 1) := by decide +kernel
theorem d_mo_formOf_26 : decode b_mo_formOf 26 = .ok (.goto 4, 3) := by decide +kernel
theorem d_mo_formOf_29 : decode b_mo_formOf 29 = .ok (.iconst 1, 1) := by decide +kernel
theorem d_mo_formOf_30 : decode b_mo_formOf 30 = .ok (.ireturn, 1) := by decide +kernel
theorem d_mo_type_0 : decode b_mo_type 0 = .ok (.aload_n 0, 1) := by decide +kernel
theorem d_mo_type_1 : decode b_mo_type 1 = .ok (.iconst 0, 1) := by decide +kernel
theorem d_mo_type_2 : decode b_mo_type 2 = .ok (.putfield 42, 3) := by decide +kernel
theorem d_mo_type_5 : decode b_mo_type 5 = .ok (.iconst 0, 1) := by decide +kernel
theorem d_mo_type_6 : decode b_mo_type 6 = .ok (.istore_n 3, 1) := by decide +kernel
theorem d_mo_type_7 : decode b_mo_type 7 = .ok (.iconst 1, 1) := by decide +kernel
theorem d_mo_type_8 : decode b_mo_type 8 = .ok (.istore 4, 2) := by decide +kernel
theorem d_mo_type_10 : decode b_mo_type 10 = .ok (.iload_n 3, 1) := by decide +kernel
theorem d_mo_type_11 : decode b_mo_type 11 = .ok (.bipush 8, 2) := by decide +kernel
theorem d_mo_type_13 : decode b_mo_type 13 = .ok (.if_icmp .ge 64, 3) := by decide +kernel
theorem d_mo_type_16 : decode b_mo_type 16 = .ok (.lload_n 1, 1) := by decide +kernel
theorem d_mo_type_17 : decode b_mo_type 17 = .ok (.bipush 8, 2) := by decide +kernel
theorem d_mo_type_19 : decode b_mo_type 19 = .ok (.iload_n 3, 1) := by decide +kernel
theorem d_mo_type_20 : decode b_mo_type 20 = .ok (.imul, 1) := by decide +kernel
theorem d_mo_type_21 : decode b_mo_type 21 = .ok (.lshr, 1) := by decide +kernel
theorem d_mo_type_22 : decode b_mo_type 22 = .ok (.ldc2_w 91, 3) := by decide +kernel
theorem d_mo_type_25 : decode b_mo_type 25 = .ok (.land, 1) := by decide +kernel
theorem d_mo_type_26 : decode b_mo_type 26 = .ok (.lconst 0, 1) := by decide +kernel
theorem d_mo_type_27 : decode b_mo_type 27 = .ok (.lcmp, 1) := by decide +kernel
theorem d_mo_type_28 : decode b_mo_type 28 = .ok (.ifCond .eq 49, 3) := by decide +kernel
theorem d_mo_type_31 : decode b_mo_type 31 = .ok (.lload_n 1, 1) := by decide +kernel
theorem d_mo_type_32 : decode b_mo_type 32 = .ok (.bipush 8, 2) := by decide +kernel
theorem d_mo_type_34 : decode b_mo_type 34 = .ok (.iload_n 3, 1) := by decide +kernel
theorem d_mo_type_35 : decode b_mo_type 35 = .ok (.imul, 1) := by decide +kernel
theorem d_mo_type_36 : decode b_mo_type 36 = .ok (.lshr, 1) := by decide +kernel
theorem d_mo_type_37 : decode b_mo_type 37 = .ok (.ldc2_w 91, 3) := by decide +kernel
theorem d_mo_type_40 : decode b_mo_type 40 = .ok (.land, 1) := by decide +kernel
theorem d_mo_type_41 : decode b_mo_type 41 = .ok (.l2i, 1) := by decide +kernel
theorem d_mo_type_42 : decode b_mo_type 42 = .ok (.istore 5, 2) := by decide +kernel
theorem d_mo_type_44 : decode b_mo_type 44 = .ok (.iload 4, 2) := by decide +kernel
theorem d_mo_type_46 : decode b_mo_type 46 = .ok (.ifCond .eq 21, 3) := by decide +kernel
theorem d_mo_type_49 : decode b_mo_type 49 = .ok (.iload 5, 2) := by decide +kernel
theorem d_mo_type_51 : decode b_mo_type 51 = .ok (.bipush 32, 2) := by decide +kernel
theorem d_mo_type_53 : decode b_mo_type 53 = .ok (.if_icmp .lt 14, 3) := by decide +kernel
theorem d_mo_type_56 : decode b_mo_type 56 = .ok (.iload 5, 2) := by decide +kernel
theorem d_mo_type_58 : decode b_mo_type 58 = .ok (.bipush 126, 2) := by decide +kernel
theorem d_mo_type_60 : decode b_mo_type 60 = .ok (.if_icmp .gt 7, 3) := by decide +kernel
theorem d_mo_type_63 : decode b_mo_type 63 = .ok (.iconst 1, 1) := by decide +kernel
theorem d_mo_type_64 : decode b_mo_type 64 = .ok (.goto 4, 3) := by decide +kernel
theorem d_mo_type_67 : decode b_mo_type 67 = .ok (.iconst 0, 1) := by decide +kernel
theorem d_mo_type_68 : decode b_mo_type 68 = .ok (.istore 4, 2) := by decide +kernel
theorem d_mo_type_70 : decode b_mo_type 70 = .ok (.iload_n 3, 1) := by decide +kernel
theorem d_mo_type_71 : decode b_mo_type 71 = .ok (.iconst 1, 1) := by decide +kernel
theorem d_mo_type_72 : decode b_mo_type 72 = .ok (.iadd, 1) := by decide +kernel
theorem d_mo_type_73 : decode b_mo_type 73 = .ok (.istore_n 3, 1) := by decide +kernel
theorem d_mo_type_74 : decode b_mo_type 74 = .ok (.goto (-64), 3) := by decide +kernel
theorem d_mo_type_77 : decode b_mo_type 77 = .ok (.iload 4, 2) := by decide +kernel
theorem d_mo_type_79 : decode b_mo_type 79 = .ok (.ifCond .eq 14, 3) := by decide +kernel
theorem d_mo_type_82 : decode b_mo_type 82 = .ok (.aload_n 0, 1) := by decide +kernel
theorem d_mo_type_83 : decode b_mo_type 83 = .ok (.getfield 93, 3) := by decide +kernel
theorem d_mo_type_86 : decode b_mo_type 86 = .ok (.iload_n 3, 1) := by decide +kernel
theorem d_mo_type_87 : decode b_mo_type 87 = .ok (.iadd, 1) := by decide +kernel
theorem d_mo_type_88 : decode b_mo_type 88 = .ok (.bipush 120, 2) := by decide +kernel
theorem d_mo_type_90 : decode b_mo_type 90 = .ok (.if_icmp .le 5, 3) := by decide +kernel
theorem d_mo_type_93 : decode b_mo_type 93 = .ok (.iconst 0, 1) := by decide +kernel
theorem d_mo_type_94 : decode b_mo_type 94 = .ok (.ireturn, 1) := by decide +kernel
theorem d_mo_type_95 : decode b_mo_type 95 = .ok (.iconst 0, 1) := by decide +kernel
theorem d_mo_type_96 : decode b_mo_type 96 = .ok (.istore 5, 2) := by decide +kernel
theorem d_mo_type_98 : decode b_mo_type 98 = .ok (.iload 5, 2) := by decide +kernel
theorem d_mo_type_100 : decode b_mo_type 100 = .ok (.iload_n 3, 1) := by decide +kernel
theorem d_mo_type_101 : decode b_mo_type 101 = .ok (.if_icmp .ge 33, 3) := by decide +kernel
theorem d_mo_type_104 : decode b_mo_type 104 = .ok (.aload_n 0, 1) := by decide +kernel
theorem d_mo_type_105 : decode b_mo_type 105 = .ok (.getfield 7, 3) := by decide +kernel
theorem d_mo_type_108 : decode b_mo_type 108 = .ok (.aload_n 0, 1) := by decide +kernel
theorem d_mo_type_109 : decode b_mo_type 109 = .ok (.getfield 93, 3) := by decide +kernel
theorem d_mo_type_112 : decode b_mo_type 112 = .ok (.iload 5, 2) := by decide +kernel
theorem d_mo_type_114 : decode b_mo_type 114 = .ok (.iadd, 1) := by decide +kernel
theorem d_mo_type_115 : decode b_mo_type 115 = .ok (.lload_n 1, 1) := by decide +kernel
theorem d_mo_type_116 : decode b_mo_type 116 = .ok (.bipush 8, 2) := by decide +kernel
theorem d_mo_type_118 : decode b_mo_type 118 = .ok (.iload 5, 2) := by decide +kernel
theorem d_mo_type_120 : decode b_mo_type 120 = .ok (.imul, 1) := by decide +kernel
theorem d_mo_type_121 : decode b_mo_type 121 = .ok (.lshr, 1) := by decide +kernel
theorem d_mo_type_122 : decode b_mo_type 122 = .ok (.ldc2_w 91, 3) := by decide +kernel
theorem d_mo_type_125 : decode b_mo_type 125 = .ok (.land, 1) := by decide +kernel
theorem d_mo_type_126 : decode b_mo_type 126 = .ok (.l2i, 1) := by decide +kernel
theorem d_mo_type_127 : decode b_mo_type 127 = .ok (.iastore, 1) := by decide +kernel
theorem d_mo_type_128 : decode b_mo_type 128 = .ok (.iinc 5 1, 3) := by decide +kernel
theorem d_mo_type_131 : decode b_mo_type 131 = .ok (.goto (-33), 3) := by decide +kernel
theorem d_mo_type_134 : decode b_mo_type 134 = .ok (.aload_n 0, 1) := by decide +kernel
theorem d_mo_type_135 : decode b_mo_type 135 = .ok (.aload_n 0, 1) := by decide +kernel
theorem d_mo_type_136 : decode b_mo_type 136 = .ok (.getfield 93, 3) := by decide +kernel
theorem d_mo_type_139 : decode b_mo_type 139 = .ok (.iload_n 3, 1) := by decide +kernel
theorem d_mo_type_140 : decode b_mo_type 140 = .ok (.iadd, 1) := by decide +kernel
theorem d_mo_type_141 : decode b_mo_type 141 = .ok (.putfield 93, 3) := by decide +kernel
theorem d_mo_type_144 : decode b_mo_type 144 = .ok (.iconst 1, 1) := by decide +kernel
theorem d_mo_type_145 : decode b_mo_type 145 = .ok (.ireturn, 1) := by decide +kernel
theorem d_mo_erase_0 : decode b_mo_erase 0 = .ok (.aload_n 0, 1) := by decide +kernel
theorem d_mo_erase_1 : decode b_mo_erase 1 = .ok (.iconst 0, 1) := by decide +kernel
theorem d_mo_erase_2 : decode b_mo_erase 2 = .ok (.putfield 42, 3) := by decide +kernel
theorem d_mo_erase_5 : decode b_mo_erase 5 = .ok (.aload_n 0, 1) := by decide +kernel
theorem d_mo_erase_6 : decode b_mo_erase 6 = .ok (.getfield 93, 3) := by decide +kernel
theorem d_mo_erase_9 : decode b_mo_erase 9 = .ok (.istore_n 1, 1) := by decide +kernel
theorem d_mo_erase_10 : decode b_mo_erase 10 = .ok (.aload_n 0, 1) := by decide +kernel
theorem d_mo_erase_11 : decode b_mo_erase 11 = .ok (.iconst 0, 1) := by decide +kernel
theorem d_mo_erase_12 : decode b_mo_erase 12 = .ok (.putfield 93, 3) := by decide +kernel
theorem d_mo_erase_15 : decode b_mo_erase 15 = .ok (.iload_n 1, 1) := by decide +kernel
theorem d_mo_erase_16 : decode b_mo_erase 16 = .ok (.ireturn, 1) := by decide +kernel
theorem d_mo_fault_0 : decode b_mo_fault 0 = .ok (.aload_n 0, 1) := by decide +kernel
theorem d_mo_fault_1 : decode b_mo_fault 1 = .ok (.iconst 0, 1) := by decide +kernel
theorem d_mo_fault_2 : decode b_mo_fault 2 = .ok (.putfield 42, 3) := by decide +kernel
theorem d_mo_fault_5 : decode b_mo_fault 5 = .ok (.aload_n 0, 1) := by decide +kernel
theorem d_mo_fault_6 : decode b_mo_fault 6 = .ok (.getfield 13, 3) := by decide +kernel
theorem d_mo_fault_9 : decode b_mo_fault 9 = .ok (.ireturn, 1) := by decide +kernel
theorem d_mo_charAt_0 : decode b_mo_charAt 0 = .ok (.iload_n 1, 1) := by decide +kernel
theorem d_mo_charAt_1 : decode b_mo_charAt 1 = .ok (.aload_n 0, 1) := by decide +kernel
theorem d_mo_charAt_2 : decode b_mo_charAt 2 = .ok (.getfield 93, 3) := by decide +kernel
theorem d_mo_charAt_5 : decode b_mo_charAt 5 = .ok (.if_icmp .ge 12, 3) := by decide +kernel
theorem d_mo_charAt_8 : decode b_mo_charAt 8 = .ok (.aload_n 0, 1) := by decide +kernel
theorem d_mo_charAt_9 : decode b_mo_charAt 9 = .ok (.getfield 7, 3) := by decide +kernel
theorem d_mo_charAt_12 : decode b_mo_charAt 12 = .ok (.iload_n 1, 1) := by decide +kernel
theorem d_mo_charAt_13 : decode b_mo_charAt 13 = .ok (.iaload, 1) := by decide +kernel
theorem d_mo_charAt_14 : decode b_mo_charAt 14 = .ok (.goto 4, 3) := by decide +kernel
theorem d_mo_charAt_17 : decode b_mo_charAt 17 = .ok (.iconst 0, 1) := by decide +kernel
theorem d_mo_charAt_18 : decode b_mo_charAt 18 = .ok (.ireturn, 1) := by decide +kernel
theorem d_mo_isDigit_0 : decode b_mo_isDigit 0 = .ok (.aload_n 0, 1) := by decide +kernel
theorem d_mo_isDigit_1 : decode b_mo_isDigit 1 = .ok (.iload_n 1, 1) := by decide +kernel
theorem d_mo_isDigit_2 : decode b_mo_isDigit 2 = .ok (.invokevirtual 96, 3) := by decide +kernel
theorem d_mo_isDigit_5 : decode b_mo_isDigit 5 = .ok (.bipush 48, 2) := by decide +kernel
theorem d_mo_isDigit_7 : decode b_mo_isDigit 7 = .ok (.if_icmp .lt 17, 3) := by decide +kernel
theorem d_mo_isDigit_10 : decode b_mo_isDigit 10 = .ok (.aload_n 0, 1) := by decide +kernel
theorem d_mo_isDigit_11 : decode b_mo_isDigit 11 = .ok (.iload_n 1, 1) := by decide +kernel
theorem d_mo_isDigit_12 : decode b_mo_isDigit 12 = .ok (.invokevirtual 96, 3) := by decide +kernel
theorem d_mo_isDigit_15 : decode b_mo_isDigit 15 = .ok (.bipush 57, 2) := by decide +kernel
theorem d_mo_isDigit_17 : decode b_mo_isDigit 17 = .ok (.if_icmp .gt 7, 3) := by decide +kernel
theorem d_mo_isDigit_20 : decode b_mo_isDigit 20 = .ok (.iconst 1, 1) := by decide +kernel
theorem d_mo_isDigit_21 : decode b_mo_isDigit 21 = .ok (.goto 4, 3) := by decide +kernel
theorem d_mo_isDigit_24 : decode b_mo_isDigit 24 = .ok (.iconst 0, 1) := by decide +kernel
theorem d_mo_isDigit_25 : decode b_mo_isDigit 25 = .ok (.ireturn, 1) := by decide +kernel
theorem d_mo_least_0 : decode b_mo_least 0 = .ok (.iload_n 0, 1) := by decide +kernel
theorem d_mo_least_1 : decode b_mo_least 1 = .ok (.lookupswitch 81 #[(42, 75), (43, 75), (45, 77), (47, 77), (63, 79), (100, 77), (103, 75), (110, 77)], 75) := by decide +kernel
theorem d_mo_least_76 : decode b_mo_least 76 = .ok (.iconst 0, 1) := by decide +kernel
theorem d_mo_least_77 : decode b_mo_least 77 = .ok (.ireturn, 1) := by decide +kernel
theorem d_mo_least_78 : decode b_mo_least 78 = .ok (.iconst 1, 1) := by decide +kernel
theorem d_mo_least_79 : decode b_mo_least 79 = .ok (.ireturn, 1) := by decide +kernel
theorem d_mo_least_80 : decode b_mo_least 80 = .ok (.iconst 3, 1) := by decide +kernel
theorem d_mo_least_81 : decode b_mo_least 81 = .ok (.ireturn, 1) := by decide +kernel
theorem d_mo_least_82 : decode b_mo_least 82 = .ok (.iconst 2, 1) := by decide +kernel
theorem d_mo_least_83 : decode b_mo_least 83 = .ok (.ireturn, 1) := by decide +kernel
theorem d_mo_most_0 : decode b_mo_most 0 = .ok (.iload_n 0, 1) := by decide +kernel
theorem d_mo_most_1 : decode b_mo_most 1 = .ok (.bipush 43, 2) := by decide +kernel
theorem d_mo_most_3 : decode b_mo_most 3 = .ok (.if_icmp .eq 27, 3) := by decide +kernel
theorem d_mo_most_6 : decode b_mo_most 6 = .ok (.iload_n 0, 1) := by decide +kernel
theorem d_mo_most_7 : decode b_mo_most 7 = .ok (.bipush 42, 2) := by decide +kernel
theorem d_mo_most_9 : decode b_mo_most 9 = .ok (.if_icmp .eq 21, 3) := by decide +kernel
theorem d_mo_most_12 : decode b_mo_most 12 = .ok (.iload_n 0, 1) := by decide +kernel
theorem d_mo_most_13 : decode b_mo_most 13 = .ok (.bipush 103, 2) := by decide +kernel
theorem d_mo_most_15 : decode b_mo_most 15 = .ok (.if_icmp .eq 15, 3) := by decide +kernel
theorem d_mo_most_18 : decode b_mo_most 18 = .ok (.iload_n 0, 1) := by decide +kernel
theorem d_mo_most_19 : decode b_mo_most 19 = .ok (.bipush 45, 2) := by decide +kernel
theorem d_mo_most_21 : decode b_mo_most 21 = .ok (.if_icmp .eq 9, 3) := by decide +kernel
theorem d_mo_most_24 : decode b_mo_most 24 = .ok (.iload_n 0, 1) := by decide +kernel
theorem d_mo_most_25 : decode b_mo_most 25 = .ok (.bipush 47, 2) := by decide +kernel
theorem d_mo_most_27 : decode b_mo_most 27 = .ok (.if_icmp .ne 9, 3) := by decide +kernel
theorem d_mo_most_30 : decode b_mo_most 30 = .ok (.sipush 200, 3) := by decide +kernel
theorem d_mo_most_33 : decode b_mo_most 33 = .ok (.goto 7, 3) := by decide +kernel
theorem d_mo_most_36 : decode b_mo_most 36 = .ok (.iload_n 0, 1) := by decide +kernel
theorem d_mo_most_37 : decode b_mo_most 37 = .ok (.invokestatic 100, 3) := by decide +kernel
theorem d_mo_most_40 : decode b_mo_most 40 = .ok (.ireturn, 1) := by decide +kernel
theorem d_mo_isOp_0 : decode b_mo_isOp 0 = .ok (.iload_n 0, 1) := by decide +kernel
theorem d_mo_isOp_1 : decode b_mo_isOp 1 = .ok (.bipush 43, 2) := by decide +kernel
theorem d_mo_isOp_3 : decode b_mo_isOp 3 = .ok (.if_icmp .eq 39, 3) := by decide +kernel
theorem d_mo_isOp_6 : decode b_mo_isOp 6 = .ok (.iload_n 0, 1) := by decide +kernel
theorem d_mo_isOp_7 : decode b_mo_isOp 7 = .ok (.bipush 45, 2) := by decide +kernel
theorem d_mo_isOp_9 : decode b_mo_isOp 9 = .ok (.if_icmp .eq 33, 3) := by decide +kernel
theorem d_mo_isOp_12 : decode b_mo_isOp 12 = .ok (.iload_n 0, 1) := by decide +kernel
theorem d_mo_isOp_13 : decode b_mo_isOp 13 = .ok (.bipush 42, 2) := by decide +kernel
theorem d_mo_isOp_15 : decode b_mo_isOp 15 = .ok (.if_icmp .eq 27, 3) := by decide +kernel
theorem d_mo_isOp_18 : decode b_mo_isOp 18 = .ok (.iload_n 0, 1) := by decide +kernel
theorem d_mo_isOp_19 : decode b_mo_isOp 19 = .ok (.bipush 47, 2) := by decide +kernel
theorem d_mo_isOp_21 : decode b_mo_isOp 21 = .ok (.if_icmp .eq 21, 3) := by decide +kernel
theorem d_mo_isOp_24 : decode b_mo_isOp 24 = .ok (.iload_n 0, 1) := by decide +kernel
theorem d_mo_isOp_25 : decode b_mo_isOp 25 = .ok (.bipush 113, 2) := by decide +kernel
theorem d_mo_isOp_27 : decode b_mo_isOp 27 = .ok (.if_icmp .eq 15, 3) := by decide +kernel
theorem d_mo_isOp_30 : decode b_mo_isOp 30 = .ok (.iload_n 0, 1) := by decide +kernel
theorem d_mo_isOp_31 : decode b_mo_isOp 31 = .ok (.bipush 114, 2) := by decide +kernel
theorem d_mo_isOp_33 : decode b_mo_isOp 33 = .ok (.if_icmp .eq 9, 3) := by decide +kernel
theorem d_mo_isOp_36 : decode b_mo_isOp 36 = .ok (.iload_n 0, 1) := by decide +kernel
theorem d_mo_isOp_37 : decode b_mo_isOp 37 = .ok (.bipush 103, 2) := by decide +kernel
theorem d_mo_isOp_39 : decode b_mo_isOp 39 = .ok (.if_icmp .ne 7, 3) := by decide +kernel
theorem d_mo_isOp_42 : decode b_mo_isOp 42 = .ok (.iconst 1, 1) := by decide +kernel
theorem d_mo_isOp_43 : decode b_mo_isOp 43 = .ok (.goto 4, 3) := by decide +kernel
theorem d_mo_isOp_46 : decode b_mo_isOp 46 = .ok (.iconst 0, 1) := by decide +kernel
theorem d_mo_isOp_47 : decode b_mo_isOp 47 = .ok (.istore_n 1, 1) := by decide +kernel
theorem d_mo_isOp_48 : decode b_mo_isOp 48 = .ok (.iload_n 1, 1) := by decide +kernel
theorem d_mo_isOp_49 : decode b_mo_isOp 49 = .ok (.ifCond .ne 39, 3) := by decide +kernel
theorem d_mo_isOp_52 : decode b_mo_isOp 52 = .ok (.iload_n 0, 1) := by decide +kernel
theorem d_mo_isOp_53 : decode b_mo_isOp 53 = .ok (.bipush 94, 2) := by decide +kernel
theorem d_mo_isOp_55 : decode b_mo_isOp 55 = .ok (.if_icmp .eq 33, 3) := by decide +kernel
theorem d_mo_isOp_58 : decode b_mo_isOp 58 = .ok (.iload_n 0, 1) := by decide +kernel
theorem d_mo_isOp_59 : decode b_mo_isOp 59 = .ok (.bipush 110, 2) := by decide +kernel
theorem d_mo_isOp_61 : decode b_mo_isOp 61 = .ok (.if_icmp .eq 27, 3) := by decide +kernel
theorem d_mo_isOp_64 : decode b_mo_isOp 64 = .ok (.iload_n 0, 1) := by decide +kernel
theorem d_mo_isOp_65 : decode b_mo_isOp 65 = .ok (.bipush 100, 2) := by decide +kernel
theorem d_mo_isOp_67 : decode b_mo_isOp 67 = .ok (.if_icmp .eq 21, 3) := by decide +kernel
theorem d_mo_isOp_70 : decode b_mo_isOp 70 = .ok (.iload_n 0, 1) := by decide +kernel
theorem d_mo_isOp_71 : decode b_mo_isOp 71 = .ok (.bipush 60, 2) := by decide +kernel
theorem d_mo_isOp_73 : decode b_mo_isOp 73 = .ok (.if_icmp .eq 15, 3) := by decide +kernel
theorem d_mo_isOp_76 : decode b_mo_isOp 76 = .ok (.iload_n 0, 1) := by decide +kernel
theorem d_mo_isOp_77 : decode b_mo_isOp 77 = .ok (.bipush 61, 2) := by decide +kernel
theorem d_mo_isOp_79 : decode b_mo_isOp 79 = .ok (.if_icmp .eq 9, 3) := by decide +kernel
theorem d_mo_isOp_82 : decode b_mo_isOp 82 = .ok (.iload_n 0, 1) := by decide +kernel
theorem d_mo_isOp_83 : decode b_mo_isOp 83 = .ok (.bipush 63, 2) := by decide +kernel
theorem d_mo_isOp_85 : decode b_mo_isOp 85 = .ok (.if_icmp .ne 7, 3) := by decide +kernel
theorem d_mo_isOp_88 : decode b_mo_isOp 88 = .ok (.iconst 1, 1) := by decide +kernel
theorem d_mo_isOp_89 : decode b_mo_isOp 89 = .ok (.goto 4, 3) := by decide +kernel
theorem d_mo_isOp_92 : decode b_mo_isOp 92 = .ok (.iconst 0, 1) := by decide +kernel
theorem d_mo_isOp_93 : decode b_mo_isOp 93 = .ok (.ireturn, 1) := by decide +kernel
theorem d_mo_overStart_0 : decode b_mo_overStart 0 = .ok (.aload_n 0, 1) := by decide +kernel
theorem d_mo_overStart_1 : decode b_mo_overStart 1 = .ok (.iload_n 1, 1) := by decide +kernel
theorem d_mo_overStart_2 : decode b_mo_overStart 2 = .ok (.invokevirtual 96, 3) := by decide +kernel
theorem d_mo_overStart_5 : decode b_mo_overStart 5 = .ok (.istore_n 2, 1) := by decide +kernel
theorem d_mo_overStart_6 : decode b_mo_overStart 6 = .ok (.iload_n 2, 1) := by decide +kernel
theorem d_mo_overStart_7 : decode b_mo_overStart 7 = .ok (.bipush 40, 2) := by decide +kernel
theorem d_mo_overStart_9 : decode b_mo_overStart 9 = .ok (.if_icmp .ne 74, 3) := by decide +kernel
theorem d_mo_overStart_12 : decode b_mo_overStart 12 = .ok (.aload_n 0, 1) := by decide +kernel
theorem d_mo_overStart_13 : decode b_mo_overStart 13 = .ok (.getfield 103, 3) := by decide +kernel
theorem d_mo_overStart_16 : decode b_mo_overStart 16 = .ok (.bipush 12, 2) := by decide +kernel
theorem d_mo_overStart_18 : decode b_mo_overStart 18 = .ok (.if_icmp .ne 7, 3) := by decide +kernel
theorem d_mo_overStart_21 : decode b_mo_overStart 21 = .ok (.iconst (-1), 1) := by decide +kernel
theorem d_mo_overStart_22 : decode b_mo_overStart 22 = .ok (.iload_n 1, 1) := by decide +kernel
theorem d_mo_overStart_23 : decode b_mo_overStart 23 = .ok (.isub, 1) := by decide +kernel
theorem d_mo_overStart_24 : decode b_mo_overStart 24 = .ok (.ireturn, 1) := by decide +kernel
theorem d_mo_overStart_25 : decode b_mo_overStart 25 = .ok (.aload_n 0, 1) := by decide +kernel
theorem d_mo_overStart_26 : decode b_mo_overStart 26 = .ok (.iload_n 1, 1) := by decide +kernel
theorem d_mo_overStart_27 : decode b_mo_overStart 27 = .ok (.iconst 1, 1) := by decide +kernel
theorem d_mo_overStart_28 : decode b_mo_overStart 28 = .ok (.iadd, 1) := by decide +kernel
theorem d_mo_overStart_29 : decode b_mo_overStart 29 = .ok (.invokevirtual 96, 3) := by decide +kernel
theorem d_mo_overStart_32 : decode b_mo_overStart 32 = .ok (.invokestatic 106, 3) := by decide +kernel
theorem d_mo_overStart_35 : decode b_mo_overStart 35 = .ok (.ifCond .ne 8, 3) := by decide +kernel
theorem d_mo_overStart_38 : decode b_mo_overStart 38 = .ok (.bipush (-2), 2) := by decide +kernel
theorem d_mo_overStart_40 : decode b_mo_overStart 40 = .ok (.iload_n 1, 1) := by decide +kernel
theorem d_mo_overStart_41 : decode b_mo_overStart 41 = .ok (.isub, 1) := by decide +kernel
theorem d_mo_overStart_42 : decode b_mo_overStart 42 = .ok (.ireturn, 1) := by decide +kernel
theorem d_mo_overStart_43 : decode b_mo_overStart 43 = .ok (.aload_n 0, 1) := by decide +kernel
theorem d_mo_overStart_44 : decode b_mo_overStart 44 = .ok (.aload_n 0, 1) := by decide +kernel
theorem d_mo_overStart_45 : decode b_mo_overStart 45 = .ok (.getfield 103, 3) := by decide +kernel
theorem d_mo_overStart_48 : decode b_mo_overStart 48 = .ok (.iconst 1, 1) := by decide +kernel
theorem d_mo_overStart_49 : decode b_mo_overStart 49 = .ok (.iadd, 1) := by decide +kernel
theorem d_mo_overStart_50 : decode b_mo_overStart 50 = .ok (.putfield 103, 3) := by decide +kernel
theorem d_mo_overStart_53 : decode b_mo_overStart 53 = .ok (.aload_n 0, 1) := by decide +kernel
theorem d_mo_overStart_54 : decode b_mo_overStart 54 = .ok (.getfield 26, 3) := by decide +kernel
theorem d_mo_overStart_57 : decode b_mo_overStart 57 = .ok (.aload_n 0, 1) := by decide +kernel
theorem d_mo_overStart_58 : decode b_mo_overStart 58 = .ok (.getfield 103, 3) := by decide +kernel
theorem d_mo_overStart_61 : decode b_mo_overStart 61 = .ok (.aload_n 0, 1) := by decide +kernel
theorem d_mo_overStart_62 : decode b_mo_overStart 62 = .ok (.iload_n 1, 1) := by decide +kernel
theorem d_mo_overStart_63 : decode b_mo_overStart 63 = .ok (.iconst 1, 1) := by decide +kernel
theorem d_mo_overStart_64 : decode b_mo_overStart 64 = .ok (.iadd, 1) := by decide +kernel
theorem d_mo_overStart_65 : decode b_mo_overStart 65 = .ok (.invokevirtual 96, 3) := by decide +kernel
theorem d_mo_overStart_68 : decode b_mo_overStart 68 = .ok (.iastore, 1) := by decide +kernel
theorem d_mo_overStart_69 : decode b_mo_overStart 69 = .ok (.aload_n 0, 1) := by decide +kernel
theorem d_mo_overStart_70 : decode b_mo_overStart 70 = .ok (.getfield 29, 3) := by decide +kernel
theorem d_mo_overStart_73 : decode b_mo_overStart 73 = .ok (.aload_n 0, 1) := by decide +kernel
theorem d_mo_overStart_74 : decode b_mo_overStart 74 = .ok (.getfield 103, 3) := by decide +kernel
theorem d_mo_overStart_77 : decode b_mo_overStart 77 = .ok (.iconst 0, 1) := by decide +kernel
theorem d_mo_overStart_78 : decode b_mo_overStart 78 = .ok (.iastore, 1) := by decide +kernel
theorem d_mo_overStart_79 : decode b_mo_overStart 79 = .ok (.iload_n 1, 1) := by decide +kernel
theorem d_mo_overStart_80 : decode b_mo_overStart 80 = .ok (.iconst 2, 1) := by decide +kernel
theorem d_mo_overStart_81 : decode b_mo_overStart 81 = .ok (.iadd, 1) := by decide +kernel
theorem d_mo_overStart_82 : decode b_mo_overStart 82 = .ok (.ireturn, 1) := by decide +kernel
theorem d_mo_overStart_83 : decode b_mo_overStart 83 = .ok (.iload_n 2, 1) := by decide +kernel
theorem d_mo_overStart_84 : decode b_mo_overStart 84 = .ok (.bipush 97, 2) := by decide +kernel
theorem d_mo_overStart_86 : decode b_mo_overStart 86 = .ok (.if_icmp .lt 13, 3) := by decide +kernel
theorem d_mo_overStart_89 : decode b_mo_overStart 89 = .ok (.iload_n 2, 1) := by decide +kernel
theorem d_mo_overStart_90 : decode b_mo_overStart 90 = .ok (.bipush 104, 2) := by decide +kernel
theorem d_mo_overStart_92 : decode b_mo_overStart 92 = .ok (.if_icmp .gt 7, 3) := by decide +kernel
theorem d_mo_overStart_95 : decode b_mo_overStart 95 = .ok (.iload_n 1, 1) := by decide +kernel
theorem d_mo_overStart_96 : decode b_mo_overStart 96 = .ok (.iconst 1, 1) := by decide +kernel
theorem d_mo_overStart_97 : decode b_mo_overStart 97 = .ok (.iadd, 1) := by decide +kernel
theorem d_mo_overStart_98 : decode b_mo_overStart 98 = .ok (.ireturn, 1) := by decide +kernel
theorem d_mo_overStart_99 : decode b_mo_overStart 99 = .ok (.iload_n 2, 1) := by decide +kernel
theorem d_mo_overStart_100 : decode b_mo_overStart 100 = .ok (.bipush 45, 2) := by decide +kernel
theorem d_mo_overStart_102 : decode b_mo_overStart 102 = .ok (.if_icmp .ne 9, 3) := by decide +kernel
theorem d_mo_overStart_105 : decode b_mo_overStart 105 = .ok (.iload_n 1, 1) := by decide +kernel
theorem d_mo_overStart_106 : decode b_mo_overStart 106 = .ok (.iconst 1, 1) := by decide +kernel
theorem d_mo_overStart_107 : decode b_mo_overStart 107 = .ok (.iadd, 1) := by decide +kernel
theorem d_mo_overStart_108 : decode b_mo_overStart 108 = .ok (.goto 4, 3) := by decide +kernel
theorem d_mo_overStart_111 : decode b_mo_overStart 111 = .ok (.iload_n 1, 1) := by decide +kernel
theorem d_mo_overStart_112 : decode b_mo_overStart 112 = .ok (.istore_n 3, 1) := by decide +kernel
theorem d_mo_overStart_113 : decode b_mo_overStart 113 = .ok (.aload_n 0, 1) := by decide +kernel
theorem d_mo_overStart_114 : decode b_mo_overStart 114 = .ok (.iload_n 3, 1) := by decide +kernel
theorem d_mo_overStart_115 : decode b_mo_overStart 115 = .ok (.invokevirtual 109, 3) := by decide +kernel
theorem d_mo_overStart_118 : decode b_mo_overStart 118 = .ok (.ifCond .ne 7, 3) := by decide +kernel
theorem d_mo_overStart_121 : decode b_mo_overStart 121 = .ok (.iconst (-1), 1) := by decide +kernel
theorem d_mo_overStart_122 : decode b_mo_overStart 122 = .ok (.iload_n 3, 1) := by decide +kernel
theorem d_mo_overStart_123 : decode b_mo_overStart 123 = .ok (.isub, 1) := by decide +kernel
theorem d_mo_overStart_124 : decode b_mo_overStart 124 = .ok (.ireturn, 1) := by decide +kernel
theorem d_mo_overStart_125 : decode b_mo_overStart 125 = .ok (.aload_n 0, 1) := by decide +kernel
theorem d_mo_overStart_126 : decode b_mo_overStart 126 = .ok (.iload_n 3, 1) := by decide +kernel
theorem d_mo_overStart_127 : decode b_mo_overStart 127 = .ok (.invokevirtual 109, 3) := by decide +kernel
theorem d_mo_overStart_130 : decode b_mo_overStart 130 = .ok (.ifCond .eq 10, 3) := by decide +kernel
theorem d_mo_overStart_133 : decode b_mo_overStart 133 = .ok (.iload_n 3, 1) := by decide +kernel
theorem d_mo_overStart_134 : decode b_mo_overStart 134 = .ok (.iconst 1, 1) := by decide +kernel
theorem d_mo_overStart_135 : decode b_mo_overStart 135 = .ok (.iadd, 1) := by decide +kernel
theorem d_mo_overStart_136 : decode b_mo_overStart 136 = .ok (.istore_n 3, 1) := by decide +kernel
theorem d_mo_overStart_137 : decode b_mo_overStart 137 = .ok (.goto (-12), 3) := by decide +kernel
theorem d_mo_overStart_140 : decode b_mo_overStart 140 = .ok (.iload_n 3, 1) := by decide +kernel
theorem d_mo_overStart_141 : decode b_mo_overStart 141 = .ok (.ireturn, 1) := by decide +kernel
theorem d_mo_overEnds_0 : decode b_mo_overEnds 0 = .ok (.iload_n 1, 1) := by decide +kernel
theorem d_mo_overEnds_1 : decode b_mo_overEnds 1 = .ok (.istore_n 2, 1) := by decide +kernel
theorem d_mo_overEnds_2 : decode b_mo_overEnds 2 = .ok (.aload_n 0, 1) := by decide +kernel
theorem d_mo_overEnds_3 : decode b_mo_overEnds 3 = .ok (.getfield 103, 3) := by decide +kernel
theorem d_mo_overEnds_6 : decode b_mo_overEnds 6 = .ok (.ifCond .le 58, 3) := by decide +kernel
theorem d_mo_overEnds_9 : decode b_mo_overEnds 9 = .ok (.aload_n 0, 1) := by decide +kernel
theorem d_mo_overEnds_10 : decode b_mo_overEnds 10 = .ok (.iload_n 2, 1) := by decide +kernel
theorem d_mo_overEnds_11 : decode b_mo_overEnds 11 = .ok (.invokevirtual 96, 3) := by decide +kernel
theorem d_mo_overEnds_14 : decode b_mo_overEnds 14 = .ok (.bipush 41, 2) := by decide +kernel
theorem d_mo_overEnds_16 : decode b_mo_overEnds 16 = .ok (.if_icmp .ne 48, 3) := by decide +kernel
theorem d_mo_overEnds_19 : decode b_mo_overEnds 19 = .ok (.aload_n 0, 1) := by decide +kernel
theorem d_mo_overEnds_20 : decode b_mo_overEnds 20 = .ok (.getfield 29, 3) := by decide +kernel
theorem d_mo_overEnds_23 : decode b_mo_overEnds 23 = .ok (.aload_n 0, 1) := by decide +kernel
theorem d_mo_overEnds_24 : decode b_mo_overEnds 24 = .ok (.getfield 103, 3) := by decide +kernel
theorem d_mo_overEnds_27 : decode b_mo_overEnds 27 = .ok (.iaload, 1) := by decide +kernel
theorem d_mo_overEnds_28 : decode b_mo_overEnds 28 = .ok (.aload_n 0, 1) := by decide +kernel
theorem d_mo_overEnds_29 : decode b_mo_overEnds 29 = .ok (.getfield 26, 3) := by decide +kernel
theorem d_mo_overEnds_32 : decode b_mo_overEnds 32 = .ok (.aload_n 0, 1) := by decide +kernel
theorem d_mo_overEnds_33 : decode b_mo_overEnds 33 = .ok (.getfield 103, 3) := by decide +kernel
theorem d_mo_overEnds_36 : decode b_mo_overEnds 36 = .ok (.iaload, 1) := by decide +kernel
theorem d_mo_overEnds_37 : decode b_mo_overEnds 37 = .ok (.invokestatic 100, 3) := by decide +kernel
theorem d_mo_overEnds_40 : decode b_mo_overEnds 40 = .ok (.if_icmp .ge 7, 3) := by decide +kernel
theorem d_mo_overEnds_43 : decode b_mo_overEnds 43 = .ok (.iconst (-1), 1) := by decide +kernel
theorem d_mo_overEnds_44 : decode b_mo_overEnds 44 = .ok (.iload_n 2, 1) := by decide +kernel
theorem d_mo_overEnds_45 : decode b_mo_overEnds 45 = .ok (.isub, 1) := by decide +kernel
theorem d_mo_overEnds_46 : decode b_mo_overEnds 46 = .ok (.ireturn, 1) := by decide +kernel
theorem d_mo_overEnds_47 : decode b_mo_overEnds 47 = .ok (.aload_n 0, 1) := by decide +kernel
theorem d_mo_overEnds_48 : decode b_mo_overEnds 48 = .ok (.aload_n 0, 1) := by decide +kernel
theorem d_mo_overEnds_49 : decode b_mo_overEnds 49 = .ok (.getfield 103, 3) := by decide +kernel
theorem d_mo_overEnds_52 : decode b_mo_overEnds 52 = .ok (.iconst 1, 1) := by decide +kernel
theorem d_mo_overEnds_53 : decode b_mo_overEnds 53 = .ok (.isub, 1) := by decide +kernel
theorem d_mo_overEnds_54 : decode b_mo_overEnds 54 = .ok (.putfield 103, 3) := by decide +kernel
theorem d_mo_overEnds_57 : decode b_mo_overEnds 57 = .ok (.iload_n 2, 1) := by decide +kernel
theorem d_mo_overEnds_58 : decode b_mo_overEnds 58 = .ok (.iconst 1, 1) := by decide +kernel
theorem d_mo_overEnds_59 : decode b_mo_overEnds 59 = .ok (.iadd, 1) := by decide +kernel
theorem d_mo_overEnds_60 : decode b_mo_overEnds 60 = .ok (.istore_n 2, 1) := by decide +kernel
theorem d_mo_overEnds_61 : decode b_mo_overEnds 61 = .ok (.goto (-59), 3) := by decide +kernel
theorem d_mo_overEnds_64 : decode b_mo_overEnds 64 = .ok (.aload_n 0, 1) := by decide +kernel
theorem d_mo_overEnds_65 : decode b_mo_overEnds 65 = .ok (.getfield 103, 3) := by decide +kernel
theorem d_mo_overEnds_68 : decode b_mo_overEnds 68 = .ok (.ifCond .ne 21, 3) := by decide +kernel
theorem d_mo_overEnds_71 : decode b_mo_overEnds 71 = .ok (.iload_n 2, 1) := by decide +kernel
theorem d_mo_overEnds_72 : decode b_mo_overEnds 72 = .ok (.aload_n 0, 1) := by decide +kernel
theorem d_mo_overEnds_73 : decode b_mo_overEnds 73 = .ok (.getfield 93, 3) := by decide +kernel
theorem d_mo_overEnds_76 : decode b_mo_overEnds 76 = .ok (.if_icmp .ne 9, 3) := by decide +kernel
theorem d_mo_overEnds_79 : decode b_mo_overEnds 79 = .ok (.sipush 1000, 3) := by decide +kernel
theorem d_mo_overEnds_82 : decode b_mo_overEnds 82 = .ok (.goto 6, 3) := by decide +kernel
theorem d_mo_overEnds_85 : decode b_mo_overEnds 85 = .ok (.iconst (-1), 1) := by decide +kernel
theorem d_mo_overEnds_86 : decode b_mo_overEnds 86 = .ok (.iload_n 2, 1) := by decide +kernel
theorem d_mo_overEnds_87 : decode b_mo_overEnds 87 = .ok (.isub, 1) := by decide +kernel
theorem d_mo_overEnds_88 : decode b_mo_overEnds 88 = .ok (.ireturn, 1) := by decide +kernel
theorem d_mo_overEnds_89 : decode b_mo_overEnds 89 = .ok (.aload_n 0, 1) := by decide +kernel
theorem d_mo_overEnds_90 : decode b_mo_overEnds 90 = .ok (.iload_n 2, 1) := by decide +kernel
theorem d_mo_overEnds_91 : decode b_mo_overEnds 91 = .ok (.invokevirtual 96, 3) := by decide +kernel
theorem d_mo_overEnds_94 : decode b_mo_overEnds 94 = .ok (.bipush 32, 2) := by decide +kernel
theorem d_mo_overEnds_96 : decode b_mo_overEnds 96 = .ok (.if_icmp .ne 27, 3) := by decide +kernel
theorem d_mo_overEnds_99 : decode b_mo_overEnds 99 = .ok (.aload_n 0, 1) := by decide +kernel
theorem d_mo_overEnds_100 : decode b_mo_overEnds 100 = .ok (.getfield 29, 3) := by decide +kernel
theorem d_mo_overEnds_103 : decode b_mo_overEnds 103 = .ok (.aload_n 0, 1) := by decide +kernel
theorem d_mo_overEnds_104 : decode b_mo_overEnds 104 = .ok (.getfield 103, 3) := by decide +kernel
theorem d_mo_overEnds_107 : decode b_mo_overEnds 107 = .ok (.iaload, 1) := by decide +kernel
theorem d_mo_overEnds_108 : decode b_mo_overEnds 108 = .ok (.aload_n 0, 1) := by decide +kernel
theorem d_mo_overEnds_109 : decode b_mo_overEnds 109 = .ok (.getfield 26, 3) := by decide +kernel
theorem d_mo_overEnds_112 : decode b_mo_overEnds 112 = .ok (.aload_n 0, 1) := by decide +kernel
theorem d_mo_overEnds_113 : decode b_mo_overEnds 113 = .ok (.getfield 103, 3) := by decide +kernel
theorem d_mo_overEnds_116 : decode b_mo_overEnds 116 = .ok (.iaload, 1) := by decide +kernel
theorem d_mo_overEnds_117 : decode b_mo_overEnds 117 = .ok (.invokestatic 112, 3) := by decide +kernel
theorem d_mo_overEnds_120 : decode b_mo_overEnds 120 = .ok (.if_icmp .ne 7, 3) := by decide +kernel
theorem d_mo_overEnds_123 : decode b_mo_overEnds 123 = .ok (.iconst (-1), 1) := by decide +kernel
theorem d_mo_overEnds_124 : decode b_mo_overEnds 124 = .ok (.iload_n 2, 1) := by decide +kernel
theorem d_mo_overEnds_125 : decode b_mo_overEnds 125 = .ok (.isub, 1) := by decide +kernel
theorem d_mo_overEnds_126 : decode b_mo_overEnds 126 = .ok (.ireturn, 1) := by decide +kernel
theorem d_mo_overEnds_127 : decode b_mo_overEnds 127 = .ok (.aload_n 0, 1) := by decide +kernel
theorem d_mo_overEnds_128 : decode b_mo_overEnds 128 = .ok (.getfield 29, 3) := by decide +kernel
theorem d_mo_overEnds_131 : decode b_mo_overEnds 131 = .ok (.aload_n 0, 1) := by decide +kernel
theorem d_mo_overEnds_132 : decode b_mo_overEnds 132 = .ok (.getfield 103, 3) := by decide +kernel
theorem d_mo_overEnds_135 : decode b_mo_overEnds 135 = .ok (.aload_n 0, 1) := by decide +kernel
theorem d_mo_overEnds_136 : decode b_mo_overEnds 136 = .ok (.getfield 29, 3) := by decide +kernel
theorem d_mo_overEnds_139 : decode b_mo_overEnds 139 = .ok (.aload_n 0, 1) := by decide +kernel
theorem d_mo_overEnds_140 : decode b_mo_overEnds 140 = .ok (.getfield 103, 3) := by decide +kernel
theorem d_mo_overEnds_143 : decode b_mo_overEnds 143 = .ok (.iaload, 1) := by decide +kernel
theorem d_mo_overEnds_144 : decode b_mo_overEnds 144 = .ok (.iconst 1, 1) := by decide +kernel
theorem d_mo_overEnds_145 : decode b_mo_overEnds 145 = .ok (.iadd, 1) := by decide +kernel
theorem d_mo_overEnds_146 : decode b_mo_overEnds 146 = .ok (.iastore, 1) := by decide +kernel
theorem d_mo_overEnds_147 : decode b_mo_overEnds 147 = .ok (.iload_n 2, 1) := by decide +kernel
theorem d_mo_overEnds_148 : decode b_mo_overEnds 148 = .ok (.iconst 1, 1) := by decide +kernel
theorem d_mo_overEnds_149 : decode b_mo_overEnds 149 = .ok (.iadd, 1) := by decide +kernel
theorem d_mo_overEnds_150 : decode b_mo_overEnds 150 = .ok (.ireturn, 1) := by decide +kernel
theorem d_mo_faultOf_0 : decode b_mo_faultOf 0 = .ok (.aload_n 0, 1) := by decide +kernel
theorem d_mo_faultOf_1 : decode b_mo_faultOf 1 = .ok (.iconst 0, 1) := by decide +kernel
theorem d_mo_faultOf_2 : decode b_mo_faultOf 2 = .ok (.putfield 103, 3) := by decide +kernel
theorem d_mo_faultOf_5 : decode b_mo_faultOf 5 = .ok (.iconst 0, 1) := by decide +kernel
theorem d_mo_faultOf_6 : decode b_mo_faultOf 6 = .ok (.istore_n 1, 1) := by decide +kernel
theorem d_mo_faultOf_7 : decode b_mo_faultOf 7 = .ok (.iload_n 1, 1) := by decide +kernel
theorem d_mo_faultOf_8 : decode b_mo_faultOf 8 = .ok (.ifCond .lt 33, 3) := by decide +kernel
theorem d_mo_faultOf_11 : decode b_mo_faultOf 11 = .ok (.iload_n 1, 1) := by decide +kernel
theorem d_mo_faultOf_12 : decode b_mo_faultOf 12 = .ok (.sipush 1000, 3) := by decide +kernel
theorem d_mo_faultOf_15 : decode b_mo_faultOf 15 = .ok (.if_icmp .ge 26, 3) := by decide +kernel
theorem d_mo_faultOf_18 : decode b_mo_faultOf 18 = .ok (.aload_n 0, 1) := by decide +kernel
theorem d_mo_faultOf_19 : decode b_mo_faultOf 19 = .ok (.iload_n 1, 1) := by decide +kernel
theorem d_mo_faultOf_20 : decode b_mo_faultOf 20 = .ok (.invokevirtual 115, 3) := by decide +kernel
theorem d_mo_faultOf_23 : decode b_mo_faultOf 23 = .ok (.istore_n 1, 1) := by decide +kernel
theorem d_mo_faultOf_24 : decode b_mo_faultOf 24 = .ok (.iload_n 1, 1) := by decide +kernel
theorem d_mo_faultOf_25 : decode b_mo_faultOf 25 = .ok (.ifCond .ge 7, 3) := by decide +kernel
theorem d_mo_faultOf_28 : decode b_mo_faultOf 28 = .ok (.iload_n 1, 1) := by decide +kernel
theorem d_mo_faultOf_29 : decode b_mo_faultOf 29 = .ok (.goto 8, 3) := by decide +kernel
theorem d_mo_faultOf_32 : decode b_mo_faultOf 32 = .ok (.aload_n 0, 1) := by decide +kernel
theorem d_mo_faultOf_33 : decode b_mo_faultOf 33 = .ok (.iload_n 1, 1) := by decide +kernel
theorem d_mo_faultOf_34 : decode b_mo_faultOf 34 = .ok (.invokevirtual 118, 3) := by decide +kernel
theorem d_mo_faultOf_37 : decode b_mo_faultOf 37 = .ok (.istore_n 1, 1) := by decide +kernel
theorem d_mo_faultOf_38 : decode b_mo_faultOf 38 = .ok (.goto (-31), 3) := by decide +kernel
theorem d_mo_faultOf_41 : decode b_mo_faultOf 41 = .ok (.iload_n 1, 1) := by decide +kernel
theorem d_mo_faultOf_42 : decode b_mo_faultOf 42 = .ok (.ifCond .ge 9, 3) := by decide +kernel
theorem d_mo_faultOf_45 : decode b_mo_faultOf 45 = .ok (.iconst (-1), 1) := by decide +kernel
theorem d_mo_faultOf_46 : decode b_mo_faultOf 46 = .ok (.iload_n 1, 1) := by decide +kernel
theorem d_mo_faultOf_47 : decode b_mo_faultOf 47 = .ok (.isub, 1) := by decide +kernel
theorem d_mo_faultOf_48 : decode b_mo_faultOf 48 = .ok (.goto 4, 3) := by decide +kernel
theorem d_mo_faultOf_51 : decode b_mo_faultOf 51 = .ok (.iconst (-1), 1) := by decide +kernel
theorem d_mo_faultOf_52 : decode b_mo_faultOf 52 = .ok (.ireturn, 1) := by decide +kernel
theorem d_mo_skip_0 : decode b_mo_skip 0 = .ok (.iconst 0, 1) := by decide +kernel
theorem d_mo_skip_1 : decode b_mo_skip 1 = .ok (.istore_n 2, 1) := by decide +kernel
theorem d_mo_skip_2 : decode b_mo_skip 2 = .ok (.iload_n 1, 1) := by decide +kernel
theorem d_mo_skip_3 : decode b_mo_skip 3 = .ok (.istore_n 3, 1) := by decide +kernel
theorem d_mo_skip_4 : decode b_mo_skip 4 = .ok (.iconst 1, 1) := by decide +kernel
theorem d_mo_skip_5 : decode b_mo_skip 5 = .ok (.istore 4, 2) := by decide +kernel
theorem d_mo_skip_7 : decode b_mo_skip 7 = .ok (.iload 4, 2) := by decide +kernel
theorem d_mo_skip_9 : decode b_mo_skip 9 = .ok (.ifCond .eq 81, 3) := by decide +kernel
theorem d_mo_skip_12 : decode b_mo_skip 12 = .ok (.aload_n 0, 1) := by decide +kernel
theorem d_mo_skip_13 : decode b_mo_skip 13 = .ok (.iload_n 3, 1) := by decide +kernel
theorem d_mo_skip_14 : decode b_mo_skip 14 = .ok (.invokevirtual 96, 3) := by decide +kernel
theorem d_mo_skip_17 : decode b_mo_skip 17 = .ok (.bipush 40, 2) := by decide +kernel
theorem d_mo_skip_19 : decode b_mo_skip 19 = .ok (.if_icmp .ne 9, 3) := by decide +kernel
theorem d_mo_skip_22 : decode b_mo_skip 22 = .ok (.iload_n 2, 1) := by decide +kernel
theorem d_mo_skip_23 : decode b_mo_skip 23 = .ok (.iconst 1, 1) := by decide +kernel
theorem d_mo_skip_24 : decode b_mo_skip 24 = .ok (.iadd, 1) := by decide +kernel
theorem d_mo_skip_25 : decode b_mo_skip 25 = .ok (.goto 20, 3) := by decide +kernel
theorem d_mo_skip_28 : decode b_mo_skip 28 = .ok (.aload_n 0, 1) := by decide +kernel
theorem d_mo_skip_29 : decode b_mo_skip 29 = .ok (.iload_n 3, 1) := by decide +kernel
theorem d_mo_skip_30 : decode b_mo_skip 30 = .ok (.invokevirtual 96, 3) := by decide +kernel
theorem d_mo_skip_33 : decode b_mo_skip 33 = .ok (.bipush 41, 2) := by decide +kernel
theorem d_mo_skip_35 : decode b_mo_skip 35 = .ok (.if_icmp .ne 9, 3) := by decide +kernel
theorem d_mo_skip_38 : decode b_mo_skip 38 = .ok (.iload_n 2, 1) := by decide +kernel
theorem d_mo_skip_39 : decode b_mo_skip 39 = .ok (.iconst 1, 1) := by decide +kernel
theorem d_mo_skip_40 : decode b_mo_skip 40 = .ok (.isub, 1) := by decide +kernel
theorem d_mo_skip_41 : decode b_mo_skip 41 = .ok (.goto 4, 3) := by decide +kernel
theorem d_mo_skip_44 : decode b_mo_skip 44 = .ok (.iload_n 2, 1) := by decide +kernel
theorem d_mo_skip_45 : decode b_mo_skip 45 = .ok (.istore_n 2, 1) := by decide +kernel
theorem d_mo_skip_46 : decode b_mo_skip 46 = .ok (.iload_n 3, 1) := by decide +kernel
theorem d_mo_skip_47 : decode b_mo_skip 47 = .ok (.iconst 1, 1) := by decide +kernel
theorem d_mo_skip_48 : decode b_mo_skip 48 = .ok (.iadd, 1) := by decide +kernel
theorem d_mo_skip_49 : decode b_mo_skip 49 = .ok (.istore_n 3, 1) := by decide +kernel
theorem d_mo_skip_50 : decode b_mo_skip 50 = .ok (.aload_n 0, 1) := by decide +kernel
theorem d_mo_skip_51 : decode b_mo_skip 51 = .ok (.iload_n 3, 1) := by decide +kernel
theorem d_mo_skip_52 : decode b_mo_skip 52 = .ok (.invokevirtual 96, 3) := by decide +kernel
theorem d_mo_skip_55 : decode b_mo_skip 55 = .ok (.istore 5, 2) := by decide +kernel
theorem d_mo_skip_57 : decode b_mo_skip 57 = .ok (.iload_n 2, 1) := by decide +kernel
theorem d_mo_skip_58 : decode b_mo_skip 58 = .ok (.ifCond .gt 22, 3) := by decide +kernel
theorem d_mo_skip_61 : decode b_mo_skip 61 = .ok (.iload 5, 2) := by decide +kernel
theorem d_mo_skip_63 : decode b_mo_skip 63 = .ok (.bipush 32, 2) := by decide +kernel
theorem d_mo_skip_65 : decode b_mo_skip 65 = .ok (.if_icmp .eq 19, 3) := by decide +kernel
theorem d_mo_skip_68 : decode b_mo_skip 68 = .ok (.iload 5, 2) := by decide +kernel
theorem d_mo_skip_70 : decode b_mo_skip 70 = .ok (.bipush 41, 2) := by decide +kernel
theorem d_mo_skip_72 : decode b_mo_skip 72 = .ok (.if_icmp .eq 12, 3) := by decide +kernel
theorem d_mo_skip_75 : decode b_mo_skip 75 = .ok (.iload 5, 2) := by decide +kernel
theorem d_mo_skip_77 : decode b_mo_skip 77 = .ok (.ifCond .eq 7, 3) := by decide +kernel
theorem d_mo_skip_80 : decode b_mo_skip 80 = .ok (.iconst 1, 1) := by decide +kernel
theorem d_mo_skip_81 : decode b_mo_skip 81 = .ok (.goto 4, 3) := by decide +kernel
theorem d_mo_skip_84 : decode b_mo_skip 84 = .ok (.iconst 0, 1) := by decide +kernel
theorem d_mo_skip_85 : decode b_mo_skip 85 = .ok (.istore 4, 2) := by decide +kernel
theorem d_mo_skip_87 : decode b_mo_skip 87 = .ok (.goto (-80), 3) := by decide +kernel
theorem d_mo_skip_90 : decode b_mo_skip 90 = .ok (.iload_n 3, 1) := by decide +kernel
theorem d_mo_skip_91 : decode b_mo_skip 91 = .ok (.ireturn, 1) := by decide +kernel
theorem d_mo_number_0 : decode b_mo_number 0 = .ok (.aload_n 0, 1) := by decide +kernel
theorem d_mo_number_1 : decode b_mo_number 1 = .ok (.aload_n 0, 1) := by decide +kernel
theorem d_mo_number_2 : decode b_mo_number 2 = .ok (.getfield 121, 3) := by decide +kernel
theorem d_mo_number_5 : decode b_mo_number 5 = .ok (.invokevirtual 96, 3) := by decide +kernel
theorem d_mo_number_8 : decode b_mo_number 8 = .ok (.bipush 45, 2) := by decide +kernel
theorem d_mo_number_10 : decode b_mo_number 10 = .ok (.if_icmp .ne 7, 3) := by decide +kernel
theorem d_mo_number_13 : decode b_mo_number 13 = .ok (.iconst 1, 1) := by decide +kernel
theorem d_mo_number_14 : decode b_mo_number 14 = .ok (.goto 4, 3) := by decide +kernel
theorem d_mo_number_17 : decode b_mo_number 17 = .ok (.iconst 0, 1) := by decide +kernel
theorem d_mo_number_18 : decode b_mo_number 18 = .ok (.istore_n 1, 1) := by decide +kernel
theorem d_mo_number_19 : decode b_mo_number 19 = .ok (.aload_n 0, 1) := by decide +kernel
theorem d_mo_number_20 : decode b_mo_number 20 = .ok (.iload_n 1, 1) := by decide +kernel
theorem d_mo_number_21 : decode b_mo_number 21 = .ok (.ifCond .eq 12, 3) := by decide +kernel
theorem d_mo_number_24 : decode b_mo_number 24 = .ok (.aload_n 0, 1) := by decide +kernel
theorem d_mo_number_25 : decode b_mo_number 25 = .ok (.getfield 121, 3) := by decide +kernel
theorem d_mo_number_28 : decode b_mo_number 28 = .ok (.iconst 1, 1) := by decide +kernel
theorem d_mo_number_29 : decode b_mo_number 29 = .ok (.iadd, 1) := by decide +kernel
theorem d_mo_number_30 : decode b_mo_number 30 = .ok (.goto 7, 3) := by decide +kernel
theorem d_mo_number_33 : decode b_mo_number 33 = .ok (.aload_n 0, 1) := by decide +kernel
theorem d_mo_number_34 : decode b_mo_number 34 = .ok (.getfield 121, 3) := by decide +kernel
theorem d_mo_number_37 : decode b_mo_number 37 = .ok (.putfield 121, 3) := by decide +kernel
theorem d_mo_number_40 : decode b_mo_number 40 = .ok (.aload_n 0, 1) := by decide +kernel
theorem d_mo_number_41 : decode b_mo_number 41 = .ok (.iconst 2, 1) := by decide +kernel
theorem d_mo_number_42 : decode b_mo_number 42 = .ok (.aload_n 0, 1) := by decide +kernel
theorem d_mo_number_43 : decode b_mo_number 43 = .ok (.getfield 124, 3) := by decide +kernel
theorem d_mo_number_46 : decode b_mo_number 46 = .ok (.imul, 1) := by decide +kernel
theorem d_mo_number_47 : decode b_mo_number 47 = .ok (.iconst 0, 1) := by decide +kernel
theorem d_mo_number_48 : decode b_mo_number 48 = .ok (.invokevirtual 35, 3) := by decide +kernel
theorem d_mo_number_51 : decode b_mo_number 51 = .ok (.aload_n 0, 1) := by decide +kernel
theorem d_mo_number_52 : decode b_mo_number 52 = .ok (.iconst 2, 1) := by decide +kernel
theorem d_mo_number_53 : decode b_mo_number 53 = .ok (.aload_n 0, 1) := by decide +kernel
theorem d_mo_number_54 : decode b_mo_number 54 = .ok (.getfield 124, 3) := by decide +kernel
theorem d_mo_number_57 : decode b_mo_number 57 = .ok (.imul, 1) := by decide +kernel
theorem d_mo_number_58 : decode b_mo_number 58 = .ok (.iconst 1, 1) := by decide +kernel
theorem d_mo_number_59 : decode b_mo_number 59 = .ok (.iadd, 1) := by decide +kernel
theorem d_mo_number_60 : decode b_mo_number 60 = .ok (.iconst 1, 1) := by decide +kernel
theorem d_mo_number_61 : decode b_mo_number 61 = .ok (.invokevirtual 35, 3) := by decide +kernel
theorem d_mo_number_64 : decode b_mo_number 64 = .ok (.aload_n 0, 1) := by decide +kernel
theorem d_mo_number_65 : decode b_mo_number 65 = .ok (.sipush 151, 3) := by decide +kernel
theorem d_mo_number_68 : decode b_mo_number 68 = .ok (.iconst 0, 1) := by decide +kernel
theorem d_mo_number_69 : decode b_mo_number 69 = .ok (.invokevirtual 35, 3) := by decide +kernel
theorem d_mo_number_72 : decode b_mo_number 72 = .ok (.aload_n 0, 1) := by decide +kernel
theorem d_mo_number_73 : decode b_mo_number 73 = .ok (.aload_n 0, 1) := by decide +kernel
theorem d_mo_number_74 : decode b_mo_number 74 = .ok (.getfield 121, 3) := by decide +kernel
theorem d_mo_number_77 : decode b_mo_number 77 = .ok (.invokevirtual 109, 3) := by decide +kernel
theorem d_mo_number_80 : decode b_mo_number 80 = .ok (.ifCond .eq 72, 3) := by decide +kernel
theorem d_mo_number_83 : decode b_mo_number 83 = .ok (.aload_n 0, 1) := by decide +kernel
theorem d_mo_number_84 : decode b_mo_number 84 = .ok (.iconst 2, 1) := by decide +kernel
theorem d_mo_number_85 : decode b_mo_number 85 = .ok (.aload_n 0, 1) := by decide +kernel
theorem d_mo_number_86 : decode b_mo_number 86 = .ok (.getfield 124, 3) := by decide +kernel
theorem d_mo_number_89 : decode b_mo_number 89 = .ok (.imul, 1) := by decide +kernel
theorem d_mo_number_90 : decode b_mo_number 90 = .ok (.bipush 10, 2) := by decide +kernel
theorem d_mo_number_92 : decode b_mo_number 92 = .ok (.sipush 150, 3) := by decide +kernel
theorem d_mo_number_95 : decode b_mo_number 95 = .ok (.invokevirtual 51, 3) := by decide +kernel
theorem d_mo_number_98 : decode b_mo_number 98 = .ok (.aload_n 0, 1) := by decide +kernel
theorem d_mo_number_99 : decode b_mo_number 99 = .ok (.sipush 151, 3) := by decide +kernel
theorem d_mo_number_102 : decode b_mo_number 102 = .ok (.aload_n 0, 1) := by decide +kernel
theorem d_mo_number_103 : decode b_mo_number 103 = .ok (.aload_n 0, 1) := by decide +kernel
theorem d_mo_number_104 : decode b_mo_number 104 = .ok (.getfield 121, 3) := by decide +kernel
theorem d_mo_number_107 : decode b_mo_number 107 = .ok (.invokevirtual 96, 3) := by decide +kernel
theorem d_mo_number_110 : decode b_mo_number 110 = .ok (.bipush 48, 2) := by decide +kernel
theorem d_mo_number_112 : decode b_mo_number 112 = .ok (.isub, 1) := by decide +kernel
theorem d_mo_number_113 : decode b_mo_number 113 = .ok (.invokevirtual 35, 3) := by decide +kernel
theorem d_mo_number_116 : decode b_mo_number 116 = .ok (.aload_n 0, 1) := by decide +kernel
theorem d_mo_number_117 : decode b_mo_number 117 = .ok (.sipush 150, 3) := by decide +kernel
theorem d_mo_number_120 : decode b_mo_number 120 = .ok (.sipush 151, 3) := by decide +kernel
theorem d_mo_number_123 : decode b_mo_number 123 = .ok (.invokevirtual 39, 3) := by decide +kernel
theorem d_mo_number_126 : decode b_mo_number 126 = .ok (.aload_n 0, 1) := by decide +kernel
theorem d_mo_number_127 : decode b_mo_number 127 = .ok (.sipush 150, 3) := by decide +kernel
theorem d_mo_number_130 : decode b_mo_number 130 = .ok (.iconst 2, 1) := by decide +kernel
theorem d_mo_number_131 : decode b_mo_number 131 = .ok (.aload_n 0, 1) := by decide +kernel
theorem d_mo_number_132 : decode b_mo_number 132 = .ok (.getfield 124, 3) := by decide +kernel
theorem d_mo_number_135 : decode b_mo_number 135 = .ok (.imul, 1) := by decide +kernel
theorem d_mo_number_136 : decode b_mo_number 136 = .ok (.invokevirtual 62, 3) := by decide +kernel
theorem d_mo_number_139 : decode b_mo_number 139 = .ok (.aload_n 0, 1) := by decide +kernel
theorem d_mo_number_140 : decode b_mo_number 140 = .ok (.aload_n 0, 1) := by decide +kernel
theorem d_mo_number_141 : decode b_mo_number 141 = .ok (.getfield 121, 3) := by decide +kernel
theorem d_mo_number_144 : decode b_mo_number 144 = .ok (.iconst 1, 1) := by decide +kernel
theorem d_mo_number_145 : decode b_mo_number 145 = .ok (.iadd, 1) := by decide +kernel
theorem d_mo_number_146 : decode b_mo_number 146 = .ok (.putfield 121, 3) := by decide +kernel
theorem d_mo_number_149 : decode b_mo_number 149 = .ok (.goto (-77), 3) := by decide +kernel
theorem d_mo_number_152 : decode b_mo_number 152 = .ok (.aload_n 0, 1) := by decide +kernel
theorem d_mo_number_153 : decode b_mo_number 153 = .ok (.getfield 23, 3) := by decide +kernel
theorem d_mo_number_156 : decode b_mo_number 156 = .ok (.aload_n 0, 1) := by decide +kernel
theorem d_mo_number_157 : decode b_mo_number 157 = .ok (.getfield 124, 3) := by decide +kernel
theorem d_mo_number_160 : decode b_mo_number 160 = .ok (.aload_n 0, 1) := by decide +kernel
theorem d_mo_number_161 : decode b_mo_number 161 = .ok (.getfield 20, 3) := by decide +kernel
theorem d_mo_number_164 : decode b_mo_number 164 = .ok (.iconst 2, 1) := by decide +kernel
theorem d_mo_number_165 : decode b_mo_number 165 = .ok (.aload_n 0, 1) := by decide +kernel
theorem d_mo_number_166 : decode b_mo_number 166 = .ok (.getfield 124, 3) := by decide +kernel
theorem d_mo_number_169 : decode b_mo_number 169 = .ok (.imul, 1) := by decide +kernel
theorem d_mo_number_170 : decode b_mo_number 170 = .ok (.iaload, 1) := by decide +kernel
theorem d_mo_number_171 : decode b_mo_number 171 = .ok (.ifCond .ne 7, 3) := by decide +kernel
theorem d_mo_number_174 : decode b_mo_number 174 = .ok (.iconst 0, 1) := by decide +kernel
theorem d_mo_number_175 : decode b_mo_number 175 = .ok (.goto 12, 3) := by decide +kernel
theorem d_mo_number_178 : decode b_mo_number 178 = .ok (.iload_n 1, 1) := by decide +kernel
theorem d_mo_number_179 : decode b_mo_number 179 = .ok (.ifCond .eq 7, 3) := by decide +kernel
theorem d_mo_number_182 : decode b_mo_number 182 = .ok (.iconst (-1), 1) := by decide +kernel
theorem d_mo_number_183 : decode b_mo_number 183 = .ok (.goto 4, 3) := by decide +kernel
theorem d_mo_number_186 : decode b_mo_number 186 = .ok (.iconst 1, 1) := by decide +kernel
theorem d_mo_number_187 : decode b_mo_number 187 = .ok (.iastore, 1) := by decide +kernel
theorem d_mo_number_188 : decode b_mo_number 188 = .ok (.aload_n 0, 1) := by decide +kernel
theorem d_mo_number_189 : decode b_mo_number 189 = .ok (.aload_n 0, 1) := by decide +kernel
theorem d_mo_number_190 : decode b_mo_number 190 = .ok (.getfield 124, 3) := by decide +kernel
theorem d_mo_number_193 : decode b_mo_number 193 = .ok (.iconst 1, 1) := by decide +kernel
theorem d_mo_number_194 : decode b_mo_number 194 = .ok (.iadd, 1) := by decide +kernel
theorem d_mo_number_195 : decode b_mo_number 195 = .ok (.putfield 124, 3) := by decide +kernel
theorem d_mo_number_198 : decode b_mo_number 198 = .ok (.aload_n 0, 1) := by decide +kernel
theorem d_mo_number_199 : decode b_mo_number 199 = .ok (.iconst 2, 1) := by decide +kernel
theorem d_mo_number_200 : decode b_mo_number 200 = .ok (.aload_n 0, 1) := by decide +kernel
theorem d_mo_number_201 : decode b_mo_number 201 = .ok (.getfield 124, 3) := by decide +kernel
theorem d_mo_number_204 : decode b_mo_number 204 = .ok (.imul, 1) := by decide +kernel
theorem d_mo_number_205 : decode b_mo_number 205 = .ok (.iconst 2, 1) := by decide +kernel
theorem d_mo_number_206 : decode b_mo_number 206 = .ok (.isub, 1) := by decide +kernel
theorem d_mo_number_207 : decode b_mo_number 207 = .ok (.sipush 158, 3) := by decide +kernel
theorem d_mo_number_210 : decode b_mo_number 210 = .ok (.invokevirtual 55, 3) := by decide +kernel
theorem d_mo_number_213 : decode b_mo_number 213 = .ok (.ifCond .ge 7, 3) := by decide +kernel
theorem d_mo_number_216 : decode b_mo_number 216 = .ok (.iconst 0, 1) := by decide +kernel
theorem d_mo_number_217 : decode b_mo_number 217 = .ok (.goto 4, 3) := by decide +kernel
theorem d_mo_number_220 : decode b_mo_number 220 = .ok (.iconst 1, 1) := by decide +kernel
theorem d_mo_number_221 : decode b_mo_number 221 = .ok (.ireturn, 1) := by decide +kernel
theorem d_mo_begin_0 : decode b_mo_begin 0 = .ok (.aload_n 0, 1) := by decide +kernel
theorem d_mo_begin_1 : decode b_mo_begin 1 = .ok (.aload_n 0, 1) := by decide +kernel
theorem d_mo_begin_2 : decode b_mo_begin 2 = .ok (.getfield 121, 3) := by decide +kernel
theorem d_mo_begin_5 : decode b_mo_begin 5 = .ok (.invokevirtual 96, 3) := by decide +kernel
theorem d_mo_begin_8 : decode b_mo_begin 8 = .ok (.istore_n 1, 1) := by decide +kernel
theorem d_mo_begin_9 : decode b_mo_begin 9 = .ok (.iload_n 1, 1) := by decide +kernel
theorem d_mo_begin_10 : decode b_mo_begin 10 = .ok (.bipush 40, 2) := by decide +kernel
theorem d_mo_begin_12 : decode b_mo_begin 12 = .ok (.if_icmp .ne 57, 3) := by decide +kernel
theorem d_mo_begin_15 : decode b_mo_begin 15 = .ok (.aload_n 0, 1) := by decide +kernel
theorem d_mo_begin_16 : decode b_mo_begin 16 = .ok (.aload_n 0, 1) := by decide +kernel
theorem d_mo_begin_17 : decode b_mo_begin 17 = .ok (.getfield 103, 3) := by decide +kernel
theorem d_mo_begin_20 : decode b_mo_begin 20 = .ok (.iconst 1, 1) := by decide +kernel
theorem d_mo_begin_21 : decode b_mo_begin 21 = .ok (.iadd, 1) := by decide +kernel
theorem d_mo_begin_22 : decode b_mo_begin 22 = .ok (.putfield 103, 3) := by decide +kernel
theorem d_mo_begin_25 : decode b_mo_begin 25 = .ok (.aload_n 0, 1) := by decide +kernel
theorem d_mo_begin_26 : decode b_mo_begin 26 = .ok (.getfield 26, 3) := by decide +kernel
theorem d_mo_begin_29 : decode b_mo_begin 29 = .ok (.aload_n 0, 1) := by decide +kernel
theorem d_mo_begin_30 : decode b_mo_begin 30 = .ok (.getfield 103, 3) := by decide +kernel
theorem d_mo_begin_33 : decode b_mo_begin 33 = .ok (.aload_n 0, 1) := by decide +kernel
theorem d_mo_begin_34 : decode b_mo_begin 34 = .ok (.aload_n 0, 1) := by decide +kernel
theorem d_mo_begin_35 : decode b_mo_begin 35 = .ok (.getfield 121, 3) := by decide +kernel
theorem d_mo_begin_38 : decode b_mo_begin 38 = .ok (.iconst 1, 1) := by decide +kernel
theorem d_mo_begin_39 : decode b_mo_begin 39 = .ok (.iadd, 1) := by decide +kernel
theorem d_mo_begin_40 : decode b_mo_begin 40 = .ok (.invokevirtual 96, 3) := by decide +kernel
theorem d_mo_begin_43 : decode b_mo_begin 43 = .ok (.iastore, 1) := by decide +kernel
theorem d_mo_begin_44 : decode b_mo_begin 44 = .ok (.aload_n 0, 1) := by decide +kernel
theorem d_mo_begin_45 : decode b_mo_begin 45 = .ok (.getfield 32, 3) := by decide +kernel
theorem d_mo_begin_48 : decode b_mo_begin 48 = .ok (.aload_n 0, 1) := by decide +kernel
theorem d_mo_begin_49 : decode b_mo_begin 49 = .ok (.getfield 103, 3) := by decide +kernel
theorem d_mo_begin_52 : decode b_mo_begin 52 = .ok (.aload_n 0, 1) := by decide +kernel
theorem d_mo_begin_53 : decode b_mo_begin 53 = .ok (.getfield 124, 3) := by decide +kernel
theorem d_mo_begin_56 : decode b_mo_begin 56 = .ok (.iastore, 1) := by decide +kernel
theorem d_mo_begin_57 : decode b_mo_begin 57 = .ok (.aload_n 0, 1) := by decide +kernel
theorem d_mo_begin_58 : decode b_mo_begin 58 = .ok (.aload_n 0, 1) := by decide +kernel
theorem d_mo_begin_59 : decode b_mo_begin 59 = .ok (.getfield 121, 3) := by decide +kernel
theorem d_mo_begin_62 : decode b_mo_begin 62 = .ok (.iconst 2, 1) := by decide +kernel
theorem d_mo_begin_63 : decode b_mo_begin 63 = .ok (.iadd, 1) := by decide +kernel
theorem d_mo_begin_64 : decode b_mo_begin 64 = .ok (.putfield 121, 3) := by decide +kernel
theorem d_mo_begin_67 : decode b_mo_begin 67 = .ok (.iconst 0, 1) := by decide +kernel
theorem d_mo_begin_68 : decode b_mo_begin 68 = .ok (.ireturn, 1) := by decide +kernel
theorem d_mo_begin_69 : decode b_mo_begin 69 = .ok (.iload_n 1, 1) := by decide +kernel
theorem d_mo_begin_70 : decode b_mo_begin 70 = .ok (.bipush 97, 2) := by decide +kernel
theorem d_mo_begin_72 : decode b_mo_begin 72 = .ok (.if_icmp .lt 46, 3) := by decide +kernel
theorem d_mo_begin_75 : decode b_mo_begin 75 = .ok (.iload_n 1, 1) := by decide +kernel
theorem d_mo_begin_76 : decode b_mo_begin 76 = .ok (.bipush 104, 2) := by decide +kernel
theorem d_mo_begin_78 : decode b_mo_begin 78 = .ok (.if_icmp .gt 40, 3) := by decide +kernel
theorem d_mo_begin_81 : decode b_mo_begin 81 = .ok (.aload_n 0, 1) := by decide +kernel
theorem d_mo_begin_82 : decode b_mo_begin 82 = .ok (.bipush 64, 2) := by decide +kernel
theorem d_mo_begin_84 : decode b_mo_begin 84 = .ok (.iload_n 1, 1) := by decide +kernel
theorem d_mo_begin_85 : decode b_mo_begin 85 = .ok (.iadd, 1) := by decide +kernel
theorem d_mo_begin_86 : decode b_mo_begin 86 = .ok (.bipush 97, 2) := by decide +kernel
theorem d_mo_begin_88 : decode b_mo_begin 88 = .ok (.isub, 1) := by decide +kernel
theorem d_mo_begin_89 : decode b_mo_begin 89 = .ok (.aload_n 0, 1) := by decide +kernel
theorem d_mo_begin_90 : decode b_mo_begin 90 = .ok (.getfield 124, 3) := by decide +kernel
theorem d_mo_begin_93 : decode b_mo_begin 93 = .ok (.invokevirtual 127, 3) := by decide +kernel
theorem d_mo_begin_96 : decode b_mo_begin 96 = .ok (.aload_n 0, 1) := by decide +kernel
theorem d_mo_begin_97 : decode b_mo_begin 97 = .ok (.aload_n 0, 1) := by decide +kernel
theorem d_mo_begin_98 : decode b_mo_begin 98 = .ok (.getfield 124, 3) := by decide +kernel
theorem d_mo_begin_101 : decode b_mo_begin 101 = .ok (.iconst 1, 1) := by decide +kernel
theorem d_mo_begin_102 : decode b_mo_begin 102 = .ok (.iadd, 1) := by decide +kernel
theorem d_mo_begin_103 : decode b_mo_begin 103 = .ok (.putfield 124, 3) := by decide +kernel
theorem d_mo_begin_106 : decode b_mo_begin 106 = .ok (.aload_n 0, 1) := by decide +kernel
theorem d_mo_begin_107 : decode b_mo_begin 107 = .ok (.aload_n 0, 1) := by decide +kernel
theorem d_mo_begin_108 : decode b_mo_begin 108 = .ok (.getfield 121, 3) := by decide +kernel
theorem d_mo_begin_111 : decode b_mo_begin 111 = .ok (.iconst 1, 1) := by decide +kernel
theorem d_mo_begin_112 : decode b_mo_begin 112 = .ok (.iadd, 1) := by decide +kernel
theorem d_mo_begin_113 : decode b_mo_begin 113 = .ok (.putfield 121, 3) := by decide +kernel
theorem d_mo_begin_116 : decode b_mo_begin 116 = .ok (.iconst 0, 1) := by decide +kernel
theorem d_mo_begin_117 : decode b_mo_begin 117 = .ok (.ireturn, 1) := by decide +kernel
theorem d_mo_begin_118 : decode b_mo_begin 118 = .ok (.aload_n 0, 1) := by decide +kernel
theorem d_mo_begin_119 : decode b_mo_begin 119 = .ok (.invokevirtual 130, 3) := by decide +kernel
theorem d_mo_begin_122 : decode b_mo_begin 122 = .ok (.ireturn, 1) := by decide +kernel
theorem d_mo_goOn_0 : decode b_mo_goOn 0 = .ok (.iconst 0, 1) := by decide +kernel
theorem d_mo_goOn_1 : decode b_mo_goOn 1 = .ok (.istore_n 1, 1) := by decide +kernel
theorem d_mo_goOn_2 : decode b_mo_goOn 2 = .ok (.iload_n 1, 1) := by decide +kernel
theorem d_mo_goOn_3 : decode b_mo_goOn 3 = .ok (.ifCond .ne 183, 3) := by decide +kernel
theorem d_mo_goOn_6 : decode b_mo_goOn 6 = .ok (.aload_n 0, 1) := by decide +kernel
theorem d_mo_goOn_7 : decode b_mo_goOn 7 = .ok (.getfield 103, 3) := by decide +kernel
theorem d_mo_goOn_10 : decode b_mo_goOn 10 = .ok (.ifCond .le 176, 3) := by decide +kernel
theorem d_mo_goOn_13 : decode b_mo_goOn 13 = .ok (.aload_n 0, 1) := by decide +kernel
theorem d_mo_goOn_14 : decode b_mo_goOn 14 = .ok (.getfield 32, 3) := by decide +kernel
theorem d_mo_goOn_17 : decode b_mo_goOn 17 = .ok (.aload_n 0, 1) := by decide +kernel
theorem d_mo_goOn_18 : decode b_mo_goOn 18 = .ok (.getfield 103, 3) := by decide +kernel
theorem d_mo_goOn_21 : decode b_mo_goOn 21 = .ok (.iaload, 1) := by decide +kernel
theorem d_mo_goOn_22 : decode b_mo_goOn 22 = .ok (.istore_n 2, 1) := by decide +kernel
theorem d_mo_goOn_23 : decode b_mo_goOn 23 = .ok (.aload_n 0, 1) := by decide +kernel
theorem d_mo_goOn_24 : decode b_mo_goOn 24 = .ok (.getfield 124, 3) := by decide +kernel
theorem d_mo_goOn_27 : decode b_mo_goOn 27 = .ok (.iload_n 2, 1) := by decide +kernel
theorem d_mo_goOn_28 : decode b_mo_goOn 28 = .ok (.isub, 1) := by decide +kernel
theorem d_mo_goOn_29 : decode b_mo_goOn 29 = .ok (.istore_n 3, 1) := by decide +kernel
theorem d_mo_goOn_30 : decode b_mo_goOn 30 = .ok (.aload_n 0, 1) := by decide +kernel
theorem d_mo_goOn_31 : decode b_mo_goOn 31 = .ok (.getfield 26, 3) := by decide +kernel
theorem d_mo_goOn_34 : decode b_mo_goOn 34 = .ok (.aload_n 0, 1) := by decide +kernel
theorem d_mo_goOn_35 : decode b_mo_goOn 35 = .ok (.getfield 103, 3) := by decide +kernel
theorem d_mo_goOn_38 : decode b_mo_goOn 38 = .ok (.iaload, 1) := by decide +kernel
theorem d_mo_goOn_39 : decode b_mo_goOn 39 = .ok (.bipush 63, 2) := by decide +kernel
theorem d_mo_goOn_41 : decode b_mo_goOn 41 = .ok (.if_icmp .ne 7, 3) := by decide +kernel
theorem d_mo_goOn_44 : decode b_mo_goOn 44 = .ok (.iconst 1, 1) := by decide +kernel
theorem d_mo_goOn_45 : decode b_mo_goOn 45 = .ok (.goto 4, 3) := by decide +kernel
theorem d_mo_goOn_48 : decode b_mo_goOn 48 = .ok (.iconst 0, 1) := by decide +kernel
theorem d_mo_goOn_49 : decode b_mo_goOn 49 = .ok (.istore 4, 2) := by decide +kernel
theorem d_mo_goOn_51 : decode b_mo_goOn 51 = .ok (.aload_n 0, 1) := by decide +kernel
theorem d_mo_goOn_52 : decode b_mo_goOn 52 = .ok (.aload_n 0, 1) := by decide +kernel
theorem d_mo_goOn_53 : decode b_mo_goOn 53 = .ok (.getfield 121, 3) := by decide +kernel
theorem d_mo_goOn_56 : decode b_mo_goOn 56 = .ok (.invokevirtual 96, 3) := by decide +kernel
theorem d_mo_goOn_59 : decode b_mo_goOn 59 = .ok (.bipush 41, 2) := by decide +kernel
theorem d_mo_goOn_61 : decode b_mo_goOn 61 = .ok (.if_icmp .ne 49, 3) := by decide +kernel
theorem d_mo_goOn_64 : decode b_mo_goOn 64 = .ok (.aload_n 0, 1) := by decide +kernel
theorem d_mo_goOn_65 : decode b_mo_goOn 65 = .ok (.aload_n 0, 1) := by decide +kernel
theorem d_mo_goOn_66 : decode b_mo_goOn 66 = .ok (.getfield 26, 3) := by decide +kernel
theorem d_mo_goOn_69 : decode b_mo_goOn 69 = .ok (.aload_n 0, 1) := by decide +kernel
theorem d_mo_goOn_70 : decode b_mo_goOn 70 = .ok (.getfield 103, 3) := by decide +kernel
theorem d_mo_goOn_73 : decode b_mo_goOn 73 = .ok (.iaload, 1) := by decide +kernel
theorem d_mo_goOn_74 : decode b_mo_goOn 74 = .ok (.iload_n 2, 1) := by decide +kernel
theorem d_mo_goOn_75 : decode b_mo_goOn 75 = .ok (.iload_n 3, 1) := by decide +kernel
theorem d_mo_goOn_76 : decode b_mo_goOn 76 = .ok (.invokevirtual 134, 3) := by decide +kernel
theorem d_mo_goOn_79 : decode b_mo_goOn 79 = .ok (.istore_n 1, 1) := by decide +kernel
theorem d_mo_goOn_80 : decode b_mo_goOn 80 = .ok (.aload_n 0, 1) := by decide +kernel
theorem d_mo_goOn_81 : decode b_mo_goOn 81 = .ok (.iload_n 2, 1) := by decide +kernel
theorem d_mo_goOn_82 : decode b_mo_goOn 82 = .ok (.iconst 1, 1) := by decide +kernel
theorem d_mo_goOn_83 : decode b_mo_goOn 83 = .ok (.iadd, 1) := by decide +kernel
theorem d_mo_goOn_84 : decode b_mo_goOn 84 = .ok (.putfield 124, 3) := by decide +kernel
theorem d_mo_goOn_87 : decode b_mo_goOn 87 = .ok (.aload_n 0, 1) := by decide +kernel
theorem d_mo_goOn_88 : decode b_mo_goOn 88 = .ok (.aload_n 0, 1) := by decide +kernel
theorem d_mo_goOn_89 : decode b_mo_goOn 89 = .ok (.getfield 103, 3) := by decide +kernel
theorem d_mo_goOn_92 : decode b_mo_goOn 92 = .ok (.iconst 1, 1) := by decide +kernel
theorem d_mo_goOn_93 : decode b_mo_goOn 93 = .ok (.isub, 1) := by decide +kernel
theorem d_mo_goOn_94 : decode b_mo_goOn 94 = .ok (.putfield 103, 3) := by decide +kernel
theorem d_mo_goOn_97 : decode b_mo_goOn 97 = .ok (.aload_n 0, 1) := by decide +kernel
theorem d_mo_goOn_98 : decode b_mo_goOn 98 = .ok (.aload_n 0, 1) := by decide +kernel
theorem d_mo_goOn_99 : decode b_mo_goOn 99 = .ok (.getfield 121, 3) := by decide +kernel
theorem d_mo_goOn_102 : decode b_mo_goOn 102 = .ok (.iconst 1, 1) := by decide +kernel
theorem d_mo_goOn_103 : decode b_mo_goOn 103 = .ok (.iadd, 1) := by decide +kernel
theorem d_mo_goOn_104 : decode b_mo_goOn 104 = .ok (.putfield 121, 3) := by decide +kernel
theorem d_mo_goOn_107 : decode b_mo_goOn 107 = .ok (.goto 76, 3) := by decide +kernel
theorem d_mo_goOn_110 : decode b_mo_goOn 110 = .ok (.iload 4, 2) := by decide +kernel
theorem d_mo_goOn_112 : decode b_mo_goOn 112 = .ok (.ifCond .eq 25, 3) := by decide +kernel
theorem d_mo_goOn_115 : decode b_mo_goOn 115 = .ok (.iload_n 3, 1) := by decide +kernel
theorem d_mo_goOn_116 : decode b_mo_goOn 116 = .ok (.iconst 2, 1) := by decide +kernel
theorem d_mo_goOn_117 : decode b_mo_goOn 117 = .ok (.if_icmp .ne 20, 3) := by decide +kernel
theorem d_mo_goOn_120 : decode b_mo_goOn 120 = .ok (.aload_n 0, 1) := by decide +kernel
theorem d_mo_goOn_121 : decode b_mo_goOn 121 = .ok (.aload_n 0, 1) := by decide +kernel
theorem d_mo_goOn_122 : decode b_mo_goOn 122 = .ok (.aload_n 0, 1) := by decide +kernel
theorem d_mo_goOn_123 : decode b_mo_goOn 123 = .ok (.getfield 121, 3) := by decide +kernel
theorem d_mo_goOn_126 : decode b_mo_goOn 126 = .ok (.iconst 1, 1) := by decide +kernel
theorem d_mo_goOn_127 : decode b_mo_goOn 127 = .ok (.iadd, 1) := by decide +kernel
theorem d_mo_goOn_128 : decode b_mo_goOn 128 = .ok (.invokevirtual 138, 3) := by decide +kernel
theorem d_mo_goOn_131 : decode b_mo_goOn 131 = .ok (.putfield 121, 3) := by decide +kernel
theorem d_mo_goOn_134 : decode b_mo_goOn 134 = .ok (.goto 49, 3) := by decide +kernel
theorem d_mo_goOn_137 : decode b_mo_goOn 137 = .ok (.aload_n 0, 1) := by decide +kernel
theorem d_mo_goOn_138 : decode b_mo_goOn 138 = .ok (.iload 4, 2) := by decide +kernel
theorem d_mo_goOn_140 : decode b_mo_goOn 140 = .ok (.ifCond .eq 32, 3) := by decide +kernel
theorem d_mo_goOn_143 : decode b_mo_goOn 143 = .ok (.iload_n 3, 1) := by decide +kernel
theorem d_mo_goOn_144 : decode b_mo_goOn 144 = .ok (.iconst 1, 1) := by decide +kernel
theorem d_mo_goOn_145 : decode b_mo_goOn 145 = .ok (.if_icmp .ne 27, 3) := by decide +kernel
theorem d_mo_goOn_148 : decode b_mo_goOn 148 = .ok (.aload_n 0, 1) := by decide +kernel
theorem d_mo_goOn_149 : decode b_mo_goOn 149 = .ok (.getfield 23, 3) := by decide +kernel
theorem d_mo_goOn_152 : decode b_mo_goOn 152 = .ok (.iload_n 2, 1) := by decide +kernel
theorem d_mo_goOn_153 : decode b_mo_goOn 153 = .ok (.iaload, 1) := by decide +kernel
theorem d_mo_goOn_154 : decode b_mo_goOn 154 = .ok (.ifCond .ne 18, 3) := by decide +kernel
theorem d_mo_goOn_157 : decode b_mo_goOn 157 = .ok (.aload_n 0, 1) := by decide +kernel
theorem d_mo_goOn_158 : decode b_mo_goOn 158 = .ok (.aload_n 0, 1) := by decide +kernel
theorem d_mo_goOn_159 : decode b_mo_goOn 159 = .ok (.getfield 121, 3) := by decide +kernel
theorem d_mo_goOn_162 : decode b_mo_goOn 162 = .ok (.iconst 1, 1) := by decide +kernel
theorem d_mo_goOn_163 : decode b_mo_goOn 163 = .ok (.iadd, 1) := by decide +kernel
theorem d_mo_goOn_164 : decode b_mo_goOn 164 = .ok (.invokevirtual 138, 3) := by decide +kernel
theorem d_mo_goOn_167 : decode b_mo_goOn 167 = .ok (.iconst 1, 1) := by decide +kernel
theorem d_mo_goOn_168 : decode b_mo_goOn 168 = .ok (.iadd, 1) := by decide +kernel
theorem d_mo_goOn_169 : decode b_mo_goOn 169 = .ok (.goto 9, 3) := by decide +kernel
theorem d_mo_goOn_172 : decode b_mo_goOn 172 = .ok (.aload_n 0, 1) := by decide +kernel
theorem d_mo_goOn_173 : decode b_mo_goOn 173 = .ok (.getfield 121, 3) := by decide +kernel
theorem d_mo_goOn_176 : decode b_mo_goOn 176 = .ok (.iconst 1, 1) := by decide +kernel
theorem d_mo_goOn_177 : decode b_mo_goOn 177 = .ok (.iadd, 1) := by decide +kernel
theorem d_mo_goOn_178 : decode b_mo_goOn 178 = .ok (.putfield 121, 3) := by decide +kernel
theorem d_mo_goOn_181 : decode b_mo_goOn 181 = .ok (.iconst 0, 1) := by decide +kernel
theorem d_mo_goOn_182 : decode b_mo_goOn 182 = .ok (.ireturn, 1) := by decide +kernel
theorem d_mo_goOn_183 : decode b_mo_goOn 183 = .ok (.goto (-181), 3) := by decide +kernel
theorem d_mo_goOn_186 : decode b_mo_goOn 186 = .ok (.iload_n 1, 1) := by decide +kernel
theorem d_mo_goOn_187 : decode b_mo_goOn 187 = .ok (.ireturn, 1) := by decide +kernel
theorem d_mo_workOut_0 : decode b_mo_workOut 0 = .ok (.aload_n 0, 1) := by decide +kernel
theorem d_mo_workOut_1 : decode b_mo_workOut 1 = .ok (.iconst 0, 1) := by decide +kernel
theorem d_mo_workOut_2 : decode b_mo_workOut 2 = .ok (.putfield 103, 3) := by decide +kernel
theorem d_mo_workOut_5 : decode b_mo_workOut 5 = .ok (.aload_n 0, 1) := by decide +kernel
theorem d_mo_workOut_6 : decode b_mo_workOut 6 = .ok (.iconst 0, 1) := by decide +kernel
theorem d_mo_workOut_7 : decode b_mo_workOut 7 = .ok (.putfield 124, 3) := by decide +kernel
theorem d_mo_workOut_10 : decode b_mo_workOut 10 = .ok (.aload_n 0, 1) := by decide +kernel
theorem d_mo_workOut_11 : decode b_mo_workOut 11 = .ok (.iconst 0, 1) := by decide +kernel
theorem d_mo_workOut_12 : decode b_mo_workOut 12 = .ok (.putfield 121, 3) := by decide +kernel
theorem d_mo_workOut_15 : decode b_mo_workOut 15 = .ok (.iconst 0, 1) := by decide +kernel
theorem d_mo_workOut_16 : decode b_mo_workOut 16 = .ok (.istore_n 1, 1) := by decide +kernel
theorem d_mo_workOut_17 : decode b_mo_workOut 17 = .ok (.iload_n 1, 1) := by decide +kernel
theorem d_mo_workOut_18 : decode b_mo_workOut 18 = .ok (.ifCond .ne 35, 3) := by decide +kernel
theorem d_mo_workOut_21 : decode b_mo_workOut 21 = .ok (.aload_n 0, 1) := by decide +kernel
theorem d_mo_workOut_22 : decode b_mo_workOut 22 = .ok (.getfield 121, 3) := by decide +kernel
theorem d_mo_workOut_25 : decode b_mo_workOut 25 = .ok (.aload_n 0, 1) := by decide +kernel
theorem d_mo_workOut_26 : decode b_mo_workOut 26 = .ok (.getfield 93, 3) := by decide +kernel
theorem d_mo_workOut_29 : decode b_mo_workOut 29 = .ok (.if_icmp .ge 24, 3) := by decide +kernel
theorem d_mo_workOut_32 : decode b_mo_workOut 32 = .ok (.aload_n 0, 1) := by decide +kernel
theorem d_mo_workOut_33 : decode b_mo_workOut 33 = .ok (.invokevirtual 141, 3) := by decide +kernel
theorem d_mo_workOut_36 : decode b_mo_workOut 36 = .ok (.istore_n 1, 1) := by decide +kernel
theorem d_mo_workOut_37 : decode b_mo_workOut 37 = .ok (.iload_n 1, 1) := by decide +kernel
theorem d_mo_workOut_38 : decode b_mo_workOut 38 = .ok (.ifCond .le 7, 3) := by decide +kernel
theorem d_mo_workOut_41 : decode b_mo_workOut 41 = .ok (.iload_n 1, 1) := by decide +kernel
theorem d_mo_workOut_42 : decode b_mo_workOut 42 = .ok (.goto 7, 3) := by decide +kernel
theorem d_mo_workOut_45 : decode b_mo_workOut 45 = .ok (.aload_n 0, 1) := by decide +kernel
theorem d_mo_workOut_46 : decode b_mo_workOut 46 = .ok (.invokevirtual 144, 3) := by decide +kernel
theorem d_mo_workOut_49 : decode b_mo_workOut 49 = .ok (.istore_n 1, 1) := by decide +kernel
theorem d_mo_workOut_50 : decode b_mo_workOut 50 = .ok (.goto (-33), 3) := by decide +kernel
theorem d_mo_workOut_53 : decode b_mo_workOut 53 = .ok (.iload_n 1, 1) := by decide +kernel
theorem d_mo_workOut_54 : decode b_mo_workOut 54 = .ok (.ireturn, 1) := by decide +kernel
theorem d_mo_apply_0 : decode b_mo_apply 0 = .ok (.iload_n 1, 1) := by decide +kernel
theorem d_mo_apply_1 : decode b_mo_apply 1 = .ok (.lookupswitch 239 #[(42, 109), (43, 99), (45, 119), (47, 119), (63, 229), (94, 180), (100, 198), (103, 173), (110, 186), (113, 156), (114, 156)], 99) := by decide +kernel
theorem d_mo_apply_100 : decode b_mo_apply 100 = .ok (.aload_n 0, 1) := by decide +kernel
theorem d_mo_apply_101 : decode b_mo_apply 101 = .ok (.iload_n 2, 1) := by decide +kernel
theorem d_mo_apply_102 : decode b_mo_apply 102 = .ok (.iload_n 3, 1) := by decide +kernel
theorem d_mo_apply_103 : decode b_mo_apply 103 = .ok (.iconst 0, 1) := by decide +kernel
theorem d_mo_apply_104 : decode b_mo_apply 104 = .ok (.iconst 0, 1) := by decide +kernel
theorem d_mo_apply_105 : decode b_mo_apply 105 = .ok (.iload_n 1, 1) := by decide +kernel
theorem d_mo_apply_106 : decode b_mo_apply 106 = .ok (.invokevirtual 147, 3) := by decide +kernel
theorem d_mo_apply_109 : decode b_mo_apply 109 = .ok (.ireturn, 1) := by decide +kernel
theorem d_mo_apply_110 : decode b_mo_apply 110 = .ok (.aload_n 0, 1) := by decide +kernel
theorem d_mo_apply_111 : decode b_mo_apply 111 = .ok (.iload_n 2, 1) := by decide +kernel
theorem d_mo_apply_112 : decode b_mo_apply 112 = .ok (.iload_n 3, 1) := by decide +kernel
theorem d_mo_apply_113 : decode b_mo_apply 113 = .ok (.iconst 0, 1) := by decide +kernel
theorem d_mo_apply_114 : decode b_mo_apply 114 = .ok (.iconst 1, 1) := by decide +kernel
theorem d_mo_apply_115 : decode b_mo_apply 115 = .ok (.iload_n 1, 1) := by decide +kernel
theorem d_mo_apply_116 : decode b_mo_apply 116 = .ok (.invokevirtual 147, 3) := by decide +kernel
theorem d_mo_apply_119 : decode b_mo_apply 119 = .ok (.ireturn, 1) := by decide +kernel
theorem d_mo_apply_120 : decode b_mo_apply 120 = .ok (.iload_n 3, 1) := by decide +kernel
theorem d_mo_apply_121 : decode b_mo_apply 121 = .ok (.iconst 1, 1) := by decide +kernel
theorem d_mo_apply_122 : decode b_mo_apply 122 = .ok (.if_icmp .ne 25, 3) := by decide +kernel
theorem d_mo_apply_125 : decode b_mo_apply 125 = .ok (.aload_n 0, 1) := by decide +kernel
theorem d_mo_apply_126 : decode b_mo_apply 126 = .ok (.iload_n 2, 1) := by decide +kernel
theorem d_mo_apply_127 : decode b_mo_apply 127 = .ok (.iconst 1, 1) := by decide +kernel
theorem d_mo_apply_128 : decode b_mo_apply 128 = .ok (.iconst 0, 1) := by decide +kernel
theorem d_mo_apply_129 : decode b_mo_apply 129 = .ok (.iload_n 1, 1) := by decide +kernel
theorem d_mo_apply_130 : decode b_mo_apply 130 = .ok (.bipush 45, 2) := by decide +kernel
theorem d_mo_apply_132 : decode b_mo_apply 132 = .ok (.if_icmp .ne 7, 3) := by decide +kernel
theorem d_mo_apply_135 : decode b_mo_apply 135 = .ok (.iconst 0, 1) := by decide +kernel
theorem d_mo_apply_136 : decode b_mo_apply 136 = .ok (.goto 4, 3) := by decide +kernel
theorem d_mo_apply_139 : decode b_mo_apply 139 = .ok (.iconst 1, 1) := by decide +kernel
theorem d_mo_apply_140 : decode b_mo_apply 140 = .ok (.iload_n 1, 1) := by decide +kernel
theorem d_mo_apply_141 : decode b_mo_apply 141 = .ok (.invokevirtual 147, 3) := by decide +kernel
theorem d_mo_apply_144 : decode b_mo_apply 144 = .ok (.goto 12, 3) := by decide +kernel
theorem d_mo_apply_147 : decode b_mo_apply 147 = .ok (.aload_n 0, 1) := by decide +kernel
theorem d_mo_apply_148 : decode b_mo_apply 148 = .ok (.iload_n 2, 1) := by decide +kernel
theorem d_mo_apply_149 : decode b_mo_apply 149 = .ok (.iload_n 3, 1) := by decide +kernel
theorem d_mo_apply_150 : decode b_mo_apply 150 = .ok (.iconst 1, 1) := by decide +kernel
theorem d_mo_apply_151 : decode b_mo_apply 151 = .ok (.iconst 0, 1) := by decide +kernel
theorem d_mo_apply_152 : decode b_mo_apply 152 = .ok (.iload_n 1, 1) := by decide +kernel
theorem d_mo_apply_153 : decode b_mo_apply 153 = .ok (.invokevirtual 147, 3) := by decide +kernel
theorem d_mo_apply_156 : decode b_mo_apply 156 = .ok (.ireturn, 1) := by decide +kernel
theorem d_mo_apply_157 : decode b_mo_apply 157 = .ok (.aload_n 0, 1) := by decide +kernel
theorem d_mo_apply_158 : decode b_mo_apply 158 = .ok (.iload_n 2, 1) := by decide +kernel
theorem d_mo_apply_159 : decode b_mo_apply 159 = .ok (.iload_n 1, 1) := by decide +kernel
theorem d_mo_apply_160 : decode b_mo_apply 160 = .ok (.bipush 113, 2) := by decide +kernel
theorem d_mo_apply_162 : decode b_mo_apply 162 = .ok (.if_icmp .ne 7, 3) := by decide +kernel
theorem d_mo_apply_165 : decode b_mo_apply 165 = .ok (.iconst 1, 1) := by decide +kernel
theorem d_mo_apply_166 : decode b_mo_apply 166 = .ok (.goto 4, 3) := by decide +kernel
theorem d_mo_apply_169 : decode b_mo_apply 169 = .ok (.iconst 0, 1) := by decide +kernel
theorem d_mo_apply_170 : decode b_mo_apply 170 = .ok (.invokevirtual 151, 3) := by decide +kernel
theorem d_mo_apply_173 : decode b_mo_apply 173 = .ok (.ireturn, 1) := by decide +kernel
theorem d_mo_apply_174 : decode b_mo_apply 174 = .ok (.aload_n 0, 1) := by decide +kernel
theorem d_mo_apply_175 : decode b_mo_apply 175 = .ok (.iload_n 2, 1) := by decide +kernel
theorem d_mo_apply_176 : decode b_mo_apply 176 = .ok (.iload_n 3, 1) := by decide +kernel
theorem d_mo_apply_177 : decode b_mo_apply 177 = .ok (.invokevirtual 155, 3) := by decide +kernel
theorem d_mo_apply_180 : decode b_mo_apply 180 = .ok (.ireturn, 1) := by decide +kernel
theorem d_mo_apply_181 : decode b_mo_apply 181 = .ok (.aload_n 0, 1) := by decide +kernel
theorem d_mo_apply_182 : decode b_mo_apply 182 = .ok (.iload_n 2, 1) := by decide +kernel
theorem d_mo_apply_183 : decode b_mo_apply 183 = .ok (.invokevirtual 158, 3) := by decide +kernel
theorem d_mo_apply_186 : decode b_mo_apply 186 = .ok (.ireturn, 1) := by decide +kernel
theorem d_mo_apply_187 : decode b_mo_apply 187 = .ok (.aload_n 0, 1) := by decide +kernel
theorem d_mo_apply_188 : decode b_mo_apply 188 = .ok (.iconst 2, 1) := by decide +kernel
theorem d_mo_apply_189 : decode b_mo_apply 189 = .ok (.iload_n 2, 1) := by decide +kernel
theorem d_mo_apply_190 : decode b_mo_apply 190 = .ok (.imul, 1) := by decide +kernel
theorem d_mo_apply_191 : decode b_mo_apply 191 = .ok (.iconst 1, 1) := by decide +kernel
theorem d_mo_apply_192 : decode b_mo_apply 192 = .ok (.iadd, 1) := by decide +kernel
theorem d_mo_apply_193 : decode b_mo_apply 193 = .ok (.iconst 1, 1) := by decide +kernel
theorem d_mo_apply_194 : decode b_mo_apply 194 = .ok (.invokevirtual 35, 3) := by decide +kernel
theorem d_mo_apply_197 : decode b_mo_apply 197 = .ok (.iconst 0, 1) := by decide +kernel
theorem d_mo_apply_198 : decode b_mo_apply 198 = .ok (.ireturn, 1) := by decide +kernel
theorem d_mo_apply_199 : decode b_mo_apply 199 = .ok (.aload_n 0, 1) := by decide +kernel
theorem d_mo_apply_200 : decode b_mo_apply 200 = .ok (.iconst 2, 1) := by decide +kernel
theorem d_mo_apply_201 : decode b_mo_apply 201 = .ok (.iload_n 2, 1) := by decide +kernel
theorem d_mo_apply_202 : decode b_mo_apply 202 = .ok (.imul, 1) := by decide +kernel
theorem d_mo_apply_203 : decode b_mo_apply 203 = .ok (.iconst 1, 1) := by decide +kernel
theorem d_mo_apply_204 : decode b_mo_apply 204 = .ok (.iadd, 1) := by decide +kernel
theorem d_mo_apply_205 : decode b_mo_apply 205 = .ok (.iconst 2, 1) := by decide +kernel
theorem d_mo_apply_206 : decode b_mo_apply 206 = .ok (.iload_n 2, 1) := by decide +kernel
theorem d_mo_apply_207 : decode b_mo_apply 207 = .ok (.imul, 1) := by decide +kernel
theorem d_mo_apply_208 : decode b_mo_apply 208 = .ok (.invokevirtual 62, 3) := by decide +kernel
theorem d_mo_apply_211 : decode b_mo_apply 211 = .ok (.aload_n 0, 1) := by decide +kernel
theorem d_mo_apply_212 : decode b_mo_apply 212 = .ok (.iconst 2, 1) := by decide +kernel
theorem d_mo_apply_213 : decode b_mo_apply 213 = .ok (.iload_n 2, 1) := by decide +kernel
theorem d_mo_apply_214 : decode b_mo_apply 214 = .ok (.imul, 1) := by decide +kernel
theorem d_mo_apply_215 : decode b_mo_apply 215 = .ok (.iconst 1, 1) := by decide +kernel
theorem d_mo_apply_216 : decode b_mo_apply 216 = .ok (.iadd, 1) := by decide +kernel
theorem d_mo_apply_217 : decode b_mo_apply 217 = .ok (.iconst 1, 1) := by decide +kernel
theorem d_mo_apply_218 : decode b_mo_apply 218 = .ok (.invokevirtual 35, 3) := by decide +kernel
theorem d_mo_apply_221 : decode b_mo_apply 221 = .ok (.aload_n 0, 1) := by decide +kernel
theorem d_mo_apply_222 : decode b_mo_apply 222 = .ok (.getfield 23, 3) := by decide +kernel
theorem d_mo_apply_225 : decode b_mo_apply 225 = .ok (.iload_n 2, 1) := by decide +kernel
theorem d_mo_apply_226 : decode b_mo_apply 226 = .ok (.iconst 1, 1) := by decide +kernel
theorem d_mo_apply_227 : decode b_mo_apply 227 = .ok (.iastore, 1) := by decide +kernel
theorem d_mo_apply_228 : decode b_mo_apply 228 = .ok (.iconst 0, 1) := by decide +kernel
theorem d_mo_apply_229 : decode b_mo_apply 229 = .ok (.ireturn, 1) := by decide +kernel
theorem d_mo_apply_230 : decode b_mo_apply 230 = .ok (.aload_n 0, 1) := by decide +kernel
theorem d_mo_apply_231 : decode b_mo_apply 231 = .ok (.iload_n 2, 1) := by decide +kernel
theorem d_mo_apply_232 : decode b_mo_apply 232 = .ok (.iconst 1, 1) := by decide +kernel
theorem d_mo_apply_233 : decode b_mo_apply 233 = .ok (.iadd, 1) := by decide +kernel
theorem d_mo_apply_234 : decode b_mo_apply 234 = .ok (.iload_n 2, 1) := by decide +kernel
theorem d_mo_apply_235 : decode b_mo_apply 235 = .ok (.invokevirtual 127, 3) := by decide +kernel
theorem d_mo_apply_238 : decode b_mo_apply 238 = .ok (.iconst 0, 1) := by decide +kernel
theorem d_mo_apply_239 : decode b_mo_apply 239 = .ok (.ireturn, 1) := by decide +kernel
theorem d_mo_apply_240 : decode b_mo_apply 240 = .ok (.aload_n 0, 1) := by decide +kernel
theorem d_mo_apply_241 : decode b_mo_apply 241 = .ok (.iload_n 2, 1) := by decide +kernel
theorem d_mo_apply_242 : decode b_mo_apply 242 = .ok (.iload_n 2, 1) := by decide +kernel
theorem d_mo_apply_243 : decode b_mo_apply 243 = .ok (.iconst 1, 1) := by decide +kernel
theorem d_mo_apply_244 : decode b_mo_apply 244 = .ok (.iadd, 1) := by decide +kernel
theorem d_mo_apply_245 : decode b_mo_apply 245 = .ok (.invokevirtual 161, 3) := by decide +kernel
theorem d_mo_apply_248 : decode b_mo_apply 248 = .ok (.istore 4, 2) := by decide +kernel
theorem d_mo_apply_250 : decode b_mo_apply 250 = .ok (.aload_n 0, 1) := by decide +kernel
theorem d_mo_apply_251 : decode b_mo_apply 251 = .ok (.iload_n 2, 1) := by decide +kernel
theorem d_mo_apply_252 : decode b_mo_apply 252 = .ok (.iload_n 1, 1) := by decide +kernel
theorem d_mo_apply_253 : decode b_mo_apply 253 = .ok (.bipush 60, 2) := by decide +kernel
theorem d_mo_apply_255 : decode b_mo_apply 255 = .ok (.if_icmp .ne 16, 3) := by decide +kernel
theorem d_mo_apply_258 : decode b_mo_apply 258 = .ok (.iload 4, 2) := by decide +kernel
theorem d_mo_apply_260 : decode b_mo_apply 260 = .ok (.ifCond .ge 7, 3) := by decide +kernel
theorem d_mo_apply_263 : decode b_mo_apply 263 = .ok (.iconst 1, 1) := by decide +kernel
theorem d_mo_apply_264 : decode b_mo_apply 264 = .ok (.goto 17, 3) := by decide +kernel
theorem d_mo_apply_267 : decode b_mo_apply 267 = .ok (.iconst 0, 1) := by decide +kernel
theorem d_mo_apply_268 : decode b_mo_apply 268 = .ok (.goto 13, 3) := by decide +kernel
theorem d_mo_apply_271 : decode b_mo_apply 271 = .ok (.iload 4, 2) := by decide +kernel
theorem d_mo_apply_273 : decode b_mo_apply 273 = .ok (.ifCond .ne 7, 3) := by decide +kernel
theorem d_mo_apply_276 : decode b_mo_apply 276 = .ok (.iconst 1, 1) := by decide +kernel
theorem d_mo_apply_277 : decode b_mo_apply 277 = .ok (.goto 4, 3) := by decide +kernel
theorem d_mo_apply_280 : decode b_mo_apply 280 = .ok (.iconst 0, 1) := by decide +kernel
theorem d_mo_apply_281 : decode b_mo_apply 281 = .ok (.invokevirtual 164, 3) := by decide +kernel
theorem d_mo_apply_284 : decode b_mo_apply 284 = .ok (.iconst 0, 1) := by decide +kernel
theorem d_mo_apply_285 : decode b_mo_apply 285 = .ok (.ireturn, 1) := by decide +kernel
theorem d_mo_chain_0 : decode b_mo_chain 0 = .ok (.aload_n 0, 1) := by decide +kernel
theorem d_mo_chain_1 : decode b_mo_chain 1 = .ok (.bipush 73, 2) := by decide +kernel
theorem d_mo_chain_3 : decode b_mo_chain 3 = .ok (.iload 4, 2) := by decide +kernel
theorem d_mo_chain_5 : decode b_mo_chain 5 = .ok (.invokevirtual 164, 3) := by decide +kernel
theorem d_mo_chain_8 : decode b_mo_chain 8 = .ok (.iload_n 3, 1) := by decide +kernel
theorem d_mo_chain_9 : decode b_mo_chain 9 = .ok (.iconst 1, 1) := by decide +kernel
theorem d_mo_chain_10 : decode b_mo_chain 10 = .ok (.if_icmp .ne 10, 3) := by decide +kernel
theorem d_mo_chain_13 : decode b_mo_chain 13 = .ok (.aload_n 0, 1) := by decide +kernel
theorem d_mo_chain_14 : decode b_mo_chain 14 = .ok (.iload_n 1, 1) := by decide +kernel
theorem d_mo_chain_15 : decode b_mo_chain 15 = .ok (.bipush 73, 2) := by decide +kernel
theorem d_mo_chain_17 : decode b_mo_chain 17 = .ok (.invokevirtual 127, 3) := by decide +kernel
theorem d_mo_chain_20 : decode b_mo_chain 20 = .ok (.iconst 0, 1) := by decide +kernel
theorem d_mo_chain_21 : decode b_mo_chain 21 = .ok (.istore 6, 2) := by decide +kernel
theorem d_mo_chain_23 : decode b_mo_chain 23 = .ok (.iload_n 3, 1) := by decide +kernel
theorem d_mo_chain_24 : decode b_mo_chain 24 = .ok (.istore 7, 2) := by decide +kernel
theorem d_mo_chain_26 : decode b_mo_chain 26 = .ok (.iload 7, 2) := by decide +kernel
theorem d_mo_chain_28 : decode b_mo_chain 28 = .ok (.iload_n 2, 1) := by decide +kernel
theorem d_mo_chain_29 : decode b_mo_chain 29 = .ok (.if_icmp .ge 86, 3) := by decide +kernel
theorem d_mo_chain_32 : decode b_mo_chain 32 = .ok (.iload 6, 2) := by decide +kernel
theorem d_mo_chain_34 : decode b_mo_chain 34 = .ok (.ifCond .ne 81, 3) := by decide +kernel
theorem d_mo_chain_37 : decode b_mo_chain 37 = .ok (.iload_n 1, 1) := by decide +kernel
theorem d_mo_chain_38 : decode b_mo_chain 38 = .ok (.iload 7, 2) := by decide +kernel
theorem d_mo_chain_40 : decode b_mo_chain 40 = .ok (.iadd, 1) := by decide +kernel
theorem d_mo_chain_41 : decode b_mo_chain 41 = .ok (.istore 8, 2) := by decide +kernel
theorem d_mo_chain_43 : decode b_mo_chain 43 = .ok (.iload 5, 2) := by decide +kernel
theorem d_mo_chain_45 : decode b_mo_chain 45 = .ok (.bipush 43, 2) := by decide +kernel
theorem d_mo_chain_47 : decode b_mo_chain 47 = .ok (.if_icmp .ne 15, 3) := by decide +kernel
theorem d_mo_chain_50 : decode b_mo_chain 50 = .ok (.aload_n 0, 1) := by decide +kernel
theorem d_mo_chain_51 : decode b_mo_chain 51 = .ok (.bipush 73, 2) := by decide +kernel
theorem d_mo_chain_53 : decode b_mo_chain 53 = .ok (.iload 8, 2) := by decide +kernel
theorem d_mo_chain_55 : decode b_mo_chain 55 = .ok (.iconst 1, 1) := by decide +kernel
theorem d_mo_chain_56 : decode b_mo_chain 56 = .ok (.invokevirtual 167, 3) := by decide +kernel
theorem d_mo_chain_59 : decode b_mo_chain 59 = .ok (.goto 48, 3) := by decide +kernel
theorem d_mo_chain_62 : decode b_mo_chain 62 = .ok (.iload 5, 2) := by decide +kernel
theorem d_mo_chain_64 : decode b_mo_chain 64 = .ok (.bipush 45, 2) := by decide +kernel
theorem d_mo_chain_66 : decode b_mo_chain 66 = .ok (.if_icmp .ne 15, 3) := by decide +kernel
theorem d_mo_chain_69 : decode b_mo_chain 69 = .ok (.aload_n 0, 1) := by decide +kernel
theorem d_mo_chain_70 : decode b_mo_chain 70 = .ok (.bipush 73, 2) := by decide +kernel
theorem d_mo_chain_72 : decode b_mo_chain 72 = .ok (.iload 8, 2) := by decide +kernel
theorem d_mo_chain_74 : decode b_mo_chain 74 = .ok (.iconst (-1), 1) := by decide +kernel
theorem d_mo_chain_75 : decode b_mo_chain 75 = .ok (.invokevirtual 167, 3) := by decide +kernel
theorem d_mo_chain_78 : decode b_mo_chain 78 = .ok (.goto 29, 3) := by decide +kernel
theorem d_mo_chain_81 : decode b_mo_chain 81 = .ok (.iload 5, 2) := by decide +kernel
theorem d_mo_chain_83 : decode b_mo_chain 83 = .ok (.bipush 42, 2) := by decide +kernel
theorem d_mo_chain_85 : decode b_mo_chain 85 = .ok (.if_icmp .ne 14, 3) := by decide +kernel
theorem d_mo_chain_88 : decode b_mo_chain 88 = .ok (.aload_n 0, 1) := by decide +kernel
theorem d_mo_chain_89 : decode b_mo_chain 89 = .ok (.bipush 73, 2) := by decide +kernel
theorem d_mo_chain_91 : decode b_mo_chain 91 = .ok (.iload 8, 2) := by decide +kernel
theorem d_mo_chain_93 : decode b_mo_chain 93 = .ok (.invokevirtual 170, 3) := by decide +kernel
theorem d_mo_chain_96 : decode b_mo_chain 96 = .ok (.goto 11, 3) := by decide +kernel
theorem d_mo_chain_99 : decode b_mo_chain 99 = .ok (.aload_n 0, 1) := by decide +kernel
theorem d_mo_chain_100 : decode b_mo_chain 100 = .ok (.bipush 73, 2) := by decide +kernel
theorem d_mo_chain_102 : decode b_mo_chain 102 = .ok (.iload 8, 2) := by decide +kernel
theorem d_mo_chain_104 : decode b_mo_chain 104 = .ok (.invokevirtual 173, 3) := by decide +kernel
theorem d_mo_chain_107 : decode b_mo_chain 107 = .ok (.istore 6, 2) := by decide +kernel
theorem d_mo_chain_109 : decode b_mo_chain 109 = .ok (.iinc 7 1, 3) := by decide +kernel
theorem d_mo_chain_112 : decode b_mo_chain 112 = .ok (.goto (-86), 3) := by decide +kernel
theorem d_mo_chain_115 : decode b_mo_chain 115 = .ok (.aload_n 0, 1) := by decide +kernel
theorem d_mo_chain_116 : decode b_mo_chain 116 = .ok (.bipush 73, 2) := by decide +kernel
theorem d_mo_chain_118 : decode b_mo_chain 118 = .ok (.iload_n 1, 1) := by decide +kernel
theorem d_mo_chain_119 : decode b_mo_chain 119 = .ok (.invokevirtual 127, 3) := by decide +kernel
theorem d_mo_chain_122 : decode b_mo_chain 122 = .ok (.iload 6, 2) := by decide +kernel
theorem d_mo_chain_124 : decode b_mo_chain 124 = .ok (.ireturn, 1) := by decide +kernel
theorem d_mo_quotient_0 : decode b_mo_quotient 0 = .ok (.aload_n 0, 1) := by decide +kernel
theorem d_mo_quotient_1 : decode b_mo_quotient 1 = .ok (.iload_n 1, 1) := by decide +kernel
theorem d_mo_quotient_2 : decode b_mo_quotient 2 = .ok (.invokevirtual 88, 3) := by decide +kernel
theorem d_mo_quotient_5 : decode b_mo_quotient 5 = .ok (.ifCond .eq 13, 3) := by decide +kernel
theorem d_mo_quotient_8 : decode b_mo_quotient 8 = .ok (.aload_n 0, 1) := by decide +kernel
theorem d_mo_quotient_9 : decode b_mo_quotient 9 = .ok (.iload_n 1, 1) := by decide +kernel
theorem d_mo_quotient_10 : decode b_mo_quotient 10 = .ok (.iconst 1, 1) := by decide +kernel
theorem d_mo_quotient_11 : decode b_mo_quotient 11 = .ok (.iadd, 1) := by decide +kernel
theorem d_mo_quotient_12 : decode b_mo_quotient 12 = .ok (.invokevirtual 88, 3) := by decide +kernel
theorem d_mo_quotient_15 : decode b_mo_quotient 15 = .ok (.ifCond .ne 5, 3) := by decide +kernel
theorem d_mo_quotient_18 : decode b_mo_quotient 18 = .ok (.iconst 3, 1) := by decide +kernel
theorem d_mo_quotient_19 : decode b_mo_quotient 19 = .ok (.ireturn, 1) := by decide +kernel
theorem d_mo_quotient_20 : decode b_mo_quotient 20 = .ok (.aload_n 0, 1) := by decide +kernel
theorem d_mo_quotient_21 : decode b_mo_quotient 21 = .ok (.getfield 23, 3) := by decide +kernel
theorem d_mo_quotient_24 : decode b_mo_quotient 24 = .ok (.iload_n 1, 1) := by decide +kernel
theorem d_mo_quotient_25 : decode b_mo_quotient 25 = .ok (.iconst 1, 1) := by decide +kernel
theorem d_mo_quotient_26 : decode b_mo_quotient 26 = .ok (.iadd, 1) := by decide +kernel
theorem d_mo_quotient_27 : decode b_mo_quotient 27 = .ok (.iaload, 1) := by decide +kernel
theorem d_mo_quotient_28 : decode b_mo_quotient 28 = .ok (.ifCond .ne 5, 3) := by decide +kernel
theorem d_mo_quotient_31 : decode b_mo_quotient 31 = .ok (.iconst 2, 1) := by decide +kernel
theorem d_mo_quotient_32 : decode b_mo_quotient 32 = .ok (.ireturn, 1) := by decide +kernel
theorem d_mo_quotient_33 : decode b_mo_quotient 33 = .ok (.aload_n 0, 1) := by decide +kernel
theorem d_mo_quotient_34 : decode b_mo_quotient 34 = .ok (.getfield 23, 3) := by decide +kernel
theorem d_mo_quotient_37 : decode b_mo_quotient 37 = .ok (.iload_n 1, 1) := by decide +kernel
theorem d_mo_quotient_38 : decode b_mo_quotient 38 = .ok (.iaload, 1) := by decide +kernel
theorem d_mo_quotient_39 : decode b_mo_quotient 39 = .ok (.istore_n 3, 1) := by decide +kernel
theorem d_mo_quotient_40 : decode b_mo_quotient 40 = .ok (.iload_n 3, 1) := by decide +kernel
theorem d_mo_quotient_41 : decode b_mo_quotient 41 = .ok (.aload_n 0, 1) := by decide +kernel
theorem d_mo_quotient_42 : decode b_mo_quotient 42 = .ok (.getfield 23, 3) := by decide +kernel
theorem d_mo_quotient_45 : decode b_mo_quotient 45 = .ok (.iload_n 1, 1) := by decide +kernel
theorem d_mo_quotient_46 : decode b_mo_quotient 46 = .ok (.iconst 1, 1) := by decide +kernel
theorem d_mo_quotient_47 : decode b_mo_quotient 47 = .ok (.iadd, 1) := by decide +kernel
theorem d_mo_quotient_48 : decode b_mo_quotient 48 = .ok (.iaload, 1) := by decide +kernel
theorem d_mo_quotient_49 : decode b_mo_quotient 49 = .ok (.imul, 1) := by decide +kernel
theorem d_mo_quotient_50 : decode b_mo_quotient 50 = .ok (.istore 4, 2) := by decide +kernel
theorem d_mo_quotient_52 : decode b_mo_quotient 52 = .ok (.aload_n 0, 1) := by decide +kernel
theorem d_mo_quotient_53 : decode b_mo_quotient 53 = .ok (.iconst 2, 1) := by decide +kernel
theorem d_mo_quotient_54 : decode b_mo_quotient 54 = .ok (.iload_n 1, 1) := by decide +kernel
theorem d_mo_quotient_55 : decode b_mo_quotient 55 = .ok (.imul, 1) := by decide +kernel
theorem d_mo_quotient_56 : decode b_mo_quotient 56 = .ok (.iconst 2, 1) := by decide +kernel
theorem d_mo_quotient_57 : decode b_mo_quotient 57 = .ok (.iload_n 1, 1) := by decide +kernel
theorem d_mo_quotient_58 : decode b_mo_quotient 58 = .ok (.imul, 1) := by decide +kernel
theorem d_mo_quotient_59 : decode b_mo_quotient 59 = .ok (.iconst 2, 1) := by decide +kernel
theorem d_mo_quotient_60 : decode b_mo_quotient 60 = .ok (.iadd, 1) := by decide +kernel
theorem d_mo_quotient_61 : decode b_mo_quotient 61 = .ok (.sipush 152, 3) := by decide +kernel
theorem d_mo_quotient_64 : decode b_mo_quotient 64 = .ok (.sipush 153, 3) := by decide +kernel
theorem d_mo_quotient_67 : decode b_mo_quotient 67 = .ok (.invokevirtual 78, 3) := by decide +kernel
theorem d_mo_quotient_70 : decode b_mo_quotient 70 = .ok (.aload_n 0, 1) := by decide +kernel
theorem d_mo_quotient_71 : decode b_mo_quotient 71 = .ok (.iload_n 2, 1) := by decide +kernel
theorem d_mo_quotient_72 : decode b_mo_quotient 72 = .ok (.ifCond .eq 9, 3) := by decide +kernel
theorem d_mo_quotient_75 : decode b_mo_quotient 75 = .ok (.sipush 152, 3) := by decide +kernel
theorem d_mo_quotient_78 : decode b_mo_quotient 78 = .ok (.goto 6, 3) := by decide +kernel
theorem d_mo_quotient_81 : decode b_mo_quotient 81 = .ok (.sipush 153, 3) := by decide +kernel
theorem d_mo_quotient_84 : decode b_mo_quotient 84 = .ok (.iconst 2, 1) := by decide +kernel
theorem d_mo_quotient_85 : decode b_mo_quotient 85 = .ok (.iload_n 1, 1) := by decide +kernel
theorem d_mo_quotient_86 : decode b_mo_quotient 86 = .ok (.imul, 1) := by decide +kernel
theorem d_mo_quotient_87 : decode b_mo_quotient 87 = .ok (.invokevirtual 62, 3) := by decide +kernel
theorem d_mo_quotient_90 : decode b_mo_quotient 90 = .ok (.aload_n 0, 1) := by decide +kernel
theorem d_mo_quotient_91 : decode b_mo_quotient 91 = .ok (.getfield 23, 3) := by decide +kernel
theorem d_mo_quotient_94 : decode b_mo_quotient 94 = .ok (.iload_n 1, 1) := by decide +kernel
theorem d_mo_quotient_95 : decode b_mo_quotient 95 = .ok (.aload_n 0, 1) := by decide +kernel
theorem d_mo_quotient_96 : decode b_mo_quotient 96 = .ok (.getfield 20, 3) := by decide +kernel
theorem d_mo_quotient_99 : decode b_mo_quotient 99 = .ok (.iconst 2, 1) := by decide +kernel
theorem d_mo_quotient_100 : decode b_mo_quotient 100 = .ok (.iload_n 1, 1) := by decide +kernel
theorem d_mo_quotient_101 : decode b_mo_quotient 101 = .ok (.imul, 1) := by decide +kernel
theorem d_mo_quotient_102 : decode b_mo_quotient 102 = .ok (.iaload, 1) := by decide +kernel
theorem d_mo_quotient_103 : decode b_mo_quotient 103 = .ok (.ifCond .ne 7, 3) := by decide +kernel
theorem d_mo_quotient_106 : decode b_mo_quotient 106 = .ok (.iconst 0, 1) := by decide +kernel
theorem d_mo_quotient_107 : decode b_mo_quotient 107 = .ok (.goto 13, 3) := by decide +kernel
theorem d_mo_quotient_110 : decode b_mo_quotient 110 = .ok (.iload_n 2, 1) := by decide +kernel
theorem d_mo_quotient_111 : decode b_mo_quotient 111 = .ok (.ifCond .eq 8, 3) := by decide +kernel
theorem d_mo_quotient_114 : decode b_mo_quotient 114 = .ok (.iload 4, 2) := by decide +kernel
theorem d_mo_quotient_116 : decode b_mo_quotient 116 = .ok (.goto 4, 3) := by decide +kernel
theorem d_mo_quotient_119 : decode b_mo_quotient 119 = .ok (.iload_n 3, 1) := by decide +kernel
theorem d_mo_quotient_120 : decode b_mo_quotient 120 = .ok (.iastore, 1) := by decide +kernel
theorem d_mo_quotient_121 : decode b_mo_quotient 121 = .ok (.iconst 0, 1) := by decide +kernel
theorem d_mo_quotient_122 : decode b_mo_quotient 122 = .ok (.ireturn, 1) := by decide +kernel
theorem d_mo_divisor_0 : decode b_mo_divisor 0 = .ok (.iconst 0, 1) := by decide +kernel
theorem d_mo_divisor_1 : decode b_mo_divisor 1 = .ok (.istore_n 3, 1) := by decide +kernel
theorem d_mo_divisor_2 : decode b_mo_divisor 2 = .ok (.iload_n 3, 1) := by decide +kernel
theorem d_mo_divisor_3 : decode b_mo_divisor 3 = .ok (.iload_n 2, 1) := by decide +kernel
theorem d_mo_divisor_4 : decode b_mo_divisor 4 = .ok (.if_icmp .ge 21, 3) := by decide +kernel
theorem d_mo_divisor_7 : decode b_mo_divisor 7 = .ok (.aload_n 0, 1) := by decide +kernel
theorem d_mo_divisor_8 : decode b_mo_divisor 8 = .ok (.iload_n 1, 1) := by decide +kernel
theorem d_mo_divisor_9 : decode b_mo_divisor 9 = .ok (.iload_n 3, 1) := by decide +kernel
theorem d_mo_divisor_10 : decode b_mo_divisor 10 = .ok (.iadd, 1) := by decide +kernel
theorem d_mo_divisor_11 : decode b_mo_divisor 11 = .ok (.invokevirtual 88, 3) := by decide +kernel
theorem d_mo_divisor_14 : decode b_mo_divisor 14 = .ok (.ifCond .ne 5, 3) := by decide +kernel
theorem d_mo_divisor_17 : decode b_mo_divisor 17 = .ok (.iconst 3, 1) := by decide +kernel
theorem d_mo_divisor_18 : decode b_mo_divisor 18 = .ok (.ireturn, 1) := by decide +kernel
theorem d_mo_divisor_19 : decode b_mo_divisor 19 = .ok (.iinc 3 1, 3) := by decide +kernel
theorem d_mo_divisor_22 : decode b_mo_divisor 22 = .ok (.goto (-20), 3) := by decide +kernel
theorem d_mo_divisor_25 : decode b_mo_divisor 25 = .ok (.aload_n 0, 1) := by decide +kernel
theorem d_mo_divisor_26 : decode b_mo_divisor 26 = .ok (.bipush 73, 2) := by decide +kernel
theorem d_mo_divisor_28 : decode b_mo_divisor 28 = .ok (.iconst 0, 1) := by decide +kernel
theorem d_mo_divisor_29 : decode b_mo_divisor 29 = .ok (.invokevirtual 164, 3) := by decide +kernel
theorem d_mo_divisor_32 : decode b_mo_divisor 32 = .ok (.iconst 0, 1) := by decide +kernel
theorem d_mo_divisor_33 : decode b_mo_divisor 33 = .ok (.istore_n 3, 1) := by decide +kernel
theorem d_mo_divisor_34 : decode b_mo_divisor 34 = .ok (.iload_n 3, 1) := by decide +kernel
theorem d_mo_divisor_35 : decode b_mo_divisor 35 = .ok (.iload_n 2, 1) := by decide +kernel
theorem d_mo_divisor_36 : decode b_mo_divisor 36 = .ok (.if_icmp .ge 31, 3) := by decide +kernel
theorem d_mo_divisor_39 : decode b_mo_divisor 39 = .ok (.aload_n 0, 1) := by decide +kernel
theorem d_mo_divisor_40 : decode b_mo_divisor 40 = .ok (.sipush 146, 3) := by decide +kernel
theorem d_mo_divisor_43 : decode b_mo_divisor 43 = .ok (.iconst 2, 1) := by decide +kernel
theorem d_mo_divisor_44 : decode b_mo_divisor 44 = .ok (.iload_n 1, 1) := by decide +kernel
theorem d_mo_divisor_45 : decode b_mo_divisor 45 = .ok (.iload_n 3, 1) := by decide +kernel
theorem d_mo_divisor_46 : decode b_mo_divisor 46 = .ok (.iadd, 1) := by decide +kernel
theorem d_mo_divisor_47 : decode b_mo_divisor 47 = .ok (.imul, 1) := by decide +kernel
theorem d_mo_divisor_48 : decode b_mo_divisor 48 = .ok (.invokevirtual 75, 3) := by decide +kernel
theorem d_mo_divisor_51 : decode b_mo_divisor 51 = .ok (.aload_n 0, 1) := by decide +kernel
theorem d_mo_divisor_52 : decode b_mo_divisor 52 = .ok (.sipush 154, 3) := by decide +kernel
theorem d_mo_divisor_55 : decode b_mo_divisor 55 = .ok (.sipush 146, 3) := by decide +kernel
theorem d_mo_divisor_58 : decode b_mo_divisor 58 = .ok (.invokevirtual 62, 3) := by decide +kernel
theorem d_mo_divisor_61 : decode b_mo_divisor 61 = .ok (.iinc 3 1, 3) := by decide +kernel
theorem d_mo_divisor_64 : decode b_mo_divisor 64 = .ok (.goto (-30), 3) := by decide +kernel
theorem d_mo_divisor_67 : decode b_mo_divisor 67 = .ok (.aload_n 0, 1) := by decide +kernel
theorem d_mo_divisor_68 : decode b_mo_divisor 68 = .ok (.getfield 23, 3) := by decide +kernel
theorem d_mo_divisor_71 : decode b_mo_divisor 71 = .ok (.bipush 73, 2) := by decide +kernel
theorem d_mo_divisor_73 : decode b_mo_divisor 73 = .ok (.aload_n 0, 1) := by decide +kernel
theorem d_mo_divisor_74 : decode b_mo_divisor 74 = .ok (.getfield 20, 3) := by decide +kernel
theorem d_mo_divisor_77 : decode b_mo_divisor 77 = .ok (.sipush 146, 3) := by decide +kernel
theorem d_mo_divisor_80 : decode b_mo_divisor 80 = .ok (.iaload, 1) := by decide +kernel
theorem d_mo_divisor_81 : decode b_mo_divisor 81 = .ok (.ifCond .ne 7, 3) := by decide +kernel
theorem d_mo_divisor_84 : decode b_mo_divisor 84 = .ok (.iconst 0, 1) := by decide +kernel
theorem d_mo_divisor_85 : decode b_mo_divisor 85 = .ok (.goto 4, 3) := by decide +kernel
theorem d_mo_divisor_88 : decode b_mo_divisor 88 = .ok (.iconst 1, 1) := by decide +kernel
theorem d_mo_divisor_89 : decode b_mo_divisor 89 = .ok (.iastore, 1) := by decide +kernel
theorem d_mo_divisor_90 : decode b_mo_divisor 90 = .ok (.aload_n 0, 1) := by decide +kernel
theorem d_mo_divisor_91 : decode b_mo_divisor 91 = .ok (.bipush 73, 2) := by decide +kernel
theorem d_mo_divisor_93 : decode b_mo_divisor 93 = .ok (.iload_n 1, 1) := by decide +kernel
theorem d_mo_divisor_94 : decode b_mo_divisor 94 = .ok (.invokevirtual 127, 3) := by decide +kernel
theorem d_mo_divisor_97 : decode b_mo_divisor 97 = .ok (.iconst 0, 1) := by decide +kernel
theorem d_mo_divisor_98 : decode b_mo_divisor 98 = .ok (.ireturn, 1) := by decide +kernel
theorem d_mo_power_0 : decode b_mo_power 0 = .ok (.iload_n 1, 1) := by decide +kernel
theorem d_mo_power_1 : decode b_mo_power 1 = .ok (.iconst 1, 1) := by decide +kernel
theorem d_mo_power_2 : decode b_mo_power 2 = .ok (.iadd, 1) := by decide +kernel
theorem d_mo_power_3 : decode b_mo_power 3 = .ok (.istore_n 2, 1) := by decide +kernel
theorem d_mo_power_4 : decode b_mo_power 4 = .ok (.aload_n 0, 1) := by decide +kernel
theorem d_mo_power_5 : decode b_mo_power 5 = .ok (.getfield 20, 3) := by decide +kernel
theorem d_mo_power_8 : decode b_mo_power 8 = .ok (.iconst 2, 1) := by decide +kernel
theorem d_mo_power_9 : decode b_mo_power 9 = .ok (.iload_n 2, 1) := by decide +kernel
theorem d_mo_power_10 : decode b_mo_power 10 = .ok (.imul, 1) := by decide +kernel
theorem d_mo_power_11 : decode b_mo_power 11 = .ok (.iaload, 1) := by decide +kernel
theorem d_mo_power_12 : decode b_mo_power 12 = .ok (.ifCond .ne 7, 3) := by decide +kernel
theorem d_mo_power_15 : decode b_mo_power 15 = .ok (.iconst 0, 1) := by decide +kernel
theorem d_mo_power_16 : decode b_mo_power 16 = .ok (.goto 12, 3) := by decide +kernel
theorem d_mo_power_19 : decode b_mo_power 19 = .ok (.aload_n 0, 1) := by decide +kernel
theorem d_mo_power_20 : decode b_mo_power 20 = .ok (.getfield 17, 3) := by decide +kernel
theorem d_mo_power_23 : decode b_mo_power 23 = .ok (.bipush 80, 2) := by decide +kernel
theorem d_mo_power_25 : decode b_mo_power 25 = .ok (.iload_n 2, 1) := by decide +kernel
theorem d_mo_power_26 : decode b_mo_power 26 = .ok (.imul, 1) := by decide +kernel
theorem d_mo_power_27 : decode b_mo_power 27 = .ok (.iaload, 1) := by decide +kernel
theorem d_mo_power_28 : decode b_mo_power 28 = .ok (.istore_n 3, 1) := by decide +kernel
theorem d_mo_power_29 : decode b_mo_power 29 = .ok (.aload_n 0, 1) := by decide +kernel
theorem d_mo_power_30 : decode b_mo_power 30 = .ok (.iload_n 2, 1) := by decide +kernel
theorem d_mo_power_31 : decode b_mo_power 31 = .ok (.invokevirtual 88, 3) := by decide +kernel
theorem d_mo_power_34 : decode b_mo_power 34 = .ok (.ifCond .eq 30, 3) := by decide +kernel
theorem d_mo_power_37 : decode b_mo_power 37 = .ok (.aload_n 0, 1) := by decide +kernel
theorem d_mo_power_38 : decode b_mo_power 38 = .ok (.getfield 23, 3) := by decide +kernel
theorem d_mo_power_41 : decode b_mo_power 41 = .ok (.iload_n 2, 1) := by decide +kernel
theorem d_mo_power_42 : decode b_mo_power 42 = .ok (.iaload, 1) := by decide +kernel
theorem d_mo_power_43 : decode b_mo_power 43 = .ok (.ifCond .lt 21, 3) := by decide +kernel
theorem d_mo_power_46 : decode b_mo_power 46 = .ok (.aload_n 0, 1) := by decide +kernel
theorem d_mo_power_47 : decode b_mo_power 47 = .ok (.getfield 20, 3) := by decide +kernel
theorem d_mo_power_50 : decode b_mo_power 50 = .ok (.iconst 2, 1) := by decide +kernel
theorem d_mo_power_51 : decode b_mo_power 51 = .ok (.iload_n 2, 1) := by decide +kernel
theorem d_mo_power_52 : decode b_mo_power 52 = .ok (.imul, 1) := by decide +kernel
theorem d_mo_power_53 : decode b_mo_power 53 = .ok (.iaload, 1) := by decide +kernel
theorem d_mo_power_54 : decode b_mo_power 54 = .ok (.iconst 1, 1) := by decide +kernel
theorem d_mo_power_55 : decode b_mo_power 55 = .ok (.if_icmp .gt 9, 3) := by decide +kernel
theorem d_mo_power_58 : decode b_mo_power 58 = .ok (.iload_n 3, 1) := by decide +kernel
theorem d_mo_power_59 : decode b_mo_power 59 = .ok (.bipush 64, 2) := by decide +kernel
theorem d_mo_power_61 : decode b_mo_power 61 = .ok (.if_icmp .le 5, 3) := by decide +kernel
theorem d_mo_power_64 : decode b_mo_power 64 = .ok (.iconst 3, 1) := by decide +kernel
theorem d_mo_power_65 : decode b_mo_power 65 = .ok (.ireturn, 1) := by decide +kernel
theorem d_mo_power_66 : decode b_mo_power 66 = .ok (.aload_n 0, 1) := by decide +kernel
theorem d_mo_power_67 : decode b_mo_power 67 = .ok (.bipush 73, 2) := by decide +kernel
theorem d_mo_power_69 : decode b_mo_power 69 = .ok (.iconst 1, 1) := by decide +kernel
theorem d_mo_power_70 : decode b_mo_power 70 = .ok (.invokevirtual 164, 3) := by decide +kernel
theorem d_mo_power_73 : decode b_mo_power 73 = .ok (.aload_n 0, 1) := by decide +kernel
theorem d_mo_power_74 : decode b_mo_power 74 = .ok (.iload_n 1, 1) := by decide +kernel
theorem d_mo_power_75 : decode b_mo_power 75 = .ok (.bipush 74, 2) := by decide +kernel
theorem d_mo_power_77 : decode b_mo_power 77 = .ok (.invokevirtual 127, 3) := by decide +kernel
theorem d_mo_power_80 : decode b_mo_power 80 = .ok (.iconst 0, 1) := by decide +kernel
theorem d_mo_power_81 : decode b_mo_power 81 = .ok (.istore 4, 2) := by decide +kernel
theorem d_mo_power_83 : decode b_mo_power 83 = .ok (.iconst 0, 1) := by decide +kernel
theorem d_mo_power_84 : decode b_mo_power 84 = .ok (.istore 5, 2) := by decide +kernel
theorem d_mo_power_86 : decode b_mo_power 86 = .ok (.iload 5, 2) := by decide +kernel
theorem d_mo_power_88 : decode b_mo_power 88 = .ok (.iload_n 3, 1) := by decide +kernel
theorem d_mo_power_89 : decode b_mo_power 89 = .ok (.if_icmp .ge 24, 3) := by decide +kernel
theorem d_mo_power_92 : decode b_mo_power 92 = .ok (.iload 4, 2) := by decide +kernel
theorem d_mo_power_94 : decode b_mo_power 94 = .ok (.ifCond .ne 19, 3) := by decide +kernel
theorem d_mo_power_97 : decode b_mo_power 97 = .ok (.aload_n 0, 1) := by decide +kernel
theorem d_mo_power_98 : decode b_mo_power 98 = .ok (.bipush 73, 2) := by decide +kernel
theorem d_mo_power_100 : decode b_mo_power 100 = .ok (.bipush 74, 2) := by decide +kernel
theorem d_mo_power_102 : decode b_mo_power 102 = .ok (.invokevirtual 170, 3) := by decide +kernel
theorem d_mo_power_105 : decode b_mo_power 105 = .ok (.istore 4, 2) := by decide +kernel
theorem d_mo_power_107 : decode b_mo_power 107 = .ok (.iinc 5 1, 3) := by decide +kernel
theorem d_mo_power_110 : decode b_mo_power 110 = .ok (.goto (-24), 3) := by decide +kernel
theorem d_mo_power_113 : decode b_mo_power 113 = .ok (.aload_n 0, 1) := by decide +kernel
theorem d_mo_power_114 : decode b_mo_power 114 = .ok (.bipush 73, 2) := by decide +kernel
theorem d_mo_power_116 : decode b_mo_power 116 = .ok (.iload_n 1, 1) := by decide +kernel
theorem d_mo_power_117 : decode b_mo_power 117 = .ok (.invokevirtual 127, 3) := by decide +kernel
theorem d_mo_power_120 : decode b_mo_power 120 = .ok (.iload 4, 2) := by decide +kernel
theorem d_mo_power_122 : decode b_mo_power 122 = .ok (.ireturn, 1) := by decide +kernel
theorem d_mo_work_0 : decode b_mo_work 0 = .ok (.aload_n 0, 1) := by decide +kernel
theorem d_mo_work_1 : decode b_mo_work 1 = .ok (.aload_n 0, 1) := by decide +kernel
theorem d_mo_work_2 : decode b_mo_work 2 = .ok (.invokevirtual 176, 3) := by decide +kernel
theorem d_mo_work_5 : decode b_mo_work 5 = .ok (.putfield 13, 3) := by decide +kernel
theorem d_mo_work_8 : decode b_mo_work 8 = .ok (.aload_n 0, 1) := by decide +kernel
theorem d_mo_work_9 : decode b_mo_work 9 = .ok (.aload_n 0, 1) := by decide +kernel
theorem d_mo_work_10 : decode b_mo_work 10 = .ok (.getfield 13, 3) := by decide +kernel
theorem d_mo_work_13 : decode b_mo_work 13 = .ok (.ifCond .lt 7, 3) := by decide +kernel
theorem d_mo_work_16 : decode b_mo_work 16 = .ok (.iconst 1, 1) := by decide +kernel
theorem d_mo_work_17 : decode b_mo_work 17 = .ok (.goto 4, 3) := by decide +kernel
theorem d_mo_work_20 : decode b_mo_work 20 = .ok (.iconst 0, 1) := by decide +kernel
theorem d_mo_work_21 : decode b_mo_work 21 = .ok (.putfield 42, 3) := by decide +kernel
theorem d_mo_work_24 : decode b_mo_work 24 = .ok (.aload_n 0, 1) := by decide +kernel
theorem d_mo_work_25 : decode b_mo_work 25 = .ok (.getfield 42, 3) := by decide +kernel
theorem d_mo_work_28 : decode b_mo_work 28 = .ok (.ifCond .le 5, 3) := by decide +kernel
theorem d_mo_work_31 : decode b_mo_work 31 = .ok (.iconst 0, 1) := by decide +kernel
theorem d_mo_work_32 : decode b_mo_work 32 = .ok (.ireturn, 1) := by decide +kernel
theorem d_mo_work_33 : decode b_mo_work 33 = .ok (.aload_n 0, 1) := by decide +kernel
theorem d_mo_work_34 : decode b_mo_work 34 = .ok (.invokevirtual 179, 3) := by decide +kernel
theorem d_mo_work_37 : decode b_mo_work 37 = .ok (.istore_n 1, 1) := by decide +kernel
theorem d_mo_work_38 : decode b_mo_work 38 = .ok (.aload_n 0, 1) := by decide +kernel
theorem d_mo_work_39 : decode b_mo_work 39 = .ok (.iload_n 1, 1) := by decide +kernel
theorem d_mo_work_40 : decode b_mo_work 40 = .ok (.ifCond .le 9, 3) := by decide +kernel
theorem d_mo_work_43 : decode b_mo_work 43 = .ok (.iload_n 1, 1) := by decide +kernel
theorem d_mo_work_44 : decode b_mo_work 44 = .ok (.iconst 1, 1) := by decide +kernel
theorem d_mo_work_45 : decode b_mo_work 45 = .ok (.iadd, 1) := by decide +kernel
theorem d_mo_work_46 : decode b_mo_work 46 = .ok (.goto 4, 3) := by decide +kernel
theorem d_mo_work_49 : decode b_mo_work 49 = .ok (.iconst 0, 1) := by decide +kernel
theorem d_mo_work_50 : decode b_mo_work 50 = .ok (.putfield 42, 3) := by decide +kernel
theorem d_mo_work_53 : decode b_mo_work 53 = .ok (.aload_n 0, 1) := by decide +kernel
theorem d_mo_work_54 : decode b_mo_work 54 = .ok (.getfield 42, 3) := by decide +kernel
theorem d_mo_work_57 : decode b_mo_work 57 = .ok (.ifCond .le 5, 3) := by decide +kernel
theorem d_mo_work_60 : decode b_mo_work 60 = .ok (.iconst 0, 1) := by decide +kernel
theorem d_mo_work_61 : decode b_mo_work 61 = .ok (.ireturn, 1) := by decide +kernel
theorem d_mo_work_62 : decode b_mo_work 62 = .ok (.aload_n 0, 1) := by decide +kernel
theorem d_mo_work_63 : decode b_mo_work 63 = .ok (.iconst 0, 1) := by decide +kernel
theorem d_mo_work_64 : decode b_mo_work 64 = .ok (.bipush 72, 2) := by decide +kernel
theorem d_mo_work_66 : decode b_mo_work 66 = .ok (.invokevirtual 127, 3) := by decide +kernel
theorem d_mo_work_69 : decode b_mo_work 69 = .ok (.aload_n 0, 1) := by decide +kernel
theorem d_mo_work_70 : decode b_mo_work 70 = .ok (.bipush 72, 2) := by decide +kernel
theorem d_mo_work_72 : decode b_mo_work 72 = .ok (.invokevirtual 182, 3) := by decide +kernel
theorem d_mo_work_75 : decode b_mo_work 75 = .ok (.ireturn, 1) := by decide +kernel
theorem d_mo_isVariable_0 : decode b_mo_isVariable 0 = .ok (.iload_n 0, 1) := by decide +kernel
theorem d_mo_isVariable_1 : decode b_mo_isVariable 1 = .ok (.ifCond .lt 13, 3) := by decide +kernel
theorem d_mo_isVariable_4 : decode b_mo_isVariable 4 = .ok (.iload_n 0, 1) := by decide +kernel
theorem d_mo_isVariable_5 : decode b_mo_isVariable 5 = .ok (.bipush 8, 2) := by decide +kernel
theorem d_mo_isVariable_7 : decode b_mo_isVariable 7 = .ok (.if_icmp .ge 7, 3) := by decide +kernel
theorem d_mo_isVariable_10 : decode b_mo_isVariable 10 = .ok (.iconst 1, 1) := by decide +kernel
theorem d_mo_isVariable_11 : decode b_mo_isVariable 11 = .ok (.goto 4, 3) := by decide +kernel
theorem d_mo_isVariable_14 : decode b_mo_isVariable 14 = .ok (.iconst 0, 1) := by decide +kernel
theorem d_mo_isVariable_15 : decode b_mo_isVariable 15 = .ok (.ireturn, 1) := by decide +kernel
theorem d_mo_keep_0 : decode b_mo_keep 0 = .ok (.aload_n 0, 1) := by decide +kernel
theorem d_mo_keep_1 : decode b_mo_keep 1 = .ok (.iload_n 1, 1) := by decide +kernel
theorem d_mo_keep_2 : decode b_mo_keep 2 = .ok (.invokestatic 185, 3) := by decide +kernel
theorem d_mo_keep_5 : decode b_mo_keep 5 = .ok (.ifCond .eq 7, 3) := by decide +kernel
theorem d_mo_keep_8 : decode b_mo_keep 8 = .ok (.iconst 0, 1) := by decide +kernel
theorem d_mo_keep_9 : decode b_mo_keep 9 = .ok (.goto 4, 3) := by decide +kernel
theorem d_mo_keep_12 : decode b_mo_keep 12 = .ok (.iconst 1, 1) := by decide +kernel
theorem d_mo_keep_13 : decode b_mo_keep 13 = .ok (.putfield 42, 3) := by decide +kernel
theorem d_mo_keep_16 : decode b_mo_keep 16 = .ok (.aload_n 0, 1) := by decide +kernel
theorem d_mo_keep_17 : decode b_mo_keep 17 = .ok (.getfield 42, 3) := by decide +kernel
theorem d_mo_keep_20 : decode b_mo_keep 20 = .ok (.ifCond .le 5, 3) := by decide +kernel
theorem d_mo_keep_23 : decode b_mo_keep 23 = .ok (.iconst 0, 1) := by decide +kernel
theorem d_mo_keep_24 : decode b_mo_keep 24 = .ok (.ireturn, 1) := by decide +kernel
theorem d_mo_keep_25 : decode b_mo_keep 25 = .ok (.aload_n 0, 1) := by decide +kernel
theorem d_mo_keep_26 : decode b_mo_keep 26 = .ok (.invokevirtual 188, 3) := by decide +kernel
theorem d_mo_keep_29 : decode b_mo_keep 29 = .ok (.istore_n 2, 1) := by decide +kernel
theorem d_mo_keep_30 : decode b_mo_keep 30 = .ok (.aload_n 0, 1) := by decide +kernel
theorem d_mo_keep_31 : decode b_mo_keep 31 = .ok (.getfield 42, 3) := by decide +kernel
theorem d_mo_keep_34 : decode b_mo_keep 34 = .ok (.ifCond .le 15, 3) := by decide +kernel
theorem d_mo_keep_37 : decode b_mo_keep 37 = .ok (.aload_n 0, 1) := by decide +kernel
theorem d_mo_keep_38 : decode b_mo_keep 38 = .ok (.aload_n 0, 1) := by decide +kernel
theorem d_mo_keep_39 : decode b_mo_keep 39 = .ok (.getfield 42, 3) := by decide +kernel
theorem d_mo_keep_42 : decode b_mo_keep 42 = .ok (.iconst 1, 1) := by decide +kernel
theorem d_mo_keep_43 : decode b_mo_keep 43 = .ok (.iadd, 1) := by decide +kernel
theorem d_mo_keep_44 : decode b_mo_keep 44 = .ok (.putfield 42, 3) := by decide +kernel
theorem d_mo_keep_47 : decode b_mo_keep 47 = .ok (.iconst 0, 1) := by decide +kernel
theorem d_mo_keep_48 : decode b_mo_keep 48 = .ok (.ireturn, 1) := by decide +kernel
theorem d_mo_keep_49 : decode b_mo_keep 49 = .ok (.aload_n 0, 1) := by decide +kernel
theorem d_mo_keep_50 : decode b_mo_keep 50 = .ok (.bipush 72, 2) := by decide +kernel
theorem d_mo_keep_52 : decode b_mo_keep 52 = .ok (.bipush 64, 2) := by decide +kernel
theorem d_mo_keep_54 : decode b_mo_keep 54 = .ok (.iload_n 1, 1) := by decide +kernel
theorem d_mo_keep_55 : decode b_mo_keep 55 = .ok (.iadd, 1) := by decide +kernel
theorem d_mo_keep_56 : decode b_mo_keep 56 = .ok (.invokevirtual 127, 3) := by decide +kernel
theorem d_mo_keep_59 : decode b_mo_keep 59 = .ok (.aload_n 0, 1) := by decide +kernel
theorem d_mo_keep_60 : decode b_mo_keep 60 = .ok (.iconst 0, 1) := by decide +kernel
theorem d_mo_keep_61 : decode b_mo_keep 61 = .ok (.putfield 93, 3) := by decide +kernel
theorem d_mo_keep_64 : decode b_mo_keep 64 = .ok (.iload_n 2, 1) := by decide +kernel
theorem d_mo_keep_65 : decode b_mo_keep 65 = .ok (.ireturn, 1) := by decide +kernel
theorem d_mo_form_0 : decode b_mo_form 0 = .ok (.aload_n 0, 1) := by decide +kernel
theorem d_mo_form_1 : decode b_mo_form 1 = .ok (.iconst 0, 1) := by decide +kernel
theorem d_mo_form_2 : decode b_mo_form 2 = .ok (.putfield 42, 3) := by decide +kernel
theorem d_mo_form_5 : decode b_mo_form 5 = .ok (.aload_n 0, 1) := by decide +kernel
theorem d_mo_form_6 : decode b_mo_form 6 = .ok (.bipush 72, 2) := by decide +kernel
theorem d_mo_form_8 : decode b_mo_form 8 = .ok (.invokevirtual 182, 3) := by decide +kernel
theorem d_mo_form_11 : decode b_mo_form 11 = .ok (.ireturn, 1) := by decide +kernel
theorem d_mo_sign_0 : decode b_mo_sign 0 = .ok (.aload_n 0, 1) := by decide +kernel
theorem d_mo_sign_1 : decode b_mo_sign 1 = .ok (.iconst 0, 1) := by decide +kernel
theorem d_mo_sign_2 : decode b_mo_sign 2 = .ok (.putfield 42, 3) := by decide +kernel
theorem d_mo_sign_5 : decode b_mo_sign 5 = .ok (.aload_n 0, 1) := by decide +kernel
theorem d_mo_sign_6 : decode b_mo_sign 6 = .ok (.getfield 23, 3) := by decide +kernel
theorem d_mo_sign_9 : decode b_mo_sign 9 = .ok (.bipush 72, 2) := by decide +kernel
theorem d_mo_sign_11 : decode b_mo_sign 11 = .ok (.iaload, 1) := by decide +kernel
theorem d_mo_sign_12 : decode b_mo_sign 12 = .ok (.ireturn, 1) := by decide +kernel
theorem d_mo_length_0 : decode b_mo_length 0 = .ok (.aload_n 0, 1) := by decide +kernel
theorem d_mo_length_1 : decode b_mo_length 1 = .ok (.getfield 20, 3) := by decide +kernel
theorem d_mo_length_4 : decode b_mo_length 4 = .ok (.iload_n 1, 1) := by decide +kernel
theorem d_mo_length_5 : decode b_mo_length 5 = .ok (.iaload, 1) := by decide +kernel
theorem d_mo_length_6 : decode b_mo_length 6 = .ok (.ifCond .ne 5, 3) := by decide +kernel
theorem d_mo_length_9 : decode b_mo_length 9 = .ok (.iconst 1, 1) := by decide +kernel
theorem d_mo_length_10 : decode b_mo_length 10 = .ok (.ireturn, 1) := by decide +kernel
theorem d_mo_length_11 : decode b_mo_length 11 = .ok (.aload_n 0, 1) := by decide +kernel
theorem d_mo_length_12 : decode b_mo_length 12 = .ok (.getfield 17, 3) := by decide +kernel
theorem d_mo_length_15 : decode b_mo_length 15 = .ok (.bipush 40, 2) := by decide +kernel
theorem d_mo_length_17 : decode b_mo_length 17 = .ok (.iload_n 1, 1) := by decide +kernel
theorem d_mo_length_18 : decode b_mo_length 18 = .ok (.imul, 1) := by decide +kernel
theorem d_mo_length_19 : decode b_mo_length 19 = .ok (.aload_n 0, 1) := by decide +kernel
theorem d_mo_length_20 : decode b_mo_length 20 = .ok (.getfield 20, 3) := by decide +kernel
theorem d_mo_length_23 : decode b_mo_length 23 = .ok (.iload_n 1, 1) := by decide +kernel
theorem d_mo_length_24 : decode b_mo_length 24 = .ok (.iaload, 1) := by decide +kernel
theorem d_mo_length_25 : decode b_mo_length 25 = .ok (.iadd, 1) := by decide +kernel
theorem d_mo_length_26 : decode b_mo_length 26 = .ok (.iconst 1, 1) := by decide +kernel
theorem d_mo_length_27 : decode b_mo_length 27 = .ok (.isub, 1) := by decide +kernel
theorem d_mo_length_28 : decode b_mo_length 28 = .ok (.iaload, 1) := by decide +kernel
theorem d_mo_length_29 : decode b_mo_length 29 = .ok (.istore_n 2, 1) := by decide +kernel
theorem d_mo_length_30 : decode b_mo_length 30 = .ok (.iconst 4, 1) := by decide +kernel
theorem d_mo_length_31 : decode b_mo_length 31 = .ok (.aload_n 0, 1) := by decide +kernel
theorem d_mo_length_32 : decode b_mo_length 32 = .ok (.getfield 20, 3) := by decide +kernel
theorem d_mo_length_35 : decode b_mo_length 35 = .ok (.iload_n 1, 1) := by decide +kernel
theorem d_mo_length_36 : decode b_mo_length 36 = .ok (.iaload, 1) := by decide +kernel
theorem d_mo_length_37 : decode b_mo_length 37 = .ok (.imul, 1) := by decide +kernel
theorem d_mo_length_38 : decode b_mo_length 38 = .ok (.iconst 4, 1) := by decide +kernel
theorem d_mo_length_39 : decode b_mo_length 39 = .ok (.isub, 1) := by decide +kernel
theorem d_mo_length_40 : decode b_mo_length 40 = .ok (.iload_n 2, 1) := by decide +kernel
theorem d_mo_length_41 : decode b_mo_length 41 = .ok (.sipush 999, 3) := by decide +kernel
theorem d_mo_length_44 : decode b_mo_length 44 = .ok (.if_icmp .le 7, 3) := by decide +kernel
theorem d_mo_length_47 : decode b_mo_length 47 = .ok (.iconst 4, 1) := by decide +kernel
theorem d_mo_length_48 : decode b_mo_length 48 = .ok (.goto 24, 3) := by decide +kernel
theorem d_mo_length_51 : decode b_mo_length 51 = .ok (.iload_n 2, 1) := by decide +kernel
theorem d_mo_length_52 : decode b_mo_length 52 = .ok (.bipush 99, 2) := by decide +kernel
theorem d_mo_length_54 : decode b_mo_length 54 = .ok (.if_icmp .le 7, 3) := by decide +kernel
theorem d_mo_length_57 : decode b_mo_length 57 = .ok (.iconst 3, 1) := by decide +kernel
theorem d_mo_length_58 : decode b_mo_length 58 = .ok (.goto 14, 3) := by decide +kernel
theorem d_mo_length_61 : decode b_mo_length 61 = .ok (.iload_n 2, 1) := by decide +kernel
theorem d_mo_length_62 : decode b_mo_length 62 = .ok (.bipush 9, 2) := by decide +kernel
theorem d_mo_length_64 : decode b_mo_length 64 = .ok (.if_icmp .le 7, 3) := by decide +kernel
theorem d_mo_length_67 : decode b_mo_length 67 = .ok (.iconst 2, 1) := by decide +kernel
theorem d_mo_length_68 : decode b_mo_length 68 = .ok (.goto 4, 3) := by decide +kernel
theorem d_mo_length_71 : decode b_mo_length 71 = .ok (.iconst 1, 1) := by decide +kernel
theorem d_mo_length_72 : decode b_mo_length 72 = .ok (.iadd, 1) := by decide +kernel
theorem d_mo_length_73 : decode b_mo_length 73 = .ok (.ireturn, 1) := by decide +kernel
theorem d_mo_fromEnd_0 : decode b_mo_fromEnd 0 = .ok (.aload_n 0, 1) := by decide +kernel
theorem d_mo_fromEnd_1 : decode b_mo_fromEnd 1 = .ok (.getfield 17, 3) := by decide +kernel
theorem d_mo_fromEnd_4 : decode b_mo_fromEnd 4 = .ok (.bipush 40, 2) := by decide +kernel
theorem d_mo_fromEnd_6 : decode b_mo_fromEnd 6 = .ok (.iload_n 1, 1) := by decide +kernel
theorem d_mo_fromEnd_7 : decode b_mo_fromEnd 7 = .ok (.imul, 1) := by decide +kernel
theorem d_mo_fromEnd_8 : decode b_mo_fromEnd 8 = .ok (.iload_n 2, 1) := by decide +kernel
theorem d_mo_fromEnd_9 : decode b_mo_fromEnd 9 = .ok (.iconst 4, 1) := by decide +kernel
theorem d_mo_fromEnd_10 : decode b_mo_fromEnd 10 = .ok (.idiv, 1) := by decide +kernel
theorem d_mo_fromEnd_11 : decode b_mo_fromEnd 11 = .ok (.iadd, 1) := by decide +kernel
theorem d_mo_fromEnd_12 : decode b_mo_fromEnd 12 = .ok (.iaload, 1) := by decide +kernel
theorem d_mo_fromEnd_13 : decode b_mo_fromEnd 13 = .ok (.istore_n 3, 1) := by decide +kernel
theorem d_mo_fromEnd_14 : decode b_mo_fromEnd 14 = .ok (.iload_n 2, 1) := by decide +kernel
theorem d_mo_fromEnd_15 : decode b_mo_fromEnd 15 = .ok (.iconst 4, 1) := by decide +kernel
theorem d_mo_fromEnd_16 : decode b_mo_fromEnd 16 = .ok (.irem, 1) := by decide +kernel
theorem d_mo_fromEnd_17 : decode b_mo_fromEnd 17 = .ok (.istore 4, 2) := by decide +kernel
theorem d_mo_fromEnd_19 : decode b_mo_fromEnd 19 = .ok (.iload 4, 2) := by decide +kernel
theorem d_mo_fromEnd_21 : decode b_mo_fromEnd 21 = .ok (.ifCond .ne 10, 3) := by decide +kernel
theorem d_mo_fromEnd_24 : decode b_mo_fromEnd 24 = .ok (.iload_n 3, 1) := by decide +kernel
theorem d_mo_fromEnd_25 : decode b_mo_fromEnd 25 = .ok (.bipush 10, 2) := by decide +kernel
theorem d_mo_fromEnd_27 : decode b_mo_fromEnd 27 = .ok (.irem, 1) := by decide +kernel
theorem d_mo_fromEnd_28 : decode b_mo_fromEnd 28 = .ok (.goto 40, 3) := by decide +kernel
theorem d_mo_fromEnd_31 : decode b_mo_fromEnd 31 = .ok (.iload 4, 2) := by decide +kernel
theorem d_mo_fromEnd_33 : decode b_mo_fromEnd 33 = .ok (.iconst 1, 1) := by decide +kernel
theorem d_mo_fromEnd_34 : decode b_mo_fromEnd 34 = .ok (.if_icmp .ne 13, 3) := by decide +kernel
theorem d_mo_fromEnd_37 : decode b_mo_fromEnd 37 = .ok (.iload_n 3, 1) := by decide +kernel
theorem d_mo_fromEnd_38 : decode b_mo_fromEnd 38 = .ok (.bipush 10, 2) := by decide +kernel
theorem d_mo_fromEnd_40 : decode b_mo_fromEnd 40 = .ok (.idiv, 1) := by decide +kernel
theorem d_mo_fromEnd_41 : decode b_mo_fromEnd 41 = .ok (.bipush 10, 2) := by decide +kernel
theorem d_mo_fromEnd_43 : decode b_mo_fromEnd 43 = .ok (.irem, 1) := by decide +kernel
theorem d_mo_fromEnd_44 : decode b_mo_fromEnd 44 = .ok (.goto 24, 3) := by decide +kernel
theorem d_mo_fromEnd_47 : decode b_mo_fromEnd 47 = .ok (.iload 4, 2) := by decide +kernel
theorem d_mo_fromEnd_49 : decode b_mo_fromEnd 49 = .ok (.iconst 2, 1) := by decide +kernel
theorem d_mo_fromEnd_50 : decode b_mo_fromEnd 50 = .ok (.if_icmp .ne 13, 3) := by decide +kernel
theorem d_mo_fromEnd_53 : decode b_mo_fromEnd 53 = .ok (.iload_n 3, 1) := by decide +kernel
theorem d_mo_fromEnd_54 : decode b_mo_fromEnd 54 = .ok (.bipush 100, 2) := by decide +kernel
theorem d_mo_fromEnd_56 : decode b_mo_fromEnd 56 = .ok (.idiv, 1) := by decide +kernel
theorem d_mo_fromEnd_57 : decode b_mo_fromEnd 57 = .ok (.bipush 10, 2) := by decide +kernel
theorem d_mo_fromEnd_59 : decode b_mo_fromEnd 59 = .ok (.irem, 1) := by decide +kernel
theorem d_mo_fromEnd_60 : decode b_mo_fromEnd 60 = .ok (.goto 8, 3) := by decide +kernel
theorem d_mo_fromEnd_63 : decode b_mo_fromEnd 63 = .ok (.iload_n 3, 1) := by decide +kernel
theorem d_mo_fromEnd_64 : decode b_mo_fromEnd 64 = .ok (.sipush 1000, 3) := by decide +kernel
theorem d_mo_fromEnd_67 : decode b_mo_fromEnd 67 = .ok (.idiv, 1) := by decide +kernel
theorem d_mo_fromEnd_68 : decode b_mo_fromEnd 68 = .ok (.ireturn, 1) := by decide +kernel
theorem d_mo_digit_0 : decode b_mo_digit 0 = .ok (.aload_n 0, 1) := by decide +kernel
theorem d_mo_digit_1 : decode b_mo_digit 1 = .ok (.iconst 0, 1) := by decide +kernel
theorem d_mo_digit_2 : decode b_mo_digit 2 = .ok (.putfield 42, 3) := by decide +kernel
theorem d_mo_digit_5 : decode b_mo_digit 5 = .ok (.aload_n 0, 1) := by decide +kernel
theorem d_mo_digit_6 : decode b_mo_digit 6 = .ok (.sipush 144, 3) := by decide +kernel
theorem d_mo_digit_9 : decode b_mo_digit 9 = .ok (.invokevirtual 191, 3) := by decide +kernel
theorem d_mo_digit_12 : decode b_mo_digit 12 = .ok (.istore_n 2, 1) := by decide +kernel
theorem d_mo_digit_13 : decode b_mo_digit 13 = .ok (.aload_n 0, 1) := by decide +kernel
theorem d_mo_digit_14 : decode b_mo_digit 14 = .ok (.sipush 145, 3) := by decide +kernel
theorem d_mo_digit_17 : decode b_mo_digit 17 = .ok (.invokevirtual 191, 3) := by decide +kernel
theorem d_mo_digit_20 : decode b_mo_digit 20 = .ok (.istore_n 3, 1) := by decide +kernel
theorem d_mo_digit_21 : decode b_mo_digit 21 = .ok (.aload_n 0, 1) := by decide +kernel
theorem d_mo_digit_22 : decode b_mo_digit 22 = .ok (.getfield 23, 3) := by decide +kernel
theorem d_mo_digit_25 : decode b_mo_digit 25 = .ok (.bipush 72, 2) := by decide +kernel
theorem d_mo_digit_27 : decode b_mo_digit 27 = .ok (.iaload, 1) := by decide +kernel
theorem d_mo_digit_28 : decode b_mo_digit 28 = .ok (.ifCond .ge 9, 3) := by decide +kernel
theorem d_mo_digit_31 : decode b_mo_digit 31 = .ok (.iload_n 1, 1) := by decide +kernel
theorem d_mo_digit_32 : decode b_mo_digit 32 = .ok (.iconst 1, 1) := by decide +kernel
theorem d_mo_digit_33 : decode b_mo_digit 33 = .ok (.isub, 1) := by decide +kernel
theorem d_mo_digit_34 : decode b_mo_digit 34 = .ok (.goto 4, 3) := by decide +kernel
theorem d_mo_digit_37 : decode b_mo_digit 37 = .ok (.iload_n 1, 1) := by decide +kernel
theorem d_mo_digit_38 : decode b_mo_digit 38 = .ok (.istore 4, 2) := by decide +kernel
theorem d_mo_digit_40 : decode b_mo_digit 40 = .ok (.iload_n 1, 1) := by decide +kernel
theorem d_mo_digit_41 : decode b_mo_digit 41 = .ok (.ifCond .ge 5, 3) := by decide +kernel
theorem d_mo_digit_44 : decode b_mo_digit 44 = .ok (.iconst 0, 1) := by decide +kernel
theorem d_mo_digit_45 : decode b_mo_digit 45 = .ok (.ireturn, 1) := by decide +kernel
theorem d_mo_digit_46 : decode b_mo_digit 46 = .ok (.iload 4, 2) := by decide +kernel
theorem d_mo_digit_48 : decode b_mo_digit 48 = .ok (.ifCond .ge 6, 3) := by decide +kernel
theorem d_mo_digit_51 : decode b_mo_digit 51 = .ok (.bipush 45, 2) := by decide +kernel
theorem d_mo_digit_53 : decode b_mo_digit 53 = .ok (.ireturn, 1) := by decide +kernel
theorem d_mo_digit_54 : decode b_mo_digit 54 = .ok (.iload 4, 2) := by decide +kernel
theorem d_mo_digit_56 : decode b_mo_digit 56 = .ok (.iload_n 2, 1) := by decide +kernel
theorem d_mo_digit_57 : decode b_mo_digit 57 = .ok (.if_icmp .ge 21, 3) := by decide +kernel
theorem d_mo_digit_60 : decode b_mo_digit 60 = .ok (.bipush 48, 2) := by decide +kernel
theorem d_mo_digit_62 : decode b_mo_digit 62 = .ok (.aload_n 0, 1) := by decide +kernel
theorem d_mo_digit_63 : decode b_mo_digit 63 = .ok (.sipush 144, 3) := by decide +kernel
theorem d_mo_digit_66 : decode b_mo_digit 66 = .ok (.iload_n 2, 1) := by decide +kernel
theorem d_mo_digit_67 : decode b_mo_digit 67 = .ok (.iconst 1, 1) := by decide +kernel
theorem d_mo_digit_68 : decode b_mo_digit 68 = .ok (.isub, 1) := by decide +kernel
theorem d_mo_digit_69 : decode b_mo_digit 69 = .ok (.iload 4, 2) := by decide +kernel
theorem d_mo_digit_71 : decode b_mo_digit 71 = .ok (.isub, 1) := by decide +kernel
theorem d_mo_digit_72 : decode b_mo_digit 72 = .ok (.invokevirtual 194, 3) := by decide +kernel
theorem d_mo_digit_75 : decode b_mo_digit 75 = .ok (.iadd, 1) := by decide +kernel
theorem d_mo_digit_76 : decode b_mo_digit 76 = .ok (.i2c, 1) := by decide +kernel
theorem d_mo_digit_77 : decode b_mo_digit 77 = .ok (.ireturn, 1) := by decide +kernel
theorem d_mo_digit_78 : decode b_mo_digit 78 = .ok (.aload_n 0, 1) := by decide +kernel
theorem d_mo_digit_79 : decode b_mo_digit 79 = .ok (.bipush 72, 2) := by decide +kernel
theorem d_mo_digit_81 : decode b_mo_digit 81 = .ok (.invokevirtual 88, 3) := by decide +kernel
theorem d_mo_digit_84 : decode b_mo_digit 84 = .ok (.ifCond .ne 11, 3) := by decide +kernel
theorem d_mo_digit_87 : decode b_mo_digit 87 = .ok (.iload 4, 2) := by decide +kernel
theorem d_mo_digit_89 : decode b_mo_digit 89 = .ok (.iload_n 2, 1) := by decide +kernel
theorem d_mo_digit_90 : decode b_mo_digit 90 = .ok (.iload_n 3, 1) := by decide +kernel
theorem d_mo_digit_91 : decode b_mo_digit 91 = .ok (.iadd, 1) := by decide +kernel
theorem d_mo_digit_92 : decode b_mo_digit 92 = .ok (.if_icmp .le 5, 3) := by decide +kernel
theorem d_mo_digit_95 : decode b_mo_digit 95 = .ok (.iconst 0, 1) := by decide +kernel
theorem d_mo_digit_96 : decode b_mo_digit 96 = .ok (.ireturn, 1) := by decide +kernel
theorem d_mo_digit_97 : decode b_mo_digit 97 = .ok (.iload 4, 2) := by decide +kernel
theorem d_mo_digit_99 : decode b_mo_digit 99 = .ok (.iload_n 2, 1) := by decide +kernel
theorem d_mo_digit_100 : decode b_mo_digit 100 = .ok (.if_icmp .ne 8, 3) := by decide +kernel
theorem d_mo_digit_103 : decode b_mo_digit 103 = .ok (.bipush 47, 2) := by decide +kernel
theorem d_mo_digit_105 : decode b_mo_digit 105 = .ok (.goto 20, 3) := by decide +kernel
theorem d_mo_digit_108 : decode b_mo_digit 108 = .ok (.bipush 48, 2) := by decide +kernel
theorem d_mo_digit_110 : decode b_mo_digit 110 = .ok (.aload_n 0, 1) := by decide +kernel
theorem d_mo_digit_111 : decode b_mo_digit 111 = .ok (.sipush 145, 3) := by decide +kernel
theorem d_mo_digit_114 : decode b_mo_digit 114 = .ok (.iload_n 2, 1) := by decide +kernel
theorem d_mo_digit_115 : decode b_mo_digit 115 = .ok (.iload_n 3, 1) := by decide +kernel
theorem d_mo_digit_116 : decode b_mo_digit 116 = .ok (.iadd, 1) := by decide +kernel
theorem d_mo_digit_117 : decode b_mo_digit 117 = .ok (.iload 4, 2) := by decide +kernel
theorem d_mo_digit_119 : decode b_mo_digit 119 = .ok (.isub, 1) := by decide +kernel
theorem d_mo_digit_120 : decode b_mo_digit 120 = .ok (.invokevirtual 194, 3) := by decide +kernel
theorem d_mo_digit_123 : decode b_mo_digit 123 = .ok (.iadd, 1) := by decide +kernel
theorem d_mo_digit_124 : decode b_mo_digit 124 = .ok (.i2c, 1) := by decide +kernel
theorem d_mo_digit_125 : decode b_mo_digit 125 = .ok (.ireturn, 1) := by decide +kernel
theorem d_mo_bits_0 : decode b_mo_bits 0 = .ok (.aload_n 0, 1) := by decide +kernel
theorem d_mo_bits_1 : decode b_mo_bits 1 = .ok (.iconst 0, 1) := by decide +kernel
theorem d_mo_bits_2 : decode b_mo_bits 2 = .ok (.putfield 42, 3) := by decide +kernel
theorem d_mo_bits_5 : decode b_mo_bits 5 = .ok (.iload_n 2, 1) := by decide +kernel
theorem d_mo_bits_6 : decode b_mo_bits 6 = .ok (.ifCond .lt 9, 3) := by decide +kernel
theorem d_mo_bits_9 : decode b_mo_bits 9 = .ok (.iload_n 2, 1) := by decide +kernel
theorem d_mo_bits_10 : decode b_mo_bits 10 = .ok (.bipush 7, 2) := by decide +kernel
theorem d_mo_bits_12 : decode b_mo_bits 12 = .ok (.if_icmp .le 5, 3) := by decide +kernel
theorem d_mo_bits_15 : decode b_mo_bits 15 = .ok (.iconst 0, 1) := by decide +kernel
theorem d_mo_bits_16 : decode b_mo_bits 16 = .ok (.ireturn, 1) := by decide +kernel
theorem d_mo_bits_17 : decode b_mo_bits 17 = .ok (.aload_n 0, 1) := by decide +kernel
theorem d_mo_bits_18 : decode b_mo_bits 18 = .ok (.iload_n 1, 1) := by decide +kernel
theorem d_mo_bits_19 : decode b_mo_bits 19 = .ok (.ifCond .ne 9, 3) := by decide +kernel
theorem d_mo_bits_22 : decode b_mo_bits 22 = .ok (.sipush 144, 3) := by decide +kernel
theorem d_mo_bits_25 : decode b_mo_bits 25 = .ok (.goto 6, 3) := by decide +kernel
theorem d_mo_bits_28 : decode b_mo_bits 28 = .ok (.sipush 145, 3) := by decide +kernel
theorem d_mo_bits_31 : decode b_mo_bits 31 = .ok (.sipush 150, 3) := by decide +kernel
theorem d_mo_bits_34 : decode b_mo_bits 34 = .ok (.invokevirtual 62, 3) := by decide +kernel
theorem d_mo_bits_37 : decode b_mo_bits 37 = .ok (.iconst 0, 1) := by decide +kernel
theorem d_mo_bits_38 : decode b_mo_bits 38 = .ok (.istore_n 3, 1) := by decide +kernel
theorem d_mo_bits_39 : decode b_mo_bits 39 = .ok (.iload_n 3, 1) := by decide +kernel
theorem d_mo_bits_40 : decode b_mo_bits 40 = .ok (.iconst 2, 1) := by decide +kernel
theorem d_mo_bits_41 : decode b_mo_bits 41 = .ok (.iload_n 2, 1) := by decide +kernel
theorem d_mo_bits_42 : decode b_mo_bits 42 = .ok (.imul, 1) := by decide +kernel
theorem d_mo_bits_43 : decode b_mo_bits 43 = .ok (.if_icmp .ge 19, 3) := by decide +kernel
theorem d_mo_bits_46 : decode b_mo_bits 46 = .ok (.aload_n 0, 1) := by decide +kernel
theorem d_mo_bits_47 : decode b_mo_bits 47 = .ok (.sipush 150, 3) := by decide +kernel
theorem d_mo_bits_50 : decode b_mo_bits 50 = .ok (.ldc 197, 2) := by decide +kernel
theorem d_mo_bits_52 : decode b_mo_bits 52 = .ok (.invokevirtual 69, 3) := by decide +kernel
theorem d_mo_bits_55 : decode b_mo_bits 55 = .ok (.pop, 1) := by decide +kernel
theorem d_mo_bits_56 : decode b_mo_bits 56 = .ok (.iinc 3 1, 3) := by decide +kernel
theorem d_mo_bits_59 : decode b_mo_bits 59 = .ok (.goto (-20), 3) := by decide +kernel
theorem d_mo_bits_62 : decode b_mo_bits 62 = .ok (.iconst 0, 1) := by decide +kernel
theorem d_mo_bits_63 : decode b_mo_bits 63 = .ok (.istore_n 3, 1) := by decide +kernel
theorem d_mo_bits_64 : decode b_mo_bits 64 = .ok (.aload_n 0, 1) := by decide +kernel
theorem d_mo_bits_65 : decode b_mo_bits 65 = .ok (.getfield 20, 3) := by decide +kernel
theorem d_mo_bits_68 : decode b_mo_bits 68 = .ok (.sipush 150, 3) := by decide +kernel
theorem d_mo_bits_71 : decode b_mo_bits 71 = .ok (.iaload, 1) := by decide +kernel
theorem d_mo_bits_72 : decode b_mo_bits 72 = .ok (.iconst 1, 1) := by decide +kernel
theorem d_mo_bits_73 : decode b_mo_bits 73 = .ok (.isub, 1) := by decide +kernel
theorem d_mo_bits_74 : decode b_mo_bits 74 = .ok (.istore 4, 2) := by decide +kernel
theorem d_mo_bits_76 : decode b_mo_bits 76 = .ok (.iload 4, 2) := by decide +kernel
theorem d_mo_bits_78 : decode b_mo_bits 78 = .ok (.ifCond .lt 27, 3) := by decide +kernel
theorem d_mo_bits_81 : decode b_mo_bits 81 = .ok (.iload_n 3, 1) := by decide +kernel
theorem d_mo_bits_82 : decode b_mo_bits 82 = .ok (.sipush 10000, 3) := by decide +kernel
theorem d_mo_bits_85 : decode b_mo_bits 85 = .ok (.imul, 1) := by decide +kernel
theorem d_mo_bits_86 : decode b_mo_bits 86 = .ok (.aload_n 0, 1) := by decide +kernel
theorem d_mo_bits_87 : decode b_mo_bits 87 = .ok (.getfield 17, 3) := by decide +kernel
theorem d_mo_bits_90 : decode b_mo_bits 90 = .ok (.sipush 6000, 3) := by decide +kernel
theorem d_mo_bits_93 : decode b_mo_bits 93 = .ok (.iload 4, 2) := by decide +kernel
theorem d_mo_bits_95 : decode b_mo_bits 95 = .ok (.iadd, 1) := by decide +kernel
theorem d_mo_bits_96 : decode b_mo_bits 96 = .ok (.iaload, 1) := by decide +kernel
theorem d_mo_bits_97 : decode b_mo_bits 97 = .ok (.iadd, 1) := by decide +kernel
theorem d_mo_bits_98 : decode b_mo_bits 98 = .ok (.istore_n 3, 1) := by decide +kernel
theorem d_mo_bits_99 : decode b_mo_bits 99 = .ok (.iinc 4 (-1), 3) := by decide +kernel
theorem d_mo_bits_102 : decode b_mo_bits 102 = .ok (.goto (-26), 3) := by decide +kernel
theorem d_mo_bits_105 : decode b_mo_bits 105 = .ok (.iload_n 3, 1) := by decide +kernel
theorem d_mo_bits_106 : decode b_mo_bits 106 = .ok (.ireturn, 1) := by decide +kernel
theorem d_mo_against_0 : decode b_mo_against 0 = .ok (.aload_n 0, 1) := by decide +kernel
theorem d_mo_against_1 : decode b_mo_against 1 = .ok (.iload_n 1, 1) := by decide +kernel
theorem d_mo_against_2 : decode b_mo_against 2 = .ok (.invokestatic 185, 3) := by decide +kernel
theorem d_mo_against_5 : decode b_mo_against 5 = .ok (.ifCond .eq 7, 3) := by decide +kernel
theorem d_mo_against_8 : decode b_mo_against 8 = .ok (.iconst 0, 1) := by decide +kernel
theorem d_mo_against_9 : decode b_mo_against 9 = .ok (.goto 4, 3) := by decide +kernel
theorem d_mo_against_12 : decode b_mo_against 12 = .ok (.iconst 1, 1) := by decide +kernel
theorem d_mo_against_13 : decode b_mo_against 13 = .ok (.putfield 42, 3) := by decide +kernel
theorem d_mo_against_16 : decode b_mo_against 16 = .ok (.aload_n 0, 1) := by decide +kernel
theorem d_mo_against_17 : decode b_mo_against 17 = .ok (.getfield 42, 3) := by decide +kernel
theorem d_mo_against_20 : decode b_mo_against 20 = .ok (.ifCond .le 7, 3) := by decide +kernel
theorem d_mo_against_23 : decode b_mo_against 23 = .ok (.iconst 0, 1) := by decide +kernel
theorem d_mo_against_24 : decode b_mo_against 24 = .ok (.goto 13, 3) := by decide +kernel
theorem d_mo_against_27 : decode b_mo_against 27 = .ok (.aload_n 0, 1) := by decide +kernel
theorem d_mo_against_28 : decode b_mo_against 28 = .ok (.bipush 72, 2) := by decide +kernel
theorem d_mo_against_30 : decode b_mo_against 30 = .ok (.bipush 64, 2) := by decide +kernel
theorem d_mo_against_32 : decode b_mo_against 32 = .ok (.iload_n 1, 1) := by decide +kernel
theorem d_mo_against_33 : decode b_mo_against 33 = .ok (.iadd, 1) := by decide +kernel
theorem d_mo_against_34 : decode b_mo_against 34 = .ok (.invokevirtual 161, 3) := by decide +kernel
theorem d_mo_against_37 : decode b_mo_against 37 = .ok (.ireturn, 1) := by decide +kernel
theorem d_mo_fetch_0 : decode b_mo_fetch 0 = .ok (.aload_n 0, 1) := by decide +kernel
theorem d_mo_fetch_1 : decode b_mo_fetch 1 = .ok (.iload_n 1, 1) := by decide +kernel
theorem d_mo_fetch_2 : decode b_mo_fetch 2 = .ok (.invokestatic 185, 3) := by decide +kernel
theorem d_mo_fetch_5 : decode b_mo_fetch 5 = .ok (.ifCond .eq 7, 3) := by decide +kernel
theorem d_mo_fetch_8 : decode b_mo_fetch 8 = .ok (.iconst 0, 1) := by decide +kernel
theorem d_mo_fetch_9 : decode b_mo_fetch 9 = .ok (.goto 4, 3) := by decide +kernel
theorem d_mo_fetch_12 : decode b_mo_fetch 12 = .ok (.iconst 1, 1) := by decide +kernel
theorem d_mo_fetch_13 : decode b_mo_fetch 13 = .ok (.putfield 42, 3) := by decide +kernel
theorem d_mo_fetch_16 : decode b_mo_fetch 16 = .ok (.aload_n 0, 1) := by decide +kernel
theorem d_mo_fetch_17 : decode b_mo_fetch 17 = .ok (.getfield 42, 3) := by decide +kernel
theorem d_mo_fetch_20 : decode b_mo_fetch 20 = .ok (.ifCond .le 5, 3) := by decide +kernel
theorem d_mo_fetch_23 : decode b_mo_fetch 23 = .ok (.iconst 0, 1) := by decide +kernel
theorem d_mo_fetch_24 : decode b_mo_fetch 24 = .ok (.ireturn, 1) := by decide +kernel
theorem d_mo_fetch_25 : decode b_mo_fetch 25 = .ok (.aload_n 0, 1) := by decide +kernel
theorem d_mo_fetch_26 : decode b_mo_fetch 26 = .ok (.bipush 64, 2) := by decide +kernel
theorem d_mo_fetch_28 : decode b_mo_fetch 28 = .ok (.iload_n 1, 1) := by decide +kernel
theorem d_mo_fetch_29 : decode b_mo_fetch 29 = .ok (.iadd, 1) := by decide +kernel
theorem d_mo_fetch_30 : decode b_mo_fetch 30 = .ok (.bipush 72, 2) := by decide +kernel
theorem d_mo_fetch_32 : decode b_mo_fetch 32 = .ok (.invokevirtual 127, 3) := by decide +kernel
theorem d_mo_fetch_35 : decode b_mo_fetch 35 = .ok (.aload_n 0, 1) := by decide +kernel
theorem d_mo_fetch_36 : decode b_mo_fetch 36 = .ok (.bipush 72, 2) := by decide +kernel
theorem d_mo_fetch_38 : decode b_mo_fetch 38 = .ok (.invokevirtual 182, 3) := by decide +kernel
theorem d_mo_fetch_41 : decode b_mo_fetch 41 = .ok (.ireturn, 1) := by decide +kernel
