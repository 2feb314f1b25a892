theorem d_wh_init_0 : decode b_wh_init 0 = .ok (.aload_n 0, 1) := by decide +kernel
theorem d_wh_init_1 : decode b_wh_init 1 = .ok (.invokespecial 3, 3) := by decide +kernel
theorem d_wh_init_4 : decode b_wh_init 4 = .ok (.aload_n 0, 1) := by decide +kernel
theorem d_wh_init_5 : decode b_wh_init 5 = .ok (.iload_n 1, 1) := by decide +kernel
theorem d_wh_init_6 : decode b_wh_init 6 = .ok (.newarray .int, 2) := by decide +kernel
theorem d_wh_init_8 : decode b_wh_init 8 = .ok (.putfield 9, 3) := by decide +kernel
theorem d_wh_init_11 : decode b_wh_init 11 = .ok (.return_, 1) := by decide +kernel
theorem d_wh_become_0 : decode b_wh_become 0 = .ok (.aload_n 0, 1) := by decide +kernel
theorem d_wh_become_1 : decode b_wh_become 1 = .ok (.getfield 9, 3) := by decide +kernel
theorem d_wh_become_4 : decode b_wh_become 4 = .ok (.iconst 0, 1) := by decide +kernel
theorem d_wh_become_5 : decode b_wh_become 5 = .ok (.iload_n 1, 1) := by decide +kernel
theorem d_wh_become_6 : decode b_wh_become 6 = .ok (.iastore, 1) := by decide +kernel
theorem d_wh_become_7 : decode b_wh_become 7 = .ok (.aload_n 0, 1) := by decide +kernel
theorem d_wh_become_8 : decode b_wh_become 8 = .ok (.iload_n 1, 1) := by decide +kernel
theorem d_wh_become_9 : decode b_wh_become 9 = .ok (.ifCond .ne 7, 3) := by decide +kernel
theorem d_wh_become_12 : decode b_wh_become 12 = .ok (.iconst 0, 1) := by decide +kernel
theorem d_wh_become_13 : decode b_wh_become 13 = .ok (.goto 4, 3) := by decide +kernel
theorem d_wh_become_16 : decode b_wh_become 16 = .ok (.iconst 1, 1) := by decide +kernel
theorem d_wh_become_17 : decode b_wh_become 17 = .ok (.putfield 15, 3) := by decide +kernel
theorem d_wh_become_20 : decode b_wh_become 20 = .ok (.return_, 1) := by decide +kernel
theorem d_wh_copy_0 : decode b_wh_copy 0 = .ok (.aload_n 0, 1) := by decide +kernel
theorem d_wh_copy_1 : decode b_wh_copy 1 = .ok (.aload_n 1, 1) := by decide +kernel
theorem d_wh_copy_2 : decode b_wh_copy 2 = .ok (.getfield 15, 3) := by decide +kernel
theorem d_wh_copy_5 : decode b_wh_copy 5 = .ok (.putfield 15, 3) := by decide +kernel
theorem d_wh_copy_8 : decode b_wh_copy 8 = .ok (.aload_n 1, 1) := by decide +kernel
theorem d_wh_copy_9 : decode b_wh_copy 9 = .ok (.getfield 9, 3) := by decide +kernel
theorem d_wh_copy_12 : decode b_wh_copy 12 = .ok (.iconst 0, 1) := by decide +kernel
theorem d_wh_copy_13 : decode b_wh_copy 13 = .ok (.aload_n 0, 1) := by decide +kernel
theorem d_wh_copy_14 : decode b_wh_copy 14 = .ok (.getfield 9, 3) := by decide +kernel
theorem d_wh_copy_17 : decode b_wh_copy 17 = .ok (.iconst 0, 1) := by decide +kernel
theorem d_wh_copy_18 : decode b_wh_copy 18 = .ok (.aload_n 0, 1) := by decide +kernel
theorem d_wh_copy_19 : decode b_wh_copy 19 = .ok (.getfield 15, 3) := by decide +kernel
theorem d_wh_copy_22 : decode b_wh_copy 22 = .ok (.invokestatic 19, 3) := by decide +kernel
theorem d_wh_copy_25 : decode b_wh_copy 25 = .ok (.return_, 1) := by decide +kernel
theorem d_wh_isZero_0 : decode b_wh_isZero 0 = .ok (.aload_n 0, 1) := by decide +kernel
theorem d_wh_isZero_1 : decode b_wh_isZero 1 = .ok (.getfield 15, 3) := by decide +kernel
theorem d_wh_isZero_4 : decode b_wh_isZero 4 = .ok (.ifCond .ne 7, 3) := by decide +kernel
theorem d_wh_isZero_7 : decode b_wh_isZero 7 = .ok (.iconst 1, 1) := by decide +kernel
theorem d_wh_isZero_8 : decode b_wh_isZero 8 = .ok (.goto 4, 3) := by decide +kernel
theorem d_wh_isZero_11 : decode b_wh_isZero 11 = .ok (.iconst 0, 1) := by decide +kernel
theorem d_wh_isZero_12 : decode b_wh_isZero 12 = .ok (.ireturn, 1) := by decide +kernel
theorem d_wh_isOne_0 : decode b_wh_isOne 0 = .ok (.aload_n 0, 1) := by decide +kernel
theorem d_wh_isOne_1 : decode b_wh_isOne 1 = .ok (.getfield 15, 3) := by decide +kernel
theorem d_wh_isOne_4 : decode b_wh_isOne 4 = .ok (.iconst 1, 1) := by decide +kernel
theorem d_wh_isOne_5 : decode b_wh_isOne 5 = .ok (.if_icmp .ne 17, 3) := by decide +kernel
theorem d_wh_isOne_8 : decode b_wh_isOne 8 = .ok (.aload_n 0, 1) := by decide +kernel
theorem d_wh_isOne_9 : decode b_wh_isOne 9 = .ok (.getfield 9, 3) := by decide +kernel
theorem d_wh_isOne_12 : decode b_wh_isOne 12 = .ok (.iconst 0, 1) := by decide +kernel
theorem d_wh_isOne_13 : decode b_wh_isOne 13 = .ok (.iaload, 1) := by decide +kernel
theorem d_wh_isOne_14 : decode b_wh_isOne 14 = .ok (.iconst 1, 1) := by decide +kernel
theorem d_wh_isOne_15 : decode b_wh_isOne 15 = .ok (.if_icmp .ne 7, 3) := by decide +kernel
theorem d_wh_isOne_18 : decode b_wh_isOne 18 = .ok (.iconst 1, 1) := by decide +kernel
theorem d_wh_isOne_19 : decode b_wh_isOne 19 = .ok (.goto 4, 3) := by decide +kernel
theorem d_wh_isOne_22 : decode b_wh_isOne 22 = .ok (.iconst 0, 1) := by decide +kernel
theorem d_wh_isOne_23 : decode b_wh_isOne 23 = .ok (.ireturn, 1) := by decide +kernel
theorem d_wh_isTooLarge_0 : decode b_wh_isTooLarge 0 = .ok (.aload_n 0, 1) := by decide +kernel
theorem d_wh_isTooLarge_1 : decode b_wh_isTooLarge 1 = .ok (.getfield 15, 3) := by decide +kernel
theorem d_wh_isTooLarge_4 : decode b_wh_isTooLarge 4 = .ok (.bipush 8, 2) := by decide +kernel
theorem d_wh_isTooLarge_6 : decode b_wh_isTooLarge 6 = .ok (.if_icmp .le 7, 3) := by decide +kernel
theorem d_wh_isTooLarge_9 : decode b_wh_isTooLarge 9 = .ok (.iconst 1, 1) := by decide +kernel
theorem d_wh_isTooLarge_10 : decode b_wh_isTooLarge 10 = .ok (.goto 4, 3) := by decide +kernel
theorem d_wh_isTooLarge_13 : decode b_wh_isTooLarge 13 = .ok (.iconst 0, 1) := by decide +kernel
theorem d_wh_isTooLarge_14 : decode b_wh_isTooLarge 14 = .ok (.ireturn, 1) := by decide +kernel
theorem d_wh_limb_0 : decode b_wh_limb 0 = .ok (.iload_n 1, 1) := by decide +kernel
theorem d_wh_limb_1 : decode b_wh_limb 1 = .ok (.ifCond .lt 20, 3) := by decide +kernel
theorem d_wh_limb_4 : decode b_wh_limb 4 = .ok (.iload_n 1, 1) := by decide +kernel
theorem d_wh_limb_5 : decode b_wh_limb 5 = .ok (.aload_n 0, 1) := by decide +kernel
theorem d_wh_limb_6 : decode b_wh_limb 6 = .ok (.getfield 15, 3) := by decide +kernel
theorem d_wh_limb_9 : decode b_wh_limb 9 = .ok (.if_icmp .ge 12, 3) := by decide +kernel
theorem d_wh_limb_12 : decode b_wh_limb 12 = .ok (.aload_n 0, 1) := by decide +kernel
theorem d_wh_limb_13 : decode b_wh_limb 13 = .ok (.getfield 9, 3) := by decide +kernel
theorem d_wh_limb_16 : decode b_wh_limb 16 = .ok (.iload_n 1, 1) := by decide +kernel
theorem d_wh_limb_17 : decode b_wh_limb 17 = .ok (.iaload, 1) := by decide +kernel
theorem d_wh_limb_18 : decode b_wh_limb 18 = .ok (.goto 4, 3) := by decide +kernel
theorem d_wh_limb_21 : decode b_wh_limb 21 = .ok (.iconst 0, 1) := by decide +kernel
theorem d_wh_limb_22 : decode b_wh_limb 22 = .ok (.ireturn, 1) := by decide +kernel
theorem d_wh_word_0 : decode b_wh_word 0 = .ok (.iload_n 1, 1) := by decide +kernel
theorem d_wh_word_1 : decode b_wh_word 1 = .ok (.ifCond .lt 9, 3) := by decide +kernel
theorem d_wh_word_4 : decode b_wh_word 4 = .ok (.iload_n 1, 1) := by decide +kernel
theorem d_wh_word_5 : decode b_wh_word 5 = .ok (.bipush 8, 2) := by decide +kernel
theorem d_wh_word_7 : decode b_wh_word 7 = .ok (.if_icmp .lt 5, 3) := by decide +kernel
theorem d_wh_word_10 : decode b_wh_word 10 = .ok (.iconst 0, 1) := by decide +kernel
theorem d_wh_word_11 : decode b_wh_word 11 = .ok (.ireturn, 1) := by decide +kernel
theorem d_wh_word_12 : decode b_wh_word 12 = .ok (.bipush 32, 2) := by decide +kernel
theorem d_wh_word_14 : decode b_wh_word 14 = .ok (.iload_n 1, 1) := by decide +kernel
theorem d_wh_word_15 : decode b_wh_word 15 = .ok (.imul, 1) := by decide +kernel
theorem d_wh_word_16 : decode b_wh_word 16 = .ok (.bipush 30, 2) := by decide +kernel
theorem d_wh_word_18 : decode b_wh_word 18 = .ok (.idiv, 1) := by decide +kernel
theorem d_wh_word_19 : decode b_wh_word 19 = .ok (.istore_n 2, 1) := by decide +kernel
theorem d_wh_word_20 : decode b_wh_word 20 = .ok (.aload_n 0, 1) := by decide +kernel
theorem d_wh_word_21 : decode b_wh_word 21 = .ok (.iload_n 2, 1) := by decide +kernel
theorem d_wh_word_22 : decode b_wh_word 22 = .ok (.invokevirtual 25, 3) := by decide +kernel
theorem d_wh_word_25 : decode b_wh_word 25 = .ok (.i2l, 1) := by decide +kernel
theorem d_wh_word_26 : decode b_wh_word 26 = .ok (.aload_n 0, 1) := by decide +kernel
theorem d_wh_word_27 : decode b_wh_word 27 = .ok (.iload_n 2, 1) := by decide +kernel
theorem d_wh_word_28 : decode b_wh_word 28 = .ok (.iconst 1, 1) := by decide +kernel
theorem d_wh_word_29 : decode b_wh_word 29 = .ok (.iadd, 1) := by decide +kernel
theorem d_wh_word_30 : decode b_wh_word 30 = .ok (.invokevirtual 25, 3) := by decide +kernel
theorem d_wh_word_33 : decode b_wh_word 33 = .ok (.i2l, 1) := by decide +kernel
theorem d_wh_word_34 : decode b_wh_word 34 = .ok (.bipush 30, 2) := by decide +kernel
theorem d_wh_word_36 : decode b_wh_word 36 = .ok (.lshl, 1) := by decide +kernel
theorem d_wh_word_37 : decode b_wh_word 37 = .ok (.lor, 1) := by decide +kernel
theorem d_wh_word_38 : decode b_wh_word 38 = .ok (.lstore_n 3, 1) := by decide +kernel
theorem d_wh_word_39 : decode b_wh_word 39 = .ok (.lload_n 3, 1) := by decide +kernel
theorem d_wh_word_40 : decode b_wh_word 40 = .ok (.bipush 32, 2) := by decide +kernel
theorem d_wh_word_42 : decode b_wh_word 42 = .ok (.iload_n 1, 1) := by decide +kernel
theorem d_wh_word_43 : decode b_wh_word 43 = .ok (.imul, 1) := by decide +kernel
theorem d_wh_word_44 : decode b_wh_word 44 = .ok (.bipush 30, 2) := by decide +kernel
theorem d_wh_word_46 : decode b_wh_word 46 = .ok (.irem, 1) := by decide +kernel
theorem d_wh_word_47 : decode b_wh_word 47 = .ok (.lushr, 1) := by decide +kernel
theorem d_wh_word_48 : decode b_wh_word 48 = .ok (.l2i, 1) := by decide +kernel
theorem d_wh_word_49 : decode b_wh_word 49 = .ok (.ireturn, 1) := by decide +kernel
theorem d_wh_compare_0 : decode b_wh_compare 0 = .ok (.aload_n 0, 1) := by decide +kernel
theorem d_wh_compare_1 : decode b_wh_compare 1 = .ok (.getfield 15, 3) := by decide +kernel
theorem d_wh_compare_4 : decode b_wh_compare 4 = .ok (.aload_n 1, 1) := by decide +kernel
theorem d_wh_compare_5 : decode b_wh_compare 5 = .ok (.getfield 15, 3) := by decide +kernel
theorem d_wh_compare_8 : decode b_wh_compare 8 = .ok (.if_icmp .eq 20, 3) := by decide +kernel
theorem d_wh_compare_11 : decode b_wh_compare 11 = .ok (.aload_n 0, 1) := by decide +kernel
theorem d_wh_compare_12 : decode b_wh_compare 12 = .ok (.getfield 15, 3) := by decide +kernel
theorem d_wh_compare_15 : decode b_wh_compare 15 = .ok (.aload_n 1, 1) := by decide +kernel
theorem d_wh_compare_16 : decode b_wh_compare 16 = .ok (.getfield 15, 3) := by decide +kernel
theorem d_wh_compare_19 : decode b_wh_compare 19 = .ok (.if_icmp .ge 7, 3) := by decide +kernel
theorem d_wh_compare_22 : decode b_wh_compare 22 = .ok (.iconst (-1), 1) := by decide +kernel
theorem d_wh_compare_23 : decode b_wh_compare 23 = .ok (.goto 4, 3) := by decide +kernel
theorem d_wh_compare_26 : decode b_wh_compare 26 = .ok (.iconst 1, 1) := by decide +kernel
theorem d_wh_compare_27 : decode b_wh_compare 27 = .ok (.ireturn, 1) := by decide +kernel
theorem d_wh_compare_28 : decode b_wh_compare 28 = .ok (.aload_n 0, 1) := by decide +kernel
theorem d_wh_compare_29 : decode b_wh_compare 29 = .ok (.getfield 15, 3) := by decide +kernel
theorem d_wh_compare_32 : decode b_wh_compare 32 = .ok (.iconst 1, 1) := by decide +kernel
theorem d_wh_compare_33 : decode b_wh_compare 33 = .ok (.isub, 1) := by decide +kernel
theorem d_wh_compare_34 : decode b_wh_compare 34 = .ok (.istore_n 2, 1) := by decide +kernel
theorem d_wh_compare_35 : decode b_wh_compare 35 = .ok (.iload_n 2, 1) := by decide +kernel
theorem d_wh_compare_36 : decode b_wh_compare 36 = .ok (.ifCond .lt 45, 3) := by decide +kernel
theorem d_wh_compare_39 : decode b_wh_compare 39 = .ok (.aload_n 0, 1) := by decide +kernel
theorem d_wh_compare_40 : decode b_wh_compare 40 = .ok (.getfield 9, 3) := by decide +kernel
theorem d_wh_compare_43 : decode b_wh_compare 43 = .ok (.iload_n 2, 1) := by decide +kernel
theorem d_wh_compare_44 : decode b_wh_compare 44 = .ok (.iaload, 1) := by decide +kernel
theorem d_wh_compare_45 : decode b_wh_compare 45 = .ok (.aload_n 1, 1) := by decide +kernel
theorem d_wh_compare_46 : decode b_wh_compare 46 = .ok (.getfield 9, 3) := by decide +kernel
theorem d_wh_compare_49 : decode b_wh_compare 49 = .ok (.iload_n 2, 1) := by decide +kernel
theorem d_wh_compare_50 : decode b_wh_compare 50 = .ok (.iaload, 1) := by decide +kernel
theorem d_wh_compare_51 : decode b_wh_compare 51 = .ok (.if_icmp .eq 24, 3) := by decide +kernel
theorem d_wh_compare_54 : decode b_wh_compare 54 = .ok (.aload_n 0, 1) := by decide +kernel
theorem d_wh_compare_55 : decode b_wh_compare 55 = .ok (.getfield 9, 3) := by decide +kernel
theorem d_wh_compare_58 : decode b_wh_compare 58 = .ok (.iload_n 2, 1) := by decide +kernel
theorem d_wh_compare_59 : decode b_wh_compare 59 = .ok (.iaload, 1) := by decide +kernel
theorem d_wh_compare_60 : decode b_wh_compare 60 = .ok (.aload_n 1, 1) := by decide +kernel
theorem d_wh_compare_61 : decode b_wh_compare 61 = .ok (.getfield 9, 3) := by decide +kernel
theorem d_wh_compare_64 : decode b_wh_compare 64 = .ok (.iload_n 2, 1) := by decide +kernel
theorem d_wh_compare_65 : decode b_wh_compare 65 = .ok (.iaload, 1) := by decide +kernel
theorem d_wh_compare_66 : decode b_wh_compare 66 = .ok (.if_icmp .ge 7, 3) := by decide +kernel
theorem d_wh_compare_69 : decode b_wh_compare 69 = .ok (.iconst (-1), 1) := by decide +kernel
theorem d_wh_compare_70 : decode b_wh_compare 70 = .ok (.goto 4, 3) := by decide +kernel
theorem d_wh_compare_73 : decode b_wh_compare 73 = .ok (.iconst 1, 1) := by decide +kernel
theorem d_wh_compare_74 : decode b_wh_compare 74 = .ok (.ireturn, 1) := by decide +kernel
theorem d_wh_compare_75 : decode b_wh_compare 75 = .ok (.iinc 2 (-1), 3) := by decide +kernel
theorem d_wh_compare_78 : decode b_wh_compare 78 = .ok (.goto (-43), 3) := by decide +kernel
theorem d_wh_compare_81 : decode b_wh_compare 81 = .ok (.iconst 0, 1) := by decide +kernel
theorem d_wh_compare_82 : decode b_wh_compare 82 = .ok (.ireturn, 1) := by decide +kernel
theorem d_wh_add_0 : decode b_wh_add 0 = .ok (.aload_n 0, 1) := by decide +kernel
theorem d_wh_add_1 : decode b_wh_add 1 = .ok (.getfield 15, 3) := by decide +kernel
theorem d_wh_add_4 : decode b_wh_add 4 = .ok (.aload_n 1, 1) := by decide +kernel
theorem d_wh_add_5 : decode b_wh_add 5 = .ok (.getfield 15, 3) := by decide +kernel
theorem d_wh_add_8 : decode b_wh_add 8 = .ok (.invokestatic 29, 3) := by decide +kernel
theorem d_wh_add_11 : decode b_wh_add 11 = .ok (.istore_n 2, 1) := by decide +kernel
theorem d_wh_add_12 : decode b_wh_add 12 = .ok (.iconst 0, 1) := by decide +kernel
theorem d_wh_add_13 : decode b_wh_add 13 = .ok (.istore_n 3, 1) := by decide +kernel
theorem d_wh_add_14 : decode b_wh_add 14 = .ok (.iconst 0, 1) := by decide +kernel
theorem d_wh_add_15 : decode b_wh_add 15 = .ok (.istore 4, 2) := by decide +kernel
theorem d_wh_add_17 : decode b_wh_add 17 = .ok (.iload 4, 2) := by decide +kernel
theorem d_wh_add_19 : decode b_wh_add 19 = .ok (.iload_n 2, 1) := by decide +kernel
theorem d_wh_add_20 : decode b_wh_add 20 = .ok (.if_icmp .ge 72, 3) := by decide +kernel
theorem d_wh_add_23 : decode b_wh_add 23 = .ok (.iload 4, 2) := by decide +kernel
theorem d_wh_add_25 : decode b_wh_add 25 = .ok (.aload_n 0, 1) := by decide +kernel
theorem d_wh_add_26 : decode b_wh_add 26 = .ok (.getfield 15, 3) := by decide +kernel
theorem d_wh_add_29 : decode b_wh_add 29 = .ok (.if_icmp .ge 13, 3) := by decide +kernel
theorem d_wh_add_32 : decode b_wh_add 32 = .ok (.aload_n 0, 1) := by decide +kernel
theorem d_wh_add_33 : decode b_wh_add 33 = .ok (.getfield 9, 3) := by decide +kernel
theorem d_wh_add_36 : decode b_wh_add 36 = .ok (.iload 4, 2) := by decide +kernel
theorem d_wh_add_38 : decode b_wh_add 38 = .ok (.iaload, 1) := by decide +kernel
theorem d_wh_add_39 : decode b_wh_add 39 = .ok (.goto 4, 3) := by decide +kernel
theorem d_wh_add_42 : decode b_wh_add 42 = .ok (.iconst 0, 1) := by decide +kernel
theorem d_wh_add_43 : decode b_wh_add 43 = .ok (.iload 4, 2) := by decide +kernel
theorem d_wh_add_45 : decode b_wh_add 45 = .ok (.aload_n 1, 1) := by decide +kernel
theorem d_wh_add_46 : decode b_wh_add 46 = .ok (.getfield 15, 3) := by decide +kernel
theorem d_wh_add_49 : decode b_wh_add 49 = .ok (.if_icmp .ge 13, 3) := by decide +kernel
theorem d_wh_add_52 : decode b_wh_add 52 = .ok (.aload_n 1, 1) := by decide +kernel
theorem d_wh_add_53 : decode b_wh_add 53 = .ok (.getfield 9, 3) := by decide +kernel
theorem d_wh_add_56 : decode b_wh_add 56 = .ok (.iload 4, 2) := by decide +kernel
theorem d_wh_add_58 : decode b_wh_add 58 = .ok (.iaload, 1) := by decide +kernel
theorem d_wh_add_59 : decode b_wh_add 59 = .ok (.goto 4, 3) := by decide +kernel
theorem d_wh_add_62 : decode b_wh_add 62 = .ok (.iconst 0, 1) := by decide +kernel
theorem d_wh_add_63 : decode b_wh_add 63 = .ok (.iadd, 1) := by decide +kernel
theorem d_wh_add_64 : decode b_wh_add 64 = .ok (.iload_n 3, 1) := by decide +kernel
theorem d_wh_add_65 : decode b_wh_add 65 = .ok (.iadd, 1) := by decide +kernel
theorem d_wh_add_66 : decode b_wh_add 66 = .ok (.istore 5, 2) := by decide +kernel
theorem d_wh_add_68 : decode b_wh_add 68 = .ok (.aload_n 0, 1) := by decide +kernel
theorem d_wh_add_69 : decode b_wh_add 69 = .ok (.getfield 9, 3) := by decide +kernel
theorem d_wh_add_72 : decode b_wh_add 72 = .ok (.iload 4, 2) := by decide +kernel
theorem d_wh_add_74 : decode b_wh_add 74 = .ok (.iload 5, 2) := by decide +kernel
theorem d_wh_add_76 : decode b_wh_add 76 = .ok (.ldc 35, 2) := by decide +kernel
theorem d_wh_add_78 : decode b_wh_add 78 = .ok (.iand, 1) := by decide +kernel
theorem d_wh_add_79 : decode b_wh_add 79 = .ok (.iastore, 1) := by decide +kernel
theorem d_wh_add_80 : decode b_wh_add 80 = .ok (.iload 5, 2) := by decide +kernel
theorem d_wh_add_82 : decode b_wh_add 82 = .ok (.bipush 30, 2) := by decide +kernel
theorem d_wh_add_84 : decode b_wh_add 84 = .ok (.iushr, 1) := by decide +kernel
theorem d_wh_add_85 : decode b_wh_add 85 = .ok (.istore_n 3, 1) := by decide +kernel
theorem d_wh_add_86 : decode b_wh_add 86 = .ok (.iinc 4 1, 3) := by decide +kernel
theorem d_wh_add_89 : decode b_wh_add 89 = .ok (.goto (-72), 3) := by decide +kernel
theorem d_wh_add_92 : decode b_wh_add 92 = .ok (.aload_n 0, 1) := by decide +kernel
theorem d_wh_add_93 : decode b_wh_add 93 = .ok (.iload_n 2, 1) := by decide +kernel
theorem d_wh_add_94 : decode b_wh_add 94 = .ok (.putfield 15, 3) := by decide +kernel
theorem d_wh_add_97 : decode b_wh_add 97 = .ok (.iload_n 3, 1) := by decide +kernel
theorem d_wh_add_98 : decode b_wh_add 98 = .ok (.ifCond .eq 23, 3) := by decide +kernel
theorem d_wh_add_101 : decode b_wh_add 101 = .ok (.aload_n 0, 1) := by decide +kernel
theorem d_wh_add_102 : decode b_wh_add 102 = .ok (.getfield 9, 3) := by decide +kernel
theorem d_wh_add_105 : decode b_wh_add 105 = .ok (.aload_n 0, 1) := by decide +kernel
theorem d_wh_add_106 : decode b_wh_add 106 = .ok (.getfield 15, 3) := by decide +kernel
theorem d_wh_add_109 : decode b_wh_add 109 = .ok (.iload_n 3, 1) := by decide +kernel
theorem d_wh_add_110 : decode b_wh_add 110 = .ok (.iastore, 1) := by decide +kernel
theorem d_wh_add_111 : decode b_wh_add 111 = .ok (.aload_n 0, 1) := by decide +kernel
theorem d_wh_add_112 : decode b_wh_add 112 = .ok (.dup, 1) := by decide +kernel
theorem d_wh_add_113 : decode b_wh_add 113 = .ok (.getfield 15, 3) := by decide +kernel
theorem d_wh_add_116 : decode b_wh_add 116 = .ok (.iconst 1, 1) := by decide +kernel
theorem d_wh_add_117 : decode b_wh_add 117 = .ok (.iadd, 1) := by decide +kernel
theorem d_wh_add_118 : decode b_wh_add 118 = .ok (.putfield 15, 3) := by decide +kernel
theorem d_wh_add_121 : decode b_wh_add 121 = .ok (.return_, 1) := by decide +kernel
theorem d_wh_subtract_0 : decode b_wh_subtract 0 = .ok (.iconst 0, 1) := by decide +kernel
theorem d_wh_subtract_1 : decode b_wh_subtract 1 = .ok (.istore_n 2, 1) := by decide +kernel
theorem d_wh_subtract_2 : decode b_wh_subtract 2 = .ok (.iconst 0, 1) := by decide +kernel
theorem d_wh_subtract_3 : decode b_wh_subtract 3 = .ok (.istore_n 3, 1) := by decide +kernel
theorem d_wh_subtract_4 : decode b_wh_subtract 4 = .ok (.iload_n 3, 1) := by decide +kernel
theorem d_wh_subtract_5 : decode b_wh_subtract 5 = .ok (.aload_n 0, 1) := by decide +kernel
theorem d_wh_subtract_6 : decode b_wh_subtract 6 = .ok (.getfield 15, 3) := by decide +kernel
theorem d_wh_subtract_9 : decode b_wh_subtract 9 = .ok (.if_icmp .ge 60, 3) := by decide +kernel
theorem d_wh_subtract_12 : decode b_wh_subtract 12 = .ok (.aload_n 0, 1) := by decide +kernel
theorem d_wh_subtract_13 : decode b_wh_subtract 13 = .ok (.getfield 9, 3) := by decide +kernel
theorem d_wh_subtract_16 : decode b_wh_subtract 16 = .ok (.iload_n 3, 1) := by decide +kernel
theorem d_wh_subtract_17 : decode b_wh_subtract 17 = .ok (.iaload, 1) := by decide +kernel
theorem d_wh_subtract_18 : decode b_wh_subtract 18 = .ok (.iload_n 3, 1) := by decide +kernel
theorem d_wh_subtract_19 : decode b_wh_subtract 19 = .ok (.aload_n 1, 1) := by decide +kernel
theorem d_wh_subtract_20 : decode b_wh_subtract 20 = .ok (.getfield 15, 3) := by decide +kernel
theorem d_wh_subtract_23 : decode b_wh_subtract 23 = .ok (.if_icmp .ge 12, 3) := by decide +kernel
theorem d_wh_subtract_26 : decode b_wh_subtract 26 = .ok (.aload_n 1, 1) := by decide +kernel
theorem d_wh_subtract_27 : decode b_wh_subtract 27 = .ok (.getfield 9, 3) := by decide +kernel
theorem d_wh_subtract_30 : decode b_wh_subtract 30 = .ok (.iload_n 3, 1) := by decide +kernel
theorem d_wh_subtract_31 : decode b_wh_subtract 31 = .ok (.iaload, 1) := by decide +kernel
theorem d_wh_subtract_32 : decode b_wh_subtract 32 = .ok (.goto 4, 3) := by decide +kernel
theorem d_wh_subtract_35 : decode b_wh_subtract 35 = .ok (.iconst 0, 1) := by decide +kernel
theorem d_wh_subtract_36 : decode b_wh_subtract 36 = .ok (.isub, 1) := by decide +kernel
theorem d_wh_subtract_37 : decode b_wh_subtract 37 = .ok (.iload_n 2, 1) := by decide +kernel
theorem d_wh_subtract_38 : decode b_wh_subtract 38 = .ok (.isub, 1) := by decide +kernel
theorem d_wh_subtract_39 : decode b_wh_subtract 39 = .ok (.istore 4, 2) := by decide +kernel
theorem d_wh_subtract_41 : decode b_wh_subtract 41 = .ok (.aload_n 0, 1) := by decide +kernel
theorem d_wh_subtract_42 : decode b_wh_subtract 42 = .ok (.getfield 9, 3) := by decide +kernel
theorem d_wh_subtract_45 : decode b_wh_subtract 45 = .ok (.iload_n 3, 1) := by decide +kernel
theorem d_wh_subtract_46 : decode b_wh_subtract 46 = .ok (.iload 4, 2) := by decide +kernel
theorem d_wh_subtract_48 : decode b_wh_subtract 48 = .ok (.ldc 35, 2) := by decide +kernel
theorem d_wh_subtract_50 : decode b_wh_subtract 50 = .ok (.iand, 1) := by decide +kernel
theorem d_wh_subtract_51 : decode b_wh_subtract 51 = .ok (.iastore, 1) := by decide +kernel
theorem d_wh_subtract_52 : decode b_wh_subtract 52 = .ok (.iload 4, 2) := by decide +kernel
theorem d_wh_subtract_54 : decode b_wh_subtract 54 = .ok (.ifCond .ge 7, 3) := by decide +kernel
theorem d_wh_subtract_57 : decode b_wh_subtract 57 = .ok (.iconst 1, 1) := by decide +kernel
theorem d_wh_subtract_58 : decode b_wh_subtract 58 = .ok (.goto 4, 3) := by decide +kernel
theorem d_wh_subtract_61 : decode b_wh_subtract 61 = .ok (.iconst 0, 1) := by decide +kernel
theorem d_wh_subtract_62 : decode b_wh_subtract 62 = .ok (.istore_n 2, 1) := by decide +kernel
theorem d_wh_subtract_63 : decode b_wh_subtract 63 = .ok (.iinc 3 1, 3) := by decide +kernel
theorem d_wh_subtract_66 : decode b_wh_subtract 66 = .ok (.goto (-62), 3) := by decide +kernel
theorem d_wh_subtract_69 : decode b_wh_subtract 69 = .ok (.aload_n 0, 1) := by decide +kernel
theorem d_wh_subtract_70 : decode b_wh_subtract 70 = .ok (.aload_n 0, 1) := by decide +kernel
theorem d_wh_subtract_71 : decode b_wh_subtract 71 = .ok (.getfield 15, 3) := by decide +kernel
theorem d_wh_subtract_74 : decode b_wh_subtract 74 = .ok (.invokevirtual 36, 3) := by decide +kernel
theorem d_wh_subtract_77 : decode b_wh_subtract 77 = .ok (.return_, 1) := by decide +kernel
theorem d_wh_becomeProduct_0 : decode b_wh_becomeProduct 0 = .ok (.iconst 0, 1) := by decide +kernel
theorem d_wh_becomeProduct_1 : decode b_wh_becomeProduct 1 = .ok (.istore_n 3, 1) := by decide +kernel
theorem d_wh_becomeProduct_2 : decode b_wh_becomeProduct 2 = .ok (.iload_n 3, 1) := by decide +kernel
theorem d_wh_becomeProduct_3 : decode b_wh_becomeProduct 3 = .ok (.aload_n 1, 1) := by decide +kernel
theorem d_wh_becomeProduct_4 : decode b_wh_becomeProduct 4 = .ok (.getfield 15, 3) := by decide +kernel
theorem d_wh_becomeProduct_7 : decode b_wh_becomeProduct 7 = .ok (.aload_n 2, 1) := by decide +kernel
theorem d_wh_becomeProduct_8 : decode b_wh_becomeProduct 8 = .ok (.getfield 15, 3) := by decide +kernel
theorem d_wh_becomeProduct_11 : decode b_wh_becomeProduct 11 = .ok (.iadd, 1) := by decide +kernel
theorem d_wh_becomeProduct_12 : decode b_wh_becomeProduct 12 = .ok (.if_icmp .ge 16, 3) := by decide +kernel
theorem d_wh_becomeProduct_15 : decode b_wh_becomeProduct 15 = .ok (.aload_n 0, 1) := by decide +kernel
theorem d_wh_becomeProduct_16 : decode b_wh_becomeProduct 16 = .ok (.getfield 9, 3) := by decide +kernel
theorem d_wh_becomeProduct_19 : decode b_wh_becomeProduct 19 = .ok (.iload_n 3, 1) := by decide +kernel
theorem d_wh_becomeProduct_20 : decode b_wh_becomeProduct 20 = .ok (.iconst 0, 1) := by decide +kernel
theorem d_wh_becomeProduct_21 : decode b_wh_becomeProduct 21 = .ok (.iastore, 1) := by decide +kernel
theorem d_wh_becomeProduct_22 : decode b_wh_becomeProduct 22 = .ok (.iinc 3 1, 3) := by decide +kernel
theorem d_wh_becomeProduct_25 : decode b_wh_becomeProduct 25 = .ok (.goto (-23), 3) := by decide +kernel
theorem d_wh_becomeProduct_28 : decode b_wh_becomeProduct 28 = .ok (.iconst 0, 1) := by decide +kernel
theorem d_wh_becomeProduct_29 : decode b_wh_becomeProduct 29 = .ok (.istore_n 3, 1) := by decide +kernel
theorem d_wh_becomeProduct_30 : decode b_wh_becomeProduct 30 = .ok (.iload_n 3, 1) := by decide +kernel
theorem d_wh_becomeProduct_31 : decode b_wh_becomeProduct 31 = .ok (.aload_n 1, 1) := by decide +kernel
theorem d_wh_becomeProduct_32 : decode b_wh_becomeProduct 32 = .ok (.getfield 15, 3) := by decide +kernel
theorem d_wh_becomeProduct_35 : decode b_wh_becomeProduct 35 = .ok (.if_icmp .ge 103, 3) := by decide +kernel
theorem d_wh_becomeProduct_38 : decode b_wh_becomeProduct 38 = .ok (.aload_n 1, 1) := by decide +kernel
theorem d_wh_becomeProduct_39 : decode b_wh_becomeProduct 39 = .ok (.getfield 9, 3) := by decide +kernel
theorem d_wh_becomeProduct_42 : decode b_wh_becomeProduct 42 = .ok (.iload_n 3, 1) := by decide +kernel
theorem d_wh_becomeProduct_43 : decode b_wh_becomeProduct 43 = .ok (.iaload, 1) := by decide +kernel
theorem d_wh_becomeProduct_44 : decode b_wh_becomeProduct 44 = .ok (.i2l, 1) := by decide +kernel
theorem d_wh_becomeProduct_45 : decode b_wh_becomeProduct 45 = .ok (.lstore 4, 2) := by decide +kernel
theorem d_wh_becomeProduct_47 : decode b_wh_becomeProduct 47 = .ok (.lconst 0, 1) := by decide +kernel
theorem d_wh_becomeProduct_48 : decode b_wh_becomeProduct 48 = .ok (.lstore 6, 2) := by decide +kernel
theorem d_wh_becomeProduct_50 : decode b_wh_becomeProduct 50 = .ok (.iconst 0, 1) := by decide +kernel
theorem d_wh_becomeProduct_51 : decode b_wh_becomeProduct 51 = .ok (.istore 8, 2) := by decide +kernel
theorem d_wh_becomeProduct_53 : decode b_wh_becomeProduct 53 = .ok (.iload 8, 2) := by decide +kernel
theorem d_wh_becomeProduct_55 : decode b_wh_becomeProduct 55 = .ok (.aload_n 2, 1) := by decide +kernel
theorem d_wh_becomeProduct_56 : decode b_wh_becomeProduct 56 = .ok (.getfield 15, 3) := by decide +kernel
theorem d_wh_becomeProduct_59 : decode b_wh_becomeProduct 59 = .ok (.if_icmp .ge 59, 3) := by decide +kernel
theorem d_wh_becomeProduct_62 : decode b_wh_becomeProduct 62 = .ok (.lload 4, 2) := by decide +kernel
theorem d_wh_becomeProduct_64 : decode b_wh_becomeProduct 64 = .ok (.aload_n 2, 1) := by decide +kernel
theorem d_wh_becomeProduct_65 : decode b_wh_becomeProduct 65 = .ok (.getfield 9, 3) := by decide +kernel
theorem d_wh_becomeProduct_68 : decode b_wh_becomeProduct 68 = .ok (.iload 8, 2) := by decide +kernel
theorem d_wh_becomeProduct_70 : decode b_wh_becomeProduct 70 = .ok (.iaload, 1) := by decide +kernel
theorem d_wh_becomeProduct_71 : decode b_wh_becomeProduct 71 = .ok (.i2l, 1) := by decide +kernel
theorem d_wh_becomeProduct_72 : decode b_wh_becomeProduct 72 = .ok (.lmul, 1) := by decide +kernel
theorem d_wh_becomeProduct_73 : decode b_wh_becomeProduct 73 = .ok (.aload_n 0, 1) := by decide +kernel
theorem d_wh_becomeProduct_74 : decode b_wh_becomeProduct 74 = .ok (.getfield 9, 3) := by decide +kernel
theorem d_wh_becomeProduct_77 : decode b_wh_becomeProduct 77 = .ok (.iload_n 3, 1) := by decide +kernel
theorem d_wh_becomeProduct_78 : decode b_wh_becomeProduct 78 = .ok (.iload 8, 2) := by decide +kernel
theorem d_wh_becomeProduct_80 : decode b_wh_becomeProduct 80 = .ok (.iadd, 1) := by decide +kernel
theorem d_wh_becomeProduct_81 : decode b_wh_becomeProduct 81 = .ok (.iaload, 1) := by decide +kernel
theorem d_wh_becomeProduct_82 : decode b_wh_becomeProduct 82 = .ok (.i2l, 1) := by decide +kernel
theorem d_wh_becomeProduct_83 : decode b_wh_becomeProduct 83 = .ok (.ladd, 1) := by decide +kernel
theorem d_wh_becomeProduct_84 : decode b_wh_becomeProduct 84 = .ok (.lload 6, 2) := by decide +kernel
theorem d_wh_becomeProduct_86 : decode b_wh_becomeProduct 86 = .ok (.ladd, 1) := by decide +kernel
theorem d_wh_becomeProduct_87 : decode b_wh_becomeProduct 87 = .ok (.lstore 9, 2) := by decide +kernel
theorem d_wh_becomeProduct_89 : decode b_wh_becomeProduct 89 = .ok (.aload_n 0, 1) := by decide +kernel
theorem d_wh_becomeProduct_90 : decode b_wh_becomeProduct 90 = .ok (.getfield 9, 3) := by decide +kernel
theorem d_wh_becomeProduct_93 : decode b_wh_becomeProduct 93 = .ok (.iload_n 3, 1) := by decide +kernel
theorem d_wh_becomeProduct_94 : decode b_wh_becomeProduct 94 = .ok (.iload 8, 2) := by decide +kernel
theorem d_wh_becomeProduct_96 : decode b_wh_becomeProduct 96 = .ok (.iadd, 1) := by decide +kernel
theorem d_wh_becomeProduct_97 : decode b_wh_becomeProduct 97 = .ok (.lload 9, 2) := by decide +kernel
theorem d_wh_becomeProduct_99 : decode b_wh_becomeProduct 99 = .ok (.ldc2_w 40, 3) := by decide +kernel
theorem d_wh_becomeProduct_102 : decode b_wh_becomeProduct 102 = .ok (.land, 1) := by decide +kernel
theorem d_wh_becomeProduct_103 : decode b_wh_becomeProduct 103 = .ok (.l2i, 1) := by decide +kernel
theorem d_wh_becomeProduct_104 : decode b_wh_becomeProduct 104 = .ok (.iastore, 1) := by decide +kernel
theorem d_wh_becomeProduct_105 : decode b_wh_becomeProduct 105 = .ok (.lload 9, 2) := by decide +kernel
theorem d_wh_becomeProduct_107 : decode b_wh_becomeProduct 107 = .ok (.bipush 30, 2) := by decide +kernel
theorem d_wh_becomeProduct_109 : decode b_wh_becomeProduct 109 = .ok (.lushr, 1) := by decide +kernel
theorem d_wh_becomeProduct_110 : decode b_wh_becomeProduct 110 = .ok (.lstore 6, 2) := by decide +kernel
theorem d_wh_becomeProduct_112 : decode b_wh_becomeProduct 112 = .ok (.iinc 8 1, 3) := by decide +kernel
theorem d_wh_becomeProduct_115 : decode b_wh_becomeProduct 115 = .ok (.goto (-62), 3) := by decide +kernel
theorem d_wh_becomeProduct_118 : decode b_wh_becomeProduct 118 = .ok (.aload_n 0, 1) := by decide +kernel
theorem d_wh_becomeProduct_119 : decode b_wh_becomeProduct 119 = .ok (.getfield 9, 3) := by decide +kernel
theorem d_wh_becomeProduct_122 : decode b_wh_becomeProduct 122 = .ok (.iload_n 3, 1) := by decide +kernel
theorem d_wh_becomeProduct_123 : decode b_wh_becomeProduct 123 = .ok (.aload_n 2, 1) := by decide +kernel
theorem d_wh_becomeProduct_124 : decode b_wh_becomeProduct 124 = .ok (.getfield 15, 3) := by decide +kernel
theorem d_wh_becomeProduct_127 : decode b_wh_becomeProduct 127 = .ok (.iadd, 1) := by decide +kernel
theorem d_wh_becomeProduct_128 : decode b_wh_becomeProduct 128 = .ok (.lload 6, 2) := by decide +kernel
theorem d_wh_becomeProduct_130 : decode b_wh_becomeProduct 130 = .ok (.l2i, 1) := by decide +kernel
theorem d_wh_becomeProduct_131 : decode b_wh_becomeProduct 131 = .ok (.iastore, 1) := by decide +kernel
theorem d_wh_becomeProduct_132 : decode b_wh_becomeProduct 132 = .ok (.iinc 3 1, 3) := by decide +kernel
theorem d_wh_becomeProduct_135 : decode b_wh_becomeProduct 135 = .ok (.goto (-105), 3) := by decide +kernel
theorem d_wh_becomeProduct_138 : decode b_wh_becomeProduct 138 = .ok (.aload_n 0, 1) := by decide +kernel
theorem d_wh_becomeProduct_139 : decode b_wh_becomeProduct 139 = .ok (.aload_n 1, 1) := by decide +kernel
theorem d_wh_becomeProduct_140 : decode b_wh_becomeProduct 140 = .ok (.getfield 15, 3) := by decide +kernel
theorem d_wh_becomeProduct_143 : decode b_wh_becomeProduct 143 = .ok (.aload_n 2, 1) := by decide +kernel
theorem d_wh_becomeProduct_144 : decode b_wh_becomeProduct 144 = .ok (.getfield 15, 3) := by decide +kernel
theorem d_wh_becomeProduct_147 : decode b_wh_becomeProduct 147 = .ok (.iadd, 1) := by decide +kernel
theorem d_wh_becomeProduct_148 : decode b_wh_becomeProduct 148 = .ok (.invokevirtual 36, 3) := by decide +kernel
theorem d_wh_becomeProduct_151 : decode b_wh_becomeProduct 151 = .ok (.return_, 1) := by decide +kernel
theorem d_wh_timesPlus_0 : decode b_wh_timesPlus 0 = .ok (.iload_n 2, 1) := by decide +kernel
theorem d_wh_timesPlus_1 : decode b_wh_timesPlus 1 = .ok (.i2l, 1) := by decide +kernel
theorem d_wh_timesPlus_2 : decode b_wh_timesPlus 2 = .ok (.lstore_n 3, 1) := by decide +kernel
theorem d_wh_timesPlus_3 : decode b_wh_timesPlus 3 = .ok (.iconst 0, 1) := by decide +kernel
theorem d_wh_timesPlus_4 : decode b_wh_timesPlus 4 = .ok (.istore 5, 2) := by decide +kernel
theorem d_wh_timesPlus_6 : decode b_wh_timesPlus 6 = .ok (.iload 5, 2) := by decide +kernel
theorem d_wh_timesPlus_8 : decode b_wh_timesPlus 8 = .ok (.aload_n 0, 1) := by decide +kernel
theorem d_wh_timesPlus_9 : decode b_wh_timesPlus 9 = .ok (.getfield 15, 3) := by decide +kernel
theorem d_wh_timesPlus_12 : decode b_wh_timesPlus 12 = .ok (.if_icmp .ge 44, 3) := by decide +kernel
theorem d_wh_timesPlus_15 : decode b_wh_timesPlus 15 = .ok (.aload_n 0, 1) := by decide +kernel
theorem d_wh_timesPlus_16 : decode b_wh_timesPlus 16 = .ok (.getfield 9, 3) := by decide +kernel
theorem d_wh_timesPlus_19 : decode b_wh_timesPlus 19 = .ok (.iload 5, 2) := by decide +kernel
theorem d_wh_timesPlus_21 : decode b_wh_timesPlus 21 = .ok (.iaload, 1) := by decide +kernel
theorem d_wh_timesPlus_22 : decode b_wh_timesPlus 22 = .ok (.i2l, 1) := by decide +kernel
theorem d_wh_timesPlus_23 : decode b_wh_timesPlus 23 = .ok (.iload_n 1, 1) := by decide +kernel
theorem d_wh_timesPlus_24 : decode b_wh_timesPlus 24 = .ok (.i2l, 1) := by decide +kernel
theorem d_wh_timesPlus_25 : decode b_wh_timesPlus 25 = .ok (.lmul, 1) := by decide +kernel
theorem d_wh_timesPlus_26 : decode b_wh_timesPlus 26 = .ok (.lload_n 3, 1) := by decide +kernel
theorem d_wh_timesPlus_27 : decode b_wh_timesPlus 27 = .ok (.ladd, 1) := by decide +kernel
theorem d_wh_timesPlus_28 : decode b_wh_timesPlus 28 = .ok (.lstore 6, 2) := by decide +kernel
theorem d_wh_timesPlus_30 : decode b_wh_timesPlus 30 = .ok (.aload_n 0, 1) := by decide +kernel
theorem d_wh_timesPlus_31 : decode b_wh_timesPlus 31 = .ok (.getfield 9, 3) := by decide +kernel
theorem d_wh_timesPlus_34 : decode b_wh_timesPlus 34 = .ok (.iload 5, 2) := by decide +kernel
theorem d_wh_timesPlus_36 : decode b_wh_timesPlus 36 = .ok (.lload 6, 2) := by decide +kernel
theorem d_wh_timesPlus_38 : decode b_wh_timesPlus 38 = .ok (.ldc2_w 40, 3) := by decide +kernel
theorem d_wh_timesPlus_41 : decode b_wh_timesPlus 41 = .ok (.land, 1) := by decide +kernel
theorem d_wh_timesPlus_42 : decode b_wh_timesPlus 42 = .ok (.l2i, 1) := by decide +kernel
theorem d_wh_timesPlus_43 : decode b_wh_timesPlus 43 = .ok (.iastore, 1) := by decide +kernel
theorem d_wh_timesPlus_44 : decode b_wh_timesPlus 44 = .ok (.lload 6, 2) := by decide +kernel
theorem d_wh_timesPlus_46 : decode b_wh_timesPlus 46 = .ok (.bipush 30, 2) := by decide +kernel
theorem d_wh_timesPlus_48 : decode b_wh_timesPlus 48 = .ok (.lushr, 1) := by decide +kernel
theorem d_wh_timesPlus_49 : decode b_wh_timesPlus 49 = .ok (.lstore_n 3, 1) := by decide +kernel
theorem d_wh_timesPlus_50 : decode b_wh_timesPlus 50 = .ok (.iinc 5 1, 3) := by decide +kernel
theorem d_wh_timesPlus_53 : decode b_wh_timesPlus 53 = .ok (.goto (-47), 3) := by decide +kernel
theorem d_wh_timesPlus_56 : decode b_wh_timesPlus 56 = .ok (.lload_n 3, 1) := by decide +kernel
theorem d_wh_timesPlus_57 : decode b_wh_timesPlus 57 = .ok (.lconst 0, 1) := by decide +kernel
theorem d_wh_timesPlus_58 : decode b_wh_timesPlus 58 = .ok (.lcmp, 1) := by decide +kernel
theorem d_wh_timesPlus_59 : decode b_wh_timesPlus 59 = .ok (.ifCond .eq 24, 3) := by decide +kernel
theorem d_wh_timesPlus_62 : decode b_wh_timesPlus 62 = .ok (.aload_n 0, 1) := by decide +kernel
theorem d_wh_timesPlus_63 : decode b_wh_timesPlus 63 = .ok (.getfield 9, 3) := by decide +kernel
theorem d_wh_timesPlus_66 : decode b_wh_timesPlus 66 = .ok (.aload_n 0, 1) := by decide +kernel
theorem d_wh_timesPlus_67 : decode b_wh_timesPlus 67 = .ok (.getfield 15, 3) := by decide +kernel
theorem d_wh_timesPlus_70 : decode b_wh_timesPlus 70 = .ok (.lload_n 3, 1) := by decide +kernel
theorem d_wh_timesPlus_71 : decode b_wh_timesPlus 71 = .ok (.l2i, 1) := by decide +kernel
theorem d_wh_timesPlus_72 : decode b_wh_timesPlus 72 = .ok (.iastore, 1) := by decide +kernel
theorem d_wh_timesPlus_73 : decode b_wh_timesPlus 73 = .ok (.aload_n 0, 1) := by decide +kernel
theorem d_wh_timesPlus_74 : decode b_wh_timesPlus 74 = .ok (.dup, 1) := by decide +kernel
theorem d_wh_timesPlus_75 : decode b_wh_timesPlus 75 = .ok (.getfield 15, 3) := by decide +kernel
theorem d_wh_timesPlus_78 : decode b_wh_timesPlus 78 = .ok (.iconst 1, 1) := by decide +kernel
theorem d_wh_timesPlus_79 : decode b_wh_timesPlus 79 = .ok (.iadd, 1) := by decide +kernel
theorem d_wh_timesPlus_80 : decode b_wh_timesPlus 80 = .ok (.putfield 15, 3) := by decide +kernel
theorem d_wh_timesPlus_83 : decode b_wh_timesPlus 83 = .ok (.return_, 1) := by decide +kernel
theorem d_wh_divideBy_0 : decode b_wh_divideBy 0 = .ok (.lconst 0, 1) := by decide +kernel
theorem d_wh_divideBy_1 : decode b_wh_divideBy 1 = .ok (.lstore_n 2, 1) := by decide +kernel
theorem d_wh_divideBy_2 : decode b_wh_divideBy 2 = .ok (.aload_n 0, 1) := by decide +kernel
theorem d_wh_divideBy_3 : decode b_wh_divideBy 3 = .ok (.getfield 15, 3) := by decide +kernel
theorem d_wh_divideBy_6 : decode b_wh_divideBy 6 = .ok (.iconst 1, 1) := by decide +kernel
theorem d_wh_divideBy_7 : decode b_wh_divideBy 7 = .ok (.isub, 1) := by decide +kernel
theorem d_wh_divideBy_8 : decode b_wh_divideBy 8 = .ok (.istore 4, 2) := by decide +kernel
theorem d_wh_divideBy_10 : decode b_wh_divideBy 10 = .ok (.iload 4, 2) := by decide +kernel
theorem d_wh_divideBy_12 : decode b_wh_divideBy 12 = .ok (.ifCond .lt 43, 3) := by decide +kernel
theorem d_wh_divideBy_15 : decode b_wh_divideBy 15 = .ok (.lload_n 2, 1) := by decide +kernel
theorem d_wh_divideBy_16 : decode b_wh_divideBy 16 = .ok (.bipush 30, 2) := by decide +kernel
theorem d_wh_divideBy_18 : decode b_wh_divideBy 18 = .ok (.lshl, 1) := by decide +kernel
theorem d_wh_divideBy_19 : decode b_wh_divideBy 19 = .ok (.aload_n 0, 1) := by decide +kernel
theorem d_wh_divideBy_20 : decode b_wh_divideBy 20 = .ok (.getfield 9, 3) := by decide +kernel
theorem d_wh_divideBy_23 : decode b_wh_divideBy 23 = .ok (.iload 4, 2) := by decide +kernel
theorem d_wh_divideBy_25 : decode b_wh_divideBy 25 = .ok (.iaload, 1) := by decide +kernel
theorem d_wh_divideBy_26 : decode b_wh_divideBy 26 = .ok (.i2l, 1) := by decide +kernel
theorem d_wh_divideBy_27 : decode b_wh_divideBy 27 = .ok (.lor, 1) := by decide +kernel
theorem d_wh_divideBy_28 : decode b_wh_divideBy 28 = .ok (.lstore 5, 2) := by decide +kernel
theorem d_wh_divideBy_30 : decode b_wh_divideBy 30 = .ok (.aload_n 0, 1) := by decide +kernel
theorem d_wh_divideBy_31 : decode b_wh_divideBy 31 = .ok (.getfield 9, 3) := by decide +kernel
theorem d_wh_divideBy_34 : decode b_wh_divideBy 34 = .ok (.iload 4, 2) := by decide +kernel
theorem d_wh_divideBy_36 : decode b_wh_divideBy 36 = .ok (.lload 5, 2) := by decide +kernel
theorem d_wh_divideBy_38 : decode b_wh_divideBy 38 = .ok (.iload_n 1, 1) := by decide +kernel
theorem d_wh_divideBy_39 : decode b_wh_divideBy 39 = .ok (.i2l, 1) := by decide +kernel
theorem d_wh_divideBy_40 : decode b_wh_divideBy 40 = .ok (.ldiv, 1) := by decide +kernel
theorem d_wh_divideBy_41 : decode b_wh_divideBy 41 = .ok (.l2i, 1) := by decide +kernel
theorem d_wh_divideBy_42 : decode b_wh_divideBy 42 = .ok (.iastore, 1) := by decide +kernel
theorem d_wh_divideBy_43 : decode b_wh_divideBy 43 = .ok (.lload 5, 2) := by decide +kernel
theorem d_wh_divideBy_45 : decode b_wh_divideBy 45 = .ok (.iload_n 1, 1) := by decide +kernel
theorem d_wh_divideBy_46 : decode b_wh_divideBy 46 = .ok (.i2l, 1) := by decide +kernel
theorem d_wh_divideBy_47 : decode b_wh_divideBy 47 = .ok (.lrem, 1) := by decide +kernel
theorem d_wh_divideBy_48 : decode b_wh_divideBy 48 = .ok (.lstore_n 2, 1) := by decide +kernel
theorem d_wh_divideBy_49 : decode b_wh_divideBy 49 = .ok (.iinc 4 (-1), 3) := by decide +kernel
theorem d_wh_divideBy_52 : decode b_wh_divideBy 52 = .ok (.goto (-42), 3) := by decide +kernel
theorem d_wh_divideBy_55 : decode b_wh_divideBy 55 = .ok (.aload_n 0, 1) := by decide +kernel
theorem d_wh_divideBy_56 : decode b_wh_divideBy 56 = .ok (.aload_n 0, 1) := by decide +kernel
theorem d_wh_divideBy_57 : decode b_wh_divideBy 57 = .ok (.getfield 15, 3) := by decide +kernel
theorem d_wh_divideBy_60 : decode b_wh_divideBy 60 = .ok (.invokevirtual 36, 3) := by decide +kernel
theorem d_wh_divideBy_63 : decode b_wh_divideBy 63 = .ok (.lload_n 2, 1) := by decide +kernel
theorem d_wh_divideBy_64 : decode b_wh_divideBy 64 = .ok (.l2i, 1) := by decide +kernel
theorem d_wh_divideBy_65 : decode b_wh_divideBy 65 = .ok (.ireturn, 1) := by decide +kernel
theorem d_wh_dropTwos_0 : decode b_wh_dropTwos 0 = .ok (.iconst 0, 1) := by decide +kernel
theorem d_wh_dropTwos_1 : decode b_wh_dropTwos 1 = .ok (.istore_n 1, 1) := by decide +kernel
theorem d_wh_dropTwos_2 : decode b_wh_dropTwos 2 = .ok (.iload_n 1, 1) := by decide +kernel
theorem d_wh_dropTwos_3 : decode b_wh_dropTwos 3 = .ok (.aload_n 0, 1) := by decide +kernel
theorem d_wh_dropTwos_4 : decode b_wh_dropTwos 4 = .ok (.getfield 15, 3) := by decide +kernel
theorem d_wh_dropTwos_7 : decode b_wh_dropTwos 7 = .ok (.iconst 1, 1) := by decide +kernel
theorem d_wh_dropTwos_8 : decode b_wh_dropTwos 8 = .ok (.isub, 1) := by decide +kernel
theorem d_wh_dropTwos_9 : decode b_wh_dropTwos 9 = .ok (.if_icmp .ge 18, 3) := by decide +kernel
theorem d_wh_dropTwos_12 : decode b_wh_dropTwos 12 = .ok (.aload_n 0, 1) := by decide +kernel
theorem d_wh_dropTwos_13 : decode b_wh_dropTwos 13 = .ok (.getfield 9, 3) := by decide +kernel
theorem d_wh_dropTwos_16 : decode b_wh_dropTwos 16 = .ok (.iload_n 1, 1) := by decide +kernel
theorem d_wh_dropTwos_17 : decode b_wh_dropTwos 17 = .ok (.iaload, 1) := by decide +kernel
theorem d_wh_dropTwos_18 : decode b_wh_dropTwos 18 = .ok (.ifCond .ne 9, 3) := by decide +kernel
theorem d_wh_dropTwos_21 : decode b_wh_dropTwos 21 = .ok (.iinc 1 1, 3) := by decide +kernel
theorem d_wh_dropTwos_24 : decode b_wh_dropTwos 24 = .ok (.goto (-22), 3) := by decide +kernel
theorem d_wh_dropTwos_27 : decode b_wh_dropTwos 27 = .ok (.aload_n 0, 1) := by decide +kernel
theorem d_wh_dropTwos_28 : decode b_wh_dropTwos 28 = .ok (.getfield 9, 3) := by decide +kernel
theorem d_wh_dropTwos_31 : decode b_wh_dropTwos 31 = .ok (.iload_n 1, 1) := by decide +kernel
theorem d_wh_dropTwos_32 : decode b_wh_dropTwos 32 = .ok (.iaload, 1) := by decide +kernel
theorem d_wh_dropTwos_33 : decode b_wh_dropTwos 33 = .ok (.aload_n 0, 1) := by decide +kernel
theorem d_wh_dropTwos_34 : decode b_wh_dropTwos 34 = .ok (.getfield 9, 3) := by decide +kernel
theorem d_wh_dropTwos_37 : decode b_wh_dropTwos 37 = .ok (.iload_n 1, 1) := by decide +kernel
theorem d_wh_dropTwos_38 : decode b_wh_dropTwos 38 = .ok (.iaload, 1) := by decide +kernel
theorem d_wh_dropTwos_39 : decode b_wh_dropTwos 39 = .ok (.ineg, 1) := by decide +kernel
theorem d_wh_dropTwos_40 : decode b_wh_dropTwos 40 = .ok (.iand, 1) := by decide +kernel
theorem d_wh_dropTwos_41 : decode b_wh_dropTwos 41 = .ok (.istore_n 2, 1) := by decide +kernel
theorem d_wh_dropTwos_42 : decode b_wh_dropTwos 42 = .ok (.iload_n 2, 1) := by decide +kernel
theorem d_wh_dropTwos_43 : decode b_wh_dropTwos 43 = .ok (.iconst 1, 1) := by decide +kernel
theorem d_wh_dropTwos_44 : decode b_wh_dropTwos 44 = .ok (.isub, 1) := by decide +kernel
theorem d_wh_dropTwos_45 : decode b_wh_dropTwos 45 = .ok (.invokestatic 42, 3) := by decide +kernel
theorem d_wh_dropTwos_48 : decode b_wh_dropTwos 48 = .ok (.istore_n 3, 1) := by decide +kernel
theorem d_wh_dropTwos_49 : decode b_wh_dropTwos 49 = .ok (.iload_n 1, 1) := by decide +kernel
theorem d_wh_dropTwos_50 : decode b_wh_dropTwos 50 = .ok (.istore 4, 2) := by decide +kernel
theorem d_wh_dropTwos_52 : decode b_wh_dropTwos 52 = .ok (.iload 4, 2) := by decide +kernel
theorem d_wh_dropTwos_54 : decode b_wh_dropTwos 54 = .ok (.aload_n 0, 1) := by decide +kernel
theorem d_wh_dropTwos_55 : decode b_wh_dropTwos 55 = .ok (.getfield 15, 3) := by decide +kernel
theorem d_wh_dropTwos_58 : decode b_wh_dropTwos 58 = .ok (.if_icmp .ge 64, 3) := by decide +kernel
theorem d_wh_dropTwos_61 : decode b_wh_dropTwos 61 = .ok (.iload 4, 2) := by decide +kernel
theorem d_wh_dropTwos_63 : decode b_wh_dropTwos 63 = .ok (.iconst 1, 1) := by decide +kernel
theorem d_wh_dropTwos_64 : decode b_wh_dropTwos 64 = .ok (.iadd, 1) := by decide +kernel
theorem d_wh_dropTwos_65 : decode b_wh_dropTwos 65 = .ok (.aload_n 0, 1) := by decide +kernel
theorem d_wh_dropTwos_66 : decode b_wh_dropTwos 66 = .ok (.getfield 15, 3) := by decide +kernel
theorem d_wh_dropTwos_69 : decode b_wh_dropTwos 69 = .ok (.if_icmp .ge 15, 3) := by decide +kernel
theorem d_wh_dropTwos_72 : decode b_wh_dropTwos 72 = .ok (.aload_n 0, 1) := by decide +kernel
theorem d_wh_dropTwos_73 : decode b_wh_dropTwos 73 = .ok (.getfield 9, 3) := by decide +kernel
theorem d_wh_dropTwos_76 : decode b_wh_dropTwos 76 = .ok (.iload 4, 2) := by decide +kernel
theorem d_wh_dropTwos_78 : decode b_wh_dropTwos 78 = .ok (.iconst 1, 1) := by decide +kernel
theorem d_wh_dropTwos_79 : decode b_wh_dropTwos 79 = .ok (.iadd, 1) := by decide +kernel
theorem d_wh_dropTwos_80 : decode b_wh_dropTwos 80 = .ok (.iaload, 1) := by decide +kernel
theorem d_wh_dropTwos_81 : decode b_wh_dropTwos 81 = .ok (.goto 4, 3) := by decide +kernel
theorem d_wh_dropTwos_84 : decode b_wh_dropTwos 84 = .ok (.iconst 0, 1) := by decide +kernel
theorem d_wh_dropTwos_85 : decode b_wh_dropTwos 85 = .ok (.istore 5, 2) := by decide +kernel
theorem d_wh_dropTwos_87 : decode b_wh_dropTwos 87 = .ok (.aload_n 0, 1) := by decide +kernel
theorem d_wh_dropTwos_88 : decode b_wh_dropTwos 88 = .ok (.getfield 9, 3) := by decide +kernel
theorem d_wh_dropTwos_91 : decode b_wh_dropTwos 91 = .ok (.iload 4, 2) := by decide +kernel
theorem d_wh_dropTwos_93 : decode b_wh_dropTwos 93 = .ok (.iload_n 1, 1) := by decide +kernel
theorem d_wh_dropTwos_94 : decode b_wh_dropTwos 94 = .ok (.isub, 1) := by decide +kernel
theorem d_wh_dropTwos_95 : decode b_wh_dropTwos 95 = .ok (.aload_n 0, 1) := by decide +kernel
theorem d_wh_dropTwos_96 : decode b_wh_dropTwos 96 = .ok (.getfield 9, 3) := by decide +kernel
theorem d_wh_dropTwos_99 : decode b_wh_dropTwos 99 = .ok (.iload 4, 2) := by decide +kernel
theorem d_wh_dropTwos_101 : decode b_wh_dropTwos 101 = .ok (.iaload, 1) := by decide +kernel
theorem d_wh_dropTwos_102 : decode b_wh_dropTwos 102 = .ok (.iload_n 3, 1) := by decide +kernel
theorem d_wh_dropTwos_103 : decode b_wh_dropTwos 103 = .ok (.iushr, 1) := by decide +kernel
theorem d_wh_dropTwos_104 : decode b_wh_dropTwos 104 = .ok (.iload 5, 2) := by decide +kernel
theorem d_wh_dropTwos_106 : decode b_wh_dropTwos 106 = .ok (.bipush 30, 2) := by decide +kernel
theorem d_wh_dropTwos_108 : decode b_wh_dropTwos 108 = .ok (.iload_n 3, 1) := by decide +kernel
theorem d_wh_dropTwos_109 : decode b_wh_dropTwos 109 = .ok (.isub, 1) := by decide +kernel
theorem d_wh_dropTwos_110 : decode b_wh_dropTwos 110 = .ok (.ishl, 1) := by decide +kernel
theorem d_wh_dropTwos_111 : decode b_wh_dropTwos 111 = .ok (.ldc 35, 2) := by decide +kernel
theorem d_wh_dropTwos_113 : decode b_wh_dropTwos 113 = .ok (.iand, 1) := by decide +kernel
theorem d_wh_dropTwos_114 : decode b_wh_dropTwos 114 = .ok (.ior, 1) := by decide +kernel
theorem d_wh_dropTwos_115 : decode b_wh_dropTwos 115 = .ok (.iastore, 1) := by decide +kernel
theorem d_wh_dropTwos_116 : decode b_wh_dropTwos 116 = .ok (.iinc 4 1, 3) := by decide +kernel
theorem d_wh_dropTwos_119 : decode b_wh_dropTwos 119 = .ok (.goto (-67), 3) := by decide +kernel
theorem d_wh_dropTwos_122 : decode b_wh_dropTwos 122 = .ok (.aload_n 0, 1) := by decide +kernel
theorem d_wh_dropTwos_123 : decode b_wh_dropTwos 123 = .ok (.aload_n 0, 1) := by decide +kernel
theorem d_wh_dropTwos_124 : decode b_wh_dropTwos 124 = .ok (.getfield 15, 3) := by decide +kernel
theorem d_wh_dropTwos_127 : decode b_wh_dropTwos 127 = .ok (.iload_n 1, 1) := by decide +kernel
theorem d_wh_dropTwos_128 : decode b_wh_dropTwos 128 = .ok (.isub, 1) := by decide +kernel
theorem d_wh_dropTwos_129 : decode b_wh_dropTwos 129 = .ok (.invokevirtual 36, 3) := by decide +kernel
theorem d_wh_dropTwos_132 : decode b_wh_dropTwos 132 = .ok (.iload_n 1, 1) := by decide +kernel
theorem d_wh_dropTwos_133 : decode b_wh_dropTwos 133 = .ok (.bipush 30, 2) := by decide +kernel
theorem d_wh_dropTwos_135 : decode b_wh_dropTwos 135 = .ok (.imul, 1) := by decide +kernel
theorem d_wh_dropTwos_136 : decode b_wh_dropTwos 136 = .ok (.iload_n 3, 1) := by decide +kernel
theorem d_wh_dropTwos_137 : decode b_wh_dropTwos 137 = .ok (.iadd, 1) := by decide +kernel
theorem d_wh_dropTwos_138 : decode b_wh_dropTwos 138 = .ok (.ireturn, 1) := by decide +kernel
theorem d_wh_cutTo_0 : decode b_wh_cutTo 0 = .ok (.aload_n 0, 1) := by decide +kernel
theorem d_wh_cutTo_1 : decode b_wh_cutTo 1 = .ok (.iload_n 1, 1) := by decide +kernel
theorem d_wh_cutTo_2 : decode b_wh_cutTo 2 = .ok (.putfield 15, 3) := by decide +kernel
theorem d_wh_cutTo_5 : decode b_wh_cutTo 5 = .ok (.aload_n 0, 1) := by decide +kernel
theorem d_wh_cutTo_6 : decode b_wh_cutTo 6 = .ok (.getfield 15, 3) := by decide +kernel
theorem d_wh_cutTo_9 : decode b_wh_cutTo 9 = .ok (.ifCond .le 30, 3) := by decide +kernel
theorem d_wh_cutTo_12 : decode b_wh_cutTo 12 = .ok (.aload_n 0, 1) := by decide +kernel
theorem d_wh_cutTo_13 : decode b_wh_cutTo 13 = .ok (.getfield 9, 3) := by decide +kernel
theorem d_wh_cutTo_16 : decode b_wh_cutTo 16 = .ok (.aload_n 0, 1) := by decide +kernel
theorem d_wh_cutTo_17 : decode b_wh_cutTo 17 = .ok (.getfield 15, 3) := by decide +kernel
theorem d_wh_cutTo_20 : decode b_wh_cutTo 20 = .ok (.iconst 1, 1) := by decide +kernel
theorem d_wh_cutTo_21 : decode b_wh_cutTo 21 = .ok (.isub, 1) := by decide +kernel
theorem d_wh_cutTo_22 : decode b_wh_cutTo 22 = .ok (.iaload, 1) := by decide +kernel
theorem d_wh_cutTo_23 : decode b_wh_cutTo 23 = .ok (.ifCond .ne 16, 3) := by decide +kernel
theorem d_wh_cutTo_26 : decode b_wh_cutTo 26 = .ok (.aload_n 0, 1) := by decide +kernel
theorem d_wh_cutTo_27 : decode b_wh_cutTo 27 = .ok (.dup, 1) := by decide +kernel
theorem d_wh_cutTo_28 : decode b_wh_cutTo 28 = .ok (.getfield 15, 3) := by decide +kernel
theorem d_wh_cutTo_31 : decode b_wh_cutTo 31 = .ok (.iconst 1, 1) := by decide +kernel
theorem d_wh_cutTo_32 : decode b_wh_cutTo 32 = .ok (.isub, 1) := by decide +kernel
theorem d_wh_cutTo_33 : decode b_wh_cutTo 33 = .ok (.putfield 15, 3) := by decide +kernel
theorem d_wh_cutTo_36 : decode b_wh_cutTo 36 = .ok (.goto (-31), 3) := by decide +kernel
theorem d_wh_cutTo_39 : decode b_wh_cutTo 39 = .ok (.return_, 1) := by decide +kernel
