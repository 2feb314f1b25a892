theorem d_pn_init_0 : decode b_pn_init 0 = .ok (.aload_n 0, 1) := by decide +kernel
theorem d_pn_init_1 : decode b_pn_init 1 = .ok (.invokespecial 3, 3) := by decide +kernel
theorem d_pn_init_4 : decode b_pn_init 4 = .ok (.aload_n 0, 1) := by decide +kernel
theorem d_pn_init_5 : decode b_pn_init 5 = .ok (.bipush 120, 2) := by decide +kernel
theorem d_pn_init_7 : decode b_pn_init 7 = .ok (.newarray .char, 2) := by decide +kernel
theorem d_pn_init_9 : decode b_pn_init 9 = .ok (.putfield 9, 3) := by decide +kernel
theorem d_pn_init_12 : decode b_pn_init 12 = .ok (.aload_n 0, 1) := by decide +kernel
theorem d_pn_init_13 : decode b_pn_init 13 = .ok (.iconst (-1), 1) := by decide +kernel
theorem d_pn_init_14 : decode b_pn_init 14 = .ok (.putfield 13, 3) := by decide +kernel
theorem d_pn_init_17 : decode b_pn_init 17 = .ok (.aload_n 0, 1) := by decide +kernel
theorem d_pn_init_18 : decode b_pn_init 18 = .ok (.new 17, 3) := by decide +kernel
theorem d_pn_init_21 : decode b_pn_init 21 = .ok (.dup, 1) := by decide +kernel
theorem d_pn_init_22 : decode b_pn_init 22 = .ok (.invokespecial 19, 3) := by decide +kernel
theorem d_pn_init_25 : decode b_pn_init 25 = .ok (.putfield 20, 3) := by decide +kernel
theorem d_pn_init_28 : decode b_pn_init 28 = .ok (.aload_n 0, 1) := by decide +kernel
theorem d_pn_init_29 : decode b_pn_init 29 = .ok (.new 24, 3) := by decide +kernel
theorem d_pn_init_32 : decode b_pn_init 32 = .ok (.dup, 1) := by decide +kernel
theorem d_pn_init_33 : decode b_pn_init 33 = .ok (.invokespecial 26, 3) := by decide +kernel
theorem d_pn_init_36 : decode b_pn_init 36 = .ok (.putfield 27, 3) := by decide +kernel
theorem d_pn_init_39 : decode b_pn_init 39 = .ok (.aload_n 0, 1) := by decide +kernel
theorem d_pn_init_40 : decode b_pn_init 40 = .ok (.new 31, 3) := by decide +kernel
theorem d_pn_init_43 : decode b_pn_init 43 = .ok (.dup, 1) := by decide +kernel
theorem d_pn_init_44 : decode b_pn_init 44 = .ok (.invokespecial 33, 3) := by decide +kernel
theorem d_pn_init_47 : decode b_pn_init 47 = .ok (.putfield 34, 3) := by decide +kernel
theorem d_pn_init_50 : decode b_pn_init 50 = .ok (.aload_n 0, 1) := by decide +kernel
theorem d_pn_init_51 : decode b_pn_init 51 = .ok (.new 38, 3) := by decide +kernel
theorem d_pn_init_54 : decode b_pn_init 54 = .ok (.dup, 1) := by decide +kernel
theorem d_pn_init_55 : decode b_pn_init 55 = .ok (.invokespecial 40, 3) := by decide +kernel
theorem d_pn_init_58 : decode b_pn_init 58 = .ok (.putfield 41, 3) := by decide +kernel
theorem d_pn_init_61 : decode b_pn_init 61 = .ok (.return_, 1) := by decide +kernel
theorem d_pn_type_0 : decode b_pn_type 0 = .ok (.iconst 0, 1) := by decide +kernel
theorem d_pn_type_1 : decode b_pn_type 1 = .ok (.istore_n 3, 1) := by decide +kernel
theorem d_pn_type_2 : decode b_pn_type 2 = .ok (.iload_n 3, 1) := by decide +kernel
theorem d_pn_type_3 : decode b_pn_type 3 = .ok (.bipush 8, 2) := by decide +kernel
theorem d_pn_type_5 : decode b_pn_type 5 = .ok (.if_icmp .ge 40, 3) := by decide +kernel
theorem d_pn_type_8 : decode b_pn_type 8 = .ok (.lload_n 1, 1) := by decide +kernel
theorem d_pn_type_9 : decode b_pn_type 9 = .ok (.iload_n 3, 1) := by decide +kernel
theorem d_pn_type_10 : decode b_pn_type 10 = .ok (.invokestatic 45, 3) := by decide +kernel
theorem d_pn_type_13 : decode b_pn_type 13 = .ok (.ifCond .eq 32, 3) := by decide +kernel
theorem d_pn_type_16 : decode b_pn_type 16 = .ok (.lload_n 1, 1) := by decide +kernel
theorem d_pn_type_17 : decode b_pn_type 17 = .ok (.iload_n 3, 1) := by decide +kernel
theorem d_pn_type_18 : decode b_pn_type 18 = .ok (.invokestatic 45, 3) := by decide +kernel
theorem d_pn_type_21 : decode b_pn_type 21 = .ok (.istore 4, 2) := by decide +kernel
theorem d_pn_type_23 : decode b_pn_type 23 = .ok (.iload 4, 2) := by decide +kernel
theorem d_pn_type_25 : decode b_pn_type 25 = .ok (.bipush 32, 2) := by decide +kernel
theorem d_pn_type_27 : decode b_pn_type 27 = .ok (.if_icmp .lt 10, 3) := by decide +kernel
theorem d_pn_type_30 : decode b_pn_type 30 = .ok (.iload 4, 2) := by decide +kernel
theorem d_pn_type_32 : decode b_pn_type 32 = .ok (.bipush 126, 2) := by decide +kernel
theorem d_pn_type_34 : decode b_pn_type 34 = .ok (.if_icmp .le 5, 3) := by decide +kernel
theorem d_pn_type_37 : decode b_pn_type 37 = .ok (.iconst 0, 1) := by decide +kernel
theorem d_pn_type_38 : decode b_pn_type 38 = .ok (.ireturn, 1) := by decide +kernel
theorem d_pn_type_39 : decode b_pn_type 39 = .ok (.iinc 3 1, 3) := by decide +kernel
theorem d_pn_type_42 : decode b_pn_type 42 = .ok (.goto (-40), 3) := by decide +kernel
theorem d_pn_type_45 : decode b_pn_type 45 = .ok (.aload_n 0, 1) := by decide +kernel
theorem d_pn_type_46 : decode b_pn_type 46 = .ok (.getfield 49, 3) := by decide +kernel
theorem d_pn_type_49 : decode b_pn_type 49 = .ok (.iload_n 3, 1) := by decide +kernel
theorem d_pn_type_50 : decode b_pn_type 50 = .ok (.iadd, 1) := by decide +kernel
theorem d_pn_type_51 : decode b_pn_type 51 = .ok (.bipush 120, 2) := by decide +kernel
theorem d_pn_type_53 : decode b_pn_type 53 = .ok (.if_icmp .le 5, 3) := by decide +kernel
theorem d_pn_type_56 : decode b_pn_type 56 = .ok (.iconst 0, 1) := by decide +kernel
theorem d_pn_type_57 : decode b_pn_type 57 = .ok (.ireturn, 1) := by decide +kernel
theorem d_pn_type_58 : decode b_pn_type 58 = .ok (.iconst 0, 1) := by decide +kernel
theorem d_pn_type_59 : decode b_pn_type 59 = .ok (.istore 4, 2) := by decide +kernel
theorem d_pn_type_61 : decode b_pn_type 61 = .ok (.iload 4, 2) := by decide +kernel
theorem d_pn_type_63 : decode b_pn_type 63 = .ok (.iload_n 3, 1) := by decide +kernel
theorem d_pn_type_64 : decode b_pn_type 64 = .ok (.if_icmp .ge 28, 3) := by decide +kernel
theorem d_pn_type_67 : decode b_pn_type 67 = .ok (.aload_n 0, 1) := by decide +kernel
theorem d_pn_type_68 : decode b_pn_type 68 = .ok (.getfield 9, 3) := by decide +kernel
theorem d_pn_type_71 : decode b_pn_type 71 = .ok (.aload_n 0, 1) := by decide +kernel
theorem d_pn_type_72 : decode b_pn_type 72 = .ok (.getfield 49, 3) := by decide +kernel
theorem d_pn_type_75 : decode b_pn_type 75 = .ok (.iload 4, 2) := by decide +kernel
theorem d_pn_type_77 : decode b_pn_type 77 = .ok (.iadd, 1) := by decide +kernel
theorem d_pn_type_78 : decode b_pn_type 78 = .ok (.lload_n 1, 1) := by decide +kernel
theorem d_pn_type_79 : decode b_pn_type 79 = .ok (.iload 4, 2) := by decide +kernel
theorem d_pn_type_81 : decode b_pn_type 81 = .ok (.invokestatic 45, 3) := by decide +kernel
theorem d_pn_type_84 : decode b_pn_type 84 = .ok (.i2c, 1) := by decide +kernel
theorem d_pn_type_85 : decode b_pn_type 85 = .ok (.castore, 1) := by decide +kernel
theorem d_pn_type_86 : decode b_pn_type 86 = .ok (.iinc 4 1, 3) := by decide +kernel
theorem d_pn_type_89 : decode b_pn_type 89 = .ok (.goto (-28), 3) := by decide +kernel
theorem d_pn_type_92 : decode b_pn_type 92 = .ok (.aload_n 0, 1) := by decide +kernel
theorem d_pn_type_93 : decode b_pn_type 93 = .ok (.dup, 1) := by decide +kernel
theorem d_pn_type_94 : decode b_pn_type 94 = .ok (.getfield 49, 3) := by decide +kernel
theorem d_pn_type_97 : decode b_pn_type 97 = .ok (.iload_n 3, 1) := by decide +kernel
theorem d_pn_type_98 : decode b_pn_type 98 = .ok (.iadd, 1) := by decide +kernel
theorem d_pn_type_99 : decode b_pn_type 99 = .ok (.putfield 49, 3) := by decide +kernel
theorem d_pn_type_102 : decode b_pn_type 102 = .ok (.iconst 1, 1) := by decide +kernel
theorem d_pn_type_103 : decode b_pn_type 103 = .ok (.ireturn, 1) := by decide +kernel
theorem d_pn_erase_0 : decode b_pn_erase 0 = .ok (.aload_n 0, 1) := by decide +kernel
theorem d_pn_erase_1 : decode b_pn_erase 1 = .ok (.getfield 49, 3) := by decide +kernel
theorem d_pn_erase_4 : decode b_pn_erase 4 = .ok (.istore_n 1, 1) := by decide +kernel
theorem d_pn_erase_5 : decode b_pn_erase 5 = .ok (.aload_n 0, 1) := by decide +kernel
theorem d_pn_erase_6 : decode b_pn_erase 6 = .ok (.iconst 0, 1) := by decide +kernel
theorem d_pn_erase_7 : decode b_pn_erase 7 = .ok (.putfield 49, 3) := by decide +kernel
theorem d_pn_erase_10 : decode b_pn_erase 10 = .ok (.iload_n 1, 1) := by decide +kernel
theorem d_pn_erase_11 : decode b_pn_erase 11 = .ok (.ireturn, 1) := by decide +kernel
theorem d_pn_fault_0 : decode b_pn_fault 0 = .ok (.aload_n 0, 1) := by decide +kernel
theorem d_pn_fault_1 : decode b_pn_fault 1 = .ok (.getfield 13, 3) := by decide +kernel
theorem d_pn_fault_4 : decode b_pn_fault 4 = .ok (.ireturn, 1) := by decide +kernel
theorem d_pn_work_0 : decode b_pn_work 0 = .ok (.aload_n 0, 1) := by decide +kernel
theorem d_pn_work_1 : decode b_pn_work 1 = .ok (.invokevirtual 52, 3) := by decide +kernel
theorem d_pn_work_4 : decode b_pn_work 4 = .ok (.aload_n 0, 1) := by decide +kernel
theorem d_pn_work_5 : decode b_pn_work 5 = .ok (.getfield 41, 3) := by decide +kernel
theorem d_pn_work_8 : decode b_pn_work 8 = .ok (.aload_n 0, 1) := by decide +kernel
theorem d_pn_work_9 : decode b_pn_work 9 = .ok (.getfield 9, 3) := by decide +kernel
theorem d_pn_work_12 : decode b_pn_work 12 = .ok (.aload_n 0, 1) := by decide +kernel
theorem d_pn_work_13 : decode b_pn_work 13 = .ok (.getfield 49, 3) := by decide +kernel
theorem d_pn_work_16 : decode b_pn_work 16 = .ok (.invokevirtual 55, 3) := by decide +kernel
theorem d_pn_work_19 : decode b_pn_work 19 = .ok (.invokestatic 59, 3) := by decide +kernel
theorem d_pn_work_22 : decode b_pn_work 22 = .ok (.aload_n 0, 1) := by decide +kernel
theorem d_pn_work_23 : decode b_pn_work 23 = .ok (.aload_n 0, 1) := by decide +kernel
theorem d_pn_work_24 : decode b_pn_work 24 = .ok (.getfield 41, 3) := by decide +kernel
theorem d_pn_work_27 : decode b_pn_work 27 = .ok (.invokevirtual 63, 3) := by decide +kernel
theorem d_pn_work_30 : decode b_pn_work 30 = .ok (.invokevirtual 67, 3) := by decide +kernel
theorem d_pn_work_33 : decode b_pn_work 33 = .ok (.ireturn, 1) := by decide +kernel
theorem d_pn_keep_0 : decode b_pn_keep 0 = .ok (.iload_n 1, 1) := by decide +kernel
theorem d_pn_keep_1 : decode b_pn_keep 1 = .ok (.invokestatic 71, 3) := by decide +kernel
theorem d_pn_keep_4 : decode b_pn_keep 4 = .ok (.aload_n 0, 1) := by decide +kernel
theorem d_pn_keep_5 : decode b_pn_keep 5 = .ok (.invokevirtual 52, 3) := by decide +kernel
theorem d_pn_keep_8 : decode b_pn_keep 8 = .ok (.aload_n 0, 1) := by decide +kernel
theorem d_pn_keep_9 : decode b_pn_keep 9 = .ok (.getfield 41, 3) := by decide +kernel
theorem d_pn_keep_12 : decode b_pn_keep 12 = .ok (.aload_n 0, 1) := by decide +kernel
theorem d_pn_keep_13 : decode b_pn_keep 13 = .ok (.getfield 9, 3) := by decide +kernel
theorem d_pn_keep_16 : decode b_pn_keep 16 = .ok (.aload_n 0, 1) := by decide +kernel
theorem d_pn_keep_17 : decode b_pn_keep 17 = .ok (.getfield 49, 3) := by decide +kernel
theorem d_pn_keep_20 : decode b_pn_keep 20 = .ok (.invokevirtual 55, 3) := by decide +kernel
theorem d_pn_keep_23 : decode b_pn_keep 23 = .ok (.invokestatic 59, 3) := by decide +kernel
theorem d_pn_keep_26 : decode b_pn_keep 26 = .ok (.aload_n 0, 1) := by decide +kernel
theorem d_pn_keep_27 : decode b_pn_keep 27 = .ok (.getfield 41, 3) := by decide +kernel
theorem d_pn_keep_30 : decode b_pn_keep 30 = .ok (.getfield 74, 3) := by decide +kernel
theorem d_pn_keep_33 : decode b_pn_keep 33 = .ok (.iload_n 1, 1) := by decide +kernel
theorem d_pn_keep_34 : decode b_pn_keep 34 = .ok (.aaload, 1) := by decide +kernel
theorem d_pn_keep_35 : decode b_pn_keep 35 = .ok (.aload_n 0, 1) := by decide +kernel
theorem d_pn_keep_36 : decode b_pn_keep 36 = .ok (.getfield 41, 3) := by decide +kernel
theorem d_pn_keep_39 : decode b_pn_keep 39 = .ok (.invokevirtual 63, 3) := by decide +kernel
theorem d_pn_keep_42 : decode b_pn_keep 42 = .ok (.invokevirtual 78, 3) := by decide +kernel
theorem d_pn_keep_45 : decode b_pn_keep 45 = .ok (.aload_n 0, 1) := by decide +kernel
theorem d_pn_keep_46 : decode b_pn_keep 46 = .ok (.iconst 0, 1) := by decide +kernel
theorem d_pn_keep_47 : decode b_pn_keep 47 = .ok (.putfield 49, 3) := by decide +kernel
theorem d_pn_keep_50 : decode b_pn_keep 50 = .ok (.aload_n 0, 1) := by decide +kernel
theorem d_pn_keep_51 : decode b_pn_keep 51 = .ok (.aload_n 0, 1) := by decide +kernel
theorem d_pn_keep_52 : decode b_pn_keep 52 = .ok (.getfield 41, 3) := by decide +kernel
theorem d_pn_keep_55 : decode b_pn_keep 55 = .ok (.invokevirtual 63, 3) := by decide +kernel
theorem d_pn_keep_58 : decode b_pn_keep 58 = .ok (.invokevirtual 67, 3) := by decide +kernel
theorem d_pn_keep_61 : decode b_pn_keep 61 = .ok (.ireturn, 1) := by decide +kernel
theorem d_pn_form_0 : decode b_pn_form 0 = .ok (.aload_n 0, 1) := by decide +kernel
theorem d_pn_form_1 : decode b_pn_form 1 = .ok (.getfield 20, 3) := by decide +kernel
theorem d_pn_form_4 : decode b_pn_form 4 = .ok (.invokevirtual 82, 3) := by decide +kernel
theorem d_pn_form_7 : decode b_pn_form 7 = .ok (.ireturn, 1) := by decide +kernel
theorem d_pn_sign_0 : decode b_pn_sign 0 = .ok (.aload_n 0, 1) := by decide +kernel
theorem d_pn_sign_1 : decode b_pn_sign 1 = .ok (.getfield 20, 3) := by decide +kernel
theorem d_pn_sign_4 : decode b_pn_sign 4 = .ok (.invokevirtual 86, 3) := by decide +kernel
theorem d_pn_sign_7 : decode b_pn_sign 7 = .ok (.ireturn, 1) := by decide +kernel
theorem d_pn_digit_0 : decode b_pn_digit 0 = .ok (.aload_n 0, 1) := by decide +kernel
theorem d_pn_digit_1 : decode b_pn_digit 1 = .ok (.getfield 27, 3) := by decide +kernel
theorem d_pn_digit_4 : decode b_pn_digit 4 = .ok (.iload_n 1, 1) := by decide +kernel
theorem d_pn_digit_5 : decode b_pn_digit 5 = .ok (.invokevirtual 89, 3) := by decide +kernel
theorem d_pn_digit_8 : decode b_pn_digit 8 = .ok (.ireturn, 1) := by decide +kernel
theorem d_pn_bits_0 : decode b_pn_bits 0 = .ok (.iload_n 1, 1) := by decide +kernel
theorem d_pn_bits_1 : decode b_pn_bits 1 = .ok (.ifCond .ne 17, 3) := by decide +kernel
theorem d_pn_bits_4 : decode b_pn_bits 4 = .ok (.aload_n 0, 1) := by decide +kernel
theorem d_pn_bits_5 : decode b_pn_bits 5 = .ok (.getfield 20, 3) := by decide +kernel
theorem d_pn_bits_8 : decode b_pn_bits 8 = .ok (.getfield 93, 3) := by decide +kernel
theorem d_pn_bits_11 : decode b_pn_bits 11 = .ok (.iload_n 2, 1) := by decide +kernel
theorem d_pn_bits_12 : decode b_pn_bits 12 = .ok (.invokevirtual 97, 3) := by decide +kernel
theorem d_pn_bits_15 : decode b_pn_bits 15 = .ok (.goto 14, 3) := by decide +kernel
theorem d_pn_bits_18 : decode b_pn_bits 18 = .ok (.aload_n 0, 1) := by decide +kernel
theorem d_pn_bits_19 : decode b_pn_bits 19 = .ok (.getfield 20, 3) := by decide +kernel
theorem d_pn_bits_22 : decode b_pn_bits 22 = .ok (.getfield 103, 3) := by decide +kernel
theorem d_pn_bits_25 : decode b_pn_bits 25 = .ok (.iload_n 2, 1) := by decide +kernel
theorem d_pn_bits_26 : decode b_pn_bits 26 = .ok (.invokevirtual 97, 3) := by decide +kernel
theorem d_pn_bits_29 : decode b_pn_bits 29 = .ok (.ireturn, 1) := by decide +kernel
theorem d_pn_against_0 : decode b_pn_against 0 = .ok (.iload_n 1, 1) := by decide +kernel
theorem d_pn_against_1 : decode b_pn_against 1 = .ok (.invokestatic 71, 3) := by decide +kernel
theorem d_pn_against_4 : decode b_pn_against 4 = .ok (.aload_n 0, 1) := by decide +kernel
theorem d_pn_against_5 : decode b_pn_against 5 = .ok (.getfield 41, 3) := by decide +kernel
theorem d_pn_against_8 : decode b_pn_against 8 = .ok (.getfield 106, 3) := by decide +kernel
theorem d_pn_against_11 : decode b_pn_against 11 = .ok (.aload_n 0, 1) := by decide +kernel
theorem d_pn_against_12 : decode b_pn_against 12 = .ok (.getfield 20, 3) := by decide +kernel
theorem d_pn_against_15 : decode b_pn_against 15 = .ok (.aload_n 0, 1) := by decide +kernel
theorem d_pn_against_16 : decode b_pn_against 16 = .ok (.getfield 41, 3) := by decide +kernel
theorem d_pn_against_19 : decode b_pn_against 19 = .ok (.getfield 74, 3) := by decide +kernel
theorem d_pn_against_22 : decode b_pn_against 22 = .ok (.iload_n 1, 1) := by decide +kernel
theorem d_pn_against_23 : decode b_pn_against 23 = .ok (.aaload, 1) := by decide +kernel
theorem d_pn_against_24 : decode b_pn_against 24 = .ok (.invokevirtual 110, 3) := by decide +kernel
theorem d_pn_against_27 : decode b_pn_against 27 = .ok (.ireturn, 1) := by decide +kernel
theorem d_pn_fetch_0 : decode b_pn_fetch 0 = .ok (.iload_n 1, 1) := by decide +kernel
theorem d_pn_fetch_1 : decode b_pn_fetch 1 = .ok (.invokestatic 71, 3) := by decide +kernel
theorem d_pn_fetch_4 : decode b_pn_fetch 4 = .ok (.aload_n 0, 1) := by decide +kernel
theorem d_pn_fetch_5 : decode b_pn_fetch 5 = .ok (.aload_n 0, 1) := by decide +kernel
theorem d_pn_fetch_6 : decode b_pn_fetch 6 = .ok (.getfield 41, 3) := by decide +kernel
theorem d_pn_fetch_9 : decode b_pn_fetch 9 = .ok (.getfield 74, 3) := by decide +kernel
theorem d_pn_fetch_12 : decode b_pn_fetch 12 = .ok (.iload_n 1, 1) := by decide +kernel
theorem d_pn_fetch_13 : decode b_pn_fetch 13 = .ok (.aaload, 1) := by decide +kernel
theorem d_pn_fetch_14 : decode b_pn_fetch 14 = .ok (.invokevirtual 67, 3) := by decide +kernel
theorem d_pn_fetch_17 : decode b_pn_fetch 17 = .ok (.ireturn, 1) := by decide +kernel
theorem d_pn_characterOf_0 : decode b_pn_characterOf 0 = .ok (.lload_n 0, 1) := by decide +kernel
theorem d_pn_characterOf_1 : decode b_pn_characterOf 1 = .ok (.bipush 8, 2) := by decide +kernel
theorem d_pn_characterOf_3 : decode b_pn_characterOf 3 = .ok (.iload_n 2, 1) := by decide +kernel
theorem d_pn_characterOf_4 : decode b_pn_characterOf 4 = .ok (.imul, 1) := by decide +kernel
theorem d_pn_characterOf_5 : decode b_pn_characterOf 5 = .ok (.lushr, 1) := by decide +kernel
theorem d_pn_characterOf_6 : decode b_pn_characterOf 6 = .ok (.l2i, 1) := by decide +kernel
theorem d_pn_characterOf_7 : decode b_pn_characterOf 7 = .ok (.sipush 255, 3) := by decide +kernel
theorem d_pn_characterOf_10 : decode b_pn_characterOf 10 = .ok (.iand, 1) := by decide +kernel
theorem d_pn_characterOf_11 : decode b_pn_characterOf 11 = .ok (.ireturn, 1) := by decide +kernel
theorem d_pn_requireVariable_0 : decode b_pn_requireVariable 0 = .ok (.iload_n 0, 1) := by decide +kernel
theorem d_pn_requireVariable_1 : decode b_pn_requireVariable 1 = .ok (.ifCond .lt 9, 3) := by decide +kernel
theorem d_pn_requireVariable_4 : decode b_pn_requireVariable 4 = .ok (.iload_n 0, 1) := by decide +kernel
theorem d_pn_requireVariable_5 : decode b_pn_requireVariable 5 = .ok (.bipush 8, 2) := by decide +kernel
theorem d_pn_requireVariable_7 : decode b_pn_requireVariable 7 = .ok (.if_icmp .lt 11, 3) := by decide +kernel
theorem d_pn_requireVariable_10 : decode b_pn_requireVariable 10 = .ok (.new 116, 3) := by decide +kernel
theorem d_pn_requireVariable_13 : decode b_pn_requireVariable 13 = .ok (.dup, 1) := by decide +kernel
theorem d_pn_requireVariable_14 : decode b_pn_requireVariable 14 = .ok (.invokespecial 118, 3) := by decide +kernel
theorem d_pn_requireVariable_17 : decode b_pn_requireVariable 17 = .ok (.athrow, 1) := by decide +kernel
theorem d_pn_requireVariable_18 : decode b_pn_requireVariable 18 = .ok (.return_, 1) := by decide +kernel
theorem d_pn_requireExpression_0 : decode b_pn_requireExpression 0 = .ok (.aload_n 0, 1) := by decide +kernel
theorem d_pn_requireExpression_1 : decode b_pn_requireExpression 1 = .ok (.aload_n 0, 1) := by decide +kernel
theorem d_pn_requireExpression_2 : decode b_pn_requireExpression 2 = .ok (.getfield 34, 3) := by decide +kernel
theorem d_pn_requireExpression_5 : decode b_pn_requireExpression 5 = .ok (.aload_n 0, 1) := by decide +kernel
theorem d_pn_requireExpression_6 : decode b_pn_requireExpression 6 = .ok (.getfield 9, 3) := by decide +kernel
theorem d_pn_requireExpression_9 : decode b_pn_requireExpression 9 = .ok (.aload_n 0, 1) := by decide +kernel
theorem d_pn_requireExpression_10 : decode b_pn_requireExpression 10 = .ok (.getfield 49, 3) := by decide +kernel
theorem d_pn_requireExpression_13 : decode b_pn_requireExpression 13 = .ok (.invokevirtual 119, 3) := by decide +kernel
theorem d_pn_requireExpression_16 : decode b_pn_requireExpression 16 = .ok (.putfield 13, 3) := by decide +kernel
theorem d_pn_requireExpression_19 : decode b_pn_requireExpression 19 = .ok (.aload_n 0, 1) := by decide +kernel
theorem d_pn_requireExpression_20 : decode b_pn_requireExpression 20 = .ok (.getfield 13, 3) := by decide +kernel
theorem d_pn_requireExpression_23 : decode b_pn_requireExpression 23 = .ok (.iconst (-1), 1) := by decide +kernel
theorem d_pn_requireExpression_24 : decode b_pn_requireExpression 24 = .ok (.if_icmp .eq 11, 3) := by decide +kernel
theorem d_pn_requireExpression_27 : decode b_pn_requireExpression 27 = .ok (.new 122, 3) := by decide +kernel
theorem d_pn_requireExpression_30 : decode b_pn_requireExpression 30 = .ok (.dup, 1) := by decide +kernel
theorem d_pn_requireExpression_31 : decode b_pn_requireExpression 31 = .ok (.invokespecial 124, 3) := by decide +kernel
theorem d_pn_requireExpression_34 : decode b_pn_requireExpression 34 = .ok (.athrow, 1) := by decide +kernel
theorem d_pn_requireExpression_35 : decode b_pn_requireExpression 35 = .ok (.return_, 1) := by decide +kernel
theorem d_pn_refuse_0 : decode b_pn_refuse 0 = .ok (.iload_n 0, 1) := by decide +kernel
theorem d_pn_refuse_1 : decode b_pn_refuse 1 = .ok (.iconst 1, 1) := by decide +kernel
theorem d_pn_refuse_2 : decode b_pn_refuse 2 = .ok (.if_icmp .ne 11, 3) := by decide +kernel
theorem d_pn_refuse_5 : decode b_pn_refuse 5 = .ok (.new 125, 3) := by decide +kernel
theorem d_pn_refuse_8 : decode b_pn_refuse 8 = .ok (.dup, 1) := by decide +kernel
theorem d_pn_refuse_9 : decode b_pn_refuse 9 = .ok (.invokespecial 127, 3) := by decide +kernel
theorem d_pn_refuse_12 : decode b_pn_refuse 12 = .ok (.athrow, 1) := by decide +kernel
theorem d_pn_refuse_13 : decode b_pn_refuse 13 = .ok (.iload_n 0, 1) := by decide +kernel
theorem d_pn_refuse_14 : decode b_pn_refuse 14 = .ok (.iconst 2, 1) := by decide +kernel
theorem d_pn_refuse_15 : decode b_pn_refuse 15 = .ok (.if_icmp .ne 11, 3) := by decide +kernel
theorem d_pn_refuse_18 : decode b_pn_refuse 18 = .ok (.new 128, 3) := by decide +kernel
theorem d_pn_refuse_21 : decode b_pn_refuse 21 = .ok (.dup, 1) := by decide +kernel
theorem d_pn_refuse_22 : decode b_pn_refuse 22 = .ok (.invokespecial 130, 3) := by decide +kernel
theorem d_pn_refuse_25 : decode b_pn_refuse 25 = .ok (.athrow, 1) := by decide +kernel
theorem d_pn_refuse_26 : decode b_pn_refuse 26 = .ok (.iload_n 0, 1) := by decide +kernel
theorem d_pn_refuse_27 : decode b_pn_refuse 27 = .ok (.iconst 3, 1) := by decide +kernel
theorem d_pn_refuse_28 : decode b_pn_refuse 28 = .ok (.if_icmp .ne 11, 3) := by decide +kernel
theorem d_pn_refuse_31 : decode b_pn_refuse 31 = .ok (.new 131, 3) := by decide +kernel
theorem d_pn_refuse_34 : decode b_pn_refuse 34 = .ok (.dup, 1) := by decide +kernel
theorem d_pn_refuse_35 : decode b_pn_refuse 35 = .ok (.invokespecial 133, 3) := by decide +kernel
theorem d_pn_refuse_38 : decode b_pn_refuse 38 = .ok (.athrow, 1) := by decide +kernel
theorem d_pn_refuse_39 : decode b_pn_refuse 39 = .ok (.return_, 1) := by decide +kernel
theorem d_pn_settle_0 : decode b_pn_settle 0 = .ok (.aload_n 0, 1) := by decide +kernel
theorem d_pn_settle_1 : decode b_pn_settle 1 = .ok (.getfield 20, 3) := by decide +kernel
theorem d_pn_settle_4 : decode b_pn_settle 4 = .ok (.aload_n 1, 1) := by decide +kernel
theorem d_pn_settle_5 : decode b_pn_settle 5 = .ok (.invokevirtual 78, 3) := by decide +kernel
theorem d_pn_settle_8 : decode b_pn_settle 8 = .ok (.aload_n 0, 1) := by decide +kernel
theorem d_pn_settle_9 : decode b_pn_settle 9 = .ok (.getfield 27, 3) := by decide +kernel
theorem d_pn_settle_12 : decode b_pn_settle 12 = .ok (.aload_n 0, 1) := by decide +kernel
theorem d_pn_settle_13 : decode b_pn_settle 13 = .ok (.getfield 20, 3) := by decide +kernel
theorem d_pn_settle_16 : decode b_pn_settle 16 = .ok (.invokevirtual 134, 3) := by decide +kernel
theorem d_pn_settle_19 : decode b_pn_settle 19 = .ok (.aload_n 0, 1) := by decide +kernel
theorem d_pn_settle_20 : decode b_pn_settle 20 = .ok (.getfield 20, 3) := by decide +kernel
theorem d_pn_settle_23 : decode b_pn_settle 23 = .ok (.invokevirtual 82, 3) := by decide +kernel
theorem d_pn_settle_26 : decode b_pn_settle 26 = .ok (.ireturn, 1) := by decide +kernel
theorem d_pn_isDigit_0 : decode b_pn_isDigit 0 = .ok (.iload_n 0, 1) := by decide +kernel
theorem d_pn_isDigit_1 : decode b_pn_isDigit 1 = .ok (.bipush 48, 2) := by decide +kernel
theorem d_pn_isDigit_3 : decode b_pn_isDigit 3 = .ok (.if_icmp .lt 13, 3) := by decide +kernel
theorem d_pn_isDigit_6 : decode b_pn_isDigit 6 = .ok (.iload_n 0, 1) := by decide +kernel
theorem d_pn_isDigit_7 : decode b_pn_isDigit 7 = .ok (.bipush 57, 2) := by decide +kernel
theorem d_pn_isDigit_9 : decode b_pn_isDigit 9 = .ok (.if_icmp .gt 7, 3) := by decide +kernel
theorem d_pn_isDigit_12 : decode b_pn_isDigit 12 = .ok (.iconst 1, 1) := by decide +kernel
theorem d_pn_isDigit_13 : decode b_pn_isDigit 13 = .ok (.goto 4, 3) := by decide +kernel
theorem d_pn_isDigit_16 : decode b_pn_isDigit 16 = .ok (.iconst 0, 1) := by decide +kernel
theorem d_pn_isDigit_17 : decode b_pn_isDigit 17 = .ok (.ireturn, 1) := by decide +kernel
theorem d_pn_isVariable_0 : decode b_pn_isVariable 0 = .ok (.iload_n 0, 1) := by decide +kernel
theorem d_pn_isVariable_1 : decode b_pn_isVariable 1 = .ok (.bipush 97, 2) := by decide +kernel
theorem d_pn_isVariable_3 : decode b_pn_isVariable 3 = .ok (.if_icmp .lt 13, 3) := by decide +kernel
theorem d_pn_isVariable_6 : decode b_pn_isVariable 6 = .ok (.iload_n 0, 1) := by decide +kernel
theorem d_pn_isVariable_7 : decode b_pn_isVariable 7 = .ok (.bipush 105, 2) := by decide +kernel
theorem d_pn_isVariable_9 : decode b_pn_isVariable 9 = .ok (.if_icmp .ge 7, 3) := by decide +kernel
theorem d_pn_isVariable_12 : decode b_pn_isVariable 12 = .ok (.iconst 1, 1) := by decide +kernel
theorem d_pn_isVariable_13 : decode b_pn_isVariable 13 = .ok (.goto 4, 3) := by decide +kernel
theorem d_pn_isVariable_16 : decode b_pn_isVariable 16 = .ok (.iconst 0, 1) := by decide +kernel
theorem d_pn_isVariable_17 : decode b_pn_isVariable 17 = .ok (.ireturn, 1) := by decide +kernel
