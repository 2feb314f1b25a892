theorem d_gr_init_0 : decode b_gr_init 0 = .ok (.aload_n 0, 1) := by decide +kernel
theorem d_gr_init_1 : decode b_gr_init 1 = .ok (.invokespecial 3, 3) := by decide +kernel
theorem d_gr_init_4 : decode b_gr_init 4 = .ok (.aload_n 0, 1) := by decide +kernel
theorem d_gr_init_5 : decode b_gr_init 5 = .ok (.bipush 12, 2) := by decide +kernel
theorem d_gr_init_7 : decode b_gr_init 7 = .ok (.newarray .int, 2) := by decide +kernel
theorem d_gr_init_9 : decode b_gr_init 9 = .ok (.putfield 9, 3) := by decide +kernel
theorem d_gr_init_12 : decode b_gr_init 12 = .ok (.aload_n 0, 1) := by decide +kernel
theorem d_gr_init_13 : decode b_gr_init 13 = .ok (.bipush 12, 2) := by decide +kernel
theorem d_gr_init_15 : decode b_gr_init 15 = .ok (.newarray .int, 2) := by decide +kernel
theorem d_gr_init_17 : decode b_gr_init 17 = .ok (.putfield 15, 3) := by decide +kernel
theorem d_gr_init_20 : decode b_gr_init 20 = .ok (.return_, 1) := by decide +kernel
theorem d_gr_faultOf_0 : decode b_gr_faultOf 0 = .ok (.aload_n 0, 1) := by decide +kernel
theorem d_gr_faultOf_1 : decode b_gr_faultOf 1 = .ok (.iconst 0, 1) := by decide +kernel
theorem d_gr_faultOf_2 : decode b_gr_faultOf 2 = .ok (.putfield 18, 3) := by decide +kernel
theorem d_gr_faultOf_5 : decode b_gr_faultOf 5 = .ok (.iconst 0, 1) := by decide +kernel
theorem d_gr_faultOf_6 : decode b_gr_faultOf 6 = .ok (.istore_n 3, 1) := by decide +kernel
theorem d_gr_faultOf_7 : decode b_gr_faultOf 7 = .ok (.iconst 0, 1) := by decide +kernel
theorem d_gr_faultOf_8 : decode b_gr_faultOf 8 = .ok (.istore 4, 2) := by decide +kernel
theorem d_gr_faultOf_10 : decode b_gr_faultOf 10 = .ok (.iload 4, 2) := by decide +kernel
theorem d_gr_faultOf_12 : decode b_gr_faultOf 12 = .ok (.iload_n 2, 1) := by decide +kernel
theorem d_gr_faultOf_13 : decode b_gr_faultOf 13 = .ok (.if_icmp .ge 27, 3) := by decide +kernel
theorem d_gr_faultOf_16 : decode b_gr_faultOf 16 = .ok (.aload_n 0, 1) := by decide +kernel
theorem d_gr_faultOf_17 : decode b_gr_faultOf 17 = .ok (.iload_n 3, 1) := by decide +kernel
theorem d_gr_faultOf_18 : decode b_gr_faultOf 18 = .ok (.aload_n 1, 1) := by decide +kernel
theorem d_gr_faultOf_19 : decode b_gr_faultOf 19 = .ok (.iload 4, 2) := by decide +kernel
theorem d_gr_faultOf_21 : decode b_gr_faultOf 21 = .ok (.caload, 1) := by decide +kernel
theorem d_gr_faultOf_22 : decode b_gr_faultOf 22 = .ok (.invokevirtual 22, 3) := by decide +kernel
theorem d_gr_faultOf_25 : decode b_gr_faultOf 25 = .ok (.istore_n 3, 1) := by decide +kernel
theorem d_gr_faultOf_26 : decode b_gr_faultOf 26 = .ok (.iload_n 3, 1) := by decide +kernel
theorem d_gr_faultOf_27 : decode b_gr_faultOf 27 = .ok (.iconst 5, 1) := by decide +kernel
theorem d_gr_faultOf_28 : decode b_gr_faultOf 28 = .ok (.if_icmp .ne 6, 3) := by decide +kernel
theorem d_gr_faultOf_31 : decode b_gr_faultOf 31 = .ok (.iload 4, 2) := by decide +kernel
theorem d_gr_faultOf_33 : decode b_gr_faultOf 33 = .ok (.ireturn, 1) := by decide +kernel
theorem d_gr_faultOf_34 : decode b_gr_faultOf 34 = .ok (.iinc 4 1, 3) := by decide +kernel
theorem d_gr_faultOf_37 : decode b_gr_faultOf 37 = .ok (.goto (-27), 3) := by decide +kernel
theorem d_gr_faultOf_40 : decode b_gr_faultOf 40 = .ok (.aload_n 0, 1) := by decide +kernel
theorem d_gr_faultOf_41 : decode b_gr_faultOf 41 = .ok (.getfield 18, 3) := by decide +kernel
theorem d_gr_faultOf_44 : decode b_gr_faultOf 44 = .ok (.ifCond .ne 17, 3) := by decide +kernel
theorem d_gr_faultOf_47 : decode b_gr_faultOf 47 = .ok (.iload_n 3, 1) := by decide +kernel
theorem d_gr_faultOf_48 : decode b_gr_faultOf 48 = .ok (.iconst 3, 1) := by decide +kernel
theorem d_gr_faultOf_49 : decode b_gr_faultOf 49 = .ok (.if_icmp .eq 8, 3) := by decide +kernel
theorem d_gr_faultOf_52 : decode b_gr_faultOf 52 = .ok (.iload_n 3, 1) := by decide +kernel
theorem d_gr_faultOf_53 : decode b_gr_faultOf 53 = .ok (.iconst 4, 1) := by decide +kernel
theorem d_gr_faultOf_54 : decode b_gr_faultOf 54 = .ok (.if_icmp .ne 7, 3) := by decide +kernel
theorem d_gr_faultOf_57 : decode b_gr_faultOf 57 = .ok (.iconst 1, 1) := by decide +kernel
theorem d_gr_faultOf_58 : decode b_gr_faultOf 58 = .ok (.goto 4, 3) := by decide +kernel
theorem d_gr_faultOf_61 : decode b_gr_faultOf 61 = .ok (.iconst 0, 1) := by decide +kernel
theorem d_gr_faultOf_62 : decode b_gr_faultOf 62 = .ok (.istore 4, 2) := by decide +kernel
theorem d_gr_faultOf_64 : decode b_gr_faultOf 64 = .ok (.iload 4, 2) := by decide +kernel
theorem d_gr_faultOf_66 : decode b_gr_faultOf 66 = .ok (.ifCond .eq 7, 3) := by decide +kernel
theorem d_gr_faultOf_69 : decode b_gr_faultOf 69 = .ok (.iconst (-1), 1) := by decide +kernel
theorem d_gr_faultOf_70 : decode b_gr_faultOf 70 = .ok (.goto 4, 3) := by decide +kernel
theorem d_gr_faultOf_73 : decode b_gr_faultOf 73 = .ok (.iload_n 2, 1) := by decide +kernel
theorem d_gr_faultOf_74 : decode b_gr_faultOf 74 = .ok (.ireturn, 1) := by decide +kernel
theorem d_gr_behind_0 : decode b_gr_behind 0 = .ok (.iload_n 1, 1) := by decide +kernel
theorem d_gr_behind_1 : decode b_gr_behind 1 = .ok (.tableswitch 73 0 3 #[31, 37, 43, 56], 31) := by decide +kernel
theorem d_gr_behind_32 : decode b_gr_behind 32 = .ok (.aload_n 0, 1) := by decide +kernel
theorem d_gr_behind_33 : decode b_gr_behind 33 = .ok (.iload_n 2, 1) := by decide +kernel
theorem d_gr_behind_34 : decode b_gr_behind 34 = .ok (.invokevirtual 26, 3) := by decide +kernel
theorem d_gr_behind_37 : decode b_gr_behind 37 = .ok (.ireturn, 1) := by decide +kernel
theorem d_gr_behind_38 : decode b_gr_behind 38 = .ok (.aload_n 0, 1) := by decide +kernel
theorem d_gr_behind_39 : decode b_gr_behind 39 = .ok (.iload_n 2, 1) := by decide +kernel
theorem d_gr_behind_40 : decode b_gr_behind 40 = .ok (.invokevirtual 30, 3) := by decide +kernel
theorem d_gr_behind_43 : decode b_gr_behind 43 = .ok (.ireturn, 1) := by decide +kernel
theorem d_gr_behind_44 : decode b_gr_behind 44 = .ok (.iload_n 2, 1) := by decide +kernel
theorem d_gr_behind_45 : decode b_gr_behind 45 = .ok (.invokestatic 33, 3) := by decide +kernel
theorem d_gr_behind_48 : decode b_gr_behind 48 = .ok (.ifCond .eq 7, 3) := by decide +kernel
theorem d_gr_behind_51 : decode b_gr_behind 51 = .ok (.iconst 3, 1) := by decide +kernel
theorem d_gr_behind_52 : decode b_gr_behind 52 = .ok (.goto 4, 3) := by decide +kernel
theorem d_gr_behind_55 : decode b_gr_behind 55 = .ok (.iconst 5, 1) := by decide +kernel
theorem d_gr_behind_56 : decode b_gr_behind 56 = .ok (.ireturn, 1) := by decide +kernel
theorem d_gr_behind_57 : decode b_gr_behind 57 = .ok (.iload_n 2, 1) := by decide +kernel
theorem d_gr_behind_58 : decode b_gr_behind 58 = .ok (.invokestatic 33, 3) := by decide +kernel
theorem d_gr_behind_61 : decode b_gr_behind 61 = .ok (.ifCond .eq 7, 3) := by decide +kernel
theorem d_gr_behind_64 : decode b_gr_behind 64 = .ok (.iconst 3, 1) := by decide +kernel
theorem d_gr_behind_65 : decode b_gr_behind 65 = .ok (.goto 8, 3) := by decide +kernel
theorem d_gr_behind_68 : decode b_gr_behind 68 = .ok (.aload_n 0, 1) := by decide +kernel
theorem d_gr_behind_69 : decode b_gr_behind 69 = .ok (.iload_n 2, 1) := by decide +kernel
theorem d_gr_behind_70 : decode b_gr_behind 70 = .ok (.invokevirtual 37, 3) := by decide +kernel
theorem d_gr_behind_73 : decode b_gr_behind 73 = .ok (.ireturn, 1) := by decide +kernel
theorem d_gr_behind_74 : decode b_gr_behind 74 = .ok (.aload_n 0, 1) := by decide +kernel
theorem d_gr_behind_75 : decode b_gr_behind 75 = .ok (.iload_n 2, 1) := by decide +kernel
theorem d_gr_behind_76 : decode b_gr_behind 76 = .ok (.invokevirtual 37, 3) := by decide +kernel
theorem d_gr_behind_79 : decode b_gr_behind 79 = .ok (.ireturn, 1) := by decide +kernel
theorem d_gr_behindStart_0 : decode b_gr_behindStart 0 = .ok (.iload_n 1, 1) := by decide +kernel
theorem d_gr_behindStart_1 : decode b_gr_behindStart 1 = .ok (.invokestatic 33, 3) := by decide +kernel
theorem d_gr_behindStart_4 : decode b_gr_behindStart 4 = .ok (.ifCond .eq 5, 3) := by decide +kernel
theorem d_gr_behindStart_7 : decode b_gr_behindStart 7 = .ok (.iconst 3, 1) := by decide +kernel
theorem d_gr_behindStart_8 : decode b_gr_behindStart 8 = .ok (.ireturn, 1) := by decide +kernel
theorem d_gr_behindStart_9 : decode b_gr_behindStart 9 = .ok (.iload_n 1, 1) := by decide +kernel
theorem d_gr_behindStart_10 : decode b_gr_behindStart 10 = .ok (.invokestatic 40, 3) := by decide +kernel
theorem d_gr_behindStart_13 : decode b_gr_behindStart 13 = .ok (.ifCond .eq 5, 3) := by decide +kernel
theorem d_gr_behindStart_16 : decode b_gr_behindStart 16 = .ok (.iconst 4, 1) := by decide +kernel
theorem d_gr_behindStart_17 : decode b_gr_behindStart 17 = .ok (.ireturn, 1) := by decide +kernel
theorem d_gr_behindStart_18 : decode b_gr_behindStart 18 = .ok (.iload_n 1, 1) := by decide +kernel
theorem d_gr_behindStart_19 : decode b_gr_behindStart 19 = .ok (.bipush 45, 2) := by decide +kernel
theorem d_gr_behindStart_21 : decode b_gr_behindStart 21 = .ok (.if_icmp .ne 5, 3) := by decide +kernel
theorem d_gr_behindStart_24 : decode b_gr_behindStart 24 = .ok (.iconst 2, 1) := by decide +kernel
theorem d_gr_behindStart_25 : decode b_gr_behindStart 25 = .ok (.ireturn, 1) := by decide +kernel
theorem d_gr_behindStart_26 : decode b_gr_behindStart 26 = .ok (.iload_n 1, 1) := by decide +kernel
theorem d_gr_behindStart_27 : decode b_gr_behindStart 27 = .ok (.bipush 40, 2) := by decide +kernel
theorem d_gr_behindStart_29 : decode b_gr_behindStart 29 = .ok (.if_icmp .ne 16, 3) := by decide +kernel
theorem d_gr_behindStart_32 : decode b_gr_behindStart 32 = .ok (.aload_n 0, 1) := by decide +kernel
theorem d_gr_behindStart_33 : decode b_gr_behindStart 33 = .ok (.getfield 18, 3) := by decide +kernel
theorem d_gr_behindStart_36 : decode b_gr_behindStart 36 = .ok (.bipush 12, 2) := by decide +kernel
theorem d_gr_behindStart_38 : decode b_gr_behindStart 38 = .ok (.if_icmp .ge 7, 3) := by decide +kernel
theorem d_gr_behindStart_41 : decode b_gr_behindStart 41 = .ok (.iconst 1, 1) := by decide +kernel
theorem d_gr_behindStart_42 : decode b_gr_behindStart 42 = .ok (.goto 4, 3) := by decide +kernel
theorem d_gr_behindStart_45 : decode b_gr_behindStart 45 = .ok (.iconst 5, 1) := by decide +kernel
theorem d_gr_behindStart_46 : decode b_gr_behindStart 46 = .ok (.ireturn, 1) := by decide +kernel
theorem d_gr_behindOperator_0 : decode b_gr_behindOperator 0 = .ok (.ldc 43, 2) := by decide +kernel
theorem d_gr_behindOperator_2 : decode b_gr_behindOperator 2 = .ok (.iload_n 1, 1) := by decide +kernel
theorem d_gr_behindOperator_3 : decode b_gr_behindOperator 3 = .ok (.invokevirtual 45, 3) := by decide +kernel
theorem d_gr_behindOperator_6 : decode b_gr_behindOperator 6 = .ok (.istore_n 2, 1) := by decide +kernel
theorem d_gr_behindOperator_7 : decode b_gr_behindOperator 7 = .ok (.iload_n 2, 1) := by decide +kernel
theorem d_gr_behindOperator_8 : decode b_gr_behindOperator 8 = .ok (.ifCond .ge 5, 3) := by decide +kernel
theorem d_gr_behindOperator_11 : decode b_gr_behindOperator 11 = .ok (.iconst 5, 1) := by decide +kernel
theorem d_gr_behindOperator_12 : decode b_gr_behindOperator 12 = .ok (.ireturn, 1) := by decide +kernel
theorem d_gr_behindOperator_13 : decode b_gr_behindOperator 13 = .ok (.aload_n 0, 1) := by decide +kernel
theorem d_gr_behindOperator_14 : decode b_gr_behindOperator 14 = .ok (.getfield 9, 3) := by decide +kernel
theorem d_gr_behindOperator_17 : decode b_gr_behindOperator 17 = .ok (.aload_n 0, 1) := by decide +kernel
theorem d_gr_behindOperator_18 : decode b_gr_behindOperator 18 = .ok (.getfield 18, 3) := by decide +kernel
theorem d_gr_behindOperator_21 : decode b_gr_behindOperator 21 = .ok (.iload_n 2, 1) := by decide +kernel
theorem d_gr_behindOperator_22 : decode b_gr_behindOperator 22 = .ok (.iastore, 1) := by decide +kernel
theorem d_gr_behindOperator_23 : decode b_gr_behindOperator 23 = .ok (.aload_n 0, 1) := by decide +kernel
theorem d_gr_behindOperator_24 : decode b_gr_behindOperator 24 = .ok (.getfield 15, 3) := by decide +kernel
theorem d_gr_behindOperator_27 : decode b_gr_behindOperator 27 = .ok (.aload_n 0, 1) := by decide +kernel
theorem d_gr_behindOperator_28 : decode b_gr_behindOperator 28 = .ok (.getfield 18, 3) := by decide +kernel
theorem d_gr_behindOperator_31 : decode b_gr_behindOperator 31 = .ok (.iconst 0, 1) := by decide +kernel
theorem d_gr_behindOperator_32 : decode b_gr_behindOperator 32 = .ok (.iastore, 1) := by decide +kernel
theorem d_gr_behindOperator_33 : decode b_gr_behindOperator 33 = .ok (.aload_n 0, 1) := by decide +kernel
theorem d_gr_behindOperator_34 : decode b_gr_behindOperator 34 = .ok (.dup, 1) := by decide +kernel
theorem d_gr_behindOperator_35 : decode b_gr_behindOperator 35 = .ok (.getfield 18, 3) := by decide +kernel
theorem d_gr_behindOperator_38 : decode b_gr_behindOperator 38 = .ok (.iconst 1, 1) := by decide +kernel
theorem d_gr_behindOperator_39 : decode b_gr_behindOperator 39 = .ok (.iadd, 1) := by decide +kernel
theorem d_gr_behindOperator_40 : decode b_gr_behindOperator 40 = .ok (.putfield 18, 3) := by decide +kernel
theorem d_gr_behindOperator_43 : decode b_gr_behindOperator 43 = .ok (.iconst 4, 1) := by decide +kernel
theorem d_gr_behindOperator_44 : decode b_gr_behindOperator 44 = .ok (.ireturn, 1) := by decide +kernel
theorem d_gr_behindPart_0 : decode b_gr_behindPart 0 = .ok (.aload_n 0, 1) := by decide +kernel
theorem d_gr_behindPart_1 : decode b_gr_behindPart 1 = .ok (.getfield 18, 3) := by decide +kernel
theorem d_gr_behindPart_4 : decode b_gr_behindPart 4 = .ok (.ifCond .ne 5, 3) := by decide +kernel
theorem d_gr_behindPart_7 : decode b_gr_behindPart 7 = .ok (.iconst 5, 1) := by decide +kernel
theorem d_gr_behindPart_8 : decode b_gr_behindPart 8 = .ok (.ireturn, 1) := by decide +kernel
theorem d_gr_behindPart_9 : decode b_gr_behindPart 9 = .ok (.aload_n 0, 1) := by decide +kernel
theorem d_gr_behindPart_10 : decode b_gr_behindPart 10 = .ok (.getfield 9, 3) := by decide +kernel
theorem d_gr_behindPart_13 : decode b_gr_behindPart 13 = .ok (.aload_n 0, 1) := by decide +kernel
theorem d_gr_behindPart_14 : decode b_gr_behindPart 14 = .ok (.getfield 18, 3) := by decide +kernel
theorem d_gr_behindPart_17 : decode b_gr_behindPart 17 = .ok (.iconst 1, 1) := by decide +kernel
theorem d_gr_behindPart_18 : decode b_gr_behindPart 18 = .ok (.isub, 1) := by decide +kernel
theorem d_gr_behindPart_19 : decode b_gr_behindPart 19 = .ok (.iaload, 1) := by decide +kernel
theorem d_gr_behindPart_20 : decode b_gr_behindPart 20 = .ok (.istore_n 2, 1) := by decide +kernel
theorem d_gr_behindPart_21 : decode b_gr_behindPart 21 = .ok (.aload_n 0, 1) := by decide +kernel
theorem d_gr_behindPart_22 : decode b_gr_behindPart 22 = .ok (.getfield 15, 3) := by decide +kernel
theorem d_gr_behindPart_25 : decode b_gr_behindPart 25 = .ok (.aload_n 0, 1) := by decide +kernel
theorem d_gr_behindPart_26 : decode b_gr_behindPart 26 = .ok (.getfield 18, 3) := by decide +kernel
theorem d_gr_behindPart_29 : decode b_gr_behindPart 29 = .ok (.iconst 1, 1) := by decide +kernel
theorem d_gr_behindPart_30 : decode b_gr_behindPart 30 = .ok (.isub, 1) := by decide +kernel
theorem d_gr_behindPart_31 : decode b_gr_behindPart 31 = .ok (.iaload, 1) := by decide +kernel
theorem d_gr_behindPart_32 : decode b_gr_behindPart 32 = .ok (.istore_n 3, 1) := by decide +kernel
theorem d_gr_behindPart_33 : decode b_gr_behindPart 33 = .ok (.iload_n 1, 1) := by decide +kernel
theorem d_gr_behindPart_34 : decode b_gr_behindPart 34 = .ok (.bipush 32, 2) := by decide +kernel
theorem d_gr_behindPart_36 : decode b_gr_behindPart 36 = .ok (.if_icmp .ne 29, 3) := by decide +kernel
theorem d_gr_behindPart_39 : decode b_gr_behindPart 39 = .ok (.iload_n 3, 1) := by decide +kernel
theorem d_gr_behindPart_40 : decode b_gr_behindPart 40 = .ok (.getstatic 51, 3) := by decide +kernel
theorem d_gr_behindPart_43 : decode b_gr_behindPart 43 = .ok (.iload_n 2, 1) := by decide +kernel
theorem d_gr_behindPart_44 : decode b_gr_behindPart 44 = .ok (.iaload, 1) := by decide +kernel
theorem d_gr_behindPart_45 : decode b_gr_behindPart 45 = .ok (.if_icmp .ge 20, 3) := by decide +kernel
theorem d_gr_behindPart_48 : decode b_gr_behindPart 48 = .ok (.aload_n 0, 1) := by decide +kernel
theorem d_gr_behindPart_49 : decode b_gr_behindPart 49 = .ok (.getfield 15, 3) := by decide +kernel
theorem d_gr_behindPart_52 : decode b_gr_behindPart 52 = .ok (.aload_n 0, 1) := by decide +kernel
theorem d_gr_behindPart_53 : decode b_gr_behindPart 53 = .ok (.getfield 18, 3) := by decide +kernel
theorem d_gr_behindPart_56 : decode b_gr_behindPart 56 = .ok (.iconst 1, 1) := by decide +kernel
theorem d_gr_behindPart_57 : decode b_gr_behindPart 57 = .ok (.isub, 1) := by decide +kernel
theorem d_gr_behindPart_58 : decode b_gr_behindPart 58 = .ok (.dup2, 1) := by decide +kernel
theorem d_gr_behindPart_59 : decode b_gr_behindPart 59 = .ok (.iaload, 1) := by decide +kernel
theorem d_gr_behindPart_60 : decode b_gr_behindPart 60 = .ok (.iconst 1, 1) := by decide +kernel
theorem d_gr_behindPart_61 : decode b_gr_behindPart 61 = .ok (.iadd, 1) := by decide +kernel
theorem d_gr_behindPart_62 : decode b_gr_behindPart 62 = .ok (.iastore, 1) := by decide +kernel
theorem d_gr_behindPart_63 : decode b_gr_behindPart 63 = .ok (.iconst 0, 1) := by decide +kernel
theorem d_gr_behindPart_64 : decode b_gr_behindPart 64 = .ok (.ireturn, 1) := by decide +kernel
theorem d_gr_behindPart_65 : decode b_gr_behindPart 65 = .ok (.iload_n 1, 1) := by decide +kernel
theorem d_gr_behindPart_66 : decode b_gr_behindPart 66 = .ok (.bipush 41, 2) := by decide +kernel
theorem d_gr_behindPart_68 : decode b_gr_behindPart 68 = .ok (.if_icmp .ne 24, 3) := by decide +kernel
theorem d_gr_behindPart_71 : decode b_gr_behindPart 71 = .ok (.iload_n 3, 1) := by decide +kernel
theorem d_gr_behindPart_72 : decode b_gr_behindPart 72 = .ok (.getstatic 54, 3) := by decide +kernel
theorem d_gr_behindPart_75 : decode b_gr_behindPart 75 = .ok (.iload_n 2, 1) := by decide +kernel
theorem d_gr_behindPart_76 : decode b_gr_behindPart 76 = .ok (.iaload, 1) := by decide +kernel
theorem d_gr_behindPart_77 : decode b_gr_behindPart 77 = .ok (.if_icmp .lt 15, 3) := by decide +kernel
theorem d_gr_behindPart_80 : decode b_gr_behindPart 80 = .ok (.aload_n 0, 1) := by decide +kernel
theorem d_gr_behindPart_81 : decode b_gr_behindPart 81 = .ok (.dup, 1) := by decide +kernel
theorem d_gr_behindPart_82 : decode b_gr_behindPart 82 = .ok (.getfield 18, 3) := by decide +kernel
theorem d_gr_behindPart_85 : decode b_gr_behindPart 85 = .ok (.iconst 1, 1) := by decide +kernel
theorem d_gr_behindPart_86 : decode b_gr_behindPart 86 = .ok (.isub, 1) := by decide +kernel
theorem d_gr_behindPart_87 : decode b_gr_behindPart 87 = .ok (.putfield 18, 3) := by decide +kernel
theorem d_gr_behindPart_90 : decode b_gr_behindPart 90 = .ok (.iconst 4, 1) := by decide +kernel
theorem d_gr_behindPart_91 : decode b_gr_behindPart 91 = .ok (.ireturn, 1) := by decide +kernel
theorem d_gr_behindPart_92 : decode b_gr_behindPart 92 = .ok (.iconst 5, 1) := by decide +kernel
theorem d_gr_behindPart_93 : decode b_gr_behindPart 93 = .ok (.ireturn, 1) := by decide +kernel
