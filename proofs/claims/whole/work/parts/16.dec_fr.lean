theorem d_fr_init_0 : decode b_fr_init 0 = .ok (.aload_n 0, 1) := by decide +kernel
theorem d_fr_init_1 : decode b_fr_init 1 = .ok (.invokespecial 3, 3) := by decide +kernel
theorem d_fr_init_4 : decode b_fr_init 4 = .ok (.aload_n 0, 1) := by decide +kernel
theorem d_fr_init_5 : decode b_fr_init 5 = .ok (.new 9, 3) := by decide +kernel
theorem d_fr_init_8 : decode b_fr_init 8 = .ok (.dup, 1) := by decide +kernel
theorem d_fr_init_9 : decode b_fr_init 9 = .ok (.bipush 8, 2) := by decide +kernel
theorem d_fr_init_11 : decode b_fr_init 11 = .ok (.invokespecial 11, 3) := by decide +kernel
theorem d_fr_init_14 : decode b_fr_init 14 = .ok (.putfield 14, 3) := by decide +kernel
theorem d_fr_init_17 : decode b_fr_init 17 = .ok (.aload_n 0, 1) := by decide +kernel
theorem d_fr_init_18 : decode b_fr_init 18 = .ok (.new 9, 3) := by decide +kernel
theorem d_fr_init_21 : decode b_fr_init 21 = .ok (.dup, 1) := by decide +kernel
theorem d_fr_init_22 : decode b_fr_init 22 = .ok (.bipush 8, 2) := by decide +kernel
theorem d_fr_init_24 : decode b_fr_init 24 = .ok (.invokespecial 11, 3) := by decide +kernel
theorem d_fr_init_27 : decode b_fr_init 27 = .ok (.putfield 20, 3) := by decide +kernel
theorem d_fr_init_30 : decode b_fr_init 30 = .ok (.aload_n 0, 1) := by decide +kernel
theorem d_fr_init_31 : decode b_fr_init 31 = .ok (.getfield 20, 3) := by decide +kernel
theorem d_fr_init_34 : decode b_fr_init 34 = .ok (.iconst 1, 1) := by decide +kernel
theorem d_fr_init_35 : decode b_fr_init 35 = .ok (.invokevirtual 23, 3) := by decide +kernel
theorem d_fr_init_38 : decode b_fr_init 38 = .ok (.return_, 1) := by decide +kernel
theorem d_fr_become_0 : decode b_fr_become 0 = .ok (.aload_n 0, 1) := by decide +kernel
theorem d_fr_become_1 : decode b_fr_become 1 = .ok (.getfield 14, 3) := by decide +kernel
theorem d_fr_become_4 : decode b_fr_become 4 = .ok (.iload_n 1, 1) := by decide +kernel
theorem d_fr_become_5 : decode b_fr_become 5 = .ok (.invokevirtual 23, 3) := by decide +kernel
theorem d_fr_become_8 : decode b_fr_become 8 = .ok (.aload_n 0, 1) := by decide +kernel
theorem d_fr_become_9 : decode b_fr_become 9 = .ok (.getfield 20, 3) := by decide +kernel
theorem d_fr_become_12 : decode b_fr_become 12 = .ok (.iconst 1, 1) := by decide +kernel
theorem d_fr_become_13 : decode b_fr_become 13 = .ok (.invokevirtual 23, 3) := by decide +kernel
theorem d_fr_become_16 : decode b_fr_become 16 = .ok (.aload_n 0, 1) := by decide +kernel
theorem d_fr_become_17 : decode b_fr_become 17 = .ok (.iconst 0, 1) := by decide +kernel
theorem d_fr_become_18 : decode b_fr_become 18 = .ok (.putfield 26, 3) := by decide +kernel
theorem d_fr_become_21 : decode b_fr_become 21 = .ok (.return_, 1) := by decide +kernel
theorem d_fr_copy_0 : decode b_fr_copy 0 = .ok (.aload_n 0, 1) := by decide +kernel
theorem d_fr_copy_1 : decode b_fr_copy 1 = .ok (.getfield 14, 3) := by decide +kernel
theorem d_fr_copy_4 : decode b_fr_copy 4 = .ok (.aload_n 1, 1) := by decide +kernel
theorem d_fr_copy_5 : decode b_fr_copy 5 = .ok (.getfield 14, 3) := by decide +kernel
theorem d_fr_copy_8 : decode b_fr_copy 8 = .ok (.invokevirtual 30, 3) := by decide +kernel
theorem d_fr_copy_11 : decode b_fr_copy 11 = .ok (.aload_n 0, 1) := by decide +kernel
theorem d_fr_copy_12 : decode b_fr_copy 12 = .ok (.getfield 20, 3) := by decide +kernel
theorem d_fr_copy_15 : decode b_fr_copy 15 = .ok (.aload_n 1, 1) := by decide +kernel
theorem d_fr_copy_16 : decode b_fr_copy 16 = .ok (.getfield 20, 3) := by decide +kernel
theorem d_fr_copy_19 : decode b_fr_copy 19 = .ok (.invokevirtual 30, 3) := by decide +kernel
theorem d_fr_copy_22 : decode b_fr_copy 22 = .ok (.aload_n 0, 1) := by decide +kernel
theorem d_fr_copy_23 : decode b_fr_copy 23 = .ok (.aload_n 1, 1) := by decide +kernel
theorem d_fr_copy_24 : decode b_fr_copy 24 = .ok (.getfield 26, 3) := by decide +kernel
theorem d_fr_copy_27 : decode b_fr_copy 27 = .ok (.putfield 26, 3) := by decide +kernel
theorem d_fr_copy_30 : decode b_fr_copy 30 = .ok (.return_, 1) := by decide +kernel
theorem d_fr_isWhole_0 : decode b_fr_isWhole 0 = .ok (.aload_n 0, 1) := by decide +kernel
theorem d_fr_isWhole_1 : decode b_fr_isWhole 1 = .ok (.getfield 20, 3) := by decide +kernel
theorem d_fr_isWhole_4 : decode b_fr_isWhole 4 = .ok (.invokevirtual 34, 3) := by decide +kernel
theorem d_fr_isWhole_7 : decode b_fr_isWhole 7 = .ok (.ireturn, 1) := by decide +kernel
theorem d_fr_isZero_0 : decode b_fr_isZero 0 = .ok (.aload_n 0, 1) := by decide +kernel
theorem d_fr_isZero_1 : decode b_fr_isZero 1 = .ok (.getfield 14, 3) := by decide +kernel
theorem d_fr_isZero_4 : decode b_fr_isZero 4 = .ok (.invokevirtual 38, 3) := by decide +kernel
theorem d_fr_isZero_7 : decode b_fr_isZero 7 = .ok (.ireturn, 1) := by decide +kernel
theorem d_fr_side_0 : decode b_fr_side 0 = .ok (.aload_n 0, 1) := by decide +kernel
theorem d_fr_side_1 : decode b_fr_side 1 = .ok (.getfield 26, 3) := by decide +kernel
theorem d_fr_side_4 : decode b_fr_side 4 = .ok (.ifCond .eq 7, 3) := by decide +kernel
theorem d_fr_side_7 : decode b_fr_side 7 = .ok (.iconst (-1), 1) := by decide +kernel
theorem d_fr_side_8 : decode b_fr_side 8 = .ok (.goto 15, 3) := by decide +kernel
theorem d_fr_side_11 : decode b_fr_side 11 = .ok (.aload_n 0, 1) := by decide +kernel
theorem d_fr_side_12 : decode b_fr_side 12 = .ok (.invokevirtual 41, 3) := by decide +kernel
theorem d_fr_side_15 : decode b_fr_side 15 = .ok (.ifCond .eq 7, 3) := by decide +kernel
theorem d_fr_side_18 : decode b_fr_side 18 = .ok (.iconst 0, 1) := by decide +kernel
theorem d_fr_side_19 : decode b_fr_side 19 = .ok (.goto 4, 3) := by decide +kernel
theorem d_fr_side_22 : decode b_fr_side 22 = .ok (.iconst 1, 1) := by decide +kernel
theorem d_fr_side_23 : decode b_fr_side 23 = .ok (.ireturn, 1) := by decide +kernel
theorem d_fr_kind_0 : decode b_fr_kind 0 = .ok (.aload_n 0, 1) := by decide +kernel
theorem d_fr_kind_1 : decode b_fr_kind 1 = .ok (.invokevirtual 42, 3) := by decide +kernel
theorem d_fr_kind_4 : decode b_fr_kind 4 = .ok (.ifCond .ne 5, 3) := by decide +kernel
theorem d_fr_kind_7 : decode b_fr_kind 7 = .ok (.iconst 2, 1) := by decide +kernel
theorem d_fr_kind_8 : decode b_fr_kind 8 = .ok (.ireturn, 1) := by decide +kernel
theorem d_fr_kind_9 : decode b_fr_kind 9 = .ok (.aload_n 0, 1) := by decide +kernel
theorem d_fr_kind_10 : decode b_fr_kind 10 = .ok (.getfield 14, 3) := by decide +kernel
theorem d_fr_kind_13 : decode b_fr_kind 13 = .ok (.getfield 45, 3) := by decide +kernel
theorem d_fr_kind_16 : decode b_fr_kind 16 = .ok (.iconst 3, 1) := by decide +kernel
theorem d_fr_kind_17 : decode b_fr_kind 17 = .ok (.if_icmp .lt 27, 3) := by decide +kernel
theorem d_fr_kind_20 : decode b_fr_kind 20 = .ok (.aload_n 0, 1) := by decide +kernel
theorem d_fr_kind_21 : decode b_fr_kind 21 = .ok (.getfield 14, 3) := by decide +kernel
theorem d_fr_kind_24 : decode b_fr_kind 24 = .ok (.getfield 45, 3) := by decide +kernel
theorem d_fr_kind_27 : decode b_fr_kind 27 = .ok (.iconst 3, 1) := by decide +kernel
theorem d_fr_kind_28 : decode b_fr_kind 28 = .ok (.if_icmp .ne 20, 3) := by decide +kernel
theorem d_fr_kind_31 : decode b_fr_kind 31 = .ok (.aload_n 0, 1) := by decide +kernel
theorem d_fr_kind_32 : decode b_fr_kind 32 = .ok (.getfield 14, 3) := by decide +kernel
theorem d_fr_kind_35 : decode b_fr_kind 35 = .ok (.getfield 49, 3) := by decide +kernel
theorem d_fr_kind_38 : decode b_fr_kind 38 = .ok (.iconst 2, 1) := by decide +kernel
theorem d_fr_kind_39 : decode b_fr_kind 39 = .ok (.iaload, 1) := by decide +kernel
theorem d_fr_kind_40 : decode b_fr_kind 40 = .ok (.iconst 4, 1) := by decide +kernel
theorem d_fr_kind_41 : decode b_fr_kind 41 = .ok (.if_icmp .ge 7, 3) := by decide +kernel
theorem d_fr_kind_44 : decode b_fr_kind 44 = .ok (.iconst 1, 1) := by decide +kernel
theorem d_fr_kind_45 : decode b_fr_kind 45 = .ok (.goto 4, 3) := by decide +kernel
theorem d_fr_kind_48 : decode b_fr_kind 48 = .ok (.iconst 0, 1) := by decide +kernel
theorem d_fr_kind_49 : decode b_fr_kind 49 = .ok (.istore_n 1, 1) := by decide +kernel
theorem d_fr_kind_50 : decode b_fr_kind 50 = .ok (.iload_n 1, 1) := by decide +kernel
theorem d_fr_kind_51 : decode b_fr_kind 51 = .ok (.ifCond .eq 7, 3) := by decide +kernel
theorem d_fr_kind_54 : decode b_fr_kind 54 = .ok (.iconst 0, 1) := by decide +kernel
theorem d_fr_kind_55 : decode b_fr_kind 55 = .ok (.goto 4, 3) := by decide +kernel
theorem d_fr_kind_58 : decode b_fr_kind 58 = .ok (.iconst 1, 1) := by decide +kernel
theorem d_fr_kind_59 : decode b_fr_kind 59 = .ok (.ireturn, 1) := by decide +kernel
