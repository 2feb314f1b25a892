theorem d_wr_init_0 : decode b_wr_init 0 = .ok (.aload_n 0, 1) := by decide +kernel
theorem d_wr_init_1 : decode b_wr_init 1 = .ok (.invokespecial 5, 3) := by decide +kernel
theorem d_wr_init_4 : decode b_wr_init 4 = .ok (.aload_n 0, 1) := by decide +kernel
theorem d_wr_init_5 : decode b_wr_init 5 = .ok (.sipush 148, 3) := by decide +kernel
theorem d_wr_init_8 : decode b_wr_init 8 = .ok (.newarray .char, 2) := by decide +kernel
theorem d_wr_init_10 : decode b_wr_init 10 = .ok (.putfield 11, 3) := by decide +kernel
theorem d_wr_init_13 : decode b_wr_init 13 = .ok (.aload_n 0, 1) := by decide +kernel
theorem d_wr_init_14 : decode b_wr_init 14 = .ok (.new 15, 3) := by decide +kernel
theorem d_wr_init_17 : decode b_wr_init 17 = .ok (.dup, 1) := by decide +kernel
theorem d_wr_init_18 : decode b_wr_init 18 = .ok (.bipush 8, 2) := by decide +kernel
theorem d_wr_init_20 : decode b_wr_init 20 = .ok (.invokespecial 17, 3) := by decide +kernel
theorem d_wr_init_23 : decode b_wr_init 23 = .ok (.putfield 20, 3) := by decide +kernel
theorem d_wr_init_26 : decode b_wr_init 26 = .ok (.aload_n 0, 1) := by decide +kernel
theorem d_wr_init_27 : decode b_wr_init 27 = .ok (.sipush 147, 3) := by decide +kernel
theorem d_wr_init_30 : decode b_wr_init 30 = .ok (.putfield 24, 3) := by decide +kernel
theorem d_wr_init_33 : decode b_wr_init 33 = .ok (.aload_n 0, 1) := by decide +kernel
theorem d_wr_init_34 : decode b_wr_init 34 = .ok (.getfield 11, 3) := by decide +kernel
theorem d_wr_init_37 : decode b_wr_init 37 = .ok (.aload_n 0, 1) := by decide +kernel
theorem d_wr_init_38 : decode b_wr_init 38 = .ok (.getfield 24, 3) := by decide +kernel
theorem d_wr_init_41 : decode b_wr_init 41 = .ok (.bipush 48, 2) := by decide +kernel
theorem d_wr_init_43 : decode b_wr_init 43 = .ok (.castore, 1) := by decide +kernel
theorem d_wr_init_44 : decode b_wr_init 44 = .ok (.return_, 1) := by decide +kernel
theorem d_wr_write_0 : decode b_wr_write 0 = .ok (.aload_n 0, 1) := by decide +kernel
theorem d_wr_write_1 : decode b_wr_write 1 = .ok (.sipush 148, 3) := by decide +kernel
theorem d_wr_write_4 : decode b_wr_write 4 = .ok (.putfield 24, 3) := by decide +kernel
theorem d_wr_write_7 : decode b_wr_write 7 = .ok (.aload_n 1, 1) := by decide +kernel
theorem d_wr_write_8 : decode b_wr_write 8 = .ok (.invokevirtual 28, 3) := by decide +kernel
theorem d_wr_write_11 : decode b_wr_write 11 = .ok (.ifCond .ne 17, 3) := by decide +kernel
theorem d_wr_write_14 : decode b_wr_write 14 = .ok (.aload_n 0, 1) := by decide +kernel
theorem d_wr_write_15 : decode b_wr_write 15 = .ok (.aload_n 1, 1) := by decide +kernel
theorem d_wr_write_16 : decode b_wr_write 16 = .ok (.getfield 34, 3) := by decide +kernel
theorem d_wr_write_19 : decode b_wr_write 19 = .ok (.invokevirtual 37, 3) := by decide +kernel
theorem d_wr_write_22 : decode b_wr_write 22 = .ok (.aload_n 0, 1) := by decide +kernel
theorem d_wr_write_23 : decode b_wr_write 23 = .ok (.bipush 47, 2) := by decide +kernel
theorem d_wr_write_25 : decode b_wr_write 25 = .ok (.invokevirtual 41, 3) := by decide +kernel
theorem d_wr_write_28 : decode b_wr_write 28 = .ok (.aload_n 0, 1) := by decide +kernel
theorem d_wr_write_29 : decode b_wr_write 29 = .ok (.aload_n 1, 1) := by decide +kernel
theorem d_wr_write_30 : decode b_wr_write 30 = .ok (.getfield 45, 3) := by decide +kernel
theorem d_wr_write_33 : decode b_wr_write 33 = .ok (.invokevirtual 37, 3) := by decide +kernel
theorem d_wr_write_36 : decode b_wr_write 36 = .ok (.aload_n 1, 1) := by decide +kernel
theorem d_wr_write_37 : decode b_wr_write 37 = .ok (.getfield 48, 3) := by decide +kernel
theorem d_wr_write_40 : decode b_wr_write 40 = .ok (.ifCond .eq 9, 3) := by decide +kernel
theorem d_wr_write_43 : decode b_wr_write 43 = .ok (.aload_n 0, 1) := by decide +kernel
theorem d_wr_write_44 : decode b_wr_write 44 = .ok (.bipush 45, 2) := by decide +kernel
theorem d_wr_write_46 : decode b_wr_write 46 = .ok (.invokevirtual 41, 3) := by decide +kernel
theorem d_wr_write_49 : decode b_wr_write 49 = .ok (.return_, 1) := by decide +kernel
theorem d_wr_character_0 : decode b_wr_character 0 = .ok (.iload_n 1, 1) := by decide +kernel
theorem d_wr_character_1 : decode b_wr_character 1 = .ok (.ifCond .lt 29, 3) := by decide +kernel
theorem d_wr_character_4 : decode b_wr_character 4 = .ok (.iload_n 1, 1) := by decide +kernel
theorem d_wr_character_5 : decode b_wr_character 5 = .ok (.sipush 148, 3) := by decide +kernel
theorem d_wr_character_8 : decode b_wr_character 8 = .ok (.aload_n 0, 1) := by decide +kernel
theorem d_wr_character_9 : decode b_wr_character 9 = .ok (.getfield 24, 3) := by decide +kernel
theorem d_wr_character_12 : decode b_wr_character 12 = .ok (.isub, 1) := by decide +kernel
theorem d_wr_character_13 : decode b_wr_character 13 = .ok (.if_icmp .ge 17, 3) := by decide +kernel
theorem d_wr_character_16 : decode b_wr_character 16 = .ok (.aload_n 0, 1) := by decide +kernel
theorem d_wr_character_17 : decode b_wr_character 17 = .ok (.getfield 11, 3) := by decide +kernel
theorem d_wr_character_20 : decode b_wr_character 20 = .ok (.aload_n 0, 1) := by decide +kernel
theorem d_wr_character_21 : decode b_wr_character 21 = .ok (.getfield 24, 3) := by decide +kernel
theorem d_wr_character_24 : decode b_wr_character 24 = .ok (.iload_n 1, 1) := by decide +kernel
theorem d_wr_character_25 : decode b_wr_character 25 = .ok (.iadd, 1) := by decide +kernel
theorem d_wr_character_26 : decode b_wr_character 26 = .ok (.caload, 1) := by decide +kernel
theorem d_wr_character_27 : decode b_wr_character 27 = .ok (.goto 4, 3) := by decide +kernel
theorem d_wr_character_30 : decode b_wr_character 30 = .ok (.iconst 0, 1) := by decide +kernel
theorem d_wr_character_31 : decode b_wr_character 31 = .ok (.ireturn, 1) := by decide +kernel
theorem d_wr_putAmount_0 : decode b_wr_putAmount 0 = .ok (.aload_n 0, 1) := by decide +kernel
theorem d_wr_putAmount_1 : decode b_wr_putAmount 1 = .ok (.getfield 20, 3) := by decide +kernel
theorem d_wr_putAmount_4 : decode b_wr_putAmount 4 = .ok (.aload_n 1, 1) := by decide +kernel
theorem d_wr_putAmount_5 : decode b_wr_putAmount 5 = .ok (.invokevirtual 52, 3) := by decide +kernel
theorem d_wr_putAmount_8 : decode b_wr_putAmount 8 = .ok (.aload_n 0, 1) := by decide +kernel
theorem d_wr_putAmount_9 : decode b_wr_putAmount 9 = .ok (.bipush 48, 2) := by decide +kernel
theorem d_wr_putAmount_11 : decode b_wr_putAmount 11 = .ok (.aload_n 0, 1) := by decide +kernel
theorem d_wr_putAmount_12 : decode b_wr_putAmount 12 = .ok (.getfield 20, 3) := by decide +kernel
theorem d_wr_putAmount_15 : decode b_wr_putAmount 15 = .ok (.bipush 10, 2) := by decide +kernel
theorem d_wr_putAmount_17 : decode b_wr_putAmount 17 = .ok (.invokevirtual 55, 3) := by decide +kernel
theorem d_wr_putAmount_20 : decode b_wr_putAmount 20 = .ok (.iadd, 1) := by decide +kernel
theorem d_wr_putAmount_21 : decode b_wr_putAmount 21 = .ok (.i2c, 1) := by decide +kernel
theorem d_wr_putAmount_22 : decode b_wr_putAmount 22 = .ok (.invokevirtual 41, 3) := by decide +kernel
theorem d_wr_putAmount_25 : decode b_wr_putAmount 25 = .ok (.iconst 1, 1) := by decide +kernel
theorem d_wr_putAmount_26 : decode b_wr_putAmount 26 = .ok (.istore_n 2, 1) := by decide +kernel
theorem d_wr_putAmount_27 : decode b_wr_putAmount 27 = .ok (.iload_n 2, 1) := by decide +kernel
theorem d_wr_putAmount_28 : decode b_wr_putAmount 28 = .ok (.bipush 73, 2) := by decide +kernel
theorem d_wr_putAmount_30 : decode b_wr_putAmount 30 = .ok (.if_icmp .ge 36, 3) := by decide +kernel
theorem d_wr_putAmount_33 : decode b_wr_putAmount 33 = .ok (.aload_n 0, 1) := by decide +kernel
theorem d_wr_putAmount_34 : decode b_wr_putAmount 34 = .ok (.getfield 20, 3) := by decide +kernel
theorem d_wr_putAmount_37 : decode b_wr_putAmount 37 = .ok (.invokevirtual 59, 3) := by decide +kernel
theorem d_wr_putAmount_40 : decode b_wr_putAmount 40 = .ok (.ifCond .ne 26, 3) := by decide +kernel
theorem d_wr_putAmount_43 : decode b_wr_putAmount 43 = .ok (.aload_n 0, 1) := by decide +kernel
theorem d_wr_putAmount_44 : decode b_wr_putAmount 44 = .ok (.bipush 48, 2) := by decide +kernel
theorem d_wr_putAmount_46 : decode b_wr_putAmount 46 = .ok (.aload_n 0, 1) := by decide +kernel
theorem d_wr_putAmount_47 : decode b_wr_putAmount 47 = .ok (.getfield 20, 3) := by decide +kernel
theorem d_wr_putAmount_50 : decode b_wr_putAmount 50 = .ok (.bipush 10, 2) := by decide +kernel
theorem d_wr_putAmount_52 : decode b_wr_putAmount 52 = .ok (.invokevirtual 55, 3) := by decide +kernel
theorem d_wr_putAmount_55 : decode b_wr_putAmount 55 = .ok (.iadd, 1) := by decide +kernel
theorem d_wr_putAmount_56 : decode b_wr_putAmount 56 = .ok (.i2c, 1) := by decide +kernel
theorem d_wr_putAmount_57 : decode b_wr_putAmount 57 = .ok (.invokevirtual 41, 3) := by decide +kernel
theorem d_wr_putAmount_60 : decode b_wr_putAmount 60 = .ok (.iinc 2 1, 3) := by decide +kernel
theorem d_wr_putAmount_63 : decode b_wr_putAmount 63 = .ok (.goto (-36), 3) := by decide +kernel
theorem d_wr_putAmount_66 : decode b_wr_putAmount 66 = .ok (.return_, 1) := by decide +kernel
theorem d_wr_put_0 : decode b_wr_put 0 = .ok (.aload_n 0, 1) := by decide +kernel
theorem d_wr_put_1 : decode b_wr_put 1 = .ok (.dup, 1) := by decide +kernel
theorem d_wr_put_2 : decode b_wr_put 2 = .ok (.getfield 24, 3) := by decide +kernel
theorem d_wr_put_5 : decode b_wr_put 5 = .ok (.iconst 1, 1) := by decide +kernel
theorem d_wr_put_6 : decode b_wr_put 6 = .ok (.isub, 1) := by decide +kernel
theorem d_wr_put_7 : decode b_wr_put 7 = .ok (.putfield 24, 3) := by decide +kernel
theorem d_wr_put_10 : decode b_wr_put 10 = .ok (.aload_n 0, 1) := by decide +kernel
theorem d_wr_put_11 : decode b_wr_put 11 = .ok (.getfield 11, 3) := by decide +kernel
theorem d_wr_put_14 : decode b_wr_put 14 = .ok (.aload_n 0, 1) := by decide +kernel
theorem d_wr_put_15 : decode b_wr_put 15 = .ok (.getfield 24, 3) := by decide +kernel
theorem d_wr_put_18 : decode b_wr_put 18 = .ok (.iload_n 1, 1) := by decide +kernel
theorem d_wr_put_19 : decode b_wr_put 19 = .ok (.castore, 1) := by decide +kernel
theorem d_wr_put_20 : decode b_wr_put 20 = .ok (.return_, 1) := by decide +kernel
