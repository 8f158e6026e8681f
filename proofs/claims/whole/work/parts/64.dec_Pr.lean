theorem d_Pr_init_0 : decode b_Pr_init 0 = .ok (.aload_n 0, 1) := by decide +kernel
theorem d_Pr_init_1 : decode b_Pr_init 1 = .ok (.invokespecial 3, 3) := by decide +kernel
theorem d_Pr_init_4 : decode b_Pr_init 4 = .ok (.aload_n 0, 1) := by decide +kernel
theorem d_Pr_init_5 : decode b_Pr_init 5 = .ok (.bipush 10, 2) := by decide +kernel
theorem d_Pr_init_7 : decode b_Pr_init 7 = .ok (.iload_n 1, 1) := by decide +kernel
theorem d_Pr_init_8 : decode b_Pr_init 8 = .ok (.iconst 1, 1) := by decide +kernel
theorem d_Pr_init_9 : decode b_Pr_init 9 = .ok (.invokestatic 9, 3) := by decide +kernel
theorem d_Pr_init_12 : decode b_Pr_init 12 = .ok (.imul, 1) := by decide +kernel
theorem d_Pr_init_13 : decode b_Pr_init 13 = .ok (.iconst 2, 1) := by decide +kernel
theorem d_Pr_init_14 : decode b_Pr_init 14 = .ok (.iadd, 1) := by decide +kernel
theorem d_Pr_init_15 : decode b_Pr_init 15 = .ok (.newarray .char, 2) := by decide +kernel
theorem d_Pr_init_17 : decode b_Pr_init 17 = .ok (.putfield 15, 3) := by decide +kernel
theorem d_Pr_init_20 : decode b_Pr_init 20 = .ok (.aload_n 0, 1) := by decide +kernel
theorem d_Pr_init_21 : decode b_Pr_init 21 = .ok (.aload_n 0, 1) := by decide +kernel
theorem d_Pr_init_22 : decode b_Pr_init 22 = .ok (.getfield 15, 3) := by decide +kernel
theorem d_Pr_init_25 : decode b_Pr_init 25 = .ok (.arraylength, 1) := by decide +kernel
theorem d_Pr_init_26 : decode b_Pr_init 26 = .ok (.putfield 21, 3) := by decide +kernel
theorem d_Pr_init_29 : decode b_Pr_init 29 = .ok (.return_, 1) := by decide +kernel
theorem d_Pr_at_0 : decode b_Pr_at 0 = .ok (.iload_n 1, 1) := by decide +kernel
theorem d_Pr_at_1 : decode b_Pr_at 1 = .ok (.ifCond .lt 25, 3) := by decide +kernel
theorem d_Pr_at_4 : decode b_Pr_at 4 = .ok (.iload_n 1, 1) := by decide +kernel
theorem d_Pr_at_5 : decode b_Pr_at 5 = .ok (.aload_n 0, 1) := by decide +kernel
theorem d_Pr_at_6 : decode b_Pr_at 6 = .ok (.invokevirtual 25, 3) := by decide +kernel
theorem d_Pr_at_9 : decode b_Pr_at 9 = .ok (.if_icmp .ge 17, 3) := by decide +kernel
theorem d_Pr_at_12 : decode b_Pr_at 12 = .ok (.aload_n 0, 1) := by decide +kernel
theorem d_Pr_at_13 : decode b_Pr_at 13 = .ok (.getfield 15, 3) := by decide +kernel
theorem d_Pr_at_16 : decode b_Pr_at 16 = .ok (.aload_n 0, 1) := by decide +kernel
theorem d_Pr_at_17 : decode b_Pr_at 17 = .ok (.getfield 21, 3) := by decide +kernel
theorem d_Pr_at_20 : decode b_Pr_at 20 = .ok (.iload_n 1, 1) := by decide +kernel
theorem d_Pr_at_21 : decode b_Pr_at 21 = .ok (.iadd, 1) := by decide +kernel
theorem d_Pr_at_22 : decode b_Pr_at 22 = .ok (.caload, 1) := by decide +kernel
theorem d_Pr_at_23 : decode b_Pr_at 23 = .ok (.goto 4, 3) := by decide +kernel
theorem d_Pr_at_26 : decode b_Pr_at 26 = .ok (.iconst (-1), 1) := by decide +kernel
theorem d_Pr_at_27 : decode b_Pr_at 27 = .ok (.ireturn, 1) := by decide +kernel
theorem d_Pr_count_0 : decode b_Pr_count 0 = .ok (.aload_n 0, 1) := by decide +kernel
theorem d_Pr_count_1 : decode b_Pr_count 1 = .ok (.getfield 15, 3) := by decide +kernel
theorem d_Pr_count_4 : decode b_Pr_count 4 = .ok (.arraylength, 1) := by decide +kernel
theorem d_Pr_count_5 : decode b_Pr_count 5 = .ok (.aload_n 0, 1) := by decide +kernel
theorem d_Pr_count_6 : decode b_Pr_count 6 = .ok (.getfield 21, 3) := by decide +kernel
theorem d_Pr_count_9 : decode b_Pr_count 9 = .ok (.isub, 1) := by decide +kernel
theorem d_Pr_count_10 : decode b_Pr_count 10 = .ok (.ireturn, 1) := by decide +kernel
theorem d_Pr_write_0 : decode b_Pr_write 0 = .ok (.aload_n 0, 1) := by decide +kernel
theorem d_Pr_write_1 : decode b_Pr_write 1 = .ok (.aload_n 0, 1) := by decide +kernel
theorem d_Pr_write_2 : decode b_Pr_write 2 = .ok (.getfield 15, 3) := by decide +kernel
theorem d_Pr_write_5 : decode b_Pr_write 5 = .ok (.arraylength, 1) := by decide +kernel
theorem d_Pr_write_6 : decode b_Pr_write 6 = .ok (.putfield 21, 3) := by decide +kernel
theorem d_Pr_write_9 : decode b_Pr_write 9 = .ok (.aload_n 1, 1) := by decide +kernel
theorem d_Pr_write_10 : decode b_Pr_write 10 = .ok (.getfield 29, 3) := by decide +kernel
theorem d_Pr_write_13 : decode b_Pr_write 13 = .ok (.invokevirtual 35, 3) := by decide +kernel
theorem d_Pr_write_16 : decode b_Pr_write 16 = .ok (.ifCond .ne 17, 3) := by decide +kernel
theorem d_Pr_write_19 : decode b_Pr_write 19 = .ok (.aload_n 0, 1) := by decide +kernel
theorem d_Pr_write_20 : decode b_Pr_write 20 = .ok (.aload_n 1, 1) := by decide +kernel
theorem d_Pr_write_21 : decode b_Pr_write 21 = .ok (.getfield 29, 3) := by decide +kernel
theorem d_Pr_write_24 : decode b_Pr_write 24 = .ok (.invokevirtual 41, 3) := by decide +kernel
theorem d_Pr_write_27 : decode b_Pr_write 27 = .ok (.aload_n 0, 1) := by decide +kernel
theorem d_Pr_write_28 : decode b_Pr_write 28 = .ok (.bipush 47, 2) := by decide +kernel
theorem d_Pr_write_30 : decode b_Pr_write 30 = .ok (.invokevirtual 45, 3) := by decide +kernel
theorem d_Pr_write_33 : decode b_Pr_write 33 = .ok (.aload_n 0, 1) := by decide +kernel
theorem d_Pr_write_34 : decode b_Pr_write 34 = .ok (.aload_n 1, 1) := by decide +kernel
theorem d_Pr_write_35 : decode b_Pr_write 35 = .ok (.getfield 49, 3) := by decide +kernel
theorem d_Pr_write_38 : decode b_Pr_write 38 = .ok (.invokevirtual 41, 3) := by decide +kernel
theorem d_Pr_write_41 : decode b_Pr_write 41 = .ok (.aload_n 1, 1) := by decide +kernel
theorem d_Pr_write_42 : decode b_Pr_write 42 = .ok (.getfield 52, 3) := by decide +kernel
theorem d_Pr_write_45 : decode b_Pr_write 45 = .ok (.ifCond .ge 9, 3) := by decide +kernel
theorem d_Pr_write_48 : decode b_Pr_write 48 = .ok (.aload_n 0, 1) := by decide +kernel
theorem d_Pr_write_49 : decode b_Pr_write 49 = .ok (.bipush 45, 2) := by decide +kernel
theorem d_Pr_write_51 : decode b_Pr_write 51 = .ok (.invokevirtual 45, 3) := by decide +kernel
theorem d_Pr_write_54 : decode b_Pr_write 54 = .ok (.return_, 1) := by decide +kernel
theorem d_Pr_putFigures_0 : decode b_Pr_putFigures 0 = .ok (.aload_n 1, 1) := by decide +kernel
theorem d_Pr_putFigures_1 : decode b_Pr_putFigures 1 = .ok (.getfield 55, 3) := by decide +kernel
theorem d_Pr_putFigures_4 : decode b_Pr_putFigures 4 = .ok (.ifCond .ne 9, 3) := by decide +kernel
theorem d_Pr_putFigures_7 : decode b_Pr_putFigures 7 = .ok (.aload_n 0, 1) := by decide +kernel
theorem d_Pr_putFigures_8 : decode b_Pr_putFigures 8 = .ok (.bipush 48, 2) := by decide +kernel
theorem d_Pr_putFigures_10 : decode b_Pr_putFigures 10 = .ok (.invokevirtual 45, 3) := by decide +kernel
theorem d_Pr_putFigures_13 : decode b_Pr_putFigures 13 = .ok (.iconst 0, 1) := by decide +kernel
theorem d_Pr_putFigures_14 : decode b_Pr_putFigures 14 = .ok (.istore_n 2, 1) := by decide +kernel
theorem d_Pr_putFigures_15 : decode b_Pr_putFigures 15 = .ok (.iload_n 2, 1) := by decide +kernel
theorem d_Pr_putFigures_16 : decode b_Pr_putFigures 16 = .ok (.aload_n 0, 1) := by decide +kernel
theorem d_Pr_putFigures_17 : decode b_Pr_putFigures 17 = .ok (.getfield 15, 3) := by decide +kernel
theorem d_Pr_putFigures_20 : decode b_Pr_putFigures 20 = .ok (.arraylength, 1) := by decide +kernel
theorem d_Pr_putFigures_21 : decode b_Pr_putFigures 21 = .ok (.if_icmp .ge 42, 3) := by decide +kernel
theorem d_Pr_putFigures_24 : decode b_Pr_putFigures 24 = .ok (.aload_n 1, 1) := by decide +kernel
theorem d_Pr_putFigures_25 : decode b_Pr_putFigures 25 = .ok (.getfield 55, 3) := by decide +kernel
theorem d_Pr_putFigures_28 : decode b_Pr_putFigures 28 = .ok (.ifCond .le 35, 3) := by decide +kernel
theorem d_Pr_putFigures_31 : decode b_Pr_putFigures 31 = .ok (.aload_n 1, 1) := by decide +kernel
theorem d_Pr_putFigures_32 : decode b_Pr_putFigures 32 = .ok (.ldc2_w 58, 3) := by decide +kernel
theorem d_Pr_putFigures_35 : decode b_Pr_putFigures 35 = .ok (.invokevirtual 60, 3) := by decide +kernel
theorem d_Pr_putFigures_38 : decode b_Pr_putFigures 38 = .ok (.l2i, 1) := by decide +kernel
theorem d_Pr_putFigures_39 : decode b_Pr_putFigures 39 = .ok (.istore_n 3, 1) := by decide +kernel
theorem d_Pr_putFigures_40 : decode b_Pr_putFigures 40 = .ok (.aload_n 0, 1) := by decide +kernel
theorem d_Pr_putFigures_41 : decode b_Pr_putFigures 41 = .ok (.iload_n 3, 1) := by decide +kernel
theorem d_Pr_putFigures_42 : decode b_Pr_putFigures 42 = .ok (.aload_n 1, 1) := by decide +kernel
theorem d_Pr_putFigures_43 : decode b_Pr_putFigures 43 = .ok (.getfield 55, 3) := by decide +kernel
theorem d_Pr_putFigures_46 : decode b_Pr_putFigures 46 = .ok (.ifCond .le 7, 3) := by decide +kernel
theorem d_Pr_putFigures_49 : decode b_Pr_putFigures 49 = .ok (.iconst 1, 1) := by decide +kernel
theorem d_Pr_putFigures_50 : decode b_Pr_putFigures 50 = .ok (.goto 4, 3) := by decide +kernel
theorem d_Pr_putFigures_53 : decode b_Pr_putFigures 53 = .ok (.iconst 0, 1) := by decide +kernel
theorem d_Pr_putFigures_54 : decode b_Pr_putFigures 54 = .ok (.invokevirtual 64, 3) := by decide +kernel
theorem d_Pr_putFigures_57 : decode b_Pr_putFigures 57 = .ok (.iinc 2 1, 3) := by decide +kernel
theorem d_Pr_putFigures_60 : decode b_Pr_putFigures 60 = .ok (.goto (-45), 3) := by decide +kernel
theorem d_Pr_putFigures_63 : decode b_Pr_putFigures 63 = .ok (.return_, 1) := by decide +kernel
theorem d_Pr_put_0 : decode b_Pr_put 0 = .ok (.aload_n 0, 1) := by decide +kernel
theorem d_Pr_put_1 : decode b_Pr_put 1 = .ok (.getfield 21, 3) := by decide +kernel
theorem d_Pr_put_4 : decode b_Pr_put 4 = .ok (.ifCond .le 23, 3) := by decide +kernel
theorem d_Pr_put_7 : decode b_Pr_put 7 = .ok (.aload_n 0, 1) := by decide +kernel
theorem d_Pr_put_8 : decode b_Pr_put 8 = .ok (.dup, 1) := by decide +kernel
theorem d_Pr_put_9 : decode b_Pr_put 9 = .ok (.getfield 21, 3) := by decide +kernel
theorem d_Pr_put_12 : decode b_Pr_put 12 = .ok (.iconst 1, 1) := by decide +kernel
theorem d_Pr_put_13 : decode b_Pr_put 13 = .ok (.isub, 1) := by decide +kernel
theorem d_Pr_put_14 : decode b_Pr_put 14 = .ok (.putfield 21, 3) := by decide +kernel
theorem d_Pr_put_17 : decode b_Pr_put 17 = .ok (.aload_n 0, 1) := by decide +kernel
theorem d_Pr_put_18 : decode b_Pr_put 18 = .ok (.getfield 15, 3) := by decide +kernel
theorem d_Pr_put_21 : decode b_Pr_put 21 = .ok (.aload_n 0, 1) := by decide +kernel
theorem d_Pr_put_22 : decode b_Pr_put 22 = .ok (.getfield 21, 3) := by decide +kernel
theorem d_Pr_put_25 : decode b_Pr_put 25 = .ok (.iload_n 1, 1) := by decide +kernel
theorem d_Pr_put_26 : decode b_Pr_put 26 = .ok (.castore, 1) := by decide +kernel
theorem d_Pr_put_27 : decode b_Pr_put 27 = .ok (.return_, 1) := by decide +kernel
theorem d_Pr_putNine_0 : decode b_Pr_putNine 0 = .ok (.iload_n 1, 1) := by decide +kernel
theorem d_Pr_putNine_1 : decode b_Pr_putNine 1 = .ok (.istore_n 3, 1) := by decide +kernel
theorem d_Pr_putNine_2 : decode b_Pr_putNine 2 = .ok (.iconst 0, 1) := by decide +kernel
theorem d_Pr_putNine_3 : decode b_Pr_putNine 3 = .ok (.istore 4, 2) := by decide +kernel
theorem d_Pr_putNine_5 : decode b_Pr_putNine 5 = .ok (.iload 4, 2) := by decide +kernel
theorem d_Pr_putNine_7 : decode b_Pr_putNine 7 = .ok (.bipush 9, 2) := by decide +kernel
theorem d_Pr_putNine_9 : decode b_Pr_putNine 9 = .ok (.if_icmp .ge 34, 3) := by decide +kernel
theorem d_Pr_putNine_12 : decode b_Pr_putNine 12 = .ok (.iload_n 2, 1) := by decide +kernel
theorem d_Pr_putNine_13 : decode b_Pr_putNine 13 = .ok (.ifCond .ne 7, 3) := by decide +kernel
theorem d_Pr_putNine_16 : decode b_Pr_putNine 16 = .ok (.iload_n 3, 1) := by decide +kernel
theorem d_Pr_putNine_17 : decode b_Pr_putNine 17 = .ok (.ifCond .le 26, 3) := by decide +kernel
theorem d_Pr_putNine_20 : decode b_Pr_putNine 20 = .ok (.aload_n 0, 1) := by decide +kernel
theorem d_Pr_putNine_21 : decode b_Pr_putNine 21 = .ok (.bipush 48, 2) := by decide +kernel
theorem d_Pr_putNine_23 : decode b_Pr_putNine 23 = .ok (.iload_n 3, 1) := by decide +kernel
theorem d_Pr_putNine_24 : decode b_Pr_putNine 24 = .ok (.bipush 10, 2) := by decide +kernel
theorem d_Pr_putNine_26 : decode b_Pr_putNine 26 = .ok (.irem, 1) := by decide +kernel
theorem d_Pr_putNine_27 : decode b_Pr_putNine 27 = .ok (.iadd, 1) := by decide +kernel
theorem d_Pr_putNine_28 : decode b_Pr_putNine 28 = .ok (.i2c, 1) := by decide +kernel
theorem d_Pr_putNine_29 : decode b_Pr_putNine 29 = .ok (.invokevirtual 45, 3) := by decide +kernel
theorem d_Pr_putNine_32 : decode b_Pr_putNine 32 = .ok (.iload_n 3, 1) := by decide +kernel
theorem d_Pr_putNine_33 : decode b_Pr_putNine 33 = .ok (.bipush 10, 2) := by decide +kernel
theorem d_Pr_putNine_35 : decode b_Pr_putNine 35 = .ok (.idiv, 1) := by decide +kernel
theorem d_Pr_putNine_36 : decode b_Pr_putNine 36 = .ok (.istore_n 3, 1) := by decide +kernel
theorem d_Pr_putNine_37 : decode b_Pr_putNine 37 = .ok (.iinc 4 1, 3) := by decide +kernel
theorem d_Pr_putNine_40 : decode b_Pr_putNine 40 = .ok (.goto (-35), 3) := by decide +kernel
theorem d_Pr_putNine_43 : decode b_Pr_putNine 43 = .ok (.return_, 1) := by decide +kernel
