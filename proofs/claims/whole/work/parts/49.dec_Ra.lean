theorem d_Ra_init_0 : decode b_Ra_init 0 = .ok (.aload_n 0, 1) := by decide +kernel
theorem d_Ra_init_1 : decode b_Ra_init 1 = .ok (.invokespecial 1, 3) := by decide +kernel
theorem d_Ra_init_4 : decode b_Ra_init 4 = .ok (.aload_n 0, 1) := by decide +kernel
theorem d_Ra_init_5 : decode b_Ra_init 5 = .ok (.new 7, 3) := by decide +kernel
theorem d_Ra_init_8 : decode b_Ra_init 8 = .ok (.dup, 1) := by decide +kernel
theorem d_Ra_init_9 : decode b_Ra_init 9 = .ok (.iload_n 1, 1) := by decide +kernel
theorem d_Ra_init_10 : decode b_Ra_init 10 = .ok (.invokespecial 9, 3) := by decide +kernel
theorem d_Ra_init_13 : decode b_Ra_init 13 = .ok (.putfield 12, 3) := by decide +kernel
theorem d_Ra_init_16 : decode b_Ra_init 16 = .ok (.aload_n 0, 1) := by decide +kernel
theorem d_Ra_init_17 : decode b_Ra_init 17 = .ok (.new 7, 3) := by decide +kernel
theorem d_Ra_init_20 : decode b_Ra_init 20 = .ok (.dup, 1) := by decide +kernel
theorem d_Ra_init_21 : decode b_Ra_init 21 = .ok (.iload_n 1, 1) := by decide +kernel
theorem d_Ra_init_22 : decode b_Ra_init 22 = .ok (.invokespecial 9, 3) := by decide +kernel
theorem d_Ra_init_25 : decode b_Ra_init 25 = .ok (.putfield 18, 3) := by decide +kernel
theorem d_Ra_init_28 : decode b_Ra_init 28 = .ok (.return_, 1) := by decide +kernel
theorem d_Ra_turnOver_0 : decode b_Ra_turnOver 0 = .ok (.aload_n 0, 1) := by decide +kernel
theorem d_Ra_turnOver_1 : decode b_Ra_turnOver 1 = .ok (.getfield 12, 3) := by decide +kernel
theorem d_Ra_turnOver_4 : decode b_Ra_turnOver 4 = .ok (.astore_n 1, 1) := by decide +kernel
theorem d_Ra_turnOver_5 : decode b_Ra_turnOver 5 = .ok (.aload_n 0, 1) := by decide +kernel
theorem d_Ra_turnOver_6 : decode b_Ra_turnOver 6 = .ok (.aload_n 0, 1) := by decide +kernel
theorem d_Ra_turnOver_7 : decode b_Ra_turnOver 7 = .ok (.getfield 18, 3) := by decide +kernel
theorem d_Ra_turnOver_10 : decode b_Ra_turnOver 10 = .ok (.putfield 12, 3) := by decide +kernel
theorem d_Ra_turnOver_13 : decode b_Ra_turnOver 13 = .ok (.aload_n 0, 1) := by decide +kernel
theorem d_Ra_turnOver_14 : decode b_Ra_turnOver 14 = .ok (.aload_n 1, 1) := by decide +kernel
theorem d_Ra_turnOver_15 : decode b_Ra_turnOver 15 = .ok (.putfield 18, 3) := by decide +kernel
theorem d_Ra_turnOver_18 : decode b_Ra_turnOver 18 = .ok (.return_, 1) := by decide +kernel
theorem d_Ra_becomeZero_0 : decode b_Ra_becomeZero 0 = .ok (.aload_n 0, 1) := by decide +kernel
theorem d_Ra_becomeZero_1 : decode b_Ra_becomeZero 1 = .ok (.iconst 0, 1) := by decide +kernel
theorem d_Ra_becomeZero_2 : decode b_Ra_becomeZero 2 = .ok (.putfield 21, 3) := by decide +kernel
theorem d_Ra_becomeZero_5 : decode b_Ra_becomeZero 5 = .ok (.aload_n 0, 1) := by decide +kernel
theorem d_Ra_becomeZero_6 : decode b_Ra_becomeZero 6 = .ok (.getfield 12, 3) := by decide +kernel
theorem d_Ra_becomeZero_9 : decode b_Ra_becomeZero 9 = .ok (.lconst 0, 1) := by decide +kernel
theorem d_Ra_becomeZero_10 : decode b_Ra_becomeZero 10 = .ok (.invokevirtual 25, 3) := by decide +kernel
theorem d_Ra_becomeZero_13 : decode b_Ra_becomeZero 13 = .ok (.aload_n 0, 1) := by decide +kernel
theorem d_Ra_becomeZero_14 : decode b_Ra_becomeZero 14 = .ok (.getfield 18, 3) := by decide +kernel
theorem d_Ra_becomeZero_17 : decode b_Ra_becomeZero 17 = .ok (.lconst 1, 1) := by decide +kernel
theorem d_Ra_becomeZero_18 : decode b_Ra_becomeZero 18 = .ok (.invokevirtual 25, 3) := by decide +kernel
theorem d_Ra_becomeZero_21 : decode b_Ra_becomeZero 21 = .ok (.return_, 1) := by decide +kernel
theorem d_Ra_becomeMultiple_0 : decode b_Ra_becomeMultiple 0 = .ok (.aload_n 0, 1) := by decide +kernel
theorem d_Ra_becomeMultiple_1 : decode b_Ra_becomeMultiple 1 = .ok (.getfield 12, 3) := by decide +kernel
theorem d_Ra_becomeMultiple_4 : decode b_Ra_becomeMultiple 4 = .ok (.aload_n 1, 1) := by decide +kernel
theorem d_Ra_becomeMultiple_5 : decode b_Ra_becomeMultiple 5 = .ok (.invokevirtual 29, 3) := by decide +kernel
theorem d_Ra_becomeMultiple_8 : decode b_Ra_becomeMultiple 8 = .ok (.aload_n 0, 1) := by decide +kernel
theorem d_Ra_becomeMultiple_9 : decode b_Ra_becomeMultiple 9 = .ok (.getfield 18, 3) := by decide +kernel
theorem d_Ra_becomeMultiple_12 : decode b_Ra_becomeMultiple 12 = .ok (.lconst 1, 1) := by decide +kernel
theorem d_Ra_becomeMultiple_13 : decode b_Ra_becomeMultiple 13 = .ok (.invokevirtual 25, 3) := by decide +kernel
theorem d_Ra_becomeMultiple_16 : decode b_Ra_becomeMultiple 16 = .ok (.iload_n 2, 1) := by decide +kernel
theorem d_Ra_becomeMultiple_17 : decode b_Ra_becomeMultiple 17 = .ok (.ifCond .lt 14, 3) := by decide +kernel
theorem d_Ra_becomeMultiple_20 : decode b_Ra_becomeMultiple 20 = .ok (.aload_n 0, 1) := by decide +kernel
theorem d_Ra_becomeMultiple_21 : decode b_Ra_becomeMultiple 21 = .ok (.getfield 12, 3) := by decide +kernel
theorem d_Ra_becomeMultiple_24 : decode b_Ra_becomeMultiple 24 = .ok (.iload_n 2, 1) := by decide +kernel
theorem d_Ra_becomeMultiple_25 : decode b_Ra_becomeMultiple 25 = .ok (.invokevirtual 33, 3) := by decide +kernel
theorem d_Ra_becomeMultiple_28 : decode b_Ra_becomeMultiple 28 = .ok (.goto 39, 3) := by decide +kernel
theorem d_Ra_becomeMultiple_31 : decode b_Ra_becomeMultiple 31 = .ok (.aload_n 1, 1) := by decide +kernel
theorem d_Ra_becomeMultiple_32 : decode b_Ra_becomeMultiple 32 = .ok (.getfield 36, 3) := by decide +kernel
theorem d_Ra_becomeMultiple_35 : decode b_Ra_becomeMultiple 35 = .ok (.ifCond .le 32, 3) := by decide +kernel
theorem d_Ra_becomeMultiple_38 : decode b_Ra_becomeMultiple 38 = .ok (.iload_n 2, 1) := by decide +kernel
theorem d_Ra_becomeMultiple_39 : decode b_Ra_becomeMultiple 39 = .ok (.ineg, 1) := by decide +kernel
theorem d_Ra_becomeMultiple_40 : decode b_Ra_becomeMultiple 40 = .ok (.aload_n 1, 1) := by decide +kernel
theorem d_Ra_becomeMultiple_41 : decode b_Ra_becomeMultiple 41 = .ok (.invokevirtual 39, 3) := by decide +kernel
theorem d_Ra_becomeMultiple_44 : decode b_Ra_becomeMultiple 44 = .ok (.invokestatic 43, 3) := by decide +kernel
theorem d_Ra_becomeMultiple_47 : decode b_Ra_becomeMultiple 47 = .ok (.istore_n 3, 1) := by decide +kernel
theorem d_Ra_becomeMultiple_48 : decode b_Ra_becomeMultiple 48 = .ok (.aload_n 0, 1) := by decide +kernel
theorem d_Ra_becomeMultiple_49 : decode b_Ra_becomeMultiple 49 = .ok (.getfield 12, 3) := by decide +kernel
theorem d_Ra_becomeMultiple_52 : decode b_Ra_becomeMultiple 52 = .ok (.iload_n 3, 1) := by decide +kernel
theorem d_Ra_becomeMultiple_53 : decode b_Ra_becomeMultiple 53 = .ok (.invokevirtual 49, 3) := by decide +kernel
theorem d_Ra_becomeMultiple_56 : decode b_Ra_becomeMultiple 56 = .ok (.aload_n 0, 1) := by decide +kernel
theorem d_Ra_becomeMultiple_57 : decode b_Ra_becomeMultiple 57 = .ok (.getfield 18, 3) := by decide +kernel
theorem d_Ra_becomeMultiple_60 : decode b_Ra_becomeMultiple 60 = .ok (.iload_n 2, 1) := by decide +kernel
theorem d_Ra_becomeMultiple_61 : decode b_Ra_becomeMultiple 61 = .ok (.ineg, 1) := by decide +kernel
theorem d_Ra_becomeMultiple_62 : decode b_Ra_becomeMultiple 62 = .ok (.iload_n 3, 1) := by decide +kernel
theorem d_Ra_becomeMultiple_63 : decode b_Ra_becomeMultiple 63 = .ok (.isub, 1) := by decide +kernel
theorem d_Ra_becomeMultiple_64 : decode b_Ra_becomeMultiple 64 = .ok (.invokevirtual 33, 3) := by decide +kernel
theorem d_Ra_becomeMultiple_67 : decode b_Ra_becomeMultiple 67 = .ok (.return_, 1) := by decide +kernel
