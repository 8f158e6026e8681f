theorem d_Wh_init_0 : decode b_Wh_init 0 = .ok (.aload_n 0, 1) := by decide +kernel
theorem d_Wh_init_1 : decode b_Wh_init 1 = .ok (.invokespecial 3, 3) := by decide +kernel
theorem d_Wh_init_4 : decode b_Wh_init 4 = .ok (.aload_n 0, 1) := by decide +kernel
theorem d_Wh_init_5 : decode b_Wh_init 5 = .ok (.iload_n 1, 1) := by decide +kernel
theorem d_Wh_init_6 : decode b_Wh_init 6 = .ok (.iconst 2, 1) := by decide +kernel
theorem d_Wh_init_7 : decode b_Wh_init 7 = .ok (.invokestatic 9, 3) := by decide +kernel
theorem d_Wh_init_10 : decode b_Wh_init 10 = .ok (.newarray .int, 2) := by decide +kernel
theorem d_Wh_init_12 : decode b_Wh_init 12 = .ok (.putfield 15, 3) := by decide +kernel
theorem d_Wh_init_15 : decode b_Wh_init 15 = .ok (.return_, 1) := by decide +kernel
theorem d_Wh_becomeLong_0 : decode b_Wh_becomeLong 0 = .ok (.aload_n 0, 1) := by decide +kernel
theorem d_Wh_becomeLong_1 : decode b_Wh_becomeLong 1 = .ok (.getfield 15, 3) := by decide +kernel
theorem d_Wh_becomeLong_4 : decode b_Wh_becomeLong 4 = .ok (.iconst 0, 1) := by decide +kernel
theorem d_Wh_becomeLong_5 : decode b_Wh_becomeLong 5 = .ok (.lload_n 1, 1) := by decide +kernel
theorem d_Wh_becomeLong_6 : decode b_Wh_becomeLong 6 = .ok (.l2i, 1) := by decide +kernel
theorem d_Wh_becomeLong_7 : decode b_Wh_becomeLong 7 = .ok (.iastore, 1) := by decide +kernel
theorem d_Wh_becomeLong_8 : decode b_Wh_becomeLong 8 = .ok (.aload_n 0, 1) := by decide +kernel
theorem d_Wh_becomeLong_9 : decode b_Wh_becomeLong 9 = .ok (.getfield 15, 3) := by decide +kernel
theorem d_Wh_becomeLong_12 : decode b_Wh_becomeLong 12 = .ok (.iconst 1, 1) := by decide +kernel
theorem d_Wh_becomeLong_13 : decode b_Wh_becomeLong 13 = .ok (.lload_n 1, 1) := by decide +kernel
theorem d_Wh_becomeLong_14 : decode b_Wh_becomeLong 14 = .ok (.bipush 32, 2) := by decide +kernel
theorem d_Wh_becomeLong_16 : decode b_Wh_becomeLong 16 = .ok (.lushr, 1) := by decide +kernel
theorem d_Wh_becomeLong_17 : decode b_Wh_becomeLong 17 = .ok (.l2i, 1) := by decide +kernel
theorem d_Wh_becomeLong_18 : decode b_Wh_becomeLong 18 = .ok (.iastore, 1) := by decide +kernel
theorem d_Wh_becomeLong_19 : decode b_Wh_becomeLong 19 = .ok (.aload_n 0, 1) := by decide +kernel
theorem d_Wh_becomeLong_20 : decode b_Wh_becomeLong 20 = .ok (.iconst 2, 1) := by decide +kernel
theorem d_Wh_becomeLong_21 : decode b_Wh_becomeLong 21 = .ok (.putfield 28, 3) := by decide +kernel
theorem d_Wh_becomeLong_24 : decode b_Wh_becomeLong 24 = .ok (.aload_n 0, 1) := by decide +kernel
theorem d_Wh_becomeLong_25 : decode b_Wh_becomeLong 25 = .ok (.invokevirtual 57, 3) := by decide +kernel
theorem d_Wh_becomeLong_28 : decode b_Wh_becomeLong 28 = .ok (.return_, 1) := by decide +kernel
theorem d_Wh_trim_0 : decode b_Wh_trim 0 = .ok (.aload_n 0, 1) := by decide +kernel
theorem d_Wh_trim_1 : decode b_Wh_trim 1 = .ok (.getfield 28, 3) := by decide +kernel
theorem d_Wh_trim_4 : decode b_Wh_trim 4 = .ok (.ifCond .le 30, 3) := by decide +kernel
theorem d_Wh_trim_7 : decode b_Wh_trim 7 = .ok (.aload_n 0, 1) := by decide +kernel
theorem d_Wh_trim_8 : decode b_Wh_trim 8 = .ok (.getfield 15, 3) := by decide +kernel
theorem d_Wh_trim_11 : decode b_Wh_trim 11 = .ok (.aload_n 0, 1) := by decide +kernel
theorem d_Wh_trim_12 : decode b_Wh_trim 12 = .ok (.getfield 28, 3) := by decide +kernel
theorem d_Wh_trim_15 : decode b_Wh_trim 15 = .ok (.iconst 1, 1) := by decide +kernel
theorem d_Wh_trim_16 : decode b_Wh_trim 16 = .ok (.isub, 1) := by decide +kernel
theorem d_Wh_trim_17 : decode b_Wh_trim 17 = .ok (.iaload, 1) := by decide +kernel
theorem d_Wh_trim_18 : decode b_Wh_trim 18 = .ok (.ifCond .ne 16, 3) := by decide +kernel
theorem d_Wh_trim_21 : decode b_Wh_trim 21 = .ok (.aload_n 0, 1) := by decide +kernel
theorem d_Wh_trim_22 : decode b_Wh_trim 22 = .ok (.dup, 1) := by decide +kernel
theorem d_Wh_trim_23 : decode b_Wh_trim 23 = .ok (.getfield 28, 3) := by decide +kernel
theorem d_Wh_trim_26 : decode b_Wh_trim 26 = .ok (.iconst 1, 1) := by decide +kernel
theorem d_Wh_trim_27 : decode b_Wh_trim 27 = .ok (.isub, 1) := by decide +kernel
theorem d_Wh_trim_28 : decode b_Wh_trim 28 = .ok (.putfield 28, 3) := by decide +kernel
theorem d_Wh_trim_31 : decode b_Wh_trim 31 = .ok (.goto (-31), 3) := by decide +kernel
theorem d_Wh_trim_34 : decode b_Wh_trim 34 = .ok (.return_, 1) := by decide +kernel
theorem d_Wh_against_0 : decode b_Wh_against 0 = .ok (.aload_n 0, 1) := by decide +kernel
theorem d_Wh_against_1 : decode b_Wh_against 1 = .ok (.getfield 28, 3) := by decide +kernel
theorem d_Wh_against_4 : decode b_Wh_against 4 = .ok (.aload_n 1, 1) := by decide +kernel
theorem d_Wh_against_5 : decode b_Wh_against 5 = .ok (.getfield 28, 3) := by decide +kernel
theorem d_Wh_against_8 : decode b_Wh_against 8 = .ok (.if_icmp .eq 20, 3) := by decide +kernel
theorem d_Wh_against_11 : decode b_Wh_against 11 = .ok (.aload_n 0, 1) := by decide +kernel
theorem d_Wh_against_12 : decode b_Wh_against 12 = .ok (.getfield 28, 3) := by decide +kernel
theorem d_Wh_against_15 : decode b_Wh_against 15 = .ok (.aload_n 1, 1) := by decide +kernel
theorem d_Wh_against_16 : decode b_Wh_against 16 = .ok (.getfield 28, 3) := by decide +kernel
theorem d_Wh_against_19 : decode b_Wh_against 19 = .ok (.if_icmp .ge 7, 3) := by decide +kernel
theorem d_Wh_against_22 : decode b_Wh_against 22 = .ok (.iconst (-1), 1) := by decide +kernel
theorem d_Wh_against_23 : decode b_Wh_against 23 = .ok (.goto 4, 3) := by decide +kernel
theorem d_Wh_against_26 : decode b_Wh_against 26 = .ok (.iconst 1, 1) := by decide +kernel
theorem d_Wh_against_27 : decode b_Wh_against 27 = .ok (.ireturn, 1) := by decide +kernel
theorem d_Wh_against_28 : decode b_Wh_against 28 = .ok (.aload_n 0, 1) := by decide +kernel
theorem d_Wh_against_29 : decode b_Wh_against 29 = .ok (.getfield 28, 3) := by decide +kernel
theorem d_Wh_against_32 : decode b_Wh_against 32 = .ok (.iconst 1, 1) := by decide +kernel
theorem d_Wh_against_33 : decode b_Wh_against 33 = .ok (.isub, 1) := by decide +kernel
theorem d_Wh_against_34 : decode b_Wh_against 34 = .ok (.istore_n 2, 1) := by decide +kernel
theorem d_Wh_against_35 : decode b_Wh_against 35 = .ok (.iload_n 2, 1) := by decide +kernel
theorem d_Wh_against_36 : decode b_Wh_against 36 = .ok (.ifCond .lt 56, 3) := by decide +kernel
theorem d_Wh_against_39 : decode b_Wh_against 39 = .ok (.aload_n 0, 1) := by decide +kernel
theorem d_Wh_against_40 : decode b_Wh_against 40 = .ok (.getfield 15, 3) := by decide +kernel
theorem d_Wh_against_43 : decode b_Wh_against 43 = .ok (.iload_n 2, 1) := by decide +kernel
theorem d_Wh_against_44 : decode b_Wh_against 44 = .ok (.iaload, 1) := by decide +kernel
theorem d_Wh_against_45 : decode b_Wh_against 45 = .ok (.aload_n 1, 1) := by decide +kernel
theorem d_Wh_against_46 : decode b_Wh_against 46 = .ok (.getfield 15, 3) := by decide +kernel
theorem d_Wh_against_49 : decode b_Wh_against 49 = .ok (.iload_n 2, 1) := by decide +kernel
theorem d_Wh_against_50 : decode b_Wh_against 50 = .ok (.iaload, 1) := by decide +kernel
theorem d_Wh_against_51 : decode b_Wh_against 51 = .ok (.if_icmp .eq 35, 3) := by decide +kernel
theorem d_Wh_against_54 : decode b_Wh_against 54 = .ok (.aload_n 0, 1) := by decide +kernel
theorem d_Wh_against_55 : decode b_Wh_against 55 = .ok (.getfield 15, 3) := by decide +kernel
theorem d_Wh_against_58 : decode b_Wh_against 58 = .ok (.iload_n 2, 1) := by decide +kernel
theorem d_Wh_against_59 : decode b_Wh_against 59 = .ok (.iaload, 1) := by decide +kernel
theorem d_Wh_against_60 : decode b_Wh_against 60 = .ok (.i2l, 1) := by decide +kernel
theorem d_Wh_against_61 : decode b_Wh_against 61 = .ok (.ldc2_w 42, 3) := by decide +kernel
theorem d_Wh_against_64 : decode b_Wh_against 64 = .ok (.land, 1) := by decide +kernel
theorem d_Wh_against_65 : decode b_Wh_against 65 = .ok (.aload_n 1, 1) := by decide +kernel
theorem d_Wh_against_66 : decode b_Wh_against 66 = .ok (.getfield 15, 3) := by decide +kernel
theorem d_Wh_against_69 : decode b_Wh_against 69 = .ok (.iload_n 2, 1) := by decide +kernel
theorem d_Wh_against_70 : decode b_Wh_against 70 = .ok (.iaload, 1) := by decide +kernel
theorem d_Wh_against_71 : decode b_Wh_against 71 = .ok (.i2l, 1) := by decide +kernel
theorem d_Wh_against_72 : decode b_Wh_against 72 = .ok (.ldc2_w 42, 3) := by decide +kernel
theorem d_Wh_against_75 : decode b_Wh_against 75 = .ok (.land, 1) := by decide +kernel
theorem d_Wh_against_76 : decode b_Wh_against 76 = .ok (.lcmp, 1) := by decide +kernel
theorem d_Wh_against_77 : decode b_Wh_against 77 = .ok (.ifCond .ge 7, 3) := by decide +kernel
theorem d_Wh_against_80 : decode b_Wh_against 80 = .ok (.iconst (-1), 1) := by decide +kernel
theorem d_Wh_against_81 : decode b_Wh_against 81 = .ok (.goto 4, 3) := by decide +kernel
theorem d_Wh_against_84 : decode b_Wh_against 84 = .ok (.iconst 1, 1) := by decide +kernel
theorem d_Wh_against_85 : decode b_Wh_against 85 = .ok (.ireturn, 1) := by decide +kernel
theorem d_Wh_against_86 : decode b_Wh_against 86 = .ok (.iinc 2 (-1), 3) := by decide +kernel
theorem d_Wh_against_89 : decode b_Wh_against 89 = .ok (.goto (-54), 3) := by decide +kernel
theorem d_Wh_against_92 : decode b_Wh_against 92 = .ok (.iconst 0, 1) := by decide +kernel
theorem d_Wh_against_93 : decode b_Wh_against 93 = .ok (.ireturn, 1) := by decide +kernel
theorem d_Wh_become_0 : decode b_Wh_become 0 = .ok (.aload_n 0, 1) := by decide +kernel
theorem d_Wh_become_1 : decode b_Wh_become 1 = .ok (.aload_n 1, 1) := by decide +kernel
theorem d_Wh_become_2 : decode b_Wh_become 2 = .ok (.getfield 28, 3) := by decide +kernel
theorem d_Wh_become_5 : decode b_Wh_become 5 = .ok (.invokevirtual 32, 3) := by decide +kernel
theorem d_Wh_become_8 : decode b_Wh_become 8 = .ok (.aload_n 1, 1) := by decide +kernel
theorem d_Wh_become_9 : decode b_Wh_become 9 = .ok (.getfield 15, 3) := by decide +kernel
theorem d_Wh_become_12 : decode b_Wh_become 12 = .ok (.iconst 0, 1) := by decide +kernel
theorem d_Wh_become_13 : decode b_Wh_become 13 = .ok (.aload_n 0, 1) := by decide +kernel
theorem d_Wh_become_14 : decode b_Wh_become 14 = .ok (.getfield 15, 3) := by decide +kernel
theorem d_Wh_become_17 : decode b_Wh_become 17 = .ok (.iconst 0, 1) := by decide +kernel
theorem d_Wh_become_18 : decode b_Wh_become 18 = .ok (.aload_n 1, 1) := by decide +kernel
theorem d_Wh_become_19 : decode b_Wh_become 19 = .ok (.getfield 28, 3) := by decide +kernel
theorem d_Wh_become_22 : decode b_Wh_become 22 = .ok (.invokestatic 60, 3) := by decide +kernel
theorem d_Wh_become_25 : decode b_Wh_become 25 = .ok (.aload_n 0, 1) := by decide +kernel
theorem d_Wh_become_26 : decode b_Wh_become 26 = .ok (.aload_n 1, 1) := by decide +kernel
theorem d_Wh_become_27 : decode b_Wh_become 27 = .ok (.getfield 28, 3) := by decide +kernel
theorem d_Wh_become_30 : decode b_Wh_become 30 = .ok (.putfield 28, 3) := by decide +kernel
theorem d_Wh_become_33 : decode b_Wh_become 33 = .ok (.return_, 1) := by decide +kernel
theorem d_Wh_claim_0 : decode b_Wh_claim 0 = .ok (.iload_n 1, 1) := by decide +kernel
theorem d_Wh_claim_1 : decode b_Wh_claim 1 = .ok (.aload_n 0, 1) := by decide +kernel
theorem d_Wh_claim_2 : decode b_Wh_claim 2 = .ok (.getfield 15, 3) := by decide +kernel
theorem d_Wh_claim_5 : decode b_Wh_claim 5 = .ok (.arraylength, 1) := by decide +kernel
theorem d_Wh_claim_6 : decode b_Wh_claim 6 = .ok (.if_icmp .le 13, 3) := by decide +kernel
theorem d_Wh_claim_9 : decode b_Wh_claim 9 = .ok (.new 21, 3) := by decide +kernel
theorem d_Wh_claim_12 : decode b_Wh_claim 12 = .ok (.dup, 1) := by decide +kernel
theorem d_Wh_claim_13 : decode b_Wh_claim 13 = .ok (.ldc 23, 2) := by decide +kernel
theorem d_Wh_claim_15 : decode b_Wh_claim 15 = .ok (.invokespecial 25, 3) := by decide +kernel
theorem d_Wh_claim_18 : decode b_Wh_claim 18 = .ok (.athrow, 1) := by decide +kernel
theorem d_Wh_claim_19 : decode b_Wh_claim 19 = .ok (.return_, 1) := by decide +kernel
theorem d_Wh_bits_0 : decode b_Wh_bits 0 = .ok (.aload_n 0, 1) := by decide +kernel
theorem d_Wh_bits_1 : decode b_Wh_bits 1 = .ok (.getfield 28, 3) := by decide +kernel
theorem d_Wh_bits_4 : decode b_Wh_bits 4 = .ok (.ifCond .ne 7, 3) := by decide +kernel
theorem d_Wh_bits_7 : decode b_Wh_bits 7 = .ok (.iconst 0, 1) := by decide +kernel
theorem d_Wh_bits_8 : decode b_Wh_bits 8 = .ok (.goto 25, 3) := by decide +kernel
theorem d_Wh_bits_11 : decode b_Wh_bits 11 = .ok (.bipush 32, 2) := by decide +kernel
theorem d_Wh_bits_13 : decode b_Wh_bits 13 = .ok (.aload_n 0, 1) := by decide +kernel
theorem d_Wh_bits_14 : decode b_Wh_bits 14 = .ok (.getfield 28, 3) := by decide +kernel
theorem d_Wh_bits_17 : decode b_Wh_bits 17 = .ok (.imul, 1) := by decide +kernel
theorem d_Wh_bits_18 : decode b_Wh_bits 18 = .ok (.aload_n 0, 1) := by decide +kernel
theorem d_Wh_bits_19 : decode b_Wh_bits 19 = .ok (.getfield 15, 3) := by decide +kernel
theorem d_Wh_bits_22 : decode b_Wh_bits 22 = .ok (.aload_n 0, 1) := by decide +kernel
theorem d_Wh_bits_23 : decode b_Wh_bits 23 = .ok (.getfield 28, 3) := by decide +kernel
theorem d_Wh_bits_26 : decode b_Wh_bits 26 = .ok (.iconst 1, 1) := by decide +kernel
theorem d_Wh_bits_27 : decode b_Wh_bits 27 = .ok (.isub, 1) := by decide +kernel
theorem d_Wh_bits_28 : decode b_Wh_bits 28 = .ok (.iaload, 1) := by decide +kernel
theorem d_Wh_bits_29 : decode b_Wh_bits 29 = .ok (.invokestatic 44, 3) := by decide +kernel
theorem d_Wh_bits_32 : decode b_Wh_bits 32 = .ok (.isub, 1) := by decide +kernel
theorem d_Wh_bits_33 : decode b_Wh_bits 33 = .ok (.ireturn, 1) := by decide +kernel
theorem d_Wh_bitsFrom_0 : decode b_Wh_bitsFrom 0 = .ok (.iload_n 1, 1) := by decide +kernel
theorem d_Wh_bitsFrom_1 : decode b_Wh_bitsFrom 1 = .ok (.iconst 5, 1) := by decide +kernel
theorem d_Wh_bitsFrom_2 : decode b_Wh_bitsFrom 2 = .ok (.iushr, 1) := by decide +kernel
theorem d_Wh_bitsFrom_3 : decode b_Wh_bitsFrom 3 = .ok (.istore_n 2, 1) := by decide +kernel
theorem d_Wh_bitsFrom_4 : decode b_Wh_bitsFrom 4 = .ok (.iload_n 1, 1) := by decide +kernel
theorem d_Wh_bitsFrom_5 : decode b_Wh_bitsFrom 5 = .ok (.bipush 31, 2) := by decide +kernel
theorem d_Wh_bitsFrom_7 : decode b_Wh_bitsFrom 7 = .ok (.iand, 1) := by decide +kernel
theorem d_Wh_bitsFrom_8 : decode b_Wh_bitsFrom 8 = .ok (.istore_n 3, 1) := by decide +kernel
theorem d_Wh_bitsFrom_9 : decode b_Wh_bitsFrom 9 = .ok (.aload_n 0, 1) := by decide +kernel
theorem d_Wh_bitsFrom_10 : decode b_Wh_bitsFrom 10 = .ok (.iload_n 2, 1) := by decide +kernel
theorem d_Wh_bitsFrom_11 : decode b_Wh_bitsFrom 11 = .ok (.invokevirtual 53, 3) := by decide +kernel
theorem d_Wh_bitsFrom_14 : decode b_Wh_bitsFrom 14 = .ok (.aload_n 0, 1) := by decide +kernel
theorem d_Wh_bitsFrom_15 : decode b_Wh_bitsFrom 15 = .ok (.iload_n 2, 1) := by decide +kernel
theorem d_Wh_bitsFrom_16 : decode b_Wh_bitsFrom 16 = .ok (.iconst 1, 1) := by decide +kernel
theorem d_Wh_bitsFrom_17 : decode b_Wh_bitsFrom 17 = .ok (.iadd, 1) := by decide +kernel
theorem d_Wh_bitsFrom_18 : decode b_Wh_bitsFrom 18 = .ok (.invokevirtual 53, 3) := by decide +kernel
theorem d_Wh_bitsFrom_21 : decode b_Wh_bitsFrom 21 = .ok (.bipush 32, 2) := by decide +kernel
theorem d_Wh_bitsFrom_23 : decode b_Wh_bitsFrom 23 = .ok (.lshl, 1) := by decide +kernel
theorem d_Wh_bitsFrom_24 : decode b_Wh_bitsFrom 24 = .ok (.lor, 1) := by decide +kernel
theorem d_Wh_bitsFrom_25 : decode b_Wh_bitsFrom 25 = .ok (.lstore 4, 2) := by decide +kernel
theorem d_Wh_bitsFrom_27 : decode b_Wh_bitsFrom 27 = .ok (.lload 4, 2) := by decide +kernel
theorem d_Wh_bitsFrom_29 : decode b_Wh_bitsFrom 29 = .ok (.iload_n 3, 1) := by decide +kernel
theorem d_Wh_bitsFrom_30 : decode b_Wh_bitsFrom 30 = .ok (.lushr, 1) := by decide +kernel
theorem d_Wh_bitsFrom_31 : decode b_Wh_bitsFrom 31 = .ok (.aload_n 0, 1) := by decide +kernel
theorem d_Wh_bitsFrom_32 : decode b_Wh_bitsFrom 32 = .ok (.iload_n 2, 1) := by decide +kernel
theorem d_Wh_bitsFrom_33 : decode b_Wh_bitsFrom 33 = .ok (.iconst 2, 1) := by decide +kernel
theorem d_Wh_bitsFrom_34 : decode b_Wh_bitsFrom 34 = .ok (.iadd, 1) := by decide +kernel
theorem d_Wh_bitsFrom_35 : decode b_Wh_bitsFrom 35 = .ok (.invokevirtual 53, 3) := by decide +kernel
theorem d_Wh_bitsFrom_38 : decode b_Wh_bitsFrom 38 = .ok (.bipush 32, 2) := by decide +kernel
theorem d_Wh_bitsFrom_40 : decode b_Wh_bitsFrom 40 = .ok (.lshl, 1) := by decide +kernel
theorem d_Wh_bitsFrom_41 : decode b_Wh_bitsFrom 41 = .ok (.bipush 32, 2) := by decide +kernel
theorem d_Wh_bitsFrom_43 : decode b_Wh_bitsFrom 43 = .ok (.iload_n 3, 1) := by decide +kernel
theorem d_Wh_bitsFrom_44 : decode b_Wh_bitsFrom 44 = .ok (.isub, 1) := by decide +kernel
theorem d_Wh_bitsFrom_45 : decode b_Wh_bitsFrom 45 = .ok (.lshl, 1) := by decide +kernel
theorem d_Wh_bitsFrom_46 : decode b_Wh_bitsFrom 46 = .ok (.lor, 1) := by decide +kernel
theorem d_Wh_bitsFrom_47 : decode b_Wh_bitsFrom 47 = .ok (.lreturn, 1) := by decide +kernel
theorem d_Wh_at_0 : decode b_Wh_at 0 = .ok (.iload_n 1, 1) := by decide +kernel
theorem d_Wh_at_1 : decode b_Wh_at 1 = .ok (.ifCond .lt 25, 3) := by decide +kernel
theorem d_Wh_at_4 : decode b_Wh_at 4 = .ok (.iload_n 1, 1) := by decide +kernel
theorem d_Wh_at_5 : decode b_Wh_at 5 = .ok (.aload_n 0, 1) := by decide +kernel
theorem d_Wh_at_6 : decode b_Wh_at 6 = .ok (.getfield 28, 3) := by decide +kernel
theorem d_Wh_at_9 : decode b_Wh_at 9 = .ok (.if_icmp .ge 17, 3) := by decide +kernel
theorem d_Wh_at_12 : decode b_Wh_at 12 = .ok (.aload_n 0, 1) := by decide +kernel
theorem d_Wh_at_13 : decode b_Wh_at 13 = .ok (.getfield 15, 3) := by decide +kernel
theorem d_Wh_at_16 : decode b_Wh_at 16 = .ok (.iload_n 1, 1) := by decide +kernel
theorem d_Wh_at_17 : decode b_Wh_at 17 = .ok (.iaload, 1) := by decide +kernel
theorem d_Wh_at_18 : decode b_Wh_at 18 = .ok (.i2l, 1) := by decide +kernel
theorem d_Wh_at_19 : decode b_Wh_at 19 = .ok (.ldc2_w 42, 3) := by decide +kernel
theorem d_Wh_at_22 : decode b_Wh_at 22 = .ok (.land, 1) := by decide +kernel
theorem d_Wh_at_23 : decode b_Wh_at 23 = .ok (.goto 4, 3) := by decide +kernel
theorem d_Wh_at_26 : decode b_Wh_at 26 = .ok (.lconst 0, 1) := by decide +kernel
theorem d_Wh_at_27 : decode b_Wh_at 27 = .ok (.lreturn, 1) := by decide +kernel
theorem d_Wh_widen_0 : decode b_Wh_widen 0 = .ok (.aload_n 0, 1) := by decide +kernel
theorem d_Wh_widen_1 : decode b_Wh_widen 1 = .ok (.iload_n 1, 1) := by decide +kernel
theorem d_Wh_widen_2 : decode b_Wh_widen 2 = .ok (.invokevirtual 32, 3) := by decide +kernel
theorem d_Wh_widen_5 : decode b_Wh_widen 5 = .ok (.iload_n 1, 1) := by decide +kernel
theorem d_Wh_widen_6 : decode b_Wh_widen 6 = .ok (.aload_n 0, 1) := by decide +kernel
theorem d_Wh_widen_7 : decode b_Wh_widen 7 = .ok (.getfield 28, 3) := by decide +kernel
theorem d_Wh_widen_10 : decode b_Wh_widen 10 = .ok (.if_icmp .le 21, 3) := by decide +kernel
theorem d_Wh_widen_13 : decode b_Wh_widen 13 = .ok (.aload_n 0, 1) := by decide +kernel
theorem d_Wh_widen_14 : decode b_Wh_widen 14 = .ok (.getfield 15, 3) := by decide +kernel
theorem d_Wh_widen_17 : decode b_Wh_widen 17 = .ok (.aload_n 0, 1) := by decide +kernel
theorem d_Wh_widen_18 : decode b_Wh_widen 18 = .ok (.getfield 28, 3) := by decide +kernel
theorem d_Wh_widen_21 : decode b_Wh_widen 21 = .ok (.iload_n 1, 1) := by decide +kernel
theorem d_Wh_widen_22 : decode b_Wh_widen 22 = .ok (.iconst 0, 1) := by decide +kernel
theorem d_Wh_widen_23 : decode b_Wh_widen 23 = .ok (.invokestatic 36, 3) := by decide +kernel
theorem d_Wh_widen_26 : decode b_Wh_widen 26 = .ok (.aload_n 0, 1) := by decide +kernel
theorem d_Wh_widen_27 : decode b_Wh_widen 27 = .ok (.iload_n 1, 1) := by decide +kernel
theorem d_Wh_widen_28 : decode b_Wh_widen 28 = .ok (.putfield 28, 3) := by decide +kernel
theorem d_Wh_widen_31 : decode b_Wh_widen 31 = .ok (.return_, 1) := by decide +kernel
theorem d_Wh_divideBy_0 : decode b_Wh_divideBy 0 = .ok (.aload_n 2, 1) := by decide +kernel
theorem d_Wh_divideBy_1 : decode b_Wh_divideBy 1 = .ok (.iconst 0, 1) := by decide +kernel
theorem d_Wh_divideBy_2 : decode b_Wh_divideBy 2 = .ok (.putfield 28, 3) := by decide +kernel
theorem d_Wh_divideBy_5 : decode b_Wh_divideBy 5 = .ok (.aload_n 1, 1) := by decide +kernel
theorem d_Wh_divideBy_6 : decode b_Wh_divideBy 6 = .ok (.getfield 28, 3) := by decide +kernel
theorem d_Wh_divideBy_9 : decode b_Wh_divideBy 9 = .ok (.ifCond .eq 11, 3) := by decide +kernel
theorem d_Wh_divideBy_12 : decode b_Wh_divideBy 12 = .ok (.aload_n 0, 1) := by decide +kernel
theorem d_Wh_divideBy_13 : decode b_Wh_divideBy 13 = .ok (.aload_n 1, 1) := by decide +kernel
theorem d_Wh_divideBy_14 : decode b_Wh_divideBy 14 = .ok (.invokevirtual 74, 3) := by decide +kernel
theorem d_Wh_divideBy_17 : decode b_Wh_divideBy 17 = .ok (.ifCond .ge 4, 3) := by decide +kernel
theorem d_Wh_divideBy_20 : decode b_Wh_divideBy 20 = .ok (.return_, 1) := by decide +kernel
theorem d_Wh_divideBy_21 : decode b_Wh_divideBy 21 = .ok (.aload_n 1, 1) := by decide +kernel
theorem d_Wh_divideBy_22 : decode b_Wh_divideBy 22 = .ok (.getfield 28, 3) := by decide +kernel
theorem d_Wh_divideBy_25 : decode b_Wh_divideBy 25 = .ok (.iconst 1, 1) := by decide +kernel
theorem d_Wh_divideBy_26 : decode b_Wh_divideBy 26 = .ok (.if_icmp .ne 28, 3) := by decide +kernel
theorem d_Wh_divideBy_29 : decode b_Wh_divideBy 29 = .ok (.aload_n 2, 1) := by decide +kernel
theorem d_Wh_divideBy_30 : decode b_Wh_divideBy 30 = .ok (.aload_n 0, 1) := by decide +kernel
theorem d_Wh_divideBy_31 : decode b_Wh_divideBy 31 = .ok (.invokevirtual 78, 3) := by decide +kernel
theorem d_Wh_divideBy_34 : decode b_Wh_divideBy 34 = .ok (.aload_n 0, 1) := by decide +kernel
theorem d_Wh_divideBy_35 : decode b_Wh_divideBy 35 = .ok (.aload_n 2, 1) := by decide +kernel
theorem d_Wh_divideBy_36 : decode b_Wh_divideBy 36 = .ok (.aload_n 1, 1) := by decide +kernel
theorem d_Wh_divideBy_37 : decode b_Wh_divideBy 37 = .ok (.getfield 15, 3) := by decide +kernel
theorem d_Wh_divideBy_40 : decode b_Wh_divideBy 40 = .ok (.iconst 0, 1) := by decide +kernel
theorem d_Wh_divideBy_41 : decode b_Wh_divideBy 41 = .ok (.iaload, 1) := by decide +kernel
theorem d_Wh_divideBy_42 : decode b_Wh_divideBy 42 = .ok (.i2l, 1) := by decide +kernel
theorem d_Wh_divideBy_43 : decode b_Wh_divideBy 43 = .ok (.ldc2_w 42, 3) := by decide +kernel
theorem d_Wh_divideBy_46 : decode b_Wh_divideBy 46 = .ok (.land, 1) := by decide +kernel
theorem d_Wh_divideBy_47 : decode b_Wh_divideBy 47 = .ok (.invokevirtual 82, 3) := by decide +kernel
theorem d_Wh_divideBy_50 : decode b_Wh_divideBy 50 = .ok (.invokevirtual 86, 3) := by decide +kernel
theorem d_Wh_divideBy_53 : decode b_Wh_divideBy 53 = .ok (.return_, 1) := by decide +kernel
theorem d_Wh_divideBy_54 : decode b_Wh_divideBy 54 = .ok (.aload_n 1, 1) := by decide +kernel
theorem d_Wh_divideBy_55 : decode b_Wh_divideBy 55 = .ok (.getfield 15, 3) := by decide +kernel
theorem d_Wh_divideBy_58 : decode b_Wh_divideBy 58 = .ok (.aload_n 1, 1) := by decide +kernel
theorem d_Wh_divideBy_59 : decode b_Wh_divideBy 59 = .ok (.getfield 28, 3) := by decide +kernel
theorem d_Wh_divideBy_62 : decode b_Wh_divideBy 62 = .ok (.iconst 1, 1) := by decide +kernel
theorem d_Wh_divideBy_63 : decode b_Wh_divideBy 63 = .ok (.isub, 1) := by decide +kernel
theorem d_Wh_divideBy_64 : decode b_Wh_divideBy 64 = .ok (.iaload, 1) := by decide +kernel
theorem d_Wh_divideBy_65 : decode b_Wh_divideBy 65 = .ok (.invokestatic 44, 3) := by decide +kernel
theorem d_Wh_divideBy_68 : decode b_Wh_divideBy 68 = .ok (.istore_n 3, 1) := by decide +kernel
theorem d_Wh_divideBy_69 : decode b_Wh_divideBy 69 = .ok (.aload_n 1, 1) := by decide +kernel
theorem d_Wh_divideBy_70 : decode b_Wh_divideBy 70 = .ok (.iload_n 3, 1) := by decide +kernel
theorem d_Wh_divideBy_71 : decode b_Wh_divideBy 71 = .ok (.invokevirtual 90, 3) := by decide +kernel
theorem d_Wh_divideBy_74 : decode b_Wh_divideBy 74 = .ok (.aload_n 0, 1) := by decide +kernel
theorem d_Wh_divideBy_75 : decode b_Wh_divideBy 75 = .ok (.iload_n 3, 1) := by decide +kernel
theorem d_Wh_divideBy_76 : decode b_Wh_divideBy 76 = .ok (.invokevirtual 90, 3) := by decide +kernel
theorem d_Wh_divideBy_79 : decode b_Wh_divideBy 79 = .ok (.aload_n 0, 1) := by decide +kernel
theorem d_Wh_divideBy_80 : decode b_Wh_divideBy 80 = .ok (.aload_n 0, 1) := by decide +kernel
theorem d_Wh_divideBy_81 : decode b_Wh_divideBy 81 = .ok (.getfield 28, 3) := by decide +kernel
theorem d_Wh_divideBy_84 : decode b_Wh_divideBy 84 = .ok (.iconst 1, 1) := by decide +kernel
theorem d_Wh_divideBy_85 : decode b_Wh_divideBy 85 = .ok (.iadd, 1) := by decide +kernel
theorem d_Wh_divideBy_86 : decode b_Wh_divideBy 86 = .ok (.invokevirtual 32, 3) := by decide +kernel
theorem d_Wh_divideBy_89 : decode b_Wh_divideBy 89 = .ok (.aload_n 0, 1) := by decide +kernel
theorem d_Wh_divideBy_90 : decode b_Wh_divideBy 90 = .ok (.getfield 15, 3) := by decide +kernel
theorem d_Wh_divideBy_93 : decode b_Wh_divideBy 93 = .ok (.aload_n 0, 1) := by decide +kernel
theorem d_Wh_divideBy_94 : decode b_Wh_divideBy 94 = .ok (.getfield 28, 3) := by decide +kernel
theorem d_Wh_divideBy_97 : decode b_Wh_divideBy 97 = .ok (.iconst 0, 1) := by decide +kernel
theorem d_Wh_divideBy_98 : decode b_Wh_divideBy 98 = .ok (.iastore, 1) := by decide +kernel
theorem d_Wh_divideBy_99 : decode b_Wh_divideBy 99 = .ok (.aload_n 0, 1) := by decide +kernel
theorem d_Wh_divideBy_100 : decode b_Wh_divideBy 100 = .ok (.getfield 28, 3) := by decide +kernel
theorem d_Wh_divideBy_103 : decode b_Wh_divideBy 103 = .ok (.aload_n 1, 1) := by decide +kernel
theorem d_Wh_divideBy_104 : decode b_Wh_divideBy 104 = .ok (.getfield 28, 3) := by decide +kernel
theorem d_Wh_divideBy_107 : decode b_Wh_divideBy 107 = .ok (.isub, 1) := by decide +kernel
theorem d_Wh_divideBy_108 : decode b_Wh_divideBy 108 = .ok (.iconst 1, 1) := by decide +kernel
theorem d_Wh_divideBy_109 : decode b_Wh_divideBy 109 = .ok (.iadd, 1) := by decide +kernel
theorem d_Wh_divideBy_110 : decode b_Wh_divideBy 110 = .ok (.istore 4, 2) := by decide +kernel
theorem d_Wh_divideBy_112 : decode b_Wh_divideBy 112 = .ok (.aload_n 2, 1) := by decide +kernel
theorem d_Wh_divideBy_113 : decode b_Wh_divideBy 113 = .ok (.iload 4, 2) := by decide +kernel
theorem d_Wh_divideBy_115 : decode b_Wh_divideBy 115 = .ok (.invokevirtual 32, 3) := by decide +kernel
theorem d_Wh_divideBy_118 : decode b_Wh_divideBy 118 = .ok (.iload 4, 2) := by decide +kernel
theorem d_Wh_divideBy_120 : decode b_Wh_divideBy 120 = .ok (.iconst 1, 1) := by decide +kernel
theorem d_Wh_divideBy_121 : decode b_Wh_divideBy 121 = .ok (.isub, 1) := by decide +kernel
theorem d_Wh_divideBy_122 : decode b_Wh_divideBy 122 = .ok (.istore 5, 2) := by decide +kernel
theorem d_Wh_divideBy_124 : decode b_Wh_divideBy 124 = .ok (.iload 5, 2) := by decide +kernel
theorem d_Wh_divideBy_126 : decode b_Wh_divideBy 126 = .ok (.ifCond .lt 53, 3) := by decide +kernel
theorem d_Wh_divideBy_129 : decode b_Wh_divideBy 129 = .ok (.aload_n 0, 1) := by decide +kernel
theorem d_Wh_divideBy_130 : decode b_Wh_divideBy 130 = .ok (.aload_n 1, 1) := by decide +kernel
theorem d_Wh_divideBy_131 : decode b_Wh_divideBy 131 = .ok (.iload 5, 2) := by decide +kernel
theorem d_Wh_divideBy_133 : decode b_Wh_divideBy 133 = .ok (.invokevirtual 93, 3) := by decide +kernel
theorem d_Wh_divideBy_136 : decode b_Wh_divideBy 136 = .ok (.lstore 6, 2) := by decide +kernel
theorem d_Wh_divideBy_138 : decode b_Wh_divideBy 138 = .ok (.aload_n 0, 1) := by decide +kernel
theorem d_Wh_divideBy_139 : decode b_Wh_divideBy 139 = .ok (.aload_n 1, 1) := by decide +kernel
theorem d_Wh_divideBy_140 : decode b_Wh_divideBy 140 = .ok (.lload 6, 2) := by decide +kernel
theorem d_Wh_divideBy_142 : decode b_Wh_divideBy 142 = .ok (.iload 5, 2) := by decide +kernel
theorem d_Wh_divideBy_144 : decode b_Wh_divideBy 144 = .ok (.invokevirtual 97, 3) := by decide +kernel
theorem d_Wh_divideBy_147 : decode b_Wh_divideBy 147 = .ok (.ifCond .eq 16, 3) := by decide +kernel
theorem d_Wh_divideBy_150 : decode b_Wh_divideBy 150 = .ok (.lload 6, 2) := by decide +kernel
theorem d_Wh_divideBy_152 : decode b_Wh_divideBy 152 = .ok (.lconst 1, 1) := by decide +kernel
theorem d_Wh_divideBy_153 : decode b_Wh_divideBy 153 = .ok (.lsub, 1) := by decide +kernel
theorem d_Wh_divideBy_154 : decode b_Wh_divideBy 154 = .ok (.lstore 6, 2) := by decide +kernel
theorem d_Wh_divideBy_156 : decode b_Wh_divideBy 156 = .ok (.aload_n 0, 1) := by decide +kernel
theorem d_Wh_divideBy_157 : decode b_Wh_divideBy 157 = .ok (.aload_n 1, 1) := by decide +kernel
theorem d_Wh_divideBy_158 : decode b_Wh_divideBy 158 = .ok (.iload 5, 2) := by decide +kernel
theorem d_Wh_divideBy_160 : decode b_Wh_divideBy 160 = .ok (.invokevirtual 101, 3) := by decide +kernel
theorem d_Wh_divideBy_163 : decode b_Wh_divideBy 163 = .ok (.aload_n 2, 1) := by decide +kernel
theorem d_Wh_divideBy_164 : decode b_Wh_divideBy 164 = .ok (.getfield 15, 3) := by decide +kernel
theorem d_Wh_divideBy_167 : decode b_Wh_divideBy 167 = .ok (.iload 5, 2) := by decide +kernel
theorem d_Wh_divideBy_169 : decode b_Wh_divideBy 169 = .ok (.lload 6, 2) := by decide +kernel
theorem d_Wh_divideBy_171 : decode b_Wh_divideBy 171 = .ok (.l2i, 1) := by decide +kernel
theorem d_Wh_divideBy_172 : decode b_Wh_divideBy 172 = .ok (.iastore, 1) := by decide +kernel
theorem d_Wh_divideBy_173 : decode b_Wh_divideBy 173 = .ok (.iinc 5 (-1), 3) := by decide +kernel
theorem d_Wh_divideBy_176 : decode b_Wh_divideBy 176 = .ok (.goto (-52), 3) := by decide +kernel
theorem d_Wh_divideBy_179 : decode b_Wh_divideBy 179 = .ok (.aload_n 2, 1) := by decide +kernel
theorem d_Wh_divideBy_180 : decode b_Wh_divideBy 180 = .ok (.iload 4, 2) := by decide +kernel
theorem d_Wh_divideBy_182 : decode b_Wh_divideBy 182 = .ok (.putfield 28, 3) := by decide +kernel
theorem d_Wh_divideBy_185 : decode b_Wh_divideBy 185 = .ok (.aload_n 2, 1) := by decide +kernel
theorem d_Wh_divideBy_186 : decode b_Wh_divideBy 186 = .ok (.invokevirtual 57, 3) := by decide +kernel
theorem d_Wh_divideBy_189 : decode b_Wh_divideBy 189 = .ok (.aload_n 0, 1) := by decide +kernel
theorem d_Wh_divideBy_190 : decode b_Wh_divideBy 190 = .ok (.aload_n 1, 1) := by decide +kernel
theorem d_Wh_divideBy_191 : decode b_Wh_divideBy 191 = .ok (.getfield 28, 3) := by decide +kernel
theorem d_Wh_divideBy_194 : decode b_Wh_divideBy 194 = .ok (.putfield 28, 3) := by decide +kernel
theorem d_Wh_divideBy_197 : decode b_Wh_divideBy 197 = .ok (.aload_n 0, 1) := by decide +kernel
theorem d_Wh_divideBy_198 : decode b_Wh_divideBy 198 = .ok (.invokevirtual 57, 3) := by decide +kernel
theorem d_Wh_divideBy_201 : decode b_Wh_divideBy 201 = .ok (.aload_n 0, 1) := by decide +kernel
theorem d_Wh_divideBy_202 : decode b_Wh_divideBy 202 = .ok (.iload_n 3, 1) := by decide +kernel
theorem d_Wh_divideBy_203 : decode b_Wh_divideBy 203 = .ok (.invokevirtual 105, 3) := by decide +kernel
theorem d_Wh_divideBy_206 : decode b_Wh_divideBy 206 = .ok (.aload_n 1, 1) := by decide +kernel
theorem d_Wh_divideBy_207 : decode b_Wh_divideBy 207 = .ok (.iload_n 3, 1) := by decide +kernel
theorem d_Wh_divideBy_208 : decode b_Wh_divideBy 208 = .ok (.invokevirtual 105, 3) := by decide +kernel
theorem d_Wh_divideBy_211 : decode b_Wh_divideBy 211 = .ok (.return_, 1) := by decide +kernel
theorem d_Wh_divideByLimb_0 : decode b_Wh_divideByLimb 0 = .ok (.lconst 0, 1) := by decide +kernel
theorem d_Wh_divideByLimb_1 : decode b_Wh_divideByLimb 1 = .ok (.lstore_n 3, 1) := by decide +kernel
theorem d_Wh_divideByLimb_2 : decode b_Wh_divideByLimb 2 = .ok (.aload_n 0, 1) := by decide +kernel
theorem d_Wh_divideByLimb_3 : decode b_Wh_divideByLimb 3 = .ok (.getfield 28, 3) := by decide +kernel
theorem d_Wh_divideByLimb_6 : decode b_Wh_divideByLimb 6 = .ok (.iconst 1, 1) := by decide +kernel
theorem d_Wh_divideByLimb_7 : decode b_Wh_divideByLimb 7 = .ok (.isub, 1) := by decide +kernel
theorem d_Wh_divideByLimb_8 : decode b_Wh_divideByLimb 8 = .ok (.istore 5, 2) := by decide +kernel
theorem d_Wh_divideByLimb_10 : decode b_Wh_divideByLimb 10 = .ok (.iload 5, 2) := by decide +kernel
theorem d_Wh_divideByLimb_12 : decode b_Wh_divideByLimb 12 = .ok (.ifCond .lt 54, 3) := by decide +kernel
theorem d_Wh_divideByLimb_15 : decode b_Wh_divideByLimb 15 = .ok (.lload_n 3, 1) := by decide +kernel
theorem d_Wh_divideByLimb_16 : decode b_Wh_divideByLimb 16 = .ok (.bipush 32, 2) := by decide +kernel
theorem d_Wh_divideByLimb_18 : decode b_Wh_divideByLimb 18 = .ok (.lshl, 1) := by decide +kernel
theorem d_Wh_divideByLimb_19 : decode b_Wh_divideByLimb 19 = .ok (.aload_n 0, 1) := by decide +kernel
theorem d_Wh_divideByLimb_20 : decode b_Wh_divideByLimb 20 = .ok (.getfield 15, 3) := by decide +kernel
theorem d_Wh_divideByLimb_23 : decode b_Wh_divideByLimb 23 = .ok (.iload 5, 2) := by decide +kernel
theorem d_Wh_divideByLimb_25 : decode b_Wh_divideByLimb 25 = .ok (.iaload, 1) := by decide +kernel
theorem d_Wh_divideByLimb_26 : decode b_Wh_divideByLimb 26 = .ok (.i2l, 1) := by decide +kernel
theorem d_Wh_divideByLimb_27 : decode b_Wh_divideByLimb 27 = .ok (.ldc2_w 42, 3) := by decide +kernel
theorem d_Wh_divideByLimb_30 : decode b_Wh_divideByLimb 30 = .ok (.land, 1) := by decide +kernel
theorem d_Wh_divideByLimb_31 : decode b_Wh_divideByLimb 31 = .ok (.lor, 1) := by decide +kernel
theorem d_Wh_divideByLimb_32 : decode b_Wh_divideByLimb 32 = .ok (.lstore 6, 2) := by decide +kernel
theorem d_Wh_divideByLimb_34 : decode b_Wh_divideByLimb 34 = .ok (.lload 6, 2) := by decide +kernel
theorem d_Wh_divideByLimb_36 : decode b_Wh_divideByLimb 36 = .ok (.lload_n 1, 1) := by decide +kernel
theorem d_Wh_divideByLimb_37 : decode b_Wh_divideByLimb 37 = .ok (.invokestatic 70, 3) := by decide +kernel
theorem d_Wh_divideByLimb_40 : decode b_Wh_divideByLimb 40 = .ok (.lstore 8, 2) := by decide +kernel
theorem d_Wh_divideByLimb_42 : decode b_Wh_divideByLimb 42 = .ok (.aload_n 0, 1) := by decide +kernel
theorem d_Wh_divideByLimb_43 : decode b_Wh_divideByLimb 43 = .ok (.getfield 15, 3) := by decide +kernel
theorem d_Wh_divideByLimb_46 : decode b_Wh_divideByLimb 46 = .ok (.iload 5, 2) := by decide +kernel
theorem d_Wh_divideByLimb_48 : decode b_Wh_divideByLimb 48 = .ok (.lload 8, 2) := by decide +kernel
theorem d_Wh_divideByLimb_50 : decode b_Wh_divideByLimb 50 = .ok (.l2i, 1) := by decide +kernel
theorem d_Wh_divideByLimb_51 : decode b_Wh_divideByLimb 51 = .ok (.iastore, 1) := by decide +kernel
theorem d_Wh_divideByLimb_52 : decode b_Wh_divideByLimb 52 = .ok (.lload 6, 2) := by decide +kernel
theorem d_Wh_divideByLimb_54 : decode b_Wh_divideByLimb 54 = .ok (.lload 8, 2) := by decide +kernel
theorem d_Wh_divideByLimb_56 : decode b_Wh_divideByLimb 56 = .ok (.lload_n 1, 1) := by decide +kernel
theorem d_Wh_divideByLimb_57 : decode b_Wh_divideByLimb 57 = .ok (.lmul, 1) := by decide +kernel
theorem d_Wh_divideByLimb_58 : decode b_Wh_divideByLimb 58 = .ok (.lsub, 1) := by decide +kernel
theorem d_Wh_divideByLimb_59 : decode b_Wh_divideByLimb 59 = .ok (.lstore_n 3, 1) := by decide +kernel
theorem d_Wh_divideByLimb_60 : decode b_Wh_divideByLimb 60 = .ok (.iinc 5 (-1), 3) := by decide +kernel
theorem d_Wh_divideByLimb_63 : decode b_Wh_divideByLimb 63 = .ok (.goto (-53), 3) := by decide +kernel
theorem d_Wh_divideByLimb_66 : decode b_Wh_divideByLimb 66 = .ok (.aload_n 0, 1) := by decide +kernel
theorem d_Wh_divideByLimb_67 : decode b_Wh_divideByLimb 67 = .ok (.invokevirtual 57, 3) := by decide +kernel
theorem d_Wh_divideByLimb_70 : decode b_Wh_divideByLimb 70 = .ok (.lload_n 3, 1) := by decide +kernel
theorem d_Wh_divideByLimb_71 : decode b_Wh_divideByLimb 71 = .ok (.lreturn, 1) := by decide +kernel
theorem d_Wh_quotientOf_0 : decode b_Wh_quotientOf 0 = .ok (.lload_n 2, 1) := by decide +kernel
theorem d_Wh_quotientOf_1 : decode b_Wh_quotientOf 1 = .ok (.lconst 0, 1) := by decide +kernel
theorem d_Wh_quotientOf_2 : decode b_Wh_quotientOf 2 = .ok (.lcmp, 1) := by decide +kernel
theorem d_Wh_quotientOf_3 : decode b_Wh_quotientOf 3 = .ok (.ifCond .gt 5, 3) := by decide +kernel
theorem d_Wh_quotientOf_6 : decode b_Wh_quotientOf 6 = .ok (.lconst 0, 1) := by decide +kernel
theorem d_Wh_quotientOf_7 : decode b_Wh_quotientOf 7 = .ok (.lreturn, 1) := by decide +kernel
theorem d_Wh_quotientOf_8 : decode b_Wh_quotientOf 8 = .ok (.lload_n 0, 1) := by decide +kernel
theorem d_Wh_quotientOf_9 : decode b_Wh_quotientOf 9 = .ok (.lconst 0, 1) := by decide +kernel
theorem d_Wh_quotientOf_10 : decode b_Wh_quotientOf 10 = .ok (.lcmp, 1) := by decide +kernel
theorem d_Wh_quotientOf_11 : decode b_Wh_quotientOf 11 = .ok (.ifCond .lt 7, 3) := by decide +kernel
theorem d_Wh_quotientOf_14 : decode b_Wh_quotientOf 14 = .ok (.lload_n 0, 1) := by decide +kernel
theorem d_Wh_quotientOf_15 : decode b_Wh_quotientOf 15 = .ok (.lload_n 2, 1) := by decide +kernel
theorem d_Wh_quotientOf_16 : decode b_Wh_quotientOf 16 = .ok (.ldiv, 1) := by decide +kernel
theorem d_Wh_quotientOf_17 : decode b_Wh_quotientOf 17 = .ok (.lreturn, 1) := by decide +kernel
theorem d_Wh_quotientOf_18 : decode b_Wh_quotientOf 18 = .ok (.lload_n 0, 1) := by decide +kernel
theorem d_Wh_quotientOf_19 : decode b_Wh_quotientOf 19 = .ok (.iconst 1, 1) := by decide +kernel
theorem d_Wh_quotientOf_20 : decode b_Wh_quotientOf 20 = .ok (.lushr, 1) := by decide +kernel
theorem d_Wh_quotientOf_21 : decode b_Wh_quotientOf 21 = .ok (.lload_n 2, 1) := by decide +kernel
theorem d_Wh_quotientOf_22 : decode b_Wh_quotientOf 22 = .ok (.ldiv, 1) := by decide +kernel
theorem d_Wh_quotientOf_23 : decode b_Wh_quotientOf 23 = .ok (.iconst 1, 1) := by decide +kernel
theorem d_Wh_quotientOf_24 : decode b_Wh_quotientOf 24 = .ok (.lshl, 1) := by decide +kernel
theorem d_Wh_quotientOf_25 : decode b_Wh_quotientOf 25 = .ok (.lstore 4, 2) := by decide +kernel
theorem d_Wh_quotientOf_27 : decode b_Wh_quotientOf 27 = .ok (.lload_n 0, 1) := by decide +kernel
theorem d_Wh_quotientOf_28 : decode b_Wh_quotientOf 28 = .ok (.lload 4, 2) := by decide +kernel
theorem d_Wh_quotientOf_30 : decode b_Wh_quotientOf 30 = .ok (.lload_n 2, 1) := by decide +kernel
theorem d_Wh_quotientOf_31 : decode b_Wh_quotientOf 31 = .ok (.lmul, 1) := by decide +kernel
theorem d_Wh_quotientOf_32 : decode b_Wh_quotientOf 32 = .ok (.lsub, 1) := by decide +kernel
theorem d_Wh_quotientOf_33 : decode b_Wh_quotientOf 33 = .ok (.lload_n 2, 1) := by decide +kernel
theorem d_Wh_quotientOf_34 : decode b_Wh_quotientOf 34 = .ok (.lcmp, 1) := by decide +kernel
theorem d_Wh_quotientOf_35 : decode b_Wh_quotientOf 35 = .ok (.ifCond .lt 10, 3) := by decide +kernel
theorem d_Wh_quotientOf_38 : decode b_Wh_quotientOf 38 = .ok (.lload 4, 2) := by decide +kernel
theorem d_Wh_quotientOf_40 : decode b_Wh_quotientOf 40 = .ok (.lconst 1, 1) := by decide +kernel
theorem d_Wh_quotientOf_41 : decode b_Wh_quotientOf 41 = .ok (.ladd, 1) := by decide +kernel
theorem d_Wh_quotientOf_42 : decode b_Wh_quotientOf 42 = .ok (.goto 5, 3) := by decide +kernel
theorem d_Wh_quotientOf_45 : decode b_Wh_quotientOf 45 = .ok (.lload 4, 2) := by decide +kernel
theorem d_Wh_quotientOf_47 : decode b_Wh_quotientOf 47 = .ok (.lreturn, 1) := by decide +kernel
theorem d_Wh_shiftUp_0 : decode b_Wh_shiftUp 0 = .ok (.iload_n 1, 1) := by decide +kernel
theorem d_Wh_shiftUp_1 : decode b_Wh_shiftUp 1 = .ok (.ifCond .le 10, 3) := by decide +kernel
theorem d_Wh_shiftUp_4 : decode b_Wh_shiftUp 4 = .ok (.aload_n 0, 1) := by decide +kernel
theorem d_Wh_shiftUp_5 : decode b_Wh_shiftUp 5 = .ok (.getfield 28, 3) := by decide +kernel
theorem d_Wh_shiftUp_8 : decode b_Wh_shiftUp 8 = .ok (.ifCond .ne 4, 3) := by decide +kernel
theorem d_Wh_shiftUp_11 : decode b_Wh_shiftUp 11 = .ok (.return_, 1) := by decide +kernel
theorem d_Wh_shiftUp_12 : decode b_Wh_shiftUp 12 = .ok (.iload_n 1, 1) := by decide +kernel
theorem d_Wh_shiftUp_13 : decode b_Wh_shiftUp 13 = .ok (.iconst 5, 1) := by decide +kernel
theorem d_Wh_shiftUp_14 : decode b_Wh_shiftUp 14 = .ok (.iushr, 1) := by decide +kernel
theorem d_Wh_shiftUp_15 : decode b_Wh_shiftUp 15 = .ok (.istore_n 2, 1) := by decide +kernel
theorem d_Wh_shiftUp_16 : decode b_Wh_shiftUp 16 = .ok (.iload_n 1, 1) := by decide +kernel
theorem d_Wh_shiftUp_17 : decode b_Wh_shiftUp 17 = .ok (.bipush 31, 2) := by decide +kernel
theorem d_Wh_shiftUp_19 : decode b_Wh_shiftUp 19 = .ok (.iand, 1) := by decide +kernel
theorem d_Wh_shiftUp_20 : decode b_Wh_shiftUp 20 = .ok (.istore_n 3, 1) := by decide +kernel
theorem d_Wh_shiftUp_21 : decode b_Wh_shiftUp 21 = .ok (.aload_n 0, 1) := by decide +kernel
theorem d_Wh_shiftUp_22 : decode b_Wh_shiftUp 22 = .ok (.aload_n 0, 1) := by decide +kernel
theorem d_Wh_shiftUp_23 : decode b_Wh_shiftUp 23 = .ok (.getfield 28, 3) := by decide +kernel
theorem d_Wh_shiftUp_26 : decode b_Wh_shiftUp 26 = .ok (.iload_n 2, 1) := by decide +kernel
theorem d_Wh_shiftUp_27 : decode b_Wh_shiftUp 27 = .ok (.iadd, 1) := by decide +kernel
theorem d_Wh_shiftUp_28 : decode b_Wh_shiftUp 28 = .ok (.iconst 1, 1) := by decide +kernel
theorem d_Wh_shiftUp_29 : decode b_Wh_shiftUp 29 = .ok (.iadd, 1) := by decide +kernel
theorem d_Wh_shiftUp_30 : decode b_Wh_shiftUp 30 = .ok (.invokevirtual 32, 3) := by decide +kernel
theorem d_Wh_shiftUp_33 : decode b_Wh_shiftUp 33 = .ok (.aload_n 0, 1) := by decide +kernel
theorem d_Wh_shiftUp_34 : decode b_Wh_shiftUp 34 = .ok (.getfield 28, 3) := by decide +kernel
theorem d_Wh_shiftUp_37 : decode b_Wh_shiftUp 37 = .ok (.istore 4, 2) := by decide +kernel
theorem d_Wh_shiftUp_39 : decode b_Wh_shiftUp 39 = .ok (.iload 4, 2) := by decide +kernel
theorem d_Wh_shiftUp_41 : decode b_Wh_shiftUp 41 = .ok (.ifCond .lt 42, 3) := by decide +kernel
theorem d_Wh_shiftUp_44 : decode b_Wh_shiftUp 44 = .ok (.aload_n 0, 1) := by decide +kernel
theorem d_Wh_shiftUp_45 : decode b_Wh_shiftUp 45 = .ok (.getfield 15, 3) := by decide +kernel
theorem d_Wh_shiftUp_48 : decode b_Wh_shiftUp 48 = .ok (.iload 4, 2) := by decide +kernel
theorem d_Wh_shiftUp_50 : decode b_Wh_shiftUp 50 = .ok (.iload_n 2, 1) := by decide +kernel
theorem d_Wh_shiftUp_51 : decode b_Wh_shiftUp 51 = .ok (.iadd, 1) := by decide +kernel
theorem d_Wh_shiftUp_52 : decode b_Wh_shiftUp 52 = .ok (.aload_n 0, 1) := by decide +kernel
theorem d_Wh_shiftUp_53 : decode b_Wh_shiftUp 53 = .ok (.iload 4, 2) := by decide +kernel
theorem d_Wh_shiftUp_55 : decode b_Wh_shiftUp 55 = .ok (.invokevirtual 53, 3) := by decide +kernel
theorem d_Wh_shiftUp_58 : decode b_Wh_shiftUp 58 = .ok (.bipush 32, 2) := by decide +kernel
theorem d_Wh_shiftUp_60 : decode b_Wh_shiftUp 60 = .ok (.lshl, 1) := by decide +kernel
theorem d_Wh_shiftUp_61 : decode b_Wh_shiftUp 61 = .ok (.aload_n 0, 1) := by decide +kernel
theorem d_Wh_shiftUp_62 : decode b_Wh_shiftUp 62 = .ok (.iload 4, 2) := by decide +kernel
theorem d_Wh_shiftUp_64 : decode b_Wh_shiftUp 64 = .ok (.iconst 1, 1) := by decide +kernel
theorem d_Wh_shiftUp_65 : decode b_Wh_shiftUp 65 = .ok (.isub, 1) := by decide +kernel
theorem d_Wh_shiftUp_66 : decode b_Wh_shiftUp 66 = .ok (.invokevirtual 53, 3) := by decide +kernel
theorem d_Wh_shiftUp_69 : decode b_Wh_shiftUp 69 = .ok (.lor, 1) := by decide +kernel
theorem d_Wh_shiftUp_70 : decode b_Wh_shiftUp 70 = .ok (.iload_n 3, 1) := by decide +kernel
theorem d_Wh_shiftUp_71 : decode b_Wh_shiftUp 71 = .ok (.lshl, 1) := by decide +kernel
theorem d_Wh_shiftUp_72 : decode b_Wh_shiftUp 72 = .ok (.bipush 32, 2) := by decide +kernel
theorem d_Wh_shiftUp_74 : decode b_Wh_shiftUp 74 = .ok (.lushr, 1) := by decide +kernel
theorem d_Wh_shiftUp_75 : decode b_Wh_shiftUp 75 = .ok (.l2i, 1) := by decide +kernel
theorem d_Wh_shiftUp_76 : decode b_Wh_shiftUp 76 = .ok (.iastore, 1) := by decide +kernel
theorem d_Wh_shiftUp_77 : decode b_Wh_shiftUp 77 = .ok (.iinc 4 (-1), 3) := by decide +kernel
theorem d_Wh_shiftUp_80 : decode b_Wh_shiftUp 80 = .ok (.goto (-41), 3) := by decide +kernel
theorem d_Wh_shiftUp_83 : decode b_Wh_shiftUp 83 = .ok (.aload_n 0, 1) := by decide +kernel
theorem d_Wh_shiftUp_84 : decode b_Wh_shiftUp 84 = .ok (.getfield 15, 3) := by decide +kernel
theorem d_Wh_shiftUp_87 : decode b_Wh_shiftUp 87 = .ok (.iconst 0, 1) := by decide +kernel
theorem d_Wh_shiftUp_88 : decode b_Wh_shiftUp 88 = .ok (.iload_n 2, 1) := by decide +kernel
theorem d_Wh_shiftUp_89 : decode b_Wh_shiftUp 89 = .ok (.iconst 0, 1) := by decide +kernel
theorem d_Wh_shiftUp_90 : decode b_Wh_shiftUp 90 = .ok (.invokestatic 36, 3) := by decide +kernel
theorem d_Wh_shiftUp_93 : decode b_Wh_shiftUp 93 = .ok (.aload_n 0, 1) := by decide +kernel
theorem d_Wh_shiftUp_94 : decode b_Wh_shiftUp 94 = .ok (.dup, 1) := by decide +kernel
theorem d_Wh_shiftUp_95 : decode b_Wh_shiftUp 95 = .ok (.getfield 28, 3) := by decide +kernel
theorem d_Wh_shiftUp_98 : decode b_Wh_shiftUp 98 = .ok (.iload_n 2, 1) := by decide +kernel
theorem d_Wh_shiftUp_99 : decode b_Wh_shiftUp 99 = .ok (.iconst 1, 1) := by decide +kernel
theorem d_Wh_shiftUp_100 : decode b_Wh_shiftUp 100 = .ok (.iadd, 1) := by decide +kernel
theorem d_Wh_shiftUp_101 : decode b_Wh_shiftUp 101 = .ok (.iadd, 1) := by decide +kernel
theorem d_Wh_shiftUp_102 : decode b_Wh_shiftUp 102 = .ok (.putfield 28, 3) := by decide +kernel
theorem d_Wh_shiftUp_105 : decode b_Wh_shiftUp 105 = .ok (.aload_n 0, 1) := by decide +kernel
theorem d_Wh_shiftUp_106 : decode b_Wh_shiftUp 106 = .ok (.invokevirtual 57, 3) := by decide +kernel
theorem d_Wh_shiftUp_109 : decode b_Wh_shiftUp 109 = .ok (.return_, 1) := by decide +kernel
theorem d_Wh_guessLimb_0 : decode b_Wh_guessLimb 0 = .ok (.iload_n 2, 1) := by decide +kernel
theorem d_Wh_guessLimb_1 : decode b_Wh_guessLimb 1 = .ok (.aload_n 1, 1) := by decide +kernel
theorem d_Wh_guessLimb_2 : decode b_Wh_guessLimb 2 = .ok (.getfield 28, 3) := by decide +kernel
theorem d_Wh_guessLimb_5 : decode b_Wh_guessLimb 5 = .ok (.iadd, 1) := by decide +kernel
theorem d_Wh_guessLimb_6 : decode b_Wh_guessLimb 6 = .ok (.istore_n 3, 1) := by decide +kernel
theorem d_Wh_guessLimb_7 : decode b_Wh_guessLimb 7 = .ok (.aload_n 1, 1) := by decide +kernel
theorem d_Wh_guessLimb_8 : decode b_Wh_guessLimb 8 = .ok (.getfield 28, 3) := by decide +kernel
theorem d_Wh_guessLimb_11 : decode b_Wh_guessLimb 11 = .ok (.iconst 2, 1) := by decide +kernel
theorem d_Wh_guessLimb_12 : decode b_Wh_guessLimb 12 = .ok (.if_icmp .lt 12, 3) := by decide +kernel
theorem d_Wh_guessLimb_15 : decode b_Wh_guessLimb 15 = .ok (.iload_n 3, 1) := by decide +kernel
theorem d_Wh_guessLimb_16 : decode b_Wh_guessLimb 16 = .ok (.aload_n 0, 1) := by decide +kernel
theorem d_Wh_guessLimb_17 : decode b_Wh_guessLimb 17 = .ok (.getfield 15, 3) := by decide +kernel
theorem d_Wh_guessLimb_20 : decode b_Wh_guessLimb 20 = .ok (.arraylength, 1) := by decide +kernel
theorem d_Wh_guessLimb_21 : decode b_Wh_guessLimb 21 = .ok (.if_icmp .lt 5, 3) := by decide +kernel
theorem d_Wh_guessLimb_24 : decode b_Wh_guessLimb 24 = .ok (.lconst 0, 1) := by decide +kernel
theorem d_Wh_guessLimb_25 : decode b_Wh_guessLimb 25 = .ok (.lreturn, 1) := by decide +kernel
theorem d_Wh_guessLimb_26 : decode b_Wh_guessLimb 26 = .ok (.aload_n 1, 1) := by decide +kernel
theorem d_Wh_guessLimb_27 : decode b_Wh_guessLimb 27 = .ok (.getfield 15, 3) := by decide +kernel
theorem d_Wh_guessLimb_30 : decode b_Wh_guessLimb 30 = .ok (.aload_n 1, 1) := by decide +kernel
theorem d_Wh_guessLimb_31 : decode b_Wh_guessLimb 31 = .ok (.getfield 28, 3) := by decide +kernel
theorem d_Wh_guessLimb_34 : decode b_Wh_guessLimb 34 = .ok (.iconst 1, 1) := by decide +kernel
theorem d_Wh_guessLimb_35 : decode b_Wh_guessLimb 35 = .ok (.isub, 1) := by decide +kernel
theorem d_Wh_guessLimb_36 : decode b_Wh_guessLimb 36 = .ok (.iaload, 1) := by decide +kernel
theorem d_Wh_guessLimb_37 : decode b_Wh_guessLimb 37 = .ok (.i2l, 1) := by decide +kernel
theorem d_Wh_guessLimb_38 : decode b_Wh_guessLimb 38 = .ok (.ldc2_w 42, 3) := by decide +kernel
theorem d_Wh_guessLimb_41 : decode b_Wh_guessLimb 41 = .ok (.land, 1) := by decide +kernel
theorem d_Wh_guessLimb_42 : decode b_Wh_guessLimb 42 = .ok (.lstore 4, 2) := by decide +kernel
theorem d_Wh_guessLimb_44 : decode b_Wh_guessLimb 44 = .ok (.aload_n 1, 1) := by decide +kernel
theorem d_Wh_guessLimb_45 : decode b_Wh_guessLimb 45 = .ok (.getfield 15, 3) := by decide +kernel
theorem d_Wh_guessLimb_48 : decode b_Wh_guessLimb 48 = .ok (.aload_n 1, 1) := by decide +kernel
theorem d_Wh_guessLimb_49 : decode b_Wh_guessLimb 49 = .ok (.getfield 28, 3) := by decide +kernel
theorem d_Wh_guessLimb_52 : decode b_Wh_guessLimb 52 = .ok (.iconst 2, 1) := by decide +kernel
theorem d_Wh_guessLimb_53 : decode b_Wh_guessLimb 53 = .ok (.isub, 1) := by decide +kernel
theorem d_Wh_guessLimb_54 : decode b_Wh_guessLimb 54 = .ok (.iaload, 1) := by decide +kernel
theorem d_Wh_guessLimb_55 : decode b_Wh_guessLimb 55 = .ok (.i2l, 1) := by decide +kernel
theorem d_Wh_guessLimb_56 : decode b_Wh_guessLimb 56 = .ok (.ldc2_w 42, 3) := by decide +kernel
theorem d_Wh_guessLimb_59 : decode b_Wh_guessLimb 59 = .ok (.land, 1) := by decide +kernel
theorem d_Wh_guessLimb_60 : decode b_Wh_guessLimb 60 = .ok (.lstore 6, 2) := by decide +kernel
theorem d_Wh_guessLimb_62 : decode b_Wh_guessLimb 62 = .ok (.aload_n 0, 1) := by decide +kernel
theorem d_Wh_guessLimb_63 : decode b_Wh_guessLimb 63 = .ok (.getfield 15, 3) := by decide +kernel
theorem d_Wh_guessLimb_66 : decode b_Wh_guessLimb 66 = .ok (.iload_n 3, 1) := by decide +kernel
theorem d_Wh_guessLimb_67 : decode b_Wh_guessLimb 67 = .ok (.iaload, 1) := by decide +kernel
theorem d_Wh_guessLimb_68 : decode b_Wh_guessLimb 68 = .ok (.i2l, 1) := by decide +kernel
theorem d_Wh_guessLimb_69 : decode b_Wh_guessLimb 69 = .ok (.ldc2_w 42, 3) := by decide +kernel
theorem d_Wh_guessLimb_72 : decode b_Wh_guessLimb 72 = .ok (.land, 1) := by decide +kernel
theorem d_Wh_guessLimb_73 : decode b_Wh_guessLimb 73 = .ok (.lstore 8, 2) := by decide +kernel
theorem d_Wh_guessLimb_75 : decode b_Wh_guessLimb 75 = .ok (.lload 8, 2) := by decide +kernel
theorem d_Wh_guessLimb_77 : decode b_Wh_guessLimb 77 = .ok (.bipush 32, 2) := by decide +kernel
theorem d_Wh_guessLimb_79 : decode b_Wh_guessLimb 79 = .ok (.lshl, 1) := by decide +kernel
theorem d_Wh_guessLimb_80 : decode b_Wh_guessLimb 80 = .ok (.aload_n 0, 1) := by decide +kernel
theorem d_Wh_guessLimb_81 : decode b_Wh_guessLimb 81 = .ok (.getfield 15, 3) := by decide +kernel
theorem d_Wh_guessLimb_84 : decode b_Wh_guessLimb 84 = .ok (.iload_n 3, 1) := by decide +kernel
theorem d_Wh_guessLimb_85 : decode b_Wh_guessLimb 85 = .ok (.iconst 1, 1) := by decide +kernel
theorem d_Wh_guessLimb_86 : decode b_Wh_guessLimb 86 = .ok (.isub, 1) := by decide +kernel
theorem d_Wh_guessLimb_87 : decode b_Wh_guessLimb 87 = .ok (.iaload, 1) := by decide +kernel
theorem d_Wh_guessLimb_88 : decode b_Wh_guessLimb 88 = .ok (.i2l, 1) := by decide +kernel
theorem d_Wh_guessLimb_89 : decode b_Wh_guessLimb 89 = .ok (.ldc2_w 42, 3) := by decide +kernel
theorem d_Wh_guessLimb_92 : decode b_Wh_guessLimb 92 = .ok (.land, 1) := by decide +kernel
theorem d_Wh_guessLimb_93 : decode b_Wh_guessLimb 93 = .ok (.lor, 1) := by decide +kernel
theorem d_Wh_guessLimb_94 : decode b_Wh_guessLimb 94 = .ok (.lstore 10, 2) := by decide +kernel
theorem d_Wh_guessLimb_96 : decode b_Wh_guessLimb 96 = .ok (.aload_n 0, 1) := by decide +kernel
theorem d_Wh_guessLimb_97 : decode b_Wh_guessLimb 97 = .ok (.getfield 15, 3) := by decide +kernel
theorem d_Wh_guessLimb_100 : decode b_Wh_guessLimb 100 = .ok (.iload_n 3, 1) := by decide +kernel
theorem d_Wh_guessLimb_101 : decode b_Wh_guessLimb 101 = .ok (.iconst 2, 1) := by decide +kernel
theorem d_Wh_guessLimb_102 : decode b_Wh_guessLimb 102 = .ok (.isub, 1) := by decide +kernel
theorem d_Wh_guessLimb_103 : decode b_Wh_guessLimb 103 = .ok (.iaload, 1) := by decide +kernel
theorem d_Wh_guessLimb_104 : decode b_Wh_guessLimb 104 = .ok (.i2l, 1) := by decide +kernel
theorem d_Wh_guessLimb_105 : decode b_Wh_guessLimb 105 = .ok (.ldc2_w 42, 3) := by decide +kernel
theorem d_Wh_guessLimb_108 : decode b_Wh_guessLimb 108 = .ok (.land, 1) := by decide +kernel
theorem d_Wh_guessLimb_109 : decode b_Wh_guessLimb 109 = .ok (.lstore 12, 2) := by decide +kernel
theorem d_Wh_guessLimb_111 : decode b_Wh_guessLimb 111 = .ok (.lload 8, 2) := by decide +kernel
theorem d_Wh_guessLimb_113 : decode b_Wh_guessLimb 113 = .ok (.lload 4, 2) := by decide +kernel
theorem d_Wh_guessLimb_115 : decode b_Wh_guessLimb 115 = .ok (.lcmp, 1) := by decide +kernel
theorem d_Wh_guessLimb_116 : decode b_Wh_guessLimb 116 = .ok (.ifCond .lt 9, 3) := by decide +kernel
theorem d_Wh_guessLimb_119 : decode b_Wh_guessLimb 119 = .ok (.ldc2_w 42, 3) := by decide +kernel
theorem d_Wh_guessLimb_122 : decode b_Wh_guessLimb 122 = .ok (.goto 10, 3) := by decide +kernel
theorem d_Wh_guessLimb_125 : decode b_Wh_guessLimb 125 = .ok (.lload 10, 2) := by decide +kernel
theorem d_Wh_guessLimb_127 : decode b_Wh_guessLimb 127 = .ok (.lload 4, 2) := by decide +kernel
theorem d_Wh_guessLimb_129 : decode b_Wh_guessLimb 129 = .ok (.invokestatic 70, 3) := by decide +kernel
theorem d_Wh_guessLimb_132 : decode b_Wh_guessLimb 132 = .ok (.lstore 14, 2) := by decide +kernel
theorem d_Wh_guessLimb_134 : decode b_Wh_guessLimb 134 = .ok (.lload 10, 2) := by decide +kernel
theorem d_Wh_guessLimb_136 : decode b_Wh_guessLimb 136 = .ok (.lload 14, 2) := by decide +kernel
theorem d_Wh_guessLimb_138 : decode b_Wh_guessLimb 138 = .ok (.lload 4, 2) := by decide +kernel
theorem d_Wh_guessLimb_140 : decode b_Wh_guessLimb 140 = .ok (.lmul, 1) := by decide +kernel
theorem d_Wh_guessLimb_141 : decode b_Wh_guessLimb 141 = .ok (.lsub, 1) := by decide +kernel
theorem d_Wh_guessLimb_142 : decode b_Wh_guessLimb 142 = .ok (.lstore 16, 2) := by decide +kernel
theorem d_Wh_guessLimb_144 : decode b_Wh_guessLimb 144 = .ok (.iconst 0, 1) := by decide +kernel
theorem d_Wh_guessLimb_145 : decode b_Wh_guessLimb 145 = .ok (.istore 18, 2) := by decide +kernel
theorem d_Wh_guessLimb_147 : decode b_Wh_guessLimb 147 = .ok (.iload 18, 2) := by decide +kernel
theorem d_Wh_guessLimb_149 : decode b_Wh_guessLimb 149 = .ok (.iconst 2, 1) := by decide +kernel
theorem d_Wh_guessLimb_150 : decode b_Wh_guessLimb 150 = .ok (.if_icmp .ge 50, 3) := by decide +kernel
theorem d_Wh_guessLimb_153 : decode b_Wh_guessLimb 153 = .ok (.lload 16, 2) := by decide +kernel
theorem d_Wh_guessLimb_155 : decode b_Wh_guessLimb 155 = .ok (.ldc2_w 42, 3) := by decide +kernel
theorem d_Wh_guessLimb_158 : decode b_Wh_guessLimb 158 = .ok (.lcmp, 1) := by decide +kernel
theorem d_Wh_guessLimb_159 : decode b_Wh_guessLimb 159 = .ok (.ifCond .gt 41, 3) := by decide +kernel
theorem d_Wh_guessLimb_162 : decode b_Wh_guessLimb 162 = .ok (.lload 14, 2) := by decide +kernel
theorem d_Wh_guessLimb_164 : decode b_Wh_guessLimb 164 = .ok (.lload 6, 2) := by decide +kernel
theorem d_Wh_guessLimb_166 : decode b_Wh_guessLimb 166 = .ok (.lmul, 1) := by decide +kernel
theorem d_Wh_guessLimb_167 : decode b_Wh_guessLimb 167 = .ok (.lload 16, 2) := by decide +kernel
theorem d_Wh_guessLimb_169 : decode b_Wh_guessLimb 169 = .ok (.bipush 32, 2) := by decide +kernel
theorem d_Wh_guessLimb_171 : decode b_Wh_guessLimb 171 = .ok (.lshl, 1) := by decide +kernel
theorem d_Wh_guessLimb_172 : decode b_Wh_guessLimb 172 = .ok (.lload 12, 2) := by decide +kernel
theorem d_Wh_guessLimb_174 : decode b_Wh_guessLimb 174 = .ok (.lor, 1) := by decide +kernel
theorem d_Wh_guessLimb_175 : decode b_Wh_guessLimb 175 = .ok (.invokestatic 108, 3) := by decide +kernel
theorem d_Wh_guessLimb_178 : decode b_Wh_guessLimb 178 = .ok (.ifCond .le 22, 3) := by decide +kernel
theorem d_Wh_guessLimb_181 : decode b_Wh_guessLimb 181 = .ok (.lload 14, 2) := by decide +kernel
theorem d_Wh_guessLimb_183 : decode b_Wh_guessLimb 183 = .ok (.lconst 1, 1) := by decide +kernel
theorem d_Wh_guessLimb_184 : decode b_Wh_guessLimb 184 = .ok (.lsub, 1) := by decide +kernel
theorem d_Wh_guessLimb_185 : decode b_Wh_guessLimb 185 = .ok (.lstore 14, 2) := by decide +kernel
theorem d_Wh_guessLimb_187 : decode b_Wh_guessLimb 187 = .ok (.lload 16, 2) := by decide +kernel
theorem d_Wh_guessLimb_189 : decode b_Wh_guessLimb 189 = .ok (.lload 4, 2) := by decide +kernel
theorem d_Wh_guessLimb_191 : decode b_Wh_guessLimb 191 = .ok (.ladd, 1) := by decide +kernel
theorem d_Wh_guessLimb_192 : decode b_Wh_guessLimb 192 = .ok (.lstore 16, 2) := by decide +kernel
theorem d_Wh_guessLimb_194 : decode b_Wh_guessLimb 194 = .ok (.iinc 18 1, 3) := by decide +kernel
theorem d_Wh_guessLimb_197 : decode b_Wh_guessLimb 197 = .ok (.goto (-50), 3) := by decide +kernel
theorem d_Wh_guessLimb_200 : decode b_Wh_guessLimb 200 = .ok (.lload 14, 2) := by decide +kernel
theorem d_Wh_guessLimb_202 : decode b_Wh_guessLimb 202 = .ok (.lreturn, 1) := by decide +kernel
theorem d_Wh_takeMultiple_0 : decode b_Wh_takeMultiple 0 = .ok (.iload 4, 2) := by decide +kernel
theorem d_Wh_takeMultiple_2 : decode b_Wh_takeMultiple 2 = .ok (.aload_n 1, 1) := by decide +kernel
theorem d_Wh_takeMultiple_3 : decode b_Wh_takeMultiple 3 = .ok (.getfield 28, 3) := by decide +kernel
theorem d_Wh_takeMultiple_6 : decode b_Wh_takeMultiple 6 = .ok (.iadd, 1) := by decide +kernel
theorem d_Wh_takeMultiple_7 : decode b_Wh_takeMultiple 7 = .ok (.istore 5, 2) := by decide +kernel
theorem d_Wh_takeMultiple_9 : decode b_Wh_takeMultiple 9 = .ok (.aload_n 0, 1) := by decide +kernel
theorem d_Wh_takeMultiple_10 : decode b_Wh_takeMultiple 10 = .ok (.iload 5, 2) := by decide +kernel
theorem d_Wh_takeMultiple_12 : decode b_Wh_takeMultiple 12 = .ok (.iconst 1, 1) := by decide +kernel
theorem d_Wh_takeMultiple_13 : decode b_Wh_takeMultiple 13 = .ok (.iadd, 1) := by decide +kernel
theorem d_Wh_takeMultiple_14 : decode b_Wh_takeMultiple 14 = .ok (.invokevirtual 32, 3) := by decide +kernel
theorem d_Wh_takeMultiple_17 : decode b_Wh_takeMultiple 17 = .ok (.lconst 0, 1) := by decide +kernel
theorem d_Wh_takeMultiple_18 : decode b_Wh_takeMultiple 18 = .ok (.lstore 6, 2) := by decide +kernel
theorem d_Wh_takeMultiple_20 : decode b_Wh_takeMultiple 20 = .ok (.iconst 0, 1) := by decide +kernel
theorem d_Wh_takeMultiple_21 : decode b_Wh_takeMultiple 21 = .ok (.istore 8, 2) := by decide +kernel
theorem d_Wh_takeMultiple_23 : decode b_Wh_takeMultiple 23 = .ok (.iload 8, 2) := by decide +kernel
theorem d_Wh_takeMultiple_25 : decode b_Wh_takeMultiple 25 = .ok (.aload_n 1, 1) := by decide +kernel
theorem d_Wh_takeMultiple_26 : decode b_Wh_takeMultiple 26 = .ok (.getfield 28, 3) := by decide +kernel
theorem d_Wh_takeMultiple_29 : decode b_Wh_takeMultiple 29 = .ok (.if_icmp .ge 86, 3) := by decide +kernel
theorem d_Wh_takeMultiple_32 : decode b_Wh_takeMultiple 32 = .ok (.lload_n 2, 1) := by decide +kernel
theorem d_Wh_takeMultiple_33 : decode b_Wh_takeMultiple 33 = .ok (.aload_n 1, 1) := by decide +kernel
theorem d_Wh_takeMultiple_34 : decode b_Wh_takeMultiple 34 = .ok (.getfield 15, 3) := by decide +kernel
theorem d_Wh_takeMultiple_37 : decode b_Wh_takeMultiple 37 = .ok (.iload 8, 2) := by decide +kernel
theorem d_Wh_takeMultiple_39 : decode b_Wh_takeMultiple 39 = .ok (.iaload, 1) := by decide +kernel
theorem d_Wh_takeMultiple_40 : decode b_Wh_takeMultiple 40 = .ok (.i2l, 1) := by decide +kernel
theorem d_Wh_takeMultiple_41 : decode b_Wh_takeMultiple 41 = .ok (.ldc2_w 42, 3) := by decide +kernel
theorem d_Wh_takeMultiple_44 : decode b_Wh_takeMultiple 44 = .ok (.land, 1) := by decide +kernel
theorem d_Wh_takeMultiple_45 : decode b_Wh_takeMultiple 45 = .ok (.lmul, 1) := by decide +kernel
theorem d_Wh_takeMultiple_46 : decode b_Wh_takeMultiple 46 = .ok (.lload 6, 2) := by decide +kernel
theorem d_Wh_takeMultiple_48 : decode b_Wh_takeMultiple 48 = .ok (.ladd, 1) := by decide +kernel
theorem d_Wh_takeMultiple_49 : decode b_Wh_takeMultiple 49 = .ok (.lstore 9, 2) := by decide +kernel
theorem d_Wh_takeMultiple_51 : decode b_Wh_takeMultiple 51 = .ok (.aload_n 0, 1) := by decide +kernel
theorem d_Wh_takeMultiple_52 : decode b_Wh_takeMultiple 52 = .ok (.getfield 15, 3) := by decide +kernel
theorem d_Wh_takeMultiple_55 : decode b_Wh_takeMultiple 55 = .ok (.iload 4, 2) := by decide +kernel
theorem d_Wh_takeMultiple_57 : decode b_Wh_takeMultiple 57 = .ok (.iload 8, 2) := by decide +kernel
theorem d_Wh_takeMultiple_59 : decode b_Wh_takeMultiple 59 = .ok (.iadd, 1) := by decide +kernel
theorem d_Wh_takeMultiple_60 : decode b_Wh_takeMultiple 60 = .ok (.iaload, 1) := by decide +kernel
theorem d_Wh_takeMultiple_61 : decode b_Wh_takeMultiple 61 = .ok (.i2l, 1) := by decide +kernel
theorem d_Wh_takeMultiple_62 : decode b_Wh_takeMultiple 62 = .ok (.ldc2_w 42, 3) := by decide +kernel
theorem d_Wh_takeMultiple_65 : decode b_Wh_takeMultiple 65 = .ok (.land, 1) := by decide +kernel
theorem d_Wh_takeMultiple_66 : decode b_Wh_takeMultiple 66 = .ok (.lload 9, 2) := by decide +kernel
theorem d_Wh_takeMultiple_68 : decode b_Wh_takeMultiple 68 = .ok (.ldc2_w 42, 3) := by decide +kernel
theorem d_Wh_takeMultiple_71 : decode b_Wh_takeMultiple 71 = .ok (.land, 1) := by decide +kernel
theorem d_Wh_takeMultiple_72 : decode b_Wh_takeMultiple 72 = .ok (.lsub, 1) := by decide +kernel
theorem d_Wh_takeMultiple_73 : decode b_Wh_takeMultiple 73 = .ok (.lstore 11, 2) := by decide +kernel
theorem d_Wh_takeMultiple_75 : decode b_Wh_takeMultiple 75 = .ok (.aload_n 0, 1) := by decide +kernel
theorem d_Wh_takeMultiple_76 : decode b_Wh_takeMultiple 76 = .ok (.getfield 15, 3) := by decide +kernel
theorem d_Wh_takeMultiple_79 : decode b_Wh_takeMultiple 79 = .ok (.iload 4, 2) := by decide +kernel
theorem d_Wh_takeMultiple_81 : decode b_Wh_takeMultiple 81 = .ok (.iload 8, 2) := by decide +kernel
theorem d_Wh_takeMultiple_83 : decode b_Wh_takeMultiple 83 = .ok (.iadd, 1) := by decide +kernel
theorem d_Wh_takeMultiple_84 : decode b_Wh_takeMultiple 84 = .ok (.lload 11, 2) := by decide +kernel
theorem d_Wh_takeMultiple_86 : decode b_Wh_takeMultiple 86 = .ok (.l2i, 1) := by decide +kernel
theorem d_Wh_takeMultiple_87 : decode b_Wh_takeMultiple 87 = .ok (.iastore, 1) := by decide +kernel
theorem d_Wh_takeMultiple_88 : decode b_Wh_takeMultiple 88 = .ok (.lload 9, 2) := by decide +kernel
theorem d_Wh_takeMultiple_90 : decode b_Wh_takeMultiple 90 = .ok (.bipush 32, 2) := by decide +kernel
theorem d_Wh_takeMultiple_92 : decode b_Wh_takeMultiple 92 = .ok (.lushr, 1) := by decide +kernel
theorem d_Wh_takeMultiple_93 : decode b_Wh_takeMultiple 93 = .ok (.lload 11, 2) := by decide +kernel
theorem d_Wh_takeMultiple_95 : decode b_Wh_takeMultiple 95 = .ok (.lconst 0, 1) := by decide +kernel
theorem d_Wh_takeMultiple_96 : decode b_Wh_takeMultiple 96 = .ok (.lcmp, 1) := by decide +kernel
theorem d_Wh_takeMultiple_97 : decode b_Wh_takeMultiple 97 = .ok (.ifCond .ge 7, 3) := by decide +kernel
theorem d_Wh_takeMultiple_100 : decode b_Wh_takeMultiple 100 = .ok (.iconst 1, 1) := by decide +kernel
theorem d_Wh_takeMultiple_101 : decode b_Wh_takeMultiple 101 = .ok (.goto 4, 3) := by decide +kernel
theorem d_Wh_takeMultiple_104 : decode b_Wh_takeMultiple 104 = .ok (.iconst 0, 1) := by decide +kernel
theorem d_Wh_takeMultiple_105 : decode b_Wh_takeMultiple 105 = .ok (.i2l, 1) := by decide +kernel
theorem d_Wh_takeMultiple_106 : decode b_Wh_takeMultiple 106 = .ok (.ladd, 1) := by decide +kernel
theorem d_Wh_takeMultiple_107 : decode b_Wh_takeMultiple 107 = .ok (.lstore 6, 2) := by decide +kernel
theorem d_Wh_takeMultiple_109 : decode b_Wh_takeMultiple 109 = .ok (.iinc 8 1, 3) := by decide +kernel
theorem d_Wh_takeMultiple_112 : decode b_Wh_takeMultiple 112 = .ok (.goto (-89), 3) := by decide +kernel
theorem d_Wh_takeMultiple_115 : decode b_Wh_takeMultiple 115 = .ok (.aload_n 0, 1) := by decide +kernel
theorem d_Wh_takeMultiple_116 : decode b_Wh_takeMultiple 116 = .ok (.getfield 15, 3) := by decide +kernel
theorem d_Wh_takeMultiple_119 : decode b_Wh_takeMultiple 119 = .ok (.iload 5, 2) := by decide +kernel
theorem d_Wh_takeMultiple_121 : decode b_Wh_takeMultiple 121 = .ok (.iaload, 1) := by decide +kernel
theorem d_Wh_takeMultiple_122 : decode b_Wh_takeMultiple 122 = .ok (.i2l, 1) := by decide +kernel
theorem d_Wh_takeMultiple_123 : decode b_Wh_takeMultiple 123 = .ok (.ldc2_w 42, 3) := by decide +kernel
theorem d_Wh_takeMultiple_126 : decode b_Wh_takeMultiple 126 = .ok (.land, 1) := by decide +kernel
theorem d_Wh_takeMultiple_127 : decode b_Wh_takeMultiple 127 = .ok (.lload 6, 2) := by decide +kernel
theorem d_Wh_takeMultiple_129 : decode b_Wh_takeMultiple 129 = .ok (.lsub, 1) := by decide +kernel
theorem d_Wh_takeMultiple_130 : decode b_Wh_takeMultiple 130 = .ok (.lstore 8, 2) := by decide +kernel
theorem d_Wh_takeMultiple_132 : decode b_Wh_takeMultiple 132 = .ok (.aload_n 0, 1) := by decide +kernel
theorem d_Wh_takeMultiple_133 : decode b_Wh_takeMultiple 133 = .ok (.getfield 15, 3) := by decide +kernel
theorem d_Wh_takeMultiple_136 : decode b_Wh_takeMultiple 136 = .ok (.iload 5, 2) := by decide +kernel
theorem d_Wh_takeMultiple_138 : decode b_Wh_takeMultiple 138 = .ok (.lload 8, 2) := by decide +kernel
theorem d_Wh_takeMultiple_140 : decode b_Wh_takeMultiple 140 = .ok (.l2i, 1) := by decide +kernel
theorem d_Wh_takeMultiple_141 : decode b_Wh_takeMultiple 141 = .ok (.iastore, 1) := by decide +kernel
theorem d_Wh_takeMultiple_142 : decode b_Wh_takeMultiple 142 = .ok (.lload 8, 2) := by decide +kernel
theorem d_Wh_takeMultiple_144 : decode b_Wh_takeMultiple 144 = .ok (.lconst 0, 1) := by decide +kernel
theorem d_Wh_takeMultiple_145 : decode b_Wh_takeMultiple 145 = .ok (.lcmp, 1) := by decide +kernel
theorem d_Wh_takeMultiple_146 : decode b_Wh_takeMultiple 146 = .ok (.ifCond .ge 7, 3) := by decide +kernel
theorem d_Wh_takeMultiple_149 : decode b_Wh_takeMultiple 149 = .ok (.iconst 1, 1) := by decide +kernel
theorem d_Wh_takeMultiple_150 : decode b_Wh_takeMultiple 150 = .ok (.goto 4, 3) := by decide +kernel
theorem d_Wh_takeMultiple_153 : decode b_Wh_takeMultiple 153 = .ok (.iconst 0, 1) := by decide +kernel
theorem d_Wh_takeMultiple_154 : decode b_Wh_takeMultiple 154 = .ok (.ireturn, 1) := by decide +kernel
theorem d_Wh_giveBack_0 : decode b_Wh_giveBack 0 = .ok (.iload_n 2, 1) := by decide +kernel
theorem d_Wh_giveBack_1 : decode b_Wh_giveBack 1 = .ok (.aload_n 1, 1) := by decide +kernel
theorem d_Wh_giveBack_2 : decode b_Wh_giveBack 2 = .ok (.getfield 28, 3) := by decide +kernel
theorem d_Wh_giveBack_5 : decode b_Wh_giveBack 5 = .ok (.iadd, 1) := by decide +kernel
theorem d_Wh_giveBack_6 : decode b_Wh_giveBack 6 = .ok (.istore_n 3, 1) := by decide +kernel
theorem d_Wh_giveBack_7 : decode b_Wh_giveBack 7 = .ok (.aload_n 0, 1) := by decide +kernel
theorem d_Wh_giveBack_8 : decode b_Wh_giveBack 8 = .ok (.iload_n 3, 1) := by decide +kernel
theorem d_Wh_giveBack_9 : decode b_Wh_giveBack 9 = .ok (.iconst 1, 1) := by decide +kernel
theorem d_Wh_giveBack_10 : decode b_Wh_giveBack 10 = .ok (.iadd, 1) := by decide +kernel
theorem d_Wh_giveBack_11 : decode b_Wh_giveBack 11 = .ok (.invokevirtual 32, 3) := by decide +kernel
theorem d_Wh_giveBack_14 : decode b_Wh_giveBack 14 = .ok (.lconst 0, 1) := by decide +kernel
theorem d_Wh_giveBack_15 : decode b_Wh_giveBack 15 = .ok (.lstore 4, 2) := by decide +kernel
theorem d_Wh_giveBack_17 : decode b_Wh_giveBack 17 = .ok (.iconst 0, 1) := by decide +kernel
theorem d_Wh_giveBack_18 : decode b_Wh_giveBack 18 = .ok (.istore 6, 2) := by decide +kernel
theorem d_Wh_giveBack_20 : decode b_Wh_giveBack 20 = .ok (.iload 6, 2) := by decide +kernel
theorem d_Wh_giveBack_22 : decode b_Wh_giveBack 22 = .ok (.aload_n 1, 1) := by decide +kernel
theorem d_Wh_giveBack_23 : decode b_Wh_giveBack 23 = .ok (.getfield 28, 3) := by decide +kernel
theorem d_Wh_giveBack_26 : decode b_Wh_giveBack 26 = .ok (.if_icmp .ge 60, 3) := by decide +kernel
theorem d_Wh_giveBack_29 : decode b_Wh_giveBack 29 = .ok (.lload 4, 2) := by decide +kernel
theorem d_Wh_giveBack_31 : decode b_Wh_giveBack 31 = .ok (.aload_n 0, 1) := by decide +kernel
theorem d_Wh_giveBack_32 : decode b_Wh_giveBack 32 = .ok (.getfield 15, 3) := by decide +kernel
theorem d_Wh_giveBack_35 : decode b_Wh_giveBack 35 = .ok (.iload_n 2, 1) := by decide +kernel
theorem d_Wh_giveBack_36 : decode b_Wh_giveBack 36 = .ok (.iload 6, 2) := by decide +kernel
theorem d_Wh_giveBack_38 : decode b_Wh_giveBack 38 = .ok (.iadd, 1) := by decide +kernel
theorem d_Wh_giveBack_39 : decode b_Wh_giveBack 39 = .ok (.iaload, 1) := by decide +kernel
theorem d_Wh_giveBack_40 : decode b_Wh_giveBack 40 = .ok (.i2l, 1) := by decide +kernel
theorem d_Wh_giveBack_41 : decode b_Wh_giveBack 41 = .ok (.ldc2_w 42, 3) := by decide +kernel
theorem d_Wh_giveBack_44 : decode b_Wh_giveBack 44 = .ok (.land, 1) := by decide +kernel
theorem d_Wh_giveBack_45 : decode b_Wh_giveBack 45 = .ok (.aload_n 1, 1) := by decide +kernel
theorem d_Wh_giveBack_46 : decode b_Wh_giveBack 46 = .ok (.getfield 15, 3) := by decide +kernel
theorem d_Wh_giveBack_49 : decode b_Wh_giveBack 49 = .ok (.iload 6, 2) := by decide +kernel
theorem d_Wh_giveBack_51 : decode b_Wh_giveBack 51 = .ok (.iaload, 1) := by decide +kernel
theorem d_Wh_giveBack_52 : decode b_Wh_giveBack 52 = .ok (.i2l, 1) := by decide +kernel
theorem d_Wh_giveBack_53 : decode b_Wh_giveBack 53 = .ok (.ldc2_w 42, 3) := by decide +kernel
theorem d_Wh_giveBack_56 : decode b_Wh_giveBack 56 = .ok (.land, 1) := by decide +kernel
theorem d_Wh_giveBack_57 : decode b_Wh_giveBack 57 = .ok (.ladd, 1) := by decide +kernel
theorem d_Wh_giveBack_58 : decode b_Wh_giveBack 58 = .ok (.ladd, 1) := by decide +kernel
theorem d_Wh_giveBack_59 : decode b_Wh_giveBack 59 = .ok (.lstore 4, 2) := by decide +kernel
theorem d_Wh_giveBack_61 : decode b_Wh_giveBack 61 = .ok (.aload_n 0, 1) := by decide +kernel
theorem d_Wh_giveBack_62 : decode b_Wh_giveBack 62 = .ok (.getfield 15, 3) := by decide +kernel
theorem d_Wh_giveBack_65 : decode b_Wh_giveBack 65 = .ok (.iload_n 2, 1) := by decide +kernel
theorem d_Wh_giveBack_66 : decode b_Wh_giveBack 66 = .ok (.iload 6, 2) := by decide +kernel
theorem d_Wh_giveBack_68 : decode b_Wh_giveBack 68 = .ok (.iadd, 1) := by decide +kernel
theorem d_Wh_giveBack_69 : decode b_Wh_giveBack 69 = .ok (.lload 4, 2) := by decide +kernel
theorem d_Wh_giveBack_71 : decode b_Wh_giveBack 71 = .ok (.l2i, 1) := by decide +kernel
theorem d_Wh_giveBack_72 : decode b_Wh_giveBack 72 = .ok (.iastore, 1) := by decide +kernel
theorem d_Wh_giveBack_73 : decode b_Wh_giveBack 73 = .ok (.lload 4, 2) := by decide +kernel
theorem d_Wh_giveBack_75 : decode b_Wh_giveBack 75 = .ok (.bipush 32, 2) := by decide +kernel
theorem d_Wh_giveBack_77 : decode b_Wh_giveBack 77 = .ok (.lushr, 1) := by decide +kernel
theorem d_Wh_giveBack_78 : decode b_Wh_giveBack 78 = .ok (.lstore 4, 2) := by decide +kernel
theorem d_Wh_giveBack_80 : decode b_Wh_giveBack 80 = .ok (.iinc 6 1, 3) := by decide +kernel
theorem d_Wh_giveBack_83 : decode b_Wh_giveBack 83 = .ok (.goto (-63), 3) := by decide +kernel
theorem d_Wh_giveBack_86 : decode b_Wh_giveBack 86 = .ok (.aload_n 0, 1) := by decide +kernel
theorem d_Wh_giveBack_87 : decode b_Wh_giveBack 87 = .ok (.getfield 15, 3) := by decide +kernel
theorem d_Wh_giveBack_90 : decode b_Wh_giveBack 90 = .ok (.iload_n 3, 1) := by decide +kernel
theorem d_Wh_giveBack_91 : decode b_Wh_giveBack 91 = .ok (.dup2, 1) := by decide +kernel
theorem d_Wh_giveBack_92 : decode b_Wh_giveBack 92 = .ok (.iaload, 1) := by decide +kernel
theorem d_Wh_giveBack_93 : decode b_Wh_giveBack 93 = .ok (.lload 4, 2) := by decide +kernel
theorem d_Wh_giveBack_95 : decode b_Wh_giveBack 95 = .ok (.l2i, 1) := by decide +kernel
theorem d_Wh_giveBack_96 : decode b_Wh_giveBack 96 = .ok (.iadd, 1) := by decide +kernel
theorem d_Wh_giveBack_97 : decode b_Wh_giveBack 97 = .ok (.iastore, 1) := by decide +kernel
theorem d_Wh_giveBack_98 : decode b_Wh_giveBack 98 = .ok (.return_, 1) := by decide +kernel
theorem d_Wh_shiftDown_0 : decode b_Wh_shiftDown 0 = .ok (.iload_n 1, 1) := by decide +kernel
theorem d_Wh_shiftDown_1 : decode b_Wh_shiftDown 1 = .ok (.ifCond .gt 4, 3) := by decide +kernel
theorem d_Wh_shiftDown_4 : decode b_Wh_shiftDown 4 = .ok (.return_, 1) := by decide +kernel
theorem d_Wh_shiftDown_5 : decode b_Wh_shiftDown 5 = .ok (.iload_n 1, 1) := by decide +kernel
theorem d_Wh_shiftDown_6 : decode b_Wh_shiftDown 6 = .ok (.iconst 5, 1) := by decide +kernel
theorem d_Wh_shiftDown_7 : decode b_Wh_shiftDown 7 = .ok (.iushr, 1) := by decide +kernel
theorem d_Wh_shiftDown_8 : decode b_Wh_shiftDown 8 = .ok (.istore_n 2, 1) := by decide +kernel
theorem d_Wh_shiftDown_9 : decode b_Wh_shiftDown 9 = .ok (.iload_n 1, 1) := by decide +kernel
theorem d_Wh_shiftDown_10 : decode b_Wh_shiftDown 10 = .ok (.bipush 31, 2) := by decide +kernel
theorem d_Wh_shiftDown_12 : decode b_Wh_shiftDown 12 = .ok (.iand, 1) := by decide +kernel
theorem d_Wh_shiftDown_13 : decode b_Wh_shiftDown 13 = .ok (.istore_n 3, 1) := by decide +kernel
theorem d_Wh_shiftDown_14 : decode b_Wh_shiftDown 14 = .ok (.iconst 0, 1) := by decide +kernel
theorem d_Wh_shiftDown_15 : decode b_Wh_shiftDown 15 = .ok (.aload_n 0, 1) := by decide +kernel
theorem d_Wh_shiftDown_16 : decode b_Wh_shiftDown 16 = .ok (.getfield 28, 3) := by decide +kernel
theorem d_Wh_shiftDown_19 : decode b_Wh_shiftDown 19 = .ok (.iload_n 2, 1) := by decide +kernel
theorem d_Wh_shiftDown_20 : decode b_Wh_shiftDown 20 = .ok (.isub, 1) := by decide +kernel
theorem d_Wh_shiftDown_21 : decode b_Wh_shiftDown 21 = .ok (.invokestatic 9, 3) := by decide +kernel
theorem d_Wh_shiftDown_24 : decode b_Wh_shiftDown 24 = .ok (.istore 4, 2) := by decide +kernel
theorem d_Wh_shiftDown_26 : decode b_Wh_shiftDown 26 = .ok (.iconst 0, 1) := by decide +kernel
theorem d_Wh_shiftDown_27 : decode b_Wh_shiftDown 27 = .ok (.istore 5, 2) := by decide +kernel
theorem d_Wh_shiftDown_29 : decode b_Wh_shiftDown 29 = .ok (.iload 5, 2) := by decide +kernel
theorem d_Wh_shiftDown_31 : decode b_Wh_shiftDown 31 = .ok (.iload 4, 2) := by decide +kernel
theorem d_Wh_shiftDown_33 : decode b_Wh_shiftDown 33 = .ok (.if_icmp .ge 41, 3) := by decide +kernel
theorem d_Wh_shiftDown_36 : decode b_Wh_shiftDown 36 = .ok (.aload_n 0, 1) := by decide +kernel
theorem d_Wh_shiftDown_37 : decode b_Wh_shiftDown 37 = .ok (.getfield 15, 3) := by decide +kernel
theorem d_Wh_shiftDown_40 : decode b_Wh_shiftDown 40 = .ok (.iload 5, 2) := by decide +kernel
theorem d_Wh_shiftDown_42 : decode b_Wh_shiftDown 42 = .ok (.aload_n 0, 1) := by decide +kernel
theorem d_Wh_shiftDown_43 : decode b_Wh_shiftDown 43 = .ok (.iload 5, 2) := by decide +kernel
theorem d_Wh_shiftDown_45 : decode b_Wh_shiftDown 45 = .ok (.iload_n 2, 1) := by decide +kernel
theorem d_Wh_shiftDown_46 : decode b_Wh_shiftDown 46 = .ok (.iadd, 1) := by decide +kernel
theorem d_Wh_shiftDown_47 : decode b_Wh_shiftDown 47 = .ok (.iconst 1, 1) := by decide +kernel
theorem d_Wh_shiftDown_48 : decode b_Wh_shiftDown 48 = .ok (.iadd, 1) := by decide +kernel
theorem d_Wh_shiftDown_49 : decode b_Wh_shiftDown 49 = .ok (.invokevirtual 53, 3) := by decide +kernel
theorem d_Wh_shiftDown_52 : decode b_Wh_shiftDown 52 = .ok (.bipush 32, 2) := by decide +kernel
theorem d_Wh_shiftDown_54 : decode b_Wh_shiftDown 54 = .ok (.lshl, 1) := by decide +kernel
theorem d_Wh_shiftDown_55 : decode b_Wh_shiftDown 55 = .ok (.aload_n 0, 1) := by decide +kernel
theorem d_Wh_shiftDown_56 : decode b_Wh_shiftDown 56 = .ok (.iload 5, 2) := by decide +kernel
theorem d_Wh_shiftDown_58 : decode b_Wh_shiftDown 58 = .ok (.iload_n 2, 1) := by decide +kernel
theorem d_Wh_shiftDown_59 : decode b_Wh_shiftDown 59 = .ok (.iadd, 1) := by decide +kernel
theorem d_Wh_shiftDown_60 : decode b_Wh_shiftDown 60 = .ok (.invokevirtual 53, 3) := by decide +kernel
theorem d_Wh_shiftDown_63 : decode b_Wh_shiftDown 63 = .ok (.lor, 1) := by decide +kernel
theorem d_Wh_shiftDown_64 : decode b_Wh_shiftDown 64 = .ok (.iload_n 3, 1) := by decide +kernel
theorem d_Wh_shiftDown_65 : decode b_Wh_shiftDown 65 = .ok (.lushr, 1) := by decide +kernel
theorem d_Wh_shiftDown_66 : decode b_Wh_shiftDown 66 = .ok (.l2i, 1) := by decide +kernel
theorem d_Wh_shiftDown_67 : decode b_Wh_shiftDown 67 = .ok (.iastore, 1) := by decide +kernel
theorem d_Wh_shiftDown_68 : decode b_Wh_shiftDown 68 = .ok (.iinc 5 1, 3) := by decide +kernel
theorem d_Wh_shiftDown_71 : decode b_Wh_shiftDown 71 = .ok (.goto (-42), 3) := by decide +kernel
theorem d_Wh_shiftDown_74 : decode b_Wh_shiftDown 74 = .ok (.aload_n 0, 1) := by decide +kernel
theorem d_Wh_shiftDown_75 : decode b_Wh_shiftDown 75 = .ok (.iload 4, 2) := by decide +kernel
theorem d_Wh_shiftDown_77 : decode b_Wh_shiftDown 77 = .ok (.putfield 28, 3) := by decide +kernel
theorem d_Wh_shiftDown_80 : decode b_Wh_shiftDown 80 = .ok (.aload_n 0, 1) := by decide +kernel
theorem d_Wh_shiftDown_81 : decode b_Wh_shiftDown 81 = .ok (.invokevirtual 57, 3) := by decide +kernel
theorem d_Wh_shiftDown_84 : decode b_Wh_shiftDown 84 = .ok (.return_, 1) := by decide +kernel
theorem d_Wh_isOne_0 : decode b_Wh_isOne 0 = .ok (.aload_n 0, 1) := by decide +kernel
theorem d_Wh_isOne_1 : decode b_Wh_isOne 1 = .ok (.getfield 28, 3) := by decide +kernel
theorem d_Wh_isOne_4 : decode b_Wh_isOne 4 = .ok (.iconst 1, 1) := by decide +kernel
theorem d_Wh_isOne_5 : decode b_Wh_isOne 5 = .ok (.if_icmp .ne 17, 3) := by decide +kernel
theorem d_Wh_isOne_8 : decode b_Wh_isOne 8 = .ok (.aload_n 0, 1) := by decide +kernel
theorem d_Wh_isOne_9 : decode b_Wh_isOne 9 = .ok (.getfield 15, 3) := by decide +kernel
theorem d_Wh_isOne_12 : decode b_Wh_isOne 12 = .ok (.iconst 0, 1) := by decide +kernel
theorem d_Wh_isOne_13 : decode b_Wh_isOne 13 = .ok (.iaload, 1) := by decide +kernel
theorem d_Wh_isOne_14 : decode b_Wh_isOne 14 = .ok (.iconst 1, 1) := by decide +kernel
theorem d_Wh_isOne_15 : decode b_Wh_isOne 15 = .ok (.if_icmp .ne 7, 3) := by decide +kernel
theorem d_Wh_isOne_18 : decode b_Wh_isOne 18 = .ok (.iconst 1, 1) := by decide +kernel
theorem d_Wh_isOne_19 : decode b_Wh_isOne 19 = .ok (.goto 4, 3) := by decide +kernel
theorem d_Wh_isOne_22 : decode b_Wh_isOne 22 = .ok (.iconst 0, 1) := by decide +kernel
theorem d_Wh_isOne_23 : decode b_Wh_isOne 23 = .ok (.ireturn, 1) := by decide +kernel
theorem d_Wh_becomePart_0 : decode b_Wh_becomePart 0 = .ok (.aload_n 0, 1) := by decide +kernel
theorem d_Wh_becomePart_1 : decode b_Wh_becomePart 1 = .ok (.iload_n 3, 1) := by decide +kernel
theorem d_Wh_becomePart_2 : decode b_Wh_becomePart 2 = .ok (.invokevirtual 32, 3) := by decide +kernel
theorem d_Wh_becomePart_5 : decode b_Wh_becomePart 5 = .ok (.aload_n 1, 1) := by decide +kernel
theorem d_Wh_becomePart_6 : decode b_Wh_becomePart 6 = .ok (.iload_n 2, 1) := by decide +kernel
theorem d_Wh_becomePart_7 : decode b_Wh_becomePart 7 = .ok (.aload_n 0, 1) := by decide +kernel
theorem d_Wh_becomePart_8 : decode b_Wh_becomePart 8 = .ok (.getfield 15, 3) := by decide +kernel
theorem d_Wh_becomePart_11 : decode b_Wh_becomePart 11 = .ok (.iconst 0, 1) := by decide +kernel
theorem d_Wh_becomePart_12 : decode b_Wh_becomePart 12 = .ok (.iload_n 3, 1) := by decide +kernel
theorem d_Wh_becomePart_13 : decode b_Wh_becomePart 13 = .ok (.invokestatic 60, 3) := by decide +kernel
theorem d_Wh_becomePart_16 : decode b_Wh_becomePart 16 = .ok (.aload_n 0, 1) := by decide +kernel
theorem d_Wh_becomePart_17 : decode b_Wh_becomePart 17 = .ok (.iload_n 3, 1) := by decide +kernel
theorem d_Wh_becomePart_18 : decode b_Wh_becomePart 18 = .ok (.putfield 28, 3) := by decide +kernel
theorem d_Wh_becomePart_21 : decode b_Wh_becomePart 21 = .ok (.return_, 1) := by decide +kernel
theorem d_Wh_productOf_0 : decode b_Wh_productOf 0 = .ok (.aload_n 1, 1) := by decide +kernel
theorem d_Wh_productOf_1 : decode b_Wh_productOf 1 = .ok (.getfield 28, 3) := by decide +kernel
theorem d_Wh_productOf_4 : decode b_Wh_productOf 4 = .ok (.aload_n 2, 1) := by decide +kernel
theorem d_Wh_productOf_5 : decode b_Wh_productOf 5 = .ok (.getfield 28, 3) := by decide +kernel
theorem d_Wh_productOf_8 : decode b_Wh_productOf 8 = .ok (.iadd, 1) := by decide +kernel
theorem d_Wh_productOf_9 : decode b_Wh_productOf 9 = .ok (.istore_n 3, 1) := by decide +kernel
theorem d_Wh_productOf_10 : decode b_Wh_productOf 10 = .ok (.aload_n 0, 1) := by decide +kernel
theorem d_Wh_productOf_11 : decode b_Wh_productOf 11 = .ok (.iload_n 3, 1) := by decide +kernel
theorem d_Wh_productOf_12 : decode b_Wh_productOf 12 = .ok (.invokevirtual 32, 3) := by decide +kernel
theorem d_Wh_productOf_15 : decode b_Wh_productOf 15 = .ok (.aload_n 0, 1) := by decide +kernel
theorem d_Wh_productOf_16 : decode b_Wh_productOf 16 = .ok (.getfield 15, 3) := by decide +kernel
theorem d_Wh_productOf_19 : decode b_Wh_productOf 19 = .ok (.iconst 0, 1) := by decide +kernel
theorem d_Wh_productOf_20 : decode b_Wh_productOf 20 = .ok (.iload_n 3, 1) := by decide +kernel
theorem d_Wh_productOf_21 : decode b_Wh_productOf 21 = .ok (.iconst 0, 1) := by decide +kernel
theorem d_Wh_productOf_22 : decode b_Wh_productOf 22 = .ok (.invokestatic 36, 3) := by decide +kernel
theorem d_Wh_productOf_25 : decode b_Wh_productOf 25 = .ok (.iconst 0, 1) := by decide +kernel
theorem d_Wh_productOf_26 : decode b_Wh_productOf 26 = .ok (.istore 4, 2) := by decide +kernel
theorem d_Wh_productOf_28 : decode b_Wh_productOf 28 = .ok (.iload 4, 2) := by decide +kernel
theorem d_Wh_productOf_30 : decode b_Wh_productOf 30 = .ok (.aload_n 1, 1) := by decide +kernel
theorem d_Wh_productOf_31 : decode b_Wh_productOf 31 = .ok (.getfield 28, 3) := by decide +kernel
theorem d_Wh_productOf_34 : decode b_Wh_productOf 34 = .ok (.if_icmp .ge 28, 3) := by decide +kernel
theorem d_Wh_productOf_37 : decode b_Wh_productOf 37 = .ok (.aload_n 0, 1) := by decide +kernel
theorem d_Wh_productOf_38 : decode b_Wh_productOf 38 = .ok (.aload_n 2, 1) := by decide +kernel
theorem d_Wh_productOf_39 : decode b_Wh_productOf 39 = .ok (.aload_n 1, 1) := by decide +kernel
theorem d_Wh_productOf_40 : decode b_Wh_productOf 40 = .ok (.getfield 15, 3) := by decide +kernel
theorem d_Wh_productOf_43 : decode b_Wh_productOf 43 = .ok (.iload 4, 2) := by decide +kernel
theorem d_Wh_productOf_45 : decode b_Wh_productOf 45 = .ok (.iaload, 1) := by decide +kernel
theorem d_Wh_productOf_46 : decode b_Wh_productOf 46 = .ok (.i2l, 1) := by decide +kernel
theorem d_Wh_productOf_47 : decode b_Wh_productOf 47 = .ok (.ldc2_w 42, 3) := by decide +kernel
theorem d_Wh_productOf_50 : decode b_Wh_productOf 50 = .ok (.land, 1) := by decide +kernel
theorem d_Wh_productOf_51 : decode b_Wh_productOf 51 = .ok (.iload 4, 2) := by decide +kernel
theorem d_Wh_productOf_53 : decode b_Wh_productOf 53 = .ok (.invokevirtual 66, 3) := by decide +kernel
theorem d_Wh_productOf_56 : decode b_Wh_productOf 56 = .ok (.iinc 4 1, 3) := by decide +kernel
theorem d_Wh_productOf_59 : decode b_Wh_productOf 59 = .ok (.goto (-31), 3) := by decide +kernel
theorem d_Wh_productOf_62 : decode b_Wh_productOf 62 = .ok (.aload_n 0, 1) := by decide +kernel
theorem d_Wh_productOf_63 : decode b_Wh_productOf 63 = .ok (.iload_n 3, 1) := by decide +kernel
theorem d_Wh_productOf_64 : decode b_Wh_productOf 64 = .ok (.putfield 28, 3) := by decide +kernel
theorem d_Wh_productOf_67 : decode b_Wh_productOf 67 = .ok (.aload_n 0, 1) := by decide +kernel
theorem d_Wh_productOf_68 : decode b_Wh_productOf 68 = .ok (.invokevirtual 57, 3) := by decide +kernel
theorem d_Wh_productOf_71 : decode b_Wh_productOf 71 = .ok (.return_, 1) := by decide +kernel
theorem d_Wh_addMultiple_0 : decode b_Wh_addMultiple 0 = .ok (.aload_n 0, 1) := by decide +kernel
theorem d_Wh_addMultiple_1 : decode b_Wh_addMultiple 1 = .ok (.iload 4, 2) := by decide +kernel
theorem d_Wh_addMultiple_3 : decode b_Wh_addMultiple 3 = .ok (.aload_n 1, 1) := by decide +kernel
theorem d_Wh_addMultiple_4 : decode b_Wh_addMultiple 4 = .ok (.getfield 28, 3) := by decide +kernel
theorem d_Wh_addMultiple_7 : decode b_Wh_addMultiple 7 = .ok (.iadd, 1) := by decide +kernel
theorem d_Wh_addMultiple_8 : decode b_Wh_addMultiple 8 = .ok (.iconst 1, 1) := by decide +kernel
theorem d_Wh_addMultiple_9 : decode b_Wh_addMultiple 9 = .ok (.iadd, 1) := by decide +kernel
theorem d_Wh_addMultiple_10 : decode b_Wh_addMultiple 10 = .ok (.invokevirtual 32, 3) := by decide +kernel
theorem d_Wh_addMultiple_13 : decode b_Wh_addMultiple 13 = .ok (.lconst 0, 1) := by decide +kernel
theorem d_Wh_addMultiple_14 : decode b_Wh_addMultiple 14 = .ok (.lstore 5, 2) := by decide +kernel
theorem d_Wh_addMultiple_16 : decode b_Wh_addMultiple 16 = .ok (.iconst 0, 1) := by decide +kernel
theorem d_Wh_addMultiple_17 : decode b_Wh_addMultiple 17 = .ok (.istore 7, 2) := by decide +kernel
theorem d_Wh_addMultiple_19 : decode b_Wh_addMultiple 19 = .ok (.iload 7, 2) := by decide +kernel
theorem d_Wh_addMultiple_21 : decode b_Wh_addMultiple 21 = .ok (.aload_n 1, 1) := by decide +kernel
theorem d_Wh_addMultiple_22 : decode b_Wh_addMultiple 22 = .ok (.getfield 28, 3) := by decide +kernel
theorem d_Wh_addMultiple_25 : decode b_Wh_addMultiple 25 = .ok (.if_icmp .ge 64, 3) := by decide +kernel
theorem d_Wh_addMultiple_28 : decode b_Wh_addMultiple 28 = .ok (.lload 5, 2) := by decide +kernel
theorem d_Wh_addMultiple_30 : decode b_Wh_addMultiple 30 = .ok (.lload_n 2, 1) := by decide +kernel
theorem d_Wh_addMultiple_31 : decode b_Wh_addMultiple 31 = .ok (.aload_n 1, 1) := by decide +kernel
theorem d_Wh_addMultiple_32 : decode b_Wh_addMultiple 32 = .ok (.getfield 15, 3) := by decide +kernel
theorem d_Wh_addMultiple_35 : decode b_Wh_addMultiple 35 = .ok (.iload 7, 2) := by decide +kernel
theorem d_Wh_addMultiple_37 : decode b_Wh_addMultiple 37 = .ok (.iaload, 1) := by decide +kernel
theorem d_Wh_addMultiple_38 : decode b_Wh_addMultiple 38 = .ok (.i2l, 1) := by decide +kernel
theorem d_Wh_addMultiple_39 : decode b_Wh_addMultiple 39 = .ok (.ldc2_w 42, 3) := by decide +kernel
theorem d_Wh_addMultiple_42 : decode b_Wh_addMultiple 42 = .ok (.land, 1) := by decide +kernel
theorem d_Wh_addMultiple_43 : decode b_Wh_addMultiple 43 = .ok (.lmul, 1) := by decide +kernel
theorem d_Wh_addMultiple_44 : decode b_Wh_addMultiple 44 = .ok (.aload_n 0, 1) := by decide +kernel
theorem d_Wh_addMultiple_45 : decode b_Wh_addMultiple 45 = .ok (.getfield 15, 3) := by decide +kernel
theorem d_Wh_addMultiple_48 : decode b_Wh_addMultiple 48 = .ok (.iload 4, 2) := by decide +kernel
theorem d_Wh_addMultiple_50 : decode b_Wh_addMultiple 50 = .ok (.iload 7, 2) := by decide +kernel
theorem d_Wh_addMultiple_52 : decode b_Wh_addMultiple 52 = .ok (.iadd, 1) := by decide +kernel
theorem d_Wh_addMultiple_53 : decode b_Wh_addMultiple 53 = .ok (.iaload, 1) := by decide +kernel
theorem d_Wh_addMultiple_54 : decode b_Wh_addMultiple 54 = .ok (.i2l, 1) := by decide +kernel
theorem d_Wh_addMultiple_55 : decode b_Wh_addMultiple 55 = .ok (.ldc2_w 42, 3) := by decide +kernel
theorem d_Wh_addMultiple_58 : decode b_Wh_addMultiple 58 = .ok (.land, 1) := by decide +kernel
theorem d_Wh_addMultiple_59 : decode b_Wh_addMultiple 59 = .ok (.ladd, 1) := by decide +kernel
theorem d_Wh_addMultiple_60 : decode b_Wh_addMultiple 60 = .ok (.ladd, 1) := by decide +kernel
theorem d_Wh_addMultiple_61 : decode b_Wh_addMultiple 61 = .ok (.lstore 5, 2) := by decide +kernel
theorem d_Wh_addMultiple_63 : decode b_Wh_addMultiple 63 = .ok (.aload_n 0, 1) := by decide +kernel
theorem d_Wh_addMultiple_64 : decode b_Wh_addMultiple 64 = .ok (.getfield 15, 3) := by decide +kernel
theorem d_Wh_addMultiple_67 : decode b_Wh_addMultiple 67 = .ok (.iload 4, 2) := by decide +kernel
theorem d_Wh_addMultiple_69 : decode b_Wh_addMultiple 69 = .ok (.iload 7, 2) := by decide +kernel
theorem d_Wh_addMultiple_71 : decode b_Wh_addMultiple 71 = .ok (.iadd, 1) := by decide +kernel
theorem d_Wh_addMultiple_72 : decode b_Wh_addMultiple 72 = .ok (.lload 5, 2) := by decide +kernel
theorem d_Wh_addMultiple_74 : decode b_Wh_addMultiple 74 = .ok (.l2i, 1) := by decide +kernel
theorem d_Wh_addMultiple_75 : decode b_Wh_addMultiple 75 = .ok (.iastore, 1) := by decide +kernel
theorem d_Wh_addMultiple_76 : decode b_Wh_addMultiple 76 = .ok (.lload 5, 2) := by decide +kernel
theorem d_Wh_addMultiple_78 : decode b_Wh_addMultiple 78 = .ok (.bipush 32, 2) := by decide +kernel
theorem d_Wh_addMultiple_80 : decode b_Wh_addMultiple 80 = .ok (.lushr, 1) := by decide +kernel
theorem d_Wh_addMultiple_81 : decode b_Wh_addMultiple 81 = .ok (.lstore 5, 2) := by decide +kernel
theorem d_Wh_addMultiple_83 : decode b_Wh_addMultiple 83 = .ok (.iinc 7 1, 3) := by decide +kernel
theorem d_Wh_addMultiple_86 : decode b_Wh_addMultiple 86 = .ok (.goto (-67), 3) := by decide +kernel
theorem d_Wh_addMultiple_89 : decode b_Wh_addMultiple 89 = .ok (.aload_n 0, 1) := by decide +kernel
theorem d_Wh_addMultiple_90 : decode b_Wh_addMultiple 90 = .ok (.getfield 15, 3) := by decide +kernel
theorem d_Wh_addMultiple_93 : decode b_Wh_addMultiple 93 = .ok (.iload 4, 2) := by decide +kernel
theorem d_Wh_addMultiple_95 : decode b_Wh_addMultiple 95 = .ok (.aload_n 1, 1) := by decide +kernel
theorem d_Wh_addMultiple_96 : decode b_Wh_addMultiple 96 = .ok (.getfield 28, 3) := by decide +kernel
theorem d_Wh_addMultiple_99 : decode b_Wh_addMultiple 99 = .ok (.iadd, 1) := by decide +kernel
theorem d_Wh_addMultiple_100 : decode b_Wh_addMultiple 100 = .ok (.lload 5, 2) := by decide +kernel
theorem d_Wh_addMultiple_102 : decode b_Wh_addMultiple 102 = .ok (.l2i, 1) := by decide +kernel
theorem d_Wh_addMultiple_103 : decode b_Wh_addMultiple 103 = .ok (.iastore, 1) := by decide +kernel
theorem d_Wh_addMultiple_104 : decode b_Wh_addMultiple 104 = .ok (.return_, 1) := by decide +kernel
theorem d_Wh_plus_0 : decode b_Wh_plus 0 = .ok (.aload_n 0, 1) := by decide +kernel
theorem d_Wh_plus_1 : decode b_Wh_plus 1 = .ok (.getfield 28, 3) := by decide +kernel
theorem d_Wh_plus_4 : decode b_Wh_plus 4 = .ok (.aload_n 1, 1) := by decide +kernel
theorem d_Wh_plus_5 : decode b_Wh_plus 5 = .ok (.getfield 28, 3) := by decide +kernel
theorem d_Wh_plus_8 : decode b_Wh_plus 8 = .ok (.invokestatic 9, 3) := by decide +kernel
theorem d_Wh_plus_11 : decode b_Wh_plus 11 = .ok (.istore_n 2, 1) := by decide +kernel
theorem d_Wh_plus_12 : decode b_Wh_plus 12 = .ok (.aload_n 0, 1) := by decide +kernel
theorem d_Wh_plus_13 : decode b_Wh_plus 13 = .ok (.iload_n 2, 1) := by decide +kernel
theorem d_Wh_plus_14 : decode b_Wh_plus 14 = .ok (.iconst 1, 1) := by decide +kernel
theorem d_Wh_plus_15 : decode b_Wh_plus 15 = .ok (.iadd, 1) := by decide +kernel
theorem d_Wh_plus_16 : decode b_Wh_plus 16 = .ok (.invokevirtual 32, 3) := by decide +kernel
theorem d_Wh_plus_19 : decode b_Wh_plus 19 = .ok (.lconst 0, 1) := by decide +kernel
theorem d_Wh_plus_20 : decode b_Wh_plus 20 = .ok (.lstore_n 3, 1) := by decide +kernel
theorem d_Wh_plus_21 : decode b_Wh_plus 21 = .ok (.iconst 0, 1) := by decide +kernel
theorem d_Wh_plus_22 : decode b_Wh_plus 22 = .ok (.istore 5, 2) := by decide +kernel
theorem d_Wh_plus_24 : decode b_Wh_plus 24 = .ok (.iload 5, 2) := by decide +kernel
theorem d_Wh_plus_26 : decode b_Wh_plus 26 = .ok (.iload_n 2, 1) := by decide +kernel
theorem d_Wh_plus_27 : decode b_Wh_plus 27 = .ok (.if_icmp .ge 39, 3) := by decide +kernel
theorem d_Wh_plus_30 : decode b_Wh_plus 30 = .ok (.lload_n 3, 1) := by decide +kernel
theorem d_Wh_plus_31 : decode b_Wh_plus 31 = .ok (.aload_n 0, 1) := by decide +kernel
theorem d_Wh_plus_32 : decode b_Wh_plus 32 = .ok (.iload 5, 2) := by decide +kernel
theorem d_Wh_plus_34 : decode b_Wh_plus 34 = .ok (.invokevirtual 53, 3) := by decide +kernel
theorem d_Wh_plus_37 : decode b_Wh_plus 37 = .ok (.aload_n 1, 1) := by decide +kernel
theorem d_Wh_plus_38 : decode b_Wh_plus 38 = .ok (.iload 5, 2) := by decide +kernel
theorem d_Wh_plus_40 : decode b_Wh_plus 40 = .ok (.invokevirtual 53, 3) := by decide +kernel
theorem d_Wh_plus_43 : decode b_Wh_plus 43 = .ok (.ladd, 1) := by decide +kernel
theorem d_Wh_plus_44 : decode b_Wh_plus 44 = .ok (.ladd, 1) := by decide +kernel
theorem d_Wh_plus_45 : decode b_Wh_plus 45 = .ok (.lstore_n 3, 1) := by decide +kernel
theorem d_Wh_plus_46 : decode b_Wh_plus 46 = .ok (.aload_n 0, 1) := by decide +kernel
theorem d_Wh_plus_47 : decode b_Wh_plus 47 = .ok (.getfield 15, 3) := by decide +kernel
theorem d_Wh_plus_50 : decode b_Wh_plus 50 = .ok (.iload 5, 2) := by decide +kernel
theorem d_Wh_plus_52 : decode b_Wh_plus 52 = .ok (.lload_n 3, 1) := by decide +kernel
theorem d_Wh_plus_53 : decode b_Wh_plus 53 = .ok (.l2i, 1) := by decide +kernel
theorem d_Wh_plus_54 : decode b_Wh_plus 54 = .ok (.iastore, 1) := by decide +kernel
theorem d_Wh_plus_55 : decode b_Wh_plus 55 = .ok (.lload_n 3, 1) := by decide +kernel
theorem d_Wh_plus_56 : decode b_Wh_plus 56 = .ok (.bipush 32, 2) := by decide +kernel
theorem d_Wh_plus_58 : decode b_Wh_plus 58 = .ok (.lushr, 1) := by decide +kernel
theorem d_Wh_plus_59 : decode b_Wh_plus 59 = .ok (.lstore_n 3, 1) := by decide +kernel
theorem d_Wh_plus_60 : decode b_Wh_plus 60 = .ok (.iinc 5 1, 3) := by decide +kernel
theorem d_Wh_plus_63 : decode b_Wh_plus 63 = .ok (.goto (-39), 3) := by decide +kernel
theorem d_Wh_plus_66 : decode b_Wh_plus 66 = .ok (.aload_n 0, 1) := by decide +kernel
theorem d_Wh_plus_67 : decode b_Wh_plus 67 = .ok (.getfield 15, 3) := by decide +kernel
theorem d_Wh_plus_70 : decode b_Wh_plus 70 = .ok (.iload_n 2, 1) := by decide +kernel
theorem d_Wh_plus_71 : decode b_Wh_plus 71 = .ok (.lload_n 3, 1) := by decide +kernel
theorem d_Wh_plus_72 : decode b_Wh_plus 72 = .ok (.l2i, 1) := by decide +kernel
theorem d_Wh_plus_73 : decode b_Wh_plus 73 = .ok (.iastore, 1) := by decide +kernel
theorem d_Wh_plus_74 : decode b_Wh_plus 74 = .ok (.aload_n 0, 1) := by decide +kernel
theorem d_Wh_plus_75 : decode b_Wh_plus 75 = .ok (.iload_n 2, 1) := by decide +kernel
theorem d_Wh_plus_76 : decode b_Wh_plus 76 = .ok (.iconst 1, 1) := by decide +kernel
theorem d_Wh_plus_77 : decode b_Wh_plus 77 = .ok (.iadd, 1) := by decide +kernel
theorem d_Wh_plus_78 : decode b_Wh_plus 78 = .ok (.putfield 28, 3) := by decide +kernel
theorem d_Wh_plus_81 : decode b_Wh_plus 81 = .ok (.aload_n 0, 1) := by decide +kernel
theorem d_Wh_plus_82 : decode b_Wh_plus 82 = .ok (.invokevirtual 57, 3) := by decide +kernel
theorem d_Wh_plus_85 : decode b_Wh_plus 85 = .ok (.return_, 1) := by decide +kernel
theorem d_Wh_differenceOf_0 : decode b_Wh_differenceOf 0 = .ok (.aload_n 1, 1) := by decide +kernel
theorem d_Wh_differenceOf_1 : decode b_Wh_differenceOf 1 = .ok (.getfield 28, 3) := by decide +kernel
theorem d_Wh_differenceOf_4 : decode b_Wh_differenceOf 4 = .ok (.istore_n 3, 1) := by decide +kernel
theorem d_Wh_differenceOf_5 : decode b_Wh_differenceOf 5 = .ok (.aload_n 0, 1) := by decide +kernel
theorem d_Wh_differenceOf_6 : decode b_Wh_differenceOf 6 = .ok (.iload_n 3, 1) := by decide +kernel
theorem d_Wh_differenceOf_7 : decode b_Wh_differenceOf 7 = .ok (.invokevirtual 32, 3) := by decide +kernel
theorem d_Wh_differenceOf_10 : decode b_Wh_differenceOf 10 = .ok (.lconst 0, 1) := by decide +kernel
theorem d_Wh_differenceOf_11 : decode b_Wh_differenceOf 11 = .ok (.lstore 4, 2) := by decide +kernel
theorem d_Wh_differenceOf_13 : decode b_Wh_differenceOf 13 = .ok (.iconst 0, 1) := by decide +kernel
theorem d_Wh_differenceOf_14 : decode b_Wh_differenceOf 14 = .ok (.istore 6, 2) := by decide +kernel
theorem d_Wh_differenceOf_16 : decode b_Wh_differenceOf 16 = .ok (.iload 6, 2) := by decide +kernel
theorem d_Wh_differenceOf_18 : decode b_Wh_differenceOf 18 = .ok (.iload_n 3, 1) := by decide +kernel
theorem d_Wh_differenceOf_19 : decode b_Wh_differenceOf 19 = .ok (.if_icmp .ge 44, 3) := by decide +kernel
theorem d_Wh_differenceOf_22 : decode b_Wh_differenceOf 22 = .ok (.lload 4, 2) := by decide +kernel
theorem d_Wh_differenceOf_24 : decode b_Wh_differenceOf 24 = .ok (.aload_n 1, 1) := by decide +kernel
theorem d_Wh_differenceOf_25 : decode b_Wh_differenceOf 25 = .ok (.iload 6, 2) := by decide +kernel
theorem d_Wh_differenceOf_27 : decode b_Wh_differenceOf 27 = .ok (.invokevirtual 53, 3) := by decide +kernel
theorem d_Wh_differenceOf_30 : decode b_Wh_differenceOf 30 = .ok (.aload_n 2, 1) := by decide +kernel
theorem d_Wh_differenceOf_31 : decode b_Wh_differenceOf 31 = .ok (.iload 6, 2) := by decide +kernel
theorem d_Wh_differenceOf_33 : decode b_Wh_differenceOf 33 = .ok (.invokevirtual 53, 3) := by decide +kernel
theorem d_Wh_differenceOf_36 : decode b_Wh_differenceOf 36 = .ok (.lsub, 1) := by decide +kernel
theorem d_Wh_differenceOf_37 : decode b_Wh_differenceOf 37 = .ok (.ladd, 1) := by decide +kernel
theorem d_Wh_differenceOf_38 : decode b_Wh_differenceOf 38 = .ok (.lstore 4, 2) := by decide +kernel
theorem d_Wh_differenceOf_40 : decode b_Wh_differenceOf 40 = .ok (.aload_n 0, 1) := by decide +kernel
theorem d_Wh_differenceOf_41 : decode b_Wh_differenceOf 41 = .ok (.getfield 15, 3) := by decide +kernel
theorem d_Wh_differenceOf_44 : decode b_Wh_differenceOf 44 = .ok (.iload 6, 2) := by decide +kernel
theorem d_Wh_differenceOf_46 : decode b_Wh_differenceOf 46 = .ok (.lload 4, 2) := by decide +kernel
theorem d_Wh_differenceOf_48 : decode b_Wh_differenceOf 48 = .ok (.l2i, 1) := by decide +kernel
theorem d_Wh_differenceOf_49 : decode b_Wh_differenceOf 49 = .ok (.iastore, 1) := by decide +kernel
theorem d_Wh_differenceOf_50 : decode b_Wh_differenceOf 50 = .ok (.lload 4, 2) := by decide +kernel
theorem d_Wh_differenceOf_52 : decode b_Wh_differenceOf 52 = .ok (.bipush 32, 2) := by decide +kernel
theorem d_Wh_differenceOf_54 : decode b_Wh_differenceOf 54 = .ok (.lshr, 1) := by decide +kernel
theorem d_Wh_differenceOf_55 : decode b_Wh_differenceOf 55 = .ok (.lstore 4, 2) := by decide +kernel
theorem d_Wh_differenceOf_57 : decode b_Wh_differenceOf 57 = .ok (.iinc 6 1, 3) := by decide +kernel
theorem d_Wh_differenceOf_60 : decode b_Wh_differenceOf 60 = .ok (.goto (-44), 3) := by decide +kernel
theorem d_Wh_differenceOf_63 : decode b_Wh_differenceOf 63 = .ok (.aload_n 0, 1) := by decide +kernel
theorem d_Wh_differenceOf_64 : decode b_Wh_differenceOf 64 = .ok (.iload_n 3, 1) := by decide +kernel
theorem d_Wh_differenceOf_65 : decode b_Wh_differenceOf 65 = .ok (.putfield 28, 3) := by decide +kernel
theorem d_Wh_differenceOf_68 : decode b_Wh_differenceOf 68 = .ok (.aload_n 0, 1) := by decide +kernel
theorem d_Wh_differenceOf_69 : decode b_Wh_differenceOf 69 = .ok (.invokevirtual 57, 3) := by decide +kernel
theorem d_Wh_differenceOf_72 : decode b_Wh_differenceOf 72 = .ok (.return_, 1) := by decide +kernel
theorem d_Wh_scale_0 : decode b_Wh_scale 0 = .ok (.aload_n 0, 1) := by decide +kernel
theorem d_Wh_scale_1 : decode b_Wh_scale 1 = .ok (.aload_n 0, 1) := by decide +kernel
theorem d_Wh_scale_2 : decode b_Wh_scale 2 = .ok (.getfield 28, 3) := by decide +kernel
theorem d_Wh_scale_5 : decode b_Wh_scale 5 = .ok (.iconst 1, 1) := by decide +kernel
theorem d_Wh_scale_6 : decode b_Wh_scale 6 = .ok (.iadd, 1) := by decide +kernel
theorem d_Wh_scale_7 : decode b_Wh_scale 7 = .ok (.invokevirtual 32, 3) := by decide +kernel
theorem d_Wh_scale_10 : decode b_Wh_scale 10 = .ok (.iload_n 2, 1) := by decide +kernel
theorem d_Wh_scale_11 : decode b_Wh_scale 11 = .ok (.i2l, 1) := by decide +kernel
theorem d_Wh_scale_12 : decode b_Wh_scale 12 = .ok (.lstore_n 3, 1) := by decide +kernel
theorem d_Wh_scale_13 : decode b_Wh_scale 13 = .ok (.iconst 0, 1) := by decide +kernel
theorem d_Wh_scale_14 : decode b_Wh_scale 14 = .ok (.istore 5, 2) := by decide +kernel
theorem d_Wh_scale_16 : decode b_Wh_scale 16 = .ok (.iload 5, 2) := by decide +kernel
theorem d_Wh_scale_18 : decode b_Wh_scale 18 = .ok (.aload_n 0, 1) := by decide +kernel
theorem d_Wh_scale_19 : decode b_Wh_scale 19 = .ok (.getfield 28, 3) := by decide +kernel
theorem d_Wh_scale_22 : decode b_Wh_scale 22 = .ok (.if_icmp .ge 41, 3) := by decide +kernel
theorem d_Wh_scale_25 : decode b_Wh_scale 25 = .ok (.lload_n 3, 1) := by decide +kernel
theorem d_Wh_scale_26 : decode b_Wh_scale 26 = .ok (.iload_n 1, 1) := by decide +kernel
theorem d_Wh_scale_27 : decode b_Wh_scale 27 = .ok (.i2l, 1) := by decide +kernel
theorem d_Wh_scale_28 : decode b_Wh_scale 28 = .ok (.aload_n 0, 1) := by decide +kernel
theorem d_Wh_scale_29 : decode b_Wh_scale 29 = .ok (.getfield 15, 3) := by decide +kernel
theorem d_Wh_scale_32 : decode b_Wh_scale 32 = .ok (.iload 5, 2) := by decide +kernel
theorem d_Wh_scale_34 : decode b_Wh_scale 34 = .ok (.iaload, 1) := by decide +kernel
theorem d_Wh_scale_35 : decode b_Wh_scale 35 = .ok (.i2l, 1) := by decide +kernel
theorem d_Wh_scale_36 : decode b_Wh_scale 36 = .ok (.ldc2_w 42, 3) := by decide +kernel
theorem d_Wh_scale_39 : decode b_Wh_scale 39 = .ok (.land, 1) := by decide +kernel
theorem d_Wh_scale_40 : decode b_Wh_scale 40 = .ok (.lmul, 1) := by decide +kernel
theorem d_Wh_scale_41 : decode b_Wh_scale 41 = .ok (.ladd, 1) := by decide +kernel
theorem d_Wh_scale_42 : decode b_Wh_scale 42 = .ok (.lstore_n 3, 1) := by decide +kernel
theorem d_Wh_scale_43 : decode b_Wh_scale 43 = .ok (.aload_n 0, 1) := by decide +kernel
theorem d_Wh_scale_44 : decode b_Wh_scale 44 = .ok (.getfield 15, 3) := by decide +kernel
theorem d_Wh_scale_47 : decode b_Wh_scale 47 = .ok (.iload 5, 2) := by decide +kernel
theorem d_Wh_scale_49 : decode b_Wh_scale 49 = .ok (.lload_n 3, 1) := by decide +kernel
theorem d_Wh_scale_50 : decode b_Wh_scale 50 = .ok (.l2i, 1) := by decide +kernel
theorem d_Wh_scale_51 : decode b_Wh_scale 51 = .ok (.iastore, 1) := by decide +kernel
theorem d_Wh_scale_52 : decode b_Wh_scale 52 = .ok (.lload_n 3, 1) := by decide +kernel
theorem d_Wh_scale_53 : decode b_Wh_scale 53 = .ok (.bipush 32, 2) := by decide +kernel
theorem d_Wh_scale_55 : decode b_Wh_scale 55 = .ok (.lushr, 1) := by decide +kernel
theorem d_Wh_scale_56 : decode b_Wh_scale 56 = .ok (.lstore_n 3, 1) := by decide +kernel
theorem d_Wh_scale_57 : decode b_Wh_scale 57 = .ok (.iinc 5 1, 3) := by decide +kernel
theorem d_Wh_scale_60 : decode b_Wh_scale 60 = .ok (.goto (-44), 3) := by decide +kernel
theorem d_Wh_scale_63 : decode b_Wh_scale 63 = .ok (.aload_n 0, 1) := by decide +kernel
theorem d_Wh_scale_64 : decode b_Wh_scale 64 = .ok (.getfield 15, 3) := by decide +kernel
theorem d_Wh_scale_67 : decode b_Wh_scale 67 = .ok (.aload_n 0, 1) := by decide +kernel
theorem d_Wh_scale_68 : decode b_Wh_scale 68 = .ok (.getfield 28, 3) := by decide +kernel
theorem d_Wh_scale_71 : decode b_Wh_scale 71 = .ok (.lload_n 3, 1) := by decide +kernel
theorem d_Wh_scale_72 : decode b_Wh_scale 72 = .ok (.l2i, 1) := by decide +kernel
theorem d_Wh_scale_73 : decode b_Wh_scale 73 = .ok (.iastore, 1) := by decide +kernel
theorem d_Wh_scale_74 : decode b_Wh_scale 74 = .ok (.aload_n 0, 1) := by decide +kernel
theorem d_Wh_scale_75 : decode b_Wh_scale 75 = .ok (.dup, 1) := by decide +kernel
theorem d_Wh_scale_76 : decode b_Wh_scale 76 = .ok (.getfield 28, 3) := by decide +kernel
theorem d_Wh_scale_79 : decode b_Wh_scale 79 = .ok (.iconst 1, 1) := by decide +kernel
theorem d_Wh_scale_80 : decode b_Wh_scale 80 = .ok (.iadd, 1) := by decide +kernel
theorem d_Wh_scale_81 : decode b_Wh_scale 81 = .ok (.putfield 28, 3) := by decide +kernel
theorem d_Wh_scale_84 : decode b_Wh_scale 84 = .ok (.aload_n 0, 1) := by decide +kernel
theorem d_Wh_scale_85 : decode b_Wh_scale 85 = .ok (.invokevirtual 57, 3) := by decide +kernel
theorem d_Wh_scale_88 : decode b_Wh_scale 88 = .ok (.return_, 1) := by decide +kernel
theorem d_Wh_isOdd_0 : decode b_Wh_isOdd 0 = .ok (.aload_n 0, 1) := by decide +kernel
theorem d_Wh_isOdd_1 : decode b_Wh_isOdd 1 = .ok (.getfield 28, 3) := by decide +kernel
theorem d_Wh_isOdd_4 : decode b_Wh_isOdd 4 = .ok (.ifCond .le 18, 3) := by decide +kernel
theorem d_Wh_isOdd_7 : decode b_Wh_isOdd 7 = .ok (.aload_n 0, 1) := by decide +kernel
theorem d_Wh_isOdd_8 : decode b_Wh_isOdd 8 = .ok (.getfield 15, 3) := by decide +kernel
theorem d_Wh_isOdd_11 : decode b_Wh_isOdd 11 = .ok (.iconst 0, 1) := by decide +kernel
theorem d_Wh_isOdd_12 : decode b_Wh_isOdd 12 = .ok (.iaload, 1) := by decide +kernel
theorem d_Wh_isOdd_13 : decode b_Wh_isOdd 13 = .ok (.iconst 1, 1) := by decide +kernel
theorem d_Wh_isOdd_14 : decode b_Wh_isOdd 14 = .ok (.iand, 1) := by decide +kernel
theorem d_Wh_isOdd_15 : decode b_Wh_isOdd 15 = .ok (.ifCond .eq 7, 3) := by decide +kernel
theorem d_Wh_isOdd_18 : decode b_Wh_isOdd 18 = .ok (.iconst 1, 1) := by decide +kernel
theorem d_Wh_isOdd_19 : decode b_Wh_isOdd 19 = .ok (.goto 4, 3) := by decide +kernel
theorem d_Wh_isOdd_22 : decode b_Wh_isOdd 22 = .ok (.iconst 0, 1) := by decide +kernel
theorem d_Wh_isOdd_23 : decode b_Wh_isOdd 23 = .ok (.ireturn, 1) := by decide +kernel
theorem d_Wh_lowZeros_0 : decode b_Wh_lowZeros 0 = .ok (.iconst 0, 1) := by decide +kernel
theorem d_Wh_lowZeros_1 : decode b_Wh_lowZeros 1 = .ok (.istore_n 1, 1) := by decide +kernel
theorem d_Wh_lowZeros_2 : decode b_Wh_lowZeros 2 = .ok (.iload_n 1, 1) := by decide +kernel
theorem d_Wh_lowZeros_3 : decode b_Wh_lowZeros 3 = .ok (.aload_n 0, 1) := by decide +kernel
theorem d_Wh_lowZeros_4 : decode b_Wh_lowZeros 4 = .ok (.getfield 28, 3) := by decide +kernel
theorem d_Wh_lowZeros_7 : decode b_Wh_lowZeros 7 = .ok (.if_icmp .ge 33, 3) := by decide +kernel
theorem d_Wh_lowZeros_10 : decode b_Wh_lowZeros 10 = .ok (.aload_n 0, 1) := by decide +kernel
theorem d_Wh_lowZeros_11 : decode b_Wh_lowZeros 11 = .ok (.getfield 15, 3) := by decide +kernel
theorem d_Wh_lowZeros_14 : decode b_Wh_lowZeros 14 = .ok (.iload_n 1, 1) := by decide +kernel
theorem d_Wh_lowZeros_15 : decode b_Wh_lowZeros 15 = .ok (.iaload, 1) := by decide +kernel
theorem d_Wh_lowZeros_16 : decode b_Wh_lowZeros 16 = .ok (.ifCond .eq 18, 3) := by decide +kernel
theorem d_Wh_lowZeros_19 : decode b_Wh_lowZeros 19 = .ok (.bipush 32, 2) := by decide +kernel
theorem d_Wh_lowZeros_21 : decode b_Wh_lowZeros 21 = .ok (.iload_n 1, 1) := by decide +kernel
theorem d_Wh_lowZeros_22 : decode b_Wh_lowZeros 22 = .ok (.imul, 1) := by decide +kernel
theorem d_Wh_lowZeros_23 : decode b_Wh_lowZeros 23 = .ok (.aload_n 0, 1) := by decide +kernel
theorem d_Wh_lowZeros_24 : decode b_Wh_lowZeros 24 = .ok (.getfield 15, 3) := by decide +kernel
theorem d_Wh_lowZeros_27 : decode b_Wh_lowZeros 27 = .ok (.iload_n 1, 1) := by decide +kernel
theorem d_Wh_lowZeros_28 : decode b_Wh_lowZeros 28 = .ok (.iaload, 1) := by decide +kernel
theorem d_Wh_lowZeros_29 : decode b_Wh_lowZeros 29 = .ok (.invokestatic 50, 3) := by decide +kernel
theorem d_Wh_lowZeros_32 : decode b_Wh_lowZeros 32 = .ok (.iadd, 1) := by decide +kernel
theorem d_Wh_lowZeros_33 : decode b_Wh_lowZeros 33 = .ok (.ireturn, 1) := by decide +kernel
theorem d_Wh_lowZeros_34 : decode b_Wh_lowZeros 34 = .ok (.iinc 1 1, 3) := by decide +kernel
theorem d_Wh_lowZeros_37 : decode b_Wh_lowZeros 37 = .ok (.goto (-35), 3) := by decide +kernel
theorem d_Wh_lowZeros_40 : decode b_Wh_lowZeros 40 = .ok (.iconst 0, 1) := by decide +kernel
theorem d_Wh_lowZeros_41 : decode b_Wh_lowZeros 41 = .ok (.ireturn, 1) := by decide +kernel
