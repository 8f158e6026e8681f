theorem d_Ty_init_0 : decode b_Ty_init 0 = .ok (.aload_n 0, 1) := by decide +kernel
theorem d_Ty_init_1 : decode b_Ty_init 1 = .ok (.invokespecial 3, 3) := by decide +kernel
theorem d_Ty_init_4 : decode b_Ty_init 4 = .ok (.aload_n 0, 1) := by decide +kernel
theorem d_Ty_init_5 : decode b_Ty_init 5 = .ok (.sipush 400, 3) := by decide +kernel
theorem d_Ty_init_8 : decode b_Ty_init 8 = .ok (.newarray .char, 2) := by decide +kernel
theorem d_Ty_init_10 : decode b_Ty_init 10 = .ok (.putfield 9, 3) := by decide +kernel
theorem d_Ty_init_13 : decode b_Ty_init 13 = .ok (.aload_n 0, 1) := by decide +kernel
theorem d_Ty_init_14 : decode b_Ty_init 14 = .ok (.iconst (-1), 1) := by decide +kernel
theorem d_Ty_init_15 : decode b_Ty_init 15 = .ok (.putfield 15, 3) := by decide +kernel
theorem d_Ty_init_18 : decode b_Ty_init 18 = .ok (.return_, 1) := by decide +kernel
theorem d_Ty_take_0 : decode b_Ty_take 0 = .ok (.iconst 0, 1) := by decide +kernel
theorem d_Ty_take_1 : decode b_Ty_take 1 = .ok (.istore_n 3, 1) := by decide +kernel
theorem d_Ty_take_2 : decode b_Ty_take 2 = .ok (.iconst 0, 1) := by decide +kernel
theorem d_Ty_take_3 : decode b_Ty_take 3 = .ok (.istore 4, 2) := by decide +kernel
theorem d_Ty_take_5 : decode b_Ty_take 5 = .ok (.iload 4, 2) := by decide +kernel
theorem d_Ty_take_7 : decode b_Ty_take 7 = .ok (.bipush 8, 2) := by decide +kernel
theorem d_Ty_take_9 : decode b_Ty_take 9 = .ok (.if_icmp .ge 45, 3) := by decide +kernel
theorem d_Ty_take_12 : decode b_Ty_take 12 = .ok (.lload_n 1, 1) := by decide +kernel
theorem d_Ty_take_13 : decode b_Ty_take 13 = .ok (.iload 4, 2) := by decide +kernel
theorem d_Ty_take_15 : decode b_Ty_take 15 = .ok (.invokestatic 19, 3) := by decide +kernel
theorem d_Ty_take_18 : decode b_Ty_take 18 = .ok (.ifCond .eq 36, 3) := by decide +kernel
theorem d_Ty_take_21 : decode b_Ty_take 21 = .ok (.lload_n 1, 1) := by decide +kernel
theorem d_Ty_take_22 : decode b_Ty_take 22 = .ok (.iload 4, 2) := by decide +kernel
theorem d_Ty_take_24 : decode b_Ty_take 24 = .ok (.invokestatic 19, 3) := by decide +kernel
theorem d_Ty_take_27 : decode b_Ty_take 27 = .ok (.bipush 33, 2) := by decide +kernel
theorem d_Ty_take_29 : decode b_Ty_take 29 = .ok (.if_icmp .lt 14, 3) := by decide +kernel
theorem d_Ty_take_32 : decode b_Ty_take 32 = .ok (.lload_n 1, 1) := by decide +kernel
theorem d_Ty_take_33 : decode b_Ty_take 33 = .ok (.iload 4, 2) := by decide +kernel
theorem d_Ty_take_35 : decode b_Ty_take 35 = .ok (.invokestatic 19, 3) := by decide +kernel
theorem d_Ty_take_38 : decode b_Ty_take 38 = .ok (.bipush 126, 2) := by decide +kernel
theorem d_Ty_take_40 : decode b_Ty_take 40 = .ok (.if_icmp .le 5, 3) := by decide +kernel
theorem d_Ty_take_43 : decode b_Ty_take 43 = .ok (.iconst 0, 1) := by decide +kernel
theorem d_Ty_take_44 : decode b_Ty_take 44 = .ok (.ireturn, 1) := by decide +kernel
theorem d_Ty_take_45 : decode b_Ty_take 45 = .ok (.iinc 3 1, 3) := by decide +kernel
theorem d_Ty_take_48 : decode b_Ty_take 48 = .ok (.iinc 4 1, 3) := by decide +kernel
theorem d_Ty_take_51 : decode b_Ty_take 51 = .ok (.goto (-46), 3) := by decide +kernel
theorem d_Ty_take_54 : decode b_Ty_take 54 = .ok (.aload_n 0, 1) := by decide +kernel
theorem d_Ty_take_55 : decode b_Ty_take 55 = .ok (.getfield 23, 3) := by decide +kernel
theorem d_Ty_take_58 : decode b_Ty_take 58 = .ok (.iload_n 3, 1) := by decide +kernel
theorem d_Ty_take_59 : decode b_Ty_take 59 = .ok (.iadd, 1) := by decide +kernel
theorem d_Ty_take_60 : decode b_Ty_take 60 = .ok (.sipush 400, 3) := by decide +kernel
theorem d_Ty_take_63 : decode b_Ty_take 63 = .ok (.if_icmp .le 5, 3) := by decide +kernel
theorem d_Ty_take_66 : decode b_Ty_take 66 = .ok (.iconst 0, 1) := by decide +kernel
theorem d_Ty_take_67 : decode b_Ty_take 67 = .ok (.ireturn, 1) := by decide +kernel
theorem d_Ty_take_68 : decode b_Ty_take 68 = .ok (.iconst 0, 1) := by decide +kernel
theorem d_Ty_take_69 : decode b_Ty_take 69 = .ok (.istore 4, 2) := by decide +kernel
theorem d_Ty_take_71 : decode b_Ty_take 71 = .ok (.iload 4, 2) := by decide +kernel
theorem d_Ty_take_73 : decode b_Ty_take 73 = .ok (.iload_n 3, 1) := by decide +kernel
theorem d_Ty_take_74 : decode b_Ty_take 74 = .ok (.if_icmp .ge 28, 3) := by decide +kernel
theorem d_Ty_take_77 : decode b_Ty_take 77 = .ok (.aload_n 0, 1) := by decide +kernel
theorem d_Ty_take_78 : decode b_Ty_take 78 = .ok (.getfield 9, 3) := by decide +kernel
theorem d_Ty_take_81 : decode b_Ty_take 81 = .ok (.aload_n 0, 1) := by decide +kernel
theorem d_Ty_take_82 : decode b_Ty_take 82 = .ok (.getfield 23, 3) := by decide +kernel
theorem d_Ty_take_85 : decode b_Ty_take 85 = .ok (.iload 4, 2) := by decide +kernel
theorem d_Ty_take_87 : decode b_Ty_take 87 = .ok (.iadd, 1) := by decide +kernel
theorem d_Ty_take_88 : decode b_Ty_take 88 = .ok (.lload_n 1, 1) := by decide +kernel
theorem d_Ty_take_89 : decode b_Ty_take 89 = .ok (.iload 4, 2) := by decide +kernel
theorem d_Ty_take_91 : decode b_Ty_take 91 = .ok (.invokestatic 19, 3) := by decide +kernel
theorem d_Ty_take_94 : decode b_Ty_take 94 = .ok (.i2c, 1) := by decide +kernel
theorem d_Ty_take_95 : decode b_Ty_take 95 = .ok (.castore, 1) := by decide +kernel
theorem d_Ty_take_96 : decode b_Ty_take 96 = .ok (.iinc 4 1, 3) := by decide +kernel
theorem d_Ty_take_99 : decode b_Ty_take 99 = .ok (.goto (-28), 3) := by decide +kernel
theorem d_Ty_take_102 : decode b_Ty_take 102 = .ok (.aload_n 0, 1) := by decide +kernel
theorem d_Ty_take_103 : decode b_Ty_take 103 = .ok (.dup, 1) := by decide +kernel
theorem d_Ty_take_104 : decode b_Ty_take 104 = .ok (.getfield 23, 3) := by decide +kernel
theorem d_Ty_take_107 : decode b_Ty_take 107 = .ok (.iload_n 3, 1) := by decide +kernel
theorem d_Ty_take_108 : decode b_Ty_take 108 = .ok (.iadd, 1) := by decide +kernel
theorem d_Ty_take_109 : decode b_Ty_take 109 = .ok (.putfield 23, 3) := by decide +kernel
theorem d_Ty_take_112 : decode b_Ty_take 112 = .ok (.iconst 1, 1) := by decide +kernel
theorem d_Ty_take_113 : decode b_Ty_take 113 = .ok (.ireturn, 1) := by decide +kernel
theorem d_Ty_byteOf_0 : decode b_Ty_byteOf 0 = .ok (.lload_n 0, 1) := by decide +kernel
theorem d_Ty_byteOf_1 : decode b_Ty_byteOf 1 = .ok (.bipush 8, 2) := by decide +kernel
theorem d_Ty_byteOf_3 : decode b_Ty_byteOf 3 = .ok (.iload_n 2, 1) := by decide +kernel
theorem d_Ty_byteOf_4 : decode b_Ty_byteOf 4 = .ok (.imul, 1) := by decide +kernel
theorem d_Ty_byteOf_5 : decode b_Ty_byteOf 5 = .ok (.lushr, 1) := by decide +kernel
theorem d_Ty_byteOf_6 : decode b_Ty_byteOf 6 = .ok (.l2i, 1) := by decide +kernel
theorem d_Ty_byteOf_7 : decode b_Ty_byteOf 7 = .ok (.sipush 255, 3) := by decide +kernel
theorem d_Ty_byteOf_10 : decode b_Ty_byteOf 10 = .ok (.iand, 1) := by decide +kernel
theorem d_Ty_byteOf_11 : decode b_Ty_byteOf 11 = .ok (.ireturn, 1) := by decide +kernel
theorem d_Ty_judge_0 : decode b_Ty_judge 0 = .ok (.aload_n 0, 1) := by decide +kernel
theorem d_Ty_judge_1 : decode b_Ty_judge 1 = .ok (.aload_n 0, 1) := by decide +kernel
theorem d_Ty_judge_2 : decode b_Ty_judge 2 = .ok (.getfield 23, 3) := by decide +kernel
theorem d_Ty_judge_5 : decode b_Ty_judge 5 = .ok (.putfield 26, 3) := by decide +kernel
theorem d_Ty_judge_8 : decode b_Ty_judge 8 = .ok (.aload_n 0, 1) := by decide +kernel
theorem d_Ty_judge_9 : decode b_Ty_judge 9 = .ok (.aload_n 0, 1) := by decide +kernel
theorem d_Ty_judge_10 : decode b_Ty_judge 10 = .ok (.invokevirtual 29, 3) := by decide +kernel
theorem d_Ty_judge_13 : decode b_Ty_judge 13 = .ok (.putfield 15, 3) := by decide +kernel
theorem d_Ty_judge_16 : decode b_Ty_judge 16 = .ok (.aload_n 0, 1) := by decide +kernel
theorem d_Ty_judge_17 : decode b_Ty_judge 17 = .ok (.iconst 0, 1) := by decide +kernel
theorem d_Ty_judge_18 : decode b_Ty_judge 18 = .ok (.putfield 23, 3) := by decide +kernel
theorem d_Ty_judge_21 : decode b_Ty_judge 21 = .ok (.return_, 1) := by decide +kernel
theorem d_Ty_faultOfText_0 : decode b_Ty_faultOfText 0 = .ok (.iconst 0, 1) := by decide +kernel
theorem d_Ty_faultOfText_1 : decode b_Ty_faultOfText 1 = .ok (.istore_n 1, 1) := by decide +kernel
theorem d_Ty_faultOfText_2 : decode b_Ty_faultOfText 2 = .ok (.iconst 0, 1) := by decide +kernel
theorem d_Ty_faultOfText_3 : decode b_Ty_faultOfText 3 = .ok (.istore_n 2, 1) := by decide +kernel
theorem d_Ty_faultOfText_4 : decode b_Ty_faultOfText 4 = .ok (.iconst 1, 1) := by decide +kernel
theorem d_Ty_faultOfText_5 : decode b_Ty_faultOfText 5 = .ok (.istore_n 3, 1) := by decide +kernel
theorem d_Ty_faultOfText_6 : decode b_Ty_faultOfText 6 = .ok (.iconst 0, 1) := by decide +kernel
theorem d_Ty_faultOfText_7 : decode b_Ty_faultOfText 7 = .ok (.istore 4, 2) := by decide +kernel
theorem d_Ty_faultOfText_9 : decode b_Ty_faultOfText 9 = .ok (.iload 4, 2) := by decide +kernel
theorem d_Ty_faultOfText_11 : decode b_Ty_faultOfText 11 = .ok (.aload_n 0, 1) := by decide +kernel
theorem d_Ty_faultOfText_12 : decode b_Ty_faultOfText 12 = .ok (.getfield 26, 3) := by decide +kernel
theorem d_Ty_faultOfText_15 : decode b_Ty_faultOfText 15 = .ok (.if_icmp .ge 56, 3) := by decide +kernel
theorem d_Ty_faultOfText_18 : decode b_Ty_faultOfText 18 = .ok (.aload_n 0, 1) := by decide +kernel
theorem d_Ty_faultOfText_19 : decode b_Ty_faultOfText 19 = .ok (.getfield 9, 3) := by decide +kernel
theorem d_Ty_faultOfText_22 : decode b_Ty_faultOfText 22 = .ok (.iload 4, 2) := by decide +kernel
theorem d_Ty_faultOfText_24 : decode b_Ty_faultOfText 24 = .ok (.caload, 1) := by decide +kernel
theorem d_Ty_faultOfText_25 : decode b_Ty_faultOfText 25 = .ok (.istore 5, 2) := by decide +kernel
theorem d_Ty_faultOfText_27 : decode b_Ty_faultOfText 27 = .ok (.iload_n 1, 1) := by decide +kernel
theorem d_Ty_faultOfText_28 : decode b_Ty_faultOfText 28 = .ok (.iload 5, 2) := by decide +kernel
theorem d_Ty_faultOfText_30 : decode b_Ty_faultOfText 30 = .ok (.invokestatic 33, 3) := by decide +kernel
theorem d_Ty_faultOfText_33 : decode b_Ty_faultOfText 33 = .ok (.istore_n 1, 1) := by decide +kernel
theorem d_Ty_faultOfText_34 : decode b_Ty_faultOfText 34 = .ok (.iload_n 1, 1) := by decide +kernel
theorem d_Ty_faultOfText_35 : decode b_Ty_faultOfText 35 = .ok (.iconst (-1), 1) := by decide +kernel
theorem d_Ty_faultOfText_36 : decode b_Ty_faultOfText 36 = .ok (.if_icmp .ne 6, 3) := by decide +kernel
theorem d_Ty_faultOfText_39 : decode b_Ty_faultOfText 39 = .ok (.iload 4, 2) := by decide +kernel
theorem d_Ty_faultOfText_41 : decode b_Ty_faultOfText 41 = .ok (.ireturn, 1) := by decide +kernel
theorem d_Ty_faultOfText_42 : decode b_Ty_faultOfText 42 = .ok (.iload_n 1, 1) := by decide +kernel
theorem d_Ty_faultOfText_43 : decode b_Ty_faultOfText 43 = .ok (.iconst 5, 1) := by decide +kernel
theorem d_Ty_faultOfText_44 : decode b_Ty_faultOfText 44 = .ok (.if_icmp .ne 6, 3) := by decide +kernel
theorem d_Ty_faultOfText_47 : decode b_Ty_faultOfText 47 = .ok (.iload 4, 2) := by decide +kernel
theorem d_Ty_faultOfText_49 : decode b_Ty_faultOfText 49 = .ok (.istore_n 2, 1) := by decide +kernel
theorem d_Ty_faultOfText_50 : decode b_Ty_faultOfText 50 = .ok (.iload_n 1, 1) := by decide +kernel
theorem d_Ty_faultOfText_51 : decode b_Ty_faultOfText 51 = .ok (.bipush 6, 2) := by decide +kernel
theorem d_Ty_faultOfText_53 : decode b_Ty_faultOfText 53 = .ok (.if_icmp .ne 12, 3) := by decide +kernel
theorem d_Ty_faultOfText_56 : decode b_Ty_faultOfText 56 = .ok (.iload 5, 2) := by decide +kernel
theorem d_Ty_faultOfText_58 : decode b_Ty_faultOfText 58 = .ok (.bipush 48, 2) := by decide +kernel
theorem d_Ty_faultOfText_60 : decode b_Ty_faultOfText 60 = .ok (.if_icmp .eq 5, 3) := by decide +kernel
theorem d_Ty_faultOfText_63 : decode b_Ty_faultOfText 63 = .ok (.iconst 0, 1) := by decide +kernel
theorem d_Ty_faultOfText_64 : decode b_Ty_faultOfText 64 = .ok (.istore_n 3, 1) := by decide +kernel
theorem d_Ty_faultOfText_65 : decode b_Ty_faultOfText 65 = .ok (.iinc 4 1, 3) := by decide +kernel
theorem d_Ty_faultOfText_68 : decode b_Ty_faultOfText 68 = .ok (.goto (-59), 3) := by decide +kernel
theorem d_Ty_faultOfText_71 : decode b_Ty_faultOfText 71 = .ok (.iload_n 1, 1) := by decide +kernel
theorem d_Ty_faultOfText_72 : decode b_Ty_faultOfText 72 = .ok (.bipush 6, 2) := by decide +kernel
theorem d_Ty_faultOfText_74 : decode b_Ty_faultOfText 74 = .ok (.if_icmp .ne 13, 3) := by decide +kernel
theorem d_Ty_faultOfText_77 : decode b_Ty_faultOfText 77 = .ok (.iload_n 3, 1) := by decide +kernel
theorem d_Ty_faultOfText_78 : decode b_Ty_faultOfText 78 = .ok (.ifCond .eq 7, 3) := by decide +kernel
theorem d_Ty_faultOfText_81 : decode b_Ty_faultOfText 81 = .ok (.iload_n 2, 1) := by decide +kernel
theorem d_Ty_faultOfText_82 : decode b_Ty_faultOfText 82 = .ok (.goto 4, 3) := by decide +kernel
theorem d_Ty_faultOfText_85 : decode b_Ty_faultOfText 85 = .ok (.iconst (-1), 1) := by decide +kernel
theorem d_Ty_faultOfText_86 : decode b_Ty_faultOfText 86 = .ok (.ireturn, 1) := by decide +kernel
theorem d_Ty_faultOfText_87 : decode b_Ty_faultOfText 87 = .ok (.iload_n 1, 1) := by decide +kernel
theorem d_Ty_faultOfText_88 : decode b_Ty_faultOfText 88 = .ok (.iconst 2, 1) := by decide +kernel
theorem d_Ty_faultOfText_89 : decode b_Ty_faultOfText 89 = .ok (.if_icmp .eq 8, 3) := by decide +kernel
theorem d_Ty_faultOfText_92 : decode b_Ty_faultOfText 92 = .ok (.iload_n 1, 1) := by decide +kernel
theorem d_Ty_faultOfText_93 : decode b_Ty_faultOfText 93 = .ok (.iconst 4, 1) := by decide +kernel
theorem d_Ty_faultOfText_94 : decode b_Ty_faultOfText 94 = .ok (.if_icmp .ne 7, 3) := by decide +kernel
theorem d_Ty_faultOfText_97 : decode b_Ty_faultOfText 97 = .ok (.iconst (-1), 1) := by decide +kernel
theorem d_Ty_faultOfText_98 : decode b_Ty_faultOfText 98 = .ok (.goto 7, 3) := by decide +kernel
theorem d_Ty_faultOfText_101 : decode b_Ty_faultOfText 101 = .ok (.aload_n 0, 1) := by decide +kernel
theorem d_Ty_faultOfText_102 : decode b_Ty_faultOfText 102 = .ok (.getfield 26, 3) := by decide +kernel
theorem d_Ty_faultOfText_105 : decode b_Ty_faultOfText 105 = .ok (.ireturn, 1) := by decide +kernel
theorem d_Ty_stateAfter_0 : decode b_Ty_stateAfter 0 = .ok (.iload_n 1, 1) := by decide +kernel
theorem d_Ty_stateAfter_1 : decode b_Ty_stateAfter 1 = .ok (.bipush 48, 2) := by decide +kernel
theorem d_Ty_stateAfter_3 : decode b_Ty_stateAfter 3 = .ok (.if_icmp .lt 14, 3) := by decide +kernel
theorem d_Ty_stateAfter_6 : decode b_Ty_stateAfter 6 = .ok (.iload_n 1, 1) := by decide +kernel
theorem d_Ty_stateAfter_7 : decode b_Ty_stateAfter 7 = .ok (.bipush 57, 2) := by decide +kernel
theorem d_Ty_stateAfter_9 : decode b_Ty_stateAfter 9 = .ok (.if_icmp .gt 8, 3) := by decide +kernel
theorem d_Ty_stateAfter_12 : decode b_Ty_stateAfter 12 = .ok (.iload_n 0, 1) := by decide +kernel
theorem d_Ty_stateAfter_13 : decode b_Ty_stateAfter 13 = .ok (.invokestatic 37, 3) := by decide +kernel
theorem d_Ty_stateAfter_16 : decode b_Ty_stateAfter 16 = .ok (.ireturn, 1) := by decide +kernel
theorem d_Ty_stateAfter_17 : decode b_Ty_stateAfter 17 = .ok (.iload_n 1, 1) := by decide +kernel
theorem d_Ty_stateAfter_18 : decode b_Ty_stateAfter 18 = .ok (.bipush 45, 2) := by decide +kernel
theorem d_Ty_stateAfter_20 : decode b_Ty_stateAfter 20 = .ok (.if_icmp .ne 9, 3) := by decide +kernel
theorem d_Ty_stateAfter_23 : decode b_Ty_stateAfter 23 = .ok (.iload_n 0, 1) := by decide +kernel
theorem d_Ty_stateAfter_24 : decode b_Ty_stateAfter 24 = .ok (.ifCond .ne 5, 3) := by decide +kernel
theorem d_Ty_stateAfter_27 : decode b_Ty_stateAfter 27 = .ok (.iconst 1, 1) := by decide +kernel
theorem d_Ty_stateAfter_28 : decode b_Ty_stateAfter 28 = .ok (.ireturn, 1) := by decide +kernel
theorem d_Ty_stateAfter_29 : decode b_Ty_stateAfter 29 = .ok (.iload_n 1, 1) := by decide +kernel
theorem d_Ty_stateAfter_30 : decode b_Ty_stateAfter 30 = .ok (.bipush 46, 2) := by decide +kernel
theorem d_Ty_stateAfter_32 : decode b_Ty_stateAfter 32 = .ok (.if_icmp .ne 10, 3) := by decide +kernel
theorem d_Ty_stateAfter_35 : decode b_Ty_stateAfter 35 = .ok (.iload_n 0, 1) := by decide +kernel
theorem d_Ty_stateAfter_36 : decode b_Ty_stateAfter 36 = .ok (.iconst 2, 1) := by decide +kernel
theorem d_Ty_stateAfter_37 : decode b_Ty_stateAfter 37 = .ok (.if_icmp .ne 5, 3) := by decide +kernel
theorem d_Ty_stateAfter_40 : decode b_Ty_stateAfter 40 = .ok (.iconst 3, 1) := by decide +kernel
theorem d_Ty_stateAfter_41 : decode b_Ty_stateAfter 41 = .ok (.ireturn, 1) := by decide +kernel
theorem d_Ty_stateAfter_42 : decode b_Ty_stateAfter 42 = .ok (.iload_n 1, 1) := by decide +kernel
theorem d_Ty_stateAfter_43 : decode b_Ty_stateAfter 43 = .ok (.bipush 47, 2) := by decide +kernel
theorem d_Ty_stateAfter_45 : decode b_Ty_stateAfter 45 = .ok (.if_icmp .ne 12, 3) := by decide +kernel
theorem d_Ty_stateAfter_48 : decode b_Ty_stateAfter 48 = .ok (.iload_n 0, 1) := by decide +kernel
theorem d_Ty_stateAfter_49 : decode b_Ty_stateAfter 49 = .ok (.iconst 2, 1) := by decide +kernel
theorem d_Ty_stateAfter_50 : decode b_Ty_stateAfter 50 = .ok (.if_icmp .ne 7, 3) := by decide +kernel
theorem d_Ty_stateAfter_53 : decode b_Ty_stateAfter 53 = .ok (.iconst 5, 1) := by decide +kernel
theorem d_Ty_stateAfter_54 : decode b_Ty_stateAfter 54 = .ok (.goto 4, 3) := by decide +kernel
theorem d_Ty_stateAfter_57 : decode b_Ty_stateAfter 57 = .ok (.iconst (-1), 1) := by decide +kernel
theorem d_Ty_stateAfter_58 : decode b_Ty_stateAfter 58 = .ok (.ireturn, 1) := by decide +kernel
theorem d_Ty_stateAfterFigure_0 : decode b_Ty_stateAfterFigure 0 = .ok (.iload_n 0, 1) := by decide +kernel
theorem d_Ty_stateAfterFigure_1 : decode b_Ty_stateAfterFigure 1 = .ok (.tableswitch 36 3 6 #[31, 31, 33, 33], 31) := by decide +kernel
theorem d_Ty_stateAfterFigure_32 : decode b_Ty_stateAfterFigure 32 = .ok (.iconst 4, 1) := by decide +kernel
theorem d_Ty_stateAfterFigure_33 : decode b_Ty_stateAfterFigure 33 = .ok (.ireturn, 1) := by decide +kernel
theorem d_Ty_stateAfterFigure_34 : decode b_Ty_stateAfterFigure 34 = .ok (.bipush 6, 2) := by decide +kernel
theorem d_Ty_stateAfterFigure_36 : decode b_Ty_stateAfterFigure 36 = .ok (.ireturn, 1) := by decide +kernel
theorem d_Ty_stateAfterFigure_37 : decode b_Ty_stateAfterFigure 37 = .ok (.iconst 2, 1) := by decide +kernel
theorem d_Ty_stateAfterFigure_38 : decode b_Ty_stateAfterFigure 38 = .ok (.ireturn, 1) := by decide +kernel
theorem d_Ty_numberInto_0 : decode b_Ty_numberInto 0 = .ok (.aload_n 1, 1) := by decide +kernel
theorem d_Ty_numberInto_1 : decode b_Ty_numberInto 1 = .ok (.invokevirtual 41, 3) := by decide +kernel
theorem d_Ty_numberInto_4 : decode b_Ty_numberInto 4 = .ok (.iconst 0, 1) := by decide +kernel
theorem d_Ty_numberInto_5 : decode b_Ty_numberInto 5 = .ok (.istore_n 2, 1) := by decide +kernel
theorem d_Ty_numberInto_6 : decode b_Ty_numberInto 6 = .ok (.aload_n 1, 1) := by decide +kernel
theorem d_Ty_numberInto_7 : decode b_Ty_numberInto 7 = .ok (.getfield 46, 3) := by decide +kernel
theorem d_Ty_numberInto_10 : decode b_Ty_numberInto 10 = .ok (.astore_n 3, 1) := by decide +kernel
theorem d_Ty_numberInto_11 : decode b_Ty_numberInto 11 = .ok (.iconst 0, 1) := by decide +kernel
theorem d_Ty_numberInto_12 : decode b_Ty_numberInto 12 = .ok (.istore 4, 2) := by decide +kernel
theorem d_Ty_numberInto_14 : decode b_Ty_numberInto 14 = .ok (.iload 4, 2) := by decide +kernel
theorem d_Ty_numberInto_16 : decode b_Ty_numberInto 16 = .ok (.aload_n 0, 1) := by decide +kernel
theorem d_Ty_numberInto_17 : decode b_Ty_numberInto 17 = .ok (.getfield 26, 3) := by decide +kernel
theorem d_Ty_numberInto_20 : decode b_Ty_numberInto 20 = .ok (.if_icmp .ge 86, 3) := by decide +kernel
theorem d_Ty_numberInto_23 : decode b_Ty_numberInto 23 = .ok (.aload_n 0, 1) := by decide +kernel
theorem d_Ty_numberInto_24 : decode b_Ty_numberInto 24 = .ok (.getfield 9, 3) := by decide +kernel
theorem d_Ty_numberInto_27 : decode b_Ty_numberInto 27 = .ok (.iload 4, 2) := by decide +kernel
theorem d_Ty_numberInto_29 : decode b_Ty_numberInto 29 = .ok (.caload, 1) := by decide +kernel
theorem d_Ty_numberInto_30 : decode b_Ty_numberInto 30 = .ok (.istore 5, 2) := by decide +kernel
theorem d_Ty_numberInto_32 : decode b_Ty_numberInto 32 = .ok (.iload 5, 2) := by decide +kernel
theorem d_Ty_numberInto_34 : decode b_Ty_numberInto 34 = .ok (.bipush 46, 2) := by decide +kernel
theorem d_Ty_numberInto_36 : decode b_Ty_numberInto 36 = .ok (.if_icmp .ne 8, 3) := by decide +kernel
theorem d_Ty_numberInto_39 : decode b_Ty_numberInto 39 = .ok (.iconst 1, 1) := by decide +kernel
theorem d_Ty_numberInto_40 : decode b_Ty_numberInto 40 = .ok (.istore_n 2, 1) := by decide +kernel
theorem d_Ty_numberInto_41 : decode b_Ty_numberInto 41 = .ok (.goto 59, 3) := by decide +kernel
theorem d_Ty_numberInto_44 : decode b_Ty_numberInto 44 = .ok (.iload 5, 2) := by decide +kernel
theorem d_Ty_numberInto_46 : decode b_Ty_numberInto 46 = .ok (.bipush 47, 2) := by decide +kernel
theorem d_Ty_numberInto_48 : decode b_Ty_numberInto 48 = .ok (.if_icmp .ne 16, 3) := by decide +kernel
theorem d_Ty_numberInto_51 : decode b_Ty_numberInto 51 = .ok (.aload_n 1, 1) := by decide +kernel
theorem d_Ty_numberInto_52 : decode b_Ty_numberInto 52 = .ok (.getfield 50, 3) := by decide +kernel
theorem d_Ty_numberInto_55 : decode b_Ty_numberInto 55 = .ok (.astore_n 3, 1) := by decide +kernel
theorem d_Ty_numberInto_56 : decode b_Ty_numberInto 56 = .ok (.aload_n 3, 1) := by decide +kernel
theorem d_Ty_numberInto_57 : decode b_Ty_numberInto 57 = .ok (.lconst 0, 1) := by decide +kernel
theorem d_Ty_numberInto_58 : decode b_Ty_numberInto 58 = .ok (.invokevirtual 53, 3) := by decide +kernel
theorem d_Ty_numberInto_61 : decode b_Ty_numberInto 61 = .ok (.goto 39, 3) := by decide +kernel
theorem d_Ty_numberInto_64 : decode b_Ty_numberInto 64 = .ok (.iload 5, 2) := by decide +kernel
theorem d_Ty_numberInto_66 : decode b_Ty_numberInto 66 = .ok (.bipush 45, 2) := by decide +kernel
theorem d_Ty_numberInto_68 : decode b_Ty_numberInto 68 = .ok (.if_icmp .eq 32, 3) := by decide +kernel
theorem d_Ty_numberInto_71 : decode b_Ty_numberInto 71 = .ok (.aload_n 3, 1) := by decide +kernel
theorem d_Ty_numberInto_72 : decode b_Ty_numberInto 72 = .ok (.bipush 10, 2) := by decide +kernel
theorem d_Ty_numberInto_74 : decode b_Ty_numberInto 74 = .ok (.iload 5, 2) := by decide +kernel
theorem d_Ty_numberInto_76 : decode b_Ty_numberInto 76 = .ok (.bipush 48, 2) := by decide +kernel
theorem d_Ty_numberInto_78 : decode b_Ty_numberInto 78 = .ok (.isub, 1) := by decide +kernel
theorem d_Ty_numberInto_79 : decode b_Ty_numberInto 79 = .ok (.invokevirtual 59, 3) := by decide +kernel
theorem d_Ty_numberInto_82 : decode b_Ty_numberInto 82 = .ok (.aload_n 1, 1) := by decide +kernel
theorem d_Ty_numberInto_83 : decode b_Ty_numberInto 83 = .ok (.getfield 50, 3) := by decide +kernel
theorem d_Ty_numberInto_86 : decode b_Ty_numberInto 86 = .ok (.iload_n 2, 1) := by decide +kernel
theorem d_Ty_numberInto_87 : decode b_Ty_numberInto 87 = .ok (.ifCond .eq 8, 3) := by decide +kernel
theorem d_Ty_numberInto_90 : decode b_Ty_numberInto 90 = .ok (.bipush 10, 2) := by decide +kernel
theorem d_Ty_numberInto_92 : decode b_Ty_numberInto 92 = .ok (.goto 4, 3) := by decide +kernel
theorem d_Ty_numberInto_95 : decode b_Ty_numberInto 95 = .ok (.iconst 1, 1) := by decide +kernel
theorem d_Ty_numberInto_96 : decode b_Ty_numberInto 96 = .ok (.iconst 0, 1) := by decide +kernel
theorem d_Ty_numberInto_97 : decode b_Ty_numberInto 97 = .ok (.invokevirtual 59, 3) := by decide +kernel
theorem d_Ty_numberInto_100 : decode b_Ty_numberInto 100 = .ok (.iinc 4 1, 3) := by decide +kernel
theorem d_Ty_numberInto_103 : decode b_Ty_numberInto 103 = .ok (.goto (-89), 3) := by decide +kernel
theorem d_Ty_numberInto_106 : decode b_Ty_numberInto 106 = .ok (.aload_n 0, 1) := by decide +kernel
theorem d_Ty_numberInto_107 : decode b_Ty_numberInto 107 = .ok (.getfield 26, 3) := by decide +kernel
theorem d_Ty_numberInto_110 : decode b_Ty_numberInto 110 = .ok (.ifCond .le 18, 3) := by decide +kernel
theorem d_Ty_numberInto_113 : decode b_Ty_numberInto 113 = .ok (.aload_n 0, 1) := by decide +kernel
theorem d_Ty_numberInto_114 : decode b_Ty_numberInto 114 = .ok (.getfield 9, 3) := by decide +kernel
theorem d_Ty_numberInto_117 : decode b_Ty_numberInto 117 = .ok (.iconst 0, 1) := by decide +kernel
theorem d_Ty_numberInto_118 : decode b_Ty_numberInto 118 = .ok (.caload, 1) := by decide +kernel
theorem d_Ty_numberInto_119 : decode b_Ty_numberInto 119 = .ok (.bipush 45, 2) := by decide +kernel
theorem d_Ty_numberInto_121 : decode b_Ty_numberInto 121 = .ok (.if_icmp .ne 7, 3) := by decide +kernel
theorem d_Ty_numberInto_124 : decode b_Ty_numberInto 124 = .ok (.iconst (-1), 1) := by decide +kernel
theorem d_Ty_numberInto_125 : decode b_Ty_numberInto 125 = .ok (.goto 4, 3) := by decide +kernel
theorem d_Ty_numberInto_128 : decode b_Ty_numberInto 128 = .ok (.iconst 1, 1) := by decide +kernel
theorem d_Ty_numberInto_129 : decode b_Ty_numberInto 129 = .ok (.istore 4, 2) := by decide +kernel
theorem d_Ty_numberInto_131 : decode b_Ty_numberInto 131 = .ok (.aload_n 1, 1) := by decide +kernel
theorem d_Ty_numberInto_132 : decode b_Ty_numberInto 132 = .ok (.aload_n 1, 1) := by decide +kernel
theorem d_Ty_numberInto_133 : decode b_Ty_numberInto 133 = .ok (.getfield 46, 3) := by decide +kernel
theorem d_Ty_numberInto_136 : decode b_Ty_numberInto 136 = .ok (.getfield 63, 3) := by decide +kernel
theorem d_Ty_numberInto_139 : decode b_Ty_numberInto 139 = .ok (.ifCond .ne 7, 3) := by decide +kernel
theorem d_Ty_numberInto_142 : decode b_Ty_numberInto 142 = .ok (.iconst 0, 1) := by decide +kernel
theorem d_Ty_numberInto_143 : decode b_Ty_numberInto 143 = .ok (.goto 5, 3) := by decide +kernel
theorem d_Ty_numberInto_146 : decode b_Ty_numberInto 146 = .ok (.iload 4, 2) := by decide +kernel
theorem d_Ty_numberInto_148 : decode b_Ty_numberInto 148 = .ok (.putfield 66, 3) := by decide +kernel
theorem d_Ty_numberInto_151 : decode b_Ty_numberInto 151 = .ok (.return_, 1) := by decide +kernel
