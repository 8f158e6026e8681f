theorem d_jMath_max_0 : decode b_jMath_max 0 = .ok (.iload_n 0, 1) := by decide +kernel
theorem d_jMath_max_1 : decode b_jMath_max 1 = .ok (.iload_n 1, 1) := by decide +kernel
theorem d_jMath_max_2 : decode b_jMath_max 2 = .ok (.if_icmp .lt 7, 3) := by decide +kernel
theorem d_jMath_max_5 : decode b_jMath_max 5 = .ok (.iload_n 0, 1) := by decide +kernel
theorem d_jMath_max_6 : decode b_jMath_max 6 = .ok (.goto 4, 3) := by decide +kernel
theorem d_jMath_max_9 : decode b_jMath_max 9 = .ok (.iload_n 1, 1) := by decide +kernel
theorem d_jMath_max_10 : decode b_jMath_max 10 = .ok (.ireturn, 1) := by decide +kernel
theorem d_jMath_abs_JJ_0 : decode b_jMath_abs_JJ 0 = .ok (.lload_n 0, 1) := by decide +kernel
theorem d_jMath_abs_JJ_1 : decode b_jMath_abs_JJ 1 = .ok (.lconst 0, 1) := by decide +kernel
theorem d_jMath_abs_JJ_2 : decode b_jMath_abs_JJ 2 = .ok (.lcmp, 1) := by decide +kernel
theorem d_jMath_abs_JJ_3 : decode b_jMath_abs_JJ 3 = .ok (.ifCond .ge 8, 3) := by decide +kernel
theorem d_jMath_abs_JJ_6 : decode b_jMath_abs_JJ 6 = .ok (.lload_n 0, 1) := by decide +kernel
theorem d_jMath_abs_JJ_7 : decode b_jMath_abs_JJ 7 = .ok (.lneg, 1) := by decide +kernel
theorem d_jMath_abs_JJ_8 : decode b_jMath_abs_JJ 8 = .ok (.goto 4, 3) := by decide +kernel
theorem d_jMath_abs_JJ_11 : decode b_jMath_abs_JJ 11 = .ok (.lload_n 0, 1) := by decide +kernel
theorem d_jMath_abs_JJ_12 : decode b_jMath_abs_JJ 12 = .ok (.lreturn, 1) := by decide +kernel
theorem d_jMath_min_0 : decode b_jMath_min 0 = .ok (.iload_n 0, 1) := by decide +kernel
theorem d_jMath_min_1 : decode b_jMath_min 1 = .ok (.iload_n 1, 1) := by decide +kernel
theorem d_jMath_min_2 : decode b_jMath_min 2 = .ok (.if_icmp .gt 7, 3) := by decide +kernel
theorem d_jMath_min_5 : decode b_jMath_min 5 = .ok (.iload_n 0, 1) := by decide +kernel
theorem d_jMath_min_6 : decode b_jMath_min 6 = .ok (.goto 4, 3) := by decide +kernel
theorem d_jMath_min_9 : decode b_jMath_min 9 = .ok (.iload_n 1, 1) := by decide +kernel
theorem d_jMath_min_10 : decode b_jMath_min 10 = .ok (.ireturn, 1) := by decide +kernel
theorem d_jMath_abs_II_0 : decode b_jMath_abs_II 0 = .ok (.iload_n 0, 1) := by decide +kernel
theorem d_jMath_abs_II_1 : decode b_jMath_abs_II 1 = .ok (.ifCond .ge 8, 3) := by decide +kernel
theorem d_jMath_abs_II_4 : decode b_jMath_abs_II 4 = .ok (.iload_n 0, 1) := by decide +kernel
theorem d_jMath_abs_II_5 : decode b_jMath_abs_II 5 = .ok (.ineg, 1) := by decide +kernel
theorem d_jMath_abs_II_6 : decode b_jMath_abs_II 6 = .ok (.goto 4, 3) := by decide +kernel
theorem d_jMath_abs_II_9 : decode b_jMath_abs_II 9 = .ok (.iload_n 0, 1) := by decide +kernel
theorem d_jMath_abs_II_10 : decode b_jMath_abs_II 10 = .ok (.ireturn, 1) := by decide +kernel
theorem d_jInt_numberOfLeadingZeros_0 : decode b_jInt_numberOfLeadingZeros 0 = .ok (.iload_n 0, 1) := by decide +kernel
theorem d_jInt_numberOfLeadingZeros_1 : decode b_jInt_numberOfLeadingZeros 1 = .ok (.ifCond .gt 14, 3) := by decide +kernel
theorem d_jInt_numberOfLeadingZeros_4 : decode b_jInt_numberOfLeadingZeros 4 = .ok (.iload_n 0, 1) := by decide +kernel
theorem d_jInt_numberOfLeadingZeros_5 : decode b_jInt_numberOfLeadingZeros 5 = .ok (.ifCond .ne 8, 3) := by decide +kernel
theorem d_jInt_numberOfLeadingZeros_8 : decode b_jInt_numberOfLeadingZeros 8 = .ok (.bipush 32, 2) := by decide +kernel
theorem d_jInt_numberOfLeadingZeros_10 : decode b_jInt_numberOfLeadingZeros 10 = .ok (.goto 4, 3) := by decide +kernel
theorem d_jInt_numberOfLeadingZeros_13 : decode b_jInt_numberOfLeadingZeros 13 = .ok (.iconst 0, 1) := by decide +kernel
theorem d_jInt_numberOfLeadingZeros_14 : decode b_jInt_numberOfLeadingZeros 14 = .ok (.ireturn, 1) := by decide +kernel
theorem d_jInt_numberOfLeadingZeros_15 : decode b_jInt_numberOfLeadingZeros 15 = .ok (.bipush 31, 2) := by decide +kernel
theorem d_jInt_numberOfLeadingZeros_17 : decode b_jInt_numberOfLeadingZeros 17 = .ok (.istore_n 1, 1) := by decide +kernel
theorem d_jInt_numberOfLeadingZeros_18 : decode b_jInt_numberOfLeadingZeros 18 = .ok (.iload_n 0, 1) := by decide +kernel
theorem d_jInt_numberOfLeadingZeros_19 : decode b_jInt_numberOfLeadingZeros 19 = .ok (.ldc_w 264, 3) := by decide +kernel
theorem d_jInt_numberOfLeadingZeros_22 : decode b_jInt_numberOfLeadingZeros 22 = .ok (.if_icmp .lt 11, 3) := by decide +kernel
theorem d_jInt_numberOfLeadingZeros_25 : decode b_jInt_numberOfLeadingZeros 25 = .ok (.iinc 1 (-16), 3) := by decide +kernel
theorem d_jInt_numberOfLeadingZeros_28 : decode b_jInt_numberOfLeadingZeros 28 = .ok (.iload_n 0, 1) := by decide +kernel
theorem d_jInt_numberOfLeadingZeros_29 : decode b_jInt_numberOfLeadingZeros 29 = .ok (.bipush 16, 2) := by decide +kernel
theorem d_jInt_numberOfLeadingZeros_31 : decode b_jInt_numberOfLeadingZeros 31 = .ok (.iushr, 1) := by decide +kernel
theorem d_jInt_numberOfLeadingZeros_32 : decode b_jInt_numberOfLeadingZeros 32 = .ok (.istore_n 0, 1) := by decide +kernel
theorem d_jInt_numberOfLeadingZeros_33 : decode b_jInt_numberOfLeadingZeros 33 = .ok (.iload_n 0, 1) := by decide +kernel
theorem d_jInt_numberOfLeadingZeros_34 : decode b_jInt_numberOfLeadingZeros 34 = .ok (.sipush 256, 3) := by decide +kernel
theorem d_jInt_numberOfLeadingZeros_37 : decode b_jInt_numberOfLeadingZeros 37 = .ok (.if_icmp .lt 11, 3) := by decide +kernel
theorem d_jInt_numberOfLeadingZeros_40 : decode b_jInt_numberOfLeadingZeros 40 = .ok (.iinc 1 (-8), 3) := by decide +kernel
theorem d_jInt_numberOfLeadingZeros_43 : decode b_jInt_numberOfLeadingZeros 43 = .ok (.iload_n 0, 1) := by decide +kernel
theorem d_jInt_numberOfLeadingZeros_44 : decode b_jInt_numberOfLeadingZeros 44 = .ok (.bipush 8, 2) := by decide +kernel
theorem d_jInt_numberOfLeadingZeros_46 : decode b_jInt_numberOfLeadingZeros 46 = .ok (.iushr, 1) := by decide +kernel
theorem d_jInt_numberOfLeadingZeros_47 : decode b_jInt_numberOfLeadingZeros 47 = .ok (.istore_n 0, 1) := by decide +kernel
theorem d_jInt_numberOfLeadingZeros_48 : decode b_jInt_numberOfLeadingZeros 48 = .ok (.iload_n 0, 1) := by decide +kernel
theorem d_jInt_numberOfLeadingZeros_49 : decode b_jInt_numberOfLeadingZeros 49 = .ok (.bipush 16, 2) := by decide +kernel
theorem d_jInt_numberOfLeadingZeros_51 : decode b_jInt_numberOfLeadingZeros 51 = .ok (.if_icmp .lt 10, 3) := by decide +kernel
theorem d_jInt_numberOfLeadingZeros_54 : decode b_jInt_numberOfLeadingZeros 54 = .ok (.iinc 1 (-4), 3) := by decide +kernel
theorem d_jInt_numberOfLeadingZeros_57 : decode b_jInt_numberOfLeadingZeros 57 = .ok (.iload_n 0, 1) := by decide +kernel
theorem d_jInt_numberOfLeadingZeros_58 : decode b_jInt_numberOfLeadingZeros 58 = .ok (.iconst 4, 1) := by decide +kernel
theorem d_jInt_numberOfLeadingZeros_59 : decode b_jInt_numberOfLeadingZeros 59 = .ok (.iushr, 1) := by decide +kernel
theorem d_jInt_numberOfLeadingZeros_60 : decode b_jInt_numberOfLeadingZeros 60 = .ok (.istore_n 0, 1) := by decide +kernel
theorem d_jInt_numberOfLeadingZeros_61 : decode b_jInt_numberOfLeadingZeros 61 = .ok (.iload_n 0, 1) := by decide +kernel
theorem d_jInt_numberOfLeadingZeros_62 : decode b_jInt_numberOfLeadingZeros 62 = .ok (.iconst 4, 1) := by decide +kernel
theorem d_jInt_numberOfLeadingZeros_63 : decode b_jInt_numberOfLeadingZeros 63 = .ok (.if_icmp .lt 10, 3) := by decide +kernel
theorem d_jInt_numberOfLeadingZeros_66 : decode b_jInt_numberOfLeadingZeros 66 = .ok (.iinc 1 (-2), 3) := by decide +kernel
theorem d_jInt_numberOfLeadingZeros_69 : decode b_jInt_numberOfLeadingZeros 69 = .ok (.iload_n 0, 1) := by decide +kernel
theorem d_jInt_numberOfLeadingZeros_70 : decode b_jInt_numberOfLeadingZeros 70 = .ok (.iconst 2, 1) := by decide +kernel
theorem d_jInt_numberOfLeadingZeros_71 : decode b_jInt_numberOfLeadingZeros 71 = .ok (.iushr, 1) := by decide +kernel
theorem d_jInt_numberOfLeadingZeros_72 : decode b_jInt_numberOfLeadingZeros 72 = .ok (.istore_n 0, 1) := by decide +kernel
theorem d_jInt_numberOfLeadingZeros_73 : decode b_jInt_numberOfLeadingZeros 73 = .ok (.iload_n 1, 1) := by decide +kernel
theorem d_jInt_numberOfLeadingZeros_74 : decode b_jInt_numberOfLeadingZeros 74 = .ok (.iload_n 0, 1) := by decide +kernel
theorem d_jInt_numberOfLeadingZeros_75 : decode b_jInt_numberOfLeadingZeros 75 = .ok (.iconst 1, 1) := by decide +kernel
theorem d_jInt_numberOfLeadingZeros_76 : decode b_jInt_numberOfLeadingZeros 76 = .ok (.iushr, 1) := by decide +kernel
theorem d_jInt_numberOfLeadingZeros_77 : decode b_jInt_numberOfLeadingZeros 77 = .ok (.isub, 1) := by decide +kernel
theorem d_jInt_numberOfLeadingZeros_78 : decode b_jInt_numberOfLeadingZeros 78 = .ok (.ireturn, 1) := by decide +kernel
theorem d_jInt_numberOfTrailingZeros_0 : decode b_jInt_numberOfTrailingZeros 0 = .ok (.iload_n 0, 1) := by decide +kernel
theorem d_jInt_numberOfTrailingZeros_1 : decode b_jInt_numberOfTrailingZeros 1 = .ok (.iconst (-1), 1) := by decide +kernel
theorem d_jInt_numberOfTrailingZeros_2 : decode b_jInt_numberOfTrailingZeros 2 = .ok (.ixor, 1) := by decide +kernel
theorem d_jInt_numberOfTrailingZeros_3 : decode b_jInt_numberOfTrailingZeros 3 = .ok (.iload_n 0, 1) := by decide +kernel
theorem d_jInt_numberOfTrailingZeros_4 : decode b_jInt_numberOfTrailingZeros 4 = .ok (.iconst 1, 1) := by decide +kernel
theorem d_jInt_numberOfTrailingZeros_5 : decode b_jInt_numberOfTrailingZeros 5 = .ok (.isub, 1) := by decide +kernel
theorem d_jInt_numberOfTrailingZeros_6 : decode b_jInt_numberOfTrailingZeros 6 = .ok (.iand, 1) := by decide +kernel
theorem d_jInt_numberOfTrailingZeros_7 : decode b_jInt_numberOfTrailingZeros 7 = .ok (.istore_n 0, 1) := by decide +kernel
theorem d_jInt_numberOfTrailingZeros_8 : decode b_jInt_numberOfTrailingZeros 8 = .ok (.iload_n 0, 1) := by decide +kernel
theorem d_jInt_numberOfTrailingZeros_9 : decode b_jInt_numberOfTrailingZeros 9 = .ok (.ifCond .gt 8, 3) := by decide +kernel
theorem d_jInt_numberOfTrailingZeros_12 : decode b_jInt_numberOfTrailingZeros 12 = .ok (.iload_n 0, 1) := by decide +kernel
theorem d_jInt_numberOfTrailingZeros_13 : decode b_jInt_numberOfTrailingZeros 13 = .ok (.bipush 32, 2) := by decide +kernel
theorem d_jInt_numberOfTrailingZeros_15 : decode b_jInt_numberOfTrailingZeros 15 = .ok (.iand, 1) := by decide +kernel
theorem d_jInt_numberOfTrailingZeros_16 : decode b_jInt_numberOfTrailingZeros 16 = .ok (.ireturn, 1) := by decide +kernel
theorem d_jInt_numberOfTrailingZeros_17 : decode b_jInt_numberOfTrailingZeros 17 = .ok (.iconst 1, 1) := by decide +kernel
theorem d_jInt_numberOfTrailingZeros_18 : decode b_jInt_numberOfTrailingZeros 18 = .ok (.istore_n 1, 1) := by decide +kernel
theorem d_jInt_numberOfTrailingZeros_19 : decode b_jInt_numberOfTrailingZeros 19 = .ok (.iload_n 0, 1) := by decide +kernel
theorem d_jInt_numberOfTrailingZeros_20 : decode b_jInt_numberOfTrailingZeros 20 = .ok (.ldc_w 264, 3) := by decide +kernel
theorem d_jInt_numberOfTrailingZeros_23 : decode b_jInt_numberOfTrailingZeros 23 = .ok (.if_icmp .le 11, 3) := by decide +kernel
theorem d_jInt_numberOfTrailingZeros_26 : decode b_jInt_numberOfTrailingZeros 26 = .ok (.iinc 1 16, 3) := by decide +kernel
theorem d_jInt_numberOfTrailingZeros_29 : decode b_jInt_numberOfTrailingZeros 29 = .ok (.iload_n 0, 1) := by decide +kernel
theorem d_jInt_numberOfTrailingZeros_30 : decode b_jInt_numberOfTrailingZeros 30 = .ok (.bipush 16, 2) := by decide +kernel
theorem d_jInt_numberOfTrailingZeros_32 : decode b_jInt_numberOfTrailingZeros 32 = .ok (.iushr, 1) := by decide +kernel
theorem d_jInt_numberOfTrailingZeros_33 : decode b_jInt_numberOfTrailingZeros 33 = .ok (.istore_n 0, 1) := by decide +kernel
theorem d_jInt_numberOfTrailingZeros_34 : decode b_jInt_numberOfTrailingZeros 34 = .ok (.iload_n 0, 1) := by decide +kernel
theorem d_jInt_numberOfTrailingZeros_35 : decode b_jInt_numberOfTrailingZeros 35 = .ok (.sipush 256, 3) := by decide +kernel
theorem d_jInt_numberOfTrailingZeros_38 : decode b_jInt_numberOfTrailingZeros 38 = .ok (.if_icmp .le 11, 3) := by decide +kernel
theorem d_jInt_numberOfTrailingZeros_41 : decode b_jInt_numberOfTrailingZeros 41 = .ok (.iinc 1 8, 3) := by decide +kernel
theorem d_jInt_numberOfTrailingZeros_44 : decode b_jInt_numberOfTrailingZeros 44 = .ok (.iload_n 0, 1) := by decide +kernel
theorem d_jInt_numberOfTrailingZeros_45 : decode b_jInt_numberOfTrailingZeros 45 = .ok (.bipush 8, 2) := by decide +kernel
theorem d_jInt_numberOfTrailingZeros_47 : decode b_jInt_numberOfTrailingZeros 47 = .ok (.iushr, 1) := by decide +kernel
theorem d_jInt_numberOfTrailingZeros_48 : decode b_jInt_numberOfTrailingZeros 48 = .ok (.istore_n 0, 1) := by decide +kernel
theorem d_jInt_numberOfTrailingZeros_49 : decode b_jInt_numberOfTrailingZeros 49 = .ok (.iload_n 0, 1) := by decide +kernel
theorem d_jInt_numberOfTrailingZeros_50 : decode b_jInt_numberOfTrailingZeros 50 = .ok (.bipush 16, 2) := by decide +kernel
theorem d_jInt_numberOfTrailingZeros_52 : decode b_jInt_numberOfTrailingZeros 52 = .ok (.if_icmp .le 10, 3) := by decide +kernel
theorem d_jInt_numberOfTrailingZeros_55 : decode b_jInt_numberOfTrailingZeros 55 = .ok (.iinc 1 4, 3) := by decide +kernel
theorem d_jInt_numberOfTrailingZeros_58 : decode b_jInt_numberOfTrailingZeros 58 = .ok (.iload_n 0, 1) := by decide +kernel
theorem d_jInt_numberOfTrailingZeros_59 : decode b_jInt_numberOfTrailingZeros 59 = .ok (.iconst 4, 1) := by decide +kernel
theorem d_jInt_numberOfTrailingZeros_60 : decode b_jInt_numberOfTrailingZeros 60 = .ok (.iushr, 1) := by decide +kernel
theorem d_jInt_numberOfTrailingZeros_61 : decode b_jInt_numberOfTrailingZeros 61 = .ok (.istore_n 0, 1) := by decide +kernel
theorem d_jInt_numberOfTrailingZeros_62 : decode b_jInt_numberOfTrailingZeros 62 = .ok (.iload_n 0, 1) := by decide +kernel
theorem d_jInt_numberOfTrailingZeros_63 : decode b_jInt_numberOfTrailingZeros 63 = .ok (.iconst 4, 1) := by decide +kernel
theorem d_jInt_numberOfTrailingZeros_64 : decode b_jInt_numberOfTrailingZeros 64 = .ok (.if_icmp .le 10, 3) := by decide +kernel
theorem d_jInt_numberOfTrailingZeros_67 : decode b_jInt_numberOfTrailingZeros 67 = .ok (.iinc 1 2, 3) := by decide +kernel
theorem d_jInt_numberOfTrailingZeros_70 : decode b_jInt_numberOfTrailingZeros 70 = .ok (.iload_n 0, 1) := by decide +kernel
theorem d_jInt_numberOfTrailingZeros_71 : decode b_jInt_numberOfTrailingZeros 71 = .ok (.iconst 2, 1) := by decide +kernel
theorem d_jInt_numberOfTrailingZeros_72 : decode b_jInt_numberOfTrailingZeros 72 = .ok (.iushr, 1) := by decide +kernel
theorem d_jInt_numberOfTrailingZeros_73 : decode b_jInt_numberOfTrailingZeros 73 = .ok (.istore_n 0, 1) := by decide +kernel
theorem d_jInt_numberOfTrailingZeros_74 : decode b_jInt_numberOfTrailingZeros 74 = .ok (.iload_n 1, 1) := by decide +kernel
theorem d_jInt_numberOfTrailingZeros_75 : decode b_jInt_numberOfTrailingZeros 75 = .ok (.iload_n 0, 1) := by decide +kernel
theorem d_jInt_numberOfTrailingZeros_76 : decode b_jInt_numberOfTrailingZeros 76 = .ok (.iconst 1, 1) := by decide +kernel
theorem d_jInt_numberOfTrailingZeros_77 : decode b_jInt_numberOfTrailingZeros 77 = .ok (.iushr, 1) := by decide +kernel
theorem d_jInt_numberOfTrailingZeros_78 : decode b_jInt_numberOfTrailingZeros 78 = .ok (.iadd, 1) := by decide +kernel
theorem d_jInt_numberOfTrailingZeros_79 : decode b_jInt_numberOfTrailingZeros 79 = .ok (.ireturn, 1) := by decide +kernel
theorem d_jInt_compare_0 : decode b_jInt_compare 0 = .ok (.iload_n 0, 1) := by decide +kernel
theorem d_jInt_compare_1 : decode b_jInt_compare 1 = .ok (.iload_n 1, 1) := by decide +kernel
theorem d_jInt_compare_2 : decode b_jInt_compare 2 = .ok (.if_icmp .ge 7, 3) := by decide +kernel
theorem d_jInt_compare_5 : decode b_jInt_compare 5 = .ok (.iconst (-1), 1) := by decide +kernel
theorem d_jInt_compare_6 : decode b_jInt_compare 6 = .ok (.goto 13, 3) := by decide +kernel
theorem d_jInt_compare_9 : decode b_jInt_compare 9 = .ok (.iload_n 0, 1) := by decide +kernel
theorem d_jInt_compare_10 : decode b_jInt_compare 10 = .ok (.iload_n 1, 1) := by decide +kernel
theorem d_jInt_compare_11 : decode b_jInt_compare 11 = .ok (.if_icmp .ne 7, 3) := by decide +kernel
theorem d_jInt_compare_14 : decode b_jInt_compare 14 = .ok (.iconst 0, 1) := by decide +kernel
theorem d_jInt_compare_15 : decode b_jInt_compare 15 = .ok (.goto 4, 3) := by decide +kernel
theorem d_jInt_compare_18 : decode b_jInt_compare 18 = .ok (.iconst 1, 1) := by decide +kernel
theorem d_jInt_compare_19 : decode b_jInt_compare 19 = .ok (.ireturn, 1) := by decide +kernel
theorem d_jArr_fill_0 : decode b_jArr_fill 0 = .ok (.aload_n 0, 1) := by decide +kernel
theorem d_jArr_fill_1 : decode b_jArr_fill 1 = .ok (.arraylength, 1) := by decide +kernel
theorem d_jArr_fill_2 : decode b_jArr_fill 2 = .ok (.iload_n 1, 1) := by decide +kernel
theorem d_jArr_fill_3 : decode b_jArr_fill 3 = .ok (.iload_n 2, 1) := by decide +kernel
theorem d_jArr_fill_4 : decode b_jArr_fill 4 = .ok (.invokestatic 13, 3) := by decide +kernel
theorem d_jArr_fill_7 : decode b_jArr_fill 7 = .ok (.iload_n 1, 1) := by decide +kernel
theorem d_jArr_fill_8 : decode b_jArr_fill 8 = .ok (.istore 4, 2) := by decide +kernel
theorem d_jArr_fill_10 : decode b_jArr_fill 10 = .ok (.iload 4, 2) := by decide +kernel
theorem d_jArr_fill_12 : decode b_jArr_fill 12 = .ok (.iload_n 2, 1) := by decide +kernel
theorem d_jArr_fill_13 : decode b_jArr_fill 13 = .ok (.if_icmp .ge 14, 3) := by decide +kernel
theorem d_jArr_fill_16 : decode b_jArr_fill 16 = .ok (.aload_n 0, 1) := by decide +kernel
theorem d_jArr_fill_17 : decode b_jArr_fill 17 = .ok (.iload 4, 2) := by decide +kernel
theorem d_jArr_fill_19 : decode b_jArr_fill 19 = .ok (.iload_n 3, 1) := by decide +kernel
theorem d_jArr_fill_20 : decode b_jArr_fill 20 = .ok (.iastore, 1) := by decide +kernel
theorem d_jArr_fill_21 : decode b_jArr_fill 21 = .ok (.iinc 4 1, 3) := by decide +kernel
theorem d_jArr_fill_24 : decode b_jArr_fill 24 = .ok (.goto (-14), 3) := by decide +kernel
theorem d_jArr_fill_27 : decode b_jArr_fill 27 = .ok (.return_, 1) := by decide +kernel
theorem d_jArr_rangeCheck_0 : decode b_jArr_rangeCheck 0 = .ok (.iload_n 1, 1) := by decide +kernel
theorem d_jArr_rangeCheck_1 : decode b_jArr_rangeCheck 1 = .ok (.iload_n 2, 1) := by decide +kernel
theorem d_jArr_rangeCheck_2 : decode b_jArr_rangeCheck 2 = .ok (.if_icmp .le 44, 3) := by decide +kernel
theorem d_jArr_rangeCheck_5 : decode b_jArr_rangeCheck 5 = .ok (.new 43, 3) := by decide +kernel
theorem d_jArr_rangeCheck_8 : decode b_jArr_rangeCheck 8 = .ok (.dup, 1) := by decide +kernel
theorem d_jArr_rangeCheck_9 : decode b_jArr_rangeCheck 9 = .ok (.new 45, 3) := by decide +kernel
theorem d_jArr_rangeCheck_12 : decode b_jArr_rangeCheck 12 = .ok (.dup, 1) := by decide +kernel
theorem d_jArr_rangeCheck_13 : decode b_jArr_rangeCheck 13 = .ok (.invokespecial 47, 3) := by decide +kernel
theorem d_jArr_rangeCheck_16 : decode b_jArr_rangeCheck 16 = .ok (.ldc 48, 2) := by decide +kernel
theorem d_jArr_rangeCheck_18 : decode b_jArr_rangeCheck 18 = .ok (.invokevirtual 50, 3) := by decide +kernel
theorem d_jArr_rangeCheck_21 : decode b_jArr_rangeCheck 21 = .ok (.iload_n 1, 1) := by decide +kernel
theorem d_jArr_rangeCheck_22 : decode b_jArr_rangeCheck 22 = .ok (.invokevirtual 54, 3) := by decide +kernel
theorem d_jArr_rangeCheck_25 : decode b_jArr_rangeCheck 25 = .ok (.ldc 57, 2) := by decide +kernel
theorem d_jArr_rangeCheck_27 : decode b_jArr_rangeCheck 27 = .ok (.invokevirtual 50, 3) := by decide +kernel
theorem d_jArr_rangeCheck_30 : decode b_jArr_rangeCheck 30 = .ok (.iload_n 2, 1) := by decide +kernel
theorem d_jArr_rangeCheck_31 : decode b_jArr_rangeCheck 31 = .ok (.invokevirtual 54, 3) := by decide +kernel
theorem d_jArr_rangeCheck_34 : decode b_jArr_rangeCheck 34 = .ok (.ldc 59, 2) := by decide +kernel
theorem d_jArr_rangeCheck_36 : decode b_jArr_rangeCheck 36 = .ok (.invokevirtual 50, 3) := by decide +kernel
theorem d_jArr_rangeCheck_39 : decode b_jArr_rangeCheck 39 = .ok (.invokevirtual 61, 3) := by decide +kernel
theorem d_jArr_rangeCheck_42 : decode b_jArr_rangeCheck 42 = .ok (.invokespecial 65, 3) := by decide +kernel
theorem d_jArr_rangeCheck_45 : decode b_jArr_rangeCheck 45 = .ok (.athrow, 1) := by decide +kernel
theorem d_jArr_rangeCheck_46 : decode b_jArr_rangeCheck 46 = .ok (.iload_n 1, 1) := by decide +kernel
theorem d_jArr_rangeCheck_47 : decode b_jArr_rangeCheck 47 = .ok (.ifCond .ge 12, 3) := by decide +kernel
theorem d_jArr_rangeCheck_50 : decode b_jArr_rangeCheck 50 = .ok (.new 68, 3) := by decide +kernel
theorem d_jArr_rangeCheck_53 : decode b_jArr_rangeCheck 53 = .ok (.dup, 1) := by decide +kernel
theorem d_jArr_rangeCheck_54 : decode b_jArr_rangeCheck 54 = .ok (.iload_n 1, 1) := by decide +kernel
theorem d_jArr_rangeCheck_55 : decode b_jArr_rangeCheck 55 = .ok (.invokespecial 70, 3) := by decide +kernel
theorem d_jArr_rangeCheck_58 : decode b_jArr_rangeCheck 58 = .ok (.athrow, 1) := by decide +kernel
theorem d_jArr_rangeCheck_59 : decode b_jArr_rangeCheck 59 = .ok (.iload_n 2, 1) := by decide +kernel
theorem d_jArr_rangeCheck_60 : decode b_jArr_rangeCheck 60 = .ok (.iload_n 0, 1) := by decide +kernel
theorem d_jArr_rangeCheck_61 : decode b_jArr_rangeCheck 61 = .ok (.if_icmp .le 12, 3) := by decide +kernel
theorem d_jArr_rangeCheck_64 : decode b_jArr_rangeCheck 64 = .ok (.new 68, 3) := by decide +kernel
theorem d_jArr_rangeCheck_67 : decode b_jArr_rangeCheck 67 = .ok (.dup, 1) := by decide +kernel
theorem d_jArr_rangeCheck_68 : decode b_jArr_rangeCheck 68 = .ok (.iload_n 2, 1) := by decide +kernel
theorem d_jArr_rangeCheck_69 : decode b_jArr_rangeCheck 69 = .ok (.invokespecial 70, 3) := by decide +kernel
theorem d_jArr_rangeCheck_72 : decode b_jArr_rangeCheck 72 = .ok (.athrow, 1) := by decide +kernel
theorem d_jArr_rangeCheck_73 : decode b_jArr_rangeCheck 73 = .ok (.return_, 1) := by decide +kernel
theorem d_jLong_compareUnsigned_0 : decode b_jLong_compareUnsigned 0 = .ok (.lload_n 0, 1) := by decide +kernel
theorem d_jLong_compareUnsigned_1 : decode b_jLong_compareUnsigned 1 = .ok (.ldc2_w 168, 3) := by decide +kernel
theorem d_jLong_compareUnsigned_4 : decode b_jLong_compareUnsigned 4 = .ok (.ladd, 1) := by decide +kernel
theorem d_jLong_compareUnsigned_5 : decode b_jLong_compareUnsigned 5 = .ok (.lload_n 2, 1) := by decide +kernel
theorem d_jLong_compareUnsigned_6 : decode b_jLong_compareUnsigned 6 = .ok (.ldc2_w 168, 3) := by decide +kernel
theorem d_jLong_compareUnsigned_9 : decode b_jLong_compareUnsigned 9 = .ok (.ladd, 1) := by decide +kernel
theorem d_jLong_compareUnsigned_10 : decode b_jLong_compareUnsigned 10 = .ok (.invokestatic 302, 3) := by decide +kernel
theorem d_jLong_compareUnsigned_13 : decode b_jLong_compareUnsigned 13 = .ok (.ireturn, 1) := by decide +kernel
theorem d_jLong_compare_0 : decode b_jLong_compare 0 = .ok (.lload_n 0, 1) := by decide +kernel
theorem d_jLong_compare_1 : decode b_jLong_compare 1 = .ok (.lload_n 2, 1) := by decide +kernel
theorem d_jLong_compare_2 : decode b_jLong_compare 2 = .ok (.lcmp, 1) := by decide +kernel
theorem d_jLong_compare_3 : decode b_jLong_compare 3 = .ok (.ifCond .ge 7, 3) := by decide +kernel
theorem d_jLong_compare_6 : decode b_jLong_compare 6 = .ok (.iconst (-1), 1) := by decide +kernel
theorem d_jLong_compare_7 : decode b_jLong_compare 7 = .ok (.goto 14, 3) := by decide +kernel
theorem d_jLong_compare_10 : decode b_jLong_compare 10 = .ok (.lload_n 0, 1) := by decide +kernel
theorem d_jLong_compare_11 : decode b_jLong_compare 11 = .ok (.lload_n 2, 1) := by decide +kernel
theorem d_jLong_compare_12 : decode b_jLong_compare 12 = .ok (.lcmp, 1) := by decide +kernel
theorem d_jLong_compare_13 : decode b_jLong_compare 13 = .ok (.ifCond .ne 7, 3) := by decide +kernel
theorem d_jLong_compare_16 : decode b_jLong_compare 16 = .ok (.iconst 0, 1) := by decide +kernel
theorem d_jLong_compare_17 : decode b_jLong_compare 17 = .ok (.goto 4, 3) := by decide +kernel
theorem d_jLong_compare_20 : decode b_jLong_compare 20 = .ok (.iconst 1, 1) := by decide +kernel
theorem d_jLong_compare_21 : decode b_jLong_compare 21 = .ok (.ireturn, 1) := by decide +kernel
theorem d_jLong_signum_0 : decode b_jLong_signum 0 = .ok (.lload_n 0, 1) := by decide +kernel
theorem d_jLong_signum_1 : decode b_jLong_signum 1 = .ok (.bipush 63, 2) := by decide +kernel
theorem d_jLong_signum_3 : decode b_jLong_signum 3 = .ok (.lshr, 1) := by decide +kernel
theorem d_jLong_signum_4 : decode b_jLong_signum 4 = .ok (.lload_n 0, 1) := by decide +kernel
theorem d_jLong_signum_5 : decode b_jLong_signum 5 = .ok (.lneg, 1) := by decide +kernel
theorem d_jLong_signum_6 : decode b_jLong_signum 6 = .ok (.bipush 63, 2) := by decide +kernel
theorem d_jLong_signum_8 : decode b_jLong_signum 8 = .ok (.lushr, 1) := by decide +kernel
theorem d_jLong_signum_9 : decode b_jLong_signum 9 = .ok (.lor, 1) := by decide +kernel
theorem d_jLong_signum_10 : decode b_jLong_signum 10 = .ok (.l2i, 1) := by decide +kernel
theorem d_jLong_signum_11 : decode b_jLong_signum 11 = .ok (.ireturn, 1) := by decide +kernel
