theorem d_Be_init_0 : decode b_Be_init 0 = .ok (.aload_n 0, 1) := by decide +kernel
theorem d_Be_init_1 : decode b_Be_init 1 = .ok (.invokespecial 1, 3) := by decide +kernel
theorem d_Be_init_4 : decode b_Be_init 4 = .ok (.aload_n 0, 1) := by decide +kernel
theorem d_Be_init_5 : decode b_Be_init 5 = .ok (.new 7, 3) := by decide +kernel
theorem d_Be_init_8 : decode b_Be_init 8 = .ok (.dup, 1) := by decide +kernel
theorem d_Be_init_9 : decode b_Be_init 9 = .ok (.iload_n 1, 1) := by decide +kernel
theorem d_Be_init_10 : decode b_Be_init 10 = .ok (.invokespecial 9, 3) := by decide +kernel
theorem d_Be_init_13 : decode b_Be_init 13 = .ok (.putfield 12, 3) := by decide +kernel
theorem d_Be_init_16 : decode b_Be_init 16 = .ok (.aload_n 0, 1) := by decide +kernel
theorem d_Be_init_17 : decode b_Be_init 17 = .ok (.new 18, 3) := by decide +kernel
theorem d_Be_init_20 : decode b_Be_init 20 = .ok (.dup, 1) := by decide +kernel
theorem d_Be_init_21 : decode b_Be_init 21 = .ok (.iload_n 1, 1) := by decide +kernel
theorem d_Be_init_22 : decode b_Be_init 22 = .ok (.invokespecial 20, 3) := by decide +kernel
theorem d_Be_init_25 : decode b_Be_init 25 = .ok (.putfield 21, 3) := by decide +kernel
theorem d_Be_init_28 : decode b_Be_init 28 = .ok (.aload_n 0, 1) := by decide +kernel
theorem d_Be_init_29 : decode b_Be_init 29 = .ok (.new 18, 3) := by decide +kernel
theorem d_Be_init_32 : decode b_Be_init 32 = .ok (.dup, 1) := by decide +kernel
theorem d_Be_init_33 : decode b_Be_init 33 = .ok (.iload_n 1, 1) := by decide +kernel
theorem d_Be_init_34 : decode b_Be_init 34 = .ok (.invokespecial 20, 3) := by decide +kernel
theorem d_Be_init_37 : decode b_Be_init 37 = .ok (.putfield 25, 3) := by decide +kernel
theorem d_Be_init_40 : decode b_Be_init 40 = .ok (.aload_n 0, 1) := by decide +kernel
theorem d_Be_init_41 : decode b_Be_init 41 = .ok (.new 18, 3) := by decide +kernel
theorem d_Be_init_44 : decode b_Be_init 44 = .ok (.dup, 1) := by decide +kernel
theorem d_Be_init_45 : decode b_Be_init 45 = .ok (.iload_n 1, 1) := by decide +kernel
theorem d_Be_init_46 : decode b_Be_init 46 = .ok (.invokespecial 20, 3) := by decide +kernel
theorem d_Be_init_49 : decode b_Be_init 49 = .ok (.putfield 28, 3) := by decide +kernel
theorem d_Be_init_52 : decode b_Be_init 52 = .ok (.return_, 1) := by decide +kernel
theorem d_Be_reduceBoth_0 : decode b_Be_reduceBoth 0 = .ok (.aload_n 0, 1) := by decide +kernel
theorem d_Be_reduceBoth_1 : decode b_Be_reduceBoth 1 = .ok (.getfield 12, 3) := by decide +kernel
theorem d_Be_reduceBoth_4 : decode b_Be_reduceBoth 4 = .ok (.aload_n 1, 1) := by decide +kernel
theorem d_Be_reduceBoth_5 : decode b_Be_reduceBoth 5 = .ok (.aload_n 2, 1) := by decide +kernel
theorem d_Be_reduceBoth_6 : decode b_Be_reduceBoth 6 = .ok (.invokevirtual 43, 3) := by decide +kernel
theorem d_Be_reduceBoth_9 : decode b_Be_reduceBoth 9 = .ok (.astore_n 3, 1) := by decide +kernel
theorem d_Be_reduceBoth_10 : decode b_Be_reduceBoth 10 = .ok (.aload_n 0, 1) := by decide +kernel
theorem d_Be_reduceBoth_11 : decode b_Be_reduceBoth 11 = .ok (.aload_n 1, 1) := by decide +kernel
theorem d_Be_reduceBoth_12 : decode b_Be_reduceBoth 12 = .ok (.aload_n 3, 1) := by decide +kernel
theorem d_Be_reduceBoth_13 : decode b_Be_reduceBoth 13 = .ok (.invokevirtual 47, 3) := by decide +kernel
theorem d_Be_reduceBoth_16 : decode b_Be_reduceBoth 16 = .ok (.aload_n 0, 1) := by decide +kernel
theorem d_Be_reduceBoth_17 : decode b_Be_reduceBoth 17 = .ok (.aload_n 2, 1) := by decide +kernel
theorem d_Be_reduceBoth_18 : decode b_Be_reduceBoth 18 = .ok (.aload_n 3, 1) := by decide +kernel
theorem d_Be_reduceBoth_19 : decode b_Be_reduceBoth 19 = .ok (.invokevirtual 47, 3) := by decide +kernel
theorem d_Be_reduceBoth_22 : decode b_Be_reduceBoth 22 = .ok (.return_, 1) := by decide +kernel
theorem d_Be_reduce_0 : decode b_Be_reduce 0 = .ok (.aload_n 2, 1) := by decide +kernel
theorem d_Be_reduce_1 : decode b_Be_reduce 1 = .ok (.invokevirtual 31, 3) := by decide +kernel
theorem d_Be_reduce_4 : decode b_Be_reduce 4 = .ok (.ifCond .eq 4, 3) := by decide +kernel
theorem d_Be_reduce_7 : decode b_Be_reduce 7 = .ok (.return_, 1) := by decide +kernel
theorem d_Be_reduce_8 : decode b_Be_reduce 8 = .ok (.aload_n 0, 1) := by decide +kernel
theorem d_Be_reduce_9 : decode b_Be_reduce 9 = .ok (.getfield 28, 3) := by decide +kernel
theorem d_Be_reduce_12 : decode b_Be_reduce 12 = .ok (.aload_n 1, 1) := by decide +kernel
theorem d_Be_reduce_13 : decode b_Be_reduce 13 = .ok (.invokevirtual 35, 3) := by decide +kernel
theorem d_Be_reduce_16 : decode b_Be_reduce 16 = .ok (.aload_n 0, 1) := by decide +kernel
theorem d_Be_reduce_17 : decode b_Be_reduce 17 = .ok (.getfield 28, 3) := by decide +kernel
theorem d_Be_reduce_20 : decode b_Be_reduce 20 = .ok (.aload_n 2, 1) := by decide +kernel
theorem d_Be_reduce_21 : decode b_Be_reduce 21 = .ok (.aload_n 1, 1) := by decide +kernel
theorem d_Be_reduce_22 : decode b_Be_reduce 22 = .ok (.invokevirtual 39, 3) := by decide +kernel
theorem d_Be_reduce_25 : decode b_Be_reduce 25 = .ok (.return_, 1) := by decide +kernel
theorem d_Be_sumOf_0 : decode b_Be_sumOf 0 = .ok (.aload_n 0, 1) := by decide +kernel
theorem d_Be_sumOf_1 : decode b_Be_sumOf 1 = .ok (.getfield 21, 3) := by decide +kernel
theorem d_Be_sumOf_4 : decode b_Be_sumOf 4 = .ok (.aload_n 0, 1) := by decide +kernel
theorem d_Be_sumOf_5 : decode b_Be_sumOf 5 = .ok (.getfield 12, 3) := by decide +kernel
theorem d_Be_sumOf_8 : decode b_Be_sumOf 8 = .ok (.aload_n 2, 1) := by decide +kernel
theorem d_Be_sumOf_9 : decode b_Be_sumOf 9 = .ok (.getfield 55, 3) := by decide +kernel
theorem d_Be_sumOf_12 : decode b_Be_sumOf 12 = .ok (.aload_n 3, 1) := by decide +kernel
theorem d_Be_sumOf_13 : decode b_Be_sumOf 13 = .ok (.getfield 55, 3) := by decide +kernel
theorem d_Be_sumOf_16 : decode b_Be_sumOf 16 = .ok (.invokevirtual 43, 3) := by decide +kernel
theorem d_Be_sumOf_19 : decode b_Be_sumOf 19 = .ok (.invokevirtual 35, 3) := by decide +kernel
theorem d_Be_sumOf_22 : decode b_Be_sumOf 22 = .ok (.aload_n 0, 1) := by decide +kernel
theorem d_Be_sumOf_23 : decode b_Be_sumOf 23 = .ok (.aload_n 2, 1) := by decide +kernel
theorem d_Be_sumOf_24 : decode b_Be_sumOf 24 = .ok (.getfield 55, 3) := by decide +kernel
theorem d_Be_sumOf_27 : decode b_Be_sumOf 27 = .ok (.aload_n 0, 1) := by decide +kernel
theorem d_Be_sumOf_28 : decode b_Be_sumOf 28 = .ok (.getfield 21, 3) := by decide +kernel
theorem d_Be_sumOf_31 : decode b_Be_sumOf 31 = .ok (.invokevirtual 47, 3) := by decide +kernel
theorem d_Be_sumOf_34 : decode b_Be_sumOf 34 = .ok (.aload_n 0, 1) := by decide +kernel
theorem d_Be_sumOf_35 : decode b_Be_sumOf 35 = .ok (.aload_n 3, 1) := by decide +kernel
theorem d_Be_sumOf_36 : decode b_Be_sumOf 36 = .ok (.getfield 55, 3) := by decide +kernel
theorem d_Be_sumOf_39 : decode b_Be_sumOf 39 = .ok (.aload_n 0, 1) := by decide +kernel
theorem d_Be_sumOf_40 : decode b_Be_sumOf 40 = .ok (.getfield 21, 3) := by decide +kernel
theorem d_Be_sumOf_43 : decode b_Be_sumOf 43 = .ok (.invokevirtual 47, 3) := by decide +kernel
theorem d_Be_sumOf_46 : decode b_Be_sumOf 46 = .ok (.aload_n 1, 1) := by decide +kernel
theorem d_Be_sumOf_47 : decode b_Be_sumOf 47 = .ok (.getfield 50, 3) := by decide +kernel
theorem d_Be_sumOf_50 : decode b_Be_sumOf 50 = .ok (.aload_n 2, 1) := by decide +kernel
theorem d_Be_sumOf_51 : decode b_Be_sumOf 51 = .ok (.getfield 50, 3) := by decide +kernel
theorem d_Be_sumOf_54 : decode b_Be_sumOf 54 = .ok (.aload_n 3, 1) := by decide +kernel
theorem d_Be_sumOf_55 : decode b_Be_sumOf 55 = .ok (.getfield 55, 3) := by decide +kernel
theorem d_Be_sumOf_58 : decode b_Be_sumOf 58 = .ok (.invokevirtual 61, 3) := by decide +kernel
theorem d_Be_sumOf_61 : decode b_Be_sumOf 61 = .ok (.aload_n 0, 1) := by decide +kernel
theorem d_Be_sumOf_62 : decode b_Be_sumOf 62 = .ok (.getfield 25, 3) := by decide +kernel
theorem d_Be_sumOf_65 : decode b_Be_sumOf 65 = .ok (.aload_n 3, 1) := by decide +kernel
theorem d_Be_sumOf_66 : decode b_Be_sumOf 66 = .ok (.getfield 50, 3) := by decide +kernel
theorem d_Be_sumOf_69 : decode b_Be_sumOf 69 = .ok (.aload_n 2, 1) := by decide +kernel
theorem d_Be_sumOf_70 : decode b_Be_sumOf 70 = .ok (.getfield 55, 3) := by decide +kernel
theorem d_Be_sumOf_73 : decode b_Be_sumOf 73 = .ok (.invokevirtual 61, 3) := by decide +kernel
theorem d_Be_sumOf_76 : decode b_Be_sumOf 76 = .ok (.aload_n 1, 1) := by decide +kernel
theorem d_Be_sumOf_77 : decode b_Be_sumOf 77 = .ok (.aload_n 0, 1) := by decide +kernel
theorem d_Be_sumOf_78 : decode b_Be_sumOf 78 = .ok (.aload_n 1, 1) := by decide +kernel
theorem d_Be_sumOf_79 : decode b_Be_sumOf 79 = .ok (.getfield 50, 3) := by decide +kernel
theorem d_Be_sumOf_82 : decode b_Be_sumOf 82 = .ok (.aload_n 2, 1) := by decide +kernel
theorem d_Be_sumOf_83 : decode b_Be_sumOf 83 = .ok (.getfield 64, 3) := by decide +kernel
theorem d_Be_sumOf_86 : decode b_Be_sumOf 86 = .ok (.aload_n 3, 1) := by decide +kernel
theorem d_Be_sumOf_87 : decode b_Be_sumOf 87 = .ok (.getfield 64, 3) := by decide +kernel
theorem d_Be_sumOf_90 : decode b_Be_sumOf 90 = .ok (.invokevirtual 68, 3) := by decide +kernel
theorem d_Be_sumOf_93 : decode b_Be_sumOf 93 = .ok (.putfield 64, 3) := by decide +kernel
theorem d_Be_sumOf_96 : decode b_Be_sumOf 96 = .ok (.aload_n 0, 1) := by decide +kernel
theorem d_Be_sumOf_97 : decode b_Be_sumOf 97 = .ok (.getfield 12, 3) := by decide +kernel
theorem d_Be_sumOf_100 : decode b_Be_sumOf 100 = .ok (.aload_n 1, 1) := by decide +kernel
theorem d_Be_sumOf_101 : decode b_Be_sumOf 101 = .ok (.getfield 50, 3) := by decide +kernel
theorem d_Be_sumOf_104 : decode b_Be_sumOf 104 = .ok (.aload_n 0, 1) := by decide +kernel
theorem d_Be_sumOf_105 : decode b_Be_sumOf 105 = .ok (.getfield 21, 3) := by decide +kernel
theorem d_Be_sumOf_108 : decode b_Be_sumOf 108 = .ok (.invokevirtual 43, 3) := by decide +kernel
theorem d_Be_sumOf_111 : decode b_Be_sumOf 111 = .ok (.astore 4, 2) := by decide +kernel
theorem d_Be_sumOf_113 : decode b_Be_sumOf 113 = .ok (.aload_n 0, 1) := by decide +kernel
theorem d_Be_sumOf_114 : decode b_Be_sumOf 114 = .ok (.aload_n 1, 1) := by decide +kernel
theorem d_Be_sumOf_115 : decode b_Be_sumOf 115 = .ok (.getfield 50, 3) := by decide +kernel
theorem d_Be_sumOf_118 : decode b_Be_sumOf 118 = .ok (.aload 4, 2) := by decide +kernel
theorem d_Be_sumOf_120 : decode b_Be_sumOf 120 = .ok (.invokevirtual 47, 3) := by decide +kernel
theorem d_Be_sumOf_123 : decode b_Be_sumOf 123 = .ok (.aload_n 0, 1) := by decide +kernel
theorem d_Be_sumOf_124 : decode b_Be_sumOf 124 = .ok (.aload_n 0, 1) := by decide +kernel
theorem d_Be_sumOf_125 : decode b_Be_sumOf 125 = .ok (.getfield 21, 3) := by decide +kernel
theorem d_Be_sumOf_128 : decode b_Be_sumOf 128 = .ok (.aload 4, 2) := by decide +kernel
theorem d_Be_sumOf_130 : decode b_Be_sumOf 130 = .ok (.invokevirtual 47, 3) := by decide +kernel
theorem d_Be_sumOf_133 : decode b_Be_sumOf 133 = .ok (.aload_n 0, 1) := by decide +kernel
theorem d_Be_sumOf_134 : decode b_Be_sumOf 134 = .ok (.getfield 25, 3) := by decide +kernel
theorem d_Be_sumOf_137 : decode b_Be_sumOf 137 = .ok (.aload_n 2, 1) := by decide +kernel
theorem d_Be_sumOf_138 : decode b_Be_sumOf 138 = .ok (.getfield 55, 3) := by decide +kernel
theorem d_Be_sumOf_141 : decode b_Be_sumOf 141 = .ok (.aload_n 3, 1) := by decide +kernel
theorem d_Be_sumOf_142 : decode b_Be_sumOf 142 = .ok (.getfield 55, 3) := by decide +kernel
theorem d_Be_sumOf_145 : decode b_Be_sumOf 145 = .ok (.invokevirtual 61, 3) := by decide +kernel
theorem d_Be_sumOf_148 : decode b_Be_sumOf 148 = .ok (.aload_n 1, 1) := by decide +kernel
theorem d_Be_sumOf_149 : decode b_Be_sumOf 149 = .ok (.getfield 55, 3) := by decide +kernel
theorem d_Be_sumOf_152 : decode b_Be_sumOf 152 = .ok (.aload_n 0, 1) := by decide +kernel
theorem d_Be_sumOf_153 : decode b_Be_sumOf 153 = .ok (.getfield 25, 3) := by decide +kernel
theorem d_Be_sumOf_156 : decode b_Be_sumOf 156 = .ok (.aload_n 0, 1) := by decide +kernel
theorem d_Be_sumOf_157 : decode b_Be_sumOf 157 = .ok (.getfield 21, 3) := by decide +kernel
theorem d_Be_sumOf_160 : decode b_Be_sumOf 160 = .ok (.invokevirtual 61, 3) := by decide +kernel
theorem d_Be_sumOf_163 : decode b_Be_sumOf 163 = .ok (.return_, 1) := by decide +kernel
theorem d_Be_addSpare_0 : decode b_Be_addSpare 0 = .ok (.iload_n 2, 1) := by decide +kernel
theorem d_Be_addSpare_1 : decode b_Be_addSpare 1 = .ok (.iload_n 3, 1) := by decide +kernel
theorem d_Be_addSpare_2 : decode b_Be_addSpare 2 = .ok (.if_icmp .ne 13, 3) := by decide +kernel
theorem d_Be_addSpare_5 : decode b_Be_addSpare 5 = .ok (.aload_n 1, 1) := by decide +kernel
theorem d_Be_addSpare_6 : decode b_Be_addSpare 6 = .ok (.aload_n 0, 1) := by decide +kernel
theorem d_Be_addSpare_7 : decode b_Be_addSpare 7 = .ok (.getfield 25, 3) := by decide +kernel
theorem d_Be_addSpare_10 : decode b_Be_addSpare 10 = .ok (.invokevirtual 72, 3) := by decide +kernel
theorem d_Be_addSpare_13 : decode b_Be_addSpare 13 = .ok (.iload_n 2, 1) := by decide +kernel
theorem d_Be_addSpare_14 : decode b_Be_addSpare 14 = .ok (.ireturn, 1) := by decide +kernel
theorem d_Be_addSpare_15 : decode b_Be_addSpare 15 = .ok (.aload_n 1, 1) := by decide +kernel
theorem d_Be_addSpare_16 : decode b_Be_addSpare 16 = .ok (.aload_n 0, 1) := by decide +kernel
theorem d_Be_addSpare_17 : decode b_Be_addSpare 17 = .ok (.getfield 25, 3) := by decide +kernel
theorem d_Be_addSpare_20 : decode b_Be_addSpare 20 = .ok (.invokevirtual 75, 3) := by decide +kernel
theorem d_Be_addSpare_23 : decode b_Be_addSpare 23 = .ok (.istore 4, 2) := by decide +kernel
theorem d_Be_addSpare_25 : decode b_Be_addSpare 25 = .ok (.iload 4, 2) := by decide +kernel
theorem d_Be_addSpare_27 : decode b_Be_addSpare 27 = .ok (.ifCond .ge 14, 3) := by decide +kernel
theorem d_Be_addSpare_30 : decode b_Be_addSpare 30 = .ok (.aload_n 1, 1) := by decide +kernel
theorem d_Be_addSpare_31 : decode b_Be_addSpare 31 = .ok (.aload_n 0, 1) := by decide +kernel
theorem d_Be_addSpare_32 : decode b_Be_addSpare 32 = .ok (.getfield 25, 3) := by decide +kernel
theorem d_Be_addSpare_35 : decode b_Be_addSpare 35 = .ok (.aload_n 1, 1) := by decide +kernel
theorem d_Be_addSpare_36 : decode b_Be_addSpare 36 = .ok (.invokevirtual 79, 3) := by decide +kernel
theorem d_Be_addSpare_39 : decode b_Be_addSpare 39 = .ok (.iload_n 3, 1) := by decide +kernel
theorem d_Be_addSpare_40 : decode b_Be_addSpare 40 = .ok (.ireturn, 1) := by decide +kernel
theorem d_Be_addSpare_41 : decode b_Be_addSpare 41 = .ok (.aload_n 1, 1) := by decide +kernel
theorem d_Be_addSpare_42 : decode b_Be_addSpare 42 = .ok (.aload_n 1, 1) := by decide +kernel
theorem d_Be_addSpare_43 : decode b_Be_addSpare 43 = .ok (.aload_n 0, 1) := by decide +kernel
theorem d_Be_addSpare_44 : decode b_Be_addSpare 44 = .ok (.getfield 25, 3) := by decide +kernel
theorem d_Be_addSpare_47 : decode b_Be_addSpare 47 = .ok (.invokevirtual 79, 3) := by decide +kernel
theorem d_Be_addSpare_50 : decode b_Be_addSpare 50 = .ok (.iload 4, 2) := by decide +kernel
theorem d_Be_addSpare_52 : decode b_Be_addSpare 52 = .ok (.ifCond .ne 7, 3) := by decide +kernel
theorem d_Be_addSpare_55 : decode b_Be_addSpare 55 = .ok (.iconst 0, 1) := by decide +kernel
theorem d_Be_addSpare_56 : decode b_Be_addSpare 56 = .ok (.goto 4, 3) := by decide +kernel
theorem d_Be_addSpare_59 : decode b_Be_addSpare 59 = .ok (.iload_n 2, 1) := by decide +kernel
theorem d_Be_addSpare_60 : decode b_Be_addSpare 60 = .ok (.ireturn, 1) := by decide +kernel
theorem d_Be_productOf_0 : decode b_Be_productOf 0 = .ok (.aload_n 0, 1) := by decide +kernel
theorem d_Be_productOf_1 : decode b_Be_productOf 1 = .ok (.aload_n 2, 1) := by decide +kernel
theorem d_Be_productOf_2 : decode b_Be_productOf 2 = .ok (.getfield 50, 3) := by decide +kernel
theorem d_Be_productOf_5 : decode b_Be_productOf 5 = .ok (.aload_n 3, 1) := by decide +kernel
theorem d_Be_productOf_6 : decode b_Be_productOf 6 = .ok (.getfield 55, 3) := by decide +kernel
theorem d_Be_productOf_9 : decode b_Be_productOf 9 = .ok (.invokevirtual 58, 3) := by decide +kernel
theorem d_Be_productOf_12 : decode b_Be_productOf 12 = .ok (.aload_n 0, 1) := by decide +kernel
theorem d_Be_productOf_13 : decode b_Be_productOf 13 = .ok (.aload_n 3, 1) := by decide +kernel
theorem d_Be_productOf_14 : decode b_Be_productOf 14 = .ok (.getfield 50, 3) := by decide +kernel
theorem d_Be_productOf_17 : decode b_Be_productOf 17 = .ok (.aload_n 2, 1) := by decide +kernel
theorem d_Be_productOf_18 : decode b_Be_productOf 18 = .ok (.getfield 55, 3) := by decide +kernel
theorem d_Be_productOf_21 : decode b_Be_productOf 21 = .ok (.invokevirtual 58, 3) := by decide +kernel
theorem d_Be_productOf_24 : decode b_Be_productOf 24 = .ok (.aload_n 1, 1) := by decide +kernel
theorem d_Be_productOf_25 : decode b_Be_productOf 25 = .ok (.getfield 50, 3) := by decide +kernel
theorem d_Be_productOf_28 : decode b_Be_productOf 28 = .ok (.aload_n 2, 1) := by decide +kernel
theorem d_Be_productOf_29 : decode b_Be_productOf 29 = .ok (.getfield 50, 3) := by decide +kernel
theorem d_Be_productOf_32 : decode b_Be_productOf 32 = .ok (.aload_n 3, 1) := by decide +kernel
theorem d_Be_productOf_33 : decode b_Be_productOf 33 = .ok (.getfield 50, 3) := by decide +kernel
theorem d_Be_productOf_36 : decode b_Be_productOf 36 = .ok (.invokevirtual 61, 3) := by decide +kernel
theorem d_Be_productOf_39 : decode b_Be_productOf 39 = .ok (.aload_n 1, 1) := by decide +kernel
theorem d_Be_productOf_40 : decode b_Be_productOf 40 = .ok (.getfield 55, 3) := by decide +kernel
theorem d_Be_productOf_43 : decode b_Be_productOf 43 = .ok (.aload_n 2, 1) := by decide +kernel
theorem d_Be_productOf_44 : decode b_Be_productOf 44 = .ok (.getfield 55, 3) := by decide +kernel
theorem d_Be_productOf_47 : decode b_Be_productOf 47 = .ok (.aload_n 3, 1) := by decide +kernel
theorem d_Be_productOf_48 : decode b_Be_productOf 48 = .ok (.getfield 55, 3) := by decide +kernel
theorem d_Be_productOf_51 : decode b_Be_productOf 51 = .ok (.invokevirtual 61, 3) := by decide +kernel
theorem d_Be_productOf_54 : decode b_Be_productOf 54 = .ok (.aload_n 1, 1) := by decide +kernel
theorem d_Be_productOf_55 : decode b_Be_productOf 55 = .ok (.aload_n 2, 1) := by decide +kernel
theorem d_Be_productOf_56 : decode b_Be_productOf 56 = .ok (.getfield 64, 3) := by decide +kernel
theorem d_Be_productOf_59 : decode b_Be_productOf 59 = .ok (.aload_n 3, 1) := by decide +kernel
theorem d_Be_productOf_60 : decode b_Be_productOf 60 = .ok (.getfield 64, 3) := by decide +kernel
theorem d_Be_productOf_63 : decode b_Be_productOf 63 = .ok (.imul, 1) := by decide +kernel
theorem d_Be_productOf_64 : decode b_Be_productOf 64 = .ok (.putfield 64, 3) := by decide +kernel
theorem d_Be_productOf_67 : decode b_Be_productOf 67 = .ok (.return_, 1) := by decide +kernel
theorem d_Be_raise_0 : decode b_Be_raise 0 = .ok (.aload_n 2, 1) := by decide +kernel
theorem d_Be_raise_1 : decode b_Be_raise 1 = .ok (.invokevirtual 82, 3) := by decide +kernel
theorem d_Be_raise_4 : decode b_Be_raise 4 = .ok (.iconst 1, 1) := by decide +kernel
theorem d_Be_raise_5 : decode b_Be_raise 5 = .ok (.isub, 1) := by decide +kernel
theorem d_Be_raise_6 : decode b_Be_raise 6 = .ok (.iload_n 3, 1) := by decide +kernel
theorem d_Be_raise_7 : decode b_Be_raise 7 = .ok (.imul, 1) := by decide +kernel
theorem d_Be_raise_8 : decode b_Be_raise 8 = .ok (.bipush 32, 2) := by decide +kernel
theorem d_Be_raise_10 : decode b_Be_raise 10 = .ok (.iload 4, 2) := by decide +kernel
theorem d_Be_raise_12 : decode b_Be_raise 12 = .ok (.imul, 1) := by decide +kernel
theorem d_Be_raise_13 : decode b_Be_raise 13 = .ok (.if_icmp .lt 5, 3) := by decide +kernel
theorem d_Be_raise_16 : decode b_Be_raise 16 = .ok (.iconst 0, 1) := by decide +kernel
theorem d_Be_raise_17 : decode b_Be_raise 17 = .ok (.ireturn, 1) := by decide +kernel
theorem d_Be_raise_18 : decode b_Be_raise 18 = .ok (.aload_n 1, 1) := by decide +kernel
theorem d_Be_raise_19 : decode b_Be_raise 19 = .ok (.lconst 1, 1) := by decide +kernel
theorem d_Be_raise_20 : decode b_Be_raise 20 = .ok (.invokevirtual 86, 3) := by decide +kernel
theorem d_Be_raise_23 : decode b_Be_raise 23 = .ok (.bipush 31, 2) := by decide +kernel
theorem d_Be_raise_25 : decode b_Be_raise 25 = .ok (.iload_n 3, 1) := by decide +kernel
theorem d_Be_raise_26 : decode b_Be_raise 26 = .ok (.invokestatic 90, 3) := by decide +kernel
theorem d_Be_raise_29 : decode b_Be_raise 29 = .ok (.isub, 1) := by decide +kernel
theorem d_Be_raise_30 : decode b_Be_raise 30 = .ok (.istore 5, 2) := by decide +kernel
theorem d_Be_raise_32 : decode b_Be_raise 32 = .ok (.iload 5, 2) := by decide +kernel
theorem d_Be_raise_34 : decode b_Be_raise 34 = .ok (.ifCond .lt 52, 3) := by decide +kernel
theorem d_Be_raise_37 : decode b_Be_raise 37 = .ok (.aload_n 0, 1) := by decide +kernel
theorem d_Be_raise_38 : decode b_Be_raise 38 = .ok (.getfield 25, 3) := by decide +kernel
theorem d_Be_raise_41 : decode b_Be_raise 41 = .ok (.aload_n 1, 1) := by decide +kernel
theorem d_Be_raise_42 : decode b_Be_raise 42 = .ok (.aload_n 1, 1) := by decide +kernel
theorem d_Be_raise_43 : decode b_Be_raise 43 = .ok (.invokevirtual 61, 3) := by decide +kernel
theorem d_Be_raise_46 : decode b_Be_raise 46 = .ok (.aload_n 1, 1) := by decide +kernel
theorem d_Be_raise_47 : decode b_Be_raise 47 = .ok (.aload_n 0, 1) := by decide +kernel
theorem d_Be_raise_48 : decode b_Be_raise 48 = .ok (.getfield 25, 3) := by decide +kernel
theorem d_Be_raise_51 : decode b_Be_raise 51 = .ok (.invokevirtual 35, 3) := by decide +kernel
theorem d_Be_raise_54 : decode b_Be_raise 54 = .ok (.iload_n 3, 1) := by decide +kernel
theorem d_Be_raise_55 : decode b_Be_raise 55 = .ok (.iload 5, 2) := by decide +kernel
theorem d_Be_raise_57 : decode b_Be_raise 57 = .ok (.iushr, 1) := by decide +kernel
theorem d_Be_raise_58 : decode b_Be_raise 58 = .ok (.iconst 1, 1) := by decide +kernel
theorem d_Be_raise_59 : decode b_Be_raise 59 = .ok (.iand, 1) := by decide +kernel
theorem d_Be_raise_60 : decode b_Be_raise 60 = .ok (.ifCond .eq 20, 3) := by decide +kernel
theorem d_Be_raise_63 : decode b_Be_raise 63 = .ok (.aload_n 0, 1) := by decide +kernel
theorem d_Be_raise_64 : decode b_Be_raise 64 = .ok (.getfield 25, 3) := by decide +kernel
theorem d_Be_raise_67 : decode b_Be_raise 67 = .ok (.aload_n 1, 1) := by decide +kernel
theorem d_Be_raise_68 : decode b_Be_raise 68 = .ok (.aload_n 2, 1) := by decide +kernel
theorem d_Be_raise_69 : decode b_Be_raise 69 = .ok (.invokevirtual 61, 3) := by decide +kernel
theorem d_Be_raise_72 : decode b_Be_raise 72 = .ok (.aload_n 1, 1) := by decide +kernel
theorem d_Be_raise_73 : decode b_Be_raise 73 = .ok (.aload_n 0, 1) := by decide +kernel
theorem d_Be_raise_74 : decode b_Be_raise 74 = .ok (.getfield 25, 3) := by decide +kernel
theorem d_Be_raise_77 : decode b_Be_raise 77 = .ok (.invokevirtual 35, 3) := by decide +kernel
theorem d_Be_raise_80 : decode b_Be_raise 80 = .ok (.iinc 5 (-1), 3) := by decide +kernel
theorem d_Be_raise_83 : decode b_Be_raise 83 = .ok (.goto (-51), 3) := by decide +kernel
theorem d_Be_raise_86 : decode b_Be_raise 86 = .ok (.iconst 1, 1) := by decide +kernel
theorem d_Be_raise_87 : decode b_Be_raise 87 = .ok (.ireturn, 1) := by decide +kernel
theorem d_Be_exponentOf_0 : decode b_Be_exponentOf 0 = .ok (.aload_n 1, 1) := by decide +kernel
theorem d_Be_exponentOf_1 : decode b_Be_exponentOf 1 = .ok (.getfield 50, 3) := by decide +kernel
theorem d_Be_exponentOf_4 : decode b_Be_exponentOf 4 = .ok (.invokevirtual 82, 3) := by decide +kernel
theorem d_Be_exponentOf_7 : decode b_Be_exponentOf 7 = .ok (.aload_n 1, 1) := by decide +kernel
theorem d_Be_exponentOf_8 : decode b_Be_exponentOf 8 = .ok (.getfield 55, 3) := by decide +kernel
theorem d_Be_exponentOf_11 : decode b_Be_exponentOf 11 = .ok (.invokevirtual 82, 3) := by decide +kernel
theorem d_Be_exponentOf_14 : decode b_Be_exponentOf 14 = .ok (.isub, 1) := by decide +kernel
theorem d_Be_exponentOf_15 : decode b_Be_exponentOf 15 = .ok (.istore_n 2, 1) := by decide +kernel
theorem d_Be_exponentOf_16 : decode b_Be_exponentOf 16 = .ok (.aload_n 0, 1) := by decide +kernel
theorem d_Be_exponentOf_17 : decode b_Be_exponentOf 17 = .ok (.getfield 25, 3) := by decide +kernel
theorem d_Be_exponentOf_20 : decode b_Be_exponentOf 20 = .ok (.iload_n 2, 1) := by decide +kernel
theorem d_Be_exponentOf_21 : decode b_Be_exponentOf 21 = .ok (.ifCond .lt 10, 3) := by decide +kernel
theorem d_Be_exponentOf_24 : decode b_Be_exponentOf 24 = .ok (.aload_n 1, 1) := by decide +kernel
theorem d_Be_exponentOf_25 : decode b_Be_exponentOf 25 = .ok (.getfield 55, 3) := by decide +kernel
theorem d_Be_exponentOf_28 : decode b_Be_exponentOf 28 = .ok (.goto 7, 3) := by decide +kernel
theorem d_Be_exponentOf_31 : decode b_Be_exponentOf 31 = .ok (.aload_n 1, 1) := by decide +kernel
theorem d_Be_exponentOf_32 : decode b_Be_exponentOf 32 = .ok (.getfield 50, 3) := by decide +kernel
theorem d_Be_exponentOf_35 : decode b_Be_exponentOf 35 = .ok (.invokevirtual 35, 3) := by decide +kernel
theorem d_Be_exponentOf_38 : decode b_Be_exponentOf 38 = .ok (.aload_n 0, 1) := by decide +kernel
theorem d_Be_exponentOf_39 : decode b_Be_exponentOf 39 = .ok (.getfield 25, 3) := by decide +kernel
theorem d_Be_exponentOf_42 : decode b_Be_exponentOf 42 = .ok (.iload_n 2, 1) := by decide +kernel
theorem d_Be_exponentOf_43 : decode b_Be_exponentOf 43 = .ok (.invokestatic 96, 3) := by decide +kernel
theorem d_Be_exponentOf_46 : decode b_Be_exponentOf 46 = .ok (.invokevirtual 101, 3) := by decide +kernel
theorem d_Be_exponentOf_49 : decode b_Be_exponentOf 49 = .ok (.iload_n 2, 1) := by decide +kernel
theorem d_Be_exponentOf_50 : decode b_Be_exponentOf 50 = .ok (.ifCond .lt 25, 3) := by decide +kernel
theorem d_Be_exponentOf_53 : decode b_Be_exponentOf 53 = .ok (.aload_n 1, 1) := by decide +kernel
theorem d_Be_exponentOf_54 : decode b_Be_exponentOf 54 = .ok (.getfield 50, 3) := by decide +kernel
theorem d_Be_exponentOf_57 : decode b_Be_exponentOf 57 = .ok (.aload_n 0, 1) := by decide +kernel
theorem d_Be_exponentOf_58 : decode b_Be_exponentOf 58 = .ok (.getfield 25, 3) := by decide +kernel
theorem d_Be_exponentOf_61 : decode b_Be_exponentOf 61 = .ok (.invokevirtual 75, 3) := by decide +kernel
theorem d_Be_exponentOf_64 : decode b_Be_exponentOf 64 = .ok (.ifCond .ge 7, 3) := by decide +kernel
theorem d_Be_exponentOf_67 : decode b_Be_exponentOf 67 = .ok (.iconst 1, 1) := by decide +kernel
theorem d_Be_exponentOf_68 : decode b_Be_exponentOf 68 = .ok (.goto 26, 3) := by decide +kernel
theorem d_Be_exponentOf_71 : decode b_Be_exponentOf 71 = .ok (.iconst 0, 1) := by decide +kernel
theorem d_Be_exponentOf_72 : decode b_Be_exponentOf 72 = .ok (.goto 22, 3) := by decide +kernel
theorem d_Be_exponentOf_75 : decode b_Be_exponentOf 75 = .ok (.aload_n 0, 1) := by decide +kernel
theorem d_Be_exponentOf_76 : decode b_Be_exponentOf 76 = .ok (.getfield 25, 3) := by decide +kernel
theorem d_Be_exponentOf_79 : decode b_Be_exponentOf 79 = .ok (.aload_n 1, 1) := by decide +kernel
theorem d_Be_exponentOf_80 : decode b_Be_exponentOf 80 = .ok (.getfield 55, 3) := by decide +kernel
theorem d_Be_exponentOf_83 : decode b_Be_exponentOf 83 = .ok (.invokevirtual 75, 3) := by decide +kernel
theorem d_Be_exponentOf_86 : decode b_Be_exponentOf 86 = .ok (.ifCond .ge 7, 3) := by decide +kernel
theorem d_Be_exponentOf_89 : decode b_Be_exponentOf 89 = .ok (.iconst 1, 1) := by decide +kernel
theorem d_Be_exponentOf_90 : decode b_Be_exponentOf 90 = .ok (.goto 4, 3) := by decide +kernel
theorem d_Be_exponentOf_93 : decode b_Be_exponentOf 93 = .ok (.iconst 0, 1) := by decide +kernel
theorem d_Be_exponentOf_94 : decode b_Be_exponentOf 94 = .ok (.istore_n 3, 1) := by decide +kernel
theorem d_Be_exponentOf_95 : decode b_Be_exponentOf 95 = .ok (.iload_n 3, 1) := by decide +kernel
theorem d_Be_exponentOf_96 : decode b_Be_exponentOf 96 = .ok (.ifCond .eq 9, 3) := by decide +kernel
theorem d_Be_exponentOf_99 : decode b_Be_exponentOf 99 = .ok (.iload_n 2, 1) := by decide +kernel
theorem d_Be_exponentOf_100 : decode b_Be_exponentOf 100 = .ok (.iconst 1, 1) := by decide +kernel
theorem d_Be_exponentOf_101 : decode b_Be_exponentOf 101 = .ok (.isub, 1) := by decide +kernel
theorem d_Be_exponentOf_102 : decode b_Be_exponentOf 102 = .ok (.goto 4, 3) := by decide +kernel
theorem d_Be_exponentOf_105 : decode b_Be_exponentOf 105 = .ok (.iload_n 2, 1) := by decide +kernel
theorem d_Be_exponentOf_106 : decode b_Be_exponentOf 106 = .ok (.ireturn, 1) := by decide +kernel
theorem d_Be_nearestMultiple_0 : decode b_Be_nearestMultiple 0 = .ok (.aload_n 2, 1) := by decide +kernel
theorem d_Be_nearestMultiple_1 : decode b_Be_nearestMultiple 1 = .ok (.getfield 55, 3) := by decide +kernel
theorem d_Be_nearestMultiple_4 : decode b_Be_nearestMultiple 4 = .ok (.iload_n 3, 1) := by decide +kernel
theorem d_Be_nearestMultiple_5 : decode b_Be_nearestMultiple 5 = .ok (.invokevirtual 101, 3) := by decide +kernel
theorem d_Be_nearestMultiple_8 : decode b_Be_nearestMultiple 8 = .ok (.aload_n 2, 1) := by decide +kernel
theorem d_Be_nearestMultiple_9 : decode b_Be_nearestMultiple 9 = .ok (.getfield 50, 3) := by decide +kernel
theorem d_Be_nearestMultiple_12 : decode b_Be_nearestMultiple 12 = .ok (.iload_n 3, 1) := by decide +kernel
theorem d_Be_nearestMultiple_13 : decode b_Be_nearestMultiple 13 = .ok (.ineg, 1) := by decide +kernel
theorem d_Be_nearestMultiple_14 : decode b_Be_nearestMultiple 14 = .ok (.invokevirtual 101, 3) := by decide +kernel
theorem d_Be_nearestMultiple_17 : decode b_Be_nearestMultiple 17 = .ok (.aload_n 2, 1) := by decide +kernel
theorem d_Be_nearestMultiple_18 : decode b_Be_nearestMultiple 18 = .ok (.getfield 50, 3) := by decide +kernel
theorem d_Be_nearestMultiple_21 : decode b_Be_nearestMultiple 21 = .ok (.aload_n 2, 1) := by decide +kernel
theorem d_Be_nearestMultiple_22 : decode b_Be_nearestMultiple 22 = .ok (.getfield 55, 3) := by decide +kernel
theorem d_Be_nearestMultiple_25 : decode b_Be_nearestMultiple 25 = .ok (.aload_n 0, 1) := by decide +kernel
theorem d_Be_nearestMultiple_26 : decode b_Be_nearestMultiple 26 = .ok (.getfield 25, 3) := by decide +kernel
theorem d_Be_nearestMultiple_29 : decode b_Be_nearestMultiple 29 = .ok (.invokevirtual 39, 3) := by decide +kernel
theorem d_Be_nearestMultiple_32 : decode b_Be_nearestMultiple 32 = .ok (.aload_n 2, 1) := by decide +kernel
theorem d_Be_nearestMultiple_33 : decode b_Be_nearestMultiple 33 = .ok (.getfield 50, 3) := by decide +kernel
theorem d_Be_nearestMultiple_36 : decode b_Be_nearestMultiple 36 = .ok (.iconst 1, 1) := by decide +kernel
theorem d_Be_nearestMultiple_37 : decode b_Be_nearestMultiple 37 = .ok (.invokevirtual 101, 3) := by decide +kernel
theorem d_Be_nearestMultiple_40 : decode b_Be_nearestMultiple 40 = .ok (.aload_n 2, 1) := by decide +kernel
theorem d_Be_nearestMultiple_41 : decode b_Be_nearestMultiple 41 = .ok (.getfield 50, 3) := by decide +kernel
theorem d_Be_nearestMultiple_44 : decode b_Be_nearestMultiple 44 = .ok (.aload_n 2, 1) := by decide +kernel
theorem d_Be_nearestMultiple_45 : decode b_Be_nearestMultiple 45 = .ok (.getfield 55, 3) := by decide +kernel
theorem d_Be_nearestMultiple_48 : decode b_Be_nearestMultiple 48 = .ok (.invokevirtual 75, 3) := by decide +kernel
theorem d_Be_nearestMultiple_51 : decode b_Be_nearestMultiple 51 = .ok (.istore 4, 2) := by decide +kernel
theorem d_Be_nearestMultiple_53 : decode b_Be_nearestMultiple 53 = .ok (.iload 4, 2) := by decide +kernel
theorem d_Be_nearestMultiple_55 : decode b_Be_nearestMultiple 55 = .ok (.ifCond .gt 18, 3) := by decide +kernel
theorem d_Be_nearestMultiple_58 : decode b_Be_nearestMultiple 58 = .ok (.iload 4, 2) := by decide +kernel
theorem d_Be_nearestMultiple_60 : decode b_Be_nearestMultiple 60 = .ok (.ifCond .ne 22, 3) := by decide +kernel
theorem d_Be_nearestMultiple_63 : decode b_Be_nearestMultiple 63 = .ok (.aload_n 0, 1) := by decide +kernel
theorem d_Be_nearestMultiple_64 : decode b_Be_nearestMultiple 64 = .ok (.getfield 25, 3) := by decide +kernel
theorem d_Be_nearestMultiple_67 : decode b_Be_nearestMultiple 67 = .ok (.invokevirtual 104, 3) := by decide +kernel
theorem d_Be_nearestMultiple_70 : decode b_Be_nearestMultiple 70 = .ok (.ifCond .eq 12, 3) := by decide +kernel
theorem d_Be_nearestMultiple_73 : decode b_Be_nearestMultiple 73 = .ok (.aload_n 0, 1) := by decide +kernel
theorem d_Be_nearestMultiple_74 : decode b_Be_nearestMultiple 74 = .ok (.getfield 25, 3) := by decide +kernel
theorem d_Be_nearestMultiple_77 : decode b_Be_nearestMultiple 77 = .ok (.iconst 1, 1) := by decide +kernel
theorem d_Be_nearestMultiple_78 : decode b_Be_nearestMultiple 78 = .ok (.iconst 1, 1) := by decide +kernel
theorem d_Be_nearestMultiple_79 : decode b_Be_nearestMultiple 79 = .ok (.invokevirtual 107, 3) := by decide +kernel
theorem d_Be_nearestMultiple_82 : decode b_Be_nearestMultiple 82 = .ok (.aload_n 1, 1) := by decide +kernel
theorem d_Be_nearestMultiple_83 : decode b_Be_nearestMultiple 83 = .ok (.aload_n 0, 1) := by decide +kernel
theorem d_Be_nearestMultiple_84 : decode b_Be_nearestMultiple 84 = .ok (.getfield 25, 3) := by decide +kernel
theorem d_Be_nearestMultiple_87 : decode b_Be_nearestMultiple 87 = .ok (.iload_n 3, 1) := by decide +kernel
theorem d_Be_nearestMultiple_88 : decode b_Be_nearestMultiple 88 = .ok (.invokevirtual 111, 3) := by decide +kernel
theorem d_Be_nearestMultiple_91 : decode b_Be_nearestMultiple 91 = .ok (.aload_n 1, 1) := by decide +kernel
theorem d_Be_nearestMultiple_92 : decode b_Be_nearestMultiple 92 = .ok (.aload_n 0, 1) := by decide +kernel
theorem d_Be_nearestMultiple_93 : decode b_Be_nearestMultiple 93 = .ok (.getfield 25, 3) := by decide +kernel
theorem d_Be_nearestMultiple_96 : decode b_Be_nearestMultiple 96 = .ok (.getfield 115, 3) := by decide +kernel
theorem d_Be_nearestMultiple_99 : decode b_Be_nearestMultiple 99 = .ok (.ifCond .ne 7, 3) := by decide +kernel
theorem d_Be_nearestMultiple_102 : decode b_Be_nearestMultiple 102 = .ok (.iconst 0, 1) := by decide +kernel
theorem d_Be_nearestMultiple_103 : decode b_Be_nearestMultiple 103 = .ok (.goto 7, 3) := by decide +kernel
theorem d_Be_nearestMultiple_106 : decode b_Be_nearestMultiple 106 = .ok (.aload_n 2, 1) := by decide +kernel
theorem d_Be_nearestMultiple_107 : decode b_Be_nearestMultiple 107 = .ok (.getfield 64, 3) := by decide +kernel
theorem d_Be_nearestMultiple_110 : decode b_Be_nearestMultiple 110 = .ok (.putfield 64, 3) := by decide +kernel
theorem d_Be_nearestMultiple_113 : decode b_Be_nearestMultiple 113 = .ok (.return_, 1) := by decide +kernel
