theorem d_Rg_init_0 : decode b_Rg_init 0 = .ok (.aload_n 0, 1) := by decide +kernel
theorem d_Rg_init_1 : decode b_Rg_init 1 = .ok (.invokespecial 3, 3) := by decide +kernel
theorem d_Rg_init_4 : decode b_Rg_init 4 = .ok (.aload_n 0, 1) := by decide +kernel
theorem d_Rg_init_5 : decode b_Rg_init 5 = .ok (.bipush 32, 2) := by decide +kernel
theorem d_Rg_init_7 : decode b_Rg_init 7 = .ok (.newarray .int, 2) := by decide +kernel
theorem d_Rg_init_9 : decode b_Rg_init 9 = .ok (.putfield 9, 3) := by decide +kernel
theorem d_Rg_init_12 : decode b_Rg_init 12 = .ok (.aload_n 0, 1) := by decide +kernel
theorem d_Rg_init_13 : decode b_Rg_init 13 = .ok (.bipush 32, 2) := by decide +kernel
theorem d_Rg_init_15 : decode b_Rg_init 15 = .ok (.newarray .int, 2) := by decide +kernel
theorem d_Rg_init_17 : decode b_Rg_init 17 = .ok (.putfield 15, 3) := by decide +kernel
theorem d_Rg_init_20 : decode b_Rg_init 20 = .ok (.aload_n 0, 1) := by decide +kernel
theorem d_Rg_init_21 : decode b_Rg_init 21 = .ok (.bipush 32, 2) := by decide +kernel
theorem d_Rg_init_23 : decode b_Rg_init 23 = .ok (.newarray .int, 2) := by decide +kernel
theorem d_Rg_init_25 : decode b_Rg_init 25 = .ok (.putfield 18, 3) := by decide +kernel
theorem d_Rg_init_28 : decode b_Rg_init 28 = .ok (.aload_n 0, 1) := by decide +kernel
theorem d_Rg_init_29 : decode b_Rg_init 29 = .ok (.bipush 32, 2) := by decide +kernel
theorem d_Rg_init_31 : decode b_Rg_init 31 = .ok (.newarray .int, 2) := by decide +kernel
theorem d_Rg_init_33 : decode b_Rg_init 33 = .ok (.putfield 21, 3) := by decide +kernel
theorem d_Rg_init_36 : decode b_Rg_init 36 = .ok (.aload_n 0, 1) := by decide +kernel
theorem d_Rg_init_37 : decode b_Rg_init 37 = .ok (.iload_n 1, 1) := by decide +kernel
theorem d_Rg_init_38 : decode b_Rg_init 38 = .ok (.bipush 32, 2) := by decide +kernel
theorem d_Rg_init_40 : decode b_Rg_init 40 = .ok (.invokestatic 24, 3) := by decide +kernel
theorem d_Rg_init_43 : decode b_Rg_init 43 = .ok (.newarray .int, 2) := by decide +kernel
theorem d_Rg_init_45 : decode b_Rg_init 45 = .ok (.putfield 30, 3) := by decide +kernel
theorem d_Rg_init_48 : decode b_Rg_init 48 = .ok (.iconst 0, 1) := by decide +kernel
theorem d_Rg_init_49 : decode b_Rg_init 49 = .ok (.istore_n 2, 1) := by decide +kernel
theorem d_Rg_init_50 : decode b_Rg_init 50 = .ok (.iload_n 2, 1) := by decide +kernel
theorem d_Rg_init_51 : decode b_Rg_init 51 = .ok (.bipush 32, 2) := by decide +kernel
theorem d_Rg_init_53 : decode b_Rg_init 53 = .ok (.if_icmp .ge 30, 3) := by decide +kernel
theorem d_Rg_init_56 : decode b_Rg_init 56 = .ok (.aload_n 0, 1) := by decide +kernel
theorem d_Rg_init_57 : decode b_Rg_init 57 = .ok (.getfield 9, 3) := by decide +kernel
theorem d_Rg_init_60 : decode b_Rg_init 60 = .ok (.iload_n 2, 1) := by decide +kernel
theorem d_Rg_init_61 : decode b_Rg_init 61 = .ok (.iload_n 2, 1) := by decide +kernel
theorem d_Rg_init_62 : decode b_Rg_init 62 = .ok (.iastore, 1) := by decide +kernel
theorem d_Rg_init_63 : decode b_Rg_init 63 = .ok (.aload_n 0, 1) := by decide +kernel
theorem d_Rg_init_64 : decode b_Rg_init 64 = .ok (.getfield 18, 3) := by decide +kernel
theorem d_Rg_init_67 : decode b_Rg_init 67 = .ok (.iload_n 2, 1) := by decide +kernel
theorem d_Rg_init_68 : decode b_Rg_init 68 = .ok (.iconst 1, 1) := by decide +kernel
theorem d_Rg_init_69 : decode b_Rg_init 69 = .ok (.iastore, 1) := by decide +kernel
theorem d_Rg_init_70 : decode b_Rg_init 70 = .ok (.aload_n 0, 1) := by decide +kernel
theorem d_Rg_init_71 : decode b_Rg_init 71 = .ok (.getfield 30, 3) := by decide +kernel
theorem d_Rg_init_74 : decode b_Rg_init 74 = .ok (.iload_n 2, 1) := by decide +kernel
theorem d_Rg_init_75 : decode b_Rg_init 75 = .ok (.iconst 1, 1) := by decide +kernel
theorem d_Rg_init_76 : decode b_Rg_init 76 = .ok (.iastore, 1) := by decide +kernel
theorem d_Rg_init_77 : decode b_Rg_init 77 = .ok (.iinc 2 1, 3) := by decide +kernel
theorem d_Rg_init_80 : decode b_Rg_init 80 = .ok (.goto (-30), 3) := by decide +kernel
theorem d_Rg_init_83 : decode b_Rg_init 83 = .ok (.aload_n 0, 1) := by decide +kernel
theorem d_Rg_init_84 : decode b_Rg_init 84 = .ok (.bipush 32, 2) := by decide +kernel
theorem d_Rg_init_86 : decode b_Rg_init 86 = .ok (.putfield 33, 3) := by decide +kernel
theorem d_Rg_init_89 : decode b_Rg_init 89 = .ok (.return_, 1) := by decide +kernel
theorem d_Rg_keep_0 : decode b_Rg_keep 0 = .ok (.aload_n 2, 1) := by decide +kernel
theorem d_Rg_keep_1 : decode b_Rg_keep 1 = .ok (.getfield 52, 3) := by decide +kernel
theorem d_Rg_keep_4 : decode b_Rg_keep 4 = .ok (.getfield 68, 3) := by decide +kernel
theorem d_Rg_keep_7 : decode b_Rg_keep 7 = .ok (.aload_n 2, 1) := by decide +kernel
theorem d_Rg_keep_8 : decode b_Rg_keep 8 = .ok (.getfield 62, 3) := by decide +kernel
theorem d_Rg_keep_11 : decode b_Rg_keep 11 = .ok (.getfield 68, 3) := by decide +kernel
theorem d_Rg_keep_14 : decode b_Rg_keep 14 = .ok (.iadd, 1) := by decide +kernel
theorem d_Rg_keep_15 : decode b_Rg_keep 15 = .ok (.istore_n 3, 1) := by decide +kernel
theorem d_Rg_keep_16 : decode b_Rg_keep 16 = .ok (.aload_n 0, 1) := by decide +kernel
theorem d_Rg_keep_17 : decode b_Rg_keep 17 = .ok (.getfield 33, 3) := by decide +kernel
theorem d_Rg_keep_20 : decode b_Rg_keep 20 = .ok (.aload_n 0, 1) := by decide +kernel
theorem d_Rg_keep_21 : decode b_Rg_keep 21 = .ok (.iload_n 1, 1) := by decide +kernel
theorem d_Rg_keep_22 : decode b_Rg_keep 22 = .ok (.invokevirtual 71, 3) := by decide +kernel
theorem d_Rg_keep_25 : decode b_Rg_keep 25 = .ok (.isub, 1) := by decide +kernel
theorem d_Rg_keep_26 : decode b_Rg_keep 26 = .ok (.iload_n 3, 1) := by decide +kernel
theorem d_Rg_keep_27 : decode b_Rg_keep 27 = .ok (.iadd, 1) := by decide +kernel
theorem d_Rg_keep_28 : decode b_Rg_keep 28 = .ok (.aload_n 0, 1) := by decide +kernel
theorem d_Rg_keep_29 : decode b_Rg_keep 29 = .ok (.getfield 30, 3) := by decide +kernel
theorem d_Rg_keep_32 : decode b_Rg_keep 32 = .ok (.arraylength, 1) := by decide +kernel
theorem d_Rg_keep_33 : decode b_Rg_keep 33 = .ok (.if_icmp .le 13, 3) := by decide +kernel
theorem d_Rg_keep_36 : decode b_Rg_keep 36 = .ok (.new 74, 3) := by decide +kernel
theorem d_Rg_keep_39 : decode b_Rg_keep 39 = .ok (.dup, 1) := by decide +kernel
theorem d_Rg_keep_40 : decode b_Rg_keep 40 = .ok (.ldc 76, 2) := by decide +kernel
theorem d_Rg_keep_42 : decode b_Rg_keep 42 = .ok (.invokespecial 78, 3) := by decide +kernel
theorem d_Rg_keep_45 : decode b_Rg_keep 45 = .ok (.athrow, 1) := by decide +kernel
theorem d_Rg_keep_46 : decode b_Rg_keep 46 = .ok (.aload_n 0, 1) := by decide +kernel
theorem d_Rg_keep_47 : decode b_Rg_keep 47 = .ok (.iload_n 1, 1) := by decide +kernel
theorem d_Rg_keep_48 : decode b_Rg_keep 48 = .ok (.invokevirtual 81, 3) := by decide +kernel
theorem d_Rg_keep_51 : decode b_Rg_keep 51 = .ok (.aload_n 0, 1) := by decide +kernel
theorem d_Rg_keep_52 : decode b_Rg_keep 52 = .ok (.getfield 9, 3) := by decide +kernel
theorem d_Rg_keep_55 : decode b_Rg_keep 55 = .ok (.iload_n 1, 1) := by decide +kernel
theorem d_Rg_keep_56 : decode b_Rg_keep 56 = .ok (.aload_n 0, 1) := by decide +kernel
theorem d_Rg_keep_57 : decode b_Rg_keep 57 = .ok (.getfield 33, 3) := by decide +kernel
theorem d_Rg_keep_60 : decode b_Rg_keep 60 = .ok (.iastore, 1) := by decide +kernel
theorem d_Rg_keep_61 : decode b_Rg_keep 61 = .ok (.aload_n 0, 1) := by decide +kernel
theorem d_Rg_keep_62 : decode b_Rg_keep 62 = .ok (.getfield 15, 3) := by decide +kernel
theorem d_Rg_keep_65 : decode b_Rg_keep 65 = .ok (.iload_n 1, 1) := by decide +kernel
theorem d_Rg_keep_66 : decode b_Rg_keep 66 = .ok (.aload_n 2, 1) := by decide +kernel
theorem d_Rg_keep_67 : decode b_Rg_keep 67 = .ok (.getfield 52, 3) := by decide +kernel
theorem d_Rg_keep_70 : decode b_Rg_keep 70 = .ok (.getfield 68, 3) := by decide +kernel
theorem d_Rg_keep_73 : decode b_Rg_keep 73 = .ok (.iastore, 1) := by decide +kernel
theorem d_Rg_keep_74 : decode b_Rg_keep 74 = .ok (.aload_n 0, 1) := by decide +kernel
theorem d_Rg_keep_75 : decode b_Rg_keep 75 = .ok (.getfield 18, 3) := by decide +kernel
theorem d_Rg_keep_78 : decode b_Rg_keep 78 = .ok (.iload_n 1, 1) := by decide +kernel
theorem d_Rg_keep_79 : decode b_Rg_keep 79 = .ok (.aload_n 2, 1) := by decide +kernel
theorem d_Rg_keep_80 : decode b_Rg_keep 80 = .ok (.getfield 62, 3) := by decide +kernel
theorem d_Rg_keep_83 : decode b_Rg_keep 83 = .ok (.getfield 68, 3) := by decide +kernel
theorem d_Rg_keep_86 : decode b_Rg_keep 86 = .ok (.iastore, 1) := by decide +kernel
theorem d_Rg_keep_87 : decode b_Rg_keep 87 = .ok (.aload_n 0, 1) := by decide +kernel
theorem d_Rg_keep_88 : decode b_Rg_keep 88 = .ok (.getfield 21, 3) := by decide +kernel
theorem d_Rg_keep_91 : decode b_Rg_keep 91 = .ok (.iload_n 1, 1) := by decide +kernel
theorem d_Rg_keep_92 : decode b_Rg_keep 92 = .ok (.aload_n 2, 1) := by decide +kernel
theorem d_Rg_keep_93 : decode b_Rg_keep 93 = .ok (.getfield 47, 3) := by decide +kernel
theorem d_Rg_keep_96 : decode b_Rg_keep 96 = .ok (.iastore, 1) := by decide +kernel
theorem d_Rg_keep_97 : decode b_Rg_keep 97 = .ok (.aload_n 2, 1) := by decide +kernel
theorem d_Rg_keep_98 : decode b_Rg_keep 98 = .ok (.getfield 52, 3) := by decide +kernel
theorem d_Rg_keep_101 : decode b_Rg_keep 101 = .ok (.getfield 85, 3) := by decide +kernel
theorem d_Rg_keep_104 : decode b_Rg_keep 104 = .ok (.iconst 0, 1) := by decide +kernel
theorem d_Rg_keep_105 : decode b_Rg_keep 105 = .ok (.aload_n 0, 1) := by decide +kernel
theorem d_Rg_keep_106 : decode b_Rg_keep 106 = .ok (.getfield 30, 3) := by decide +kernel
theorem d_Rg_keep_109 : decode b_Rg_keep 109 = .ok (.aload_n 0, 1) := by decide +kernel
theorem d_Rg_keep_110 : decode b_Rg_keep 110 = .ok (.getfield 33, 3) := by decide +kernel
theorem d_Rg_keep_113 : decode b_Rg_keep 113 = .ok (.aload_n 2, 1) := by decide +kernel
theorem d_Rg_keep_114 : decode b_Rg_keep 114 = .ok (.getfield 52, 3) := by decide +kernel
theorem d_Rg_keep_117 : decode b_Rg_keep 117 = .ok (.getfield 68, 3) := by decide +kernel
theorem d_Rg_keep_120 : decode b_Rg_keep 120 = .ok (.invokestatic 88, 3) := by decide +kernel
theorem d_Rg_keep_123 : decode b_Rg_keep 123 = .ok (.aload_n 2, 1) := by decide +kernel
theorem d_Rg_keep_124 : decode b_Rg_keep 124 = .ok (.getfield 62, 3) := by decide +kernel
theorem d_Rg_keep_127 : decode b_Rg_keep 127 = .ok (.getfield 85, 3) := by decide +kernel
theorem d_Rg_keep_130 : decode b_Rg_keep 130 = .ok (.iconst 0, 1) := by decide +kernel
theorem d_Rg_keep_131 : decode b_Rg_keep 131 = .ok (.aload_n 0, 1) := by decide +kernel
theorem d_Rg_keep_132 : decode b_Rg_keep 132 = .ok (.getfield 30, 3) := by decide +kernel
theorem d_Rg_keep_135 : decode b_Rg_keep 135 = .ok (.aload_n 0, 1) := by decide +kernel
theorem d_Rg_keep_136 : decode b_Rg_keep 136 = .ok (.getfield 33, 3) := by decide +kernel
theorem d_Rg_keep_139 : decode b_Rg_keep 139 = .ok (.aload_n 2, 1) := by decide +kernel
theorem d_Rg_keep_140 : decode b_Rg_keep 140 = .ok (.getfield 52, 3) := by decide +kernel
theorem d_Rg_keep_143 : decode b_Rg_keep 143 = .ok (.getfield 68, 3) := by decide +kernel
theorem d_Rg_keep_146 : decode b_Rg_keep 146 = .ok (.iadd, 1) := by decide +kernel
theorem d_Rg_keep_147 : decode b_Rg_keep 147 = .ok (.aload_n 2, 1) := by decide +kernel
theorem d_Rg_keep_148 : decode b_Rg_keep 148 = .ok (.getfield 62, 3) := by decide +kernel
theorem d_Rg_keep_151 : decode b_Rg_keep 151 = .ok (.getfield 68, 3) := by decide +kernel
theorem d_Rg_keep_154 : decode b_Rg_keep 154 = .ok (.invokestatic 88, 3) := by decide +kernel
theorem d_Rg_keep_157 : decode b_Rg_keep 157 = .ok (.aload_n 0, 1) := by decide +kernel
theorem d_Rg_keep_158 : decode b_Rg_keep 158 = .ok (.dup, 1) := by decide +kernel
theorem d_Rg_keep_159 : decode b_Rg_keep 159 = .ok (.getfield 33, 3) := by decide +kernel
theorem d_Rg_keep_162 : decode b_Rg_keep 162 = .ok (.iload_n 3, 1) := by decide +kernel
theorem d_Rg_keep_163 : decode b_Rg_keep 163 = .ok (.iadd, 1) := by decide +kernel
theorem d_Rg_keep_164 : decode b_Rg_keep 164 = .ok (.putfield 33, 3) := by decide +kernel
theorem d_Rg_keep_167 : decode b_Rg_keep 167 = .ok (.iload_n 3, 1) := by decide +kernel
theorem d_Rg_keep_168 : decode b_Rg_keep 168 = .ok (.ireturn, 1) := by decide +kernel
theorem d_Rg_needOf_0 : decode b_Rg_needOf 0 = .ok (.aload_n 0, 1) := by decide +kernel
theorem d_Rg_needOf_1 : decode b_Rg_needOf 1 = .ok (.getfield 15, 3) := by decide +kernel
theorem d_Rg_needOf_4 : decode b_Rg_needOf 4 = .ok (.iload_n 1, 1) := by decide +kernel
theorem d_Rg_needOf_5 : decode b_Rg_needOf 5 = .ok (.iaload, 1) := by decide +kernel
theorem d_Rg_needOf_6 : decode b_Rg_needOf 6 = .ok (.aload_n 0, 1) := by decide +kernel
theorem d_Rg_needOf_7 : decode b_Rg_needOf 7 = .ok (.getfield 18, 3) := by decide +kernel
theorem d_Rg_needOf_10 : decode b_Rg_needOf 10 = .ok (.iload_n 1, 1) := by decide +kernel
theorem d_Rg_needOf_11 : decode b_Rg_needOf 11 = .ok (.iaload, 1) := by decide +kernel
theorem d_Rg_needOf_12 : decode b_Rg_needOf 12 = .ok (.iadd, 1) := by decide +kernel
theorem d_Rg_needOf_13 : decode b_Rg_needOf 13 = .ok (.ireturn, 1) := by decide +kernel
theorem d_Rg_takeOut_0 : decode b_Rg_takeOut 0 = .ok (.aload_n 0, 1) := by decide +kernel
theorem d_Rg_takeOut_1 : decode b_Rg_takeOut 1 = .ok (.iload_n 1, 1) := by decide +kernel
theorem d_Rg_takeOut_2 : decode b_Rg_takeOut 2 = .ok (.invokevirtual 71, 3) := by decide +kernel
theorem d_Rg_takeOut_5 : decode b_Rg_takeOut 5 = .ok (.istore_n 2, 1) := by decide +kernel
theorem d_Rg_takeOut_6 : decode b_Rg_takeOut 6 = .ok (.aload_n 0, 1) := by decide +kernel
theorem d_Rg_takeOut_7 : decode b_Rg_takeOut 7 = .ok (.getfield 9, 3) := by decide +kernel
theorem d_Rg_takeOut_10 : decode b_Rg_takeOut 10 = .ok (.iload_n 1, 1) := by decide +kernel
theorem d_Rg_takeOut_11 : decode b_Rg_takeOut 11 = .ok (.iaload, 1) := by decide +kernel
theorem d_Rg_takeOut_12 : decode b_Rg_takeOut 12 = .ok (.iload_n 2, 1) := by decide +kernel
theorem d_Rg_takeOut_13 : decode b_Rg_takeOut 13 = .ok (.iadd, 1) := by decide +kernel
theorem d_Rg_takeOut_14 : decode b_Rg_takeOut 14 = .ok (.istore_n 3, 1) := by decide +kernel
theorem d_Rg_takeOut_15 : decode b_Rg_takeOut 15 = .ok (.aload_n 0, 1) := by decide +kernel
theorem d_Rg_takeOut_16 : decode b_Rg_takeOut 16 = .ok (.getfield 30, 3) := by decide +kernel
theorem d_Rg_takeOut_19 : decode b_Rg_takeOut 19 = .ok (.iload_n 3, 1) := by decide +kernel
theorem d_Rg_takeOut_20 : decode b_Rg_takeOut 20 = .ok (.aload_n 0, 1) := by decide +kernel
theorem d_Rg_takeOut_21 : decode b_Rg_takeOut 21 = .ok (.getfield 30, 3) := by decide +kernel
theorem d_Rg_takeOut_24 : decode b_Rg_takeOut 24 = .ok (.aload_n 0, 1) := by decide +kernel
theorem d_Rg_takeOut_25 : decode b_Rg_takeOut 25 = .ok (.getfield 9, 3) := by decide +kernel
theorem d_Rg_takeOut_28 : decode b_Rg_takeOut 28 = .ok (.iload_n 1, 1) := by decide +kernel
theorem d_Rg_takeOut_29 : decode b_Rg_takeOut 29 = .ok (.iaload, 1) := by decide +kernel
theorem d_Rg_takeOut_30 : decode b_Rg_takeOut 30 = .ok (.aload_n 0, 1) := by decide +kernel
theorem d_Rg_takeOut_31 : decode b_Rg_takeOut 31 = .ok (.getfield 33, 3) := by decide +kernel
theorem d_Rg_takeOut_34 : decode b_Rg_takeOut 34 = .ok (.iload_n 3, 1) := by decide +kernel
theorem d_Rg_takeOut_35 : decode b_Rg_takeOut 35 = .ok (.isub, 1) := by decide +kernel
theorem d_Rg_takeOut_36 : decode b_Rg_takeOut 36 = .ok (.invokestatic 88, 3) := by decide +kernel
theorem d_Rg_takeOut_39 : decode b_Rg_takeOut 39 = .ok (.iconst 0, 1) := by decide +kernel
theorem d_Rg_takeOut_40 : decode b_Rg_takeOut 40 = .ok (.istore 4, 2) := by decide +kernel
theorem d_Rg_takeOut_42 : decode b_Rg_takeOut 42 = .ok (.iload 4, 2) := by decide +kernel
theorem d_Rg_takeOut_44 : decode b_Rg_takeOut 44 = .ok (.bipush 32, 2) := by decide +kernel
theorem d_Rg_takeOut_46 : decode b_Rg_takeOut 46 = .ok (.if_icmp .ge 31, 3) := by decide +kernel
theorem d_Rg_takeOut_49 : decode b_Rg_takeOut 49 = .ok (.aload_n 0, 1) := by decide +kernel
theorem d_Rg_takeOut_50 : decode b_Rg_takeOut 50 = .ok (.getfield 9, 3) := by decide +kernel
theorem d_Rg_takeOut_53 : decode b_Rg_takeOut 53 = .ok (.iload 4, 2) := by decide +kernel
theorem d_Rg_takeOut_55 : decode b_Rg_takeOut 55 = .ok (.iaload, 1) := by decide +kernel
theorem d_Rg_takeOut_56 : decode b_Rg_takeOut 56 = .ok (.iload_n 3, 1) := by decide +kernel
theorem d_Rg_takeOut_57 : decode b_Rg_takeOut 57 = .ok (.if_icmp .lt 14, 3) := by decide +kernel
theorem d_Rg_takeOut_60 : decode b_Rg_takeOut 60 = .ok (.aload_n 0, 1) := by decide +kernel
theorem d_Rg_takeOut_61 : decode b_Rg_takeOut 61 = .ok (.getfield 9, 3) := by decide +kernel
theorem d_Rg_takeOut_64 : decode b_Rg_takeOut 64 = .ok (.iload 4, 2) := by decide +kernel
theorem d_Rg_takeOut_66 : decode b_Rg_takeOut 66 = .ok (.dup2, 1) := by decide +kernel
theorem d_Rg_takeOut_67 : decode b_Rg_takeOut 67 = .ok (.iaload, 1) := by decide +kernel
theorem d_Rg_takeOut_68 : decode b_Rg_takeOut 68 = .ok (.iload_n 2, 1) := by decide +kernel
theorem d_Rg_takeOut_69 : decode b_Rg_takeOut 69 = .ok (.isub, 1) := by decide +kernel
theorem d_Rg_takeOut_70 : decode b_Rg_takeOut 70 = .ok (.iastore, 1) := by decide +kernel
theorem d_Rg_takeOut_71 : decode b_Rg_takeOut 71 = .ok (.iinc 4 1, 3) := by decide +kernel
theorem d_Rg_takeOut_74 : decode b_Rg_takeOut 74 = .ok (.goto (-32), 3) := by decide +kernel
theorem d_Rg_takeOut_77 : decode b_Rg_takeOut 77 = .ok (.aload_n 0, 1) := by decide +kernel
theorem d_Rg_takeOut_78 : decode b_Rg_takeOut 78 = .ok (.dup, 1) := by decide +kernel
theorem d_Rg_takeOut_79 : decode b_Rg_takeOut 79 = .ok (.getfield 33, 3) := by decide +kernel
theorem d_Rg_takeOut_82 : decode b_Rg_takeOut 82 = .ok (.iload_n 2, 1) := by decide +kernel
theorem d_Rg_takeOut_83 : decode b_Rg_takeOut 83 = .ok (.isub, 1) := by decide +kernel
theorem d_Rg_takeOut_84 : decode b_Rg_takeOut 84 = .ok (.putfield 33, 3) := by decide +kernel
theorem d_Rg_takeOut_87 : decode b_Rg_takeOut 87 = .ok (.return_, 1) := by decide +kernel
theorem d_Rg_load_0 : decode b_Rg_load 0 = .ok (.aload_n 2, 1) := by decide +kernel
theorem d_Rg_load_1 : decode b_Rg_load 1 = .ok (.aload_n 0, 1) := by decide +kernel
theorem d_Rg_load_2 : decode b_Rg_load 2 = .ok (.getfield 21, 3) := by decide +kernel
theorem d_Rg_load_5 : decode b_Rg_load 5 = .ok (.iload_n 1, 1) := by decide +kernel
theorem d_Rg_load_6 : decode b_Rg_load 6 = .ok (.iaload, 1) := by decide +kernel
theorem d_Rg_load_7 : decode b_Rg_load 7 = .ok (.putfield 47, 3) := by decide +kernel
theorem d_Rg_load_10 : decode b_Rg_load 10 = .ok (.aload_n 2, 1) := by decide +kernel
theorem d_Rg_load_11 : decode b_Rg_load 11 = .ok (.getfield 52, 3) := by decide +kernel
theorem d_Rg_load_14 : decode b_Rg_load 14 = .ok (.aload_n 0, 1) := by decide +kernel
theorem d_Rg_load_15 : decode b_Rg_load 15 = .ok (.getfield 30, 3) := by decide +kernel
theorem d_Rg_load_18 : decode b_Rg_load 18 = .ok (.aload_n 0, 1) := by decide +kernel
theorem d_Rg_load_19 : decode b_Rg_load 19 = .ok (.getfield 9, 3) := by decide +kernel
theorem d_Rg_load_22 : decode b_Rg_load 22 = .ok (.iload_n 1, 1) := by decide +kernel
theorem d_Rg_load_23 : decode b_Rg_load 23 = .ok (.iaload, 1) := by decide +kernel
theorem d_Rg_load_24 : decode b_Rg_load 24 = .ok (.aload_n 0, 1) := by decide +kernel
theorem d_Rg_load_25 : decode b_Rg_load 25 = .ok (.getfield 15, 3) := by decide +kernel
theorem d_Rg_load_28 : decode b_Rg_load 28 = .ok (.iload_n 1, 1) := by decide +kernel
theorem d_Rg_load_29 : decode b_Rg_load 29 = .ok (.iaload, 1) := by decide +kernel
theorem d_Rg_load_30 : decode b_Rg_load 30 = .ok (.invokevirtual 56, 3) := by decide +kernel
theorem d_Rg_load_33 : decode b_Rg_load 33 = .ok (.aload_n 2, 1) := by decide +kernel
theorem d_Rg_load_34 : decode b_Rg_load 34 = .ok (.getfield 62, 3) := by decide +kernel
theorem d_Rg_load_37 : decode b_Rg_load 37 = .ok (.aload_n 0, 1) := by decide +kernel
theorem d_Rg_load_38 : decode b_Rg_load 38 = .ok (.getfield 30, 3) := by decide +kernel
theorem d_Rg_load_41 : decode b_Rg_load 41 = .ok (.aload_n 0, 1) := by decide +kernel
theorem d_Rg_load_42 : decode b_Rg_load 42 = .ok (.getfield 9, 3) := by decide +kernel
theorem d_Rg_load_45 : decode b_Rg_load 45 = .ok (.iload_n 1, 1) := by decide +kernel
theorem d_Rg_load_46 : decode b_Rg_load 46 = .ok (.iaload, 1) := by decide +kernel
theorem d_Rg_load_47 : decode b_Rg_load 47 = .ok (.aload_n 0, 1) := by decide +kernel
theorem d_Rg_load_48 : decode b_Rg_load 48 = .ok (.getfield 15, 3) := by decide +kernel
theorem d_Rg_load_51 : decode b_Rg_load 51 = .ok (.iload_n 1, 1) := by decide +kernel
theorem d_Rg_load_52 : decode b_Rg_load 52 = .ok (.iaload, 1) := by decide +kernel
theorem d_Rg_load_53 : decode b_Rg_load 53 = .ok (.iadd, 1) := by decide +kernel
theorem d_Rg_load_54 : decode b_Rg_load 54 = .ok (.aload_n 0, 1) := by decide +kernel
theorem d_Rg_load_55 : decode b_Rg_load 55 = .ok (.getfield 18, 3) := by decide +kernel
theorem d_Rg_load_58 : decode b_Rg_load 58 = .ok (.iload_n 1, 1) := by decide +kernel
theorem d_Rg_load_59 : decode b_Rg_load 59 = .ok (.iaload, 1) := by decide +kernel
theorem d_Rg_load_60 : decode b_Rg_load 60 = .ok (.invokevirtual 56, 3) := by decide +kernel
theorem d_Rg_load_63 : decode b_Rg_load 63 = .ok (.return_, 1) := by decide +kernel
theorem d_Rg_exchange_0 : decode b_Rg_exchange 0 = .ok (.aload_n 0, 1) := by decide +kernel
theorem d_Rg_exchange_1 : decode b_Rg_exchange 1 = .ok (.getfield 9, 3) := by decide +kernel
theorem d_Rg_exchange_4 : decode b_Rg_exchange 4 = .ok (.iload_n 1, 1) := by decide +kernel
theorem d_Rg_exchange_5 : decode b_Rg_exchange 5 = .ok (.iload_n 2, 1) := by decide +kernel
theorem d_Rg_exchange_6 : decode b_Rg_exchange 6 = .ok (.invokestatic 65, 3) := by decide +kernel
theorem d_Rg_exchange_9 : decode b_Rg_exchange 9 = .ok (.aload_n 0, 1) := by decide +kernel
theorem d_Rg_exchange_10 : decode b_Rg_exchange 10 = .ok (.getfield 15, 3) := by decide +kernel
theorem d_Rg_exchange_13 : decode b_Rg_exchange 13 = .ok (.iload_n 1, 1) := by decide +kernel
theorem d_Rg_exchange_14 : decode b_Rg_exchange 14 = .ok (.iload_n 2, 1) := by decide +kernel
theorem d_Rg_exchange_15 : decode b_Rg_exchange 15 = .ok (.invokestatic 65, 3) := by decide +kernel
theorem d_Rg_exchange_18 : decode b_Rg_exchange 18 = .ok (.aload_n 0, 1) := by decide +kernel
theorem d_Rg_exchange_19 : decode b_Rg_exchange 19 = .ok (.getfield 18, 3) := by decide +kernel
theorem d_Rg_exchange_22 : decode b_Rg_exchange 22 = .ok (.iload_n 1, 1) := by decide +kernel
theorem d_Rg_exchange_23 : decode b_Rg_exchange 23 = .ok (.iload_n 2, 1) := by decide +kernel
theorem d_Rg_exchange_24 : decode b_Rg_exchange 24 = .ok (.invokestatic 65, 3) := by decide +kernel
theorem d_Rg_exchange_27 : decode b_Rg_exchange 27 = .ok (.aload_n 0, 1) := by decide +kernel
theorem d_Rg_exchange_28 : decode b_Rg_exchange 28 = .ok (.getfield 21, 3) := by decide +kernel
theorem d_Rg_exchange_31 : decode b_Rg_exchange 31 = .ok (.iload_n 1, 1) := by decide +kernel
theorem d_Rg_exchange_32 : decode b_Rg_exchange 32 = .ok (.iload_n 2, 1) := by decide +kernel
theorem d_Rg_exchange_33 : decode b_Rg_exchange 33 = .ok (.invokestatic 65, 3) := by decide +kernel
theorem d_Rg_exchange_36 : decode b_Rg_exchange 36 = .ok (.return_, 1) := by decide +kernel
theorem d_Rg_exchangeIn_0 : decode b_Rg_exchangeIn 0 = .ok (.aload_n 0, 1) := by decide +kernel
theorem d_Rg_exchangeIn_1 : decode b_Rg_exchangeIn 1 = .ok (.iload_n 1, 1) := by decide +kernel
theorem d_Rg_exchangeIn_2 : decode b_Rg_exchangeIn 2 = .ok (.iaload, 1) := by decide +kernel
theorem d_Rg_exchangeIn_3 : decode b_Rg_exchangeIn 3 = .ok (.istore_n 3, 1) := by decide +kernel
theorem d_Rg_exchangeIn_4 : decode b_Rg_exchangeIn 4 = .ok (.aload_n 0, 1) := by decide +kernel
theorem d_Rg_exchangeIn_5 : decode b_Rg_exchangeIn 5 = .ok (.iload_n 1, 1) := by decide +kernel
theorem d_Rg_exchangeIn_6 : decode b_Rg_exchangeIn 6 = .ok (.aload_n 0, 1) := by decide +kernel
theorem d_Rg_exchangeIn_7 : decode b_Rg_exchangeIn 7 = .ok (.iload_n 2, 1) := by decide +kernel
theorem d_Rg_exchangeIn_8 : decode b_Rg_exchangeIn 8 = .ok (.iaload, 1) := by decide +kernel
theorem d_Rg_exchangeIn_9 : decode b_Rg_exchangeIn 9 = .ok (.iastore, 1) := by decide +kernel
theorem d_Rg_exchangeIn_10 : decode b_Rg_exchangeIn 10 = .ok (.aload_n 0, 1) := by decide +kernel
theorem d_Rg_exchangeIn_11 : decode b_Rg_exchangeIn 11 = .ok (.iload_n 2, 1) := by decide +kernel
theorem d_Rg_exchangeIn_12 : decode b_Rg_exchangeIn 12 = .ok (.iload_n 3, 1) := by decide +kernel
theorem d_Rg_exchangeIn_13 : decode b_Rg_exchangeIn 13 = .ok (.iastore, 1) := by decide +kernel
theorem d_Rg_exchangeIn_14 : decode b_Rg_exchangeIn 14 = .ok (.return_, 1) := by decide +kernel
theorem d_Rg_signOf_0 : decode b_Rg_signOf 0 = .ok (.aload_n 0, 1) := by decide +kernel
theorem d_Rg_signOf_1 : decode b_Rg_signOf 1 = .ok (.getfield 21, 3) := by decide +kernel
theorem d_Rg_signOf_4 : decode b_Rg_signOf 4 = .ok (.iload_n 1, 1) := by decide +kernel
theorem d_Rg_signOf_5 : decode b_Rg_signOf 5 = .ok (.iaload, 1) := by decide +kernel
theorem d_Rg_signOf_6 : decode b_Rg_signOf 6 = .ok (.ireturn, 1) := by decide +kernel
theorem d_Rg_bitsOf_0 : decode b_Rg_bitsOf 0 = .ok (.iload_n 2, 1) := by decide +kernel
theorem d_Rg_bitsOf_1 : decode b_Rg_bitsOf 1 = .ok (.ifCond .eq 12, 3) := by decide +kernel
theorem d_Rg_bitsOf_4 : decode b_Rg_bitsOf 4 = .ok (.aload_n 0, 1) := by decide +kernel
theorem d_Rg_bitsOf_5 : decode b_Rg_bitsOf 5 = .ok (.getfield 18, 3) := by decide +kernel
theorem d_Rg_bitsOf_8 : decode b_Rg_bitsOf 8 = .ok (.iload_n 1, 1) := by decide +kernel
theorem d_Rg_bitsOf_9 : decode b_Rg_bitsOf 9 = .ok (.iaload, 1) := by decide +kernel
theorem d_Rg_bitsOf_10 : decode b_Rg_bitsOf 10 = .ok (.goto 9, 3) := by decide +kernel
theorem d_Rg_bitsOf_13 : decode b_Rg_bitsOf 13 = .ok (.aload_n 0, 1) := by decide +kernel
theorem d_Rg_bitsOf_14 : decode b_Rg_bitsOf 14 = .ok (.getfield 15, 3) := by decide +kernel
theorem d_Rg_bitsOf_17 : decode b_Rg_bitsOf 17 = .ok (.iload_n 1, 1) := by decide +kernel
theorem d_Rg_bitsOf_18 : decode b_Rg_bitsOf 18 = .ok (.iaload, 1) := by decide +kernel
theorem d_Rg_bitsOf_19 : decode b_Rg_bitsOf 19 = .ok (.istore_n 3, 1) := by decide +kernel
theorem d_Rg_bitsOf_20 : decode b_Rg_bitsOf 20 = .ok (.iload_n 3, 1) := by decide +kernel
theorem d_Rg_bitsOf_21 : decode b_Rg_bitsOf 21 = .ok (.ifCond .ne 5, 3) := by decide +kernel
theorem d_Rg_bitsOf_24 : decode b_Rg_bitsOf 24 = .ok (.iconst 0, 1) := by decide +kernel
theorem d_Rg_bitsOf_25 : decode b_Rg_bitsOf 25 = .ok (.ireturn, 1) := by decide +kernel
theorem d_Rg_bitsOf_26 : decode b_Rg_bitsOf 26 = .ok (.bipush 32, 2) := by decide +kernel
theorem d_Rg_bitsOf_28 : decode b_Rg_bitsOf 28 = .ok (.iload_n 3, 1) := by decide +kernel
theorem d_Rg_bitsOf_29 : decode b_Rg_bitsOf 29 = .ok (.imul, 1) := by decide +kernel
theorem d_Rg_bitsOf_30 : decode b_Rg_bitsOf 30 = .ok (.aload_n 0, 1) := by decide +kernel
theorem d_Rg_bitsOf_31 : decode b_Rg_bitsOf 31 = .ok (.iload_n 1, 1) := by decide +kernel
theorem d_Rg_bitsOf_32 : decode b_Rg_bitsOf 32 = .ok (.iload_n 2, 1) := by decide +kernel
theorem d_Rg_bitsOf_33 : decode b_Rg_bitsOf 33 = .ok (.iload_n 3, 1) := by decide +kernel
theorem d_Rg_bitsOf_34 : decode b_Rg_bitsOf 34 = .ok (.iconst 1, 1) := by decide +kernel
theorem d_Rg_bitsOf_35 : decode b_Rg_bitsOf 35 = .ok (.isub, 1) := by decide +kernel
theorem d_Rg_bitsOf_36 : decode b_Rg_bitsOf 36 = .ok (.invokevirtual 37, 3) := by decide +kernel
theorem d_Rg_bitsOf_39 : decode b_Rg_bitsOf 39 = .ok (.invokestatic 41, 3) := by decide +kernel
theorem d_Rg_bitsOf_42 : decode b_Rg_bitsOf 42 = .ok (.isub, 1) := by decide +kernel
theorem d_Rg_bitsOf_43 : decode b_Rg_bitsOf 43 = .ok (.ireturn, 1) := by decide +kernel
theorem d_Rg_limbOf_0 : decode b_Rg_limbOf 0 = .ok (.iload_n 2, 1) := by decide +kernel
theorem d_Rg_limbOf_1 : decode b_Rg_limbOf 1 = .ok (.ifCond .eq 19, 3) := by decide +kernel
theorem d_Rg_limbOf_4 : decode b_Rg_limbOf 4 = .ok (.aload_n 0, 1) := by decide +kernel
theorem d_Rg_limbOf_5 : decode b_Rg_limbOf 5 = .ok (.getfield 9, 3) := by decide +kernel
theorem d_Rg_limbOf_8 : decode b_Rg_limbOf 8 = .ok (.iload_n 1, 1) := by decide +kernel
theorem d_Rg_limbOf_9 : decode b_Rg_limbOf 9 = .ok (.iaload, 1) := by decide +kernel
theorem d_Rg_limbOf_10 : decode b_Rg_limbOf 10 = .ok (.aload_n 0, 1) := by decide +kernel
theorem d_Rg_limbOf_11 : decode b_Rg_limbOf 11 = .ok (.getfield 15, 3) := by decide +kernel
theorem d_Rg_limbOf_14 : decode b_Rg_limbOf 14 = .ok (.iload_n 1, 1) := by decide +kernel
theorem d_Rg_limbOf_15 : decode b_Rg_limbOf 15 = .ok (.iaload, 1) := by decide +kernel
theorem d_Rg_limbOf_16 : decode b_Rg_limbOf 16 = .ok (.iadd, 1) := by decide +kernel
theorem d_Rg_limbOf_17 : decode b_Rg_limbOf 17 = .ok (.goto 9, 3) := by decide +kernel
theorem d_Rg_limbOf_20 : decode b_Rg_limbOf 20 = .ok (.aload_n 0, 1) := by decide +kernel
theorem d_Rg_limbOf_21 : decode b_Rg_limbOf 21 = .ok (.getfield 9, 3) := by decide +kernel
theorem d_Rg_limbOf_24 : decode b_Rg_limbOf 24 = .ok (.iload_n 1, 1) := by decide +kernel
theorem d_Rg_limbOf_25 : decode b_Rg_limbOf 25 = .ok (.iaload, 1) := by decide +kernel
theorem d_Rg_limbOf_26 : decode b_Rg_limbOf 26 = .ok (.istore 4, 2) := by decide +kernel
theorem d_Rg_limbOf_28 : decode b_Rg_limbOf 28 = .ok (.iload_n 2, 1) := by decide +kernel
theorem d_Rg_limbOf_29 : decode b_Rg_limbOf 29 = .ok (.ifCond .eq 12, 3) := by decide +kernel
theorem d_Rg_limbOf_32 : decode b_Rg_limbOf 32 = .ok (.aload_n 0, 1) := by decide +kernel
theorem d_Rg_limbOf_33 : decode b_Rg_limbOf 33 = .ok (.getfield 18, 3) := by decide +kernel
theorem d_Rg_limbOf_36 : decode b_Rg_limbOf 36 = .ok (.iload_n 1, 1) := by decide +kernel
theorem d_Rg_limbOf_37 : decode b_Rg_limbOf 37 = .ok (.iaload, 1) := by decide +kernel
theorem d_Rg_limbOf_38 : decode b_Rg_limbOf 38 = .ok (.goto 9, 3) := by decide +kernel
theorem d_Rg_limbOf_41 : decode b_Rg_limbOf 41 = .ok (.aload_n 0, 1) := by decide +kernel
theorem d_Rg_limbOf_42 : decode b_Rg_limbOf 42 = .ok (.getfield 15, 3) := by decide +kernel
theorem d_Rg_limbOf_45 : decode b_Rg_limbOf 45 = .ok (.iload_n 1, 1) := by decide +kernel
theorem d_Rg_limbOf_46 : decode b_Rg_limbOf 46 = .ok (.iaload, 1) := by decide +kernel
theorem d_Rg_limbOf_47 : decode b_Rg_limbOf 47 = .ok (.istore 5, 2) := by decide +kernel
theorem d_Rg_limbOf_49 : decode b_Rg_limbOf 49 = .ok (.iload_n 3, 1) := by decide +kernel
theorem d_Rg_limbOf_50 : decode b_Rg_limbOf 50 = .ok (.ifCond .lt 21, 3) := by decide +kernel
theorem d_Rg_limbOf_53 : decode b_Rg_limbOf 53 = .ok (.iload_n 3, 1) := by decide +kernel
theorem d_Rg_limbOf_54 : decode b_Rg_limbOf 54 = .ok (.iload 5, 2) := by decide +kernel
theorem d_Rg_limbOf_56 : decode b_Rg_limbOf 56 = .ok (.if_icmp .ge 15, 3) := by decide +kernel
theorem d_Rg_limbOf_59 : decode b_Rg_limbOf 59 = .ok (.aload_n 0, 1) := by decide +kernel
theorem d_Rg_limbOf_60 : decode b_Rg_limbOf 60 = .ok (.getfield 30, 3) := by decide +kernel
theorem d_Rg_limbOf_63 : decode b_Rg_limbOf 63 = .ok (.iload 4, 2) := by decide +kernel
theorem d_Rg_limbOf_65 : decode b_Rg_limbOf 65 = .ok (.iload_n 3, 1) := by decide +kernel
theorem d_Rg_limbOf_66 : decode b_Rg_limbOf 66 = .ok (.iadd, 1) := by decide +kernel
theorem d_Rg_limbOf_67 : decode b_Rg_limbOf 67 = .ok (.iaload, 1) := by decide +kernel
theorem d_Rg_limbOf_68 : decode b_Rg_limbOf 68 = .ok (.goto 4, 3) := by decide +kernel
theorem d_Rg_limbOf_71 : decode b_Rg_limbOf 71 = .ok (.iconst 0, 1) := by decide +kernel
theorem d_Rg_limbOf_72 : decode b_Rg_limbOf 72 = .ok (.ireturn, 1) := by decide +kernel
