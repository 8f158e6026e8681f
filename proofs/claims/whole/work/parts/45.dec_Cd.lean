theorem d_Cd_init_0 : decode b_Cd_init 0 = .ok (.aload_n 0, 1) := by decide +kernel
theorem d_Cd_init_1 : decode b_Cd_init 1 = .ok (.invokespecial 3, 3) := by decide +kernel
theorem d_Cd_init_4 : decode b_Cd_init 4 = .ok (.aload_n 0, 1) := by decide +kernel
theorem d_Cd_init_5 : decode b_Cd_init 5 = .ok (.new 9, 3) := by decide +kernel
theorem d_Cd_init_8 : decode b_Cd_init 8 = .ok (.dup, 1) := by decide +kernel
theorem d_Cd_init_9 : decode b_Cd_init 9 = .ok (.iload_n 1, 1) := by decide +kernel
theorem d_Cd_init_10 : decode b_Cd_init 10 = .ok (.invokespecial 11, 3) := by decide +kernel
theorem d_Cd_init_13 : decode b_Cd_init 13 = .ok (.putfield 14, 3) := by decide +kernel
theorem d_Cd_init_16 : decode b_Cd_init 16 = .ok (.aload_n 0, 1) := by decide +kernel
theorem d_Cd_init_17 : decode b_Cd_init 17 = .ok (.new 9, 3) := by decide +kernel
theorem d_Cd_init_20 : decode b_Cd_init 20 = .ok (.dup, 1) := by decide +kernel
theorem d_Cd_init_21 : decode b_Cd_init 21 = .ok (.iload_n 1, 1) := by decide +kernel
theorem d_Cd_init_22 : decode b_Cd_init 22 = .ok (.invokespecial 11, 3) := by decide +kernel
theorem d_Cd_init_25 : decode b_Cd_init 25 = .ok (.putfield 20, 3) := by decide +kernel
theorem d_Cd_init_28 : decode b_Cd_init 28 = .ok (.aload_n 0, 1) := by decide +kernel
theorem d_Cd_init_29 : decode b_Cd_init 29 = .ok (.new 9, 3) := by decide +kernel
theorem d_Cd_init_32 : decode b_Cd_init 32 = .ok (.dup, 1) := by decide +kernel
theorem d_Cd_init_33 : decode b_Cd_init 33 = .ok (.iload_n 1, 1) := by decide +kernel
theorem d_Cd_init_34 : decode b_Cd_init 34 = .ok (.invokespecial 11, 3) := by decide +kernel
theorem d_Cd_init_37 : decode b_Cd_init 37 = .ok (.putfield 23, 3) := by decide +kernel
theorem d_Cd_init_40 : decode b_Cd_init 40 = .ok (.return_, 1) := by decide +kernel
theorem d_Cd_of_0 : decode b_Cd_of 0 = .ok (.aload_n 1, 1) := by decide +kernel
theorem d_Cd_of_1 : decode b_Cd_of 1 = .ok (.aload_n 2, 1) := by decide +kernel
theorem d_Cd_of_2 : decode b_Cd_of 2 = .ok (.invokevirtual 26, 3) := by decide +kernel
theorem d_Cd_of_5 : decode b_Cd_of 5 = .ok (.ifCond .lt 7, 3) := by decide +kernel
theorem d_Cd_of_8 : decode b_Cd_of 8 = .ok (.iconst 1, 1) := by decide +kernel
theorem d_Cd_of_9 : decode b_Cd_of 9 = .ok (.goto 4, 3) := by decide +kernel
theorem d_Cd_of_12 : decode b_Cd_of 12 = .ok (.iconst 0, 1) := by decide +kernel
theorem d_Cd_of_13 : decode b_Cd_of 13 = .ok (.istore_n 3, 1) := by decide +kernel
theorem d_Cd_of_14 : decode b_Cd_of 14 = .ok (.aload_n 0, 1) := by decide +kernel
theorem d_Cd_of_15 : decode b_Cd_of 15 = .ok (.getfield 14, 3) := by decide +kernel
theorem d_Cd_of_18 : decode b_Cd_of 18 = .ok (.iload_n 3, 1) := by decide +kernel
theorem d_Cd_of_19 : decode b_Cd_of 19 = .ok (.ifCond .eq 7, 3) := by decide +kernel
theorem d_Cd_of_22 : decode b_Cd_of 22 = .ok (.aload_n 1, 1) := by decide +kernel
theorem d_Cd_of_23 : decode b_Cd_of 23 = .ok (.goto 4, 3) := by decide +kernel
theorem d_Cd_of_26 : decode b_Cd_of 26 = .ok (.aload_n 2, 1) := by decide +kernel
theorem d_Cd_of_27 : decode b_Cd_of 27 = .ok (.invokevirtual 30, 3) := by decide +kernel
theorem d_Cd_of_30 : decode b_Cd_of 30 = .ok (.aload_n 0, 1) := by decide +kernel
theorem d_Cd_of_31 : decode b_Cd_of 31 = .ok (.getfield 20, 3) := by decide +kernel
theorem d_Cd_of_34 : decode b_Cd_of 34 = .ok (.iload_n 3, 1) := by decide +kernel
theorem d_Cd_of_35 : decode b_Cd_of 35 = .ok (.ifCond .eq 7, 3) := by decide +kernel
theorem d_Cd_of_38 : decode b_Cd_of 38 = .ok (.aload_n 2, 1) := by decide +kernel
theorem d_Cd_of_39 : decode b_Cd_of 39 = .ok (.goto 4, 3) := by decide +kernel
theorem d_Cd_of_42 : decode b_Cd_of 42 = .ok (.aload_n 1, 1) := by decide +kernel
theorem d_Cd_of_43 : decode b_Cd_of 43 = .ok (.invokevirtual 30, 3) := by decide +kernel
theorem d_Cd_of_46 : decode b_Cd_of 46 = .ok (.iconst 0, 1) := by decide +kernel
theorem d_Cd_of_47 : decode b_Cd_of 47 = .ok (.istore 4, 2) := by decide +kernel
theorem d_Cd_of_49 : decode b_Cd_of 49 = .ok (.iload 4, 2) := by decide +kernel
theorem d_Cd_of_51 : decode b_Cd_of 51 = .ok (.ldc 34, 2) := by decide +kernel
theorem d_Cd_of_53 : decode b_Cd_of 53 = .ok (.if_icmp .ge 74, 3) := by decide +kernel
theorem d_Cd_of_56 : decode b_Cd_of 56 = .ok (.aload_n 0, 1) := by decide +kernel
theorem d_Cd_of_57 : decode b_Cd_of 57 = .ok (.getfield 20, 3) := by decide +kernel
theorem d_Cd_of_60 : decode b_Cd_of 60 = .ok (.getfield 35, 3) := by decide +kernel
theorem d_Cd_of_63 : decode b_Cd_of 63 = .ok (.ifCond .le 64, 3) := by decide +kernel
theorem d_Cd_of_66 : decode b_Cd_of 66 = .ok (.aload_n 0, 1) := by decide +kernel
theorem d_Cd_of_67 : decode b_Cd_of 67 = .ok (.invokevirtual 39, 3) := by decide +kernel
theorem d_Cd_of_70 : decode b_Cd_of 70 = .ok (.aload_n 0, 1) := by decide +kernel
theorem d_Cd_of_71 : decode b_Cd_of 71 = .ok (.getfield 42, 3) := by decide +kernel
theorem d_Cd_of_74 : decode b_Cd_of 74 = .ok (.lconst 0, 1) := by decide +kernel
theorem d_Cd_of_75 : decode b_Cd_of 75 = .ok (.lcmp, 1) := by decide +kernel
theorem d_Cd_of_76 : decode b_Cd_of 76 = .ok (.ifCond .eq 10, 3) := by decide +kernel
theorem d_Cd_of_79 : decode b_Cd_of 79 = .ok (.aload_n 0, 1) := by decide +kernel
theorem d_Cd_of_80 : decode b_Cd_of 80 = .ok (.invokevirtual 46, 3) := by decide +kernel
theorem d_Cd_of_83 : decode b_Cd_of 83 = .ok (.goto 38, 3) := by decide +kernel
theorem d_Cd_of_86 : decode b_Cd_of 86 = .ok (.aload_n 0, 1) := by decide +kernel
theorem d_Cd_of_87 : decode b_Cd_of 87 = .ok (.getfield 14, 3) := by decide +kernel
theorem d_Cd_of_90 : decode b_Cd_of 90 = .ok (.aload_n 0, 1) := by decide +kernel
theorem d_Cd_of_91 : decode b_Cd_of 91 = .ok (.getfield 20, 3) := by decide +kernel
theorem d_Cd_of_94 : decode b_Cd_of 94 = .ok (.aload_n 0, 1) := by decide +kernel
theorem d_Cd_of_95 : decode b_Cd_of 95 = .ok (.getfield 23, 3) := by decide +kernel
theorem d_Cd_of_98 : decode b_Cd_of 98 = .ok (.invokevirtual 49, 3) := by decide +kernel
theorem d_Cd_of_101 : decode b_Cd_of 101 = .ok (.aload_n 0, 1) := by decide +kernel
theorem d_Cd_of_102 : decode b_Cd_of 102 = .ok (.getfield 14, 3) := by decide +kernel
theorem d_Cd_of_105 : decode b_Cd_of 105 = .ok (.astore 5, 2) := by decide +kernel
theorem d_Cd_of_107 : decode b_Cd_of 107 = .ok (.aload_n 0, 1) := by decide +kernel
theorem d_Cd_of_108 : decode b_Cd_of 108 = .ok (.aload_n 0, 1) := by decide +kernel
theorem d_Cd_of_109 : decode b_Cd_of 109 = .ok (.getfield 20, 3) := by decide +kernel
theorem d_Cd_of_112 : decode b_Cd_of 112 = .ok (.putfield 14, 3) := by decide +kernel
theorem d_Cd_of_115 : decode b_Cd_of 115 = .ok (.aload_n 0, 1) := by decide +kernel
theorem d_Cd_of_116 : decode b_Cd_of 116 = .ok (.aload 5, 2) := by decide +kernel
theorem d_Cd_of_118 : decode b_Cd_of 118 = .ok (.putfield 20, 3) := by decide +kernel
theorem d_Cd_of_121 : decode b_Cd_of 121 = .ok (.iinc 4 1, 3) := by decide +kernel
theorem d_Cd_of_124 : decode b_Cd_of 124 = .ok (.goto (-75), 3) := by decide +kernel
theorem d_Cd_of_127 : decode b_Cd_of 127 = .ok (.aload_n 0, 1) := by decide +kernel
theorem d_Cd_of_128 : decode b_Cd_of 128 = .ok (.getfield 14, 3) := by decide +kernel
theorem d_Cd_of_131 : decode b_Cd_of 131 = .ok (.areturn, 1) := by decide +kernel
theorem d_Cd_foreseeSteps_0 : decode b_Cd_foreseeSteps 0 = .ok (.iconst 0, 1) := by decide +kernel
theorem d_Cd_foreseeSteps_1 : decode b_Cd_foreseeSteps 1 = .ok (.aload_n 0, 1) := by decide +kernel
theorem d_Cd_foreseeSteps_2 : decode b_Cd_foreseeSteps 2 = .ok (.getfield 14, 3) := by decide +kernel
theorem d_Cd_foreseeSteps_5 : decode b_Cd_foreseeSteps 5 = .ok (.invokevirtual 53, 3) := by decide +kernel
theorem d_Cd_foreseeSteps_8 : decode b_Cd_foreseeSteps 8 = .ok (.bipush 62, 2) := by decide +kernel
theorem d_Cd_foreseeSteps_10 : decode b_Cd_foreseeSteps 10 = .ok (.isub, 1) := by decide +kernel
theorem d_Cd_foreseeSteps_11 : decode b_Cd_foreseeSteps 11 = .ok (.invokestatic 57, 3) := by decide +kernel
theorem d_Cd_foreseeSteps_14 : decode b_Cd_foreseeSteps 14 = .ok (.istore_n 1, 1) := by decide +kernel
theorem d_Cd_foreseeSteps_15 : decode b_Cd_foreseeSteps 15 = .ok (.aload_n 0, 1) := by decide +kernel
theorem d_Cd_foreseeSteps_16 : decode b_Cd_foreseeSteps 16 = .ok (.getfield 14, 3) := by decide +kernel
theorem d_Cd_foreseeSteps_19 : decode b_Cd_foreseeSteps 19 = .ok (.iload_n 1, 1) := by decide +kernel
theorem d_Cd_foreseeSteps_20 : decode b_Cd_foreseeSteps 20 = .ok (.invokevirtual 63, 3) := by decide +kernel
theorem d_Cd_foreseeSteps_23 : decode b_Cd_foreseeSteps 23 = .ok (.lstore_n 2, 1) := by decide +kernel
theorem d_Cd_foreseeSteps_24 : decode b_Cd_foreseeSteps 24 = .ok (.aload_n 0, 1) := by decide +kernel
theorem d_Cd_foreseeSteps_25 : decode b_Cd_foreseeSteps 25 = .ok (.getfield 20, 3) := by decide +kernel
theorem d_Cd_foreseeSteps_28 : decode b_Cd_foreseeSteps 28 = .ok (.iload_n 1, 1) := by decide +kernel
theorem d_Cd_foreseeSteps_29 : decode b_Cd_foreseeSteps 29 = .ok (.invokevirtual 63, 3) := by decide +kernel
theorem d_Cd_foreseeSteps_32 : decode b_Cd_foreseeSteps 32 = .ok (.lstore 4, 2) := by decide +kernel
theorem d_Cd_foreseeSteps_34 : decode b_Cd_foreseeSteps 34 = .ok (.aload_n 0, 1) := by decide +kernel
theorem d_Cd_foreseeSteps_35 : decode b_Cd_foreseeSteps 35 = .ok (.lconst 1, 1) := by decide +kernel
theorem d_Cd_foreseeSteps_36 : decode b_Cd_foreseeSteps 36 = .ok (.putfield 67, 3) := by decide +kernel
theorem d_Cd_foreseeSteps_39 : decode b_Cd_foreseeSteps 39 = .ok (.aload_n 0, 1) := by decide +kernel
theorem d_Cd_foreseeSteps_40 : decode b_Cd_foreseeSteps 40 = .ok (.lconst 0, 1) := by decide +kernel
theorem d_Cd_foreseeSteps_41 : decode b_Cd_foreseeSteps 41 = .ok (.putfield 42, 3) := by decide +kernel
theorem d_Cd_foreseeSteps_44 : decode b_Cd_foreseeSteps 44 = .ok (.aload_n 0, 1) := by decide +kernel
theorem d_Cd_foreseeSteps_45 : decode b_Cd_foreseeSteps 45 = .ok (.lconst 0, 1) := by decide +kernel
theorem d_Cd_foreseeSteps_46 : decode b_Cd_foreseeSteps 46 = .ok (.putfield 70, 3) := by decide +kernel
theorem d_Cd_foreseeSteps_49 : decode b_Cd_foreseeSteps 49 = .ok (.aload_n 0, 1) := by decide +kernel
theorem d_Cd_foreseeSteps_50 : decode b_Cd_foreseeSteps 50 = .ok (.lconst 1, 1) := by decide +kernel
theorem d_Cd_foreseeSteps_51 : decode b_Cd_foreseeSteps 51 = .ok (.putfield 73, 3) := by decide +kernel
theorem d_Cd_foreseeSteps_54 : decode b_Cd_foreseeSteps 54 = .ok (.iconst 0, 1) := by decide +kernel
theorem d_Cd_foreseeSteps_55 : decode b_Cd_foreseeSteps 55 = .ok (.istore 6, 2) := by decide +kernel
theorem d_Cd_foreseeSteps_57 : decode b_Cd_foreseeSteps 57 = .ok (.iload 6, 2) := by decide +kernel
theorem d_Cd_foreseeSteps_59 : decode b_Cd_foreseeSteps 59 = .ok (.bipush 64, 2) := by decide +kernel
theorem d_Cd_foreseeSteps_61 : decode b_Cd_foreseeSteps 61 = .ok (.if_icmp .ge 177, 3) := by decide +kernel
theorem d_Cd_foreseeSteps_64 : decode b_Cd_foreseeSteps 64 = .ok (.lload 4, 2) := by decide +kernel
theorem d_Cd_foreseeSteps_66 : decode b_Cd_foreseeSteps 66 = .ok (.aload_n 0, 1) := by decide +kernel
theorem d_Cd_foreseeSteps_67 : decode b_Cd_foreseeSteps 67 = .ok (.getfield 70, 3) := by decide +kernel
theorem d_Cd_foreseeSteps_70 : decode b_Cd_foreseeSteps 70 = .ok (.ladd, 1) := by decide +kernel
theorem d_Cd_foreseeSteps_71 : decode b_Cd_foreseeSteps 71 = .ok (.lconst 0, 1) := by decide +kernel
theorem d_Cd_foreseeSteps_72 : decode b_Cd_foreseeSteps 72 = .ok (.lcmp, 1) := by decide +kernel
theorem d_Cd_foreseeSteps_73 : decode b_Cd_foreseeSteps 73 = .ok (.ifCond .le 15, 3) := by decide +kernel
theorem d_Cd_foreseeSteps_76 : decode b_Cd_foreseeSteps 76 = .ok (.lload 4, 2) := by decide +kernel
theorem d_Cd_foreseeSteps_78 : decode b_Cd_foreseeSteps 78 = .ok (.aload_n 0, 1) := by decide +kernel
theorem d_Cd_foreseeSteps_79 : decode b_Cd_foreseeSteps 79 = .ok (.getfield 73, 3) := by decide +kernel
theorem d_Cd_foreseeSteps_82 : decode b_Cd_foreseeSteps 82 = .ok (.ladd, 1) := by decide +kernel
theorem d_Cd_foreseeSteps_83 : decode b_Cd_foreseeSteps 83 = .ok (.lconst 0, 1) := by decide +kernel
theorem d_Cd_foreseeSteps_84 : decode b_Cd_foreseeSteps 84 = .ok (.lcmp, 1) := by decide +kernel
theorem d_Cd_foreseeSteps_85 : decode b_Cd_foreseeSteps 85 = .ok (.ifCond .gt 4, 3) := by decide +kernel
theorem d_Cd_foreseeSteps_88 : decode b_Cd_foreseeSteps 88 = .ok (.return_, 1) := by decide +kernel
theorem d_Cd_foreseeSteps_89 : decode b_Cd_foreseeSteps 89 = .ok (.lload_n 2, 1) := by decide +kernel
theorem d_Cd_foreseeSteps_90 : decode b_Cd_foreseeSteps 90 = .ok (.aload_n 0, 1) := by decide +kernel
theorem d_Cd_foreseeSteps_91 : decode b_Cd_foreseeSteps 91 = .ok (.getfield 67, 3) := by decide +kernel
theorem d_Cd_foreseeSteps_94 : decode b_Cd_foreseeSteps 94 = .ok (.ladd, 1) := by decide +kernel
theorem d_Cd_foreseeSteps_95 : decode b_Cd_foreseeSteps 95 = .ok (.lload 4, 2) := by decide +kernel
theorem d_Cd_foreseeSteps_97 : decode b_Cd_foreseeSteps 97 = .ok (.aload_n 0, 1) := by decide +kernel
theorem d_Cd_foreseeSteps_98 : decode b_Cd_foreseeSteps 98 = .ok (.getfield 70, 3) := by decide +kernel
theorem d_Cd_foreseeSteps_101 : decode b_Cd_foreseeSteps 101 = .ok (.ladd, 1) := by decide +kernel
theorem d_Cd_foreseeSteps_102 : decode b_Cd_foreseeSteps 102 = .ok (.ldiv, 1) := by decide +kernel
theorem d_Cd_foreseeSteps_103 : decode b_Cd_foreseeSteps 103 = .ok (.lstore 7, 2) := by decide +kernel
theorem d_Cd_foreseeSteps_105 : decode b_Cd_foreseeSteps 105 = .ok (.lload 7, 2) := by decide +kernel
theorem d_Cd_foreseeSteps_107 : decode b_Cd_foreseeSteps 107 = .ok (.lload_n 2, 1) := by decide +kernel
theorem d_Cd_foreseeSteps_108 : decode b_Cd_foreseeSteps 108 = .ok (.aload_n 0, 1) := by decide +kernel
theorem d_Cd_foreseeSteps_109 : decode b_Cd_foreseeSteps 109 = .ok (.getfield 42, 3) := by decide +kernel
theorem d_Cd_foreseeSteps_112 : decode b_Cd_foreseeSteps 112 = .ok (.ladd, 1) := by decide +kernel
theorem d_Cd_foreseeSteps_113 : decode b_Cd_foreseeSteps 113 = .ok (.lload 4, 2) := by decide +kernel
theorem d_Cd_foreseeSteps_115 : decode b_Cd_foreseeSteps 115 = .ok (.aload_n 0, 1) := by decide +kernel
theorem d_Cd_foreseeSteps_116 : decode b_Cd_foreseeSteps 116 = .ok (.getfield 73, 3) := by decide +kernel
theorem d_Cd_foreseeSteps_119 : decode b_Cd_foreseeSteps 119 = .ok (.ladd, 1) := by decide +kernel
theorem d_Cd_foreseeSteps_120 : decode b_Cd_foreseeSteps 120 = .ok (.ldiv, 1) := by decide +kernel
theorem d_Cd_foreseeSteps_121 : decode b_Cd_foreseeSteps 121 = .ok (.lcmp, 1) := by decide +kernel
theorem d_Cd_foreseeSteps_122 : decode b_Cd_foreseeSteps 122 = .ok (.ifCond .ne 12, 3) := by decide +kernel
theorem d_Cd_foreseeSteps_125 : decode b_Cd_foreseeSteps 125 = .ok (.lload 7, 2) := by decide +kernel
theorem d_Cd_foreseeSteps_127 : decode b_Cd_foreseeSteps 127 = .ok (.ldc2_w 76, 3) := by decide +kernel
theorem d_Cd_foreseeSteps_130 : decode b_Cd_foreseeSteps 130 = .ok (.lcmp, 1) := by decide +kernel
theorem d_Cd_foreseeSteps_131 : decode b_Cd_foreseeSteps 131 = .ok (.ifCond .le 4, 3) := by decide +kernel
theorem d_Cd_foreseeSteps_134 : decode b_Cd_foreseeSteps 134 = .ok (.return_, 1) := by decide +kernel
theorem d_Cd_foreseeSteps_135 : decode b_Cd_foreseeSteps 135 = .ok (.aload_n 0, 1) := by decide +kernel
theorem d_Cd_foreseeSteps_136 : decode b_Cd_foreseeSteps 136 = .ok (.getfield 67, 3) := by decide +kernel
theorem d_Cd_foreseeSteps_139 : decode b_Cd_foreseeSteps 139 = .ok (.lload 7, 2) := by decide +kernel
theorem d_Cd_foreseeSteps_141 : decode b_Cd_foreseeSteps 141 = .ok (.aload_n 0, 1) := by decide +kernel
theorem d_Cd_foreseeSteps_142 : decode b_Cd_foreseeSteps 142 = .ok (.getfield 70, 3) := by decide +kernel
theorem d_Cd_foreseeSteps_145 : decode b_Cd_foreseeSteps 145 = .ok (.lmul, 1) := by decide +kernel
theorem d_Cd_foreseeSteps_146 : decode b_Cd_foreseeSteps 146 = .ok (.lsub, 1) := by decide +kernel
theorem d_Cd_foreseeSteps_147 : decode b_Cd_foreseeSteps 147 = .ok (.lstore 9, 2) := by decide +kernel
theorem d_Cd_foreseeSteps_149 : decode b_Cd_foreseeSteps 149 = .ok (.aload_n 0, 1) := by decide +kernel
theorem d_Cd_foreseeSteps_150 : decode b_Cd_foreseeSteps 150 = .ok (.getfield 42, 3) := by decide +kernel
theorem d_Cd_foreseeSteps_153 : decode b_Cd_foreseeSteps 153 = .ok (.lload 7, 2) := by decide +kernel
theorem d_Cd_foreseeSteps_155 : decode b_Cd_foreseeSteps 155 = .ok (.aload_n 0, 1) := by decide +kernel
theorem d_Cd_foreseeSteps_156 : decode b_Cd_foreseeSteps 156 = .ok (.getfield 73, 3) := by decide +kernel
theorem d_Cd_foreseeSteps_159 : decode b_Cd_foreseeSteps 159 = .ok (.lmul, 1) := by decide +kernel
theorem d_Cd_foreseeSteps_160 : decode b_Cd_foreseeSteps 160 = .ok (.lsub, 1) := by decide +kernel
theorem d_Cd_foreseeSteps_161 : decode b_Cd_foreseeSteps 161 = .ok (.lstore 11, 2) := by decide +kernel
theorem d_Cd_foreseeSteps_163 : decode b_Cd_foreseeSteps 163 = .ok (.lload 9, 2) := by decide +kernel
theorem d_Cd_foreseeSteps_165 : decode b_Cd_foreseeSteps 165 = .ok (.invokestatic 78, 3) := by decide +kernel
theorem d_Cd_foreseeSteps_168 : decode b_Cd_foreseeSteps 168 = .ok (.ldc2_w 76, 3) := by decide +kernel
theorem d_Cd_foreseeSteps_171 : decode b_Cd_foreseeSteps 171 = .ok (.lcmp, 1) := by decide +kernel
theorem d_Cd_foreseeSteps_172 : decode b_Cd_foreseeSteps 172 = .ok (.ifCond .gt 15, 3) := by decide +kernel
theorem d_Cd_foreseeSteps_175 : decode b_Cd_foreseeSteps 175 = .ok (.lload 11, 2) := by decide +kernel
theorem d_Cd_foreseeSteps_177 : decode b_Cd_foreseeSteps 177 = .ok (.invokestatic 78, 3) := by decide +kernel
theorem d_Cd_foreseeSteps_180 : decode b_Cd_foreseeSteps 180 = .ok (.ldc2_w 76, 3) := by decide +kernel
theorem d_Cd_foreseeSteps_183 : decode b_Cd_foreseeSteps 183 = .ok (.lcmp, 1) := by decide +kernel
theorem d_Cd_foreseeSteps_184 : decode b_Cd_foreseeSteps 184 = .ok (.ifCond .le 4, 3) := by decide +kernel
theorem d_Cd_foreseeSteps_187 : decode b_Cd_foreseeSteps 187 = .ok (.return_, 1) := by decide +kernel
theorem d_Cd_foreseeSteps_188 : decode b_Cd_foreseeSteps 188 = .ok (.aload_n 0, 1) := by decide +kernel
theorem d_Cd_foreseeSteps_189 : decode b_Cd_foreseeSteps 189 = .ok (.aload_n 0, 1) := by decide +kernel
theorem d_Cd_foreseeSteps_190 : decode b_Cd_foreseeSteps 190 = .ok (.getfield 70, 3) := by decide +kernel
theorem d_Cd_foreseeSteps_193 : decode b_Cd_foreseeSteps 193 = .ok (.putfield 67, 3) := by decide +kernel
theorem d_Cd_foreseeSteps_196 : decode b_Cd_foreseeSteps 196 = .ok (.aload_n 0, 1) := by decide +kernel
theorem d_Cd_foreseeSteps_197 : decode b_Cd_foreseeSteps 197 = .ok (.aload_n 0, 1) := by decide +kernel
theorem d_Cd_foreseeSteps_198 : decode b_Cd_foreseeSteps 198 = .ok (.getfield 73, 3) := by decide +kernel
theorem d_Cd_foreseeSteps_201 : decode b_Cd_foreseeSteps 201 = .ok (.putfield 42, 3) := by decide +kernel
theorem d_Cd_foreseeSteps_204 : decode b_Cd_foreseeSteps 204 = .ok (.aload_n 0, 1) := by decide +kernel
theorem d_Cd_foreseeSteps_205 : decode b_Cd_foreseeSteps 205 = .ok (.lload 9, 2) := by decide +kernel
theorem d_Cd_foreseeSteps_207 : decode b_Cd_foreseeSteps 207 = .ok (.putfield 70, 3) := by decide +kernel
theorem d_Cd_foreseeSteps_210 : decode b_Cd_foreseeSteps 210 = .ok (.aload_n 0, 1) := by decide +kernel
theorem d_Cd_foreseeSteps_211 : decode b_Cd_foreseeSteps 211 = .ok (.lload 11, 2) := by decide +kernel
theorem d_Cd_foreseeSteps_213 : decode b_Cd_foreseeSteps 213 = .ok (.putfield 73, 3) := by decide +kernel
theorem d_Cd_foreseeSteps_216 : decode b_Cd_foreseeSteps 216 = .ok (.lload_n 2, 1) := by decide +kernel
theorem d_Cd_foreseeSteps_217 : decode b_Cd_foreseeSteps 217 = .ok (.lload 7, 2) := by decide +kernel
theorem d_Cd_foreseeSteps_219 : decode b_Cd_foreseeSteps 219 = .ok (.lload 4, 2) := by decide +kernel
theorem d_Cd_foreseeSteps_221 : decode b_Cd_foreseeSteps 221 = .ok (.lmul, 1) := by decide +kernel
theorem d_Cd_foreseeSteps_222 : decode b_Cd_foreseeSteps 222 = .ok (.lsub, 1) := by decide +kernel
theorem d_Cd_foreseeSteps_223 : decode b_Cd_foreseeSteps 223 = .ok (.lstore 13, 2) := by decide +kernel
theorem d_Cd_foreseeSteps_225 : decode b_Cd_foreseeSteps 225 = .ok (.lload 4, 2) := by decide +kernel
theorem d_Cd_foreseeSteps_227 : decode b_Cd_foreseeSteps 227 = .ok (.lstore_n 2, 1) := by decide +kernel
theorem d_Cd_foreseeSteps_228 : decode b_Cd_foreseeSteps 228 = .ok (.lload 13, 2) := by decide +kernel
theorem d_Cd_foreseeSteps_230 : decode b_Cd_foreseeSteps 230 = .ok (.lstore 4, 2) := by decide +kernel
theorem d_Cd_foreseeSteps_232 : decode b_Cd_foreseeSteps 232 = .ok (.iinc 6 1, 3) := by decide +kernel
theorem d_Cd_foreseeSteps_235 : decode b_Cd_foreseeSteps 235 = .ok (.goto (-178), 3) := by decide +kernel
theorem d_Cd_foreseeSteps_238 : decode b_Cd_foreseeSteps 238 = .ok (.return_, 1) := by decide +kernel
theorem d_Cd_makeSteps_0 : decode b_Cd_makeSteps 0 = .ok (.aload_n 0, 1) := by decide +kernel
theorem d_Cd_makeSteps_1 : decode b_Cd_makeSteps 1 = .ok (.getfield 14, 3) := by decide +kernel
theorem d_Cd_makeSteps_4 : decode b_Cd_makeSteps 4 = .ok (.getfield 35, 3) := by decide +kernel
theorem d_Cd_makeSteps_7 : decode b_Cd_makeSteps 7 = .ok (.istore_n 1, 1) := by decide +kernel
theorem d_Cd_makeSteps_8 : decode b_Cd_makeSteps 8 = .ok (.aload_n 0, 1) := by decide +kernel
theorem d_Cd_makeSteps_9 : decode b_Cd_makeSteps 9 = .ok (.getfield 20, 3) := by decide +kernel
theorem d_Cd_makeSteps_12 : decode b_Cd_makeSteps 12 = .ok (.iload_n 1, 1) := by decide +kernel
theorem d_Cd_makeSteps_13 : decode b_Cd_makeSteps 13 = .ok (.invokevirtual 82, 3) := by decide +kernel
theorem d_Cd_makeSteps_16 : decode b_Cd_makeSteps 16 = .ok (.lconst 0, 1) := by decide +kernel
theorem d_Cd_makeSteps_17 : decode b_Cd_makeSteps 17 = .ok (.lstore_n 2, 1) := by decide +kernel
theorem d_Cd_makeSteps_18 : decode b_Cd_makeSteps 18 = .ok (.lconst 0, 1) := by decide +kernel
theorem d_Cd_makeSteps_19 : decode b_Cd_makeSteps 19 = .ok (.lstore 4, 2) := by decide +kernel
theorem d_Cd_makeSteps_21 : decode b_Cd_makeSteps 21 = .ok (.iconst 0, 1) := by decide +kernel
theorem d_Cd_makeSteps_22 : decode b_Cd_makeSteps 22 = .ok (.istore 6, 2) := by decide +kernel
theorem d_Cd_makeSteps_24 : decode b_Cd_makeSteps 24 = .ok (.iload 6, 2) := by decide +kernel
theorem d_Cd_makeSteps_26 : decode b_Cd_makeSteps 26 = .ok (.iload_n 1, 1) := by decide +kernel
theorem d_Cd_makeSteps_27 : decode b_Cd_makeSteps 27 = .ok (.if_icmp .ge 118, 3) := by decide +kernel
theorem d_Cd_makeSteps_30 : decode b_Cd_makeSteps 30 = .ok (.aload_n 0, 1) := by decide +kernel
theorem d_Cd_makeSteps_31 : decode b_Cd_makeSteps 31 = .ok (.getfield 14, 3) := by decide +kernel
theorem d_Cd_makeSteps_34 : decode b_Cd_makeSteps 34 = .ok (.getfield 85, 3) := by decide +kernel
theorem d_Cd_makeSteps_37 : decode b_Cd_makeSteps 37 = .ok (.iload 6, 2) := by decide +kernel
theorem d_Cd_makeSteps_39 : decode b_Cd_makeSteps 39 = .ok (.iaload, 1) := by decide +kernel
theorem d_Cd_makeSteps_40 : decode b_Cd_makeSteps 40 = .ok (.i2l, 1) := by decide +kernel
theorem d_Cd_makeSteps_41 : decode b_Cd_makeSteps 41 = .ok (.ldc2_w 89, 3) := by decide +kernel
theorem d_Cd_makeSteps_44 : decode b_Cd_makeSteps 44 = .ok (.land, 1) := by decide +kernel
theorem d_Cd_makeSteps_45 : decode b_Cd_makeSteps 45 = .ok (.lstore 7, 2) := by decide +kernel
theorem d_Cd_makeSteps_47 : decode b_Cd_makeSteps 47 = .ok (.aload_n 0, 1) := by decide +kernel
theorem d_Cd_makeSteps_48 : decode b_Cd_makeSteps 48 = .ok (.getfield 20, 3) := by decide +kernel
theorem d_Cd_makeSteps_51 : decode b_Cd_makeSteps 51 = .ok (.getfield 85, 3) := by decide +kernel
theorem d_Cd_makeSteps_54 : decode b_Cd_makeSteps 54 = .ok (.iload 6, 2) := by decide +kernel
theorem d_Cd_makeSteps_56 : decode b_Cd_makeSteps 56 = .ok (.iaload, 1) := by decide +kernel
theorem d_Cd_makeSteps_57 : decode b_Cd_makeSteps 57 = .ok (.i2l, 1) := by decide +kernel
theorem d_Cd_makeSteps_58 : decode b_Cd_makeSteps 58 = .ok (.ldc2_w 89, 3) := by decide +kernel
theorem d_Cd_makeSteps_61 : decode b_Cd_makeSteps 61 = .ok (.land, 1) := by decide +kernel
theorem d_Cd_makeSteps_62 : decode b_Cd_makeSteps 62 = .ok (.lstore 9, 2) := by decide +kernel
theorem d_Cd_makeSteps_64 : decode b_Cd_makeSteps 64 = .ok (.lload_n 2, 1) := by decide +kernel
theorem d_Cd_makeSteps_65 : decode b_Cd_makeSteps 65 = .ok (.aload_n 0, 1) := by decide +kernel
theorem d_Cd_makeSteps_66 : decode b_Cd_makeSteps 66 = .ok (.getfield 67, 3) := by decide +kernel
theorem d_Cd_makeSteps_69 : decode b_Cd_makeSteps 69 = .ok (.lload 7, 2) := by decide +kernel
theorem d_Cd_makeSteps_71 : decode b_Cd_makeSteps 71 = .ok (.lmul, 1) := by decide +kernel
theorem d_Cd_makeSteps_72 : decode b_Cd_makeSteps 72 = .ok (.aload_n 0, 1) := by decide +kernel
theorem d_Cd_makeSteps_73 : decode b_Cd_makeSteps 73 = .ok (.getfield 42, 3) := by decide +kernel
theorem d_Cd_makeSteps_76 : decode b_Cd_makeSteps 76 = .ok (.lload 9, 2) := by decide +kernel
theorem d_Cd_makeSteps_78 : decode b_Cd_makeSteps 78 = .ok (.lmul, 1) := by decide +kernel
theorem d_Cd_makeSteps_79 : decode b_Cd_makeSteps 79 = .ok (.ladd, 1) := by decide +kernel
theorem d_Cd_makeSteps_80 : decode b_Cd_makeSteps 80 = .ok (.ladd, 1) := by decide +kernel
theorem d_Cd_makeSteps_81 : decode b_Cd_makeSteps 81 = .ok (.lstore_n 2, 1) := by decide +kernel
theorem d_Cd_makeSteps_82 : decode b_Cd_makeSteps 82 = .ok (.lload 4, 2) := by decide +kernel
theorem d_Cd_makeSteps_84 : decode b_Cd_makeSteps 84 = .ok (.aload_n 0, 1) := by decide +kernel
theorem d_Cd_makeSteps_85 : decode b_Cd_makeSteps 85 = .ok (.getfield 70, 3) := by decide +kernel
theorem d_Cd_makeSteps_88 : decode b_Cd_makeSteps 88 = .ok (.lload 7, 2) := by decide +kernel
theorem d_Cd_makeSteps_90 : decode b_Cd_makeSteps 90 = .ok (.lmul, 1) := by decide +kernel
theorem d_Cd_makeSteps_91 : decode b_Cd_makeSteps 91 = .ok (.aload_n 0, 1) := by decide +kernel
theorem d_Cd_makeSteps_92 : decode b_Cd_makeSteps 92 = .ok (.getfield 73, 3) := by decide +kernel
theorem d_Cd_makeSteps_95 : decode b_Cd_makeSteps 95 = .ok (.lload 9, 2) := by decide +kernel
theorem d_Cd_makeSteps_97 : decode b_Cd_makeSteps 97 = .ok (.lmul, 1) := by decide +kernel
theorem d_Cd_makeSteps_98 : decode b_Cd_makeSteps 98 = .ok (.ladd, 1) := by decide +kernel
theorem d_Cd_makeSteps_99 : decode b_Cd_makeSteps 99 = .ok (.ladd, 1) := by decide +kernel
theorem d_Cd_makeSteps_100 : decode b_Cd_makeSteps 100 = .ok (.lstore 4, 2) := by decide +kernel
theorem d_Cd_makeSteps_102 : decode b_Cd_makeSteps 102 = .ok (.aload_n 0, 1) := by decide +kernel
theorem d_Cd_makeSteps_103 : decode b_Cd_makeSteps 103 = .ok (.getfield 14, 3) := by decide +kernel
theorem d_Cd_makeSteps_106 : decode b_Cd_makeSteps 106 = .ok (.getfield 85, 3) := by decide +kernel
theorem d_Cd_makeSteps_109 : decode b_Cd_makeSteps 109 = .ok (.iload 6, 2) := by decide +kernel
theorem d_Cd_makeSteps_111 : decode b_Cd_makeSteps 111 = .ok (.lload_n 2, 1) := by decide +kernel
theorem d_Cd_makeSteps_112 : decode b_Cd_makeSteps 112 = .ok (.l2i, 1) := by decide +kernel
theorem d_Cd_makeSteps_113 : decode b_Cd_makeSteps 113 = .ok (.iastore, 1) := by decide +kernel
theorem d_Cd_makeSteps_114 : decode b_Cd_makeSteps 114 = .ok (.aload_n 0, 1) := by decide +kernel
theorem d_Cd_makeSteps_115 : decode b_Cd_makeSteps 115 = .ok (.getfield 20, 3) := by decide +kernel
theorem d_Cd_makeSteps_118 : decode b_Cd_makeSteps 118 = .ok (.getfield 85, 3) := by decide +kernel
theorem d_Cd_makeSteps_121 : decode b_Cd_makeSteps 121 = .ok (.iload 6, 2) := by decide +kernel
theorem d_Cd_makeSteps_123 : decode b_Cd_makeSteps 123 = .ok (.lload 4, 2) := by decide +kernel
theorem d_Cd_makeSteps_125 : decode b_Cd_makeSteps 125 = .ok (.l2i, 1) := by decide +kernel
theorem d_Cd_makeSteps_126 : decode b_Cd_makeSteps 126 = .ok (.iastore, 1) := by decide +kernel
theorem d_Cd_makeSteps_127 : decode b_Cd_makeSteps 127 = .ok (.lload_n 2, 1) := by decide +kernel
theorem d_Cd_makeSteps_128 : decode b_Cd_makeSteps 128 = .ok (.bipush 32, 2) := by decide +kernel
theorem d_Cd_makeSteps_130 : decode b_Cd_makeSteps 130 = .ok (.lshr, 1) := by decide +kernel
theorem d_Cd_makeSteps_131 : decode b_Cd_makeSteps 131 = .ok (.lstore_n 2, 1) := by decide +kernel
theorem d_Cd_makeSteps_132 : decode b_Cd_makeSteps 132 = .ok (.lload 4, 2) := by decide +kernel
theorem d_Cd_makeSteps_134 : decode b_Cd_makeSteps 134 = .ok (.bipush 32, 2) := by decide +kernel
theorem d_Cd_makeSteps_136 : decode b_Cd_makeSteps 136 = .ok (.lshr, 1) := by decide +kernel
theorem d_Cd_makeSteps_137 : decode b_Cd_makeSteps 137 = .ok (.lstore 4, 2) := by decide +kernel
theorem d_Cd_makeSteps_139 : decode b_Cd_makeSteps 139 = .ok (.iinc 6 1, 3) := by decide +kernel
theorem d_Cd_makeSteps_142 : decode b_Cd_makeSteps 142 = .ok (.goto (-118), 3) := by decide +kernel
theorem d_Cd_makeSteps_145 : decode b_Cd_makeSteps 145 = .ok (.aload_n 0, 1) := by decide +kernel
theorem d_Cd_makeSteps_146 : decode b_Cd_makeSteps 146 = .ok (.getfield 14, 3) := by decide +kernel
theorem d_Cd_makeSteps_149 : decode b_Cd_makeSteps 149 = .ok (.invokevirtual 91, 3) := by decide +kernel
theorem d_Cd_makeSteps_152 : decode b_Cd_makeSteps 152 = .ok (.aload_n 0, 1) := by decide +kernel
theorem d_Cd_makeSteps_153 : decode b_Cd_makeSteps 153 = .ok (.getfield 20, 3) := by decide +kernel
theorem d_Cd_makeSteps_156 : decode b_Cd_makeSteps 156 = .ok (.invokevirtual 91, 3) := by decide +kernel
theorem d_Cd_makeSteps_159 : decode b_Cd_makeSteps 159 = .ok (.return_, 1) := by decide +kernel
