theorem d_Mo_init_0 : decode b_Mo_init 0 = .ok (.aload_n 0, 1) := by decide +kernel
theorem d_Mo_init_1 : decode b_Mo_init 1 = .ok (.invokespecial 1, 3) := by decide +kernel
theorem d_Mo_init_4 : decode b_Mo_init 4 = .ok (.aload_n 0, 1) := by decide +kernel
theorem d_Mo_init_5 : decode b_Mo_init 5 = .ok (.ldc 7, 2) := by decide +kernel
theorem d_Mo_init_7 : decode b_Mo_init 7 = .ok (.newarray .int, 2) := by decide +kernel
theorem d_Mo_init_9 : decode b_Mo_init 9 = .ok (.putfield 8, 3) := by decide +kernel
theorem d_Mo_init_12 : decode b_Mo_init 12 = .ok (.aload_n 0, 1) := by decide +kernel
theorem d_Mo_init_13 : decode b_Mo_init 13 = .ok (.bipush 9, 2) := by decide +kernel
theorem d_Mo_init_15 : decode b_Mo_init 15 = .ok (.newarray .int, 2) := by decide +kernel
theorem d_Mo_init_17 : decode b_Mo_init 17 = .ok (.putfield 14, 3) := by decide +kernel
theorem d_Mo_init_20 : decode b_Mo_init 20 = .ok (.aload_n 0, 1) := by decide +kernel
theorem d_Mo_init_21 : decode b_Mo_init 21 = .ok (.ldc 17, 2) := by decide +kernel
theorem d_Mo_init_23 : decode b_Mo_init 23 = .ok (.newarray .int, 2) := by decide +kernel
theorem d_Mo_init_25 : decode b_Mo_init 25 = .ok (.putfield 18, 3) := by decide +kernel
theorem d_Mo_init_28 : decode b_Mo_init 28 = .ok (.aload_n 0, 1) := by decide +kernel
theorem d_Mo_init_29 : decode b_Mo_init 29 = .ok (.bipush 64, 2) := by decide +kernel
theorem d_Mo_init_31 : decode b_Mo_init 31 = .ok (.newarray .int, 2) := by decide +kernel
theorem d_Mo_init_33 : decode b_Mo_init 33 = .ok (.putfield 21, 3) := by decide +kernel
theorem d_Mo_init_36 : decode b_Mo_init 36 = .ok (.aload_n 0, 1) := by decide +kernel
theorem d_Mo_init_37 : decode b_Mo_init 37 = .ok (.bipush 32, 2) := by decide +kernel
theorem d_Mo_init_39 : decode b_Mo_init 39 = .ok (.newarray .int, 2) := by decide +kernel
theorem d_Mo_init_41 : decode b_Mo_init 41 = .ok (.putfield 24, 3) := by decide +kernel
theorem d_Mo_init_44 : decode b_Mo_init 44 = .ok (.aload_n 0, 1) := by decide +kernel
theorem d_Mo_init_45 : decode b_Mo_init 45 = .ok (.bipush 32, 2) := by decide +kernel
theorem d_Mo_init_47 : decode b_Mo_init 47 = .ok (.newarray .int, 2) := by decide +kernel
theorem d_Mo_init_49 : decode b_Mo_init 49 = .ok (.putfield 27, 3) := by decide +kernel
theorem d_Mo_init_52 : decode b_Mo_init 52 = .ok (.aload_n 0, 1) := by decide +kernel
theorem d_Mo_init_53 : decode b_Mo_init 53 = .ok (.sipush 10000, 3) := by decide +kernel
theorem d_Mo_init_56 : decode b_Mo_init 56 = .ok (.newarray .int, 2) := by decide +kernel
theorem d_Mo_init_58 : decode b_Mo_init 58 = .ok (.putfield 30, 3) := by decide +kernel
theorem d_Mo_init_61 : decode b_Mo_init 61 = .ok (.aload_n 0, 1) := by decide +kernel
theorem d_Mo_init_62 : decode b_Mo_init 62 = .ok (.sipush 400, 3) := by decide +kernel
theorem d_Mo_init_65 : decode b_Mo_init 65 = .ok (.newarray .int, 2) := by decide +kernel
theorem d_Mo_init_67 : decode b_Mo_init 67 = .ok (.putfield 33, 3) := by decide +kernel
theorem d_Mo_init_70 : decode b_Mo_init 70 = .ok (.aload_n 0, 1) := by decide +kernel
theorem d_Mo_init_71 : decode b_Mo_init 71 = .ok (.iconst (-1), 1) := by decide +kernel
theorem d_Mo_init_72 : decode b_Mo_init 72 = .ok (.putfield 36, 3) := by decide +kernel
theorem d_Mo_init_75 : decode b_Mo_init 75 = .ok (.aload_n 0, 1) := by decide +kernel
theorem d_Mo_init_76 : decode b_Mo_init 76 = .ok (.sipush 22000, 3) := by decide +kernel
theorem d_Mo_init_79 : decode b_Mo_init 79 = .ok (.newarray .int, 2) := by decide +kernel
theorem d_Mo_init_81 : decode b_Mo_init 81 = .ok (.putfield 40, 3) := by decide +kernel
theorem d_Mo_init_84 : decode b_Mo_init 84 = .ok (.aload_n 0, 1) := by decide +kernel
theorem d_Mo_init_85 : decode b_Mo_init 85 = .ok (.iload_n 1, 1) := by decide +kernel
theorem d_Mo_init_86 : decode b_Mo_init 86 = .ok (.bipush 64, 2) := by decide +kernel
theorem d_Mo_init_88 : decode b_Mo_init 88 = .ok (.if_icmp .lt 14, 3) := by decide +kernel
theorem d_Mo_init_91 : decode b_Mo_init 91 = .ok (.iload_n 1, 1) := by decide +kernel
theorem d_Mo_init_92 : decode b_Mo_init 92 = .ok (.sipush 1024, 3) := by decide +kernel
theorem d_Mo_init_95 : decode b_Mo_init 95 = .ok (.if_icmp .gt 7, 3) := by decide +kernel
theorem d_Mo_init_98 : decode b_Mo_init 98 = .ok (.iload_n 1, 1) := by decide +kernel
theorem d_Mo_init_99 : decode b_Mo_init 99 = .ok (.goto 6, 3) := by decide +kernel
theorem d_Mo_init_102 : decode b_Mo_init 102 = .ok (.sipush 1024, 3) := by decide +kernel
theorem d_Mo_init_105 : decode b_Mo_init 105 = .ok (.putfield 43, 3) := by decide +kernel
theorem d_Mo_init_108 : decode b_Mo_init 108 = .ok (.iconst 0, 1) := by decide +kernel
theorem d_Mo_init_109 : decode b_Mo_init 109 = .ok (.istore_n 2, 1) := by decide +kernel
theorem d_Mo_init_110 : decode b_Mo_init 110 = .ok (.iload_n 2, 1) := by decide +kernel
theorem d_Mo_init_111 : decode b_Mo_init 111 = .ok (.bipush 32, 2) := by decide +kernel
theorem d_Mo_init_113 : decode b_Mo_init 113 = .ok (.if_icmp .ge 42, 3) := by decide +kernel
theorem d_Mo_init_116 : decode b_Mo_init 116 = .ok (.aload_n 0, 1) := by decide +kernel
theorem d_Mo_init_117 : decode b_Mo_init 117 = .ok (.getfield 18, 3) := by decide +kernel
theorem d_Mo_init_120 : decode b_Mo_init 120 = .ok (.sipush 2600, 3) := by decide +kernel
theorem d_Mo_init_123 : decode b_Mo_init 123 = .ok (.iconst 2, 1) := by decide +kernel
theorem d_Mo_init_124 : decode b_Mo_init 124 = .ok (.iload_n 2, 1) := by decide +kernel
theorem d_Mo_init_125 : decode b_Mo_init 125 = .ok (.imul, 1) := by decide +kernel
theorem d_Mo_init_126 : decode b_Mo_init 126 = .ok (.iconst 1, 1) := by decide +kernel
theorem d_Mo_init_127 : decode b_Mo_init 127 = .ok (.iadd, 1) := by decide +kernel
theorem d_Mo_init_128 : decode b_Mo_init 128 = .ok (.imul, 1) := by decide +kernel
theorem d_Mo_init_129 : decode b_Mo_init 129 = .ok (.iconst 1, 1) := by decide +kernel
theorem d_Mo_init_130 : decode b_Mo_init 130 = .ok (.iastore, 1) := by decide +kernel
theorem d_Mo_init_131 : decode b_Mo_init 131 = .ok (.aload_n 0, 1) := by decide +kernel
theorem d_Mo_init_132 : decode b_Mo_init 132 = .ok (.getfield 21, 3) := by decide +kernel
theorem d_Mo_init_135 : decode b_Mo_init 135 = .ok (.iconst 2, 1) := by decide +kernel
theorem d_Mo_init_136 : decode b_Mo_init 136 = .ok (.iload_n 2, 1) := by decide +kernel
theorem d_Mo_init_137 : decode b_Mo_init 137 = .ok (.imul, 1) := by decide +kernel
theorem d_Mo_init_138 : decode b_Mo_init 138 = .ok (.iconst 1, 1) := by decide +kernel
theorem d_Mo_init_139 : decode b_Mo_init 139 = .ok (.iadd, 1) := by decide +kernel
theorem d_Mo_init_140 : decode b_Mo_init 140 = .ok (.iconst 1, 1) := by decide +kernel
theorem d_Mo_init_141 : decode b_Mo_init 141 = .ok (.iastore, 1) := by decide +kernel
theorem d_Mo_init_142 : decode b_Mo_init 142 = .ok (.aload_n 0, 1) := by decide +kernel
theorem d_Mo_init_143 : decode b_Mo_init 143 = .ok (.getfield 27, 3) := by decide +kernel
theorem d_Mo_init_146 : decode b_Mo_init 146 = .ok (.iload_n 2, 1) := by decide +kernel
theorem d_Mo_init_147 : decode b_Mo_init 147 = .ok (.iconst 1, 1) := by decide +kernel
theorem d_Mo_init_148 : decode b_Mo_init 148 = .ok (.iastore, 1) := by decide +kernel
theorem d_Mo_init_149 : decode b_Mo_init 149 = .ok (.iinc 2 1, 3) := by decide +kernel
theorem d_Mo_init_152 : decode b_Mo_init 152 = .ok (.goto (-42), 3) := by decide +kernel
theorem d_Mo_init_155 : decode b_Mo_init 155 = .ok (.return_, 1) := by decide +kernel
theorem d_Mo_thrown_0 : decode b_Mo_thrown 0 = .ok (.aload_n 0, 1) := by decide +kernel
theorem d_Mo_thrown_1 : decode b_Mo_thrown 1 = .ok (.getfield 46, 3) := by decide +kernel
theorem d_Mo_thrown_4 : decode b_Mo_thrown 4 = .ok (.ireturn, 1) := by decide +kernel
theorem d_Mo_used_0 : decode b_Mo_used 0 = .ok (.aload_n 0, 1) := by decide +kernel
theorem d_Mo_used_1 : decode b_Mo_used 1 = .ok (.iconst 0, 1) := by decide +kernel
theorem d_Mo_used_2 : decode b_Mo_used 2 = .ok (.putfield 46, 3) := by decide +kernel
theorem d_Mo_used_5 : decode b_Mo_used 5 = .ok (.iconst 0, 1) := by decide +kernel
theorem d_Mo_used_6 : decode b_Mo_used 6 = .ok (.istore_n 1, 1) := by decide +kernel
theorem d_Mo_used_7 : decode b_Mo_used 7 = .ok (.iconst 0, 1) := by decide +kernel
theorem d_Mo_used_8 : decode b_Mo_used 8 = .ok (.istore_n 2, 1) := by decide +kernel
theorem d_Mo_used_9 : decode b_Mo_used 9 = .ok (.iload_n 2, 1) := by decide +kernel
theorem d_Mo_used_10 : decode b_Mo_used 10 = .ok (.bipush 32, 2) := by decide +kernel
theorem d_Mo_used_12 : decode b_Mo_used 12 = .ok (.if_icmp .ge 18, 3) := by decide +kernel
theorem d_Mo_used_15 : decode b_Mo_used 15 = .ok (.iload_n 1, 1) := by decide +kernel
theorem d_Mo_used_16 : decode b_Mo_used 16 = .ok (.aload_n 0, 1) := by decide +kernel
theorem d_Mo_used_17 : decode b_Mo_used 17 = .ok (.getfield 27, 3) := by decide +kernel
theorem d_Mo_used_20 : decode b_Mo_used 20 = .ok (.iload_n 2, 1) := by decide +kernel
theorem d_Mo_used_21 : decode b_Mo_used 21 = .ok (.iaload, 1) := by decide +kernel
theorem d_Mo_used_22 : decode b_Mo_used 22 = .ok (.iadd, 1) := by decide +kernel
theorem d_Mo_used_23 : decode b_Mo_used 23 = .ok (.istore_n 1, 1) := by decide +kernel
theorem d_Mo_used_24 : decode b_Mo_used 24 = .ok (.iinc 2 1, 3) := by decide +kernel
theorem d_Mo_used_27 : decode b_Mo_used 27 = .ok (.goto (-18), 3) := by decide +kernel
theorem d_Mo_used_30 : decode b_Mo_used 30 = .ok (.iload_n 1, 1) := by decide +kernel
theorem d_Mo_used_31 : decode b_Mo_used 31 = .ok (.ireturn, 1) := by decide +kernel
theorem d_Mo_set_0 : decode b_Mo_set 0 = .ok (.aload_n 0, 1) := by decide +kernel
theorem d_Mo_set_1 : decode b_Mo_set 1 = .ok (.iload_n 1, 1) := by decide +kernel
theorem d_Mo_set_2 : decode b_Mo_set 2 = .ok (.invokestatic 108, 3) := by decide +kernel
theorem d_Mo_set_5 : decode b_Mo_set 5 = .ok (.ifCond .ne 7, 3) := by decide +kernel
theorem d_Mo_set_8 : decode b_Mo_set 8 = .ok (.iconst 1, 1) := by decide +kernel
theorem d_Mo_set_9 : decode b_Mo_set 9 = .ok (.goto 15, 3) := by decide +kernel
theorem d_Mo_set_12 : decode b_Mo_set 12 = .ok (.lload 4, 2) := by decide +kernel
theorem d_Mo_set_14 : decode b_Mo_set 14 = .ok (.lconst 0, 1) := by decide +kernel
theorem d_Mo_set_15 : decode b_Mo_set 15 = .ok (.lcmp, 1) := by decide +kernel
theorem d_Mo_set_16 : decode b_Mo_set 16 = .ok (.ifCond .ne 7, 3) := by decide +kernel
theorem d_Mo_set_19 : decode b_Mo_set 19 = .ok (.iconst 2, 1) := by decide +kernel
theorem d_Mo_set_20 : decode b_Mo_set 20 = .ok (.goto 4, 3) := by decide +kernel
theorem d_Mo_set_23 : decode b_Mo_set 23 = .ok (.iconst 0, 1) := by decide +kernel
theorem d_Mo_set_24 : decode b_Mo_set 24 = .ok (.invokevirtual 101, 3) := by decide +kernel
theorem d_Mo_set_27 : decode b_Mo_set 27 = .ok (.ifCond .eq 5, 3) := by decide +kernel
theorem d_Mo_set_30 : decode b_Mo_set 30 = .ok (.iconst 0, 1) := by decide +kernel
theorem d_Mo_set_31 : decode b_Mo_set 31 = .ok (.ireturn, 1) := by decide +kernel
theorem d_Mo_set_32 : decode b_Mo_set 32 = .ok (.aload_n 0, 1) := by decide +kernel
theorem d_Mo_set_33 : decode b_Mo_set 33 = .ok (.iconst 0, 1) := by decide +kernel
theorem d_Mo_set_34 : decode b_Mo_set 34 = .ok (.lload_n 2, 1) := by decide +kernel
theorem d_Mo_set_35 : decode b_Mo_set 35 = .ok (.invokevirtual 111, 3) := by decide +kernel
theorem d_Mo_set_38 : decode b_Mo_set 38 = .ok (.aload_n 0, 1) := by decide +kernel
theorem d_Mo_set_39 : decode b_Mo_set 39 = .ok (.iconst 1, 1) := by decide +kernel
theorem d_Mo_set_40 : decode b_Mo_set 40 = .ok (.lload 4, 2) := by decide +kernel
theorem d_Mo_set_42 : decode b_Mo_set 42 = .ok (.invokevirtual 111, 3) := by decide +kernel
theorem d_Mo_set_45 : decode b_Mo_set 45 = .ok (.aload_n 0, 1) := by decide +kernel
theorem d_Mo_set_46 : decode b_Mo_set 46 = .ok (.iload_n 1, 1) := by decide +kernel
theorem d_Mo_set_47 : decode b_Mo_set 47 = .ok (.lload_n 2, 1) := by decide +kernel
theorem d_Mo_set_48 : decode b_Mo_set 48 = .ok (.lconst 0, 1) := by decide +kernel
theorem d_Mo_set_49 : decode b_Mo_set 49 = .ok (.lcmp, 1) := by decide +kernel
theorem d_Mo_set_50 : decode b_Mo_set 50 = .ok (.ifCond .ge 7, 3) := by decide +kernel
theorem d_Mo_set_53 : decode b_Mo_set 53 = .ok (.iconst 1, 1) := by decide +kernel
theorem d_Mo_set_54 : decode b_Mo_set 54 = .ok (.goto 4, 3) := by decide +kernel
theorem d_Mo_set_57 : decode b_Mo_set 57 = .ok (.iconst 0, 1) := by decide +kernel
theorem d_Mo_set_58 : decode b_Mo_set 58 = .ok (.lload 4, 2) := by decide +kernel
theorem d_Mo_set_60 : decode b_Mo_set 60 = .ok (.lconst 0, 1) := by decide +kernel
theorem d_Mo_set_61 : decode b_Mo_set 61 = .ok (.lcmp, 1) := by decide +kernel
theorem d_Mo_set_62 : decode b_Mo_set 62 = .ok (.ifCond .ge 7, 3) := by decide +kernel
theorem d_Mo_set_65 : decode b_Mo_set 65 = .ok (.iconst 1, 1) := by decide +kernel
theorem d_Mo_set_66 : decode b_Mo_set 66 = .ok (.goto 4, 3) := by decide +kernel
theorem d_Mo_set_69 : decode b_Mo_set 69 = .ok (.iconst 0, 1) := by decide +kernel
theorem d_Mo_set_70 : decode b_Mo_set 70 = .ok (.if_icmp .ne 7, 3) := by decide +kernel
theorem d_Mo_set_73 : decode b_Mo_set 73 = .ok (.iconst 1, 1) := by decide +kernel
theorem d_Mo_set_74 : decode b_Mo_set 74 = .ok (.goto 4, 3) := by decide +kernel
theorem d_Mo_set_77 : decode b_Mo_set 77 = .ok (.iconst (-1), 1) := by decide +kernel
theorem d_Mo_set_78 : decode b_Mo_set 78 = .ok (.iconst 3, 1) := by decide +kernel
theorem d_Mo_set_79 : decode b_Mo_set 79 = .ok (.invokevirtual 115, 3) := by decide +kernel
theorem d_Mo_set_82 : decode b_Mo_set 82 = .ok (.ireturn, 1) := by decide +kernel
theorem d_Mo_isRegister_0 : decode b_Mo_isRegister 0 = .ok (.iload_n 0, 1) := by decide +kernel
theorem d_Mo_isRegister_1 : decode b_Mo_isRegister 1 = .ok (.ifCond .lt 13, 3) := by decide +kernel
theorem d_Mo_isRegister_4 : decode b_Mo_isRegister 4 = .ok (.iload_n 0, 1) := by decide +kernel
theorem d_Mo_isRegister_5 : decode b_Mo_isRegister 5 = .ok (.bipush 32, 2) := by decide +kernel
theorem d_Mo_isRegister_7 : decode b_Mo_isRegister 7 = .ok (.if_icmp .ge 7, 3) := by decide +kernel
theorem d_Mo_isRegister_10 : decode b_Mo_isRegister 10 = .ok (.iconst 1, 1) := by decide +kernel
theorem d_Mo_isRegister_11 : decode b_Mo_isRegister 11 = .ok (.goto 4, 3) := by decide +kernel
theorem d_Mo_isRegister_14 : decode b_Mo_isRegister 14 = .ok (.iconst 0, 1) := by decide +kernel
theorem d_Mo_isRegister_15 : decode b_Mo_isRegister 15 = .ok (.ireturn, 1) := by decide +kernel
theorem d_Mo_refuses_0 : decode b_Mo_refuses 0 = .ok (.aload_n 0, 1) := by decide +kernel
theorem d_Mo_refuses_1 : decode b_Mo_refuses 1 = .ok (.iload_n 1, 1) := by decide +kernel
theorem d_Mo_refuses_2 : decode b_Mo_refuses 2 = .ok (.putfield 46, 3) := by decide +kernel
theorem d_Mo_refuses_5 : decode b_Mo_refuses 5 = .ok (.iload_n 1, 1) := by decide +kernel
theorem d_Mo_refuses_6 : decode b_Mo_refuses 6 = .ok (.ifCond .le 7, 3) := by decide +kernel
theorem d_Mo_refuses_9 : decode b_Mo_refuses 9 = .ok (.iconst 1, 1) := by decide +kernel
theorem d_Mo_refuses_10 : decode b_Mo_refuses 10 = .ok (.goto 4, 3) := by decide +kernel
theorem d_Mo_refuses_13 : decode b_Mo_refuses 13 = .ok (.iconst 0, 1) := by decide +kernel
theorem d_Mo_refuses_14 : decode b_Mo_refuses 14 = .ok (.ireturn, 1) := by decide +kernel
theorem d_Mo_setLong_0 : decode b_Mo_setLong 0 = .ok (.lload_n 2, 1) := by decide +kernel
theorem d_Mo_setLong_1 : decode b_Mo_setLong 1 = .ok (.lstore 4, 2) := by decide +kernel
theorem d_Mo_setLong_3 : decode b_Mo_setLong 3 = .ok (.iconst 0, 1) := by decide +kernel
theorem d_Mo_setLong_4 : decode b_Mo_setLong 4 = .ok (.istore 6, 2) := by decide +kernel
theorem d_Mo_setLong_6 : decode b_Mo_setLong 6 = .ok (.lload 4, 2) := by decide +kernel
theorem d_Mo_setLong_8 : decode b_Mo_setLong 8 = .ok (.lconst 0, 1) := by decide +kernel
theorem d_Mo_setLong_9 : decode b_Mo_setLong 9 = .ok (.lcmp, 1) := by decide +kernel
theorem d_Mo_setLong_10 : decode b_Mo_setLong 10 = .ok (.ifCond .eq 52, 3) := by decide +kernel
theorem d_Mo_setLong_13 : decode b_Mo_setLong 13 = .ok (.lload 4, 2) := by decide +kernel
theorem d_Mo_setLong_15 : decode b_Mo_setLong 15 = .ok (.ldc2_w 49, 3) := by decide +kernel
theorem d_Mo_setLong_18 : decode b_Mo_setLong 18 = .ok (.lrem, 1) := by decide +kernel
theorem d_Mo_setLong_19 : decode b_Mo_setLong 19 = .ok (.l2i, 1) := by decide +kernel
theorem d_Mo_setLong_20 : decode b_Mo_setLong 20 = .ok (.istore 7, 2) := by decide +kernel
theorem d_Mo_setLong_22 : decode b_Mo_setLong 22 = .ok (.aload_n 0, 1) := by decide +kernel
theorem d_Mo_setLong_23 : decode b_Mo_setLong 23 = .ok (.getfield 8, 3) := by decide +kernel
theorem d_Mo_setLong_26 : decode b_Mo_setLong 26 = .ok (.sipush 12000, 3) := by decide +kernel
theorem d_Mo_setLong_29 : decode b_Mo_setLong 29 = .ok (.iload_n 1, 1) := by decide +kernel
theorem d_Mo_setLong_30 : decode b_Mo_setLong 30 = .ok (.imul, 1) := by decide +kernel
theorem d_Mo_setLong_31 : decode b_Mo_setLong 31 = .ok (.iload 6, 2) := by decide +kernel
theorem d_Mo_setLong_33 : decode b_Mo_setLong 33 = .ok (.iadd, 1) := by decide +kernel
theorem d_Mo_setLong_34 : decode b_Mo_setLong 34 = .ok (.iload 7, 2) := by decide +kernel
theorem d_Mo_setLong_36 : decode b_Mo_setLong 36 = .ok (.ifCond .ge 9, 3) := by decide +kernel
theorem d_Mo_setLong_39 : decode b_Mo_setLong 39 = .ok (.iload 7, 2) := by decide +kernel
theorem d_Mo_setLong_41 : decode b_Mo_setLong 41 = .ok (.ineg, 1) := by decide +kernel
theorem d_Mo_setLong_42 : decode b_Mo_setLong 42 = .ok (.goto 5, 3) := by decide +kernel
theorem d_Mo_setLong_45 : decode b_Mo_setLong 45 = .ok (.iload 7, 2) := by decide +kernel
theorem d_Mo_setLong_47 : decode b_Mo_setLong 47 = .ok (.iastore, 1) := by decide +kernel
theorem d_Mo_setLong_48 : decode b_Mo_setLong 48 = .ok (.lload 4, 2) := by decide +kernel
theorem d_Mo_setLong_50 : decode b_Mo_setLong 50 = .ok (.ldc2_w 49, 3) := by decide +kernel
theorem d_Mo_setLong_53 : decode b_Mo_setLong 53 = .ok (.ldiv, 1) := by decide +kernel
theorem d_Mo_setLong_54 : decode b_Mo_setLong 54 = .ok (.lstore 4, 2) := by decide +kernel
theorem d_Mo_setLong_56 : decode b_Mo_setLong 56 = .ok (.iinc 6 1, 3) := by decide +kernel
theorem d_Mo_setLong_59 : decode b_Mo_setLong 59 = .ok (.goto (-53), 3) := by decide +kernel
theorem d_Mo_setLong_62 : decode b_Mo_setLong 62 = .ok (.aload_n 0, 1) := by decide +kernel
theorem d_Mo_setLong_63 : decode b_Mo_setLong 63 = .ok (.getfield 14, 3) := by decide +kernel
theorem d_Mo_setLong_66 : decode b_Mo_setLong 66 = .ok (.iload_n 1, 1) := by decide +kernel
theorem d_Mo_setLong_67 : decode b_Mo_setLong 67 = .ok (.iload 6, 2) := by decide +kernel
theorem d_Mo_setLong_69 : decode b_Mo_setLong 69 = .ok (.iastore, 1) := by decide +kernel
theorem d_Mo_setLong_70 : decode b_Mo_setLong 70 = .ok (.return_, 1) := by decide +kernel
theorem d_Mo_put_0 : decode b_Mo_put 0 = .ok (.aload_n 0, 1) := by decide +kernel
theorem d_Mo_put_1 : decode b_Mo_put 1 = .ok (.invokevirtual 87, 3) := by decide +kernel
theorem d_Mo_put_4 : decode b_Mo_put 4 = .ok (.aload_n 0, 1) := by decide +kernel
theorem d_Mo_put_5 : decode b_Mo_put 5 = .ok (.iload_n 1, 1) := by decide +kernel
theorem d_Mo_put_6 : decode b_Mo_put 6 = .ok (.iload_n 2, 1) := by decide +kernel
theorem d_Mo_put_7 : decode b_Mo_put 7 = .ok (.iload_n 3, 1) := by decide +kernel
theorem d_Mo_put_8 : decode b_Mo_put 8 = .ok (.invokevirtual 90, 3) := by decide +kernel
theorem d_Mo_put_11 : decode b_Mo_put 11 = .ok (.ireturn, 1) := by decide +kernel
theorem d_Mo_reduce_0 : decode b_Mo_reduce 0 = .ok (.aload_n 0, 1) := by decide +kernel
theorem d_Mo_reduce_1 : decode b_Mo_reduce 1 = .ok (.iconst 5, 1) := by decide +kernel
theorem d_Mo_reduce_2 : decode b_Mo_reduce 2 = .ok (.iconst 0, 1) := by decide +kernel
theorem d_Mo_reduce_3 : decode b_Mo_reduce 3 = .ok (.invokevirtual 75, 3) := by decide +kernel
theorem d_Mo_reduce_6 : decode b_Mo_reduce 6 = .ok (.aload_n 0, 1) := by decide +kernel
theorem d_Mo_reduce_7 : decode b_Mo_reduce 7 = .ok (.bipush 6, 2) := by decide +kernel
theorem d_Mo_reduce_9 : decode b_Mo_reduce 9 = .ok (.iconst 1, 1) := by decide +kernel
theorem d_Mo_reduce_10 : decode b_Mo_reduce 10 = .ok (.invokevirtual 75, 3) := by decide +kernel
theorem d_Mo_reduce_13 : decode b_Mo_reduce 13 = .ok (.aload_n 0, 1) := by decide +kernel
theorem d_Mo_reduce_14 : decode b_Mo_reduce 14 = .ok (.bipush 6, 2) := by decide +kernel
theorem d_Mo_reduce_16 : decode b_Mo_reduce 16 = .ok (.iconst 5, 1) := by decide +kernel
theorem d_Mo_reduce_17 : decode b_Mo_reduce 17 = .ok (.invokevirtual 84, 3) := by decide +kernel
theorem d_Mo_reduce_20 : decode b_Mo_reduce 20 = .ok (.aload_n 0, 1) := by decide +kernel
theorem d_Mo_reduce_21 : decode b_Mo_reduce 21 = .ok (.iconst 2, 1) := by decide +kernel
theorem d_Mo_reduce_22 : decode b_Mo_reduce 22 = .ok (.bipush 7, 2) := by decide +kernel
theorem d_Mo_reduce_24 : decode b_Mo_reduce 24 = .ok (.invokevirtual 75, 3) := by decide +kernel
theorem d_Mo_reduce_27 : decode b_Mo_reduce 27 = .ok (.aload_n 0, 1) := by decide +kernel
theorem d_Mo_reduce_28 : decode b_Mo_reduce 28 = .ok (.iconst 5, 1) := by decide +kernel
theorem d_Mo_reduce_29 : decode b_Mo_reduce 29 = .ok (.iconst 0, 1) := by decide +kernel
theorem d_Mo_reduce_30 : decode b_Mo_reduce 30 = .ok (.invokevirtual 75, 3) := by decide +kernel
theorem d_Mo_reduce_33 : decode b_Mo_reduce 33 = .ok (.aload_n 0, 1) := by decide +kernel
theorem d_Mo_reduce_34 : decode b_Mo_reduce 34 = .ok (.iconst 0, 1) := by decide +kernel
theorem d_Mo_reduce_35 : decode b_Mo_reduce 35 = .ok (.iconst 5, 1) := by decide +kernel
theorem d_Mo_reduce_36 : decode b_Mo_reduce 36 = .ok (.iconst 2, 1) := by decide +kernel
theorem d_Mo_reduce_37 : decode b_Mo_reduce 37 = .ok (.invokevirtual 71, 3) := by decide +kernel
theorem d_Mo_reduce_40 : decode b_Mo_reduce 40 = .ok (.aload_n 0, 1) := by decide +kernel
theorem d_Mo_reduce_41 : decode b_Mo_reduce 41 = .ok (.iconst 5, 1) := by decide +kernel
theorem d_Mo_reduce_42 : decode b_Mo_reduce 42 = .ok (.iconst 1, 1) := by decide +kernel
theorem d_Mo_reduce_43 : decode b_Mo_reduce 43 = .ok (.invokevirtual 75, 3) := by decide +kernel
theorem d_Mo_reduce_46 : decode b_Mo_reduce 46 = .ok (.aload_n 0, 1) := by decide +kernel
theorem d_Mo_reduce_47 : decode b_Mo_reduce 47 = .ok (.iconst 1, 1) := by decide +kernel
theorem d_Mo_reduce_48 : decode b_Mo_reduce 48 = .ok (.iconst 5, 1) := by decide +kernel
theorem d_Mo_reduce_49 : decode b_Mo_reduce 49 = .ok (.iconst 2, 1) := by decide +kernel
theorem d_Mo_reduce_50 : decode b_Mo_reduce 50 = .ok (.invokevirtual 71, 3) := by decide +kernel
theorem d_Mo_reduce_53 : decode b_Mo_reduce 53 = .ok (.return_, 1) := by decide +kernel
theorem d_Mo_copyTo_0 : decode b_Mo_copyTo 0 = .ok (.iconst 0, 1) := by decide +kernel
theorem d_Mo_copyTo_1 : decode b_Mo_copyTo 1 = .ok (.istore_n 3, 1) := by decide +kernel
theorem d_Mo_copyTo_2 : decode b_Mo_copyTo 2 = .ok (.iload_n 3, 1) := by decide +kernel
theorem d_Mo_copyTo_3 : decode b_Mo_copyTo 3 = .ok (.aload_n 0, 1) := by decide +kernel
theorem d_Mo_copyTo_4 : decode b_Mo_copyTo 4 = .ok (.getfield 14, 3) := by decide +kernel
theorem d_Mo_copyTo_7 : decode b_Mo_copyTo 7 = .ok (.iload_n 2, 1) := by decide +kernel
theorem d_Mo_copyTo_8 : decode b_Mo_copyTo 8 = .ok (.iaload, 1) := by decide +kernel
theorem d_Mo_copyTo_9 : decode b_Mo_copyTo 9 = .ok (.if_icmp .ge 33, 3) := by decide +kernel
theorem d_Mo_copyTo_12 : decode b_Mo_copyTo 12 = .ok (.aload_n 0, 1) := by decide +kernel
theorem d_Mo_copyTo_13 : decode b_Mo_copyTo 13 = .ok (.getfield 8, 3) := by decide +kernel
theorem d_Mo_copyTo_16 : decode b_Mo_copyTo 16 = .ok (.sipush 12000, 3) := by decide +kernel
theorem d_Mo_copyTo_19 : decode b_Mo_copyTo 19 = .ok (.iload_n 1, 1) := by decide +kernel
theorem d_Mo_copyTo_20 : decode b_Mo_copyTo 20 = .ok (.imul, 1) := by decide +kernel
theorem d_Mo_copyTo_21 : decode b_Mo_copyTo 21 = .ok (.iload_n 3, 1) := by decide +kernel
theorem d_Mo_copyTo_22 : decode b_Mo_copyTo 22 = .ok (.iadd, 1) := by decide +kernel
theorem d_Mo_copyTo_23 : decode b_Mo_copyTo 23 = .ok (.aload_n 0, 1) := by decide +kernel
theorem d_Mo_copyTo_24 : decode b_Mo_copyTo 24 = .ok (.getfield 8, 3) := by decide +kernel
theorem d_Mo_copyTo_27 : decode b_Mo_copyTo 27 = .ok (.sipush 12000, 3) := by decide +kernel
theorem d_Mo_copyTo_30 : decode b_Mo_copyTo 30 = .ok (.iload_n 2, 1) := by decide +kernel
theorem d_Mo_copyTo_31 : decode b_Mo_copyTo 31 = .ok (.imul, 1) := by decide +kernel
theorem d_Mo_copyTo_32 : decode b_Mo_copyTo 32 = .ok (.iload_n 3, 1) := by decide +kernel
theorem d_Mo_copyTo_33 : decode b_Mo_copyTo 33 = .ok (.iadd, 1) := by decide +kernel
theorem d_Mo_copyTo_34 : decode b_Mo_copyTo 34 = .ok (.iaload, 1) := by decide +kernel
theorem d_Mo_copyTo_35 : decode b_Mo_copyTo 35 = .ok (.iastore, 1) := by decide +kernel
theorem d_Mo_copyTo_36 : decode b_Mo_copyTo 36 = .ok (.iinc 3 1, 3) := by decide +kernel
theorem d_Mo_copyTo_39 : decode b_Mo_copyTo 39 = .ok (.goto (-37), 3) := by decide +kernel
theorem d_Mo_copyTo_42 : decode b_Mo_copyTo 42 = .ok (.aload_n 0, 1) := by decide +kernel
theorem d_Mo_copyTo_43 : decode b_Mo_copyTo 43 = .ok (.getfield 14, 3) := by decide +kernel
theorem d_Mo_copyTo_46 : decode b_Mo_copyTo 46 = .ok (.iload_n 1, 1) := by decide +kernel
theorem d_Mo_copyTo_47 : decode b_Mo_copyTo 47 = .ok (.aload_n 0, 1) := by decide +kernel
theorem d_Mo_copyTo_48 : decode b_Mo_copyTo 48 = .ok (.getfield 14, 3) := by decide +kernel
theorem d_Mo_copyTo_51 : decode b_Mo_copyTo 51 = .ok (.iload_n 2, 1) := by decide +kernel
theorem d_Mo_copyTo_52 : decode b_Mo_copyTo 52 = .ok (.iaload, 1) := by decide +kernel
theorem d_Mo_copyTo_53 : decode b_Mo_copyTo 53 = .ok (.iastore, 1) := by decide +kernel
theorem d_Mo_copyTo_54 : decode b_Mo_copyTo 54 = .ok (.return_, 1) := by decide +kernel
theorem d_Mo_common_0 : decode b_Mo_common 0 = .ok (.aload_n 0, 1) := by decide +kernel
theorem d_Mo_common_1 : decode b_Mo_common 1 = .ok (.getfield 14, 3) := by decide +kernel
theorem d_Mo_common_4 : decode b_Mo_common 4 = .ok (.iload_n 2, 1) := by decide +kernel
theorem d_Mo_common_5 : decode b_Mo_common 5 = .ok (.iaload, 1) := by decide +kernel
theorem d_Mo_common_6 : decode b_Mo_common 6 = .ok (.ifCond .le 34, 3) := by decide +kernel
theorem d_Mo_common_9 : decode b_Mo_common 9 = .ok (.aload_n 0, 1) := by decide +kernel
theorem d_Mo_common_10 : decode b_Mo_common 10 = .ok (.bipush 8, 2) := by decide +kernel
theorem d_Mo_common_12 : decode b_Mo_common 12 = .ok (.iload_n 1, 1) := by decide +kernel
theorem d_Mo_common_13 : decode b_Mo_common 13 = .ok (.iload_n 2, 1) := by decide +kernel
theorem d_Mo_common_14 : decode b_Mo_common 14 = .ok (.invokevirtual 71, 3) := by decide +kernel
theorem d_Mo_common_17 : decode b_Mo_common 17 = .ok (.aload_n 0, 1) := by decide +kernel
theorem d_Mo_common_18 : decode b_Mo_common 18 = .ok (.bipush 7, 2) := by decide +kernel
theorem d_Mo_common_20 : decode b_Mo_common 20 = .ok (.iload_n 1, 1) := by decide +kernel
theorem d_Mo_common_21 : decode b_Mo_common 21 = .ok (.invokevirtual 75, 3) := by decide +kernel
theorem d_Mo_common_24 : decode b_Mo_common 24 = .ok (.aload_n 0, 1) := by decide +kernel
theorem d_Mo_common_25 : decode b_Mo_common 25 = .ok (.iload_n 1, 1) := by decide +kernel
theorem d_Mo_common_26 : decode b_Mo_common 26 = .ok (.iload_n 2, 1) := by decide +kernel
theorem d_Mo_common_27 : decode b_Mo_common 27 = .ok (.invokevirtual 75, 3) := by decide +kernel
theorem d_Mo_common_30 : decode b_Mo_common 30 = .ok (.aload_n 0, 1) := by decide +kernel
theorem d_Mo_common_31 : decode b_Mo_common 31 = .ok (.iload_n 2, 1) := by decide +kernel
theorem d_Mo_common_32 : decode b_Mo_common 32 = .ok (.bipush 7, 2) := by decide +kernel
theorem d_Mo_common_34 : decode b_Mo_common 34 = .ok (.invokevirtual 75, 3) := by decide +kernel
theorem d_Mo_common_37 : decode b_Mo_common 37 = .ok (.goto (-37), 3) := by decide +kernel
theorem d_Mo_common_40 : decode b_Mo_common 40 = .ok (.aload_n 0, 1) := by decide +kernel
theorem d_Mo_common_41 : decode b_Mo_common 41 = .ok (.bipush 7, 2) := by decide +kernel
theorem d_Mo_common_43 : decode b_Mo_common 43 = .ok (.iload_n 1, 1) := by decide +kernel
theorem d_Mo_common_44 : decode b_Mo_common 44 = .ok (.invokevirtual 75, 3) := by decide +kernel
theorem d_Mo_common_47 : decode b_Mo_common 47 = .ok (.return_, 1) := by decide +kernel
theorem d_Mo_divideBy_0 : decode b_Mo_divideBy 0 = .ok (.aload_n 0, 1) := by decide +kernel
theorem d_Mo_divideBy_1 : decode b_Mo_divideBy 1 = .ok (.getfield 14, 3) := by decide +kernel
theorem d_Mo_divideBy_4 : decode b_Mo_divideBy 4 = .ok (.iload_n 3, 1) := by decide +kernel
theorem d_Mo_divideBy_5 : decode b_Mo_divideBy 5 = .ok (.iaload, 1) := by decide +kernel
theorem d_Mo_divideBy_6 : decode b_Mo_divideBy 6 = .ok (.istore 4, 2) := by decide +kernel
theorem d_Mo_divideBy_8 : decode b_Mo_divideBy 8 = .ok (.aload_n 0, 1) := by decide +kernel
theorem d_Mo_divideBy_9 : decode b_Mo_divideBy 9 = .ok (.getfield 14, 3) := by decide +kernel
theorem d_Mo_divideBy_12 : decode b_Mo_divideBy 12 = .ok (.iload_n 2, 1) := by decide +kernel
theorem d_Mo_divideBy_13 : decode b_Mo_divideBy 13 = .ok (.iaload, 1) := by decide +kernel
theorem d_Mo_divideBy_14 : decode b_Mo_divideBy 14 = .ok (.istore 5, 2) := by decide +kernel
theorem d_Mo_divideBy_16 : decode b_Mo_divideBy 16 = .ok (.iload 5, 2) := by decide +kernel
theorem d_Mo_divideBy_18 : decode b_Mo_divideBy 18 = .ok (.iload 4, 2) := by decide +kernel
theorem d_Mo_divideBy_20 : decode b_Mo_divideBy 20 = .ok (.if_icmp .ge 11, 3) := by decide +kernel
theorem d_Mo_divideBy_23 : decode b_Mo_divideBy 23 = .ok (.aload_n 0, 1) := by decide +kernel
theorem d_Mo_divideBy_24 : decode b_Mo_divideBy 24 = .ok (.getfield 14, 3) := by decide +kernel
theorem d_Mo_divideBy_27 : decode b_Mo_divideBy 27 = .ok (.iload_n 1, 1) := by decide +kernel
theorem d_Mo_divideBy_28 : decode b_Mo_divideBy 28 = .ok (.iconst 0, 1) := by decide +kernel
theorem d_Mo_divideBy_29 : decode b_Mo_divideBy 29 = .ok (.iastore, 1) := by decide +kernel
theorem d_Mo_divideBy_30 : decode b_Mo_divideBy 30 = .ok (.return_, 1) := by decide +kernel
theorem d_Mo_divideBy_31 : decode b_Mo_divideBy 31 = .ok (.aload_n 0, 1) := by decide +kernel
theorem d_Mo_divideBy_32 : decode b_Mo_divideBy 32 = .ok (.getfield 8, 3) := by decide +kernel
theorem d_Mo_divideBy_35 : decode b_Mo_divideBy 35 = .ok (.sipush 12000, 3) := by decide +kernel
theorem d_Mo_divideBy_38 : decode b_Mo_divideBy 38 = .ok (.iload_n 2, 1) := by decide +kernel
theorem d_Mo_divideBy_39 : decode b_Mo_divideBy 39 = .ok (.imul, 1) := by decide +kernel
theorem d_Mo_divideBy_40 : decode b_Mo_divideBy 40 = .ok (.iload 5, 2) := by decide +kernel
theorem d_Mo_divideBy_42 : decode b_Mo_divideBy 42 = .ok (.iadd, 1) := by decide +kernel
theorem d_Mo_divideBy_43 : decode b_Mo_divideBy 43 = .ok (.iconst 0, 1) := by decide +kernel
theorem d_Mo_divideBy_44 : decode b_Mo_divideBy 44 = .ok (.iastore, 1) := by decide +kernel
theorem d_Mo_divideBy_45 : decode b_Mo_divideBy 45 = .ok (.aload_n 0, 1) := by decide +kernel
theorem d_Mo_divideBy_46 : decode b_Mo_divideBy 46 = .ok (.getfield 8, 3) := by decide +kernel
theorem d_Mo_divideBy_49 : decode b_Mo_divideBy 49 = .ok (.sipush 12000, 3) := by decide +kernel
theorem d_Mo_divideBy_52 : decode b_Mo_divideBy 52 = .ok (.iload_n 3, 1) := by decide +kernel
theorem d_Mo_divideBy_53 : decode b_Mo_divideBy 53 = .ok (.imul, 1) := by decide +kernel
theorem d_Mo_divideBy_54 : decode b_Mo_divideBy 54 = .ok (.iload 4, 2) := by decide +kernel
theorem d_Mo_divideBy_56 : decode b_Mo_divideBy 56 = .ok (.iadd, 1) := by decide +kernel
theorem d_Mo_divideBy_57 : decode b_Mo_divideBy 57 = .ok (.iconst 1, 1) := by decide +kernel
theorem d_Mo_divideBy_58 : decode b_Mo_divideBy 58 = .ok (.isub, 1) := by decide +kernel
theorem d_Mo_divideBy_59 : decode b_Mo_divideBy 59 = .ok (.iaload, 1) := by decide +kernel
theorem d_Mo_divideBy_60 : decode b_Mo_divideBy 60 = .ok (.i2l, 1) := by decide +kernel
theorem d_Mo_divideBy_61 : decode b_Mo_divideBy 61 = .ok (.ldc2_w 63, 3) := by decide +kernel
theorem d_Mo_divideBy_64 : decode b_Mo_divideBy 64 = .ok (.lmul, 1) := by decide +kernel
theorem d_Mo_divideBy_65 : decode b_Mo_divideBy 65 = .ok (.iload 4, 2) := by decide +kernel
theorem d_Mo_divideBy_67 : decode b_Mo_divideBy 67 = .ok (.iconst 1, 1) := by decide +kernel
theorem d_Mo_divideBy_68 : decode b_Mo_divideBy 68 = .ok (.if_icmp .le 26, 3) := by decide +kernel
theorem d_Mo_divideBy_71 : decode b_Mo_divideBy 71 = .ok (.aload_n 0, 1) := by decide +kernel
theorem d_Mo_divideBy_72 : decode b_Mo_divideBy 72 = .ok (.getfield 8, 3) := by decide +kernel
theorem d_Mo_divideBy_75 : decode b_Mo_divideBy 75 = .ok (.sipush 12000, 3) := by decide +kernel
theorem d_Mo_divideBy_78 : decode b_Mo_divideBy 78 = .ok (.iload_n 3, 1) := by decide +kernel
theorem d_Mo_divideBy_79 : decode b_Mo_divideBy 79 = .ok (.imul, 1) := by decide +kernel
theorem d_Mo_divideBy_80 : decode b_Mo_divideBy 80 = .ok (.iload 4, 2) := by decide +kernel
theorem d_Mo_divideBy_82 : decode b_Mo_divideBy 82 = .ok (.iadd, 1) := by decide +kernel
theorem d_Mo_divideBy_83 : decode b_Mo_divideBy 83 = .ok (.iconst 2, 1) := by decide +kernel
theorem d_Mo_divideBy_84 : decode b_Mo_divideBy 84 = .ok (.isub, 1) := by decide +kernel
theorem d_Mo_divideBy_85 : decode b_Mo_divideBy 85 = .ok (.iaload, 1) := by decide +kernel
theorem d_Mo_divideBy_86 : decode b_Mo_divideBy 86 = .ok (.i2l, 1) := by decide +kernel
theorem d_Mo_divideBy_87 : decode b_Mo_divideBy 87 = .ok (.ldc2_w 49, 3) := by decide +kernel
theorem d_Mo_divideBy_90 : decode b_Mo_divideBy 90 = .ok (.lmul, 1) := by decide +kernel
theorem d_Mo_divideBy_91 : decode b_Mo_divideBy 91 = .ok (.goto 4, 3) := by decide +kernel
theorem d_Mo_divideBy_94 : decode b_Mo_divideBy 94 = .ok (.lconst 0, 1) := by decide +kernel
theorem d_Mo_divideBy_95 : decode b_Mo_divideBy 95 = .ok (.ladd, 1) := by decide +kernel
theorem d_Mo_divideBy_96 : decode b_Mo_divideBy 96 = .ok (.iload 4, 2) := by decide +kernel
theorem d_Mo_divideBy_98 : decode b_Mo_divideBy 98 = .ok (.iconst 2, 1) := by decide +kernel
theorem d_Mo_divideBy_99 : decode b_Mo_divideBy 99 = .ok (.if_icmp .le 22, 3) := by decide +kernel
theorem d_Mo_divideBy_102 : decode b_Mo_divideBy 102 = .ok (.aload_n 0, 1) := by decide +kernel
theorem d_Mo_divideBy_103 : decode b_Mo_divideBy 103 = .ok (.getfield 8, 3) := by decide +kernel
theorem d_Mo_divideBy_106 : decode b_Mo_divideBy 106 = .ok (.sipush 12000, 3) := by decide +kernel
theorem d_Mo_divideBy_109 : decode b_Mo_divideBy 109 = .ok (.iload_n 3, 1) := by decide +kernel
theorem d_Mo_divideBy_110 : decode b_Mo_divideBy 110 = .ok (.imul, 1) := by decide +kernel
theorem d_Mo_divideBy_111 : decode b_Mo_divideBy 111 = .ok (.iload 4, 2) := by decide +kernel
theorem d_Mo_divideBy_113 : decode b_Mo_divideBy 113 = .ok (.iadd, 1) := by decide +kernel
theorem d_Mo_divideBy_114 : decode b_Mo_divideBy 114 = .ok (.iconst 3, 1) := by decide +kernel
theorem d_Mo_divideBy_115 : decode b_Mo_divideBy 115 = .ok (.isub, 1) := by decide +kernel
theorem d_Mo_divideBy_116 : decode b_Mo_divideBy 116 = .ok (.iaload, 1) := by decide +kernel
theorem d_Mo_divideBy_117 : decode b_Mo_divideBy 117 = .ok (.i2l, 1) := by decide +kernel
theorem d_Mo_divideBy_118 : decode b_Mo_divideBy 118 = .ok (.goto 4, 3) := by decide +kernel
theorem d_Mo_divideBy_121 : decode b_Mo_divideBy 121 = .ok (.lconst 0, 1) := by decide +kernel
theorem d_Mo_divideBy_122 : decode b_Mo_divideBy 122 = .ok (.ladd, 1) := by decide +kernel
theorem d_Mo_divideBy_123 : decode b_Mo_divideBy 123 = .ok (.lstore 6, 2) := by decide +kernel
theorem d_Mo_divideBy_125 : decode b_Mo_divideBy 125 = .ok (.iload 5, 2) := by decide +kernel
theorem d_Mo_divideBy_127 : decode b_Mo_divideBy 127 = .ok (.iload 4, 2) := by decide +kernel
theorem d_Mo_divideBy_129 : decode b_Mo_divideBy 129 = .ok (.isub, 1) := by decide +kernel
theorem d_Mo_divideBy_130 : decode b_Mo_divideBy 130 = .ok (.istore 8, 2) := by decide +kernel
theorem d_Mo_divideBy_132 : decode b_Mo_divideBy 132 = .ok (.iload 8, 2) := by decide +kernel
theorem d_Mo_divideBy_134 : decode b_Mo_divideBy 134 = .ok (.ifCond .lt 180, 3) := by decide +kernel
theorem d_Mo_divideBy_137 : decode b_Mo_divideBy 137 = .ok (.aload_n 0, 1) := by decide +kernel
theorem d_Mo_divideBy_138 : decode b_Mo_divideBy 138 = .ok (.getfield 8, 3) := by decide +kernel
theorem d_Mo_divideBy_141 : decode b_Mo_divideBy 141 = .ok (.sipush 12000, 3) := by decide +kernel
theorem d_Mo_divideBy_144 : decode b_Mo_divideBy 144 = .ok (.iload_n 2, 1) := by decide +kernel
theorem d_Mo_divideBy_145 : decode b_Mo_divideBy 145 = .ok (.imul, 1) := by decide +kernel
theorem d_Mo_divideBy_146 : decode b_Mo_divideBy 146 = .ok (.iload 8, 2) := by decide +kernel
theorem d_Mo_divideBy_148 : decode b_Mo_divideBy 148 = .ok (.iadd, 1) := by decide +kernel
theorem d_Mo_divideBy_149 : decode b_Mo_divideBy 149 = .ok (.iload 4, 2) := by decide +kernel
theorem d_Mo_divideBy_151 : decode b_Mo_divideBy 151 = .ok (.iadd, 1) := by decide +kernel
theorem d_Mo_divideBy_152 : decode b_Mo_divideBy 152 = .ok (.iaload, 1) := by decide +kernel
theorem d_Mo_divideBy_153 : decode b_Mo_divideBy 153 = .ok (.i2l, 1) := by decide +kernel
theorem d_Mo_divideBy_154 : decode b_Mo_divideBy 154 = .ok (.ldc2_w 65, 3) := by decide +kernel
theorem d_Mo_divideBy_157 : decode b_Mo_divideBy 157 = .ok (.lmul, 1) := by decide +kernel
theorem d_Mo_divideBy_158 : decode b_Mo_divideBy 158 = .ok (.aload_n 0, 1) := by decide +kernel
theorem d_Mo_divideBy_159 : decode b_Mo_divideBy 159 = .ok (.getfield 8, 3) := by decide +kernel
theorem d_Mo_divideBy_162 : decode b_Mo_divideBy 162 = .ok (.sipush 12000, 3) := by decide +kernel
theorem d_Mo_divideBy_165 : decode b_Mo_divideBy 165 = .ok (.iload_n 2, 1) := by decide +kernel
theorem d_Mo_divideBy_166 : decode b_Mo_divideBy 166 = .ok (.imul, 1) := by decide +kernel
theorem d_Mo_divideBy_167 : decode b_Mo_divideBy 167 = .ok (.iload 8, 2) := by decide +kernel
theorem d_Mo_divideBy_169 : decode b_Mo_divideBy 169 = .ok (.iadd, 1) := by decide +kernel
theorem d_Mo_divideBy_170 : decode b_Mo_divideBy 170 = .ok (.iload 4, 2) := by decide +kernel
theorem d_Mo_divideBy_172 : decode b_Mo_divideBy 172 = .ok (.iadd, 1) := by decide +kernel
theorem d_Mo_divideBy_173 : decode b_Mo_divideBy 173 = .ok (.iconst 1, 1) := by decide +kernel
theorem d_Mo_divideBy_174 : decode b_Mo_divideBy 174 = .ok (.isub, 1) := by decide +kernel
theorem d_Mo_divideBy_175 : decode b_Mo_divideBy 175 = .ok (.iaload, 1) := by decide +kernel
theorem d_Mo_divideBy_176 : decode b_Mo_divideBy 176 = .ok (.i2l, 1) := by decide +kernel
theorem d_Mo_divideBy_177 : decode b_Mo_divideBy 177 = .ok (.ldc2_w 63, 3) := by decide +kernel
theorem d_Mo_divideBy_180 : decode b_Mo_divideBy 180 = .ok (.lmul, 1) := by decide +kernel
theorem d_Mo_divideBy_181 : decode b_Mo_divideBy 181 = .ok (.ladd, 1) := by decide +kernel
theorem d_Mo_divideBy_182 : decode b_Mo_divideBy 182 = .ok (.iload 4, 2) := by decide +kernel
theorem d_Mo_divideBy_184 : decode b_Mo_divideBy 184 = .ok (.iconst 1, 1) := by decide +kernel
theorem d_Mo_divideBy_185 : decode b_Mo_divideBy 185 = .ok (.if_icmp .le 29, 3) := by decide +kernel
theorem d_Mo_divideBy_188 : decode b_Mo_divideBy 188 = .ok (.aload_n 0, 1) := by decide +kernel
theorem d_Mo_divideBy_189 : decode b_Mo_divideBy 189 = .ok (.getfield 8, 3) := by decide +kernel
theorem d_Mo_divideBy_192 : decode b_Mo_divideBy 192 = .ok (.sipush 12000, 3) := by decide +kernel
theorem d_Mo_divideBy_195 : decode b_Mo_divideBy 195 = .ok (.iload_n 2, 1) := by decide +kernel
theorem d_Mo_divideBy_196 : decode b_Mo_divideBy 196 = .ok (.imul, 1) := by decide +kernel
theorem d_Mo_divideBy_197 : decode b_Mo_divideBy 197 = .ok (.iload 8, 2) := by decide +kernel
theorem d_Mo_divideBy_199 : decode b_Mo_divideBy 199 = .ok (.iadd, 1) := by decide +kernel
theorem d_Mo_divideBy_200 : decode b_Mo_divideBy 200 = .ok (.iload 4, 2) := by decide +kernel
theorem d_Mo_divideBy_202 : decode b_Mo_divideBy 202 = .ok (.iadd, 1) := by decide +kernel
theorem d_Mo_divideBy_203 : decode b_Mo_divideBy 203 = .ok (.iconst 2, 1) := by decide +kernel
theorem d_Mo_divideBy_204 : decode b_Mo_divideBy 204 = .ok (.isub, 1) := by decide +kernel
theorem d_Mo_divideBy_205 : decode b_Mo_divideBy 205 = .ok (.iaload, 1) := by decide +kernel
theorem d_Mo_divideBy_206 : decode b_Mo_divideBy 206 = .ok (.i2l, 1) := by decide +kernel
theorem d_Mo_divideBy_207 : decode b_Mo_divideBy 207 = .ok (.ldc2_w 49, 3) := by decide +kernel
theorem d_Mo_divideBy_210 : decode b_Mo_divideBy 210 = .ok (.lmul, 1) := by decide +kernel
theorem d_Mo_divideBy_211 : decode b_Mo_divideBy 211 = .ok (.goto 4, 3) := by decide +kernel
theorem d_Mo_divideBy_214 : decode b_Mo_divideBy 214 = .ok (.lconst 0, 1) := by decide +kernel
theorem d_Mo_divideBy_215 : decode b_Mo_divideBy 215 = .ok (.ladd, 1) := by decide +kernel
theorem d_Mo_divideBy_216 : decode b_Mo_divideBy 216 = .ok (.iload 4, 2) := by decide +kernel
theorem d_Mo_divideBy_218 : decode b_Mo_divideBy 218 = .ok (.iconst 2, 1) := by decide +kernel
theorem d_Mo_divideBy_219 : decode b_Mo_divideBy 219 = .ok (.if_icmp .le 25, 3) := by decide +kernel
theorem d_Mo_divideBy_222 : decode b_Mo_divideBy 222 = .ok (.aload_n 0, 1) := by decide +kernel
theorem d_Mo_divideBy_223 : decode b_Mo_divideBy 223 = .ok (.getfield 8, 3) := by decide +kernel
theorem d_Mo_divideBy_226 : decode b_Mo_divideBy 226 = .ok (.sipush 12000, 3) := by decide +kernel
theorem d_Mo_divideBy_229 : decode b_Mo_divideBy 229 = .ok (.iload_n 2, 1) := by decide +kernel
theorem d_Mo_divideBy_230 : decode b_Mo_divideBy 230 = .ok (.imul, 1) := by decide +kernel
theorem d_Mo_divideBy_231 : decode b_Mo_divideBy 231 = .ok (.iload 8, 2) := by decide +kernel
theorem d_Mo_divideBy_233 : decode b_Mo_divideBy 233 = .ok (.iadd, 1) := by decide +kernel
theorem d_Mo_divideBy_234 : decode b_Mo_divideBy 234 = .ok (.iload 4, 2) := by decide +kernel
theorem d_Mo_divideBy_236 : decode b_Mo_divideBy 236 = .ok (.iadd, 1) := by decide +kernel
theorem d_Mo_divideBy_237 : decode b_Mo_divideBy 237 = .ok (.iconst 3, 1) := by decide +kernel
theorem d_Mo_divideBy_238 : decode b_Mo_divideBy 238 = .ok (.isub, 1) := by decide +kernel
theorem d_Mo_divideBy_239 : decode b_Mo_divideBy 239 = .ok (.iaload, 1) := by decide +kernel
theorem d_Mo_divideBy_240 : decode b_Mo_divideBy 240 = .ok (.i2l, 1) := by decide +kernel
theorem d_Mo_divideBy_241 : decode b_Mo_divideBy 241 = .ok (.goto 4, 3) := by decide +kernel
theorem d_Mo_divideBy_244 : decode b_Mo_divideBy 244 = .ok (.lconst 0, 1) := by decide +kernel
theorem d_Mo_divideBy_245 : decode b_Mo_divideBy 245 = .ok (.ladd, 1) := by decide +kernel
theorem d_Mo_divideBy_246 : decode b_Mo_divideBy 246 = .ok (.lstore 9, 2) := by decide +kernel
theorem d_Mo_divideBy_248 : decode b_Mo_divideBy 248 = .ok (.lload 9, 2) := by decide +kernel
theorem d_Mo_divideBy_250 : decode b_Mo_divideBy 250 = .ok (.lload 6, 2) := by decide +kernel
theorem d_Mo_divideBy_252 : decode b_Mo_divideBy 252 = .ok (.ldiv, 1) := by decide +kernel
theorem d_Mo_divideBy_253 : decode b_Mo_divideBy 253 = .ok (.l2i, 1) := by decide +kernel
theorem d_Mo_divideBy_254 : decode b_Mo_divideBy 254 = .ok (.istore 11, 2) := by decide +kernel
theorem d_Mo_divideBy_256 : decode b_Mo_divideBy 256 = .ok (.iload 11, 2) := by decide +kernel
theorem d_Mo_divideBy_258 : decode b_Mo_divideBy 258 = .ok (.sipush 10000, 3) := by decide +kernel
theorem d_Mo_divideBy_261 : decode b_Mo_divideBy 261 = .ok (.if_icmp .lt 9, 3) := by decide +kernel
theorem d_Mo_divideBy_264 : decode b_Mo_divideBy 264 = .ok (.sipush 9999, 3) := by decide +kernel
theorem d_Mo_divideBy_267 : decode b_Mo_divideBy 267 = .ok (.goto 5, 3) := by decide +kernel
theorem d_Mo_divideBy_270 : decode b_Mo_divideBy 270 = .ok (.iload 11, 2) := by decide +kernel
theorem d_Mo_divideBy_272 : decode b_Mo_divideBy 272 = .ok (.istore 11, 2) := by decide +kernel
theorem d_Mo_divideBy_274 : decode b_Mo_divideBy 274 = .ok (.aload_n 0, 1) := by decide +kernel
theorem d_Mo_divideBy_275 : decode b_Mo_divideBy 275 = .ok (.iload_n 2, 1) := by decide +kernel
theorem d_Mo_divideBy_276 : decode b_Mo_divideBy 276 = .ok (.iload_n 3, 1) := by decide +kernel
theorem d_Mo_divideBy_277 : decode b_Mo_divideBy 277 = .ok (.iload 8, 2) := by decide +kernel
theorem d_Mo_divideBy_279 : decode b_Mo_divideBy 279 = .ok (.iload 11, 2) := by decide +kernel
theorem d_Mo_divideBy_281 : decode b_Mo_divideBy 281 = .ok (.invokevirtual 67, 3) := by decide +kernel
theorem d_Mo_divideBy_284 : decode b_Mo_divideBy 284 = .ok (.ifCond .ne 9, 3) := by decide +kernel
theorem d_Mo_divideBy_287 : decode b_Mo_divideBy 287 = .ok (.iinc 11 (-1), 3) := by decide +kernel
theorem d_Mo_divideBy_290 : decode b_Mo_divideBy 290 = .ok (.goto (-16), 3) := by decide +kernel
theorem d_Mo_divideBy_293 : decode b_Mo_divideBy 293 = .ok (.aload_n 0, 1) := by decide +kernel
theorem d_Mo_divideBy_294 : decode b_Mo_divideBy 294 = .ok (.getfield 8, 3) := by decide +kernel
theorem d_Mo_divideBy_297 : decode b_Mo_divideBy 297 = .ok (.sipush 12000, 3) := by decide +kernel
theorem d_Mo_divideBy_300 : decode b_Mo_divideBy 300 = .ok (.iload_n 1, 1) := by decide +kernel
theorem d_Mo_divideBy_301 : decode b_Mo_divideBy 301 = .ok (.imul, 1) := by decide +kernel
theorem d_Mo_divideBy_302 : decode b_Mo_divideBy 302 = .ok (.iload 8, 2) := by decide +kernel
theorem d_Mo_divideBy_304 : decode b_Mo_divideBy 304 = .ok (.iadd, 1) := by decide +kernel
theorem d_Mo_divideBy_305 : decode b_Mo_divideBy 305 = .ok (.iload 11, 2) := by decide +kernel
theorem d_Mo_divideBy_307 : decode b_Mo_divideBy 307 = .ok (.iastore, 1) := by decide +kernel
theorem d_Mo_divideBy_308 : decode b_Mo_divideBy 308 = .ok (.iinc 8 (-1), 3) := by decide +kernel
theorem d_Mo_divideBy_311 : decode b_Mo_divideBy 311 = .ok (.goto (-179), 3) := by decide +kernel
theorem d_Mo_divideBy_314 : decode b_Mo_divideBy 314 = .ok (.aload_n 0, 1) := by decide +kernel
theorem d_Mo_divideBy_315 : decode b_Mo_divideBy 315 = .ok (.iload_n 1, 1) := by decide +kernel
theorem d_Mo_divideBy_316 : decode b_Mo_divideBy 316 = .ok (.iload 5, 2) := by decide +kernel
theorem d_Mo_divideBy_318 : decode b_Mo_divideBy 318 = .ok (.iload 4, 2) := by decide +kernel
theorem d_Mo_divideBy_320 : decode b_Mo_divideBy 320 = .ok (.isub, 1) := by decide +kernel
theorem d_Mo_divideBy_321 : decode b_Mo_divideBy 321 = .ok (.iconst 1, 1) := by decide +kernel
theorem d_Mo_divideBy_322 : decode b_Mo_divideBy 322 = .ok (.iadd, 1) := by decide +kernel
theorem d_Mo_divideBy_323 : decode b_Mo_divideBy 323 = .ok (.invokevirtual 55, 3) := by decide +kernel
theorem d_Mo_divideBy_326 : decode b_Mo_divideBy 326 = .ok (.aload_n 0, 1) := by decide +kernel
theorem d_Mo_divideBy_327 : decode b_Mo_divideBy 327 = .ok (.iload_n 2, 1) := by decide +kernel
theorem d_Mo_divideBy_328 : decode b_Mo_divideBy 328 = .ok (.iload 4, 2) := by decide +kernel
theorem d_Mo_divideBy_330 : decode b_Mo_divideBy 330 = .ok (.invokevirtual 55, 3) := by decide +kernel
theorem d_Mo_divideBy_333 : decode b_Mo_divideBy 333 = .ok (.return_, 1) := by decide +kernel
theorem d_Mo_takes_0 : decode b_Mo_takes 0 = .ok (.iconst 0, 1) := by decide +kernel
theorem d_Mo_takes_1 : decode b_Mo_takes 1 = .ok (.istore 5, 2) := by decide +kernel
theorem d_Mo_takes_3 : decode b_Mo_takes 3 = .ok (.aload_n 0, 1) := by decide +kernel
theorem d_Mo_takes_4 : decode b_Mo_takes 4 = .ok (.getfield 14, 3) := by decide +kernel
theorem d_Mo_takes_7 : decode b_Mo_takes 7 = .ok (.iload_n 2, 1) := by decide +kernel
theorem d_Mo_takes_8 : decode b_Mo_takes 8 = .ok (.iaload, 1) := by decide +kernel
theorem d_Mo_takes_9 : decode b_Mo_takes 9 = .ok (.istore 6, 2) := by decide +kernel
theorem d_Mo_takes_11 : decode b_Mo_takes 11 = .ok (.iconst 0, 1) := by decide +kernel
theorem d_Mo_takes_12 : decode b_Mo_takes 12 = .ok (.istore 7, 2) := by decide +kernel
theorem d_Mo_takes_14 : decode b_Mo_takes 14 = .ok (.iload 7, 2) := by decide +kernel
theorem d_Mo_takes_16 : decode b_Mo_takes 16 = .ok (.iload 6, 2) := by decide +kernel
theorem d_Mo_takes_18 : decode b_Mo_takes 18 = .ok (.if_icmp .gt 111, 3) := by decide +kernel
theorem d_Mo_takes_21 : decode b_Mo_takes 21 = .ok (.aload_n 0, 1) := by decide +kernel
theorem d_Mo_takes_22 : decode b_Mo_takes 22 = .ok (.getfield 8, 3) := by decide +kernel
theorem d_Mo_takes_25 : decode b_Mo_takes 25 = .ok (.sipush 12000, 3) := by decide +kernel
theorem d_Mo_takes_28 : decode b_Mo_takes 28 = .ok (.iload_n 1, 1) := by decide +kernel
theorem d_Mo_takes_29 : decode b_Mo_takes 29 = .ok (.imul, 1) := by decide +kernel
theorem d_Mo_takes_30 : decode b_Mo_takes 30 = .ok (.iload_n 3, 1) := by decide +kernel
theorem d_Mo_takes_31 : decode b_Mo_takes 31 = .ok (.iadd, 1) := by decide +kernel
theorem d_Mo_takes_32 : decode b_Mo_takes 32 = .ok (.iload 7, 2) := by decide +kernel
theorem d_Mo_takes_34 : decode b_Mo_takes 34 = .ok (.iadd, 1) := by decide +kernel
theorem d_Mo_takes_35 : decode b_Mo_takes 35 = .ok (.iaload, 1) := by decide +kernel
theorem d_Mo_takes_36 : decode b_Mo_takes 36 = .ok (.iload 4, 2) := by decide +kernel
theorem d_Mo_takes_38 : decode b_Mo_takes 38 = .ok (.iload 7, 2) := by decide +kernel
theorem d_Mo_takes_40 : decode b_Mo_takes 40 = .ok (.iload 6, 2) := by decide +kernel
theorem d_Mo_takes_42 : decode b_Mo_takes 42 = .ok (.if_icmp .ge 19, 3) := by decide +kernel
theorem d_Mo_takes_45 : decode b_Mo_takes 45 = .ok (.aload_n 0, 1) := by decide +kernel
theorem d_Mo_takes_46 : decode b_Mo_takes 46 = .ok (.getfield 8, 3) := by decide +kernel
theorem d_Mo_takes_49 : decode b_Mo_takes 49 = .ok (.sipush 12000, 3) := by decide +kernel
theorem d_Mo_takes_52 : decode b_Mo_takes 52 = .ok (.iload_n 2, 1) := by decide +kernel
theorem d_Mo_takes_53 : decode b_Mo_takes 53 = .ok (.imul, 1) := by decide +kernel
theorem d_Mo_takes_54 : decode b_Mo_takes 54 = .ok (.iload 7, 2) := by decide +kernel
theorem d_Mo_takes_56 : decode b_Mo_takes 56 = .ok (.iadd, 1) := by decide +kernel
theorem d_Mo_takes_57 : decode b_Mo_takes 57 = .ok (.iaload, 1) := by decide +kernel
theorem d_Mo_takes_58 : decode b_Mo_takes 58 = .ok (.goto 4, 3) := by decide +kernel
theorem d_Mo_takes_61 : decode b_Mo_takes 61 = .ok (.iconst 0, 1) := by decide +kernel
theorem d_Mo_takes_62 : decode b_Mo_takes 62 = .ok (.imul, 1) := by decide +kernel
theorem d_Mo_takes_63 : decode b_Mo_takes 63 = .ok (.isub, 1) := by decide +kernel
theorem d_Mo_takes_64 : decode b_Mo_takes 64 = .ok (.iload 5, 2) := by decide +kernel
theorem d_Mo_takes_66 : decode b_Mo_takes 66 = .ok (.isub, 1) := by decide +kernel
theorem d_Mo_takes_67 : decode b_Mo_takes 67 = .ok (.istore 8, 2) := by decide +kernel
theorem d_Mo_takes_69 : decode b_Mo_takes 69 = .ok (.iload 8, 2) := by decide +kernel
theorem d_Mo_takes_71 : decode b_Mo_takes 71 = .ok (.sipush 10000, 3) := by decide +kernel
theorem d_Mo_takes_74 : decode b_Mo_takes 74 = .ok (.irem, 1) := by decide +kernel
theorem d_Mo_takes_75 : decode b_Mo_takes 75 = .ok (.istore 9, 2) := by decide +kernel
theorem d_Mo_takes_77 : decode b_Mo_takes 77 = .ok (.iload 9, 2) := by decide +kernel
theorem d_Mo_takes_79 : decode b_Mo_takes 79 = .ok (.ifCond .ge 12, 3) := by decide +kernel
theorem d_Mo_takes_82 : decode b_Mo_takes 82 = .ok (.iload 9, 2) := by decide +kernel
theorem d_Mo_takes_84 : decode b_Mo_takes 84 = .ok (.sipush 10000, 3) := by decide +kernel
theorem d_Mo_takes_87 : decode b_Mo_takes 87 = .ok (.iadd, 1) := by decide +kernel
theorem d_Mo_takes_88 : decode b_Mo_takes 88 = .ok (.goto 5, 3) := by decide +kernel
theorem d_Mo_takes_91 : decode b_Mo_takes 91 = .ok (.iload 9, 2) := by decide +kernel
theorem d_Mo_takes_93 : decode b_Mo_takes 93 = .ok (.istore 9, 2) := by decide +kernel
theorem d_Mo_takes_95 : decode b_Mo_takes 95 = .ok (.iload 9, 2) := by decide +kernel
theorem d_Mo_takes_97 : decode b_Mo_takes 97 = .ok (.iload 8, 2) := by decide +kernel
theorem d_Mo_takes_99 : decode b_Mo_takes 99 = .ok (.isub, 1) := by decide +kernel
theorem d_Mo_takes_100 : decode b_Mo_takes 100 = .ok (.sipush 10000, 3) := by decide +kernel
theorem d_Mo_takes_103 : decode b_Mo_takes 103 = .ok (.idiv, 1) := by decide +kernel
theorem d_Mo_takes_104 : decode b_Mo_takes 104 = .ok (.istore 5, 2) := by decide +kernel
theorem d_Mo_takes_106 : decode b_Mo_takes 106 = .ok (.aload_n 0, 1) := by decide +kernel
theorem d_Mo_takes_107 : decode b_Mo_takes 107 = .ok (.getfield 8, 3) := by decide +kernel
theorem d_Mo_takes_110 : decode b_Mo_takes 110 = .ok (.sipush 12000, 3) := by decide +kernel
theorem d_Mo_takes_113 : decode b_Mo_takes 113 = .ok (.iload_n 1, 1) := by decide +kernel
theorem d_Mo_takes_114 : decode b_Mo_takes 114 = .ok (.imul, 1) := by decide +kernel
theorem d_Mo_takes_115 : decode b_Mo_takes 115 = .ok (.iload_n 3, 1) := by decide +kernel
theorem d_Mo_takes_116 : decode b_Mo_takes 116 = .ok (.iadd, 1) := by decide +kernel
theorem d_Mo_takes_117 : decode b_Mo_takes 117 = .ok (.iload 7, 2) := by decide +kernel
theorem d_Mo_takes_119 : decode b_Mo_takes 119 = .ok (.iadd, 1) := by decide +kernel
theorem d_Mo_takes_120 : decode b_Mo_takes 120 = .ok (.iload 9, 2) := by decide +kernel
theorem d_Mo_takes_122 : decode b_Mo_takes 122 = .ok (.iastore, 1) := by decide +kernel
theorem d_Mo_takes_123 : decode b_Mo_takes 123 = .ok (.iinc 7 1, 3) := by decide +kernel
theorem d_Mo_takes_126 : decode b_Mo_takes 126 = .ok (.goto (-112), 3) := by decide +kernel
theorem d_Mo_takes_129 : decode b_Mo_takes 129 = .ok (.iload 5, 2) := by decide +kernel
theorem d_Mo_takes_131 : decode b_Mo_takes 131 = .ok (.ifCond .ne 5, 3) := by decide +kernel
theorem d_Mo_takes_134 : decode b_Mo_takes 134 = .ok (.iconst 1, 1) := by decide +kernel
theorem d_Mo_takes_135 : decode b_Mo_takes 135 = .ok (.ireturn, 1) := by decide +kernel
theorem d_Mo_takes_136 : decode b_Mo_takes 136 = .ok (.iconst 0, 1) := by decide +kernel
theorem d_Mo_takes_137 : decode b_Mo_takes 137 = .ok (.istore 7, 2) := by decide +kernel
theorem d_Mo_takes_139 : decode b_Mo_takes 139 = .ok (.iconst 0, 1) := by decide +kernel
theorem d_Mo_takes_140 : decode b_Mo_takes 140 = .ok (.istore 8, 2) := by decide +kernel
theorem d_Mo_takes_142 : decode b_Mo_takes 142 = .ok (.iload 8, 2) := by decide +kernel
theorem d_Mo_takes_144 : decode b_Mo_takes 144 = .ok (.iload 6, 2) := by decide +kernel
theorem d_Mo_takes_146 : decode b_Mo_takes 146 = .ok (.if_icmp .gt 86, 3) := by decide +kernel
theorem d_Mo_takes_149 : decode b_Mo_takes 149 = .ok (.aload_n 0, 1) := by decide +kernel
theorem d_Mo_takes_150 : decode b_Mo_takes 150 = .ok (.getfield 8, 3) := by decide +kernel
theorem d_Mo_takes_153 : decode b_Mo_takes 153 = .ok (.sipush 12000, 3) := by decide +kernel
theorem d_Mo_takes_156 : decode b_Mo_takes 156 = .ok (.iload_n 1, 1) := by decide +kernel
theorem d_Mo_takes_157 : decode b_Mo_takes 157 = .ok (.imul, 1) := by decide +kernel
theorem d_Mo_takes_158 : decode b_Mo_takes 158 = .ok (.iload_n 3, 1) := by decide +kernel
theorem d_Mo_takes_159 : decode b_Mo_takes 159 = .ok (.iadd, 1) := by decide +kernel
theorem d_Mo_takes_160 : decode b_Mo_takes 160 = .ok (.iload 8, 2) := by decide +kernel
theorem d_Mo_takes_162 : decode b_Mo_takes 162 = .ok (.iadd, 1) := by decide +kernel
theorem d_Mo_takes_163 : decode b_Mo_takes 163 = .ok (.iaload, 1) := by decide +kernel
theorem d_Mo_takes_164 : decode b_Mo_takes 164 = .ok (.iload 4, 2) := by decide +kernel
theorem d_Mo_takes_166 : decode b_Mo_takes 166 = .ok (.iload 8, 2) := by decide +kernel
theorem d_Mo_takes_168 : decode b_Mo_takes 168 = .ok (.iload 6, 2) := by decide +kernel
theorem d_Mo_takes_170 : decode b_Mo_takes 170 = .ok (.if_icmp .ge 19, 3) := by decide +kernel
theorem d_Mo_takes_173 : decode b_Mo_takes 173 = .ok (.aload_n 0, 1) := by decide +kernel
theorem d_Mo_takes_174 : decode b_Mo_takes 174 = .ok (.getfield 8, 3) := by decide +kernel
theorem d_Mo_takes_177 : decode b_Mo_takes 177 = .ok (.sipush 12000, 3) := by decide +kernel
theorem d_Mo_takes_180 : decode b_Mo_takes 180 = .ok (.iload_n 2, 1) := by decide +kernel
theorem d_Mo_takes_181 : decode b_Mo_takes 181 = .ok (.imul, 1) := by decide +kernel
theorem d_Mo_takes_182 : decode b_Mo_takes 182 = .ok (.iload 8, 2) := by decide +kernel
theorem d_Mo_takes_184 : decode b_Mo_takes 184 = .ok (.iadd, 1) := by decide +kernel
theorem d_Mo_takes_185 : decode b_Mo_takes 185 = .ok (.iaload, 1) := by decide +kernel
theorem d_Mo_takes_186 : decode b_Mo_takes 186 = .ok (.goto 4, 3) := by decide +kernel
theorem d_Mo_takes_189 : decode b_Mo_takes 189 = .ok (.iconst 0, 1) := by decide +kernel
theorem d_Mo_takes_190 : decode b_Mo_takes 190 = .ok (.imul, 1) := by decide +kernel
theorem d_Mo_takes_191 : decode b_Mo_takes 191 = .ok (.iadd, 1) := by decide +kernel
theorem d_Mo_takes_192 : decode b_Mo_takes 192 = .ok (.iload 7, 2) := by decide +kernel
theorem d_Mo_takes_194 : decode b_Mo_takes 194 = .ok (.iadd, 1) := by decide +kernel
theorem d_Mo_takes_195 : decode b_Mo_takes 195 = .ok (.istore 9, 2) := by decide +kernel
theorem d_Mo_takes_197 : decode b_Mo_takes 197 = .ok (.aload_n 0, 1) := by decide +kernel
theorem d_Mo_takes_198 : decode b_Mo_takes 198 = .ok (.getfield 8, 3) := by decide +kernel
theorem d_Mo_takes_201 : decode b_Mo_takes 201 = .ok (.sipush 12000, 3) := by decide +kernel
theorem d_Mo_takes_204 : decode b_Mo_takes 204 = .ok (.iload_n 1, 1) := by decide +kernel
theorem d_Mo_takes_205 : decode b_Mo_takes 205 = .ok (.imul, 1) := by decide +kernel
theorem d_Mo_takes_206 : decode b_Mo_takes 206 = .ok (.iload_n 3, 1) := by decide +kernel
theorem d_Mo_takes_207 : decode b_Mo_takes 207 = .ok (.iadd, 1) := by decide +kernel
theorem d_Mo_takes_208 : decode b_Mo_takes 208 = .ok (.iload 8, 2) := by decide +kernel
theorem d_Mo_takes_210 : decode b_Mo_takes 210 = .ok (.iadd, 1) := by decide +kernel
theorem d_Mo_takes_211 : decode b_Mo_takes 211 = .ok (.iload 9, 2) := by decide +kernel
theorem d_Mo_takes_213 : decode b_Mo_takes 213 = .ok (.sipush 10000, 3) := by decide +kernel
theorem d_Mo_takes_216 : decode b_Mo_takes 216 = .ok (.irem, 1) := by decide +kernel
theorem d_Mo_takes_217 : decode b_Mo_takes 217 = .ok (.iastore, 1) := by decide +kernel
theorem d_Mo_takes_218 : decode b_Mo_takes 218 = .ok (.iload 9, 2) := by decide +kernel
theorem d_Mo_takes_220 : decode b_Mo_takes 220 = .ok (.sipush 10000, 3) := by decide +kernel
theorem d_Mo_takes_223 : decode b_Mo_takes 223 = .ok (.idiv, 1) := by decide +kernel
theorem d_Mo_takes_224 : decode b_Mo_takes 224 = .ok (.istore 7, 2) := by decide +kernel
theorem d_Mo_takes_226 : decode b_Mo_takes 226 = .ok (.iinc 8 1, 3) := by decide +kernel
theorem d_Mo_takes_229 : decode b_Mo_takes 229 = .ok (.goto (-87), 3) := by decide +kernel
theorem d_Mo_takes_232 : decode b_Mo_takes 232 = .ok (.iconst 0, 1) := by decide +kernel
theorem d_Mo_takes_233 : decode b_Mo_takes 233 = .ok (.ireturn, 1) := by decide +kernel
theorem d_Mo_trim_0 : decode b_Mo_trim 0 = .ok (.iload_n 2, 1) := by decide +kernel
theorem d_Mo_trim_1 : decode b_Mo_trim 1 = .ok (.istore_n 3, 1) := by decide +kernel
theorem d_Mo_trim_2 : decode b_Mo_trim 2 = .ok (.iload_n 3, 1) := by decide +kernel
theorem d_Mo_trim_3 : decode b_Mo_trim 3 = .ok (.ifCond .le 26, 3) := by decide +kernel
theorem d_Mo_trim_6 : decode b_Mo_trim 6 = .ok (.aload_n 0, 1) := by decide +kernel
theorem d_Mo_trim_7 : decode b_Mo_trim 7 = .ok (.getfield 8, 3) := by decide +kernel
theorem d_Mo_trim_10 : decode b_Mo_trim 10 = .ok (.sipush 12000, 3) := by decide +kernel
theorem d_Mo_trim_13 : decode b_Mo_trim 13 = .ok (.iload_n 1, 1) := by decide +kernel
theorem d_Mo_trim_14 : decode b_Mo_trim 14 = .ok (.imul, 1) := by decide +kernel
theorem d_Mo_trim_15 : decode b_Mo_trim 15 = .ok (.iload_n 3, 1) := by decide +kernel
theorem d_Mo_trim_16 : decode b_Mo_trim 16 = .ok (.iadd, 1) := by decide +kernel
theorem d_Mo_trim_17 : decode b_Mo_trim 17 = .ok (.iconst 1, 1) := by decide +kernel
theorem d_Mo_trim_18 : decode b_Mo_trim 18 = .ok (.isub, 1) := by decide +kernel
theorem d_Mo_trim_19 : decode b_Mo_trim 19 = .ok (.iaload, 1) := by decide +kernel
theorem d_Mo_trim_20 : decode b_Mo_trim 20 = .ok (.ifCond .ne 9, 3) := by decide +kernel
theorem d_Mo_trim_23 : decode b_Mo_trim 23 = .ok (.iinc 3 (-1), 3) := by decide +kernel
theorem d_Mo_trim_26 : decode b_Mo_trim 26 = .ok (.goto (-24), 3) := by decide +kernel
theorem d_Mo_trim_29 : decode b_Mo_trim 29 = .ok (.aload_n 0, 1) := by decide +kernel
theorem d_Mo_trim_30 : decode b_Mo_trim 30 = .ok (.getfield 14, 3) := by decide +kernel
theorem d_Mo_trim_33 : decode b_Mo_trim 33 = .ok (.iload_n 1, 1) := by decide +kernel
theorem d_Mo_trim_34 : decode b_Mo_trim 34 = .ok (.iload_n 3, 1) := by decide +kernel
theorem d_Mo_trim_35 : decode b_Mo_trim 35 = .ok (.iastore, 1) := by decide +kernel
theorem d_Mo_trim_36 : decode b_Mo_trim 36 = .ok (.return_, 1) := by decide +kernel
theorem d_Mo_store_0 : decode b_Mo_store 0 = .ok (.aload_n 0, 1) := by decide +kernel
theorem d_Mo_store_1 : decode b_Mo_store 1 = .ok (.iconst 0, 1) := by decide +kernel
theorem d_Mo_store_2 : decode b_Mo_store 2 = .ok (.invokevirtual 94, 3) := by decide +kernel
theorem d_Mo_store_5 : decode b_Mo_store 5 = .ok (.aload_n 0, 1) := by decide +kernel
theorem d_Mo_store_6 : decode b_Mo_store 6 = .ok (.iconst 1, 1) := by decide +kernel
theorem d_Mo_store_7 : decode b_Mo_store 7 = .ok (.invokevirtual 94, 3) := by decide +kernel
theorem d_Mo_store_10 : decode b_Mo_store 10 = .ok (.iadd, 1) := by decide +kernel
theorem d_Mo_store_11 : decode b_Mo_store 11 = .ok (.istore 4, 2) := by decide +kernel
theorem d_Mo_store_13 : decode b_Mo_store 13 = .ok (.aload_n 0, 1) := by decide +kernel
theorem d_Mo_store_14 : decode b_Mo_store 14 = .ok (.aload_n 0, 1) := by decide +kernel
theorem d_Mo_store_15 : decode b_Mo_store 15 = .ok (.invokevirtual 97, 3) := by decide +kernel
theorem d_Mo_store_18 : decode b_Mo_store 18 = .ok (.aload_n 0, 1) := by decide +kernel
theorem d_Mo_store_19 : decode b_Mo_store 19 = .ok (.getfield 27, 3) := by decide +kernel
theorem d_Mo_store_22 : decode b_Mo_store 22 = .ok (.iload_n 1, 1) := by decide +kernel
theorem d_Mo_store_23 : decode b_Mo_store 23 = .ok (.iaload, 1) := by decide +kernel
theorem d_Mo_store_24 : decode b_Mo_store 24 = .ok (.isub, 1) := by decide +kernel
theorem d_Mo_store_25 : decode b_Mo_store 25 = .ok (.iload 4, 2) := by decide +kernel
theorem d_Mo_store_27 : decode b_Mo_store 27 = .ok (.iadd, 1) := by decide +kernel
theorem d_Mo_store_28 : decode b_Mo_store 28 = .ok (.aload_n 0, 1) := by decide +kernel
theorem d_Mo_store_29 : decode b_Mo_store 29 = .ok (.getfield 43, 3) := by decide +kernel
theorem d_Mo_store_32 : decode b_Mo_store 32 = .ok (.if_icmp .le 7, 3) := by decide +kernel
theorem d_Mo_store_35 : decode b_Mo_store 35 = .ok (.iload_n 3, 1) := by decide +kernel
theorem d_Mo_store_36 : decode b_Mo_store 36 = .ok (.goto 4, 3) := by decide +kernel
theorem d_Mo_store_39 : decode b_Mo_store 39 = .ok (.iconst 0, 1) := by decide +kernel
theorem d_Mo_store_40 : decode b_Mo_store 40 = .ok (.invokevirtual 101, 3) := by decide +kernel
theorem d_Mo_store_43 : decode b_Mo_store 43 = .ok (.ifCond .eq 5, 3) := by decide +kernel
theorem d_Mo_store_46 : decode b_Mo_store 46 = .ok (.iconst 0, 1) := by decide +kernel
theorem d_Mo_store_47 : decode b_Mo_store 47 = .ok (.ireturn, 1) := by decide +kernel
theorem d_Mo_store_48 : decode b_Mo_store 48 = .ok (.aload_n 0, 1) := by decide +kernel
theorem d_Mo_store_49 : decode b_Mo_store 49 = .ok (.iconst 2, 1) := by decide +kernel
theorem d_Mo_store_50 : decode b_Mo_store 50 = .ok (.iload_n 1, 1) := by decide +kernel
theorem d_Mo_store_51 : decode b_Mo_store 51 = .ok (.imul, 1) := by decide +kernel
theorem d_Mo_store_52 : decode b_Mo_store 52 = .ok (.iconst 0, 1) := by decide +kernel
theorem d_Mo_store_53 : decode b_Mo_store 53 = .ok (.invokevirtual 105, 3) := by decide +kernel
theorem d_Mo_store_56 : decode b_Mo_store 56 = .ok (.aload_n 0, 1) := by decide +kernel
theorem d_Mo_store_57 : decode b_Mo_store 57 = .ok (.iconst 2, 1) := by decide +kernel
theorem d_Mo_store_58 : decode b_Mo_store 58 = .ok (.iload_n 1, 1) := by decide +kernel
theorem d_Mo_store_59 : decode b_Mo_store 59 = .ok (.imul, 1) := by decide +kernel
theorem d_Mo_store_60 : decode b_Mo_store 60 = .ok (.iconst 1, 1) := by decide +kernel
theorem d_Mo_store_61 : decode b_Mo_store 61 = .ok (.iadd, 1) := by decide +kernel
theorem d_Mo_store_62 : decode b_Mo_store 62 = .ok (.iconst 1, 1) := by decide +kernel
theorem d_Mo_store_63 : decode b_Mo_store 63 = .ok (.invokevirtual 105, 3) := by decide +kernel
theorem d_Mo_store_66 : decode b_Mo_store 66 = .ok (.aload_n 0, 1) := by decide +kernel
theorem d_Mo_store_67 : decode b_Mo_store 67 = .ok (.getfield 24, 3) := by decide +kernel
theorem d_Mo_store_70 : decode b_Mo_store 70 = .ok (.iload_n 1, 1) := by decide +kernel
theorem d_Mo_store_71 : decode b_Mo_store 71 = .ok (.aload_n 0, 1) := by decide +kernel
theorem d_Mo_store_72 : decode b_Mo_store 72 = .ok (.getfield 14, 3) := by decide +kernel
theorem d_Mo_store_75 : decode b_Mo_store 75 = .ok (.iconst 0, 1) := by decide +kernel
theorem d_Mo_store_76 : decode b_Mo_store 76 = .ok (.iaload, 1) := by decide +kernel
theorem d_Mo_store_77 : decode b_Mo_store 77 = .ok (.ifCond .ne 7, 3) := by decide +kernel
theorem d_Mo_store_80 : decode b_Mo_store 80 = .ok (.iconst 0, 1) := by decide +kernel
theorem d_Mo_store_81 : decode b_Mo_store 81 = .ok (.goto 4, 3) := by decide +kernel
theorem d_Mo_store_84 : decode b_Mo_store 84 = .ok (.iload_n 2, 1) := by decide +kernel
theorem d_Mo_store_85 : decode b_Mo_store 85 = .ok (.iastore, 1) := by decide +kernel
theorem d_Mo_store_86 : decode b_Mo_store 86 = .ok (.aload_n 0, 1) := by decide +kernel
theorem d_Mo_store_87 : decode b_Mo_store 87 = .ok (.getfield 27, 3) := by decide +kernel
theorem d_Mo_store_90 : decode b_Mo_store 90 = .ok (.iload_n 1, 1) := by decide +kernel
theorem d_Mo_store_91 : decode b_Mo_store 91 = .ok (.iload 4, 2) := by decide +kernel
theorem d_Mo_store_93 : decode b_Mo_store 93 = .ok (.iastore, 1) := by decide +kernel
theorem d_Mo_store_94 : decode b_Mo_store 94 = .ok (.iload 4, 2) := by decide +kernel
theorem d_Mo_store_96 : decode b_Mo_store 96 = .ok (.ireturn, 1) := by decide +kernel
theorem d_Mo_limbs_0 : decode b_Mo_limbs 0 = .ok (.aload_n 0, 1) := by decide +kernel
theorem d_Mo_limbs_1 : decode b_Mo_limbs 1 = .ok (.iload_n 1, 1) := by decide +kernel
theorem d_Mo_limbs_2 : decode b_Mo_limbs 2 = .ok (.invokevirtual 80, 3) := by decide +kernel
theorem d_Mo_limbs_5 : decode b_Mo_limbs 5 = .ok (.iconst 1, 1) := by decide +kernel
theorem d_Mo_limbs_6 : decode b_Mo_limbs 6 = .ok (.iadd, 1) := by decide +kernel
theorem d_Mo_limbs_7 : decode b_Mo_limbs 7 = .ok (.iconst 2, 1) := by decide +kernel
theorem d_Mo_limbs_8 : decode b_Mo_limbs 8 = .ok (.idiv, 1) := by decide +kernel
theorem d_Mo_limbs_9 : decode b_Mo_limbs 9 = .ok (.ireturn, 1) := by decide +kernel
theorem d_Mo_parts_0 : decode b_Mo_parts 0 = .ok (.aload_n 0, 1) := by decide +kernel
theorem d_Mo_parts_1 : decode b_Mo_parts 1 = .ok (.iconst 4, 1) := by decide +kernel
theorem d_Mo_parts_2 : decode b_Mo_parts 2 = .ok (.iload_n 1, 1) := by decide +kernel
theorem d_Mo_parts_3 : decode b_Mo_parts 3 = .ok (.invokevirtual 75, 3) := by decide +kernel
theorem d_Mo_parts_6 : decode b_Mo_parts 6 = .ok (.iconst 0, 1) := by decide +kernel
theorem d_Mo_parts_7 : decode b_Mo_parts 7 = .ok (.istore_n 2, 1) := by decide +kernel
theorem d_Mo_parts_8 : decode b_Mo_parts 8 = .ok (.aload_n 0, 1) := by decide +kernel
theorem d_Mo_parts_9 : decode b_Mo_parts 9 = .ok (.getfield 14, 3) := by decide +kernel
theorem d_Mo_parts_12 : decode b_Mo_parts 12 = .ok (.iconst 4, 1) := by decide +kernel
theorem d_Mo_parts_13 : decode b_Mo_parts 13 = .ok (.iaload, 1) := by decide +kernel
theorem d_Mo_parts_14 : decode b_Mo_parts 14 = .ok (.ifCond .le 89, 3) := by decide +kernel
theorem d_Mo_parts_17 : decode b_Mo_parts 17 = .ok (.iconst 0, 1) := by decide +kernel
theorem d_Mo_parts_18 : decode b_Mo_parts 18 = .ok (.istore_n 3, 1) := by decide +kernel
theorem d_Mo_parts_19 : decode b_Mo_parts 19 = .ok (.aload_n 0, 1) := by decide +kernel
theorem d_Mo_parts_20 : decode b_Mo_parts 20 = .ok (.getfield 14, 3) := by decide +kernel
theorem d_Mo_parts_23 : decode b_Mo_parts 23 = .ok (.iconst 4, 1) := by decide +kernel
theorem d_Mo_parts_24 : decode b_Mo_parts 24 = .ok (.iaload, 1) := by decide +kernel
theorem d_Mo_parts_25 : decode b_Mo_parts 25 = .ok (.iconst 1, 1) := by decide +kernel
theorem d_Mo_parts_26 : decode b_Mo_parts 26 = .ok (.isub, 1) := by decide +kernel
theorem d_Mo_parts_27 : decode b_Mo_parts 27 = .ok (.istore 4, 2) := by decide +kernel
theorem d_Mo_parts_29 : decode b_Mo_parts 29 = .ok (.iload 4, 2) := by decide +kernel
theorem d_Mo_parts_31 : decode b_Mo_parts 31 = .ok (.ifCond .lt 48, 3) := by decide +kernel
theorem d_Mo_parts_34 : decode b_Mo_parts 34 = .ok (.iload_n 3, 1) := by decide +kernel
theorem d_Mo_parts_35 : decode b_Mo_parts 35 = .ok (.sipush 10000, 3) := by decide +kernel
theorem d_Mo_parts_38 : decode b_Mo_parts 38 = .ok (.imul, 1) := by decide +kernel
theorem d_Mo_parts_39 : decode b_Mo_parts 39 = .ok (.aload_n 0, 1) := by decide +kernel
theorem d_Mo_parts_40 : decode b_Mo_parts 40 = .ok (.getfield 8, 3) := by decide +kernel
theorem d_Mo_parts_43 : decode b_Mo_parts 43 = .ok (.ldc 78, 2) := by decide +kernel
theorem d_Mo_parts_45 : decode b_Mo_parts 45 = .ok (.iload 4, 2) := by decide +kernel
theorem d_Mo_parts_47 : decode b_Mo_parts 47 = .ok (.iadd, 1) := by decide +kernel
theorem d_Mo_parts_48 : decode b_Mo_parts 48 = .ok (.iaload, 1) := by decide +kernel
theorem d_Mo_parts_49 : decode b_Mo_parts 49 = .ok (.iadd, 1) := by decide +kernel
theorem d_Mo_parts_50 : decode b_Mo_parts 50 = .ok (.istore 5, 2) := by decide +kernel
theorem d_Mo_parts_52 : decode b_Mo_parts 52 = .ok (.aload_n 0, 1) := by decide +kernel
theorem d_Mo_parts_53 : decode b_Mo_parts 53 = .ok (.getfield 8, 3) := by decide +kernel
theorem d_Mo_parts_56 : decode b_Mo_parts 56 = .ok (.ldc 78, 2) := by decide +kernel
theorem d_Mo_parts_58 : decode b_Mo_parts 58 = .ok (.iload 4, 2) := by decide +kernel
theorem d_Mo_parts_60 : decode b_Mo_parts 60 = .ok (.iadd, 1) := by decide +kernel
theorem d_Mo_parts_61 : decode b_Mo_parts 61 = .ok (.iload 5, 2) := by decide +kernel
theorem d_Mo_parts_63 : decode b_Mo_parts 63 = .ok (.ldc 79, 2) := by decide +kernel
theorem d_Mo_parts_65 : decode b_Mo_parts 65 = .ok (.idiv, 1) := by decide +kernel
theorem d_Mo_parts_66 : decode b_Mo_parts 66 = .ok (.iastore, 1) := by decide +kernel
theorem d_Mo_parts_67 : decode b_Mo_parts 67 = .ok (.iload 5, 2) := by decide +kernel
theorem d_Mo_parts_69 : decode b_Mo_parts 69 = .ok (.ldc 79, 2) := by decide +kernel
theorem d_Mo_parts_71 : decode b_Mo_parts 71 = .ok (.irem, 1) := by decide +kernel
theorem d_Mo_parts_72 : decode b_Mo_parts 72 = .ok (.istore_n 3, 1) := by decide +kernel
theorem d_Mo_parts_73 : decode b_Mo_parts 73 = .ok (.iinc 4 (-1), 3) := by decide +kernel
theorem d_Mo_parts_76 : decode b_Mo_parts 76 = .ok (.goto (-47), 3) := by decide +kernel
theorem d_Mo_parts_79 : decode b_Mo_parts 79 = .ok (.aload_n 0, 1) := by decide +kernel
theorem d_Mo_parts_80 : decode b_Mo_parts 80 = .ok (.iconst 4, 1) := by decide +kernel
theorem d_Mo_parts_81 : decode b_Mo_parts 81 = .ok (.aload_n 0, 1) := by decide +kernel
theorem d_Mo_parts_82 : decode b_Mo_parts 82 = .ok (.getfield 14, 3) := by decide +kernel
theorem d_Mo_parts_85 : decode b_Mo_parts 85 = .ok (.iconst 4, 1) := by decide +kernel
theorem d_Mo_parts_86 : decode b_Mo_parts 86 = .ok (.iaload, 1) := by decide +kernel
theorem d_Mo_parts_87 : decode b_Mo_parts 87 = .ok (.invokevirtual 55, 3) := by decide +kernel
theorem d_Mo_parts_90 : decode b_Mo_parts 90 = .ok (.aload_n 0, 1) := by decide +kernel
theorem d_Mo_parts_91 : decode b_Mo_parts 91 = .ok (.getfield 30, 3) := by decide +kernel
theorem d_Mo_parts_94 : decode b_Mo_parts 94 = .ok (.iload_n 2, 1) := by decide +kernel
theorem d_Mo_parts_95 : decode b_Mo_parts 95 = .ok (.iload_n 3, 1) := by decide +kernel
theorem d_Mo_parts_96 : decode b_Mo_parts 96 = .ok (.iastore, 1) := by decide +kernel
theorem d_Mo_parts_97 : decode b_Mo_parts 97 = .ok (.iinc 2 1, 3) := by decide +kernel
theorem d_Mo_parts_100 : decode b_Mo_parts 100 = .ok (.goto (-92), 3) := by decide +kernel
theorem d_Mo_parts_103 : decode b_Mo_parts 103 = .ok (.iload_n 2, 1) := by decide +kernel
theorem d_Mo_parts_104 : decode b_Mo_parts 104 = .ok (.ireturn, 1) := by decide +kernel
theorem d_Mo_keep_0 : decode b_Mo_keep 0 = .ok (.iconst 0, 1) := by decide +kernel
theorem d_Mo_keep_1 : decode b_Mo_keep 1 = .ok (.istore_n 3, 1) := by decide +kernel
theorem d_Mo_keep_2 : decode b_Mo_keep 2 = .ok (.iload_n 3, 1) := by decide +kernel
theorem d_Mo_keep_3 : decode b_Mo_keep 3 = .ok (.aload_n 0, 1) := by decide +kernel
theorem d_Mo_keep_4 : decode b_Mo_keep 4 = .ok (.getfield 14, 3) := by decide +kernel
theorem d_Mo_keep_7 : decode b_Mo_keep 7 = .ok (.iload_n 2, 1) := by decide +kernel
theorem d_Mo_keep_8 : decode b_Mo_keep 8 = .ok (.iaload, 1) := by decide +kernel
theorem d_Mo_keep_9 : decode b_Mo_keep 9 = .ok (.if_icmp .ge 33, 3) := by decide +kernel
theorem d_Mo_keep_12 : decode b_Mo_keep 12 = .ok (.aload_n 0, 1) := by decide +kernel
theorem d_Mo_keep_13 : decode b_Mo_keep 13 = .ok (.getfield 18, 3) := by decide +kernel
theorem d_Mo_keep_16 : decode b_Mo_keep 16 = .ok (.sipush 2600, 3) := by decide +kernel
theorem d_Mo_keep_19 : decode b_Mo_keep 19 = .ok (.iload_n 1, 1) := by decide +kernel
theorem d_Mo_keep_20 : decode b_Mo_keep 20 = .ok (.imul, 1) := by decide +kernel
theorem d_Mo_keep_21 : decode b_Mo_keep 21 = .ok (.iload_n 3, 1) := by decide +kernel
theorem d_Mo_keep_22 : decode b_Mo_keep 22 = .ok (.iadd, 1) := by decide +kernel
theorem d_Mo_keep_23 : decode b_Mo_keep 23 = .ok (.aload_n 0, 1) := by decide +kernel
theorem d_Mo_keep_24 : decode b_Mo_keep 24 = .ok (.getfield 8, 3) := by decide +kernel
theorem d_Mo_keep_27 : decode b_Mo_keep 27 = .ok (.sipush 12000, 3) := by decide +kernel
theorem d_Mo_keep_30 : decode b_Mo_keep 30 = .ok (.iload_n 2, 1) := by decide +kernel
theorem d_Mo_keep_31 : decode b_Mo_keep 31 = .ok (.imul, 1) := by decide +kernel
theorem d_Mo_keep_32 : decode b_Mo_keep 32 = .ok (.iload_n 3, 1) := by decide +kernel
theorem d_Mo_keep_33 : decode b_Mo_keep 33 = .ok (.iadd, 1) := by decide +kernel
theorem d_Mo_keep_34 : decode b_Mo_keep 34 = .ok (.iaload, 1) := by decide +kernel
theorem d_Mo_keep_35 : decode b_Mo_keep 35 = .ok (.iastore, 1) := by decide +kernel
theorem d_Mo_keep_36 : decode b_Mo_keep 36 = .ok (.iinc 3 1, 3) := by decide +kernel
theorem d_Mo_keep_39 : decode b_Mo_keep 39 = .ok (.goto (-37), 3) := by decide +kernel
theorem d_Mo_keep_42 : decode b_Mo_keep 42 = .ok (.aload_n 0, 1) := by decide +kernel
theorem d_Mo_keep_43 : decode b_Mo_keep 43 = .ok (.getfield 21, 3) := by decide +kernel
theorem d_Mo_keep_46 : decode b_Mo_keep 46 = .ok (.iload_n 1, 1) := by decide +kernel
theorem d_Mo_keep_47 : decode b_Mo_keep 47 = .ok (.aload_n 0, 1) := by decide +kernel
theorem d_Mo_keep_48 : decode b_Mo_keep 48 = .ok (.getfield 14, 3) := by decide +kernel
theorem d_Mo_keep_51 : decode b_Mo_keep 51 = .ok (.iload_n 2, 1) := by decide +kernel
theorem d_Mo_keep_52 : decode b_Mo_keep 52 = .ok (.iaload, 1) := by decide +kernel
theorem d_Mo_keep_53 : decode b_Mo_keep 53 = .ok (.iastore, 1) := by decide +kernel
theorem d_Mo_keep_54 : decode b_Mo_keep 54 = .ok (.return_, 1) := by decide +kernel
theorem d_Mo_copy_0 : decode b_Mo_copy 0 = .ok (.aload_n 0, 1) := by decide +kernel
theorem d_Mo_copy_1 : decode b_Mo_copy 1 = .ok (.iload_n 1, 1) := by decide +kernel
theorem d_Mo_copy_2 : decode b_Mo_copy 2 = .ok (.invokestatic 108, 3) := by decide +kernel
theorem d_Mo_copy_5 : decode b_Mo_copy 5 = .ok (.ifCond .eq 14, 3) := by decide +kernel
theorem d_Mo_copy_8 : decode b_Mo_copy 8 = .ok (.iload_n 2, 1) := by decide +kernel
theorem d_Mo_copy_9 : decode b_Mo_copy 9 = .ok (.invokestatic 108, 3) := by decide +kernel
theorem d_Mo_copy_12 : decode b_Mo_copy 12 = .ok (.ifCond .eq 7, 3) := by decide +kernel
theorem d_Mo_copy_15 : decode b_Mo_copy 15 = .ok (.iconst 0, 1) := by decide +kernel
theorem d_Mo_copy_16 : decode b_Mo_copy 16 = .ok (.goto 4, 3) := by decide +kernel
theorem d_Mo_copy_19 : decode b_Mo_copy 19 = .ok (.iconst 1, 1) := by decide +kernel
theorem d_Mo_copy_20 : decode b_Mo_copy 20 = .ok (.invokevirtual 101, 3) := by decide +kernel
theorem d_Mo_copy_23 : decode b_Mo_copy 23 = .ok (.ifCond .eq 5, 3) := by decide +kernel
theorem d_Mo_copy_26 : decode b_Mo_copy 26 = .ok (.iconst 0, 1) := by decide +kernel
theorem d_Mo_copy_27 : decode b_Mo_copy 27 = .ok (.ireturn, 1) := by decide +kernel
theorem d_Mo_copy_28 : decode b_Mo_copy 28 = .ok (.aload_n 0, 1) := by decide +kernel
theorem d_Mo_copy_29 : decode b_Mo_copy 29 = .ok (.iconst 0, 1) := by decide +kernel
theorem d_Mo_copy_30 : decode b_Mo_copy 30 = .ok (.iconst 2, 1) := by decide +kernel
theorem d_Mo_copy_31 : decode b_Mo_copy 31 = .ok (.iload_n 2, 1) := by decide +kernel
theorem d_Mo_copy_32 : decode b_Mo_copy 32 = .ok (.imul, 1) := by decide +kernel
theorem d_Mo_copy_33 : decode b_Mo_copy 33 = .ok (.invokevirtual 118, 3) := by decide +kernel
theorem d_Mo_copy_36 : decode b_Mo_copy 36 = .ok (.aload_n 0, 1) := by decide +kernel
theorem d_Mo_copy_37 : decode b_Mo_copy 37 = .ok (.iconst 1, 1) := by decide +kernel
theorem d_Mo_copy_38 : decode b_Mo_copy 38 = .ok (.iconst 2, 1) := by decide +kernel
theorem d_Mo_copy_39 : decode b_Mo_copy 39 = .ok (.iload_n 2, 1) := by decide +kernel
theorem d_Mo_copy_40 : decode b_Mo_copy 40 = .ok (.imul, 1) := by decide +kernel
theorem d_Mo_copy_41 : decode b_Mo_copy 41 = .ok (.iconst 1, 1) := by decide +kernel
theorem d_Mo_copy_42 : decode b_Mo_copy 42 = .ok (.iadd, 1) := by decide +kernel
theorem d_Mo_copy_43 : decode b_Mo_copy 43 = .ok (.invokevirtual 118, 3) := by decide +kernel
theorem d_Mo_copy_46 : decode b_Mo_copy 46 = .ok (.aload_n 0, 1) := by decide +kernel
theorem d_Mo_copy_47 : decode b_Mo_copy 47 = .ok (.iload_n 1, 1) := by decide +kernel
theorem d_Mo_copy_48 : decode b_Mo_copy 48 = .ok (.aload_n 0, 1) := by decide +kernel
theorem d_Mo_copy_49 : decode b_Mo_copy 49 = .ok (.getfield 24, 3) := by decide +kernel
theorem d_Mo_copy_52 : decode b_Mo_copy 52 = .ok (.iload_n 2, 1) := by decide +kernel
theorem d_Mo_copy_53 : decode b_Mo_copy 53 = .ok (.iaload, 1) := by decide +kernel
theorem d_Mo_copy_54 : decode b_Mo_copy 54 = .ok (.iconst 2, 1) := by decide +kernel
theorem d_Mo_copy_55 : decode b_Mo_copy 55 = .ok (.invokevirtual 90, 3) := by decide +kernel
theorem d_Mo_copy_58 : decode b_Mo_copy 58 = .ok (.ireturn, 1) := by decide +kernel
theorem d_Mo_load_0 : decode b_Mo_load 0 = .ok (.iconst 0, 1) := by decide +kernel
theorem d_Mo_load_1 : decode b_Mo_load 1 = .ok (.istore_n 3, 1) := by decide +kernel
theorem d_Mo_load_2 : decode b_Mo_load 2 = .ok (.iload_n 3, 1) := by decide +kernel
theorem d_Mo_load_3 : decode b_Mo_load 3 = .ok (.aload_n 0, 1) := by decide +kernel
theorem d_Mo_load_4 : decode b_Mo_load 4 = .ok (.getfield 21, 3) := by decide +kernel
theorem d_Mo_load_7 : decode b_Mo_load 7 = .ok (.iload_n 2, 1) := by decide +kernel
theorem d_Mo_load_8 : decode b_Mo_load 8 = .ok (.iaload, 1) := by decide +kernel
theorem d_Mo_load_9 : decode b_Mo_load 9 = .ok (.if_icmp .ge 33, 3) := by decide +kernel
theorem d_Mo_load_12 : decode b_Mo_load 12 = .ok (.aload_n 0, 1) := by decide +kernel
theorem d_Mo_load_13 : decode b_Mo_load 13 = .ok (.getfield 8, 3) := by decide +kernel
theorem d_Mo_load_16 : decode b_Mo_load 16 = .ok (.sipush 12000, 3) := by decide +kernel
theorem d_Mo_load_19 : decode b_Mo_load 19 = .ok (.iload_n 1, 1) := by decide +kernel
theorem d_Mo_load_20 : decode b_Mo_load 20 = .ok (.imul, 1) := by decide +kernel
theorem d_Mo_load_21 : decode b_Mo_load 21 = .ok (.iload_n 3, 1) := by decide +kernel
theorem d_Mo_load_22 : decode b_Mo_load 22 = .ok (.iadd, 1) := by decide +kernel
theorem d_Mo_load_23 : decode b_Mo_load 23 = .ok (.aload_n 0, 1) := by decide +kernel
theorem d_Mo_load_24 : decode b_Mo_load 24 = .ok (.getfield 18, 3) := by decide +kernel
theorem d_Mo_load_27 : decode b_Mo_load 27 = .ok (.sipush 2600, 3) := by decide +kernel
theorem d_Mo_load_30 : decode b_Mo_load 30 = .ok (.iload_n 2, 1) := by decide +kernel
theorem d_Mo_load_31 : decode b_Mo_load 31 = .ok (.imul, 1) := by decide +kernel
theorem d_Mo_load_32 : decode b_Mo_load 32 = .ok (.iload_n 3, 1) := by decide +kernel
theorem d_Mo_load_33 : decode b_Mo_load 33 = .ok (.iadd, 1) := by decide +kernel
theorem d_Mo_load_34 : decode b_Mo_load 34 = .ok (.iaload, 1) := by decide +kernel
theorem d_Mo_load_35 : decode b_Mo_load 35 = .ok (.iastore, 1) := by decide +kernel
theorem d_Mo_load_36 : decode b_Mo_load 36 = .ok (.iinc 3 1, 3) := by decide +kernel
theorem d_Mo_load_39 : decode b_Mo_load 39 = .ok (.goto (-37), 3) := by decide +kernel
theorem d_Mo_load_42 : decode b_Mo_load 42 = .ok (.aload_n 0, 1) := by decide +kernel
theorem d_Mo_load_43 : decode b_Mo_load 43 = .ok (.getfield 14, 3) := by decide +kernel
theorem d_Mo_load_46 : decode b_Mo_load 46 = .ok (.iload_n 1, 1) := by decide +kernel
theorem d_Mo_load_47 : decode b_Mo_load 47 = .ok (.aload_n 0, 1) := by decide +kernel
theorem d_Mo_load_48 : decode b_Mo_load 48 = .ok (.getfield 21, 3) := by decide +kernel
theorem d_Mo_load_51 : decode b_Mo_load 51 = .ok (.iload_n 2, 1) := by decide +kernel
theorem d_Mo_load_52 : decode b_Mo_load 52 = .ok (.iaload, 1) := by decide +kernel
theorem d_Mo_load_53 : decode b_Mo_load 53 = .ok (.iastore, 1) := by decide +kernel
theorem d_Mo_load_54 : decode b_Mo_load 54 = .ok (.return_, 1) := by decide +kernel
theorem d_Mo_swap_0 : decode b_Mo_swap 0 = .ok (.aload_n 0, 1) := by decide +kernel
theorem d_Mo_swap_1 : decode b_Mo_swap 1 = .ok (.iload_n 1, 1) := by decide +kernel
theorem d_Mo_swap_2 : decode b_Mo_swap 2 = .ok (.invokestatic 108, 3) := by decide +kernel
theorem d_Mo_swap_5 : decode b_Mo_swap 5 = .ok (.ifCond .eq 14, 3) := by decide +kernel
theorem d_Mo_swap_8 : decode b_Mo_swap 8 = .ok (.iload_n 2, 1) := by decide +kernel
theorem d_Mo_swap_9 : decode b_Mo_swap 9 = .ok (.invokestatic 108, 3) := by decide +kernel
theorem d_Mo_swap_12 : decode b_Mo_swap 12 = .ok (.ifCond .eq 7, 3) := by decide +kernel
theorem d_Mo_swap_15 : decode b_Mo_swap 15 = .ok (.iconst 0, 1) := by decide +kernel
theorem d_Mo_swap_16 : decode b_Mo_swap 16 = .ok (.goto 4, 3) := by decide +kernel
theorem d_Mo_swap_19 : decode b_Mo_swap 19 = .ok (.iconst 1, 1) := by decide +kernel
theorem d_Mo_swap_20 : decode b_Mo_swap 20 = .ok (.invokevirtual 101, 3) := by decide +kernel
theorem d_Mo_swap_23 : decode b_Mo_swap 23 = .ok (.ifCond .eq 5, 3) := by decide +kernel
theorem d_Mo_swap_26 : decode b_Mo_swap 26 = .ok (.iconst 0, 1) := by decide +kernel
theorem d_Mo_swap_27 : decode b_Mo_swap 27 = .ok (.ireturn, 1) := by decide +kernel
theorem d_Mo_swap_28 : decode b_Mo_swap 28 = .ok (.iconst 0, 1) := by decide +kernel
theorem d_Mo_swap_29 : decode b_Mo_swap 29 = .ok (.istore_n 3, 1) := by decide +kernel
theorem d_Mo_swap_30 : decode b_Mo_swap 30 = .ok (.iload_n 3, 1) := by decide +kernel
theorem d_Mo_swap_31 : decode b_Mo_swap 31 = .ok (.iconst 2, 1) := by decide +kernel
theorem d_Mo_swap_32 : decode b_Mo_swap 32 = .ok (.if_icmp .ge 49, 3) := by decide +kernel
theorem d_Mo_swap_35 : decode b_Mo_swap 35 = .ok (.aload_n 0, 1) := by decide +kernel
theorem d_Mo_swap_36 : decode b_Mo_swap 36 = .ok (.iconst 4, 1) := by decide +kernel
theorem d_Mo_swap_37 : decode b_Mo_swap 37 = .ok (.iconst 2, 1) := by decide +kernel
theorem d_Mo_swap_38 : decode b_Mo_swap 38 = .ok (.iload_n 1, 1) := by decide +kernel
theorem d_Mo_swap_39 : decode b_Mo_swap 39 = .ok (.imul, 1) := by decide +kernel
theorem d_Mo_swap_40 : decode b_Mo_swap 40 = .ok (.iload_n 3, 1) := by decide +kernel
theorem d_Mo_swap_41 : decode b_Mo_swap 41 = .ok (.iadd, 1) := by decide +kernel
theorem d_Mo_swap_42 : decode b_Mo_swap 42 = .ok (.invokevirtual 118, 3) := by decide +kernel
theorem d_Mo_swap_45 : decode b_Mo_swap 45 = .ok (.aload_n 0, 1) := by decide +kernel
theorem d_Mo_swap_46 : decode b_Mo_swap 46 = .ok (.iconst 5, 1) := by decide +kernel
theorem d_Mo_swap_47 : decode b_Mo_swap 47 = .ok (.iconst 2, 1) := by decide +kernel
theorem d_Mo_swap_48 : decode b_Mo_swap 48 = .ok (.iload_n 2, 1) := by decide +kernel
theorem d_Mo_swap_49 : decode b_Mo_swap 49 = .ok (.imul, 1) := by decide +kernel
theorem d_Mo_swap_50 : decode b_Mo_swap 50 = .ok (.iload_n 3, 1) := by decide +kernel
theorem d_Mo_swap_51 : decode b_Mo_swap 51 = .ok (.iadd, 1) := by decide +kernel
theorem d_Mo_swap_52 : decode b_Mo_swap 52 = .ok (.invokevirtual 118, 3) := by decide +kernel
theorem d_Mo_swap_55 : decode b_Mo_swap 55 = .ok (.aload_n 0, 1) := by decide +kernel
theorem d_Mo_swap_56 : decode b_Mo_swap 56 = .ok (.iconst 2, 1) := by decide +kernel
theorem d_Mo_swap_57 : decode b_Mo_swap 57 = .ok (.iload_n 1, 1) := by decide +kernel
theorem d_Mo_swap_58 : decode b_Mo_swap 58 = .ok (.imul, 1) := by decide +kernel
theorem d_Mo_swap_59 : decode b_Mo_swap 59 = .ok (.iload_n 3, 1) := by decide +kernel
theorem d_Mo_swap_60 : decode b_Mo_swap 60 = .ok (.iadd, 1) := by decide +kernel
theorem d_Mo_swap_61 : decode b_Mo_swap 61 = .ok (.iconst 5, 1) := by decide +kernel
theorem d_Mo_swap_62 : decode b_Mo_swap 62 = .ok (.invokevirtual 105, 3) := by decide +kernel
theorem d_Mo_swap_65 : decode b_Mo_swap 65 = .ok (.aload_n 0, 1) := by decide +kernel
theorem d_Mo_swap_66 : decode b_Mo_swap 66 = .ok (.iconst 2, 1) := by decide +kernel
theorem d_Mo_swap_67 : decode b_Mo_swap 67 = .ok (.iload_n 2, 1) := by decide +kernel
theorem d_Mo_swap_68 : decode b_Mo_swap 68 = .ok (.imul, 1) := by decide +kernel
theorem d_Mo_swap_69 : decode b_Mo_swap 69 = .ok (.iload_n 3, 1) := by decide +kernel
theorem d_Mo_swap_70 : decode b_Mo_swap 70 = .ok (.iadd, 1) := by decide +kernel
theorem d_Mo_swap_71 : decode b_Mo_swap 71 = .ok (.iconst 4, 1) := by decide +kernel
theorem d_Mo_swap_72 : decode b_Mo_swap 72 = .ok (.invokevirtual 105, 3) := by decide +kernel
theorem d_Mo_swap_75 : decode b_Mo_swap 75 = .ok (.iinc 3 1, 3) := by decide +kernel
theorem d_Mo_swap_78 : decode b_Mo_swap 78 = .ok (.goto (-48), 3) := by decide +kernel
theorem d_Mo_swap_81 : decode b_Mo_swap 81 = .ok (.aload_n 0, 1) := by decide +kernel
theorem d_Mo_swap_82 : decode b_Mo_swap 82 = .ok (.getfield 24, 3) := by decide +kernel
theorem d_Mo_swap_85 : decode b_Mo_swap 85 = .ok (.iload_n 1, 1) := by decide +kernel
theorem d_Mo_swap_86 : decode b_Mo_swap 86 = .ok (.iaload, 1) := by decide +kernel
theorem d_Mo_swap_87 : decode b_Mo_swap 87 = .ok (.istore_n 3, 1) := by decide +kernel
theorem d_Mo_swap_88 : decode b_Mo_swap 88 = .ok (.aload_n 0, 1) := by decide +kernel
theorem d_Mo_swap_89 : decode b_Mo_swap 89 = .ok (.getfield 24, 3) := by decide +kernel
theorem d_Mo_swap_92 : decode b_Mo_swap 92 = .ok (.iload_n 1, 1) := by decide +kernel
theorem d_Mo_swap_93 : decode b_Mo_swap 93 = .ok (.aload_n 0, 1) := by decide +kernel
theorem d_Mo_swap_94 : decode b_Mo_swap 94 = .ok (.getfield 24, 3) := by decide +kernel
theorem d_Mo_swap_97 : decode b_Mo_swap 97 = .ok (.iload_n 2, 1) := by decide +kernel
theorem d_Mo_swap_98 : decode b_Mo_swap 98 = .ok (.iaload, 1) := by decide +kernel
theorem d_Mo_swap_99 : decode b_Mo_swap 99 = .ok (.iastore, 1) := by decide +kernel
theorem d_Mo_swap_100 : decode b_Mo_swap 100 = .ok (.aload_n 0, 1) := by decide +kernel
theorem d_Mo_swap_101 : decode b_Mo_swap 101 = .ok (.getfield 24, 3) := by decide +kernel
theorem d_Mo_swap_104 : decode b_Mo_swap 104 = .ok (.iload_n 2, 1) := by decide +kernel
theorem d_Mo_swap_105 : decode b_Mo_swap 105 = .ok (.iload_n 3, 1) := by decide +kernel
theorem d_Mo_swap_106 : decode b_Mo_swap 106 = .ok (.iastore, 1) := by decide +kernel
theorem d_Mo_swap_107 : decode b_Mo_swap 107 = .ok (.aload_n 0, 1) := by decide +kernel
theorem d_Mo_swap_108 : decode b_Mo_swap 108 = .ok (.getfield 27, 3) := by decide +kernel
theorem d_Mo_swap_111 : decode b_Mo_swap 111 = .ok (.iload_n 1, 1) := by decide +kernel
theorem d_Mo_swap_112 : decode b_Mo_swap 112 = .ok (.iaload, 1) := by decide +kernel
theorem d_Mo_swap_113 : decode b_Mo_swap 113 = .ok (.istore 4, 2) := by decide +kernel
theorem d_Mo_swap_115 : decode b_Mo_swap 115 = .ok (.aload_n 0, 1) := by decide +kernel
theorem d_Mo_swap_116 : decode b_Mo_swap 116 = .ok (.getfield 27, 3) := by decide +kernel
theorem d_Mo_swap_119 : decode b_Mo_swap 119 = .ok (.iload_n 1, 1) := by decide +kernel
theorem d_Mo_swap_120 : decode b_Mo_swap 120 = .ok (.aload_n 0, 1) := by decide +kernel
theorem d_Mo_swap_121 : decode b_Mo_swap 121 = .ok (.getfield 27, 3) := by decide +kernel
theorem d_Mo_swap_124 : decode b_Mo_swap 124 = .ok (.iload_n 2, 1) := by decide +kernel
theorem d_Mo_swap_125 : decode b_Mo_swap 125 = .ok (.iaload, 1) := by decide +kernel
theorem d_Mo_swap_126 : decode b_Mo_swap 126 = .ok (.iastore, 1) := by decide +kernel
theorem d_Mo_swap_127 : decode b_Mo_swap 127 = .ok (.aload_n 0, 1) := by decide +kernel
theorem d_Mo_swap_128 : decode b_Mo_swap 128 = .ok (.getfield 27, 3) := by decide +kernel
theorem d_Mo_swap_131 : decode b_Mo_swap 131 = .ok (.iload_n 2, 1) := by decide +kernel
theorem d_Mo_swap_132 : decode b_Mo_swap 132 = .ok (.iload 4, 2) := by decide +kernel
theorem d_Mo_swap_134 : decode b_Mo_swap 134 = .ok (.iastore, 1) := by decide +kernel
theorem d_Mo_swap_135 : decode b_Mo_swap 135 = .ok (.aload_n 0, 1) := by decide +kernel
theorem d_Mo_swap_136 : decode b_Mo_swap 136 = .ok (.getfield 27, 3) := by decide +kernel
theorem d_Mo_swap_139 : decode b_Mo_swap 139 = .ok (.iload_n 1, 1) := by decide +kernel
theorem d_Mo_swap_140 : decode b_Mo_swap 140 = .ok (.iaload, 1) := by decide +kernel
theorem d_Mo_swap_141 : decode b_Mo_swap 141 = .ok (.ireturn, 1) := by decide +kernel
theorem d_Mo_add_0 : decode b_Mo_add 0 = .ok (.aload_n 0, 1) := by decide +kernel
theorem d_Mo_add_1 : decode b_Mo_add 1 = .ok (.iload_n 1, 1) := by decide +kernel
theorem d_Mo_add_2 : decode b_Mo_add 2 = .ok (.iload_n 2, 1) := by decide +kernel
theorem d_Mo_add_3 : decode b_Mo_add 3 = .ok (.iload_n 3, 1) := by decide +kernel
theorem d_Mo_add_4 : decode b_Mo_add 4 = .ok (.iconst 0, 1) := by decide +kernel
theorem d_Mo_add_5 : decode b_Mo_add 5 = .ok (.invokevirtual 136, 3) := by decide +kernel
theorem d_Mo_add_8 : decode b_Mo_add 8 = .ok (.ireturn, 1) := by decide +kernel
theorem d_Mo_sums_0 : decode b_Mo_sums 0 = .ok (.aload_n 0, 1) := by decide +kernel
theorem d_Mo_sums_1 : decode b_Mo_sums 1 = .ok (.iload_n 1, 1) := by decide +kernel
theorem d_Mo_sums_2 : decode b_Mo_sums 2 = .ok (.invokestatic 108, 3) := by decide +kernel
theorem d_Mo_sums_5 : decode b_Mo_sums 5 = .ok (.ifCond .eq 21, 3) := by decide +kernel
theorem d_Mo_sums_8 : decode b_Mo_sums 8 = .ok (.iload_n 2, 1) := by decide +kernel
theorem d_Mo_sums_9 : decode b_Mo_sums 9 = .ok (.invokestatic 108, 3) := by decide +kernel
theorem d_Mo_sums_12 : decode b_Mo_sums 12 = .ok (.ifCond .eq 14, 3) := by decide +kernel
theorem d_Mo_sums_15 : decode b_Mo_sums 15 = .ok (.iload_n 3, 1) := by decide +kernel
theorem d_Mo_sums_16 : decode b_Mo_sums 16 = .ok (.invokestatic 108, 3) := by decide +kernel
theorem d_Mo_sums_19 : decode b_Mo_sums 19 = .ok (.ifCond .eq 7, 3) := by decide +kernel
theorem d_Mo_sums_22 : decode b_Mo_sums 22 = .ok (.iconst 0, 1) := by decide +kernel
theorem d_Mo_sums_23 : decode b_Mo_sums 23 = .ok (.goto 4, 3) := by decide +kernel
theorem d_Mo_sums_26 : decode b_Mo_sums 26 = .ok (.iconst 1, 1) := by decide +kernel
theorem d_Mo_sums_27 : decode b_Mo_sums 27 = .ok (.invokevirtual 101, 3) := by decide +kernel
theorem d_Mo_sums_30 : decode b_Mo_sums 30 = .ok (.ifCond .eq 5, 3) := by decide +kernel
theorem d_Mo_sums_33 : decode b_Mo_sums 33 = .ok (.iconst 0, 1) := by decide +kernel
theorem d_Mo_sums_34 : decode b_Mo_sums 34 = .ok (.ireturn, 1) := by decide +kernel
theorem d_Mo_sums_35 : decode b_Mo_sums 35 = .ok (.aload_n 0, 1) := by decide +kernel
theorem d_Mo_sums_36 : decode b_Mo_sums 36 = .ok (.iconst 0, 1) := by decide +kernel
theorem d_Mo_sums_37 : decode b_Mo_sums 37 = .ok (.iconst 2, 1) := by decide +kernel
theorem d_Mo_sums_38 : decode b_Mo_sums 38 = .ok (.iload_n 2, 1) := by decide +kernel
theorem d_Mo_sums_39 : decode b_Mo_sums 39 = .ok (.imul, 1) := by decide +kernel
theorem d_Mo_sums_40 : decode b_Mo_sums 40 = .ok (.invokevirtual 118, 3) := by decide +kernel
theorem d_Mo_sums_43 : decode b_Mo_sums 43 = .ok (.aload_n 0, 1) := by decide +kernel
theorem d_Mo_sums_44 : decode b_Mo_sums 44 = .ok (.iconst 1, 1) := by decide +kernel
theorem d_Mo_sums_45 : decode b_Mo_sums 45 = .ok (.iconst 2, 1) := by decide +kernel
theorem d_Mo_sums_46 : decode b_Mo_sums 46 = .ok (.iload_n 2, 1) := by decide +kernel
theorem d_Mo_sums_47 : decode b_Mo_sums 47 = .ok (.imul, 1) := by decide +kernel
theorem d_Mo_sums_48 : decode b_Mo_sums 48 = .ok (.iconst 1, 1) := by decide +kernel
theorem d_Mo_sums_49 : decode b_Mo_sums 49 = .ok (.iadd, 1) := by decide +kernel
theorem d_Mo_sums_50 : decode b_Mo_sums 50 = .ok (.invokevirtual 118, 3) := by decide +kernel
theorem d_Mo_sums_53 : decode b_Mo_sums 53 = .ok (.aload_n 0, 1) := by decide +kernel
theorem d_Mo_sums_54 : decode b_Mo_sums 54 = .ok (.iconst 2, 1) := by decide +kernel
theorem d_Mo_sums_55 : decode b_Mo_sums 55 = .ok (.iconst 2, 1) := by decide +kernel
theorem d_Mo_sums_56 : decode b_Mo_sums 56 = .ok (.iload_n 3, 1) := by decide +kernel
theorem d_Mo_sums_57 : decode b_Mo_sums 57 = .ok (.imul, 1) := by decide +kernel
theorem d_Mo_sums_58 : decode b_Mo_sums 58 = .ok (.invokevirtual 118, 3) := by decide +kernel
theorem d_Mo_sums_61 : decode b_Mo_sums 61 = .ok (.aload_n 0, 1) := by decide +kernel
theorem d_Mo_sums_62 : decode b_Mo_sums 62 = .ok (.iconst 3, 1) := by decide +kernel
theorem d_Mo_sums_63 : decode b_Mo_sums 63 = .ok (.iconst 2, 1) := by decide +kernel
theorem d_Mo_sums_64 : decode b_Mo_sums 64 = .ok (.iload_n 3, 1) := by decide +kernel
theorem d_Mo_sums_65 : decode b_Mo_sums 65 = .ok (.imul, 1) := by decide +kernel
theorem d_Mo_sums_66 : decode b_Mo_sums 66 = .ok (.iconst 1, 1) := by decide +kernel
theorem d_Mo_sums_67 : decode b_Mo_sums 67 = .ok (.iadd, 1) := by decide +kernel
theorem d_Mo_sums_68 : decode b_Mo_sums 68 = .ok (.invokevirtual 118, 3) := by decide +kernel
theorem d_Mo_sums_71 : decode b_Mo_sums 71 = .ok (.aload_n 0, 1) := by decide +kernel
theorem d_Mo_sums_72 : decode b_Mo_sums 72 = .ok (.aload_n 0, 1) := by decide +kernel
theorem d_Mo_sums_73 : decode b_Mo_sums 73 = .ok (.getfield 24, 3) := by decide +kernel
theorem d_Mo_sums_76 : decode b_Mo_sums 76 = .ok (.iload_n 2, 1) := by decide +kernel
theorem d_Mo_sums_77 : decode b_Mo_sums 77 = .ok (.iaload, 1) := by decide +kernel
theorem d_Mo_sums_78 : decode b_Mo_sums 78 = .ok (.iload 4, 2) := by decide +kernel
theorem d_Mo_sums_80 : decode b_Mo_sums 80 = .ok (.ifCond .eq 13, 3) := by decide +kernel
theorem d_Mo_sums_83 : decode b_Mo_sums 83 = .ok (.aload_n 0, 1) := by decide +kernel
theorem d_Mo_sums_84 : decode b_Mo_sums 84 = .ok (.getfield 24, 3) := by decide +kernel
theorem d_Mo_sums_87 : decode b_Mo_sums 87 = .ok (.iload_n 3, 1) := by decide +kernel
theorem d_Mo_sums_88 : decode b_Mo_sums 88 = .ok (.iaload, 1) := by decide +kernel
theorem d_Mo_sums_89 : decode b_Mo_sums 89 = .ok (.ineg, 1) := by decide +kernel
theorem d_Mo_sums_90 : decode b_Mo_sums 90 = .ok (.goto 9, 3) := by decide +kernel
theorem d_Mo_sums_93 : decode b_Mo_sums 93 = .ok (.aload_n 0, 1) := by decide +kernel
theorem d_Mo_sums_94 : decode b_Mo_sums 94 = .ok (.getfield 24, 3) := by decide +kernel
theorem d_Mo_sums_97 : decode b_Mo_sums 97 = .ok (.iload_n 3, 1) := by decide +kernel
theorem d_Mo_sums_98 : decode b_Mo_sums 98 = .ok (.iaload, 1) := by decide +kernel
theorem d_Mo_sums_99 : decode b_Mo_sums 99 = .ok (.invokevirtual 133, 3) := by decide +kernel
theorem d_Mo_sums_102 : decode b_Mo_sums 102 = .ok (.istore 5, 2) := by decide +kernel
theorem d_Mo_sums_104 : decode b_Mo_sums 104 = .ok (.aload_n 0, 1) := by decide +kernel
theorem d_Mo_sums_105 : decode b_Mo_sums 105 = .ok (.iload_n 1, 1) := by decide +kernel
theorem d_Mo_sums_106 : decode b_Mo_sums 106 = .ok (.iload 5, 2) := by decide +kernel
theorem d_Mo_sums_108 : decode b_Mo_sums 108 = .ok (.iconst 2, 1) := by decide +kernel
theorem d_Mo_sums_109 : decode b_Mo_sums 109 = .ok (.invokevirtual 115, 3) := by decide +kernel
theorem d_Mo_sums_112 : decode b_Mo_sums 112 = .ok (.ireturn, 1) := by decide +kernel
theorem d_Mo_sum_0 : decode b_Mo_sum 0 = .ok (.aload_n 0, 1) := by decide +kernel
theorem d_Mo_sum_1 : decode b_Mo_sum 1 = .ok (.iconst 4, 1) := by decide +kernel
theorem d_Mo_sum_2 : decode b_Mo_sum 2 = .ok (.iconst 0, 1) := by decide +kernel
theorem d_Mo_sum_3 : decode b_Mo_sum 3 = .ok (.iconst 3, 1) := by decide +kernel
theorem d_Mo_sum_4 : decode b_Mo_sum 4 = .ok (.invokevirtual 121, 3) := by decide +kernel
theorem d_Mo_sum_7 : decode b_Mo_sum 7 = .ok (.aload_n 0, 1) := by decide +kernel
theorem d_Mo_sum_8 : decode b_Mo_sum 8 = .ok (.iconst 5, 1) := by decide +kernel
theorem d_Mo_sum_9 : decode b_Mo_sum 9 = .ok (.iconst 2, 1) := by decide +kernel
theorem d_Mo_sum_10 : decode b_Mo_sum 10 = .ok (.iconst 1, 1) := by decide +kernel
theorem d_Mo_sum_11 : decode b_Mo_sum 11 = .ok (.invokevirtual 121, 3) := by decide +kernel
theorem d_Mo_sum_14 : decode b_Mo_sum 14 = .ok (.aload_n 0, 1) := by decide +kernel
theorem d_Mo_sum_15 : decode b_Mo_sum 15 = .ok (.bipush 6, 2) := by decide +kernel
theorem d_Mo_sum_17 : decode b_Mo_sum 17 = .ok (.iconst 1, 1) := by decide +kernel
theorem d_Mo_sum_18 : decode b_Mo_sum 18 = .ok (.iconst 3, 1) := by decide +kernel
theorem d_Mo_sum_19 : decode b_Mo_sum 19 = .ok (.invokevirtual 121, 3) := by decide +kernel
theorem d_Mo_sum_22 : decode b_Mo_sum 22 = .ok (.aload_n 0, 1) := by decide +kernel
theorem d_Mo_sum_23 : decode b_Mo_sum 23 = .ok (.iconst 1, 1) := by decide +kernel
theorem d_Mo_sum_24 : decode b_Mo_sum 24 = .ok (.bipush 6, 2) := by decide +kernel
theorem d_Mo_sum_26 : decode b_Mo_sum 26 = .ok (.invokevirtual 75, 3) := by decide +kernel
theorem d_Mo_sum_29 : decode b_Mo_sum 29 = .ok (.iload_n 1, 1) := by decide +kernel
theorem d_Mo_sum_30 : decode b_Mo_sum 30 = .ok (.ifCond .eq 12, 3) := by decide +kernel
theorem d_Mo_sum_33 : decode b_Mo_sum 33 = .ok (.iload_n 2, 1) := by decide +kernel
theorem d_Mo_sum_34 : decode b_Mo_sum 34 = .ok (.ifCond .eq 8, 3) := by decide +kernel
theorem d_Mo_sum_37 : decode b_Mo_sum 37 = .ok (.iload_n 1, 1) := by decide +kernel
theorem d_Mo_sum_38 : decode b_Mo_sum 38 = .ok (.iload_n 2, 1) := by decide +kernel
theorem d_Mo_sum_39 : decode b_Mo_sum 39 = .ok (.if_icmp .ne 25, 3) := by decide +kernel
theorem d_Mo_sum_42 : decode b_Mo_sum 42 = .ok (.aload_n 0, 1) := by decide +kernel
theorem d_Mo_sum_43 : decode b_Mo_sum 43 = .ok (.iconst 4, 1) := by decide +kernel
theorem d_Mo_sum_44 : decode b_Mo_sum 44 = .ok (.iconst 5, 1) := by decide +kernel
theorem d_Mo_sum_45 : decode b_Mo_sum 45 = .ok (.invokevirtual 124, 3) := by decide +kernel
theorem d_Mo_sum_48 : decode b_Mo_sum 48 = .ok (.aload_n 0, 1) := by decide +kernel
theorem d_Mo_sum_49 : decode b_Mo_sum 49 = .ok (.iconst 0, 1) := by decide +kernel
theorem d_Mo_sum_50 : decode b_Mo_sum 50 = .ok (.iconst 4, 1) := by decide +kernel
theorem d_Mo_sum_51 : decode b_Mo_sum 51 = .ok (.invokevirtual 75, 3) := by decide +kernel
theorem d_Mo_sum_54 : decode b_Mo_sum 54 = .ok (.iload_n 1, 1) := by decide +kernel
theorem d_Mo_sum_55 : decode b_Mo_sum 55 = .ok (.ifCond .ne 7, 3) := by decide +kernel
theorem d_Mo_sum_58 : decode b_Mo_sum 58 = .ok (.iload_n 2, 1) := by decide +kernel
theorem d_Mo_sum_59 : decode b_Mo_sum 59 = .ok (.goto 4, 3) := by decide +kernel
theorem d_Mo_sum_62 : decode b_Mo_sum 62 = .ok (.iload_n 1, 1) := by decide +kernel
theorem d_Mo_sum_63 : decode b_Mo_sum 63 = .ok (.ireturn, 1) := by decide +kernel
theorem d_Mo_sum_64 : decode b_Mo_sum 64 = .ok (.aload_n 0, 1) := by decide +kernel
theorem d_Mo_sum_65 : decode b_Mo_sum 65 = .ok (.iconst 4, 1) := by decide +kernel
theorem d_Mo_sum_66 : decode b_Mo_sum 66 = .ok (.iconst 5, 1) := by decide +kernel
theorem d_Mo_sum_67 : decode b_Mo_sum 67 = .ok (.invokevirtual 127, 3) := by decide +kernel
theorem d_Mo_sum_70 : decode b_Mo_sum 70 = .ok (.istore_n 3, 1) := by decide +kernel
theorem d_Mo_sum_71 : decode b_Mo_sum 71 = .ok (.iload_n 3, 1) := by decide +kernel
theorem d_Mo_sum_72 : decode b_Mo_sum 72 = .ok (.ifCond .ge 17, 3) := by decide +kernel
theorem d_Mo_sum_75 : decode b_Mo_sum 75 = .ok (.aload_n 0, 1) := by decide +kernel
theorem d_Mo_sum_76 : decode b_Mo_sum 76 = .ok (.iconst 5, 1) := by decide +kernel
theorem d_Mo_sum_77 : decode b_Mo_sum 77 = .ok (.iconst 4, 1) := by decide +kernel
theorem d_Mo_sum_78 : decode b_Mo_sum 78 = .ok (.invokevirtual 130, 3) := by decide +kernel
theorem d_Mo_sum_81 : decode b_Mo_sum 81 = .ok (.aload_n 0, 1) := by decide +kernel
theorem d_Mo_sum_82 : decode b_Mo_sum 82 = .ok (.iconst 0, 1) := by decide +kernel
theorem d_Mo_sum_83 : decode b_Mo_sum 83 = .ok (.iconst 5, 1) := by decide +kernel
theorem d_Mo_sum_84 : decode b_Mo_sum 84 = .ok (.invokevirtual 75, 3) := by decide +kernel
theorem d_Mo_sum_87 : decode b_Mo_sum 87 = .ok (.iload_n 2, 1) := by decide +kernel
theorem d_Mo_sum_88 : decode b_Mo_sum 88 = .ok (.ireturn, 1) := by decide +kernel
theorem d_Mo_sum_89 : decode b_Mo_sum 89 = .ok (.aload_n 0, 1) := by decide +kernel
theorem d_Mo_sum_90 : decode b_Mo_sum 90 = .ok (.iconst 4, 1) := by decide +kernel
theorem d_Mo_sum_91 : decode b_Mo_sum 91 = .ok (.iconst 5, 1) := by decide +kernel
theorem d_Mo_sum_92 : decode b_Mo_sum 92 = .ok (.invokevirtual 130, 3) := by decide +kernel
theorem d_Mo_sum_95 : decode b_Mo_sum 95 = .ok (.aload_n 0, 1) := by decide +kernel
theorem d_Mo_sum_96 : decode b_Mo_sum 96 = .ok (.iconst 0, 1) := by decide +kernel
theorem d_Mo_sum_97 : decode b_Mo_sum 97 = .ok (.iconst 4, 1) := by decide +kernel
theorem d_Mo_sum_98 : decode b_Mo_sum 98 = .ok (.invokevirtual 75, 3) := by decide +kernel
theorem d_Mo_sum_101 : decode b_Mo_sum 101 = .ok (.iload_n 3, 1) := by decide +kernel
theorem d_Mo_sum_102 : decode b_Mo_sum 102 = .ok (.ifCond .ne 7, 3) := by decide +kernel
theorem d_Mo_sum_105 : decode b_Mo_sum 105 = .ok (.iconst 0, 1) := by decide +kernel
theorem d_Mo_sum_106 : decode b_Mo_sum 106 = .ok (.goto 4, 3) := by decide +kernel
theorem d_Mo_sum_109 : decode b_Mo_sum 109 = .ok (.iload_n 1, 1) := by decide +kernel
theorem d_Mo_sum_110 : decode b_Mo_sum 110 = .ok (.ireturn, 1) := by decide +kernel
theorem d_Mo_product_0 : decode b_Mo_product 0 = .ok (.aload_n 0, 1) := by decide +kernel
theorem d_Mo_product_1 : decode b_Mo_product 1 = .ok (.getfield 14, 3) := by decide +kernel
theorem d_Mo_product_4 : decode b_Mo_product 4 = .ok (.iload_n 2, 1) := by decide +kernel
theorem d_Mo_product_5 : decode b_Mo_product 5 = .ok (.iaload, 1) := by decide +kernel
theorem d_Mo_product_6 : decode b_Mo_product 6 = .ok (.aload_n 0, 1) := by decide +kernel
theorem d_Mo_product_7 : decode b_Mo_product 7 = .ok (.getfield 14, 3) := by decide +kernel
theorem d_Mo_product_10 : decode b_Mo_product 10 = .ok (.iload_n 3, 1) := by decide +kernel
theorem d_Mo_product_11 : decode b_Mo_product 11 = .ok (.iaload, 1) := by decide +kernel
theorem d_Mo_product_12 : decode b_Mo_product 12 = .ok (.iadd, 1) := by decide +kernel
theorem d_Mo_product_13 : decode b_Mo_product 13 = .ok (.istore 4, 2) := by decide +kernel
theorem d_Mo_product_15 : decode b_Mo_product 15 = .ok (.iconst 0, 1) := by decide +kernel
theorem d_Mo_product_16 : decode b_Mo_product 16 = .ok (.istore 5, 2) := by decide +kernel
theorem d_Mo_product_18 : decode b_Mo_product 18 = .ok (.iload 5, 2) := by decide +kernel
theorem d_Mo_product_20 : decode b_Mo_product 20 = .ok (.iload 4, 2) := by decide +kernel
theorem d_Mo_product_22 : decode b_Mo_product 22 = .ok (.if_icmp .ge 23, 3) := by decide +kernel
theorem d_Mo_product_25 : decode b_Mo_product 25 = .ok (.aload_n 0, 1) := by decide +kernel
theorem d_Mo_product_26 : decode b_Mo_product 26 = .ok (.getfield 8, 3) := by decide +kernel
theorem d_Mo_product_29 : decode b_Mo_product 29 = .ok (.sipush 12000, 3) := by decide +kernel
theorem d_Mo_product_32 : decode b_Mo_product 32 = .ok (.iload_n 1, 1) := by decide +kernel
theorem d_Mo_product_33 : decode b_Mo_product 33 = .ok (.imul, 1) := by decide +kernel
theorem d_Mo_product_34 : decode b_Mo_product 34 = .ok (.iload 5, 2) := by decide +kernel
theorem d_Mo_product_36 : decode b_Mo_product 36 = .ok (.iadd, 1) := by decide +kernel
theorem d_Mo_product_37 : decode b_Mo_product 37 = .ok (.iconst 0, 1) := by decide +kernel
theorem d_Mo_product_38 : decode b_Mo_product 38 = .ok (.iastore, 1) := by decide +kernel
theorem d_Mo_product_39 : decode b_Mo_product 39 = .ok (.iinc 5 1, 3) := by decide +kernel
theorem d_Mo_product_42 : decode b_Mo_product 42 = .ok (.goto (-24), 3) := by decide +kernel
theorem d_Mo_product_45 : decode b_Mo_product 45 = .ok (.iconst 0, 1) := by decide +kernel
theorem d_Mo_product_46 : decode b_Mo_product 46 = .ok (.istore 5, 2) := by decide +kernel
theorem d_Mo_product_48 : decode b_Mo_product 48 = .ok (.iload 5, 2) := by decide +kernel
theorem d_Mo_product_50 : decode b_Mo_product 50 = .ok (.aload_n 0, 1) := by decide +kernel
theorem d_Mo_product_51 : decode b_Mo_product 51 = .ok (.getfield 14, 3) := by decide +kernel
theorem d_Mo_product_54 : decode b_Mo_product 54 = .ok (.iload_n 2, 1) := by decide +kernel
theorem d_Mo_product_55 : decode b_Mo_product 55 = .ok (.iaload, 1) := by decide +kernel
theorem d_Mo_product_56 : decode b_Mo_product 56 = .ok (.if_icmp .ge 182, 3) := by decide +kernel
theorem d_Mo_product_59 : decode b_Mo_product 59 = .ok (.aload_n 0, 1) := by decide +kernel
theorem d_Mo_product_60 : decode b_Mo_product 60 = .ok (.getfield 8, 3) := by decide +kernel
theorem d_Mo_product_63 : decode b_Mo_product 63 = .ok (.sipush 12000, 3) := by decide +kernel
theorem d_Mo_product_66 : decode b_Mo_product 66 = .ok (.iload_n 2, 1) := by decide +kernel
theorem d_Mo_product_67 : decode b_Mo_product 67 = .ok (.imul, 1) := by decide +kernel
theorem d_Mo_product_68 : decode b_Mo_product 68 = .ok (.iload 5, 2) := by decide +kernel
theorem d_Mo_product_70 : decode b_Mo_product 70 = .ok (.iadd, 1) := by decide +kernel
theorem d_Mo_product_71 : decode b_Mo_product 71 = .ok (.iaload, 1) := by decide +kernel
theorem d_Mo_product_72 : decode b_Mo_product 72 = .ok (.istore 6, 2) := by decide +kernel
theorem d_Mo_product_74 : decode b_Mo_product 74 = .ok (.iconst 0, 1) := by decide +kernel
theorem d_Mo_product_75 : decode b_Mo_product 75 = .ok (.istore 7, 2) := by decide +kernel
theorem d_Mo_product_77 : decode b_Mo_product 77 = .ok (.iconst 0, 1) := by decide +kernel
theorem d_Mo_product_78 : decode b_Mo_product 78 = .ok (.istore 8, 2) := by decide +kernel
theorem d_Mo_product_80 : decode b_Mo_product 80 = .ok (.iload 8, 2) := by decide +kernel
theorem d_Mo_product_82 : decode b_Mo_product 82 = .ok (.aload_n 0, 1) := by decide +kernel
theorem d_Mo_product_83 : decode b_Mo_product 83 = .ok (.getfield 14, 3) := by decide +kernel
theorem d_Mo_product_86 : decode b_Mo_product 86 = .ok (.iload_n 3, 1) := by decide +kernel
theorem d_Mo_product_87 : decode b_Mo_product 87 = .ok (.iaload, 1) := by decide +kernel
theorem d_Mo_product_88 : decode b_Mo_product 88 = .ok (.if_icmp .ge 77, 3) := by decide +kernel
theorem d_Mo_product_91 : decode b_Mo_product 91 = .ok (.aload_n 0, 1) := by decide +kernel
theorem d_Mo_product_92 : decode b_Mo_product 92 = .ok (.getfield 8, 3) := by decide +kernel
theorem d_Mo_product_95 : decode b_Mo_product 95 = .ok (.sipush 12000, 3) := by decide +kernel
theorem d_Mo_product_98 : decode b_Mo_product 98 = .ok (.iload_n 1, 1) := by decide +kernel
theorem d_Mo_product_99 : decode b_Mo_product 99 = .ok (.imul, 1) := by decide +kernel
theorem d_Mo_product_100 : decode b_Mo_product 100 = .ok (.iload 5, 2) := by decide +kernel
theorem d_Mo_product_102 : decode b_Mo_product 102 = .ok (.iadd, 1) := by decide +kernel
theorem d_Mo_product_103 : decode b_Mo_product 103 = .ok (.iload 8, 2) := by decide +kernel
theorem d_Mo_product_105 : decode b_Mo_product 105 = .ok (.iadd, 1) := by decide +kernel
theorem d_Mo_product_106 : decode b_Mo_product 106 = .ok (.iaload, 1) := by decide +kernel
theorem d_Mo_product_107 : decode b_Mo_product 107 = .ok (.iload 6, 2) := by decide +kernel
theorem d_Mo_product_109 : decode b_Mo_product 109 = .ok (.aload_n 0, 1) := by decide +kernel
theorem d_Mo_product_110 : decode b_Mo_product 110 = .ok (.getfield 8, 3) := by decide +kernel
theorem d_Mo_product_113 : decode b_Mo_product 113 = .ok (.sipush 12000, 3) := by decide +kernel
theorem d_Mo_product_116 : decode b_Mo_product 116 = .ok (.iload_n 3, 1) := by decide +kernel
theorem d_Mo_product_117 : decode b_Mo_product 117 = .ok (.imul, 1) := by decide +kernel
theorem d_Mo_product_118 : decode b_Mo_product 118 = .ok (.iload 8, 2) := by decide +kernel
theorem d_Mo_product_120 : decode b_Mo_product 120 = .ok (.iadd, 1) := by decide +kernel
theorem d_Mo_product_121 : decode b_Mo_product 121 = .ok (.iaload, 1) := by decide +kernel
theorem d_Mo_product_122 : decode b_Mo_product 122 = .ok (.imul, 1) := by decide +kernel
theorem d_Mo_product_123 : decode b_Mo_product 123 = .ok (.iadd, 1) := by decide +kernel
theorem d_Mo_product_124 : decode b_Mo_product 124 = .ok (.iload 7, 2) := by decide +kernel
theorem d_Mo_product_126 : decode b_Mo_product 126 = .ok (.iadd, 1) := by decide +kernel
theorem d_Mo_product_127 : decode b_Mo_product 127 = .ok (.istore 9, 2) := by decide +kernel
theorem d_Mo_product_129 : decode b_Mo_product 129 = .ok (.aload_n 0, 1) := by decide +kernel
theorem d_Mo_product_130 : decode b_Mo_product 130 = .ok (.getfield 8, 3) := by decide +kernel
theorem d_Mo_product_133 : decode b_Mo_product 133 = .ok (.sipush 12000, 3) := by decide +kernel
theorem d_Mo_product_136 : decode b_Mo_product 136 = .ok (.iload_n 1, 1) := by decide +kernel
theorem d_Mo_product_137 : decode b_Mo_product 137 = .ok (.imul, 1) := by decide +kernel
theorem d_Mo_product_138 : decode b_Mo_product 138 = .ok (.iload 5, 2) := by decide +kernel
theorem d_Mo_product_140 : decode b_Mo_product 140 = .ok (.iadd, 1) := by decide +kernel
theorem d_Mo_product_141 : decode b_Mo_product 141 = .ok (.iload 8, 2) := by decide +kernel
theorem d_Mo_product_143 : decode b_Mo_product 143 = .ok (.iadd, 1) := by decide +kernel
theorem d_Mo_product_144 : decode b_Mo_product 144 = .ok (.iload 9, 2) := by decide +kernel
theorem d_Mo_product_146 : decode b_Mo_product 146 = .ok (.sipush 10000, 3) := by decide +kernel
theorem d_Mo_product_149 : decode b_Mo_product 149 = .ok (.irem, 1) := by decide +kernel
theorem d_Mo_product_150 : decode b_Mo_product 150 = .ok (.iastore, 1) := by decide +kernel
theorem d_Mo_product_151 : decode b_Mo_product 151 = .ok (.iload 9, 2) := by decide +kernel
theorem d_Mo_product_153 : decode b_Mo_product 153 = .ok (.sipush 10000, 3) := by decide +kernel
theorem d_Mo_product_156 : decode b_Mo_product 156 = .ok (.idiv, 1) := by decide +kernel
theorem d_Mo_product_157 : decode b_Mo_product 157 = .ok (.istore 7, 2) := by decide +kernel
theorem d_Mo_product_159 : decode b_Mo_product 159 = .ok (.iinc 8 1, 3) := by decide +kernel
theorem d_Mo_product_162 : decode b_Mo_product 162 = .ok (.goto (-82), 3) := by decide +kernel
theorem d_Mo_product_165 : decode b_Mo_product 165 = .ok (.iload 5, 2) := by decide +kernel
theorem d_Mo_product_167 : decode b_Mo_product 167 = .ok (.aload_n 0, 1) := by decide +kernel
theorem d_Mo_product_168 : decode b_Mo_product 168 = .ok (.getfield 14, 3) := by decide +kernel
theorem d_Mo_product_171 : decode b_Mo_product 171 = .ok (.iload_n 3, 1) := by decide +kernel
theorem d_Mo_product_172 : decode b_Mo_product 172 = .ok (.iaload, 1) := by decide +kernel
theorem d_Mo_product_173 : decode b_Mo_product 173 = .ok (.iadd, 1) := by decide +kernel
theorem d_Mo_product_174 : decode b_Mo_product 174 = .ok (.istore 8, 2) := by decide +kernel
theorem d_Mo_product_176 : decode b_Mo_product 176 = .ok (.iload 7, 2) := by decide +kernel
theorem d_Mo_product_178 : decode b_Mo_product 178 = .ok (.ifCond .le 54, 3) := by decide +kernel
theorem d_Mo_product_181 : decode b_Mo_product 181 = .ok (.aload_n 0, 1) := by decide +kernel
theorem d_Mo_product_182 : decode b_Mo_product 182 = .ok (.getfield 8, 3) := by decide +kernel
theorem d_Mo_product_185 : decode b_Mo_product 185 = .ok (.sipush 12000, 3) := by decide +kernel
theorem d_Mo_product_188 : decode b_Mo_product 188 = .ok (.iload_n 1, 1) := by decide +kernel
theorem d_Mo_product_189 : decode b_Mo_product 189 = .ok (.imul, 1) := by decide +kernel
theorem d_Mo_product_190 : decode b_Mo_product 190 = .ok (.iload 8, 2) := by decide +kernel
theorem d_Mo_product_192 : decode b_Mo_product 192 = .ok (.iadd, 1) := by decide +kernel
theorem d_Mo_product_193 : decode b_Mo_product 193 = .ok (.iaload, 1) := by decide +kernel
theorem d_Mo_product_194 : decode b_Mo_product 194 = .ok (.iload 7, 2) := by decide +kernel
theorem d_Mo_product_196 : decode b_Mo_product 196 = .ok (.iadd, 1) := by decide +kernel
theorem d_Mo_product_197 : decode b_Mo_product 197 = .ok (.istore 9, 2) := by decide +kernel
theorem d_Mo_product_199 : decode b_Mo_product 199 = .ok (.aload_n 0, 1) := by decide +kernel
theorem d_Mo_product_200 : decode b_Mo_product 200 = .ok (.getfield 8, 3) := by decide +kernel
theorem d_Mo_product_203 : decode b_Mo_product 203 = .ok (.sipush 12000, 3) := by decide +kernel
theorem d_Mo_product_206 : decode b_Mo_product 206 = .ok (.iload_n 1, 1) := by decide +kernel
theorem d_Mo_product_207 : decode b_Mo_product 207 = .ok (.imul, 1) := by decide +kernel
theorem d_Mo_product_208 : decode b_Mo_product 208 = .ok (.iload 8, 2) := by decide +kernel
theorem d_Mo_product_210 : decode b_Mo_product 210 = .ok (.iadd, 1) := by decide +kernel
theorem d_Mo_product_211 : decode b_Mo_product 211 = .ok (.iload 9, 2) := by decide +kernel
theorem d_Mo_product_213 : decode b_Mo_product 213 = .ok (.sipush 10000, 3) := by decide +kernel
theorem d_Mo_product_216 : decode b_Mo_product 216 = .ok (.irem, 1) := by decide +kernel
theorem d_Mo_product_217 : decode b_Mo_product 217 = .ok (.iastore, 1) := by decide +kernel
theorem d_Mo_product_218 : decode b_Mo_product 218 = .ok (.iload 9, 2) := by decide +kernel
theorem d_Mo_product_220 : decode b_Mo_product 220 = .ok (.sipush 10000, 3) := by decide +kernel
theorem d_Mo_product_223 : decode b_Mo_product 223 = .ok (.idiv, 1) := by decide +kernel
theorem d_Mo_product_224 : decode b_Mo_product 224 = .ok (.istore 7, 2) := by decide +kernel
theorem d_Mo_product_226 : decode b_Mo_product 226 = .ok (.iinc 8 1, 3) := by decide +kernel
theorem d_Mo_product_229 : decode b_Mo_product 229 = .ok (.goto (-53), 3) := by decide +kernel
theorem d_Mo_product_232 : decode b_Mo_product 232 = .ok (.iinc 5 1, 3) := by decide +kernel
theorem d_Mo_product_235 : decode b_Mo_product 235 = .ok (.goto (-187), 3) := by decide +kernel
theorem d_Mo_product_238 : decode b_Mo_product 238 = .ok (.aload_n 0, 1) := by decide +kernel
theorem d_Mo_product_239 : decode b_Mo_product 239 = .ok (.iload_n 1, 1) := by decide +kernel
theorem d_Mo_product_240 : decode b_Mo_product 240 = .ok (.iload 4, 2) := by decide +kernel
theorem d_Mo_product_242 : decode b_Mo_product 242 = .ok (.invokevirtual 55, 3) := by decide +kernel
theorem d_Mo_product_245 : decode b_Mo_product 245 = .ok (.return_, 1) := by decide +kernel
theorem d_Mo_addTo_0 : decode b_Mo_addTo 0 = .ok (.aload_n 0, 1) := by decide +kernel
theorem d_Mo_addTo_1 : decode b_Mo_addTo 1 = .ok (.getfield 14, 3) := by decide +kernel
theorem d_Mo_addTo_4 : decode b_Mo_addTo 4 = .ok (.iload_n 1, 1) := by decide +kernel
theorem d_Mo_addTo_5 : decode b_Mo_addTo 5 = .ok (.iaload, 1) := by decide +kernel
theorem d_Mo_addTo_6 : decode b_Mo_addTo 6 = .ok (.aload_n 0, 1) := by decide +kernel
theorem d_Mo_addTo_7 : decode b_Mo_addTo 7 = .ok (.getfield 14, 3) := by decide +kernel
theorem d_Mo_addTo_10 : decode b_Mo_addTo 10 = .ok (.iload_n 2, 1) := by decide +kernel
theorem d_Mo_addTo_11 : decode b_Mo_addTo 11 = .ok (.iaload, 1) := by decide +kernel
theorem d_Mo_addTo_12 : decode b_Mo_addTo 12 = .ok (.if_icmp .le 12, 3) := by decide +kernel
theorem d_Mo_addTo_15 : decode b_Mo_addTo 15 = .ok (.aload_n 0, 1) := by decide +kernel
theorem d_Mo_addTo_16 : decode b_Mo_addTo 16 = .ok (.getfield 14, 3) := by decide +kernel
theorem d_Mo_addTo_19 : decode b_Mo_addTo 19 = .ok (.iload_n 1, 1) := by decide +kernel
theorem d_Mo_addTo_20 : decode b_Mo_addTo 20 = .ok (.iaload, 1) := by decide +kernel
theorem d_Mo_addTo_21 : decode b_Mo_addTo 21 = .ok (.goto 9, 3) := by decide +kernel
theorem d_Mo_addTo_24 : decode b_Mo_addTo 24 = .ok (.aload_n 0, 1) := by decide +kernel
theorem d_Mo_addTo_25 : decode b_Mo_addTo 25 = .ok (.getfield 14, 3) := by decide +kernel
theorem d_Mo_addTo_28 : decode b_Mo_addTo 28 = .ok (.iload_n 2, 1) := by decide +kernel
theorem d_Mo_addTo_29 : decode b_Mo_addTo 29 = .ok (.iaload, 1) := by decide +kernel
theorem d_Mo_addTo_30 : decode b_Mo_addTo 30 = .ok (.istore_n 3, 1) := by decide +kernel
theorem d_Mo_addTo_31 : decode b_Mo_addTo 31 = .ok (.iconst 0, 1) := by decide +kernel
theorem d_Mo_addTo_32 : decode b_Mo_addTo 32 = .ok (.istore 4, 2) := by decide +kernel
theorem d_Mo_addTo_34 : decode b_Mo_addTo 34 = .ok (.iconst 0, 1) := by decide +kernel
theorem d_Mo_addTo_35 : decode b_Mo_addTo 35 = .ok (.istore 5, 2) := by decide +kernel
theorem d_Mo_addTo_37 : decode b_Mo_addTo 37 = .ok (.iload 5, 2) := by decide +kernel
theorem d_Mo_addTo_39 : decode b_Mo_addTo 39 = .ok (.iload_n 3, 1) := by decide +kernel
theorem d_Mo_addTo_40 : decode b_Mo_addTo 40 = .ok (.if_icmp .ge 56, 3) := by decide +kernel
theorem d_Mo_addTo_43 : decode b_Mo_addTo 43 = .ok (.aload_n 0, 1) := by decide +kernel
theorem d_Mo_addTo_44 : decode b_Mo_addTo 44 = .ok (.iload_n 1, 1) := by decide +kernel
theorem d_Mo_addTo_45 : decode b_Mo_addTo 45 = .ok (.iload 5, 2) := by decide +kernel
theorem d_Mo_addTo_47 : decode b_Mo_addTo 47 = .ok (.invokevirtual 51, 3) := by decide +kernel
theorem d_Mo_addTo_50 : decode b_Mo_addTo 50 = .ok (.aload_n 0, 1) := by decide +kernel
theorem d_Mo_addTo_51 : decode b_Mo_addTo 51 = .ok (.iload_n 2, 1) := by decide +kernel
theorem d_Mo_addTo_52 : decode b_Mo_addTo 52 = .ok (.iload 5, 2) := by decide +kernel
theorem d_Mo_addTo_54 : decode b_Mo_addTo 54 = .ok (.invokevirtual 51, 3) := by decide +kernel
theorem d_Mo_addTo_57 : decode b_Mo_addTo 57 = .ok (.iadd, 1) := by decide +kernel
theorem d_Mo_addTo_58 : decode b_Mo_addTo 58 = .ok (.iload 4, 2) := by decide +kernel
theorem d_Mo_addTo_60 : decode b_Mo_addTo 60 = .ok (.iadd, 1) := by decide +kernel
theorem d_Mo_addTo_61 : decode b_Mo_addTo 61 = .ok (.istore 6, 2) := by decide +kernel
theorem d_Mo_addTo_63 : decode b_Mo_addTo 63 = .ok (.aload_n 0, 1) := by decide +kernel
theorem d_Mo_addTo_64 : decode b_Mo_addTo 64 = .ok (.getfield 8, 3) := by decide +kernel
theorem d_Mo_addTo_67 : decode b_Mo_addTo 67 = .ok (.sipush 12000, 3) := by decide +kernel
theorem d_Mo_addTo_70 : decode b_Mo_addTo 70 = .ok (.iload_n 1, 1) := by decide +kernel
theorem d_Mo_addTo_71 : decode b_Mo_addTo 71 = .ok (.imul, 1) := by decide +kernel
theorem d_Mo_addTo_72 : decode b_Mo_addTo 72 = .ok (.iload 5, 2) := by decide +kernel
theorem d_Mo_addTo_74 : decode b_Mo_addTo 74 = .ok (.iadd, 1) := by decide +kernel
theorem d_Mo_addTo_75 : decode b_Mo_addTo 75 = .ok (.iload 6, 2) := by decide +kernel
theorem d_Mo_addTo_77 : decode b_Mo_addTo 77 = .ok (.sipush 10000, 3) := by decide +kernel
theorem d_Mo_addTo_80 : decode b_Mo_addTo 80 = .ok (.irem, 1) := by decide +kernel
theorem d_Mo_addTo_81 : decode b_Mo_addTo 81 = .ok (.iastore, 1) := by decide +kernel
theorem d_Mo_addTo_82 : decode b_Mo_addTo 82 = .ok (.iload 6, 2) := by decide +kernel
theorem d_Mo_addTo_84 : decode b_Mo_addTo 84 = .ok (.sipush 10000, 3) := by decide +kernel
theorem d_Mo_addTo_87 : decode b_Mo_addTo 87 = .ok (.idiv, 1) := by decide +kernel
theorem d_Mo_addTo_88 : decode b_Mo_addTo 88 = .ok (.istore 4, 2) := by decide +kernel
theorem d_Mo_addTo_90 : decode b_Mo_addTo 90 = .ok (.iinc 5 1, 3) := by decide +kernel
theorem d_Mo_addTo_93 : decode b_Mo_addTo 93 = .ok (.goto (-56), 3) := by decide +kernel
theorem d_Mo_addTo_96 : decode b_Mo_addTo 96 = .ok (.aload_n 0, 1) := by decide +kernel
theorem d_Mo_addTo_97 : decode b_Mo_addTo 97 = .ok (.getfield 8, 3) := by decide +kernel
theorem d_Mo_addTo_100 : decode b_Mo_addTo 100 = .ok (.sipush 12000, 3) := by decide +kernel
theorem d_Mo_addTo_103 : decode b_Mo_addTo 103 = .ok (.iload_n 1, 1) := by decide +kernel
theorem d_Mo_addTo_104 : decode b_Mo_addTo 104 = .ok (.imul, 1) := by decide +kernel
theorem d_Mo_addTo_105 : decode b_Mo_addTo 105 = .ok (.iload_n 3, 1) := by decide +kernel
theorem d_Mo_addTo_106 : decode b_Mo_addTo 106 = .ok (.iadd, 1) := by decide +kernel
theorem d_Mo_addTo_107 : decode b_Mo_addTo 107 = .ok (.iload 4, 2) := by decide +kernel
theorem d_Mo_addTo_109 : decode b_Mo_addTo 109 = .ok (.iastore, 1) := by decide +kernel
theorem d_Mo_addTo_110 : decode b_Mo_addTo 110 = .ok (.aload_n 0, 1) := by decide +kernel
theorem d_Mo_addTo_111 : decode b_Mo_addTo 111 = .ok (.iload_n 1, 1) := by decide +kernel
theorem d_Mo_addTo_112 : decode b_Mo_addTo 112 = .ok (.iload_n 3, 1) := by decide +kernel
theorem d_Mo_addTo_113 : decode b_Mo_addTo 113 = .ok (.iconst 1, 1) := by decide +kernel
theorem d_Mo_addTo_114 : decode b_Mo_addTo 114 = .ok (.iadd, 1) := by decide +kernel
theorem d_Mo_addTo_115 : decode b_Mo_addTo 115 = .ok (.invokevirtual 55, 3) := by decide +kernel
theorem d_Mo_addTo_118 : decode b_Mo_addTo 118 = .ok (.return_, 1) := by decide +kernel
theorem d_Mo_figure_0 : decode b_Mo_figure 0 = .ok (.iload_n 2, 1) := by decide +kernel
theorem d_Mo_figure_1 : decode b_Mo_figure 1 = .ok (.aload_n 0, 1) := by decide +kernel
theorem d_Mo_figure_2 : decode b_Mo_figure 2 = .ok (.getfield 14, 3) := by decide +kernel
theorem d_Mo_figure_5 : decode b_Mo_figure 5 = .ok (.iload_n 1, 1) := by decide +kernel
theorem d_Mo_figure_6 : decode b_Mo_figure 6 = .ok (.iaload, 1) := by decide +kernel
theorem d_Mo_figure_7 : decode b_Mo_figure 7 = .ok (.if_icmp .ge 18, 3) := by decide +kernel
theorem d_Mo_figure_10 : decode b_Mo_figure 10 = .ok (.aload_n 0, 1) := by decide +kernel
theorem d_Mo_figure_11 : decode b_Mo_figure 11 = .ok (.getfield 8, 3) := by decide +kernel
theorem d_Mo_figure_14 : decode b_Mo_figure 14 = .ok (.sipush 12000, 3) := by decide +kernel
theorem d_Mo_figure_17 : decode b_Mo_figure 17 = .ok (.iload_n 1, 1) := by decide +kernel
theorem d_Mo_figure_18 : decode b_Mo_figure 18 = .ok (.imul, 1) := by decide +kernel
theorem d_Mo_figure_19 : decode b_Mo_figure 19 = .ok (.iload_n 2, 1) := by decide +kernel
theorem d_Mo_figure_20 : decode b_Mo_figure 20 = .ok (.iadd, 1) := by decide +kernel
theorem d_Mo_figure_21 : decode b_Mo_figure 21 = .ok (.iaload, 1) := by decide +kernel
theorem d_Mo_figure_22 : decode b_Mo_figure 22 = .ok (.goto 4, 3) := by decide +kernel
theorem d_Mo_figure_25 : decode b_Mo_figure 25 = .ok (.iconst 0, 1) := by decide +kernel
theorem d_Mo_figure_26 : decode b_Mo_figure 26 = .ok (.ireturn, 1) := by decide +kernel
theorem d_Mo_order_0 : decode b_Mo_order 0 = .ok (.aload_n 0, 1) := by decide +kernel
theorem d_Mo_order_1 : decode b_Mo_order 1 = .ok (.getfield 14, 3) := by decide +kernel
theorem d_Mo_order_4 : decode b_Mo_order 4 = .ok (.iload_n 1, 1) := by decide +kernel
theorem d_Mo_order_5 : decode b_Mo_order 5 = .ok (.iaload, 1) := by decide +kernel
theorem d_Mo_order_6 : decode b_Mo_order 6 = .ok (.aload_n 0, 1) := by decide +kernel
theorem d_Mo_order_7 : decode b_Mo_order 7 = .ok (.getfield 14, 3) := by decide +kernel
theorem d_Mo_order_10 : decode b_Mo_order 10 = .ok (.iload_n 2, 1) := by decide +kernel
theorem d_Mo_order_11 : decode b_Mo_order 11 = .ok (.iaload, 1) := by decide +kernel
theorem d_Mo_order_12 : decode b_Mo_order 12 = .ok (.if_icmp .eq 24, 3) := by decide +kernel
theorem d_Mo_order_15 : decode b_Mo_order 15 = .ok (.aload_n 0, 1) := by decide +kernel
theorem d_Mo_order_16 : decode b_Mo_order 16 = .ok (.getfield 14, 3) := by decide +kernel
theorem d_Mo_order_19 : decode b_Mo_order 19 = .ok (.iload_n 1, 1) := by decide +kernel
theorem d_Mo_order_20 : decode b_Mo_order 20 = .ok (.iaload, 1) := by decide +kernel
theorem d_Mo_order_21 : decode b_Mo_order 21 = .ok (.aload_n 0, 1) := by decide +kernel
theorem d_Mo_order_22 : decode b_Mo_order 22 = .ok (.getfield 14, 3) := by decide +kernel
theorem d_Mo_order_25 : decode b_Mo_order 25 = .ok (.iload_n 2, 1) := by decide +kernel
theorem d_Mo_order_26 : decode b_Mo_order 26 = .ok (.iaload, 1) := by decide +kernel
theorem d_Mo_order_27 : decode b_Mo_order 27 = .ok (.if_icmp .ge 7, 3) := by decide +kernel
theorem d_Mo_order_30 : decode b_Mo_order 30 = .ok (.iconst (-1), 1) := by decide +kernel
theorem d_Mo_order_31 : decode b_Mo_order 31 = .ok (.goto 4, 3) := by decide +kernel
theorem d_Mo_order_34 : decode b_Mo_order 34 = .ok (.iconst 1, 1) := by decide +kernel
theorem d_Mo_order_35 : decode b_Mo_order 35 = .ok (.ireturn, 1) := by decide +kernel
theorem d_Mo_order_36 : decode b_Mo_order 36 = .ok (.aload_n 0, 1) := by decide +kernel
theorem d_Mo_order_37 : decode b_Mo_order 37 = .ok (.getfield 14, 3) := by decide +kernel
theorem d_Mo_order_40 : decode b_Mo_order 40 = .ok (.iload_n 1, 1) := by decide +kernel
theorem d_Mo_order_41 : decode b_Mo_order 41 = .ok (.iaload, 1) := by decide +kernel
theorem d_Mo_order_42 : decode b_Mo_order 42 = .ok (.iconst 1, 1) := by decide +kernel
theorem d_Mo_order_43 : decode b_Mo_order 43 = .ok (.isub, 1) := by decide +kernel
theorem d_Mo_order_44 : decode b_Mo_order 44 = .ok (.istore_n 3, 1) := by decide +kernel
theorem d_Mo_order_45 : decode b_Mo_order 45 = .ok (.iload_n 3, 1) := by decide +kernel
theorem d_Mo_order_46 : decode b_Mo_order 46 = .ok (.ifCond .lt 52, 3) := by decide +kernel
theorem d_Mo_order_49 : decode b_Mo_order 49 = .ok (.aload_n 0, 1) := by decide +kernel
theorem d_Mo_order_50 : decode b_Mo_order 50 = .ok (.getfield 8, 3) := by decide +kernel
theorem d_Mo_order_53 : decode b_Mo_order 53 = .ok (.sipush 12000, 3) := by decide +kernel
theorem d_Mo_order_56 : decode b_Mo_order 56 = .ok (.iload_n 1, 1) := by decide +kernel
theorem d_Mo_order_57 : decode b_Mo_order 57 = .ok (.imul, 1) := by decide +kernel
theorem d_Mo_order_58 : decode b_Mo_order 58 = .ok (.iload_n 3, 1) := by decide +kernel
theorem d_Mo_order_59 : decode b_Mo_order 59 = .ok (.iadd, 1) := by decide +kernel
theorem d_Mo_order_60 : decode b_Mo_order 60 = .ok (.iaload, 1) := by decide +kernel
theorem d_Mo_order_61 : decode b_Mo_order 61 = .ok (.aload_n 0, 1) := by decide +kernel
theorem d_Mo_order_62 : decode b_Mo_order 62 = .ok (.getfield 8, 3) := by decide +kernel
theorem d_Mo_order_65 : decode b_Mo_order 65 = .ok (.sipush 12000, 3) := by decide +kernel
theorem d_Mo_order_68 : decode b_Mo_order 68 = .ok (.iload_n 2, 1) := by decide +kernel
theorem d_Mo_order_69 : decode b_Mo_order 69 = .ok (.imul, 1) := by decide +kernel
theorem d_Mo_order_70 : decode b_Mo_order 70 = .ok (.iload_n 3, 1) := by decide +kernel
theorem d_Mo_order_71 : decode b_Mo_order 71 = .ok (.iadd, 1) := by decide +kernel
theorem d_Mo_order_72 : decode b_Mo_order 72 = .ok (.iaload, 1) := by decide +kernel
theorem d_Mo_order_73 : decode b_Mo_order 73 = .ok (.isub, 1) := by decide +kernel
theorem d_Mo_order_74 : decode b_Mo_order 74 = .ok (.istore 4, 2) := by decide +kernel
theorem d_Mo_order_76 : decode b_Mo_order 76 = .ok (.iload 4, 2) := by decide +kernel
theorem d_Mo_order_78 : decode b_Mo_order 78 = .ok (.ifCond .eq 14, 3) := by decide +kernel
theorem d_Mo_order_81 : decode b_Mo_order 81 = .ok (.iload 4, 2) := by decide +kernel
theorem d_Mo_order_83 : decode b_Mo_order 83 = .ok (.ifCond .ge 7, 3) := by decide +kernel
theorem d_Mo_order_86 : decode b_Mo_order 86 = .ok (.iconst (-1), 1) := by decide +kernel
theorem d_Mo_order_87 : decode b_Mo_order 87 = .ok (.goto 4, 3) := by decide +kernel
theorem d_Mo_order_90 : decode b_Mo_order 90 = .ok (.iconst 1, 1) := by decide +kernel
theorem d_Mo_order_91 : decode b_Mo_order 91 = .ok (.ireturn, 1) := by decide +kernel
theorem d_Mo_order_92 : decode b_Mo_order 92 = .ok (.iinc 3 (-1), 3) := by decide +kernel
theorem d_Mo_order_95 : decode b_Mo_order 95 = .ok (.goto (-50), 3) := by decide +kernel
theorem d_Mo_order_98 : decode b_Mo_order 98 = .ok (.iconst 0, 1) := by decide +kernel
theorem d_Mo_order_99 : decode b_Mo_order 99 = .ok (.ireturn, 1) := by decide +kernel
theorem d_Mo_takeFrom_0 : decode b_Mo_takeFrom 0 = .ok (.iconst 0, 1) := by decide +kernel
theorem d_Mo_takeFrom_1 : decode b_Mo_takeFrom 1 = .ok (.istore_n 3, 1) := by decide +kernel
theorem d_Mo_takeFrom_2 : decode b_Mo_takeFrom 2 = .ok (.iconst 0, 1) := by decide +kernel
theorem d_Mo_takeFrom_3 : decode b_Mo_takeFrom 3 = .ok (.istore 4, 2) := by decide +kernel
theorem d_Mo_takeFrom_5 : decode b_Mo_takeFrom 5 = .ok (.iload 4, 2) := by decide +kernel
theorem d_Mo_takeFrom_7 : decode b_Mo_takeFrom 7 = .ok (.aload_n 0, 1) := by decide +kernel
theorem d_Mo_takeFrom_8 : decode b_Mo_takeFrom 8 = .ok (.getfield 14, 3) := by decide +kernel
theorem d_Mo_takeFrom_11 : decode b_Mo_takeFrom 11 = .ok (.iload_n 1, 1) := by decide +kernel
theorem d_Mo_takeFrom_12 : decode b_Mo_takeFrom 12 = .ok (.iaload, 1) := by decide +kernel
theorem d_Mo_takeFrom_13 : decode b_Mo_takeFrom 13 = .ok (.if_icmp .ge 74, 3) := by decide +kernel
theorem d_Mo_takeFrom_16 : decode b_Mo_takeFrom 16 = .ok (.aload_n 0, 1) := by decide +kernel
theorem d_Mo_takeFrom_17 : decode b_Mo_takeFrom 17 = .ok (.getfield 8, 3) := by decide +kernel
theorem d_Mo_takeFrom_20 : decode b_Mo_takeFrom 20 = .ok (.sipush 12000, 3) := by decide +kernel
theorem d_Mo_takeFrom_23 : decode b_Mo_takeFrom 23 = .ok (.iload_n 1, 1) := by decide +kernel
theorem d_Mo_takeFrom_24 : decode b_Mo_takeFrom 24 = .ok (.imul, 1) := by decide +kernel
theorem d_Mo_takeFrom_25 : decode b_Mo_takeFrom 25 = .ok (.iload 4, 2) := by decide +kernel
theorem d_Mo_takeFrom_27 : decode b_Mo_takeFrom 27 = .ok (.iadd, 1) := by decide +kernel
theorem d_Mo_takeFrom_28 : decode b_Mo_takeFrom 28 = .ok (.iaload, 1) := by decide +kernel
theorem d_Mo_takeFrom_29 : decode b_Mo_takeFrom 29 = .ok (.aload_n 0, 1) := by decide +kernel
theorem d_Mo_takeFrom_30 : decode b_Mo_takeFrom 30 = .ok (.iload_n 2, 1) := by decide +kernel
theorem d_Mo_takeFrom_31 : decode b_Mo_takeFrom 31 = .ok (.iload 4, 2) := by decide +kernel
theorem d_Mo_takeFrom_33 : decode b_Mo_takeFrom 33 = .ok (.invokevirtual 51, 3) := by decide +kernel
theorem d_Mo_takeFrom_36 : decode b_Mo_takeFrom 36 = .ok (.isub, 1) := by decide +kernel
theorem d_Mo_takeFrom_37 : decode b_Mo_takeFrom 37 = .ok (.iload_n 3, 1) := by decide +kernel
theorem d_Mo_takeFrom_38 : decode b_Mo_takeFrom 38 = .ok (.isub, 1) := by decide +kernel
theorem d_Mo_takeFrom_39 : decode b_Mo_takeFrom 39 = .ok (.istore 5, 2) := by decide +kernel
theorem d_Mo_takeFrom_41 : decode b_Mo_takeFrom 41 = .ok (.iload 5, 2) := by decide +kernel
theorem d_Mo_takeFrom_43 : decode b_Mo_takeFrom 43 = .ok (.ifCond .ge 7, 3) := by decide +kernel
theorem d_Mo_takeFrom_46 : decode b_Mo_takeFrom 46 = .ok (.iconst 1, 1) := by decide +kernel
theorem d_Mo_takeFrom_47 : decode b_Mo_takeFrom 47 = .ok (.goto 4, 3) := by decide +kernel
theorem d_Mo_takeFrom_50 : decode b_Mo_takeFrom 50 = .ok (.iconst 0, 1) := by decide +kernel
theorem d_Mo_takeFrom_51 : decode b_Mo_takeFrom 51 = .ok (.istore_n 3, 1) := by decide +kernel
theorem d_Mo_takeFrom_52 : decode b_Mo_takeFrom 52 = .ok (.aload_n 0, 1) := by decide +kernel
theorem d_Mo_takeFrom_53 : decode b_Mo_takeFrom 53 = .ok (.getfield 8, 3) := by decide +kernel
theorem d_Mo_takeFrom_56 : decode b_Mo_takeFrom 56 = .ok (.sipush 12000, 3) := by decide +kernel
theorem d_Mo_takeFrom_59 : decode b_Mo_takeFrom 59 = .ok (.iload_n 1, 1) := by decide +kernel
theorem d_Mo_takeFrom_60 : decode b_Mo_takeFrom 60 = .ok (.imul, 1) := by decide +kernel
theorem d_Mo_takeFrom_61 : decode b_Mo_takeFrom 61 = .ok (.iload 4, 2) := by decide +kernel
theorem d_Mo_takeFrom_63 : decode b_Mo_takeFrom 63 = .ok (.iadd, 1) := by decide +kernel
theorem d_Mo_takeFrom_64 : decode b_Mo_takeFrom 64 = .ok (.iload 5, 2) := by decide +kernel
theorem d_Mo_takeFrom_66 : decode b_Mo_takeFrom 66 = .ok (.ifCond .ge 12, 3) := by decide +kernel
theorem d_Mo_takeFrom_69 : decode b_Mo_takeFrom 69 = .ok (.iload 5, 2) := by decide +kernel
theorem d_Mo_takeFrom_71 : decode b_Mo_takeFrom 71 = .ok (.sipush 10000, 3) := by decide +kernel
theorem d_Mo_takeFrom_74 : decode b_Mo_takeFrom 74 = .ok (.iadd, 1) := by decide +kernel
theorem d_Mo_takeFrom_75 : decode b_Mo_takeFrom 75 = .ok (.goto 5, 3) := by decide +kernel
theorem d_Mo_takeFrom_78 : decode b_Mo_takeFrom 78 = .ok (.iload 5, 2) := by decide +kernel
theorem d_Mo_takeFrom_80 : decode b_Mo_takeFrom 80 = .ok (.iastore, 1) := by decide +kernel
theorem d_Mo_takeFrom_81 : decode b_Mo_takeFrom 81 = .ok (.iinc 4 1, 3) := by decide +kernel
theorem d_Mo_takeFrom_84 : decode b_Mo_takeFrom 84 = .ok (.goto (-79), 3) := by decide +kernel
theorem d_Mo_takeFrom_87 : decode b_Mo_takeFrom 87 = .ok (.aload_n 0, 1) := by decide +kernel
theorem d_Mo_takeFrom_88 : decode b_Mo_takeFrom 88 = .ok (.iload_n 1, 1) := by decide +kernel
theorem d_Mo_takeFrom_89 : decode b_Mo_takeFrom 89 = .ok (.aload_n 0, 1) := by decide +kernel
theorem d_Mo_takeFrom_90 : decode b_Mo_takeFrom 90 = .ok (.getfield 14, 3) := by decide +kernel
theorem d_Mo_takeFrom_93 : decode b_Mo_takeFrom 93 = .ok (.iload_n 1, 1) := by decide +kernel
theorem d_Mo_takeFrom_94 : decode b_Mo_takeFrom 94 = .ok (.iaload, 1) := by decide +kernel
theorem d_Mo_takeFrom_95 : decode b_Mo_takeFrom 95 = .ok (.invokevirtual 55, 3) := by decide +kernel
theorem d_Mo_takeFrom_98 : decode b_Mo_takeFrom 98 = .ok (.return_, 1) := by decide +kernel
theorem d_Mo_subtract_0 : decode b_Mo_subtract 0 = .ok (.aload_n 0, 1) := by decide +kernel
theorem d_Mo_subtract_1 : decode b_Mo_subtract 1 = .ok (.iload_n 1, 1) := by decide +kernel
theorem d_Mo_subtract_2 : decode b_Mo_subtract 2 = .ok (.iload_n 2, 1) := by decide +kernel
theorem d_Mo_subtract_3 : decode b_Mo_subtract 3 = .ok (.iload_n 3, 1) := by decide +kernel
theorem d_Mo_subtract_4 : decode b_Mo_subtract 4 = .ok (.iconst 1, 1) := by decide +kernel
theorem d_Mo_subtract_5 : decode b_Mo_subtract 5 = .ok (.invokevirtual 136, 3) := by decide +kernel
theorem d_Mo_subtract_8 : decode b_Mo_subtract 8 = .ok (.ireturn, 1) := by decide +kernel
theorem d_Mo_multiply_0 : decode b_Mo_multiply 0 = .ok (.aload_n 0, 1) := by decide +kernel
theorem d_Mo_multiply_1 : decode b_Mo_multiply 1 = .ok (.iload_n 1, 1) := by decide +kernel
theorem d_Mo_multiply_2 : decode b_Mo_multiply 2 = .ok (.invokestatic 108, 3) := by decide +kernel
theorem d_Mo_multiply_5 : decode b_Mo_multiply 5 = .ok (.ifCond .eq 21, 3) := by decide +kernel
theorem d_Mo_multiply_8 : decode b_Mo_multiply 8 = .ok (.iload_n 2, 1) := by decide +kernel
theorem d_Mo_multiply_9 : decode b_Mo_multiply 9 = .ok (.invokestatic 108, 3) := by decide +kernel
theorem d_Mo_multiply_12 : decode b_Mo_multiply 12 = .ok (.ifCond .eq 14, 3) := by decide +kernel
theorem d_Mo_multiply_15 : decode b_Mo_multiply 15 = .ok (.iload_n 3, 1) := by decide +kernel
theorem d_Mo_multiply_16 : decode b_Mo_multiply 16 = .ok (.invokestatic 108, 3) := by decide +kernel
theorem d_Mo_multiply_19 : decode b_Mo_multiply 19 = .ok (.ifCond .eq 7, 3) := by decide +kernel
theorem d_Mo_multiply_22 : decode b_Mo_multiply 22 = .ok (.iconst 0, 1) := by decide +kernel
theorem d_Mo_multiply_23 : decode b_Mo_multiply 23 = .ok (.goto 4, 3) := by decide +kernel
theorem d_Mo_multiply_26 : decode b_Mo_multiply 26 = .ok (.iconst 1, 1) := by decide +kernel
theorem d_Mo_multiply_27 : decode b_Mo_multiply 27 = .ok (.invokevirtual 101, 3) := by decide +kernel
theorem d_Mo_multiply_30 : decode b_Mo_multiply 30 = .ok (.ifCond .eq 7, 3) := by decide +kernel
theorem d_Mo_multiply_33 : decode b_Mo_multiply 33 = .ok (.iconst 0, 1) := by decide +kernel
theorem d_Mo_multiply_34 : decode b_Mo_multiply 34 = .ok (.goto 11, 3) := by decide +kernel
theorem d_Mo_multiply_37 : decode b_Mo_multiply 37 = .ok (.aload_n 0, 1) := by decide +kernel
theorem d_Mo_multiply_38 : decode b_Mo_multiply 38 = .ok (.iload_n 1, 1) := by decide +kernel
theorem d_Mo_multiply_39 : decode b_Mo_multiply 39 = .ok (.iload_n 2, 1) := by decide +kernel
theorem d_Mo_multiply_40 : decode b_Mo_multiply 40 = .ok (.iload_n 3, 1) := by decide +kernel
theorem d_Mo_multiply_41 : decode b_Mo_multiply 41 = .ok (.iconst 0, 1) := by decide +kernel
theorem d_Mo_multiply_42 : decode b_Mo_multiply 42 = .ok (.invokevirtual 140, 3) := by decide +kernel
theorem d_Mo_multiply_45 : decode b_Mo_multiply 45 = .ok (.ireturn, 1) := by decide +kernel
theorem d_Mo_products_0 : decode b_Mo_products 0 = .ok (.aload_n 0, 1) := by decide +kernel
theorem d_Mo_products_1 : decode b_Mo_products 1 = .ok (.iconst 4, 1) := by decide +kernel
theorem d_Mo_products_2 : decode b_Mo_products 2 = .ok (.iconst 2, 1) := by decide +kernel
theorem d_Mo_products_3 : decode b_Mo_products 3 = .ok (.iload_n 2, 1) := by decide +kernel
theorem d_Mo_products_4 : decode b_Mo_products 4 = .ok (.imul, 1) := by decide +kernel
theorem d_Mo_products_5 : decode b_Mo_products 5 = .ok (.invokevirtual 118, 3) := by decide +kernel
theorem d_Mo_products_8 : decode b_Mo_products 8 = .ok (.aload_n 0, 1) := by decide +kernel
theorem d_Mo_products_9 : decode b_Mo_products 9 = .ok (.iconst 5, 1) := by decide +kernel
theorem d_Mo_products_10 : decode b_Mo_products 10 = .ok (.iconst 2, 1) := by decide +kernel
theorem d_Mo_products_11 : decode b_Mo_products 11 = .ok (.iload_n 3, 1) := by decide +kernel
theorem d_Mo_products_12 : decode b_Mo_products 12 = .ok (.imul, 1) := by decide +kernel
theorem d_Mo_products_13 : decode b_Mo_products 13 = .ok (.iload 4, 2) := by decide +kernel
theorem d_Mo_products_15 : decode b_Mo_products 15 = .ok (.ifCond .eq 7, 3) := by decide +kernel
theorem d_Mo_products_18 : decode b_Mo_products 18 = .ok (.iconst 1, 1) := by decide +kernel
theorem d_Mo_products_19 : decode b_Mo_products 19 = .ok (.goto 4, 3) := by decide +kernel
theorem d_Mo_products_22 : decode b_Mo_products 22 = .ok (.iconst 0, 1) := by decide +kernel
theorem d_Mo_products_23 : decode b_Mo_products 23 = .ok (.iadd, 1) := by decide +kernel
theorem d_Mo_products_24 : decode b_Mo_products 24 = .ok (.invokevirtual 118, 3) := by decide +kernel
theorem d_Mo_products_27 : decode b_Mo_products 27 = .ok (.aload_n 0, 1) := by decide +kernel
theorem d_Mo_products_28 : decode b_Mo_products 28 = .ok (.iconst 0, 1) := by decide +kernel
theorem d_Mo_products_29 : decode b_Mo_products 29 = .ok (.iconst 4, 1) := by decide +kernel
theorem d_Mo_products_30 : decode b_Mo_products 30 = .ok (.iconst 5, 1) := by decide +kernel
theorem d_Mo_products_31 : decode b_Mo_products 31 = .ok (.invokevirtual 121, 3) := by decide +kernel
theorem d_Mo_products_34 : decode b_Mo_products 34 = .ok (.aload_n 0, 1) := by decide +kernel
theorem d_Mo_products_35 : decode b_Mo_products 35 = .ok (.iconst 4, 1) := by decide +kernel
theorem d_Mo_products_36 : decode b_Mo_products 36 = .ok (.iconst 2, 1) := by decide +kernel
theorem d_Mo_products_37 : decode b_Mo_products 37 = .ok (.iload_n 2, 1) := by decide +kernel
theorem d_Mo_products_38 : decode b_Mo_products 38 = .ok (.imul, 1) := by decide +kernel
theorem d_Mo_products_39 : decode b_Mo_products 39 = .ok (.iconst 1, 1) := by decide +kernel
theorem d_Mo_products_40 : decode b_Mo_products 40 = .ok (.iadd, 1) := by decide +kernel
theorem d_Mo_products_41 : decode b_Mo_products 41 = .ok (.invokevirtual 118, 3) := by decide +kernel
theorem d_Mo_products_44 : decode b_Mo_products 44 = .ok (.aload_n 0, 1) := by decide +kernel
theorem d_Mo_products_45 : decode b_Mo_products 45 = .ok (.iconst 5, 1) := by decide +kernel
theorem d_Mo_products_46 : decode b_Mo_products 46 = .ok (.iconst 2, 1) := by decide +kernel
theorem d_Mo_products_47 : decode b_Mo_products 47 = .ok (.iload_n 3, 1) := by decide +kernel
theorem d_Mo_products_48 : decode b_Mo_products 48 = .ok (.imul, 1) := by decide +kernel
theorem d_Mo_products_49 : decode b_Mo_products 49 = .ok (.iload 4, 2) := by decide +kernel
theorem d_Mo_products_51 : decode b_Mo_products 51 = .ok (.ifCond .eq 7, 3) := by decide +kernel
theorem d_Mo_products_54 : decode b_Mo_products 54 = .ok (.iconst 0, 1) := by decide +kernel
theorem d_Mo_products_55 : decode b_Mo_products 55 = .ok (.goto 4, 3) := by decide +kernel
theorem d_Mo_products_58 : decode b_Mo_products 58 = .ok (.iconst 1, 1) := by decide +kernel
theorem d_Mo_products_59 : decode b_Mo_products 59 = .ok (.iadd, 1) := by decide +kernel
theorem d_Mo_products_60 : decode b_Mo_products 60 = .ok (.invokevirtual 118, 3) := by decide +kernel
theorem d_Mo_products_63 : decode b_Mo_products 63 = .ok (.aload_n 0, 1) := by decide +kernel
theorem d_Mo_products_64 : decode b_Mo_products 64 = .ok (.iconst 1, 1) := by decide +kernel
theorem d_Mo_products_65 : decode b_Mo_products 65 = .ok (.iconst 4, 1) := by decide +kernel
theorem d_Mo_products_66 : decode b_Mo_products 66 = .ok (.iconst 5, 1) := by decide +kernel
theorem d_Mo_products_67 : decode b_Mo_products 67 = .ok (.invokevirtual 121, 3) := by decide +kernel
theorem d_Mo_products_70 : decode b_Mo_products 70 = .ok (.aload_n 0, 1) := by decide +kernel
theorem d_Mo_products_71 : decode b_Mo_products 71 = .ok (.iload_n 1, 1) := by decide +kernel
theorem d_Mo_products_72 : decode b_Mo_products 72 = .ok (.aload_n 0, 1) := by decide +kernel
theorem d_Mo_products_73 : decode b_Mo_products 73 = .ok (.getfield 24, 3) := by decide +kernel
theorem d_Mo_products_76 : decode b_Mo_products 76 = .ok (.iload_n 2, 1) := by decide +kernel
theorem d_Mo_products_77 : decode b_Mo_products 77 = .ok (.iaload, 1) := by decide +kernel
theorem d_Mo_products_78 : decode b_Mo_products 78 = .ok (.aload_n 0, 1) := by decide +kernel
theorem d_Mo_products_79 : decode b_Mo_products 79 = .ok (.getfield 24, 3) := by decide +kernel
theorem d_Mo_products_82 : decode b_Mo_products 82 = .ok (.iload_n 3, 1) := by decide +kernel
theorem d_Mo_products_83 : decode b_Mo_products 83 = .ok (.iaload, 1) := by decide +kernel
theorem d_Mo_products_84 : decode b_Mo_products 84 = .ok (.imul, 1) := by decide +kernel
theorem d_Mo_products_85 : decode b_Mo_products 85 = .ok (.iload 4, 2) := by decide +kernel
theorem d_Mo_products_87 : decode b_Mo_products 87 = .ok (.ifCond .eq 7, 3) := by decide +kernel
theorem d_Mo_products_90 : decode b_Mo_products 90 = .ok (.iconst 3, 1) := by decide +kernel
theorem d_Mo_products_91 : decode b_Mo_products 91 = .ok (.goto 4, 3) := by decide +kernel
theorem d_Mo_products_94 : decode b_Mo_products 94 = .ok (.iconst 2, 1) := by decide +kernel
theorem d_Mo_products_95 : decode b_Mo_products 95 = .ok (.invokevirtual 115, 3) := by decide +kernel
theorem d_Mo_products_98 : decode b_Mo_products 98 = .ok (.ireturn, 1) := by decide +kernel
theorem d_Mo_divide_0 : decode b_Mo_divide 0 = .ok (.aload_n 0, 1) := by decide +kernel
theorem d_Mo_divide_1 : decode b_Mo_divide 1 = .ok (.iload_n 1, 1) := by decide +kernel
theorem d_Mo_divide_2 : decode b_Mo_divide 2 = .ok (.invokestatic 108, 3) := by decide +kernel
theorem d_Mo_divide_5 : decode b_Mo_divide 5 = .ok (.ifCond .eq 17, 3) := by decide +kernel
theorem d_Mo_divide_8 : decode b_Mo_divide 8 = .ok (.iload_n 2, 1) := by decide +kernel
theorem d_Mo_divide_9 : decode b_Mo_divide 9 = .ok (.invokestatic 108, 3) := by decide +kernel
theorem d_Mo_divide_12 : decode b_Mo_divide 12 = .ok (.ifCond .eq 10, 3) := by decide +kernel
theorem d_Mo_divide_15 : decode b_Mo_divide 15 = .ok (.iload_n 3, 1) := by decide +kernel
theorem d_Mo_divide_16 : decode b_Mo_divide 16 = .ok (.invokestatic 108, 3) := by decide +kernel
theorem d_Mo_divide_19 : decode b_Mo_divide 19 = .ok (.ifCond .ne 7, 3) := by decide +kernel
theorem d_Mo_divide_22 : decode b_Mo_divide 22 = .ok (.iconst 1, 1) := by decide +kernel
theorem d_Mo_divide_23 : decode b_Mo_divide 23 = .ok (.goto 17, 3) := by decide +kernel
theorem d_Mo_divide_26 : decode b_Mo_divide 26 = .ok (.aload_n 0, 1) := by decide +kernel
theorem d_Mo_divide_27 : decode b_Mo_divide 27 = .ok (.getfield 24, 3) := by decide +kernel
theorem d_Mo_divide_30 : decode b_Mo_divide 30 = .ok (.iload_n 3, 1) := by decide +kernel
theorem d_Mo_divide_31 : decode b_Mo_divide 31 = .ok (.iaload, 1) := by decide +kernel
theorem d_Mo_divide_32 : decode b_Mo_divide 32 = .ok (.ifCond .ne 7, 3) := by decide +kernel
theorem d_Mo_divide_35 : decode b_Mo_divide 35 = .ok (.iconst 2, 1) := by decide +kernel
theorem d_Mo_divide_36 : decode b_Mo_divide 36 = .ok (.goto 4, 3) := by decide +kernel
theorem d_Mo_divide_39 : decode b_Mo_divide 39 = .ok (.iconst 0, 1) := by decide +kernel
theorem d_Mo_divide_40 : decode b_Mo_divide 40 = .ok (.invokevirtual 101, 3) := by decide +kernel
theorem d_Mo_divide_43 : decode b_Mo_divide 43 = .ok (.ifCond .eq 5, 3) := by decide +kernel
theorem d_Mo_divide_46 : decode b_Mo_divide 46 = .ok (.iconst 0, 1) := by decide +kernel
theorem d_Mo_divide_47 : decode b_Mo_divide 47 = .ok (.ireturn, 1) := by decide +kernel
theorem d_Mo_divide_48 : decode b_Mo_divide 48 = .ok (.aload_n 0, 1) := by decide +kernel
theorem d_Mo_divide_49 : decode b_Mo_divide 49 = .ok (.iload_n 1, 1) := by decide +kernel
theorem d_Mo_divide_50 : decode b_Mo_divide 50 = .ok (.iload_n 2, 1) := by decide +kernel
theorem d_Mo_divide_51 : decode b_Mo_divide 51 = .ok (.iload_n 3, 1) := by decide +kernel
theorem d_Mo_divide_52 : decode b_Mo_divide 52 = .ok (.iconst 1, 1) := by decide +kernel
theorem d_Mo_divide_53 : decode b_Mo_divide 53 = .ok (.invokevirtual 140, 3) := by decide +kernel
theorem d_Mo_divide_56 : decode b_Mo_divide 56 = .ok (.ireturn, 1) := by decide +kernel
theorem d_Mo_power_0 : decode b_Mo_power 0 = .ok (.aload_n 0, 1) := by decide +kernel
theorem d_Mo_power_1 : decode b_Mo_power 1 = .ok (.iload_n 1, 1) := by decide +kernel
theorem d_Mo_power_2 : decode b_Mo_power 2 = .ok (.invokestatic 108, 3) := by decide +kernel
theorem d_Mo_power_5 : decode b_Mo_power 5 = .ok (.ifCond .eq 10, 3) := by decide +kernel
theorem d_Mo_power_8 : decode b_Mo_power 8 = .ok (.iload_n 2, 1) := by decide +kernel
theorem d_Mo_power_9 : decode b_Mo_power 9 = .ok (.invokestatic 108, 3) := by decide +kernel
theorem d_Mo_power_12 : decode b_Mo_power 12 = .ok (.ifCond .ne 7, 3) := by decide +kernel
theorem d_Mo_power_15 : decode b_Mo_power 15 = .ok (.iconst 1, 1) := by decide +kernel
theorem d_Mo_power_16 : decode b_Mo_power 16 = .ok (.goto 39, 3) := by decide +kernel
theorem d_Mo_power_19 : decode b_Mo_power 19 = .ok (.iload_n 3, 1) := by decide +kernel
theorem d_Mo_power_20 : decode b_Mo_power 20 = .ok (.sipush (-1000), 3) := by decide +kernel
theorem d_Mo_power_23 : decode b_Mo_power 23 = .ok (.if_icmp .lt 10, 3) := by decide +kernel
theorem d_Mo_power_26 : decode b_Mo_power 26 = .ok (.iload_n 3, 1) := by decide +kernel
theorem d_Mo_power_27 : decode b_Mo_power 27 = .ok (.sipush 1000, 3) := by decide +kernel
theorem d_Mo_power_30 : decode b_Mo_power 30 = .ok (.if_icmp .le 7, 3) := by decide +kernel
theorem d_Mo_power_33 : decode b_Mo_power 33 = .ok (.iconst 2, 1) := by decide +kernel
theorem d_Mo_power_34 : decode b_Mo_power 34 = .ok (.goto 21, 3) := by decide +kernel
theorem d_Mo_power_37 : decode b_Mo_power 37 = .ok (.iload_n 3, 1) := by decide +kernel
theorem d_Mo_power_38 : decode b_Mo_power 38 = .ok (.ifCond .ge 16, 3) := by decide +kernel
theorem d_Mo_power_41 : decode b_Mo_power 41 = .ok (.aload_n 0, 1) := by decide +kernel
theorem d_Mo_power_42 : decode b_Mo_power 42 = .ok (.getfield 24, 3) := by decide +kernel
theorem d_Mo_power_45 : decode b_Mo_power 45 = .ok (.iload_n 2, 1) := by decide +kernel
theorem d_Mo_power_46 : decode b_Mo_power 46 = .ok (.iaload, 1) := by decide +kernel
theorem d_Mo_power_47 : decode b_Mo_power 47 = .ok (.ifCond .ne 7, 3) := by decide +kernel
theorem d_Mo_power_50 : decode b_Mo_power 50 = .ok (.iconst 3, 1) := by decide +kernel
theorem d_Mo_power_51 : decode b_Mo_power 51 = .ok (.goto 4, 3) := by decide +kernel
theorem d_Mo_power_54 : decode b_Mo_power 54 = .ok (.iconst 0, 1) := by decide +kernel
theorem d_Mo_power_55 : decode b_Mo_power 55 = .ok (.invokevirtual 101, 3) := by decide +kernel
theorem d_Mo_power_58 : decode b_Mo_power 58 = .ok (.ifCond .eq 5, 3) := by decide +kernel
theorem d_Mo_power_61 : decode b_Mo_power 61 = .ok (.iconst 0, 1) := by decide +kernel
theorem d_Mo_power_62 : decode b_Mo_power 62 = .ok (.ireturn, 1) := by decide +kernel
theorem d_Mo_power_63 : decode b_Mo_power 63 = .ok (.iload_n 3, 1) := by decide +kernel
theorem d_Mo_power_64 : decode b_Mo_power 64 = .ok (.ifCond .ge 8, 3) := by decide +kernel
theorem d_Mo_power_67 : decode b_Mo_power 67 = .ok (.iload_n 3, 1) := by decide +kernel
theorem d_Mo_power_68 : decode b_Mo_power 68 = .ok (.ineg, 1) := by decide +kernel
theorem d_Mo_power_69 : decode b_Mo_power 69 = .ok (.goto 4, 3) := by decide +kernel
theorem d_Mo_power_72 : decode b_Mo_power 72 = .ok (.iload_n 3, 1) := by decide +kernel
theorem d_Mo_power_73 : decode b_Mo_power 73 = .ok (.istore 4, 2) := by decide +kernel
theorem d_Mo_power_75 : decode b_Mo_power 75 = .ok (.aload_n 0, 1) := by decide +kernel
theorem d_Mo_power_76 : decode b_Mo_power 76 = .ok (.iconst 0, 1) := by decide +kernel
theorem d_Mo_power_77 : decode b_Mo_power 77 = .ok (.iconst 2, 1) := by decide +kernel
theorem d_Mo_power_78 : decode b_Mo_power 78 = .ok (.iload_n 2, 1) := by decide +kernel
theorem d_Mo_power_79 : decode b_Mo_power 79 = .ok (.imul, 1) := by decide +kernel
theorem d_Mo_power_80 : decode b_Mo_power 80 = .ok (.iload_n 3, 1) := by decide +kernel
theorem d_Mo_power_81 : decode b_Mo_power 81 = .ok (.ifCond .ge 7, 3) := by decide +kernel
theorem d_Mo_power_84 : decode b_Mo_power 84 = .ok (.iconst 1, 1) := by decide +kernel
theorem d_Mo_power_85 : decode b_Mo_power 85 = .ok (.goto 4, 3) := by decide +kernel
theorem d_Mo_power_88 : decode b_Mo_power 88 = .ok (.iconst 0, 1) := by decide +kernel
theorem d_Mo_power_89 : decode b_Mo_power 89 = .ok (.iadd, 1) := by decide +kernel
theorem d_Mo_power_90 : decode b_Mo_power 90 = .ok (.invokevirtual 118, 3) := by decide +kernel
theorem d_Mo_power_93 : decode b_Mo_power 93 = .ok (.aload_n 0, 1) := by decide +kernel
theorem d_Mo_power_94 : decode b_Mo_power 94 = .ok (.iconst 1, 1) := by decide +kernel
theorem d_Mo_power_95 : decode b_Mo_power 95 = .ok (.iconst 2, 1) := by decide +kernel
theorem d_Mo_power_96 : decode b_Mo_power 96 = .ok (.iload_n 2, 1) := by decide +kernel
theorem d_Mo_power_97 : decode b_Mo_power 97 = .ok (.imul, 1) := by decide +kernel
theorem d_Mo_power_98 : decode b_Mo_power 98 = .ok (.iload_n 3, 1) := by decide +kernel
theorem d_Mo_power_99 : decode b_Mo_power 99 = .ok (.ifCond .ge 7, 3) := by decide +kernel
theorem d_Mo_power_102 : decode b_Mo_power 102 = .ok (.iconst 0, 1) := by decide +kernel
theorem d_Mo_power_103 : decode b_Mo_power 103 = .ok (.goto 4, 3) := by decide +kernel
theorem d_Mo_power_106 : decode b_Mo_power 106 = .ok (.iconst 1, 1) := by decide +kernel
theorem d_Mo_power_107 : decode b_Mo_power 107 = .ok (.iadd, 1) := by decide +kernel
theorem d_Mo_power_108 : decode b_Mo_power 108 = .ok (.invokevirtual 118, 3) := by decide +kernel
theorem d_Mo_power_111 : decode b_Mo_power 111 = .ok (.iload 4, 2) := by decide +kernel
theorem d_Mo_power_113 : decode b_Mo_power 113 = .ok (.i2l, 1) := by decide +kernel
theorem d_Mo_power_114 : decode b_Mo_power 114 = .ok (.aload_n 0, 1) := by decide +kernel
theorem d_Mo_power_115 : decode b_Mo_power 115 = .ok (.iconst 0, 1) := by decide +kernel
theorem d_Mo_power_116 : decode b_Mo_power 116 = .ok (.invokevirtual 143, 3) := by decide +kernel
theorem d_Mo_power_119 : decode b_Mo_power 119 = .ok (.aload_n 0, 1) := by decide +kernel
theorem d_Mo_power_120 : decode b_Mo_power 120 = .ok (.iconst 1, 1) := by decide +kernel
theorem d_Mo_power_121 : decode b_Mo_power 121 = .ok (.invokevirtual 143, 3) := by decide +kernel
theorem d_Mo_power_124 : decode b_Mo_power 124 = .ok (.iadd, 1) := by decide +kernel
theorem d_Mo_power_125 : decode b_Mo_power 125 = .ok (.iconst 2, 1) := by decide +kernel
theorem d_Mo_power_126 : decode b_Mo_power 126 = .ok (.isub, 1) := by decide +kernel
theorem d_Mo_power_127 : decode b_Mo_power 127 = .ok (.i2l, 1) := by decide +kernel
theorem d_Mo_power_128 : decode b_Mo_power 128 = .ok (.lmul, 1) := by decide +kernel
theorem d_Mo_power_129 : decode b_Mo_power 129 = .ok (.lstore 5, 2) := by decide +kernel
theorem d_Mo_power_131 : decode b_Mo_power 131 = .ok (.aload_n 0, 1) := by decide +kernel
theorem d_Mo_power_132 : decode b_Mo_power 132 = .ok (.getfield 24, 3) := by decide +kernel
theorem d_Mo_power_135 : decode b_Mo_power 135 = .ok (.iload_n 2, 1) := by decide +kernel
theorem d_Mo_power_136 : decode b_Mo_power 136 = .ok (.iaload, 1) := by decide +kernel
theorem d_Mo_power_137 : decode b_Mo_power 137 = .ok (.ifCond .eq 26, 3) := by decide +kernel
theorem d_Mo_power_140 : decode b_Mo_power 140 = .ok (.aload_n 0, 1) := by decide +kernel
theorem d_Mo_power_141 : decode b_Mo_power 141 = .ok (.lload 5, 2) := by decide +kernel
theorem d_Mo_power_143 : decode b_Mo_power 143 = .ok (.ldc2_w 146, 3) := by decide +kernel
theorem d_Mo_power_146 : decode b_Mo_power 146 = .ok (.lcmp, 1) := by decide +kernel
theorem d_Mo_power_147 : decode b_Mo_power 147 = .ok (.ifCond .le 7, 3) := by decide +kernel
theorem d_Mo_power_150 : decode b_Mo_power 150 = .ok (.iconst 4, 1) := by decide +kernel
theorem d_Mo_power_151 : decode b_Mo_power 151 = .ok (.goto 4, 3) := by decide +kernel
theorem d_Mo_power_154 : decode b_Mo_power 154 = .ok (.iconst 0, 1) := by decide +kernel
theorem d_Mo_power_155 : decode b_Mo_power 155 = .ok (.invokevirtual 101, 3) := by decide +kernel
theorem d_Mo_power_158 : decode b_Mo_power 158 = .ok (.ifCond .eq 5, 3) := by decide +kernel
theorem d_Mo_power_161 : decode b_Mo_power 161 = .ok (.iconst 0, 1) := by decide +kernel
theorem d_Mo_power_162 : decode b_Mo_power 162 = .ok (.ireturn, 1) := by decide +kernel
theorem d_Mo_power_163 : decode b_Mo_power 163 = .ok (.aload_n 0, 1) := by decide +kernel
theorem d_Mo_power_164 : decode b_Mo_power 164 = .ok (.iconst 0, 1) := by decide +kernel
theorem d_Mo_power_165 : decode b_Mo_power 165 = .ok (.iload 4, 2) := by decide +kernel
theorem d_Mo_power_167 : decode b_Mo_power 167 = .ok (.invokevirtual 148, 3) := by decide +kernel
theorem d_Mo_power_170 : decode b_Mo_power 170 = .ok (.aload_n 0, 1) := by decide +kernel
theorem d_Mo_power_171 : decode b_Mo_power 171 = .ok (.iconst 1, 1) := by decide +kernel
theorem d_Mo_power_172 : decode b_Mo_power 172 = .ok (.iload 4, 2) := by decide +kernel
theorem d_Mo_power_174 : decode b_Mo_power 174 = .ok (.invokevirtual 148, 3) := by decide +kernel
theorem d_Mo_power_177 : decode b_Mo_power 177 = .ok (.aload_n 0, 1) := by decide +kernel
theorem d_Mo_power_178 : decode b_Mo_power 178 = .ok (.iload_n 1, 1) := by decide +kernel
theorem d_Mo_power_179 : decode b_Mo_power 179 = .ok (.iload 4, 2) := by decide +kernel
theorem d_Mo_power_181 : decode b_Mo_power 181 = .ok (.iconst 2, 1) := by decide +kernel
theorem d_Mo_power_182 : decode b_Mo_power 182 = .ok (.irem, 1) := by decide +kernel
theorem d_Mo_power_183 : decode b_Mo_power 183 = .ok (.iconst 1, 1) := by decide +kernel
theorem d_Mo_power_184 : decode b_Mo_power 184 = .ok (.if_icmp .ne 12, 3) := by decide +kernel
theorem d_Mo_power_187 : decode b_Mo_power 187 = .ok (.aload_n 0, 1) := by decide +kernel
theorem d_Mo_power_188 : decode b_Mo_power 188 = .ok (.getfield 24, 3) := by decide +kernel
theorem d_Mo_power_191 : decode b_Mo_power 191 = .ok (.iload_n 2, 1) := by decide +kernel
theorem d_Mo_power_192 : decode b_Mo_power 192 = .ok (.iaload, 1) := by decide +kernel
theorem d_Mo_power_193 : decode b_Mo_power 193 = .ok (.goto 4, 3) := by decide +kernel
theorem d_Mo_power_196 : decode b_Mo_power 196 = .ok (.iconst 1, 1) := by decide +kernel
theorem d_Mo_power_197 : decode b_Mo_power 197 = .ok (.iconst 4, 1) := by decide +kernel
theorem d_Mo_power_198 : decode b_Mo_power 198 = .ok (.invokevirtual 90, 3) := by decide +kernel
theorem d_Mo_power_201 : decode b_Mo_power 201 = .ok (.ireturn, 1) := by decide +kernel
theorem d_Mo_bits_0 : decode b_Mo_bits 0 = .ok (.aload_n 0, 1) := by decide +kernel
theorem d_Mo_bits_1 : decode b_Mo_bits 1 = .ok (.iload_n 1, 1) := by decide +kernel
theorem d_Mo_bits_2 : decode b_Mo_bits 2 = .ok (.invokevirtual 80, 3) := by decide +kernel
theorem d_Mo_bits_5 : decode b_Mo_bits 5 = .ok (.istore_n 2, 1) := by decide +kernel
theorem d_Mo_bits_6 : decode b_Mo_bits 6 = .ok (.iconst 0, 1) := by decide +kernel
theorem d_Mo_bits_7 : decode b_Mo_bits 7 = .ok (.istore_n 3, 1) := by decide +kernel
theorem d_Mo_bits_8 : decode b_Mo_bits 8 = .ok (.iload_n 2, 1) := by decide +kernel
theorem d_Mo_bits_9 : decode b_Mo_bits 9 = .ok (.ifCond .le 22, 3) := by decide +kernel
theorem d_Mo_bits_12 : decode b_Mo_bits 12 = .ok (.aload_n 0, 1) := by decide +kernel
theorem d_Mo_bits_13 : decode b_Mo_bits 13 = .ok (.getfield 30, 3) := by decide +kernel
theorem d_Mo_bits_16 : decode b_Mo_bits 16 = .ok (.iload_n 2, 1) := by decide +kernel
theorem d_Mo_bits_17 : decode b_Mo_bits 17 = .ok (.iconst 1, 1) := by decide +kernel
theorem d_Mo_bits_18 : decode b_Mo_bits 18 = .ok (.isub, 1) := by decide +kernel
theorem d_Mo_bits_19 : decode b_Mo_bits 19 = .ok (.iaload, 1) := by decide +kernel
theorem d_Mo_bits_20 : decode b_Mo_bits 20 = .ok (.iload_n 3, 1) := by decide +kernel
theorem d_Mo_bits_21 : decode b_Mo_bits 21 = .ok (.ishr, 1) := by decide +kernel
theorem d_Mo_bits_22 : decode b_Mo_bits 22 = .ok (.ifCond .le 9, 3) := by decide +kernel
theorem d_Mo_bits_25 : decode b_Mo_bits 25 = .ok (.iinc 3 1, 3) := by decide +kernel
theorem d_Mo_bits_28 : decode b_Mo_bits 28 = .ok (.goto (-20), 3) := by decide +kernel
theorem d_Mo_bits_31 : decode b_Mo_bits 31 = .ok (.iload_n 2, 1) := by decide +kernel
theorem d_Mo_bits_32 : decode b_Mo_bits 32 = .ok (.ifCond .ne 7, 3) := by decide +kernel
theorem d_Mo_bits_35 : decode b_Mo_bits 35 = .ok (.iconst 0, 1) := by decide +kernel
theorem d_Mo_bits_36 : decode b_Mo_bits 36 = .ok (.goto 11, 3) := by decide +kernel
theorem d_Mo_bits_39 : decode b_Mo_bits 39 = .ok (.bipush 16, 2) := by decide +kernel
theorem d_Mo_bits_41 : decode b_Mo_bits 41 = .ok (.iload_n 2, 1) := by decide +kernel
theorem d_Mo_bits_42 : decode b_Mo_bits 42 = .ok (.iconst 1, 1) := by decide +kernel
theorem d_Mo_bits_43 : decode b_Mo_bits 43 = .ok (.isub, 1) := by decide +kernel
theorem d_Mo_bits_44 : decode b_Mo_bits 44 = .ok (.imul, 1) := by decide +kernel
theorem d_Mo_bits_45 : decode b_Mo_bits 45 = .ok (.iload_n 3, 1) := by decide +kernel
theorem d_Mo_bits_46 : decode b_Mo_bits 46 = .ok (.iadd, 1) := by decide +kernel
theorem d_Mo_bits_47 : decode b_Mo_bits 47 = .ok (.ireturn, 1) := by decide +kernel
theorem d_Mo_raise_0 : decode b_Mo_raise 0 = .ok (.aload_n 0, 1) := by decide +kernel
theorem d_Mo_raise_1 : decode b_Mo_raise 1 = .ok (.iconst 5, 1) := by decide +kernel
theorem d_Mo_raise_2 : decode b_Mo_raise 2 = .ok (.iload_n 1, 1) := by decide +kernel
theorem d_Mo_raise_3 : decode b_Mo_raise 3 = .ok (.invokevirtual 75, 3) := by decide +kernel
theorem d_Mo_raise_6 : decode b_Mo_raise 6 = .ok (.aload_n 0, 1) := by decide +kernel
theorem d_Mo_raise_7 : decode b_Mo_raise 7 = .ok (.iload_n 1, 1) := by decide +kernel
theorem d_Mo_raise_8 : decode b_Mo_raise 8 = .ok (.lconst 1, 1) := by decide +kernel
theorem d_Mo_raise_9 : decode b_Mo_raise 9 = .ok (.invokevirtual 111, 3) := by decide +kernel
theorem d_Mo_raise_12 : decode b_Mo_raise 12 = .ok (.iload_n 2, 1) := by decide +kernel
theorem d_Mo_raise_13 : decode b_Mo_raise 13 = .ok (.istore_n 3, 1) := by decide +kernel
theorem d_Mo_raise_14 : decode b_Mo_raise 14 = .ok (.iload_n 3, 1) := by decide +kernel
theorem d_Mo_raise_15 : decode b_Mo_raise 15 = .ok (.ifCond .le 47, 3) := by decide +kernel
theorem d_Mo_raise_18 : decode b_Mo_raise 18 = .ok (.iload_n 3, 1) := by decide +kernel
theorem d_Mo_raise_19 : decode b_Mo_raise 19 = .ok (.iconst 2, 1) := by decide +kernel
theorem d_Mo_raise_20 : decode b_Mo_raise 20 = .ok (.irem, 1) := by decide +kernel
theorem d_Mo_raise_21 : decode b_Mo_raise 21 = .ok (.iconst 1, 1) := by decide +kernel
theorem d_Mo_raise_22 : decode b_Mo_raise 22 = .ok (.if_icmp .ne 16, 3) := by decide +kernel
theorem d_Mo_raise_25 : decode b_Mo_raise 25 = .ok (.aload_n 0, 1) := by decide +kernel
theorem d_Mo_raise_26 : decode b_Mo_raise 26 = .ok (.iconst 4, 1) := by decide +kernel
theorem d_Mo_raise_27 : decode b_Mo_raise 27 = .ok (.iload_n 1, 1) := by decide +kernel
theorem d_Mo_raise_28 : decode b_Mo_raise 28 = .ok (.iconst 5, 1) := by decide +kernel
theorem d_Mo_raise_29 : decode b_Mo_raise 29 = .ok (.invokevirtual 121, 3) := by decide +kernel
theorem d_Mo_raise_32 : decode b_Mo_raise 32 = .ok (.aload_n 0, 1) := by decide +kernel
theorem d_Mo_raise_33 : decode b_Mo_raise 33 = .ok (.iload_n 1, 1) := by decide +kernel
theorem d_Mo_raise_34 : decode b_Mo_raise 34 = .ok (.iconst 4, 1) := by decide +kernel
theorem d_Mo_raise_35 : decode b_Mo_raise 35 = .ok (.invokevirtual 75, 3) := by decide +kernel
theorem d_Mo_raise_38 : decode b_Mo_raise 38 = .ok (.iload_n 3, 1) := by decide +kernel
theorem d_Mo_raise_39 : decode b_Mo_raise 39 = .ok (.iconst 2, 1) := by decide +kernel
theorem d_Mo_raise_40 : decode b_Mo_raise 40 = .ok (.idiv, 1) := by decide +kernel
theorem d_Mo_raise_41 : decode b_Mo_raise 41 = .ok (.istore_n 3, 1) := by decide +kernel
theorem d_Mo_raise_42 : decode b_Mo_raise 42 = .ok (.iload_n 3, 1) := by decide +kernel
theorem d_Mo_raise_43 : decode b_Mo_raise 43 = .ok (.ifCond .le (-29), 3) := by decide +kernel
theorem d_Mo_raise_46 : decode b_Mo_raise 46 = .ok (.aload_n 0, 1) := by decide +kernel
theorem d_Mo_raise_47 : decode b_Mo_raise 47 = .ok (.iconst 4, 1) := by decide +kernel
theorem d_Mo_raise_48 : decode b_Mo_raise 48 = .ok (.iconst 5, 1) := by decide +kernel
theorem d_Mo_raise_49 : decode b_Mo_raise 49 = .ok (.iconst 5, 1) := by decide +kernel
theorem d_Mo_raise_50 : decode b_Mo_raise 50 = .ok (.invokevirtual 121, 3) := by decide +kernel
theorem d_Mo_raise_53 : decode b_Mo_raise 53 = .ok (.aload_n 0, 1) := by decide +kernel
theorem d_Mo_raise_54 : decode b_Mo_raise 54 = .ok (.iconst 5, 1) := by decide +kernel
theorem d_Mo_raise_55 : decode b_Mo_raise 55 = .ok (.iconst 4, 1) := by decide +kernel
theorem d_Mo_raise_56 : decode b_Mo_raise 56 = .ok (.invokevirtual 75, 3) := by decide +kernel
theorem d_Mo_raise_59 : decode b_Mo_raise 59 = .ok (.goto (-45), 3) := by decide +kernel
theorem d_Mo_raise_62 : decode b_Mo_raise 62 = .ok (.return_, 1) := by decide +kernel
theorem d_Mo_dot_0 : decode b_Mo_dot 0 = .ok (.iload_n 1, 1) := by decide +kernel
theorem d_Mo_dot_1 : decode b_Mo_dot 1 = .ok (.invokestatic 108, 3) := by decide +kernel
theorem d_Mo_dot_4 : decode b_Mo_dot 4 = .ok (.ifCond .eq 44, 3) := by decide +kernel
theorem d_Mo_dot_7 : decode b_Mo_dot 7 = .ok (.iload_n 2, 1) := by decide +kernel
theorem d_Mo_dot_8 : decode b_Mo_dot 8 = .ok (.invokestatic 108, 3) := by decide +kernel
theorem d_Mo_dot_11 : decode b_Mo_dot 11 = .ok (.ifCond .eq 37, 3) := by decide +kernel
theorem d_Mo_dot_14 : decode b_Mo_dot 14 = .ok (.iload_n 3, 1) := by decide +kernel
theorem d_Mo_dot_15 : decode b_Mo_dot 15 = .ok (.invokestatic 108, 3) := by decide +kernel
theorem d_Mo_dot_18 : decode b_Mo_dot 18 = .ok (.ifCond .eq 30, 3) := by decide +kernel
theorem d_Mo_dot_21 : decode b_Mo_dot 21 = .ok (.iload 4, 2) := by decide +kernel
theorem d_Mo_dot_23 : decode b_Mo_dot 23 = .ok (.ifCond .le 21, 3) := by decide +kernel
theorem d_Mo_dot_26 : decode b_Mo_dot 26 = .ok (.iload 4, 2) := by decide +kernel
theorem d_Mo_dot_28 : decode b_Mo_dot 28 = .ok (.bipush 32, 2) := by decide +kernel
theorem d_Mo_dot_30 : decode b_Mo_dot 30 = .ok (.iload_n 2, 1) := by decide +kernel
theorem d_Mo_dot_31 : decode b_Mo_dot 31 = .ok (.isub, 1) := by decide +kernel
theorem d_Mo_dot_32 : decode b_Mo_dot 32 = .ok (.if_icmp .gt 16, 3) := by decide +kernel
theorem d_Mo_dot_35 : decode b_Mo_dot 35 = .ok (.iload 4, 2) := by decide +kernel
theorem d_Mo_dot_37 : decode b_Mo_dot 37 = .ok (.bipush 32, 2) := by decide +kernel
theorem d_Mo_dot_39 : decode b_Mo_dot 39 = .ok (.iload_n 3, 1) := by decide +kernel
theorem d_Mo_dot_40 : decode b_Mo_dot 40 = .ok (.isub, 1) := by decide +kernel
theorem d_Mo_dot_41 : decode b_Mo_dot 41 = .ok (.if_icmp .gt 7, 3) := by decide +kernel
theorem d_Mo_dot_44 : decode b_Mo_dot 44 = .ok (.iconst 1, 1) := by decide +kernel
theorem d_Mo_dot_45 : decode b_Mo_dot 45 = .ok (.goto 4, 3) := by decide +kernel
theorem d_Mo_dot_48 : decode b_Mo_dot 48 = .ok (.iconst 0, 1) := by decide +kernel
theorem d_Mo_dot_49 : decode b_Mo_dot 49 = .ok (.istore 5, 2) := by decide +kernel
theorem d_Mo_dot_51 : decode b_Mo_dot 51 = .ok (.aload_n 0, 1) := by decide +kernel
theorem d_Mo_dot_52 : decode b_Mo_dot 52 = .ok (.iload 5, 2) := by decide +kernel
theorem d_Mo_dot_54 : decode b_Mo_dot 54 = .ok (.ifCond .ne 7, 3) := by decide +kernel
theorem d_Mo_dot_57 : decode b_Mo_dot 57 = .ok (.iconst 1, 1) := by decide +kernel
theorem d_Mo_dot_58 : decode b_Mo_dot 58 = .ok (.goto 13, 3) := by decide +kernel
theorem d_Mo_dot_61 : decode b_Mo_dot 61 = .ok (.iload 4, 2) := by decide +kernel
theorem d_Mo_dot_63 : decode b_Mo_dot 63 = .ok (.ifCond .ge 7, 3) := by decide +kernel
theorem d_Mo_dot_66 : decode b_Mo_dot 66 = .ok (.iconst 2, 1) := by decide +kernel
theorem d_Mo_dot_67 : decode b_Mo_dot 67 = .ok (.goto 4, 3) := by decide +kernel
theorem d_Mo_dot_70 : decode b_Mo_dot 70 = .ok (.iconst 0, 1) := by decide +kernel
theorem d_Mo_dot_71 : decode b_Mo_dot 71 = .ok (.invokevirtual 101, 3) := by decide +kernel
theorem d_Mo_dot_74 : decode b_Mo_dot 74 = .ok (.ifCond .eq 5, 3) := by decide +kernel
theorem d_Mo_dot_77 : decode b_Mo_dot 77 = .ok (.iconst 0, 1) := by decide +kernel
theorem d_Mo_dot_78 : decode b_Mo_dot 78 = .ok (.ireturn, 1) := by decide +kernel
theorem d_Mo_dot_79 : decode b_Mo_dot 79 = .ok (.aload_n 0, 1) := by decide +kernel
theorem d_Mo_dot_80 : decode b_Mo_dot 80 = .ok (.iconst 0, 1) := by decide +kernel
theorem d_Mo_dot_81 : decode b_Mo_dot 81 = .ok (.lconst 0, 1) := by decide +kernel
theorem d_Mo_dot_82 : decode b_Mo_dot 82 = .ok (.invokevirtual 111, 3) := by decide +kernel
theorem d_Mo_dot_85 : decode b_Mo_dot 85 = .ok (.aload_n 0, 1) := by decide +kernel
theorem d_Mo_dot_86 : decode b_Mo_dot 86 = .ok (.iconst 1, 1) := by decide +kernel
theorem d_Mo_dot_87 : decode b_Mo_dot 87 = .ok (.lconst 1, 1) := by decide +kernel
theorem d_Mo_dot_88 : decode b_Mo_dot 88 = .ok (.invokevirtual 111, 3) := by decide +kernel
theorem d_Mo_dot_91 : decode b_Mo_dot 91 = .ok (.iconst 0, 1) := by decide +kernel
theorem d_Mo_dot_92 : decode b_Mo_dot 92 = .ok (.istore 6, 2) := by decide +kernel
theorem d_Mo_dot_94 : decode b_Mo_dot 94 = .ok (.iconst 0, 1) := by decide +kernel
theorem d_Mo_dot_95 : decode b_Mo_dot 95 = .ok (.istore 7, 2) := by decide +kernel
theorem d_Mo_dot_97 : decode b_Mo_dot 97 = .ok (.iload 7, 2) := by decide +kernel
theorem d_Mo_dot_99 : decode b_Mo_dot 99 = .ok (.iload 4, 2) := by decide +kernel
theorem d_Mo_dot_101 : decode b_Mo_dot 101 = .ok (.if_icmp .ge 102, 3) := by decide +kernel
theorem d_Mo_dot_104 : decode b_Mo_dot 104 = .ok (.aload_n 0, 1) := by decide +kernel
theorem d_Mo_dot_105 : decode b_Mo_dot 105 = .ok (.iconst 4, 1) := by decide +kernel
theorem d_Mo_dot_106 : decode b_Mo_dot 106 = .ok (.iconst 2, 1) := by decide +kernel
theorem d_Mo_dot_107 : decode b_Mo_dot 107 = .ok (.iload_n 2, 1) := by decide +kernel
theorem d_Mo_dot_108 : decode b_Mo_dot 108 = .ok (.iload 7, 2) := by decide +kernel
theorem d_Mo_dot_110 : decode b_Mo_dot 110 = .ok (.iadd, 1) := by decide +kernel
theorem d_Mo_dot_111 : decode b_Mo_dot 111 = .ok (.imul, 1) := by decide +kernel
theorem d_Mo_dot_112 : decode b_Mo_dot 112 = .ok (.invokevirtual 118, 3) := by decide +kernel
theorem d_Mo_dot_115 : decode b_Mo_dot 115 = .ok (.aload_n 0, 1) := by decide +kernel
theorem d_Mo_dot_116 : decode b_Mo_dot 116 = .ok (.iconst 5, 1) := by decide +kernel
theorem d_Mo_dot_117 : decode b_Mo_dot 117 = .ok (.iconst 2, 1) := by decide +kernel
theorem d_Mo_dot_118 : decode b_Mo_dot 118 = .ok (.iload_n 3, 1) := by decide +kernel
theorem d_Mo_dot_119 : decode b_Mo_dot 119 = .ok (.iload 7, 2) := by decide +kernel
theorem d_Mo_dot_121 : decode b_Mo_dot 121 = .ok (.iadd, 1) := by decide +kernel
theorem d_Mo_dot_122 : decode b_Mo_dot 122 = .ok (.imul, 1) := by decide +kernel
theorem d_Mo_dot_123 : decode b_Mo_dot 123 = .ok (.invokevirtual 118, 3) := by decide +kernel
theorem d_Mo_dot_126 : decode b_Mo_dot 126 = .ok (.aload_n 0, 1) := by decide +kernel
theorem d_Mo_dot_127 : decode b_Mo_dot 127 = .ok (.iconst 2, 1) := by decide +kernel
theorem d_Mo_dot_128 : decode b_Mo_dot 128 = .ok (.iconst 4, 1) := by decide +kernel
theorem d_Mo_dot_129 : decode b_Mo_dot 129 = .ok (.iconst 5, 1) := by decide +kernel
theorem d_Mo_dot_130 : decode b_Mo_dot 130 = .ok (.invokevirtual 121, 3) := by decide +kernel
theorem d_Mo_dot_133 : decode b_Mo_dot 133 = .ok (.aload_n 0, 1) := by decide +kernel
theorem d_Mo_dot_134 : decode b_Mo_dot 134 = .ok (.iconst 4, 1) := by decide +kernel
theorem d_Mo_dot_135 : decode b_Mo_dot 135 = .ok (.iconst 2, 1) := by decide +kernel
theorem d_Mo_dot_136 : decode b_Mo_dot 136 = .ok (.iload_n 2, 1) := by decide +kernel
theorem d_Mo_dot_137 : decode b_Mo_dot 137 = .ok (.iload 7, 2) := by decide +kernel
theorem d_Mo_dot_139 : decode b_Mo_dot 139 = .ok (.iadd, 1) := by decide +kernel
theorem d_Mo_dot_140 : decode b_Mo_dot 140 = .ok (.imul, 1) := by decide +kernel
theorem d_Mo_dot_141 : decode b_Mo_dot 141 = .ok (.iconst 1, 1) := by decide +kernel
theorem d_Mo_dot_142 : decode b_Mo_dot 142 = .ok (.iadd, 1) := by decide +kernel
theorem d_Mo_dot_143 : decode b_Mo_dot 143 = .ok (.invokevirtual 118, 3) := by decide +kernel
theorem d_Mo_dot_146 : decode b_Mo_dot 146 = .ok (.aload_n 0, 1) := by decide +kernel
theorem d_Mo_dot_147 : decode b_Mo_dot 147 = .ok (.iconst 5, 1) := by decide +kernel
theorem d_Mo_dot_148 : decode b_Mo_dot 148 = .ok (.iconst 2, 1) := by decide +kernel
theorem d_Mo_dot_149 : decode b_Mo_dot 149 = .ok (.iload_n 3, 1) := by decide +kernel
theorem d_Mo_dot_150 : decode b_Mo_dot 150 = .ok (.iload 7, 2) := by decide +kernel
theorem d_Mo_dot_152 : decode b_Mo_dot 152 = .ok (.iadd, 1) := by decide +kernel
theorem d_Mo_dot_153 : decode b_Mo_dot 153 = .ok (.imul, 1) := by decide +kernel
theorem d_Mo_dot_154 : decode b_Mo_dot 154 = .ok (.iconst 1, 1) := by decide +kernel
theorem d_Mo_dot_155 : decode b_Mo_dot 155 = .ok (.iadd, 1) := by decide +kernel
theorem d_Mo_dot_156 : decode b_Mo_dot 156 = .ok (.invokevirtual 118, 3) := by decide +kernel
theorem d_Mo_dot_159 : decode b_Mo_dot 159 = .ok (.aload_n 0, 1) := by decide +kernel
theorem d_Mo_dot_160 : decode b_Mo_dot 160 = .ok (.iconst 3, 1) := by decide +kernel
theorem d_Mo_dot_161 : decode b_Mo_dot 161 = .ok (.iconst 4, 1) := by decide +kernel
theorem d_Mo_dot_162 : decode b_Mo_dot 162 = .ok (.iconst 5, 1) := by decide +kernel
theorem d_Mo_dot_163 : decode b_Mo_dot 163 = .ok (.invokevirtual 121, 3) := by decide +kernel
theorem d_Mo_dot_166 : decode b_Mo_dot 166 = .ok (.aload_n 0, 1) := by decide +kernel
theorem d_Mo_dot_167 : decode b_Mo_dot 167 = .ok (.iload 6, 2) := by decide +kernel
theorem d_Mo_dot_169 : decode b_Mo_dot 169 = .ok (.aload_n 0, 1) := by decide +kernel
theorem d_Mo_dot_170 : decode b_Mo_dot 170 = .ok (.getfield 24, 3) := by decide +kernel
theorem d_Mo_dot_173 : decode b_Mo_dot 173 = .ok (.iload_n 2, 1) := by decide +kernel
theorem d_Mo_dot_174 : decode b_Mo_dot 174 = .ok (.iload 7, 2) := by decide +kernel
theorem d_Mo_dot_176 : decode b_Mo_dot 176 = .ok (.iadd, 1) := by decide +kernel
theorem d_Mo_dot_177 : decode b_Mo_dot 177 = .ok (.iaload, 1) := by decide +kernel
theorem d_Mo_dot_178 : decode b_Mo_dot 178 = .ok (.aload_n 0, 1) := by decide +kernel
theorem d_Mo_dot_179 : decode b_Mo_dot 179 = .ok (.getfield 24, 3) := by decide +kernel
theorem d_Mo_dot_182 : decode b_Mo_dot 182 = .ok (.iload_n 3, 1) := by decide +kernel
theorem d_Mo_dot_183 : decode b_Mo_dot 183 = .ok (.iload 7, 2) := by decide +kernel
theorem d_Mo_dot_185 : decode b_Mo_dot 185 = .ok (.iadd, 1) := by decide +kernel
theorem d_Mo_dot_186 : decode b_Mo_dot 186 = .ok (.iaload, 1) := by decide +kernel
theorem d_Mo_dot_187 : decode b_Mo_dot 187 = .ok (.imul, 1) := by decide +kernel
theorem d_Mo_dot_188 : decode b_Mo_dot 188 = .ok (.invokevirtual 133, 3) := by decide +kernel
theorem d_Mo_dot_191 : decode b_Mo_dot 191 = .ok (.istore 6, 2) := by decide +kernel
theorem d_Mo_dot_193 : decode b_Mo_dot 193 = .ok (.aload_n 0, 1) := by decide +kernel
theorem d_Mo_dot_194 : decode b_Mo_dot 194 = .ok (.invokevirtual 87, 3) := by decide +kernel
theorem d_Mo_dot_197 : decode b_Mo_dot 197 = .ok (.iinc 7 1, 3) := by decide +kernel
theorem d_Mo_dot_200 : decode b_Mo_dot 200 = .ok (.goto (-103), 3) := by decide +kernel
theorem d_Mo_dot_203 : decode b_Mo_dot 203 = .ok (.aload_n 0, 1) := by decide +kernel
theorem d_Mo_dot_204 : decode b_Mo_dot 204 = .ok (.iload_n 1, 1) := by decide +kernel
theorem d_Mo_dot_205 : decode b_Mo_dot 205 = .ok (.iload 6, 2) := by decide +kernel
theorem d_Mo_dot_207 : decode b_Mo_dot 207 = .ok (.iconst 3, 1) := by decide +kernel
theorem d_Mo_dot_208 : decode b_Mo_dot 208 = .ok (.invokevirtual 90, 3) := by decide +kernel
theorem d_Mo_dot_211 : decode b_Mo_dot 211 = .ok (.ireturn, 1) := by decide +kernel
theorem d_Mo_floor_0 : decode b_Mo_floor 0 = .ok (.aload_n 0, 1) := by decide +kernel
theorem d_Mo_floor_1 : decode b_Mo_floor 1 = .ok (.iload_n 1, 1) := by decide +kernel
theorem d_Mo_floor_2 : decode b_Mo_floor 2 = .ok (.invokestatic 108, 3) := by decide +kernel
theorem d_Mo_floor_5 : decode b_Mo_floor 5 = .ok (.ifCond .eq 14, 3) := by decide +kernel
theorem d_Mo_floor_8 : decode b_Mo_floor 8 = .ok (.iload_n 2, 1) := by decide +kernel
theorem d_Mo_floor_9 : decode b_Mo_floor 9 = .ok (.invokestatic 108, 3) := by decide +kernel
theorem d_Mo_floor_12 : decode b_Mo_floor 12 = .ok (.ifCond .eq 7, 3) := by decide +kernel
theorem d_Mo_floor_15 : decode b_Mo_floor 15 = .ok (.iconst 0, 1) := by decide +kernel
theorem d_Mo_floor_16 : decode b_Mo_floor 16 = .ok (.goto 4, 3) := by decide +kernel
theorem d_Mo_floor_19 : decode b_Mo_floor 19 = .ok (.iconst 1, 1) := by decide +kernel
theorem d_Mo_floor_20 : decode b_Mo_floor 20 = .ok (.invokevirtual 101, 3) := by decide +kernel
theorem d_Mo_floor_23 : decode b_Mo_floor 23 = .ok (.ifCond .eq 5, 3) := by decide +kernel
theorem d_Mo_floor_26 : decode b_Mo_floor 26 = .ok (.iconst 0, 1) := by decide +kernel
theorem d_Mo_floor_27 : decode b_Mo_floor 27 = .ok (.ireturn, 1) := by decide +kernel
theorem d_Mo_floor_28 : decode b_Mo_floor 28 = .ok (.aload_n 0, 1) := by decide +kernel
theorem d_Mo_floor_29 : decode b_Mo_floor 29 = .ok (.iconst 0, 1) := by decide +kernel
theorem d_Mo_floor_30 : decode b_Mo_floor 30 = .ok (.iconst 2, 1) := by decide +kernel
theorem d_Mo_floor_31 : decode b_Mo_floor 31 = .ok (.iload_n 2, 1) := by decide +kernel
theorem d_Mo_floor_32 : decode b_Mo_floor 32 = .ok (.imul, 1) := by decide +kernel
theorem d_Mo_floor_33 : decode b_Mo_floor 33 = .ok (.invokevirtual 118, 3) := by decide +kernel
theorem d_Mo_floor_36 : decode b_Mo_floor 36 = .ok (.aload_n 0, 1) := by decide +kernel
theorem d_Mo_floor_37 : decode b_Mo_floor 37 = .ok (.iconst 1, 1) := by decide +kernel
theorem d_Mo_floor_38 : decode b_Mo_floor 38 = .ok (.iconst 2, 1) := by decide +kernel
theorem d_Mo_floor_39 : decode b_Mo_floor 39 = .ok (.iload_n 2, 1) := by decide +kernel
theorem d_Mo_floor_40 : decode b_Mo_floor 40 = .ok (.imul, 1) := by decide +kernel
theorem d_Mo_floor_41 : decode b_Mo_floor 41 = .ok (.iconst 1, 1) := by decide +kernel
theorem d_Mo_floor_42 : decode b_Mo_floor 42 = .ok (.iadd, 1) := by decide +kernel
theorem d_Mo_floor_43 : decode b_Mo_floor 43 = .ok (.invokevirtual 118, 3) := by decide +kernel
theorem d_Mo_floor_46 : decode b_Mo_floor 46 = .ok (.aload_n 0, 1) := by decide +kernel
theorem d_Mo_floor_47 : decode b_Mo_floor 47 = .ok (.iconst 2, 1) := by decide +kernel
theorem d_Mo_floor_48 : decode b_Mo_floor 48 = .ok (.iconst 0, 1) := by decide +kernel
theorem d_Mo_floor_49 : decode b_Mo_floor 49 = .ok (.iconst 1, 1) := by decide +kernel
theorem d_Mo_floor_50 : decode b_Mo_floor 50 = .ok (.invokevirtual 71, 3) := by decide +kernel
theorem d_Mo_floor_53 : decode b_Mo_floor 53 = .ok (.aload_n 0, 1) := by decide +kernel
theorem d_Mo_floor_54 : decode b_Mo_floor 54 = .ok (.getfield 24, 3) := by decide +kernel
theorem d_Mo_floor_57 : decode b_Mo_floor 57 = .ok (.iload_n 2, 1) := by decide +kernel
theorem d_Mo_floor_58 : decode b_Mo_floor 58 = .ok (.iaload, 1) := by decide +kernel
theorem d_Mo_floor_59 : decode b_Mo_floor 59 = .ok (.ifCond .ge 24, 3) := by decide +kernel
theorem d_Mo_floor_62 : decode b_Mo_floor 62 = .ok (.aload_n 0, 1) := by decide +kernel
theorem d_Mo_floor_63 : decode b_Mo_floor 63 = .ok (.getfield 14, 3) := by decide +kernel
theorem d_Mo_floor_66 : decode b_Mo_floor 66 = .ok (.iconst 0, 1) := by decide +kernel
theorem d_Mo_floor_67 : decode b_Mo_floor 67 = .ok (.iaload, 1) := by decide +kernel
theorem d_Mo_floor_68 : decode b_Mo_floor 68 = .ok (.ifCond .le 15, 3) := by decide +kernel
theorem d_Mo_floor_71 : decode b_Mo_floor 71 = .ok (.aload_n 0, 1) := by decide +kernel
theorem d_Mo_floor_72 : decode b_Mo_floor 72 = .ok (.iconst 5, 1) := by decide +kernel
theorem d_Mo_floor_73 : decode b_Mo_floor 73 = .ok (.lconst 1, 1) := by decide +kernel
theorem d_Mo_floor_74 : decode b_Mo_floor 74 = .ok (.invokevirtual 111, 3) := by decide +kernel
theorem d_Mo_floor_77 : decode b_Mo_floor 77 = .ok (.aload_n 0, 1) := by decide +kernel
theorem d_Mo_floor_78 : decode b_Mo_floor 78 = .ok (.iconst 2, 1) := by decide +kernel
theorem d_Mo_floor_79 : decode b_Mo_floor 79 = .ok (.iconst 5, 1) := by decide +kernel
theorem d_Mo_floor_80 : decode b_Mo_floor 80 = .ok (.invokevirtual 124, 3) := by decide +kernel
theorem d_Mo_floor_83 : decode b_Mo_floor 83 = .ok (.aload_n 0, 1) := by decide +kernel
theorem d_Mo_floor_84 : decode b_Mo_floor 84 = .ok (.iconst 0, 1) := by decide +kernel
theorem d_Mo_floor_85 : decode b_Mo_floor 85 = .ok (.iconst 2, 1) := by decide +kernel
theorem d_Mo_floor_86 : decode b_Mo_floor 86 = .ok (.invokevirtual 75, 3) := by decide +kernel
theorem d_Mo_floor_89 : decode b_Mo_floor 89 = .ok (.aload_n 0, 1) := by decide +kernel
theorem d_Mo_floor_90 : decode b_Mo_floor 90 = .ok (.iconst 1, 1) := by decide +kernel
theorem d_Mo_floor_91 : decode b_Mo_floor 91 = .ok (.lconst 1, 1) := by decide +kernel
theorem d_Mo_floor_92 : decode b_Mo_floor 92 = .ok (.invokevirtual 111, 3) := by decide +kernel
theorem d_Mo_floor_95 : decode b_Mo_floor 95 = .ok (.aload_n 0, 1) := by decide +kernel
theorem d_Mo_floor_96 : decode b_Mo_floor 96 = .ok (.iload_n 1, 1) := by decide +kernel
theorem d_Mo_floor_97 : decode b_Mo_floor 97 = .ok (.aload_n 0, 1) := by decide +kernel
theorem d_Mo_floor_98 : decode b_Mo_floor 98 = .ok (.getfield 24, 3) := by decide +kernel
theorem d_Mo_floor_101 : decode b_Mo_floor 101 = .ok (.iload_n 2, 1) := by decide +kernel
theorem d_Mo_floor_102 : decode b_Mo_floor 102 = .ok (.iaload, 1) := by decide +kernel
theorem d_Mo_floor_103 : decode b_Mo_floor 103 = .ok (.iconst 2, 1) := by decide +kernel
theorem d_Mo_floor_104 : decode b_Mo_floor 104 = .ok (.invokevirtual 90, 3) := by decide +kernel
theorem d_Mo_floor_107 : decode b_Mo_floor 107 = .ok (.ireturn, 1) := by decide +kernel
theorem d_Mo_round_0 : decode b_Mo_round 0 = .ok (.aload_n 0, 1) := by decide +kernel
theorem d_Mo_round_1 : decode b_Mo_round 1 = .ok (.iload_n 1, 1) := by decide +kernel
theorem d_Mo_round_2 : decode b_Mo_round 2 = .ok (.invokestatic 108, 3) := by decide +kernel
theorem d_Mo_round_5 : decode b_Mo_round 5 = .ok (.ifCond .eq 10, 3) := by decide +kernel
theorem d_Mo_round_8 : decode b_Mo_round 8 = .ok (.iload_n 2, 1) := by decide +kernel
theorem d_Mo_round_9 : decode b_Mo_round 9 = .ok (.invokestatic 108, 3) := by decide +kernel
theorem d_Mo_round_12 : decode b_Mo_round 12 = .ok (.ifCond .ne 7, 3) := by decide +kernel
theorem d_Mo_round_15 : decode b_Mo_round 15 = .ok (.iconst 1, 1) := by decide +kernel
theorem d_Mo_round_16 : decode b_Mo_round 16 = .ok (.goto 20, 3) := by decide +kernel
theorem d_Mo_round_19 : decode b_Mo_round 19 = .ok (.iload_n 3, 1) := by decide +kernel
theorem d_Mo_round_20 : decode b_Mo_round 20 = .ok (.iconst 1, 1) := by decide +kernel
theorem d_Mo_round_21 : decode b_Mo_round 21 = .ok (.if_icmp .lt 10, 3) := by decide +kernel
theorem d_Mo_round_24 : decode b_Mo_round 24 = .ok (.iload_n 3, 1) := by decide +kernel
theorem d_Mo_round_25 : decode b_Mo_round 25 = .ok (.sipush 1024, 3) := by decide +kernel
theorem d_Mo_round_28 : decode b_Mo_round 28 = .ok (.if_icmp .le 7, 3) := by decide +kernel
theorem d_Mo_round_31 : decode b_Mo_round 31 = .ok (.iconst 2, 1) := by decide +kernel
theorem d_Mo_round_32 : decode b_Mo_round 32 = .ok (.goto 4, 3) := by decide +kernel
theorem d_Mo_round_35 : decode b_Mo_round 35 = .ok (.iconst 0, 1) := by decide +kernel
theorem d_Mo_round_36 : decode b_Mo_round 36 = .ok (.invokevirtual 101, 3) := by decide +kernel
theorem d_Mo_round_39 : decode b_Mo_round 39 = .ok (.ifCond .eq 5, 3) := by decide +kernel
theorem d_Mo_round_42 : decode b_Mo_round 42 = .ok (.iconst 0, 1) := by decide +kernel
theorem d_Mo_round_43 : decode b_Mo_round 43 = .ok (.ireturn, 1) := by decide +kernel
theorem d_Mo_round_44 : decode b_Mo_round 44 = .ok (.aload_n 0, 1) := by decide +kernel
theorem d_Mo_round_45 : decode b_Mo_round 45 = .ok (.getfield 24, 3) := by decide +kernel
theorem d_Mo_round_48 : decode b_Mo_round 48 = .ok (.iload_n 2, 1) := by decide +kernel
theorem d_Mo_round_49 : decode b_Mo_round 49 = .ok (.iaload, 1) := by decide +kernel
theorem d_Mo_round_50 : decode b_Mo_round 50 = .ok (.ifCond .ne 10, 3) := by decide +kernel
theorem d_Mo_round_53 : decode b_Mo_round 53 = .ok (.aload_n 0, 1) := by decide +kernel
theorem d_Mo_round_54 : decode b_Mo_round 54 = .ok (.iload_n 1, 1) := by decide +kernel
theorem d_Mo_round_55 : decode b_Mo_round 55 = .ok (.iload_n 2, 1) := by decide +kernel
theorem d_Mo_round_56 : decode b_Mo_round 56 = .ok (.invokevirtual 157, 3) := by decide +kernel
theorem d_Mo_round_59 : decode b_Mo_round 59 = .ok (.ireturn, 1) := by decide +kernel
theorem d_Mo_round_60 : decode b_Mo_round 60 = .ok (.aload_n 0, 1) := by decide +kernel
theorem d_Mo_round_61 : decode b_Mo_round 61 = .ok (.iconst 0, 1) := by decide +kernel
theorem d_Mo_round_62 : decode b_Mo_round 62 = .ok (.iconst 2, 1) := by decide +kernel
theorem d_Mo_round_63 : decode b_Mo_round 63 = .ok (.iload_n 2, 1) := by decide +kernel
theorem d_Mo_round_64 : decode b_Mo_round 64 = .ok (.imul, 1) := by decide +kernel
theorem d_Mo_round_65 : decode b_Mo_round 65 = .ok (.invokevirtual 118, 3) := by decide +kernel
theorem d_Mo_round_68 : decode b_Mo_round 68 = .ok (.aload_n 0, 1) := by decide +kernel
theorem d_Mo_round_69 : decode b_Mo_round 69 = .ok (.iconst 1, 1) := by decide +kernel
theorem d_Mo_round_70 : decode b_Mo_round 70 = .ok (.iconst 2, 1) := by decide +kernel
theorem d_Mo_round_71 : decode b_Mo_round 71 = .ok (.iload_n 2, 1) := by decide +kernel
theorem d_Mo_round_72 : decode b_Mo_round 72 = .ok (.imul, 1) := by decide +kernel
theorem d_Mo_round_73 : decode b_Mo_round 73 = .ok (.iconst 1, 1) := by decide +kernel
theorem d_Mo_round_74 : decode b_Mo_round 74 = .ok (.iadd, 1) := by decide +kernel
theorem d_Mo_round_75 : decode b_Mo_round 75 = .ok (.invokevirtual 118, 3) := by decide +kernel
theorem d_Mo_round_78 : decode b_Mo_round 78 = .ok (.aload_n 0, 1) := by decide +kernel
theorem d_Mo_round_79 : decode b_Mo_round 79 = .ok (.iconst 0, 1) := by decide +kernel
theorem d_Mo_round_80 : decode b_Mo_round 80 = .ok (.invokevirtual 143, 3) := by decide +kernel
theorem d_Mo_round_83 : decode b_Mo_round 83 = .ok (.aload_n 0, 1) := by decide +kernel
theorem d_Mo_round_84 : decode b_Mo_round 84 = .ok (.iconst 1, 1) := by decide +kernel
theorem d_Mo_round_85 : decode b_Mo_round 85 = .ok (.invokevirtual 143, 3) := by decide +kernel
theorem d_Mo_round_88 : decode b_Mo_round 88 = .ok (.isub, 1) := by decide +kernel
theorem d_Mo_round_89 : decode b_Mo_round 89 = .ok (.iload_n 3, 1) := by decide +kernel
theorem d_Mo_round_90 : decode b_Mo_round 90 = .ok (.isub, 1) := by decide +kernel
theorem d_Mo_round_91 : decode b_Mo_round 91 = .ok (.istore 4, 2) := by decide +kernel
theorem d_Mo_round_93 : decode b_Mo_round 93 = .ok (.iload 4, 2) := by decide +kernel
theorem d_Mo_round_95 : decode b_Mo_round 95 = .ok (.iload_n 3, 1) := by decide +kernel
theorem d_Mo_round_96 : decode b_Mo_round 96 = .ok (.iadd, 1) := by decide +kernel
theorem d_Mo_round_97 : decode b_Mo_round 97 = .ok (.istore 5, 2) := by decide +kernel
theorem d_Mo_round_99 : decode b_Mo_round 99 = .ok (.aload_n 0, 1) := by decide +kernel
theorem d_Mo_round_100 : decode b_Mo_round 100 = .ok (.iload 5, 2) := by decide +kernel
theorem d_Mo_round_102 : decode b_Mo_round 102 = .ok (.ifCond .ge 7, 3) := by decide +kernel
theorem d_Mo_round_105 : decode b_Mo_round 105 = .ok (.iconst 0, 1) := by decide +kernel
theorem d_Mo_round_106 : decode b_Mo_round 106 = .ok (.goto 4, 3) := by decide +kernel
theorem d_Mo_round_109 : decode b_Mo_round 109 = .ok (.iconst 1, 1) := by decide +kernel
theorem d_Mo_round_110 : decode b_Mo_round 110 = .ok (.iload 5, 2) := by decide +kernel
theorem d_Mo_round_112 : decode b_Mo_round 112 = .ok (.ifCond .ge 9, 3) := by decide +kernel
theorem d_Mo_round_115 : decode b_Mo_round 115 = .ok (.iload 5, 2) := by decide +kernel
theorem d_Mo_round_117 : decode b_Mo_round 117 = .ok (.ineg, 1) := by decide +kernel
theorem d_Mo_round_118 : decode b_Mo_round 118 = .ok (.goto 5, 3) := by decide +kernel
theorem d_Mo_round_121 : decode b_Mo_round 121 = .ok (.iload 5, 2) := by decide +kernel
theorem d_Mo_round_123 : decode b_Mo_round 123 = .ok (.invokevirtual 151, 3) := by decide +kernel
theorem d_Mo_round_126 : decode b_Mo_round 126 = .ok (.iload 4, 2) := by decide +kernel
theorem d_Mo_round_128 : decode b_Mo_round 128 = .ok (.aload_n 0, 1) := by decide +kernel
theorem d_Mo_round_129 : decode b_Mo_round 129 = .ok (.iconst 0, 1) := by decide +kernel
theorem d_Mo_round_130 : decode b_Mo_round 130 = .ok (.iconst 1, 1) := by decide +kernel
theorem d_Mo_round_131 : decode b_Mo_round 131 = .ok (.invokevirtual 127, 3) := by decide +kernel
theorem d_Mo_round_134 : decode b_Mo_round 134 = .ok (.ifCond .lt 7, 3) := by decide +kernel
theorem d_Mo_round_137 : decode b_Mo_round 137 = .ok (.iconst 1, 1) := by decide +kernel
theorem d_Mo_round_138 : decode b_Mo_round 138 = .ok (.goto 4, 3) := by decide +kernel
theorem d_Mo_round_141 : decode b_Mo_round 141 = .ok (.iconst 0, 1) := by decide +kernel
theorem d_Mo_round_142 : decode b_Mo_round 142 = .ok (.iadd, 1) := by decide +kernel
theorem d_Mo_round_143 : decode b_Mo_round 143 = .ok (.istore 4, 2) := by decide +kernel
theorem d_Mo_round_145 : decode b_Mo_round 145 = .ok (.aload_n 0, 1) := by decide +kernel
theorem d_Mo_round_146 : decode b_Mo_round 146 = .ok (.iload_n 1, 1) := by decide +kernel
theorem d_Mo_round_147 : decode b_Mo_round 147 = .ok (.iload_n 2, 1) := by decide +kernel
theorem d_Mo_round_148 : decode b_Mo_round 148 = .ok (.iload 4, 2) := by decide +kernel
theorem d_Mo_round_150 : decode b_Mo_round 150 = .ok (.invokevirtual 160, 3) := by decide +kernel
theorem d_Mo_round_153 : decode b_Mo_round 153 = .ok (.ireturn, 1) := by decide +kernel
theorem d_Mo_doubled_0 : decode b_Mo_doubled 0 = .ok (.iload_n 2, 1) := by decide +kernel
theorem d_Mo_doubled_1 : decode b_Mo_doubled 1 = .ok (.istore_n 3, 1) := by decide +kernel
theorem d_Mo_doubled_2 : decode b_Mo_doubled 2 = .ok (.iload_n 3, 1) := by decide +kernel
theorem d_Mo_doubled_3 : decode b_Mo_doubled 3 = .ok (.bipush 24, 2) := by decide +kernel
theorem d_Mo_doubled_5 : decode b_Mo_doubled 5 = .ok (.if_icmp .lt 16, 3) := by decide +kernel
theorem d_Mo_doubled_8 : decode b_Mo_doubled 8 = .ok (.aload_n 0, 1) := by decide +kernel
theorem d_Mo_doubled_9 : decode b_Mo_doubled 9 = .ok (.iload_n 1, 1) := by decide +kernel
theorem d_Mo_doubled_10 : decode b_Mo_doubled 10 = .ok (.ldc 59, 2) := by decide +kernel
theorem d_Mo_doubled_12 : decode b_Mo_doubled 12 = .ok (.invokevirtual 60, 3) := by decide +kernel
theorem d_Mo_doubled_15 : decode b_Mo_doubled 15 = .ok (.iinc 3 (-24), 3) := by decide +kernel
theorem d_Mo_doubled_18 : decode b_Mo_doubled 18 = .ok (.goto (-16), 3) := by decide +kernel
theorem d_Mo_doubled_21 : decode b_Mo_doubled 21 = .ok (.aload_n 0, 1) := by decide +kernel
theorem d_Mo_doubled_22 : decode b_Mo_doubled 22 = .ok (.iload_n 1, 1) := by decide +kernel
theorem d_Mo_doubled_23 : decode b_Mo_doubled 23 = .ok (.iconst 1, 1) := by decide +kernel
theorem d_Mo_doubled_24 : decode b_Mo_doubled 24 = .ok (.iload_n 3, 1) := by decide +kernel
theorem d_Mo_doubled_25 : decode b_Mo_doubled 25 = .ok (.ishl, 1) := by decide +kernel
theorem d_Mo_doubled_26 : decode b_Mo_doubled 26 = .ok (.invokevirtual 60, 3) := by decide +kernel
theorem d_Mo_doubled_29 : decode b_Mo_doubled 29 = .ok (.return_, 1) := by decide +kernel
theorem d_Mo_small_0 : decode b_Mo_small 0 = .ok (.lconst 0, 1) := by decide +kernel
theorem d_Mo_small_1 : decode b_Mo_small 1 = .ok (.lstore_n 3, 1) := by decide +kernel
theorem d_Mo_small_2 : decode b_Mo_small 2 = .ok (.aload_n 0, 1) := by decide +kernel
theorem d_Mo_small_3 : decode b_Mo_small 3 = .ok (.getfield 14, 3) := by decide +kernel
theorem d_Mo_small_6 : decode b_Mo_small 6 = .ok (.iload_n 1, 1) := by decide +kernel
theorem d_Mo_small_7 : decode b_Mo_small 7 = .ok (.iaload, 1) := by decide +kernel
theorem d_Mo_small_8 : decode b_Mo_small 8 = .ok (.istore 5, 2) := by decide +kernel
theorem d_Mo_small_10 : decode b_Mo_small 10 = .ok (.iconst 0, 1) := by decide +kernel
theorem d_Mo_small_11 : decode b_Mo_small 11 = .ok (.istore 6, 2) := by decide +kernel
theorem d_Mo_small_13 : decode b_Mo_small 13 = .ok (.iload 6, 2) := by decide +kernel
theorem d_Mo_small_15 : decode b_Mo_small 15 = .ok (.iload 5, 2) := by decide +kernel
theorem d_Mo_small_17 : decode b_Mo_small 17 = .ok (.if_icmp .ge 54, 3) := by decide +kernel
theorem d_Mo_small_20 : decode b_Mo_small 20 = .ok (.lload_n 3, 1) := by decide +kernel
theorem d_Mo_small_21 : decode b_Mo_small 21 = .ok (.aload_n 0, 1) := by decide +kernel
theorem d_Mo_small_22 : decode b_Mo_small 22 = .ok (.getfield 8, 3) := by decide +kernel
theorem d_Mo_small_25 : decode b_Mo_small 25 = .ok (.sipush 12000, 3) := by decide +kernel
theorem d_Mo_small_28 : decode b_Mo_small 28 = .ok (.iload_n 1, 1) := by decide +kernel
theorem d_Mo_small_29 : decode b_Mo_small 29 = .ok (.imul, 1) := by decide +kernel
theorem d_Mo_small_30 : decode b_Mo_small 30 = .ok (.iload 6, 2) := by decide +kernel
theorem d_Mo_small_32 : decode b_Mo_small 32 = .ok (.iadd, 1) := by decide +kernel
theorem d_Mo_small_33 : decode b_Mo_small 33 = .ok (.iaload, 1) := by decide +kernel
theorem d_Mo_small_34 : decode b_Mo_small 34 = .ok (.i2l, 1) := by decide +kernel
theorem d_Mo_small_35 : decode b_Mo_small 35 = .ok (.iload_n 2, 1) := by decide +kernel
theorem d_Mo_small_36 : decode b_Mo_small 36 = .ok (.i2l, 1) := by decide +kernel
theorem d_Mo_small_37 : decode b_Mo_small 37 = .ok (.lmul, 1) := by decide +kernel
theorem d_Mo_small_38 : decode b_Mo_small 38 = .ok (.ladd, 1) := by decide +kernel
theorem d_Mo_small_39 : decode b_Mo_small 39 = .ok (.lstore_n 3, 1) := by decide +kernel
theorem d_Mo_small_40 : decode b_Mo_small 40 = .ok (.aload_n 0, 1) := by decide +kernel
theorem d_Mo_small_41 : decode b_Mo_small 41 = .ok (.getfield 8, 3) := by decide +kernel
theorem d_Mo_small_44 : decode b_Mo_small 44 = .ok (.sipush 12000, 3) := by decide +kernel
theorem d_Mo_small_47 : decode b_Mo_small 47 = .ok (.iload_n 1, 1) := by decide +kernel
theorem d_Mo_small_48 : decode b_Mo_small 48 = .ok (.imul, 1) := by decide +kernel
theorem d_Mo_small_49 : decode b_Mo_small 49 = .ok (.iload 6, 2) := by decide +kernel
theorem d_Mo_small_51 : decode b_Mo_small 51 = .ok (.iadd, 1) := by decide +kernel
theorem d_Mo_small_52 : decode b_Mo_small 52 = .ok (.lload_n 3, 1) := by decide +kernel
theorem d_Mo_small_53 : decode b_Mo_small 53 = .ok (.ldc2_w 49, 3) := by decide +kernel
theorem d_Mo_small_56 : decode b_Mo_small 56 = .ok (.lrem, 1) := by decide +kernel
theorem d_Mo_small_57 : decode b_Mo_small 57 = .ok (.l2i, 1) := by decide +kernel
theorem d_Mo_small_58 : decode b_Mo_small 58 = .ok (.iastore, 1) := by decide +kernel
theorem d_Mo_small_59 : decode b_Mo_small 59 = .ok (.lload_n 3, 1) := by decide +kernel
theorem d_Mo_small_60 : decode b_Mo_small 60 = .ok (.ldc2_w 49, 3) := by decide +kernel
theorem d_Mo_small_63 : decode b_Mo_small 63 = .ok (.ldiv, 1) := by decide +kernel
theorem d_Mo_small_64 : decode b_Mo_small 64 = .ok (.lstore_n 3, 1) := by decide +kernel
theorem d_Mo_small_65 : decode b_Mo_small 65 = .ok (.iinc 6 1, 3) := by decide +kernel
theorem d_Mo_small_68 : decode b_Mo_small 68 = .ok (.goto (-55), 3) := by decide +kernel
theorem d_Mo_small_71 : decode b_Mo_small 71 = .ok (.lload_n 3, 1) := by decide +kernel
theorem d_Mo_small_72 : decode b_Mo_small 72 = .ok (.lconst 0, 1) := by decide +kernel
theorem d_Mo_small_73 : decode b_Mo_small 73 = .ok (.lcmp, 1) := by decide +kernel
theorem d_Mo_small_74 : decode b_Mo_small 74 = .ok (.ifCond .le 34, 3) := by decide +kernel
theorem d_Mo_small_77 : decode b_Mo_small 77 = .ok (.aload_n 0, 1) := by decide +kernel
theorem d_Mo_small_78 : decode b_Mo_small 78 = .ok (.getfield 8, 3) := by decide +kernel
theorem d_Mo_small_81 : decode b_Mo_small 81 = .ok (.sipush 12000, 3) := by decide +kernel
theorem d_Mo_small_84 : decode b_Mo_small 84 = .ok (.iload_n 1, 1) := by decide +kernel
theorem d_Mo_small_85 : decode b_Mo_small 85 = .ok (.imul, 1) := by decide +kernel
theorem d_Mo_small_86 : decode b_Mo_small 86 = .ok (.iload 5, 2) := by decide +kernel
theorem d_Mo_small_88 : decode b_Mo_small 88 = .ok (.iadd, 1) := by decide +kernel
theorem d_Mo_small_89 : decode b_Mo_small 89 = .ok (.lload_n 3, 1) := by decide +kernel
theorem d_Mo_small_90 : decode b_Mo_small 90 = .ok (.ldc2_w 49, 3) := by decide +kernel
theorem d_Mo_small_93 : decode b_Mo_small 93 = .ok (.lrem, 1) := by decide +kernel
theorem d_Mo_small_94 : decode b_Mo_small 94 = .ok (.l2i, 1) := by decide +kernel
theorem d_Mo_small_95 : decode b_Mo_small 95 = .ok (.iastore, 1) := by decide +kernel
theorem d_Mo_small_96 : decode b_Mo_small 96 = .ok (.lload_n 3, 1) := by decide +kernel
theorem d_Mo_small_97 : decode b_Mo_small 97 = .ok (.ldc2_w 49, 3) := by decide +kernel
theorem d_Mo_small_100 : decode b_Mo_small 100 = .ok (.ldiv, 1) := by decide +kernel
theorem d_Mo_small_101 : decode b_Mo_small 101 = .ok (.lstore_n 3, 1) := by decide +kernel
theorem d_Mo_small_102 : decode b_Mo_small 102 = .ok (.iinc 5 1, 3) := by decide +kernel
theorem d_Mo_small_105 : decode b_Mo_small 105 = .ok (.goto (-34), 3) := by decide +kernel
theorem d_Mo_small_108 : decode b_Mo_small 108 = .ok (.aload_n 0, 1) := by decide +kernel
theorem d_Mo_small_109 : decode b_Mo_small 109 = .ok (.iload_n 1, 1) := by decide +kernel
theorem d_Mo_small_110 : decode b_Mo_small 110 = .ok (.iload 5, 2) := by decide +kernel
theorem d_Mo_small_112 : decode b_Mo_small 112 = .ok (.invokevirtual 55, 3) := by decide +kernel
theorem d_Mo_small_115 : decode b_Mo_small 115 = .ok (.return_, 1) := by decide +kernel
theorem d_Mo_multiple_0 : decode b_Mo_multiple 0 = .ok (.aload_n 0, 1) := by decide +kernel
theorem d_Mo_multiple_1 : decode b_Mo_multiple 1 = .ok (.iconst 0, 1) := by decide +kernel
theorem d_Mo_multiple_2 : decode b_Mo_multiple 2 = .ok (.iconst 2, 1) := by decide +kernel
theorem d_Mo_multiple_3 : decode b_Mo_multiple 3 = .ok (.iload_n 2, 1) := by decide +kernel
theorem d_Mo_multiple_4 : decode b_Mo_multiple 4 = .ok (.imul, 1) := by decide +kernel
theorem d_Mo_multiple_5 : decode b_Mo_multiple 5 = .ok (.invokevirtual 118, 3) := by decide +kernel
theorem d_Mo_multiple_8 : decode b_Mo_multiple 8 = .ok (.aload_n 0, 1) := by decide +kernel
theorem d_Mo_multiple_9 : decode b_Mo_multiple 9 = .ok (.iconst 1, 1) := by decide +kernel
theorem d_Mo_multiple_10 : decode b_Mo_multiple 10 = .ok (.iconst 2, 1) := by decide +kernel
theorem d_Mo_multiple_11 : decode b_Mo_multiple 11 = .ok (.iload_n 2, 1) := by decide +kernel
theorem d_Mo_multiple_12 : decode b_Mo_multiple 12 = .ok (.imul, 1) := by decide +kernel
theorem d_Mo_multiple_13 : decode b_Mo_multiple 13 = .ok (.iconst 1, 1) := by decide +kernel
theorem d_Mo_multiple_14 : decode b_Mo_multiple 14 = .ok (.iadd, 1) := by decide +kernel
theorem d_Mo_multiple_15 : decode b_Mo_multiple 15 = .ok (.invokevirtual 118, 3) := by decide +kernel
theorem d_Mo_multiple_18 : decode b_Mo_multiple 18 = .ok (.aload_n 0, 1) := by decide +kernel
theorem d_Mo_multiple_19 : decode b_Mo_multiple 19 = .ok (.iload_n 3, 1) := by decide +kernel
theorem d_Mo_multiple_20 : decode b_Mo_multiple 20 = .ok (.ifCond .ge 7, 3) := by decide +kernel
theorem d_Mo_multiple_23 : decode b_Mo_multiple 23 = .ok (.iconst 0, 1) := by decide +kernel
theorem d_Mo_multiple_24 : decode b_Mo_multiple 24 = .ok (.goto 4, 3) := by decide +kernel
theorem d_Mo_multiple_27 : decode b_Mo_multiple 27 = .ok (.iconst 1, 1) := by decide +kernel
theorem d_Mo_multiple_28 : decode b_Mo_multiple 28 = .ok (.iload_n 3, 1) := by decide +kernel
theorem d_Mo_multiple_29 : decode b_Mo_multiple 29 = .ok (.ifCond .ge 8, 3) := by decide +kernel
theorem d_Mo_multiple_32 : decode b_Mo_multiple 32 = .ok (.iload_n 3, 1) := by decide +kernel
theorem d_Mo_multiple_33 : decode b_Mo_multiple 33 = .ok (.ineg, 1) := by decide +kernel
theorem d_Mo_multiple_34 : decode b_Mo_multiple 34 = .ok (.goto 4, 3) := by decide +kernel
theorem d_Mo_multiple_37 : decode b_Mo_multiple 37 = .ok (.iload_n 3, 1) := by decide +kernel
theorem d_Mo_multiple_38 : decode b_Mo_multiple 38 = .ok (.invokevirtual 151, 3) := by decide +kernel
theorem d_Mo_multiple_41 : decode b_Mo_multiple 41 = .ok (.aload_n 0, 1) := by decide +kernel
theorem d_Mo_multiple_42 : decode b_Mo_multiple 42 = .ok (.invokevirtual 154, 3) := by decide +kernel
theorem d_Mo_multiple_45 : decode b_Mo_multiple 45 = .ok (.aload_n 0, 1) := by decide +kernel
theorem d_Mo_multiple_46 : decode b_Mo_multiple 46 = .ok (.iconst 0, 1) := by decide +kernel
theorem d_Mo_multiple_47 : decode b_Mo_multiple 47 = .ok (.iconst 2, 1) := by decide +kernel
theorem d_Mo_multiple_48 : decode b_Mo_multiple 48 = .ok (.invokevirtual 75, 3) := by decide +kernel
theorem d_Mo_multiple_51 : decode b_Mo_multiple 51 = .ok (.aload_n 0, 1) := by decide +kernel
theorem d_Mo_multiple_52 : decode b_Mo_multiple 52 = .ok (.iconst 1, 1) := by decide +kernel
theorem d_Mo_multiple_53 : decode b_Mo_multiple 53 = .ok (.lconst 1, 1) := by decide +kernel
theorem d_Mo_multiple_54 : decode b_Mo_multiple 54 = .ok (.invokevirtual 111, 3) := by decide +kernel
theorem d_Mo_multiple_57 : decode b_Mo_multiple 57 = .ok (.aload_n 0, 1) := by decide +kernel
theorem d_Mo_multiple_58 : decode b_Mo_multiple 58 = .ok (.iload_n 3, 1) := by decide +kernel
theorem d_Mo_multiple_59 : decode b_Mo_multiple 59 = .ok (.ifCond .ge 7, 3) := by decide +kernel
theorem d_Mo_multiple_62 : decode b_Mo_multiple 62 = .ok (.iconst 1, 1) := by decide +kernel
theorem d_Mo_multiple_63 : decode b_Mo_multiple 63 = .ok (.goto 4, 3) := by decide +kernel
theorem d_Mo_multiple_66 : decode b_Mo_multiple 66 = .ok (.iconst 0, 1) := by decide +kernel
theorem d_Mo_multiple_67 : decode b_Mo_multiple 67 = .ok (.iload_n 3, 1) := by decide +kernel
theorem d_Mo_multiple_68 : decode b_Mo_multiple 68 = .ok (.ifCond .ge 8, 3) := by decide +kernel
theorem d_Mo_multiple_71 : decode b_Mo_multiple 71 = .ok (.iload_n 3, 1) := by decide +kernel
theorem d_Mo_multiple_72 : decode b_Mo_multiple 72 = .ok (.ineg, 1) := by decide +kernel
theorem d_Mo_multiple_73 : decode b_Mo_multiple 73 = .ok (.goto 4, 3) := by decide +kernel
theorem d_Mo_multiple_76 : decode b_Mo_multiple 76 = .ok (.iload_n 3, 1) := by decide +kernel
theorem d_Mo_multiple_77 : decode b_Mo_multiple 77 = .ok (.invokevirtual 151, 3) := by decide +kernel
theorem d_Mo_multiple_80 : decode b_Mo_multiple 80 = .ok (.aload_n 0, 1) := by decide +kernel
theorem d_Mo_multiple_81 : decode b_Mo_multiple 81 = .ok (.iload_n 1, 1) := by decide +kernel
theorem d_Mo_multiple_82 : decode b_Mo_multiple 82 = .ok (.aload_n 0, 1) := by decide +kernel
theorem d_Mo_multiple_83 : decode b_Mo_multiple 83 = .ok (.getfield 24, 3) := by decide +kernel
theorem d_Mo_multiple_86 : decode b_Mo_multiple 86 = .ok (.iload_n 2, 1) := by decide +kernel
theorem d_Mo_multiple_87 : decode b_Mo_multiple 87 = .ok (.iaload, 1) := by decide +kernel
theorem d_Mo_multiple_88 : decode b_Mo_multiple 88 = .ok (.iconst 3, 1) := by decide +kernel
theorem d_Mo_multiple_89 : decode b_Mo_multiple 89 = .ok (.invokevirtual 115, 3) := by decide +kernel
theorem d_Mo_multiple_92 : decode b_Mo_multiple 92 = .ok (.ireturn, 1) := by decide +kernel
theorem d_Mo_nearest_0 : decode b_Mo_nearest 0 = .ok (.aload_n 0, 1) := by decide +kernel
theorem d_Mo_nearest_1 : decode b_Mo_nearest 1 = .ok (.iconst 2, 1) := by decide +kernel
theorem d_Mo_nearest_2 : decode b_Mo_nearest 2 = .ok (.iconst 0, 1) := by decide +kernel
theorem d_Mo_nearest_3 : decode b_Mo_nearest 3 = .ok (.iconst 1, 1) := by decide +kernel
theorem d_Mo_nearest_4 : decode b_Mo_nearest 4 = .ok (.invokevirtual 71, 3) := by decide +kernel
theorem d_Mo_nearest_7 : decode b_Mo_nearest 7 = .ok (.aload_n 0, 1) := by decide +kernel
theorem d_Mo_nearest_8 : decode b_Mo_nearest 8 = .ok (.iconst 0, 1) := by decide +kernel
theorem d_Mo_nearest_9 : decode b_Mo_nearest 9 = .ok (.iconst 2, 1) := by decide +kernel
theorem d_Mo_nearest_10 : decode b_Mo_nearest 10 = .ok (.invokevirtual 60, 3) := by decide +kernel
theorem d_Mo_nearest_13 : decode b_Mo_nearest 13 = .ok (.aload_n 0, 1) := by decide +kernel
theorem d_Mo_nearest_14 : decode b_Mo_nearest 14 = .ok (.iconst 0, 1) := by decide +kernel
theorem d_Mo_nearest_15 : decode b_Mo_nearest 15 = .ok (.iconst 1, 1) := by decide +kernel
theorem d_Mo_nearest_16 : decode b_Mo_nearest 16 = .ok (.invokevirtual 127, 3) := by decide +kernel
theorem d_Mo_nearest_19 : decode b_Mo_nearest 19 = .ok (.istore_n 1, 1) := by decide +kernel
theorem d_Mo_nearest_20 : decode b_Mo_nearest 20 = .ok (.aload_n 0, 1) := by decide +kernel
theorem d_Mo_nearest_21 : decode b_Mo_nearest 21 = .ok (.getfield 14, 3) := by decide +kernel
theorem d_Mo_nearest_24 : decode b_Mo_nearest 24 = .ok (.iconst 2, 1) := by decide +kernel
theorem d_Mo_nearest_25 : decode b_Mo_nearest 25 = .ok (.iaload, 1) := by decide +kernel
theorem d_Mo_nearest_26 : decode b_Mo_nearest 26 = .ok (.ifCond .le 21, 3) := by decide +kernel
theorem d_Mo_nearest_29 : decode b_Mo_nearest 29 = .ok (.aload_n 0, 1) := by decide +kernel
theorem d_Mo_nearest_30 : decode b_Mo_nearest 30 = .ok (.getfield 8, 3) := by decide +kernel
theorem d_Mo_nearest_33 : decode b_Mo_nearest 33 = .ok (.sipush 24000, 3) := by decide +kernel
theorem d_Mo_nearest_36 : decode b_Mo_nearest 36 = .ok (.iaload, 1) := by decide +kernel
theorem d_Mo_nearest_37 : decode b_Mo_nearest 37 = .ok (.iconst 2, 1) := by decide +kernel
theorem d_Mo_nearest_38 : decode b_Mo_nearest 38 = .ok (.irem, 1) := by decide +kernel
theorem d_Mo_nearest_39 : decode b_Mo_nearest 39 = .ok (.iconst 1, 1) := by decide +kernel
theorem d_Mo_nearest_40 : decode b_Mo_nearest 40 = .ok (.if_icmp .ne 7, 3) := by decide +kernel
theorem d_Mo_nearest_43 : decode b_Mo_nearest 43 = .ok (.iconst 1, 1) := by decide +kernel
theorem d_Mo_nearest_44 : decode b_Mo_nearest 44 = .ok (.goto 4, 3) := by decide +kernel
theorem d_Mo_nearest_47 : decode b_Mo_nearest 47 = .ok (.iconst 0, 1) := by decide +kernel
theorem d_Mo_nearest_48 : decode b_Mo_nearest 48 = .ok (.istore_n 2, 1) := by decide +kernel
theorem d_Mo_nearest_49 : decode b_Mo_nearest 49 = .ok (.iload_n 1, 1) := by decide +kernel
theorem d_Mo_nearest_50 : decode b_Mo_nearest 50 = .ok (.ifCond .gt 11, 3) := by decide +kernel
theorem d_Mo_nearest_53 : decode b_Mo_nearest 53 = .ok (.iload_n 1, 1) := by decide +kernel
theorem d_Mo_nearest_54 : decode b_Mo_nearest 54 = .ok (.ifCond .ne 19, 3) := by decide +kernel
theorem d_Mo_nearest_57 : decode b_Mo_nearest 57 = .ok (.iload_n 2, 1) := by decide +kernel
theorem d_Mo_nearest_58 : decode b_Mo_nearest 58 = .ok (.ifCond .eq 15, 3) := by decide +kernel
theorem d_Mo_nearest_61 : decode b_Mo_nearest 61 = .ok (.aload_n 0, 1) := by decide +kernel
theorem d_Mo_nearest_62 : decode b_Mo_nearest 62 = .ok (.iconst 5, 1) := by decide +kernel
theorem d_Mo_nearest_63 : decode b_Mo_nearest 63 = .ok (.lconst 1, 1) := by decide +kernel
theorem d_Mo_nearest_64 : decode b_Mo_nearest 64 = .ok (.invokevirtual 111, 3) := by decide +kernel
theorem d_Mo_nearest_67 : decode b_Mo_nearest 67 = .ok (.aload_n 0, 1) := by decide +kernel
theorem d_Mo_nearest_68 : decode b_Mo_nearest 68 = .ok (.iconst 2, 1) := by decide +kernel
theorem d_Mo_nearest_69 : decode b_Mo_nearest 69 = .ok (.iconst 5, 1) := by decide +kernel
theorem d_Mo_nearest_70 : decode b_Mo_nearest 70 = .ok (.invokevirtual 124, 3) := by decide +kernel
theorem d_Mo_nearest_73 : decode b_Mo_nearest 73 = .ok (.return_, 1) := by decide +kernel
theorem d_Mo_align_0 : decode b_Mo_align 0 = .ok (.aload_n 0, 1) := by decide +kernel
theorem d_Mo_align_1 : decode b_Mo_align 1 = .ok (.iload_n 1, 1) := by decide +kernel
theorem d_Mo_align_2 : decode b_Mo_align 2 = .ok (.invokestatic 108, 3) := by decide +kernel
theorem d_Mo_align_5 : decode b_Mo_align 5 = .ok (.ifCond .eq 10, 3) := by decide +kernel
theorem d_Mo_align_8 : decode b_Mo_align 8 = .ok (.iload_n 2, 1) := by decide +kernel
theorem d_Mo_align_9 : decode b_Mo_align 9 = .ok (.invokestatic 108, 3) := by decide +kernel
theorem d_Mo_align_12 : decode b_Mo_align 12 = .ok (.ifCond .ne 7, 3) := by decide +kernel
theorem d_Mo_align_15 : decode b_Mo_align 15 = .ok (.iconst 1, 1) := by decide +kernel
theorem d_Mo_align_16 : decode b_Mo_align 16 = .ok (.goto 22, 3) := by decide +kernel
theorem d_Mo_align_19 : decode b_Mo_align 19 = .ok (.iload_n 3, 1) := by decide +kernel
theorem d_Mo_align_20 : decode b_Mo_align 20 = .ok (.sipush (-4000), 3) := by decide +kernel
theorem d_Mo_align_23 : decode b_Mo_align 23 = .ok (.if_icmp .lt 10, 3) := by decide +kernel
theorem d_Mo_align_26 : decode b_Mo_align 26 = .ok (.iload_n 3, 1) := by decide +kernel
theorem d_Mo_align_27 : decode b_Mo_align 27 = .ok (.sipush 4000, 3) := by decide +kernel
theorem d_Mo_align_30 : decode b_Mo_align 30 = .ok (.if_icmp .le 7, 3) := by decide +kernel
theorem d_Mo_align_33 : decode b_Mo_align 33 = .ok (.iconst 2, 1) := by decide +kernel
theorem d_Mo_align_34 : decode b_Mo_align 34 = .ok (.goto 4, 3) := by decide +kernel
theorem d_Mo_align_37 : decode b_Mo_align 37 = .ok (.iconst 0, 1) := by decide +kernel
theorem d_Mo_align_38 : decode b_Mo_align 38 = .ok (.invokevirtual 101, 3) := by decide +kernel
theorem d_Mo_align_41 : decode b_Mo_align 41 = .ok (.ifCond .eq 7, 3) := by decide +kernel
theorem d_Mo_align_44 : decode b_Mo_align 44 = .ok (.iconst 0, 1) := by decide +kernel
theorem d_Mo_align_45 : decode b_Mo_align 45 = .ok (.goto 10, 3) := by decide +kernel
theorem d_Mo_align_48 : decode b_Mo_align 48 = .ok (.aload_n 0, 1) := by decide +kernel
theorem d_Mo_align_49 : decode b_Mo_align 49 = .ok (.iload_n 1, 1) := by decide +kernel
theorem d_Mo_align_50 : decode b_Mo_align 50 = .ok (.iload_n 2, 1) := by decide +kernel
theorem d_Mo_align_51 : decode b_Mo_align 51 = .ok (.iload_n 3, 1) := by decide +kernel
theorem d_Mo_align_52 : decode b_Mo_align 52 = .ok (.invokevirtual 160, 3) := by decide +kernel
theorem d_Mo_align_55 : decode b_Mo_align 55 = .ok (.ireturn, 1) := by decide +kernel
theorem d_Mo_compare_0 : decode b_Mo_compare 0 = .ok (.aload_n 0, 1) := by decide +kernel
theorem d_Mo_compare_1 : decode b_Mo_compare 1 = .ok (.iload_n 1, 1) := by decide +kernel
theorem d_Mo_compare_2 : decode b_Mo_compare 2 = .ok (.invokestatic 108, 3) := by decide +kernel
theorem d_Mo_compare_5 : decode b_Mo_compare 5 = .ok (.ifCond .eq 14, 3) := by decide +kernel
theorem d_Mo_compare_8 : decode b_Mo_compare 8 = .ok (.iload_n 2, 1) := by decide +kernel
theorem d_Mo_compare_9 : decode b_Mo_compare 9 = .ok (.invokestatic 108, 3) := by decide +kernel
theorem d_Mo_compare_12 : decode b_Mo_compare 12 = .ok (.ifCond .eq 7, 3) := by decide +kernel
theorem d_Mo_compare_15 : decode b_Mo_compare 15 = .ok (.iconst 0, 1) := by decide +kernel
theorem d_Mo_compare_16 : decode b_Mo_compare 16 = .ok (.goto 4, 3) := by decide +kernel
theorem d_Mo_compare_19 : decode b_Mo_compare 19 = .ok (.iconst 1, 1) := by decide +kernel
theorem d_Mo_compare_20 : decode b_Mo_compare 20 = .ok (.invokevirtual 101, 3) := by decide +kernel
theorem d_Mo_compare_23 : decode b_Mo_compare 23 = .ok (.ifCond .eq 5, 3) := by decide +kernel
theorem d_Mo_compare_26 : decode b_Mo_compare 26 = .ok (.iconst 0, 1) := by decide +kernel
theorem d_Mo_compare_27 : decode b_Mo_compare 27 = .ok (.ireturn, 1) := by decide +kernel
theorem d_Mo_compare_28 : decode b_Mo_compare 28 = .ok (.aload_n 0, 1) := by decide +kernel
theorem d_Mo_compare_29 : decode b_Mo_compare 29 = .ok (.iconst 0, 1) := by decide +kernel
theorem d_Mo_compare_30 : decode b_Mo_compare 30 = .ok (.iconst 2, 1) := by decide +kernel
theorem d_Mo_compare_31 : decode b_Mo_compare 31 = .ok (.iload_n 1, 1) := by decide +kernel
theorem d_Mo_compare_32 : decode b_Mo_compare 32 = .ok (.imul, 1) := by decide +kernel
theorem d_Mo_compare_33 : decode b_Mo_compare 33 = .ok (.invokevirtual 118, 3) := by decide +kernel
theorem d_Mo_compare_36 : decode b_Mo_compare 36 = .ok (.aload_n 0, 1) := by decide +kernel
theorem d_Mo_compare_37 : decode b_Mo_compare 37 = .ok (.iconst 1, 1) := by decide +kernel
theorem d_Mo_compare_38 : decode b_Mo_compare 38 = .ok (.iconst 2, 1) := by decide +kernel
theorem d_Mo_compare_39 : decode b_Mo_compare 39 = .ok (.iload_n 1, 1) := by decide +kernel
theorem d_Mo_compare_40 : decode b_Mo_compare 40 = .ok (.imul, 1) := by decide +kernel
theorem d_Mo_compare_41 : decode b_Mo_compare 41 = .ok (.iconst 1, 1) := by decide +kernel
theorem d_Mo_compare_42 : decode b_Mo_compare 42 = .ok (.iadd, 1) := by decide +kernel
theorem d_Mo_compare_43 : decode b_Mo_compare 43 = .ok (.invokevirtual 118, 3) := by decide +kernel
theorem d_Mo_compare_46 : decode b_Mo_compare 46 = .ok (.aload_n 0, 1) := by decide +kernel
theorem d_Mo_compare_47 : decode b_Mo_compare 47 = .ok (.iconst 2, 1) := by decide +kernel
theorem d_Mo_compare_48 : decode b_Mo_compare 48 = .ok (.iconst 2, 1) := by decide +kernel
theorem d_Mo_compare_49 : decode b_Mo_compare 49 = .ok (.iload_n 2, 1) := by decide +kernel
theorem d_Mo_compare_50 : decode b_Mo_compare 50 = .ok (.imul, 1) := by decide +kernel
theorem d_Mo_compare_51 : decode b_Mo_compare 51 = .ok (.invokevirtual 118, 3) := by decide +kernel
theorem d_Mo_compare_54 : decode b_Mo_compare 54 = .ok (.aload_n 0, 1) := by decide +kernel
theorem d_Mo_compare_55 : decode b_Mo_compare 55 = .ok (.iconst 3, 1) := by decide +kernel
theorem d_Mo_compare_56 : decode b_Mo_compare 56 = .ok (.iconst 2, 1) := by decide +kernel
theorem d_Mo_compare_57 : decode b_Mo_compare 57 = .ok (.iload_n 2, 1) := by decide +kernel
theorem d_Mo_compare_58 : decode b_Mo_compare 58 = .ok (.imul, 1) := by decide +kernel
theorem d_Mo_compare_59 : decode b_Mo_compare 59 = .ok (.iconst 1, 1) := by decide +kernel
theorem d_Mo_compare_60 : decode b_Mo_compare 60 = .ok (.iadd, 1) := by decide +kernel
theorem d_Mo_compare_61 : decode b_Mo_compare 61 = .ok (.invokevirtual 118, 3) := by decide +kernel
theorem d_Mo_compare_64 : decode b_Mo_compare 64 = .ok (.aload_n 0, 1) := by decide +kernel
theorem d_Mo_compare_65 : decode b_Mo_compare 65 = .ok (.aload_n 0, 1) := by decide +kernel
theorem d_Mo_compare_66 : decode b_Mo_compare 66 = .ok (.getfield 24, 3) := by decide +kernel
theorem d_Mo_compare_69 : decode b_Mo_compare 69 = .ok (.iload_n 1, 1) := by decide +kernel
theorem d_Mo_compare_70 : decode b_Mo_compare 70 = .ok (.iaload, 1) := by decide +kernel
theorem d_Mo_compare_71 : decode b_Mo_compare 71 = .ok (.aload_n 0, 1) := by decide +kernel
theorem d_Mo_compare_72 : decode b_Mo_compare 72 = .ok (.getfield 24, 3) := by decide +kernel
theorem d_Mo_compare_75 : decode b_Mo_compare 75 = .ok (.iload_n 2, 1) := by decide +kernel
theorem d_Mo_compare_76 : decode b_Mo_compare 76 = .ok (.iaload, 1) := by decide +kernel
theorem d_Mo_compare_77 : decode b_Mo_compare 77 = .ok (.ineg, 1) := by decide +kernel
theorem d_Mo_compare_78 : decode b_Mo_compare 78 = .ok (.invokevirtual 133, 3) := by decide +kernel
theorem d_Mo_compare_81 : decode b_Mo_compare 81 = .ok (.ireturn, 1) := by decide +kernel
theorem d_Mo_sign_0 : decode b_Mo_sign 0 = .ok (.aload_n 0, 1) := by decide +kernel
theorem d_Mo_sign_1 : decode b_Mo_sign 1 = .ok (.iload_n 1, 1) := by decide +kernel
theorem d_Mo_sign_2 : decode b_Mo_sign 2 = .ok (.invokestatic 108, 3) := by decide +kernel
theorem d_Mo_sign_5 : decode b_Mo_sign 5 = .ok (.ifCond .eq 7, 3) := by decide +kernel
theorem d_Mo_sign_8 : decode b_Mo_sign 8 = .ok (.iconst 0, 1) := by decide +kernel
theorem d_Mo_sign_9 : decode b_Mo_sign 9 = .ok (.goto 4, 3) := by decide +kernel
theorem d_Mo_sign_12 : decode b_Mo_sign 12 = .ok (.iconst 1, 1) := by decide +kernel
theorem d_Mo_sign_13 : decode b_Mo_sign 13 = .ok (.invokevirtual 101, 3) := by decide +kernel
theorem d_Mo_sign_16 : decode b_Mo_sign 16 = .ok (.ifCond .eq 7, 3) := by decide +kernel
theorem d_Mo_sign_19 : decode b_Mo_sign 19 = .ok (.iconst 0, 1) := by decide +kernel
theorem d_Mo_sign_20 : decode b_Mo_sign 20 = .ok (.goto 9, 3) := by decide +kernel
theorem d_Mo_sign_23 : decode b_Mo_sign 23 = .ok (.aload_n 0, 1) := by decide +kernel
theorem d_Mo_sign_24 : decode b_Mo_sign 24 = .ok (.getfield 24, 3) := by decide +kernel
theorem d_Mo_sign_27 : decode b_Mo_sign 27 = .ok (.iload_n 1, 1) := by decide +kernel
theorem d_Mo_sign_28 : decode b_Mo_sign 28 = .ok (.iaload, 1) := by decide +kernel
theorem d_Mo_sign_29 : decode b_Mo_sign 29 = .ok (.ireturn, 1) := by decide +kernel
theorem d_Mo_length_0 : decode b_Mo_length 0 = .ok (.aload_n 0, 1) := by decide +kernel
theorem d_Mo_length_1 : decode b_Mo_length 1 = .ok (.iload_n 1, 1) := by decide +kernel
theorem d_Mo_length_2 : decode b_Mo_length 2 = .ok (.invokestatic 108, 3) := by decide +kernel
theorem d_Mo_length_5 : decode b_Mo_length 5 = .ok (.ifCond .eq 7, 3) := by decide +kernel
theorem d_Mo_length_8 : decode b_Mo_length 8 = .ok (.iconst 0, 1) := by decide +kernel
theorem d_Mo_length_9 : decode b_Mo_length 9 = .ok (.goto 4, 3) := by decide +kernel
theorem d_Mo_length_12 : decode b_Mo_length 12 = .ok (.iconst 1, 1) := by decide +kernel
theorem d_Mo_length_13 : decode b_Mo_length 13 = .ok (.invokevirtual 101, 3) := by decide +kernel
theorem d_Mo_length_16 : decode b_Mo_length 16 = .ok (.ifCond .eq 5, 3) := by decide +kernel
theorem d_Mo_length_19 : decode b_Mo_length 19 = .ok (.iconst 0, 1) := by decide +kernel
theorem d_Mo_length_20 : decode b_Mo_length 20 = .ok (.ireturn, 1) := by decide +kernel
theorem d_Mo_length_21 : decode b_Mo_length 21 = .ok (.aload_n 0, 1) := by decide +kernel
theorem d_Mo_length_22 : decode b_Mo_length 22 = .ok (.iconst 0, 1) := by decide +kernel
theorem d_Mo_length_23 : decode b_Mo_length 23 = .ok (.iconst 2, 1) := by decide +kernel
theorem d_Mo_length_24 : decode b_Mo_length 24 = .ok (.iload_n 1, 1) := by decide +kernel
theorem d_Mo_length_25 : decode b_Mo_length 25 = .ok (.imul, 1) := by decide +kernel
theorem d_Mo_length_26 : decode b_Mo_length 26 = .ok (.iload_n 2, 1) := by decide +kernel
theorem d_Mo_length_27 : decode b_Mo_length 27 = .ok (.ifCond .eq 7, 3) := by decide +kernel
theorem d_Mo_length_30 : decode b_Mo_length 30 = .ok (.iconst 1, 1) := by decide +kernel
theorem d_Mo_length_31 : decode b_Mo_length 31 = .ok (.goto 4, 3) := by decide +kernel
theorem d_Mo_length_34 : decode b_Mo_length 34 = .ok (.iconst 0, 1) := by decide +kernel
theorem d_Mo_length_35 : decode b_Mo_length 35 = .ok (.iadd, 1) := by decide +kernel
theorem d_Mo_length_36 : decode b_Mo_length 36 = .ok (.invokevirtual 118, 3) := by decide +kernel
theorem d_Mo_length_39 : decode b_Mo_length 39 = .ok (.aload_n 0, 1) := by decide +kernel
theorem d_Mo_length_40 : decode b_Mo_length 40 = .ok (.iconst 0, 1) := by decide +kernel
theorem d_Mo_length_41 : decode b_Mo_length 41 = .ok (.invokevirtual 143, 3) := by decide +kernel
theorem d_Mo_length_44 : decode b_Mo_length 44 = .ok (.ireturn, 1) := by decide +kernel
theorem d_Mo_limb_0 : decode b_Mo_limb 0 = .ok (.aload_n 0, 1) := by decide +kernel
theorem d_Mo_limb_1 : decode b_Mo_limb 1 = .ok (.iload_n 1, 1) := by decide +kernel
theorem d_Mo_limb_2 : decode b_Mo_limb 2 = .ok (.invokestatic 108, 3) := by decide +kernel
theorem d_Mo_limb_5 : decode b_Mo_limb 5 = .ok (.ifCond .eq 7, 3) := by decide +kernel
theorem d_Mo_limb_8 : decode b_Mo_limb 8 = .ok (.iload_n 3, 1) := by decide +kernel
theorem d_Mo_limb_9 : decode b_Mo_limb 9 = .ok (.ifCond .ge 7, 3) := by decide +kernel
theorem d_Mo_limb_12 : decode b_Mo_limb 12 = .ok (.iconst 1, 1) := by decide +kernel
theorem d_Mo_limb_13 : decode b_Mo_limb 13 = .ok (.goto 4, 3) := by decide +kernel
theorem d_Mo_limb_16 : decode b_Mo_limb 16 = .ok (.iconst 0, 1) := by decide +kernel
theorem d_Mo_limb_17 : decode b_Mo_limb 17 = .ok (.invokevirtual 101, 3) := by decide +kernel
theorem d_Mo_limb_20 : decode b_Mo_limb 20 = .ok (.ifCond .eq 5, 3) := by decide +kernel
theorem d_Mo_limb_23 : decode b_Mo_limb 23 = .ok (.iconst 0, 1) := by decide +kernel
theorem d_Mo_limb_24 : decode b_Mo_limb 24 = .ok (.ireturn, 1) := by decide +kernel
theorem d_Mo_limb_25 : decode b_Mo_limb 25 = .ok (.aload_n 0, 1) := by decide +kernel
theorem d_Mo_limb_26 : decode b_Mo_limb 26 = .ok (.iconst 0, 1) := by decide +kernel
theorem d_Mo_limb_27 : decode b_Mo_limb 27 = .ok (.iconst 2, 1) := by decide +kernel
theorem d_Mo_limb_28 : decode b_Mo_limb 28 = .ok (.iload_n 1, 1) := by decide +kernel
theorem d_Mo_limb_29 : decode b_Mo_limb 29 = .ok (.imul, 1) := by decide +kernel
theorem d_Mo_limb_30 : decode b_Mo_limb 30 = .ok (.iload_n 2, 1) := by decide +kernel
theorem d_Mo_limb_31 : decode b_Mo_limb 31 = .ok (.ifCond .eq 7, 3) := by decide +kernel
theorem d_Mo_limb_34 : decode b_Mo_limb 34 = .ok (.iconst 1, 1) := by decide +kernel
theorem d_Mo_limb_35 : decode b_Mo_limb 35 = .ok (.goto 4, 3) := by decide +kernel
theorem d_Mo_limb_38 : decode b_Mo_limb 38 = .ok (.iconst 0, 1) := by decide +kernel
theorem d_Mo_limb_39 : decode b_Mo_limb 39 = .ok (.iadd, 1) := by decide +kernel
theorem d_Mo_limb_40 : decode b_Mo_limb 40 = .ok (.invokevirtual 118, 3) := by decide +kernel
theorem d_Mo_limb_43 : decode b_Mo_limb 43 = .ok (.aload_n 0, 1) := by decide +kernel
theorem d_Mo_limb_44 : decode b_Mo_limb 44 = .ok (.iconst 0, 1) := by decide +kernel
theorem d_Mo_limb_45 : decode b_Mo_limb 45 = .ok (.invokevirtual 80, 3) := by decide +kernel
theorem d_Mo_limb_48 : decode b_Mo_limb 48 = .ok (.istore 4, 2) := by decide +kernel
theorem d_Mo_limb_50 : decode b_Mo_limb 50 = .ok (.iload_n 3, 1) := by decide +kernel
theorem d_Mo_limb_51 : decode b_Mo_limb 51 = .ok (.iload 4, 2) := by decide +kernel
theorem d_Mo_limb_53 : decode b_Mo_limb 53 = .ok (.if_icmp .le 5, 3) := by decide +kernel
theorem d_Mo_limb_56 : decode b_Mo_limb 56 = .ok (.iconst 0, 1) := by decide +kernel
theorem d_Mo_limb_57 : decode b_Mo_limb 57 = .ok (.ireturn, 1) := by decide +kernel
theorem d_Mo_limb_58 : decode b_Mo_limb 58 = .ok (.iconst 2, 1) := by decide +kernel
theorem d_Mo_limb_59 : decode b_Mo_limb 59 = .ok (.iload_n 3, 1) := by decide +kernel
theorem d_Mo_limb_60 : decode b_Mo_limb 60 = .ok (.imul, 1) := by decide +kernel
theorem d_Mo_limb_61 : decode b_Mo_limb 61 = .ok (.iload 4, 2) := by decide +kernel
theorem d_Mo_limb_63 : decode b_Mo_limb 63 = .ok (.if_icmp .ge 14, 3) := by decide +kernel
theorem d_Mo_limb_66 : decode b_Mo_limb 66 = .ok (.aload_n 0, 1) := by decide +kernel
theorem d_Mo_limb_67 : decode b_Mo_limb 67 = .ok (.getfield 30, 3) := by decide +kernel
theorem d_Mo_limb_70 : decode b_Mo_limb 70 = .ok (.iconst 2, 1) := by decide +kernel
theorem d_Mo_limb_71 : decode b_Mo_limb 71 = .ok (.iload_n 3, 1) := by decide +kernel
theorem d_Mo_limb_72 : decode b_Mo_limb 72 = .ok (.imul, 1) := by decide +kernel
theorem d_Mo_limb_73 : decode b_Mo_limb 73 = .ok (.iaload, 1) := by decide +kernel
theorem d_Mo_limb_74 : decode b_Mo_limb 74 = .ok (.goto 4, 3) := by decide +kernel
theorem d_Mo_limb_77 : decode b_Mo_limb 77 = .ok (.iconst 0, 1) := by decide +kernel
theorem d_Mo_limb_78 : decode b_Mo_limb 78 = .ok (.istore 5, 2) := by decide +kernel
theorem d_Mo_limb_80 : decode b_Mo_limb 80 = .ok (.iconst 2, 1) := by decide +kernel
theorem d_Mo_limb_81 : decode b_Mo_limb 81 = .ok (.iload_n 3, 1) := by decide +kernel
theorem d_Mo_limb_82 : decode b_Mo_limb 82 = .ok (.imul, 1) := by decide +kernel
theorem d_Mo_limb_83 : decode b_Mo_limb 83 = .ok (.iconst 1, 1) := by decide +kernel
theorem d_Mo_limb_84 : decode b_Mo_limb 84 = .ok (.iadd, 1) := by decide +kernel
theorem d_Mo_limb_85 : decode b_Mo_limb 85 = .ok (.iload 4, 2) := by decide +kernel
theorem d_Mo_limb_87 : decode b_Mo_limb 87 = .ok (.if_icmp .ge 16, 3) := by decide +kernel
theorem d_Mo_limb_90 : decode b_Mo_limb 90 = .ok (.aload_n 0, 1) := by decide +kernel
theorem d_Mo_limb_91 : decode b_Mo_limb 91 = .ok (.getfield 30, 3) := by decide +kernel
theorem d_Mo_limb_94 : decode b_Mo_limb 94 = .ok (.iconst 2, 1) := by decide +kernel
theorem d_Mo_limb_95 : decode b_Mo_limb 95 = .ok (.iload_n 3, 1) := by decide +kernel
theorem d_Mo_limb_96 : decode b_Mo_limb 96 = .ok (.imul, 1) := by decide +kernel
theorem d_Mo_limb_97 : decode b_Mo_limb 97 = .ok (.iconst 1, 1) := by decide +kernel
theorem d_Mo_limb_98 : decode b_Mo_limb 98 = .ok (.iadd, 1) := by decide +kernel
theorem d_Mo_limb_99 : decode b_Mo_limb 99 = .ok (.iaload, 1) := by decide +kernel
theorem d_Mo_limb_100 : decode b_Mo_limb 100 = .ok (.goto 4, 3) := by decide +kernel
theorem d_Mo_limb_103 : decode b_Mo_limb 103 = .ok (.iconst 0, 1) := by decide +kernel
theorem d_Mo_limb_104 : decode b_Mo_limb 104 = .ok (.istore 6, 2) := by decide +kernel
theorem d_Mo_limb_106 : decode b_Mo_limb 106 = .ok (.iload 6, 2) := by decide +kernel
theorem d_Mo_limb_108 : decode b_Mo_limb 108 = .ok (.bipush 16, 2) := by decide +kernel
theorem d_Mo_limb_110 : decode b_Mo_limb 110 = .ok (.ishl, 1) := by decide +kernel
theorem d_Mo_limb_111 : decode b_Mo_limb 111 = .ok (.iload 5, 2) := by decide +kernel
theorem d_Mo_limb_113 : decode b_Mo_limb 113 = .ok (.ior, 1) := by decide +kernel
theorem d_Mo_limb_114 : decode b_Mo_limb 114 = .ok (.ireturn, 1) := by decide +kernel
theorem d_Mo_type_0 : decode b_Mo_type 0 = .ok (.aload_n 0, 1) := by decide +kernel
theorem d_Mo_type_1 : decode b_Mo_type 1 = .ok (.iconst 0, 1) := by decide +kernel
theorem d_Mo_type_2 : decode b_Mo_type 2 = .ok (.putfield 46, 3) := by decide +kernel
theorem d_Mo_type_5 : decode b_Mo_type 5 = .ok (.iconst 0, 1) := by decide +kernel
theorem d_Mo_type_6 : decode b_Mo_type 6 = .ok (.istore_n 3, 1) := by decide +kernel
theorem d_Mo_type_7 : decode b_Mo_type 7 = .ok (.iload_n 3, 1) := by decide +kernel
theorem d_Mo_type_8 : decode b_Mo_type 8 = .ok (.bipush 8, 2) := by decide +kernel
theorem d_Mo_type_10 : decode b_Mo_type 10 = .ok (.if_icmp .ge 56, 3) := by decide +kernel
theorem d_Mo_type_13 : decode b_Mo_type 13 = .ok (.lload_n 1, 1) := by decide +kernel
theorem d_Mo_type_14 : decode b_Mo_type 14 = .ok (.bipush 8, 2) := by decide +kernel
theorem d_Mo_type_16 : decode b_Mo_type 16 = .ok (.iload_n 3, 1) := by decide +kernel
theorem d_Mo_type_17 : decode b_Mo_type 17 = .ok (.imul, 1) := by decide +kernel
theorem d_Mo_type_18 : decode b_Mo_type 18 = .ok (.lushr, 1) := by decide +kernel
theorem d_Mo_type_19 : decode b_Mo_type 19 = .ok (.ldc2_w 163, 3) := by decide +kernel
theorem d_Mo_type_22 : decode b_Mo_type 22 = .ok (.land, 1) := by decide +kernel
theorem d_Mo_type_23 : decode b_Mo_type 23 = .ok (.lconst 0, 1) := by decide +kernel
theorem d_Mo_type_24 : decode b_Mo_type 24 = .ok (.lcmp, 1) := by decide +kernel
theorem d_Mo_type_25 : decode b_Mo_type 25 = .ok (.ifCond .eq 41, 3) := by decide +kernel
theorem d_Mo_type_28 : decode b_Mo_type 28 = .ok (.lload_n 1, 1) := by decide +kernel
theorem d_Mo_type_29 : decode b_Mo_type 29 = .ok (.bipush 8, 2) := by decide +kernel
theorem d_Mo_type_31 : decode b_Mo_type 31 = .ok (.iload_n 3, 1) := by decide +kernel
theorem d_Mo_type_32 : decode b_Mo_type 32 = .ok (.imul, 1) := by decide +kernel
theorem d_Mo_type_33 : decode b_Mo_type 33 = .ok (.lushr, 1) := by decide +kernel
theorem d_Mo_type_34 : decode b_Mo_type 34 = .ok (.ldc2_w 163, 3) := by decide +kernel
theorem d_Mo_type_37 : decode b_Mo_type 37 = .ok (.land, 1) := by decide +kernel
theorem d_Mo_type_38 : decode b_Mo_type 38 = .ok (.lstore 4, 2) := by decide +kernel
theorem d_Mo_type_40 : decode b_Mo_type 40 = .ok (.lload 4, 2) := by decide +kernel
theorem d_Mo_type_42 : decode b_Mo_type 42 = .ok (.ldc2_w 165, 3) := by decide +kernel
theorem d_Mo_type_45 : decode b_Mo_type 45 = .ok (.lcmp, 1) := by decide +kernel
theorem d_Mo_type_46 : decode b_Mo_type 46 = .ok (.ifCond .lt 12, 3) := by decide +kernel
theorem d_Mo_type_49 : decode b_Mo_type 49 = .ok (.lload 4, 2) := by decide +kernel
theorem d_Mo_type_51 : decode b_Mo_type 51 = .ok (.ldc2_w 167, 3) := by decide +kernel
theorem d_Mo_type_54 : decode b_Mo_type 54 = .ok (.lcmp, 1) := by decide +kernel
theorem d_Mo_type_55 : decode b_Mo_type 55 = .ok (.ifCond .le 5, 3) := by decide +kernel
theorem d_Mo_type_58 : decode b_Mo_type 58 = .ok (.iconst 0, 1) := by decide +kernel
theorem d_Mo_type_59 : decode b_Mo_type 59 = .ok (.ireturn, 1) := by decide +kernel
theorem d_Mo_type_60 : decode b_Mo_type 60 = .ok (.iinc 3 1, 3) := by decide +kernel
theorem d_Mo_type_63 : decode b_Mo_type 63 = .ok (.goto (-56), 3) := by decide +kernel
theorem d_Mo_type_66 : decode b_Mo_type 66 = .ok (.aload_n 0, 1) := by decide +kernel
theorem d_Mo_type_67 : decode b_Mo_type 67 = .ok (.getfield 169, 3) := by decide +kernel
theorem d_Mo_type_70 : decode b_Mo_type 70 = .ok (.iload_n 3, 1) := by decide +kernel
theorem d_Mo_type_71 : decode b_Mo_type 71 = .ok (.iadd, 1) := by decide +kernel
theorem d_Mo_type_72 : decode b_Mo_type 72 = .ok (.sipush 400, 3) := by decide +kernel
theorem d_Mo_type_75 : decode b_Mo_type 75 = .ok (.if_icmp .le 5, 3) := by decide +kernel
theorem d_Mo_type_78 : decode b_Mo_type 78 = .ok (.iconst 0, 1) := by decide +kernel
theorem d_Mo_type_79 : decode b_Mo_type 79 = .ok (.ireturn, 1) := by decide +kernel
theorem d_Mo_type_80 : decode b_Mo_type 80 = .ok (.iconst 0, 1) := by decide +kernel
theorem d_Mo_type_81 : decode b_Mo_type 81 = .ok (.istore 4, 2) := by decide +kernel
theorem d_Mo_type_83 : decode b_Mo_type 83 = .ok (.iload 4, 2) := by decide +kernel
theorem d_Mo_type_85 : decode b_Mo_type 85 = .ok (.iload_n 3, 1) := by decide +kernel
theorem d_Mo_type_86 : decode b_Mo_type 86 = .ok (.if_icmp .ge 40, 3) := by decide +kernel
theorem d_Mo_type_89 : decode b_Mo_type 89 = .ok (.aload_n 0, 1) := by decide +kernel
theorem d_Mo_type_90 : decode b_Mo_type 90 = .ok (.getfield 33, 3) := by decide +kernel
theorem d_Mo_type_93 : decode b_Mo_type 93 = .ok (.aload_n 0, 1) := by decide +kernel
theorem d_Mo_type_94 : decode b_Mo_type 94 = .ok (.getfield 169, 3) := by decide +kernel
theorem d_Mo_type_97 : decode b_Mo_type 97 = .ok (.lload_n 1, 1) := by decide +kernel
theorem d_Mo_type_98 : decode b_Mo_type 98 = .ok (.bipush 8, 2) := by decide +kernel
theorem d_Mo_type_100 : decode b_Mo_type 100 = .ok (.iload 4, 2) := by decide +kernel
theorem d_Mo_type_102 : decode b_Mo_type 102 = .ok (.imul, 1) := by decide +kernel
theorem d_Mo_type_103 : decode b_Mo_type 103 = .ok (.lushr, 1) := by decide +kernel
theorem d_Mo_type_104 : decode b_Mo_type 104 = .ok (.ldc2_w 163, 3) := by decide +kernel
theorem d_Mo_type_107 : decode b_Mo_type 107 = .ok (.land, 1) := by decide +kernel
theorem d_Mo_type_108 : decode b_Mo_type 108 = .ok (.l2i, 1) := by decide +kernel
theorem d_Mo_type_109 : decode b_Mo_type 109 = .ok (.iastore, 1) := by decide +kernel
theorem d_Mo_type_110 : decode b_Mo_type 110 = .ok (.aload_n 0, 1) := by decide +kernel
theorem d_Mo_type_111 : decode b_Mo_type 111 = .ok (.dup, 1) := by decide +kernel
theorem d_Mo_type_112 : decode b_Mo_type 112 = .ok (.getfield 169, 3) := by decide +kernel
theorem d_Mo_type_115 : decode b_Mo_type 115 = .ok (.iconst 1, 1) := by decide +kernel
theorem d_Mo_type_116 : decode b_Mo_type 116 = .ok (.iadd, 1) := by decide +kernel
theorem d_Mo_type_117 : decode b_Mo_type 117 = .ok (.putfield 169, 3) := by decide +kernel
theorem d_Mo_type_120 : decode b_Mo_type 120 = .ok (.iinc 4 1, 3) := by decide +kernel
theorem d_Mo_type_123 : decode b_Mo_type 123 = .ok (.goto (-40), 3) := by decide +kernel
theorem d_Mo_type_126 : decode b_Mo_type 126 = .ok (.iconst 1, 1) := by decide +kernel
theorem d_Mo_type_127 : decode b_Mo_type 127 = .ok (.ireturn, 1) := by decide +kernel
theorem d_Mo_read_0 : decode b_Mo_read 0 = .ok (.aload_n 0, 1) := by decide +kernel
theorem d_Mo_read_1 : decode b_Mo_read 1 = .ok (.aload_n 0, 1) := by decide +kernel
theorem d_Mo_read_2 : decode b_Mo_read 2 = .ok (.invokevirtual 181, 3) := by decide +kernel
theorem d_Mo_read_5 : decode b_Mo_read 5 = .ok (.putfield 36, 3) := by decide +kernel
theorem d_Mo_read_8 : decode b_Mo_read 8 = .ok (.aload_n 0, 1) := by decide +kernel
theorem d_Mo_read_9 : decode b_Mo_read 9 = .ok (.iconst 0, 1) := by decide +kernel
theorem d_Mo_read_10 : decode b_Mo_read 10 = .ok (.invokevirtual 172, 3) := by decide +kernel
theorem d_Mo_read_13 : decode b_Mo_read 13 = .ok (.bipush 45, 2) := by decide +kernel
theorem d_Mo_read_15 : decode b_Mo_read 15 = .ok (.if_icmp .ne 7, 3) := by decide +kernel
theorem d_Mo_read_18 : decode b_Mo_read 18 = .ok (.iconst 1, 1) := by decide +kernel
theorem d_Mo_read_19 : decode b_Mo_read 19 = .ok (.goto 4, 3) := by decide +kernel
theorem d_Mo_read_22 : decode b_Mo_read 22 = .ok (.iconst 0, 1) := by decide +kernel
theorem d_Mo_read_23 : decode b_Mo_read 23 = .ok (.istore_n 2, 1) := by decide +kernel
theorem d_Mo_read_24 : decode b_Mo_read 24 = .ok (.aload_n 0, 1) := by decide +kernel
theorem d_Mo_read_25 : decode b_Mo_read 25 = .ok (.iload_n 2, 1) := by decide +kernel
theorem d_Mo_read_26 : decode b_Mo_read 26 = .ok (.invokevirtual 178, 3) := by decide +kernel
theorem d_Mo_read_29 : decode b_Mo_read 29 = .ok (.istore_n 3, 1) := by decide +kernel
theorem d_Mo_read_30 : decode b_Mo_read 30 = .ok (.aload_n 0, 1) := by decide +kernel
theorem d_Mo_read_31 : decode b_Mo_read 31 = .ok (.getfield 169, 3) := by decide +kernel
theorem d_Mo_read_34 : decode b_Mo_read 34 = .ok (.istore 4, 2) := by decide +kernel
theorem d_Mo_read_36 : decode b_Mo_read 36 = .ok (.aload_n 0, 1) := by decide +kernel
theorem d_Mo_read_37 : decode b_Mo_read 37 = .ok (.iload_n 1, 1) := by decide +kernel
theorem d_Mo_read_38 : decode b_Mo_read 38 = .ok (.invokestatic 108, 3) := by decide +kernel
theorem d_Mo_read_41 : decode b_Mo_read 41 = .ok (.ifCond .ne 7, 3) := by decide +kernel
theorem d_Mo_read_44 : decode b_Mo_read 44 = .ok (.iconst 1, 1) := by decide +kernel
theorem d_Mo_read_45 : decode b_Mo_read 45 = .ok (.goto 15, 3) := by decide +kernel
theorem d_Mo_read_48 : decode b_Mo_read 48 = .ok (.aload_n 0, 1) := by decide +kernel
theorem d_Mo_read_49 : decode b_Mo_read 49 = .ok (.getfield 36, 3) := by decide +kernel
theorem d_Mo_read_52 : decode b_Mo_read 52 = .ok (.ifCond .lt 7, 3) := by decide +kernel
theorem d_Mo_read_55 : decode b_Mo_read 55 = .ok (.iconst 2, 1) := by decide +kernel
theorem d_Mo_read_56 : decode b_Mo_read 56 = .ok (.goto 4, 3) := by decide +kernel
theorem d_Mo_read_59 : decode b_Mo_read 59 = .ok (.iconst 0, 1) := by decide +kernel
theorem d_Mo_read_60 : decode b_Mo_read 60 = .ok (.invokevirtual 101, 3) := by decide +kernel
theorem d_Mo_read_63 : decode b_Mo_read 63 = .ok (.ifCond .eq 10, 3) := by decide +kernel
theorem d_Mo_read_66 : decode b_Mo_read 66 = .ok (.aload_n 0, 1) := by decide +kernel
theorem d_Mo_read_67 : decode b_Mo_read 67 = .ok (.iconst 0, 1) := by decide +kernel
theorem d_Mo_read_68 : decode b_Mo_read 68 = .ok (.putfield 169, 3) := by decide +kernel
theorem d_Mo_read_71 : decode b_Mo_read 71 = .ok (.iconst 0, 1) := by decide +kernel
theorem d_Mo_read_72 : decode b_Mo_read 72 = .ok (.ireturn, 1) := by decide +kernel
theorem d_Mo_read_73 : decode b_Mo_read 73 = .ok (.aload_n 0, 1) := by decide +kernel
theorem d_Mo_read_74 : decode b_Mo_read 74 = .ok (.iconst 0, 1) := by decide +kernel
theorem d_Mo_read_75 : decode b_Mo_read 75 = .ok (.lconst 0, 1) := by decide +kernel
theorem d_Mo_read_76 : decode b_Mo_read 76 = .ok (.invokevirtual 111, 3) := by decide +kernel
theorem d_Mo_read_79 : decode b_Mo_read 79 = .ok (.aload_n 0, 1) := by decide +kernel
theorem d_Mo_read_80 : decode b_Mo_read 80 = .ok (.iconst 1, 1) := by decide +kernel
theorem d_Mo_read_81 : decode b_Mo_read 81 = .ok (.lconst 1, 1) := by decide +kernel
theorem d_Mo_read_82 : decode b_Mo_read 82 = .ok (.invokevirtual 111, 3) := by decide +kernel
theorem d_Mo_read_85 : decode b_Mo_read 85 = .ok (.aload_n 0, 1) := by decide +kernel
theorem d_Mo_read_86 : decode b_Mo_read 86 = .ok (.iconst 0, 1) := by decide +kernel
theorem d_Mo_read_87 : decode b_Mo_read 87 = .ok (.iload_n 2, 1) := by decide +kernel
theorem d_Mo_read_88 : decode b_Mo_read 88 = .ok (.iload_n 3, 1) := by decide +kernel
theorem d_Mo_read_89 : decode b_Mo_read 89 = .ok (.invokevirtual 184, 3) := by decide +kernel
theorem d_Mo_read_92 : decode b_Mo_read 92 = .ok (.aload_n 0, 1) := by decide +kernel
theorem d_Mo_read_93 : decode b_Mo_read 93 = .ok (.iload_n 3, 1) := by decide +kernel
theorem d_Mo_read_94 : decode b_Mo_read 94 = .ok (.invokevirtual 172, 3) := by decide +kernel
theorem d_Mo_read_97 : decode b_Mo_read 97 = .ok (.bipush 46, 2) := by decide +kernel
theorem d_Mo_read_99 : decode b_Mo_read 99 = .ok (.if_icmp .ne 38, 3) := by decide +kernel
theorem d_Mo_read_102 : decode b_Mo_read 102 = .ok (.aload_n 0, 1) := by decide +kernel
theorem d_Mo_read_103 : decode b_Mo_read 103 = .ok (.iconst 0, 1) := by decide +kernel
theorem d_Mo_read_104 : decode b_Mo_read 104 = .ok (.iload_n 3, 1) := by decide +kernel
theorem d_Mo_read_105 : decode b_Mo_read 105 = .ok (.iconst 1, 1) := by decide +kernel
theorem d_Mo_read_106 : decode b_Mo_read 106 = .ok (.iadd, 1) := by decide +kernel
theorem d_Mo_read_107 : decode b_Mo_read 107 = .ok (.iload 4, 2) := by decide +kernel
theorem d_Mo_read_109 : decode b_Mo_read 109 = .ok (.invokevirtual 184, 3) := by decide +kernel
theorem d_Mo_read_112 : decode b_Mo_read 112 = .ok (.iload_n 3, 1) := by decide +kernel
theorem d_Mo_read_113 : decode b_Mo_read 113 = .ok (.iconst 1, 1) := by decide +kernel
theorem d_Mo_read_114 : decode b_Mo_read 114 = .ok (.iadd, 1) := by decide +kernel
theorem d_Mo_read_115 : decode b_Mo_read 115 = .ok (.istore 5, 2) := by decide +kernel
theorem d_Mo_read_117 : decode b_Mo_read 117 = .ok (.iload 5, 2) := by decide +kernel
theorem d_Mo_read_119 : decode b_Mo_read 119 = .ok (.iload 4, 2) := by decide +kernel
theorem d_Mo_read_121 : decode b_Mo_read 121 = .ok (.if_icmp .ge 16, 3) := by decide +kernel
theorem d_Mo_read_124 : decode b_Mo_read 124 = .ok (.aload_n 0, 1) := by decide +kernel
theorem d_Mo_read_125 : decode b_Mo_read 125 = .ok (.iconst 1, 1) := by decide +kernel
theorem d_Mo_read_126 : decode b_Mo_read 126 = .ok (.bipush 10, 2) := by decide +kernel
theorem d_Mo_read_128 : decode b_Mo_read 128 = .ok (.invokevirtual 60, 3) := by decide +kernel
theorem d_Mo_read_131 : decode b_Mo_read 131 = .ok (.iinc 5 1, 3) := by decide +kernel
theorem d_Mo_read_134 : decode b_Mo_read 134 = .ok (.goto (-17), 3) := by decide +kernel
theorem d_Mo_read_137 : decode b_Mo_read 137 = .ok (.aload_n 0, 1) := by decide +kernel
theorem d_Mo_read_138 : decode b_Mo_read 138 = .ok (.iload_n 3, 1) := by decide +kernel
theorem d_Mo_read_139 : decode b_Mo_read 139 = .ok (.invokevirtual 172, 3) := by decide +kernel
theorem d_Mo_read_142 : decode b_Mo_read 142 = .ok (.bipush 47, 2) := by decide +kernel
theorem d_Mo_read_144 : decode b_Mo_read 144 = .ok (.if_icmp .ne 19, 3) := by decide +kernel
theorem d_Mo_read_147 : decode b_Mo_read 147 = .ok (.aload_n 0, 1) := by decide +kernel
theorem d_Mo_read_148 : decode b_Mo_read 148 = .ok (.iconst 1, 1) := by decide +kernel
theorem d_Mo_read_149 : decode b_Mo_read 149 = .ok (.lconst 0, 1) := by decide +kernel
theorem d_Mo_read_150 : decode b_Mo_read 150 = .ok (.invokevirtual 111, 3) := by decide +kernel
theorem d_Mo_read_153 : decode b_Mo_read 153 = .ok (.aload_n 0, 1) := by decide +kernel
theorem d_Mo_read_154 : decode b_Mo_read 154 = .ok (.iconst 1, 1) := by decide +kernel
theorem d_Mo_read_155 : decode b_Mo_read 155 = .ok (.iload_n 3, 1) := by decide +kernel
theorem d_Mo_read_156 : decode b_Mo_read 156 = .ok (.iconst 1, 1) := by decide +kernel
theorem d_Mo_read_157 : decode b_Mo_read 157 = .ok (.iadd, 1) := by decide +kernel
theorem d_Mo_read_158 : decode b_Mo_read 158 = .ok (.iload 4, 2) := by decide +kernel
theorem d_Mo_read_160 : decode b_Mo_read 160 = .ok (.invokevirtual 184, 3) := by decide +kernel
theorem d_Mo_read_163 : decode b_Mo_read 163 = .ok (.aload_n 0, 1) := by decide +kernel
theorem d_Mo_read_164 : decode b_Mo_read 164 = .ok (.iconst 0, 1) := by decide +kernel
theorem d_Mo_read_165 : decode b_Mo_read 165 = .ok (.putfield 169, 3) := by decide +kernel
theorem d_Mo_read_168 : decode b_Mo_read 168 = .ok (.aload_n 0, 1) := by decide +kernel
theorem d_Mo_read_169 : decode b_Mo_read 169 = .ok (.iload_n 1, 1) := by decide +kernel
theorem d_Mo_read_170 : decode b_Mo_read 170 = .ok (.iload_n 2, 1) := by decide +kernel
theorem d_Mo_read_171 : decode b_Mo_read 171 = .ok (.iconst 1, 1) := by decide +kernel
theorem d_Mo_read_172 : decode b_Mo_read 172 = .ok (.if_icmp .ne 7, 3) := by decide +kernel
theorem d_Mo_read_175 : decode b_Mo_read 175 = .ok (.iconst (-1), 1) := by decide +kernel
theorem d_Mo_read_176 : decode b_Mo_read 176 = .ok (.goto 4, 3) := by decide +kernel
theorem d_Mo_read_179 : decode b_Mo_read 179 = .ok (.iconst 1, 1) := by decide +kernel
theorem d_Mo_read_180 : decode b_Mo_read 180 = .ok (.iconst 3, 1) := by decide +kernel
theorem d_Mo_read_181 : decode b_Mo_read 181 = .ok (.invokevirtual 115, 3) := by decide +kernel
theorem d_Mo_read_184 : decode b_Mo_read 184 = .ok (.ireturn, 1) := by decide +kernel
theorem d_Mo_wrong_0 : decode b_Mo_wrong 0 = .ok (.aload_n 0, 1) := by decide +kernel
theorem d_Mo_wrong_1 : decode b_Mo_wrong 1 = .ok (.iconst 0, 1) := by decide +kernel
theorem d_Mo_wrong_2 : decode b_Mo_wrong 2 = .ok (.invokevirtual 172, 3) := by decide +kernel
theorem d_Mo_wrong_5 : decode b_Mo_wrong 5 = .ok (.bipush 45, 2) := by decide +kernel
theorem d_Mo_wrong_7 : decode b_Mo_wrong 7 = .ok (.if_icmp .ne 7, 3) := by decide +kernel
theorem d_Mo_wrong_10 : decode b_Mo_wrong 10 = .ok (.iconst 1, 1) := by decide +kernel
theorem d_Mo_wrong_11 : decode b_Mo_wrong 11 = .ok (.goto 4, 3) := by decide +kernel
theorem d_Mo_wrong_14 : decode b_Mo_wrong 14 = .ok (.iconst 0, 1) := by decide +kernel
theorem d_Mo_wrong_15 : decode b_Mo_wrong 15 = .ok (.istore_n 1, 1) := by decide +kernel
theorem d_Mo_wrong_16 : decode b_Mo_wrong 16 = .ok (.aload_n 0, 1) := by decide +kernel
theorem d_Mo_wrong_17 : decode b_Mo_wrong 17 = .ok (.iload_n 1, 1) := by decide +kernel
theorem d_Mo_wrong_18 : decode b_Mo_wrong 18 = .ok (.invokevirtual 178, 3) := by decide +kernel
theorem d_Mo_wrong_21 : decode b_Mo_wrong 21 = .ok (.istore_n 2, 1) := by decide +kernel
theorem d_Mo_wrong_22 : decode b_Mo_wrong 22 = .ok (.iload_n 2, 1) := by decide +kernel
theorem d_Mo_wrong_23 : decode b_Mo_wrong 23 = .ok (.iload_n 1, 1) := by decide +kernel
theorem d_Mo_wrong_24 : decode b_Mo_wrong 24 = .ok (.if_icmp .ne 5, 3) := by decide +kernel
theorem d_Mo_wrong_27 : decode b_Mo_wrong 27 = .ok (.iload_n 2, 1) := by decide +kernel
theorem d_Mo_wrong_28 : decode b_Mo_wrong 28 = .ok (.ireturn, 1) := by decide +kernel
theorem d_Mo_wrong_29 : decode b_Mo_wrong 29 = .ok (.iload_n 2, 1) := by decide +kernel
theorem d_Mo_wrong_30 : decode b_Mo_wrong 30 = .ok (.aload_n 0, 1) := by decide +kernel
theorem d_Mo_wrong_31 : decode b_Mo_wrong 31 = .ok (.getfield 169, 3) := by decide +kernel
theorem d_Mo_wrong_34 : decode b_Mo_wrong 34 = .ok (.if_icmp .ne 5, 3) := by decide +kernel
theorem d_Mo_wrong_37 : decode b_Mo_wrong 37 = .ok (.iconst (-1), 1) := by decide +kernel
theorem d_Mo_wrong_38 : decode b_Mo_wrong 38 = .ok (.ireturn, 1) := by decide +kernel
theorem d_Mo_wrong_39 : decode b_Mo_wrong 39 = .ok (.aload_n 0, 1) := by decide +kernel
theorem d_Mo_wrong_40 : decode b_Mo_wrong 40 = .ok (.iload_n 2, 1) := by decide +kernel
theorem d_Mo_wrong_41 : decode b_Mo_wrong 41 = .ok (.invokevirtual 172, 3) := by decide +kernel
theorem d_Mo_wrong_44 : decode b_Mo_wrong 44 = .ok (.bipush 46, 2) := by decide +kernel
theorem d_Mo_wrong_46 : decode b_Mo_wrong 46 = .ok (.if_icmp .eq 15, 3) := by decide +kernel
theorem d_Mo_wrong_49 : decode b_Mo_wrong 49 = .ok (.aload_n 0, 1) := by decide +kernel
theorem d_Mo_wrong_50 : decode b_Mo_wrong 50 = .ok (.iload_n 2, 1) := by decide +kernel
theorem d_Mo_wrong_51 : decode b_Mo_wrong 51 = .ok (.invokevirtual 172, 3) := by decide +kernel
theorem d_Mo_wrong_54 : decode b_Mo_wrong 54 = .ok (.bipush 47, 2) := by decide +kernel
theorem d_Mo_wrong_56 : decode b_Mo_wrong 56 = .ok (.if_icmp .eq 5, 3) := by decide +kernel
theorem d_Mo_wrong_59 : decode b_Mo_wrong 59 = .ok (.iload_n 2, 1) := by decide +kernel
theorem d_Mo_wrong_60 : decode b_Mo_wrong 60 = .ok (.ireturn, 1) := by decide +kernel
theorem d_Mo_wrong_61 : decode b_Mo_wrong 61 = .ok (.aload_n 0, 1) := by decide +kernel
theorem d_Mo_wrong_62 : decode b_Mo_wrong 62 = .ok (.iload_n 2, 1) := by decide +kernel
theorem d_Mo_wrong_63 : decode b_Mo_wrong 63 = .ok (.iconst 1, 1) := by decide +kernel
theorem d_Mo_wrong_64 : decode b_Mo_wrong 64 = .ok (.iadd, 1) := by decide +kernel
theorem d_Mo_wrong_65 : decode b_Mo_wrong 65 = .ok (.invokevirtual 178, 3) := by decide +kernel
theorem d_Mo_wrong_68 : decode b_Mo_wrong 68 = .ok (.istore_n 3, 1) := by decide +kernel
theorem d_Mo_wrong_69 : decode b_Mo_wrong 69 = .ok (.iload_n 3, 1) := by decide +kernel
theorem d_Mo_wrong_70 : decode b_Mo_wrong 70 = .ok (.iload_n 2, 1) := by decide +kernel
theorem d_Mo_wrong_71 : decode b_Mo_wrong 71 = .ok (.iconst 1, 1) := by decide +kernel
theorem d_Mo_wrong_72 : decode b_Mo_wrong 72 = .ok (.iadd, 1) := by decide +kernel
theorem d_Mo_wrong_73 : decode b_Mo_wrong 73 = .ok (.if_icmp .eq 11, 3) := by decide +kernel
theorem d_Mo_wrong_76 : decode b_Mo_wrong 76 = .ok (.iload_n 3, 1) := by decide +kernel
theorem d_Mo_wrong_77 : decode b_Mo_wrong 77 = .ok (.aload_n 0, 1) := by decide +kernel
theorem d_Mo_wrong_78 : decode b_Mo_wrong 78 = .ok (.getfield 169, 3) := by decide +kernel
theorem d_Mo_wrong_81 : decode b_Mo_wrong 81 = .ok (.if_icmp .ge 5, 3) := by decide +kernel
theorem d_Mo_wrong_84 : decode b_Mo_wrong 84 = .ok (.iload_n 3, 1) := by decide +kernel
theorem d_Mo_wrong_85 : decode b_Mo_wrong 85 = .ok (.ireturn, 1) := by decide +kernel
theorem d_Mo_wrong_86 : decode b_Mo_wrong 86 = .ok (.aload_n 0, 1) := by decide +kernel
theorem d_Mo_wrong_87 : decode b_Mo_wrong 87 = .ok (.iload_n 2, 1) := by decide +kernel
theorem d_Mo_wrong_88 : decode b_Mo_wrong 88 = .ok (.invokevirtual 172, 3) := by decide +kernel
theorem d_Mo_wrong_91 : decode b_Mo_wrong 91 = .ok (.bipush 47, 2) := by decide +kernel
theorem d_Mo_wrong_93 : decode b_Mo_wrong 93 = .ok (.if_icmp .ne 7, 3) := by decide +kernel
theorem d_Mo_wrong_96 : decode b_Mo_wrong 96 = .ok (.iconst 1, 1) := by decide +kernel
theorem d_Mo_wrong_97 : decode b_Mo_wrong 97 = .ok (.goto 4, 3) := by decide +kernel
theorem d_Mo_wrong_100 : decode b_Mo_wrong 100 = .ok (.iconst 0, 1) := by decide +kernel
theorem d_Mo_wrong_101 : decode b_Mo_wrong 101 = .ok (.istore 4, 2) := by decide +kernel
theorem d_Mo_wrong_103 : decode b_Mo_wrong 103 = .ok (.iload_n 2, 1) := by decide +kernel
theorem d_Mo_wrong_104 : decode b_Mo_wrong 104 = .ok (.iconst 1, 1) := by decide +kernel
theorem d_Mo_wrong_105 : decode b_Mo_wrong 105 = .ok (.iadd, 1) := by decide +kernel
theorem d_Mo_wrong_106 : decode b_Mo_wrong 106 = .ok (.istore 5, 2) := by decide +kernel
theorem d_Mo_wrong_108 : decode b_Mo_wrong 108 = .ok (.iload 5, 2) := by decide +kernel
theorem d_Mo_wrong_110 : decode b_Mo_wrong 110 = .ok (.iload_n 3, 1) := by decide +kernel
theorem d_Mo_wrong_111 : decode b_Mo_wrong 111 = .ok (.if_icmp .ge 32, 3) := by decide +kernel
theorem d_Mo_wrong_114 : decode b_Mo_wrong 114 = .ok (.iload 4, 2) := by decide +kernel
theorem d_Mo_wrong_116 : decode b_Mo_wrong 116 = .ok (.ifCond .eq 18, 3) := by decide +kernel
theorem d_Mo_wrong_119 : decode b_Mo_wrong 119 = .ok (.aload_n 0, 1) := by decide +kernel
theorem d_Mo_wrong_120 : decode b_Mo_wrong 120 = .ok (.iload 5, 2) := by decide +kernel
theorem d_Mo_wrong_122 : decode b_Mo_wrong 122 = .ok (.invokevirtual 172, 3) := by decide +kernel
theorem d_Mo_wrong_125 : decode b_Mo_wrong 125 = .ok (.bipush 48, 2) := by decide +kernel
theorem d_Mo_wrong_127 : decode b_Mo_wrong 127 = .ok (.if_icmp .ne 7, 3) := by decide +kernel
theorem d_Mo_wrong_130 : decode b_Mo_wrong 130 = .ok (.iconst 1, 1) := by decide +kernel
theorem d_Mo_wrong_131 : decode b_Mo_wrong 131 = .ok (.goto 4, 3) := by decide +kernel
theorem d_Mo_wrong_134 : decode b_Mo_wrong 134 = .ok (.iconst 0, 1) := by decide +kernel
theorem d_Mo_wrong_135 : decode b_Mo_wrong 135 = .ok (.istore 4, 2) := by decide +kernel
theorem d_Mo_wrong_137 : decode b_Mo_wrong 137 = .ok (.iinc 5 1, 3) := by decide +kernel
theorem d_Mo_wrong_140 : decode b_Mo_wrong 140 = .ok (.goto (-32), 3) := by decide +kernel
theorem d_Mo_wrong_143 : decode b_Mo_wrong 143 = .ok (.iload 4, 2) := by decide +kernel
theorem d_Mo_wrong_145 : decode b_Mo_wrong 145 = .ok (.ifCond .eq 7, 3) := by decide +kernel
theorem d_Mo_wrong_148 : decode b_Mo_wrong 148 = .ok (.iload_n 2, 1) := by decide +kernel
theorem d_Mo_wrong_149 : decode b_Mo_wrong 149 = .ok (.goto 4, 3) := by decide +kernel
theorem d_Mo_wrong_152 : decode b_Mo_wrong 152 = .ok (.iconst (-1), 1) := by decide +kernel
theorem d_Mo_wrong_153 : decode b_Mo_wrong 153 = .ok (.ireturn, 1) := by decide +kernel
theorem d_Mo_at_0 : decode b_Mo_at 0 = .ok (.iload_n 1, 1) := by decide +kernel
theorem d_Mo_at_1 : decode b_Mo_at 1 = .ok (.aload_n 0, 1) := by decide +kernel
theorem d_Mo_at_2 : decode b_Mo_at 2 = .ok (.getfield 169, 3) := by decide +kernel
theorem d_Mo_at_5 : decode b_Mo_at 5 = .ok (.if_icmp .ge 12, 3) := by decide +kernel
theorem d_Mo_at_8 : decode b_Mo_at 8 = .ok (.aload_n 0, 1) := by decide +kernel
theorem d_Mo_at_9 : decode b_Mo_at 9 = .ok (.getfield 33, 3) := by decide +kernel
theorem d_Mo_at_12 : decode b_Mo_at 12 = .ok (.iload_n 1, 1) := by decide +kernel
theorem d_Mo_at_13 : decode b_Mo_at 13 = .ok (.iaload, 1) := by decide +kernel
theorem d_Mo_at_14 : decode b_Mo_at 14 = .ok (.goto 4, 3) := by decide +kernel
theorem d_Mo_at_17 : decode b_Mo_at 17 = .ok (.iconst (-1), 1) := by decide +kernel
theorem d_Mo_at_18 : decode b_Mo_at 18 = .ok (.ireturn, 1) := by decide +kernel
theorem d_Mo_behind_0 : decode b_Mo_behind 0 = .ok (.iload_n 1, 1) := by decide +kernel
theorem d_Mo_behind_1 : decode b_Mo_behind 1 = .ok (.istore_n 2, 1) := by decide +kernel
theorem d_Mo_behind_2 : decode b_Mo_behind 2 = .ok (.aload_n 0, 1) := by decide +kernel
theorem d_Mo_behind_3 : decode b_Mo_behind 3 = .ok (.iload_n 2, 1) := by decide +kernel
theorem d_Mo_behind_4 : decode b_Mo_behind 4 = .ok (.invokevirtual 175, 3) := by decide +kernel
theorem d_Mo_behind_7 : decode b_Mo_behind 7 = .ok (.ifCond .eq 9, 3) := by decide +kernel
theorem d_Mo_behind_10 : decode b_Mo_behind 10 = .ok (.iinc 2 1, 3) := by decide +kernel
theorem d_Mo_behind_13 : decode b_Mo_behind 13 = .ok (.goto (-11), 3) := by decide +kernel
theorem d_Mo_behind_16 : decode b_Mo_behind 16 = .ok (.iload_n 2, 1) := by decide +kernel
theorem d_Mo_behind_17 : decode b_Mo_behind 17 = .ok (.ireturn, 1) := by decide +kernel
theorem d_Mo_isFigure_0 : decode b_Mo_isFigure 0 = .ok (.aload_n 0, 1) := by decide +kernel
theorem d_Mo_isFigure_1 : decode b_Mo_isFigure 1 = .ok (.iload_n 1, 1) := by decide +kernel
theorem d_Mo_isFigure_2 : decode b_Mo_isFigure 2 = .ok (.invokevirtual 172, 3) := by decide +kernel
theorem d_Mo_isFigure_5 : decode b_Mo_isFigure 5 = .ok (.bipush 48, 2) := by decide +kernel
theorem d_Mo_isFigure_7 : decode b_Mo_isFigure 7 = .ok (.if_icmp .lt 17, 3) := by decide +kernel
theorem d_Mo_isFigure_10 : decode b_Mo_isFigure 10 = .ok (.aload_n 0, 1) := by decide +kernel
theorem d_Mo_isFigure_11 : decode b_Mo_isFigure 11 = .ok (.iload_n 1, 1) := by decide +kernel
theorem d_Mo_isFigure_12 : decode b_Mo_isFigure 12 = .ok (.invokevirtual 172, 3) := by decide +kernel
theorem d_Mo_isFigure_15 : decode b_Mo_isFigure 15 = .ok (.bipush 57, 2) := by decide +kernel
theorem d_Mo_isFigure_17 : decode b_Mo_isFigure 17 = .ok (.if_icmp .gt 7, 3) := by decide +kernel
theorem d_Mo_isFigure_20 : decode b_Mo_isFigure 20 = .ok (.iconst 1, 1) := by decide +kernel
theorem d_Mo_isFigure_21 : decode b_Mo_isFigure 21 = .ok (.goto 4, 3) := by decide +kernel
theorem d_Mo_isFigure_24 : decode b_Mo_isFigure 24 = .ok (.iconst 0, 1) := by decide +kernel
theorem d_Mo_isFigure_25 : decode b_Mo_isFigure 25 = .ok (.ireturn, 1) := by decide +kernel
theorem d_Mo_figures_0 : decode b_Mo_figures 0 = .ok (.iload_n 2, 1) := by decide +kernel
theorem d_Mo_figures_1 : decode b_Mo_figures 1 = .ok (.istore 4, 2) := by decide +kernel
theorem d_Mo_figures_3 : decode b_Mo_figures 3 = .ok (.iload 4, 2) := by decide +kernel
theorem d_Mo_figures_5 : decode b_Mo_figures 5 = .ok (.iload_n 3, 1) := by decide +kernel
theorem d_Mo_figures_6 : decode b_Mo_figures 6 = .ok (.if_icmp .ge 37, 3) := by decide +kernel
theorem d_Mo_figures_9 : decode b_Mo_figures 9 = .ok (.aload_n 0, 1) := by decide +kernel
theorem d_Mo_figures_10 : decode b_Mo_figures 10 = .ok (.iload_n 1, 1) := by decide +kernel
theorem d_Mo_figures_11 : decode b_Mo_figures 11 = .ok (.bipush 10, 2) := by decide +kernel
theorem d_Mo_figures_13 : decode b_Mo_figures 13 = .ok (.invokevirtual 60, 3) := by decide +kernel
theorem d_Mo_figures_16 : decode b_Mo_figures 16 = .ok (.aload_n 0, 1) := by decide +kernel
theorem d_Mo_figures_17 : decode b_Mo_figures 17 = .ok (.iconst 5, 1) := by decide +kernel
theorem d_Mo_figures_18 : decode b_Mo_figures 18 = .ok (.aload_n 0, 1) := by decide +kernel
theorem d_Mo_figures_19 : decode b_Mo_figures 19 = .ok (.iload 4, 2) := by decide +kernel
theorem d_Mo_figures_21 : decode b_Mo_figures 21 = .ok (.invokevirtual 172, 3) := by decide +kernel
theorem d_Mo_figures_24 : decode b_Mo_figures 24 = .ok (.bipush 48, 2) := by decide +kernel
theorem d_Mo_figures_26 : decode b_Mo_figures 26 = .ok (.isub, 1) := by decide +kernel
theorem d_Mo_figures_27 : decode b_Mo_figures 27 = .ok (.i2l, 1) := by decide +kernel
theorem d_Mo_figures_28 : decode b_Mo_figures 28 = .ok (.invokevirtual 111, 3) := by decide +kernel
theorem d_Mo_figures_31 : decode b_Mo_figures 31 = .ok (.aload_n 0, 1) := by decide +kernel
theorem d_Mo_figures_32 : decode b_Mo_figures 32 = .ok (.iload_n 1, 1) := by decide +kernel
theorem d_Mo_figures_33 : decode b_Mo_figures 33 = .ok (.iconst 5, 1) := by decide +kernel
theorem d_Mo_figures_34 : decode b_Mo_figures 34 = .ok (.invokevirtual 124, 3) := by decide +kernel
theorem d_Mo_figures_37 : decode b_Mo_figures 37 = .ok (.iinc 4 1, 3) := by decide +kernel
theorem d_Mo_figures_40 : decode b_Mo_figures 40 = .ok (.goto (-37), 3) := by decide +kernel
theorem d_Mo_figures_43 : decode b_Mo_figures 43 = .ok (.return_, 1) := by decide +kernel
theorem d_Mo_fault_0 : decode b_Mo_fault 0 = .ok (.aload_n 0, 1) := by decide +kernel
theorem d_Mo_fault_1 : decode b_Mo_fault 1 = .ok (.iconst 0, 1) := by decide +kernel
theorem d_Mo_fault_2 : decode b_Mo_fault 2 = .ok (.putfield 46, 3) := by decide +kernel
theorem d_Mo_fault_5 : decode b_Mo_fault 5 = .ok (.aload_n 0, 1) := by decide +kernel
theorem d_Mo_fault_6 : decode b_Mo_fault 6 = .ok (.getfield 36, 3) := by decide +kernel
theorem d_Mo_fault_9 : decode b_Mo_fault 9 = .ok (.ireturn, 1) := by decide +kernel
theorem d_Mo_print_0 : decode b_Mo_print 0 = .ok (.aload_n 0, 1) := by decide +kernel
theorem d_Mo_print_1 : decode b_Mo_print 1 = .ok (.iload_n 1, 1) := by decide +kernel
theorem d_Mo_print_2 : decode b_Mo_print 2 = .ok (.invokestatic 108, 3) := by decide +kernel
theorem d_Mo_print_5 : decode b_Mo_print 5 = .ok (.ifCond .eq 7, 3) := by decide +kernel
theorem d_Mo_print_8 : decode b_Mo_print 8 = .ok (.iconst 0, 1) := by decide +kernel
theorem d_Mo_print_9 : decode b_Mo_print 9 = .ok (.goto 4, 3) := by decide +kernel
theorem d_Mo_print_12 : decode b_Mo_print 12 = .ok (.iconst 1, 1) := by decide +kernel
theorem d_Mo_print_13 : decode b_Mo_print 13 = .ok (.invokevirtual 101, 3) := by decide +kernel
theorem d_Mo_print_16 : decode b_Mo_print 16 = .ok (.ifCond .eq 5, 3) := by decide +kernel
theorem d_Mo_print_19 : decode b_Mo_print 19 = .ok (.iconst 0, 1) := by decide +kernel
theorem d_Mo_print_20 : decode b_Mo_print 20 = .ok (.ireturn, 1) := by decide +kernel
theorem d_Mo_print_21 : decode b_Mo_print 21 = .ok (.aload_n 0, 1) := by decide +kernel
theorem d_Mo_print_22 : decode b_Mo_print 22 = .ok (.iconst 0, 1) := by decide +kernel
theorem d_Mo_print_23 : decode b_Mo_print 23 = .ok (.putfield 187, 3) := by decide +kernel
theorem d_Mo_print_26 : decode b_Mo_print 26 = .ok (.aload_n 0, 1) := by decide +kernel
theorem d_Mo_print_27 : decode b_Mo_print 27 = .ok (.iconst 0, 1) := by decide +kernel
theorem d_Mo_print_28 : decode b_Mo_print 28 = .ok (.iconst 2, 1) := by decide +kernel
theorem d_Mo_print_29 : decode b_Mo_print 29 = .ok (.iload_n 1, 1) := by decide +kernel
theorem d_Mo_print_30 : decode b_Mo_print 30 = .ok (.imul, 1) := by decide +kernel
theorem d_Mo_print_31 : decode b_Mo_print 31 = .ok (.invokevirtual 118, 3) := by decide +kernel
theorem d_Mo_print_34 : decode b_Mo_print 34 = .ok (.aload_n 0, 1) := by decide +kernel
theorem d_Mo_print_35 : decode b_Mo_print 35 = .ok (.iconst 1, 1) := by decide +kernel
theorem d_Mo_print_36 : decode b_Mo_print 36 = .ok (.iconst 2, 1) := by decide +kernel
theorem d_Mo_print_37 : decode b_Mo_print 37 = .ok (.iload_n 1, 1) := by decide +kernel
theorem d_Mo_print_38 : decode b_Mo_print 38 = .ok (.imul, 1) := by decide +kernel
theorem d_Mo_print_39 : decode b_Mo_print 39 = .ok (.iconst 1, 1) := by decide +kernel
theorem d_Mo_print_40 : decode b_Mo_print 40 = .ok (.iadd, 1) := by decide +kernel
theorem d_Mo_print_41 : decode b_Mo_print 41 = .ok (.invokevirtual 118, 3) := by decide +kernel
theorem d_Mo_print_44 : decode b_Mo_print 44 = .ok (.aload_n 0, 1) := by decide +kernel
theorem d_Mo_print_45 : decode b_Mo_print 45 = .ok (.getfield 24, 3) := by decide +kernel
theorem d_Mo_print_48 : decode b_Mo_print 48 = .ok (.iload_n 1, 1) := by decide +kernel
theorem d_Mo_print_49 : decode b_Mo_print 49 = .ok (.iaload, 1) := by decide +kernel
theorem d_Mo_print_50 : decode b_Mo_print 50 = .ok (.ifCond .ge 16, 3) := by decide +kernel
theorem d_Mo_print_53 : decode b_Mo_print 53 = .ok (.aload_n 0, 1) := by decide +kernel
theorem d_Mo_print_54 : decode b_Mo_print 54 = .ok (.getfield 40, 3) := by decide +kernel
theorem d_Mo_print_57 : decode b_Mo_print 57 = .ok (.iconst 0, 1) := by decide +kernel
theorem d_Mo_print_58 : decode b_Mo_print 58 = .ok (.bipush 45, 2) := by decide +kernel
theorem d_Mo_print_60 : decode b_Mo_print 60 = .ok (.iastore, 1) := by decide +kernel
theorem d_Mo_print_61 : decode b_Mo_print 61 = .ok (.aload_n 0, 1) := by decide +kernel
theorem d_Mo_print_62 : decode b_Mo_print 62 = .ok (.iconst 1, 1) := by decide +kernel
theorem d_Mo_print_63 : decode b_Mo_print 63 = .ok (.putfield 187, 3) := by decide +kernel
theorem d_Mo_print_66 : decode b_Mo_print 66 = .ok (.aload_n 0, 1) := by decide +kernel
theorem d_Mo_print_67 : decode b_Mo_print 67 = .ok (.getfield 14, 3) := by decide +kernel
theorem d_Mo_print_70 : decode b_Mo_print 70 = .ok (.iconst 0, 1) := by decide +kernel
theorem d_Mo_print_71 : decode b_Mo_print 71 = .ok (.iaload, 1) := by decide +kernel
theorem d_Mo_print_72 : decode b_Mo_print 72 = .ok (.ifCond .ne 16, 3) := by decide +kernel
theorem d_Mo_print_75 : decode b_Mo_print 75 = .ok (.aload_n 0, 1) := by decide +kernel
theorem d_Mo_print_76 : decode b_Mo_print 76 = .ok (.getfield 40, 3) := by decide +kernel
theorem d_Mo_print_79 : decode b_Mo_print 79 = .ok (.iconst 0, 1) := by decide +kernel
theorem d_Mo_print_80 : decode b_Mo_print 80 = .ok (.bipush 48, 2) := by decide +kernel
theorem d_Mo_print_82 : decode b_Mo_print 82 = .ok (.iastore, 1) := by decide +kernel
theorem d_Mo_print_83 : decode b_Mo_print 83 = .ok (.aload_n 0, 1) := by decide +kernel
theorem d_Mo_print_84 : decode b_Mo_print 84 = .ok (.iconst 1, 1) := by decide +kernel
theorem d_Mo_print_85 : decode b_Mo_print 85 = .ok (.putfield 187, 3) := by decide +kernel
theorem d_Mo_print_88 : decode b_Mo_print 88 = .ok (.aload_n 0, 1) := by decide +kernel
theorem d_Mo_print_89 : decode b_Mo_print 89 = .ok (.iconst 0, 1) := by decide +kernel
theorem d_Mo_print_90 : decode b_Mo_print 90 = .ok (.invokevirtual 190, 3) := by decide +kernel
theorem d_Mo_print_93 : decode b_Mo_print 93 = .ok (.aload_n 0, 1) := by decide +kernel
theorem d_Mo_print_94 : decode b_Mo_print 94 = .ok (.getfield 14, 3) := by decide +kernel
theorem d_Mo_print_97 : decode b_Mo_print 97 = .ok (.iconst 1, 1) := by decide +kernel
theorem d_Mo_print_98 : decode b_Mo_print 98 = .ok (.iaload, 1) := by decide +kernel
theorem d_Mo_print_99 : decode b_Mo_print 99 = .ok (.iconst 1, 1) := by decide +kernel
theorem d_Mo_print_100 : decode b_Mo_print 100 = .ok (.if_icmp .gt 15, 3) := by decide +kernel
theorem d_Mo_print_103 : decode b_Mo_print 103 = .ok (.aload_n 0, 1) := by decide +kernel
theorem d_Mo_print_104 : decode b_Mo_print 104 = .ok (.getfield 8, 3) := by decide +kernel
theorem d_Mo_print_107 : decode b_Mo_print 107 = .ok (.sipush 12000, 3) := by decide +kernel
theorem d_Mo_print_110 : decode b_Mo_print 110 = .ok (.iaload, 1) := by decide +kernel
theorem d_Mo_print_111 : decode b_Mo_print 111 = .ok (.iconst 1, 1) := by decide +kernel
theorem d_Mo_print_112 : decode b_Mo_print 112 = .ok (.if_icmp .le 29, 3) := by decide +kernel
theorem d_Mo_print_115 : decode b_Mo_print 115 = .ok (.aload_n 0, 1) := by decide +kernel
theorem d_Mo_print_116 : decode b_Mo_print 116 = .ok (.getfield 40, 3) := by decide +kernel
theorem d_Mo_print_119 : decode b_Mo_print 119 = .ok (.aload_n 0, 1) := by decide +kernel
theorem d_Mo_print_120 : decode b_Mo_print 120 = .ok (.getfield 187, 3) := by decide +kernel
theorem d_Mo_print_123 : decode b_Mo_print 123 = .ok (.bipush 47, 2) := by decide +kernel
theorem d_Mo_print_125 : decode b_Mo_print 125 = .ok (.iastore, 1) := by decide +kernel
theorem d_Mo_print_126 : decode b_Mo_print 126 = .ok (.aload_n 0, 1) := by decide +kernel
theorem d_Mo_print_127 : decode b_Mo_print 127 = .ok (.dup, 1) := by decide +kernel
theorem d_Mo_print_128 : decode b_Mo_print 128 = .ok (.getfield 187, 3) := by decide +kernel
theorem d_Mo_print_131 : decode b_Mo_print 131 = .ok (.iconst 1, 1) := by decide +kernel
theorem d_Mo_print_132 : decode b_Mo_print 132 = .ok (.iadd, 1) := by decide +kernel
theorem d_Mo_print_133 : decode b_Mo_print 133 = .ok (.putfield 187, 3) := by decide +kernel
theorem d_Mo_print_136 : decode b_Mo_print 136 = .ok (.aload_n 0, 1) := by decide +kernel
theorem d_Mo_print_137 : decode b_Mo_print 137 = .ok (.iconst 1, 1) := by decide +kernel
theorem d_Mo_print_138 : decode b_Mo_print 138 = .ok (.invokevirtual 190, 3) := by decide +kernel
theorem d_Mo_print_141 : decode b_Mo_print 141 = .ok (.aload_n 0, 1) := by decide +kernel
theorem d_Mo_print_142 : decode b_Mo_print 142 = .ok (.getfield 187, 3) := by decide +kernel
theorem d_Mo_print_145 : decode b_Mo_print 145 = .ok (.ireturn, 1) := by decide +kernel
theorem d_Mo_say_0 : decode b_Mo_say 0 = .ok (.aload_n 0, 1) := by decide +kernel
theorem d_Mo_say_1 : decode b_Mo_say 1 = .ok (.getfield 14, 3) := by decide +kernel
theorem d_Mo_say_4 : decode b_Mo_say 4 = .ok (.iload_n 1, 1) := by decide +kernel
theorem d_Mo_say_5 : decode b_Mo_say 5 = .ok (.iaload, 1) := by decide +kernel
theorem d_Mo_say_6 : decode b_Mo_say 6 = .ok (.iconst 1, 1) := by decide +kernel
theorem d_Mo_say_7 : decode b_Mo_say 7 = .ok (.isub, 1) := by decide +kernel
theorem d_Mo_say_8 : decode b_Mo_say 8 = .ok (.istore_n 2, 1) := by decide +kernel
theorem d_Mo_say_9 : decode b_Mo_say 9 = .ok (.iload_n 2, 1) := by decide +kernel
theorem d_Mo_say_10 : decode b_Mo_say 10 = .ok (.ifCond .lt 95, 3) := by decide +kernel
theorem d_Mo_say_13 : decode b_Mo_say 13 = .ok (.aload_n 0, 1) := by decide +kernel
theorem d_Mo_say_14 : decode b_Mo_say 14 = .ok (.getfield 8, 3) := by decide +kernel
theorem d_Mo_say_17 : decode b_Mo_say 17 = .ok (.sipush 12000, 3) := by decide +kernel
theorem d_Mo_say_20 : decode b_Mo_say 20 = .ok (.iload_n 1, 1) := by decide +kernel
theorem d_Mo_say_21 : decode b_Mo_say 21 = .ok (.imul, 1) := by decide +kernel
theorem d_Mo_say_22 : decode b_Mo_say 22 = .ok (.iload_n 2, 1) := by decide +kernel
theorem d_Mo_say_23 : decode b_Mo_say 23 = .ok (.iadd, 1) := by decide +kernel
theorem d_Mo_say_24 : decode b_Mo_say 24 = .ok (.iaload, 1) := by decide +kernel
theorem d_Mo_say_25 : decode b_Mo_say 25 = .ok (.istore_n 3, 1) := by decide +kernel
theorem d_Mo_say_26 : decode b_Mo_say 26 = .ok (.sipush 1000, 3) := by decide +kernel
theorem d_Mo_say_29 : decode b_Mo_say 29 = .ok (.istore 4, 2) := by decide +kernel
theorem d_Mo_say_31 : decode b_Mo_say 31 = .ok (.iload 4, 2) := by decide +kernel
theorem d_Mo_say_33 : decode b_Mo_say 33 = .ok (.ifCond .le 66, 3) := by decide +kernel
theorem d_Mo_say_36 : decode b_Mo_say 36 = .ok (.iload_n 2, 1) := by decide +kernel
theorem d_Mo_say_37 : decode b_Mo_say 37 = .ok (.aload_n 0, 1) := by decide +kernel
theorem d_Mo_say_38 : decode b_Mo_say 38 = .ok (.getfield 14, 3) := by decide +kernel
theorem d_Mo_say_41 : decode b_Mo_say 41 = .ok (.iload_n 1, 1) := by decide +kernel
theorem d_Mo_say_42 : decode b_Mo_say 42 = .ok (.iaload, 1) := by decide +kernel
theorem d_Mo_say_43 : decode b_Mo_say 43 = .ok (.iconst 1, 1) := by decide +kernel
theorem d_Mo_say_44 : decode b_Mo_say 44 = .ok (.isub, 1) := by decide +kernel
theorem d_Mo_say_45 : decode b_Mo_say 45 = .ok (.if_icmp .lt 15, 3) := by decide +kernel
theorem d_Mo_say_48 : decode b_Mo_say 48 = .ok (.iload_n 3, 1) := by decide +kernel
theorem d_Mo_say_49 : decode b_Mo_say 49 = .ok (.iload 4, 2) := by decide +kernel
theorem d_Mo_say_51 : decode b_Mo_say 51 = .ok (.if_icmp .ge 9, 3) := by decide +kernel
theorem d_Mo_say_54 : decode b_Mo_say 54 = .ok (.iload 4, 2) := by decide +kernel
theorem d_Mo_say_56 : decode b_Mo_say 56 = .ok (.iconst 1, 1) := by decide +kernel
theorem d_Mo_say_57 : decode b_Mo_say 57 = .ok (.if_icmp .ne 32, 3) := by decide +kernel
theorem d_Mo_say_60 : decode b_Mo_say 60 = .ok (.aload_n 0, 1) := by decide +kernel
theorem d_Mo_say_61 : decode b_Mo_say 61 = .ok (.getfield 40, 3) := by decide +kernel
theorem d_Mo_say_64 : decode b_Mo_say 64 = .ok (.aload_n 0, 1) := by decide +kernel
theorem d_Mo_say_65 : decode b_Mo_say 65 = .ok (.getfield 187, 3) := by decide +kernel
theorem d_Mo_say_68 : decode b_Mo_say 68 = .ok (.bipush 48, 2) := by decide +kernel
theorem d_Mo_say_70 : decode b_Mo_say 70 = .ok (.iload_n 3, 1) := by decide +kernel
theorem d_Mo_say_71 : decode b_Mo_say 71 = .ok (.iload 4, 2) := by decide +kernel
theorem d_Mo_say_73 : decode b_Mo_say 73 = .ok (.idiv, 1) := by decide +kernel
theorem d_Mo_say_74 : decode b_Mo_say 74 = .ok (.bipush 10, 2) := by decide +kernel
theorem d_Mo_say_76 : decode b_Mo_say 76 = .ok (.irem, 1) := by decide +kernel
theorem d_Mo_say_77 : decode b_Mo_say 77 = .ok (.iadd, 1) := by decide +kernel
theorem d_Mo_say_78 : decode b_Mo_say 78 = .ok (.iastore, 1) := by decide +kernel
theorem d_Mo_say_79 : decode b_Mo_say 79 = .ok (.aload_n 0, 1) := by decide +kernel
theorem d_Mo_say_80 : decode b_Mo_say 80 = .ok (.dup, 1) := by decide +kernel
theorem d_Mo_say_81 : decode b_Mo_say 81 = .ok (.getfield 187, 3) := by decide +kernel
theorem d_Mo_say_84 : decode b_Mo_say 84 = .ok (.iconst 1, 1) := by decide +kernel
theorem d_Mo_say_85 : decode b_Mo_say 85 = .ok (.iadd, 1) := by decide +kernel
theorem d_Mo_say_86 : decode b_Mo_say 86 = .ok (.putfield 187, 3) := by decide +kernel
theorem d_Mo_say_89 : decode b_Mo_say 89 = .ok (.iload 4, 2) := by decide +kernel
theorem d_Mo_say_91 : decode b_Mo_say 91 = .ok (.bipush 10, 2) := by decide +kernel
theorem d_Mo_say_93 : decode b_Mo_say 93 = .ok (.idiv, 1) := by decide +kernel
theorem d_Mo_say_94 : decode b_Mo_say 94 = .ok (.istore 4, 2) := by decide +kernel
theorem d_Mo_say_96 : decode b_Mo_say 96 = .ok (.goto (-65), 3) := by decide +kernel
theorem d_Mo_say_99 : decode b_Mo_say 99 = .ok (.iinc 2 (-1), 3) := by decide +kernel
theorem d_Mo_say_102 : decode b_Mo_say 102 = .ok (.goto (-93), 3) := by decide +kernel
theorem d_Mo_say_105 : decode b_Mo_say 105 = .ok (.return_, 1) := by decide +kernel
theorem d_Mo_character_0 : decode b_Mo_character 0 = .ok (.aload_n 0, 1) := by decide +kernel
theorem d_Mo_character_1 : decode b_Mo_character 1 = .ok (.iconst 0, 1) := by decide +kernel
theorem d_Mo_character_2 : decode b_Mo_character 2 = .ok (.putfield 46, 3) := by decide +kernel
theorem d_Mo_character_5 : decode b_Mo_character 5 = .ok (.iload_n 1, 1) := by decide +kernel
theorem d_Mo_character_6 : decode b_Mo_character 6 = .ok (.ifCond .lt 20, 3) := by decide +kernel
theorem d_Mo_character_9 : decode b_Mo_character 9 = .ok (.iload_n 1, 1) := by decide +kernel
theorem d_Mo_character_10 : decode b_Mo_character 10 = .ok (.aload_n 0, 1) := by decide +kernel
theorem d_Mo_character_11 : decode b_Mo_character 11 = .ok (.getfield 187, 3) := by decide +kernel
theorem d_Mo_character_14 : decode b_Mo_character 14 = .ok (.if_icmp .ge 12, 3) := by decide +kernel
theorem d_Mo_character_17 : decode b_Mo_character 17 = .ok (.aload_n 0, 1) := by decide +kernel
theorem d_Mo_character_18 : decode b_Mo_character 18 = .ok (.getfield 40, 3) := by decide +kernel
theorem d_Mo_character_21 : decode b_Mo_character 21 = .ok (.iload_n 1, 1) := by decide +kernel
theorem d_Mo_character_22 : decode b_Mo_character 22 = .ok (.iaload, 1) := by decide +kernel
theorem d_Mo_character_23 : decode b_Mo_character 23 = .ok (.goto 4, 3) := by decide +kernel
theorem d_Mo_character_26 : decode b_Mo_character 26 = .ok (.iconst (-1), 1) := by decide +kernel
theorem d_Mo_character_27 : decode b_Mo_character 27 = .ok (.ireturn, 1) := by decide +kernel
