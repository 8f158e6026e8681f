theorem d_Fp_init_0 : decode b_Fp_init 0 = .ok (.aload_n 0, 1) := by decide +kernel
theorem d_Fp_init_1 : decode b_Fp_init 1 = .ok (.invokespecial 1, 3) := by decide +kernel
theorem d_Fp_init_4 : decode b_Fp_init 4 = .ok (.aload_n 0, 1) := by decide +kernel
theorem d_Fp_init_5 : decode b_Fp_init 5 = .ok (.iload_n 1, 1) := by decide +kernel
theorem d_Fp_init_6 : decode b_Fp_init 6 = .ok (.bipush 64, 2) := by decide +kernel
theorem d_Fp_init_8 : decode b_Fp_init 8 = .ok (.if_icmp .lt 14, 3) := by decide +kernel
theorem d_Fp_init_11 : decode b_Fp_init 11 = .ok (.iload_n 1, 1) := by decide +kernel
theorem d_Fp_init_12 : decode b_Fp_init 12 = .ok (.sipush 1024, 3) := by decide +kernel
theorem d_Fp_init_15 : decode b_Fp_init 15 = .ok (.if_icmp .gt 7, 3) := by decide +kernel
theorem d_Fp_init_18 : decode b_Fp_init 18 = .ok (.iload_n 1, 1) := by decide +kernel
theorem d_Fp_init_19 : decode b_Fp_init 19 = .ok (.goto 6, 3) := by decide +kernel
theorem d_Fp_init_22 : decode b_Fp_init 22 = .ok (.sipush 1024, 3) := by decide +kernel
theorem d_Fp_init_25 : decode b_Fp_init 25 = .ok (.putfield 9, 3) := by decide +kernel
theorem d_Fp_init_28 : decode b_Fp_init 28 = .ok (.aload_n 0, 1) := by decide +kernel
theorem d_Fp_init_29 : decode b_Fp_init 29 = .ok (.getfield 9, 3) := by decide +kernel
theorem d_Fp_init_32 : decode b_Fp_init 32 = .ok (.invokestatic 13, 3) := by decide +kernel
theorem d_Fp_init_35 : decode b_Fp_init 35 = .ok (.istore_n 2, 1) := by decide +kernel
theorem d_Fp_init_36 : decode b_Fp_init 36 = .ok (.aload_n 0, 1) := by decide +kernel
theorem d_Fp_init_37 : decode b_Fp_init 37 = .ok (.new 17, 3) := by decide +kernel
theorem d_Fp_init_40 : decode b_Fp_init 40 = .ok (.dup, 1) := by decide +kernel
theorem d_Fp_init_41 : decode b_Fp_init 41 = .ok (.aload_n 0, 1) := by decide +kernel
theorem d_Fp_init_42 : decode b_Fp_init 42 = .ok (.getfield 9, 3) := by decide +kernel
theorem d_Fp_init_45 : decode b_Fp_init 45 = .ok (.invokespecial 19, 3) := by decide +kernel
theorem d_Fp_init_48 : decode b_Fp_init 48 = .ok (.putfield 22, 3) := by decide +kernel
theorem d_Fp_init_51 : decode b_Fp_init 51 = .ok (.aload_n 0, 1) := by decide +kernel
theorem d_Fp_init_52 : decode b_Fp_init 52 = .ok (.new 26, 3) := by decide +kernel
theorem d_Fp_init_55 : decode b_Fp_init 55 = .ok (.dup, 1) := by decide +kernel
theorem d_Fp_init_56 : decode b_Fp_init 56 = .ok (.iload_n 2, 1) := by decide +kernel
theorem d_Fp_init_57 : decode b_Fp_init 57 = .ok (.invokespecial 28, 3) := by decide +kernel
theorem d_Fp_init_60 : decode b_Fp_init 60 = .ok (.putfield 29, 3) := by decide +kernel
theorem d_Fp_init_63 : decode b_Fp_init 63 = .ok (.aload_n 0, 1) := by decide +kernel
theorem d_Fp_init_64 : decode b_Fp_init 64 = .ok (.new 33, 3) := by decide +kernel
theorem d_Fp_init_67 : decode b_Fp_init 67 = .ok (.dup, 1) := by decide +kernel
theorem d_Fp_init_68 : decode b_Fp_init 68 = .ok (.invokespecial 35, 3) := by decide +kernel
theorem d_Fp_init_71 : decode b_Fp_init 71 = .ok (.putfield 36, 3) := by decide +kernel
theorem d_Fp_init_74 : decode b_Fp_init 74 = .ok (.aload_n 0, 1) := by decide +kernel
theorem d_Fp_init_75 : decode b_Fp_init 75 = .ok (.new 40, 3) := by decide +kernel
theorem d_Fp_init_78 : decode b_Fp_init 78 = .ok (.dup, 1) := by decide +kernel
theorem d_Fp_init_79 : decode b_Fp_init 79 = .ok (.aload_n 0, 1) := by decide +kernel
theorem d_Fp_init_80 : decode b_Fp_init 80 = .ok (.getfield 9, 3) := by decide +kernel
theorem d_Fp_init_83 : decode b_Fp_init 83 = .ok (.invokespecial 42, 3) := by decide +kernel
theorem d_Fp_init_86 : decode b_Fp_init 86 = .ok (.putfield 43, 3) := by decide +kernel
theorem d_Fp_init_89 : decode b_Fp_init 89 = .ok (.aload_n 0, 1) := by decide +kernel
theorem d_Fp_init_90 : decode b_Fp_init 90 = .ok (.new 47, 3) := by decide +kernel
theorem d_Fp_init_93 : decode b_Fp_init 93 = .ok (.dup, 1) := by decide +kernel
theorem d_Fp_init_94 : decode b_Fp_init 94 = .ok (.iload_n 2, 1) := by decide +kernel
theorem d_Fp_init_95 : decode b_Fp_init 95 = .ok (.invokespecial 49, 3) := by decide +kernel
theorem d_Fp_init_98 : decode b_Fp_init 98 = .ok (.putfield 50, 3) := by decide +kernel
theorem d_Fp_init_101 : decode b_Fp_init 101 = .ok (.aload_n 0, 1) := by decide +kernel
theorem d_Fp_init_102 : decode b_Fp_init 102 = .ok (.new 47, 3) := by decide +kernel
theorem d_Fp_init_105 : decode b_Fp_init 105 = .ok (.dup, 1) := by decide +kernel
theorem d_Fp_init_106 : decode b_Fp_init 106 = .ok (.iload_n 2, 1) := by decide +kernel
theorem d_Fp_init_107 : decode b_Fp_init 107 = .ok (.invokespecial 49, 3) := by decide +kernel
theorem d_Fp_init_110 : decode b_Fp_init 110 = .ok (.putfield 54, 3) := by decide +kernel
theorem d_Fp_init_113 : decode b_Fp_init 113 = .ok (.aload_n 0, 1) := by decide +kernel
theorem d_Fp_init_114 : decode b_Fp_init 114 = .ok (.new 47, 3) := by decide +kernel
theorem d_Fp_init_117 : decode b_Fp_init 117 = .ok (.dup, 1) := by decide +kernel
theorem d_Fp_init_118 : decode b_Fp_init 118 = .ok (.iload_n 2, 1) := by decide +kernel
theorem d_Fp_init_119 : decode b_Fp_init 119 = .ok (.invokespecial 49, 3) := by decide +kernel
theorem d_Fp_init_122 : decode b_Fp_init 122 = .ok (.putfield 57, 3) := by decide +kernel
theorem d_Fp_init_125 : decode b_Fp_init 125 = .ok (.aload_n 0, 1) := by decide +kernel
theorem d_Fp_init_126 : decode b_Fp_init 126 = .ok (.new 47, 3) := by decide +kernel
theorem d_Fp_init_129 : decode b_Fp_init 129 = .ok (.dup, 1) := by decide +kernel
theorem d_Fp_init_130 : decode b_Fp_init 130 = .ok (.iload_n 2, 1) := by decide +kernel
theorem d_Fp_init_131 : decode b_Fp_init 131 = .ok (.invokespecial 49, 3) := by decide +kernel
theorem d_Fp_init_134 : decode b_Fp_init 134 = .ok (.putfield 60, 3) := by decide +kernel
theorem d_Fp_init_137 : decode b_Fp_init 137 = .ok (.aload_n 0, 1) := by decide +kernel
theorem d_Fp_init_138 : decode b_Fp_init 138 = .ok (.new 47, 3) := by decide +kernel
theorem d_Fp_init_141 : decode b_Fp_init 141 = .ok (.dup, 1) := by decide +kernel
theorem d_Fp_init_142 : decode b_Fp_init 142 = .ok (.iload_n 2, 1) := by decide +kernel
theorem d_Fp_init_143 : decode b_Fp_init 143 = .ok (.invokespecial 49, 3) := by decide +kernel
theorem d_Fp_init_146 : decode b_Fp_init 146 = .ok (.putfield 63, 3) := by decide +kernel
theorem d_Fp_init_149 : decode b_Fp_init 149 = .ok (.return_, 1) := by decide +kernel
theorem d_Fp_widthFor_0 : decode b_Fp_widthFor 0 = .ok (.iconst 2, 1) := by decide +kernel
theorem d_Fp_widthFor_1 : decode b_Fp_widthFor 1 = .ok (.iload_n 0, 1) := by decide +kernel
theorem d_Fp_widthFor_2 : decode b_Fp_widthFor 2 = .ok (.imul, 1) := by decide +kernel
theorem d_Fp_widthFor_3 : decode b_Fp_widthFor 3 = .ok (.sipush 192, 3) := by decide +kernel
theorem d_Fp_widthFor_6 : decode b_Fp_widthFor 6 = .ok (.iadd, 1) := by decide +kernel
theorem d_Fp_widthFor_7 : decode b_Fp_widthFor 7 = .ok (.ireturn, 1) := by decide +kernel
theorem d_Fp_used_0 : decode b_Fp_used 0 = .ok (.aload_n 0, 1) := by decide +kernel
theorem d_Fp_used_1 : decode b_Fp_used 1 = .ok (.getfield 22, 3) := by decide +kernel
theorem d_Fp_used_4 : decode b_Fp_used 4 = .ok (.getfield 216, 3) := by decide +kernel
theorem d_Fp_used_7 : decode b_Fp_used 7 = .ok (.ireturn, 1) := by decide +kernel
theorem d_Fp_type_0 : decode b_Fp_type 0 = .ok (.aload_n 0, 1) := by decide +kernel
theorem d_Fp_type_1 : decode b_Fp_type 1 = .ok (.getfield 36, 3) := by decide +kernel
theorem d_Fp_type_4 : decode b_Fp_type 4 = .ok (.lload_n 1, 1) := by decide +kernel
theorem d_Fp_type_5 : decode b_Fp_type 5 = .ok (.invokevirtual 219, 3) := by decide +kernel
theorem d_Fp_type_8 : decode b_Fp_type 8 = .ok (.ireturn, 1) := by decide +kernel
theorem d_Fp_fault_0 : decode b_Fp_fault 0 = .ok (.aload_n 0, 1) := by decide +kernel
theorem d_Fp_fault_1 : decode b_Fp_fault 1 = .ok (.getfield 36, 3) := by decide +kernel
theorem d_Fp_fault_4 : decode b_Fp_fault 4 = .ok (.getfield 226, 3) := by decide +kernel
theorem d_Fp_fault_7 : decode b_Fp_fault 7 = .ok (.ireturn, 1) := by decide +kernel
theorem d_Fp_character_0 : decode b_Fp_character 0 = .ok (.aload_n 0, 1) := by decide +kernel
theorem d_Fp_character_1 : decode b_Fp_character 1 = .ok (.getfield 43, 3) := by decide +kernel
theorem d_Fp_character_4 : decode b_Fp_character 4 = .ok (.iload_n 1, 1) := by decide +kernel
theorem d_Fp_character_5 : decode b_Fp_character 5 = .ok (.invokevirtual 242, 3) := by decide +kernel
theorem d_Fp_character_8 : decode b_Fp_character 8 = .ok (.ireturn, 1) := by decide +kernel
theorem d_Fp_set_0 : decode b_Fp_set 0 = .ok (.iload_n 1, 1) := by decide +kernel
theorem d_Fp_set_1 : decode b_Fp_set 1 = .ok (.invokestatic 66, 3) := by decide +kernel
theorem d_Fp_set_4 : decode b_Fp_set 4 = .ok (.lload 4, 2) := by decide +kernel
theorem d_Fp_set_6 : decode b_Fp_set 6 = .ok (.lconst 0, 1) := by decide +kernel
theorem d_Fp_set_7 : decode b_Fp_set 7 = .ok (.lcmp, 1) := by decide +kernel
theorem d_Fp_set_8 : decode b_Fp_set 8 = .ok (.ifCond .ne 13, 3) := by decide +kernel
theorem d_Fp_set_11 : decode b_Fp_set 11 = .ok (.new 69, 3) := by decide +kernel
theorem d_Fp_set_14 : decode b_Fp_set 14 = .ok (.dup, 1) := by decide +kernel
theorem d_Fp_set_15 : decode b_Fp_set 15 = .ok (.ldc 71, 2) := by decide +kernel
theorem d_Fp_set_17 : decode b_Fp_set 17 = .ok (.invokespecial 73, 3) := by decide +kernel
theorem d_Fp_set_20 : decode b_Fp_set 20 = .ok (.athrow, 1) := by decide +kernel
theorem d_Fp_set_21 : decode b_Fp_set 21 = .ok (.aload_n 0, 1) := by decide +kernel
theorem d_Fp_set_22 : decode b_Fp_set 22 = .ok (.getfield 57, 3) := by decide +kernel
theorem d_Fp_set_25 : decode b_Fp_set 25 = .ok (.getfield 76, 3) := by decide +kernel
theorem d_Fp_set_28 : decode b_Fp_set 28 = .ok (.lload_n 2, 1) := by decide +kernel
theorem d_Fp_set_29 : decode b_Fp_set 29 = .ok (.invokestatic 80, 3) := by decide +kernel
theorem d_Fp_set_32 : decode b_Fp_set 32 = .ok (.invokevirtual 86, 3) := by decide +kernel
theorem d_Fp_set_35 : decode b_Fp_set 35 = .ok (.aload_n 0, 1) := by decide +kernel
theorem d_Fp_set_36 : decode b_Fp_set 36 = .ok (.getfield 57, 3) := by decide +kernel
theorem d_Fp_set_39 : decode b_Fp_set 39 = .ok (.getfield 92, 3) := by decide +kernel
theorem d_Fp_set_42 : decode b_Fp_set 42 = .ok (.lload 4, 2) := by decide +kernel
theorem d_Fp_set_44 : decode b_Fp_set 44 = .ok (.invokestatic 80, 3) := by decide +kernel
theorem d_Fp_set_47 : decode b_Fp_set 47 = .ok (.invokevirtual 86, 3) := by decide +kernel
theorem d_Fp_set_50 : decode b_Fp_set 50 = .ok (.aload_n 0, 1) := by decide +kernel
theorem d_Fp_set_51 : decode b_Fp_set 51 = .ok (.getfield 29, 3) := by decide +kernel
theorem d_Fp_set_54 : decode b_Fp_set 54 = .ok (.aload_n 0, 1) := by decide +kernel
theorem d_Fp_set_55 : decode b_Fp_set 55 = .ok (.getfield 57, 3) := by decide +kernel
theorem d_Fp_set_58 : decode b_Fp_set 58 = .ok (.getfield 76, 3) := by decide +kernel
theorem d_Fp_set_61 : decode b_Fp_set 61 = .ok (.aload_n 0, 1) := by decide +kernel
theorem d_Fp_set_62 : decode b_Fp_set 62 = .ok (.getfield 57, 3) := by decide +kernel
theorem d_Fp_set_65 : decode b_Fp_set 65 = .ok (.getfield 92, 3) := by decide +kernel
theorem d_Fp_set_68 : decode b_Fp_set 68 = .ok (.invokevirtual 95, 3) := by decide +kernel
theorem d_Fp_set_71 : decode b_Fp_set 71 = .ok (.aload_n 0, 1) := by decide +kernel
theorem d_Fp_set_72 : decode b_Fp_set 72 = .ok (.getfield 57, 3) := by decide +kernel
theorem d_Fp_set_75 : decode b_Fp_set 75 = .ok (.lload_n 2, 1) := by decide +kernel
theorem d_Fp_set_76 : decode b_Fp_set 76 = .ok (.invokestatic 99, 3) := by decide +kernel
theorem d_Fp_set_79 : decode b_Fp_set 79 = .ok (.lload 4, 2) := by decide +kernel
theorem d_Fp_set_81 : decode b_Fp_set 81 = .ok (.invokestatic 99, 3) := by decide +kernel
theorem d_Fp_set_84 : decode b_Fp_set 84 = .ok (.imul, 1) := by decide +kernel
theorem d_Fp_set_85 : decode b_Fp_set 85 = .ok (.putfield 105, 3) := by decide +kernel
theorem d_Fp_set_88 : decode b_Fp_set 88 = .ok (.aload_n 0, 1) := by decide +kernel
theorem d_Fp_set_89 : decode b_Fp_set 89 = .ok (.getfield 22, 3) := by decide +kernel
theorem d_Fp_set_92 : decode b_Fp_set 92 = .ok (.iload_n 1, 1) := by decide +kernel
theorem d_Fp_set_93 : decode b_Fp_set 93 = .ok (.aload_n 0, 1) := by decide +kernel
theorem d_Fp_set_94 : decode b_Fp_set 94 = .ok (.getfield 57, 3) := by decide +kernel
theorem d_Fp_set_97 : decode b_Fp_set 97 = .ok (.invokevirtual 108, 3) := by decide +kernel
theorem d_Fp_set_100 : decode b_Fp_set 100 = .ok (.ireturn, 1) := by decide +kernel
theorem d_Fp_needRegister_0 : decode b_Fp_needRegister 0 = .ok (.iload_n 0, 1) := by decide +kernel
theorem d_Fp_needRegister_1 : decode b_Fp_needRegister 1 = .ok (.ifCond .lt 9, 3) := by decide +kernel
theorem d_Fp_needRegister_4 : decode b_Fp_needRegister 4 = .ok (.iload_n 0, 1) := by decide +kernel
theorem d_Fp_needRegister_5 : decode b_Fp_needRegister 5 = .ok (.bipush 32, 2) := by decide +kernel
theorem d_Fp_needRegister_7 : decode b_Fp_needRegister 7 = .ok (.if_icmp .lt 13, 3) := by decide +kernel
theorem d_Fp_needRegister_10 : decode b_Fp_needRegister 10 = .ok (.new 161, 3) := by decide +kernel
theorem d_Fp_needRegister_13 : decode b_Fp_needRegister 13 = .ok (.dup, 1) := by decide +kernel
theorem d_Fp_needRegister_14 : decode b_Fp_needRegister 14 = .ok (.ldc 245, 2) := by decide +kernel
theorem d_Fp_needRegister_16 : decode b_Fp_needRegister 16 = .ok (.invokespecial 165, 3) := by decide +kernel
theorem d_Fp_needRegister_19 : decode b_Fp_needRegister 19 = .ok (.athrow, 1) := by decide +kernel
theorem d_Fp_needRegister_20 : decode b_Fp_needRegister 20 = .ok (.return_, 1) := by decide +kernel
theorem d_Fp_copy_0 : decode b_Fp_copy 0 = .ok (.iload_n 1, 1) := by decide +kernel
theorem d_Fp_copy_1 : decode b_Fp_copy 1 = .ok (.invokestatic 66, 3) := by decide +kernel
theorem d_Fp_copy_4 : decode b_Fp_copy 4 = .ok (.iload_n 2, 1) := by decide +kernel
theorem d_Fp_copy_5 : decode b_Fp_copy 5 = .ok (.invokestatic 66, 3) := by decide +kernel
theorem d_Fp_copy_8 : decode b_Fp_copy 8 = .ok (.aload_n 0, 1) := by decide +kernel
theorem d_Fp_copy_9 : decode b_Fp_copy 9 = .ok (.getfield 22, 3) := by decide +kernel
theorem d_Fp_copy_12 : decode b_Fp_copy 12 = .ok (.iload_n 2, 1) := by decide +kernel
theorem d_Fp_copy_13 : decode b_Fp_copy 13 = .ok (.aload_n 0, 1) := by decide +kernel
theorem d_Fp_copy_14 : decode b_Fp_copy 14 = .ok (.getfield 50, 3) := by decide +kernel
theorem d_Fp_copy_17 : decode b_Fp_copy 17 = .ok (.invokevirtual 112, 3) := by decide +kernel
theorem d_Fp_copy_20 : decode b_Fp_copy 20 = .ok (.aload_n 0, 1) := by decide +kernel
theorem d_Fp_copy_21 : decode b_Fp_copy 21 = .ok (.getfield 22, 3) := by decide +kernel
theorem d_Fp_copy_24 : decode b_Fp_copy 24 = .ok (.iload_n 1, 1) := by decide +kernel
theorem d_Fp_copy_25 : decode b_Fp_copy 25 = .ok (.aload_n 0, 1) := by decide +kernel
theorem d_Fp_copy_26 : decode b_Fp_copy 26 = .ok (.getfield 50, 3) := by decide +kernel
theorem d_Fp_copy_29 : decode b_Fp_copy 29 = .ok (.invokevirtual 108, 3) := by decide +kernel
theorem d_Fp_copy_32 : decode b_Fp_copy 32 = .ok (.ireturn, 1) := by decide +kernel
theorem d_Fp_swap_0 : decode b_Fp_swap 0 = .ok (.iload_n 1, 1) := by decide +kernel
theorem d_Fp_swap_1 : decode b_Fp_swap 1 = .ok (.invokestatic 66, 3) := by decide +kernel
theorem d_Fp_swap_4 : decode b_Fp_swap 4 = .ok (.iload_n 2, 1) := by decide +kernel
theorem d_Fp_swap_5 : decode b_Fp_swap 5 = .ok (.invokestatic 66, 3) := by decide +kernel
theorem d_Fp_swap_8 : decode b_Fp_swap 8 = .ok (.aload_n 0, 1) := by decide +kernel
theorem d_Fp_swap_9 : decode b_Fp_swap 9 = .ok (.getfield 22, 3) := by decide +kernel
theorem d_Fp_swap_12 : decode b_Fp_swap 12 = .ok (.iload_n 1, 1) := by decide +kernel
theorem d_Fp_swap_13 : decode b_Fp_swap 13 = .ok (.iload_n 2, 1) := by decide +kernel
theorem d_Fp_swap_14 : decode b_Fp_swap 14 = .ok (.invokevirtual 116, 3) := by decide +kernel
theorem d_Fp_swap_17 : decode b_Fp_swap 17 = .ok (.aload_n 0, 1) := by decide +kernel
theorem d_Fp_swap_18 : decode b_Fp_swap 18 = .ok (.getfield 22, 3) := by decide +kernel
theorem d_Fp_swap_21 : decode b_Fp_swap 21 = .ok (.iload_n 1, 1) := by decide +kernel
theorem d_Fp_swap_22 : decode b_Fp_swap 22 = .ok (.invokevirtual 120, 3) := by decide +kernel
theorem d_Fp_swap_25 : decode b_Fp_swap 25 = .ok (.ireturn, 1) := by decide +kernel
theorem d_Fp_add_0 : decode b_Fp_add 0 = .ok (.aload_n 0, 1) := by decide +kernel
theorem d_Fp_add_1 : decode b_Fp_add 1 = .ok (.iload_n 1, 1) := by decide +kernel
theorem d_Fp_add_2 : decode b_Fp_add 2 = .ok (.iload_n 2, 1) := by decide +kernel
theorem d_Fp_add_3 : decode b_Fp_add 3 = .ok (.iload_n 3, 1) := by decide +kernel
theorem d_Fp_add_4 : decode b_Fp_add 4 = .ok (.invokevirtual 123, 3) := by decide +kernel
theorem d_Fp_add_7 : decode b_Fp_add 7 = .ok (.aload_n 0, 1) := by decide +kernel
theorem d_Fp_add_8 : decode b_Fp_add 8 = .ok (.getfield 29, 3) := by decide +kernel
theorem d_Fp_add_11 : decode b_Fp_add 11 = .ok (.aload_n 0, 1) := by decide +kernel
theorem d_Fp_add_12 : decode b_Fp_add 12 = .ok (.getfield 57, 3) := by decide +kernel
theorem d_Fp_add_15 : decode b_Fp_add 15 = .ok (.aload_n 0, 1) := by decide +kernel
theorem d_Fp_add_16 : decode b_Fp_add 16 = .ok (.getfield 50, 3) := by decide +kernel
theorem d_Fp_add_19 : decode b_Fp_add 19 = .ok (.aload_n 0, 1) := by decide +kernel
theorem d_Fp_add_20 : decode b_Fp_add 20 = .ok (.getfield 54, 3) := by decide +kernel
theorem d_Fp_add_23 : decode b_Fp_add 23 = .ok (.invokevirtual 127, 3) := by decide +kernel
theorem d_Fp_add_26 : decode b_Fp_add 26 = .ok (.aload_n 0, 1) := by decide +kernel
theorem d_Fp_add_27 : decode b_Fp_add 27 = .ok (.getfield 22, 3) := by decide +kernel
theorem d_Fp_add_30 : decode b_Fp_add 30 = .ok (.iload_n 1, 1) := by decide +kernel
theorem d_Fp_add_31 : decode b_Fp_add 31 = .ok (.aload_n 0, 1) := by decide +kernel
theorem d_Fp_add_32 : decode b_Fp_add 32 = .ok (.getfield 57, 3) := by decide +kernel
theorem d_Fp_add_35 : decode b_Fp_add 35 = .ok (.invokevirtual 108, 3) := by decide +kernel
theorem d_Fp_add_38 : decode b_Fp_add 38 = .ok (.ireturn, 1) := by decide +kernel
theorem d_Fp_loadBoth_0 : decode b_Fp_loadBoth 0 = .ok (.iload_n 1, 1) := by decide +kernel
theorem d_Fp_loadBoth_1 : decode b_Fp_loadBoth 1 = .ok (.invokestatic 66, 3) := by decide +kernel
theorem d_Fp_loadBoth_4 : decode b_Fp_loadBoth 4 = .ok (.iload_n 2, 1) := by decide +kernel
theorem d_Fp_loadBoth_5 : decode b_Fp_loadBoth 5 = .ok (.invokestatic 66, 3) := by decide +kernel
theorem d_Fp_loadBoth_8 : decode b_Fp_loadBoth 8 = .ok (.iload_n 3, 1) := by decide +kernel
theorem d_Fp_loadBoth_9 : decode b_Fp_loadBoth 9 = .ok (.invokestatic 66, 3) := by decide +kernel
theorem d_Fp_loadBoth_12 : decode b_Fp_loadBoth 12 = .ok (.aload_n 0, 1) := by decide +kernel
theorem d_Fp_loadBoth_13 : decode b_Fp_loadBoth 13 = .ok (.getfield 22, 3) := by decide +kernel
theorem d_Fp_loadBoth_16 : decode b_Fp_loadBoth 16 = .ok (.iload_n 2, 1) := by decide +kernel
theorem d_Fp_loadBoth_17 : decode b_Fp_loadBoth 17 = .ok (.aload_n 0, 1) := by decide +kernel
theorem d_Fp_loadBoth_18 : decode b_Fp_loadBoth 18 = .ok (.getfield 50, 3) := by decide +kernel
theorem d_Fp_loadBoth_21 : decode b_Fp_loadBoth 21 = .ok (.invokevirtual 112, 3) := by decide +kernel
theorem d_Fp_loadBoth_24 : decode b_Fp_loadBoth 24 = .ok (.aload_n 0, 1) := by decide +kernel
theorem d_Fp_loadBoth_25 : decode b_Fp_loadBoth 25 = .ok (.getfield 22, 3) := by decide +kernel
theorem d_Fp_loadBoth_28 : decode b_Fp_loadBoth 28 = .ok (.iload_n 3, 1) := by decide +kernel
theorem d_Fp_loadBoth_29 : decode b_Fp_loadBoth 29 = .ok (.aload_n 0, 1) := by decide +kernel
theorem d_Fp_loadBoth_30 : decode b_Fp_loadBoth 30 = .ok (.getfield 54, 3) := by decide +kernel
theorem d_Fp_loadBoth_33 : decode b_Fp_loadBoth 33 = .ok (.invokevirtual 112, 3) := by decide +kernel
theorem d_Fp_loadBoth_36 : decode b_Fp_loadBoth 36 = .ok (.return_, 1) := by decide +kernel
theorem d_Fp_subtract_0 : decode b_Fp_subtract 0 = .ok (.aload_n 0, 1) := by decide +kernel
theorem d_Fp_subtract_1 : decode b_Fp_subtract 1 = .ok (.iload_n 1, 1) := by decide +kernel
theorem d_Fp_subtract_2 : decode b_Fp_subtract 2 = .ok (.iload_n 2, 1) := by decide +kernel
theorem d_Fp_subtract_3 : decode b_Fp_subtract 3 = .ok (.iload_n 3, 1) := by decide +kernel
theorem d_Fp_subtract_4 : decode b_Fp_subtract 4 = .ok (.invokevirtual 123, 3) := by decide +kernel
theorem d_Fp_subtract_7 : decode b_Fp_subtract 7 = .ok (.aload_n 0, 1) := by decide +kernel
theorem d_Fp_subtract_8 : decode b_Fp_subtract 8 = .ok (.getfield 54, 3) := by decide +kernel
theorem d_Fp_subtract_11 : decode b_Fp_subtract 11 = .ok (.aload_n 0, 1) := by decide +kernel
theorem d_Fp_subtract_12 : decode b_Fp_subtract 12 = .ok (.getfield 54, 3) := by decide +kernel
theorem d_Fp_subtract_15 : decode b_Fp_subtract 15 = .ok (.getfield 105, 3) := by decide +kernel
theorem d_Fp_subtract_18 : decode b_Fp_subtract 18 = .ok (.ineg, 1) := by decide +kernel
theorem d_Fp_subtract_19 : decode b_Fp_subtract 19 = .ok (.putfield 105, 3) := by decide +kernel
theorem d_Fp_subtract_22 : decode b_Fp_subtract 22 = .ok (.aload_n 0, 1) := by decide +kernel
theorem d_Fp_subtract_23 : decode b_Fp_subtract 23 = .ok (.getfield 29, 3) := by decide +kernel
theorem d_Fp_subtract_26 : decode b_Fp_subtract 26 = .ok (.aload_n 0, 1) := by decide +kernel
theorem d_Fp_subtract_27 : decode b_Fp_subtract 27 = .ok (.getfield 57, 3) := by decide +kernel
theorem d_Fp_subtract_30 : decode b_Fp_subtract 30 = .ok (.aload_n 0, 1) := by decide +kernel
theorem d_Fp_subtract_31 : decode b_Fp_subtract 31 = .ok (.getfield 50, 3) := by decide +kernel
theorem d_Fp_subtract_34 : decode b_Fp_subtract 34 = .ok (.aload_n 0, 1) := by decide +kernel
theorem d_Fp_subtract_35 : decode b_Fp_subtract 35 = .ok (.getfield 54, 3) := by decide +kernel
theorem d_Fp_subtract_38 : decode b_Fp_subtract 38 = .ok (.invokevirtual 127, 3) := by decide +kernel
theorem d_Fp_subtract_41 : decode b_Fp_subtract 41 = .ok (.aload_n 0, 1) := by decide +kernel
theorem d_Fp_subtract_42 : decode b_Fp_subtract 42 = .ok (.getfield 22, 3) := by decide +kernel
theorem d_Fp_subtract_45 : decode b_Fp_subtract 45 = .ok (.iload_n 1, 1) := by decide +kernel
theorem d_Fp_subtract_46 : decode b_Fp_subtract 46 = .ok (.aload_n 0, 1) := by decide +kernel
theorem d_Fp_subtract_47 : decode b_Fp_subtract 47 = .ok (.getfield 57, 3) := by decide +kernel
theorem d_Fp_subtract_50 : decode b_Fp_subtract 50 = .ok (.invokevirtual 108, 3) := by decide +kernel
theorem d_Fp_subtract_53 : decode b_Fp_subtract 53 = .ok (.ireturn, 1) := by decide +kernel
theorem d_Fp_multiply_0 : decode b_Fp_multiply 0 = .ok (.aload_n 0, 1) := by decide +kernel
theorem d_Fp_multiply_1 : decode b_Fp_multiply 1 = .ok (.iload_n 1, 1) := by decide +kernel
theorem d_Fp_multiply_2 : decode b_Fp_multiply 2 = .ok (.iload_n 2, 1) := by decide +kernel
theorem d_Fp_multiply_3 : decode b_Fp_multiply 3 = .ok (.iload_n 3, 1) := by decide +kernel
theorem d_Fp_multiply_4 : decode b_Fp_multiply 4 = .ok (.invokevirtual 123, 3) := by decide +kernel
theorem d_Fp_multiply_7 : decode b_Fp_multiply 7 = .ok (.aload_n 0, 1) := by decide +kernel
theorem d_Fp_multiply_8 : decode b_Fp_multiply 8 = .ok (.getfield 29, 3) := by decide +kernel
theorem d_Fp_multiply_11 : decode b_Fp_multiply 11 = .ok (.aload_n 0, 1) := by decide +kernel
theorem d_Fp_multiply_12 : decode b_Fp_multiply 12 = .ok (.getfield 57, 3) := by decide +kernel
theorem d_Fp_multiply_15 : decode b_Fp_multiply 15 = .ok (.aload_n 0, 1) := by decide +kernel
theorem d_Fp_multiply_16 : decode b_Fp_multiply 16 = .ok (.getfield 50, 3) := by decide +kernel
theorem d_Fp_multiply_19 : decode b_Fp_multiply 19 = .ok (.aload_n 0, 1) := by decide +kernel
theorem d_Fp_multiply_20 : decode b_Fp_multiply 20 = .ok (.getfield 54, 3) := by decide +kernel
theorem d_Fp_multiply_23 : decode b_Fp_multiply 23 = .ok (.invokevirtual 131, 3) := by decide +kernel
theorem d_Fp_multiply_26 : decode b_Fp_multiply 26 = .ok (.aload_n 0, 1) := by decide +kernel
theorem d_Fp_multiply_27 : decode b_Fp_multiply 27 = .ok (.getfield 22, 3) := by decide +kernel
theorem d_Fp_multiply_30 : decode b_Fp_multiply 30 = .ok (.iload_n 1, 1) := by decide +kernel
theorem d_Fp_multiply_31 : decode b_Fp_multiply 31 = .ok (.aload_n 0, 1) := by decide +kernel
theorem d_Fp_multiply_32 : decode b_Fp_multiply 32 = .ok (.getfield 57, 3) := by decide +kernel
theorem d_Fp_multiply_35 : decode b_Fp_multiply 35 = .ok (.invokevirtual 108, 3) := by decide +kernel
theorem d_Fp_multiply_38 : decode b_Fp_multiply 38 = .ok (.ireturn, 1) := by decide +kernel
theorem d_Fp_divide_0 : decode b_Fp_divide 0 = .ok (.aload_n 0, 1) := by decide +kernel
theorem d_Fp_divide_1 : decode b_Fp_divide 1 = .ok (.iload_n 1, 1) := by decide +kernel
theorem d_Fp_divide_2 : decode b_Fp_divide 2 = .ok (.iload_n 2, 1) := by decide +kernel
theorem d_Fp_divide_3 : decode b_Fp_divide 3 = .ok (.iload_n 3, 1) := by decide +kernel
theorem d_Fp_divide_4 : decode b_Fp_divide 4 = .ok (.invokevirtual 123, 3) := by decide +kernel
theorem d_Fp_divide_7 : decode b_Fp_divide 7 = .ok (.aload_n 0, 1) := by decide +kernel
theorem d_Fp_divide_8 : decode b_Fp_divide 8 = .ok (.getfield 54, 3) := by decide +kernel
theorem d_Fp_divide_11 : decode b_Fp_divide 11 = .ok (.getfield 105, 3) := by decide +kernel
theorem d_Fp_divide_14 : decode b_Fp_divide 14 = .ok (.ifCond .ne 13, 3) := by decide +kernel
theorem d_Fp_divide_17 : decode b_Fp_divide 17 = .ok (.new 69, 3) := by decide +kernel
theorem d_Fp_divide_20 : decode b_Fp_divide 20 = .ok (.dup, 1) := by decide +kernel
theorem d_Fp_divide_21 : decode b_Fp_divide 21 = .ok (.ldc 134, 2) := by decide +kernel
theorem d_Fp_divide_23 : decode b_Fp_divide 23 = .ok (.invokespecial 73, 3) := by decide +kernel
theorem d_Fp_divide_26 : decode b_Fp_divide 26 = .ok (.athrow, 1) := by decide +kernel
theorem d_Fp_divide_27 : decode b_Fp_divide 27 = .ok (.aload_n 0, 1) := by decide +kernel
theorem d_Fp_divide_28 : decode b_Fp_divide 28 = .ok (.getfield 54, 3) := by decide +kernel
theorem d_Fp_divide_31 : decode b_Fp_divide 31 = .ok (.invokevirtual 136, 3) := by decide +kernel
theorem d_Fp_divide_34 : decode b_Fp_divide 34 = .ok (.aload_n 0, 1) := by decide +kernel
theorem d_Fp_divide_35 : decode b_Fp_divide 35 = .ok (.getfield 29, 3) := by decide +kernel
theorem d_Fp_divide_38 : decode b_Fp_divide 38 = .ok (.aload_n 0, 1) := by decide +kernel
theorem d_Fp_divide_39 : decode b_Fp_divide 39 = .ok (.getfield 57, 3) := by decide +kernel
theorem d_Fp_divide_42 : decode b_Fp_divide 42 = .ok (.aload_n 0, 1) := by decide +kernel
theorem d_Fp_divide_43 : decode b_Fp_divide 43 = .ok (.getfield 50, 3) := by decide +kernel
theorem d_Fp_divide_46 : decode b_Fp_divide 46 = .ok (.aload_n 0, 1) := by decide +kernel
theorem d_Fp_divide_47 : decode b_Fp_divide 47 = .ok (.getfield 54, 3) := by decide +kernel
theorem d_Fp_divide_50 : decode b_Fp_divide 50 = .ok (.invokevirtual 131, 3) := by decide +kernel
theorem d_Fp_divide_53 : decode b_Fp_divide 53 = .ok (.aload_n 0, 1) := by decide +kernel
theorem d_Fp_divide_54 : decode b_Fp_divide 54 = .ok (.getfield 22, 3) := by decide +kernel
theorem d_Fp_divide_57 : decode b_Fp_divide 57 = .ok (.iload_n 1, 1) := by decide +kernel
theorem d_Fp_divide_58 : decode b_Fp_divide 58 = .ok (.aload_n 0, 1) := by decide +kernel
theorem d_Fp_divide_59 : decode b_Fp_divide 59 = .ok (.getfield 57, 3) := by decide +kernel
theorem d_Fp_divide_62 : decode b_Fp_divide 62 = .ok (.invokevirtual 108, 3) := by decide +kernel
theorem d_Fp_divide_65 : decode b_Fp_divide 65 = .ok (.ireturn, 1) := by decide +kernel
theorem d_Fp_power_0 : decode b_Fp_power 0 = .ok (.iload_n 1, 1) := by decide +kernel
theorem d_Fp_power_1 : decode b_Fp_power 1 = .ok (.invokestatic 66, 3) := by decide +kernel
theorem d_Fp_power_4 : decode b_Fp_power 4 = .ok (.iload_n 2, 1) := by decide +kernel
theorem d_Fp_power_5 : decode b_Fp_power 5 = .ok (.invokestatic 66, 3) := by decide +kernel
theorem d_Fp_power_8 : decode b_Fp_power 8 = .ok (.iload_n 3, 1) := by decide +kernel
theorem d_Fp_power_9 : decode b_Fp_power 9 = .ok (.sipush (-1000), 3) := by decide +kernel
theorem d_Fp_power_12 : decode b_Fp_power 12 = .ok (.if_icmp .lt 10, 3) := by decide +kernel
theorem d_Fp_power_15 : decode b_Fp_power 15 = .ok (.iload_n 3, 1) := by decide +kernel
theorem d_Fp_power_16 : decode b_Fp_power 16 = .ok (.sipush 1000, 3) := by decide +kernel
theorem d_Fp_power_19 : decode b_Fp_power 19 = .ok (.if_icmp .le 13, 3) := by decide +kernel
theorem d_Fp_power_22 : decode b_Fp_power 22 = .ok (.new 139, 3) := by decide +kernel
theorem d_Fp_power_25 : decode b_Fp_power 25 = .ok (.dup, 1) := by decide +kernel
theorem d_Fp_power_26 : decode b_Fp_power 26 = .ok (.ldc 141, 2) := by decide +kernel
theorem d_Fp_power_28 : decode b_Fp_power 28 = .ok (.invokespecial 143, 3) := by decide +kernel
theorem d_Fp_power_31 : decode b_Fp_power 31 = .ok (.athrow, 1) := by decide +kernel
theorem d_Fp_power_32 : decode b_Fp_power 32 = .ok (.aload_n 0, 1) := by decide +kernel
theorem d_Fp_power_33 : decode b_Fp_power 33 = .ok (.getfield 22, 3) := by decide +kernel
theorem d_Fp_power_36 : decode b_Fp_power 36 = .ok (.iload_n 2, 1) := by decide +kernel
theorem d_Fp_power_37 : decode b_Fp_power 37 = .ok (.aload_n 0, 1) := by decide +kernel
theorem d_Fp_power_38 : decode b_Fp_power 38 = .ok (.getfield 50, 3) := by decide +kernel
theorem d_Fp_power_41 : decode b_Fp_power 41 = .ok (.invokevirtual 112, 3) := by decide +kernel
theorem d_Fp_power_44 : decode b_Fp_power 44 = .ok (.aload_n 0, 1) := by decide +kernel
theorem d_Fp_power_45 : decode b_Fp_power 45 = .ok (.getfield 50, 3) := by decide +kernel
theorem d_Fp_power_48 : decode b_Fp_power 48 = .ok (.getfield 105, 3) := by decide +kernel
theorem d_Fp_power_51 : decode b_Fp_power 51 = .ok (.ifCond .ne 17, 3) := by decide +kernel
theorem d_Fp_power_54 : decode b_Fp_power 54 = .ok (.iload_n 3, 1) := by decide +kernel
theorem d_Fp_power_55 : decode b_Fp_power 55 = .ok (.ifCond .ge 13, 3) := by decide +kernel
theorem d_Fp_power_58 : decode b_Fp_power 58 = .ok (.new 69, 3) := by decide +kernel
theorem d_Fp_power_61 : decode b_Fp_power 61 = .ok (.dup, 1) := by decide +kernel
theorem d_Fp_power_62 : decode b_Fp_power 62 = .ok (.ldc 144, 2) := by decide +kernel
theorem d_Fp_power_64 : decode b_Fp_power 64 = .ok (.invokespecial 73, 3) := by decide +kernel
theorem d_Fp_power_67 : decode b_Fp_power 67 = .ok (.athrow, 1) := by decide +kernel
theorem d_Fp_power_68 : decode b_Fp_power 68 = .ok (.iload_n 3, 1) := by decide +kernel
theorem d_Fp_power_69 : decode b_Fp_power 69 = .ok (.ifCond .ge 10, 3) := by decide +kernel
theorem d_Fp_power_72 : decode b_Fp_power 72 = .ok (.aload_n 0, 1) := by decide +kernel
theorem d_Fp_power_73 : decode b_Fp_power 73 = .ok (.getfield 50, 3) := by decide +kernel
theorem d_Fp_power_76 : decode b_Fp_power 76 = .ok (.invokevirtual 136, 3) := by decide +kernel
theorem d_Fp_power_79 : decode b_Fp_power 79 = .ok (.iload_n 3, 1) := by decide +kernel
theorem d_Fp_power_80 : decode b_Fp_power 80 = .ok (.invokestatic 146, 3) := by decide +kernel
theorem d_Fp_power_83 : decode b_Fp_power 83 = .ok (.istore 4, 2) := by decide +kernel
theorem d_Fp_power_85 : decode b_Fp_power 85 = .ok (.aload_n 0, 1) := by decide +kernel
theorem d_Fp_power_86 : decode b_Fp_power 86 = .ok (.getfield 29, 3) := by decide +kernel
theorem d_Fp_power_89 : decode b_Fp_power 89 = .ok (.aload_n 0, 1) := by decide +kernel
theorem d_Fp_power_90 : decode b_Fp_power 90 = .ok (.getfield 57, 3) := by decide +kernel
theorem d_Fp_power_93 : decode b_Fp_power 93 = .ok (.getfield 76, 3) := by decide +kernel
theorem d_Fp_power_96 : decode b_Fp_power 96 = .ok (.aload_n 0, 1) := by decide +kernel
theorem d_Fp_power_97 : decode b_Fp_power 97 = .ok (.getfield 50, 3) := by decide +kernel
theorem d_Fp_power_100 : decode b_Fp_power 100 = .ok (.getfield 76, 3) := by decide +kernel
theorem d_Fp_power_103 : decode b_Fp_power 103 = .ok (.iload 4, 2) := by decide +kernel
theorem d_Fp_power_105 : decode b_Fp_power 105 = .ok (.aload_n 0, 1) := by decide +kernel
theorem d_Fp_power_106 : decode b_Fp_power 106 = .ok (.getfield 9, 3) := by decide +kernel
theorem d_Fp_power_109 : decode b_Fp_power 109 = .ok (.invokevirtual 148, 3) := by decide +kernel
theorem d_Fp_power_112 : decode b_Fp_power 112 = .ok (.ifCond .eq 33, 3) := by decide +kernel
theorem d_Fp_power_115 : decode b_Fp_power 115 = .ok (.aload_n 0, 1) := by decide +kernel
theorem d_Fp_power_116 : decode b_Fp_power 116 = .ok (.getfield 29, 3) := by decide +kernel
theorem d_Fp_power_119 : decode b_Fp_power 119 = .ok (.aload_n 0, 1) := by decide +kernel
theorem d_Fp_power_120 : decode b_Fp_power 120 = .ok (.getfield 57, 3) := by decide +kernel
theorem d_Fp_power_123 : decode b_Fp_power 123 = .ok (.getfield 92, 3) := by decide +kernel
theorem d_Fp_power_126 : decode b_Fp_power 126 = .ok (.aload_n 0, 1) := by decide +kernel
theorem d_Fp_power_127 : decode b_Fp_power 127 = .ok (.getfield 50, 3) := by decide +kernel
theorem d_Fp_power_130 : decode b_Fp_power 130 = .ok (.getfield 92, 3) := by decide +kernel
theorem d_Fp_power_133 : decode b_Fp_power 133 = .ok (.iload 4, 2) := by decide +kernel
theorem d_Fp_power_135 : decode b_Fp_power 135 = .ok (.aload_n 0, 1) := by decide +kernel
theorem d_Fp_power_136 : decode b_Fp_power 136 = .ok (.getfield 9, 3) := by decide +kernel
theorem d_Fp_power_139 : decode b_Fp_power 139 = .ok (.invokevirtual 148, 3) := by decide +kernel
theorem d_Fp_power_142 : decode b_Fp_power 142 = .ok (.ifCond .ne 13, 3) := by decide +kernel
theorem d_Fp_power_145 : decode b_Fp_power 145 = .ok (.new 152, 3) := by decide +kernel
theorem d_Fp_power_148 : decode b_Fp_power 148 = .ok (.dup, 1) := by decide +kernel
theorem d_Fp_power_149 : decode b_Fp_power 149 = .ok (.ldc 154, 2) := by decide +kernel
theorem d_Fp_power_151 : decode b_Fp_power 151 = .ok (.invokespecial 156, 3) := by decide +kernel
theorem d_Fp_power_154 : decode b_Fp_power 154 = .ok (.athrow, 1) := by decide +kernel
theorem d_Fp_power_155 : decode b_Fp_power 155 = .ok (.aload_n 0, 1) := by decide +kernel
theorem d_Fp_power_156 : decode b_Fp_power 156 = .ok (.getfield 57, 3) := by decide +kernel
theorem d_Fp_power_159 : decode b_Fp_power 159 = .ok (.aload_n 0, 1) := by decide +kernel
theorem d_Fp_power_160 : decode b_Fp_power 160 = .ok (.getfield 50, 3) := by decide +kernel
theorem d_Fp_power_163 : decode b_Fp_power 163 = .ok (.getfield 105, 3) := by decide +kernel
theorem d_Fp_power_166 : decode b_Fp_power 166 = .ok (.iload 4, 2) := by decide +kernel
theorem d_Fp_power_168 : decode b_Fp_power 168 = .ok (.invokestatic 157, 3) := by decide +kernel
theorem d_Fp_power_171 : decode b_Fp_power 171 = .ok (.putfield 105, 3) := by decide +kernel
theorem d_Fp_power_174 : decode b_Fp_power 174 = .ok (.aload_n 0, 1) := by decide +kernel
theorem d_Fp_power_175 : decode b_Fp_power 175 = .ok (.getfield 22, 3) := by decide +kernel
theorem d_Fp_power_178 : decode b_Fp_power 178 = .ok (.iload_n 1, 1) := by decide +kernel
theorem d_Fp_power_179 : decode b_Fp_power 179 = .ok (.aload_n 0, 1) := by decide +kernel
theorem d_Fp_power_180 : decode b_Fp_power 180 = .ok (.getfield 57, 3) := by decide +kernel
theorem d_Fp_power_183 : decode b_Fp_power 183 = .ok (.invokevirtual 108, 3) := by decide +kernel
theorem d_Fp_power_186 : decode b_Fp_power 186 = .ok (.ireturn, 1) := by decide +kernel
theorem d_Fp_signOfPower_0 : decode b_Fp_signOfPower 0 = .ok (.iload_n 1, 1) := by decide +kernel
theorem d_Fp_signOfPower_1 : decode b_Fp_signOfPower 1 = .ok (.ifCond .ne 5, 3) := by decide +kernel
theorem d_Fp_signOfPower_4 : decode b_Fp_signOfPower 4 = .ok (.iconst 1, 1) := by decide +kernel
theorem d_Fp_signOfPower_5 : decode b_Fp_signOfPower 5 = .ok (.ireturn, 1) := by decide +kernel
theorem d_Fp_signOfPower_6 : decode b_Fp_signOfPower 6 = .ok (.iload_n 1, 1) := by decide +kernel
theorem d_Fp_signOfPower_7 : decode b_Fp_signOfPower 7 = .ok (.iconst 1, 1) := by decide +kernel
theorem d_Fp_signOfPower_8 : decode b_Fp_signOfPower 8 = .ok (.iand, 1) := by decide +kernel
theorem d_Fp_signOfPower_9 : decode b_Fp_signOfPower 9 = .ok (.ifCond .ne 9, 3) := by decide +kernel
theorem d_Fp_signOfPower_12 : decode b_Fp_signOfPower 12 = .ok (.iload_n 0, 1) := by decide +kernel
theorem d_Fp_signOfPower_13 : decode b_Fp_signOfPower 13 = .ok (.iload_n 0, 1) := by decide +kernel
theorem d_Fp_signOfPower_14 : decode b_Fp_signOfPower 14 = .ok (.imul, 1) := by decide +kernel
theorem d_Fp_signOfPower_15 : decode b_Fp_signOfPower 15 = .ok (.goto 4, 3) := by decide +kernel
theorem d_Fp_signOfPower_18 : decode b_Fp_signOfPower 18 = .ok (.iload_n 0, 1) := by decide +kernel
theorem d_Fp_signOfPower_19 : decode b_Fp_signOfPower 19 = .ok (.ireturn, 1) := by decide +kernel
theorem d_Fp_dot_0 : decode b_Fp_dot 0 = .ok (.iload_n 1, 1) := by decide +kernel
theorem d_Fp_dot_1 : decode b_Fp_dot 1 = .ok (.invokestatic 66, 3) := by decide +kernel
theorem d_Fp_dot_4 : decode b_Fp_dot 4 = .ok (.iload_n 2, 1) := by decide +kernel
theorem d_Fp_dot_5 : decode b_Fp_dot 5 = .ok (.invokestatic 66, 3) := by decide +kernel
theorem d_Fp_dot_8 : decode b_Fp_dot 8 = .ok (.iload_n 3, 1) := by decide +kernel
theorem d_Fp_dot_9 : decode b_Fp_dot 9 = .ok (.invokestatic 66, 3) := by decide +kernel
theorem d_Fp_dot_12 : decode b_Fp_dot 12 = .ok (.iload 4, 2) := by decide +kernel
theorem d_Fp_dot_14 : decode b_Fp_dot 14 = .ok (.bipush 32, 2) := by decide +kernel
theorem d_Fp_dot_16 : decode b_Fp_dot 16 = .ok (.iload_n 2, 1) := by decide +kernel
theorem d_Fp_dot_17 : decode b_Fp_dot 17 = .ok (.isub, 1) := by decide +kernel
theorem d_Fp_dot_18 : decode b_Fp_dot 18 = .ok (.if_icmp .gt 12, 3) := by decide +kernel
theorem d_Fp_dot_21 : decode b_Fp_dot 21 = .ok (.iload 4, 2) := by decide +kernel
theorem d_Fp_dot_23 : decode b_Fp_dot 23 = .ok (.bipush 32, 2) := by decide +kernel
theorem d_Fp_dot_25 : decode b_Fp_dot 25 = .ok (.iload_n 3, 1) := by decide +kernel
theorem d_Fp_dot_26 : decode b_Fp_dot 26 = .ok (.isub, 1) := by decide +kernel
theorem d_Fp_dot_27 : decode b_Fp_dot 27 = .ok (.if_icmp .le 13, 3) := by decide +kernel
theorem d_Fp_dot_30 : decode b_Fp_dot 30 = .ok (.new 161, 3) := by decide +kernel
theorem d_Fp_dot_33 : decode b_Fp_dot 33 = .ok (.dup, 1) := by decide +kernel
theorem d_Fp_dot_34 : decode b_Fp_dot 34 = .ok (.ldc 163, 2) := by decide +kernel
theorem d_Fp_dot_36 : decode b_Fp_dot 36 = .ok (.invokespecial 165, 3) := by decide +kernel
theorem d_Fp_dot_39 : decode b_Fp_dot 39 = .ok (.athrow, 1) := by decide +kernel
theorem d_Fp_dot_40 : decode b_Fp_dot 40 = .ok (.iload 4, 2) := by decide +kernel
theorem d_Fp_dot_42 : decode b_Fp_dot 42 = .ok (.ifCond .ge 13, 3) := by decide +kernel
theorem d_Fp_dot_45 : decode b_Fp_dot 45 = .ok (.new 139, 3) := by decide +kernel
theorem d_Fp_dot_48 : decode b_Fp_dot 48 = .ok (.dup, 1) := by decide +kernel
theorem d_Fp_dot_49 : decode b_Fp_dot 49 = .ok (.ldc 166, 2) := by decide +kernel
theorem d_Fp_dot_51 : decode b_Fp_dot 51 = .ok (.invokespecial 143, 3) := by decide +kernel
theorem d_Fp_dot_54 : decode b_Fp_dot 54 = .ok (.athrow, 1) := by decide +kernel
theorem d_Fp_dot_55 : decode b_Fp_dot 55 = .ok (.aload_n 0, 1) := by decide +kernel
theorem d_Fp_dot_56 : decode b_Fp_dot 56 = .ok (.getfield 60, 3) := by decide +kernel
theorem d_Fp_dot_59 : decode b_Fp_dot 59 = .ok (.invokevirtual 168, 3) := by decide +kernel
theorem d_Fp_dot_62 : decode b_Fp_dot 62 = .ok (.iconst 0, 1) := by decide +kernel
theorem d_Fp_dot_63 : decode b_Fp_dot 63 = .ok (.istore 5, 2) := by decide +kernel
theorem d_Fp_dot_65 : decode b_Fp_dot 65 = .ok (.iload 5, 2) := by decide +kernel
theorem d_Fp_dot_67 : decode b_Fp_dot 67 = .ok (.iload 4, 2) := by decide +kernel
theorem d_Fp_dot_69 : decode b_Fp_dot 69 = .ok (.if_icmp .ge 97, 3) := by decide +kernel
theorem d_Fp_dot_72 : decode b_Fp_dot 72 = .ok (.aload_n 0, 1) := by decide +kernel
theorem d_Fp_dot_73 : decode b_Fp_dot 73 = .ok (.getfield 22, 3) := by decide +kernel
theorem d_Fp_dot_76 : decode b_Fp_dot 76 = .ok (.iload_n 2, 1) := by decide +kernel
theorem d_Fp_dot_77 : decode b_Fp_dot 77 = .ok (.iload 5, 2) := by decide +kernel
theorem d_Fp_dot_79 : decode b_Fp_dot 79 = .ok (.iadd, 1) := by decide +kernel
theorem d_Fp_dot_80 : decode b_Fp_dot 80 = .ok (.aload_n 0, 1) := by decide +kernel
theorem d_Fp_dot_81 : decode b_Fp_dot 81 = .ok (.getfield 50, 3) := by decide +kernel
theorem d_Fp_dot_84 : decode b_Fp_dot 84 = .ok (.invokevirtual 112, 3) := by decide +kernel
theorem d_Fp_dot_87 : decode b_Fp_dot 87 = .ok (.aload_n 0, 1) := by decide +kernel
theorem d_Fp_dot_88 : decode b_Fp_dot 88 = .ok (.getfield 22, 3) := by decide +kernel
theorem d_Fp_dot_91 : decode b_Fp_dot 91 = .ok (.iload_n 3, 1) := by decide +kernel
theorem d_Fp_dot_92 : decode b_Fp_dot 92 = .ok (.iload 5, 2) := by decide +kernel
theorem d_Fp_dot_94 : decode b_Fp_dot 94 = .ok (.iadd, 1) := by decide +kernel
theorem d_Fp_dot_95 : decode b_Fp_dot 95 = .ok (.aload_n 0, 1) := by decide +kernel
theorem d_Fp_dot_96 : decode b_Fp_dot 96 = .ok (.getfield 54, 3) := by decide +kernel
theorem d_Fp_dot_99 : decode b_Fp_dot 99 = .ok (.invokevirtual 112, 3) := by decide +kernel
theorem d_Fp_dot_102 : decode b_Fp_dot 102 = .ok (.aload_n 0, 1) := by decide +kernel
theorem d_Fp_dot_103 : decode b_Fp_dot 103 = .ok (.getfield 29, 3) := by decide +kernel
theorem d_Fp_dot_106 : decode b_Fp_dot 106 = .ok (.aload_n 0, 1) := by decide +kernel
theorem d_Fp_dot_107 : decode b_Fp_dot 107 = .ok (.getfield 57, 3) := by decide +kernel
theorem d_Fp_dot_110 : decode b_Fp_dot 110 = .ok (.aload_n 0, 1) := by decide +kernel
theorem d_Fp_dot_111 : decode b_Fp_dot 111 = .ok (.getfield 50, 3) := by decide +kernel
theorem d_Fp_dot_114 : decode b_Fp_dot 114 = .ok (.aload_n 0, 1) := by decide +kernel
theorem d_Fp_dot_115 : decode b_Fp_dot 115 = .ok (.getfield 54, 3) := by decide +kernel
theorem d_Fp_dot_118 : decode b_Fp_dot 118 = .ok (.invokevirtual 131, 3) := by decide +kernel
theorem d_Fp_dot_121 : decode b_Fp_dot 121 = .ok (.aload_n 0, 1) := by decide +kernel
theorem d_Fp_dot_122 : decode b_Fp_dot 122 = .ok (.getfield 29, 3) := by decide +kernel
theorem d_Fp_dot_125 : decode b_Fp_dot 125 = .ok (.aload_n 0, 1) := by decide +kernel
theorem d_Fp_dot_126 : decode b_Fp_dot 126 = .ok (.getfield 63, 3) := by decide +kernel
theorem d_Fp_dot_129 : decode b_Fp_dot 129 = .ok (.aload_n 0, 1) := by decide +kernel
theorem d_Fp_dot_130 : decode b_Fp_dot 130 = .ok (.getfield 60, 3) := by decide +kernel
theorem d_Fp_dot_133 : decode b_Fp_dot 133 = .ok (.aload_n 0, 1) := by decide +kernel
theorem d_Fp_dot_134 : decode b_Fp_dot 134 = .ok (.getfield 57, 3) := by decide +kernel
theorem d_Fp_dot_137 : decode b_Fp_dot 137 = .ok (.invokevirtual 127, 3) := by decide +kernel
theorem d_Fp_dot_140 : decode b_Fp_dot 140 = .ok (.aload_n 0, 1) := by decide +kernel
theorem d_Fp_dot_141 : decode b_Fp_dot 141 = .ok (.getfield 60, 3) := by decide +kernel
theorem d_Fp_dot_144 : decode b_Fp_dot 144 = .ok (.astore 6, 2) := by decide +kernel
theorem d_Fp_dot_146 : decode b_Fp_dot 146 = .ok (.aload_n 0, 1) := by decide +kernel
theorem d_Fp_dot_147 : decode b_Fp_dot 147 = .ok (.aload_n 0, 1) := by decide +kernel
theorem d_Fp_dot_148 : decode b_Fp_dot 148 = .ok (.getfield 63, 3) := by decide +kernel
theorem d_Fp_dot_151 : decode b_Fp_dot 151 = .ok (.putfield 60, 3) := by decide +kernel
theorem d_Fp_dot_154 : decode b_Fp_dot 154 = .ok (.aload_n 0, 1) := by decide +kernel
theorem d_Fp_dot_155 : decode b_Fp_dot 155 = .ok (.aload 6, 2) := by decide +kernel
theorem d_Fp_dot_157 : decode b_Fp_dot 157 = .ok (.putfield 63, 3) := by decide +kernel
theorem d_Fp_dot_160 : decode b_Fp_dot 160 = .ok (.iinc 5 1, 3) := by decide +kernel
theorem d_Fp_dot_163 : decode b_Fp_dot 163 = .ok (.goto (-98), 3) := by decide +kernel
theorem d_Fp_dot_166 : decode b_Fp_dot 166 = .ok (.aload_n 0, 1) := by decide +kernel
theorem d_Fp_dot_167 : decode b_Fp_dot 167 = .ok (.getfield 22, 3) := by decide +kernel
theorem d_Fp_dot_170 : decode b_Fp_dot 170 = .ok (.iload_n 1, 1) := by decide +kernel
theorem d_Fp_dot_171 : decode b_Fp_dot 171 = .ok (.aload_n 0, 1) := by decide +kernel
theorem d_Fp_dot_172 : decode b_Fp_dot 172 = .ok (.getfield 60, 3) := by decide +kernel
theorem d_Fp_dot_175 : decode b_Fp_dot 175 = .ok (.invokevirtual 108, 3) := by decide +kernel
theorem d_Fp_dot_178 : decode b_Fp_dot 178 = .ok (.ireturn, 1) := by decide +kernel
theorem d_Fp_floor_0 : decode b_Fp_floor 0 = .ok (.iload_n 1, 1) := by decide +kernel
theorem d_Fp_floor_1 : decode b_Fp_floor 1 = .ok (.invokestatic 66, 3) := by decide +kernel
theorem d_Fp_floor_4 : decode b_Fp_floor 4 = .ok (.iload_n 2, 1) := by decide +kernel
theorem d_Fp_floor_5 : decode b_Fp_floor 5 = .ok (.invokestatic 66, 3) := by decide +kernel
theorem d_Fp_floor_8 : decode b_Fp_floor 8 = .ok (.aload_n 0, 1) := by decide +kernel
theorem d_Fp_floor_9 : decode b_Fp_floor 9 = .ok (.getfield 22, 3) := by decide +kernel
theorem d_Fp_floor_12 : decode b_Fp_floor 12 = .ok (.iload_n 2, 1) := by decide +kernel
theorem d_Fp_floor_13 : decode b_Fp_floor 13 = .ok (.aload_n 0, 1) := by decide +kernel
theorem d_Fp_floor_14 : decode b_Fp_floor 14 = .ok (.getfield 50, 3) := by decide +kernel
theorem d_Fp_floor_17 : decode b_Fp_floor 17 = .ok (.invokevirtual 112, 3) := by decide +kernel
theorem d_Fp_floor_20 : decode b_Fp_floor 20 = .ok (.aload_n 0, 1) := by decide +kernel
theorem d_Fp_floor_21 : decode b_Fp_floor 21 = .ok (.getfield 50, 3) := by decide +kernel
theorem d_Fp_floor_24 : decode b_Fp_floor 24 = .ok (.getfield 76, 3) := by decide +kernel
theorem d_Fp_floor_27 : decode b_Fp_floor 27 = .ok (.aload_n 0, 1) := by decide +kernel
theorem d_Fp_floor_28 : decode b_Fp_floor 28 = .ok (.getfield 50, 3) := by decide +kernel
theorem d_Fp_floor_31 : decode b_Fp_floor 31 = .ok (.getfield 92, 3) := by decide +kernel
theorem d_Fp_floor_34 : decode b_Fp_floor 34 = .ok (.aload_n 0, 1) := by decide +kernel
theorem d_Fp_floor_35 : decode b_Fp_floor 35 = .ok (.getfield 57, 3) := by decide +kernel
theorem d_Fp_floor_38 : decode b_Fp_floor 38 = .ok (.getfield 76, 3) := by decide +kernel
theorem d_Fp_floor_41 : decode b_Fp_floor 41 = .ok (.invokevirtual 171, 3) := by decide +kernel
theorem d_Fp_floor_44 : decode b_Fp_floor 44 = .ok (.aload_n 0, 1) := by decide +kernel
theorem d_Fp_floor_45 : decode b_Fp_floor 45 = .ok (.getfield 50, 3) := by decide +kernel
theorem d_Fp_floor_48 : decode b_Fp_floor 48 = .ok (.getfield 105, 3) := by decide +kernel
theorem d_Fp_floor_51 : decode b_Fp_floor 51 = .ok (.ifCond .ge 28, 3) := by decide +kernel
theorem d_Fp_floor_54 : decode b_Fp_floor 54 = .ok (.aload_n 0, 1) := by decide +kernel
theorem d_Fp_floor_55 : decode b_Fp_floor 55 = .ok (.getfield 50, 3) := by decide +kernel
theorem d_Fp_floor_58 : decode b_Fp_floor 58 = .ok (.getfield 76, 3) := by decide +kernel
theorem d_Fp_floor_61 : decode b_Fp_floor 61 = .ok (.getfield 174, 3) := by decide +kernel
theorem d_Fp_floor_64 : decode b_Fp_floor 64 = .ok (.ifCond .le 15, 3) := by decide +kernel
theorem d_Fp_floor_67 : decode b_Fp_floor 67 = .ok (.aload_n 0, 1) := by decide +kernel
theorem d_Fp_floor_68 : decode b_Fp_floor 68 = .ok (.getfield 57, 3) := by decide +kernel
theorem d_Fp_floor_71 : decode b_Fp_floor 71 = .ok (.getfield 76, 3) := by decide +kernel
theorem d_Fp_floor_74 : decode b_Fp_floor 74 = .ok (.iconst 1, 1) := by decide +kernel
theorem d_Fp_floor_75 : decode b_Fp_floor 75 = .ok (.iconst 1, 1) := by decide +kernel
theorem d_Fp_floor_76 : decode b_Fp_floor 76 = .ok (.invokevirtual 177, 3) := by decide +kernel
theorem d_Fp_floor_79 : decode b_Fp_floor 79 = .ok (.aload_n 0, 1) := by decide +kernel
theorem d_Fp_floor_80 : decode b_Fp_floor 80 = .ok (.getfield 57, 3) := by decide +kernel
theorem d_Fp_floor_83 : decode b_Fp_floor 83 = .ok (.getfield 92, 3) := by decide +kernel
theorem d_Fp_floor_86 : decode b_Fp_floor 86 = .ok (.lconst 1, 1) := by decide +kernel
theorem d_Fp_floor_87 : decode b_Fp_floor 87 = .ok (.invokevirtual 86, 3) := by decide +kernel
theorem d_Fp_floor_90 : decode b_Fp_floor 90 = .ok (.aload_n 0, 1) := by decide +kernel
theorem d_Fp_floor_91 : decode b_Fp_floor 91 = .ok (.getfield 57, 3) := by decide +kernel
theorem d_Fp_floor_94 : decode b_Fp_floor 94 = .ok (.aload_n 0, 1) := by decide +kernel
theorem d_Fp_floor_95 : decode b_Fp_floor 95 = .ok (.getfield 57, 3) := by decide +kernel
theorem d_Fp_floor_98 : decode b_Fp_floor 98 = .ok (.getfield 76, 3) := by decide +kernel
theorem d_Fp_floor_101 : decode b_Fp_floor 101 = .ok (.getfield 174, 3) := by decide +kernel
theorem d_Fp_floor_104 : decode b_Fp_floor 104 = .ok (.ifCond .ne 7, 3) := by decide +kernel
theorem d_Fp_floor_107 : decode b_Fp_floor 107 = .ok (.iconst 0, 1) := by decide +kernel
theorem d_Fp_floor_108 : decode b_Fp_floor 108 = .ok (.goto 10, 3) := by decide +kernel
theorem d_Fp_floor_111 : decode b_Fp_floor 111 = .ok (.aload_n 0, 1) := by decide +kernel
theorem d_Fp_floor_112 : decode b_Fp_floor 112 = .ok (.getfield 50, 3) := by decide +kernel
theorem d_Fp_floor_115 : decode b_Fp_floor 115 = .ok (.getfield 105, 3) := by decide +kernel
theorem d_Fp_floor_118 : decode b_Fp_floor 118 = .ok (.putfield 105, 3) := by decide +kernel
theorem d_Fp_floor_121 : decode b_Fp_floor 121 = .ok (.aload_n 0, 1) := by decide +kernel
theorem d_Fp_floor_122 : decode b_Fp_floor 122 = .ok (.getfield 22, 3) := by decide +kernel
theorem d_Fp_floor_125 : decode b_Fp_floor 125 = .ok (.iload_n 1, 1) := by decide +kernel
theorem d_Fp_floor_126 : decode b_Fp_floor 126 = .ok (.aload_n 0, 1) := by decide +kernel
theorem d_Fp_floor_127 : decode b_Fp_floor 127 = .ok (.getfield 57, 3) := by decide +kernel
theorem d_Fp_floor_130 : decode b_Fp_floor 130 = .ok (.invokevirtual 108, 3) := by decide +kernel
theorem d_Fp_floor_133 : decode b_Fp_floor 133 = .ok (.ireturn, 1) := by decide +kernel
theorem d_Fp_round_0 : decode b_Fp_round 0 = .ok (.iload_n 1, 1) := by decide +kernel
theorem d_Fp_round_1 : decode b_Fp_round 1 = .ok (.invokestatic 66, 3) := by decide +kernel
theorem d_Fp_round_4 : decode b_Fp_round 4 = .ok (.iload_n 2, 1) := by decide +kernel
theorem d_Fp_round_5 : decode b_Fp_round 5 = .ok (.invokestatic 66, 3) := by decide +kernel
theorem d_Fp_round_8 : decode b_Fp_round 8 = .ok (.iload_n 3, 1) := by decide +kernel
theorem d_Fp_round_9 : decode b_Fp_round 9 = .ok (.iconst 1, 1) := by decide +kernel
theorem d_Fp_round_10 : decode b_Fp_round 10 = .ok (.if_icmp .lt 10, 3) := by decide +kernel
theorem d_Fp_round_13 : decode b_Fp_round 13 = .ok (.iload_n 3, 1) := by decide +kernel
theorem d_Fp_round_14 : decode b_Fp_round 14 = .ok (.sipush 1024, 3) := by decide +kernel
theorem d_Fp_round_17 : decode b_Fp_round 17 = .ok (.if_icmp .le 13, 3) := by decide +kernel
theorem d_Fp_round_20 : decode b_Fp_round 20 = .ok (.new 139, 3) := by decide +kernel
theorem d_Fp_round_23 : decode b_Fp_round 23 = .ok (.dup, 1) := by decide +kernel
theorem d_Fp_round_24 : decode b_Fp_round 24 = .ok (.ldc 180, 2) := by decide +kernel
theorem d_Fp_round_26 : decode b_Fp_round 26 = .ok (.invokespecial 143, 3) := by decide +kernel
theorem d_Fp_round_29 : decode b_Fp_round 29 = .ok (.athrow, 1) := by decide +kernel
theorem d_Fp_round_30 : decode b_Fp_round 30 = .ok (.aload_n 0, 1) := by decide +kernel
theorem d_Fp_round_31 : decode b_Fp_round 31 = .ok (.getfield 22, 3) := by decide +kernel
theorem d_Fp_round_34 : decode b_Fp_round 34 = .ok (.iload_n 2, 1) := by decide +kernel
theorem d_Fp_round_35 : decode b_Fp_round 35 = .ok (.aload_n 0, 1) := by decide +kernel
theorem d_Fp_round_36 : decode b_Fp_round 36 = .ok (.getfield 50, 3) := by decide +kernel
theorem d_Fp_round_39 : decode b_Fp_round 39 = .ok (.invokevirtual 112, 3) := by decide +kernel
theorem d_Fp_round_42 : decode b_Fp_round 42 = .ok (.aload_n 0, 1) := by decide +kernel
theorem d_Fp_round_43 : decode b_Fp_round 43 = .ok (.getfield 50, 3) := by decide +kernel
theorem d_Fp_round_46 : decode b_Fp_round 46 = .ok (.getfield 105, 3) := by decide +kernel
theorem d_Fp_round_49 : decode b_Fp_round 49 = .ok (.ifCond .ne 16, 3) := by decide +kernel
theorem d_Fp_round_52 : decode b_Fp_round 52 = .ok (.aload_n 0, 1) := by decide +kernel
theorem d_Fp_round_53 : decode b_Fp_round 53 = .ok (.getfield 22, 3) := by decide +kernel
theorem d_Fp_round_56 : decode b_Fp_round 56 = .ok (.iload_n 1, 1) := by decide +kernel
theorem d_Fp_round_57 : decode b_Fp_round 57 = .ok (.aload_n 0, 1) := by decide +kernel
theorem d_Fp_round_58 : decode b_Fp_round 58 = .ok (.getfield 50, 3) := by decide +kernel
theorem d_Fp_round_61 : decode b_Fp_round 61 = .ok (.invokevirtual 108, 3) := by decide +kernel
theorem d_Fp_round_64 : decode b_Fp_round 64 = .ok (.ireturn, 1) := by decide +kernel
theorem d_Fp_round_65 : decode b_Fp_round 65 = .ok (.aload_n 0, 1) := by decide +kernel
theorem d_Fp_round_66 : decode b_Fp_round 66 = .ok (.getfield 29, 3) := by decide +kernel
theorem d_Fp_round_69 : decode b_Fp_round 69 = .ok (.aload_n 0, 1) := by decide +kernel
theorem d_Fp_round_70 : decode b_Fp_round 70 = .ok (.getfield 57, 3) := by decide +kernel
theorem d_Fp_round_73 : decode b_Fp_round 73 = .ok (.aload_n 0, 1) := by decide +kernel
theorem d_Fp_round_74 : decode b_Fp_round 74 = .ok (.getfield 50, 3) := by decide +kernel
theorem d_Fp_round_77 : decode b_Fp_round 77 = .ok (.aload_n 0, 1) := by decide +kernel
theorem d_Fp_round_78 : decode b_Fp_round 78 = .ok (.getfield 29, 3) := by decide +kernel
theorem d_Fp_round_81 : decode b_Fp_round 81 = .ok (.aload_n 0, 1) := by decide +kernel
theorem d_Fp_round_82 : decode b_Fp_round 82 = .ok (.getfield 50, 3) := by decide +kernel
theorem d_Fp_round_85 : decode b_Fp_round 85 = .ok (.invokevirtual 182, 3) := by decide +kernel
theorem d_Fp_round_88 : decode b_Fp_round 88 = .ok (.iload_n 3, 1) := by decide +kernel
theorem d_Fp_round_89 : decode b_Fp_round 89 = .ok (.isub, 1) := by decide +kernel
theorem d_Fp_round_90 : decode b_Fp_round 90 = .ok (.iconst 1, 1) := by decide +kernel
theorem d_Fp_round_91 : decode b_Fp_round 91 = .ok (.iadd, 1) := by decide +kernel
theorem d_Fp_round_92 : decode b_Fp_round 92 = .ok (.invokevirtual 186, 3) := by decide +kernel
theorem d_Fp_round_95 : decode b_Fp_round 95 = .ok (.aload_n 0, 1) := by decide +kernel
theorem d_Fp_round_96 : decode b_Fp_round 96 = .ok (.getfield 22, 3) := by decide +kernel
theorem d_Fp_round_99 : decode b_Fp_round 99 = .ok (.iload_n 1, 1) := by decide +kernel
theorem d_Fp_round_100 : decode b_Fp_round 100 = .ok (.aload_n 0, 1) := by decide +kernel
theorem d_Fp_round_101 : decode b_Fp_round 101 = .ok (.getfield 57, 3) := by decide +kernel
theorem d_Fp_round_104 : decode b_Fp_round 104 = .ok (.invokevirtual 108, 3) := by decide +kernel
theorem d_Fp_round_107 : decode b_Fp_round 107 = .ok (.ireturn, 1) := by decide +kernel
theorem d_Fp_align_0 : decode b_Fp_align 0 = .ok (.iload_n 1, 1) := by decide +kernel
theorem d_Fp_align_1 : decode b_Fp_align 1 = .ok (.invokestatic 66, 3) := by decide +kernel
theorem d_Fp_align_4 : decode b_Fp_align 4 = .ok (.iload_n 2, 1) := by decide +kernel
theorem d_Fp_align_5 : decode b_Fp_align 5 = .ok (.invokestatic 66, 3) := by decide +kernel
theorem d_Fp_align_8 : decode b_Fp_align 8 = .ok (.iload_n 3, 1) := by decide +kernel
theorem d_Fp_align_9 : decode b_Fp_align 9 = .ok (.sipush (-4000), 3) := by decide +kernel
theorem d_Fp_align_12 : decode b_Fp_align 12 = .ok (.if_icmp .lt 10, 3) := by decide +kernel
theorem d_Fp_align_15 : decode b_Fp_align 15 = .ok (.iload_n 3, 1) := by decide +kernel
theorem d_Fp_align_16 : decode b_Fp_align 16 = .ok (.sipush 4000, 3) := by decide +kernel
theorem d_Fp_align_19 : decode b_Fp_align 19 = .ok (.if_icmp .le 13, 3) := by decide +kernel
theorem d_Fp_align_22 : decode b_Fp_align 22 = .ok (.new 139, 3) := by decide +kernel
theorem d_Fp_align_25 : decode b_Fp_align 25 = .ok (.dup, 1) := by decide +kernel
theorem d_Fp_align_26 : decode b_Fp_align 26 = .ok (.ldc 190, 2) := by decide +kernel
theorem d_Fp_align_28 : decode b_Fp_align 28 = .ok (.invokespecial 143, 3) := by decide +kernel
theorem d_Fp_align_31 : decode b_Fp_align 31 = .ok (.athrow, 1) := by decide +kernel
theorem d_Fp_align_32 : decode b_Fp_align 32 = .ok (.aload_n 0, 1) := by decide +kernel
theorem d_Fp_align_33 : decode b_Fp_align 33 = .ok (.getfield 22, 3) := by decide +kernel
theorem d_Fp_align_36 : decode b_Fp_align 36 = .ok (.iload_n 2, 1) := by decide +kernel
theorem d_Fp_align_37 : decode b_Fp_align 37 = .ok (.aload_n 0, 1) := by decide +kernel
theorem d_Fp_align_38 : decode b_Fp_align 38 = .ok (.getfield 50, 3) := by decide +kernel
theorem d_Fp_align_41 : decode b_Fp_align 41 = .ok (.invokevirtual 112, 3) := by decide +kernel
theorem d_Fp_align_44 : decode b_Fp_align 44 = .ok (.aload_n 0, 1) := by decide +kernel
theorem d_Fp_align_45 : decode b_Fp_align 45 = .ok (.getfield 29, 3) := by decide +kernel
theorem d_Fp_align_48 : decode b_Fp_align 48 = .ok (.aload_n 0, 1) := by decide +kernel
theorem d_Fp_align_49 : decode b_Fp_align 49 = .ok (.getfield 57, 3) := by decide +kernel
theorem d_Fp_align_52 : decode b_Fp_align 52 = .ok (.aload_n 0, 1) := by decide +kernel
theorem d_Fp_align_53 : decode b_Fp_align 53 = .ok (.getfield 50, 3) := by decide +kernel
theorem d_Fp_align_56 : decode b_Fp_align 56 = .ok (.iload_n 3, 1) := by decide +kernel
theorem d_Fp_align_57 : decode b_Fp_align 57 = .ok (.invokevirtual 186, 3) := by decide +kernel
theorem d_Fp_align_60 : decode b_Fp_align 60 = .ok (.aload_n 0, 1) := by decide +kernel
theorem d_Fp_align_61 : decode b_Fp_align 61 = .ok (.getfield 22, 3) := by decide +kernel
theorem d_Fp_align_64 : decode b_Fp_align 64 = .ok (.iload_n 1, 1) := by decide +kernel
theorem d_Fp_align_65 : decode b_Fp_align 65 = .ok (.aload_n 0, 1) := by decide +kernel
theorem d_Fp_align_66 : decode b_Fp_align 66 = .ok (.getfield 57, 3) := by decide +kernel
theorem d_Fp_align_69 : decode b_Fp_align 69 = .ok (.invokevirtual 108, 3) := by decide +kernel
theorem d_Fp_align_72 : decode b_Fp_align 72 = .ok (.ireturn, 1) := by decide +kernel
theorem d_Fp_compare_0 : decode b_Fp_compare 0 = .ok (.iload_n 1, 1) := by decide +kernel
theorem d_Fp_compare_1 : decode b_Fp_compare 1 = .ok (.invokestatic 66, 3) := by decide +kernel
theorem d_Fp_compare_4 : decode b_Fp_compare 4 = .ok (.iload_n 2, 1) := by decide +kernel
theorem d_Fp_compare_5 : decode b_Fp_compare 5 = .ok (.invokestatic 66, 3) := by decide +kernel
theorem d_Fp_compare_8 : decode b_Fp_compare 8 = .ok (.aload_n 0, 1) := by decide +kernel
theorem d_Fp_compare_9 : decode b_Fp_compare 9 = .ok (.getfield 22, 3) := by decide +kernel
theorem d_Fp_compare_12 : decode b_Fp_compare 12 = .ok (.iload_n 1, 1) := by decide +kernel
theorem d_Fp_compare_13 : decode b_Fp_compare 13 = .ok (.aload_n 0, 1) := by decide +kernel
theorem d_Fp_compare_14 : decode b_Fp_compare 14 = .ok (.getfield 50, 3) := by decide +kernel
theorem d_Fp_compare_17 : decode b_Fp_compare 17 = .ok (.invokevirtual 112, 3) := by decide +kernel
theorem d_Fp_compare_20 : decode b_Fp_compare 20 = .ok (.aload_n 0, 1) := by decide +kernel
theorem d_Fp_compare_21 : decode b_Fp_compare 21 = .ok (.getfield 22, 3) := by decide +kernel
theorem d_Fp_compare_24 : decode b_Fp_compare 24 = .ok (.iload_n 2, 1) := by decide +kernel
theorem d_Fp_compare_25 : decode b_Fp_compare 25 = .ok (.aload_n 0, 1) := by decide +kernel
theorem d_Fp_compare_26 : decode b_Fp_compare 26 = .ok (.getfield 54, 3) := by decide +kernel
theorem d_Fp_compare_29 : decode b_Fp_compare 29 = .ok (.invokevirtual 112, 3) := by decide +kernel
theorem d_Fp_compare_32 : decode b_Fp_compare 32 = .ok (.aload_n 0, 1) := by decide +kernel
theorem d_Fp_compare_33 : decode b_Fp_compare 33 = .ok (.getfield 50, 3) := by decide +kernel
theorem d_Fp_compare_36 : decode b_Fp_compare 36 = .ok (.getfield 105, 3) := by decide +kernel
theorem d_Fp_compare_39 : decode b_Fp_compare 39 = .ok (.aload_n 0, 1) := by decide +kernel
theorem d_Fp_compare_40 : decode b_Fp_compare 40 = .ok (.getfield 54, 3) := by decide +kernel
theorem d_Fp_compare_43 : decode b_Fp_compare 43 = .ok (.getfield 105, 3) := by decide +kernel
theorem d_Fp_compare_46 : decode b_Fp_compare 46 = .ok (.if_icmp .eq 21, 3) := by decide +kernel
theorem d_Fp_compare_49 : decode b_Fp_compare 49 = .ok (.aload_n 0, 1) := by decide +kernel
theorem d_Fp_compare_50 : decode b_Fp_compare 50 = .ok (.getfield 50, 3) := by decide +kernel
theorem d_Fp_compare_53 : decode b_Fp_compare 53 = .ok (.getfield 105, 3) := by decide +kernel
theorem d_Fp_compare_56 : decode b_Fp_compare 56 = .ok (.aload_n 0, 1) := by decide +kernel
theorem d_Fp_compare_57 : decode b_Fp_compare 57 = .ok (.getfield 54, 3) := by decide +kernel
theorem d_Fp_compare_60 : decode b_Fp_compare 60 = .ok (.getfield 105, 3) := by decide +kernel
theorem d_Fp_compare_63 : decode b_Fp_compare 63 = .ok (.invokestatic 192, 3) := by decide +kernel
theorem d_Fp_compare_66 : decode b_Fp_compare 66 = .ok (.ireturn, 1) := by decide +kernel
theorem d_Fp_compare_67 : decode b_Fp_compare 67 = .ok (.aload_n 0, 1) := by decide +kernel
theorem d_Fp_compare_68 : decode b_Fp_compare 68 = .ok (.getfield 57, 3) := by decide +kernel
theorem d_Fp_compare_71 : decode b_Fp_compare 71 = .ok (.getfield 76, 3) := by decide +kernel
theorem d_Fp_compare_74 : decode b_Fp_compare 74 = .ok (.aload_n 0, 1) := by decide +kernel
theorem d_Fp_compare_75 : decode b_Fp_compare 75 = .ok (.getfield 50, 3) := by decide +kernel
theorem d_Fp_compare_78 : decode b_Fp_compare 78 = .ok (.getfield 76, 3) := by decide +kernel
theorem d_Fp_compare_81 : decode b_Fp_compare 81 = .ok (.aload_n 0, 1) := by decide +kernel
theorem d_Fp_compare_82 : decode b_Fp_compare 82 = .ok (.getfield 54, 3) := by decide +kernel
theorem d_Fp_compare_85 : decode b_Fp_compare 85 = .ok (.getfield 92, 3) := by decide +kernel
theorem d_Fp_compare_88 : decode b_Fp_compare 88 = .ok (.invokevirtual 197, 3) := by decide +kernel
theorem d_Fp_compare_91 : decode b_Fp_compare 91 = .ok (.aload_n 0, 1) := by decide +kernel
theorem d_Fp_compare_92 : decode b_Fp_compare 92 = .ok (.getfield 57, 3) := by decide +kernel
theorem d_Fp_compare_95 : decode b_Fp_compare 95 = .ok (.getfield 92, 3) := by decide +kernel
theorem d_Fp_compare_98 : decode b_Fp_compare 98 = .ok (.aload_n 0, 1) := by decide +kernel
theorem d_Fp_compare_99 : decode b_Fp_compare 99 = .ok (.getfield 54, 3) := by decide +kernel
theorem d_Fp_compare_102 : decode b_Fp_compare 102 = .ok (.getfield 76, 3) := by decide +kernel
theorem d_Fp_compare_105 : decode b_Fp_compare 105 = .ok (.aload_n 0, 1) := by decide +kernel
theorem d_Fp_compare_106 : decode b_Fp_compare 106 = .ok (.getfield 50, 3) := by decide +kernel
theorem d_Fp_compare_109 : decode b_Fp_compare 109 = .ok (.getfield 92, 3) := by decide +kernel
theorem d_Fp_compare_112 : decode b_Fp_compare 112 = .ok (.invokevirtual 197, 3) := by decide +kernel
theorem d_Fp_compare_115 : decode b_Fp_compare 115 = .ok (.aload_n 0, 1) := by decide +kernel
theorem d_Fp_compare_116 : decode b_Fp_compare 116 = .ok (.getfield 50, 3) := by decide +kernel
theorem d_Fp_compare_119 : decode b_Fp_compare 119 = .ok (.getfield 105, 3) := by decide +kernel
theorem d_Fp_compare_122 : decode b_Fp_compare 122 = .ok (.aload_n 0, 1) := by decide +kernel
theorem d_Fp_compare_123 : decode b_Fp_compare 123 = .ok (.getfield 57, 3) := by decide +kernel
theorem d_Fp_compare_126 : decode b_Fp_compare 126 = .ok (.getfield 76, 3) := by decide +kernel
theorem d_Fp_compare_129 : decode b_Fp_compare 129 = .ok (.aload_n 0, 1) := by decide +kernel
theorem d_Fp_compare_130 : decode b_Fp_compare 130 = .ok (.getfield 57, 3) := by decide +kernel
theorem d_Fp_compare_133 : decode b_Fp_compare 133 = .ok (.getfield 92, 3) := by decide +kernel
theorem d_Fp_compare_136 : decode b_Fp_compare 136 = .ok (.invokevirtual 199, 3) := by decide +kernel
theorem d_Fp_compare_139 : decode b_Fp_compare 139 = .ok (.imul, 1) := by decide +kernel
theorem d_Fp_compare_140 : decode b_Fp_compare 140 = .ok (.ireturn, 1) := by decide +kernel
theorem d_Fp_sign_0 : decode b_Fp_sign 0 = .ok (.iload_n 1, 1) := by decide +kernel
theorem d_Fp_sign_1 : decode b_Fp_sign 1 = .ok (.invokestatic 66, 3) := by decide +kernel
theorem d_Fp_sign_4 : decode b_Fp_sign 4 = .ok (.aload_n 0, 1) := by decide +kernel
theorem d_Fp_sign_5 : decode b_Fp_sign 5 = .ok (.getfield 22, 3) := by decide +kernel
theorem d_Fp_sign_8 : decode b_Fp_sign 8 = .ok (.iload_n 1, 1) := by decide +kernel
theorem d_Fp_sign_9 : decode b_Fp_sign 9 = .ok (.invokevirtual 203, 3) := by decide +kernel
theorem d_Fp_sign_12 : decode b_Fp_sign 12 = .ok (.ireturn, 1) := by decide +kernel
theorem d_Fp_length_0 : decode b_Fp_length 0 = .ok (.iload_n 1, 1) := by decide +kernel
theorem d_Fp_length_1 : decode b_Fp_length 1 = .ok (.invokestatic 66, 3) := by decide +kernel
theorem d_Fp_length_4 : decode b_Fp_length 4 = .ok (.aload_n 0, 1) := by decide +kernel
theorem d_Fp_length_5 : decode b_Fp_length 5 = .ok (.getfield 22, 3) := by decide +kernel
theorem d_Fp_length_8 : decode b_Fp_length 8 = .ok (.iload_n 1, 1) := by decide +kernel
theorem d_Fp_length_9 : decode b_Fp_length 9 = .ok (.iload_n 2, 1) := by decide +kernel
theorem d_Fp_length_10 : decode b_Fp_length 10 = .ok (.invokevirtual 206, 3) := by decide +kernel
theorem d_Fp_length_13 : decode b_Fp_length 13 = .ok (.ireturn, 1) := by decide +kernel
theorem d_Fp_limb_0 : decode b_Fp_limb 0 = .ok (.iload_n 1, 1) := by decide +kernel
theorem d_Fp_limb_1 : decode b_Fp_limb 1 = .ok (.invokestatic 66, 3) := by decide +kernel
theorem d_Fp_limb_4 : decode b_Fp_limb 4 = .ok (.iload_n 3, 1) := by decide +kernel
theorem d_Fp_limb_5 : decode b_Fp_limb 5 = .ok (.ifCond .ge 13, 3) := by decide +kernel
theorem d_Fp_limb_8 : decode b_Fp_limb 8 = .ok (.new 161, 3) := by decide +kernel
theorem d_Fp_limb_11 : decode b_Fp_limb 11 = .ok (.dup, 1) := by decide +kernel
theorem d_Fp_limb_12 : decode b_Fp_limb 12 = .ok (.ldc 210, 2) := by decide +kernel
theorem d_Fp_limb_14 : decode b_Fp_limb 14 = .ok (.invokespecial 165, 3) := by decide +kernel
theorem d_Fp_limb_17 : decode b_Fp_limb 17 = .ok (.athrow, 1) := by decide +kernel
theorem d_Fp_limb_18 : decode b_Fp_limb 18 = .ok (.aload_n 0, 1) := by decide +kernel
theorem d_Fp_limb_19 : decode b_Fp_limb 19 = .ok (.getfield 22, 3) := by decide +kernel
theorem d_Fp_limb_22 : decode b_Fp_limb 22 = .ok (.iload_n 1, 1) := by decide +kernel
theorem d_Fp_limb_23 : decode b_Fp_limb 23 = .ok (.iload_n 2, 1) := by decide +kernel
theorem d_Fp_limb_24 : decode b_Fp_limb 24 = .ok (.iload_n 3, 1) := by decide +kernel
theorem d_Fp_limb_25 : decode b_Fp_limb 25 = .ok (.invokevirtual 212, 3) := by decide +kernel
theorem d_Fp_limb_28 : decode b_Fp_limb 28 = .ok (.ireturn, 1) := by decide +kernel
theorem d_Fp_read_0 : decode b_Fp_read 0 = .ok (.aload_n 0, 1) := by decide +kernel
theorem d_Fp_read_1 : decode b_Fp_read 1 = .ok (.getfield 36, 3) := by decide +kernel
theorem d_Fp_read_4 : decode b_Fp_read 4 = .ok (.invokevirtual 223, 3) := by decide +kernel
theorem d_Fp_read_7 : decode b_Fp_read 7 = .ok (.iload_n 1, 1) := by decide +kernel
theorem d_Fp_read_8 : decode b_Fp_read 8 = .ok (.invokestatic 66, 3) := by decide +kernel
theorem d_Fp_read_11 : decode b_Fp_read 11 = .ok (.aload_n 0, 1) := by decide +kernel
theorem d_Fp_read_12 : decode b_Fp_read 12 = .ok (.getfield 36, 3) := by decide +kernel
theorem d_Fp_read_15 : decode b_Fp_read 15 = .ok (.getfield 226, 3) := by decide +kernel
theorem d_Fp_read_18 : decode b_Fp_read 18 = .ok (.iconst (-1), 1) := by decide +kernel
theorem d_Fp_read_19 : decode b_Fp_read 19 = .ok (.if_icmp .eq 13, 3) := by decide +kernel
theorem d_Fp_read_22 : decode b_Fp_read 22 = .ok (.new 139, 3) := by decide +kernel
theorem d_Fp_read_25 : decode b_Fp_read 25 = .ok (.dup, 1) := by decide +kernel
theorem d_Fp_read_26 : decode b_Fp_read 26 = .ok (.ldc 229, 2) := by decide +kernel
theorem d_Fp_read_28 : decode b_Fp_read 28 = .ok (.invokespecial 143, 3) := by decide +kernel
theorem d_Fp_read_31 : decode b_Fp_read 31 = .ok (.athrow, 1) := by decide +kernel
theorem d_Fp_read_32 : decode b_Fp_read 32 = .ok (.aload_n 0, 1) := by decide +kernel
theorem d_Fp_read_33 : decode b_Fp_read 33 = .ok (.getfield 36, 3) := by decide +kernel
theorem d_Fp_read_36 : decode b_Fp_read 36 = .ok (.aload_n 0, 1) := by decide +kernel
theorem d_Fp_read_37 : decode b_Fp_read 37 = .ok (.getfield 57, 3) := by decide +kernel
theorem d_Fp_read_40 : decode b_Fp_read 40 = .ok (.invokevirtual 231, 3) := by decide +kernel
theorem d_Fp_read_43 : decode b_Fp_read 43 = .ok (.aload_n 0, 1) := by decide +kernel
theorem d_Fp_read_44 : decode b_Fp_read 44 = .ok (.getfield 29, 3) := by decide +kernel
theorem d_Fp_read_47 : decode b_Fp_read 47 = .ok (.aload_n 0, 1) := by decide +kernel
theorem d_Fp_read_48 : decode b_Fp_read 48 = .ok (.getfield 57, 3) := by decide +kernel
theorem d_Fp_read_51 : decode b_Fp_read 51 = .ok (.getfield 76, 3) := by decide +kernel
theorem d_Fp_read_54 : decode b_Fp_read 54 = .ok (.aload_n 0, 1) := by decide +kernel
theorem d_Fp_read_55 : decode b_Fp_read 55 = .ok (.getfield 57, 3) := by decide +kernel
theorem d_Fp_read_58 : decode b_Fp_read 58 = .ok (.getfield 92, 3) := by decide +kernel
theorem d_Fp_read_61 : decode b_Fp_read 61 = .ok (.invokevirtual 95, 3) := by decide +kernel
theorem d_Fp_read_64 : decode b_Fp_read 64 = .ok (.aload_n 0, 1) := by decide +kernel
theorem d_Fp_read_65 : decode b_Fp_read 65 = .ok (.getfield 22, 3) := by decide +kernel
theorem d_Fp_read_68 : decode b_Fp_read 68 = .ok (.iload_n 1, 1) := by decide +kernel
theorem d_Fp_read_69 : decode b_Fp_read 69 = .ok (.aload_n 0, 1) := by decide +kernel
theorem d_Fp_read_70 : decode b_Fp_read 70 = .ok (.getfield 57, 3) := by decide +kernel
theorem d_Fp_read_73 : decode b_Fp_read 73 = .ok (.invokevirtual 108, 3) := by decide +kernel
theorem d_Fp_read_76 : decode b_Fp_read 76 = .ok (.ireturn, 1) := by decide +kernel
theorem d_Fp_print_0 : decode b_Fp_print 0 = .ok (.iload_n 1, 1) := by decide +kernel
theorem d_Fp_print_1 : decode b_Fp_print 1 = .ok (.invokestatic 66, 3) := by decide +kernel
theorem d_Fp_print_4 : decode b_Fp_print 4 = .ok (.aload_n 0, 1) := by decide +kernel
theorem d_Fp_print_5 : decode b_Fp_print 5 = .ok (.getfield 22, 3) := by decide +kernel
theorem d_Fp_print_8 : decode b_Fp_print 8 = .ok (.iload_n 1, 1) := by decide +kernel
theorem d_Fp_print_9 : decode b_Fp_print 9 = .ok (.aload_n 0, 1) := by decide +kernel
theorem d_Fp_print_10 : decode b_Fp_print 10 = .ok (.getfield 50, 3) := by decide +kernel
theorem d_Fp_print_13 : decode b_Fp_print 13 = .ok (.invokevirtual 112, 3) := by decide +kernel
theorem d_Fp_print_16 : decode b_Fp_print 16 = .ok (.aload_n 0, 1) := by decide +kernel
theorem d_Fp_print_17 : decode b_Fp_print 17 = .ok (.getfield 43, 3) := by decide +kernel
theorem d_Fp_print_20 : decode b_Fp_print 20 = .ok (.aload_n 0, 1) := by decide +kernel
theorem d_Fp_print_21 : decode b_Fp_print 21 = .ok (.getfield 50, 3) := by decide +kernel
theorem d_Fp_print_24 : decode b_Fp_print 24 = .ok (.invokevirtual 235, 3) := by decide +kernel
theorem d_Fp_print_27 : decode b_Fp_print 27 = .ok (.aload_n 0, 1) := by decide +kernel
theorem d_Fp_print_28 : decode b_Fp_print 28 = .ok (.getfield 43, 3) := by decide +kernel
theorem d_Fp_print_31 : decode b_Fp_print 31 = .ok (.invokevirtual 238, 3) := by decide +kernel
theorem d_Fp_print_34 : decode b_Fp_print 34 = .ok (.ireturn, 1) := by decide +kernel
