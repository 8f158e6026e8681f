theorem d_La_cell_0 : decode b_La_cell 0 = .ok (.iload_n 1, 1) := by decide +kernel
theorem d_La_cell_1 : decode b_La_cell 1 = .ok (.aload_n 0, 1) := by decide +kernel
theorem d_La_cell_2 : decode b_La_cell 2 = .ok (.arraylength, 1) := by decide +kernel
theorem d_La_cell_3 : decode b_La_cell 3 = .ok (.if_icmp .ge 9, 3) := by decide +kernel
theorem d_La_cell_6 : decode b_La_cell 6 = .ok (.aload_n 0, 1) := by decide +kernel
theorem d_La_cell_7 : decode b_La_cell 7 = .ok (.iload_n 1, 1) := by decide +kernel
theorem d_La_cell_8 : decode b_La_cell 8 = .ok (.iaload, 1) := by decide +kernel
theorem d_La_cell_9 : decode b_La_cell 9 = .ok (.goto 4, 3) := by decide +kernel
theorem d_La_cell_12 : decode b_La_cell 12 = .ok (.iconst 0, 1) := by decide +kernel
theorem d_La_cell_13 : decode b_La_cell 13 = .ok (.ireturn, 1) := by decide +kernel
theorem d_La_set_0 : decode b_La_set 0 = .ok (.aload 6, 2) := by decide +kernel
theorem d_La_set_2 : decode b_La_set 2 = .ok (.iconst 0, 1) := by decide +kernel
theorem d_La_set_3 : decode b_La_set 3 = .ok (.aload_n 0, 1) := by decide +kernel
theorem d_La_set_4 : decode b_La_set 4 = .ok (.iload_n 1, 1) := by decide +kernel
theorem d_La_set_5 : decode b_La_set 5 = .ok (.lload_n 2, 1) := by decide +kernel
theorem d_La_set_6 : decode b_La_set 6 = .ok (.lload 4, 2) := by decide +kernel
theorem d_La_set_8 : decode b_La_set 8 = .ok (.invokevirtual 7, 3) := by decide +kernel
theorem d_La_set_11 : decode b_La_set 11 = .ok (.i2l, 1) := by decide +kernel
theorem d_La_set_12 : decode b_La_set 12 = .ok (.lastore, 1) := by decide +kernel
theorem d_La_set_13 : decode b_La_set 13 = .ok (.goto 15, 3) := by decide +kernel
theorem d_La_set_16 : decode b_La_set 16 = .ok (.astore 7, 2) := by decide +kernel
theorem d_La_set_18 : decode b_La_set 18 = .ok (.iconst 1, 1) := by decide +kernel
theorem d_La_set_19 : decode b_La_set 19 = .ok (.ireturn, 1) := by decide +kernel
theorem d_La_set_20 : decode b_La_set 20 = .ok (.astore 7, 2) := by decide +kernel
theorem d_La_set_22 : decode b_La_set 22 = .ok (.iconst 2, 1) := by decide +kernel
theorem d_La_set_23 : decode b_La_set 23 = .ok (.ireturn, 1) := by decide +kernel
theorem d_La_set_24 : decode b_La_set 24 = .ok (.astore 7, 2) := by decide +kernel
theorem d_La_set_26 : decode b_La_set 26 = .ok (.iconst 3, 1) := by decide +kernel
theorem d_La_set_27 : decode b_La_set 27 = .ok (.ireturn, 1) := by decide +kernel
theorem d_La_set_28 : decode b_La_set 28 = .ok (.iconst 0, 1) := by decide +kernel
theorem d_La_set_29 : decode b_La_set 29 = .ok (.ireturn, 1) := by decide +kernel
theorem d_La_copy_0 : decode b_La_copy 0 = .ok (.aload_n 3, 1) := by decide +kernel
theorem d_La_copy_1 : decode b_La_copy 1 = .ok (.iconst 0, 1) := by decide +kernel
theorem d_La_copy_2 : decode b_La_copy 2 = .ok (.aload_n 0, 1) := by decide +kernel
theorem d_La_copy_3 : decode b_La_copy 3 = .ok (.iload_n 1, 1) := by decide +kernel
theorem d_La_copy_4 : decode b_La_copy 4 = .ok (.iload_n 2, 1) := by decide +kernel
theorem d_La_copy_5 : decode b_La_copy 5 = .ok (.invokevirtual 19, 3) := by decide +kernel
theorem d_La_copy_8 : decode b_La_copy 8 = .ok (.i2l, 1) := by decide +kernel
theorem d_La_copy_9 : decode b_La_copy 9 = .ok (.lastore, 1) := by decide +kernel
theorem d_La_copy_10 : decode b_La_copy 10 = .ok (.goto 11, 3) := by decide +kernel
theorem d_La_copy_13 : decode b_La_copy 13 = .ok (.astore 4, 2) := by decide +kernel
theorem d_La_copy_15 : decode b_La_copy 15 = .ok (.iconst 1, 1) := by decide +kernel
theorem d_La_copy_16 : decode b_La_copy 16 = .ok (.ireturn, 1) := by decide +kernel
theorem d_La_copy_17 : decode b_La_copy 17 = .ok (.astore 4, 2) := by decide +kernel
theorem d_La_copy_19 : decode b_La_copy 19 = .ok (.iconst 2, 1) := by decide +kernel
theorem d_La_copy_20 : decode b_La_copy 20 = .ok (.ireturn, 1) := by decide +kernel
theorem d_La_copy_21 : decode b_La_copy 21 = .ok (.iconst 0, 1) := by decide +kernel
theorem d_La_copy_22 : decode b_La_copy 22 = .ok (.ireturn, 1) := by decide +kernel
theorem d_La_swap_0 : decode b_La_swap 0 = .ok (.aload_n 3, 1) := by decide +kernel
theorem d_La_swap_1 : decode b_La_swap 1 = .ok (.iconst 0, 1) := by decide +kernel
theorem d_La_swap_2 : decode b_La_swap 2 = .ok (.aload_n 0, 1) := by decide +kernel
theorem d_La_swap_3 : decode b_La_swap 3 = .ok (.iload_n 1, 1) := by decide +kernel
theorem d_La_swap_4 : decode b_La_swap 4 = .ok (.iload_n 2, 1) := by decide +kernel
theorem d_La_swap_5 : decode b_La_swap 5 = .ok (.invokevirtual 23, 3) := by decide +kernel
theorem d_La_swap_8 : decode b_La_swap 8 = .ok (.i2l, 1) := by decide +kernel
theorem d_La_swap_9 : decode b_La_swap 9 = .ok (.lastore, 1) := by decide +kernel
theorem d_La_swap_10 : decode b_La_swap 10 = .ok (.goto 7, 3) := by decide +kernel
theorem d_La_swap_13 : decode b_La_swap 13 = .ok (.astore 4, 2) := by decide +kernel
theorem d_La_swap_15 : decode b_La_swap 15 = .ok (.iconst 1, 1) := by decide +kernel
theorem d_La_swap_16 : decode b_La_swap 16 = .ok (.ireturn, 1) := by decide +kernel
theorem d_La_swap_17 : decode b_La_swap 17 = .ok (.iconst 0, 1) := by decide +kernel
theorem d_La_swap_18 : decode b_La_swap 18 = .ok (.ireturn, 1) := by decide +kernel
theorem d_La_add_0 : decode b_La_add 0 = .ok (.aload 4, 2) := by decide +kernel
theorem d_La_add_2 : decode b_La_add 2 = .ok (.iconst 0, 1) := by decide +kernel
theorem d_La_add_3 : decode b_La_add 3 = .ok (.aload_n 0, 1) := by decide +kernel
theorem d_La_add_4 : decode b_La_add 4 = .ok (.iload_n 1, 1) := by decide +kernel
theorem d_La_add_5 : decode b_La_add 5 = .ok (.iload_n 2, 1) := by decide +kernel
theorem d_La_add_6 : decode b_La_add 6 = .ok (.iload_n 3, 1) := by decide +kernel
theorem d_La_add_7 : decode b_La_add 7 = .ok (.invokevirtual 26, 3) := by decide +kernel
theorem d_La_add_10 : decode b_La_add 10 = .ok (.i2l, 1) := by decide +kernel
theorem d_La_add_11 : decode b_La_add 11 = .ok (.lastore, 1) := by decide +kernel
theorem d_La_add_12 : decode b_La_add 12 = .ok (.goto 11, 3) := by decide +kernel
theorem d_La_add_15 : decode b_La_add 15 = .ok (.astore 5, 2) := by decide +kernel
theorem d_La_add_17 : decode b_La_add 17 = .ok (.iconst 1, 1) := by decide +kernel
theorem d_La_add_18 : decode b_La_add 18 = .ok (.ireturn, 1) := by decide +kernel
theorem d_La_add_19 : decode b_La_add 19 = .ok (.astore 5, 2) := by decide +kernel
theorem d_La_add_21 : decode b_La_add 21 = .ok (.iconst 2, 1) := by decide +kernel
theorem d_La_add_22 : decode b_La_add 22 = .ok (.ireturn, 1) := by decide +kernel
theorem d_La_add_23 : decode b_La_add 23 = .ok (.iconst 0, 1) := by decide +kernel
theorem d_La_add_24 : decode b_La_add 24 = .ok (.ireturn, 1) := by decide +kernel
theorem d_La_subtract_0 : decode b_La_subtract 0 = .ok (.aload 4, 2) := by decide +kernel
theorem d_La_subtract_2 : decode b_La_subtract 2 = .ok (.iconst 0, 1) := by decide +kernel
theorem d_La_subtract_3 : decode b_La_subtract 3 = .ok (.aload_n 0, 1) := by decide +kernel
theorem d_La_subtract_4 : decode b_La_subtract 4 = .ok (.iload_n 1, 1) := by decide +kernel
theorem d_La_subtract_5 : decode b_La_subtract 5 = .ok (.iload_n 2, 1) := by decide +kernel
theorem d_La_subtract_6 : decode b_La_subtract 6 = .ok (.iload_n 3, 1) := by decide +kernel
theorem d_La_subtract_7 : decode b_La_subtract 7 = .ok (.invokevirtual 30, 3) := by decide +kernel
theorem d_La_subtract_10 : decode b_La_subtract 10 = .ok (.i2l, 1) := by decide +kernel
theorem d_La_subtract_11 : decode b_La_subtract 11 = .ok (.lastore, 1) := by decide +kernel
theorem d_La_subtract_12 : decode b_La_subtract 12 = .ok (.goto 11, 3) := by decide +kernel
theorem d_La_subtract_15 : decode b_La_subtract 15 = .ok (.astore 5, 2) := by decide +kernel
theorem d_La_subtract_17 : decode b_La_subtract 17 = .ok (.iconst 1, 1) := by decide +kernel
theorem d_La_subtract_18 : decode b_La_subtract 18 = .ok (.ireturn, 1) := by decide +kernel
theorem d_La_subtract_19 : decode b_La_subtract 19 = .ok (.astore 5, 2) := by decide +kernel
theorem d_La_subtract_21 : decode b_La_subtract 21 = .ok (.iconst 2, 1) := by decide +kernel
theorem d_La_subtract_22 : decode b_La_subtract 22 = .ok (.ireturn, 1) := by decide +kernel
theorem d_La_subtract_23 : decode b_La_subtract 23 = .ok (.iconst 0, 1) := by decide +kernel
theorem d_La_subtract_24 : decode b_La_subtract 24 = .ok (.ireturn, 1) := by decide +kernel
theorem d_La_multiply_0 : decode b_La_multiply 0 = .ok (.aload 4, 2) := by decide +kernel
theorem d_La_multiply_2 : decode b_La_multiply 2 = .ok (.iconst 0, 1) := by decide +kernel
theorem d_La_multiply_3 : decode b_La_multiply 3 = .ok (.aload_n 0, 1) := by decide +kernel
theorem d_La_multiply_4 : decode b_La_multiply 4 = .ok (.iload_n 1, 1) := by decide +kernel
theorem d_La_multiply_5 : decode b_La_multiply 5 = .ok (.iload_n 2, 1) := by decide +kernel
theorem d_La_multiply_6 : decode b_La_multiply 6 = .ok (.iload_n 3, 1) := by decide +kernel
theorem d_La_multiply_7 : decode b_La_multiply 7 = .ok (.invokevirtual 33, 3) := by decide +kernel
theorem d_La_multiply_10 : decode b_La_multiply 10 = .ok (.i2l, 1) := by decide +kernel
theorem d_La_multiply_11 : decode b_La_multiply 11 = .ok (.lastore, 1) := by decide +kernel
theorem d_La_multiply_12 : decode b_La_multiply 12 = .ok (.goto 11, 3) := by decide +kernel
theorem d_La_multiply_15 : decode b_La_multiply 15 = .ok (.astore 5, 2) := by decide +kernel
theorem d_La_multiply_17 : decode b_La_multiply 17 = .ok (.iconst 1, 1) := by decide +kernel
theorem d_La_multiply_18 : decode b_La_multiply 18 = .ok (.ireturn, 1) := by decide +kernel
theorem d_La_multiply_19 : decode b_La_multiply 19 = .ok (.astore 5, 2) := by decide +kernel
theorem d_La_multiply_21 : decode b_La_multiply 21 = .ok (.iconst 2, 1) := by decide +kernel
theorem d_La_multiply_22 : decode b_La_multiply 22 = .ok (.ireturn, 1) := by decide +kernel
theorem d_La_multiply_23 : decode b_La_multiply 23 = .ok (.iconst 0, 1) := by decide +kernel
theorem d_La_multiply_24 : decode b_La_multiply 24 = .ok (.ireturn, 1) := by decide +kernel
theorem d_La_divide_0 : decode b_La_divide 0 = .ok (.aload 4, 2) := by decide +kernel
theorem d_La_divide_2 : decode b_La_divide 2 = .ok (.iconst 0, 1) := by decide +kernel
theorem d_La_divide_3 : decode b_La_divide 3 = .ok (.aload_n 0, 1) := by decide +kernel
theorem d_La_divide_4 : decode b_La_divide 4 = .ok (.iload_n 1, 1) := by decide +kernel
theorem d_La_divide_5 : decode b_La_divide 5 = .ok (.iload_n 2, 1) := by decide +kernel
theorem d_La_divide_6 : decode b_La_divide 6 = .ok (.iload_n 3, 1) := by decide +kernel
theorem d_La_divide_7 : decode b_La_divide 7 = .ok (.invokevirtual 36, 3) := by decide +kernel
theorem d_La_divide_10 : decode b_La_divide 10 = .ok (.i2l, 1) := by decide +kernel
theorem d_La_divide_11 : decode b_La_divide 11 = .ok (.lastore, 1) := by decide +kernel
theorem d_La_divide_12 : decode b_La_divide 12 = .ok (.goto 15, 3) := by decide +kernel
theorem d_La_divide_15 : decode b_La_divide 15 = .ok (.astore 5, 2) := by decide +kernel
theorem d_La_divide_17 : decode b_La_divide 17 = .ok (.iconst 1, 1) := by decide +kernel
theorem d_La_divide_18 : decode b_La_divide 18 = .ok (.ireturn, 1) := by decide +kernel
theorem d_La_divide_19 : decode b_La_divide 19 = .ok (.astore 5, 2) := by decide +kernel
theorem d_La_divide_21 : decode b_La_divide 21 = .ok (.iconst 2, 1) := by decide +kernel
theorem d_La_divide_22 : decode b_La_divide 22 = .ok (.ireturn, 1) := by decide +kernel
theorem d_La_divide_23 : decode b_La_divide 23 = .ok (.astore 5, 2) := by decide +kernel
theorem d_La_divide_25 : decode b_La_divide 25 = .ok (.iconst 3, 1) := by decide +kernel
theorem d_La_divide_26 : decode b_La_divide 26 = .ok (.ireturn, 1) := by decide +kernel
theorem d_La_divide_27 : decode b_La_divide 27 = .ok (.iconst 0, 1) := by decide +kernel
theorem d_La_divide_28 : decode b_La_divide 28 = .ok (.ireturn, 1) := by decide +kernel
theorem d_La_power_0 : decode b_La_power 0 = .ok (.aload 4, 2) := by decide +kernel
theorem d_La_power_2 : decode b_La_power 2 = .ok (.iconst 0, 1) := by decide +kernel
theorem d_La_power_3 : decode b_La_power 3 = .ok (.aload_n 0, 1) := by decide +kernel
theorem d_La_power_4 : decode b_La_power 4 = .ok (.iload_n 1, 1) := by decide +kernel
theorem d_La_power_5 : decode b_La_power 5 = .ok (.iload_n 2, 1) := by decide +kernel
theorem d_La_power_6 : decode b_La_power 6 = .ok (.iload_n 3, 1) := by decide +kernel
theorem d_La_power_7 : decode b_La_power 7 = .ok (.invokevirtual 39, 3) := by decide +kernel
theorem d_La_power_10 : decode b_La_power 10 = .ok (.i2l, 1) := by decide +kernel
theorem d_La_power_11 : decode b_La_power 11 = .ok (.lastore, 1) := by decide +kernel
theorem d_La_power_12 : decode b_La_power 12 = .ok (.goto 19, 3) := by decide +kernel
theorem d_La_power_15 : decode b_La_power 15 = .ok (.astore 5, 2) := by decide +kernel
theorem d_La_power_17 : decode b_La_power 17 = .ok (.iconst 1, 1) := by decide +kernel
theorem d_La_power_18 : decode b_La_power 18 = .ok (.ireturn, 1) := by decide +kernel
theorem d_La_power_19 : decode b_La_power 19 = .ok (.astore 5, 2) := by decide +kernel
theorem d_La_power_21 : decode b_La_power 21 = .ok (.iconst 2, 1) := by decide +kernel
theorem d_La_power_22 : decode b_La_power 22 = .ok (.ireturn, 1) := by decide +kernel
theorem d_La_power_23 : decode b_La_power 23 = .ok (.astore 5, 2) := by decide +kernel
theorem d_La_power_25 : decode b_La_power 25 = .ok (.iconst 3, 1) := by decide +kernel
theorem d_La_power_26 : decode b_La_power 26 = .ok (.ireturn, 1) := by decide +kernel
theorem d_La_power_27 : decode b_La_power 27 = .ok (.astore 5, 2) := by decide +kernel
theorem d_La_power_29 : decode b_La_power 29 = .ok (.iconst 4, 1) := by decide +kernel
theorem d_La_power_30 : decode b_La_power 30 = .ok (.ireturn, 1) := by decide +kernel
theorem d_La_power_31 : decode b_La_power 31 = .ok (.iconst 0, 1) := by decide +kernel
theorem d_La_power_32 : decode b_La_power 32 = .ok (.ireturn, 1) := by decide +kernel
theorem d_La_dot_0 : decode b_La_dot 0 = .ok (.aload 5, 2) := by decide +kernel
theorem d_La_dot_2 : decode b_La_dot 2 = .ok (.iconst 0, 1) := by decide +kernel
theorem d_La_dot_3 : decode b_La_dot 3 = .ok (.aload_n 0, 1) := by decide +kernel
theorem d_La_dot_4 : decode b_La_dot 4 = .ok (.iload_n 1, 1) := by decide +kernel
theorem d_La_dot_5 : decode b_La_dot 5 = .ok (.iload_n 2, 1) := by decide +kernel
theorem d_La_dot_6 : decode b_La_dot 6 = .ok (.iload_n 3, 1) := by decide +kernel
theorem d_La_dot_7 : decode b_La_dot 7 = .ok (.iload 4, 2) := by decide +kernel
theorem d_La_dot_9 : decode b_La_dot 9 = .ok (.invokevirtual 44, 3) := by decide +kernel
theorem d_La_dot_12 : decode b_La_dot 12 = .ok (.i2l, 1) := by decide +kernel
theorem d_La_dot_13 : decode b_La_dot 13 = .ok (.lastore, 1) := by decide +kernel
theorem d_La_dot_14 : decode b_La_dot 14 = .ok (.goto 15, 3) := by decide +kernel
theorem d_La_dot_17 : decode b_La_dot 17 = .ok (.astore 6, 2) := by decide +kernel
theorem d_La_dot_19 : decode b_La_dot 19 = .ok (.iconst 1, 1) := by decide +kernel
theorem d_La_dot_20 : decode b_La_dot 20 = .ok (.ireturn, 1) := by decide +kernel
theorem d_La_dot_21 : decode b_La_dot 21 = .ok (.astore 6, 2) := by decide +kernel
theorem d_La_dot_23 : decode b_La_dot 23 = .ok (.iconst 2, 1) := by decide +kernel
theorem d_La_dot_24 : decode b_La_dot 24 = .ok (.ireturn, 1) := by decide +kernel
theorem d_La_dot_25 : decode b_La_dot 25 = .ok (.astore 6, 2) := by decide +kernel
theorem d_La_dot_27 : decode b_La_dot 27 = .ok (.iconst 3, 1) := by decide +kernel
theorem d_La_dot_28 : decode b_La_dot 28 = .ok (.ireturn, 1) := by decide +kernel
theorem d_La_dot_29 : decode b_La_dot 29 = .ok (.iconst 0, 1) := by decide +kernel
theorem d_La_dot_30 : decode b_La_dot 30 = .ok (.ireturn, 1) := by decide +kernel
theorem d_La_floor_0 : decode b_La_floor 0 = .ok (.aload_n 3, 1) := by decide +kernel
theorem d_La_floor_1 : decode b_La_floor 1 = .ok (.iconst 0, 1) := by decide +kernel
theorem d_La_floor_2 : decode b_La_floor 2 = .ok (.aload_n 0, 1) := by decide +kernel
theorem d_La_floor_3 : decode b_La_floor 3 = .ok (.iload_n 1, 1) := by decide +kernel
theorem d_La_floor_4 : decode b_La_floor 4 = .ok (.iload_n 2, 1) := by decide +kernel
theorem d_La_floor_5 : decode b_La_floor 5 = .ok (.invokevirtual 48, 3) := by decide +kernel
theorem d_La_floor_8 : decode b_La_floor 8 = .ok (.i2l, 1) := by decide +kernel
theorem d_La_floor_9 : decode b_La_floor 9 = .ok (.lastore, 1) := by decide +kernel
theorem d_La_floor_10 : decode b_La_floor 10 = .ok (.goto 11, 3) := by decide +kernel
theorem d_La_floor_13 : decode b_La_floor 13 = .ok (.astore 4, 2) := by decide +kernel
theorem d_La_floor_15 : decode b_La_floor 15 = .ok (.iconst 1, 1) := by decide +kernel
theorem d_La_floor_16 : decode b_La_floor 16 = .ok (.ireturn, 1) := by decide +kernel
theorem d_La_floor_17 : decode b_La_floor 17 = .ok (.astore 4, 2) := by decide +kernel
theorem d_La_floor_19 : decode b_La_floor 19 = .ok (.iconst 2, 1) := by decide +kernel
theorem d_La_floor_20 : decode b_La_floor 20 = .ok (.ireturn, 1) := by decide +kernel
theorem d_La_floor_21 : decode b_La_floor 21 = .ok (.iconst 0, 1) := by decide +kernel
theorem d_La_floor_22 : decode b_La_floor 22 = .ok (.ireturn, 1) := by decide +kernel
theorem d_La_round_0 : decode b_La_round 0 = .ok (.aload 4, 2) := by decide +kernel
theorem d_La_round_2 : decode b_La_round 2 = .ok (.iconst 0, 1) := by decide +kernel
theorem d_La_round_3 : decode b_La_round 3 = .ok (.aload_n 0, 1) := by decide +kernel
theorem d_La_round_4 : decode b_La_round 4 = .ok (.iload_n 1, 1) := by decide +kernel
theorem d_La_round_5 : decode b_La_round 5 = .ok (.iload_n 2, 1) := by decide +kernel
theorem d_La_round_6 : decode b_La_round 6 = .ok (.iload_n 3, 1) := by decide +kernel
theorem d_La_round_7 : decode b_La_round 7 = .ok (.invokevirtual 51, 3) := by decide +kernel
theorem d_La_round_10 : decode b_La_round 10 = .ok (.i2l, 1) := by decide +kernel
theorem d_La_round_11 : decode b_La_round 11 = .ok (.lastore, 1) := by decide +kernel
theorem d_La_round_12 : decode b_La_round 12 = .ok (.goto 15, 3) := by decide +kernel
theorem d_La_round_15 : decode b_La_round 15 = .ok (.astore 5, 2) := by decide +kernel
theorem d_La_round_17 : decode b_La_round 17 = .ok (.iconst 1, 1) := by decide +kernel
theorem d_La_round_18 : decode b_La_round 18 = .ok (.ireturn, 1) := by decide +kernel
theorem d_La_round_19 : decode b_La_round 19 = .ok (.astore 5, 2) := by decide +kernel
theorem d_La_round_21 : decode b_La_round 21 = .ok (.iconst 2, 1) := by decide +kernel
theorem d_La_round_22 : decode b_La_round 22 = .ok (.ireturn, 1) := by decide +kernel
theorem d_La_round_23 : decode b_La_round 23 = .ok (.astore 5, 2) := by decide +kernel
theorem d_La_round_25 : decode b_La_round 25 = .ok (.iconst 3, 1) := by decide +kernel
theorem d_La_round_26 : decode b_La_round 26 = .ok (.ireturn, 1) := by decide +kernel
theorem d_La_round_27 : decode b_La_round 27 = .ok (.iconst 0, 1) := by decide +kernel
theorem d_La_round_28 : decode b_La_round 28 = .ok (.ireturn, 1) := by decide +kernel
theorem d_La_align_0 : decode b_La_align 0 = .ok (.aload 4, 2) := by decide +kernel
theorem d_La_align_2 : decode b_La_align 2 = .ok (.iconst 0, 1) := by decide +kernel
theorem d_La_align_3 : decode b_La_align 3 = .ok (.aload_n 0, 1) := by decide +kernel
theorem d_La_align_4 : decode b_La_align 4 = .ok (.iload_n 1, 1) := by decide +kernel
theorem d_La_align_5 : decode b_La_align 5 = .ok (.iload_n 2, 1) := by decide +kernel
theorem d_La_align_6 : decode b_La_align 6 = .ok (.iload_n 3, 1) := by decide +kernel
theorem d_La_align_7 : decode b_La_align 7 = .ok (.invokevirtual 54, 3) := by decide +kernel
theorem d_La_align_10 : decode b_La_align 10 = .ok (.i2l, 1) := by decide +kernel
theorem d_La_align_11 : decode b_La_align 11 = .ok (.lastore, 1) := by decide +kernel
theorem d_La_align_12 : decode b_La_align 12 = .ok (.goto 15, 3) := by decide +kernel
theorem d_La_align_15 : decode b_La_align 15 = .ok (.astore 5, 2) := by decide +kernel
theorem d_La_align_17 : decode b_La_align 17 = .ok (.iconst 1, 1) := by decide +kernel
theorem d_La_align_18 : decode b_La_align 18 = .ok (.ireturn, 1) := by decide +kernel
theorem d_La_align_19 : decode b_La_align 19 = .ok (.astore 5, 2) := by decide +kernel
theorem d_La_align_21 : decode b_La_align 21 = .ok (.iconst 2, 1) := by decide +kernel
theorem d_La_align_22 : decode b_La_align 22 = .ok (.ireturn, 1) := by decide +kernel
theorem d_La_align_23 : decode b_La_align 23 = .ok (.astore 5, 2) := by decide +kernel
theorem d_La_align_25 : decode b_La_align 25 = .ok (.iconst 3, 1) := by decide +kernel
theorem d_La_align_26 : decode b_La_align 26 = .ok (.ireturn, 1) := by decide +kernel
theorem d_La_align_27 : decode b_La_align 27 = .ok (.iconst 0, 1) := by decide +kernel
theorem d_La_align_28 : decode b_La_align 28 = .ok (.ireturn, 1) := by decide +kernel
theorem d_La_compare_0 : decode b_La_compare 0 = .ok (.aload_n 3, 1) := by decide +kernel
theorem d_La_compare_1 : decode b_La_compare 1 = .ok (.iconst 0, 1) := by decide +kernel
theorem d_La_compare_2 : decode b_La_compare 2 = .ok (.aload_n 0, 1) := by decide +kernel
theorem d_La_compare_3 : decode b_La_compare 3 = .ok (.iload_n 1, 1) := by decide +kernel
theorem d_La_compare_4 : decode b_La_compare 4 = .ok (.iload_n 2, 1) := by decide +kernel
theorem d_La_compare_5 : decode b_La_compare 5 = .ok (.invokevirtual 57, 3) := by decide +kernel
theorem d_La_compare_8 : decode b_La_compare 8 = .ok (.i2l, 1) := by decide +kernel
theorem d_La_compare_9 : decode b_La_compare 9 = .ok (.lastore, 1) := by decide +kernel
theorem d_La_compare_10 : decode b_La_compare 10 = .ok (.goto 7, 3) := by decide +kernel
theorem d_La_compare_13 : decode b_La_compare 13 = .ok (.astore 4, 2) := by decide +kernel
theorem d_La_compare_15 : decode b_La_compare 15 = .ok (.iconst 1, 1) := by decide +kernel
theorem d_La_compare_16 : decode b_La_compare 16 = .ok (.ireturn, 1) := by decide +kernel
theorem d_La_compare_17 : decode b_La_compare 17 = .ok (.iconst 0, 1) := by decide +kernel
theorem d_La_compare_18 : decode b_La_compare 18 = .ok (.ireturn, 1) := by decide +kernel
theorem d_La_sign_0 : decode b_La_sign 0 = .ok (.aload_n 2, 1) := by decide +kernel
theorem d_La_sign_1 : decode b_La_sign 1 = .ok (.iconst 0, 1) := by decide +kernel
theorem d_La_sign_2 : decode b_La_sign 2 = .ok (.aload_n 0, 1) := by decide +kernel
theorem d_La_sign_3 : decode b_La_sign 3 = .ok (.iload_n 1, 1) := by decide +kernel
theorem d_La_sign_4 : decode b_La_sign 4 = .ok (.invokevirtual 60, 3) := by decide +kernel
theorem d_La_sign_7 : decode b_La_sign 7 = .ok (.i2l, 1) := by decide +kernel
theorem d_La_sign_8 : decode b_La_sign 8 = .ok (.lastore, 1) := by decide +kernel
theorem d_La_sign_9 : decode b_La_sign 9 = .ok (.goto 6, 3) := by decide +kernel
theorem d_La_sign_12 : decode b_La_sign 12 = .ok (.astore_n 3, 1) := by decide +kernel
theorem d_La_sign_13 : decode b_La_sign 13 = .ok (.iconst 1, 1) := by decide +kernel
theorem d_La_sign_14 : decode b_La_sign 14 = .ok (.ireturn, 1) := by decide +kernel
theorem d_La_sign_15 : decode b_La_sign 15 = .ok (.iconst 0, 1) := by decide +kernel
theorem d_La_sign_16 : decode b_La_sign 16 = .ok (.ireturn, 1) := by decide +kernel
theorem d_La_length_0 : decode b_La_length 0 = .ok (.aload_n 3, 1) := by decide +kernel
theorem d_La_length_1 : decode b_La_length 1 = .ok (.iconst 0, 1) := by decide +kernel
theorem d_La_length_2 : decode b_La_length 2 = .ok (.aload_n 0, 1) := by decide +kernel
theorem d_La_length_3 : decode b_La_length 3 = .ok (.iload_n 1, 1) := by decide +kernel
theorem d_La_length_4 : decode b_La_length 4 = .ok (.iload_n 2, 1) := by decide +kernel
theorem d_La_length_5 : decode b_La_length 5 = .ok (.invokevirtual 64, 3) := by decide +kernel
theorem d_La_length_8 : decode b_La_length 8 = .ok (.i2l, 1) := by decide +kernel
theorem d_La_length_9 : decode b_La_length 9 = .ok (.lastore, 1) := by decide +kernel
theorem d_La_length_10 : decode b_La_length 10 = .ok (.goto 7, 3) := by decide +kernel
theorem d_La_length_13 : decode b_La_length 13 = .ok (.astore 4, 2) := by decide +kernel
theorem d_La_length_15 : decode b_La_length 15 = .ok (.iconst 1, 1) := by decide +kernel
theorem d_La_length_16 : decode b_La_length 16 = .ok (.ireturn, 1) := by decide +kernel
theorem d_La_length_17 : decode b_La_length 17 = .ok (.iconst 0, 1) := by decide +kernel
theorem d_La_length_18 : decode b_La_length 18 = .ok (.ireturn, 1) := by decide +kernel
theorem d_La_limb_0 : decode b_La_limb 0 = .ok (.aload 4, 2) := by decide +kernel
theorem d_La_limb_2 : decode b_La_limb 2 = .ok (.iconst 0, 1) := by decide +kernel
theorem d_La_limb_3 : decode b_La_limb 3 = .ok (.aload_n 0, 1) := by decide +kernel
theorem d_La_limb_4 : decode b_La_limb 4 = .ok (.iload_n 1, 1) := by decide +kernel
theorem d_La_limb_5 : decode b_La_limb 5 = .ok (.iload_n 2, 1) := by decide +kernel
theorem d_La_limb_6 : decode b_La_limb 6 = .ok (.iload_n 3, 1) := by decide +kernel
theorem d_La_limb_7 : decode b_La_limb 7 = .ok (.invokevirtual 68, 3) := by decide +kernel
theorem d_La_limb_10 : decode b_La_limb 10 = .ok (.i2l, 1) := by decide +kernel
theorem d_La_limb_11 : decode b_La_limb 11 = .ok (.lastore, 1) := by decide +kernel
theorem d_La_limb_12 : decode b_La_limb 12 = .ok (.goto 7, 3) := by decide +kernel
theorem d_La_limb_15 : decode b_La_limb 15 = .ok (.astore 5, 2) := by decide +kernel
theorem d_La_limb_17 : decode b_La_limb 17 = .ok (.iconst 1, 1) := by decide +kernel
theorem d_La_limb_18 : decode b_La_limb 18 = .ok (.ireturn, 1) := by decide +kernel
theorem d_La_limb_19 : decode b_La_limb 19 = .ok (.iconst 0, 1) := by decide +kernel
theorem d_La_limb_20 : decode b_La_limb 20 = .ok (.ireturn, 1) := by decide +kernel
theorem d_La_read_0 : decode b_La_read 0 = .ok (.aload_n 2, 1) := by decide +kernel
theorem d_La_read_1 : decode b_La_read 1 = .ok (.iconst 0, 1) := by decide +kernel
theorem d_La_read_2 : decode b_La_read 2 = .ok (.aload_n 0, 1) := by decide +kernel
theorem d_La_read_3 : decode b_La_read 3 = .ok (.iload_n 1, 1) := by decide +kernel
theorem d_La_read_4 : decode b_La_read 4 = .ok (.invokevirtual 72, 3) := by decide +kernel
theorem d_La_read_7 : decode b_La_read 7 = .ok (.i2l, 1) := by decide +kernel
theorem d_La_read_8 : decode b_La_read 8 = .ok (.lastore, 1) := by decide +kernel
theorem d_La_read_9 : decode b_La_read 9 = .ok (.goto 12, 3) := by decide +kernel
theorem d_La_read_12 : decode b_La_read 12 = .ok (.astore_n 3, 1) := by decide +kernel
theorem d_La_read_13 : decode b_La_read 13 = .ok (.iconst 1, 1) := by decide +kernel
theorem d_La_read_14 : decode b_La_read 14 = .ok (.ireturn, 1) := by decide +kernel
theorem d_La_read_15 : decode b_La_read 15 = .ok (.astore_n 3, 1) := by decide +kernel
theorem d_La_read_16 : decode b_La_read 16 = .ok (.iconst 2, 1) := by decide +kernel
theorem d_La_read_17 : decode b_La_read 17 = .ok (.ireturn, 1) := by decide +kernel
theorem d_La_read_18 : decode b_La_read 18 = .ok (.astore_n 3, 1) := by decide +kernel
theorem d_La_read_19 : decode b_La_read 19 = .ok (.iconst 3, 1) := by decide +kernel
theorem d_La_read_20 : decode b_La_read 20 = .ok (.ireturn, 1) := by decide +kernel
theorem d_La_read_21 : decode b_La_read 21 = .ok (.iconst 0, 1) := by decide +kernel
theorem d_La_read_22 : decode b_La_read 22 = .ok (.ireturn, 1) := by decide +kernel
theorem d_La_print_0 : decode b_La_print 0 = .ok (.aload_n 2, 1) := by decide +kernel
theorem d_La_print_1 : decode b_La_print 1 = .ok (.iconst 0, 1) := by decide +kernel
theorem d_La_print_2 : decode b_La_print 2 = .ok (.aload_n 0, 1) := by decide +kernel
theorem d_La_print_3 : decode b_La_print 3 = .ok (.iload_n 1, 1) := by decide +kernel
theorem d_La_print_4 : decode b_La_print 4 = .ok (.invokevirtual 75, 3) := by decide +kernel
theorem d_La_print_7 : decode b_La_print 7 = .ok (.i2l, 1) := by decide +kernel
theorem d_La_print_8 : decode b_La_print 8 = .ok (.lastore, 1) := by decide +kernel
theorem d_La_print_9 : decode b_La_print 9 = .ok (.goto 6, 3) := by decide +kernel
theorem d_La_print_12 : decode b_La_print 12 = .ok (.astore_n 3, 1) := by decide +kernel
theorem d_La_print_13 : decode b_La_print 13 = .ok (.iconst 1, 1) := by decide +kernel
theorem d_La_print_14 : decode b_La_print 14 = .ok (.ireturn, 1) := by decide +kernel
theorem d_La_print_15 : decode b_La_print 15 = .ok (.iconst 0, 1) := by decide +kernel
theorem d_La_print_16 : decode b_La_print 16 = .ok (.ireturn, 1) := by decide +kernel
