theorem dL_cell_0 : decode cL_cell 0 = .ok (.iload_n 1, 1) := by decide +kernel
theorem dL_cell_1 : decode cL_cell 1 = .ok (.aload_n 0, 1) := by decide +kernel
theorem dL_cell_2 : decode cL_cell 2 = .ok (.arraylength, 1) := by decide +kernel
theorem dL_cell_3 : decode cL_cell 3 = .ok (.if_icmp .ge 9, 3) := by decide +kernel
theorem dL_cell_6 : decode cL_cell 6 = .ok (.aload_n 0, 1) := by decide +kernel
theorem dL_cell_7 : decode cL_cell 7 = .ok (.iload_n 1, 1) := by decide +kernel
theorem dL_cell_8 : decode cL_cell 8 = .ok (.iaload, 1) := by decide +kernel
theorem dL_cell_9 : decode cL_cell 9 = .ok (.goto 9, 3) := by decide +kernel
theorem dL_cell_12 : decode cL_cell 12 = .ok (.ldc 7, 2) := by decide +kernel
theorem dL_cell_14 : decode cL_cell 14 = .ok (.iload_n 1, 1) := by decide +kernel
theorem dL_cell_15 : decode cL_cell 15 = .ok (.iconst 1, 1) := by decide +kernel
theorem dL_cell_16 : decode cL_cell 16 = .ok (.iadd, 1) := by decide +kernel
theorem dL_cell_17 : decode cL_cell 17 = .ok (.imul, 1) := by decide +kernel
theorem dL_cell_18 : decode cL_cell 18 = .ok (.ireturn, 1) := by decide +kernel
theorem dL_low_0 : decode cL_low 0 = .ok (.iload_n 0, 1) := by decide +kernel
theorem dL_low_1 : decode cL_low 1 = .ok (.ldc 8, 2) := by decide +kernel
theorem dL_low_3 : decode cL_low 3 = .ok (.iand, 1) := by decide +kernel
theorem dL_low_4 : decode cL_low 4 = .ok (.iload_n 1, 1) := by decide +kernel
theorem dL_low_5 : decode cL_low 5 = .ok (.irem, 1) := by decide +kernel
theorem dL_low_6 : decode cL_low 6 = .ok (.ireturn, 1) := by decide +kernel
theorem dL_move_0 : decode cL_move 0 = .ok (.iload_n 2, 1) := by decide +kernel
theorem dL_move_1 : decode cL_move 1 = .ok (.iconst 4, 1) := by decide +kernel
theorem dL_move_2 : decode cL_move 2 = .ok (.if_icmp .ge 14, 3) := by decide +kernel
theorem dL_move_5 : decode cL_move 5 = .ok (.aload_n 0, 1) := by decide +kernel
theorem dL_move_6 : decode cL_move 6 = .ok (.bipush 10, 2) := by decide +kernel
theorem dL_move_8 : decode cL_move 8 = .ok (.iload_n 2, 1) := by decide +kernel
theorem dL_move_9 : decode cL_move 9 = .ok (.imul, 1) := by decide +kernel
theorem dL_move_10 : decode cL_move 10 = .ok (.iload_n 3, 1) := by decide +kernel
theorem dL_move_11 : decode cL_move 11 = .ok (.iadd, 1) := by decide +kernel
theorem dL_move_12 : decode cL_move 12 = .ok (.iaload, 1) := by decide +kernel
theorem dL_move_13 : decode cL_move 13 = .ok (.goto 13, 3) := by decide +kernel
theorem dL_move_16 : decode cL_move 16 = .ok (.aload_n 1, 1) := by decide +kernel
theorem dL_move_17 : decode cL_move 17 = .ok (.bipush 10, 2) := by decide +kernel
theorem dL_move_19 : decode cL_move 19 = .ok (.iload_n 2, 1) := by decide +kernel
theorem dL_move_20 : decode cL_move 20 = .ok (.iconst 4, 1) := by decide +kernel
theorem dL_move_21 : decode cL_move 21 = .ok (.isub, 1) := by decide +kernel
theorem dL_move_22 : decode cL_move 22 = .ok (.imul, 1) := by decide +kernel
theorem dL_move_23 : decode cL_move 23 = .ok (.iload_n 3, 1) := by decide +kernel
theorem dL_move_24 : decode cL_move 24 = .ok (.iadd, 1) := by decide +kernel
theorem dL_move_25 : decode cL_move 25 = .ok (.iaload, 1) := by decide +kernel
theorem dL_move_26 : decode cL_move 26 = .ok (.ireturn, 1) := by decide +kernel
theorem dL_count_0 : decode cL_count 0 = .ok (.iconst 0, 1) := by decide +kernel
theorem dL_count_1 : decode cL_count 1 = .ok (.istore_n 3, 1) := by decide +kernel
theorem dL_count_2 : decode cL_count 2 = .ok (.iload_n 3, 1) := by decide +kernel
theorem dL_count_3 : decode cL_count 3 = .ok (.bipush 8, 2) := by decide +kernel
theorem dL_count_5 : decode cL_count 5 = .ok (.if_icmp .ge 77, 3) := by decide +kernel
theorem dL_count_8 : decode cL_count 8 = .ok (.aload_n 2, 1) := by decide +kernel
theorem dL_count_9 : decode cL_count 9 = .ok (.bipush 8, 2) := by decide +kernel
theorem dL_count_11 : decode cL_count 11 = .ok (.iload_n 3, 1) := by decide +kernel
theorem dL_count_12 : decode cL_count 12 = .ok (.iadd, 1) := by decide +kernel
theorem dL_count_13 : decode cL_count 13 = .ok (.iconst 0, 1) := by decide +kernel
theorem dL_count_14 : decode cL_count 14 = .ok (.iastore, 1) := by decide +kernel
theorem dL_count_15 : decode cL_count 15 = .ok (.iconst 0, 1) := by decide +kernel
theorem dL_count_16 : decode cL_count 16 = .ok (.istore 4, 2) := by decide +kernel
theorem dL_count_18 : decode cL_count 18 = .ok (.iload 4, 2) := by decide +kernel
theorem dL_count_20 : decode cL_count 20 = .ok (.aload_n 2, 1) := by decide +kernel
theorem dL_count_21 : decode cL_count 21 = .ok (.iload_n 3, 1) := by decide +kernel
theorem dL_count_22 : decode cL_count 22 = .ok (.iaload, 1) := by decide +kernel
theorem dL_count_23 : decode cL_count 23 = .ok (.if_icmp .ge 53, 3) := by decide +kernel
theorem dL_count_26 : decode cL_count 26 = .ok (.aload_n 0, 1) := by decide +kernel
theorem dL_count_27 : decode cL_count 27 = .ok (.aload_n 1, 1) := by decide +kernel
theorem dL_count_28 : decode cL_count 28 = .ok (.iload_n 3, 1) := by decide +kernel
theorem dL_count_29 : decode cL_count 29 = .ok (.iload 4, 2) := by decide +kernel
theorem dL_count_31 : decode cL_count 31 = .ok (.invokestatic 9, 3) := by decide +kernel
theorem dL_count_34 : decode cL_count 34 = .ok (.istore 5, 2) := by decide +kernel
theorem dL_count_36 : decode cL_count 36 = .ok (.aload_n 2, 1) := by decide +kernel
theorem dL_count_37 : decode cL_count 37 = .ok (.bipush 8, 2) := by decide +kernel
theorem dL_count_39 : decode cL_count 39 = .ok (.iload_n 3, 1) := by decide +kernel
theorem dL_count_40 : decode cL_count 40 = .ok (.iadd, 1) := by decide +kernel
theorem dL_count_41 : decode cL_count 41 = .ok (.dup2, 1) := by decide +kernel
theorem dL_count_42 : decode cL_count 42 = .ok (.iaload, 1) := by decide +kernel
theorem dL_count_43 : decode cL_count 43 = .ok (.iload 5, 2) := by decide +kernel
theorem dL_count_45 : decode cL_count 45 = .ok (.sipush 399, 3) := by decide +kernel
theorem dL_count_48 : decode cL_count 48 = .ok (.if_icmp .le 19, 3) := by decide +kernel
theorem dL_count_51 : decode cL_count 51 = .ok (.aload_n 2, 1) := by decide +kernel
theorem dL_count_52 : decode cL_count 52 = .ok (.bipush 8, 2) := by decide +kernel
theorem dL_count_54 : decode cL_count 54 = .ok (.iload 5, 2) := by decide +kernel
theorem dL_count_56 : decode cL_count 56 = .ok (.bipush 10, 2) := by decide +kernel
theorem dL_count_58 : decode cL_count 58 = .ok (.idiv, 1) := by decide +kernel
theorem dL_count_59 : decode cL_count 59 = .ok (.bipush 10, 2) := by decide +kernel
theorem dL_count_61 : decode cL_count 61 = .ok (.irem, 1) := by decide +kernel
theorem dL_count_62 : decode cL_count 62 = .ok (.iadd, 1) := by decide +kernel
theorem dL_count_63 : decode cL_count 63 = .ok (.iaload, 1) := by decide +kernel
theorem dL_count_64 : decode cL_count 64 = .ok (.goto 4, 3) := by decide +kernel
theorem dL_count_67 : decode cL_count 67 = .ok (.iconst 1, 1) := by decide +kernel
theorem dL_count_68 : decode cL_count 68 = .ok (.iadd, 1) := by decide +kernel
theorem dL_count_69 : decode cL_count 69 = .ok (.iastore, 1) := by decide +kernel
theorem dL_count_70 : decode cL_count 70 = .ok (.iinc 4 1, 3) := by decide +kernel
theorem dL_count_73 : decode cL_count 73 = .ok (.goto (-55), 3) := by decide +kernel
theorem dL_count_76 : decode cL_count 76 = .ok (.iinc 3 1, 3) := by decide +kernel
theorem dL_count_79 : decode cL_count 79 = .ok (.goto (-77), 3) := by decide +kernel
theorem dL_count_82 : decode cL_count 82 = .ok (.return_, 1) := by decide +kernel
theorem dL_step_0 : decode cL_step 0 = .ok (.iload_n 3, 1) := by decide +kernel
theorem dL_step_1 : decode cL_step 1 = .ok (.istore 5, 2) := by decide +kernel
theorem dL_step_3 : decode cL_step 3 = .ok (.iload 4, 2) := by decide +kernel
theorem dL_step_5 : decode cL_step 5 = .ok (.istore 6, 2) := by decide +kernel
theorem dL_step_7 : decode cL_step 7 = .ok (.iconst 0, 1) := by decide +kernel
theorem dL_step_8 : decode cL_step 8 = .ok (.istore 7, 2) := by decide +kernel
theorem dL_step_10 : decode cL_step 10 = .ok (.aload_n 0, 1) := by decide +kernel
theorem dL_step_11 : decode cL_step 11 = .ok (.aload_n 1, 1) := by decide +kernel
theorem dL_step_12 : decode cL_step 12 = .ok (.iload 5, 2) := by decide +kernel
theorem dL_step_14 : decode cL_step 14 = .ok (.iload 7, 2) := by decide +kernel
theorem dL_step_16 : decode cL_step 16 = .ok (.invokestatic 9, 3) := by decide +kernel
theorem dL_step_19 : decode cL_step 19 = .ok (.istore 8, 2) := by decide +kernel
theorem dL_step_21 : decode cL_step 21 = .ok (.iload 8, 2) := by decide +kernel
theorem dL_step_23 : decode cL_step 23 = .ok (.sipush 399, 3) := by decide +kernel
theorem dL_step_26 : decode cL_step 26 = .ok (.if_icmp .le 19, 3) := by decide +kernel
theorem dL_step_29 : decode cL_step 29 = .ok (.aload_n 2, 1) := by decide +kernel
theorem dL_step_30 : decode cL_step 30 = .ok (.bipush 8, 2) := by decide +kernel
theorem dL_step_32 : decode cL_step 32 = .ok (.iload 8, 2) := by decide +kernel
theorem dL_step_34 : decode cL_step 34 = .ok (.bipush 10, 2) := by decide +kernel
theorem dL_step_36 : decode cL_step 36 = .ok (.idiv, 1) := by decide +kernel
theorem dL_step_37 : decode cL_step 37 = .ok (.bipush 10, 2) := by decide +kernel
theorem dL_step_39 : decode cL_step 39 = .ok (.irem, 1) := by decide +kernel
theorem dL_step_40 : decode cL_step 40 = .ok (.iadd, 1) := by decide +kernel
theorem dL_step_41 : decode cL_step 41 = .ok (.iaload, 1) := by decide +kernel
theorem dL_step_42 : decode cL_step 42 = .ok (.goto 4, 3) := by decide +kernel
theorem dL_step_45 : decode cL_step 45 = .ok (.iconst 1, 1) := by decide +kernel
theorem dL_step_46 : decode cL_step 46 = .ok (.istore 9, 2) := by decide +kernel
theorem dL_step_48 : decode cL_step 48 = .ok (.iload 6, 2) := by decide +kernel
theorem dL_step_50 : decode cL_step 50 = .ok (.iload 9, 2) := by decide +kernel
theorem dL_step_52 : decode cL_step 52 = .ok (.if_icmp .lt 16, 3) := by decide +kernel
theorem dL_step_55 : decode cL_step 55 = .ok (.iload 6, 2) := by decide +kernel
theorem dL_step_57 : decode cL_step 57 = .ok (.iload 9, 2) := by decide +kernel
theorem dL_step_59 : decode cL_step 59 = .ok (.isub, 1) := by decide +kernel
theorem dL_step_60 : decode cL_step 60 = .ok (.istore 6, 2) := by decide +kernel
theorem dL_step_62 : decode cL_step 62 = .ok (.iinc 7 1, 3) := by decide +kernel
theorem dL_step_65 : decode cL_step 65 = .ok (.goto 30, 3) := by decide +kernel
theorem dL_step_68 : decode cL_step 68 = .ok (.iload 8, 2) := by decide +kernel
theorem dL_step_70 : decode cL_step 70 = .ok (.sipush 399, 3) := by decide +kernel
theorem dL_step_73 : decode cL_step 73 = .ok (.if_icmp .le 19, 3) := by decide +kernel
theorem dL_step_76 : decode cL_step 76 = .ok (.iload 8, 2) := by decide +kernel
theorem dL_step_78 : decode cL_step 78 = .ok (.bipush 10, 2) := by decide +kernel
theorem dL_step_80 : decode cL_step 80 = .ok (.idiv, 1) := by decide +kernel
theorem dL_step_81 : decode cL_step 81 = .ok (.bipush 10, 2) := by decide +kernel
theorem dL_step_83 : decode cL_step 83 = .ok (.irem, 1) := by decide +kernel
theorem dL_step_84 : decode cL_step 84 = .ok (.istore 5, 2) := by decide +kernel
theorem dL_step_86 : decode cL_step 86 = .ok (.iconst 0, 1) := by decide +kernel
theorem dL_step_87 : decode cL_step 87 = .ok (.istore 7, 2) := by decide +kernel
theorem dL_step_89 : decode cL_step 89 = .ok (.goto 6, 3) := by decide +kernel
theorem dL_step_92 : decode cL_step 92 = .ok (.iload 8, 2) := by decide +kernel
theorem dL_step_94 : decode cL_step 94 = .ok (.ireturn, 1) := by decide +kernel
theorem dL_step_95 : decode cL_step 95 = .ok (.goto (-85), 3) := by decide +kernel
theorem dL_backwards_0 : decode cL_backwards 0 = .ok (.iload_n 0, 1) := by decide +kernel
theorem dL_backwards_1 : decode cL_backwards 1 = .ok (.bipush 10, 2) := by decide +kernel
theorem dL_backwards_3 : decode cL_backwards 3 = .ok (.idiv, 1) := by decide +kernel
theorem dL_backwards_4 : decode cL_backwards 4 = .ok (.bipush 10, 2) := by decide +kernel
theorem dL_backwards_6 : decode cL_backwards 6 = .ok (.irem, 1) := by decide +kernel
theorem dL_backwards_7 : decode cL_backwards 7 = .ok (.istore_n 1, 1) := by decide +kernel
theorem dL_backwards_8 : decode cL_backwards 8 = .ok (.iload_n 0, 1) := by decide +kernel
theorem dL_backwards_9 : decode cL_backwards 9 = .ok (.bipush 10, 2) := by decide +kernel
theorem dL_backwards_11 : decode cL_backwards 11 = .ok (.irem, 1) := by decide +kernel
theorem dL_backwards_12 : decode cL_backwards 12 = .ok (.istore_n 2, 1) := by decide +kernel
theorem dL_backwards_13 : decode cL_backwards 13 = .ok (.iload_n 0, 1) := by decide +kernel
theorem dL_backwards_14 : decode cL_backwards 14 = .ok (.bipush 100, 2) := by decide +kernel
theorem dL_backwards_16 : decode cL_backwards 16 = .ok (.idiv, 1) := by decide +kernel
theorem dL_backwards_17 : decode cL_backwards 17 = .ok (.iconst 1, 1) := by decide +kernel
theorem dL_backwards_18 : decode cL_backwards 18 = .ok (.if_icmp .ne 17, 3) := by decide +kernel
theorem dL_backwards_21 : decode cL_backwards 21 = .ok (.bipush 100, 2) := by decide +kernel
theorem dL_backwards_23 : decode cL_backwards 23 = .ok (.bipush 10, 2) := by decide +kernel
theorem dL_backwards_25 : decode cL_backwards 25 = .ok (.iload_n 1, 1) := by decide +kernel
theorem dL_backwards_26 : decode cL_backwards 26 = .ok (.imul, 1) := by decide +kernel
theorem dL_backwards_27 : decode cL_backwards 27 = .ok (.iadd, 1) := by decide +kernel
theorem dL_backwards_28 : decode cL_backwards 28 = .ok (.iconst 4, 1) := by decide +kernel
theorem dL_backwards_29 : decode cL_backwards 29 = .ok (.iadd, 1) := by decide +kernel
theorem dL_backwards_30 : decode cL_backwards 30 = .ok (.iload_n 2, 1) := by decide +kernel
theorem dL_backwards_31 : decode cL_backwards 31 = .ok (.isub, 1) := by decide +kernel
theorem dL_backwards_32 : decode cL_backwards 32 = .ok (.goto 26, 3) := by decide +kernel
theorem dL_backwards_35 : decode cL_backwards 35 = .ok (.iload_n 0, 1) := by decide +kernel
theorem dL_backwards_36 : decode cL_backwards 36 = .ok (.bipush 100, 2) := by decide +kernel
theorem dL_backwards_38 : decode cL_backwards 38 = .ok (.idiv, 1) := by decide +kernel
theorem dL_backwards_39 : decode cL_backwards 39 = .ok (.iconst 2, 1) := by decide +kernel
theorem dL_backwards_40 : decode cL_backwards 40 = .ok (.if_icmp .ne 17, 3) := by decide +kernel
theorem dL_backwards_43 : decode cL_backwards 43 = .ok (.sipush 200, 3) := by decide +kernel
theorem dL_backwards_46 : decode cL_backwards 46 = .ok (.bipush 10, 2) := by decide +kernel
theorem dL_backwards_48 : decode cL_backwards 48 = .ok (.bipush 10, 2) := by decide +kernel
theorem dL_backwards_50 : decode cL_backwards 50 = .ok (.iload_n 1, 1) := by decide +kernel
theorem dL_backwards_51 : decode cL_backwards 51 = .ok (.isub, 1) := by decide +kernel
theorem dL_backwards_52 : decode cL_backwards 52 = .ok (.imul, 1) := by decide +kernel
theorem dL_backwards_53 : decode cL_backwards 53 = .ok (.iadd, 1) := by decide +kernel
theorem dL_backwards_54 : decode cL_backwards 54 = .ok (.goto 4, 3) := by decide +kernel
theorem dL_backwards_57 : decode cL_backwards 57 = .ok (.iload_n 0, 1) := by decide +kernel
theorem dL_backwards_58 : decode cL_backwards 58 = .ok (.ireturn, 1) := by decide +kernel
theorem dL_make_0 : decode cL_make 0 = .ok (.iload_n 2, 1) := by decide +kernel
theorem dL_make_1 : decode cL_make 1 = .ok (.bipush 10, 2) := by decide +kernel
theorem dL_make_3 : decode cL_make 3 = .ok (.idiv, 1) := by decide +kernel
theorem dL_make_4 : decode cL_make 4 = .ok (.bipush 10, 2) := by decide +kernel
theorem dL_make_6 : decode cL_make 6 = .ok (.irem, 1) := by decide +kernel
theorem dL_make_7 : decode cL_make 7 = .ok (.istore_n 3, 1) := by decide +kernel
theorem dL_make_8 : decode cL_make 8 = .ok (.iload_n 2, 1) := by decide +kernel
theorem dL_make_9 : decode cL_make 9 = .ok (.bipush 10, 2) := by decide +kernel
theorem dL_make_11 : decode cL_make 11 = .ok (.irem, 1) := by decide +kernel
theorem dL_make_12 : decode cL_make 12 = .ok (.istore 4, 2) := by decide +kernel
theorem dL_make_14 : decode cL_make 14 = .ok (.iconst 0, 1) := by decide +kernel
theorem dL_make_15 : decode cL_make 15 = .ok (.istore 5, 2) := by decide +kernel
theorem dL_make_17 : decode cL_make 17 = .ok (.iload 5, 2) := by decide +kernel
theorem dL_make_19 : decode cL_make 19 = .ok (.bipush 10, 2) := by decide +kernel
theorem dL_make_21 : decode cL_make 21 = .ok (.if_icmp .ge 153, 3) := by decide +kernel
theorem dL_make_24 : decode cL_make 24 = .ok (.iload_n 2, 1) := by decide +kernel
theorem dL_make_25 : decode cL_make 25 = .ok (.bipush 100, 2) := by decide +kernel
theorem dL_make_27 : decode cL_make 27 = .ok (.if_icmp .ge 40, 3) := by decide +kernel
theorem dL_make_30 : decode cL_make 30 = .ok (.aload_n 0, 1) := by decide +kernel
theorem dL_make_31 : decode cL_make 31 = .ok (.iload 5, 2) := by decide +kernel
theorem dL_make_33 : decode cL_make 33 = .ok (.aload_n 0, 1) := by decide +kernel
theorem dL_make_34 : decode cL_make 34 = .ok (.iload 5, 2) := by decide +kernel
theorem dL_make_36 : decode cL_make 36 = .ok (.iaload, 1) := by decide +kernel
theorem dL_make_37 : decode cL_make 37 = .ok (.iload_n 3, 1) := by decide +kernel
theorem dL_make_38 : decode cL_make 38 = .ok (.if_icmp .ne 8, 3) := by decide +kernel
theorem dL_make_41 : decode cL_make 41 = .ok (.iload 4, 2) := by decide +kernel
theorem dL_make_43 : decode cL_make 43 = .ok (.goto 20, 3) := by decide +kernel
theorem dL_make_46 : decode cL_make 46 = .ok (.aload_n 0, 1) := by decide +kernel
theorem dL_make_47 : decode cL_make 47 = .ok (.iload 5, 2) := by decide +kernel
theorem dL_make_49 : decode cL_make 49 = .ok (.iaload, 1) := by decide +kernel
theorem dL_make_50 : decode cL_make 50 = .ok (.iload 4, 2) := by decide +kernel
theorem dL_make_52 : decode cL_make 52 = .ok (.if_icmp .ne 7, 3) := by decide +kernel
theorem dL_make_55 : decode cL_make 55 = .ok (.iload_n 3, 1) := by decide +kernel
theorem dL_make_56 : decode cL_make 56 = .ok (.goto 7, 3) := by decide +kernel
theorem dL_make_59 : decode cL_make 59 = .ok (.aload_n 0, 1) := by decide +kernel
theorem dL_make_60 : decode cL_make 60 = .ok (.iload 5, 2) := by decide +kernel
theorem dL_make_62 : decode cL_make 62 = .ok (.iaload, 1) := by decide +kernel
theorem dL_make_63 : decode cL_make 63 = .ok (.iastore, 1) := by decide +kernel
theorem dL_make_64 : decode cL_make 64 = .ok (.goto 104, 3) := by decide +kernel
theorem dL_make_67 : decode cL_make 67 = .ok (.iload_n 2, 1) := by decide +kernel
theorem dL_make_68 : decode cL_make 68 = .ok (.sipush 200, 3) := by decide +kernel
theorem dL_make_71 : decode cL_make 71 = .ok (.if_icmp .ge 34, 3) := by decide +kernel
theorem dL_make_74 : decode cL_make 74 = .ok (.aload_n 1, 1) := by decide +kernel
theorem dL_make_75 : decode cL_make 75 = .ok (.iload 5, 2) := by decide +kernel
theorem dL_make_77 : decode cL_make 77 = .ok (.aload_n 0, 1) := by decide +kernel
theorem dL_make_78 : decode cL_make 78 = .ok (.iload 5, 2) := by decide +kernel
theorem dL_make_80 : decode cL_make 80 = .ok (.iaload, 1) := by decide +kernel
theorem dL_make_81 : decode cL_make 81 = .ok (.iload_n 3, 1) := by decide +kernel
theorem dL_make_82 : decode cL_make 82 = .ok (.if_icmp .ne 15, 3) := by decide +kernel
theorem dL_make_85 : decode cL_make 85 = .ok (.aload_n 1, 1) := by decide +kernel
theorem dL_make_86 : decode cL_make 86 = .ok (.iload 5, 2) := by decide +kernel
theorem dL_make_88 : decode cL_make 88 = .ok (.iaload, 1) := by decide +kernel
theorem dL_make_89 : decode cL_make 89 = .ok (.iload 4, 2) := by decide +kernel
theorem dL_make_91 : decode cL_make 91 = .ok (.iadd, 1) := by decide +kernel
theorem dL_make_92 : decode cL_make 92 = .ok (.iconst 4, 1) := by decide +kernel
theorem dL_make_93 : decode cL_make 93 = .ok (.irem, 1) := by decide +kernel
theorem dL_make_94 : decode cL_make 94 = .ok (.goto 7, 3) := by decide +kernel
theorem dL_make_97 : decode cL_make 97 = .ok (.aload_n 1, 1) := by decide +kernel
theorem dL_make_98 : decode cL_make 98 = .ok (.iload 5, 2) := by decide +kernel
theorem dL_make_100 : decode cL_make 100 = .ok (.iaload, 1) := by decide +kernel
theorem dL_make_101 : decode cL_make 101 = .ok (.iastore, 1) := by decide +kernel
theorem dL_make_102 : decode cL_make 102 = .ok (.goto 66, 3) := by decide +kernel
theorem dL_make_105 : decode cL_make 105 = .ok (.iload_n 2, 1) := by decide +kernel
theorem dL_make_106 : decode cL_make 106 = .ok (.sipush 300, 3) := by decide +kernel
theorem dL_make_109 : decode cL_make 109 = .ok (.if_icmp .ge 19, 3) := by decide +kernel
theorem dL_make_112 : decode cL_make 112 = .ok (.aload_n 0, 1) := by decide +kernel
theorem dL_make_113 : decode cL_make 113 = .ok (.iload 5, 2) := by decide +kernel
theorem dL_make_115 : decode cL_make 115 = .ok (.aload_n 0, 1) := by decide +kernel
theorem dL_make_116 : decode cL_make 116 = .ok (.iload 5, 2) := by decide +kernel
theorem dL_make_118 : decode cL_make 118 = .ok (.iaload, 1) := by decide +kernel
theorem dL_make_119 : decode cL_make 119 = .ok (.iload_n 3, 1) := by decide +kernel
theorem dL_make_120 : decode cL_make 120 = .ok (.iadd, 1) := by decide +kernel
theorem dL_make_121 : decode cL_make 121 = .ok (.bipush 10, 2) := by decide +kernel
theorem dL_make_123 : decode cL_make 123 = .ok (.irem, 1) := by decide +kernel
theorem dL_make_124 : decode cL_make 124 = .ok (.iastore, 1) := by decide +kernel
theorem dL_make_125 : decode cL_make 125 = .ok (.goto 43, 3) := by decide +kernel
theorem dL_make_128 : decode cL_make 128 = .ok (.aload_n 0, 1) := by decide +kernel
theorem dL_make_129 : decode cL_make 129 = .ok (.iload 5, 2) := by decide +kernel
theorem dL_make_131 : decode cL_make 131 = .ok (.iaload, 1) := by decide +kernel
theorem dL_make_132 : decode cL_make 132 = .ok (.iload_n 3, 1) := by decide +kernel
theorem dL_make_133 : decode cL_make 133 = .ok (.if_icmp .lt 35, 3) := by decide +kernel
theorem dL_make_136 : decode cL_make 136 = .ok (.aload_n 0, 1) := by decide +kernel
theorem dL_make_137 : decode cL_make 137 = .ok (.iload 5, 2) := by decide +kernel
theorem dL_make_139 : decode cL_make 139 = .ok (.iaload, 1) := by decide +kernel
theorem dL_make_140 : decode cL_make 140 = .ok (.iload 4, 2) := by decide +kernel
theorem dL_make_142 : decode cL_make 142 = .ok (.if_icmp .gt 26, 3) := by decide +kernel
theorem dL_make_145 : decode cL_make 145 = .ok (.aload_n 0, 1) := by decide +kernel
theorem dL_make_146 : decode cL_make 146 = .ok (.iload 5, 2) := by decide +kernel
theorem dL_make_148 : decode cL_make 148 = .ok (.iload_n 3, 1) := by decide +kernel
theorem dL_make_149 : decode cL_make 149 = .ok (.iload 4, 2) := by decide +kernel
theorem dL_make_151 : decode cL_make 151 = .ok (.iadd, 1) := by decide +kernel
theorem dL_make_152 : decode cL_make 152 = .ok (.aload_n 0, 1) := by decide +kernel
theorem dL_make_153 : decode cL_make 153 = .ok (.iload 5, 2) := by decide +kernel
theorem dL_make_155 : decode cL_make 155 = .ok (.iaload, 1) := by decide +kernel
theorem dL_make_156 : decode cL_make 156 = .ok (.isub, 1) := by decide +kernel
theorem dL_make_157 : decode cL_make 157 = .ok (.iastore, 1) := by decide +kernel
theorem dL_make_158 : decode cL_make 158 = .ok (.aload_n 1, 1) := by decide +kernel
theorem dL_make_159 : decode cL_make 159 = .ok (.iload 5, 2) := by decide +kernel
theorem dL_make_161 : decode cL_make 161 = .ok (.aload_n 1, 1) := by decide +kernel
theorem dL_make_162 : decode cL_make 162 = .ok (.iload 5, 2) := by decide +kernel
theorem dL_make_164 : decode cL_make 164 = .ok (.iaload, 1) := by decide +kernel
theorem dL_make_165 : decode cL_make 165 = .ok (.iconst 2, 1) := by decide +kernel
theorem dL_make_166 : decode cL_make 166 = .ok (.ixor, 1) := by decide +kernel
theorem dL_make_167 : decode cL_make 167 = .ok (.iastore, 1) := by decide +kernel
theorem dL_make_168 : decode cL_make 168 = .ok (.iinc 5 1, 3) := by decide +kernel
theorem dL_make_171 : decode cL_make 171 = .ok (.goto (-154), 3) := by decide +kernel
theorem dL_make_174 : decode cL_make 174 = .ok (.return_, 1) := by decide +kernel
theorem dL_near_0 : decode cL_near 0 = .ok (.iload_n 0, 1) := by decide +kernel
theorem dL_near_1 : decode cL_near 1 = .ok (.iload_n 1, 1) := by decide +kernel
theorem dL_near_2 : decode cL_near 2 = .ok (.isub, 1) := by decide +kernel
theorem dL_near_3 : decode cL_near 3 = .ok (.istore_n 2, 1) := by decide +kernel
theorem dL_near_4 : decode cL_near 4 = .ok (.iload_n 2, 1) := by decide +kernel
theorem dL_near_5 : decode cL_near 5 = .ok (.iconst 1, 1) := by decide +kernel
theorem dL_near_6 : decode cL_near 6 = .ok (.if_icmp .eq 20, 3) := by decide +kernel
theorem dL_near_9 : decode cL_near 9 = .ok (.iload_n 2, 1) := by decide +kernel
theorem dL_near_10 : decode cL_near 10 = .ok (.iconst (-1), 1) := by decide +kernel
theorem dL_near_11 : decode cL_near 11 = .ok (.if_icmp .eq 15, 3) := by decide +kernel
theorem dL_near_14 : decode cL_near 14 = .ok (.iload_n 2, 1) := by decide +kernel
theorem dL_near_15 : decode cL_near 15 = .ok (.bipush 9, 2) := by decide +kernel
theorem dL_near_17 : decode cL_near 17 = .ok (.if_icmp .eq 9, 3) := by decide +kernel
theorem dL_near_20 : decode cL_near 20 = .ok (.iload_n 2, 1) := by decide +kernel
theorem dL_near_21 : decode cL_near 21 = .ok (.bipush (-9), 2) := by decide +kernel
theorem dL_near_23 : decode cL_near 23 = .ok (.if_icmp .ne 7, 3) := by decide +kernel
theorem dL_near_26 : decode cL_near 26 = .ok (.iconst 1, 1) := by decide +kernel
theorem dL_near_27 : decode cL_near 27 = .ok (.goto 4, 3) := by decide +kernel
theorem dL_near_30 : decode cL_near 30 = .ok (.iconst 0, 1) := by decide +kernel
theorem dL_near_31 : decode cL_near 31 = .ok (.ireturn, 1) := by decide +kernel
theorem dL_holds_0 : decode cL_holds 0 = .ok (.iconst 1, 1) := by decide +kernel
theorem dL_holds_1 : decode cL_holds 1 = .ok (.istore_n 2, 1) := by decide +kernel
theorem dL_holds_2 : decode cL_holds 2 = .ok (.iconst 0, 1) := by decide +kernel
theorem dL_holds_3 : decode cL_holds 3 = .ok (.istore_n 3, 1) := by decide +kernel
theorem dL_holds_4 : decode cL_holds 4 = .ok (.iload_n 3, 1) := by decide +kernel
theorem dL_holds_5 : decode cL_holds 5 = .ok (.bipush 10, 2) := by decide +kernel
theorem dL_holds_7 : decode cL_holds 7 = .ok (.if_icmp .ge 39, 3) := by decide +kernel
theorem dL_holds_10 : decode cL_holds 10 = .ok (.iload_n 2, 1) := by decide +kernel
theorem dL_holds_11 : decode cL_holds 11 = .ok (.ifCond .eq 27, 3) := by decide +kernel
theorem dL_holds_14 : decode cL_holds 14 = .ok (.aload_n 1, 1) := by decide +kernel
theorem dL_holds_15 : decode cL_holds 15 = .ok (.iload_n 3, 1) := by decide +kernel
theorem dL_holds_16 : decode cL_holds 16 = .ok (.iaload, 1) := by decide +kernel
theorem dL_holds_17 : decode cL_holds 17 = .ok (.ifCond .lt 17, 3) := by decide +kernel
theorem dL_holds_20 : decode cL_holds 20 = .ok (.aload_n 0, 1) := by decide +kernel
theorem dL_holds_21 : decode cL_holds 21 = .ok (.iload_n 3, 1) := by decide +kernel
theorem dL_holds_22 : decode cL_holds 22 = .ok (.iaload, 1) := by decide +kernel
theorem dL_holds_23 : decode cL_holds 23 = .ok (.aload_n 0, 1) := by decide +kernel
theorem dL_holds_24 : decode cL_holds 24 = .ok (.aload_n 1, 1) := by decide +kernel
theorem dL_holds_25 : decode cL_holds 25 = .ok (.iload_n 3, 1) := by decide +kernel
theorem dL_holds_26 : decode cL_holds 26 = .ok (.iaload, 1) := by decide +kernel
theorem dL_holds_27 : decode cL_holds 27 = .ok (.iaload, 1) := by decide +kernel
theorem dL_holds_28 : decode cL_holds 28 = .ok (.invokestatic 15, 3) := by decide +kernel
theorem dL_holds_31 : decode cL_holds 31 = .ok (.ifCond .eq 7, 3) := by decide +kernel
theorem dL_holds_34 : decode cL_holds 34 = .ok (.iconst 1, 1) := by decide +kernel
theorem dL_holds_35 : decode cL_holds 35 = .ok (.goto 4, 3) := by decide +kernel
theorem dL_holds_38 : decode cL_holds 38 = .ok (.iconst 0, 1) := by decide +kernel
theorem dL_holds_39 : decode cL_holds 39 = .ok (.istore_n 2, 1) := by decide +kernel
theorem dL_holds_40 : decode cL_holds 40 = .ok (.iinc 3 1, 3) := by decide +kernel
theorem dL_holds_43 : decode cL_holds 43 = .ok (.goto (-39), 3) := by decide +kernel
theorem dL_holds_46 : decode cL_holds 46 = .ok (.iload_n 2, 1) := by decide +kernel
theorem dL_holds_47 : decode cL_holds 47 = .ok (.ireturn, 1) := by decide +kernel
theorem dL_copy_0 : decode cL_copy 0 = .ok (.iconst 0, 1) := by decide +kernel
theorem dL_copy_1 : decode cL_copy 1 = .ok (.istore_n 2, 1) := by decide +kernel
theorem dL_copy_2 : decode cL_copy 2 = .ok (.iload_n 2, 1) := by decide +kernel
theorem dL_copy_3 : decode cL_copy 3 = .ok (.aload_n 0, 1) := by decide +kernel
theorem dL_copy_4 : decode cL_copy 4 = .ok (.arraylength, 1) := by decide +kernel
theorem dL_copy_5 : decode cL_copy 5 = .ok (.if_icmp .ge 15, 3) := by decide +kernel
theorem dL_copy_8 : decode cL_copy 8 = .ok (.aload_n 1, 1) := by decide +kernel
theorem dL_copy_9 : decode cL_copy 9 = .ok (.iload_n 2, 1) := by decide +kernel
theorem dL_copy_10 : decode cL_copy 10 = .ok (.aload_n 0, 1) := by decide +kernel
theorem dL_copy_11 : decode cL_copy 11 = .ok (.iload_n 2, 1) := by decide +kernel
theorem dL_copy_12 : decode cL_copy 12 = .ok (.iaload, 1) := by decide +kernel
theorem dL_copy_13 : decode cL_copy 13 = .ok (.iastore, 1) := by decide +kernel
theorem dL_copy_14 : decode cL_copy 14 = .ok (.iinc 2 1, 3) := by decide +kernel
theorem dL_copy_17 : decode cL_copy 17 = .ok (.goto (-15), 3) := by decide +kernel
theorem dL_copy_20 : decode cL_copy 20 = .ok (.return_, 1) := by decide +kernel
theorem dL_dances_0 : decode cL_dances 0 = .ok (.bipush 10, 2) := by decide +kernel
theorem dL_dances_2 : decode cL_dances 2 = .ok (.newarray .int, 2) := by decide +kernel
theorem dL_dances_4 : decode cL_dances 4 = .ok (.astore 9, 2) := by decide +kernel
theorem dL_dances_6 : decode cL_dances 6 = .ok (.bipush 10, 2) := by decide +kernel
theorem dL_dances_8 : decode cL_dances 8 = .ok (.newarray .int, 2) := by decide +kernel
theorem dL_dances_10 : decode cL_dances 10 = .ok (.astore 10, 2) := by decide +kernel
theorem dL_dances_12 : decode cL_dances 12 = .ok (.iload 7, 2) := by decide +kernel
theorem dL_dances_14 : decode cL_dances 14 = .ok (.aload 5, 2) := by decide +kernel
theorem dL_dances_16 : decode cL_dances 16 = .ok (.bipush 8, 2) := by decide +kernel
theorem dL_dances_18 : decode cL_dances 18 = .ok (.iload 6, 2) := by decide +kernel
theorem dL_dances_20 : decode cL_dances 20 = .ok (.iadd, 1) := by decide +kernel
theorem dL_dances_21 : decode cL_dances 21 = .ok (.iaload, 1) := by decide +kernel
theorem dL_dances_22 : decode cL_dances 22 = .ok (.imul, 1) := by decide +kernel
theorem dL_dances_23 : decode cL_dances 23 = .ok (.istore 11, 2) := by decide +kernel
theorem dL_dances_25 : decode cL_dances 25 = .ok (.iconst 0, 1) := by decide +kernel
theorem dL_dances_26 : decode cL_dances 26 = .ok (.istore 12, 2) := by decide +kernel
theorem dL_dances_28 : decode cL_dances 28 = .ok (.iload 12, 2) := by decide +kernel
theorem dL_dances_30 : decode cL_dances 30 = .ok (.iload 11, 2) := by decide +kernel
theorem dL_dances_32 : decode cL_dances 32 = .ok (.if_icmp .ge 112, 3) := by decide +kernel
theorem dL_dances_35 : decode cL_dances 35 = .ok (.iload 12, 2) := by decide +kernel
theorem dL_dances_37 : decode cL_dances 37 = .ok (.aload 5, 2) := by decide +kernel
theorem dL_dances_39 : decode cL_dances 39 = .ok (.bipush 8, 2) := by decide +kernel
theorem dL_dances_41 : decode cL_dances 41 = .ok (.iload 6, 2) := by decide +kernel
theorem dL_dances_43 : decode cL_dances 43 = .ok (.iadd, 1) := by decide +kernel
theorem dL_dances_44 : decode cL_dances 44 = .ok (.iaload, 1) := by decide +kernel
theorem dL_dances_45 : decode cL_dances 45 = .ok (.irem, 1) := by decide +kernel
theorem dL_dances_46 : decode cL_dances 46 = .ok (.istore 13, 2) := by decide +kernel
theorem dL_dances_48 : decode cL_dances 48 = .ok (.iload 8, 2) := by decide +kernel
theorem dL_dances_50 : decode cL_dances 50 = .ok (.ifCond .eq 32, 3) := by decide +kernel
theorem dL_dances_53 : decode cL_dances 53 = .ok (.aload_n 3, 1) := by decide +kernel
theorem dL_dances_54 : decode cL_dances 54 = .ok (.aload 4, 2) := by decide +kernel
theorem dL_dances_56 : decode cL_dances 56 = .ok (.aload 5, 2) := by decide +kernel
theorem dL_dances_58 : decode cL_dances 58 = .ok (.iload 6, 2) := by decide +kernel
theorem dL_dances_60 : decode cL_dances 60 = .ok (.aload 5, 2) := by decide +kernel
theorem dL_dances_62 : decode cL_dances 62 = .ok (.bipush 8, 2) := by decide +kernel
theorem dL_dances_64 : decode cL_dances 64 = .ok (.iload 6, 2) := by decide +kernel
theorem dL_dances_66 : decode cL_dances 66 = .ok (.iadd, 1) := by decide +kernel
theorem dL_dances_67 : decode cL_dances 67 = .ok (.iaload, 1) := by decide +kernel
theorem dL_dances_68 : decode cL_dances 68 = .ok (.iconst 1, 1) := by decide +kernel
theorem dL_dances_69 : decode cL_dances 69 = .ok (.isub, 1) := by decide +kernel
theorem dL_dances_70 : decode cL_dances 70 = .ok (.iload 13, 2) := by decide +kernel
theorem dL_dances_72 : decode cL_dances 72 = .ok (.isub, 1) := by decide +kernel
theorem dL_dances_73 : decode cL_dances 73 = .ok (.invokestatic 19, 3) := by decide +kernel
theorem dL_dances_76 : decode cL_dances 76 = .ok (.invokestatic 23, 3) := by decide +kernel
theorem dL_dances_79 : decode cL_dances 79 = .ok (.goto 15, 3) := by decide +kernel
theorem dL_dances_82 : decode cL_dances 82 = .ok (.aload_n 3, 1) := by decide +kernel
theorem dL_dances_83 : decode cL_dances 83 = .ok (.aload 4, 2) := by decide +kernel
theorem dL_dances_85 : decode cL_dances 85 = .ok (.aload 5, 2) := by decide +kernel
theorem dL_dances_87 : decode cL_dances 87 = .ok (.iload 6, 2) := by decide +kernel
theorem dL_dances_89 : decode cL_dances 89 = .ok (.iload 13, 2) := by decide +kernel
theorem dL_dances_91 : decode cL_dances 91 = .ok (.invokestatic 19, 3) := by decide +kernel
theorem dL_dances_94 : decode cL_dances 94 = .ok (.istore 14, 2) := by decide +kernel
theorem dL_dances_96 : decode cL_dances 96 = .ok (.aload_n 0, 1) := by decide +kernel
theorem dL_dances_97 : decode cL_dances 97 = .ok (.aload 9, 2) := by decide +kernel
theorem dL_dances_99 : decode cL_dances 99 = .ok (.invokestatic 27, 3) := by decide +kernel
theorem dL_dances_102 : decode cL_dances 102 = .ok (.aload_n 1, 1) := by decide +kernel
theorem dL_dances_103 : decode cL_dances 103 = .ok (.aload 10, 2) := by decide +kernel
theorem dL_dances_105 : decode cL_dances 105 = .ok (.invokestatic 27, 3) := by decide +kernel
theorem dL_dances_108 : decode cL_dances 108 = .ok (.aload_n 0, 1) := by decide +kernel
theorem dL_dances_109 : decode cL_dances 109 = .ok (.aload_n 1, 1) := by decide +kernel
theorem dL_dances_110 : decode cL_dances 110 = .ok (.iload 14, 2) := by decide +kernel
theorem dL_dances_112 : decode cL_dances 112 = .ok (.invokestatic 31, 3) := by decide +kernel
theorem dL_dances_115 : decode cL_dances 115 = .ok (.aload_n 0, 1) := by decide +kernel
theorem dL_dances_116 : decode cL_dances 116 = .ok (.aload_n 2, 1) := by decide +kernel
theorem dL_dances_117 : decode cL_dances 117 = .ok (.invokestatic 35, 3) := by decide +kernel
theorem dL_dances_120 : decode cL_dances 120 = .ok (.ifCond .ne 18, 3) := by decide +kernel
theorem dL_dances_123 : decode cL_dances 123 = .ok (.aload 9, 2) := by decide +kernel
theorem dL_dances_125 : decode cL_dances 125 = .ok (.aload_n 0, 1) := by decide +kernel
theorem dL_dances_126 : decode cL_dances 126 = .ok (.invokestatic 27, 3) := by decide +kernel
theorem dL_dances_129 : decode cL_dances 129 = .ok (.aload 10, 2) := by decide +kernel
theorem dL_dances_131 : decode cL_dances 131 = .ok (.aload_n 1, 1) := by decide +kernel
theorem dL_dances_132 : decode cL_dances 132 = .ok (.invokestatic 27, 3) := by decide +kernel
theorem dL_dances_135 : decode cL_dances 135 = .ok (.iload 12, 2) := by decide +kernel
theorem dL_dances_137 : decode cL_dances 137 = .ok (.ireturn, 1) := by decide +kernel
theorem dL_dances_138 : decode cL_dances 138 = .ok (.iinc 12 1, 3) := by decide +kernel
theorem dL_dances_141 : decode cL_dances 141 = .ok (.goto (-113), 3) := by decide +kernel
theorem dL_dances_144 : decode cL_dances 144 = .ok (.iload 11, 2) := by decide +kernel
theorem dL_dances_146 : decode cL_dances 146 = .ok (.ireturn, 1) := by decide +kernel
theorem dL_effect_0 : decode cL_effect 0 = .ok (.iconst 0, 1) := by decide +kernel
theorem dL_effect_1 : decode cL_effect 1 = .ok (.istore 6, 2) := by decide +kernel
theorem dL_effect_3 : decode cL_effect 3 = .ok (.iload 6, 2) := by decide +kernel
theorem dL_effect_5 : decode cL_effect 5 = .ok (.bipush 10, 2) := by decide +kernel
theorem dL_effect_7 : decode cL_effect 7 = .ok (.if_icmp .ge 20, 3) := by decide +kernel
theorem dL_effect_10 : decode cL_effect 10 = .ok (.aload_n 0, 1) := by decide +kernel
theorem dL_effect_11 : decode cL_effect 11 = .ok (.iload 6, 2) := by decide +kernel
theorem dL_effect_13 : decode cL_effect 13 = .ok (.iload 6, 2) := by decide +kernel
theorem dL_effect_15 : decode cL_effect 15 = .ok (.iastore, 1) := by decide +kernel
theorem dL_effect_16 : decode cL_effect 16 = .ok (.aload_n 1, 1) := by decide +kernel
theorem dL_effect_17 : decode cL_effect 17 = .ok (.iload 6, 2) := by decide +kernel
theorem dL_effect_19 : decode cL_effect 19 = .ok (.iconst 0, 1) := by decide +kernel
theorem dL_effect_20 : decode cL_effect 20 = .ok (.iastore, 1) := by decide +kernel
theorem dL_effect_21 : decode cL_effect 21 = .ok (.iinc 6 1, 3) := by decide +kernel
theorem dL_effect_24 : decode cL_effect 24 = .ok (.goto (-21), 3) := by decide +kernel
theorem dL_effect_27 : decode cL_effect 27 = .ok (.iconst 0, 1) := by decide +kernel
theorem dL_effect_28 : decode cL_effect 28 = .ok (.istore 6, 2) := by decide +kernel
theorem dL_effect_30 : decode cL_effect 30 = .ok (.iload 6, 2) := by decide +kernel
theorem dL_effect_32 : decode cL_effect 32 = .ok (.aload 4, 2) := by decide +kernel
theorem dL_effect_34 : decode cL_effect 34 = .ok (.bipush 8, 2) := by decide +kernel
theorem dL_effect_36 : decode cL_effect 36 = .ok (.iload 5, 2) := by decide +kernel
theorem dL_effect_38 : decode cL_effect 38 = .ok (.iadd, 1) := by decide +kernel
theorem dL_effect_39 : decode cL_effect 39 = .ok (.iaload, 1) := by decide +kernel
theorem dL_effect_40 : decode cL_effect 40 = .ok (.if_icmp .ge 25, 3) := by decide +kernel
theorem dL_effect_43 : decode cL_effect 43 = .ok (.aload_n 0, 1) := by decide +kernel
theorem dL_effect_44 : decode cL_effect 44 = .ok (.aload_n 1, 1) := by decide +kernel
theorem dL_effect_45 : decode cL_effect 45 = .ok (.aload_n 2, 1) := by decide +kernel
theorem dL_effect_46 : decode cL_effect 46 = .ok (.aload_n 3, 1) := by decide +kernel
theorem dL_effect_47 : decode cL_effect 47 = .ok (.aload 4, 2) := by decide +kernel
theorem dL_effect_49 : decode cL_effect 49 = .ok (.iload 5, 2) := by decide +kernel
theorem dL_effect_51 : decode cL_effect 51 = .ok (.iload 6, 2) := by decide +kernel
theorem dL_effect_53 : decode cL_effect 53 = .ok (.invokestatic 19, 3) := by decide +kernel
theorem dL_effect_56 : decode cL_effect 56 = .ok (.invokestatic 31, 3) := by decide +kernel
theorem dL_effect_59 : decode cL_effect 59 = .ok (.iinc 6 1, 3) := by decide +kernel
theorem dL_effect_62 : decode cL_effect 62 = .ok (.goto (-32), 3) := by decide +kernel
theorem dL_effect_65 : decode cL_effect 65 = .ok (.return_, 1) := by decide +kernel
theorem dL_home_0 : decode cL_home 0 = .ok (.iconst 0, 1) := by decide +kernel
theorem dL_home_1 : decode cL_home 1 = .ok (.istore_n 3, 1) := by decide +kernel
theorem dL_home_2 : decode cL_home 2 = .ok (.iconst 0, 1) := by decide +kernel
theorem dL_home_3 : decode cL_home 3 = .ok (.istore 4, 2) := by decide +kernel
theorem dL_home_5 : decode cL_home 5 = .ok (.iload 4, 2) := by decide +kernel
theorem dL_home_7 : decode cL_home 7 = .ok (.bipush 10, 2) := by decide +kernel
theorem dL_home_9 : decode cL_home 9 = .ok (.if_icmp .ge 37, 3) := by decide +kernel
theorem dL_home_12 : decode cL_home 12 = .ok (.iload_n 3, 1) := by decide +kernel
theorem dL_home_13 : decode cL_home 13 = .ok (.aload_n 0, 1) := by decide +kernel
theorem dL_home_14 : decode cL_home 14 = .ok (.iload 4, 2) := by decide +kernel
theorem dL_home_16 : decode cL_home 16 = .ok (.iaload, 1) := by decide +kernel
theorem dL_home_17 : decode cL_home 17 = .ok (.iload 4, 2) := by decide +kernel
theorem dL_home_19 : decode cL_home 19 = .ok (.if_icmp .ne 18, 3) := by decide +kernel
theorem dL_home_22 : decode cL_home 22 = .ok (.iload_n 2, 1) := by decide +kernel
theorem dL_home_23 : decode cL_home 23 = .ok (.ifCond .eq 10, 3) := by decide +kernel
theorem dL_home_26 : decode cL_home 26 = .ok (.aload_n 1, 1) := by decide +kernel
theorem dL_home_27 : decode cL_home 27 = .ok (.iload 4, 2) := by decide +kernel
theorem dL_home_29 : decode cL_home 29 = .ok (.iaload, 1) := by decide +kernel
theorem dL_home_30 : decode cL_home 30 = .ok (.ifCond .ne 7, 3) := by decide +kernel
theorem dL_home_33 : decode cL_home 33 = .ok (.iconst 1, 1) := by decide +kernel
theorem dL_home_34 : decode cL_home 34 = .ok (.goto 4, 3) := by decide +kernel
theorem dL_home_37 : decode cL_home 37 = .ok (.iconst 0, 1) := by decide +kernel
theorem dL_home_38 : decode cL_home 38 = .ok (.iadd, 1) := by decide +kernel
theorem dL_home_39 : decode cL_home 39 = .ok (.istore_n 3, 1) := by decide +kernel
theorem dL_home_40 : decode cL_home 40 = .ok (.iinc 4 1, 3) := by decide +kernel
theorem dL_home_43 : decode cL_home 43 = .ok (.goto (-38), 3) := by decide +kernel
theorem dL_home_46 : decode cL_home 46 = .ok (.iload_n 3, 1) := by decide +kernel
theorem dL_home_47 : decode cL_home 47 = .ok (.ireturn, 1) := by decide +kernel
theorem dL_does_0 : decode cL_does 0 = .ok (.iconst 0, 1) := by decide +kernel
theorem dL_does_1 : decode cL_does 1 = .ok (.istore 4, 2) := by decide +kernel
theorem dL_does_3 : decode cL_does 3 = .ok (.iload 4, 2) := by decide +kernel
theorem dL_does_5 : decode cL_does 5 = .ok (.bipush 10, 2) := by decide +kernel
theorem dL_does_7 : decode cL_does 7 = .ok (.if_icmp .ge 36, 3) := by decide +kernel
theorem dL_does_10 : decode cL_does 10 = .ok (.aload_n 1, 1) := by decide +kernel
theorem dL_does_11 : decode cL_does 11 = .ok (.iload 4, 2) := by decide +kernel
theorem dL_does_13 : decode cL_does 13 = .ok (.aload_n 1, 1) := by decide +kernel
theorem dL_does_14 : decode cL_does 14 = .ok (.iload 4, 2) := by decide +kernel
theorem dL_does_16 : decode cL_does 16 = .ok (.iaload, 1) := by decide +kernel
theorem dL_does_17 : decode cL_does 17 = .ok (.aload_n 3, 1) := by decide +kernel
theorem dL_does_18 : decode cL_does 18 = .ok (.aload_n 0, 1) := by decide +kernel
theorem dL_does_19 : decode cL_does 19 = .ok (.iload 4, 2) := by decide +kernel
theorem dL_does_21 : decode cL_does 21 = .ok (.iaload, 1) := by decide +kernel
theorem dL_does_22 : decode cL_does 22 = .ok (.iaload, 1) := by decide +kernel
theorem dL_does_23 : decode cL_does 23 = .ok (.iadd, 1) := by decide +kernel
theorem dL_does_24 : decode cL_does 24 = .ok (.iconst 4, 1) := by decide +kernel
theorem dL_does_25 : decode cL_does 25 = .ok (.irem, 1) := by decide +kernel
theorem dL_does_26 : decode cL_does 26 = .ok (.iastore, 1) := by decide +kernel
theorem dL_does_27 : decode cL_does 27 = .ok (.aload_n 0, 1) := by decide +kernel
theorem dL_does_28 : decode cL_does 28 = .ok (.iload 4, 2) := by decide +kernel
theorem dL_does_30 : decode cL_does 30 = .ok (.aload_n 2, 1) := by decide +kernel
theorem dL_does_31 : decode cL_does 31 = .ok (.aload_n 0, 1) := by decide +kernel
theorem dL_does_32 : decode cL_does 32 = .ok (.iload 4, 2) := by decide +kernel
theorem dL_does_34 : decode cL_does 34 = .ok (.iaload, 1) := by decide +kernel
theorem dL_does_35 : decode cL_does 35 = .ok (.iaload, 1) := by decide +kernel
theorem dL_does_36 : decode cL_does 36 = .ok (.iastore, 1) := by decide +kernel
theorem dL_does_37 : decode cL_does 37 = .ok (.iinc 4 1, 3) := by decide +kernel
theorem dL_does_40 : decode cL_does 40 = .ok (.goto (-37), 3) := by decide +kernel
theorem dL_does_43 : decode cL_does 43 = .ok (.return_, 1) := by decide +kernel
theorem dL_order_0 : decode cL_order 0 = .ok (.bipush 10, 2) := by decide +kernel
theorem dL_order_2 : decode cL_order 2 = .ok (.newarray .int, 2) := by decide +kernel
theorem dL_order_4 : decode cL_order 4 = .ok (.astore_n 2, 1) := by decide +kernel
theorem dL_order_5 : decode cL_order 5 = .ok (.bipush 10, 2) := by decide +kernel
theorem dL_order_7 : decode cL_order 7 = .ok (.newarray .int, 2) := by decide +kernel
theorem dL_order_9 : decode cL_order 9 = .ok (.astore_n 3, 1) := by decide +kernel
theorem dL_order_10 : decode cL_order 10 = .ok (.iconst 0, 1) := by decide +kernel
theorem dL_order_11 : decode cL_order 11 = .ok (.istore 4, 2) := by decide +kernel
theorem dL_order_13 : decode cL_order 13 = .ok (.iload 4, 2) := by decide +kernel
theorem dL_order_15 : decode cL_order 15 = .ok (.bipush 10, 2) := by decide +kernel
theorem dL_order_17 : decode cL_order 17 = .ok (.if_icmp .ge 15, 3) := by decide +kernel
theorem dL_order_20 : decode cL_order 20 = .ok (.aload_n 2, 1) := by decide +kernel
theorem dL_order_21 : decode cL_order 21 = .ok (.iload 4, 2) := by decide +kernel
theorem dL_order_23 : decode cL_order 23 = .ok (.iload 4, 2) := by decide +kernel
theorem dL_order_25 : decode cL_order 25 = .ok (.iastore, 1) := by decide +kernel
theorem dL_order_26 : decode cL_order 26 = .ok (.iinc 4 1, 3) := by decide +kernel
theorem dL_order_29 : decode cL_order 29 = .ok (.goto (-16), 3) := by decide +kernel
theorem dL_order_32 : decode cL_order 32 = .ok (.iconst 0, 1) := by decide +kernel
theorem dL_order_33 : decode cL_order 33 = .ok (.istore 4, 2) := by decide +kernel
theorem dL_order_35 : decode cL_order 35 = .ok (.iload 4, 2) := by decide +kernel
theorem dL_order_37 : decode cL_order 37 = .ok (.ifCond .eq 14, 3) := by decide +kernel
theorem dL_order_40 : decode cL_order 40 = .ok (.aload_n 2, 1) := by decide +kernel
theorem dL_order_41 : decode cL_order 41 = .ok (.aload_n 3, 1) := by decide +kernel
theorem dL_order_42 : decode cL_order 42 = .ok (.iconst 1, 1) := by decide +kernel
theorem dL_order_43 : decode cL_order 43 = .ok (.invokestatic 39, 3) := by decide +kernel
theorem dL_order_46 : decode cL_order 46 = .ok (.bipush 10, 2) := by decide +kernel
theorem dL_order_48 : decode cL_order 48 = .ok (.if_icmp .ge 16, 3) := by decide +kernel
theorem dL_order_51 : decode cL_order 51 = .ok (.aload_n 2, 1) := by decide +kernel
theorem dL_order_52 : decode cL_order 52 = .ok (.aload_n 3, 1) := by decide +kernel
theorem dL_order_53 : decode cL_order 53 = .ok (.aload_n 0, 1) := by decide +kernel
theorem dL_order_54 : decode cL_order 54 = .ok (.aload_n 1, 1) := by decide +kernel
theorem dL_order_55 : decode cL_order 55 = .ok (.invokestatic 43, 3) := by decide +kernel
theorem dL_order_58 : decode cL_order 58 = .ok (.iinc 4 1, 3) := by decide +kernel
theorem dL_order_61 : decode cL_order 61 = .ok (.goto (-26), 3) := by decide +kernel
theorem dL_order_64 : decode cL_order 64 = .ok (.iload 4, 2) := by decide +kernel
theorem dL_order_66 : decode cL_order 66 = .ok (.ireturn, 1) := by decide +kernel
theorem dL_calls_0 : decode cL_calls 0 = .ok (.iconst 1, 1) := by decide +kernel
theorem dL_calls_1 : decode cL_calls 1 = .ok (.iload_n 3, 1) := by decide +kernel
theorem dL_calls_2 : decode cL_calls 2 = .ok (.ishl, 1) := by decide +kernel
theorem dL_calls_3 : decode cL_calls 3 = .ok (.istore 5, 2) := by decide +kernel
theorem dL_calls_5 : decode cL_calls 5 = .ok (.iload_n 3, 1) := by decide +kernel
theorem dL_calls_6 : decode cL_calls 6 = .ok (.istore 6, 2) := by decide +kernel
theorem dL_calls_8 : decode cL_calls 8 = .ok (.iload 6, 2) := by decide +kernel
theorem dL_calls_10 : decode cL_calls 10 = .ok (.iload 4, 2) := by decide +kernel
theorem dL_calls_12 : decode cL_calls 12 = .ok (.if_icmp .le 79, 3) := by decide +kernel
theorem dL_calls_15 : decode cL_calls 15 = .ok (.iconst 0, 1) := by decide +kernel
theorem dL_calls_16 : decode cL_calls 16 = .ok (.istore 7, 2) := by decide +kernel
theorem dL_calls_18 : decode cL_calls 18 = .ok (.iload 7, 2) := by decide +kernel
theorem dL_calls_20 : decode cL_calls 20 = .ok (.aload_n 2, 1) := by decide +kernel
theorem dL_calls_21 : decode cL_calls 21 = .ok (.iload 6, 2) := by decide +kernel
theorem dL_calls_23 : decode cL_calls 23 = .ok (.iaload, 1) := by decide +kernel
theorem dL_calls_24 : decode cL_calls 24 = .ok (.if_icmp .ge 61, 3) := by decide +kernel
theorem dL_calls_27 : decode cL_calls 27 = .ok (.iload 5, 2) := by decide +kernel
theorem dL_calls_29 : decode cL_calls 29 = .ok (.iload 6, 2) := by decide +kernel
theorem dL_calls_31 : decode cL_calls 31 = .ok (.ishr, 1) := by decide +kernel
theorem dL_calls_32 : decode cL_calls 32 = .ok (.iconst 1, 1) := by decide +kernel
theorem dL_calls_33 : decode cL_calls 33 = .ok (.iand, 1) := by decide +kernel
theorem dL_calls_34 : decode cL_calls 34 = .ok (.iconst 1, 1) := by decide +kernel
theorem dL_calls_35 : decode cL_calls 35 = .ok (.if_icmp .ne 50, 3) := by decide +kernel
theorem dL_calls_38 : decode cL_calls 38 = .ok (.iload 5, 2) := by decide +kernel
theorem dL_calls_40 : decode cL_calls 40 = .ok (.aload_n 0, 1) := by decide +kernel
theorem dL_calls_41 : decode cL_calls 41 = .ok (.aload_n 1, 1) := by decide +kernel
theorem dL_calls_42 : decode cL_calls 42 = .ok (.iload 6, 2) := by decide +kernel
theorem dL_calls_44 : decode cL_calls 44 = .ok (.iload 7, 2) := by decide +kernel
theorem dL_calls_46 : decode cL_calls 46 = .ok (.invokestatic 9, 3) := by decide +kernel
theorem dL_calls_49 : decode cL_calls 49 = .ok (.sipush 399, 3) := by decide +kernel
theorem dL_calls_52 : decode cL_calls 52 = .ok (.if_icmp .le 23, 3) := by decide +kernel
theorem dL_calls_55 : decode cL_calls 55 = .ok (.iconst 1, 1) := by decide +kernel
theorem dL_calls_56 : decode cL_calls 56 = .ok (.aload_n 0, 1) := by decide +kernel
theorem dL_calls_57 : decode cL_calls 57 = .ok (.aload_n 1, 1) := by decide +kernel
theorem dL_calls_58 : decode cL_calls 58 = .ok (.iload 6, 2) := by decide +kernel
theorem dL_calls_60 : decode cL_calls 60 = .ok (.iload 7, 2) := by decide +kernel
theorem dL_calls_62 : decode cL_calls 62 = .ok (.invokestatic 9, 3) := by decide +kernel
theorem dL_calls_65 : decode cL_calls 65 = .ok (.bipush 10, 2) := by decide +kernel
theorem dL_calls_67 : decode cL_calls 67 = .ok (.idiv, 1) := by decide +kernel
theorem dL_calls_68 : decode cL_calls 68 = .ok (.bipush 10, 2) := by decide +kernel
theorem dL_calls_70 : decode cL_calls 70 = .ok (.irem, 1) := by decide +kernel
theorem dL_calls_71 : decode cL_calls 71 = .ok (.ishl, 1) := by decide +kernel
theorem dL_calls_72 : decode cL_calls 72 = .ok (.goto 4, 3) := by decide +kernel
theorem dL_calls_75 : decode cL_calls 75 = .ok (.iconst 0, 1) := by decide +kernel
theorem dL_calls_76 : decode cL_calls 76 = .ok (.ior, 1) := by decide +kernel
theorem dL_calls_77 : decode cL_calls 77 = .ok (.istore 5, 2) := by decide +kernel
theorem dL_calls_79 : decode cL_calls 79 = .ok (.iinc 7 1, 3) := by decide +kernel
theorem dL_calls_82 : decode cL_calls 82 = .ok (.goto (-64), 3) := by decide +kernel
theorem dL_calls_85 : decode cL_calls 85 = .ok (.iinc 6 (-1), 3) := by decide +kernel
theorem dL_calls_88 : decode cL_calls 88 = .ok (.goto (-80), 3) := by decide +kernel
theorem dL_calls_91 : decode cL_calls 91 = .ok (.iload_n 3, 1) := by decide +kernel
theorem dL_calls_92 : decode cL_calls 92 = .ok (.iload 4, 2) := by decide +kernel
theorem dL_calls_94 : decode cL_calls 94 = .ok (.if_icmp .eq 18, 3) := by decide +kernel
theorem dL_calls_97 : decode cL_calls 97 = .ok (.iload 5, 2) := by decide +kernel
theorem dL_calls_99 : decode cL_calls 99 = .ok (.iload 4, 2) := by decide +kernel
theorem dL_calls_101 : decode cL_calls 101 = .ok (.ishr, 1) := by decide +kernel
theorem dL_calls_102 : decode cL_calls 102 = .ok (.iconst 1, 1) := by decide +kernel
theorem dL_calls_103 : decode cL_calls 103 = .ok (.iand, 1) := by decide +kernel
theorem dL_calls_104 : decode cL_calls 104 = .ok (.iconst 1, 1) := by decide +kernel
theorem dL_calls_105 : decode cL_calls 105 = .ok (.if_icmp .ne 7, 3) := by decide +kernel
theorem dL_calls_108 : decode cL_calls 108 = .ok (.iconst 1, 1) := by decide +kernel
theorem dL_calls_109 : decode cL_calls 109 = .ok (.goto 4, 3) := by decide +kernel
theorem dL_calls_112 : decode cL_calls 112 = .ok (.iconst 0, 1) := by decide +kernel
theorem dL_calls_113 : decode cL_calls 113 = .ok (.ireturn, 1) := by decide +kernel
theorem dL_areDancers_0 : decode cL_areDancers 0 = .ok (.iconst 0, 1) := by decide +kernel
theorem dL_areDancers_1 : decode cL_areDancers 1 = .ok (.istore 6, 2) := by decide +kernel
theorem dL_areDancers_3 : decode cL_areDancers 3 = .ok (.iconst 0, 1) := by decide +kernel
theorem dL_areDancers_4 : decode cL_areDancers 4 = .ok (.istore 7, 2) := by decide +kernel
theorem dL_areDancers_6 : decode cL_areDancers 6 = .ok (.aload_n 0, 1) := by decide +kernel
theorem dL_areDancers_7 : decode cL_areDancers 7 = .ok (.bipush 10, 2) := by decide +kernel
theorem dL_areDancers_9 : decode cL_areDancers 9 = .ok (.invokevirtual 47, 3) := by decide +kernel
theorem dL_areDancers_12 : decode cL_areDancers 12 = .ok (.iconst (-1), 1) := by decide +kernel
theorem dL_areDancers_13 : decode cL_areDancers 13 = .ok (.if_icmp .ne 29, 3) := by decide +kernel
theorem dL_areDancers_16 : decode cL_areDancers 16 = .ok (.aload_n 0, 1) := by decide +kernel
theorem dL_areDancers_17 : decode cL_areDancers 17 = .ok (.bipush 10, 2) := by decide +kernel
theorem dL_areDancers_19 : decode cL_areDancers 19 = .ok (.iconst 0, 1) := by decide +kernel
theorem dL_areDancers_20 : decode cL_areDancers 20 = .ok (.invokevirtual 52, 3) := by decide +kernel
theorem dL_areDancers_23 : decode cL_areDancers 23 = .ok (.iconst (-1), 1) := by decide +kernel
theorem dL_areDancers_24 : decode cL_areDancers 24 = .ok (.if_icmp .ne 18, 3) := by decide +kernel
theorem dL_areDancers_27 : decode cL_areDancers 27 = .ok (.aload_n 0, 1) := by decide +kernel
theorem dL_areDancers_28 : decode cL_areDancers 28 = .ok (.iconst 0, 1) := by decide +kernel
theorem dL_areDancers_29 : decode cL_areDancers 29 = .ok (.iconst 3, 1) := by decide +kernel
theorem dL_areDancers_30 : decode cL_areDancers 30 = .ok (.invokevirtual 52, 3) := by decide +kernel
theorem dL_areDancers_33 : decode cL_areDancers 33 = .ok (.bipush (-2), 2) := by decide +kernel
theorem dL_areDancers_35 : decode cL_areDancers 35 = .ok (.if_icmp .ne 7, 3) := by decide +kernel
theorem dL_areDancers_38 : decode cL_areDancers 38 = .ok (.iconst 1, 1) := by decide +kernel
theorem dL_areDancers_39 : decode cL_areDancers 39 = .ok (.goto 4, 3) := by decide +kernel
theorem dL_areDancers_42 : decode cL_areDancers 42 = .ok (.iconst 0, 1) := by decide +kernel
theorem dL_areDancers_43 : decode cL_areDancers 43 = .ok (.istore 8, 2) := by decide +kernel
theorem dL_areDancers_45 : decode cL_areDancers 45 = .ok (.iconst 0, 1) := by decide +kernel
theorem dL_areDancers_46 : decode cL_areDancers 46 = .ok (.istore 9, 2) := by decide +kernel
theorem dL_areDancers_48 : decode cL_areDancers 48 = .ok (.iload 9, 2) := by decide +kernel
theorem dL_areDancers_50 : decode cL_areDancers 50 = .ok (.bipush 10, 2) := by decide +kernel
theorem dL_areDancers_52 : decode cL_areDancers 52 = .ok (.if_icmp .ge 144, 3) := by decide +kernel
theorem dL_areDancers_55 : decode cL_areDancers 55 = .ok (.iload 8, 2) := by decide +kernel
theorem dL_areDancers_57 : decode cL_areDancers 57 = .ok (.ifCond .eq 62, 3) := by decide +kernel
theorem dL_areDancers_60 : decode cL_areDancers 60 = .ok (.aload_n 0, 1) := by decide +kernel
theorem dL_areDancers_61 : decode cL_areDancers 61 = .ok (.iload 9, 2) := by decide +kernel
theorem dL_areDancers_63 : decode cL_areDancers 63 = .ok (.iconst 0, 1) := by decide +kernel
theorem dL_areDancers_64 : decode cL_areDancers 64 = .ok (.invokevirtual 52, 3) := by decide +kernel
theorem dL_areDancers_67 : decode cL_areDancers 67 = .ok (.aload_n 1, 1) := by decide +kernel
theorem dL_areDancers_68 : decode cL_areDancers 68 = .ok (.iload 9, 2) := by decide +kernel
theorem dL_areDancers_70 : decode cL_areDancers 70 = .ok (.iaload, 1) := by decide +kernel
theorem dL_areDancers_71 : decode cL_areDancers 71 = .ok (.if_icmp .ne 48, 3) := by decide +kernel
theorem dL_areDancers_74 : decode cL_areDancers 74 = .ok (.aload_n 0, 1) := by decide +kernel
theorem dL_areDancers_75 : decode cL_areDancers 75 = .ok (.iload 9, 2) := by decide +kernel
theorem dL_areDancers_77 : decode cL_areDancers 77 = .ok (.iconst 1, 1) := by decide +kernel
theorem dL_areDancers_78 : decode cL_areDancers 78 = .ok (.invokevirtual 52, 3) := by decide +kernel
theorem dL_areDancers_81 : decode cL_areDancers 81 = .ok (.aload_n 2, 1) := by decide +kernel
theorem dL_areDancers_82 : decode cL_areDancers 82 = .ok (.iload 9, 2) := by decide +kernel
theorem dL_areDancers_84 : decode cL_areDancers 84 = .ok (.iaload, 1) := by decide +kernel
theorem dL_areDancers_85 : decode cL_areDancers 85 = .ok (.if_icmp .ne 34, 3) := by decide +kernel
theorem dL_areDancers_88 : decode cL_areDancers 88 = .ok (.aload_n 0, 1) := by decide +kernel
theorem dL_areDancers_89 : decode cL_areDancers 89 = .ok (.iload 9, 2) := by decide +kernel
theorem dL_areDancers_91 : decode cL_areDancers 91 = .ok (.iconst 2, 1) := by decide +kernel
theorem dL_areDancers_92 : decode cL_areDancers 92 = .ok (.invokevirtual 52, 3) := by decide +kernel
theorem dL_areDancers_95 : decode cL_areDancers 95 = .ok (.aload_n 3, 1) := by decide +kernel
theorem dL_areDancers_96 : decode cL_areDancers 96 = .ok (.iload 9, 2) := by decide +kernel
theorem dL_areDancers_98 : decode cL_areDancers 98 = .ok (.iaload, 1) := by decide +kernel
theorem dL_areDancers_99 : decode cL_areDancers 99 = .ok (.if_icmp .ne 20, 3) := by decide +kernel
theorem dL_areDancers_102 : decode cL_areDancers 102 = .ok (.aload_n 0, 1) := by decide +kernel
theorem dL_areDancers_103 : decode cL_areDancers 103 = .ok (.aload_n 1, 1) := by decide +kernel
theorem dL_areDancers_104 : decode cL_areDancers 104 = .ok (.iload 9, 2) := by decide +kernel
theorem dL_areDancers_106 : decode cL_areDancers 106 = .ok (.iaload, 1) := by decide +kernel
theorem dL_areDancers_107 : decode cL_areDancers 107 = .ok (.invokevirtual 47, 3) := by decide +kernel
theorem dL_areDancers_110 : decode cL_areDancers 110 = .ok (.iload 9, 2) := by decide +kernel
theorem dL_areDancers_112 : decode cL_areDancers 112 = .ok (.if_icmp .ne 7, 3) := by decide +kernel
theorem dL_areDancers_115 : decode cL_areDancers 115 = .ok (.iconst 1, 1) := by decide +kernel
theorem dL_areDancers_116 : decode cL_areDancers 116 = .ok (.goto 4, 3) := by decide +kernel
theorem dL_areDancers_119 : decode cL_areDancers 119 = .ok (.iconst 0, 1) := by decide +kernel
theorem dL_areDancers_120 : decode cL_areDancers 120 = .ok (.istore 8, 2) := by decide +kernel
theorem dL_areDancers_122 : decode cL_areDancers 122 = .ok (.iload 6, 2) := by decide +kernel
theorem dL_areDancers_124 : decode cL_areDancers 124 = .ok (.aload_n 3, 1) := by decide +kernel
theorem dL_areDancers_125 : decode cL_areDancers 125 = .ok (.iload 9, 2) := by decide +kernel
theorem dL_areDancers_127 : decode cL_areDancers 127 = .ok (.iaload, 1) := by decide +kernel
theorem dL_areDancers_128 : decode cL_areDancers 128 = .ok (.iload 9, 2) := by decide +kernel
theorem dL_areDancers_130 : decode cL_areDancers 130 = .ok (.if_icmp .le 7, 3) := by decide +kernel
theorem dL_areDancers_133 : decode cL_areDancers 133 = .ok (.iconst 1, 1) := by decide +kernel
theorem dL_areDancers_134 : decode cL_areDancers 134 = .ok (.goto 4, 3) := by decide +kernel
theorem dL_areDancers_137 : decode cL_areDancers 137 = .ok (.iconst 0, 1) := by decide +kernel
theorem dL_areDancers_138 : decode cL_areDancers 138 = .ok (.iadd, 1) := by decide +kernel
theorem dL_areDancers_139 : decode cL_areDancers 139 = .ok (.istore 6, 2) := by decide +kernel
theorem dL_areDancers_141 : decode cL_areDancers 141 = .ok (.aload_n 1, 1) := by decide +kernel
theorem dL_areDancers_142 : decode cL_areDancers 142 = .ok (.iload 9, 2) := by decide +kernel
theorem dL_areDancers_144 : decode cL_areDancers 144 = .ok (.iaload, 1) := by decide +kernel
theorem dL_areDancers_145 : decode cL_areDancers 145 = .ok (.iload 9, 2) := by decide +kernel
theorem dL_areDancers_147 : decode cL_areDancers 147 = .ok (.if_icmp .le 13, 3) := by decide +kernel
theorem dL_areDancers_150 : decode cL_areDancers 150 = .ok (.aload_n 1, 1) := by decide +kernel
theorem dL_areDancers_151 : decode cL_areDancers 151 = .ok (.iload 9, 2) := by decide +kernel
theorem dL_areDancers_153 : decode cL_areDancers 153 = .ok (.iaload, 1) := by decide +kernel
theorem dL_areDancers_154 : decode cL_areDancers 154 = .ok (.iload 9, 2) := by decide +kernel
theorem dL_areDancers_156 : decode cL_areDancers 156 = .ok (.isub, 1) := by decide +kernel
theorem dL_areDancers_157 : decode cL_areDancers 157 = .ok (.goto 10, 3) := by decide +kernel
theorem dL_areDancers_160 : decode cL_areDancers 160 = .ok (.iload 9, 2) := by decide +kernel
theorem dL_areDancers_162 : decode cL_areDancers 162 = .ok (.aload_n 1, 1) := by decide +kernel
theorem dL_areDancers_163 : decode cL_areDancers 163 = .ok (.iload 9, 2) := by decide +kernel
theorem dL_areDancers_165 : decode cL_areDancers 165 = .ok (.iaload, 1) := by decide +kernel
theorem dL_areDancers_166 : decode cL_areDancers 166 = .ok (.isub, 1) := by decide +kernel
theorem dL_areDancers_167 : decode cL_areDancers 167 = .ok (.istore 10, 2) := by decide +kernel
theorem dL_areDancers_169 : decode cL_areDancers 169 = .ok (.iload 7, 2) := by decide +kernel
theorem dL_areDancers_171 : decode cL_areDancers 171 = .ok (.iload 10, 2) := by decide +kernel
theorem dL_areDancers_173 : decode cL_areDancers 173 = .ok (.iconst 5, 1) := by decide +kernel
theorem dL_areDancers_174 : decode cL_areDancers 174 = .ok (.if_icmp .le 11, 3) := by decide +kernel
theorem dL_areDancers_177 : decode cL_areDancers 177 = .ok (.bipush 10, 2) := by decide +kernel
theorem dL_areDancers_179 : decode cL_areDancers 179 = .ok (.iload 10, 2) := by decide +kernel
theorem dL_areDancers_181 : decode cL_areDancers 181 = .ok (.isub, 1) := by decide +kernel
theorem dL_areDancers_182 : decode cL_areDancers 182 = .ok (.goto 5, 3) := by decide +kernel
theorem dL_areDancers_185 : decode cL_areDancers 185 = .ok (.iload 10, 2) := by decide +kernel
theorem dL_areDancers_187 : decode cL_areDancers 187 = .ok (.iadd, 1) := by decide +kernel
theorem dL_areDancers_188 : decode cL_areDancers 188 = .ok (.istore 7, 2) := by decide +kernel
theorem dL_areDancers_190 : decode cL_areDancers 190 = .ok (.iinc 9 1, 3) := by decide +kernel
theorem dL_areDancers_193 : decode cL_areDancers 193 = .ok (.goto (-145), 3) := by decide +kernel
theorem dL_areDancers_196 : decode cL_areDancers 196 = .ok (.iconst 0, 1) := by decide +kernel
theorem dL_areDancers_197 : decode cL_areDancers 197 = .ok (.istore 9, 2) := by decide +kernel
theorem dL_areDancers_199 : decode cL_areDancers 199 = .ok (.iconst 0, 1) := by decide +kernel
theorem dL_areDancers_200 : decode cL_areDancers 200 = .ok (.istore 10, 2) := by decide +kernel
theorem dL_areDancers_202 : decode cL_areDancers 202 = .ok (.iload 10, 2) := by decide +kernel
theorem dL_areDancers_204 : decode cL_areDancers 204 = .ok (.bipush 8, 2) := by decide +kernel
theorem dL_areDancers_206 : decode cL_areDancers 206 = .ok (.if_icmp .ge 27, 3) := by decide +kernel
theorem dL_areDancers_209 : decode cL_areDancers 209 = .ok (.iload 9, 2) := by decide +kernel
theorem dL_areDancers_211 : decode cL_areDancers 211 = .ok (.aload 4, 2) := by decide +kernel
theorem dL_areDancers_213 : decode cL_areDancers 213 = .ok (.iload 10, 2) := by decide +kernel
theorem dL_areDancers_215 : decode cL_areDancers 215 = .ok (.iaload, 1) := by decide +kernel
theorem dL_areDancers_216 : decode cL_areDancers 216 = .ok (.ifCond .le 7, 3) := by decide +kernel
theorem dL_areDancers_219 : decode cL_areDancers 219 = .ok (.iconst 1, 1) := by decide +kernel
theorem dL_areDancers_220 : decode cL_areDancers 220 = .ok (.goto 4, 3) := by decide +kernel
theorem dL_areDancers_223 : decode cL_areDancers 223 = .ok (.iconst 0, 1) := by decide +kernel
theorem dL_areDancers_224 : decode cL_areDancers 224 = .ok (.iadd, 1) := by decide +kernel
theorem dL_areDancers_225 : decode cL_areDancers 225 = .ok (.istore 9, 2) := by decide +kernel
theorem dL_areDancers_227 : decode cL_areDancers 227 = .ok (.iinc 10 1, 3) := by decide +kernel
theorem dL_areDancers_230 : decode cL_areDancers 230 = .ok (.goto (-28), 3) := by decide +kernel
theorem dL_areDancers_233 : decode cL_areDancers 233 = .ok (.iload 8, 2) := by decide +kernel
theorem dL_areDancers_235 : decode cL_areDancers 235 = .ok (.ifCond .eq 127, 3) := by decide +kernel
theorem dL_areDancers_238 : decode cL_areDancers 238 = .ok (.aload_n 0, 1) := by decide +kernel
theorem dL_areDancers_239 : decode cL_areDancers 239 = .ok (.iconst 0, 1) := by decide +kernel
theorem dL_areDancers_240 : decode cL_areDancers 240 = .ok (.invokevirtual 56, 3) := by decide +kernel
theorem dL_areDancers_243 : decode cL_areDancers 243 = .ok (.aload_n 1, 1) := by decide +kernel
theorem dL_areDancers_244 : decode cL_areDancers 244 = .ok (.aload_n 2, 1) := by decide +kernel
theorem dL_areDancers_245 : decode cL_areDancers 245 = .ok (.iconst 1, 1) := by decide +kernel
theorem dL_areDancers_246 : decode cL_areDancers 246 = .ok (.invokestatic 39, 3) := by decide +kernel
theorem dL_areDancers_249 : decode cL_areDancers 249 = .ok (.if_icmp .ne 113, 3) := by decide +kernel
theorem dL_areDancers_252 : decode cL_areDancers 252 = .ok (.aload_n 0, 1) := by decide +kernel
theorem dL_areDancers_253 : decode cL_areDancers 253 = .ok (.iconst 1, 1) := by decide +kernel
theorem dL_areDancers_254 : decode cL_areDancers 254 = .ok (.invokevirtual 56, 3) := by decide +kernel
theorem dL_areDancers_257 : decode cL_areDancers 257 = .ok (.aload_n 1, 1) := by decide +kernel
theorem dL_areDancers_258 : decode cL_areDancers 258 = .ok (.aload_n 2, 1) := by decide +kernel
theorem dL_areDancers_259 : decode cL_areDancers 259 = .ok (.iconst 0, 1) := by decide +kernel
theorem dL_areDancers_260 : decode cL_areDancers 260 = .ok (.invokestatic 39, 3) := by decide +kernel
theorem dL_areDancers_263 : decode cL_areDancers 263 = .ok (.if_icmp .ne 99, 3) := by decide +kernel
theorem dL_areDancers_266 : decode cL_areDancers 266 = .ok (.aload_n 0, 1) := by decide +kernel
theorem dL_areDancers_267 : decode cL_areDancers 267 = .ok (.iconst 2, 1) := by decide +kernel
theorem dL_areDancers_268 : decode cL_areDancers 268 = .ok (.invokevirtual 56, 3) := by decide +kernel
theorem dL_areDancers_271 : decode cL_areDancers 271 = .ok (.iload 6, 2) := by decide +kernel
theorem dL_areDancers_273 : decode cL_areDancers 273 = .ok (.if_icmp .ne 89, 3) := by decide +kernel
theorem dL_areDancers_276 : decode cL_areDancers 276 = .ok (.aload_n 0, 1) := by decide +kernel
theorem dL_areDancers_277 : decode cL_areDancers 277 = .ok (.iconst 3, 1) := by decide +kernel
theorem dL_areDancers_278 : decode cL_areDancers 278 = .ok (.invokevirtual 56, 3) := by decide +kernel
theorem dL_areDancers_281 : decode cL_areDancers 281 = .ok (.iload 9, 2) := by decide +kernel
theorem dL_areDancers_283 : decode cL_areDancers 283 = .ok (.if_icmp .ne 79, 3) := by decide +kernel
theorem dL_areDancers_286 : decode cL_areDancers 286 = .ok (.aload_n 0, 1) := by decide +kernel
theorem dL_areDancers_287 : decode cL_areDancers 287 = .ok (.bipush 6, 2) := by decide +kernel
theorem dL_areDancers_289 : decode cL_areDancers 289 = .ok (.invokevirtual 56, 3) := by decide +kernel
theorem dL_areDancers_292 : decode cL_areDancers 292 = .ok (.bipush (-2), 2) := by decide +kernel
theorem dL_areDancers_294 : decode cL_areDancers 294 = .ok (.if_icmp .ne 68, 3) := by decide +kernel
theorem dL_areDancers_297 : decode cL_areDancers 297 = .ok (.aload_n 0, 1) := by decide +kernel
theorem dL_areDancers_298 : decode cL_areDancers 298 = .ok (.iconst 0, 1) := by decide +kernel
theorem dL_areDancers_299 : decode cL_areDancers 299 = .ok (.invokevirtual 59, 3) := by decide +kernel
theorem dL_areDancers_302 : decode cL_areDancers 302 = .ok (.aload 5, 2) := by decide +kernel
theorem dL_areDancers_304 : decode cL_areDancers 304 = .ok (.iconst 0, 1) := by decide +kernel
theorem dL_areDancers_305 : decode cL_areDancers 305 = .ok (.iaload, 1) := by decide +kernel
theorem dL_areDancers_306 : decode cL_areDancers 306 = .ok (.if_icmp .ne 56, 3) := by decide +kernel
theorem dL_areDancers_309 : decode cL_areDancers 309 = .ok (.aload_n 0, 1) := by decide +kernel
theorem dL_areDancers_310 : decode cL_areDancers 310 = .ok (.iconst 1, 1) := by decide +kernel
theorem dL_areDancers_311 : decode cL_areDancers 311 = .ok (.invokevirtual 59, 3) := by decide +kernel
theorem dL_areDancers_314 : decode cL_areDancers 314 = .ok (.aload 5, 2) := by decide +kernel
theorem dL_areDancers_316 : decode cL_areDancers 316 = .ok (.iconst 1, 1) := by decide +kernel
