theorem dX0_init_0 : decode cX0_init 0 = .ok (.aload_n 0, 1) := by decide +kernel
theorem dX0_init_1 : decode cX0_init 1 = .ok (.invokespecial 3, 3) := by decide +kernel
theorem dX0_init_4 : decode cX0_init 4 = .ok (.aload_n 0, 1) := by decide +kernel
theorem dX0_init_5 : decode cX0_init 5 = .ok (.bipush 8, 2) := by decide +kernel
theorem dX0_init_7 : decode cX0_init 7 = .ok (.newarray .int, 2) := by decide +kernel
theorem dX0_init_9 : decode cX0_init 9 = .ok (.putfield 9, 3) := by decide +kernel
theorem dX0_init_12 : decode cX0_init 12 = .ok (.aload_n 0, 1) := by decide +kernel
theorem dX0_init_13 : decode cX0_init 13 = .ok (.bipush 80, 2) := by decide +kernel
theorem dX0_init_15 : decode cX0_init 15 = .ok (.newarray .int, 2) := by decide +kernel
theorem dX0_init_17 : decode cX0_init 17 = .ok (.putfield 15, 3) := by decide +kernel
theorem dX0_init_20 : decode cX0_init 20 = .ok (.return_, 1) := by decide +kernel
theorem dX0_copyFrom_0 : decode cX0_copyFrom 0 = .ok (.aload_n 1, 1) := by decide +kernel
theorem dX0_copyFrom_1 : decode cX0_copyFrom 1 = .ok (.getfield 9, 3) := by decide +kernel
theorem dX0_copyFrom_4 : decode cX0_copyFrom 4 = .ok (.aload_n 0, 1) := by decide +kernel
theorem dX0_copyFrom_5 : decode cX0_copyFrom 5 = .ok (.getfield 9, 3) := by decide +kernel
theorem dX0_copyFrom_8 : decode cX0_copyFrom 8 = .ok (.invokestatic 18, 3) := by decide +kernel
theorem dX0_copyFrom_11 : decode cX0_copyFrom 11 = .ok (.aload_n 1, 1) := by decide +kernel
theorem dX0_copyFrom_12 : decode cX0_copyFrom 12 = .ok (.getfield 15, 3) := by decide +kernel
theorem dX0_copyFrom_15 : decode cX0_copyFrom 15 = .ok (.aload_n 0, 1) := by decide +kernel
theorem dX0_copyFrom_16 : decode cX0_copyFrom 16 = .ok (.getfield 15, 3) := by decide +kernel
theorem dX0_copyFrom_19 : decode cX0_copyFrom 19 = .ok (.invokestatic 18, 3) := by decide +kernel
theorem dX0_copyFrom_22 : decode cX0_copyFrom 22 = .ok (.return_, 1) := by decide +kernel
theorem dX0_size_0 : decode cX0_size 0 = .ok (.aload_n 0, 1) := by decide +kernel
theorem dX0_size_1 : decode cX0_size 1 = .ok (.getfield 9, 3) := by decide +kernel
theorem dX0_size_4 : decode cX0_size 4 = .ok (.iload_n 1, 1) := by decide +kernel
theorem dX0_size_5 : decode cX0_size 5 = .ok (.invokestatic 22, 3) := by decide +kernel
theorem dX0_size_8 : decode cX0_size 8 = .ok (.ireturn, 1) := by decide +kernel
theorem dX0_code_0 : decode cX0_code 0 = .ok (.aload_n 0, 1) := by decide +kernel
theorem dX0_code_1 : decode cX0_code 1 = .ok (.getfield 15, 3) := by decide +kernel
theorem dX0_code_4 : decode cX0_code 4 = .ok (.iload_n 1, 1) := by decide +kernel
theorem dX0_code_5 : decode cX0_code 5 = .ok (.bipush 10, 2) := by decide +kernel
theorem dX0_code_7 : decode cX0_code 7 = .ok (.imul, 1) := by decide +kernel
theorem dX0_code_8 : decode cX0_code 8 = .ok (.iload_n 2, 1) := by decide +kernel
theorem dX0_code_9 : decode cX0_code 9 = .ok (.iadd, 1) := by decide +kernel
theorem dX0_code_10 : decode cX0_code 10 = .ok (.invokestatic 22, 3) := by decide +kernel
theorem dX0_code_13 : decode cX0_code 13 = .ok (.ireturn, 1) := by decide +kernel
theorem dX0_put_0 : decode cX0_put 0 = .ok (.aload_n 0, 1) := by decide +kernel
theorem dX0_put_1 : decode cX0_put 1 = .ok (.iload_n 1, 1) := by decide +kernel
theorem dX0_put_2 : decode cX0_put 2 = .ok (.invokevirtual 26, 3) := by decide +kernel
theorem dX0_put_5 : decode cX0_put 5 = .ok (.istore_n 3, 1) := by decide +kernel
theorem dX0_put_6 : decode cX0_put 6 = .ok (.aload_n 0, 1) := by decide +kernel
theorem dX0_put_7 : decode cX0_put 7 = .ok (.getfield 15, 3) := by decide +kernel
theorem dX0_put_10 : decode cX0_put 10 = .ok (.iload_n 1, 1) := by decide +kernel
theorem dX0_put_11 : decode cX0_put 11 = .ok (.bipush 10, 2) := by decide +kernel
theorem dX0_put_13 : decode cX0_put 13 = .ok (.imul, 1) := by decide +kernel
theorem dX0_put_14 : decode cX0_put 14 = .ok (.iload_n 3, 1) := by decide +kernel
theorem dX0_put_15 : decode cX0_put 15 = .ok (.iadd, 1) := by decide +kernel
theorem dX0_put_16 : decode cX0_put 16 = .ok (.iload_n 2, 1) := by decide +kernel
theorem dX0_put_17 : decode cX0_put 17 = .ok (.invokestatic 30, 3) := by decide +kernel
theorem dX0_put_20 : decode cX0_put 20 = .ok (.aload_n 0, 1) := by decide +kernel
theorem dX0_put_21 : decode cX0_put 21 = .ok (.getfield 9, 3) := by decide +kernel
theorem dX0_put_24 : decode cX0_put 24 = .ok (.iload_n 1, 1) := by decide +kernel
theorem dX0_put_25 : decode cX0_put 25 = .ok (.iload_n 3, 1) := by decide +kernel
theorem dX0_put_26 : decode cX0_put 26 = .ok (.iconst 1, 1) := by decide +kernel
theorem dX0_put_27 : decode cX0_put 27 = .ok (.iadd, 1) := by decide +kernel
theorem dX0_put_28 : decode cX0_put 28 = .ok (.invokestatic 30, 3) := by decide +kernel
theorem dX0_put_31 : decode cX0_put 31 = .ok (.return_, 1) := by decide +kernel
theorem dX0_cut_0 : decode cX0_cut 0 = .ok (.aload_n 0, 1) := by decide +kernel
theorem dX0_cut_1 : decode cX0_cut 1 = .ok (.getfield 9, 3) := by decide +kernel
theorem dX0_cut_4 : decode cX0_cut 4 = .ok (.iload_n 1, 1) := by decide +kernel
theorem dX0_cut_5 : decode cX0_cut 5 = .ok (.aload_n 0, 1) := by decide +kernel
theorem dX0_cut_6 : decode cX0_cut 6 = .ok (.iload_n 1, 1) := by decide +kernel
theorem dX0_cut_7 : decode cX0_cut 7 = .ok (.invokevirtual 26, 3) := by decide +kernel
theorem dX0_cut_10 : decode cX0_cut 10 = .ok (.iconst 1, 1) := by decide +kernel
theorem dX0_cut_11 : decode cX0_cut 11 = .ok (.isub, 1) := by decide +kernel
theorem dX0_cut_12 : decode cX0_cut 12 = .ok (.invokestatic 30, 3) := by decide +kernel
theorem dX0_cut_15 : decode cX0_cut 15 = .ok (.return_, 1) := by decide +kernel
theorem dX0_usedCount_0 : decode cX0_usedCount 0 = .ok (.iconst 0, 1) := by decide +kernel
theorem dX0_usedCount_1 : decode cX0_usedCount 1 = .ok (.istore_n 1, 1) := by decide +kernel
theorem dX0_usedCount_2 : decode cX0_usedCount 2 = .ok (.iconst 0, 1) := by decide +kernel
theorem dX0_usedCount_3 : decode cX0_usedCount 3 = .ok (.istore_n 2, 1) := by decide +kernel
theorem dX0_usedCount_4 : decode cX0_usedCount 4 = .ok (.iload_n 2, 1) := by decide +kernel
theorem dX0_usedCount_5 : decode cX0_usedCount 5 = .ok (.bipush 8, 2) := by decide +kernel
theorem dX0_usedCount_7 : decode cX0_usedCount 7 = .ok (.if_icmp .ge 21, 3) := by decide +kernel
theorem dX0_usedCount_10 : decode cX0_usedCount 10 = .ok (.aload_n 0, 1) := by decide +kernel
theorem dX0_usedCount_11 : decode cX0_usedCount 11 = .ok (.getfield 9, 3) := by decide +kernel
theorem dX0_usedCount_14 : decode cX0_usedCount 14 = .ok (.iload_n 2, 1) := by decide +kernel
theorem dX0_usedCount_15 : decode cX0_usedCount 15 = .ok (.iaload, 1) := by decide +kernel
theorem dX0_usedCount_16 : decode cX0_usedCount 16 = .ok (.ifCond .le 6, 3) := by decide +kernel
theorem dX0_usedCount_19 : decode cX0_usedCount 19 = .ok (.iinc 1 1, 3) := by decide +kernel
theorem dX0_usedCount_22 : decode cX0_usedCount 22 = .ok (.iinc 2 1, 3) := by decide +kernel
theorem dX0_usedCount_25 : decode cX0_usedCount 25 = .ok (.goto (-21), 3) := by decide +kernel
theorem dX0_usedCount_28 : decode cX0_usedCount 28 = .ok (.iload_n 1, 1) := by decide +kernel
theorem dX0_usedCount_29 : decode cX0_usedCount 29 = .ok (.ireturn, 1) := by decide +kernel
theorem dX1_init_0 : decode cX1_init 0 = .ok (.aload_n 0, 1) := by decide +kernel
theorem dX1_init_1 : decode cX1_init 1 = .ok (.invokespecial 3, 3) := by decide +kernel
theorem dX1_init_4 : decode cX1_init 4 = .ok (.aload_n 0, 1) := by decide +kernel
theorem dX1_init_5 : decode cX1_init 5 = .ok (.iconst 5, 1) := by decide +kernel
theorem dX1_init_6 : decode cX1_init 6 = .ok (.anewarray 9, 3) := by decide +kernel
theorem dX1_init_9 : decode cX1_init 9 = .ok (.putfield 11, 3) := by decide +kernel
theorem dX1_init_12 : decode cX1_init 12 = .ok (.aload_n 0, 1) := by decide +kernel
theorem dX1_init_13 : decode cX1_init 13 = .ok (.iconst 0, 1) := by decide +kernel
theorem dX1_init_14 : decode cX1_init 14 = .ok (.putfield 17, 3) := by decide +kernel
theorem dX1_init_17 : decode cX1_init 17 = .ok (.aload_n 0, 1) := by decide +kernel
theorem dX1_init_18 : decode cX1_init 18 = .ok (.iconst 0, 1) := by decide +kernel
theorem dX1_init_19 : decode cX1_init 19 = .ok (.putfield 21, 3) := by decide +kernel
theorem dX1_init_22 : decode cX1_init 22 = .ok (.iconst 0, 1) := by decide +kernel
theorem dX1_init_23 : decode cX1_init 23 = .ok (.istore_n 1, 1) := by decide +kernel
theorem dX1_init_24 : decode cX1_init 24 = .ok (.iload_n 1, 1) := by decide +kernel
theorem dX1_init_25 : decode cX1_init 25 = .ok (.iconst 5, 1) := by decide +kernel
theorem dX1_init_26 : decode cX1_init 26 = .ok (.if_icmp .ge 22, 3) := by decide +kernel
theorem dX1_init_29 : decode cX1_init 29 = .ok (.aload_n 0, 1) := by decide +kernel
theorem dX1_init_30 : decode cX1_init 30 = .ok (.getfield 11, 3) := by decide +kernel
theorem dX1_init_33 : decode cX1_init 33 = .ok (.iload_n 1, 1) := by decide +kernel
theorem dX1_init_34 : decode cX1_init 34 = .ok (.new 9, 3) := by decide +kernel
theorem dX1_init_37 : decode cX1_init 37 = .ok (.dup, 1) := by decide +kernel
theorem dX1_init_38 : decode cX1_init 38 = .ok (.invokespecial 24, 3) := by decide +kernel
theorem dX1_init_41 : decode cX1_init 41 = .ok (.aastore, 1) := by decide +kernel
theorem dX1_init_42 : decode cX1_init 42 = .ok (.iinc 1 1, 3) := by decide +kernel
theorem dX1_init_45 : decode cX1_init 45 = .ok (.goto (-21), 3) := by decide +kernel
theorem dX1_init_48 : decode cX1_init 48 = .ok (.return_, 1) := by decide +kernel
theorem dX1_size_0 : decode cX1_size 0 = .ok (.aload_n 0, 1) := by decide +kernel
theorem dX1_size_1 : decode cX1_size 1 = .ok (.getfield 17, 3) := by decide +kernel
theorem dX1_size_4 : decode cX1_size 4 = .ok (.ireturn, 1) := by decide +kernel
theorem dX1_keep_0 : decode cX1_keep 0 = .ok (.aload_n 0, 1) := by decide +kernel
theorem dX1_keep_1 : decode cX1_keep 1 = .ok (.getfield 21, 3) := by decide +kernel
theorem dX1_keep_4 : decode cX1_keep 4 = .ok (.ifCond .lt 24, 3) := by decide +kernel
theorem dX1_keep_7 : decode cX1_keep 7 = .ok (.aload_n 0, 1) := by decide +kernel
theorem dX1_keep_8 : decode cX1_keep 8 = .ok (.getfield 21, 3) := by decide +kernel
theorem dX1_keep_11 : decode cX1_keep 11 = .ok (.iconst 5, 1) := by decide +kernel
theorem dX1_keep_12 : decode cX1_keep 12 = .ok (.if_icmp .ge 16, 3) := by decide +kernel
theorem dX1_keep_15 : decode cX1_keep 15 = .ok (.aload_n 0, 1) := by decide +kernel
theorem dX1_keep_16 : decode cX1_keep 16 = .ok (.getfield 11, 3) := by decide +kernel
theorem dX1_keep_19 : decode cX1_keep 19 = .ok (.aload_n 0, 1) := by decide +kernel
theorem dX1_keep_20 : decode cX1_keep 20 = .ok (.getfield 21, 3) := by decide +kernel
theorem dX1_keep_23 : decode cX1_keep 23 = .ok (.aaload, 1) := by decide +kernel
theorem dX1_keep_24 : decode cX1_keep 24 = .ok (.aload_n 1, 1) := by decide +kernel
theorem dX1_keep_25 : decode cX1_keep 25 = .ok (.invokevirtual 25, 3) := by decide +kernel
theorem dX1_keep_28 : decode cX1_keep 28 = .ok (.aload_n 0, 1) := by decide +kernel
theorem dX1_keep_29 : decode cX1_keep 29 = .ok (.aload_n 0, 1) := by decide +kernel
theorem dX1_keep_30 : decode cX1_keep 30 = .ok (.getfield 21, 3) := by decide +kernel
theorem dX1_keep_33 : decode cX1_keep 33 = .ok (.iconst 1, 1) := by decide +kernel
theorem dX1_keep_34 : decode cX1_keep 34 = .ok (.iadd, 1) := by decide +kernel
theorem dX1_keep_35 : decode cX1_keep 35 = .ok (.iconst 5, 1) := by decide +kernel
theorem dX1_keep_36 : decode cX1_keep 36 = .ok (.irem, 1) := by decide +kernel
theorem dX1_keep_37 : decode cX1_keep 37 = .ok (.putfield 21, 3) := by decide +kernel
theorem dX1_keep_40 : decode cX1_keep 40 = .ok (.aload_n 0, 1) := by decide +kernel
theorem dX1_keep_41 : decode cX1_keep 41 = .ok (.aload_n 0, 1) := by decide +kernel
theorem dX1_keep_42 : decode cX1_keep 42 = .ok (.getfield 17, 3) := by decide +kernel
theorem dX1_keep_45 : decode cX1_keep 45 = .ok (.iconst 1, 1) := by decide +kernel
theorem dX1_keep_46 : decode cX1_keep 46 = .ok (.iadd, 1) := by decide +kernel
theorem dX1_keep_47 : decode cX1_keep 47 = .ok (.iconst 5, 1) := by decide +kernel
theorem dX1_keep_48 : decode cX1_keep 48 = .ok (.invokestatic 29, 3) := by decide +kernel
theorem dX1_keep_51 : decode cX1_keep 51 = .ok (.putfield 17, 3) := by decide +kernel
theorem dX1_keep_54 : decode cX1_keep 54 = .ok (.return_, 1) := by decide +kernel
theorem dX2_init_0 : decode cX2_init 0 = .ok (.aload_n 0, 1) := by decide +kernel
theorem dX2_init_1 : decode cX2_init 1 = .ok (.invokespecial 3, 3) := by decide +kernel
theorem dX2_init_4 : decode cX2_init 4 = .ok (.aload_n 0, 1) := by decide +kernel
theorem dX2_init_5 : decode cX2_init 5 = .ok (.bipush 10, 2) := by decide +kernel
theorem dX2_init_7 : decode cX2_init 7 = .ok (.newarray .int, 2) := by decide +kernel
theorem dX2_init_9 : decode cX2_init 9 = .ok (.putfield 9, 3) := by decide +kernel
theorem dX2_init_12 : decode cX2_init 12 = .ok (.aload_n 0, 1) := by decide +kernel
theorem dX2_init_13 : decode cX2_init 13 = .ok (.iconst 0, 1) := by decide +kernel
theorem dX2_init_14 : decode cX2_init 14 = .ok (.putfield 15, 3) := by decide +kernel
theorem dX2_init_17 : decode cX2_init 17 = .ok (.iconst 0, 1) := by decide +kernel
theorem dX2_init_18 : decode cX2_init 18 = .ok (.istore_n 1, 1) := by decide +kernel
theorem dX2_init_19 : decode cX2_init 19 = .ok (.iload_n 1, 1) := by decide +kernel
theorem dX2_init_20 : decode cX2_init 20 = .ok (.bipush 10, 2) := by decide +kernel
theorem dX2_init_22 : decode cX2_init 22 = .ok (.if_icmp .ge 17, 3) := by decide +kernel
theorem dX2_init_25 : decode cX2_init 25 = .ok (.aload_n 0, 1) := by decide +kernel
theorem dX2_init_26 : decode cX2_init 26 = .ok (.getfield 9, 3) := by decide +kernel
theorem dX2_init_29 : decode cX2_init 29 = .ok (.iload_n 1, 1) := by decide +kernel
theorem dX2_init_30 : decode cX2_init 30 = .ok (.bipush (-5), 2) := by decide +kernel
theorem dX2_init_32 : decode cX2_init 32 = .ok (.iastore, 1) := by decide +kernel
theorem dX2_init_33 : decode cX2_init 33 = .ok (.iinc 1 1, 3) := by decide +kernel
theorem dX2_init_36 : decode cX2_init 36 = .ok (.goto (-17), 3) := by decide +kernel
theorem dX2_init_39 : decode cX2_init 39 = .ok (.return_, 1) := by decide +kernel
theorem dX2_copyFrom_0 : decode cX2_copyFrom 0 = .ok (.aload_n 1, 1) := by decide +kernel
theorem dX2_copyFrom_1 : decode cX2_copyFrom 1 = .ok (.getfield 9, 3) := by decide +kernel
theorem dX2_copyFrom_4 : decode cX2_copyFrom 4 = .ok (.aload_n 0, 1) := by decide +kernel
theorem dX2_copyFrom_5 : decode cX2_copyFrom 5 = .ok (.getfield 9, 3) := by decide +kernel
theorem dX2_copyFrom_8 : decode cX2_copyFrom 8 = .ok (.invokestatic 19, 3) := by decide +kernel
theorem dX2_copyFrom_11 : decode cX2_copyFrom 11 = .ok (.aload_n 0, 1) := by decide +kernel
theorem dX2_copyFrom_12 : decode cX2_copyFrom 12 = .ok (.aload_n 1, 1) := by decide +kernel
theorem dX2_copyFrom_13 : decode cX2_copyFrom 13 = .ok (.getfield 15, 3) := by decide +kernel
theorem dX2_copyFrom_16 : decode cX2_copyFrom 16 = .ok (.putfield 15, 3) := by decide +kernel
theorem dX2_copyFrom_19 : decode cX2_copyFrom 19 = .ok (.return_, 1) := by decide +kernel
theorem dX2_pairs_0 : decode cX2_pairs 0 = .ok (.aload_n 0, 1) := by decide +kernel
theorem dX2_pairs_1 : decode cX2_pairs 1 = .ok (.getfield 15, 3) := by decide +kernel
theorem dX2_pairs_4 : decode cX2_pairs 4 = .ok (.ireturn, 1) := by decide +kernel
theorem dX2_partner_0 : decode cX2_partner 0 = .ok (.aload_n 0, 1) := by decide +kernel
theorem dX2_partner_1 : decode cX2_partner 1 = .ok (.getfield 9, 3) := by decide +kernel
theorem dX2_partner_4 : decode cX2_partner 4 = .ok (.iload_n 1, 1) := by decide +kernel
theorem dX2_partner_5 : decode cX2_partner 5 = .ok (.invokestatic 23, 3) := by decide +kernel
theorem dX2_partner_8 : decode cX2_partner 8 = .ok (.ireturn, 1) := by decide +kernel
theorem dX2_join_0 : decode cX2_join 0 = .ok (.aload_n 0, 1) := by decide +kernel
theorem dX2_join_1 : decode cX2_join 1 = .ok (.getfield 9, 3) := by decide +kernel
theorem dX2_join_4 : decode cX2_join 4 = .ok (.iload_n 1, 1) := by decide +kernel
theorem dX2_join_5 : decode cX2_join 5 = .ok (.iload_n 2, 1) := by decide +kernel
theorem dX2_join_6 : decode cX2_join 6 = .ok (.invokestatic 27, 3) := by decide +kernel
theorem dX2_join_9 : decode cX2_join 9 = .ok (.aload_n 0, 1) := by decide +kernel
theorem dX2_join_10 : decode cX2_join 10 = .ok (.getfield 9, 3) := by decide +kernel
theorem dX2_join_13 : decode cX2_join 13 = .ok (.iload_n 2, 1) := by decide +kernel
theorem dX2_join_14 : decode cX2_join 14 = .ok (.iload_n 1, 1) := by decide +kernel
theorem dX2_join_15 : decode cX2_join 15 = .ok (.invokestatic 27, 3) := by decide +kernel
theorem dX2_join_18 : decode cX2_join 18 = .ok (.aload_n 0, 1) := by decide +kernel
theorem dX2_join_19 : decode cX2_join 19 = .ok (.dup, 1) := by decide +kernel
theorem dX2_join_20 : decode cX2_join 20 = .ok (.getfield 15, 3) := by decide +kernel
theorem dX2_join_23 : decode cX2_join 23 = .ok (.iconst 1, 1) := by decide +kernel
theorem dX2_join_24 : decode cX2_join 24 = .ok (.iadd, 1) := by decide +kernel
theorem dX2_join_25 : decode cX2_join 25 = .ok (.putfield 15, 3) := by decide +kernel
theorem dX2_join_28 : decode cX2_join 28 = .ok (.return_, 1) := by decide +kernel
theorem dX2_part_0 : decode cX2_part 0 = .ok (.aload_n 0, 1) := by decide +kernel
theorem dX2_part_1 : decode cX2_part 1 = .ok (.getfield 9, 3) := by decide +kernel
theorem dX2_part_4 : decode cX2_part 4 = .ok (.iload_n 1, 1) := by decide +kernel
theorem dX2_part_5 : decode cX2_part 5 = .ok (.bipush (-5), 2) := by decide +kernel
theorem dX2_part_7 : decode cX2_part 7 = .ok (.invokestatic 27, 3) := by decide +kernel
theorem dX2_part_10 : decode cX2_part 10 = .ok (.aload_n 0, 1) := by decide +kernel
theorem dX2_part_11 : decode cX2_part 11 = .ok (.getfield 9, 3) := by decide +kernel
theorem dX2_part_14 : decode cX2_part 14 = .ok (.iload_n 2, 1) := by decide +kernel
theorem dX2_part_15 : decode cX2_part 15 = .ok (.bipush (-5), 2) := by decide +kernel
theorem dX2_part_17 : decode cX2_part 17 = .ok (.invokestatic 27, 3) := by decide +kernel
theorem dX2_part_20 : decode cX2_part 20 = .ok (.aload_n 0, 1) := by decide +kernel
theorem dX2_part_21 : decode cX2_part 21 = .ok (.dup, 1) := by decide +kernel
theorem dX2_part_22 : decode cX2_part 22 = .ok (.getfield 15, 3) := by decide +kernel
theorem dX2_part_25 : decode cX2_part 25 = .ok (.iconst 1, 1) := by decide +kernel
theorem dX2_part_26 : decode cX2_part 26 = .ok (.isub, 1) := by decide +kernel
theorem dX2_part_27 : decode cX2_part 27 = .ok (.putfield 15, 3) := by decide +kernel
theorem dX2_part_30 : decode cX2_part 30 = .ok (.return_, 1) := by decide +kernel
theorem dX2_areKept_0 : decode cX2_areKept 0 = .ok (.aload_n 0, 1) := by decide +kernel
theorem dX2_areKept_1 : decode cX2_areKept 1 = .ok (.getfield 15, 3) := by decide +kernel
theorem dX2_areKept_4 : decode cX2_areKept 4 = .ok (.ifCond .ne 5, 3) := by decide +kernel
theorem dX2_areKept_7 : decode cX2_areKept 7 = .ok (.iconst 1, 1) := by decide +kernel
theorem dX2_areKept_8 : decode cX2_areKept 8 = .ok (.ireturn, 1) := by decide +kernel
theorem dX2_areKept_9 : decode cX2_areKept 9 = .ok (.iconst 0, 1) := by decide +kernel
theorem dX2_areKept_10 : decode cX2_areKept 10 = .ok (.istore_n 2, 1) := by decide +kernel
theorem dX2_areKept_11 : decode cX2_areKept 11 = .ok (.iload_n 2, 1) := by decide +kernel
theorem dX2_areKept_12 : decode cX2_areKept 12 = .ok (.bipush 10, 2) := by decide +kernel
theorem dX2_areKept_14 : decode cX2_areKept 14 = .ok (.if_icmp .ge 20, 3) := by decide +kernel
theorem dX2_areKept_17 : decode cX2_areKept 17 = .ok (.aload_n 0, 1) := by decide +kernel
theorem dX2_areKept_18 : decode cX2_areKept 18 = .ok (.aload_n 1, 1) := by decide +kernel
theorem dX2_areKept_19 : decode cX2_areKept 19 = .ok (.iload_n 2, 1) := by decide +kernel
theorem dX2_areKept_20 : decode cX2_areKept 20 = .ok (.invokevirtual 31, 3) := by decide +kernel
theorem dX2_areKept_23 : decode cX2_areKept 23 = .ok (.ifCond .ne 5, 3) := by decide +kernel
theorem dX2_areKept_26 : decode cX2_areKept 26 = .ok (.iconst 0, 1) := by decide +kernel
theorem dX2_areKept_27 : decode cX2_areKept 27 = .ok (.ireturn, 1) := by decide +kernel
theorem dX2_areKept_28 : decode cX2_areKept 28 = .ok (.iinc 2 1, 3) := by decide +kernel
theorem dX2_areKept_31 : decode cX2_areKept 31 = .ok (.goto (-20), 3) := by decide +kernel
theorem dX2_areKept_34 : decode cX2_areKept 34 = .ok (.iconst 1, 1) := by decide +kernel
theorem dX2_areKept_35 : decode cX2_areKept 35 = .ok (.ireturn, 1) := by decide +kernel
theorem dX2_isKeptAt_0 : decode cX2_isKeptAt 0 = .ok (.aload_n 0, 1) := by decide +kernel
theorem dX2_isKeptAt_1 : decode cX2_isKeptAt 1 = .ok (.aload_n 1, 1) := by decide +kernel
theorem dX2_isKeptAt_2 : decode cX2_isKeptAt 2 = .ok (.iload_n 2, 1) := by decide +kernel
theorem dX2_isKeptAt_3 : decode cX2_isKeptAt 3 = .ok (.invokevirtual 35, 3) := by decide +kernel
theorem dX2_isKeptAt_6 : decode cX2_isKeptAt 6 = .ok (.invokevirtual 41, 3) := by decide +kernel
theorem dX2_isKeptAt_9 : decode cX2_isKeptAt 9 = .ok (.istore_n 3, 1) := by decide +kernel
theorem dX2_isKeptAt_10 : decode cX2_isKeptAt 10 = .ok (.iload_n 3, 1) := by decide +kernel
theorem dX2_isKeptAt_11 : decode cX2_isKeptAt 11 = .ok (.bipush (-5), 2) := by decide +kernel
theorem dX2_isKeptAt_13 : decode cX2_isKeptAt 13 = .ok (.if_icmp .eq 34, 3) := by decide +kernel
theorem dX2_isKeptAt_16 : decode cX2_isKeptAt 16 = .ok (.iload_n 3, 1) := by decide +kernel
theorem dX2_isKeptAt_17 : decode cX2_isKeptAt 17 = .ok (.aload_n 1, 1) := by decide +kernel
theorem dX2_isKeptAt_18 : decode cX2_isKeptAt 18 = .ok (.iload_n 2, 1) := by decide +kernel
theorem dX2_isKeptAt_19 : decode cX2_isKeptAt 19 = .ok (.iconst 1, 1) := by decide +kernel
theorem dX2_isKeptAt_20 : decode cX2_isKeptAt 20 = .ok (.iadd, 1) := by decide +kernel
theorem dX2_isKeptAt_21 : decode cX2_isKeptAt 21 = .ok (.bipush 10, 2) := by decide +kernel
theorem dX2_isKeptAt_23 : decode cX2_isKeptAt 23 = .ok (.irem, 1) := by decide +kernel
theorem dX2_isKeptAt_24 : decode cX2_isKeptAt 24 = .ok (.invokevirtual 35, 3) := by decide +kernel
theorem dX2_isKeptAt_27 : decode cX2_isKeptAt 27 = .ok (.if_icmp .eq 20, 3) := by decide +kernel
theorem dX2_isKeptAt_30 : decode cX2_isKeptAt 30 = .ok (.iload_n 3, 1) := by decide +kernel
theorem dX2_isKeptAt_31 : decode cX2_isKeptAt 31 = .ok (.aload_n 1, 1) := by decide +kernel
theorem dX2_isKeptAt_32 : decode cX2_isKeptAt 32 = .ok (.iload_n 2, 1) := by decide +kernel
theorem dX2_isKeptAt_33 : decode cX2_isKeptAt 33 = .ok (.bipush 10, 2) := by decide +kernel
theorem dX2_isKeptAt_35 : decode cX2_isKeptAt 35 = .ok (.iadd, 1) := by decide +kernel
theorem dX2_isKeptAt_36 : decode cX2_isKeptAt 36 = .ok (.iconst 1, 1) := by decide +kernel
theorem dX2_isKeptAt_37 : decode cX2_isKeptAt 37 = .ok (.isub, 1) := by decide +kernel
theorem dX2_isKeptAt_38 : decode cX2_isKeptAt 38 = .ok (.bipush 10, 2) := by decide +kernel
theorem dX2_isKeptAt_40 : decode cX2_isKeptAt 40 = .ok (.irem, 1) := by decide +kernel
theorem dX2_isKeptAt_41 : decode cX2_isKeptAt 41 = .ok (.invokevirtual 35, 3) := by decide +kernel
theorem dX2_isKeptAt_44 : decode cX2_isKeptAt 44 = .ok (.if_icmp .ne 7, 3) := by decide +kernel
theorem dX2_isKeptAt_47 : decode cX2_isKeptAt 47 = .ok (.iconst 1, 1) := by decide +kernel
theorem dX2_isKeptAt_48 : decode cX2_isKeptAt 48 = .ok (.goto 4, 3) := by decide +kernel
theorem dX2_isKeptAt_51 : decode cX2_isKeptAt 51 = .ok (.iconst 0, 1) := by decide +kernel
theorem dX2_isKeptAt_52 : decode cX2_isKeptAt 52 = .ok (.ireturn, 1) := by decide +kernel
theorem dX2_partNotNeighbors_0 : decode cX2_partNotNeighbors 0 = .ok (.iconst 0, 1) := by decide +kernel
theorem dX2_partNotNeighbors_1 : decode cX2_partNotNeighbors 1 = .ok (.istore_n 2, 1) := by decide +kernel
theorem dX2_partNotNeighbors_2 : decode cX2_partNotNeighbors 2 = .ok (.iconst 0, 1) := by decide +kernel
theorem dX2_partNotNeighbors_3 : decode cX2_partNotNeighbors 3 = .ok (.istore_n 3, 1) := by decide +kernel
theorem dX2_partNotNeighbors_4 : decode cX2_partNotNeighbors 4 = .ok (.iload_n 3, 1) := by decide +kernel
theorem dX2_partNotNeighbors_5 : decode cX2_partNotNeighbors 5 = .ok (.bipush 10, 2) := by decide +kernel
theorem dX2_partNotNeighbors_7 : decode cX2_partNotNeighbors 7 = .ok (.if_icmp .ge 40, 3) := by decide +kernel
theorem dX2_partNotNeighbors_10 : decode cX2_partNotNeighbors 10 = .ok (.aload_n 0, 1) := by decide +kernel
theorem dX2_partNotNeighbors_11 : decode cX2_partNotNeighbors 11 = .ok (.aload_n 1, 1) := by decide +kernel
theorem dX2_partNotNeighbors_12 : decode cX2_partNotNeighbors 12 = .ok (.iload_n 3, 1) := by decide +kernel
theorem dX2_partNotNeighbors_13 : decode cX2_partNotNeighbors 13 = .ok (.invokevirtual 31, 3) := by decide +kernel
theorem dX2_partNotNeighbors_16 : decode cX2_partNotNeighbors 16 = .ok (.ifCond .ne 25, 3) := by decide +kernel
theorem dX2_partNotNeighbors_19 : decode cX2_partNotNeighbors 19 = .ok (.aload_n 1, 1) := by decide +kernel
theorem dX2_partNotNeighbors_20 : decode cX2_partNotNeighbors 20 = .ok (.iload_n 3, 1) := by decide +kernel
theorem dX2_partNotNeighbors_21 : decode cX2_partNotNeighbors 21 = .ok (.invokevirtual 35, 3) := by decide +kernel
theorem dX2_partNotNeighbors_24 : decode cX2_partNotNeighbors 24 = .ok (.istore 4, 2) := by decide +kernel
theorem dX2_partNotNeighbors_26 : decode cX2_partNotNeighbors 26 = .ok (.aload_n 0, 1) := by decide +kernel
theorem dX2_partNotNeighbors_27 : decode cX2_partNotNeighbors 27 = .ok (.iload 4, 2) := by decide +kernel
theorem dX2_partNotNeighbors_29 : decode cX2_partNotNeighbors 29 = .ok (.aload_n 0, 1) := by decide +kernel
theorem dX2_partNotNeighbors_30 : decode cX2_partNotNeighbors 30 = .ok (.iload 4, 2) := by decide +kernel
theorem dX2_partNotNeighbors_32 : decode cX2_partNotNeighbors 32 = .ok (.invokevirtual 41, 3) := by decide +kernel
theorem dX2_partNotNeighbors_35 : decode cX2_partNotNeighbors 35 = .ok (.invokevirtual 44, 3) := by decide +kernel
theorem dX2_partNotNeighbors_38 : decode cX2_partNotNeighbors 38 = .ok (.iinc 2 1, 3) := by decide +kernel
theorem dX2_partNotNeighbors_41 : decode cX2_partNotNeighbors 41 = .ok (.iinc 3 1, 3) := by decide +kernel
theorem dX2_partNotNeighbors_44 : decode cX2_partNotNeighbors 44 = .ok (.goto (-40), 3) := by decide +kernel
theorem dX2_partNotNeighbors_47 : decode cX2_partNotNeighbors 47 = .ok (.iload_n 2, 1) := by decide +kernel
theorem dX2_partNotNeighbors_48 : decode cX2_partNotNeighbors 48 = .ok (.ireturn, 1) := by decide +kernel
theorem dX3_init_0 : decode cX3_init 0 = .ok (.aload_n 0, 1) := by decide +kernel
theorem dX3_init_1 : decode cX3_init 1 = .ok (.invokespecial 3, 3) := by decide +kernel
theorem dX3_init_4 : decode cX3_init 4 = .ok (.aload_n 0, 1) := by decide +kernel
theorem dX3_init_5 : decode cX3_init 5 = .ok (.bipush 8, 2) := by decide +kernel
theorem dX3_init_7 : decode cX3_init 7 = .ok (.newarray .int, 2) := by decide +kernel
theorem dX3_init_9 : decode cX3_init 9 = .ok (.putfield 9, 3) := by decide +kernel
theorem dX3_init_12 : decode cX3_init 12 = .ok (.aload_n 0, 1) := by decide +kernel
theorem dX3_init_13 : decode cX3_init 13 = .ok (.sipush 960, 3) := by decide +kernel
theorem dX3_init_16 : decode cX3_init 16 = .ok (.newarray .int, 2) := by decide +kernel
theorem dX3_init_18 : decode cX3_init 18 = .ok (.putfield 15, 3) := by decide +kernel
theorem dX3_init_21 : decode cX3_init 21 = .ok (.aload_n 0, 1) := by decide +kernel
theorem dX3_init_22 : decode cX3_init 22 = .ok (.bipush 8, 2) := by decide +kernel
theorem dX3_init_24 : decode cX3_init 24 = .ok (.newarray .int, 2) := by decide +kernel
theorem dX3_init_26 : decode cX3_init 26 = .ok (.putfield 18, 3) := by decide +kernel
theorem dX3_init_29 : decode cX3_init 29 = .ok (.aload_n 0, 1) := by decide +kernel
theorem dX3_init_30 : decode cX3_init 30 = .ok (.bipush 8, 2) := by decide +kernel
theorem dX3_init_32 : decode cX3_init 32 = .ok (.newarray .int, 2) := by decide +kernel
theorem dX3_init_34 : decode cX3_init 34 = .ok (.putfield 21, 3) := by decide +kernel
theorem dX3_init_37 : decode cX3_init 37 = .ok (.aload_n 0, 1) := by decide +kernel
theorem dX3_init_38 : decode cX3_init 38 = .ok (.bipush 8, 2) := by decide +kernel
theorem dX3_init_40 : decode cX3_init 40 = .ok (.anewarray 24, 3) := by decide +kernel
theorem dX3_init_43 : decode cX3_init 43 = .ok (.putfield 26, 3) := by decide +kernel
theorem dX3_init_46 : decode cX3_init 46 = .ok (.aload_n 0, 1) := by decide +kernel
theorem dX3_init_47 : decode cX3_init 47 = .ok (.new 24, 3) := by decide +kernel
theorem dX3_init_50 : decode cX3_init 50 = .ok (.dup, 1) := by decide +kernel
theorem dX3_init_51 : decode cX3_init 51 = .ok (.invokespecial 30, 3) := by decide +kernel
theorem dX3_init_54 : decode cX3_init 54 = .ok (.putfield 31, 3) := by decide +kernel
theorem dX3_init_57 : decode cX3_init 57 = .ok (.iconst 0, 1) := by decide +kernel
theorem dX3_init_58 : decode cX3_init 58 = .ok (.istore_n 1, 1) := by decide +kernel
theorem dX3_init_59 : decode cX3_init 59 = .ok (.iload_n 1, 1) := by decide +kernel
theorem dX3_init_60 : decode cX3_init 60 = .ok (.bipush 8, 2) := by decide +kernel
theorem dX3_init_62 : decode cX3_init 62 = .ok (.if_icmp .ge 22, 3) := by decide +kernel
theorem dX3_init_65 : decode cX3_init 65 = .ok (.aload_n 0, 1) := by decide +kernel
theorem dX3_init_66 : decode cX3_init 66 = .ok (.getfield 26, 3) := by decide +kernel
theorem dX3_init_69 : decode cX3_init 69 = .ok (.iload_n 1, 1) := by decide +kernel
theorem dX3_init_70 : decode cX3_init 70 = .ok (.new 24, 3) := by decide +kernel
theorem dX3_init_73 : decode cX3_init 73 = .ok (.dup, 1) := by decide +kernel
theorem dX3_init_74 : decode cX3_init 74 = .ok (.invokespecial 30, 3) := by decide +kernel
theorem dX3_init_77 : decode cX3_init 77 = .ok (.aastore, 1) := by decide +kernel
theorem dX3_init_78 : decode cX3_init 78 = .ok (.iinc 1 1, 3) := by decide +kernel
theorem dX3_init_81 : decode cX3_init 81 = .ok (.goto (-22), 3) := by decide +kernel
theorem dX3_init_84 : decode cX3_init 84 = .ok (.return_, 1) := by decide +kernel
theorem dX3_workOut_0 : decode cX3_workOut 0 = .ok (.iconst 0, 1) := by decide +kernel
theorem dX3_workOut_1 : decode cX3_workOut 1 = .ok (.istore_n 2, 1) := by decide +kernel
theorem dX3_workOut_2 : decode cX3_workOut 2 = .ok (.iload_n 2, 1) := by decide +kernel
theorem dX3_workOut_3 : decode cX3_workOut 3 = .ok (.bipush 8, 2) := by decide +kernel
theorem dX3_workOut_5 : decode cX3_workOut 5 = .ok (.if_icmp .ge 65, 3) := by decide +kernel
theorem dX3_workOut_8 : decode cX3_workOut 8 = .ok (.aload_n 0, 1) := by decide +kernel
theorem dX3_workOut_9 : decode cX3_workOut 9 = .ok (.getfield 9, 3) := by decide +kernel
theorem dX3_workOut_12 : decode cX3_workOut 12 = .ok (.iload_n 2, 1) := by decide +kernel
theorem dX3_workOut_13 : decode cX3_workOut 13 = .ok (.iconst 0, 1) := by decide +kernel
theorem dX3_workOut_14 : decode cX3_workOut 14 = .ok (.iastore, 1) := by decide +kernel
theorem dX3_workOut_15 : decode cX3_workOut 15 = .ok (.aload_n 0, 1) := by decide +kernel
theorem dX3_workOut_16 : decode cX3_workOut 16 = .ok (.getfield 18, 3) := by decide +kernel
theorem dX3_workOut_19 : decode cX3_workOut 19 = .ok (.iload_n 2, 1) := by decide +kernel
theorem dX3_workOut_20 : decode cX3_workOut 20 = .ok (.iconst 0, 1) := by decide +kernel
theorem dX3_workOut_21 : decode cX3_workOut 21 = .ok (.iastore, 1) := by decide +kernel
theorem dX3_workOut_22 : decode cX3_workOut 22 = .ok (.aload_n 0, 1) := by decide +kernel
theorem dX3_workOut_23 : decode cX3_workOut 23 = .ok (.getfield 26, 3) := by decide +kernel
theorem dX3_workOut_26 : decode cX3_workOut 26 = .ok (.iload_n 2, 1) := by decide +kernel
theorem dX3_workOut_27 : decode cX3_workOut 27 = .ok (.aaload, 1) := by decide +kernel
theorem dX3_workOut_28 : decode cX3_workOut 28 = .ok (.invokevirtual 35, 3) := by decide +kernel
theorem dX3_workOut_31 : decode cX3_workOut 31 = .ok (.aload_n 1, 1) := by decide +kernel
theorem dX3_workOut_32 : decode cX3_workOut 32 = .ok (.iload_n 2, 1) := by decide +kernel
theorem dX3_workOut_33 : decode cX3_workOut 33 = .ok (.invokevirtual 38, 3) := by decide +kernel
theorem dX3_workOut_36 : decode cX3_workOut 36 = .ok (.istore_n 3, 1) := by decide +kernel
theorem dX3_workOut_37 : decode cX3_workOut 37 = .ok (.iconst 0, 1) := by decide +kernel
theorem dX3_workOut_38 : decode cX3_workOut 38 = .ok (.istore 4, 2) := by decide +kernel
theorem dX3_workOut_40 : decode cX3_workOut 40 = .ok (.iload 4, 2) := by decide +kernel
theorem dX3_workOut_42 : decode cX3_workOut 42 = .ok (.iload_n 3, 1) := by decide +kernel
theorem dX3_workOut_43 : decode cX3_workOut 43 = .ok (.if_icmp .ge 21, 3) := by decide +kernel
theorem dX3_workOut_46 : decode cX3_workOut 46 = .ok (.aload_n 0, 1) := by decide +kernel
theorem dX3_workOut_47 : decode cX3_workOut 47 = .ok (.iload_n 2, 1) := by decide +kernel
theorem dX3_workOut_48 : decode cX3_workOut 48 = .ok (.aload_n 1, 1) := by decide +kernel
theorem dX3_workOut_49 : decode cX3_workOut 49 = .ok (.iload_n 2, 1) := by decide +kernel
theorem dX3_workOut_50 : decode cX3_workOut 50 = .ok (.iload 4, 2) := by decide +kernel
theorem dX3_workOut_52 : decode cX3_workOut 52 = .ok (.invokevirtual 44, 3) := by decide +kernel
theorem dX3_workOut_55 : decode cX3_workOut 55 = .ok (.invokevirtual 48, 3) := by decide +kernel
theorem dX3_workOut_58 : decode cX3_workOut 58 = .ok (.iinc 4 1, 3) := by decide +kernel
theorem dX3_workOut_61 : decode cX3_workOut 61 = .ok (.goto (-21), 3) := by decide +kernel
theorem dX3_workOut_64 : decode cX3_workOut 64 = .ok (.iinc 2 1, 3) := by decide +kernel
theorem dX3_workOut_67 : decode cX3_workOut 67 = .ok (.goto (-65), 3) := by decide +kernel
theorem dX3_workOut_70 : decode cX3_workOut 70 = .ok (.return_, 1) := by decide +kernel
theorem dX3_include_0 : decode cX3_include 0 = .ok (.iload_n 2, 1) := by decide +kernel
theorem dX3_include_1 : decode cX3_include 1 = .ok (.invokestatic 52, 3) := by decide +kernel
theorem dX3_include_4 : decode cX3_include 4 = .ok (.iconst 4, 1) := by decide +kernel
theorem dX3_include_5 : decode cX3_include 5 = .ok (.if_icmp .ne 15, 3) := by decide +kernel
theorem dX3_include_8 : decode cX3_include 8 = .ok (.aload_n 0, 1) := by decide +kernel
theorem dX3_include_9 : decode cX3_include 9 = .ok (.iload_n 1, 1) := by decide +kernel
theorem dX3_include_10 : decode cX3_include 10 = .ok (.iload_n 2, 1) := by decide +kernel
theorem dX3_include_11 : decode cX3_include 11 = .ok (.invokestatic 55, 3) := by decide +kernel
theorem dX3_include_14 : decode cX3_include 14 = .ok (.invokevirtual 58, 3) := by decide +kernel
theorem dX3_include_17 : decode cX3_include 17 = .ok (.goto 18, 3) := by decide +kernel
theorem dX3_include_20 : decode cX3_include 20 = .ok (.aload_n 0, 1) := by decide +kernel
theorem dX3_include_21 : decode cX3_include 21 = .ok (.iload_n 1, 1) := by decide +kernel
theorem dX3_include_22 : decode cX3_include 22 = .ok (.iload_n 2, 1) := by decide +kernel
theorem dX3_include_23 : decode cX3_include 23 = .ok (.invokevirtual 61, 3) := by decide +kernel
theorem dX3_include_26 : decode cX3_include 26 = .ok (.aload_n 0, 1) := by decide +kernel
theorem dX3_include_27 : decode cX3_include 27 = .ok (.iload_n 1, 1) := by decide +kernel
theorem dX3_include_28 : decode cX3_include 28 = .ok (.invokevirtual 64, 3) := by decide +kernel
theorem dX3_include_31 : decode cX3_include 31 = .ok (.iload_n 2, 1) := by decide +kernel
theorem dX3_include_32 : decode cX3_include 32 = .ok (.invokevirtual 68, 3) := by decide +kernel
theorem dX3_include_35 : decode cX3_include 35 = .ok (.return_, 1) := by decide +kernel
theorem dX3_includeCall_0 : decode cX3_includeCall 0 = .ok (.aload_n 0, 1) := by decide +kernel
theorem dX3_includeCall_1 : decode cX3_includeCall 1 = .ok (.iload_n 2, 1) := by decide +kernel
theorem dX3_includeCall_2 : decode cX3_includeCall 2 = .ok (.invokevirtual 72, 3) := by decide +kernel
theorem dX3_includeCall_5 : decode cX3_includeCall 5 = .ok (.istore_n 3, 1) := by decide +kernel
theorem dX3_includeCall_6 : decode cX3_includeCall 6 = .ok (.iconst 0, 1) := by decide +kernel
theorem dX3_includeCall_7 : decode cX3_includeCall 7 = .ok (.istore 4, 2) := by decide +kernel
theorem dX3_includeCall_9 : decode cX3_includeCall 9 = .ok (.iload 4, 2) := by decide +kernel
theorem dX3_includeCall_11 : decode cX3_includeCall 11 = .ok (.iload_n 3, 1) := by decide +kernel
theorem dX3_includeCall_12 : decode cX3_includeCall 12 = .ok (.if_icmp .ge 28, 3) := by decide +kernel
theorem dX3_includeCall_15 : decode cX3_includeCall 15 = .ok (.aload_n 0, 1) := by decide +kernel
theorem dX3_includeCall_16 : decode cX3_includeCall 16 = .ok (.iload_n 1, 1) := by decide +kernel
theorem dX3_includeCall_17 : decode cX3_includeCall 17 = .ok (.aload_n 0, 1) := by decide +kernel
theorem dX3_includeCall_18 : decode cX3_includeCall 18 = .ok (.getfield 15, 3) := by decide +kernel
theorem dX3_includeCall_21 : decode cX3_includeCall 21 = .ok (.iload_n 2, 1) := by decide +kernel
theorem dX3_includeCall_22 : decode cX3_includeCall 22 = .ok (.bipush 120, 2) := by decide +kernel
theorem dX3_includeCall_24 : decode cX3_includeCall 24 = .ok (.imul, 1) := by decide +kernel
theorem dX3_includeCall_25 : decode cX3_includeCall 25 = .ok (.iload 4, 2) := by decide +kernel
theorem dX3_includeCall_27 : decode cX3_includeCall 27 = .ok (.iadd, 1) := by decide +kernel
theorem dX3_includeCall_28 : decode cX3_includeCall 28 = .ok (.invokestatic 75, 3) := by decide +kernel
theorem dX3_includeCall_31 : decode cX3_includeCall 31 = .ok (.invokevirtual 61, 3) := by decide +kernel
theorem dX3_includeCall_34 : decode cX3_includeCall 34 = .ok (.iinc 4 1, 3) := by decide +kernel
theorem dX3_includeCall_37 : decode cX3_includeCall 37 = .ok (.goto (-28), 3) := by decide +kernel
theorem dX3_includeCall_40 : decode cX3_includeCall 40 = .ok (.aload_n 0, 1) := by decide +kernel
theorem dX3_includeCall_41 : decode cX3_includeCall 41 = .ok (.iload_n 1, 1) := by decide +kernel
theorem dX3_includeCall_42 : decode cX3_includeCall 42 = .ok (.invokevirtual 64, 3) := by decide +kernel
theorem dX3_includeCall_45 : decode cX3_includeCall 45 = .ok (.aload_n 0, 1) := by decide +kernel
theorem dX3_includeCall_46 : decode cX3_includeCall 46 = .ok (.iload_n 2, 1) := by decide +kernel
theorem dX3_includeCall_47 : decode cX3_includeCall 47 = .ok (.invokevirtual 64, 3) := by decide +kernel
theorem dX3_includeCall_50 : decode cX3_includeCall 50 = .ok (.invokevirtual 79, 3) := by decide +kernel
theorem dX3_includeCall_53 : decode cX3_includeCall 53 = .ok (.aload_n 0, 1) := by decide +kernel
theorem dX3_includeCall_54 : decode cX3_includeCall 54 = .ok (.getfield 18, 3) := by decide +kernel
theorem dX3_includeCall_57 : decode cX3_includeCall 57 = .ok (.iload_n 1, 1) := by decide +kernel
theorem dX3_includeCall_58 : decode cX3_includeCall 58 = .ok (.aload_n 0, 1) := by decide +kernel
theorem dX3_includeCall_59 : decode cX3_includeCall 59 = .ok (.iload_n 1, 1) := by decide +kernel
theorem dX3_includeCall_60 : decode cX3_includeCall 60 = .ok (.invokevirtual 83, 3) := by decide +kernel
theorem dX3_includeCall_63 : decode cX3_includeCall 63 = .ok (.aload_n 0, 1) := by decide +kernel
theorem dX3_includeCall_64 : decode cX3_includeCall 64 = .ok (.iload_n 2, 1) := by decide +kernel
theorem dX3_includeCall_65 : decode cX3_includeCall 65 = .ok (.invokevirtual 83, 3) := by decide +kernel
theorem dX3_includeCall_68 : decode cX3_includeCall 68 = .ok (.ior, 1) := by decide +kernel
theorem dX3_includeCall_69 : decode cX3_includeCall 69 = .ok (.iconst 1, 1) := by decide +kernel
theorem dX3_includeCall_70 : decode cX3_includeCall 70 = .ok (.iload_n 2, 1) := by decide +kernel
theorem dX3_includeCall_71 : decode cX3_includeCall 71 = .ok (.ishl, 1) := by decide +kernel
theorem dX3_includeCall_72 : decode cX3_includeCall 72 = .ok (.ior, 1) := by decide +kernel
theorem dX3_includeCall_73 : decode cX3_includeCall 73 = .ok (.invokestatic 86, 3) := by decide +kernel
theorem dX3_includeCall_76 : decode cX3_includeCall 76 = .ok (.return_, 1) := by decide +kernel
theorem dX3_putStep_0 : decode cX3_putStep 0 = .ok (.aload_n 0, 1) := by decide +kernel
theorem dX3_putStep_1 : decode cX3_putStep 1 = .ok (.iload_n 1, 1) := by decide +kernel
theorem dX3_putStep_2 : decode cX3_putStep 2 = .ok (.invokevirtual 72, 3) := by decide +kernel
theorem dX3_putStep_5 : decode cX3_putStep 5 = .ok (.istore_n 3, 1) := by decide +kernel
theorem dX3_putStep_6 : decode cX3_putStep 6 = .ok (.iload_n 3, 1) := by decide +kernel
theorem dX3_putStep_7 : decode cX3_putStep 7 = .ok (.bipush 120, 2) := by decide +kernel
theorem dX3_putStep_9 : decode cX3_putStep 9 = .ok (.if_icmp .ge 28, 3) := by decide +kernel
theorem dX3_putStep_12 : decode cX3_putStep 12 = .ok (.aload_n 0, 1) := by decide +kernel
theorem dX3_putStep_13 : decode cX3_putStep 13 = .ok (.getfield 15, 3) := by decide +kernel
theorem dX3_putStep_16 : decode cX3_putStep 16 = .ok (.iload_n 1, 1) := by decide +kernel
theorem dX3_putStep_17 : decode cX3_putStep 17 = .ok (.bipush 120, 2) := by decide +kernel
theorem dX3_putStep_19 : decode cX3_putStep 19 = .ok (.imul, 1) := by decide +kernel
theorem dX3_putStep_20 : decode cX3_putStep 20 = .ok (.iload_n 3, 1) := by decide +kernel
theorem dX3_putStep_21 : decode cX3_putStep 21 = .ok (.iadd, 1) := by decide +kernel
theorem dX3_putStep_22 : decode cX3_putStep 22 = .ok (.iload_n 2, 1) := by decide +kernel
theorem dX3_putStep_23 : decode cX3_putStep 23 = .ok (.invokestatic 86, 3) := by decide +kernel
theorem dX3_putStep_26 : decode cX3_putStep 26 = .ok (.aload_n 0, 1) := by decide +kernel
theorem dX3_putStep_27 : decode cX3_putStep 27 = .ok (.getfield 9, 3) := by decide +kernel
theorem dX3_putStep_30 : decode cX3_putStep 30 = .ok (.iload_n 1, 1) := by decide +kernel
theorem dX3_putStep_31 : decode cX3_putStep 31 = .ok (.iload_n 3, 1) := by decide +kernel
theorem dX3_putStep_32 : decode cX3_putStep 32 = .ok (.iconst 1, 1) := by decide +kernel
theorem dX3_putStep_33 : decode cX3_putStep 33 = .ok (.iadd, 1) := by decide +kernel
theorem dX3_putStep_34 : decode cX3_putStep 34 = .ok (.invokestatic 86, 3) := by decide +kernel
theorem dX3_putStep_37 : decode cX3_putStep 37 = .ok (.return_, 1) := by decide +kernel
theorem dX3_stepCount_0 : decode cX3_stepCount 0 = .ok (.aload_n 0, 1) := by decide +kernel
theorem dX3_stepCount_1 : decode cX3_stepCount 1 = .ok (.getfield 9, 3) := by decide +kernel
theorem dX3_stepCount_4 : decode cX3_stepCount 4 = .ok (.iload_n 1, 1) := by decide +kernel
theorem dX3_stepCount_5 : decode cX3_stepCount 5 = .ok (.invokestatic 75, 3) := by decide +kernel
theorem dX3_stepCount_8 : decode cX3_stepCount 8 = .ok (.ireturn, 1) := by decide +kernel
theorem dX3_stepInOrder_0 : decode cX3_stepInOrder 0 = .ok (.iload_n 1, 1) := by decide +kernel
theorem dX3_stepInOrder_1 : decode cX3_stepInOrder 1 = .ok (.bipush 120, 2) := by decide +kernel
theorem dX3_stepInOrder_3 : decode cX3_stepInOrder 3 = .ok (.imul, 1) := by decide +kernel
theorem dX3_stepInOrder_4 : decode cX3_stepInOrder 4 = .ok (.istore 4, 2) := by decide +kernel
theorem dX3_stepInOrder_6 : decode cX3_stepInOrder 6 = .ok (.iload_n 3, 1) := by decide +kernel
theorem dX3_stepInOrder_7 : decode cX3_stepInOrder 7 = .ok (.ifCond .eq 28, 3) := by decide +kernel
theorem dX3_stepInOrder_10 : decode cX3_stepInOrder 10 = .ok (.aload_n 0, 1) := by decide +kernel
theorem dX3_stepInOrder_11 : decode cX3_stepInOrder 11 = .ok (.getfield 15, 3) := by decide +kernel
theorem dX3_stepInOrder_14 : decode cX3_stepInOrder 14 = .ok (.iload 4, 2) := by decide +kernel
theorem dX3_stepInOrder_16 : decode cX3_stepInOrder 16 = .ok (.aload_n 0, 1) := by decide +kernel
theorem dX3_stepInOrder_17 : decode cX3_stepInOrder 17 = .ok (.iload_n 1, 1) := by decide +kernel
theorem dX3_stepInOrder_18 : decode cX3_stepInOrder 18 = .ok (.invokevirtual 72, 3) := by decide +kernel
theorem dX3_stepInOrder_21 : decode cX3_stepInOrder 21 = .ok (.iadd, 1) := by decide +kernel
theorem dX3_stepInOrder_22 : decode cX3_stepInOrder 22 = .ok (.iconst 1, 1) := by decide +kernel
theorem dX3_stepInOrder_23 : decode cX3_stepInOrder 23 = .ok (.isub, 1) := by decide +kernel
theorem dX3_stepInOrder_24 : decode cX3_stepInOrder 24 = .ok (.iload_n 2, 1) := by decide +kernel
theorem dX3_stepInOrder_25 : decode cX3_stepInOrder 25 = .ok (.isub, 1) := by decide +kernel
theorem dX3_stepInOrder_26 : decode cX3_stepInOrder 26 = .ok (.invokestatic 75, 3) := by decide +kernel
theorem dX3_stepInOrder_29 : decode cX3_stepInOrder 29 = .ok (.invokestatic 90, 3) := by decide +kernel
theorem dX3_stepInOrder_32 : decode cX3_stepInOrder 32 = .ok (.goto 14, 3) := by decide +kernel
theorem dX3_stepInOrder_35 : decode cX3_stepInOrder 35 = .ok (.aload_n 0, 1) := by decide +kernel
theorem dX3_stepInOrder_36 : decode cX3_stepInOrder 36 = .ok (.getfield 15, 3) := by decide +kernel
theorem dX3_stepInOrder_39 : decode cX3_stepInOrder 39 = .ok (.iload 4, 2) := by decide +kernel
theorem dX3_stepInOrder_41 : decode cX3_stepInOrder 41 = .ok (.iload_n 2, 1) := by decide +kernel
theorem dX3_stepInOrder_42 : decode cX3_stepInOrder 42 = .ok (.iadd, 1) := by decide +kernel
theorem dX3_stepInOrder_43 : decode cX3_stepInOrder 43 = .ok (.invokestatic 75, 3) := by decide +kernel
theorem dX3_stepInOrder_46 : decode cX3_stepInOrder 46 = .ok (.ireturn, 1) := by decide +kernel
theorem dX3_effectOf_0 : decode cX3_effectOf 0 = .ok (.iload_n 1, 1) := by decide +kernel
theorem dX3_effectOf_1 : decode cX3_effectOf 1 = .ok (.invokestatic 93, 3) := by decide +kernel
theorem dX3_effectOf_4 : decode cX3_effectOf 4 = .ok (.ifCond .eq 12, 3) := by decide +kernel
theorem dX3_effectOf_7 : decode cX3_effectOf 7 = .ok (.aload_n 0, 1) := by decide +kernel
theorem dX3_effectOf_8 : decode cX3_effectOf 8 = .ok (.getfield 26, 3) := by decide +kernel
theorem dX3_effectOf_11 : decode cX3_effectOf 11 = .ok (.iload_n 1, 1) := by decide +kernel
theorem dX3_effectOf_12 : decode cX3_effectOf 12 = .ok (.aaload, 1) := by decide +kernel
theorem dX3_effectOf_13 : decode cX3_effectOf 13 = .ok (.goto 7, 3) := by decide +kernel
theorem dX3_effectOf_16 : decode cX3_effectOf 16 = .ok (.aload_n 0, 1) := by decide +kernel
theorem dX3_effectOf_17 : decode cX3_effectOf 17 = .ok (.getfield 31, 3) := by decide +kernel
theorem dX3_effectOf_20 : decode cX3_effectOf 20 = .ok (.areturn, 1) := by decide +kernel
theorem dX3_calledBy_0 : decode cX3_calledBy 0 = .ok (.aload_n 0, 1) := by decide +kernel
theorem dX3_calledBy_1 : decode cX3_calledBy 1 = .ok (.getfield 18, 3) := by decide +kernel
theorem dX3_calledBy_4 : decode cX3_calledBy 4 = .ok (.iload_n 1, 1) := by decide +kernel
theorem dX3_calledBy_5 : decode cX3_calledBy 5 = .ok (.invokestatic 75, 3) := by decide +kernel
theorem dX3_calledBy_8 : decode cX3_calledBy 8 = .ok (.ireturn, 1) := by decide +kernel
theorem dX3_callersOf_0 : decode cX3_callersOf 0 = .ok (.iconst 0, 1) := by decide +kernel
theorem dX3_callersOf_1 : decode cX3_callersOf 1 = .ok (.istore_n 2, 1) := by decide +kernel
theorem dX3_callersOf_2 : decode cX3_callersOf 2 = .ok (.iconst 0, 1) := by decide +kernel
theorem dX3_callersOf_3 : decode cX3_callersOf 3 = .ok (.istore_n 3, 1) := by decide +kernel
theorem dX3_callersOf_4 : decode cX3_callersOf 4 = .ok (.iload_n 3, 1) := by decide +kernel
theorem dX3_callersOf_5 : decode cX3_callersOf 5 = .ok (.bipush 8, 2) := by decide +kernel
theorem dX3_callersOf_7 : decode cX3_callersOf 7 = .ok (.if_icmp .ge 28, 3) := by decide +kernel
theorem dX3_callersOf_10 : decode cX3_callersOf 10 = .ok (.aload_n 0, 1) := by decide +kernel
theorem dX3_callersOf_11 : decode cX3_callersOf 11 = .ok (.getfield 18, 3) := by decide +kernel
theorem dX3_callersOf_14 : decode cX3_callersOf 14 = .ok (.iload_n 3, 1) := by decide +kernel
theorem dX3_callersOf_15 : decode cX3_callersOf 15 = .ok (.iaload, 1) := by decide +kernel
theorem dX3_callersOf_16 : decode cX3_callersOf 16 = .ok (.iconst 1, 1) := by decide +kernel
theorem dX3_callersOf_17 : decode cX3_callersOf 17 = .ok (.iload_n 1, 1) := by decide +kernel
theorem dX3_callersOf_18 : decode cX3_callersOf 18 = .ok (.ishl, 1) := by decide +kernel
theorem dX3_callersOf_19 : decode cX3_callersOf 19 = .ok (.iand, 1) := by decide +kernel
theorem dX3_callersOf_20 : decode cX3_callersOf 20 = .ok (.ifCond .eq 9, 3) := by decide +kernel
theorem dX3_callersOf_23 : decode cX3_callersOf 23 = .ok (.iload_n 2, 1) := by decide +kernel
theorem dX3_callersOf_24 : decode cX3_callersOf 24 = .ok (.iconst 1, 1) := by decide +kernel
theorem dX3_callersOf_25 : decode cX3_callersOf 25 = .ok (.iload_n 3, 1) := by decide +kernel
theorem dX3_callersOf_26 : decode cX3_callersOf 26 = .ok (.ishl, 1) := by decide +kernel
theorem dX3_callersOf_27 : decode cX3_callersOf 27 = .ok (.ior, 1) := by decide +kernel
theorem dX3_callersOf_28 : decode cX3_callersOf 28 = .ok (.istore_n 2, 1) := by decide +kernel
theorem dX3_callersOf_29 : decode cX3_callersOf 29 = .ok (.iinc 3 1, 3) := by decide +kernel
theorem dX3_callersOf_32 : decode cX3_callersOf 32 = .ok (.goto (-28), 3) := by decide +kernel
theorem dX3_callersOf_35 : decode cX3_callersOf 35 = .ok (.iload_n 2, 1) := by decide +kernel
theorem dX3_callersOf_36 : decode cX3_callersOf 36 = .ok (.ireturn, 1) := by decide +kernel
theorem dX3_hasRoom_0 : decode cX3_hasRoom 0 = .ok (.iconst 0, 1) := by decide +kernel
theorem dX3_hasRoom_1 : decode cX3_hasRoom 1 = .ok (.istore 4, 2) := by decide +kernel
theorem dX3_hasRoom_3 : decode cX3_hasRoom 3 = .ok (.iload 4, 2) := by decide +kernel
theorem dX3_hasRoom_5 : decode cX3_hasRoom 5 = .ok (.bipush 8, 2) := by decide +kernel
theorem dX3_hasRoom_7 : decode cX3_hasRoom 7 = .ok (.if_icmp .ge 55, 3) := by decide +kernel
theorem dX3_hasRoom_10 : decode cX3_hasRoom 10 = .ok (.aload_n 0, 1) := by decide +kernel
theorem dX3_hasRoom_11 : decode cX3_hasRoom 11 = .ok (.getfield 21, 3) := by decide +kernel
theorem dX3_hasRoom_14 : decode cX3_hasRoom 14 = .ok (.iload 4, 2) := by decide +kernel
theorem dX3_hasRoom_16 : decode cX3_hasRoom 16 = .ok (.iload 4, 2) := by decide +kernel
theorem dX3_hasRoom_18 : decode cX3_hasRoom 18 = .ok (.iload_n 2, 1) := by decide +kernel
theorem dX3_hasRoom_19 : decode cX3_hasRoom 19 = .ok (.if_icmp .ne 7, 3) := by decide +kernel
theorem dX3_hasRoom_22 : decode cX3_hasRoom 22 = .ok (.iload_n 3, 1) := by decide +kernel
theorem dX3_hasRoom_23 : decode cX3_hasRoom 23 = .ok (.goto 10, 3) := by decide +kernel
theorem dX3_hasRoom_26 : decode cX3_hasRoom 26 = .ok (.aload_n 0, 1) := by decide +kernel
theorem dX3_hasRoom_27 : decode cX3_hasRoom 27 = .ok (.aload_n 1, 1) := by decide +kernel
theorem dX3_hasRoom_28 : decode cX3_hasRoom 28 = .ok (.iload 4, 2) := by decide +kernel
theorem dX3_hasRoom_30 : decode cX3_hasRoom 30 = .ok (.invokevirtual 97, 3) := by decide +kernel
theorem dX3_hasRoom_33 : decode cX3_hasRoom 33 = .ok (.iastore, 1) := by decide +kernel
theorem dX3_hasRoom_34 : decode cX3_hasRoom 34 = .ok (.aload_n 0, 1) := by decide +kernel
theorem dX3_hasRoom_35 : decode cX3_hasRoom 35 = .ok (.getfield 9, 3) := by decide +kernel
theorem dX3_hasRoom_38 : decode cX3_hasRoom 38 = .ok (.iload 4, 2) := by decide +kernel
theorem dX3_hasRoom_40 : decode cX3_hasRoom 40 = .ok (.iaload, 1) := by decide +kernel
theorem dX3_hasRoom_41 : decode cX3_hasRoom 41 = .ok (.aload_n 0, 1) := by decide +kernel
theorem dX3_hasRoom_42 : decode cX3_hasRoom 42 = .ok (.getfield 21, 3) := by decide +kernel
theorem dX3_hasRoom_45 : decode cX3_hasRoom 45 = .ok (.iload 4, 2) := by decide +kernel
theorem dX3_hasRoom_47 : decode cX3_hasRoom 47 = .ok (.iaload, 1) := by decide +kernel
theorem dX3_hasRoom_48 : decode cX3_hasRoom 48 = .ok (.iadd, 1) := by decide +kernel
theorem dX3_hasRoom_49 : decode cX3_hasRoom 49 = .ok (.bipush 120, 2) := by decide +kernel
theorem dX3_hasRoom_51 : decode cX3_hasRoom 51 = .ok (.if_icmp .le 5, 3) := by decide +kernel
theorem dX3_hasRoom_54 : decode cX3_hasRoom 54 = .ok (.iconst 0, 1) := by decide +kernel
theorem dX3_hasRoom_55 : decode cX3_hasRoom 55 = .ok (.ireturn, 1) := by decide +kernel
theorem dX3_hasRoom_56 : decode cX3_hasRoom 56 = .ok (.iinc 4 1, 3) := by decide +kernel
theorem dX3_hasRoom_59 : decode cX3_hasRoom 59 = .ok (.goto (-56), 3) := by decide +kernel
theorem dX3_hasRoom_62 : decode cX3_hasRoom 62 = .ok (.iconst 1, 1) := by decide +kernel
theorem dX3_hasRoom_63 : decode cX3_hasRoom 63 = .ok (.ireturn, 1) := by decide +kernel
theorem dX3_growthByCalls_0 : decode cX3_growthByCalls 0 = .ok (.iconst 0, 1) := by decide +kernel
theorem dX3_growthByCalls_1 : decode cX3_growthByCalls 1 = .ok (.istore_n 3, 1) := by decide +kernel
theorem dX3_growthByCalls_2 : decode cX3_growthByCalls 2 = .ok (.aload_n 1, 1) := by decide +kernel
theorem dX3_growthByCalls_3 : decode cX3_growthByCalls 3 = .ok (.iload_n 2, 1) := by decide +kernel
theorem dX3_growthByCalls_4 : decode cX3_growthByCalls 4 = .ok (.invokevirtual 38, 3) := by decide +kernel
theorem dX3_growthByCalls_7 : decode cX3_growthByCalls 7 = .ok (.istore 4, 2) := by decide +kernel
theorem dX3_growthByCalls_9 : decode cX3_growthByCalls 9 = .ok (.iconst 0, 1) := by decide +kernel
theorem dX3_growthByCalls_10 : decode cX3_growthByCalls 10 = .ok (.istore 5, 2) := by decide +kernel
theorem dX3_growthByCalls_12 : decode cX3_growthByCalls 12 = .ok (.iload 5, 2) := by decide +kernel
theorem dX3_growthByCalls_14 : decode cX3_growthByCalls 14 = .ok (.iload 4, 2) := by decide +kernel
theorem dX3_growthByCalls_16 : decode cX3_growthByCalls 16 = .ok (.if_icmp .ge 42, 3) := by decide +kernel
theorem dX3_growthByCalls_19 : decode cX3_growthByCalls 19 = .ok (.aload_n 1, 1) := by decide +kernel
theorem dX3_growthByCalls_20 : decode cX3_growthByCalls 20 = .ok (.iload_n 2, 1) := by decide +kernel
theorem dX3_growthByCalls_21 : decode cX3_growthByCalls 21 = .ok (.iload 5, 2) := by decide +kernel
theorem dX3_growthByCalls_23 : decode cX3_growthByCalls 23 = .ok (.invokevirtual 44, 3) := by decide +kernel
theorem dX3_growthByCalls_26 : decode cX3_growthByCalls 26 = .ok (.istore 6, 2) := by decide +kernel
theorem dX3_growthByCalls_28 : decode cX3_growthByCalls 28 = .ok (.iload 6, 2) := by decide +kernel
theorem dX3_growthByCalls_30 : decode cX3_growthByCalls 30 = .ok (.invokestatic 52, 3) := by decide +kernel
theorem dX3_growthByCalls_33 : decode cX3_growthByCalls 33 = .ok (.iconst 4, 1) := by decide +kernel
theorem dX3_growthByCalls_34 : decode cX3_growthByCalls 34 = .ok (.if_icmp .ne 18, 3) := by decide +kernel
theorem dX3_growthByCalls_37 : decode cX3_growthByCalls 37 = .ok (.iload_n 3, 1) := by decide +kernel
theorem dX3_growthByCalls_38 : decode cX3_growthByCalls 38 = .ok (.aload_n 0, 1) := by decide +kernel
theorem dX3_growthByCalls_39 : decode cX3_growthByCalls 39 = .ok (.getfield 21, 3) := by decide +kernel
theorem dX3_growthByCalls_42 : decode cX3_growthByCalls 42 = .ok (.iload 6, 2) := by decide +kernel
theorem dX3_growthByCalls_44 : decode cX3_growthByCalls 44 = .ok (.invokestatic 55, 3) := by decide +kernel
theorem dX3_growthByCalls_47 : decode cX3_growthByCalls 47 = .ok (.invokestatic 75, 3) := by decide +kernel
theorem dX3_growthByCalls_50 : decode cX3_growthByCalls 50 = .ok (.iadd, 1) := by decide +kernel
theorem dX3_growthByCalls_51 : decode cX3_growthByCalls 51 = .ok (.istore_n 3, 1) := by decide +kernel
theorem dX3_growthByCalls_52 : decode cX3_growthByCalls 52 = .ok (.iinc 5 1, 3) := by decide +kernel
theorem dX3_growthByCalls_55 : decode cX3_growthByCalls 55 = .ok (.goto (-43), 3) := by decide +kernel
theorem dX3_growthByCalls_58 : decode cX3_growthByCalls 58 = .ok (.iload_n 3, 1) := by decide +kernel
theorem dX3_growthByCalls_59 : decode cX3_growthByCalls 59 = .ok (.ireturn, 1) := by decide +kernel
theorem dX4_init_0 : decode cX4_init 0 = .ok (.aload_n 0, 1) := by decide +kernel
theorem dX4_init_1 : decode cX4_init 1 = .ok (.invokespecial 3, 3) := by decide +kernel
theorem dX4_init_4 : decode cX4_init 4 = .ok (.aload_n 0, 1) := by decide +kernel
theorem dX4_init_5 : decode cX4_init 5 = .ok (.bipush 10, 2) := by decide +kernel
theorem dX4_init_7 : decode cX4_init 7 = .ok (.newarray .int, 2) := by decide +kernel
theorem dX4_init_9 : decode cX4_init 9 = .ok (.putfield 9, 3) := by decide +kernel
theorem dX4_init_12 : decode cX4_init 12 = .ok (.aload_n 0, 1) := by decide +kernel
theorem dX4_init_13 : decode cX4_init 13 = .ok (.bipush 10, 2) := by decide +kernel
theorem dX4_init_15 : decode cX4_init 15 = .ok (.newarray .int, 2) := by decide +kernel
theorem dX4_init_17 : decode cX4_init 17 = .ok (.putfield 15, 3) := by decide +kernel
theorem dX4_init_20 : decode cX4_init 20 = .ok (.aload_n 0, 1) := by decide +kernel
theorem dX4_init_21 : decode cX4_init 21 = .ok (.bipush 10, 2) := by decide +kernel
theorem dX4_init_23 : decode cX4_init 23 = .ok (.newarray .int, 2) := by decide +kernel
theorem dX4_init_25 : decode cX4_init 25 = .ok (.putfield 18, 3) := by decide +kernel
theorem dX4_init_28 : decode cX4_init 28 = .ok (.aload_n 0, 1) := by decide +kernel
theorem dX4_init_29 : decode cX4_init 29 = .ok (.bipush 10, 2) := by decide +kernel
theorem dX4_init_31 : decode cX4_init 31 = .ok (.newarray .int, 2) := by decide +kernel
theorem dX4_init_33 : decode cX4_init 33 = .ok (.putfield 21, 3) := by decide +kernel
theorem dX4_init_36 : decode cX4_init 36 = .ok (.aload_n 0, 1) := by decide +kernel
theorem dX4_init_37 : decode cX4_init 37 = .ok (.invokevirtual 24, 3) := by decide +kernel
theorem dX4_init_40 : decode cX4_init 40 = .ok (.return_, 1) := by decide +kernel
theorem dX4_settle_0 : decode cX4_settle 0 = .ok (.iconst 0, 1) := by decide +kernel
theorem dX4_settle_1 : decode cX4_settle 1 = .ok (.istore_n 1, 1) := by decide +kernel
theorem dX4_settle_2 : decode cX4_settle 2 = .ok (.iload_n 1, 1) := by decide +kernel
theorem dX4_settle_3 : decode cX4_settle 3 = .ok (.bipush 10, 2) := by decide +kernel
theorem dX4_settle_5 : decode cX4_settle 5 = .ok (.if_icmp .ge 23, 3) := by decide +kernel
theorem dX4_settle_8 : decode cX4_settle 8 = .ok (.aload_n 0, 1) := by decide +kernel
theorem dX4_settle_9 : decode cX4_settle 9 = .ok (.getfield 9, 3) := by decide +kernel
theorem dX4_settle_12 : decode cX4_settle 12 = .ok (.iload_n 1, 1) := by decide +kernel
theorem dX4_settle_13 : decode cX4_settle 13 = .ok (.iload_n 1, 1) := by decide +kernel
theorem dX4_settle_14 : decode cX4_settle 14 = .ok (.iastore, 1) := by decide +kernel
theorem dX4_settle_15 : decode cX4_settle 15 = .ok (.aload_n 0, 1) := by decide +kernel
theorem dX4_settle_16 : decode cX4_settle 16 = .ok (.getfield 15, 3) := by decide +kernel
theorem dX4_settle_19 : decode cX4_settle 19 = .ok (.iload_n 1, 1) := by decide +kernel
theorem dX4_settle_20 : decode cX4_settle 20 = .ok (.iconst 0, 1) := by decide +kernel
theorem dX4_settle_21 : decode cX4_settle 21 = .ok (.iastore, 1) := by decide +kernel
theorem dX4_settle_22 : decode cX4_settle 22 = .ok (.iinc 1 1, 3) := by decide +kernel
theorem dX4_settle_25 : decode cX4_settle 25 = .ok (.goto (-23), 3) := by decide +kernel
theorem dX4_settle_28 : decode cX4_settle 28 = .ok (.return_, 1) := by decide +kernel
theorem dX4_copyFrom_0 : decode cX4_copyFrom 0 = .ok (.aload_n 1, 1) := by decide +kernel
theorem dX4_copyFrom_1 : decode cX4_copyFrom 1 = .ok (.getfield 9, 3) := by decide +kernel
theorem dX4_copyFrom_4 : decode cX4_copyFrom 4 = .ok (.aload_n 0, 1) := by decide +kernel
theorem dX4_copyFrom_5 : decode cX4_copyFrom 5 = .ok (.getfield 9, 3) := by decide +kernel
theorem dX4_copyFrom_8 : decode cX4_copyFrom 8 = .ok (.invokestatic 27, 3) := by decide +kernel
theorem dX4_copyFrom_11 : decode cX4_copyFrom 11 = .ok (.aload_n 1, 1) := by decide +kernel
theorem dX4_copyFrom_12 : decode cX4_copyFrom 12 = .ok (.getfield 15, 3) := by decide +kernel
theorem dX4_copyFrom_15 : decode cX4_copyFrom 15 = .ok (.aload_n 0, 1) := by decide +kernel
theorem dX4_copyFrom_16 : decode cX4_copyFrom 16 = .ok (.getfield 15, 3) := by decide +kernel
theorem dX4_copyFrom_19 : decode cX4_copyFrom 19 = .ok (.invokestatic 27, 3) := by decide +kernel
theorem dX4_copyFrom_22 : decode cX4_copyFrom 22 = .ok (.return_, 1) := by decide +kernel
theorem dX4_dancerAt_0 : decode cX4_dancerAt 0 = .ok (.aload_n 0, 1) := by decide +kernel
theorem dX4_dancerAt_1 : decode cX4_dancerAt 1 = .ok (.getfield 9, 3) := by decide +kernel
theorem dX4_dancerAt_4 : decode cX4_dancerAt 4 = .ok (.iload_n 1, 1) := by decide +kernel
theorem dX4_dancerAt_5 : decode cX4_dancerAt 5 = .ok (.invokestatic 31, 3) := by decide +kernel
theorem dX4_dancerAt_8 : decode cX4_dancerAt 8 = .ok (.ireturn, 1) := by decide +kernel
theorem dX4_faceAt_0 : decode cX4_faceAt 0 = .ok (.aload_n 0, 1) := by decide +kernel
theorem dX4_faceAt_1 : decode cX4_faceAt 1 = .ok (.getfield 15, 3) := by decide +kernel
theorem dX4_faceAt_4 : decode cX4_faceAt 4 = .ok (.iload_n 1, 1) := by decide +kernel
theorem dX4_faceAt_5 : decode cX4_faceAt 5 = .ok (.invokestatic 31, 3) := by decide +kernel
theorem dX4_faceAt_8 : decode cX4_faceAt 8 = .ok (.ireturn, 1) := by decide +kernel
theorem dX4_placeOf_0 : decode cX4_placeOf 0 = .ok (.iconst 0, 1) := by decide +kernel
theorem dX4_placeOf_1 : decode cX4_placeOf 1 = .ok (.istore_n 2, 1) := by decide +kernel
theorem dX4_placeOf_2 : decode cX4_placeOf 2 = .ok (.iload_n 2, 1) := by decide +kernel
theorem dX4_placeOf_3 : decode cX4_placeOf 3 = .ok (.bipush 10, 2) := by decide +kernel
theorem dX4_placeOf_5 : decode cX4_placeOf 5 = .ok (.if_icmp .ge 21, 3) := by decide +kernel
theorem dX4_placeOf_8 : decode cX4_placeOf 8 = .ok (.aload_n 0, 1) := by decide +kernel
theorem dX4_placeOf_9 : decode cX4_placeOf 9 = .ok (.getfield 9, 3) := by decide +kernel
theorem dX4_placeOf_12 : decode cX4_placeOf 12 = .ok (.iload_n 2, 1) := by decide +kernel
theorem dX4_placeOf_13 : decode cX4_placeOf 13 = .ok (.iaload, 1) := by decide +kernel
theorem dX4_placeOf_14 : decode cX4_placeOf 14 = .ok (.iload_n 1, 1) := by decide +kernel
theorem dX4_placeOf_15 : decode cX4_placeOf 15 = .ok (.if_icmp .ne 5, 3) := by decide +kernel
theorem dX4_placeOf_18 : decode cX4_placeOf 18 = .ok (.iload_n 2, 1) := by decide +kernel
theorem dX4_placeOf_19 : decode cX4_placeOf 19 = .ok (.ireturn, 1) := by decide +kernel
theorem dX4_placeOf_20 : decode cX4_placeOf 20 = .ok (.iinc 2 1, 3) := by decide +kernel
theorem dX4_placeOf_23 : decode cX4_placeOf 23 = .ok (.goto (-21), 3) := by decide +kernel
theorem dX4_placeOf_26 : decode cX4_placeOf 26 = .ok (.iconst (-1), 1) := by decide +kernel
theorem dX4_placeOf_27 : decode cX4_placeOf 27 = .ok (.ireturn, 1) := by decide +kernel
theorem dX4_make_0 : decode cX4_make 0 = .ok (.iload_n 1, 1) := by decide +kernel
theorem dX4_make_1 : decode cX4_make 1 = .ok (.invokestatic 35, 3) := by decide +kernel
theorem dX4_make_4 : decode cX4_make 4 = .ok (.istore_n 2, 1) := by decide +kernel
theorem dX4_make_5 : decode cX4_make 5 = .ok (.iload_n 1, 1) := by decide +kernel
theorem dX4_make_6 : decode cX4_make 6 = .ok (.invokestatic 39, 3) := by decide +kernel
theorem dX4_make_9 : decode cX4_make 9 = .ok (.istore_n 3, 1) := by decide +kernel
theorem dX4_make_10 : decode cX4_make 10 = .ok (.iload_n 1, 1) := by decide +kernel
theorem dX4_make_11 : decode cX4_make 11 = .ok (.invokestatic 42, 3) := by decide +kernel
theorem dX4_make_14 : decode cX4_make 14 = .ok (.tableswitch 65 0 3 #[30, 39, 48, 56], 30) := by decide +kernel
theorem dX4_make_44 : decode cX4_make 44 = .ok (.aload_n 0, 1) := by decide +kernel
theorem dX4_make_45 : decode cX4_make 45 = .ok (.iload_n 2, 1) := by decide +kernel
theorem dX4_make_46 : decode cX4_make 46 = .ok (.iload_n 3, 1) := by decide +kernel
theorem dX4_make_47 : decode cX4_make 47 = .ok (.invokevirtual 45, 3) := by decide +kernel
theorem dX4_make_50 : decode cX4_make 50 = .ok (.goto 29, 3) := by decide +kernel
theorem dX4_make_53 : decode cX4_make 53 = .ok (.aload_n 0, 1) := by decide +kernel
theorem dX4_make_54 : decode cX4_make 54 = .ok (.iload_n 2, 1) := by decide +kernel
theorem dX4_make_55 : decode cX4_make 55 = .ok (.iload_n 3, 1) := by decide +kernel
theorem dX4_make_56 : decode cX4_make 56 = .ok (.invokevirtual 49, 3) := by decide +kernel
theorem dX4_make_59 : decode cX4_make 59 = .ok (.goto 20, 3) := by decide +kernel
theorem dX4_make_62 : decode cX4_make 62 = .ok (.aload_n 0, 1) := by decide +kernel
theorem dX4_make_63 : decode cX4_make 63 = .ok (.iload_n 2, 1) := by decide +kernel
theorem dX4_make_64 : decode cX4_make 64 = .ok (.invokevirtual 52, 3) := by decide +kernel
theorem dX4_make_67 : decode cX4_make 67 = .ok (.goto 12, 3) := by decide +kernel
theorem dX4_make_70 : decode cX4_make 70 = .ok (.aload_n 0, 1) := by decide +kernel
theorem dX4_make_71 : decode cX4_make 71 = .ok (.iload_n 2, 1) := by decide +kernel
theorem dX4_make_72 : decode cX4_make 72 = .ok (.iload_n 3, 1) := by decide +kernel
theorem dX4_make_73 : decode cX4_make 73 = .ok (.invokevirtual 56, 3) := by decide +kernel
theorem dX4_make_76 : decode cX4_make 76 = .ok (.goto 3, 3) := by decide +kernel
theorem dX4_make_79 : decode cX4_make 79 = .ok (.return_, 1) := by decide +kernel
theorem dX4_exchange_0 : decode cX4_exchange 0 = .ok (.aload_n 0, 1) := by decide +kernel
theorem dX4_exchange_1 : decode cX4_exchange 1 = .ok (.getfield 9, 3) := by decide +kernel
theorem dX4_exchange_4 : decode cX4_exchange 4 = .ok (.iload_n 1, 1) := by decide +kernel
theorem dX4_exchange_5 : decode cX4_exchange 5 = .ok (.invokestatic 31, 3) := by decide +kernel
theorem dX4_exchange_8 : decode cX4_exchange 8 = .ok (.istore_n 3, 1) := by decide +kernel
theorem dX4_exchange_9 : decode cX4_exchange 9 = .ok (.aload_n 0, 1) := by decide +kernel
theorem dX4_exchange_10 : decode cX4_exchange 10 = .ok (.getfield 15, 3) := by decide +kernel
theorem dX4_exchange_13 : decode cX4_exchange 13 = .ok (.iload_n 1, 1) := by decide +kernel
theorem dX4_exchange_14 : decode cX4_exchange 14 = .ok (.invokestatic 31, 3) := by decide +kernel
theorem dX4_exchange_17 : decode cX4_exchange 17 = .ok (.istore 4, 2) := by decide +kernel
theorem dX4_exchange_19 : decode cX4_exchange 19 = .ok (.aload_n 0, 1) := by decide +kernel
theorem dX4_exchange_20 : decode cX4_exchange 20 = .ok (.getfield 9, 3) := by decide +kernel
theorem dX4_exchange_23 : decode cX4_exchange 23 = .ok (.iload_n 1, 1) := by decide +kernel
theorem dX4_exchange_24 : decode cX4_exchange 24 = .ok (.aload_n 0, 1) := by decide +kernel
theorem dX4_exchange_25 : decode cX4_exchange 25 = .ok (.getfield 9, 3) := by decide +kernel
theorem dX4_exchange_28 : decode cX4_exchange 28 = .ok (.iload_n 2, 1) := by decide +kernel
theorem dX4_exchange_29 : decode cX4_exchange 29 = .ok (.invokestatic 31, 3) := by decide +kernel
theorem dX4_exchange_32 : decode cX4_exchange 32 = .ok (.invokestatic 59, 3) := by decide +kernel
theorem dX4_exchange_35 : decode cX4_exchange 35 = .ok (.aload_n 0, 1) := by decide +kernel
theorem dX4_exchange_36 : decode cX4_exchange 36 = .ok (.getfield 15, 3) := by decide +kernel
theorem dX4_exchange_39 : decode cX4_exchange 39 = .ok (.iload_n 1, 1) := by decide +kernel
theorem dX4_exchange_40 : decode cX4_exchange 40 = .ok (.aload_n 0, 1) := by decide +kernel
theorem dX4_exchange_41 : decode cX4_exchange 41 = .ok (.getfield 15, 3) := by decide +kernel
theorem dX4_exchange_44 : decode cX4_exchange 44 = .ok (.iload_n 2, 1) := by decide +kernel
theorem dX4_exchange_45 : decode cX4_exchange 45 = .ok (.invokestatic 31, 3) := by decide +kernel
theorem dX4_exchange_48 : decode cX4_exchange 48 = .ok (.invokestatic 59, 3) := by decide +kernel
theorem dX4_exchange_51 : decode cX4_exchange 51 = .ok (.aload_n 0, 1) := by decide +kernel
theorem dX4_exchange_52 : decode cX4_exchange 52 = .ok (.getfield 9, 3) := by decide +kernel
theorem dX4_exchange_55 : decode cX4_exchange 55 = .ok (.iload_n 2, 1) := by decide +kernel
theorem dX4_exchange_56 : decode cX4_exchange 56 = .ok (.iload_n 3, 1) := by decide +kernel
theorem dX4_exchange_57 : decode cX4_exchange 57 = .ok (.invokestatic 59, 3) := by decide +kernel
theorem dX4_exchange_60 : decode cX4_exchange 60 = .ok (.aload_n 0, 1) := by decide +kernel
theorem dX4_exchange_61 : decode cX4_exchange 61 = .ok (.getfield 15, 3) := by decide +kernel
theorem dX4_exchange_64 : decode cX4_exchange 64 = .ok (.iload_n 2, 1) := by decide +kernel
theorem dX4_exchange_65 : decode cX4_exchange 65 = .ok (.iload 4, 2) := by decide +kernel
theorem dX4_exchange_67 : decode cX4_exchange 67 = .ok (.invokestatic 59, 3) := by decide +kernel
theorem dX4_exchange_70 : decode cX4_exchange 70 = .ok (.return_, 1) := by decide +kernel
theorem dX4_turn_0 : decode cX4_turn 0 = .ok (.aload_n 0, 1) := by decide +kernel
theorem dX4_turn_1 : decode cX4_turn 1 = .ok (.getfield 15, 3) := by decide +kernel
theorem dX4_turn_4 : decode cX4_turn 4 = .ok (.iload_n 1, 1) := by decide +kernel
theorem dX4_turn_5 : decode cX4_turn 5 = .ok (.aload_n 0, 1) := by decide +kernel
theorem dX4_turn_6 : decode cX4_turn 6 = .ok (.getfield 15, 3) := by decide +kernel
theorem dX4_turn_9 : decode cX4_turn 9 = .ok (.iload_n 1, 1) := by decide +kernel
theorem dX4_turn_10 : decode cX4_turn 10 = .ok (.invokestatic 31, 3) := by decide +kernel
theorem dX4_turn_13 : decode cX4_turn 13 = .ok (.iload_n 2, 1) := by decide +kernel
theorem dX4_turn_14 : decode cX4_turn 14 = .ok (.iadd, 1) := by decide +kernel
theorem dX4_turn_15 : decode cX4_turn 15 = .ok (.iconst 4, 1) := by decide +kernel
theorem dX4_turn_16 : decode cX4_turn 16 = .ok (.irem, 1) := by decide +kernel
theorem dX4_turn_17 : decode cX4_turn 17 = .ok (.invokestatic 59, 3) := by decide +kernel
theorem dX4_turn_20 : decode cX4_turn 20 = .ok (.return_, 1) := by decide +kernel
theorem dX4_shift_0 : decode cX4_shift 0 = .ok (.aload_n 0, 1) := by decide +kernel
theorem dX4_shift_1 : decode cX4_shift 1 = .ok (.invokevirtual 63, 3) := by decide +kernel
theorem dX4_shift_4 : decode cX4_shift 4 = .ok (.iconst 0, 1) := by decide +kernel
theorem dX4_shift_5 : decode cX4_shift 5 = .ok (.istore_n 2, 1) := by decide +kernel
theorem dX4_shift_6 : decode cX4_shift 6 = .ok (.iload_n 2, 1) := by decide +kernel
theorem dX4_shift_7 : decode cX4_shift 7 = .ok (.bipush 10, 2) := by decide +kernel
theorem dX4_shift_9 : decode cX4_shift 9 = .ok (.if_icmp .ge 44, 3) := by decide +kernel
theorem dX4_shift_12 : decode cX4_shift 12 = .ok (.iload_n 2, 1) := by decide +kernel
theorem dX4_shift_13 : decode cX4_shift 13 = .ok (.iload_n 1, 1) := by decide +kernel
theorem dX4_shift_14 : decode cX4_shift 14 = .ok (.iadd, 1) := by decide +kernel
theorem dX4_shift_15 : decode cX4_shift 15 = .ok (.bipush 10, 2) := by decide +kernel
theorem dX4_shift_17 : decode cX4_shift 17 = .ok (.irem, 1) := by decide +kernel
theorem dX4_shift_18 : decode cX4_shift 18 = .ok (.istore_n 3, 1) := by decide +kernel
theorem dX4_shift_19 : decode cX4_shift 19 = .ok (.aload_n 0, 1) := by decide +kernel
theorem dX4_shift_20 : decode cX4_shift 20 = .ok (.getfield 9, 3) := by decide +kernel
theorem dX4_shift_23 : decode cX4_shift 23 = .ok (.iload_n 3, 1) := by decide +kernel
theorem dX4_shift_24 : decode cX4_shift 24 = .ok (.aload_n 0, 1) := by decide +kernel
theorem dX4_shift_25 : decode cX4_shift 25 = .ok (.getfield 18, 3) := by decide +kernel
theorem dX4_shift_28 : decode cX4_shift 28 = .ok (.iload_n 2, 1) := by decide +kernel
theorem dX4_shift_29 : decode cX4_shift 29 = .ok (.iaload, 1) := by decide +kernel
theorem dX4_shift_30 : decode cX4_shift 30 = .ok (.invokestatic 59, 3) := by decide +kernel
theorem dX4_shift_33 : decode cX4_shift 33 = .ok (.aload_n 0, 1) := by decide +kernel
theorem dX4_shift_34 : decode cX4_shift 34 = .ok (.getfield 15, 3) := by decide +kernel
theorem dX4_shift_37 : decode cX4_shift 37 = .ok (.iload_n 3, 1) := by decide +kernel
theorem dX4_shift_38 : decode cX4_shift 38 = .ok (.aload_n 0, 1) := by decide +kernel
theorem dX4_shift_39 : decode cX4_shift 39 = .ok (.getfield 21, 3) := by decide +kernel
theorem dX4_shift_42 : decode cX4_shift 42 = .ok (.iload_n 2, 1) := by decide +kernel
theorem dX4_shift_43 : decode cX4_shift 43 = .ok (.iaload, 1) := by decide +kernel
theorem dX4_shift_44 : decode cX4_shift 44 = .ok (.invokestatic 59, 3) := by decide +kernel
theorem dX4_shift_47 : decode cX4_shift 47 = .ok (.iinc 2 1, 3) := by decide +kernel
theorem dX4_shift_50 : decode cX4_shift 50 = .ok (.goto (-44), 3) := by decide +kernel
theorem dX4_shift_53 : decode cX4_shift 53 = .ok (.return_, 1) := by decide +kernel
theorem dX4_mirror_0 : decode cX4_mirror 0 = .ok (.iload_n 1, 1) := by decide +kernel
theorem dX4_mirror_1 : decode cX4_mirror 1 = .ok (.istore_n 3, 1) := by decide +kernel
theorem dX4_mirror_2 : decode cX4_mirror 2 = .ok (.iload_n 3, 1) := by decide +kernel
theorem dX4_mirror_3 : decode cX4_mirror 3 = .ok (.iload_n 2, 1) := by decide +kernel
theorem dX4_mirror_4 : decode cX4_mirror 4 = .ok (.if_icmp .gt 15, 3) := by decide +kernel
theorem dX4_mirror_7 : decode cX4_mirror 7 = .ok (.aload_n 0, 1) := by decide +kernel
theorem dX4_mirror_8 : decode cX4_mirror 8 = .ok (.iload_n 3, 1) := by decide +kernel
theorem dX4_mirror_9 : decode cX4_mirror 9 = .ok (.iconst 2, 1) := by decide +kernel
theorem dX4_mirror_10 : decode cX4_mirror 10 = .ok (.invokevirtual 49, 3) := by decide +kernel
theorem dX4_mirror_13 : decode cX4_mirror 13 = .ok (.iinc 3 1, 3) := by decide +kernel
theorem dX4_mirror_16 : decode cX4_mirror 16 = .ok (.goto (-14), 3) := by decide +kernel
theorem dX4_mirror_19 : decode cX4_mirror 19 = .ok (.iconst 0, 1) := by decide +kernel
theorem dX4_mirror_20 : decode cX4_mirror 20 = .ok (.istore_n 3, 1) := by decide +kernel
theorem dX4_mirror_21 : decode cX4_mirror 21 = .ok (.iload_n 1, 1) := by decide +kernel
theorem dX4_mirror_22 : decode cX4_mirror 22 = .ok (.iload_n 3, 1) := by decide +kernel
theorem dX4_mirror_23 : decode cX4_mirror 23 = .ok (.iadd, 1) := by decide +kernel
theorem dX4_mirror_24 : decode cX4_mirror 24 = .ok (.iload_n 2, 1) := by decide +kernel
theorem dX4_mirror_25 : decode cX4_mirror 25 = .ok (.iload_n 3, 1) := by decide +kernel
theorem dX4_mirror_26 : decode cX4_mirror 26 = .ok (.isub, 1) := by decide +kernel
theorem dX4_mirror_27 : decode cX4_mirror 27 = .ok (.if_icmp .ge 19, 3) := by decide +kernel
theorem dX4_mirror_30 : decode cX4_mirror 30 = .ok (.aload_n 0, 1) := by decide +kernel
theorem dX4_mirror_31 : decode cX4_mirror 31 = .ok (.iload_n 1, 1) := by decide +kernel
theorem dX4_mirror_32 : decode cX4_mirror 32 = .ok (.iload_n 3, 1) := by decide +kernel
theorem dX4_mirror_33 : decode cX4_mirror 33 = .ok (.iadd, 1) := by decide +kernel
theorem dX4_mirror_34 : decode cX4_mirror 34 = .ok (.iload_n 2, 1) := by decide +kernel
theorem dX4_mirror_35 : decode cX4_mirror 35 = .ok (.iload_n 3, 1) := by decide +kernel
theorem dX4_mirror_36 : decode cX4_mirror 36 = .ok (.isub, 1) := by decide +kernel
theorem dX4_mirror_37 : decode cX4_mirror 37 = .ok (.invokevirtual 45, 3) := by decide +kernel
theorem dX4_mirror_40 : decode cX4_mirror 40 = .ok (.iinc 3 1, 3) := by decide +kernel
theorem dX4_mirror_43 : decode cX4_mirror 43 = .ok (.goto (-22), 3) := by decide +kernel
theorem dX4_mirror_46 : decode cX4_mirror 46 = .ok (.return_, 1) := by decide +kernel
theorem dX4_remember_0 : decode cX4_remember 0 = .ok (.aload_n 0, 1) := by decide +kernel
theorem dX4_remember_1 : decode cX4_remember 1 = .ok (.getfield 9, 3) := by decide +kernel
theorem dX4_remember_4 : decode cX4_remember 4 = .ok (.aload_n 0, 1) := by decide +kernel
theorem dX4_remember_5 : decode cX4_remember 5 = .ok (.getfield 18, 3) := by decide +kernel
theorem dX4_remember_8 : decode cX4_remember 8 = .ok (.invokestatic 27, 3) := by decide +kernel
theorem dX4_remember_11 : decode cX4_remember 11 = .ok (.aload_n 0, 1) := by decide +kernel
theorem dX4_remember_12 : decode cX4_remember 12 = .ok (.getfield 15, 3) := by decide +kernel
theorem dX4_remember_15 : decode cX4_remember 15 = .ok (.aload_n 0, 1) := by decide +kernel
theorem dX4_remember_16 : decode cX4_remember 16 = .ok (.getfield 21, 3) := by decide +kernel
theorem dX4_remember_19 : decode cX4_remember 19 = .ok (.invokestatic 27, 3) := by decide +kernel
theorem dX4_remember_22 : decode cX4_remember 22 = .ok (.return_, 1) := by decide +kernel
theorem dX4_follow_0 : decode cX4_follow 0 = .ok (.aload_n 0, 1) := by decide +kernel
theorem dX4_follow_1 : decode cX4_follow 1 = .ok (.invokevirtual 63, 3) := by decide +kernel
theorem dX4_follow_4 : decode cX4_follow 4 = .ok (.iconst 0, 1) := by decide +kernel
theorem dX4_follow_5 : decode cX4_follow 5 = .ok (.istore_n 2, 1) := by decide +kernel
theorem dX4_follow_6 : decode cX4_follow 6 = .ok (.iload_n 2, 1) := by decide +kernel
theorem dX4_follow_7 : decode cX4_follow 7 = .ok (.bipush 10, 2) := by decide +kernel
theorem dX4_follow_9 : decode cX4_follow 9 = .ok (.if_icmp .ge 53, 3) := by decide +kernel
theorem dX4_follow_12 : decode cX4_follow 12 = .ok (.aload_n 1, 1) := by decide +kernel
theorem dX4_follow_13 : decode cX4_follow 13 = .ok (.getfield 9, 3) := by decide +kernel
theorem dX4_follow_16 : decode cX4_follow 16 = .ok (.iload_n 2, 1) := by decide +kernel
theorem dX4_follow_17 : decode cX4_follow 17 = .ok (.iaload, 1) := by decide +kernel
theorem dX4_follow_18 : decode cX4_follow 18 = .ok (.istore_n 3, 1) := by decide +kernel
theorem dX4_follow_19 : decode cX4_follow 19 = .ok (.aload_n 0, 1) := by decide +kernel
theorem dX4_follow_20 : decode cX4_follow 20 = .ok (.getfield 9, 3) := by decide +kernel
theorem dX4_follow_23 : decode cX4_follow 23 = .ok (.iload_n 2, 1) := by decide +kernel
theorem dX4_follow_24 : decode cX4_follow 24 = .ok (.aload_n 0, 1) := by decide +kernel
theorem dX4_follow_25 : decode cX4_follow 25 = .ok (.getfield 18, 3) := by decide +kernel
theorem dX4_follow_28 : decode cX4_follow 28 = .ok (.iload_n 3, 1) := by decide +kernel
theorem dX4_follow_29 : decode cX4_follow 29 = .ok (.invokestatic 31, 3) := by decide +kernel
theorem dX4_follow_32 : decode cX4_follow 32 = .ok (.iastore, 1) := by decide +kernel
theorem dX4_follow_33 : decode cX4_follow 33 = .ok (.aload_n 0, 1) := by decide +kernel
theorem dX4_follow_34 : decode cX4_follow 34 = .ok (.getfield 15, 3) := by decide +kernel
theorem dX4_follow_37 : decode cX4_follow 37 = .ok (.iload_n 2, 1) := by decide +kernel
theorem dX4_follow_38 : decode cX4_follow 38 = .ok (.aload_n 0, 1) := by decide +kernel
theorem dX4_follow_39 : decode cX4_follow 39 = .ok (.getfield 21, 3) := by decide +kernel
theorem dX4_follow_42 : decode cX4_follow 42 = .ok (.iload_n 3, 1) := by decide +kernel
theorem dX4_follow_43 : decode cX4_follow 43 = .ok (.invokestatic 31, 3) := by decide +kernel
theorem dX4_follow_46 : decode cX4_follow 46 = .ok (.aload_n 1, 1) := by decide +kernel
theorem dX4_follow_47 : decode cX4_follow 47 = .ok (.getfield 15, 3) := by decide +kernel
theorem dX4_follow_50 : decode cX4_follow 50 = .ok (.iload_n 2, 1) := by decide +kernel
theorem dX4_follow_51 : decode cX4_follow 51 = .ok (.iaload, 1) := by decide +kernel
theorem dX4_follow_52 : decode cX4_follow 52 = .ok (.iadd, 1) := by decide +kernel
theorem dX4_follow_53 : decode cX4_follow 53 = .ok (.iconst 4, 1) := by decide +kernel
theorem dX4_follow_54 : decode cX4_follow 54 = .ok (.irem, 1) := by decide +kernel
theorem dX4_follow_55 : decode cX4_follow 55 = .ok (.iastore, 1) := by decide +kernel
theorem dX4_follow_56 : decode cX4_follow 56 = .ok (.iinc 2 1, 3) := by decide +kernel
theorem dX4_follow_59 : decode cX4_follow 59 = .ok (.goto (-53), 3) := by decide +kernel
theorem dX4_follow_62 : decode cX4_follow 62 = .ok (.return_, 1) := by decide +kernel
theorem dX4_isBroughtHomeBy_0 : decode cX4_isBroughtHomeBy 0 = .ok (.iconst 0, 1) := by decide +kernel
theorem dX4_isBroughtHomeBy_1 : decode cX4_isBroughtHomeBy 1 = .ok (.istore_n 2, 1) := by decide +kernel
theorem dX4_isBroughtHomeBy_2 : decode cX4_isBroughtHomeBy 2 = .ok (.iload_n 2, 1) := by decide +kernel
theorem dX4_isBroughtHomeBy_3 : decode cX4_isBroughtHomeBy 3 = .ok (.bipush 10, 2) := by decide +kernel
theorem dX4_isBroughtHomeBy_5 : decode cX4_isBroughtHomeBy 5 = .ok (.if_icmp .ge 50, 3) := by decide +kernel
theorem dX4_isBroughtHomeBy_8 : decode cX4_isBroughtHomeBy 8 = .ok (.aload_n 1, 1) := by decide +kernel
theorem dX4_isBroughtHomeBy_9 : decode cX4_isBroughtHomeBy 9 = .ok (.getfield 9, 3) := by decide +kernel
theorem dX4_isBroughtHomeBy_12 : decode cX4_isBroughtHomeBy 12 = .ok (.iload_n 2, 1) := by decide +kernel
theorem dX4_isBroughtHomeBy_13 : decode cX4_isBroughtHomeBy 13 = .ok (.iaload, 1) := by decide +kernel
theorem dX4_isBroughtHomeBy_14 : decode cX4_isBroughtHomeBy 14 = .ok (.istore_n 3, 1) := by decide +kernel
theorem dX4_isBroughtHomeBy_15 : decode cX4_isBroughtHomeBy 15 = .ok (.aload_n 0, 1) := by decide +kernel
theorem dX4_isBroughtHomeBy_16 : decode cX4_isBroughtHomeBy 16 = .ok (.getfield 9, 3) := by decide +kernel
theorem dX4_isBroughtHomeBy_19 : decode cX4_isBroughtHomeBy 19 = .ok (.iload_n 3, 1) := by decide +kernel
theorem dX4_isBroughtHomeBy_20 : decode cX4_isBroughtHomeBy 20 = .ok (.invokestatic 31, 3) := by decide +kernel
theorem dX4_isBroughtHomeBy_23 : decode cX4_isBroughtHomeBy 23 = .ok (.iload_n 2, 1) := by decide +kernel
theorem dX4_isBroughtHomeBy_24 : decode cX4_isBroughtHomeBy 24 = .ok (.if_icmp .ne 23, 3) := by decide +kernel
theorem dX4_isBroughtHomeBy_27 : decode cX4_isBroughtHomeBy 27 = .ok (.aload_n 0, 1) := by decide +kernel
theorem dX4_isBroughtHomeBy_28 : decode cX4_isBroughtHomeBy 28 = .ok (.getfield 15, 3) := by decide +kernel
theorem dX4_isBroughtHomeBy_31 : decode cX4_isBroughtHomeBy 31 = .ok (.iload_n 3, 1) := by decide +kernel
theorem dX4_isBroughtHomeBy_32 : decode cX4_isBroughtHomeBy 32 = .ok (.invokestatic 31, 3) := by decide +kernel
theorem dX4_isBroughtHomeBy_35 : decode cX4_isBroughtHomeBy 35 = .ok (.aload_n 1, 1) := by decide +kernel
theorem dX4_isBroughtHomeBy_36 : decode cX4_isBroughtHomeBy 36 = .ok (.getfield 15, 3) := by decide +kernel
theorem dX4_isBroughtHomeBy_39 : decode cX4_isBroughtHomeBy 39 = .ok (.iload_n 2, 1) := by decide +kernel
theorem dX4_isBroughtHomeBy_40 : decode cX4_isBroughtHomeBy 40 = .ok (.iaload, 1) := by decide +kernel
theorem dX4_isBroughtHomeBy_41 : decode cX4_isBroughtHomeBy 41 = .ok (.iadd, 1) := by decide +kernel
theorem dX4_isBroughtHomeBy_42 : decode cX4_isBroughtHomeBy 42 = .ok (.iconst 4, 1) := by decide +kernel
theorem dX4_isBroughtHomeBy_43 : decode cX4_isBroughtHomeBy 43 = .ok (.irem, 1) := by decide +kernel
theorem dX4_isBroughtHomeBy_44 : decode cX4_isBroughtHomeBy 44 = .ok (.ifCond .eq 5, 3) := by decide +kernel
theorem dX4_isBroughtHomeBy_47 : decode cX4_isBroughtHomeBy 47 = .ok (.iconst 0, 1) := by decide +kernel
theorem dX4_isBroughtHomeBy_48 : decode cX4_isBroughtHomeBy 48 = .ok (.ireturn, 1) := by decide +kernel
theorem dX4_isBroughtHomeBy_49 : decode cX4_isBroughtHomeBy 49 = .ok (.iinc 2 1, 3) := by decide +kernel
theorem dX4_isBroughtHomeBy_52 : decode cX4_isBroughtHomeBy 52 = .ok (.goto (-50), 3) := by decide +kernel
theorem dX4_isBroughtHomeBy_55 : decode cX4_isBroughtHomeBy 55 = .ok (.iconst 1, 1) := by decide +kernel
theorem dX4_isBroughtHomeBy_56 : decode cX4_isBroughtHomeBy 56 = .ok (.ireturn, 1) := by decide +kernel
theorem dX4_isHome_0 : decode cX4_isHome 0 = .ok (.aload_n 0, 1) := by decide +kernel
theorem dX4_isHome_1 : decode cX4_isHome 1 = .ok (.invokevirtual 66, 3) := by decide +kernel
theorem dX4_isHome_4 : decode cX4_isHome 4 = .ok (.bipush 10, 2) := by decide +kernel
theorem dX4_isHome_6 : decode cX4_isHome 6 = .ok (.if_icmp .ne 7, 3) := by decide +kernel
theorem dX4_isHome_9 : decode cX4_isHome 9 = .ok (.iconst 1, 1) := by decide +kernel
theorem dX4_isHome_10 : decode cX4_isHome 10 = .ok (.goto 4, 3) := by decide +kernel
theorem dX4_isHome_13 : decode cX4_isHome 13 = .ok (.iconst 0, 1) := by decide +kernel
theorem dX4_isHome_14 : decode cX4_isHome 14 = .ok (.ireturn, 1) := by decide +kernel
theorem dX4_isSameAs_0 : decode cX4_isSameAs 0 = .ok (.iconst 0, 1) := by decide +kernel
theorem dX4_isSameAs_1 : decode cX4_isSameAs 1 = .ok (.istore_n 2, 1) := by decide +kernel
theorem dX4_isSameAs_2 : decode cX4_isSameAs 2 = .ok (.iload_n 2, 1) := by decide +kernel
theorem dX4_isSameAs_3 : decode cX4_isSameAs 3 = .ok (.bipush 10, 2) := by decide +kernel
theorem dX4_isSameAs_5 : decode cX4_isSameAs 5 = .ok (.if_icmp .ge 41, 3) := by decide +kernel
theorem dX4_isSameAs_8 : decode cX4_isSameAs 8 = .ok (.aload_n 0, 1) := by decide +kernel
theorem dX4_isSameAs_9 : decode cX4_isSameAs 9 = .ok (.getfield 9, 3) := by decide +kernel
theorem dX4_isSameAs_12 : decode cX4_isSameAs 12 = .ok (.iload_n 2, 1) := by decide +kernel
theorem dX4_isSameAs_13 : decode cX4_isSameAs 13 = .ok (.iaload, 1) := by decide +kernel
theorem dX4_isSameAs_14 : decode cX4_isSameAs 14 = .ok (.aload_n 1, 1) := by decide +kernel
theorem dX4_isSameAs_15 : decode cX4_isSameAs 15 = .ok (.getfield 9, 3) := by decide +kernel
theorem dX4_isSameAs_18 : decode cX4_isSameAs 18 = .ok (.iload_n 2, 1) := by decide +kernel
theorem dX4_isSameAs_19 : decode cX4_isSameAs 19 = .ok (.iaload, 1) := by decide +kernel
theorem dX4_isSameAs_20 : decode cX4_isSameAs 20 = .ok (.if_icmp .ne 18, 3) := by decide +kernel
theorem dX4_isSameAs_23 : decode cX4_isSameAs 23 = .ok (.aload_n 0, 1) := by decide +kernel
theorem dX4_isSameAs_24 : decode cX4_isSameAs 24 = .ok (.getfield 15, 3) := by decide +kernel
theorem dX4_isSameAs_27 : decode cX4_isSameAs 27 = .ok (.iload_n 2, 1) := by decide +kernel
theorem dX4_isSameAs_28 : decode cX4_isSameAs 28 = .ok (.iaload, 1) := by decide +kernel
theorem dX4_isSameAs_29 : decode cX4_isSameAs 29 = .ok (.aload_n 1, 1) := by decide +kernel
theorem dX4_isSameAs_30 : decode cX4_isSameAs 30 = .ok (.getfield 15, 3) := by decide +kernel
theorem dX4_isSameAs_33 : decode cX4_isSameAs 33 = .ok (.iload_n 2, 1) := by decide +kernel
theorem dX4_isSameAs_34 : decode cX4_isSameAs 34 = .ok (.iaload, 1) := by decide +kernel
theorem dX4_isSameAs_35 : decode cX4_isSameAs 35 = .ok (.if_icmp .eq 5, 3) := by decide +kernel
theorem dX4_isSameAs_38 : decode cX4_isSameAs 38 = .ok (.iconst 0, 1) := by decide +kernel
theorem dX4_isSameAs_39 : decode cX4_isSameAs 39 = .ok (.ireturn, 1) := by decide +kernel
theorem dX4_isSameAs_40 : decode cX4_isSameAs 40 = .ok (.iinc 2 1, 3) := by decide +kernel
theorem dX4_isSameAs_43 : decode cX4_isSameAs 43 = .ok (.goto (-41), 3) := by decide +kernel
theorem dX4_isSameAs_46 : decode cX4_isSameAs 46 = .ok (.iconst 1, 1) := by decide +kernel
theorem dX4_isSameAs_47 : decode cX4_isSameAs 47 = .ok (.ireturn, 1) := by decide +kernel
theorem dX4_homeCount_0 : decode cX4_homeCount 0 = .ok (.iconst 0, 1) := by decide +kernel
theorem dX4_homeCount_1 : decode cX4_homeCount 1 = .ok (.istore_n 1, 1) := by decide +kernel
theorem dX4_homeCount_2 : decode cX4_homeCount 2 = .ok (.iconst 0, 1) := by decide +kernel
theorem dX4_homeCount_3 : decode cX4_homeCount 3 = .ok (.istore_n 2, 1) := by decide +kernel
theorem dX4_homeCount_4 : decode cX4_homeCount 4 = .ok (.iload_n 2, 1) := by decide +kernel
theorem dX4_homeCount_5 : decode cX4_homeCount 5 = .ok (.bipush 10, 2) := by decide +kernel
theorem dX4_homeCount_7 : decode cX4_homeCount 7 = .ok (.if_icmp .ge 31, 3) := by decide +kernel
theorem dX4_homeCount_10 : decode cX4_homeCount 10 = .ok (.aload_n 0, 1) := by decide +kernel
theorem dX4_homeCount_11 : decode cX4_homeCount 11 = .ok (.getfield 9, 3) := by decide +kernel
theorem dX4_homeCount_14 : decode cX4_homeCount 14 = .ok (.iload_n 2, 1) := by decide +kernel
theorem dX4_homeCount_15 : decode cX4_homeCount 15 = .ok (.iaload, 1) := by decide +kernel
theorem dX4_homeCount_16 : decode cX4_homeCount 16 = .ok (.iload_n 2, 1) := by decide +kernel
theorem dX4_homeCount_17 : decode cX4_homeCount 17 = .ok (.if_icmp .ne 15, 3) := by decide +kernel
theorem dX4_homeCount_20 : decode cX4_homeCount 20 = .ok (.aload_n 0, 1) := by decide +kernel
theorem dX4_homeCount_21 : decode cX4_homeCount 21 = .ok (.getfield 15, 3) := by decide +kernel
theorem dX4_homeCount_24 : decode cX4_homeCount 24 = .ok (.iload_n 2, 1) := by decide +kernel
theorem dX4_homeCount_25 : decode cX4_homeCount 25 = .ok (.iaload, 1) := by decide +kernel
theorem dX4_homeCount_26 : decode cX4_homeCount 26 = .ok (.ifCond .ne 6, 3) := by decide +kernel
theorem dX4_homeCount_29 : decode cX4_homeCount 29 = .ok (.iinc 1 1, 3) := by decide +kernel
theorem dX4_homeCount_32 : decode cX4_homeCount 32 = .ok (.iinc 2 1, 3) := by decide +kernel
theorem dX4_homeCount_35 : decode cX4_homeCount 35 = .ok (.goto (-31), 3) := by decide +kernel
theorem dX4_homeCount_38 : decode cX4_homeCount 38 = .ok (.iload_n 1, 1) := by decide +kernel
theorem dX4_homeCount_39 : decode cX4_homeCount 39 = .ok (.ireturn, 1) := by decide +kernel
theorem dX4_placedCount_0 : decode cX4_placedCount 0 = .ok (.iconst 0, 1) := by decide +kernel
theorem dX4_placedCount_1 : decode cX4_placedCount 1 = .ok (.istore_n 1, 1) := by decide +kernel
theorem dX4_placedCount_2 : decode cX4_placedCount 2 = .ok (.iconst 0, 1) := by decide +kernel
theorem dX4_placedCount_3 : decode cX4_placedCount 3 = .ok (.istore_n 2, 1) := by decide +kernel
theorem dX4_placedCount_4 : decode cX4_placedCount 4 = .ok (.iload_n 2, 1) := by decide +kernel
theorem dX4_placedCount_5 : decode cX4_placedCount 5 = .ok (.bipush 10, 2) := by decide +kernel
theorem dX4_placedCount_7 : decode cX4_placedCount 7 = .ok (.if_icmp .ge 22, 3) := by decide +kernel
theorem dX4_placedCount_10 : decode cX4_placedCount 10 = .ok (.aload_n 0, 1) := by decide +kernel
theorem dX4_placedCount_11 : decode cX4_placedCount 11 = .ok (.getfield 9, 3) := by decide +kernel
theorem dX4_placedCount_14 : decode cX4_placedCount 14 = .ok (.iload_n 2, 1) := by decide +kernel
theorem dX4_placedCount_15 : decode cX4_placedCount 15 = .ok (.iaload, 1) := by decide +kernel
theorem dX4_placedCount_16 : decode cX4_placedCount 16 = .ok (.iload_n 2, 1) := by decide +kernel
theorem dX4_placedCount_17 : decode cX4_placedCount 17 = .ok (.if_icmp .ne 6, 3) := by decide +kernel
theorem dX4_placedCount_20 : decode cX4_placedCount 20 = .ok (.iinc 1 1, 3) := by decide +kernel
theorem dX4_placedCount_23 : decode cX4_placedCount 23 = .ok (.iinc 2 1, 3) := by decide +kernel
theorem dX4_placedCount_26 : decode cX4_placedCount 26 = .ok (.goto (-22), 3) := by decide +kernel
theorem dX4_placedCount_29 : decode cX4_placedCount 29 = .ok (.iload_n 1, 1) := by decide +kernel
theorem dX4_placedCount_30 : decode cX4_placedCount 30 = .ok (.ireturn, 1) := by decide +kernel
theorem dX4_straightCount_0 : decode cX4_straightCount 0 = .ok (.iconst 0, 1) := by decide +kernel
theorem dX4_straightCount_1 : decode cX4_straightCount 1 = .ok (.istore_n 1, 1) := by decide +kernel
theorem dX4_straightCount_2 : decode cX4_straightCount 2 = .ok (.iconst 0, 1) := by decide +kernel
theorem dX4_straightCount_3 : decode cX4_straightCount 3 = .ok (.istore_n 2, 1) := by decide +kernel
theorem dX4_straightCount_4 : decode cX4_straightCount 4 = .ok (.iload_n 2, 1) := by decide +kernel
theorem dX4_straightCount_5 : decode cX4_straightCount 5 = .ok (.bipush 10, 2) := by decide +kernel
theorem dX4_straightCount_7 : decode cX4_straightCount 7 = .ok (.if_icmp .ge 21, 3) := by decide +kernel
theorem dX4_straightCount_10 : decode cX4_straightCount 10 = .ok (.aload_n 0, 1) := by decide +kernel
theorem dX4_straightCount_11 : decode cX4_straightCount 11 = .ok (.getfield 15, 3) := by decide +kernel
theorem dX4_straightCount_14 : decode cX4_straightCount 14 = .ok (.iload_n 2, 1) := by decide +kernel
theorem dX4_straightCount_15 : decode cX4_straightCount 15 = .ok (.iaload, 1) := by decide +kernel
theorem dX4_straightCount_16 : decode cX4_straightCount 16 = .ok (.ifCond .ne 6, 3) := by decide +kernel
theorem dX4_straightCount_19 : decode cX4_straightCount 19 = .ok (.iinc 1 1, 3) := by decide +kernel
theorem dX4_straightCount_22 : decode cX4_straightCount 22 = .ok (.iinc 2 1, 3) := by decide +kernel
theorem dX4_straightCount_25 : decode cX4_straightCount 25 = .ok (.goto (-21), 3) := by decide +kernel
theorem dX4_straightCount_28 : decode cX4_straightCount 28 = .ok (.iload_n 1, 1) := by decide +kernel
theorem dX4_straightCount_29 : decode cX4_straightCount 29 = .ok (.ireturn, 1) := by decide +kernel
theorem dX4_oddness_0 : decode cX4_oddness 0 = .ok (.iconst 0, 1) := by decide +kernel
theorem dX4_oddness_1 : decode cX4_oddness 1 = .ok (.istore_n 1, 1) := by decide +kernel
theorem dX4_oddness_2 : decode cX4_oddness 2 = .ok (.iconst 0, 1) := by decide +kernel
theorem dX4_oddness_3 : decode cX4_oddness 3 = .ok (.istore_n 2, 1) := by decide +kernel
theorem dX4_oddness_4 : decode cX4_oddness 4 = .ok (.iload_n 2, 1) := by decide +kernel
theorem dX4_oddness_5 : decode cX4_oddness 5 = .ok (.bipush 10, 2) := by decide +kernel
theorem dX4_oddness_7 : decode cX4_oddness 7 = .ok (.if_icmp .ge 43, 3) := by decide +kernel
theorem dX4_oddness_10 : decode cX4_oddness 10 = .ok (.iload_n 2, 1) := by decide +kernel
theorem dX4_oddness_11 : decode cX4_oddness 11 = .ok (.iconst 1, 1) := by decide +kernel
theorem dX4_oddness_12 : decode cX4_oddness 12 = .ok (.iadd, 1) := by decide +kernel
theorem dX4_oddness_13 : decode cX4_oddness 13 = .ok (.istore_n 3, 1) := by decide +kernel
theorem dX4_oddness_14 : decode cX4_oddness 14 = .ok (.iload_n 3, 1) := by decide +kernel
theorem dX4_oddness_15 : decode cX4_oddness 15 = .ok (.bipush 10, 2) := by decide +kernel
theorem dX4_oddness_17 : decode cX4_oddness 17 = .ok (.if_icmp .ge 27, 3) := by decide +kernel
theorem dX4_oddness_20 : decode cX4_oddness 20 = .ok (.aload_n 0, 1) := by decide +kernel
theorem dX4_oddness_21 : decode cX4_oddness 21 = .ok (.getfield 9, 3) := by decide +kernel
theorem dX4_oddness_24 : decode cX4_oddness 24 = .ok (.iload_n 2, 1) := by decide +kernel
theorem dX4_oddness_25 : decode cX4_oddness 25 = .ok (.iaload, 1) := by decide +kernel
theorem dX4_oddness_26 : decode cX4_oddness 26 = .ok (.aload_n 0, 1) := by decide +kernel
theorem dX4_oddness_27 : decode cX4_oddness 27 = .ok (.getfield 9, 3) := by decide +kernel
theorem dX4_oddness_30 : decode cX4_oddness 30 = .ok (.iload_n 3, 1) := by decide +kernel
theorem dX4_oddness_31 : decode cX4_oddness 31 = .ok (.iaload, 1) := by decide +kernel
theorem dX4_oddness_32 : decode cX4_oddness 32 = .ok (.if_icmp .le 6, 3) := by decide +kernel
theorem dX4_oddness_35 : decode cX4_oddness 35 = .ok (.iinc 1 1, 3) := by decide +kernel
theorem dX4_oddness_38 : decode cX4_oddness 38 = .ok (.iinc 3 1, 3) := by decide +kernel
theorem dX4_oddness_41 : decode cX4_oddness 41 = .ok (.goto (-27), 3) := by decide +kernel
theorem dX4_oddness_44 : decode cX4_oddness 44 = .ok (.iinc 2 1, 3) := by decide +kernel
theorem dX4_oddness_47 : decode cX4_oddness 47 = .ok (.goto (-43), 3) := by decide +kernel
theorem dX4_oddness_50 : decode cX4_oddness 50 = .ok (.iload_n 1, 1) := by decide +kernel
theorem dX4_oddness_51 : decode cX4_oddness 51 = .ok (.iconst 2, 1) := by decide +kernel
theorem dX4_oddness_52 : decode cX4_oddness 52 = .ok (.irem, 1) := by decide +kernel
theorem dX4_oddness_53 : decode cX4_oddness 53 = .ok (.ireturn, 1) := by decide +kernel
theorem dX4_placesFromHome_0 : decode cX4_placesFromHome 0 = .ok (.iconst 0, 1) := by decide +kernel
theorem dX4_placesFromHome_1 : decode cX4_placesFromHome 1 = .ok (.istore_n 1, 1) := by decide +kernel
theorem dX4_placesFromHome_2 : decode cX4_placesFromHome 2 = .ok (.iconst 0, 1) := by decide +kernel
theorem dX4_placesFromHome_3 : decode cX4_placesFromHome 3 = .ok (.istore_n 2, 1) := by decide +kernel
theorem dX4_placesFromHome_4 : decode cX4_placesFromHome 4 = .ok (.iload_n 2, 1) := by decide +kernel
theorem dX4_placesFromHome_5 : decode cX4_placesFromHome 5 = .ok (.bipush 10, 2) := by decide +kernel
theorem dX4_placesFromHome_7 : decode cX4_placesFromHome 7 = .ok (.if_icmp .ge 32, 3) := by decide +kernel
theorem dX4_placesFromHome_10 : decode cX4_placesFromHome 10 = .ok (.iload_n 2, 1) := by decide +kernel
theorem dX4_placesFromHome_11 : decode cX4_placesFromHome 11 = .ok (.aload_n 0, 1) := by decide +kernel
theorem dX4_placesFromHome_12 : decode cX4_placesFromHome 12 = .ok (.getfield 9, 3) := by decide +kernel
theorem dX4_placesFromHome_15 : decode cX4_placesFromHome 15 = .ok (.iload_n 2, 1) := by decide +kernel
theorem dX4_placesFromHome_16 : decode cX4_placesFromHome 16 = .ok (.iaload, 1) := by decide +kernel
theorem dX4_placesFromHome_17 : decode cX4_placesFromHome 17 = .ok (.isub, 1) := by decide +kernel
theorem dX4_placesFromHome_18 : decode cX4_placesFromHome 18 = .ok (.invokestatic 70, 3) := by decide +kernel
theorem dX4_placesFromHome_21 : decode cX4_placesFromHome 21 = .ok (.istore_n 3, 1) := by decide +kernel
theorem dX4_placesFromHome_22 : decode cX4_placesFromHome 22 = .ok (.iload_n 1, 1) := by decide +kernel
theorem dX4_placesFromHome_23 : decode cX4_placesFromHome 23 = .ok (.iload_n 3, 1) := by decide +kernel
theorem dX4_placesFromHome_24 : decode cX4_placesFromHome 24 = .ok (.bipush 10, 2) := by decide +kernel
theorem dX4_placesFromHome_26 : decode cX4_placesFromHome 26 = .ok (.iload_n 3, 1) := by decide +kernel
theorem dX4_placesFromHome_27 : decode cX4_placesFromHome 27 = .ok (.isub, 1) := by decide +kernel
theorem dX4_placesFromHome_28 : decode cX4_placesFromHome 28 = .ok (.invokestatic 75, 3) := by decide +kernel
theorem dX4_placesFromHome_31 : decode cX4_placesFromHome 31 = .ok (.iadd, 1) := by decide +kernel
theorem dX4_placesFromHome_32 : decode cX4_placesFromHome 32 = .ok (.istore_n 1, 1) := by decide +kernel
theorem dX4_placesFromHome_33 : decode cX4_placesFromHome 33 = .ok (.iinc 2 1, 3) := by decide +kernel
theorem dX4_placesFromHome_36 : decode cX4_placesFromHome 36 = .ok (.goto (-32), 3) := by decide +kernel
theorem dX4_placesFromHome_39 : decode cX4_placesFromHome 39 = .ok (.iload_n 1, 1) := by decide +kernel
theorem dX4_placesFromHome_40 : decode cX4_placesFromHome 40 = .ok (.ireturn, 1) := by decide +kernel
theorem dX5_init_0 : decode cX5_init 0 = .ok (.aload_n 0, 1) := by decide +kernel
theorem dX5_init_1 : decode cX5_init 1 = .ok (.invokespecial 3, 3) := by decide +kernel
theorem dX5_init_4 : decode cX5_init 4 = .ok (.aload_n 0, 1) := by decide +kernel
theorem dX5_init_5 : decode cX5_init 5 = .ok (.bipush 80, 2) := by decide +kernel
theorem dX5_init_7 : decode cX5_init 7 = .ok (.newarray .int, 2) := by decide +kernel
theorem dX5_init_9 : decode cX5_init 9 = .ok (.putfield 9, 3) := by decide +kernel
theorem dX5_init_12 : decode cX5_init 12 = .ok (.aload_n 0, 1) := by decide +kernel
theorem dX5_init_13 : decode cX5_init 13 = .ok (.iconst 0, 1) := by decide +kernel
theorem dX5_init_14 : decode cX5_init 14 = .ok (.putfield 15, 3) := by decide +kernel
theorem dX5_init_17 : decode cX5_init 17 = .ok (.return_, 1) := by decide +kernel
theorem dX5_length_0 : decode cX5_length 0 = .ok (.aload_n 0, 1) := by decide +kernel
theorem dX5_length_1 : decode cX5_length 1 = .ok (.getfield 15, 3) := by decide +kernel
theorem dX5_length_4 : decode cX5_length 4 = .ok (.ireturn, 1) := by decide +kernel
theorem dX6_init_0 : decode cX6_init 0 = .ok (.aload_n 0, 1) := by decide +kernel
theorem dX6_init_1 : decode cX6_init 1 = .ok (.invokespecial 3, 3) := by decide +kernel
theorem dX6_init_4 : decode cX6_init 4 = .ok (.aload_n 0, 1) := by decide +kernel
theorem dX6_init_5 : decode cX6_init 5 = .ok (.iconst 4, 1) := by decide +kernel
theorem dX6_init_6 : decode cX6_init 6 = .ok (.newarray .int, 2) := by decide +kernel
theorem dX6_init_8 : decode cX6_init 8 = .ok (.putfield 9, 3) := by decide +kernel
theorem dX6_init_11 : decode cX6_init 11 = .ok (.aload_n 0, 1) := by decide +kernel
theorem dX6_init_12 : decode cX6_init 12 = .ok (.iconst 4, 1) := by decide +kernel
theorem dX6_init_13 : decode cX6_init 13 = .ok (.anewarray 15, 3) := by decide +kernel
theorem dX6_init_16 : decode cX6_init 16 = .ok (.putfield 17, 3) := by decide +kernel
theorem dX6_init_19 : decode cX6_init 19 = .ok (.iconst 0, 1) := by decide +kernel
theorem dX6_init_20 : decode cX6_init 20 = .ok (.istore_n 1, 1) := by decide +kernel
theorem dX6_init_21 : decode cX6_init 21 = .ok (.iload_n 1, 1) := by decide +kernel
theorem dX6_init_22 : decode cX6_init 22 = .ok (.iconst 4, 1) := by decide +kernel
theorem dX6_init_23 : decode cX6_init 23 = .ok (.if_icmp .ge 22, 3) := by decide +kernel
theorem dX6_init_26 : decode cX6_init 26 = .ok (.aload_n 0, 1) := by decide +kernel
theorem dX6_init_27 : decode cX6_init 27 = .ok (.getfield 17, 3) := by decide +kernel
theorem dX6_init_30 : decode cX6_init 30 = .ok (.iload_n 1, 1) := by decide +kernel
theorem dX6_init_31 : decode cX6_init 31 = .ok (.new 15, 3) := by decide +kernel
theorem dX6_init_34 : decode cX6_init 34 = .ok (.dup, 1) := by decide +kernel
theorem dX6_init_35 : decode cX6_init 35 = .ok (.invokespecial 21, 3) := by decide +kernel
theorem dX6_init_38 : decode cX6_init 38 = .ok (.aastore, 1) := by decide +kernel
theorem dX6_init_39 : decode cX6_init 39 = .ok (.iinc 1 1, 3) := by decide +kernel
theorem dX6_init_42 : decode cX6_init 42 = .ok (.goto (-21), 3) := by decide +kernel
theorem dX6_init_45 : decode cX6_init 45 = .ok (.return_, 1) := by decide +kernel
theorem dX6_figureOf_0 : decode cX6_figureOf 0 = .ok (.aload_n 0, 1) := by decide +kernel
theorem dX6_figureOf_1 : decode cX6_figureOf 1 = .ok (.getfield 9, 3) := by decide +kernel
theorem dX6_figureOf_4 : decode cX6_figureOf 4 = .ok (.iload_n 1, 1) := by decide +kernel
theorem dX6_figureOf_5 : decode cX6_figureOf 5 = .ok (.invokestatic 22, 3) := by decide +kernel
theorem dX6_figureOf_8 : decode cX6_figureOf 8 = .ok (.ireturn, 1) := by decide +kernel
theorem dX6_shortest_0 : decode cX6_shortest 0 = .ok (.aload_n 1, 1) := by decide +kernel
theorem dX6_shortest_1 : decode cX6_shortest 1 = .ok (.invokevirtual 26, 3) := by decide +kernel
theorem dX6_shortest_4 : decode cX6_shortest 4 = .ok (.ifCond .eq 5, 3) := by decide +kernel
theorem dX6_shortest_7 : decode cX6_shortest 7 = .ok (.iconst 0, 1) := by decide +kernel
theorem dX6_shortest_8 : decode cX6_shortest 8 = .ok (.ireturn, 1) := by decide +kernel
theorem dX6_shortest_9 : decode cX6_shortest 9 = .ok (.iconst 1, 1) := by decide +kernel
theorem dX6_shortest_10 : decode cX6_shortest 10 = .ok (.istore_n 3, 1) := by decide +kernel
theorem dX6_shortest_11 : decode cX6_shortest 11 = .ok (.iload_n 3, 1) := by decide +kernel
theorem dX6_shortest_12 : decode cX6_shortest 12 = .ok (.iconst 4, 1) := by decide +kernel
theorem dX6_shortest_13 : decode cX6_shortest 13 = .ok (.if_icmp .gt 22, 3) := by decide +kernel
theorem dX6_shortest_16 : decode cX6_shortest 16 = .ok (.aload_n 0, 1) := by decide +kernel
theorem dX6_shortest_17 : decode cX6_shortest 17 = .ok (.aload_n 2, 1) := by decide +kernel
theorem dX6_shortest_18 : decode cX6_shortest 18 = .ok (.aload_n 1, 1) := by decide +kernel
theorem dX6_shortest_19 : decode cX6_shortest 19 = .ok (.iconst 0, 1) := by decide +kernel
theorem dX6_shortest_20 : decode cX6_shortest 20 = .ok (.iload_n 3, 1) := by decide +kernel
theorem dX6_shortest_21 : decode cX6_shortest 21 = .ok (.invokestatic 30, 3) := by decide +kernel
theorem dX6_shortest_24 : decode cX6_shortest 24 = .ok (.ifCond .eq 5, 3) := by decide +kernel
theorem dX6_shortest_27 : decode cX6_shortest 27 = .ok (.iload_n 3, 1) := by decide +kernel
theorem dX6_shortest_28 : decode cX6_shortest 28 = .ok (.ireturn, 1) := by decide +kernel
theorem dX6_shortest_29 : decode cX6_shortest 29 = .ok (.iinc 3 1, 3) := by decide +kernel
theorem dX6_shortest_32 : decode cX6_shortest 32 = .ok (.goto (-21), 3) := by decide +kernel
theorem dX6_shortest_35 : decode cX6_shortest 35 = .ok (.bipush (-5), 2) := by decide +kernel
theorem dX6_shortest_37 : decode cX6_shortest 37 = .ok (.ireturn, 1) := by decide +kernel
theorem dX6_leadsHome_0 : decode cX6_leadsHome 0 = .ok (.iload_n 3, 1) := by decide +kernel
theorem dX6_leadsHome_1 : decode cX6_leadsHome 1 = .ok (.ifCond .lt 8, 3) := by decide +kernel
theorem dX6_leadsHome_4 : decode cX6_leadsHome 4 = .ok (.iload_n 3, 1) := by decide +kernel
theorem dX6_leadsHome_5 : decode cX6_leadsHome 5 = .ok (.iconst 4, 1) := by decide +kernel
theorem dX6_leadsHome_6 : decode cX6_leadsHome 6 = .ok (.if_icmp .lt 5, 3) := by decide +kernel
theorem dX6_leadsHome_9 : decode cX6_leadsHome 9 = .ok (.iconst 0, 1) := by decide +kernel
theorem dX6_leadsHome_10 : decode cX6_leadsHome 10 = .ok (.ireturn, 1) := by decide +kernel
theorem dX6_leadsHome_11 : decode cX6_leadsHome 11 = .ok (.iload_n 3, 1) := by decide +kernel
theorem dX6_leadsHome_12 : decode cX6_leadsHome 12 = .ok (.iconst 1, 1) := by decide +kernel
theorem dX6_leadsHome_13 : decode cX6_leadsHome 13 = .ok (.iadd, 1) := by decide +kernel
theorem dX6_leadsHome_14 : decode cX6_leadsHome 14 = .ok (.iload 4, 2) := by decide +kernel
theorem dX6_leadsHome_16 : decode cX6_leadsHome 16 = .ok (.if_icmp .ne 7, 3) := by decide +kernel
theorem dX6_leadsHome_19 : decode cX6_leadsHome 19 = .ok (.iconst 1, 1) := by decide +kernel
theorem dX6_leadsHome_20 : decode cX6_leadsHome 20 = .ok (.goto 4, 3) := by decide +kernel
theorem dX6_leadsHome_23 : decode cX6_leadsHome 23 = .ok (.iconst 0, 1) := by decide +kernel
theorem dX6_leadsHome_24 : decode cX6_leadsHome 24 = .ok (.istore 5, 2) := by decide +kernel
theorem dX6_leadsHome_26 : decode cX6_leadsHome 26 = .ok (.aload_n 0, 1) := by decide +kernel
theorem dX6_leadsHome_27 : decode cX6_leadsHome 27 = .ok (.getfield 17, 3) := by decide +kernel
theorem dX6_leadsHome_30 : decode cX6_leadsHome 30 = .ok (.iload_n 3, 1) := by decide +kernel
theorem dX6_leadsHome_31 : decode cX6_leadsHome 31 = .ok (.aaload, 1) := by decide +kernel
theorem dX6_leadsHome_32 : decode cX6_leadsHome 32 = .ok (.astore 6, 2) := by decide +kernel
theorem dX6_leadsHome_34 : decode cX6_leadsHome 34 = .ok (.iconst 0, 1) := by decide +kernel
theorem dX6_leadsHome_35 : decode cX6_leadsHome 35 = .ok (.istore 7, 2) := by decide +kernel
theorem dX6_leadsHome_37 : decode cX6_leadsHome 37 = .ok (.iload 7, 2) := by decide +kernel
theorem dX6_leadsHome_39 : decode cX6_leadsHome 39 = .ok (.bipush 8, 2) := by decide +kernel
theorem dX6_leadsHome_41 : decode cX6_leadsHome 41 = .ok (.if_icmp .ge 71, 3) := by decide +kernel
theorem dX6_leadsHome_44 : decode cX6_leadsHome 44 = .ok (.aload_n 1, 1) := by decide +kernel
theorem dX6_leadsHome_45 : decode cX6_leadsHome 45 = .ok (.iload 7, 2) := by decide +kernel
theorem dX6_leadsHome_47 : decode cX6_leadsHome 47 = .ok (.invokevirtual 34, 3) := by decide +kernel
theorem dX6_leadsHome_50 : decode cX6_leadsHome 50 = .ok (.astore 8, 2) := by decide +kernel
theorem dX6_leadsHome_52 : decode cX6_leadsHome 52 = .ok (.aload_n 0, 1) := by decide +kernel
theorem dX6_leadsHome_53 : decode cX6_leadsHome 53 = .ok (.getfield 9, 3) := by decide +kernel
theorem dX6_leadsHome_56 : decode cX6_leadsHome 56 = .ok (.iload_n 3, 1) := by decide +kernel
theorem dX6_leadsHome_57 : decode cX6_leadsHome 57 = .ok (.iload 7, 2) := by decide +kernel
theorem dX6_leadsHome_59 : decode cX6_leadsHome 59 = .ok (.iastore, 1) := by decide +kernel
theorem dX6_leadsHome_60 : decode cX6_leadsHome 60 = .ok (.iload 5, 2) := by decide +kernel
theorem dX6_leadsHome_62 : decode cX6_leadsHome 62 = .ok (.ifCond .eq 14, 3) := by decide +kernel
theorem dX6_leadsHome_65 : decode cX6_leadsHome 65 = .ok (.aload_n 2, 1) := by decide +kernel
theorem dX6_leadsHome_66 : decode cX6_leadsHome 66 = .ok (.aload 8, 2) := by decide +kernel
theorem dX6_leadsHome_68 : decode cX6_leadsHome 68 = .ok (.invokevirtual 40, 3) := by decide +kernel
theorem dX6_leadsHome_71 : decode cX6_leadsHome 71 = .ok (.ifCond .eq 35, 3) := by decide +kernel
theorem dX6_leadsHome_74 : decode cX6_leadsHome 74 = .ok (.iconst 1, 1) := by decide +kernel
theorem dX6_leadsHome_75 : decode cX6_leadsHome 75 = .ok (.ireturn, 1) := by decide +kernel
theorem dX6_leadsHome_76 : decode cX6_leadsHome 76 = .ok (.aload 6, 2) := by decide +kernel
theorem dX6_leadsHome_78 : decode cX6_leadsHome 78 = .ok (.aload_n 2, 1) := by decide +kernel
theorem dX6_leadsHome_79 : decode cX6_leadsHome 79 = .ok (.invokevirtual 44, 3) := by decide +kernel
theorem dX6_leadsHome_82 : decode cX6_leadsHome 82 = .ok (.aload 6, 2) := by decide +kernel
theorem dX6_leadsHome_84 : decode cX6_leadsHome 84 = .ok (.aload 8, 2) := by decide +kernel
theorem dX6_leadsHome_86 : decode cX6_leadsHome 86 = .ok (.invokevirtual 48, 3) := by decide +kernel
theorem dX6_leadsHome_89 : decode cX6_leadsHome 89 = .ok (.aload_n 0, 1) := by decide +kernel
theorem dX6_leadsHome_90 : decode cX6_leadsHome 90 = .ok (.aload_n 1, 1) := by decide +kernel
theorem dX6_leadsHome_91 : decode cX6_leadsHome 91 = .ok (.aload 6, 2) := by decide +kernel
theorem dX6_leadsHome_93 : decode cX6_leadsHome 93 = .ok (.iload_n 3, 1) := by decide +kernel
theorem dX6_leadsHome_94 : decode cX6_leadsHome 94 = .ok (.iconst 1, 1) := by decide +kernel
theorem dX6_leadsHome_95 : decode cX6_leadsHome 95 = .ok (.iadd, 1) := by decide +kernel
theorem dX6_leadsHome_96 : decode cX6_leadsHome 96 = .ok (.iload 4, 2) := by decide +kernel
theorem dX6_leadsHome_98 : decode cX6_leadsHome 98 = .ok (.invokestatic 30, 3) := by decide +kernel
theorem dX6_leadsHome_101 : decode cX6_leadsHome 101 = .ok (.ifCond .eq 5, 3) := by decide +kernel
theorem dX6_leadsHome_104 : decode cX6_leadsHome 104 = .ok (.iconst 1, 1) := by decide +kernel
theorem dX6_leadsHome_105 : decode cX6_leadsHome 105 = .ok (.ireturn, 1) := by decide +kernel
theorem dX6_leadsHome_106 : decode cX6_leadsHome 106 = .ok (.iinc 7 1, 3) := by decide +kernel
theorem dX6_leadsHome_109 : decode cX6_leadsHome 109 = .ok (.goto (-72), 3) := by decide +kernel
theorem dX6_leadsHome_112 : decode cX6_leadsHome 112 = .ok (.iconst 0, 1) := by decide +kernel
theorem dX6_leadsHome_113 : decode cX6_leadsHome 113 = .ok (.ireturn, 1) := by decide +kernel
theorem dX7_init_0 : decode cX7_init 0 = .ok (.aload_n 0, 1) := by decide +kernel
theorem dX7_init_1 : decode cX7_init 1 = .ok (.invokespecial 1, 3) := by decide +kernel
theorem dX7_init_4 : decode cX7_init 4 = .ok (.aload_n 0, 1) := by decide +kernel
theorem dX7_init_5 : decode cX7_init 5 = .ok (.new 7, 3) := by decide +kernel
theorem dX7_init_8 : decode cX7_init 8 = .ok (.dup, 1) := by decide +kernel
theorem dX7_init_9 : decode cX7_init 9 = .ok (.invokespecial 9, 3) := by decide +kernel
theorem dX7_init_12 : decode cX7_init 12 = .ok (.putfield 10, 3) := by decide +kernel
theorem dX7_init_15 : decode cX7_init 15 = .ok (.aload_n 0, 1) := by decide +kernel
theorem dX7_init_16 : decode cX7_init 16 = .ok (.new 16, 3) := by decide +kernel
theorem dX7_init_19 : decode cX7_init 19 = .ok (.dup, 1) := by decide +kernel
theorem dX7_init_20 : decode cX7_init 20 = .ok (.invokespecial 18, 3) := by decide +kernel
theorem dX7_init_23 : decode cX7_init 23 = .ok (.putfield 19, 3) := by decide +kernel
theorem dX7_init_26 : decode cX7_init 26 = .ok (.aload_n 0, 1) := by decide +kernel
theorem dX7_init_27 : decode cX7_init 27 = .ok (.new 23, 3) := by decide +kernel
theorem dX7_init_30 : decode cX7_init 30 = .ok (.dup, 1) := by decide +kernel
theorem dX7_init_31 : decode cX7_init 31 = .ok (.invokespecial 25, 3) := by decide +kernel
theorem dX7_init_34 : decode cX7_init 34 = .ok (.putfield 26, 3) := by decide +kernel
theorem dX7_init_37 : decode cX7_init 37 = .ok (.aload_n 0, 1) := by decide +kernel
theorem dX7_init_38 : decode cX7_init 38 = .ok (.iconst 0, 1) := by decide +kernel
theorem dX7_init_39 : decode cX7_init 39 = .ok (.putfield 30, 3) := by decide +kernel
theorem dX7_init_42 : decode cX7_init 42 = .ok (.aload_n 0, 1) := by decide +kernel
theorem dX7_init_43 : decode cX7_init 43 = .ok (.iconst 0, 1) := by decide +kernel
theorem dX7_init_44 : decode cX7_init 44 = .ok (.putfield 34, 3) := by decide +kernel
theorem dX7_init_47 : decode cX7_init 47 = .ok (.aload_n 0, 1) := by decide +kernel
theorem dX7_init_48 : decode cX7_init 48 = .ok (.iconst 0, 1) := by decide +kernel
theorem dX7_init_49 : decode cX7_init 49 = .ok (.putfield 37, 3) := by decide +kernel
theorem dX7_init_52 : decode cX7_init 52 = .ok (.return_, 1) := by decide +kernel
theorem dX7_copyFrom_0 : decode cX7_copyFrom 0 = .ok (.aload_n 0, 1) := by decide +kernel
theorem dX7_copyFrom_1 : decode cX7_copyFrom 1 = .ok (.getfield 10, 3) := by decide +kernel
theorem dX7_copyFrom_4 : decode cX7_copyFrom 4 = .ok (.aload_n 1, 1) := by decide +kernel
theorem dX7_copyFrom_5 : decode cX7_copyFrom 5 = .ok (.getfield 10, 3) := by decide +kernel
theorem dX7_copyFrom_8 : decode cX7_copyFrom 8 = .ok (.invokevirtual 40, 3) := by decide +kernel
theorem dX7_copyFrom_11 : decode cX7_copyFrom 11 = .ok (.aload_n 0, 1) := by decide +kernel
theorem dX7_copyFrom_12 : decode cX7_copyFrom 12 = .ok (.getfield 19, 3) := by decide +kernel
theorem dX7_copyFrom_15 : decode cX7_copyFrom 15 = .ok (.aload_n 1, 1) := by decide +kernel
theorem dX7_copyFrom_16 : decode cX7_copyFrom 16 = .ok (.getfield 19, 3) := by decide +kernel
theorem dX7_copyFrom_19 : decode cX7_copyFrom 19 = .ok (.invokevirtual 44, 3) := by decide +kernel
theorem dX7_copyFrom_22 : decode cX7_copyFrom 22 = .ok (.aload_n 0, 1) := by decide +kernel
theorem dX7_copyFrom_23 : decode cX7_copyFrom 23 = .ok (.getfield 26, 3) := by decide +kernel
theorem dX7_copyFrom_26 : decode cX7_copyFrom 26 = .ok (.aload_n 1, 1) := by decide +kernel
theorem dX7_copyFrom_27 : decode cX7_copyFrom 27 = .ok (.getfield 26, 3) := by decide +kernel
theorem dX7_copyFrom_30 : decode cX7_copyFrom 30 = .ok (.invokevirtual 47, 3) := by decide +kernel
theorem dX7_copyFrom_33 : decode cX7_copyFrom 33 = .ok (.aload_n 0, 1) := by decide +kernel
theorem dX7_copyFrom_34 : decode cX7_copyFrom 34 = .ok (.aload_n 1, 1) := by decide +kernel
theorem dX7_copyFrom_35 : decode cX7_copyFrom 35 = .ok (.getfield 30, 3) := by decide +kernel
theorem dX7_copyFrom_38 : decode cX7_copyFrom 38 = .ok (.putfield 30, 3) := by decide +kernel
theorem dX7_copyFrom_41 : decode cX7_copyFrom 41 = .ok (.aload_n 0, 1) := by decide +kernel
theorem dX7_copyFrom_42 : decode cX7_copyFrom 42 = .ok (.aload_n 1, 1) := by decide +kernel
theorem dX7_copyFrom_43 : decode cX7_copyFrom 43 = .ok (.getfield 34, 3) := by decide +kernel
theorem dX7_copyFrom_46 : decode cX7_copyFrom 46 = .ok (.putfield 34, 3) := by decide +kernel
theorem dX7_copyFrom_49 : decode cX7_copyFrom 49 = .ok (.aload_n 0, 1) := by decide +kernel
theorem dX7_copyFrom_50 : decode cX7_copyFrom 50 = .ok (.aload_n 1, 1) := by decide +kernel
theorem dX7_copyFrom_51 : decode cX7_copyFrom 51 = .ok (.getfield 37, 3) := by decide +kernel
theorem dX7_copyFrom_54 : decode cX7_copyFrom 54 = .ok (.putfield 37, 3) := by decide +kernel
theorem dX7_copyFrom_57 : decode cX7_copyFrom 57 = .ok (.return_, 1) := by decide +kernel
