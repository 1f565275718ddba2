theorem dX9_goHome_51 : decode cX9_goHome 51 = .ok (.if_icmp .ge 67, 3) := by decide +kernel
theorem dX9_goHome_54 : decode cX9_goHome 54 = .ok (.aload_n 0, 1) := by decide +kernel
theorem dX9_goHome_55 : decode cX9_goHome 55 = .ok (.getfield 7, 3) := by decide +kernel
theorem dX9_goHome_58 : decode cX9_goHome 58 = .ok (.bipush 20, 2) := by decide +kernel
theorem dX9_goHome_60 : decode cX9_goHome 60 = .ok (.iload_n 2, 1) := by decide +kernel
theorem dX9_goHome_61 : decode cX9_goHome 61 = .ok (.iadd, 1) := by decide +kernel
theorem dX9_goHome_62 : decode cX9_goHome 62 = .ok (.iaload, 1) := by decide +kernel
theorem dX9_goHome_63 : decode cX9_goHome 63 = .ok (.istore_n 3, 1) := by decide +kernel
theorem dX9_goHome_64 : decode cX9_goHome 64 = .ok (.iload_n 3, 1) := by decide +kernel
theorem dX9_goHome_65 : decode cX9_goHome 65 = .ok (.bipush (-5), 2) := by decide +kernel
theorem dX9_goHome_67 : decode cX9_goHome 67 = .ok (.if_icmp .eq 45, 3) := by decide +kernel
theorem dX9_goHome_70 : decode cX9_goHome 70 = .ok (.iload_n 2, 1) := by decide +kernel
theorem dX9_goHome_71 : decode cX9_goHome 71 = .ok (.iload_n 3, 1) := by decide +kernel
theorem dX9_goHome_72 : decode cX9_goHome 72 = .ok (.invokestatic 126, 3) := by decide +kernel
theorem dX9_goHome_75 : decode cX9_goHome 75 = .ok (.ifCond .ne 37, 3) := by decide +kernel
theorem dX9_goHome_78 : decode cX9_goHome 78 = .ok (.aload_n 0, 1) := by decide +kernel
theorem dX9_goHome_79 : decode cX9_goHome 79 = .ok (.getfield 7, 3) := by decide +kernel
theorem dX9_goHome_82 : decode cX9_goHome 82 = .ok (.bipush 20, 2) := by decide +kernel
theorem dX9_goHome_84 : decode cX9_goHome 84 = .ok (.iload_n 2, 1) := by decide +kernel
theorem dX9_goHome_85 : decode cX9_goHome 85 = .ok (.iadd, 1) := by decide +kernel
theorem dX9_goHome_86 : decode cX9_goHome 86 = .ok (.bipush (-5), 2) := by decide +kernel
theorem dX9_goHome_88 : decode cX9_goHome 88 = .ok (.iastore, 1) := by decide +kernel
theorem dX9_goHome_89 : decode cX9_goHome 89 = .ok (.aload_n 0, 1) := by decide +kernel
theorem dX9_goHome_90 : decode cX9_goHome 90 = .ok (.getfield 7, 3) := by decide +kernel
theorem dX9_goHome_93 : decode cX9_goHome 93 = .ok (.bipush 20, 2) := by decide +kernel
theorem dX9_goHome_95 : decode cX9_goHome 95 = .ok (.iload_n 3, 1) := by decide +kernel
theorem dX9_goHome_96 : decode cX9_goHome 96 = .ok (.iadd, 1) := by decide +kernel
theorem dX9_goHome_97 : decode cX9_goHome 97 = .ok (.bipush (-5), 2) := by decide +kernel
theorem dX9_goHome_99 : decode cX9_goHome 99 = .ok (.iastore, 1) := by decide +kernel
theorem dX9_goHome_100 : decode cX9_goHome 100 = .ok (.aload_n 0, 1) := by decide +kernel
theorem dX9_goHome_101 : decode cX9_goHome 101 = .ok (.getfield 7, 3) := by decide +kernel
theorem dX9_goHome_104 : decode cX9_goHome 104 = .ok (.sipush 280, 3) := by decide +kernel
theorem dX9_goHome_107 : decode cX9_goHome 107 = .ok (.dup2, 1) := by decide +kernel
theorem dX9_goHome_108 : decode cX9_goHome 108 = .ok (.iaload, 1) := by decide +kernel
theorem dX9_goHome_109 : decode cX9_goHome 109 = .ok (.iconst 1, 1) := by decide +kernel
theorem dX9_goHome_110 : decode cX9_goHome 110 = .ok (.iadd, 1) := by decide +kernel
theorem dX9_goHome_111 : decode cX9_goHome 111 = .ok (.iastore, 1) := by decide +kernel
theorem dX9_goHome_112 : decode cX9_goHome 112 = .ok (.iinc 2 1, 3) := by decide +kernel
theorem dX9_goHome_115 : decode cX9_goHome 115 = .ok (.goto (-67), 3) := by decide +kernel
theorem dX9_goHome_118 : decode cX9_goHome 118 = .ok (.iload_n 1, 1) := by decide +kernel
theorem dX9_goHome_119 : decode cX9_goHome 119 = .ok (.ireturn, 1) := by decide +kernel
theorem dX9_append_0 : decode cX9_append 0 = .ok (.iload_n 1, 1) := by decide +kernel
theorem dX9_append_1 : decode cX9_append 1 = .ok (.bipush 32, 2) := by decide +kernel
theorem dX9_append_3 : decode cX9_append 3 = .ok (.bipush 126, 2) := by decide +kernel
theorem dX9_append_5 : decode cX9_append 5 = .ok (.invokestatic 62, 3) := by decide +kernel
theorem dX9_append_8 : decode cX9_append 8 = .ok (.ifCond .ne 6, 3) := by decide +kernel
theorem dX9_append_11 : decode cX9_append 11 = .ok (.bipush (-2), 2) := by decide +kernel
theorem dX9_append_13 : decode cX9_append 13 = .ok (.ireturn, 1) := by decide +kernel
theorem dX9_append_14 : decode cX9_append 14 = .ok (.aload_n 0, 1) := by decide +kernel
theorem dX9_append_15 : decode cX9_append 15 = .ok (.getfield 157, 3) := by decide +kernel
theorem dX9_append_18 : decode cX9_append 18 = .ok (.bipush 80, 2) := by decide +kernel
theorem dX9_append_20 : decode cX9_append 20 = .ok (.if_icmp .ne 6, 3) := by decide +kernel
theorem dX9_append_23 : decode cX9_append 23 = .ok (.bipush (-3), 2) := by decide +kernel
theorem dX9_append_25 : decode cX9_append 25 = .ok (.ireturn, 1) := by decide +kernel
theorem dX9_append_26 : decode cX9_append 26 = .ok (.aload_n 0, 1) := by decide +kernel
theorem dX9_append_27 : decode cX9_append 27 = .ok (.getfield 40, 3) := by decide +kernel
theorem dX9_append_30 : decode cX9_append 30 = .ok (.aload_n 0, 1) := by decide +kernel
theorem dX9_append_31 : decode cX9_append 31 = .ok (.getfield 157, 3) := by decide +kernel
theorem dX9_append_34 : decode cX9_append 34 = .ok (.iload_n 1, 1) := by decide +kernel
theorem dX9_append_35 : decode cX9_append 35 = .ok (.iastore, 1) := by decide +kernel
theorem dX9_append_36 : decode cX9_append 36 = .ok (.aload_n 0, 1) := by decide +kernel
theorem dX9_append_37 : decode cX9_append 37 = .ok (.dup, 1) := by decide +kernel
theorem dX9_append_38 : decode cX9_append 38 = .ok (.getfield 157, 3) := by decide +kernel
theorem dX9_append_41 : decode cX9_append 41 = .ok (.iconst 1, 1) := by decide +kernel
theorem dX9_append_42 : decode cX9_append 42 = .ok (.iadd, 1) := by decide +kernel
theorem dX9_append_43 : decode cX9_append 43 = .ok (.putfield 157, 3) := by decide +kernel
theorem dX9_append_46 : decode cX9_append 46 = .ok (.aload_n 0, 1) := by decide +kernel
theorem dX9_append_47 : decode cX9_append 47 = .ok (.getfield 157, 3) := by decide +kernel
theorem dX9_append_50 : decode cX9_append 50 = .ok (.ireturn, 1) := by decide +kernel
theorem dX9_clearText_0 : decode cX9_clearText 0 = .ok (.aload_n 0, 1) := by decide +kernel
theorem dX9_clearText_1 : decode cX9_clearText 1 = .ok (.getfield 157, 3) := by decide +kernel
theorem dX9_clearText_4 : decode cX9_clearText 4 = .ok (.istore_n 1, 1) := by decide +kernel
theorem dX9_clearText_5 : decode cX9_clearText 5 = .ok (.aload_n 0, 1) := by decide +kernel
theorem dX9_clearText_6 : decode cX9_clearText 6 = .ok (.iconst 0, 1) := by decide +kernel
theorem dX9_clearText_7 : decode cX9_clearText 7 = .ok (.putfield 157, 3) := by decide +kernel
theorem dX9_clearText_10 : decode cX9_clearText 10 = .ok (.iload_n 1, 1) := by decide +kernel
theorem dX9_clearText_11 : decode cX9_clearText 11 = .ok (.ireturn, 1) := by decide +kernel
theorem dX9_takes_0 : decode cX9_takes 0 = .ok (.aload_n 0, 1) := by decide +kernel
theorem dX9_takes_1 : decode cX9_takes 1 = .ok (.getfield 160, 3) := by decide +kernel
theorem dX9_takes_4 : decode cX9_takes 4 = .ok (.aload_n 0, 1) := by decide +kernel
theorem dX9_takes_5 : decode cX9_takes 5 = .ok (.getfield 157, 3) := by decide +kernel
theorem dX9_takes_8 : decode cX9_takes 8 = .ok (.if_icmp .ge 24, 3) := by decide +kernel
theorem dX9_takes_11 : decode cX9_takes 11 = .ok (.aload_n 0, 1) := by decide +kernel
theorem dX9_takes_12 : decode cX9_takes 12 = .ok (.getfield 40, 3) := by decide +kernel
theorem dX9_takes_15 : decode cX9_takes 15 = .ok (.aload_n 0, 1) := by decide +kernel
theorem dX9_takes_16 : decode cX9_takes 16 = .ok (.getfield 160, 3) := by decide +kernel
theorem dX9_takes_19 : decode cX9_takes 19 = .ok (.iaload, 1) := by decide +kernel
theorem dX9_takes_20 : decode cX9_takes 20 = .ok (.iload_n 1, 1) := by decide +kernel
theorem dX9_takes_21 : decode cX9_takes 21 = .ok (.iload_n 2, 1) := by decide +kernel
theorem dX9_takes_22 : decode cX9_takes 22 = .ok (.invokestatic 62, 3) := by decide +kernel
theorem dX9_takes_25 : decode cX9_takes 25 = .ok (.ifCond .eq 7, 3) := by decide +kernel
theorem dX9_takes_28 : decode cX9_takes 28 = .ok (.iconst 1, 1) := by decide +kernel
theorem dX9_takes_29 : decode cX9_takes 29 = .ok (.goto 4, 3) := by decide +kernel
theorem dX9_takes_32 : decode cX9_takes 32 = .ok (.iconst 0, 1) := by decide +kernel
theorem dX9_takes_33 : decode cX9_takes 33 = .ok (.istore_n 3, 1) := by decide +kernel
theorem dX9_takes_34 : decode cX9_takes 34 = .ok (.aload_n 0, 1) := by decide +kernel
theorem dX9_takes_35 : decode cX9_takes 35 = .ok (.dup, 1) := by decide +kernel
theorem dX9_takes_36 : decode cX9_takes 36 = .ok (.getfield 160, 3) := by decide +kernel
theorem dX9_takes_39 : decode cX9_takes 39 = .ok (.iload_n 3, 1) := by decide +kernel
theorem dX9_takes_40 : decode cX9_takes 40 = .ok (.ifCond .eq 7, 3) := by decide +kernel
theorem dX9_takes_43 : decode cX9_takes 43 = .ok (.iconst 1, 1) := by decide +kernel
theorem dX9_takes_44 : decode cX9_takes 44 = .ok (.goto 4, 3) := by decide +kernel
theorem dX9_takes_47 : decode cX9_takes 47 = .ok (.iconst 0, 1) := by decide +kernel
theorem dX9_takes_48 : decode cX9_takes 48 = .ok (.iadd, 1) := by decide +kernel
theorem dX9_takes_49 : decode cX9_takes 49 = .ok (.putfield 160, 3) := by decide +kernel
theorem dX9_takes_52 : decode cX9_takes 52 = .ok (.iload_n 3, 1) := by decide +kernel
theorem dX9_takes_53 : decode cX9_takes 53 = .ok (.ireturn, 1) := by decide +kernel
theorem dX9_readCall_0 : decode cX9_readCall 0 = .ok (.aload_n 0, 1) := by decide +kernel
theorem dX9_readCall_1 : decode cX9_readCall 1 = .ok (.bipush 65, 2) := by decide +kernel
theorem dX9_readCall_3 : decode cX9_readCall 3 = .ok (.bipush 72, 2) := by decide +kernel
theorem dX9_readCall_5 : decode cX9_readCall 5 = .ok (.invokevirtual 163, 3) := by decide +kernel
theorem dX9_readCall_8 : decode cX9_readCall 8 = .ok (.ifCond .ne 5, 3) := by decide +kernel
theorem dX9_readCall_11 : decode cX9_readCall 11 = .ok (.iconst 0, 1) := by decide +kernel
theorem dX9_readCall_12 : decode cX9_readCall 12 = .ok (.ireturn, 1) := by decide +kernel
theorem dX9_readCall_13 : decode cX9_readCall 13 = .ok (.aload_n 0, 1) := by decide +kernel
theorem dX9_readCall_14 : decode cX9_readCall 14 = .ok (.getfield 43, 3) := by decide +kernel
theorem dX9_readCall_17 : decode cX9_readCall 17 = .ok (.aload_n 0, 1) := by decide +kernel
theorem dX9_readCall_18 : decode cX9_readCall 18 = .ok (.getfield 166, 3) := by decide +kernel
theorem dX9_readCall_21 : decode cX9_readCall 21 = .ok (.aload_n 0, 1) := by decide +kernel
theorem dX9_readCall_22 : decode cX9_readCall 22 = .ok (.getfield 40, 3) := by decide +kernel
theorem dX9_readCall_25 : decode cX9_readCall 25 = .ok (.aload_n 0, 1) := by decide +kernel
theorem dX9_readCall_26 : decode cX9_readCall 26 = .ok (.getfield 160, 3) := by decide +kernel
theorem dX9_readCall_29 : decode cX9_readCall 29 = .ok (.iconst 1, 1) := by decide +kernel
theorem dX9_readCall_30 : decode cX9_readCall 30 = .ok (.isub, 1) := by decide +kernel
theorem dX9_readCall_31 : decode cX9_readCall 31 = .ok (.iaload, 1) := by decide +kernel
theorem dX9_readCall_32 : decode cX9_readCall 32 = .ok (.bipush 65, 2) := by decide +kernel
theorem dX9_readCall_34 : decode cX9_readCall 34 = .ok (.isub, 1) := by decide +kernel
theorem dX9_readCall_35 : decode cX9_readCall 35 = .ok (.iastore, 1) := by decide +kernel
theorem dX9_readCall_36 : decode cX9_readCall 36 = .ok (.aload_n 0, 1) := by decide +kernel
theorem dX9_readCall_37 : decode cX9_readCall 37 = .ok (.getfield 46, 3) := by decide +kernel
theorem dX9_readCall_40 : decode cX9_readCall 40 = .ok (.aload_n 0, 1) := by decide +kernel
theorem dX9_readCall_41 : decode cX9_readCall 41 = .ok (.getfield 166, 3) := by decide +kernel
theorem dX9_readCall_44 : decode cX9_readCall 44 = .ok (.aload_n 0, 1) := by decide +kernel
theorem dX9_readCall_45 : decode cX9_readCall 45 = .ok (.bipush 50, 2) := by decide +kernel
theorem dX9_readCall_47 : decode cX9_readCall 47 = .ok (.bipush 57, 2) := by decide +kernel
theorem dX9_readCall_49 : decode cX9_readCall 49 = .ok (.invokevirtual 163, 3) := by decide +kernel
theorem dX9_readCall_52 : decode cX9_readCall 52 = .ok (.ifCond .eq 20, 3) := by decide +kernel
theorem dX9_readCall_55 : decode cX9_readCall 55 = .ok (.aload_n 0, 1) := by decide +kernel
theorem dX9_readCall_56 : decode cX9_readCall 56 = .ok (.getfield 40, 3) := by decide +kernel
theorem dX9_readCall_59 : decode cX9_readCall 59 = .ok (.aload_n 0, 1) := by decide +kernel
theorem dX9_readCall_60 : decode cX9_readCall 60 = .ok (.getfield 160, 3) := by decide +kernel
theorem dX9_readCall_63 : decode cX9_readCall 63 = .ok (.iconst 1, 1) := by decide +kernel
theorem dX9_readCall_64 : decode cX9_readCall 64 = .ok (.isub, 1) := by decide +kernel
theorem dX9_readCall_65 : decode cX9_readCall 65 = .ok (.iaload, 1) := by decide +kernel
theorem dX9_readCall_66 : decode cX9_readCall 66 = .ok (.bipush 48, 2) := by decide +kernel
theorem dX9_readCall_68 : decode cX9_readCall 68 = .ok (.isub, 1) := by decide +kernel
theorem dX9_readCall_69 : decode cX9_readCall 69 = .ok (.goto 4, 3) := by decide +kernel
theorem dX9_readCall_72 : decode cX9_readCall 72 = .ok (.iconst 1, 1) := by decide +kernel
theorem dX9_readCall_73 : decode cX9_readCall 73 = .ok (.iastore, 1) := by decide +kernel
theorem dX9_readCall_74 : decode cX9_readCall 74 = .ok (.aload_n 0, 1) := by decide +kernel
theorem dX9_readCall_75 : decode cX9_readCall 75 = .ok (.getfield 49, 3) := by decide +kernel
theorem dX9_readCall_78 : decode cX9_readCall 78 = .ok (.aload_n 0, 1) := by decide +kernel
theorem dX9_readCall_79 : decode cX9_readCall 79 = .ok (.getfield 166, 3) := by decide +kernel
theorem dX9_readCall_82 : decode cX9_readCall 82 = .ok (.aload_n 0, 1) := by decide +kernel
theorem dX9_readCall_83 : decode cX9_readCall 83 = .ok (.bipush 39, 2) := by decide +kernel
theorem dX9_readCall_85 : decode cX9_readCall 85 = .ok (.bipush 39, 2) := by decide +kernel
theorem dX9_readCall_87 : decode cX9_readCall 87 = .ok (.invokevirtual 163, 3) := by decide +kernel
theorem dX9_readCall_90 : decode cX9_readCall 90 = .ok (.bastore, 1) := by decide +kernel
theorem dX9_readCall_91 : decode cX9_readCall 91 = .ok (.aload_n 0, 1) := by decide +kernel
theorem dX9_readCall_92 : decode cX9_readCall 92 = .ok (.dup, 1) := by decide +kernel
theorem dX9_readCall_93 : decode cX9_readCall 93 = .ok (.getfield 166, 3) := by decide +kernel
theorem dX9_readCall_96 : decode cX9_readCall 96 = .ok (.iconst 1, 1) := by decide +kernel
theorem dX9_readCall_97 : decode cX9_readCall 97 = .ok (.iadd, 1) := by decide +kernel
theorem dX9_readCall_98 : decode cX9_readCall 98 = .ok (.putfield 166, 3) := by decide +kernel
theorem dX9_readCall_101 : decode cX9_readCall 101 = .ok (.iconst 1, 1) := by decide +kernel
theorem dX9_readCall_102 : decode cX9_readCall 102 = .ok (.ireturn, 1) := by decide +kernel
theorem dX9_isScript_0 : decode cX9_isScript 0 = .ok (.aload_n 0, 1) := by decide +kernel
theorem dX9_isScript_1 : decode cX9_isScript 1 = .ok (.iconst 0, 1) := by decide +kernel
theorem dX9_isScript_2 : decode cX9_isScript 2 = .ok (.putfield 160, 3) := by decide +kernel
theorem dX9_isScript_5 : decode cX9_isScript 5 = .ok (.aload_n 0, 1) := by decide +kernel
theorem dX9_isScript_6 : decode cX9_isScript 6 = .ok (.iconst 0, 1) := by decide +kernel
theorem dX9_isScript_7 : decode cX9_isScript 7 = .ok (.putfield 166, 3) := by decide +kernel
theorem dX9_isScript_10 : decode cX9_isScript 10 = .ok (.aload_n 0, 1) := by decide +kernel
theorem dX9_isScript_11 : decode cX9_isScript 11 = .ok (.invokevirtual 169, 3) := by decide +kernel
theorem dX9_isScript_14 : decode cX9_isScript 14 = .ok (.istore_n 1, 1) := by decide +kernel
theorem dX9_isScript_15 : decode cX9_isScript 15 = .ok (.iload_n 1, 1) := by decide +kernel
theorem dX9_isScript_16 : decode cX9_isScript 16 = .ok (.ifCond .eq 22, 3) := by decide +kernel
theorem dX9_isScript_19 : decode cX9_isScript 19 = .ok (.aload_n 0, 1) := by decide +kernel
theorem dX9_isScript_20 : decode cX9_isScript 20 = .ok (.bipush 32, 2) := by decide +kernel
theorem dX9_isScript_22 : decode cX9_isScript 22 = .ok (.bipush 32, 2) := by decide +kernel
theorem dX9_isScript_24 : decode cX9_isScript 24 = .ok (.invokevirtual 163, 3) := by decide +kernel
theorem dX9_isScript_27 : decode cX9_isScript 27 = .ok (.ifCond .eq 11, 3) := by decide +kernel
theorem dX9_isScript_30 : decode cX9_isScript 30 = .ok (.aload_n 0, 1) := by decide +kernel
theorem dX9_isScript_31 : decode cX9_isScript 31 = .ok (.invokevirtual 169, 3) := by decide +kernel
theorem dX9_isScript_34 : decode cX9_isScript 34 = .ok (.istore_n 1, 1) := by decide +kernel
theorem dX9_isScript_35 : decode cX9_isScript 35 = .ok (.goto (-20), 3) := by decide +kernel
theorem dX9_isScript_38 : decode cX9_isScript 38 = .ok (.iload_n 1, 1) := by decide +kernel
theorem dX9_isScript_39 : decode cX9_isScript 39 = .ok (.ifCond .eq 18, 3) := by decide +kernel
theorem dX9_isScript_42 : decode cX9_isScript 42 = .ok (.aload_n 0, 1) := by decide +kernel
theorem dX9_isScript_43 : decode cX9_isScript 43 = .ok (.getfield 160, 3) := by decide +kernel
theorem dX9_isScript_46 : decode cX9_isScript 46 = .ok (.aload_n 0, 1) := by decide +kernel
theorem dX9_isScript_47 : decode cX9_isScript 47 = .ok (.getfield 157, 3) := by decide +kernel
theorem dX9_isScript_50 : decode cX9_isScript 50 = .ok (.if_icmp .ne 7, 3) := by decide +kernel
theorem dX9_isScript_53 : decode cX9_isScript 53 = .ok (.iconst 1, 1) := by decide +kernel
theorem dX9_isScript_54 : decode cX9_isScript 54 = .ok (.goto 4, 3) := by decide +kernel
theorem dX9_isScript_57 : decode cX9_isScript 57 = .ok (.iconst 0, 1) := by decide +kernel
theorem dX9_isScript_58 : decode cX9_isScript 58 = .ok (.ireturn, 1) := by decide +kernel
theorem dX9_fault_0 : decode cX9_fault 0 = .ok (.aload_n 0, 1) := by decide +kernel
theorem dX9_fault_1 : decode cX9_fault 1 = .ok (.invokevirtual 172, 3) := by decide +kernel
theorem dX9_fault_4 : decode cX9_fault 4 = .ok (.ifCond .eq 8, 3) := by decide +kernel
theorem dX9_fault_7 : decode cX9_fault 7 = .ok (.bipush (-5), 2) := by decide +kernel
theorem dX9_fault_9 : decode cX9_fault 9 = .ok (.goto 7, 3) := by decide +kernel
theorem dX9_fault_12 : decode cX9_fault 12 = .ok (.aload_n 0, 1) := by decide +kernel
theorem dX9_fault_13 : decode cX9_fault 13 = .ok (.getfield 160, 3) := by decide +kernel
theorem dX9_fault_16 : decode cX9_fault 16 = .ok (.ireturn, 1) := by decide +kernel
theorem dX9_run_0 : decode cX9_run 0 = .ok (.aload_n 0, 1) := by decide +kernel
theorem dX9_run_1 : decode cX9_run 1 = .ok (.invokevirtual 172, 3) := by decide +kernel
theorem dX9_run_4 : decode cX9_run 4 = .ok (.ifCond .ne 11, 3) := by decide +kernel
theorem dX9_run_7 : decode cX9_run 7 = .ok (.bipush (-100), 2) := by decide +kernel
theorem dX9_run_9 : decode cX9_run 9 = .ok (.aload_n 0, 1) := by decide +kernel
theorem dX9_run_10 : decode cX9_run 10 = .ok (.getfield 160, 3) := by decide +kernel
theorem dX9_run_13 : decode cX9_run 13 = .ok (.isub, 1) := by decide +kernel
theorem dX9_run_14 : decode cX9_run 14 = .ok (.ireturn, 1) := by decide +kernel
theorem dX9_run_15 : decode cX9_run 15 = .ok (.aload_n 0, 1) := by decide +kernel
theorem dX9_run_16 : decode cX9_run 16 = .ok (.invokevirtual 78, 3) := by decide +kernel
theorem dX9_run_19 : decode cX9_run 19 = .ok (.iconst 0, 1) := by decide +kernel
theorem dX9_run_20 : decode cX9_run 20 = .ok (.istore_n 1, 1) := by decide +kernel
theorem dX9_run_21 : decode cX9_run 21 = .ok (.iconst 1, 1) := by decide +kernel
theorem dX9_run_22 : decode cX9_run 22 = .ok (.istore_n 2, 1) := by decide +kernel
theorem dX9_run_23 : decode cX9_run 23 = .ok (.iload_n 1, 1) := by decide +kernel
theorem dX9_run_24 : decode cX9_run 24 = .ok (.aload_n 0, 1) := by decide +kernel
theorem dX9_run_25 : decode cX9_run 25 = .ok (.getfield 166, 3) := by decide +kernel
theorem dX9_run_28 : decode cX9_run 28 = .ok (.if_icmp .ge 53, 3) := by decide +kernel
theorem dX9_run_31 : decode cX9_run 31 = .ok (.iload_n 2, 1) := by decide +kernel
theorem dX9_run_32 : decode cX9_run 32 = .ok (.ifCond .eq 49, 3) := by decide +kernel
theorem dX9_run_35 : decode cX9_run 35 = .ok (.aload_n 0, 1) := by decide +kernel
theorem dX9_run_36 : decode cX9_run 36 = .ok (.aload_n 0, 1) := by decide +kernel
theorem dX9_run_37 : decode cX9_run 37 = .ok (.getfield 43, 3) := by decide +kernel
theorem dX9_run_40 : decode cX9_run 40 = .ok (.iload_n 1, 1) := by decide +kernel
theorem dX9_run_41 : decode cX9_run 41 = .ok (.iaload, 1) := by decide +kernel
theorem dX9_run_42 : decode cX9_run 42 = .ok (.aload_n 0, 1) := by decide +kernel
theorem dX9_run_43 : decode cX9_run 43 = .ok (.getfield 46, 3) := by decide +kernel
theorem dX9_run_46 : decode cX9_run 46 = .ok (.iload_n 1, 1) := by decide +kernel
theorem dX9_run_47 : decode cX9_run 47 = .ok (.iaload, 1) := by decide +kernel
theorem dX9_run_48 : decode cX9_run 48 = .ok (.aload_n 0, 1) := by decide +kernel
theorem dX9_run_49 : decode cX9_run 49 = .ok (.getfield 49, 3) := by decide +kernel
theorem dX9_run_52 : decode cX9_run 52 = .ok (.iload_n 1, 1) := by decide +kernel
theorem dX9_run_53 : decode cX9_run 53 = .ok (.baload, 1) := by decide +kernel
theorem dX9_run_54 : decode cX9_run 54 = .ok (.invokevirtual 154, 3) := by decide +kernel
theorem dX9_run_57 : decode cX9_run 57 = .ok (.ifCond .lt 7, 3) := by decide +kernel
theorem dX9_run_60 : decode cX9_run 60 = .ok (.iconst 1, 1) := by decide +kernel
theorem dX9_run_61 : decode cX9_run 61 = .ok (.goto 4, 3) := by decide +kernel
theorem dX9_run_64 : decode cX9_run 64 = .ok (.iconst 0, 1) := by decide +kernel
theorem dX9_run_65 : decode cX9_run 65 = .ok (.istore_n 2, 1) := by decide +kernel
theorem dX9_run_66 : decode cX9_run 66 = .ok (.iload_n 1, 1) := by decide +kernel
theorem dX9_run_67 : decode cX9_run 67 = .ok (.iload_n 2, 1) := by decide +kernel
theorem dX9_run_68 : decode cX9_run 68 = .ok (.ifCond .eq 7, 3) := by decide +kernel
theorem dX9_run_71 : decode cX9_run 71 = .ok (.iconst 1, 1) := by decide +kernel
theorem dX9_run_72 : decode cX9_run 72 = .ok (.goto 4, 3) := by decide +kernel
theorem dX9_run_75 : decode cX9_run 75 = .ok (.iconst 0, 1) := by decide +kernel
theorem dX9_run_76 : decode cX9_run 76 = .ok (.iadd, 1) := by decide +kernel
theorem dX9_run_77 : decode cX9_run 77 = .ok (.istore_n 1, 1) := by decide +kernel
theorem dX9_run_78 : decode cX9_run 78 = .ok (.goto (-55), 3) := by decide +kernel
theorem dX9_run_81 : decode cX9_run 81 = .ok (.iload_n 1, 1) := by decide +kernel
theorem dX9_run_82 : decode cX9_run 82 = .ok (.ireturn, 1) := by decide +kernel
theorem dX9_dancer_0 : decode cX9_dancer 0 = .ok (.iload_n 1, 1) := by decide +kernel
theorem dX9_dancer_1 : decode cX9_dancer 1 = .ok (.invokestatic 147, 3) := by decide +kernel
theorem dX9_dancer_4 : decode cX9_dancer 4 = .ok (.ifCond .ne 5, 3) := by decide +kernel
theorem dX9_dancer_7 : decode cX9_dancer 7 = .ok (.iconst (-1), 1) := by decide +kernel
theorem dX9_dancer_8 : decode cX9_dancer 8 = .ok (.ireturn, 1) := by decide +kernel
theorem dX9_dancer_9 : decode cX9_dancer 9 = .ok (.iload_n 2, 1) := by decide +kernel
theorem dX9_dancer_10 : decode cX9_dancer 10 = .ok (.ifCond .ne 11, 3) := by decide +kernel
theorem dX9_dancer_13 : decode cX9_dancer 13 = .ok (.aload_n 0, 1) := by decide +kernel
theorem dX9_dancer_14 : decode cX9_dancer 14 = .ok (.iload_n 1, 1) := by decide +kernel
theorem dX9_dancer_15 : decode cX9_dancer 15 = .ok (.invokevirtual 123, 3) := by decide +kernel
theorem dX9_dancer_18 : decode cX9_dancer 18 = .ok (.goto 39, 3) := by decide +kernel
theorem dX9_dancer_21 : decode cX9_dancer 21 = .ok (.iload_n 2, 1) := by decide +kernel
theorem dX9_dancer_22 : decode cX9_dancer 22 = .ok (.iconst 1, 1) := by decide +kernel
theorem dX9_dancer_23 : decode cX9_dancer 23 = .ok (.if_icmp .ne 15, 3) := by decide +kernel
theorem dX9_dancer_26 : decode cX9_dancer 26 = .ok (.aload_n 0, 1) := by decide +kernel
theorem dX9_dancer_27 : decode cX9_dancer 27 = .ok (.getfield 7, 3) := by decide +kernel
theorem dX9_dancer_30 : decode cX9_dancer 30 = .ok (.bipush 10, 2) := by decide +kernel
theorem dX9_dancer_32 : decode cX9_dancer 32 = .ok (.iload_n 1, 1) := by decide +kernel
theorem dX9_dancer_33 : decode cX9_dancer 33 = .ok (.iadd, 1) := by decide +kernel
theorem dX9_dancer_34 : decode cX9_dancer 34 = .ok (.iaload, 1) := by decide +kernel
theorem dX9_dancer_35 : decode cX9_dancer 35 = .ok (.goto 22, 3) := by decide +kernel
theorem dX9_dancer_38 : decode cX9_dancer 38 = .ok (.iload_n 2, 1) := by decide +kernel
theorem dX9_dancer_39 : decode cX9_dancer 39 = .ok (.iconst 2, 1) := by decide +kernel
theorem dX9_dancer_40 : decode cX9_dancer 40 = .ok (.if_icmp .ne 15, 3) := by decide +kernel
theorem dX9_dancer_43 : decode cX9_dancer 43 = .ok (.aload_n 0, 1) := by decide +kernel
theorem dX9_dancer_44 : decode cX9_dancer 44 = .ok (.getfield 7, 3) := by decide +kernel
theorem dX9_dancer_47 : decode cX9_dancer 47 = .ok (.bipush 20, 2) := by decide +kernel
theorem dX9_dancer_49 : decode cX9_dancer 49 = .ok (.iload_n 1, 1) := by decide +kernel
theorem dX9_dancer_50 : decode cX9_dancer 50 = .ok (.iadd, 1) := by decide +kernel
theorem dX9_dancer_51 : decode cX9_dancer 51 = .ok (.iaload, 1) := by decide +kernel
theorem dX9_dancer_52 : decode cX9_dancer 52 = .ok (.goto 5, 3) := by decide +kernel
theorem dX9_dancer_55 : decode cX9_dancer 55 = .ok (.bipush (-2), 2) := by decide +kernel
theorem dX9_dancer_57 : decode cX9_dancer 57 = .ok (.ireturn, 1) := by decide +kernel
theorem dX9_at_0 : decode cX9_at 0 = .ok (.iload_n 1, 1) := by decide +kernel
theorem dX9_at_1 : decode cX9_at 1 = .ok (.invokestatic 147, 3) := by decide +kernel
theorem dX9_at_4 : decode cX9_at 4 = .ok (.ifCond .eq 14, 3) := by decide +kernel
theorem dX9_at_7 : decode cX9_at 7 = .ok (.aload_n 0, 1) := by decide +kernel
theorem dX9_at_8 : decode cX9_at 8 = .ok (.getfield 7, 3) := by decide +kernel
theorem dX9_at_11 : decode cX9_at 11 = .ok (.iconst 0, 1) := by decide +kernel
theorem dX9_at_12 : decode cX9_at 12 = .ok (.iload_n 1, 1) := by decide +kernel
theorem dX9_at_13 : decode cX9_at 13 = .ok (.iadd, 1) := by decide +kernel
theorem dX9_at_14 : decode cX9_at 14 = .ok (.iaload, 1) := by decide +kernel
theorem dX9_at_15 : decode cX9_at 15 = .ok (.goto 4, 3) := by decide +kernel
theorem dX9_at_18 : decode cX9_at 18 = .ok (.iconst (-1), 1) := by decide +kernel
theorem dX9_at_19 : decode cX9_at 19 = .ok (.ireturn, 1) := by decide +kernel
theorem dX9_move_0 : decode cX9_move 0 = .ok (.iload_n 1, 1) := by decide +kernel
theorem dX9_move_1 : decode cX9_move 1 = .ok (.invokestatic 97, 3) := by decide +kernel
theorem dX9_move_4 : decode cX9_move 4 = .ok (.ifCond .eq 18, 3) := by decide +kernel
theorem dX9_move_7 : decode cX9_move 7 = .ok (.iload_n 2, 1) := by decide +kernel
theorem dX9_move_8 : decode cX9_move 8 = .ok (.iconst 0, 1) := by decide +kernel
theorem dX9_move_9 : decode cX9_move 9 = .ok (.aload_n 0, 1) := by decide +kernel
theorem dX9_move_10 : decode cX9_move 10 = .ok (.iload_n 1, 1) := by decide +kernel
theorem dX9_move_11 : decode cX9_move 11 = .ok (.invokevirtual 81, 3) := by decide +kernel
theorem dX9_move_14 : decode cX9_move 14 = .ok (.iconst 1, 1) := by decide +kernel
theorem dX9_move_15 : decode cX9_move 15 = .ok (.isub, 1) := by decide +kernel
theorem dX9_move_16 : decode cX9_move 16 = .ok (.invokestatic 62, 3) := by decide +kernel
theorem dX9_move_19 : decode cX9_move 19 = .ok (.ifCond .ne 5, 3) := by decide +kernel
theorem dX9_move_22 : decode cX9_move 22 = .ok (.iconst (-1), 1) := by decide +kernel
theorem dX9_move_23 : decode cX9_move 23 = .ok (.ireturn, 1) := by decide +kernel
theorem dX9_move_24 : decode cX9_move 24 = .ok (.iload_n 3, 1) := by decide +kernel
theorem dX9_move_25 : decode cX9_move 25 = .ok (.iconst 0, 1) := by decide +kernel
theorem dX9_move_26 : decode cX9_move 26 = .ok (.iconst 2, 1) := by decide +kernel
theorem dX9_move_27 : decode cX9_move 27 = .ok (.invokestatic 62, 3) := by decide +kernel
theorem dX9_move_30 : decode cX9_move 30 = .ok (.ifCond .eq 13, 3) := by decide +kernel
theorem dX9_move_33 : decode cX9_move 33 = .ok (.aload_n 0, 1) := by decide +kernel
theorem dX9_move_34 : decode cX9_move 34 = .ok (.iload_n 1, 1) := by decide +kernel
theorem dX9_move_35 : decode cX9_move 35 = .ok (.iload_n 2, 1) := by decide +kernel
theorem dX9_move_36 : decode cX9_move 36 = .ok (.iload_n 3, 1) := by decide +kernel
theorem dX9_move_37 : decode cX9_move 37 = .ok (.invokevirtual 85, 3) := by decide +kernel
theorem dX9_move_40 : decode cX9_move 40 = .ok (.goto 5, 3) := by decide +kernel
theorem dX9_move_43 : decode cX9_move 43 = .ok (.bipush (-2), 2) := by decide +kernel
theorem dX9_move_45 : decode cX9_move 45 = .ok (.ireturn, 1) := by decide +kernel
theorem dX9_follow_0 : decode cX9_follow 0 = .ok (.iconst 0, 1) := by decide +kernel
theorem dX9_follow_1 : decode cX9_follow 1 = .ok (.istore_n 2, 1) := by decide +kernel
theorem dX9_follow_2 : decode cX9_follow 2 = .ok (.iload_n 2, 1) := by decide +kernel
theorem dX9_follow_3 : decode cX9_follow 3 = .ok (.bipush 10, 2) := by decide +kernel
theorem dX9_follow_5 : decode cX9_follow 5 = .ok (.if_icmp .ge 33, 3) := by decide +kernel
theorem dX9_follow_8 : decode cX9_follow 8 = .ok (.aload_n 0, 1) := by decide +kernel
theorem dX9_follow_9 : decode cX9_follow 9 = .ok (.getfield 53, 3) := by decide +kernel
theorem dX9_follow_12 : decode cX9_follow 12 = .ok (.bipush 10, 2) := by decide +kernel
theorem dX9_follow_14 : decode cX9_follow 14 = .ok (.iload_n 1, 1) := by decide +kernel
theorem dX9_follow_15 : decode cX9_follow 15 = .ok (.imul, 1) := by decide +kernel
theorem dX9_follow_16 : decode cX9_follow 16 = .ok (.iload_n 2, 1) := by decide +kernel
theorem dX9_follow_17 : decode cX9_follow 17 = .ok (.iadd, 1) := by decide +kernel
theorem dX9_follow_18 : decode cX9_follow 18 = .ok (.iload_n 2, 1) := by decide +kernel
theorem dX9_follow_19 : decode cX9_follow 19 = .ok (.iastore, 1) := by decide +kernel
theorem dX9_follow_20 : decode cX9_follow 20 = .ok (.aload_n 0, 1) := by decide +kernel
theorem dX9_follow_21 : decode cX9_follow 21 = .ok (.getfield 56, 3) := by decide +kernel
theorem dX9_follow_24 : decode cX9_follow 24 = .ok (.bipush 10, 2) := by decide +kernel
theorem dX9_follow_26 : decode cX9_follow 26 = .ok (.iload_n 1, 1) := by decide +kernel
theorem dX9_follow_27 : decode cX9_follow 27 = .ok (.imul, 1) := by decide +kernel
theorem dX9_follow_28 : decode cX9_follow 28 = .ok (.iload_n 2, 1) := by decide +kernel
theorem dX9_follow_29 : decode cX9_follow 29 = .ok (.iadd, 1) := by decide +kernel
theorem dX9_follow_30 : decode cX9_follow 30 = .ok (.iconst 0, 1) := by decide +kernel
theorem dX9_follow_31 : decode cX9_follow 31 = .ok (.iastore, 1) := by decide +kernel
theorem dX9_follow_32 : decode cX9_follow 32 = .ok (.iinc 2 1, 3) := by decide +kernel
theorem dX9_follow_35 : decode cX9_follow 35 = .ok (.goto (-33), 3) := by decide +kernel
theorem dX9_follow_38 : decode cX9_follow 38 = .ok (.iconst 0, 1) := by decide +kernel
theorem dX9_follow_39 : decode cX9_follow 39 = .ok (.istore_n 2, 1) := by decide +kernel
theorem dX9_follow_40 : decode cX9_follow 40 = .ok (.iload_n 2, 1) := by decide +kernel
theorem dX9_follow_41 : decode cX9_follow 41 = .ok (.aload_n 0, 1) := by decide +kernel
theorem dX9_follow_42 : decode cX9_follow 42 = .ok (.getfield 19, 3) := by decide +kernel
theorem dX9_follow_45 : decode cX9_follow 45 = .ok (.iload_n 1, 1) := by decide +kernel
theorem dX9_follow_46 : decode cX9_follow 46 = .ok (.iaload, 1) := by decide +kernel
theorem dX9_follow_47 : decode cX9_follow 47 = .ok (.if_icmp .ge 81, 3) := by decide +kernel
theorem dX9_follow_50 : decode cX9_follow 50 = .ok (.aload_n 0, 1) := by decide +kernel
theorem dX9_follow_51 : decode cX9_follow 51 = .ok (.iload_n 1, 1) := by decide +kernel
theorem dX9_follow_52 : decode cX9_follow 52 = .ok (.iload_n 2, 1) := by decide +kernel
theorem dX9_follow_53 : decode cX9_follow 53 = .ok (.iconst 0, 1) := by decide +kernel
theorem dX9_follow_54 : decode cX9_follow 54 = .ok (.invokevirtual 129, 3) := by decide +kernel
theorem dX9_follow_57 : decode cX9_follow 57 = .ok (.bipush 10, 2) := by decide +kernel
theorem dX9_follow_59 : decode cX9_follow 59 = .ok (.iload_n 1, 1) := by decide +kernel
theorem dX9_follow_60 : decode cX9_follow 60 = .ok (.imul, 1) := by decide +kernel
theorem dX9_follow_61 : decode cX9_follow 61 = .ok (.istore_n 3, 1) := by decide +kernel
theorem dX9_follow_62 : decode cX9_follow 62 = .ok (.iload_n 3, 1) := by decide +kernel
theorem dX9_follow_63 : decode cX9_follow 63 = .ok (.bipush 10, 2) := by decide +kernel
theorem dX9_follow_65 : decode cX9_follow 65 = .ok (.iload_n 1, 1) := by decide +kernel
theorem dX9_follow_66 : decode cX9_follow 66 = .ok (.imul, 1) := by decide +kernel
theorem dX9_follow_67 : decode cX9_follow 67 = .ok (.bipush 10, 2) := by decide +kernel
theorem dX9_follow_69 : decode cX9_follow 69 = .ok (.iadd, 1) := by decide +kernel
theorem dX9_follow_70 : decode cX9_follow 70 = .ok (.if_icmp .ge 52, 3) := by decide +kernel
theorem dX9_follow_73 : decode cX9_follow 73 = .ok (.aload_n 0, 1) := by decide +kernel
theorem dX9_follow_74 : decode cX9_follow 74 = .ok (.getfield 56, 3) := by decide +kernel
theorem dX9_follow_77 : decode cX9_follow 77 = .ok (.iload_n 3, 1) := by decide +kernel
theorem dX9_follow_78 : decode cX9_follow 78 = .ok (.aload_n 0, 1) := by decide +kernel
theorem dX9_follow_79 : decode cX9_follow 79 = .ok (.getfield 56, 3) := by decide +kernel
theorem dX9_follow_82 : decode cX9_follow 82 = .ok (.iload_n 3, 1) := by decide +kernel
theorem dX9_follow_83 : decode cX9_follow 83 = .ok (.iaload, 1) := by decide +kernel
theorem dX9_follow_84 : decode cX9_follow 84 = .ok (.aload_n 0, 1) := by decide +kernel
theorem dX9_follow_85 : decode cX9_follow 85 = .ok (.getfield 31, 3) := by decide +kernel
theorem dX9_follow_88 : decode cX9_follow 88 = .ok (.aload_n 0, 1) := by decide +kernel
theorem dX9_follow_89 : decode cX9_follow 89 = .ok (.getfield 53, 3) := by decide +kernel
theorem dX9_follow_92 : decode cX9_follow 92 = .ok (.iload_n 3, 1) := by decide +kernel
theorem dX9_follow_93 : decode cX9_follow 93 = .ok (.iaload, 1) := by decide +kernel
theorem dX9_follow_94 : decode cX9_follow 94 = .ok (.iaload, 1) := by decide +kernel
theorem dX9_follow_95 : decode cX9_follow 95 = .ok (.iadd, 1) := by decide +kernel
theorem dX9_follow_96 : decode cX9_follow 96 = .ok (.iconst 4, 1) := by decide +kernel
theorem dX9_follow_97 : decode cX9_follow 97 = .ok (.irem, 1) := by decide +kernel
theorem dX9_follow_98 : decode cX9_follow 98 = .ok (.iastore, 1) := by decide +kernel
theorem dX9_follow_99 : decode cX9_follow 99 = .ok (.aload_n 0, 1) := by decide +kernel
theorem dX9_follow_100 : decode cX9_follow 100 = .ok (.getfield 53, 3) := by decide +kernel
theorem dX9_follow_103 : decode cX9_follow 103 = .ok (.iload_n 3, 1) := by decide +kernel
theorem dX9_follow_104 : decode cX9_follow 104 = .ok (.aload_n 0, 1) := by decide +kernel
theorem dX9_follow_105 : decode cX9_follow 105 = .ok (.getfield 28, 3) := by decide +kernel
theorem dX9_follow_108 : decode cX9_follow 108 = .ok (.aload_n 0, 1) := by decide +kernel
theorem dX9_follow_109 : decode cX9_follow 109 = .ok (.getfield 53, 3) := by decide +kernel
theorem dX9_follow_112 : decode cX9_follow 112 = .ok (.iload_n 3, 1) := by decide +kernel
theorem dX9_follow_113 : decode cX9_follow 113 = .ok (.iaload, 1) := by decide +kernel
theorem dX9_follow_114 : decode cX9_follow 114 = .ok (.iaload, 1) := by decide +kernel
theorem dX9_follow_115 : decode cX9_follow 115 = .ok (.iastore, 1) := by decide +kernel
theorem dX9_follow_116 : decode cX9_follow 116 = .ok (.iinc 3 1, 3) := by decide +kernel
theorem dX9_follow_119 : decode cX9_follow 119 = .ok (.goto (-57), 3) := by decide +kernel
theorem dX9_follow_122 : decode cX9_follow 122 = .ok (.iinc 2 1, 3) := by decide +kernel
theorem dX9_follow_125 : decode cX9_follow 125 = .ok (.goto (-85), 3) := by decide +kernel
theorem dX9_follow_128 : decode cX9_follow 128 = .ok (.return_, 1) := by decide +kernel
theorem dX9_followAll_0 : decode cX9_followAll 0 = .ok (.aload_n 0, 1) := by decide +kernel
theorem dX9_followAll_1 : decode cX9_followAll 1 = .ok (.invokevirtual 112, 3) := by decide +kernel
theorem dX9_followAll_4 : decode cX9_followAll 4 = .ok (.iconst 0, 1) := by decide +kernel
theorem dX9_followAll_5 : decode cX9_followAll 5 = .ok (.istore_n 1, 1) := by decide +kernel
theorem dX9_followAll_6 : decode cX9_followAll 6 = .ok (.iload_n 1, 1) := by decide +kernel
theorem dX9_followAll_7 : decode cX9_followAll 7 = .ok (.bipush 8, 2) := by decide +kernel
theorem dX9_followAll_9 : decode cX9_followAll 9 = .ok (.if_icmp .ge 14, 3) := by decide +kernel
theorem dX9_followAll_12 : decode cX9_followAll 12 = .ok (.aload_n 0, 1) := by decide +kernel
theorem dX9_followAll_13 : decode cX9_followAll 13 = .ok (.iload_n 1, 1) := by decide +kernel
theorem dX9_followAll_14 : decode cX9_followAll 14 = .ok (.invokevirtual 175, 3) := by decide +kernel
theorem dX9_followAll_17 : decode cX9_followAll 17 = .ok (.iinc 1 1, 3) := by decide +kernel
theorem dX9_followAll_20 : decode cX9_followAll 20 = .ok (.goto (-14), 3) := by decide +kernel
theorem dX9_followAll_23 : decode cX9_followAll 23 = .ok (.return_, 1) := by decide +kernel
theorem dX9_multiple_0 : decode cX9_multiple 0 = .ok (.iload_n 0, 1) := by decide +kernel
theorem dX9_multiple_1 : decode cX9_multiple 1 = .ok (.istore_n 2, 1) := by decide +kernel
theorem dX9_multiple_2 : decode cX9_multiple 2 = .ok (.iload_n 2, 1) := by decide +kernel
theorem dX9_multiple_3 : decode cX9_multiple 3 = .ok (.iload_n 1, 1) := by decide +kernel
theorem dX9_multiple_4 : decode cX9_multiple 4 = .ok (.irem, 1) := by decide +kernel
theorem dX9_multiple_5 : decode cX9_multiple 5 = .ok (.ifCond .eq 10, 3) := by decide +kernel
theorem dX9_multiple_8 : decode cX9_multiple 8 = .ok (.iload_n 2, 1) := by decide +kernel
theorem dX9_multiple_9 : decode cX9_multiple 9 = .ok (.iload_n 0, 1) := by decide +kernel
theorem dX9_multiple_10 : decode cX9_multiple 10 = .ok (.iadd, 1) := by decide +kernel
theorem dX9_multiple_11 : decode cX9_multiple 11 = .ok (.istore_n 2, 1) := by decide +kernel
theorem dX9_multiple_12 : decode cX9_multiple 12 = .ok (.goto (-10), 3) := by decide +kernel
theorem dX9_multiple_15 : decode cX9_multiple 15 = .ok (.iload_n 2, 1) := by decide +kernel
theorem dX9_multiple_16 : decode cX9_multiple 16 = .ok (.ireturn, 1) := by decide +kernel
theorem dX9_back_0 : decode cX9_back 0 = .ok (.iload_n 2, 1) := by decide +kernel
theorem dX9_back_1 : decode cX9_back 1 = .ok (.istore_n 3, 1) := by decide +kernel
theorem dX9_back_2 : decode cX9_back 2 = .ok (.iconst 0, 1) := by decide +kernel
theorem dX9_back_3 : decode cX9_back 3 = .ok (.istore 4, 2) := by decide +kernel
theorem dX9_back_5 : decode cX9_back 5 = .ok (.iconst 0, 1) := by decide +kernel
theorem dX9_back_6 : decode cX9_back 6 = .ok (.istore 5, 2) := by decide +kernel
theorem dX9_back_8 : decode cX9_back 8 = .ok (.iload 5, 2) := by decide +kernel
theorem dX9_back_10 : decode cX9_back 10 = .ok (.ifCond .eq 13, 3) := by decide +kernel
theorem dX9_back_13 : decode cX9_back 13 = .ok (.iload_n 3, 1) := by decide +kernel
theorem dX9_back_14 : decode cX9_back 14 = .ok (.iload_n 2, 1) := by decide +kernel
theorem dX9_back_15 : decode cX9_back 15 = .ok (.if_icmp .ne 8, 3) := by decide +kernel
theorem dX9_back_18 : decode cX9_back 18 = .ok (.iload 4, 2) := by decide +kernel
theorem dX9_back_20 : decode cX9_back 20 = .ok (.ifCond .eq 39, 3) := by decide +kernel
theorem dX9_back_23 : decode cX9_back 23 = .ok (.iload 4, 2) := by decide +kernel
theorem dX9_back_25 : decode cX9_back 25 = .ok (.aload_n 0, 1) := by decide +kernel
theorem dX9_back_26 : decode cX9_back 26 = .ok (.getfield 56, 3) := by decide +kernel
theorem dX9_back_29 : decode cX9_back 29 = .ok (.bipush 10, 2) := by decide +kernel
theorem dX9_back_31 : decode cX9_back 31 = .ok (.iload_n 1, 1) := by decide +kernel
theorem dX9_back_32 : decode cX9_back 32 = .ok (.imul, 1) := by decide +kernel
theorem dX9_back_33 : decode cX9_back 33 = .ok (.iload_n 3, 1) := by decide +kernel
theorem dX9_back_34 : decode cX9_back 34 = .ok (.iadd, 1) := by decide +kernel
theorem dX9_back_35 : decode cX9_back 35 = .ok (.iaload, 1) := by decide +kernel
theorem dX9_back_36 : decode cX9_back 36 = .ok (.iadd, 1) := by decide +kernel
theorem dX9_back_37 : decode cX9_back 37 = .ok (.iconst 4, 1) := by decide +kernel
theorem dX9_back_38 : decode cX9_back 38 = .ok (.irem, 1) := by decide +kernel
theorem dX9_back_39 : decode cX9_back 39 = .ok (.istore 4, 2) := by decide +kernel
theorem dX9_back_41 : decode cX9_back 41 = .ok (.aload_n 0, 1) := by decide +kernel
theorem dX9_back_42 : decode cX9_back 42 = .ok (.getfield 53, 3) := by decide +kernel
theorem dX9_back_45 : decode cX9_back 45 = .ok (.bipush 10, 2) := by decide +kernel
theorem dX9_back_47 : decode cX9_back 47 = .ok (.iload_n 1, 1) := by decide +kernel
theorem dX9_back_48 : decode cX9_back 48 = .ok (.imul, 1) := by decide +kernel
theorem dX9_back_49 : decode cX9_back 49 = .ok (.iload_n 3, 1) := by decide +kernel
theorem dX9_back_50 : decode cX9_back 50 = .ok (.iadd, 1) := by decide +kernel
theorem dX9_back_51 : decode cX9_back 51 = .ok (.iaload, 1) := by decide +kernel
theorem dX9_back_52 : decode cX9_back 52 = .ok (.istore_n 3, 1) := by decide +kernel
theorem dX9_back_53 : decode cX9_back 53 = .ok (.iinc 5 1, 3) := by decide +kernel
theorem dX9_back_56 : decode cX9_back 56 = .ok (.goto (-48), 3) := by decide +kernel
theorem dX9_back_59 : decode cX9_back 59 = .ok (.iload 5, 2) := by decide +kernel
theorem dX9_back_61 : decode cX9_back 61 = .ok (.ireturn, 1) := by decide +kernel
theorem dX9_order_0 : decode cX9_order 0 = .ok (.iconst 1, 1) := by decide +kernel
theorem dX9_order_1 : decode cX9_order 1 = .ok (.istore_n 2, 1) := by decide +kernel
theorem dX9_order_2 : decode cX9_order 2 = .ok (.iconst 0, 1) := by decide +kernel
theorem dX9_order_3 : decode cX9_order 3 = .ok (.istore_n 3, 1) := by decide +kernel
theorem dX9_order_4 : decode cX9_order 4 = .ok (.iload_n 3, 1) := by decide +kernel
theorem dX9_order_5 : decode cX9_order 5 = .ok (.bipush 10, 2) := by decide +kernel
theorem dX9_order_7 : decode cX9_order 7 = .ok (.if_icmp .ge 20, 3) := by decide +kernel
theorem dX9_order_10 : decode cX9_order 10 = .ok (.iload_n 2, 1) := by decide +kernel
theorem dX9_order_11 : decode cX9_order 11 = .ok (.aload_n 0, 1) := by decide +kernel
theorem dX9_order_12 : decode cX9_order 12 = .ok (.iload_n 1, 1) := by decide +kernel
theorem dX9_order_13 : decode cX9_order 13 = .ok (.iload_n 3, 1) := by decide +kernel
theorem dX9_order_14 : decode cX9_order 14 = .ok (.invokevirtual 179, 3) := by decide +kernel
theorem dX9_order_17 : decode cX9_order 17 = .ok (.invokestatic 182, 3) := by decide +kernel
theorem dX9_order_20 : decode cX9_order 20 = .ok (.istore_n 2, 1) := by decide +kernel
theorem dX9_order_21 : decode cX9_order 21 = .ok (.iinc 3 1, 3) := by decide +kernel
theorem dX9_order_24 : decode cX9_order 24 = .ok (.goto (-20), 3) := by decide +kernel
theorem dX9_order_27 : decode cX9_order 27 = .ok (.iload_n 2, 1) := by decide +kernel
theorem dX9_order_28 : decode cX9_order 28 = .ok (.ireturn, 1) := by decide +kernel
theorem dX9_odd_0 : decode cX9_odd 0 = .ok (.iconst 0, 1) := by decide +kernel
theorem dX9_odd_1 : decode cX9_odd 1 = .ok (.istore_n 2, 1) := by decide +kernel
theorem dX9_odd_2 : decode cX9_odd 2 = .ok (.iconst 0, 1) := by decide +kernel
theorem dX9_odd_3 : decode cX9_odd 3 = .ok (.istore_n 3, 1) := by decide +kernel
theorem dX9_odd_4 : decode cX9_odd 4 = .ok (.iload_n 3, 1) := by decide +kernel
theorem dX9_odd_5 : decode cX9_odd 5 = .ok (.bipush 10, 2) := by decide +kernel
theorem dX9_odd_7 : decode cX9_odd 7 = .ok (.if_icmp .ge 58, 3) := by decide +kernel
theorem dX9_odd_10 : decode cX9_odd 10 = .ok (.iconst 0, 1) := by decide +kernel
theorem dX9_odd_11 : decode cX9_odd 11 = .ok (.istore 4, 2) := by decide +kernel
theorem dX9_odd_13 : decode cX9_odd 13 = .ok (.iload 4, 2) := by decide +kernel
theorem dX9_odd_15 : decode cX9_odd 15 = .ok (.iload_n 3, 1) := by decide +kernel
theorem dX9_odd_16 : decode cX9_odd 16 = .ok (.if_icmp .ge 43, 3) := by decide +kernel
theorem dX9_odd_19 : decode cX9_odd 19 = .ok (.iload_n 2, 1) := by decide +kernel
theorem dX9_odd_20 : decode cX9_odd 20 = .ok (.aload_n 0, 1) := by decide +kernel
theorem dX9_odd_21 : decode cX9_odd 21 = .ok (.getfield 53, 3) := by decide +kernel
theorem dX9_odd_24 : decode cX9_odd 24 = .ok (.bipush 10, 2) := by decide +kernel
theorem dX9_odd_26 : decode cX9_odd 26 = .ok (.iload_n 1, 1) := by decide +kernel
theorem dX9_odd_27 : decode cX9_odd 27 = .ok (.imul, 1) := by decide +kernel
theorem dX9_odd_28 : decode cX9_odd 28 = .ok (.iload 4, 2) := by decide +kernel
theorem dX9_odd_30 : decode cX9_odd 30 = .ok (.iadd, 1) := by decide +kernel
theorem dX9_odd_31 : decode cX9_odd 31 = .ok (.iaload, 1) := by decide +kernel
theorem dX9_odd_32 : decode cX9_odd 32 = .ok (.aload_n 0, 1) := by decide +kernel
theorem dX9_odd_33 : decode cX9_odd 33 = .ok (.getfield 53, 3) := by decide +kernel
theorem dX9_odd_36 : decode cX9_odd 36 = .ok (.bipush 10, 2) := by decide +kernel
theorem dX9_odd_38 : decode cX9_odd 38 = .ok (.iload_n 1, 1) := by decide +kernel
theorem dX9_odd_39 : decode cX9_odd 39 = .ok (.imul, 1) := by decide +kernel
theorem dX9_odd_40 : decode cX9_odd 40 = .ok (.iload_n 3, 1) := by decide +kernel
theorem dX9_odd_41 : decode cX9_odd 41 = .ok (.iadd, 1) := by decide +kernel
theorem dX9_odd_42 : decode cX9_odd 42 = .ok (.iaload, 1) := by decide +kernel
theorem dX9_odd_43 : decode cX9_odd 43 = .ok (.if_icmp .le 7, 3) := by decide +kernel
theorem dX9_odd_46 : decode cX9_odd 46 = .ok (.iconst 1, 1) := by decide +kernel
theorem dX9_odd_47 : decode cX9_odd 47 = .ok (.goto 4, 3) := by decide +kernel
theorem dX9_odd_50 : decode cX9_odd 50 = .ok (.iconst 0, 1) := by decide +kernel
theorem dX9_odd_51 : decode cX9_odd 51 = .ok (.iadd, 1) := by decide +kernel
theorem dX9_odd_52 : decode cX9_odd 52 = .ok (.istore_n 2, 1) := by decide +kernel
theorem dX9_odd_53 : decode cX9_odd 53 = .ok (.iinc 4 1, 3) := by decide +kernel
theorem dX9_odd_56 : decode cX9_odd 56 = .ok (.goto (-43), 3) := by decide +kernel
theorem dX9_odd_59 : decode cX9_odd 59 = .ok (.iinc 3 1, 3) := by decide +kernel
theorem dX9_odd_62 : decode cX9_odd 62 = .ok (.goto (-58), 3) := by decide +kernel
theorem dX9_odd_65 : decode cX9_odd 65 = .ok (.iload_n 2, 1) := by decide +kernel
theorem dX9_odd_66 : decode cX9_odd 66 = .ok (.iconst 2, 1) := by decide +kernel
theorem dX9_odd_67 : decode cX9_odd 67 = .ok (.irem, 1) := by decide +kernel
theorem dX9_odd_68 : decode cX9_odd 68 = .ok (.ireturn, 1) := by decide +kernel
theorem dX9_calledBy_0 : decode cX9_calledBy 0 = .ok (.iconst 0, 1) := by decide +kernel
theorem dX9_calledBy_1 : decode cX9_calledBy 1 = .ok (.istore_n 2, 1) := by decide +kernel
theorem dX9_calledBy_2 : decode cX9_calledBy 2 = .ok (.iload_n 1, 1) := by decide +kernel
theorem dX9_calledBy_3 : decode cX9_calledBy 3 = .ok (.istore_n 3, 1) := by decide +kernel
theorem dX9_calledBy_4 : decode cX9_calledBy 4 = .ok (.iload_n 3, 1) := by decide +kernel
theorem dX9_calledBy_5 : decode cX9_calledBy 5 = .ok (.ifCond .lt 71, 3) := by decide +kernel
theorem dX9_calledBy_8 : decode cX9_calledBy 8 = .ok (.iconst 0, 1) := by decide +kernel
theorem dX9_calledBy_9 : decode cX9_calledBy 9 = .ok (.istore 4, 2) := by decide +kernel
theorem dX9_calledBy_11 : decode cX9_calledBy 11 = .ok (.iload 4, 2) := by decide +kernel
theorem dX9_calledBy_13 : decode cX9_calledBy 13 = .ok (.aload_n 0, 1) := by decide +kernel
theorem dX9_calledBy_14 : decode cX9_calledBy 14 = .ok (.iload_n 3, 1) := by decide +kernel
theorem dX9_calledBy_15 : decode cX9_calledBy 15 = .ok (.invokevirtual 81, 3) := by decide +kernel
theorem dX9_calledBy_18 : decode cX9_calledBy 18 = .ok (.if_icmp .ge 52, 3) := by decide +kernel
theorem dX9_calledBy_21 : decode cX9_calledBy 21 = .ok (.iload_n 3, 1) := by decide +kernel
theorem dX9_calledBy_22 : decode cX9_calledBy 22 = .ok (.iload_n 1, 1) := by decide +kernel
theorem dX9_calledBy_23 : decode cX9_calledBy 23 = .ok (.if_icmp .eq 12, 3) := by decide +kernel
theorem dX9_calledBy_26 : decode cX9_calledBy 26 = .ok (.iload_n 2, 1) := by decide +kernel
theorem dX9_calledBy_27 : decode cX9_calledBy 27 = .ok (.iload_n 3, 1) := by decide +kernel
theorem dX9_calledBy_28 : decode cX9_calledBy 28 = .ok (.ishr, 1) := by decide +kernel
theorem dX9_calledBy_29 : decode cX9_calledBy 29 = .ok (.iconst 1, 1) := by decide +kernel
theorem dX9_calledBy_30 : decode cX9_calledBy 30 = .ok (.iand, 1) := by decide +kernel
theorem dX9_calledBy_31 : decode cX9_calledBy 31 = .ok (.iconst 1, 1) := by decide +kernel
theorem dX9_calledBy_32 : decode cX9_calledBy 32 = .ok (.if_icmp .ne 38, 3) := by decide +kernel
theorem dX9_calledBy_35 : decode cX9_calledBy 35 = .ok (.iload_n 2, 1) := by decide +kernel
theorem dX9_calledBy_36 : decode cX9_calledBy 36 = .ok (.aload_n 0, 1) := by decide +kernel
theorem dX9_calledBy_37 : decode cX9_calledBy 37 = .ok (.iload_n 3, 1) := by decide +kernel
theorem dX9_calledBy_38 : decode cX9_calledBy 38 = .ok (.iload 4, 2) := by decide +kernel
theorem dX9_calledBy_40 : decode cX9_calledBy 40 = .ok (.iconst 0, 1) := by decide +kernel
theorem dX9_calledBy_41 : decode cX9_calledBy 41 = .ok (.invokevirtual 85, 3) := by decide +kernel
theorem dX9_calledBy_44 : decode cX9_calledBy 44 = .ok (.iconst 4, 1) := by decide +kernel
theorem dX9_calledBy_45 : decode cX9_calledBy 45 = .ok (.if_icmp .ne 16, 3) := by decide +kernel
theorem dX9_calledBy_48 : decode cX9_calledBy 48 = .ok (.iconst 1, 1) := by decide +kernel
theorem dX9_calledBy_49 : decode cX9_calledBy 49 = .ok (.aload_n 0, 1) := by decide +kernel
theorem dX9_calledBy_50 : decode cX9_calledBy 50 = .ok (.iload_n 3, 1) := by decide +kernel
theorem dX9_calledBy_51 : decode cX9_calledBy 51 = .ok (.iload 4, 2) := by decide +kernel
theorem dX9_calledBy_53 : decode cX9_calledBy 53 = .ok (.iconst 1, 1) := by decide +kernel
theorem dX9_calledBy_54 : decode cX9_calledBy 54 = .ok (.invokevirtual 85, 3) := by decide +kernel
theorem dX9_calledBy_57 : decode cX9_calledBy 57 = .ok (.ishl, 1) := by decide +kernel
theorem dX9_calledBy_58 : decode cX9_calledBy 58 = .ok (.goto 4, 3) := by decide +kernel
theorem dX9_calledBy_61 : decode cX9_calledBy 61 = .ok (.iconst 0, 1) := by decide +kernel
theorem dX9_calledBy_62 : decode cX9_calledBy 62 = .ok (.ior, 1) := by decide +kernel
theorem dX9_calledBy_63 : decode cX9_calledBy 63 = .ok (.istore_n 2, 1) := by decide +kernel
theorem dX9_calledBy_64 : decode cX9_calledBy 64 = .ok (.iinc 4 1, 3) := by decide +kernel
theorem dX9_calledBy_67 : decode cX9_calledBy 67 = .ok (.goto (-56), 3) := by decide +kernel
theorem dX9_calledBy_70 : decode cX9_calledBy 70 = .ok (.iinc 3 (-1), 3) := by decide +kernel
theorem dX9_calledBy_73 : decode cX9_calledBy 73 = .ok (.goto (-69), 3) := by decide +kernel
theorem dX9_calledBy_76 : decode cX9_calledBy 76 = .ok (.iload_n 2, 1) := by decide +kernel
theorem dX9_calledBy_77 : decode cX9_calledBy 77 = .ok (.ireturn, 1) := by decide +kernel
theorem dX9_callers_0 : decode cX9_callers 0 = .ok (.iconst 0, 1) := by decide +kernel
theorem dX9_callers_1 : decode cX9_callers 1 = .ok (.istore_n 2, 1) := by decide +kernel
theorem dX9_callers_2 : decode cX9_callers 2 = .ok (.iload_n 1, 1) := by decide +kernel
theorem dX9_callers_3 : decode cX9_callers 3 = .ok (.iconst 1, 1) := by decide +kernel
theorem dX9_callers_4 : decode cX9_callers 4 = .ok (.iadd, 1) := by decide +kernel
theorem dX9_callers_5 : decode cX9_callers 5 = .ok (.istore_n 3, 1) := by decide +kernel
theorem dX9_callers_6 : decode cX9_callers 6 = .ok (.iload_n 3, 1) := by decide +kernel
theorem dX9_callers_7 : decode cX9_callers 7 = .ok (.bipush 8, 2) := by decide +kernel
theorem dX9_callers_9 : decode cX9_callers 9 = .ok (.if_icmp .ge 23, 3) := by decide +kernel
theorem dX9_callers_12 : decode cX9_callers 12 = .ok (.iload_n 2, 1) := by decide +kernel
theorem dX9_callers_13 : decode cX9_callers 13 = .ok (.aload_n 0, 1) := by decide +kernel
theorem dX9_callers_14 : decode cX9_callers 14 = .ok (.iload_n 3, 1) := by decide +kernel
theorem dX9_callers_15 : decode cX9_callers 15 = .ok (.invokevirtual 185, 3) := by decide +kernel
theorem dX9_callers_18 : decode cX9_callers 18 = .ok (.iload_n 1, 1) := by decide +kernel
theorem dX9_callers_19 : decode cX9_callers 19 = .ok (.ishr, 1) := by decide +kernel
theorem dX9_callers_20 : decode cX9_callers 20 = .ok (.iconst 1, 1) := by decide +kernel
theorem dX9_callers_21 : decode cX9_callers 21 = .ok (.iand, 1) := by decide +kernel
theorem dX9_callers_22 : decode cX9_callers 22 = .ok (.iload_n 3, 1) := by decide +kernel
theorem dX9_callers_23 : decode cX9_callers 23 = .ok (.ishl, 1) := by decide +kernel
theorem dX9_callers_24 : decode cX9_callers 24 = .ok (.ior, 1) := by decide +kernel
theorem dX9_callers_25 : decode cX9_callers 25 = .ok (.istore_n 2, 1) := by decide +kernel
theorem dX9_callers_26 : decode cX9_callers 26 = .ok (.iinc 3 1, 3) := by decide +kernel
theorem dX9_callers_29 : decode cX9_callers 29 = .ok (.goto (-23), 3) := by decide +kernel
theorem dX9_callers_32 : decode cX9_callers 32 = .ok (.iload_n 2, 1) := by decide +kernel
theorem dX9_callers_33 : decode cX9_callers 33 = .ok (.ireturn, 1) := by decide +kernel
theorem dX9_moved_0 : decode cX9_moved 0 = .ok (.iconst 0, 1) := by decide +kernel
theorem dX9_moved_1 : decode cX9_moved 1 = .ok (.istore_n 3, 1) := by decide +kernel
theorem dX9_moved_2 : decode cX9_moved 2 = .ok (.iconst 0, 1) := by decide +kernel
theorem dX9_moved_3 : decode cX9_moved 3 = .ok (.istore 4, 2) := by decide +kernel
theorem dX9_moved_5 : decode cX9_moved 5 = .ok (.iload 4, 2) := by decide +kernel
theorem dX9_moved_7 : decode cX9_moved 7 = .ok (.bipush 10, 2) := by decide +kernel
theorem dX9_moved_9 : decode cX9_moved 9 = .ok (.if_icmp .ge 73, 3) := by decide +kernel
theorem dX9_moved_12 : decode cX9_moved 12 = .ok (.iload_n 2, 1) := by decide +kernel
theorem dX9_moved_13 : decode cX9_moved 13 = .ok (.ifCond .eq 26, 3) := by decide +kernel
theorem dX9_moved_16 : decode cX9_moved 16 = .ok (.aload_n 0, 1) := by decide +kernel
theorem dX9_moved_17 : decode cX9_moved 17 = .ok (.getfield 56, 3) := by decide +kernel
theorem dX9_moved_20 : decode cX9_moved 20 = .ok (.bipush 10, 2) := by decide +kernel
theorem dX9_moved_22 : decode cX9_moved 22 = .ok (.iload_n 1, 1) := by decide +kernel
theorem dX9_moved_23 : decode cX9_moved 23 = .ok (.imul, 1) := by decide +kernel
theorem dX9_moved_24 : decode cX9_moved 24 = .ok (.iload 4, 2) := by decide +kernel
theorem dX9_moved_26 : decode cX9_moved 26 = .ok (.iadd, 1) := by decide +kernel
theorem dX9_moved_27 : decode cX9_moved 27 = .ok (.iaload, 1) := by decide +kernel
theorem dX9_moved_28 : decode cX9_moved 28 = .ok (.ifCond .le 7, 3) := by decide +kernel
theorem dX9_moved_31 : decode cX9_moved 31 = .ok (.iconst 1, 1) := by decide +kernel
theorem dX9_moved_32 : decode cX9_moved 32 = .ok (.goto 29, 3) := by decide +kernel
theorem dX9_moved_35 : decode cX9_moved 35 = .ok (.iconst 0, 1) := by decide +kernel
theorem dX9_moved_36 : decode cX9_moved 36 = .ok (.goto 25, 3) := by decide +kernel
theorem dX9_moved_39 : decode cX9_moved 39 = .ok (.aload_n 0, 1) := by decide +kernel
theorem dX9_moved_40 : decode cX9_moved 40 = .ok (.getfield 53, 3) := by decide +kernel
theorem dX9_moved_43 : decode cX9_moved 43 = .ok (.bipush 10, 2) := by decide +kernel
theorem dX9_moved_45 : decode cX9_moved 45 = .ok (.iload_n 1, 1) := by decide +kernel
theorem dX9_moved_46 : decode cX9_moved 46 = .ok (.imul, 1) := by decide +kernel
theorem dX9_moved_47 : decode cX9_moved 47 = .ok (.iload 4, 2) := by decide +kernel
theorem dX9_moved_49 : decode cX9_moved 49 = .ok (.iadd, 1) := by decide +kernel
theorem dX9_moved_50 : decode cX9_moved 50 = .ok (.iaload, 1) := by decide +kernel
theorem dX9_moved_51 : decode cX9_moved 51 = .ok (.iload 4, 2) := by decide +kernel
theorem dX9_moved_53 : decode cX9_moved 53 = .ok (.if_icmp .eq 7, 3) := by decide +kernel
theorem dX9_moved_56 : decode cX9_moved 56 = .ok (.iconst 1, 1) := by decide +kernel
theorem dX9_moved_57 : decode cX9_moved 57 = .ok (.goto 4, 3) := by decide +kernel
theorem dX9_moved_60 : decode cX9_moved 60 = .ok (.iconst 0, 1) := by decide +kernel
theorem dX9_moved_61 : decode cX9_moved 61 = .ok (.istore 5, 2) := by decide +kernel
theorem dX9_moved_63 : decode cX9_moved 63 = .ok (.iload_n 3, 1) := by decide +kernel
theorem dX9_moved_64 : decode cX9_moved 64 = .ok (.iload 5, 2) := by decide +kernel
theorem dX9_moved_66 : decode cX9_moved 66 = .ok (.ifCond .eq 7, 3) := by decide +kernel
theorem dX9_moved_69 : decode cX9_moved 69 = .ok (.iconst 1, 1) := by decide +kernel
theorem dX9_moved_70 : decode cX9_moved 70 = .ok (.goto 4, 3) := by decide +kernel
theorem dX9_moved_73 : decode cX9_moved 73 = .ok (.iconst 0, 1) := by decide +kernel
theorem dX9_moved_74 : decode cX9_moved 74 = .ok (.iadd, 1) := by decide +kernel
theorem dX9_moved_75 : decode cX9_moved 75 = .ok (.istore_n 3, 1) := by decide +kernel
theorem dX9_moved_76 : decode cX9_moved 76 = .ok (.iinc 4 1, 3) := by decide +kernel
theorem dX9_moved_79 : decode cX9_moved 79 = .ok (.goto (-74), 3) := by decide +kernel
theorem dX9_moved_82 : decode cX9_moved 82 = .ok (.iload_n 3, 1) := by decide +kernel
theorem dX9_moved_83 : decode cX9_moved 83 = .ok (.ireturn, 1) := by decide +kernel
theorem dX9_ofFigure_0 : decode cX9_ofFigure 0 = .ok (.aload_n 0, 1) := by decide +kernel
theorem dX9_ofFigure_1 : decode cX9_ofFigure 1 = .ok (.invokevirtual 188, 3) := by decide +kernel
theorem dX9_ofFigure_4 : decode cX9_ofFigure 4 = .ok (.iload_n 2, 1) := by decide +kernel
theorem dX9_ofFigure_5 : decode cX9_ofFigure 5 = .ok (.tableswitch 88 0 6 #[43, 49, 56, 62, 69, 76, 82], 43) := by decide +kernel
theorem dX9_ofFigure_48 : decode cX9_ofFigure 48 = .ok (.aload_n 0, 1) := by decide +kernel
theorem dX9_ofFigure_49 : decode cX9_ofFigure 49 = .ok (.iload_n 1, 1) := by decide +kernel
theorem dX9_ofFigure_50 : decode cX9_ofFigure 50 = .ok (.invokevirtual 81, 3) := by decide +kernel
theorem dX9_ofFigure_53 : decode cX9_ofFigure 53 = .ok (.ireturn, 1) := by decide +kernel
theorem dX9_ofFigure_54 : decode cX9_ofFigure 54 = .ok (.aload_n 0, 1) := by decide +kernel
theorem dX9_ofFigure_55 : decode cX9_ofFigure 55 = .ok (.getfield 19, 3) := by decide +kernel
theorem dX9_ofFigure_58 : decode cX9_ofFigure 58 = .ok (.iload_n 1, 1) := by decide +kernel
theorem dX9_ofFigure_59 : decode cX9_ofFigure 59 = .ok (.iaload, 1) := by decide +kernel
theorem dX9_ofFigure_60 : decode cX9_ofFigure 60 = .ok (.ireturn, 1) := by decide +kernel
theorem dX9_ofFigure_61 : decode cX9_ofFigure 61 = .ok (.aload_n 0, 1) := by decide +kernel
theorem dX9_ofFigure_62 : decode cX9_ofFigure 62 = .ok (.iload_n 1, 1) := by decide +kernel
theorem dX9_ofFigure_63 : decode cX9_ofFigure 63 = .ok (.invokevirtual 191, 3) := by decide +kernel
theorem dX9_ofFigure_66 : decode cX9_ofFigure 66 = .ok (.ireturn, 1) := by decide +kernel
theorem dX9_ofFigure_67 : decode cX9_ofFigure 67 = .ok (.aload_n 0, 1) := by decide +kernel
theorem dX9_ofFigure_68 : decode cX9_ofFigure 68 = .ok (.iload_n 1, 1) := by decide +kernel
theorem dX9_ofFigure_69 : decode cX9_ofFigure 69 = .ok (.iconst 0, 1) := by decide +kernel
theorem dX9_ofFigure_70 : decode cX9_ofFigure 70 = .ok (.invokevirtual 194, 3) := by decide +kernel
theorem dX9_ofFigure_73 : decode cX9_ofFigure 73 = .ok (.ireturn, 1) := by decide +kernel
theorem dX9_ofFigure_74 : decode cX9_ofFigure 74 = .ok (.aload_n 0, 1) := by decide +kernel
theorem dX9_ofFigure_75 : decode cX9_ofFigure 75 = .ok (.iload_n 1, 1) := by decide +kernel
theorem dX9_ofFigure_76 : decode cX9_ofFigure 76 = .ok (.iconst 1, 1) := by decide +kernel
theorem dX9_ofFigure_77 : decode cX9_ofFigure 77 = .ok (.invokevirtual 194, 3) := by decide +kernel
theorem dX9_ofFigure_80 : decode cX9_ofFigure 80 = .ok (.ireturn, 1) := by decide +kernel
theorem dX9_ofFigure_81 : decode cX9_ofFigure 81 = .ok (.aload_n 0, 1) := by decide +kernel
theorem dX9_ofFigure_82 : decode cX9_ofFigure 82 = .ok (.iload_n 1, 1) := by decide +kernel
theorem dX9_ofFigure_83 : decode cX9_ofFigure 83 = .ok (.invokevirtual 198, 3) := by decide +kernel
theorem dX9_ofFigure_86 : decode cX9_ofFigure 86 = .ok (.ireturn, 1) := by decide +kernel
theorem dX9_ofFigure_87 : decode cX9_ofFigure 87 = .ok (.aload_n 0, 1) := by decide +kernel
theorem dX9_ofFigure_88 : decode cX9_ofFigure 88 = .ok (.iload_n 1, 1) := by decide +kernel
theorem dX9_ofFigure_89 : decode cX9_ofFigure 89 = .ok (.invokevirtual 185, 3) := by decide +kernel
theorem dX9_ofFigure_92 : decode cX9_ofFigure 92 = .ok (.ireturn, 1) := by decide +kernel
theorem dX9_ofFigure_93 : decode cX9_ofFigure 93 = .ok (.aload_n 0, 1) := by decide +kernel
theorem dX9_ofFigure_94 : decode cX9_ofFigure 94 = .ok (.iload_n 1, 1) := by decide +kernel
theorem dX9_ofFigure_95 : decode cX9_ofFigure 95 = .ok (.invokevirtual 201, 3) := by decide +kernel
theorem dX9_ofFigure_98 : decode cX9_ofFigure 98 = .ok (.ireturn, 1) := by decide +kernel
theorem dX9_figure_0 : decode cX9_figure 0 = .ok (.iload_n 1, 1) := by decide +kernel
theorem dX9_figure_1 : decode cX9_figure 1 = .ok (.invokestatic 97, 3) := by decide +kernel
theorem dX9_figure_4 : decode cX9_figure 4 = .ok (.ifCond .ne 5, 3) := by decide +kernel
theorem dX9_figure_7 : decode cX9_figure 7 = .ok (.iconst (-1), 1) := by decide +kernel
theorem dX9_figure_8 : decode cX9_figure 8 = .ok (.ireturn, 1) := by decide +kernel
theorem dX9_figure_9 : decode cX9_figure 9 = .ok (.iload_n 2, 1) := by decide +kernel
theorem dX9_figure_10 : decode cX9_figure 10 = .ok (.iconst 0, 1) := by decide +kernel
theorem dX9_figure_11 : decode cX9_figure 11 = .ok (.bipush 7, 2) := by decide +kernel
theorem dX9_figure_13 : decode cX9_figure 13 = .ok (.invokestatic 62, 3) := by decide +kernel
theorem dX9_figure_16 : decode cX9_figure 16 = .ok (.ifCond .eq 12, 3) := by decide +kernel
theorem dX9_figure_19 : decode cX9_figure 19 = .ok (.aload_n 0, 1) := by decide +kernel
theorem dX9_figure_20 : decode cX9_figure 20 = .ok (.iload_n 1, 1) := by decide +kernel
theorem dX9_figure_21 : decode cX9_figure 21 = .ok (.iload_n 2, 1) := by decide +kernel
theorem dX9_figure_22 : decode cX9_figure 22 = .ok (.invokevirtual 204, 3) := by decide +kernel
theorem dX9_figure_25 : decode cX9_figure 25 = .ok (.goto 5, 3) := by decide +kernel
theorem dX9_figure_28 : decode cX9_figure 28 = .ok (.bipush (-2), 2) := by decide +kernel
theorem dX9_figure_30 : decode cX9_figure 30 = .ok (.ireturn, 1) := by decide +kernel
theorem dX9_effect_0 : decode cX9_effect 0 = .ok (.iload_n 1, 1) := by decide +kernel
theorem dX9_effect_1 : decode cX9_effect 1 = .ok (.invokestatic 97, 3) := by decide +kernel
theorem dX9_effect_4 : decode cX9_effect 4 = .ok (.ifCond .eq 10, 3) := by decide +kernel
theorem dX9_effect_7 : decode cX9_effect 7 = .ok (.iload_n 2, 1) := by decide +kernel
theorem dX9_effect_8 : decode cX9_effect 8 = .ok (.invokestatic 147, 3) := by decide +kernel
theorem dX9_effect_11 : decode cX9_effect 11 = .ok (.ifCond .ne 5, 3) := by decide +kernel
theorem dX9_effect_14 : decode cX9_effect 14 = .ok (.iconst (-1), 1) := by decide +kernel
theorem dX9_effect_15 : decode cX9_effect 15 = .ok (.ireturn, 1) := by decide +kernel
theorem dX9_effect_16 : decode cX9_effect 16 = .ok (.aload_n 0, 1) := by decide +kernel
theorem dX9_effect_17 : decode cX9_effect 17 = .ok (.invokevirtual 188, 3) := by decide +kernel
theorem dX9_effect_20 : decode cX9_effect 20 = .ok (.iload_n 3, 1) := by decide +kernel
theorem dX9_effect_21 : decode cX9_effect 21 = .ok (.ifCond .eq 17, 3) := by decide +kernel
theorem dX9_effect_24 : decode cX9_effect 24 = .ok (.aload_n 0, 1) := by decide +kernel
theorem dX9_effect_25 : decode cX9_effect 25 = .ok (.getfield 56, 3) := by decide +kernel
theorem dX9_effect_28 : decode cX9_effect 28 = .ok (.bipush 10, 2) := by decide +kernel
theorem dX9_effect_30 : decode cX9_effect 30 = .ok (.iload_n 1, 1) := by decide +kernel
theorem dX9_effect_31 : decode cX9_effect 31 = .ok (.imul, 1) := by decide +kernel
theorem dX9_effect_32 : decode cX9_effect 32 = .ok (.iload_n 2, 1) := by decide +kernel
theorem dX9_effect_33 : decode cX9_effect 33 = .ok (.iadd, 1) := by decide +kernel
theorem dX9_effect_34 : decode cX9_effect 34 = .ok (.iaload, 1) := by decide +kernel
theorem dX9_effect_35 : decode cX9_effect 35 = .ok (.goto 14, 3) := by decide +kernel
theorem dX9_effect_38 : decode cX9_effect 38 = .ok (.aload_n 0, 1) := by decide +kernel
theorem dX9_effect_39 : decode cX9_effect 39 = .ok (.getfield 53, 3) := by decide +kernel
theorem dX9_effect_42 : decode cX9_effect 42 = .ok (.bipush 10, 2) := by decide +kernel
theorem dX9_effect_44 : decode cX9_effect 44 = .ok (.iload_n 1, 1) := by decide +kernel
theorem dX9_effect_45 : decode cX9_effect 45 = .ok (.imul, 1) := by decide +kernel
theorem dX9_effect_46 : decode cX9_effect 46 = .ok (.iload_n 2, 1) := by decide +kernel
theorem dX9_effect_47 : decode cX9_effect 47 = .ok (.iadd, 1) := by decide +kernel
theorem dX9_effect_48 : decode cX9_effect 48 = .ok (.iaload, 1) := by decide +kernel
theorem dX9_effect_49 : decode cX9_effect 49 = .ok (.ireturn, 1) := by decide +kernel
theorem dX9_alike_0 : decode cX9_alike 0 = .ok (.iload_n 1, 1) := by decide +kernel
theorem dX9_alike_1 : decode cX9_alike 1 = .ok (.invokestatic 97, 3) := by decide +kernel
theorem dX9_alike_4 : decode cX9_alike 4 = .ok (.ifCond .eq 10, 3) := by decide +kernel
theorem dX9_alike_7 : decode cX9_alike 7 = .ok (.iload_n 2, 1) := by decide +kernel
theorem dX9_alike_8 : decode cX9_alike 8 = .ok (.invokestatic 97, 3) := by decide +kernel
theorem dX9_alike_11 : decode cX9_alike 11 = .ok (.ifCond .ne 5, 3) := by decide +kernel
theorem dX9_alike_14 : decode cX9_alike 14 = .ok (.iconst (-1), 1) := by decide +kernel
theorem dX9_alike_15 : decode cX9_alike 15 = .ok (.ireturn, 1) := by decide +kernel
theorem dX9_alike_16 : decode cX9_alike 16 = .ok (.aload_n 0, 1) := by decide +kernel
theorem dX9_alike_17 : decode cX9_alike 17 = .ok (.invokevirtual 188, 3) := by decide +kernel
theorem dX9_alike_20 : decode cX9_alike 20 = .ok (.iconst 1, 1) := by decide +kernel
theorem dX9_alike_21 : decode cX9_alike 21 = .ok (.istore_n 3, 1) := by decide +kernel
theorem dX9_alike_22 : decode cX9_alike 22 = .ok (.iconst 0, 1) := by decide +kernel
theorem dX9_alike_23 : decode cX9_alike 23 = .ok (.istore 4, 2) := by decide +kernel
theorem dX9_alike_25 : decode cX9_alike 25 = .ok (.iload 4, 2) := by decide +kernel
theorem dX9_alike_27 : decode cX9_alike 27 = .ok (.bipush 10, 2) := by decide +kernel
theorem dX9_alike_29 : decode cX9_alike 29 = .ok (.if_icmp .ge 73, 3) := by decide +kernel
theorem dX9_alike_32 : decode cX9_alike 32 = .ok (.iload_n 3, 1) := by decide +kernel
theorem dX9_alike_33 : decode cX9_alike 33 = .ok (.ifCond .eq 61, 3) := by decide +kernel
theorem dX9_alike_36 : decode cX9_alike 36 = .ok (.aload_n 0, 1) := by decide +kernel
theorem dX9_alike_37 : decode cX9_alike 37 = .ok (.getfield 53, 3) := by decide +kernel
theorem dX9_alike_40 : decode cX9_alike 40 = .ok (.bipush 10, 2) := by decide +kernel
theorem dX9_alike_42 : decode cX9_alike 42 = .ok (.iload_n 1, 1) := by decide +kernel
theorem dX9_alike_43 : decode cX9_alike 43 = .ok (.imul, 1) := by decide +kernel
theorem dX9_alike_44 : decode cX9_alike 44 = .ok (.iload 4, 2) := by decide +kernel
theorem dX9_alike_46 : decode cX9_alike 46 = .ok (.iadd, 1) := by decide +kernel
theorem dX9_alike_47 : decode cX9_alike 47 = .ok (.iaload, 1) := by decide +kernel
theorem dX9_alike_48 : decode cX9_alike 48 = .ok (.aload_n 0, 1) := by decide +kernel
theorem dX9_alike_49 : decode cX9_alike 49 = .ok (.getfield 53, 3) := by decide +kernel
theorem dX9_alike_52 : decode cX9_alike 52 = .ok (.bipush 10, 2) := by decide +kernel
theorem dX9_alike_54 : decode cX9_alike 54 = .ok (.iload_n 2, 1) := by decide +kernel
theorem dX9_alike_55 : decode cX9_alike 55 = .ok (.imul, 1) := by decide +kernel
theorem dX9_alike_56 : decode cX9_alike 56 = .ok (.iload 4, 2) := by decide +kernel
theorem dX9_alike_58 : decode cX9_alike 58 = .ok (.iadd, 1) := by decide +kernel
theorem dX9_alike_59 : decode cX9_alike 59 = .ok (.iaload, 1) := by decide +kernel
theorem dX9_alike_60 : decode cX9_alike 60 = .ok (.if_icmp .ne 34, 3) := by decide +kernel
theorem dX9_alike_63 : decode cX9_alike 63 = .ok (.aload_n 0, 1) := by decide +kernel
theorem dX9_alike_64 : decode cX9_alike 64 = .ok (.getfield 56, 3) := by decide +kernel
theorem dX9_alike_67 : decode cX9_alike 67 = .ok (.bipush 10, 2) := by decide +kernel
theorem dX9_alike_69 : decode cX9_alike 69 = .ok (.iload_n 1, 1) := by decide +kernel
theorem dX9_alike_70 : decode cX9_alike 70 = .ok (.imul, 1) := by decide +kernel
theorem dX9_alike_71 : decode cX9_alike 71 = .ok (.iload 4, 2) := by decide +kernel
theorem dX9_alike_73 : decode cX9_alike 73 = .ok (.iadd, 1) := by decide +kernel
theorem dX9_alike_74 : decode cX9_alike 74 = .ok (.iaload, 1) := by decide +kernel
theorem dX9_alike_75 : decode cX9_alike 75 = .ok (.aload_n 0, 1) := by decide +kernel
theorem dX9_alike_76 : decode cX9_alike 76 = .ok (.getfield 56, 3) := by decide +kernel
theorem dX9_alike_79 : decode cX9_alike 79 = .ok (.bipush 10, 2) := by decide +kernel
theorem dX9_alike_81 : decode cX9_alike 81 = .ok (.iload_n 2, 1) := by decide +kernel
theorem dX9_alike_82 : decode cX9_alike 82 = .ok (.imul, 1) := by decide +kernel
theorem dX9_alike_83 : decode cX9_alike 83 = .ok (.iload 4, 2) := by decide +kernel
theorem dX9_alike_85 : decode cX9_alike 85 = .ok (.iadd, 1) := by decide +kernel
theorem dX9_alike_86 : decode cX9_alike 86 = .ok (.iaload, 1) := by decide +kernel
theorem dX9_alike_87 : decode cX9_alike 87 = .ok (.if_icmp .ne 7, 3) := by decide +kernel
theorem dX9_alike_90 : decode cX9_alike 90 = .ok (.iconst 1, 1) := by decide +kernel
theorem dX9_alike_91 : decode cX9_alike 91 = .ok (.goto 4, 3) := by decide +kernel
theorem dX9_alike_94 : decode cX9_alike 94 = .ok (.iconst 0, 1) := by decide +kernel
theorem dX9_alike_95 : decode cX9_alike 95 = .ok (.istore_n 3, 1) := by decide +kernel
theorem dX9_alike_96 : decode cX9_alike 96 = .ok (.iinc 4 1, 3) := by decide +kernel
theorem dX9_alike_99 : decode cX9_alike 99 = .ok (.goto (-74), 3) := by decide +kernel
theorem dX9_alike_102 : decode cX9_alike 102 = .ok (.iload_n 3, 1) := by decide +kernel
theorem dX9_alike_103 : decode cX9_alike 103 = .ok (.ifCond .eq 7, 3) := by decide +kernel
theorem dX9_alike_106 : decode cX9_alike 106 = .ok (.iconst 1, 1) := by decide +kernel
theorem dX9_alike_107 : decode cX9_alike 107 = .ok (.goto 4, 3) := by decide +kernel
theorem dX9_alike_110 : decode cX9_alike 110 = .ok (.iconst 0, 1) := by decide +kernel
theorem dX9_alike_111 : decode cX9_alike 111 = .ok (.ireturn, 1) := by decide +kernel
theorem dX9_commute_0 : decode cX9_commute 0 = .ok (.iload_n 1, 1) := by decide +kernel
theorem dX9_commute_1 : decode cX9_commute 1 = .ok (.invokestatic 97, 3) := by decide +kernel
theorem dX9_commute_4 : decode cX9_commute 4 = .ok (.ifCond .eq 10, 3) := by decide +kernel
theorem dX9_commute_7 : decode cX9_commute 7 = .ok (.iload_n 2, 1) := by decide +kernel
theorem dX9_commute_8 : decode cX9_commute 8 = .ok (.invokestatic 97, 3) := by decide +kernel
theorem dX9_commute_11 : decode cX9_commute 11 = .ok (.ifCond .ne 5, 3) := by decide +kernel
theorem dX9_commute_14 : decode cX9_commute 14 = .ok (.iconst (-1), 1) := by decide +kernel
theorem dX9_commute_15 : decode cX9_commute 15 = .ok (.ireturn, 1) := by decide +kernel
theorem dX9_commute_16 : decode cX9_commute 16 = .ok (.aload_n 0, 1) := by decide +kernel
theorem dX9_commute_17 : decode cX9_commute 17 = .ok (.invokevirtual 188, 3) := by decide +kernel
theorem dX9_commute_20 : decode cX9_commute 20 = .ok (.iconst 1, 1) := by decide +kernel
theorem dX9_commute_21 : decode cX9_commute 21 = .ok (.istore_n 3, 1) := by decide +kernel
theorem dX9_commute_22 : decode cX9_commute 22 = .ok (.iconst 0, 1) := by decide +kernel
theorem dX9_commute_23 : decode cX9_commute 23 = .ok (.istore 4, 2) := by decide +kernel
theorem dX9_commute_25 : decode cX9_commute 25 = .ok (.iload 4, 2) := by decide +kernel
theorem dX9_commute_27 : decode cX9_commute 27 = .ok (.bipush 10, 2) := by decide +kernel
theorem dX9_commute_29 : decode cX9_commute 29 = .ok (.if_icmp .ge 139, 3) := by decide +kernel
theorem dX9_commute_32 : decode cX9_commute 32 = .ok (.aload_n 0, 1) := by decide +kernel
theorem dX9_commute_33 : decode cX9_commute 33 = .ok (.getfield 53, 3) := by decide +kernel
theorem dX9_commute_36 : decode cX9_commute 36 = .ok (.bipush 10, 2) := by decide +kernel
theorem dX9_commute_38 : decode cX9_commute 38 = .ok (.iload_n 1, 1) := by decide +kernel
theorem dX9_commute_39 : decode cX9_commute 39 = .ok (.imul, 1) := by decide +kernel
theorem dX9_commute_40 : decode cX9_commute 40 = .ok (.iload 4, 2) := by decide +kernel
theorem dX9_commute_42 : decode cX9_commute 42 = .ok (.iadd, 1) := by decide +kernel
theorem dX9_commute_43 : decode cX9_commute 43 = .ok (.iaload, 1) := by decide +kernel
theorem dX9_commute_44 : decode cX9_commute 44 = .ok (.istore 5, 2) := by decide +kernel
theorem dX9_commute_46 : decode cX9_commute 46 = .ok (.aload_n 0, 1) := by decide +kernel
theorem dX9_commute_47 : decode cX9_commute 47 = .ok (.getfield 53, 3) := by decide +kernel
theorem dX9_commute_50 : decode cX9_commute 50 = .ok (.bipush 10, 2) := by decide +kernel
theorem dX9_commute_52 : decode cX9_commute 52 = .ok (.iload_n 2, 1) := by decide +kernel
theorem dX9_commute_53 : decode cX9_commute 53 = .ok (.imul, 1) := by decide +kernel
theorem dX9_commute_54 : decode cX9_commute 54 = .ok (.iload 4, 2) := by decide +kernel
theorem dX9_commute_56 : decode cX9_commute 56 = .ok (.iadd, 1) := by decide +kernel
theorem dX9_commute_57 : decode cX9_commute 57 = .ok (.iaload, 1) := by decide +kernel
theorem dX9_commute_58 : decode cX9_commute 58 = .ok (.istore 6, 2) := by decide +kernel
theorem dX9_commute_60 : decode cX9_commute 60 = .ok (.aload_n 0, 1) := by decide +kernel
theorem dX9_commute_61 : decode cX9_commute 61 = .ok (.getfield 56, 3) := by decide +kernel
theorem dX9_commute_64 : decode cX9_commute 64 = .ok (.bipush 10, 2) := by decide +kernel
theorem dX9_commute_66 : decode cX9_commute 66 = .ok (.iload_n 1, 1) := by decide +kernel
theorem dX9_commute_67 : decode cX9_commute 67 = .ok (.imul, 1) := by decide +kernel
theorem dX9_commute_68 : decode cX9_commute 68 = .ok (.iload 4, 2) := by decide +kernel
theorem dX9_commute_70 : decode cX9_commute 70 = .ok (.iadd, 1) := by decide +kernel
theorem dX9_commute_71 : decode cX9_commute 71 = .ok (.iaload, 1) := by decide +kernel
theorem dX9_commute_72 : decode cX9_commute 72 = .ok (.aload_n 0, 1) := by decide +kernel
theorem dX9_commute_73 : decode cX9_commute 73 = .ok (.getfield 56, 3) := by decide +kernel
theorem dX9_commute_76 : decode cX9_commute 76 = .ok (.bipush 10, 2) := by decide +kernel
theorem dX9_commute_78 : decode cX9_commute 78 = .ok (.iload_n 2, 1) := by decide +kernel
theorem dX9_commute_79 : decode cX9_commute 79 = .ok (.imul, 1) := by decide +kernel
theorem dX9_commute_80 : decode cX9_commute 80 = .ok (.iload 5, 2) := by decide +kernel
theorem dX9_commute_82 : decode cX9_commute 82 = .ok (.iadd, 1) := by decide +kernel
theorem dX9_commute_83 : decode cX9_commute 83 = .ok (.iaload, 1) := by decide +kernel
theorem dX9_commute_84 : decode cX9_commute 84 = .ok (.iadd, 1) := by decide +kernel
theorem dX9_commute_85 : decode cX9_commute 85 = .ok (.istore 7, 2) := by decide +kernel
theorem dX9_commute_87 : decode cX9_commute 87 = .ok (.aload_n 0, 1) := by decide +kernel
theorem dX9_commute_88 : decode cX9_commute 88 = .ok (.getfield 56, 3) := by decide +kernel
theorem dX9_commute_91 : decode cX9_commute 91 = .ok (.bipush 10, 2) := by decide +kernel
theorem dX9_commute_93 : decode cX9_commute 93 = .ok (.iload_n 2, 1) := by decide +kernel
theorem dX9_commute_94 : decode cX9_commute 94 = .ok (.imul, 1) := by decide +kernel
theorem dX9_commute_95 : decode cX9_commute 95 = .ok (.iload 4, 2) := by decide +kernel
theorem dX9_commute_97 : decode cX9_commute 97 = .ok (.iadd, 1) := by decide +kernel
theorem dX9_commute_98 : decode cX9_commute 98 = .ok (.iaload, 1) := by decide +kernel
theorem dX9_commute_99 : decode cX9_commute 99 = .ok (.aload_n 0, 1) := by decide +kernel
theorem dX9_commute_100 : decode cX9_commute 100 = .ok (.getfield 56, 3) := by decide +kernel
theorem dX9_commute_103 : decode cX9_commute 103 = .ok (.bipush 10, 2) := by decide +kernel
theorem dX9_commute_105 : decode cX9_commute 105 = .ok (.iload_n 1, 1) := by decide +kernel
theorem dX9_commute_106 : decode cX9_commute 106 = .ok (.imul, 1) := by decide +kernel
theorem dX9_commute_107 : decode cX9_commute 107 = .ok (.iload 6, 2) := by decide +kernel
theorem dX9_commute_109 : decode cX9_commute 109 = .ok (.iadd, 1) := by decide +kernel
theorem dX9_commute_110 : decode cX9_commute 110 = .ok (.iaload, 1) := by decide +kernel
theorem dX9_commute_111 : decode cX9_commute 111 = .ok (.iadd, 1) := by decide +kernel
theorem dX9_commute_112 : decode cX9_commute 112 = .ok (.istore 8, 2) := by decide +kernel
theorem dX9_commute_114 : decode cX9_commute 114 = .ok (.iload_n 3, 1) := by decide +kernel
theorem dX9_commute_115 : decode cX9_commute 115 = .ok (.ifCond .eq 45, 3) := by decide +kernel
theorem dX9_commute_118 : decode cX9_commute 118 = .ok (.aload_n 0, 1) := by decide +kernel
theorem dX9_commute_119 : decode cX9_commute 119 = .ok (.getfield 53, 3) := by decide +kernel
theorem dX9_commute_122 : decode cX9_commute 122 = .ok (.bipush 10, 2) := by decide +kernel
theorem dX9_commute_124 : decode cX9_commute 124 = .ok (.iload_n 2, 1) := by decide +kernel
theorem dX9_commute_125 : decode cX9_commute 125 = .ok (.imul, 1) := by decide +kernel
theorem dX9_commute_126 : decode cX9_commute 126 = .ok (.iload 5, 2) := by decide +kernel
theorem dX9_commute_128 : decode cX9_commute 128 = .ok (.iadd, 1) := by decide +kernel
theorem dX9_commute_129 : decode cX9_commute 129 = .ok (.iaload, 1) := by decide +kernel
theorem dX9_commute_130 : decode cX9_commute 130 = .ok (.aload_n 0, 1) := by decide +kernel
theorem dX9_commute_131 : decode cX9_commute 131 = .ok (.getfield 53, 3) := by decide +kernel
theorem dX9_commute_134 : decode cX9_commute 134 = .ok (.bipush 10, 2) := by decide +kernel
theorem dX9_commute_136 : decode cX9_commute 136 = .ok (.iload_n 1, 1) := by decide +kernel
theorem dX9_commute_137 : decode cX9_commute 137 = .ok (.imul, 1) := by decide +kernel
theorem dX9_commute_138 : decode cX9_commute 138 = .ok (.iload 6, 2) := by decide +kernel
theorem dX9_commute_140 : decode cX9_commute 140 = .ok (.iadd, 1) := by decide +kernel
theorem dX9_commute_141 : decode cX9_commute 141 = .ok (.iaload, 1) := by decide +kernel
theorem dX9_commute_142 : decode cX9_commute 142 = .ok (.if_icmp .ne 18, 3) := by decide +kernel
theorem dX9_commute_145 : decode cX9_commute 145 = .ok (.iload 7, 2) := by decide +kernel
theorem dX9_commute_147 : decode cX9_commute 147 = .ok (.iconst 4, 1) := by decide +kernel
theorem dX9_commute_148 : decode cX9_commute 148 = .ok (.irem, 1) := by decide +kernel
theorem dX9_commute_149 : decode cX9_commute 149 = .ok (.iload 8, 2) := by decide +kernel
theorem dX9_commute_151 : decode cX9_commute 151 = .ok (.iconst 4, 1) := by decide +kernel
theorem dX9_commute_152 : decode cX9_commute 152 = .ok (.irem, 1) := by decide +kernel
theorem dX9_commute_153 : decode cX9_commute 153 = .ok (.if_icmp .ne 7, 3) := by decide +kernel
theorem dX9_commute_156 : decode cX9_commute 156 = .ok (.iconst 1, 1) := by decide +kernel
theorem dX9_commute_157 : decode cX9_commute 157 = .ok (.goto 4, 3) := by decide +kernel
theorem dX9_commute_160 : decode cX9_commute 160 = .ok (.iconst 0, 1) := by decide +kernel
theorem dX9_commute_161 : decode cX9_commute 161 = .ok (.istore_n 3, 1) := by decide +kernel
theorem dX9_commute_162 : decode cX9_commute 162 = .ok (.iinc 4 1, 3) := by decide +kernel
theorem dX9_commute_165 : decode cX9_commute 165 = .ok (.goto (-140), 3) := by decide +kernel
theorem dX9_commute_168 : decode cX9_commute 168 = .ok (.iload_n 3, 1) := by decide +kernel
theorem dX9_commute_169 : decode cX9_commute 169 = .ok (.ifCond .eq 7, 3) := by decide +kernel
theorem dX9_commute_172 : decode cX9_commute 172 = .ok (.iconst 1, 1) := by decide +kernel
theorem dX9_commute_173 : decode cX9_commute 173 = .ok (.goto 4, 3) := by decide +kernel
theorem dX9_commute_176 : decode cX9_commute 176 = .ok (.iconst 0, 1) := by decide +kernel
theorem dX9_commute_177 : decode cX9_commute 177 = .ok (.ireturn, 1) := by decide +kernel
theorem dX9_figuresWithMoves_0 : decode cX9_figuresWithMoves 0 = .ok (.iconst 0, 1) := by decide +kernel
theorem dX9_figuresWithMoves_1 : decode cX9_figuresWithMoves 1 = .ok (.istore_n 1, 1) := by decide +kernel
theorem dX9_figuresWithMoves_2 : decode cX9_figuresWithMoves 2 = .ok (.iconst 0, 1) := by decide +kernel
theorem dX9_figuresWithMoves_3 : decode cX9_figuresWithMoves 3 = .ok (.istore_n 2, 1) := by decide +kernel
theorem dX9_figuresWithMoves_4 : decode cX9_figuresWithMoves 4 = .ok (.iload_n 2, 1) := by decide +kernel
theorem dX9_figuresWithMoves_5 : decode cX9_figuresWithMoves 5 = .ok (.bipush 8, 2) := by decide +kernel
theorem dX9_figuresWithMoves_7 : decode cX9_figuresWithMoves 7 = .ok (.if_icmp .ge 25, 3) := by decide +kernel
theorem dX9_figuresWithMoves_10 : decode cX9_figuresWithMoves 10 = .ok (.iload_n 1, 1) := by decide +kernel
theorem dX9_figuresWithMoves_11 : decode cX9_figuresWithMoves 11 = .ok (.aload_n 0, 1) := by decide +kernel
theorem dX9_figuresWithMoves_12 : decode cX9_figuresWithMoves 12 = .ok (.iload_n 2, 1) := by decide +kernel
theorem dX9_figuresWithMoves_13 : decode cX9_figuresWithMoves 13 = .ok (.invokevirtual 81, 3) := by decide +kernel
theorem dX9_figuresWithMoves_16 : decode cX9_figuresWithMoves 16 = .ok (.ifCond .le 7, 3) := by decide +kernel
theorem dX9_figuresWithMoves_19 : decode cX9_figuresWithMoves 19 = .ok (.iconst 1, 1) := by decide +kernel
theorem dX9_figuresWithMoves_20 : decode cX9_figuresWithMoves 20 = .ok (.goto 4, 3) := by decide +kernel
theorem dX9_figuresWithMoves_23 : decode cX9_figuresWithMoves 23 = .ok (.iconst 0, 1) := by decide +kernel
theorem dX9_figuresWithMoves_24 : decode cX9_figuresWithMoves 24 = .ok (.iadd, 1) := by decide +kernel
theorem dX9_figuresWithMoves_25 : decode cX9_figuresWithMoves 25 = .ok (.istore_n 1, 1) := by decide +kernel
theorem dX9_figuresWithMoves_26 : decode cX9_figuresWithMoves 26 = .ok (.iinc 2 1, 3) := by decide +kernel
theorem dX9_figuresWithMoves_29 : decode cX9_figuresWithMoves 29 = .ok (.goto (-25), 3) := by decide +kernel
theorem dX9_figuresWithMoves_32 : decode cX9_figuresWithMoves 32 = .ok (.iload_n 1, 1) := by decide +kernel
theorem dX9_figuresWithMoves_33 : decode cX9_figuresWithMoves 33 = .ok (.ireturn, 1) := by decide +kernel
theorem dX9_count_0 : decode cX9_count 0 = .ok (.iload_n 1, 1) := by decide +kernel
theorem dX9_count_1 : decode cX9_count 1 = .ok (.tableswitch 71 0 5 #[39, 45, 51, 56, 61, 66], 39) := by decide +kernel
theorem dX9_count_40 : decode cX9_count 40 = .ok (.aload_n 0, 1) := by decide +kernel
theorem dX9_count_41 : decode cX9_count 41 = .ok (.iconst 1, 1) := by decide +kernel
theorem dX9_count_42 : decode cX9_count 42 = .ok (.invokevirtual 74, 3) := by decide +kernel
theorem dX9_count_45 : decode cX9_count 45 = .ok (.ireturn, 1) := by decide +kernel
theorem dX9_count_46 : decode cX9_count 46 = .ok (.aload_n 0, 1) := by decide +kernel
theorem dX9_count_47 : decode cX9_count 47 = .ok (.iconst 0, 1) := by decide +kernel
theorem dX9_count_48 : decode cX9_count 48 = .ok (.invokevirtual 74, 3) := by decide +kernel
theorem dX9_count_51 : decode cX9_count 51 = .ok (.ireturn, 1) := by decide +kernel
theorem dX9_count_52 : decode cX9_count 52 = .ok (.aload_n 0, 1) := by decide +kernel
theorem dX9_count_53 : decode cX9_count 53 = .ok (.invokevirtual 150, 3) := by decide +kernel
theorem dX9_count_56 : decode cX9_count 56 = .ok (.ireturn, 1) := by decide +kernel
theorem dX9_count_57 : decode cX9_count 57 = .ok (.aload_n 0, 1) := by decide +kernel
theorem dX9_count_58 : decode cX9_count 58 = .ok (.invokevirtual 207, 3) := by decide +kernel
theorem dX9_count_61 : decode cX9_count 61 = .ok (.ireturn, 1) := by decide +kernel
theorem dX9_count_62 : decode cX9_count 62 = .ok (.aload_n 0, 1) := by decide +kernel
theorem dX9_count_63 : decode cX9_count 63 = .ok (.getfield 66, 3) := by decide +kernel
theorem dX9_count_66 : decode cX9_count 66 = .ok (.ireturn, 1) := by decide +kernel
theorem dX9_count_67 : decode cX9_count 67 = .ok (.aload_n 0, 1) := by decide +kernel
theorem dX9_count_68 : decode cX9_count 68 = .ok (.getfield 157, 3) := by decide +kernel
theorem dX9_count_71 : decode cX9_count 71 = .ok (.ireturn, 1) := by decide +kernel
theorem dX9_count_72 : decode cX9_count 72 = .ok (.bipush (-2), 2) := by decide +kernel
theorem dX9_count_74 : decode cX9_count 74 = .ok (.ireturn, 1) := by decide +kernel
theorem dX9_total_0 : decode cX9_total 0 = .ok (.iload_n 1, 1) := by decide +kernel
theorem dX9_total_1 : decode cX9_total 1 = .ok (.iconst 0, 1) := by decide +kernel
theorem dX9_total_2 : decode cX9_total 2 = .ok (.iconst 2, 1) := by decide +kernel
theorem dX9_total_3 : decode cX9_total 3 = .ok (.invokestatic 62, 3) := by decide +kernel
theorem dX9_total_6 : decode cX9_total 6 = .ok (.ifCond .eq 16, 3) := by decide +kernel
theorem dX9_total_9 : decode cX9_total 9 = .ok (.aload_n 0, 1) := by decide +kernel
theorem dX9_total_10 : decode cX9_total 10 = .ok (.getfield 7, 3) := by decide +kernel
theorem dX9_total_13 : decode cX9_total 13 = .ok (.sipush 278, 3) := by decide +kernel
theorem dX9_total_16 : decode cX9_total 16 = .ok (.iload_n 1, 1) := by decide +kernel
theorem dX9_total_17 : decode cX9_total 17 = .ok (.iadd, 1) := by decide +kernel
theorem dX9_total_18 : decode cX9_total 18 = .ok (.iaload, 1) := by decide +kernel
theorem dX9_total_19 : decode cX9_total 19 = .ok (.goto 5, 3) := by decide +kernel
theorem dX9_total_22 : decode cX9_total 22 = .ok (.bipush (-2), 2) := by decide +kernel
theorem dX9_total_24 : decode cX9_total 24 = .ok (.ireturn, 1) := by decide +kernel
theorem dX9_blockedAt_0 : decode cX9_blockedAt 0 = .ok (.iload_n 1, 1) := by decide +kernel
theorem dX9_blockedAt_1 : decode cX9_blockedAt 1 = .ok (.invokestatic 97, 3) := by decide +kernel
theorem dX9_blockedAt_4 : decode cX9_blockedAt 4 = .ok (.ifCond .ne 5, 3) := by decide +kernel
theorem dX9_blockedAt_7 : decode cX9_blockedAt 7 = .ok (.iconst (-1), 1) := by decide +kernel
theorem dX9_blockedAt_8 : decode cX9_blockedAt 8 = .ok (.ireturn, 1) := by decide +kernel
theorem dX9_blockedAt_9 : decode cX9_blockedAt 9 = .ok (.aload_n 0, 1) := by decide +kernel
theorem dX9_blockedAt_10 : decode cX9_blockedAt 10 = .ok (.iload_n 1, 1) := by decide +kernel
theorem dX9_blockedAt_11 : decode cX9_blockedAt 11 = .ok (.iconst 1, 1) := by decide +kernel
theorem dX9_blockedAt_12 : decode cX9_blockedAt 12 = .ok (.iload_n 2, 1) := by decide +kernel
theorem dX9_blockedAt_13 : decode cX9_blockedAt 13 = .ok (.invokevirtual 140, 3) := by decide +kernel
theorem dX9_blockedAt_16 : decode cX9_blockedAt 16 = .ok (.istore_n 3, 1) := by decide +kernel
theorem dX9_blockedAt_17 : decode cX9_blockedAt 17 = .ok (.aload_n 0, 1) := by decide +kernel
theorem dX9_blockedAt_18 : decode cX9_blockedAt 18 = .ok (.invokevirtual 144, 3) := by decide +kernel
theorem dX9_blockedAt_21 : decode cX9_blockedAt 21 = .ok (.iload_n 3, 1) := by decide +kernel
theorem dX9_blockedAt_22 : decode cX9_blockedAt 22 = .ok (.aload_n 0, 1) := by decide +kernel
theorem dX9_blockedAt_23 : decode cX9_blockedAt 23 = .ok (.getfield 19, 3) := by decide +kernel
theorem dX9_blockedAt_26 : decode cX9_blockedAt 26 = .ok (.iload_n 1, 1) := by decide +kernel
theorem dX9_blockedAt_27 : decode cX9_blockedAt 27 = .ok (.iaload, 1) := by decide +kernel
theorem dX9_blockedAt_28 : decode cX9_blockedAt 28 = .ok (.if_icmp .ge 7, 3) := by decide +kernel
theorem dX9_blockedAt_31 : decode cX9_blockedAt 31 = .ok (.iload_n 3, 1) := by decide +kernel
theorem dX9_blockedAt_32 : decode cX9_blockedAt 32 = .ok (.goto 5, 3) := by decide +kernel
theorem dX9_blockedAt_35 : decode cX9_blockedAt 35 = .ok (.bipush (-5), 2) := by decide +kernel
theorem dX9_blockedAt_37 : decode cX9_blockedAt 37 = .ok (.ireturn, 1) := by decide +kernel
theorem dX9_begin_0 : decode cX9_begin 0 = .ok (.iconst 0, 1) := by decide +kernel
theorem dX9_begin_1 : decode cX9_begin 1 = .ok (.istore_n 1, 1) := by decide +kernel
theorem dX9_begin_2 : decode cX9_begin 2 = .ok (.iload_n 1, 1) := by decide +kernel
theorem dX9_begin_3 : decode cX9_begin 3 = .ok (.bipush 10, 2) := by decide +kernel
theorem dX9_begin_5 : decode cX9_begin 5 = .ok (.if_icmp .ge 38, 3) := by decide +kernel
theorem dX9_begin_8 : decode cX9_begin 8 = .ok (.aload_n 0, 1) := by decide +kernel
theorem dX9_begin_9 : decode cX9_begin 9 = .ok (.getfield 59, 3) := by decide +kernel
theorem dX9_begin_12 : decode cX9_begin 12 = .ok (.iload_n 1, 1) := by decide +kernel
theorem dX9_begin_13 : decode cX9_begin 13 = .ok (.aload_n 0, 1) := by decide +kernel
theorem dX9_begin_14 : decode cX9_begin 14 = .ok (.iload_n 1, 1) := by decide +kernel
theorem dX9_begin_15 : decode cX9_begin 15 = .ok (.invokevirtual 123, 3) := by decide +kernel
theorem dX9_begin_18 : decode cX9_begin 18 = .ok (.iastore, 1) := by decide +kernel
theorem dX9_begin_19 : decode cX9_begin 19 = .ok (.aload_n 0, 1) := by decide +kernel
theorem dX9_begin_20 : decode cX9_begin 20 = .ok (.getfield 59, 3) := by decide +kernel
theorem dX9_begin_23 : decode cX9_begin 23 = .ok (.bipush 10, 2) := by decide +kernel
theorem dX9_begin_25 : decode cX9_begin 25 = .ok (.iload_n 1, 1) := by decide +kernel
theorem dX9_begin_26 : decode cX9_begin 26 = .ok (.iadd, 1) := by decide +kernel
theorem dX9_begin_27 : decode cX9_begin 27 = .ok (.aload_n 0, 1) := by decide +kernel
theorem dX9_begin_28 : decode cX9_begin 28 = .ok (.getfield 7, 3) := by decide +kernel
theorem dX9_begin_31 : decode cX9_begin 31 = .ok (.bipush 10, 2) := by decide +kernel
theorem dX9_begin_33 : decode cX9_begin 33 = .ok (.iload_n 1, 1) := by decide +kernel
theorem dX9_begin_34 : decode cX9_begin 34 = .ok (.iadd, 1) := by decide +kernel
theorem dX9_begin_35 : decode cX9_begin 35 = .ok (.iaload, 1) := by decide +kernel
theorem dX9_begin_36 : decode cX9_begin 36 = .ok (.iastore, 1) := by decide +kernel
theorem dX9_begin_37 : decode cX9_begin 37 = .ok (.iinc 1 1, 3) := by decide +kernel
theorem dX9_begin_40 : decode cX9_begin 40 = .ok (.goto (-38), 3) := by decide +kernel
theorem dX9_begin_43 : decode cX9_begin 43 = .ok (.return_, 1) := by decide +kernel
theorem dX9_apply_0 : decode cX9_apply 0 = .ok (.iconst 0, 1) := by decide +kernel
theorem dX9_apply_1 : decode cX9_apply 1 = .ok (.istore_n 2, 1) := by decide +kernel
theorem dX9_apply_2 : decode cX9_apply 2 = .ok (.iload_n 2, 1) := by decide +kernel
theorem dX9_apply_3 : decode cX9_apply 3 = .ok (.bipush 10, 2) := by decide +kernel
theorem dX9_apply_5 : decode cX9_apply 5 = .ok (.if_icmp .ge 60, 3) := by decide +kernel
theorem dX9_apply_8 : decode cX9_apply 8 = .ok (.bipush 10, 2) := by decide +kernel
theorem dX9_apply_10 : decode cX9_apply 10 = .ok (.iload_n 1, 1) := by decide +kernel
theorem dX9_apply_11 : decode cX9_apply 11 = .ok (.imul, 1) := by decide +kernel
theorem dX9_apply_12 : decode cX9_apply 12 = .ok (.aload_n 0, 1) := by decide +kernel
theorem dX9_apply_13 : decode cX9_apply 13 = .ok (.getfield 59, 3) := by decide +kernel
theorem dX9_apply_16 : decode cX9_apply 16 = .ok (.iload_n 2, 1) := by decide +kernel
theorem dX9_apply_17 : decode cX9_apply 17 = .ok (.iaload, 1) := by decide +kernel
theorem dX9_apply_18 : decode cX9_apply 18 = .ok (.iadd, 1) := by decide +kernel
theorem dX9_apply_19 : decode cX9_apply 19 = .ok (.istore_n 3, 1) := by decide +kernel
theorem dX9_apply_20 : decode cX9_apply 20 = .ok (.aload_n 0, 1) := by decide +kernel
theorem dX9_apply_21 : decode cX9_apply 21 = .ok (.getfield 59, 3) := by decide +kernel
theorem dX9_apply_24 : decode cX9_apply 24 = .ok (.bipush 10, 2) := by decide +kernel
theorem dX9_apply_26 : decode cX9_apply 26 = .ok (.iload_n 2, 1) := by decide +kernel
theorem dX9_apply_27 : decode cX9_apply 27 = .ok (.iadd, 1) := by decide +kernel
theorem dX9_apply_28 : decode cX9_apply 28 = .ok (.aload_n 0, 1) := by decide +kernel
theorem dX9_apply_29 : decode cX9_apply 29 = .ok (.getfield 59, 3) := by decide +kernel
theorem dX9_apply_32 : decode cX9_apply 32 = .ok (.bipush 10, 2) := by decide +kernel
theorem dX9_apply_34 : decode cX9_apply 34 = .ok (.iload_n 2, 1) := by decide +kernel
theorem dX9_apply_35 : decode cX9_apply 35 = .ok (.iadd, 1) := by decide +kernel
theorem dX9_apply_36 : decode cX9_apply 36 = .ok (.iaload, 1) := by decide +kernel
theorem dX9_apply_37 : decode cX9_apply 37 = .ok (.aload_n 0, 1) := by decide +kernel
theorem dX9_apply_38 : decode cX9_apply 38 = .ok (.getfield 56, 3) := by decide +kernel
theorem dX9_apply_41 : decode cX9_apply 41 = .ok (.iload_n 3, 1) := by decide +kernel
theorem dX9_apply_42 : decode cX9_apply 42 = .ok (.iaload, 1) := by decide +kernel
theorem dX9_apply_43 : decode cX9_apply 43 = .ok (.iadd, 1) := by decide +kernel
theorem dX9_apply_44 : decode cX9_apply 44 = .ok (.iconst 4, 1) := by decide +kernel
theorem dX9_apply_45 : decode cX9_apply 45 = .ok (.irem, 1) := by decide +kernel
theorem dX9_apply_46 : decode cX9_apply 46 = .ok (.iastore, 1) := by decide +kernel
theorem dX9_apply_47 : decode cX9_apply 47 = .ok (.aload_n 0, 1) := by decide +kernel
theorem dX9_apply_48 : decode cX9_apply 48 = .ok (.getfield 59, 3) := by decide +kernel
theorem dX9_apply_51 : decode cX9_apply 51 = .ok (.iload_n 2, 1) := by decide +kernel
theorem dX9_apply_52 : decode cX9_apply 52 = .ok (.aload_n 0, 1) := by decide +kernel
theorem dX9_apply_53 : decode cX9_apply 53 = .ok (.getfield 53, 3) := by decide +kernel
theorem dX9_apply_56 : decode cX9_apply 56 = .ok (.iload_n 3, 1) := by decide +kernel
theorem dX9_apply_57 : decode cX9_apply 57 = .ok (.iaload, 1) := by decide +kernel
theorem dX9_apply_58 : decode cX9_apply 58 = .ok (.iastore, 1) := by decide +kernel
theorem dX9_apply_59 : decode cX9_apply 59 = .ok (.iinc 2 1, 3) := by decide +kernel
theorem dX9_apply_62 : decode cX9_apply 62 = .ok (.goto (-60), 3) := by decide +kernel
theorem dX9_apply_65 : decode cX9_apply 65 = .ok (.return_, 1) := by decide +kernel
theorem dX9_isHome_0 : decode cX9_isHome 0 = .ok (.iconst 1, 1) := by decide +kernel
theorem dX9_isHome_1 : decode cX9_isHome 1 = .ok (.istore_n 1, 1) := by decide +kernel
theorem dX9_isHome_2 : decode cX9_isHome 2 = .ok (.iconst 0, 1) := by decide +kernel
theorem dX9_isHome_3 : decode cX9_isHome 3 = .ok (.istore_n 2, 1) := by decide +kernel
theorem dX9_isHome_4 : decode cX9_isHome 4 = .ok (.iload_n 2, 1) := by decide +kernel
theorem dX9_isHome_5 : decode cX9_isHome 5 = .ok (.bipush 10, 2) := by decide +kernel
theorem dX9_isHome_7 : decode cX9_isHome 7 = .ok (.if_icmp .ge 41, 3) := by decide +kernel
theorem dX9_isHome_10 : decode cX9_isHome 10 = .ok (.iload_n 1, 1) := by decide +kernel
theorem dX9_isHome_11 : decode cX9_isHome 11 = .ok (.ifCond .eq 29, 3) := by decide +kernel
theorem dX9_isHome_14 : decode cX9_isHome 14 = .ok (.aload_n 0, 1) := by decide +kernel
theorem dX9_isHome_15 : decode cX9_isHome 15 = .ok (.getfield 59, 3) := by decide +kernel
theorem dX9_isHome_18 : decode cX9_isHome 18 = .ok (.iload_n 2, 1) := by decide +kernel
theorem dX9_isHome_19 : decode cX9_isHome 19 = .ok (.iaload, 1) := by decide +kernel
theorem dX9_isHome_20 : decode cX9_isHome 20 = .ok (.iload_n 2, 1) := by decide +kernel
theorem dX9_isHome_21 : decode cX9_isHome 21 = .ok (.if_icmp .ne 19, 3) := by decide +kernel
theorem dX9_isHome_24 : decode cX9_isHome 24 = .ok (.aload_n 0, 1) := by decide +kernel
theorem dX9_isHome_25 : decode cX9_isHome 25 = .ok (.getfield 59, 3) := by decide +kernel
theorem dX9_isHome_28 : decode cX9_isHome 28 = .ok (.bipush 10, 2) := by decide +kernel
theorem dX9_isHome_30 : decode cX9_isHome 30 = .ok (.iload_n 2, 1) := by decide +kernel
theorem dX9_isHome_31 : decode cX9_isHome 31 = .ok (.iadd, 1) := by decide +kernel
theorem dX9_isHome_32 : decode cX9_isHome 32 = .ok (.iaload, 1) := by decide +kernel
theorem dX9_isHome_33 : decode cX9_isHome 33 = .ok (.ifCond .ne 7, 3) := by decide +kernel
theorem dX9_isHome_36 : decode cX9_isHome 36 = .ok (.iconst 1, 1) := by decide +kernel
theorem dX9_isHome_37 : decode cX9_isHome 37 = .ok (.goto 4, 3) := by decide +kernel
theorem dX9_isHome_40 : decode cX9_isHome 40 = .ok (.iconst 0, 1) := by decide +kernel
theorem dX9_isHome_41 : decode cX9_isHome 41 = .ok (.istore_n 1, 1) := by decide +kernel
theorem dX9_isHome_42 : decode cX9_isHome 42 = .ok (.iinc 2 1, 3) := by decide +kernel
theorem dX9_isHome_45 : decode cX9_isHome 45 = .ok (.goto (-41), 3) := by decide +kernel
theorem dX9_isHome_48 : decode cX9_isHome 48 = .ok (.iload_n 1, 1) := by decide +kernel
theorem dX9_isHome_49 : decode cX9_isHome 49 = .ok (.ireturn, 1) := by decide +kernel
theorem dX9_homeIn_0 : decode cX9_homeIn 0 = .ok (.iload_n 1, 1) := by decide +kernel
theorem dX9_homeIn_1 : decode cX9_homeIn 1 = .ok (.invokestatic 97, 3) := by decide +kernel
theorem dX9_homeIn_4 : decode cX9_homeIn 4 = .ok (.ifCond .ne 5, 3) := by decide +kernel
theorem dX9_homeIn_7 : decode cX9_homeIn 7 = .ok (.iconst (-1), 1) := by decide +kernel
theorem dX9_homeIn_8 : decode cX9_homeIn 8 = .ok (.ireturn, 1) := by decide +kernel
theorem dX9_homeIn_9 : decode cX9_homeIn 9 = .ok (.aload_n 0, 1) := by decide +kernel
theorem dX9_homeIn_10 : decode cX9_homeIn 10 = .ok (.invokevirtual 188, 3) := by decide +kernel
theorem dX9_homeIn_13 : decode cX9_homeIn 13 = .ok (.aload_n 0, 1) := by decide +kernel
theorem dX9_homeIn_14 : decode cX9_homeIn 14 = .ok (.iload_n 1, 1) := by decide +kernel
theorem dX9_homeIn_15 : decode cX9_homeIn 15 = .ok (.invokevirtual 191, 3) := by decide +kernel
theorem dX9_homeIn_18 : decode cX9_homeIn 18 = .ok (.istore_n 2, 1) := by decide +kernel
theorem dX9_homeIn_19 : decode cX9_homeIn 19 = .ok (.aload_n 0, 1) := by decide +kernel
theorem dX9_homeIn_20 : decode cX9_homeIn 20 = .ok (.invokevirtual 210, 3) := by decide +kernel
theorem dX9_homeIn_23 : decode cX9_homeIn 23 = .ok (.iconst 0, 1) := by decide +kernel
theorem dX9_homeIn_24 : decode cX9_homeIn 24 = .ok (.istore_n 3, 1) := by decide +kernel
theorem dX9_homeIn_25 : decode cX9_homeIn 25 = .ok (.iload_n 3, 1) := by decide +kernel
theorem dX9_homeIn_26 : decode cX9_homeIn 26 = .ok (.iload_n 2, 1) := by decide +kernel
theorem dX9_homeIn_27 : decode cX9_homeIn 27 = .ok (.if_icmp .ge 21, 3) := by decide +kernel
theorem dX9_homeIn_30 : decode cX9_homeIn 30 = .ok (.aload_n 0, 1) := by decide +kernel
theorem dX9_homeIn_31 : decode cX9_homeIn 31 = .ok (.invokevirtual 213, 3) := by decide +kernel
theorem dX9_homeIn_34 : decode cX9_homeIn 34 = .ok (.ifCond .ne 14, 3) := by decide +kernel
theorem dX9_homeIn_37 : decode cX9_homeIn 37 = .ok (.aload_n 0, 1) := by decide +kernel
theorem dX9_homeIn_38 : decode cX9_homeIn 38 = .ok (.iload_n 1, 1) := by decide +kernel
theorem dX9_homeIn_39 : decode cX9_homeIn 39 = .ok (.invokevirtual 216, 3) := by decide +kernel
theorem dX9_homeIn_42 : decode cX9_homeIn 42 = .ok (.iinc 3 1, 3) := by decide +kernel
theorem dX9_homeIn_45 : decode cX9_homeIn 45 = .ok (.goto (-20), 3) := by decide +kernel
theorem dX9_homeIn_48 : decode cX9_homeIn 48 = .ok (.aload_n 0, 1) := by decide +kernel
theorem dX9_homeIn_49 : decode cX9_homeIn 49 = .ok (.invokevirtual 213, 3) := by decide +kernel
theorem dX9_homeIn_52 : decode cX9_homeIn 52 = .ok (.ifCond .eq 7, 3) := by decide +kernel
theorem dX9_homeIn_55 : decode cX9_homeIn 55 = .ok (.iload_n 3, 1) := by decide +kernel
theorem dX9_homeIn_56 : decode cX9_homeIn 56 = .ok (.goto 5, 3) := by decide +kernel
theorem dX9_homeIn_59 : decode cX9_homeIn 59 = .ok (.bipush (-5), 2) := by decide +kernel
theorem dX9_homeIn_61 : decode cX9_homeIn 61 = .ok (.ireturn, 1) := by decide +kernel
theorem dX9_shortest_0 : decode cX9_shortest 0 = .ok (.aload_n 0, 1) := by decide +kernel
theorem dX9_shortest_1 : decode cX9_shortest 1 = .ok (.invokevirtual 188, 3) := by decide +kernel
theorem dX9_shortest_4 : decode cX9_shortest 4 = .ok (.iconst 0, 1) := by decide +kernel
theorem dX9_shortest_5 : decode cX9_shortest 5 = .ok (.istore_n 1, 1) := by decide +kernel
theorem dX9_shortest_6 : decode cX9_shortest 6 = .ok (.iload_n 1, 1) := by decide +kernel
theorem dX9_shortest_7 : decode cX9_shortest 7 = .ok (.iconst 4, 1) := by decide +kernel
theorem dX9_shortest_8 : decode cX9_shortest 8 = .ok (.if_icmp .gt 69, 3) := by decide +kernel
theorem dX9_shortest_11 : decode cX9_shortest 11 = .ok (.iconst 1, 1) := by decide +kernel
theorem dX9_shortest_12 : decode cX9_shortest 12 = .ok (.iconst 3, 1) := by decide +kernel
theorem dX9_shortest_13 : decode cX9_shortest 13 = .ok (.iload_n 1, 1) := by decide +kernel
theorem dX9_shortest_14 : decode cX9_shortest 14 = .ok (.imul, 1) := by decide +kernel
theorem dX9_shortest_15 : decode cX9_shortest 15 = .ok (.ishl, 1) := by decide +kernel
theorem dX9_shortest_16 : decode cX9_shortest 16 = .ok (.istore_n 2, 1) := by decide +kernel
theorem dX9_shortest_17 : decode cX9_shortest 17 = .ok (.iload_n 2, 1) := by decide +kernel
theorem dX9_shortest_18 : decode cX9_shortest 18 = .ok (.iconst 2, 1) := by decide +kernel
theorem dX9_shortest_19 : decode cX9_shortest 19 = .ok (.iconst 3, 1) := by decide +kernel
theorem dX9_shortest_20 : decode cX9_shortest 20 = .ok (.iload_n 1, 1) := by decide +kernel
theorem dX9_shortest_21 : decode cX9_shortest 21 = .ok (.imul, 1) := by decide +kernel
theorem dX9_shortest_22 : decode cX9_shortest 22 = .ok (.ishl, 1) := by decide +kernel
theorem dX9_shortest_23 : decode cX9_shortest 23 = .ok (.if_icmp .ge 48, 3) := by decide +kernel
theorem dX9_shortest_26 : decode cX9_shortest 26 = .ok (.aload_n 0, 1) := by decide +kernel
theorem dX9_shortest_27 : decode cX9_shortest 27 = .ok (.invokevirtual 210, 3) := by decide +kernel
theorem dX9_shortest_30 : decode cX9_shortest 30 = .ok (.iload_n 1, 1) := by decide +kernel
theorem dX9_shortest_31 : decode cX9_shortest 31 = .ok (.iconst 1, 1) := by decide +kernel
theorem dX9_shortest_32 : decode cX9_shortest 32 = .ok (.isub, 1) := by decide +kernel
theorem dX9_shortest_33 : decode cX9_shortest 33 = .ok (.istore_n 3, 1) := by decide +kernel
theorem dX9_shortest_34 : decode cX9_shortest 34 = .ok (.iload_n 3, 1) := by decide +kernel
theorem dX9_shortest_35 : decode cX9_shortest 35 = .ok (.ifCond .lt 21, 3) := by decide +kernel
theorem dX9_shortest_38 : decode cX9_shortest 38 = .ok (.aload_n 0, 1) := by decide +kernel
theorem dX9_shortest_39 : decode cX9_shortest 39 = .ok (.iload_n 2, 1) := by decide +kernel
theorem dX9_shortest_40 : decode cX9_shortest 40 = .ok (.iconst 3, 1) := by decide +kernel
theorem dX9_shortest_41 : decode cX9_shortest 41 = .ok (.iload_n 3, 1) := by decide +kernel
theorem dX9_shortest_42 : decode cX9_shortest 42 = .ok (.imul, 1) := by decide +kernel
theorem dX9_shortest_43 : decode cX9_shortest 43 = .ok (.ishr, 1) := by decide +kernel
theorem dX9_shortest_44 : decode cX9_shortest 44 = .ok (.bipush 7, 2) := by decide +kernel
theorem dX9_shortest_46 : decode cX9_shortest 46 = .ok (.iand, 1) := by decide +kernel
theorem dX9_shortest_47 : decode cX9_shortest 47 = .ok (.invokevirtual 216, 3) := by decide +kernel
theorem dX9_shortest_50 : decode cX9_shortest 50 = .ok (.iinc 3 (-1), 3) := by decide +kernel
theorem dX9_shortest_53 : decode cX9_shortest 53 = .ok (.goto (-19), 3) := by decide +kernel
theorem dX9_shortest_56 : decode cX9_shortest 56 = .ok (.aload_n 0, 1) := by decide +kernel
theorem dX9_shortest_57 : decode cX9_shortest 57 = .ok (.invokevirtual 213, 3) := by decide +kernel
theorem dX9_shortest_60 : decode cX9_shortest 60 = .ok (.ifCond .eq 5, 3) := by decide +kernel
theorem dX9_shortest_63 : decode cX9_shortest 63 = .ok (.iload_n 2, 1) := by decide +kernel
theorem dX9_shortest_64 : decode cX9_shortest 64 = .ok (.ireturn, 1) := by decide +kernel
theorem dX9_shortest_65 : decode cX9_shortest 65 = .ok (.iinc 2 1, 3) := by decide +kernel
theorem dX9_shortest_68 : decode cX9_shortest 68 = .ok (.goto (-51), 3) := by decide +kernel
theorem dX9_shortest_71 : decode cX9_shortest 71 = .ok (.iinc 1 1, 3) := by decide +kernel
theorem dX9_shortest_74 : decode cX9_shortest 74 = .ok (.goto (-68), 3) := by decide +kernel
theorem dX9_shortest_77 : decode cX9_shortest 77 = .ok (.iconst 0, 1) := by decide +kernel
theorem dX9_shortest_78 : decode cX9_shortest 78 = .ok (.ireturn, 1) := by decide +kernel
theorem dX9_wayHome_0 : decode cX9_wayHome 0 = .ok (.iload_n 1, 1) := by decide +kernel
theorem dX9_wayHome_1 : decode cX9_wayHome 1 = .ok (.iconst 0, 1) := by decide +kernel
theorem dX9_wayHome_2 : decode cX9_wayHome 2 = .ok (.iconst 4, 1) := by decide +kernel
theorem dX9_wayHome_3 : decode cX9_wayHome 3 = .ok (.invokestatic 62, 3) := by decide +kernel
theorem dX9_wayHome_6 : decode cX9_wayHome 6 = .ok (.ifCond .ne 6, 3) := by decide +kernel
theorem dX9_wayHome_9 : decode cX9_wayHome 9 = .ok (.bipush (-2), 2) := by decide +kernel
theorem dX9_wayHome_11 : decode cX9_wayHome 11 = .ok (.ireturn, 1) := by decide +kernel
theorem dX9_wayHome_12 : decode cX9_wayHome 12 = .ok (.aload_n 0, 1) := by decide +kernel
theorem dX9_wayHome_13 : decode cX9_wayHome 13 = .ok (.invokevirtual 219, 3) := by decide +kernel
theorem dX9_wayHome_16 : decode cX9_wayHome 16 = .ok (.istore_n 2, 1) := by decide +kernel
theorem dX9_wayHome_17 : decode cX9_wayHome 17 = .ok (.iload_n 2, 1) := by decide +kernel
theorem dX9_wayHome_18 : decode cX9_wayHome 18 = .ok (.ifCond .ne 8, 3) := by decide +kernel
theorem dX9_wayHome_21 : decode cX9_wayHome 21 = .ok (.bipush (-5), 2) := by decide +kernel
theorem dX9_wayHome_23 : decode cX9_wayHome 23 = .ok (.goto 46, 3) := by decide +kernel
theorem dX9_wayHome_26 : decode cX9_wayHome 26 = .ok (.iload_n 2, 1) := by decide +kernel
theorem dX9_wayHome_27 : decode cX9_wayHome 27 = .ok (.bipush 8, 2) := by decide +kernel
theorem dX9_wayHome_29 : decode cX9_wayHome 29 = .ok (.if_icmp .ge 7, 3) := by decide +kernel
theorem dX9_wayHome_32 : decode cX9_wayHome 32 = .ok (.iconst 0, 1) := by decide +kernel
theorem dX9_wayHome_33 : decode cX9_wayHome 33 = .ok (.goto 36, 3) := by decide +kernel
theorem dX9_wayHome_36 : decode cX9_wayHome 36 = .ok (.iload_n 2, 1) := by decide +kernel
theorem dX9_wayHome_37 : decode cX9_wayHome 37 = .ok (.bipush 64, 2) := by decide +kernel
theorem dX9_wayHome_39 : decode cX9_wayHome 39 = .ok (.if_icmp .ge 7, 3) := by decide +kernel
theorem dX9_wayHome_42 : decode cX9_wayHome 42 = .ok (.iconst 1, 1) := by decide +kernel
theorem dX9_wayHome_43 : decode cX9_wayHome 43 = .ok (.goto 26, 3) := by decide +kernel
theorem dX9_wayHome_46 : decode cX9_wayHome 46 = .ok (.iload_n 2, 1) := by decide +kernel
theorem dX9_wayHome_47 : decode cX9_wayHome 47 = .ok (.sipush 512, 3) := by decide +kernel
theorem dX9_wayHome_50 : decode cX9_wayHome 50 = .ok (.if_icmp .ge 7, 3) := by decide +kernel
theorem dX9_wayHome_53 : decode cX9_wayHome 53 = .ok (.iconst 2, 1) := by decide +kernel
theorem dX9_wayHome_54 : decode cX9_wayHome 54 = .ok (.goto 15, 3) := by decide +kernel
theorem dX9_wayHome_57 : decode cX9_wayHome 57 = .ok (.iload_n 2, 1) := by decide +kernel
theorem dX9_wayHome_58 : decode cX9_wayHome 58 = .ok (.sipush 4096, 3) := by decide +kernel
theorem dX9_wayHome_61 : decode cX9_wayHome 61 = .ok (.if_icmp .ge 7, 3) := by decide +kernel
theorem dX9_wayHome_64 : decode cX9_wayHome 64 = .ok (.iconst 3, 1) := by decide +kernel
theorem dX9_wayHome_65 : decode cX9_wayHome 65 = .ok (.goto 4, 3) := by decide +kernel
theorem dX9_wayHome_68 : decode cX9_wayHome 68 = .ok (.iconst 4, 1) := by decide +kernel
theorem dX9_wayHome_69 : decode cX9_wayHome 69 = .ok (.istore_n 3, 1) := by decide +kernel
theorem dX9_wayHome_70 : decode cX9_wayHome 70 = .ok (.iload_n 1, 1) := by decide +kernel
theorem dX9_wayHome_71 : decode cX9_wayHome 71 = .ok (.ifCond .ne 7, 3) := by decide +kernel
theorem dX9_wayHome_74 : decode cX9_wayHome 74 = .ok (.iload_n 3, 1) := by decide +kernel
theorem dX9_wayHome_75 : decode cX9_wayHome 75 = .ok (.goto 23, 3) := by decide +kernel
theorem dX9_wayHome_78 : decode cX9_wayHome 78 = .ok (.iload_n 1, 1) := by decide +kernel
theorem dX9_wayHome_79 : decode cX9_wayHome 79 = .ok (.iload_n 3, 1) := by decide +kernel
theorem dX9_wayHome_80 : decode cX9_wayHome 80 = .ok (.if_icmp .le 8, 3) := by decide +kernel
theorem dX9_wayHome_83 : decode cX9_wayHome 83 = .ok (.bipush (-5), 2) := by decide +kernel
theorem dX9_wayHome_85 : decode cX9_wayHome 85 = .ok (.goto 13, 3) := by decide +kernel
theorem dX9_wayHome_88 : decode cX9_wayHome 88 = .ok (.iload_n 2, 1) := by decide +kernel
theorem dX9_wayHome_89 : decode cX9_wayHome 89 = .ok (.iconst 3, 1) := by decide +kernel
theorem dX9_wayHome_90 : decode cX9_wayHome 90 = .ok (.iload_n 3, 1) := by decide +kernel
theorem dX9_wayHome_91 : decode cX9_wayHome 91 = .ok (.iload_n 1, 1) := by decide +kernel
theorem dX9_wayHome_92 : decode cX9_wayHome 92 = .ok (.isub, 1) := by decide +kernel
theorem dX9_wayHome_93 : decode cX9_wayHome 93 = .ok (.imul, 1) := by decide +kernel
theorem dX9_wayHome_94 : decode cX9_wayHome 94 = .ok (.ishr, 1) := by decide +kernel
theorem dX9_wayHome_95 : decode cX9_wayHome 95 = .ok (.bipush 7, 2) := by decide +kernel
theorem dX9_wayHome_97 : decode cX9_wayHome 97 = .ok (.iand, 1) := by decide +kernel
theorem dX9_wayHome_98 : decode cX9_wayHome 98 = .ok (.ireturn, 1) := by decide +kernel
theorem dX9_distance_0 : decode cX9_distance 0 = .ok (.iconst 0, 1) := by decide +kernel
theorem dX9_distance_1 : decode cX9_distance 1 = .ok (.istore_n 1, 1) := by decide +kernel
theorem dX9_distance_2 : decode cX9_distance 2 = .ok (.iconst 0, 1) := by decide +kernel
theorem dX9_distance_3 : decode cX9_distance 3 = .ok (.istore_n 2, 1) := by decide +kernel
theorem dX9_distance_4 : decode cX9_distance 4 = .ok (.iload_n 2, 1) := by decide +kernel
theorem dX9_distance_5 : decode cX9_distance 5 = .ok (.bipush 10, 2) := by decide +kernel
theorem dX9_distance_7 : decode cX9_distance 7 = .ok (.if_icmp .ge 39, 3) := by decide +kernel
theorem dX9_distance_10 : decode cX9_distance 10 = .ok (.aload_n 0, 1) := by decide +kernel
theorem dX9_distance_11 : decode cX9_distance 11 = .ok (.iload_n 2, 1) := by decide +kernel
theorem dX9_distance_12 : decode cX9_distance 12 = .ok (.invokevirtual 123, 3) := by decide +kernel
theorem dX9_distance_15 : decode cX9_distance 15 = .ok (.iload_n 2, 1) := by decide +kernel
theorem dX9_distance_16 : decode cX9_distance 16 = .ok (.isub, 1) := by decide +kernel
theorem dX9_distance_17 : decode cX9_distance 17 = .ok (.bipush 10, 2) := by decide +kernel
theorem dX9_distance_19 : decode cX9_distance 19 = .ok (.iadd, 1) := by decide +kernel
theorem dX9_distance_20 : decode cX9_distance 20 = .ok (.bipush 10, 2) := by decide +kernel
theorem dX9_distance_22 : decode cX9_distance 22 = .ok (.irem, 1) := by decide +kernel
theorem dX9_distance_23 : decode cX9_distance 23 = .ok (.istore_n 3, 1) := by decide +kernel
theorem dX9_distance_24 : decode cX9_distance 24 = .ok (.iload_n 1, 1) := by decide +kernel
theorem dX9_distance_25 : decode cX9_distance 25 = .ok (.iload_n 3, 1) := by decide +kernel
theorem dX9_distance_26 : decode cX9_distance 26 = .ok (.iconst 5, 1) := by decide +kernel
theorem dX9_distance_27 : decode cX9_distance 27 = .ok (.if_icmp .le 10, 3) := by decide +kernel
theorem dX9_distance_30 : decode cX9_distance 30 = .ok (.bipush 10, 2) := by decide +kernel
theorem dX9_distance_32 : decode cX9_distance 32 = .ok (.iload_n 3, 1) := by decide +kernel
theorem dX9_distance_33 : decode cX9_distance 33 = .ok (.isub, 1) := by decide +kernel
theorem dX9_distance_34 : decode cX9_distance 34 = .ok (.goto 4, 3) := by decide +kernel
theorem dX9_distance_37 : decode cX9_distance 37 = .ok (.iload_n 3, 1) := by decide +kernel
theorem dX9_distance_38 : decode cX9_distance 38 = .ok (.iadd, 1) := by decide +kernel
theorem dX9_distance_39 : decode cX9_distance 39 = .ok (.istore_n 1, 1) := by decide +kernel
theorem dX9_distance_40 : decode cX9_distance 40 = .ok (.iinc 2 1, 3) := by decide +kernel
theorem dX9_distance_43 : decode cX9_distance 43 = .ok (.goto (-39), 3) := by decide +kernel
theorem dX9_distance_46 : decode cX9_distance 46 = .ok (.iload_n 1, 1) := by decide +kernel
theorem dX9_distance_47 : decode cX9_distance 47 = .ok (.i2d, 1) := by decide +kernel
theorem dX9_distance_48 : decode cX9_distance 48 = .ok (.ldc2_w 222, 3) := by decide +kernel
theorem dX9_distance_51 : decode cX9_distance 51 = .ok (.ddiv, 1) := by decide +kernel
theorem dX9_distance_52 : decode cX9_distance 52 = .ok (.dreturn, 1) := by decide +kernel
