theorem dX8_init_0 : decode cX8_init 0 = .ok (.aload_n 0, 1) := by decide +kernel
theorem dX8_init_1 : decode cX8_init 1 = .ok (.invokespecial 1, 3) := by decide +kernel
theorem dX8_init_4 : decode cX8_init 4 = .ok (.aload_n 0, 1) := by decide +kernel
theorem dX8_init_5 : decode cX8_init 5 = .ok (.new 7, 3) := by decide +kernel
theorem dX8_init_8 : decode cX8_init 8 = .ok (.dup, 1) := by decide +kernel
theorem dX8_init_9 : decode cX8_init 9 = .ok (.invokespecial 9, 3) := by decide +kernel
theorem dX8_init_12 : decode cX8_init 12 = .ok (.putfield 10, 3) := by decide +kernel
theorem dX8_init_15 : decode cX8_init 15 = .ok (.aload_n 0, 1) := by decide +kernel
theorem dX8_init_16 : decode cX8_init 16 = .ok (.new 7, 3) := by decide +kernel
theorem dX8_init_19 : decode cX8_init 19 = .ok (.dup, 1) := by decide +kernel
theorem dX8_init_20 : decode cX8_init 20 = .ok (.invokespecial 9, 3) := by decide +kernel
theorem dX8_init_23 : decode cX8_init 23 = .ok (.putfield 16, 3) := by decide +kernel
theorem dX8_init_26 : decode cX8_init 26 = .ok (.aload_n 0, 1) := by decide +kernel
theorem dX8_init_27 : decode cX8_init 27 = .ok (.iconst 0, 1) := by decide +kernel
theorem dX8_init_28 : decode cX8_init 28 = .ok (.putfield 19, 3) := by decide +kernel
theorem dX8_init_31 : decode cX8_init 31 = .ok (.aload_n 0, 1) := by decide +kernel
theorem dX8_init_32 : decode cX8_init 32 = .ok (.new 23, 3) := by decide +kernel
theorem dX8_init_35 : decode cX8_init 35 = .ok (.dup, 1) := by decide +kernel
theorem dX8_init_36 : decode cX8_init 36 = .ok (.invokespecial 25, 3) := by decide +kernel
theorem dX8_init_39 : decode cX8_init 39 = .ok (.putfield 26, 3) := by decide +kernel
theorem dX8_init_42 : decode cX8_init 42 = .ok (.aload_n 0, 1) := by decide +kernel
theorem dX8_init_43 : decode cX8_init 43 = .ok (.new 30, 3) := by decide +kernel
theorem dX8_init_46 : decode cX8_init 46 = .ok (.dup, 1) := by decide +kernel
theorem dX8_init_47 : decode cX8_init 47 = .ok (.invokespecial 32, 3) := by decide +kernel
theorem dX8_init_50 : decode cX8_init 50 = .ok (.putfield 33, 3) := by decide +kernel
theorem dX8_init_53 : decode cX8_init 53 = .ok (.aload_n 0, 1) := by decide +kernel
theorem dX8_init_54 : decode cX8_init 54 = .ok (.new 37, 3) := by decide +kernel
theorem dX8_init_57 : decode cX8_init 57 = .ok (.dup, 1) := by decide +kernel
theorem dX8_init_58 : decode cX8_init 58 = .ok (.invokespecial 39, 3) := by decide +kernel
theorem dX8_init_61 : decode cX8_init 61 = .ok (.putfield 40, 3) := by decide +kernel
theorem dX8_init_64 : decode cX8_init 64 = .ok (.aload_n 0, 1) := by decide +kernel
theorem dX8_init_65 : decode cX8_init 65 = .ok (.new 44, 3) := by decide +kernel
theorem dX8_init_68 : decode cX8_init 68 = .ok (.dup, 1) := by decide +kernel
theorem dX8_init_69 : decode cX8_init 69 = .ok (.invokespecial 46, 3) := by decide +kernel
theorem dX8_init_72 : decode cX8_init 72 = .ok (.putfield 47, 3) := by decide +kernel
theorem dX8_init_75 : decode cX8_init 75 = .ok (.aload_n 0, 1) := by decide +kernel
theorem dX8_init_76 : decode cX8_init 76 = .ok (.new 51, 3) := by decide +kernel
theorem dX8_init_79 : decode cX8_init 79 = .ok (.dup, 1) := by decide +kernel
theorem dX8_init_80 : decode cX8_init 80 = .ok (.invokespecial 53, 3) := by decide +kernel
theorem dX8_init_83 : decode cX8_init 83 = .ok (.putfield 54, 3) := by decide +kernel
theorem dX8_init_86 : decode cX8_init 86 = .ok (.aload_n 0, 1) := by decide +kernel
theorem dX8_init_87 : decode cX8_init 87 = .ok (.new 51, 3) := by decide +kernel
theorem dX8_init_90 : decode cX8_init 90 = .ok (.dup, 1) := by decide +kernel
theorem dX8_init_91 : decode cX8_init 91 = .ok (.invokespecial 53, 3) := by decide +kernel
theorem dX8_init_94 : decode cX8_init 94 = .ok (.putfield 58, 3) := by decide +kernel
theorem dX8_init_97 : decode cX8_init 97 = .ok (.return_, 1) := by decide +kernel
theorem dX8_add_0 : decode cX8_add 0 = .ok (.iload_n 1, 1) := by decide +kernel
theorem dX8_add_1 : decode cX8_add 1 = .ok (.invokestatic 61, 3) := by decide +kernel
theorem dX8_add_4 : decode cX8_add 4 = .ok (.ifCond .ne 5, 3) := by decide +kernel
theorem dX8_add_7 : decode cX8_add 7 = .ok (.iconst (-1), 1) := by decide +kernel
theorem dX8_add_8 : decode cX8_add 8 = .ok (.ireturn, 1) := by decide +kernel
theorem dX8_add_9 : decode cX8_add 9 = .ok (.iload_n 1, 1) := by decide +kernel
theorem dX8_add_10 : decode cX8_add 10 = .ok (.iload_n 2, 1) := by decide +kernel
theorem dX8_add_11 : decode cX8_add 11 = .ok (.iload_n 3, 1) := by decide +kernel
theorem dX8_add_12 : decode cX8_add 12 = .ok (.iload 4, 2) := by decide +kernel
theorem dX8_add_14 : decode cX8_add 14 = .ok (.invokestatic 65, 3) := by decide +kernel
theorem dX8_add_17 : decode cX8_add 17 = .ok (.ifCond .ne 6, 3) := by decide +kernel
theorem dX8_add_20 : decode cX8_add 20 = .ok (.bipush (-2), 2) := by decide +kernel
theorem dX8_add_22 : decode cX8_add 22 = .ok (.ireturn, 1) := by decide +kernel
theorem dX8_add_23 : decode cX8_add 23 = .ok (.aload_n 0, 1) := by decide +kernel
theorem dX8_add_24 : decode cX8_add 24 = .ok (.getfield 10, 3) := by decide +kernel
theorem dX8_add_27 : decode cX8_add 27 = .ok (.getfield 69, 3) := by decide +kernel
theorem dX8_add_30 : decode cX8_add 30 = .ok (.astore 5, 2) := by decide +kernel
theorem dX8_add_32 : decode cX8_add 32 = .ok (.iload_n 2, 1) := by decide +kernel
theorem dX8_add_33 : decode cX8_add 33 = .ok (.iconst 4, 1) := by decide +kernel
theorem dX8_add_34 : decode cX8_add 34 = .ok (.if_icmp .ne 14, 3) := by decide +kernel
theorem dX8_add_37 : decode cX8_add 37 = .ok (.aload_n 0, 1) := by decide +kernel
theorem dX8_add_38 : decode cX8_add 38 = .ok (.getfield 40, 3) := by decide +kernel
theorem dX8_add_41 : decode cX8_add 41 = .ok (.iload_n 3, 1) := by decide +kernel
theorem dX8_add_42 : decode cX8_add 42 = .ok (.invokevirtual 73, 3) := by decide +kernel
theorem dX8_add_45 : decode cX8_add 45 = .ok (.goto 4, 3) := by decide +kernel
theorem dX8_add_48 : decode cX8_add 48 = .ok (.iconst 1, 1) := by decide +kernel
theorem dX8_add_49 : decode cX8_add 49 = .ok (.istore 6, 2) := by decide +kernel
theorem dX8_add_51 : decode cX8_add 51 = .ok (.aload 5, 2) := by decide +kernel
theorem dX8_add_53 : decode cX8_add 53 = .ok (.iload_n 1, 1) := by decide +kernel
theorem dX8_add_54 : decode cX8_add 54 = .ok (.invokevirtual 77, 3) := by decide +kernel
theorem dX8_add_57 : decode cX8_add 57 = .ok (.bipush 10, 2) := by decide +kernel
theorem dX8_add_59 : decode cX8_add 59 = .ok (.if_icmp .ge 18, 3) := by decide +kernel
theorem dX8_add_62 : decode cX8_add 62 = .ok (.aload_n 0, 1) := by decide +kernel
theorem dX8_add_63 : decode cX8_add 63 = .ok (.getfield 40, 3) := by decide +kernel
theorem dX8_add_66 : decode cX8_add 66 = .ok (.aload 5, 2) := by decide +kernel
theorem dX8_add_68 : decode cX8_add 68 = .ok (.iload_n 1, 1) := by decide +kernel
theorem dX8_add_69 : decode cX8_add 69 = .ok (.iload 6, 2) := by decide +kernel
theorem dX8_add_71 : decode cX8_add 71 = .ok (.invokevirtual 82, 3) := by decide +kernel
theorem dX8_add_74 : decode cX8_add 74 = .ok (.ifCond .ne 6, 3) := by decide +kernel
theorem dX8_add_77 : decode cX8_add 77 = .ok (.bipush (-3), 2) := by decide +kernel
theorem dX8_add_79 : decode cX8_add 79 = .ok (.ireturn, 1) := by decide +kernel
theorem dX8_add_80 : decode cX8_add 80 = .ok (.aload_n 0, 1) := by decide +kernel
theorem dX8_add_81 : decode cX8_add 81 = .ok (.getfield 26, 3) := by decide +kernel
theorem dX8_add_84 : decode cX8_add 84 = .ok (.aload_n 0, 1) := by decide +kernel
theorem dX8_add_85 : decode cX8_add 85 = .ok (.getfield 10, 3) := by decide +kernel
theorem dX8_add_88 : decode cX8_add 88 = .ok (.invokevirtual 86, 3) := by decide +kernel
theorem dX8_add_91 : decode cX8_add 91 = .ok (.aload 5, 2) := by decide +kernel
theorem dX8_add_93 : decode cX8_add 93 = .ok (.iload_n 1, 1) := by decide +kernel
theorem dX8_add_94 : decode cX8_add 94 = .ok (.iload_n 2, 1) := by decide +kernel
theorem dX8_add_95 : decode cX8_add 95 = .ok (.iload_n 3, 1) := by decide +kernel
theorem dX8_add_96 : decode cX8_add 96 = .ok (.iload 4, 2) := by decide +kernel
theorem dX8_add_98 : decode cX8_add 98 = .ok (.invokestatic 90, 3) := by decide +kernel
theorem dX8_add_101 : decode cX8_add 101 = .ok (.invokevirtual 94, 3) := by decide +kernel
theorem dX8_add_104 : decode cX8_add 104 = .ok (.aload_n 0, 1) := by decide +kernel
theorem dX8_add_105 : decode cX8_add 105 = .ok (.getfield 40, 3) := by decide +kernel
theorem dX8_add_108 : decode cX8_add 108 = .ok (.aload 5, 2) := by decide +kernel
theorem dX8_add_110 : decode cX8_add 110 = .ok (.invokevirtual 98, 3) := by decide +kernel
theorem dX8_add_113 : decode cX8_add 113 = .ok (.aload 5, 2) := by decide +kernel
theorem dX8_add_115 : decode cX8_add 115 = .ok (.iload_n 1, 1) := by decide +kernel
theorem dX8_add_116 : decode cX8_add 116 = .ok (.invokevirtual 77, 3) := by decide +kernel
theorem dX8_add_119 : decode cX8_add 119 = .ok (.ireturn, 1) := by decide +kernel
theorem dX8_drop_0 : decode cX8_drop 0 = .ok (.iload_n 1, 1) := by decide +kernel
theorem dX8_drop_1 : decode cX8_drop 1 = .ok (.invokestatic 61, 3) := by decide +kernel
theorem dX8_drop_4 : decode cX8_drop 4 = .ok (.ifCond .ne 5, 3) := by decide +kernel
theorem dX8_drop_7 : decode cX8_drop 7 = .ok (.iconst (-1), 1) := by decide +kernel
theorem dX8_drop_8 : decode cX8_drop 8 = .ok (.ireturn, 1) := by decide +kernel
theorem dX8_drop_9 : decode cX8_drop 9 = .ok (.aload_n 0, 1) := by decide +kernel
theorem dX8_drop_10 : decode cX8_drop 10 = .ok (.getfield 10, 3) := by decide +kernel
theorem dX8_drop_13 : decode cX8_drop 13 = .ok (.getfield 69, 3) := by decide +kernel
theorem dX8_drop_16 : decode cX8_drop 16 = .ok (.astore_n 2, 1) := by decide +kernel
theorem dX8_drop_17 : decode cX8_drop 17 = .ok (.aload_n 2, 1) := by decide +kernel
theorem dX8_drop_18 : decode cX8_drop 18 = .ok (.iload_n 1, 1) := by decide +kernel
theorem dX8_drop_19 : decode cX8_drop 19 = .ok (.invokevirtual 77, 3) := by decide +kernel
theorem dX8_drop_22 : decode cX8_drop 22 = .ok (.ifCond .ne 6, 3) := by decide +kernel
theorem dX8_drop_25 : decode cX8_drop 25 = .ok (.bipush (-4), 2) := by decide +kernel
theorem dX8_drop_27 : decode cX8_drop 27 = .ok (.ireturn, 1) := by decide +kernel
theorem dX8_drop_28 : decode cX8_drop 28 = .ok (.aload_n 0, 1) := by decide +kernel
theorem dX8_drop_29 : decode cX8_drop 29 = .ok (.getfield 26, 3) := by decide +kernel
theorem dX8_drop_32 : decode cX8_drop 32 = .ok (.aload_n 0, 1) := by decide +kernel
theorem dX8_drop_33 : decode cX8_drop 33 = .ok (.getfield 10, 3) := by decide +kernel
theorem dX8_drop_36 : decode cX8_drop 36 = .ok (.invokevirtual 86, 3) := by decide +kernel
theorem dX8_drop_39 : decode cX8_drop 39 = .ok (.aload_n 2, 1) := by decide +kernel
theorem dX8_drop_40 : decode cX8_drop 40 = .ok (.iload_n 1, 1) := by decide +kernel
theorem dX8_drop_41 : decode cX8_drop 41 = .ok (.invokevirtual 102, 3) := by decide +kernel
theorem dX8_drop_44 : decode cX8_drop 44 = .ok (.aload_n 0, 1) := by decide +kernel
theorem dX8_drop_45 : decode cX8_drop 45 = .ok (.getfield 40, 3) := by decide +kernel
theorem dX8_drop_48 : decode cX8_drop 48 = .ok (.aload_n 2, 1) := by decide +kernel
theorem dX8_drop_49 : decode cX8_drop 49 = .ok (.invokevirtual 98, 3) := by decide +kernel
theorem dX8_drop_52 : decode cX8_drop 52 = .ok (.aload_n 2, 1) := by decide +kernel
theorem dX8_drop_53 : decode cX8_drop 53 = .ok (.iload_n 1, 1) := by decide +kernel
theorem dX8_drop_54 : decode cX8_drop 54 = .ok (.invokevirtual 77, 3) := by decide +kernel
theorem dX8_drop_57 : decode cX8_drop 57 = .ok (.ireturn, 1) := by decide +kernel
theorem dX8_hold_0 : decode cX8_hold 0 = .ok (.iload_n 1, 1) := by decide +kernel
theorem dX8_hold_1 : decode cX8_hold 1 = .ok (.invokestatic 106, 3) := by decide +kernel
theorem dX8_hold_4 : decode cX8_hold 4 = .ok (.ifCond .eq 10, 3) := by decide +kernel
theorem dX8_hold_7 : decode cX8_hold 7 = .ok (.iload_n 2, 1) := by decide +kernel
theorem dX8_hold_8 : decode cX8_hold 8 = .ok (.invokestatic 106, 3) := by decide +kernel
theorem dX8_hold_11 : decode cX8_hold 11 = .ok (.ifCond .ne 5, 3) := by decide +kernel
theorem dX8_hold_14 : decode cX8_hold 14 = .ok (.iconst (-1), 1) := by decide +kernel
theorem dX8_hold_15 : decode cX8_hold 15 = .ok (.ireturn, 1) := by decide +kernel
theorem dX8_hold_16 : decode cX8_hold 16 = .ok (.iload_n 1, 1) := by decide +kernel
theorem dX8_hold_17 : decode cX8_hold 17 = .ok (.iload_n 2, 1) := by decide +kernel
theorem dX8_hold_18 : decode cX8_hold 18 = .ok (.if_icmp .ne 6, 3) := by decide +kernel
theorem dX8_hold_21 : decode cX8_hold 21 = .ok (.bipush (-2), 2) := by decide +kernel
theorem dX8_hold_23 : decode cX8_hold 23 = .ok (.ireturn, 1) := by decide +kernel
theorem dX8_hold_24 : decode cX8_hold 24 = .ok (.aload_n 0, 1) := by decide +kernel
theorem dX8_hold_25 : decode cX8_hold 25 = .ok (.getfield 10, 3) := by decide +kernel
theorem dX8_hold_28 : decode cX8_hold 28 = .ok (.getfield 109, 3) := by decide +kernel
theorem dX8_hold_31 : decode cX8_hold 31 = .ok (.astore_n 3, 1) := by decide +kernel
theorem dX8_hold_32 : decode cX8_hold 32 = .ok (.aload_n 3, 1) := by decide +kernel
theorem dX8_hold_33 : decode cX8_hold 33 = .ok (.iload_n 1, 1) := by decide +kernel
theorem dX8_hold_34 : decode cX8_hold 34 = .ok (.invokevirtual 113, 3) := by decide +kernel
theorem dX8_hold_37 : decode cX8_hold 37 = .ok (.bipush (-5), 2) := by decide +kernel
theorem dX8_hold_39 : decode cX8_hold 39 = .ok (.if_icmp .ne 41, 3) := by decide +kernel
theorem dX8_hold_42 : decode cX8_hold 42 = .ok (.aload_n 3, 1) := by decide +kernel
theorem dX8_hold_43 : decode cX8_hold 43 = .ok (.iload_n 2, 1) := by decide +kernel
theorem dX8_hold_44 : decode cX8_hold 44 = .ok (.invokevirtual 113, 3) := by decide +kernel
theorem dX8_hold_47 : decode cX8_hold 47 = .ok (.bipush (-5), 2) := by decide +kernel
theorem dX8_hold_49 : decode cX8_hold 49 = .ok (.if_icmp .ne 31, 3) := by decide +kernel
theorem dX8_hold_52 : decode cX8_hold 52 = .ok (.aload_n 0, 1) := by decide +kernel
theorem dX8_hold_53 : decode cX8_hold 53 = .ok (.getfield 10, 3) := by decide +kernel
theorem dX8_hold_56 : decode cX8_hold 56 = .ok (.getfield 118, 3) := by decide +kernel
theorem dX8_hold_59 : decode cX8_hold 59 = .ok (.iload_n 1, 1) := by decide +kernel
theorem dX8_hold_60 : decode cX8_hold 60 = .ok (.invokevirtual 121, 3) := by decide +kernel
theorem dX8_hold_63 : decode cX8_hold 63 = .ok (.aload_n 0, 1) := by decide +kernel
theorem dX8_hold_64 : decode cX8_hold 64 = .ok (.getfield 10, 3) := by decide +kernel
theorem dX8_hold_67 : decode cX8_hold 67 = .ok (.getfield 118, 3) := by decide +kernel
theorem dX8_hold_70 : decode cX8_hold 70 = .ok (.iload_n 2, 1) := by decide +kernel
theorem dX8_hold_71 : decode cX8_hold 71 = .ok (.invokevirtual 121, 3) := by decide +kernel
theorem dX8_hold_74 : decode cX8_hold 74 = .ok (.invokestatic 124, 3) := by decide +kernel
theorem dX8_hold_77 : decode cX8_hold 77 = .ok (.ifCond .ne 6, 3) := by decide +kernel
theorem dX8_hold_80 : decode cX8_hold 80 = .ok (.bipush (-4), 2) := by decide +kernel
theorem dX8_hold_82 : decode cX8_hold 82 = .ok (.ireturn, 1) := by decide +kernel
theorem dX8_hold_83 : decode cX8_hold 83 = .ok (.aload_n 0, 1) := by decide +kernel
theorem dX8_hold_84 : decode cX8_hold 84 = .ok (.getfield 26, 3) := by decide +kernel
theorem dX8_hold_87 : decode cX8_hold 87 = .ok (.aload_n 0, 1) := by decide +kernel
theorem dX8_hold_88 : decode cX8_hold 88 = .ok (.getfield 10, 3) := by decide +kernel
theorem dX8_hold_91 : decode cX8_hold 91 = .ok (.invokevirtual 86, 3) := by decide +kernel
theorem dX8_hold_94 : decode cX8_hold 94 = .ok (.aload_n 3, 1) := by decide +kernel
theorem dX8_hold_95 : decode cX8_hold 95 = .ok (.iload_n 1, 1) := by decide +kernel
theorem dX8_hold_96 : decode cX8_hold 96 = .ok (.iload_n 2, 1) := by decide +kernel
theorem dX8_hold_97 : decode cX8_hold 97 = .ok (.invokevirtual 128, 3) := by decide +kernel
theorem dX8_hold_100 : decode cX8_hold 100 = .ok (.aload_n 3, 1) := by decide +kernel
theorem dX8_hold_101 : decode cX8_hold 101 = .ok (.invokevirtual 131, 3) := by decide +kernel
theorem dX8_hold_104 : decode cX8_hold 104 = .ok (.ireturn, 1) := by decide +kernel
theorem dX8_release_0 : decode cX8_release 0 = .ok (.iload_n 1, 1) := by decide +kernel
theorem dX8_release_1 : decode cX8_release 1 = .ok (.invokestatic 106, 3) := by decide +kernel
theorem dX8_release_4 : decode cX8_release 4 = .ok (.ifCond .ne 5, 3) := by decide +kernel
theorem dX8_release_7 : decode cX8_release 7 = .ok (.iconst (-1), 1) := by decide +kernel
theorem dX8_release_8 : decode cX8_release 8 = .ok (.ireturn, 1) := by decide +kernel
theorem dX8_release_9 : decode cX8_release 9 = .ok (.aload_n 0, 1) := by decide +kernel
theorem dX8_release_10 : decode cX8_release 10 = .ok (.getfield 10, 3) := by decide +kernel
theorem dX8_release_13 : decode cX8_release 13 = .ok (.getfield 109, 3) := by decide +kernel
theorem dX8_release_16 : decode cX8_release 16 = .ok (.iload_n 1, 1) := by decide +kernel
theorem dX8_release_17 : decode cX8_release 17 = .ok (.invokevirtual 113, 3) := by decide +kernel
theorem dX8_release_20 : decode cX8_release 20 = .ok (.istore_n 2, 1) := by decide +kernel
theorem dX8_release_21 : decode cX8_release 21 = .ok (.iload_n 2, 1) := by decide +kernel
theorem dX8_release_22 : decode cX8_release 22 = .ok (.bipush (-5), 2) := by decide +kernel
theorem dX8_release_24 : decode cX8_release 24 = .ok (.if_icmp .ne 6, 3) := by decide +kernel
theorem dX8_release_27 : decode cX8_release 27 = .ok (.bipush (-4), 2) := by decide +kernel
theorem dX8_release_29 : decode cX8_release 29 = .ok (.ireturn, 1) := by decide +kernel
theorem dX8_release_30 : decode cX8_release 30 = .ok (.aload_n 0, 1) := by decide +kernel
theorem dX8_release_31 : decode cX8_release 31 = .ok (.getfield 26, 3) := by decide +kernel
theorem dX8_release_34 : decode cX8_release 34 = .ok (.aload_n 0, 1) := by decide +kernel
theorem dX8_release_35 : decode cX8_release 35 = .ok (.getfield 10, 3) := by decide +kernel
theorem dX8_release_38 : decode cX8_release 38 = .ok (.invokevirtual 86, 3) := by decide +kernel
theorem dX8_release_41 : decode cX8_release 41 = .ok (.aload_n 0, 1) := by decide +kernel
theorem dX8_release_42 : decode cX8_release 42 = .ok (.getfield 10, 3) := by decide +kernel
theorem dX8_release_45 : decode cX8_release 45 = .ok (.getfield 109, 3) := by decide +kernel
theorem dX8_release_48 : decode cX8_release 48 = .ok (.iload_n 1, 1) := by decide +kernel
theorem dX8_release_49 : decode cX8_release 49 = .ok (.iload_n 2, 1) := by decide +kernel
theorem dX8_release_50 : decode cX8_release 50 = .ok (.invokevirtual 135, 3) := by decide +kernel
theorem dX8_release_53 : decode cX8_release 53 = .ok (.iload_n 2, 1) := by decide +kernel
theorem dX8_release_54 : decode cX8_release 54 = .ok (.ireturn, 1) := by decide +kernel
theorem dX8_dance_0 : decode cX8_dance 0 = .ok (.iload_n 1, 1) := by decide +kernel
theorem dX8_dance_1 : decode cX8_dance 1 = .ok (.invokestatic 61, 3) := by decide +kernel
theorem dX8_dance_4 : decode cX8_dance 4 = .ok (.ifCond .ne 5, 3) := by decide +kernel
theorem dX8_dance_7 : decode cX8_dance 7 = .ok (.iconst (-1), 1) := by decide +kernel
theorem dX8_dance_8 : decode cX8_dance 8 = .ok (.ireturn, 1) := by decide +kernel
theorem dX8_dance_9 : decode cX8_dance 9 = .ok (.iload_n 2, 1) := by decide +kernel
theorem dX8_dance_10 : decode cX8_dance 10 = .ok (.iconst 1, 1) := by decide +kernel
theorem dX8_dance_11 : decode cX8_dance 11 = .ok (.if_icmp .lt 9, 3) := by decide +kernel
theorem dX8_dance_14 : decode cX8_dance 14 = .ok (.iload_n 2, 1) := by decide +kernel
theorem dX8_dance_15 : decode cX8_dance 15 = .ok (.bipush 9, 2) := by decide +kernel
theorem dX8_dance_17 : decode cX8_dance 17 = .ok (.if_icmp .le 6, 3) := by decide +kernel
theorem dX8_dance_20 : decode cX8_dance 20 = .ok (.bipush (-2), 2) := by decide +kernel
theorem dX8_dance_22 : decode cX8_dance 22 = .ok (.ireturn, 1) := by decide +kernel
theorem dX8_dance_23 : decode cX8_dance 23 = .ok (.aload_n 0, 1) := by decide +kernel
theorem dX8_dance_24 : decode cX8_dance 24 = .ok (.iload_n 1, 1) := by decide +kernel
theorem dX8_dance_25 : decode cX8_dance 25 = .ok (.iload_n 2, 1) := by decide +kernel
theorem dX8_dance_26 : decode cX8_dance 26 = .ok (.iload_n 3, 1) := by decide +kernel
theorem dX8_dance_27 : decode cX8_dance 27 = .ok (.invokevirtual 138, 3) := by decide +kernel
theorem dX8_dance_30 : decode cX8_dance 30 = .ok (.istore 4, 2) := by decide +kernel
theorem dX8_dance_32 : decode cX8_dance 32 = .ok (.iload 4, 2) := by decide +kernel
theorem dX8_dance_34 : decode cX8_dance 34 = .ok (.bipush (-5), 2) := by decide +kernel
theorem dX8_dance_36 : decode cX8_dance 36 = .ok (.if_icmp .eq 9, 3) := by decide +kernel
theorem dX8_dance_39 : decode cX8_dance 39 = .ok (.bipush (-100), 2) := by decide +kernel
theorem dX8_dance_41 : decode cX8_dance 41 = .ok (.iload 4, 2) := by decide +kernel
theorem dX8_dance_43 : decode cX8_dance 43 = .ok (.isub, 1) := by decide +kernel
theorem dX8_dance_44 : decode cX8_dance 44 = .ok (.ireturn, 1) := by decide +kernel
theorem dX8_dance_45 : decode cX8_dance 45 = .ok (.aload_n 0, 1) := by decide +kernel
theorem dX8_dance_46 : decode cX8_dance 46 = .ok (.getfield 26, 3) := by decide +kernel
theorem dX8_dance_49 : decode cX8_dance 49 = .ok (.aload_n 0, 1) := by decide +kernel
theorem dX8_dance_50 : decode cX8_dance 50 = .ok (.getfield 10, 3) := by decide +kernel
theorem dX8_dance_53 : decode cX8_dance 53 = .ok (.invokevirtual 86, 3) := by decide +kernel
theorem dX8_dance_56 : decode cX8_dance 56 = .ok (.aload_n 0, 1) := by decide +kernel
theorem dX8_dance_57 : decode cX8_dance 57 = .ok (.iload_n 1, 1) := by decide +kernel
theorem dX8_dance_58 : decode cX8_dance 58 = .ok (.iload_n 2, 1) := by decide +kernel
theorem dX8_dance_59 : decode cX8_dance 59 = .ok (.invokevirtual 142, 3) := by decide +kernel
theorem dX8_dance_62 : decode cX8_dance 62 = .ok (.ireturn, 1) := by decide +kernel
theorem dX8_goHome_0 : decode cX8_goHome 0 = .ok (.aload_n 0, 1) := by decide +kernel
theorem dX8_goHome_1 : decode cX8_goHome 1 = .ok (.getfield 26, 3) := by decide +kernel
theorem dX8_goHome_4 : decode cX8_goHome 4 = .ok (.aload_n 0, 1) := by decide +kernel
theorem dX8_goHome_5 : decode cX8_goHome 5 = .ok (.getfield 10, 3) := by decide +kernel
theorem dX8_goHome_8 : decode cX8_goHome 8 = .ok (.invokevirtual 86, 3) := by decide +kernel
theorem dX8_goHome_11 : decode cX8_goHome 11 = .ok (.bipush 10, 2) := by decide +kernel
theorem dX8_goHome_13 : decode cX8_goHome 13 = .ok (.aload_n 0, 1) := by decide +kernel
theorem dX8_goHome_14 : decode cX8_goHome 14 = .ok (.getfield 10, 3) := by decide +kernel
theorem dX8_goHome_17 : decode cX8_goHome 17 = .ok (.getfield 118, 3) := by decide +kernel
theorem dX8_goHome_20 : decode cX8_goHome 20 = .ok (.invokevirtual 146, 3) := by decide +kernel
theorem dX8_goHome_23 : decode cX8_goHome 23 = .ok (.isub, 1) := by decide +kernel
theorem dX8_goHome_24 : decode cX8_goHome 24 = .ok (.istore_n 1, 1) := by decide +kernel
theorem dX8_goHome_25 : decode cX8_goHome 25 = .ok (.aload_n 0, 1) := by decide +kernel
theorem dX8_goHome_26 : decode cX8_goHome 26 = .ok (.getfield 10, 3) := by decide +kernel
theorem dX8_goHome_29 : decode cX8_goHome 29 = .ok (.getfield 118, 3) := by decide +kernel
theorem dX8_goHome_32 : decode cX8_goHome 32 = .ok (.invokevirtual 149, 3) := by decide +kernel
theorem dX8_goHome_35 : decode cX8_goHome 35 = .ok (.aload_n 0, 1) := by decide +kernel
theorem dX8_goHome_36 : decode cX8_goHome 36 = .ok (.getfield 10, 3) := by decide +kernel
theorem dX8_goHome_39 : decode cX8_goHome 39 = .ok (.dup, 1) := by decide +kernel
theorem dX8_goHome_40 : decode cX8_goHome 40 = .ok (.getfield 152, 3) := by decide +kernel
theorem dX8_goHome_43 : decode cX8_goHome 43 = .ok (.aload_n 0, 1) := by decide +kernel
theorem dX8_goHome_44 : decode cX8_goHome 44 = .ok (.getfield 10, 3) := by decide +kernel
theorem dX8_goHome_47 : decode cX8_goHome 47 = .ok (.getfield 109, 3) := by decide +kernel
theorem dX8_goHome_50 : decode cX8_goHome 50 = .ok (.aload_n 0, 1) := by decide +kernel
theorem dX8_goHome_51 : decode cX8_goHome 51 = .ok (.getfield 10, 3) := by decide +kernel
theorem dX8_goHome_54 : decode cX8_goHome 54 = .ok (.getfield 118, 3) := by decide +kernel
theorem dX8_goHome_57 : decode cX8_goHome 57 = .ok (.invokevirtual 156, 3) := by decide +kernel
theorem dX8_goHome_60 : decode cX8_goHome 60 = .ok (.iadd, 1) := by decide +kernel
theorem dX8_goHome_61 : decode cX8_goHome 61 = .ok (.putfield 152, 3) := by decide +kernel
theorem dX8_goHome_64 : decode cX8_goHome 64 = .ok (.iload_n 1, 1) := by decide +kernel
theorem dX8_goHome_65 : decode cX8_goHome 65 = .ok (.ireturn, 1) := by decide +kernel
theorem dX8_dancer_0 : decode cX8_dancer 0 = .ok (.iload_n 1, 1) := by decide +kernel
theorem dX8_dancer_1 : decode cX8_dancer 1 = .ok (.invokestatic 106, 3) := by decide +kernel
theorem dX8_dancer_4 : decode cX8_dancer 4 = .ok (.ifCond .ne 5, 3) := by decide +kernel
theorem dX8_dancer_7 : decode cX8_dancer 7 = .ok (.iconst (-1), 1) := by decide +kernel
theorem dX8_dancer_8 : decode cX8_dancer 8 = .ok (.ireturn, 1) := by decide +kernel
theorem dX8_dancer_9 : decode cX8_dancer 9 = .ok (.aload_n 0, 1) := by decide +kernel
theorem dX8_dancer_10 : decode cX8_dancer 10 = .ok (.getfield 10, 3) := by decide +kernel
theorem dX8_dancer_13 : decode cX8_dancer 13 = .ok (.getfield 118, 3) := by decide +kernel
theorem dX8_dancer_16 : decode cX8_dancer 16 = .ok (.iload_n 1, 1) := by decide +kernel
theorem dX8_dancer_17 : decode cX8_dancer 17 = .ok (.invokevirtual 121, 3) := by decide +kernel
theorem dX8_dancer_20 : decode cX8_dancer 20 = .ok (.istore_n 3, 1) := by decide +kernel
theorem dX8_dancer_21 : decode cX8_dancer 21 = .ok (.iload_n 2, 1) := by decide +kernel
theorem dX8_dancer_22 : decode cX8_dancer 22 = .ok (.tableswitch 52 0 2 #[26, 28, 40], 26) := by decide +kernel
theorem dX8_dancer_48 : decode cX8_dancer 48 = .ok (.iload_n 3, 1) := by decide +kernel
theorem dX8_dancer_49 : decode cX8_dancer 49 = .ok (.ireturn, 1) := by decide +kernel
theorem dX8_dancer_50 : decode cX8_dancer 50 = .ok (.aload_n 0, 1) := by decide +kernel
theorem dX8_dancer_51 : decode cX8_dancer 51 = .ok (.getfield 10, 3) := by decide +kernel
theorem dX8_dancer_54 : decode cX8_dancer 54 = .ok (.getfield 118, 3) := by decide +kernel
theorem dX8_dancer_57 : decode cX8_dancer 57 = .ok (.iload_n 3, 1) := by decide +kernel
theorem dX8_dancer_58 : decode cX8_dancer 58 = .ok (.invokevirtual 183, 3) := by decide +kernel
theorem dX8_dancer_61 : decode cX8_dancer 61 = .ok (.ireturn, 1) := by decide +kernel
theorem dX8_dancer_62 : decode cX8_dancer 62 = .ok (.aload_n 0, 1) := by decide +kernel
theorem dX8_dancer_63 : decode cX8_dancer 63 = .ok (.getfield 10, 3) := by decide +kernel
theorem dX8_dancer_66 : decode cX8_dancer 66 = .ok (.getfield 109, 3) := by decide +kernel
theorem dX8_dancer_69 : decode cX8_dancer 69 = .ok (.iload_n 1, 1) := by decide +kernel
theorem dX8_dancer_70 : decode cX8_dancer 70 = .ok (.invokevirtual 113, 3) := by decide +kernel
theorem dX8_dancer_73 : decode cX8_dancer 73 = .ok (.ireturn, 1) := by decide +kernel
theorem dX8_dancer_74 : decode cX8_dancer 74 = .ok (.bipush (-2), 2) := by decide +kernel
theorem dX8_dancer_76 : decode cX8_dancer 76 = .ok (.ireturn, 1) := by decide +kernel
theorem dX8_at_0 : decode cX8_at 0 = .ok (.iload_n 1, 1) := by decide +kernel
theorem dX8_at_1 : decode cX8_at 1 = .ok (.invokestatic 106, 3) := by decide +kernel
theorem dX8_at_4 : decode cX8_at 4 = .ok (.ifCond .eq 17, 3) := by decide +kernel
theorem dX8_at_7 : decode cX8_at 7 = .ok (.aload_n 0, 1) := by decide +kernel
theorem dX8_at_8 : decode cX8_at 8 = .ok (.getfield 10, 3) := by decide +kernel
theorem dX8_at_11 : decode cX8_at 11 = .ok (.getfield 118, 3) := by decide +kernel
theorem dX8_at_14 : decode cX8_at 14 = .ok (.iload_n 1, 1) := by decide +kernel
theorem dX8_at_15 : decode cX8_at 15 = .ok (.invokevirtual 186, 3) := by decide +kernel
theorem dX8_at_18 : decode cX8_at 18 = .ok (.goto 4, 3) := by decide +kernel
theorem dX8_at_21 : decode cX8_at 21 = .ok (.iconst (-1), 1) := by decide +kernel
theorem dX8_at_22 : decode cX8_at 22 = .ok (.ireturn, 1) := by decide +kernel
theorem dX8_move_0 : decode cX8_move 0 = .ok (.iload_n 1, 1) := by decide +kernel
theorem dX8_move_1 : decode cX8_move 1 = .ok (.invokestatic 61, 3) := by decide +kernel
theorem dX8_move_4 : decode cX8_move 4 = .ok (.ifCond .eq 22, 3) := by decide +kernel
theorem dX8_move_7 : decode cX8_move 7 = .ok (.iload_n 2, 1) := by decide +kernel
theorem dX8_move_8 : decode cX8_move 8 = .ok (.ifCond .lt 18, 3) := by decide +kernel
theorem dX8_move_11 : decode cX8_move 11 = .ok (.iload_n 2, 1) := by decide +kernel
theorem dX8_move_12 : decode cX8_move 12 = .ok (.aload_n 0, 1) := by decide +kernel
theorem dX8_move_13 : decode cX8_move 13 = .ok (.getfield 10, 3) := by decide +kernel
theorem dX8_move_16 : decode cX8_move 16 = .ok (.getfield 69, 3) := by decide +kernel
theorem dX8_move_19 : decode cX8_move 19 = .ok (.iload_n 1, 1) := by decide +kernel
theorem dX8_move_20 : decode cX8_move 20 = .ok (.invokevirtual 77, 3) := by decide +kernel
theorem dX8_move_23 : decode cX8_move 23 = .ok (.if_icmp .lt 5, 3) := by decide +kernel
theorem dX8_move_26 : decode cX8_move 26 = .ok (.iconst (-1), 1) := by decide +kernel
theorem dX8_move_27 : decode cX8_move 27 = .ok (.ireturn, 1) := by decide +kernel
theorem dX8_move_28 : decode cX8_move 28 = .ok (.aload_n 0, 1) := by decide +kernel
theorem dX8_move_29 : decode cX8_move 29 = .ok (.getfield 10, 3) := by decide +kernel
theorem dX8_move_32 : decode cX8_move 32 = .ok (.getfield 69, 3) := by decide +kernel
theorem dX8_move_35 : decode cX8_move 35 = .ok (.iload_n 1, 1) := by decide +kernel
theorem dX8_move_36 : decode cX8_move 36 = .ok (.iload_n 2, 1) := by decide +kernel
theorem dX8_move_37 : decode cX8_move 37 = .ok (.invokevirtual 189, 3) := by decide +kernel
theorem dX8_move_40 : decode cX8_move 40 = .ok (.istore 4, 2) := by decide +kernel
theorem dX8_move_42 : decode cX8_move 42 = .ok (.iload_n 3, 1) := by decide +kernel
theorem dX8_move_43 : decode cX8_move 43 = .ok (.tableswitch 43 0 2 #[25, 31, 37], 25) := by decide +kernel
theorem dX8_move_68 : decode cX8_move 68 = .ok (.iload 4, 2) := by decide +kernel
theorem dX8_move_70 : decode cX8_move 70 = .ok (.invokestatic 192, 3) := by decide +kernel
theorem dX8_move_73 : decode cX8_move 73 = .ok (.ireturn, 1) := by decide +kernel
theorem dX8_move_74 : decode cX8_move 74 = .ok (.iload 4, 2) := by decide +kernel
theorem dX8_move_76 : decode cX8_move 76 = .ok (.invokestatic 195, 3) := by decide +kernel
theorem dX8_move_79 : decode cX8_move 79 = .ok (.ireturn, 1) := by decide +kernel
theorem dX8_move_80 : decode cX8_move 80 = .ok (.iload 4, 2) := by decide +kernel
theorem dX8_move_82 : decode cX8_move 82 = .ok (.invokestatic 198, 3) := by decide +kernel
theorem dX8_move_85 : decode cX8_move 85 = .ok (.ireturn, 1) := by decide +kernel
theorem dX8_move_86 : decode cX8_move 86 = .ok (.bipush (-2), 2) := by decide +kernel
theorem dX8_move_88 : decode cX8_move 88 = .ok (.ireturn, 1) := by decide +kernel
theorem dX8_figure_0 : decode cX8_figure 0 = .ok (.iload_n 1, 1) := by decide +kernel
theorem dX8_figure_1 : decode cX8_figure 1 = .ok (.invokestatic 61, 3) := by decide +kernel
theorem dX8_figure_4 : decode cX8_figure 4 = .ok (.ifCond .ne 5, 3) := by decide +kernel
theorem dX8_figure_7 : decode cX8_figure 7 = .ok (.iconst (-1), 1) := by decide +kernel
theorem dX8_figure_8 : decode cX8_figure 8 = .ok (.ireturn, 1) := by decide +kernel
theorem dX8_figure_9 : decode cX8_figure 9 = .ok (.aload_n 0, 1) := by decide +kernel
theorem dX8_figure_10 : decode cX8_figure 10 = .ok (.getfield 40, 3) := by decide +kernel
theorem dX8_figure_13 : decode cX8_figure 13 = .ok (.iload_n 1, 1) := by decide +kernel
theorem dX8_figure_14 : decode cX8_figure 14 = .ok (.invokevirtual 201, 3) := by decide +kernel
theorem dX8_figure_17 : decode cX8_figure 17 = .ok (.astore_n 3, 1) := by decide +kernel
theorem dX8_figure_18 : decode cX8_figure 18 = .ok (.iload_n 2, 1) := by decide +kernel
theorem dX8_figure_19 : decode cX8_figure 19 = .ok (.tableswitch 111 0 7 #[45, 57, 66, 72, 80, 88, 93, 102], 45) := by decide +kernel
theorem dX8_figure_64 : decode cX8_figure 64 = .ok (.aload_n 0, 1) := by decide +kernel
theorem dX8_figure_65 : decode cX8_figure 65 = .ok (.getfield 10, 3) := by decide +kernel
theorem dX8_figure_68 : decode cX8_figure 68 = .ok (.getfield 69, 3) := by decide +kernel
theorem dX8_figure_71 : decode cX8_figure 71 = .ok (.iload_n 1, 1) := by decide +kernel
theorem dX8_figure_72 : decode cX8_figure 72 = .ok (.invokevirtual 77, 3) := by decide +kernel
theorem dX8_figure_75 : decode cX8_figure 75 = .ok (.ireturn, 1) := by decide +kernel
theorem dX8_figure_76 : decode cX8_figure 76 = .ok (.aload_n 0, 1) := by decide +kernel
theorem dX8_figure_77 : decode cX8_figure 77 = .ok (.getfield 40, 3) := by decide +kernel
theorem dX8_figure_80 : decode cX8_figure 80 = .ok (.iload_n 1, 1) := by decide +kernel
theorem dX8_figure_81 : decode cX8_figure 81 = .ok (.invokevirtual 73, 3) := by decide +kernel
theorem dX8_figure_84 : decode cX8_figure 84 = .ok (.ireturn, 1) := by decide +kernel
theorem dX8_figure_85 : decode cX8_figure 85 = .ok (.aload_n 0, 1) := by decide +kernel
theorem dX8_figure_86 : decode cX8_figure 86 = .ok (.aload_n 3, 1) := by decide +kernel
theorem dX8_figure_87 : decode cX8_figure 87 = .ok (.invokevirtual 205, 3) := by decide +kernel
theorem dX8_figure_90 : decode cX8_figure 90 = .ok (.ireturn, 1) := by decide +kernel
theorem dX8_figure_91 : decode cX8_figure 91 = .ok (.bipush 10, 2) := by decide +kernel
theorem dX8_figure_93 : decode cX8_figure 93 = .ok (.aload_n 3, 1) := by decide +kernel
theorem dX8_figure_94 : decode cX8_figure 94 = .ok (.invokevirtual 208, 3) := by decide +kernel
theorem dX8_figure_97 : decode cX8_figure 97 = .ok (.isub, 1) := by decide +kernel
theorem dX8_figure_98 : decode cX8_figure 98 = .ok (.ireturn, 1) := by decide +kernel
theorem dX8_figure_99 : decode cX8_figure 99 = .ok (.bipush 10, 2) := by decide +kernel
theorem dX8_figure_101 : decode cX8_figure 101 = .ok (.aload_n 3, 1) := by decide +kernel
theorem dX8_figure_102 : decode cX8_figure 102 = .ok (.invokevirtual 211, 3) := by decide +kernel
theorem dX8_figure_105 : decode cX8_figure 105 = .ok (.isub, 1) := by decide +kernel
theorem dX8_figure_106 : decode cX8_figure 106 = .ok (.ireturn, 1) := by decide +kernel
theorem dX8_figure_107 : decode cX8_figure 107 = .ok (.aload_n 3, 1) := by decide +kernel
theorem dX8_figure_108 : decode cX8_figure 108 = .ok (.invokevirtual 214, 3) := by decide +kernel
theorem dX8_figure_111 : decode cX8_figure 111 = .ok (.ireturn, 1) := by decide +kernel
theorem dX8_figure_112 : decode cX8_figure 112 = .ok (.aload_n 0, 1) := by decide +kernel
theorem dX8_figure_113 : decode cX8_figure 113 = .ok (.getfield 40, 3) := by decide +kernel
theorem dX8_figure_116 : decode cX8_figure 116 = .ok (.iload_n 1, 1) := by decide +kernel
theorem dX8_figure_117 : decode cX8_figure 117 = .ok (.invokevirtual 217, 3) := by decide +kernel
theorem dX8_figure_120 : decode cX8_figure 120 = .ok (.ireturn, 1) := by decide +kernel
theorem dX8_figure_121 : decode cX8_figure 121 = .ok (.aload_n 0, 1) := by decide +kernel
theorem dX8_figure_122 : decode cX8_figure 122 = .ok (.getfield 40, 3) := by decide +kernel
theorem dX8_figure_125 : decode cX8_figure 125 = .ok (.iload_n 1, 1) := by decide +kernel
theorem dX8_figure_126 : decode cX8_figure 126 = .ok (.invokevirtual 220, 3) := by decide +kernel
theorem dX8_figure_129 : decode cX8_figure 129 = .ok (.ireturn, 1) := by decide +kernel
theorem dX8_figure_130 : decode cX8_figure 130 = .ok (.bipush (-2), 2) := by decide +kernel
theorem dX8_figure_132 : decode cX8_figure 132 = .ok (.ireturn, 1) := by decide +kernel
theorem dX8_effect_0 : decode cX8_effect 0 = .ok (.iload_n 1, 1) := by decide +kernel
theorem dX8_effect_1 : decode cX8_effect 1 = .ok (.invokestatic 61, 3) := by decide +kernel
theorem dX8_effect_4 : decode cX8_effect 4 = .ok (.ifCond .eq 10, 3) := by decide +kernel
theorem dX8_effect_7 : decode cX8_effect 7 = .ok (.iload_n 2, 1) := by decide +kernel
theorem dX8_effect_8 : decode cX8_effect 8 = .ok (.invokestatic 106, 3) := by decide +kernel
theorem dX8_effect_11 : decode cX8_effect 11 = .ok (.ifCond .ne 5, 3) := by decide +kernel
theorem dX8_effect_14 : decode cX8_effect 14 = .ok (.iconst (-1), 1) := by decide +kernel
theorem dX8_effect_15 : decode cX8_effect 15 = .ok (.ireturn, 1) := by decide +kernel
theorem dX8_effect_16 : decode cX8_effect 16 = .ok (.aload_n 0, 1) := by decide +kernel
theorem dX8_effect_17 : decode cX8_effect 17 = .ok (.getfield 40, 3) := by decide +kernel
theorem dX8_effect_20 : decode cX8_effect 20 = .ok (.iload_n 1, 1) := by decide +kernel
theorem dX8_effect_21 : decode cX8_effect 21 = .ok (.invokevirtual 201, 3) := by decide +kernel
theorem dX8_effect_24 : decode cX8_effect 24 = .ok (.astore 4, 2) := by decide +kernel
theorem dX8_effect_26 : decode cX8_effect 26 = .ok (.aload 4, 2) := by decide +kernel
theorem dX8_effect_28 : decode cX8_effect 28 = .ok (.iload_n 2, 1) := by decide +kernel
theorem dX8_effect_29 : decode cX8_effect 29 = .ok (.invokevirtual 121, 3) := by decide +kernel
theorem dX8_effect_32 : decode cX8_effect 32 = .ok (.istore 5, 2) := by decide +kernel
theorem dX8_effect_34 : decode cX8_effect 34 = .ok (.iload_n 3, 1) := by decide +kernel
theorem dX8_effect_35 : decode cX8_effect 35 = .ok (.ifCond .eq 13, 3) := by decide +kernel
theorem dX8_effect_38 : decode cX8_effect 38 = .ok (.aload 4, 2) := by decide +kernel
theorem dX8_effect_40 : decode cX8_effect 40 = .ok (.iload 5, 2) := by decide +kernel
theorem dX8_effect_42 : decode cX8_effect 42 = .ok (.invokevirtual 183, 3) := by decide +kernel
theorem dX8_effect_45 : decode cX8_effect 45 = .ok (.goto 5, 3) := by decide +kernel
theorem dX8_effect_48 : decode cX8_effect 48 = .ok (.iload 5, 2) := by decide +kernel
theorem dX8_effect_50 : decode cX8_effect 50 = .ok (.ireturn, 1) := by decide +kernel
theorem dX8_alike_0 : decode cX8_alike 0 = .ok (.iload_n 1, 1) := by decide +kernel
theorem dX8_alike_1 : decode cX8_alike 1 = .ok (.invokestatic 61, 3) := by decide +kernel
theorem dX8_alike_4 : decode cX8_alike 4 = .ok (.ifCond .eq 10, 3) := by decide +kernel
theorem dX8_alike_7 : decode cX8_alike 7 = .ok (.iload_n 2, 1) := by decide +kernel
theorem dX8_alike_8 : decode cX8_alike 8 = .ok (.invokestatic 61, 3) := by decide +kernel
theorem dX8_alike_11 : decode cX8_alike 11 = .ok (.ifCond .ne 5, 3) := by decide +kernel
theorem dX8_alike_14 : decode cX8_alike 14 = .ok (.iconst (-1), 1) := by decide +kernel
theorem dX8_alike_15 : decode cX8_alike 15 = .ok (.ireturn, 1) := by decide +kernel
theorem dX8_alike_16 : decode cX8_alike 16 = .ok (.aload_n 0, 1) := by decide +kernel
theorem dX8_alike_17 : decode cX8_alike 17 = .ok (.getfield 40, 3) := by decide +kernel
theorem dX8_alike_20 : decode cX8_alike 20 = .ok (.iload_n 1, 1) := by decide +kernel
theorem dX8_alike_21 : decode cX8_alike 21 = .ok (.invokevirtual 201, 3) := by decide +kernel
theorem dX8_alike_24 : decode cX8_alike 24 = .ok (.aload_n 0, 1) := by decide +kernel
theorem dX8_alike_25 : decode cX8_alike 25 = .ok (.getfield 40, 3) := by decide +kernel
theorem dX8_alike_28 : decode cX8_alike 28 = .ok (.iload_n 2, 1) := by decide +kernel
theorem dX8_alike_29 : decode cX8_alike 29 = .ok (.invokevirtual 201, 3) := by decide +kernel
theorem dX8_alike_32 : decode cX8_alike 32 = .ok (.invokevirtual 223, 3) := by decide +kernel
theorem dX8_alike_35 : decode cX8_alike 35 = .ok (.ifCond .eq 7, 3) := by decide +kernel
theorem dX8_alike_38 : decode cX8_alike 38 = .ok (.iconst 1, 1) := by decide +kernel
theorem dX8_alike_39 : decode cX8_alike 39 = .ok (.goto 4, 3) := by decide +kernel
theorem dX8_alike_42 : decode cX8_alike 42 = .ok (.iconst 0, 1) := by decide +kernel
theorem dX8_alike_43 : decode cX8_alike 43 = .ok (.ireturn, 1) := by decide +kernel
theorem dX8_commute_0 : decode cX8_commute 0 = .ok (.iload_n 1, 1) := by decide +kernel
theorem dX8_commute_1 : decode cX8_commute 1 = .ok (.invokestatic 61, 3) := by decide +kernel
theorem dX8_commute_4 : decode cX8_commute 4 = .ok (.ifCond .eq 10, 3) := by decide +kernel
theorem dX8_commute_7 : decode cX8_commute 7 = .ok (.iload_n 2, 1) := by decide +kernel
theorem dX8_commute_8 : decode cX8_commute 8 = .ok (.invokestatic 61, 3) := by decide +kernel
theorem dX8_commute_11 : decode cX8_commute 11 = .ok (.ifCond .ne 5, 3) := by decide +kernel
theorem dX8_commute_14 : decode cX8_commute 14 = .ok (.iconst (-1), 1) := by decide +kernel
theorem dX8_commute_15 : decode cX8_commute 15 = .ok (.ireturn, 1) := by decide +kernel
theorem dX8_commute_16 : decode cX8_commute 16 = .ok (.aload_n 0, 1) := by decide +kernel
theorem dX8_commute_17 : decode cX8_commute 17 = .ok (.getfield 54, 3) := by decide +kernel
theorem dX8_commute_20 : decode cX8_commute 20 = .ok (.aload_n 0, 1) := by decide +kernel
theorem dX8_commute_21 : decode cX8_commute 21 = .ok (.getfield 40, 3) := by decide +kernel
theorem dX8_commute_24 : decode cX8_commute 24 = .ok (.iload_n 1, 1) := by decide +kernel
theorem dX8_commute_25 : decode cX8_commute 25 = .ok (.invokevirtual 201, 3) := by decide +kernel
theorem dX8_commute_28 : decode cX8_commute 28 = .ok (.invokevirtual 227, 3) := by decide +kernel
theorem dX8_commute_31 : decode cX8_commute 31 = .ok (.aload_n 0, 1) := by decide +kernel
theorem dX8_commute_32 : decode cX8_commute 32 = .ok (.getfield 54, 3) := by decide +kernel
theorem dX8_commute_35 : decode cX8_commute 35 = .ok (.aload_n 0, 1) := by decide +kernel
theorem dX8_commute_36 : decode cX8_commute 36 = .ok (.getfield 40, 3) := by decide +kernel
theorem dX8_commute_39 : decode cX8_commute 39 = .ok (.iload_n 2, 1) := by decide +kernel
theorem dX8_commute_40 : decode cX8_commute 40 = .ok (.invokevirtual 201, 3) := by decide +kernel
theorem dX8_commute_43 : decode cX8_commute 43 = .ok (.invokevirtual 230, 3) := by decide +kernel
theorem dX8_commute_46 : decode cX8_commute 46 = .ok (.aload_n 0, 1) := by decide +kernel
theorem dX8_commute_47 : decode cX8_commute 47 = .ok (.getfield 58, 3) := by decide +kernel
theorem dX8_commute_50 : decode cX8_commute 50 = .ok (.aload_n 0, 1) := by decide +kernel
theorem dX8_commute_51 : decode cX8_commute 51 = .ok (.getfield 40, 3) := by decide +kernel
theorem dX8_commute_54 : decode cX8_commute 54 = .ok (.iload_n 2, 1) := by decide +kernel
theorem dX8_commute_55 : decode cX8_commute 55 = .ok (.invokevirtual 201, 3) := by decide +kernel
theorem dX8_commute_58 : decode cX8_commute 58 = .ok (.invokevirtual 227, 3) := by decide +kernel
theorem dX8_commute_61 : decode cX8_commute 61 = .ok (.aload_n 0, 1) := by decide +kernel
theorem dX8_commute_62 : decode cX8_commute 62 = .ok (.getfield 58, 3) := by decide +kernel
theorem dX8_commute_65 : decode cX8_commute 65 = .ok (.aload_n 0, 1) := by decide +kernel
theorem dX8_commute_66 : decode cX8_commute 66 = .ok (.getfield 40, 3) := by decide +kernel
theorem dX8_commute_69 : decode cX8_commute 69 = .ok (.iload_n 1, 1) := by decide +kernel
theorem dX8_commute_70 : decode cX8_commute 70 = .ok (.invokevirtual 201, 3) := by decide +kernel
theorem dX8_commute_73 : decode cX8_commute 73 = .ok (.invokevirtual 230, 3) := by decide +kernel
theorem dX8_commute_76 : decode cX8_commute 76 = .ok (.aload_n 0, 1) := by decide +kernel
theorem dX8_commute_77 : decode cX8_commute 77 = .ok (.getfield 54, 3) := by decide +kernel
theorem dX8_commute_80 : decode cX8_commute 80 = .ok (.aload_n 0, 1) := by decide +kernel
theorem dX8_commute_81 : decode cX8_commute 81 = .ok (.getfield 58, 3) := by decide +kernel
theorem dX8_commute_84 : decode cX8_commute 84 = .ok (.invokevirtual 223, 3) := by decide +kernel
theorem dX8_commute_87 : decode cX8_commute 87 = .ok (.ifCond .eq 7, 3) := by decide +kernel
theorem dX8_commute_90 : decode cX8_commute 90 = .ok (.iconst 1, 1) := by decide +kernel
theorem dX8_commute_91 : decode cX8_commute 91 = .ok (.goto 4, 3) := by decide +kernel
theorem dX8_commute_94 : decode cX8_commute 94 = .ok (.iconst 0, 1) := by decide +kernel
theorem dX8_commute_95 : decode cX8_commute 95 = .ok (.ireturn, 1) := by decide +kernel
theorem dX8_count_0 : decode cX8_count 0 = .ok (.iload_n 1, 1) := by decide +kernel
theorem dX8_count_1 : decode cX8_count 1 = .ok (.tableswitch 99 0 5 #[39, 50, 61, 72, 83, 91], 39) := by decide +kernel
theorem dX8_count_40 : decode cX8_count 40 = .ok (.aload_n 0, 1) := by decide +kernel
theorem dX8_count_41 : decode cX8_count 41 = .ok (.getfield 10, 3) := by decide +kernel
theorem dX8_count_44 : decode cX8_count 44 = .ok (.getfield 118, 3) := by decide +kernel
theorem dX8_count_47 : decode cX8_count 47 = .ok (.invokevirtual 146, 3) := by decide +kernel
theorem dX8_count_50 : decode cX8_count 50 = .ok (.ireturn, 1) := by decide +kernel
theorem dX8_count_51 : decode cX8_count 51 = .ok (.aload_n 0, 1) := by decide +kernel
theorem dX8_count_52 : decode cX8_count 52 = .ok (.getfield 10, 3) := by decide +kernel
theorem dX8_count_55 : decode cX8_count 55 = .ok (.getfield 118, 3) := by decide +kernel
theorem dX8_count_58 : decode cX8_count 58 = .ok (.invokevirtual 208, 3) := by decide +kernel
theorem dX8_count_61 : decode cX8_count 61 = .ok (.ireturn, 1) := by decide +kernel
theorem dX8_count_62 : decode cX8_count 62 = .ok (.aload_n 0, 1) := by decide +kernel
theorem dX8_count_63 : decode cX8_count 63 = .ok (.getfield 10, 3) := by decide +kernel
theorem dX8_count_66 : decode cX8_count 66 = .ok (.getfield 109, 3) := by decide +kernel
theorem dX8_count_69 : decode cX8_count 69 = .ok (.invokevirtual 131, 3) := by decide +kernel
theorem dX8_count_72 : decode cX8_count 72 = .ok (.ireturn, 1) := by decide +kernel
theorem dX8_count_73 : decode cX8_count 73 = .ok (.aload_n 0, 1) := by decide +kernel
theorem dX8_count_74 : decode cX8_count 74 = .ok (.getfield 10, 3) := by decide +kernel
theorem dX8_count_77 : decode cX8_count 77 = .ok (.getfield 69, 3) := by decide +kernel
theorem dX8_count_80 : decode cX8_count 80 = .ok (.invokevirtual 233, 3) := by decide +kernel
theorem dX8_count_83 : decode cX8_count 83 = .ok (.ireturn, 1) := by decide +kernel
theorem dX8_count_84 : decode cX8_count 84 = .ok (.aload_n 0, 1) := by decide +kernel
theorem dX8_count_85 : decode cX8_count 85 = .ok (.getfield 26, 3) := by decide +kernel
theorem dX8_count_88 : decode cX8_count 88 = .ok (.invokevirtual 178, 3) := by decide +kernel
theorem dX8_count_91 : decode cX8_count 91 = .ok (.ireturn, 1) := by decide +kernel
theorem dX8_count_92 : decode cX8_count 92 = .ok (.aload_n 0, 1) := by decide +kernel
theorem dX8_count_93 : decode cX8_count 93 = .ok (.getfield 33, 3) := by decide +kernel
theorem dX8_count_96 : decode cX8_count 96 = .ok (.invokevirtual 160, 3) := by decide +kernel
theorem dX8_count_99 : decode cX8_count 99 = .ok (.ireturn, 1) := by decide +kernel
theorem dX8_count_100 : decode cX8_count 100 = .ok (.bipush (-2), 2) := by decide +kernel
theorem dX8_count_102 : decode cX8_count 102 = .ok (.ireturn, 1) := by decide +kernel
theorem dX8_total_0 : decode cX8_total 0 = .ok (.iload_n 1, 1) := by decide +kernel
theorem dX8_total_1 : decode cX8_total 1 = .ok (.tableswitch 51 0 2 #[27, 35, 43], 27) := by decide +kernel
theorem dX8_total_28 : decode cX8_total 28 = .ok (.aload_n 0, 1) := by decide +kernel
theorem dX8_total_29 : decode cX8_total 29 = .ok (.getfield 10, 3) := by decide +kernel
theorem dX8_total_32 : decode cX8_total 32 = .ok (.getfield 236, 3) := by decide +kernel
theorem dX8_total_35 : decode cX8_total 35 = .ok (.ireturn, 1) := by decide +kernel
theorem dX8_total_36 : decode cX8_total 36 = .ok (.aload_n 0, 1) := by decide +kernel
theorem dX8_total_37 : decode cX8_total 37 = .ok (.getfield 10, 3) := by decide +kernel
theorem dX8_total_40 : decode cX8_total 40 = .ok (.getfield 239, 3) := by decide +kernel
theorem dX8_total_43 : decode cX8_total 43 = .ok (.ireturn, 1) := by decide +kernel
theorem dX8_total_44 : decode cX8_total 44 = .ok (.aload_n 0, 1) := by decide +kernel
theorem dX8_total_45 : decode cX8_total 45 = .ok (.getfield 10, 3) := by decide +kernel
theorem dX8_total_48 : decode cX8_total 48 = .ok (.getfield 152, 3) := by decide +kernel
theorem dX8_total_51 : decode cX8_total 51 = .ok (.ireturn, 1) := by decide +kernel
theorem dX8_total_52 : decode cX8_total 52 = .ok (.bipush (-2), 2) := by decide +kernel
theorem dX8_total_54 : decode cX8_total 54 = .ok (.ireturn, 1) := by decide +kernel
theorem dX8_blockedAt_0 : decode cX8_blockedAt 0 = .ok (.iload_n 1, 1) := by decide +kernel
theorem dX8_blockedAt_1 : decode cX8_blockedAt 1 = .ok (.invokestatic 61, 3) := by decide +kernel
theorem dX8_blockedAt_4 : decode cX8_blockedAt 4 = .ok (.ifCond .eq 13, 3) := by decide +kernel
theorem dX8_blockedAt_7 : decode cX8_blockedAt 7 = .ok (.aload_n 0, 1) := by decide +kernel
theorem dX8_blockedAt_8 : decode cX8_blockedAt 8 = .ok (.iload_n 1, 1) := by decide +kernel
theorem dX8_blockedAt_9 : decode cX8_blockedAt 9 = .ok (.iconst 1, 1) := by decide +kernel
theorem dX8_blockedAt_10 : decode cX8_blockedAt 10 = .ok (.iload_n 2, 1) := by decide +kernel
theorem dX8_blockedAt_11 : decode cX8_blockedAt 11 = .ok (.invokevirtual 138, 3) := by decide +kernel
theorem dX8_blockedAt_14 : decode cX8_blockedAt 14 = .ok (.goto 4, 3) := by decide +kernel
theorem dX8_blockedAt_17 : decode cX8_blockedAt 17 = .ok (.iconst (-1), 1) := by decide +kernel
theorem dX8_blockedAt_18 : decode cX8_blockedAt 18 = .ok (.ireturn, 1) := by decide +kernel
theorem dX8_homeIn_0 : decode cX8_homeIn 0 = .ok (.iload_n 1, 1) := by decide +kernel
theorem dX8_homeIn_1 : decode cX8_homeIn 1 = .ok (.invokestatic 61, 3) := by decide +kernel
theorem dX8_homeIn_4 : decode cX8_homeIn 4 = .ok (.ifCond .ne 5, 3) := by decide +kernel
theorem dX8_homeIn_7 : decode cX8_homeIn 7 = .ok (.iconst (-1), 1) := by decide +kernel
theorem dX8_homeIn_8 : decode cX8_homeIn 8 = .ok (.ireturn, 1) := by decide +kernel
theorem dX8_homeIn_9 : decode cX8_homeIn 9 = .ok (.aload_n 0, 1) := by decide +kernel
theorem dX8_homeIn_10 : decode cX8_homeIn 10 = .ok (.getfield 54, 3) := by decide +kernel
theorem dX8_homeIn_13 : decode cX8_homeIn 13 = .ok (.aload_n 0, 1) := by decide +kernel
theorem dX8_homeIn_14 : decode cX8_homeIn 14 = .ok (.getfield 10, 3) := by decide +kernel
theorem dX8_homeIn_17 : decode cX8_homeIn 17 = .ok (.getfield 118, 3) := by decide +kernel
theorem dX8_homeIn_20 : decode cX8_homeIn 20 = .ok (.invokevirtual 227, 3) := by decide +kernel
theorem dX8_homeIn_23 : decode cX8_homeIn 23 = .ok (.aload_n 0, 1) := by decide +kernel
theorem dX8_homeIn_24 : decode cX8_homeIn 24 = .ok (.getfield 54, 3) := by decide +kernel
theorem dX8_homeIn_27 : decode cX8_homeIn 27 = .ok (.aload_n 0, 1) := by decide +kernel
theorem dX8_homeIn_28 : decode cX8_homeIn 28 = .ok (.getfield 40, 3) := by decide +kernel
theorem dX8_homeIn_31 : decode cX8_homeIn 31 = .ok (.iload_n 1, 1) := by decide +kernel
theorem dX8_homeIn_32 : decode cX8_homeIn 32 = .ok (.invokevirtual 201, 3) := by decide +kernel
theorem dX8_homeIn_35 : decode cX8_homeIn 35 = .ok (.invokestatic 242, 3) := by decide +kernel
theorem dX8_homeIn_38 : decode cX8_homeIn 38 = .ok (.ireturn, 1) := by decide +kernel
theorem dX8_wayHome_0 : decode cX8_wayHome 0 = .ok (.iload_n 1, 1) := by decide +kernel
theorem dX8_wayHome_1 : decode cX8_wayHome 1 = .ok (.ifCond .lt 8, 3) := by decide +kernel
theorem dX8_wayHome_4 : decode cX8_wayHome 4 = .ok (.iload_n 1, 1) := by decide +kernel
theorem dX8_wayHome_5 : decode cX8_wayHome 5 = .ok (.iconst 4, 1) := by decide +kernel
theorem dX8_wayHome_6 : decode cX8_wayHome 6 = .ok (.if_icmp .le 6, 3) := by decide +kernel
theorem dX8_wayHome_9 : decode cX8_wayHome 9 = .ok (.bipush (-2), 2) := by decide +kernel
theorem dX8_wayHome_11 : decode cX8_wayHome 11 = .ok (.ireturn, 1) := by decide +kernel
theorem dX8_wayHome_12 : decode cX8_wayHome 12 = .ok (.aload_n 0, 1) := by decide +kernel
theorem dX8_wayHome_13 : decode cX8_wayHome 13 = .ok (.getfield 47, 3) := by decide +kernel
theorem dX8_wayHome_16 : decode cX8_wayHome 16 = .ok (.aload_n 0, 1) := by decide +kernel
theorem dX8_wayHome_17 : decode cX8_wayHome 17 = .ok (.getfield 10, 3) := by decide +kernel
theorem dX8_wayHome_20 : decode cX8_wayHome 20 = .ok (.getfield 118, 3) := by decide +kernel
theorem dX8_wayHome_23 : decode cX8_wayHome 23 = .ok (.aload_n 0, 1) := by decide +kernel
theorem dX8_wayHome_24 : decode cX8_wayHome 24 = .ok (.getfield 40, 3) := by decide +kernel
theorem dX8_wayHome_27 : decode cX8_wayHome 27 = .ok (.invokevirtual 246, 3) := by decide +kernel
theorem dX8_wayHome_30 : decode cX8_wayHome 30 = .ok (.istore_n 2, 1) := by decide +kernel
theorem dX8_wayHome_31 : decode cX8_wayHome 31 = .ok (.iload_n 1, 1) := by decide +kernel
theorem dX8_wayHome_32 : decode cX8_wayHome 32 = .ok (.ifCond .eq 9, 3) := by decide +kernel
theorem dX8_wayHome_35 : decode cX8_wayHome 35 = .ok (.iload_n 2, 1) := by decide +kernel
theorem dX8_wayHome_36 : decode cX8_wayHome 36 = .ok (.bipush (-5), 2) := by decide +kernel
theorem dX8_wayHome_38 : decode cX8_wayHome 38 = .ok (.if_icmp .ne 5, 3) := by decide +kernel
theorem dX8_wayHome_41 : decode cX8_wayHome 41 = .ok (.iload_n 2, 1) := by decide +kernel
theorem dX8_wayHome_42 : decode cX8_wayHome 42 = .ok (.ireturn, 1) := by decide +kernel
theorem dX8_wayHome_43 : decode cX8_wayHome 43 = .ok (.iload_n 1, 1) := by decide +kernel
theorem dX8_wayHome_44 : decode cX8_wayHome 44 = .ok (.iload_n 2, 1) := by decide +kernel
theorem dX8_wayHome_45 : decode cX8_wayHome 45 = .ok (.if_icmp .gt 16, 3) := by decide +kernel
theorem dX8_wayHome_48 : decode cX8_wayHome 48 = .ok (.aload_n 0, 1) := by decide +kernel
theorem dX8_wayHome_49 : decode cX8_wayHome 49 = .ok (.getfield 47, 3) := by decide +kernel
theorem dX8_wayHome_52 : decode cX8_wayHome 52 = .ok (.iload_n 1, 1) := by decide +kernel
theorem dX8_wayHome_53 : decode cX8_wayHome 53 = .ok (.iconst 1, 1) := by decide +kernel
theorem dX8_wayHome_54 : decode cX8_wayHome 54 = .ok (.isub, 1) := by decide +kernel
theorem dX8_wayHome_55 : decode cX8_wayHome 55 = .ok (.invokevirtual 250, 3) := by decide +kernel
theorem dX8_wayHome_58 : decode cX8_wayHome 58 = .ok (.goto 5, 3) := by decide +kernel
theorem dX8_wayHome_61 : decode cX8_wayHome 61 = .ok (.bipush (-5), 2) := by decide +kernel
theorem dX8_wayHome_63 : decode cX8_wayHome 63 = .ok (.ireturn, 1) := by decide +kernel
theorem dX8_distance_0 : decode cX8_distance 0 = .ok (.aload_n 0, 1) := by decide +kernel
theorem dX8_distance_1 : decode cX8_distance 1 = .ok (.getfield 10, 3) := by decide +kernel
theorem dX8_distance_4 : decode cX8_distance 4 = .ok (.getfield 118, 3) := by decide +kernel
theorem dX8_distance_7 : decode cX8_distance 7 = .ok (.invokevirtual 253, 3) := by decide +kernel
theorem dX8_distance_10 : decode cX8_distance 10 = .ok (.i2d, 1) := by decide +kernel
theorem dX8_distance_11 : decode cX8_distance 11 = .ok (.ldc2_w 256, 3) := by decide +kernel
theorem dX8_distance_14 : decode cX8_distance 14 = .ok (.ddiv, 1) := by decide +kernel
theorem dX8_distance_15 : decode cX8_distance 15 = .ok (.dreturn, 1) := by decide +kernel
theorem dX8_tryOut_0 : decode cX8_tryOut 0 = .ok (.aload_n 0, 1) := by decide +kernel
theorem dX8_tryOut_1 : decode cX8_tryOut 1 = .ok (.getfield 54, 3) := by decide +kernel
theorem dX8_tryOut_4 : decode cX8_tryOut 4 = .ok (.aload_n 0, 1) := by decide +kernel
theorem dX8_tryOut_5 : decode cX8_tryOut 5 = .ok (.getfield 10, 3) := by decide +kernel
theorem dX8_tryOut_8 : decode cX8_tryOut 8 = .ok (.getfield 118, 3) := by decide +kernel
theorem dX8_tryOut_11 : decode cX8_tryOut 11 = .ok (.invokevirtual 227, 3) := by decide +kernel
theorem dX8_tryOut_14 : decode cX8_tryOut 14 = .ok (.aload_n 0, 1) := by decide +kernel
theorem dX8_tryOut_15 : decode cX8_tryOut 15 = .ok (.getfield 40, 3) := by decide +kernel
theorem dX8_tryOut_18 : decode cX8_tryOut 18 = .ok (.iload_n 1, 1) := by decide +kernel
theorem dX8_tryOut_19 : decode cX8_tryOut 19 = .ok (.invokevirtual 73, 3) := by decide +kernel
theorem dX8_tryOut_22 : decode cX8_tryOut 22 = .ok (.istore 4, 2) := by decide +kernel
theorem dX8_tryOut_24 : decode cX8_tryOut 24 = .ok (.iconst 0, 1) := by decide +kernel
theorem dX8_tryOut_25 : decode cX8_tryOut 25 = .ok (.istore 5, 2) := by decide +kernel
theorem dX8_tryOut_27 : decode cX8_tryOut 27 = .ok (.iconst 0, 1) := by decide +kernel
theorem dX8_tryOut_28 : decode cX8_tryOut 28 = .ok (.istore 6, 2) := by decide +kernel
theorem dX8_tryOut_30 : decode cX8_tryOut 30 = .ok (.iload 6, 2) := by decide +kernel
theorem dX8_tryOut_32 : decode cX8_tryOut 32 = .ok (.iload_n 2, 1) := by decide +kernel
theorem dX8_tryOut_33 : decode cX8_tryOut 33 = .ok (.if_icmp .ge 66, 3) := by decide +kernel
theorem dX8_tryOut_36 : decode cX8_tryOut 36 = .ok (.iconst 0, 1) := by decide +kernel
theorem dX8_tryOut_37 : decode cX8_tryOut 37 = .ok (.istore 7, 2) := by decide +kernel
theorem dX8_tryOut_39 : decode cX8_tryOut 39 = .ok (.iload 7, 2) := by decide +kernel
theorem dX8_tryOut_41 : decode cX8_tryOut 41 = .ok (.iload 4, 2) := by decide +kernel
theorem dX8_tryOut_43 : decode cX8_tryOut 43 = .ok (.if_icmp .ge 50, 3) := by decide +kernel
theorem dX8_tryOut_46 : decode cX8_tryOut 46 = .ok (.aload_n 0, 1) := by decide +kernel
theorem dX8_tryOut_47 : decode cX8_tryOut 47 = .ok (.getfield 54, 3) := by decide +kernel
theorem dX8_tryOut_50 : decode cX8_tryOut 50 = .ok (.aload_n 0, 1) := by decide +kernel
theorem dX8_tryOut_51 : decode cX8_tryOut 51 = .ok (.getfield 40, 3) := by decide +kernel
theorem dX8_tryOut_54 : decode cX8_tryOut 54 = .ok (.iload_n 1, 1) := by decide +kernel
theorem dX8_tryOut_55 : decode cX8_tryOut 55 = .ok (.iload 7, 2) := by decide +kernel
theorem dX8_tryOut_57 : decode cX8_tryOut 57 = .ok (.iload_n 3, 1) := by decide +kernel
theorem dX8_tryOut_58 : decode cX8_tryOut 58 = .ok (.invokevirtual 258, 3) := by decide +kernel
theorem dX8_tryOut_61 : decode cX8_tryOut 61 = .ok (.invokevirtual 261, 3) := by decide +kernel
theorem dX8_tryOut_64 : decode cX8_tryOut 64 = .ok (.aload_n 0, 1) := by decide +kernel
theorem dX8_tryOut_65 : decode cX8_tryOut 65 = .ok (.getfield 10, 3) := by decide +kernel
theorem dX8_tryOut_68 : decode cX8_tryOut 68 = .ok (.getfield 109, 3) := by decide +kernel
theorem dX8_tryOut_71 : decode cX8_tryOut 71 = .ok (.aload_n 0, 1) := by decide +kernel
theorem dX8_tryOut_72 : decode cX8_tryOut 72 = .ok (.getfield 54, 3) := by decide +kernel
theorem dX8_tryOut_75 : decode cX8_tryOut 75 = .ok (.invokevirtual 264, 3) := by decide +kernel
theorem dX8_tryOut_78 : decode cX8_tryOut 78 = .ok (.ifCond .ne 6, 3) := by decide +kernel
theorem dX8_tryOut_81 : decode cX8_tryOut 81 = .ok (.iload 5, 2) := by decide +kernel
theorem dX8_tryOut_83 : decode cX8_tryOut 83 = .ok (.ireturn, 1) := by decide +kernel
theorem dX8_tryOut_84 : decode cX8_tryOut 84 = .ok (.iinc 5 1, 3) := by decide +kernel
theorem dX8_tryOut_87 : decode cX8_tryOut 87 = .ok (.iinc 7 1, 3) := by decide +kernel
theorem dX8_tryOut_90 : decode cX8_tryOut 90 = .ok (.goto (-51), 3) := by decide +kernel
theorem dX8_tryOut_93 : decode cX8_tryOut 93 = .ok (.iinc 6 1, 3) := by decide +kernel
theorem dX8_tryOut_96 : decode cX8_tryOut 96 = .ok (.goto (-66), 3) := by decide +kernel
theorem dX8_tryOut_99 : decode cX8_tryOut 99 = .ok (.bipush (-5), 2) := by decide +kernel
theorem dX8_tryOut_101 : decode cX8_tryOut 101 = .ok (.ireturn, 1) := by decide +kernel
theorem dX8_carryOut_0 : decode cX8_carryOut 0 = .ok (.aload_n 0, 1) := by decide +kernel
theorem dX8_carryOut_1 : decode cX8_carryOut 1 = .ok (.getfield 40, 3) := by decide +kernel
theorem dX8_carryOut_4 : decode cX8_carryOut 4 = .ok (.iload_n 1, 1) := by decide +kernel
theorem dX8_carryOut_5 : decode cX8_carryOut 5 = .ok (.invokevirtual 73, 3) := by decide +kernel
theorem dX8_carryOut_8 : decode cX8_carryOut 8 = .ok (.iload_n 2, 1) := by decide +kernel
theorem dX8_carryOut_9 : decode cX8_carryOut 9 = .ok (.imul, 1) := by decide +kernel
theorem dX8_carryOut_10 : decode cX8_carryOut 10 = .ok (.istore_n 3, 1) := by decide +kernel
theorem dX8_carryOut_11 : decode cX8_carryOut 11 = .ok (.aload_n 0, 1) := by decide +kernel
theorem dX8_carryOut_12 : decode cX8_carryOut 12 = .ok (.getfield 10, 3) := by decide +kernel
theorem dX8_carryOut_15 : decode cX8_carryOut 15 = .ok (.getfield 118, 3) := by decide +kernel
theorem dX8_carryOut_18 : decode cX8_carryOut 18 = .ok (.aload_n 0, 1) := by decide +kernel
theorem dX8_carryOut_19 : decode cX8_carryOut 19 = .ok (.getfield 54, 3) := by decide +kernel
theorem dX8_carryOut_22 : decode cX8_carryOut 22 = .ok (.invokevirtual 227, 3) := by decide +kernel
theorem dX8_carryOut_25 : decode cX8_carryOut 25 = .ok (.aload_n 0, 1) := by decide +kernel
theorem dX8_carryOut_26 : decode cX8_carryOut 26 = .ok (.getfield 10, 3) := by decide +kernel
theorem dX8_carryOut_29 : decode cX8_carryOut 29 = .ok (.dup, 1) := by decide +kernel
theorem dX8_carryOut_30 : decode cX8_carryOut 30 = .ok (.getfield 236, 3) := by decide +kernel
theorem dX8_carryOut_33 : decode cX8_carryOut 33 = .ok (.iconst 1, 1) := by decide +kernel
theorem dX8_carryOut_34 : decode cX8_carryOut 34 = .ok (.iadd, 1) := by decide +kernel
theorem dX8_carryOut_35 : decode cX8_carryOut 35 = .ok (.putfield 236, 3) := by decide +kernel
theorem dX8_carryOut_38 : decode cX8_carryOut 38 = .ok (.aload_n 0, 1) := by decide +kernel
theorem dX8_carryOut_39 : decode cX8_carryOut 39 = .ok (.getfield 10, 3) := by decide +kernel
theorem dX8_carryOut_42 : decode cX8_carryOut 42 = .ok (.dup, 1) := by decide +kernel
theorem dX8_carryOut_43 : decode cX8_carryOut 43 = .ok (.getfield 239, 3) := by decide +kernel
theorem dX8_carryOut_46 : decode cX8_carryOut 46 = .ok (.iload_n 3, 1) := by decide +kernel
theorem dX8_carryOut_47 : decode cX8_carryOut 47 = .ok (.iadd, 1) := by decide +kernel
theorem dX8_carryOut_48 : decode cX8_carryOut 48 = .ok (.putfield 239, 3) := by decide +kernel
theorem dX8_carryOut_51 : decode cX8_carryOut 51 = .ok (.iload_n 3, 1) := by decide +kernel
theorem dX8_carryOut_52 : decode cX8_carryOut 52 = .ok (.ireturn, 1) := by decide +kernel
theorem dX8_orderOf_0 : decode cX8_orderOf 0 = .ok (.aload_n 0, 1) := by decide +kernel
theorem dX8_orderOf_1 : decode cX8_orderOf 1 = .ok (.getfield 54, 3) := by decide +kernel
theorem dX8_orderOf_4 : decode cX8_orderOf 4 = .ok (.aload_n 1, 1) := by decide +kernel
theorem dX8_orderOf_5 : decode cX8_orderOf 5 = .ok (.invokevirtual 227, 3) := by decide +kernel
theorem dX8_orderOf_8 : decode cX8_orderOf 8 = .ok (.iconst 1, 1) := by decide +kernel
theorem dX8_orderOf_9 : decode cX8_orderOf 9 = .ok (.aload_n 0, 1) := by decide +kernel
theorem dX8_orderOf_10 : decode cX8_orderOf 10 = .ok (.getfield 54, 3) := by decide +kernel
theorem dX8_orderOf_13 : decode cX8_orderOf 13 = .ok (.aload_n 1, 1) := by decide +kernel
theorem dX8_orderOf_14 : decode cX8_orderOf 14 = .ok (.invokestatic 242, 3) := by decide +kernel
theorem dX8_orderOf_17 : decode cX8_orderOf 17 = .ok (.iadd, 1) := by decide +kernel
theorem dX8_orderOf_18 : decode cX8_orderOf 18 = .ok (.ireturn, 1) := by decide +kernel
theorem dX8_timesUntilHome_0 : decode cX8_timesUntilHome 0 = .ok (.iconst 0, 1) := by decide +kernel
theorem dX8_timesUntilHome_1 : decode cX8_timesUntilHome 1 = .ok (.istore_n 2, 1) := by decide +kernel
theorem dX8_timesUntilHome_2 : decode cX8_timesUntilHome 2 = .ok (.iload_n 2, 1) := by decide +kernel
theorem dX8_timesUntilHome_3 : decode cX8_timesUntilHome 3 = .ok (.bipush 120, 2) := by decide +kernel
theorem dX8_timesUntilHome_5 : decode cX8_timesUntilHome 5 = .ok (.if_icmp .ge 23, 3) := by decide +kernel
theorem dX8_timesUntilHome_8 : decode cX8_timesUntilHome 8 = .ok (.aload_n 0, 1) := by decide +kernel
theorem dX8_timesUntilHome_9 : decode cX8_timesUntilHome 9 = .ok (.invokevirtual 273, 3) := by decide +kernel
theorem dX8_timesUntilHome_12 : decode cX8_timesUntilHome 12 = .ok (.ifCond .eq 5, 3) := by decide +kernel
theorem dX8_timesUntilHome_15 : decode cX8_timesUntilHome 15 = .ok (.iload_n 2, 1) := by decide +kernel
theorem dX8_timesUntilHome_16 : decode cX8_timesUntilHome 16 = .ok (.ireturn, 1) := by decide +kernel
theorem dX8_timesUntilHome_17 : decode cX8_timesUntilHome 17 = .ok (.aload_n 0, 1) := by decide +kernel
theorem dX8_timesUntilHome_18 : decode cX8_timesUntilHome 18 = .ok (.aload_n 1, 1) := by decide +kernel
theorem dX8_timesUntilHome_19 : decode cX8_timesUntilHome 19 = .ok (.invokevirtual 230, 3) := by decide +kernel
theorem dX8_timesUntilHome_22 : decode cX8_timesUntilHome 22 = .ok (.iinc 2 1, 3) := by decide +kernel
theorem dX8_timesUntilHome_25 : decode cX8_timesUntilHome 25 = .ok (.goto (-23), 3) := by decide +kernel
theorem dX8_timesUntilHome_28 : decode cX8_timesUntilHome 28 = .ok (.bipush (-5), 2) := by decide +kernel
theorem dX8_timesUntilHome_30 : decode cX8_timesUntilHome 30 = .ok (.ireturn, 1) := by decide +kernel
theorem dX8_isFigure_0 : decode cX8_isFigure 0 = .ok (.iload_n 0, 1) := by decide +kernel
theorem dX8_isFigure_1 : decode cX8_isFigure 1 = .ok (.ifCond .lt 13, 3) := by decide +kernel
theorem dX8_isFigure_4 : decode cX8_isFigure 4 = .ok (.iload_n 0, 1) := by decide +kernel
theorem dX8_isFigure_5 : decode cX8_isFigure 5 = .ok (.bipush 8, 2) := by decide +kernel
theorem dX8_isFigure_7 : decode cX8_isFigure 7 = .ok (.if_icmp .ge 7, 3) := by decide +kernel
theorem dX8_isFigure_10 : decode cX8_isFigure 10 = .ok (.iconst 1, 1) := by decide +kernel
theorem dX8_isFigure_11 : decode cX8_isFigure 11 = .ok (.goto 4, 3) := by decide +kernel
theorem dX8_isFigure_14 : decode cX8_isFigure 14 = .ok (.iconst 0, 1) := by decide +kernel
theorem dX8_isFigure_15 : decode cX8_isFigure 15 = .ok (.ireturn, 1) := by decide +kernel
theorem dX8_isPlace_0 : decode cX8_isPlace 0 = .ok (.iload_n 0, 1) := by decide +kernel
theorem dX8_isPlace_1 : decode cX8_isPlace 1 = .ok (.ifCond .lt 13, 3) := by decide +kernel
theorem dX8_isPlace_4 : decode cX8_isPlace 4 = .ok (.iload_n 0, 1) := by decide +kernel
theorem dX8_isPlace_5 : decode cX8_isPlace 5 = .ok (.bipush 10, 2) := by decide +kernel
theorem dX8_isPlace_7 : decode cX8_isPlace 7 = .ok (.if_icmp .ge 7, 3) := by decide +kernel
theorem dX8_isPlace_10 : decode cX8_isPlace 10 = .ok (.iconst 1, 1) := by decide +kernel
theorem dX8_isPlace_11 : decode cX8_isPlace 11 = .ok (.goto 4, 3) := by decide +kernel
theorem dX8_isPlace_14 : decode cX8_isPlace 14 = .ok (.iconst 0, 1) := by decide +kernel
theorem dX8_isPlace_15 : decode cX8_isPlace 15 = .ok (.ireturn, 1) := by decide +kernel
theorem dX8_areNeighbors_0 : decode cX8_areNeighbors 0 = .ok (.iload_n 0, 1) := by decide +kernel
theorem dX8_areNeighbors_1 : decode cX8_areNeighbors 1 = .ok (.iload_n 1, 1) := by decide +kernel
theorem dX8_areNeighbors_2 : decode cX8_areNeighbors 2 = .ok (.isub, 1) := by decide +kernel
theorem dX8_areNeighbors_3 : decode cX8_areNeighbors 3 = .ok (.invokestatic 277, 3) := by decide +kernel
theorem dX8_areNeighbors_6 : decode cX8_areNeighbors 6 = .ok (.istore_n 2, 1) := by decide +kernel
theorem dX8_areNeighbors_7 : decode cX8_areNeighbors 7 = .ok (.iload_n 2, 1) := by decide +kernel
theorem dX8_areNeighbors_8 : decode cX8_areNeighbors 8 = .ok (.iconst 1, 1) := by decide +kernel
theorem dX8_areNeighbors_9 : decode cX8_areNeighbors 9 = .ok (.if_icmp .eq 9, 3) := by decide +kernel
theorem dX8_areNeighbors_12 : decode cX8_areNeighbors 12 = .ok (.iload_n 2, 1) := by decide +kernel
theorem dX8_areNeighbors_13 : decode cX8_areNeighbors 13 = .ok (.bipush 9, 2) := by decide +kernel
theorem dX8_areNeighbors_15 : decode cX8_areNeighbors 15 = .ok (.if_icmp .ne 7, 3) := by decide +kernel
theorem dX8_areNeighbors_18 : decode cX8_areNeighbors 18 = .ok (.iconst 1, 1) := by decide +kernel
theorem dX8_areNeighbors_19 : decode cX8_areNeighbors 19 = .ok (.goto 4, 3) := by decide +kernel
theorem dX8_areNeighbors_22 : decode cX8_areNeighbors 22 = .ok (.iconst 0, 1) := by decide +kernel
theorem dX8_areNeighbors_23 : decode cX8_areNeighbors 23 = .ok (.ireturn, 1) := by decide +kernel
theorem dX8_isMove_0 : decode cX8_isMove 0 = .ok (.iload_n 1, 1) := by decide +kernel
theorem dX8_isMove_1 : decode cX8_isMove 1 = .ok (.tableswitch 119 0 4 #[35, 56, 79, 35, 100], 35) := by decide +kernel
theorem dX8_isMove_36 : decode cX8_isMove 36 = .ok (.iload_n 2, 1) := by decide +kernel
theorem dX8_isMove_37 : decode cX8_isMove 37 = .ok (.ifCond .lt 18, 3) := by decide +kernel
theorem dX8_isMove_40 : decode cX8_isMove 40 = .ok (.iload_n 2, 1) := by decide +kernel
theorem dX8_isMove_41 : decode cX8_isMove 41 = .ok (.iload_n 3, 1) := by decide +kernel
theorem dX8_isMove_42 : decode cX8_isMove 42 = .ok (.if_icmp .ge 13, 3) := by decide +kernel
theorem dX8_isMove_45 : decode cX8_isMove 45 = .ok (.iload_n 3, 1) := by decide +kernel
theorem dX8_isMove_46 : decode cX8_isMove 46 = .ok (.bipush 10, 2) := by decide +kernel
theorem dX8_isMove_48 : decode cX8_isMove 48 = .ok (.if_icmp .ge 7, 3) := by decide +kernel
theorem dX8_isMove_51 : decode cX8_isMove 51 = .ok (.iconst 1, 1) := by decide +kernel
theorem dX8_isMove_52 : decode cX8_isMove 52 = .ok (.goto 4, 3) := by decide +kernel
theorem dX8_isMove_55 : decode cX8_isMove 55 = .ok (.iconst 0, 1) := by decide +kernel
theorem dX8_isMove_56 : decode cX8_isMove 56 = .ok (.ireturn, 1) := by decide +kernel
theorem dX8_isMove_57 : decode cX8_isMove 57 = .ok (.iload_n 2, 1) := by decide +kernel
theorem dX8_isMove_58 : decode cX8_isMove 58 = .ok (.invokestatic 106, 3) := by decide +kernel
theorem dX8_isMove_61 : decode cX8_isMove 61 = .ok (.ifCond .eq 17, 3) := by decide +kernel
theorem dX8_isMove_64 : decode cX8_isMove 64 = .ok (.iload_n 3, 1) := by decide +kernel
theorem dX8_isMove_65 : decode cX8_isMove 65 = .ok (.iconst 1, 1) := by decide +kernel
theorem dX8_isMove_66 : decode cX8_isMove 66 = .ok (.if_icmp .lt 12, 3) := by decide +kernel
theorem dX8_isMove_69 : decode cX8_isMove 69 = .ok (.iload_n 3, 1) := by decide +kernel
theorem dX8_isMove_70 : decode cX8_isMove 70 = .ok (.iconst 4, 1) := by decide +kernel
theorem dX8_isMove_71 : decode cX8_isMove 71 = .ok (.if_icmp .ge 7, 3) := by decide +kernel
theorem dX8_isMove_74 : decode cX8_isMove 74 = .ok (.iconst 1, 1) := by decide +kernel
theorem dX8_isMove_75 : decode cX8_isMove 75 = .ok (.goto 4, 3) := by decide +kernel
theorem dX8_isMove_78 : decode cX8_isMove 78 = .ok (.iconst 0, 1) := by decide +kernel
theorem dX8_isMove_79 : decode cX8_isMove 79 = .ok (.ireturn, 1) := by decide +kernel
theorem dX8_isMove_80 : decode cX8_isMove 80 = .ok (.iload_n 2, 1) := by decide +kernel
theorem dX8_isMove_81 : decode cX8_isMove 81 = .ok (.iconst 1, 1) := by decide +kernel
theorem dX8_isMove_82 : decode cX8_isMove 82 = .ok (.if_icmp .lt 17, 3) := by decide +kernel
theorem dX8_isMove_85 : decode cX8_isMove 85 = .ok (.iload_n 2, 1) := by decide +kernel
theorem dX8_isMove_86 : decode cX8_isMove 86 = .ok (.bipush 10, 2) := by decide +kernel
theorem dX8_isMove_88 : decode cX8_isMove 88 = .ok (.if_icmp .ge 11, 3) := by decide +kernel
theorem dX8_isMove_91 : decode cX8_isMove 91 = .ok (.iload_n 3, 1) := by decide +kernel
theorem dX8_isMove_92 : decode cX8_isMove 92 = .ok (.ifCond .ne 7, 3) := by decide +kernel
theorem dX8_isMove_95 : decode cX8_isMove 95 = .ok (.iconst 1, 1) := by decide +kernel
theorem dX8_isMove_96 : decode cX8_isMove 96 = .ok (.goto 4, 3) := by decide +kernel
theorem dX8_isMove_99 : decode cX8_isMove 99 = .ok (.iconst 0, 1) := by decide +kernel
theorem dX8_isMove_100 : decode cX8_isMove 100 = .ok (.ireturn, 1) := by decide +kernel
theorem dX8_isMove_101 : decode cX8_isMove 101 = .ok (.iload_n 2, 1) := by decide +kernel
theorem dX8_isMove_102 : decode cX8_isMove 102 = .ok (.ifCond .lt 16, 3) := by decide +kernel
theorem dX8_isMove_105 : decode cX8_isMove 105 = .ok (.iload_n 2, 1) := by decide +kernel
theorem dX8_isMove_106 : decode cX8_isMove 106 = .ok (.iload_n 0, 1) := by decide +kernel
theorem dX8_isMove_107 : decode cX8_isMove 107 = .ok (.if_icmp .ge 11, 3) := by decide +kernel
theorem dX8_isMove_110 : decode cX8_isMove 110 = .ok (.iload_n 3, 1) := by decide +kernel
theorem dX8_isMove_111 : decode cX8_isMove 111 = .ok (.ifCond .ne 7, 3) := by decide +kernel
theorem dX8_isMove_114 : decode cX8_isMove 114 = .ok (.iconst 1, 1) := by decide +kernel
theorem dX8_isMove_115 : decode cX8_isMove 115 = .ok (.goto 4, 3) := by decide +kernel
theorem dX8_isMove_118 : decode cX8_isMove 118 = .ok (.iconst 0, 1) := by decide +kernel
theorem dX8_isMove_119 : decode cX8_isMove 119 = .ok (.ireturn, 1) := by decide +kernel
theorem dX8_isMove_120 : decode cX8_isMove 120 = .ok (.iconst 0, 1) := by decide +kernel
theorem dX8_isMove_121 : decode cX8_isMove 121 = .ok (.ireturn, 1) := by decide +kernel
theorem dX8_codeOf_0 : decode cX8_codeOf 0 = .ok (.iload_n 0, 1) := by decide +kernel
theorem dX8_codeOf_1 : decode cX8_codeOf 1 = .ok (.bipush 100, 2) := by decide +kernel
theorem dX8_codeOf_3 : decode cX8_codeOf 3 = .ok (.imul, 1) := by decide +kernel
theorem dX8_codeOf_4 : decode cX8_codeOf 4 = .ok (.iload_n 1, 1) := by decide +kernel
theorem dX8_codeOf_5 : decode cX8_codeOf 5 = .ok (.bipush 10, 2) := by decide +kernel
theorem dX8_codeOf_7 : decode cX8_codeOf 7 = .ok (.imul, 1) := by decide +kernel
theorem dX8_codeOf_8 : decode cX8_codeOf 8 = .ok (.iadd, 1) := by decide +kernel
theorem dX8_codeOf_9 : decode cX8_codeOf 9 = .ok (.iload_n 2, 1) := by decide +kernel
theorem dX8_codeOf_10 : decode cX8_codeOf 10 = .ok (.iadd, 1) := by decide +kernel
theorem dX8_codeOf_11 : decode cX8_codeOf 11 = .ok (.ireturn, 1) := by decide +kernel
theorem dX8_kindOf_0 : decode cX8_kindOf 0 = .ok (.iload_n 0, 1) := by decide +kernel
theorem dX8_kindOf_1 : decode cX8_kindOf 1 = .ok (.bipush 100, 2) := by decide +kernel
theorem dX8_kindOf_3 : decode cX8_kindOf 3 = .ok (.idiv, 1) := by decide +kernel
theorem dX8_kindOf_4 : decode cX8_kindOf 4 = .ok (.ireturn, 1) := by decide +kernel
theorem dX8_firstOf_0 : decode cX8_firstOf 0 = .ok (.iload_n 0, 1) := by decide +kernel
theorem dX8_firstOf_1 : decode cX8_firstOf 1 = .ok (.bipush 10, 2) := by decide +kernel
theorem dX8_firstOf_3 : decode cX8_firstOf 3 = .ok (.idiv, 1) := by decide +kernel
theorem dX8_firstOf_4 : decode cX8_firstOf 4 = .ok (.bipush 10, 2) := by decide +kernel
theorem dX8_firstOf_6 : decode cX8_firstOf 6 = .ok (.irem, 1) := by decide +kernel
theorem dX8_firstOf_7 : decode cX8_firstOf 7 = .ok (.ireturn, 1) := by decide +kernel
theorem dX8_secondOf_0 : decode cX8_secondOf 0 = .ok (.iload_n 0, 1) := by decide +kernel
theorem dX8_secondOf_1 : decode cX8_secondOf 1 = .ok (.bipush 10, 2) := by decide +kernel
theorem dX8_secondOf_3 : decode cX8_secondOf 3 = .ok (.irem, 1) := by decide +kernel
theorem dX8_secondOf_4 : decode cX8_secondOf 4 = .ok (.ireturn, 1) := by decide +kernel
theorem dX8_undoing_0 : decode cX8_undoing 0 = .ok (.iload_n 0, 1) := by decide +kernel
theorem dX8_undoing_1 : decode cX8_undoing 1 = .ok (.invokestatic 192, 3) := by decide +kernel
theorem dX8_undoing_4 : decode cX8_undoing 4 = .ok (.istore_n 1, 1) := by decide +kernel
theorem dX8_undoing_5 : decode cX8_undoing 5 = .ok (.iload_n 0, 1) := by decide +kernel
theorem dX8_undoing_6 : decode cX8_undoing 6 = .ok (.invokestatic 195, 3) := by decide +kernel
theorem dX8_undoing_9 : decode cX8_undoing 9 = .ok (.istore_n 2, 1) := by decide +kernel
theorem dX8_undoing_10 : decode cX8_undoing 10 = .ok (.iload_n 0, 1) := by decide +kernel
theorem dX8_undoing_11 : decode cX8_undoing 11 = .ok (.invokestatic 198, 3) := by decide +kernel
theorem dX8_undoing_14 : decode cX8_undoing 14 = .ok (.istore_n 3, 1) := by decide +kernel
theorem dX8_undoing_15 : decode cX8_undoing 15 = .ok (.iload_n 1, 1) := by decide +kernel
theorem dX8_undoing_16 : decode cX8_undoing 16 = .ok (.iconst 1, 1) := by decide +kernel
theorem dX8_undoing_17 : decode cX8_undoing 17 = .ok (.if_icmp .ne 12, 3) := by decide +kernel
theorem dX8_undoing_20 : decode cX8_undoing 20 = .ok (.iload_n 1, 1) := by decide +kernel
theorem dX8_undoing_21 : decode cX8_undoing 21 = .ok (.iload_n 2, 1) := by decide +kernel
theorem dX8_undoing_22 : decode cX8_undoing 22 = .ok (.iconst 4, 1) := by decide +kernel
theorem dX8_undoing_23 : decode cX8_undoing 23 = .ok (.iload_n 3, 1) := by decide +kernel
theorem dX8_undoing_24 : decode cX8_undoing 24 = .ok (.isub, 1) := by decide +kernel
theorem dX8_undoing_25 : decode cX8_undoing 25 = .ok (.invokestatic 90, 3) := by decide +kernel
theorem dX8_undoing_28 : decode cX8_undoing 28 = .ok (.ireturn, 1) := by decide +kernel
theorem dX8_undoing_29 : decode cX8_undoing 29 = .ok (.iload_n 1, 1) := by decide +kernel
theorem dX8_undoing_30 : decode cX8_undoing 30 = .ok (.iconst 2, 1) := by decide +kernel
theorem dX8_undoing_31 : decode cX8_undoing 31 = .ok (.if_icmp .ne 15, 3) := by decide +kernel
theorem dX8_undoing_34 : decode cX8_undoing 34 = .ok (.iload_n 1, 1) := by decide +kernel
theorem dX8_undoing_35 : decode cX8_undoing 35 = .ok (.bipush 10, 2) := by decide +kernel
theorem dX8_undoing_37 : decode cX8_undoing 37 = .ok (.iload_n 2, 1) := by decide +kernel
theorem dX8_undoing_38 : decode cX8_undoing 38 = .ok (.isub, 1) := by decide +kernel
theorem dX8_undoing_39 : decode cX8_undoing 39 = .ok (.iload_n 3, 1) := by decide +kernel
theorem dX8_undoing_40 : decode cX8_undoing 40 = .ok (.invokestatic 90, 3) := by decide +kernel
theorem dX8_undoing_43 : decode cX8_undoing 43 = .ok (.goto 4, 3) := by decide +kernel
theorem dX8_undoing_46 : decode cX8_undoing 46 = .ok (.iload_n 0, 1) := by decide +kernel
theorem dX8_undoing_47 : decode cX8_undoing 47 = .ok (.ireturn, 1) := by decide +kernel
theorem dX8_read_0 : decode cX8_read 0 = .ok (.iload_n 1, 1) := by decide +kernel
theorem dX8_read_1 : decode cX8_read 1 = .ok (.ifCond .lt 15, 3) := by decide +kernel
theorem dX8_read_4 : decode cX8_read 4 = .ok (.iload_n 1, 1) := by decide +kernel
theorem dX8_read_5 : decode cX8_read 5 = .ok (.aload_n 0, 1) := by decide +kernel
theorem dX8_read_6 : decode cX8_read 6 = .ok (.arraylength, 1) := by decide +kernel
theorem dX8_read_7 : decode cX8_read 7 = .ok (.if_icmp .ge 9, 3) := by decide +kernel
theorem dX8_read_10 : decode cX8_read 10 = .ok (.aload_n 0, 1) := by decide +kernel
theorem dX8_read_11 : decode cX8_read 11 = .ok (.iload_n 1, 1) := by decide +kernel
theorem dX8_read_12 : decode cX8_read 12 = .ok (.iaload, 1) := by decide +kernel
theorem dX8_read_13 : decode cX8_read 13 = .ok (.goto 4, 3) := by decide +kernel
theorem dX8_read_16 : decode cX8_read 16 = .ok (.iconst 0, 1) := by decide +kernel
theorem dX8_read_17 : decode cX8_read 17 = .ok (.ireturn, 1) := by decide +kernel
theorem dX8_write_0 : decode cX8_write 0 = .ok (.iload_n 1, 1) := by decide +kernel
theorem dX8_write_1 : decode cX8_write 1 = .ok (.ifCond .lt 13, 3) := by decide +kernel
theorem dX8_write_4 : decode cX8_write 4 = .ok (.iload_n 1, 1) := by decide +kernel
theorem dX8_write_5 : decode cX8_write 5 = .ok (.aload_n 0, 1) := by decide +kernel
theorem dX8_write_6 : decode cX8_write 6 = .ok (.arraylength, 1) := by decide +kernel
theorem dX8_write_7 : decode cX8_write 7 = .ok (.if_icmp .ge 7, 3) := by decide +kernel
theorem dX8_write_10 : decode cX8_write 10 = .ok (.aload_n 0, 1) := by decide +kernel
theorem dX8_write_11 : decode cX8_write 11 = .ok (.iload_n 1, 1) := by decide +kernel
theorem dX8_write_12 : decode cX8_write 12 = .ok (.iload_n 2, 1) := by decide +kernel
theorem dX8_write_13 : decode cX8_write 13 = .ok (.iastore, 1) := by decide +kernel
theorem dX8_write_14 : decode cX8_write 14 = .ok (.return_, 1) := by decide +kernel
theorem dX8_copy_0 : decode cX8_copy 0 = .ok (.aload_n 0, 1) := by decide +kernel
theorem dX8_copy_1 : decode cX8_copy 1 = .ok (.iconst 0, 1) := by decide +kernel
theorem dX8_copy_2 : decode cX8_copy 2 = .ok (.aload_n 1, 1) := by decide +kernel
theorem dX8_copy_3 : decode cX8_copy 3 = .ok (.iconst 0, 1) := by decide +kernel
theorem dX8_copy_4 : decode cX8_copy 4 = .ok (.aload_n 0, 1) := by decide +kernel
theorem dX8_copy_5 : decode cX8_copy 5 = .ok (.arraylength, 1) := by decide +kernel
theorem dX8_copy_6 : decode cX8_copy 6 = .ok (.aload_n 1, 1) := by decide +kernel
theorem dX8_copy_7 : decode cX8_copy 7 = .ok (.arraylength, 1) := by decide +kernel
theorem dX8_copy_8 : decode cX8_copy 8 = .ok (.invokestatic 282, 3) := by decide +kernel
theorem dX8_copy_11 : decode cX8_copy 11 = .ok (.invokestatic 285, 3) := by decide +kernel
theorem dX8_copy_14 : decode cX8_copy 14 = .ok (.return_, 1) := by decide +kernel
