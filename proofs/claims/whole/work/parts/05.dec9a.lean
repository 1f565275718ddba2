theorem dX9_init_0 : decode cX9_init 0 = .ok (.aload_n 0, 1) := by decide +kernel
theorem dX9_init_1 : decode cX9_init 1 = .ok (.invokespecial 1, 3) := by decide +kernel
theorem dX9_init_4 : decode cX9_init 4 = .ok (.aload_n 0, 1) := by decide +kernel
theorem dX9_init_5 : decode cX9_init 5 = .ok (.sipush 281, 3) := by decide +kernel
theorem dX9_init_8 : decode cX9_init 8 = .ok (.newarray .int, 2) := by decide +kernel
theorem dX9_init_10 : decode cX9_init 10 = .ok (.putfield 7, 3) := by decide +kernel
theorem dX9_init_13 : decode cX9_init 13 = .ok (.aload_n 0, 1) := by decide +kernel
theorem dX9_init_14 : decode cX9_init 14 = .ok (.sipush 1405, 3) := by decide +kernel
theorem dX9_init_17 : decode cX9_init 17 = .ok (.newarray .int, 2) := by decide +kernel
theorem dX9_init_19 : decode cX9_init 19 = .ok (.putfield 13, 3) := by decide +kernel
theorem dX9_init_22 : decode cX9_init 22 = .ok (.aload_n 0, 1) := by decide +kernel
theorem dX9_init_23 : decode cX9_init 23 = .ok (.sipush 281, 3) := by decide +kernel
theorem dX9_init_26 : decode cX9_init 26 = .ok (.newarray .int, 2) := by decide +kernel
theorem dX9_init_28 : decode cX9_init 28 = .ok (.putfield 16, 3) := by decide +kernel
theorem dX9_init_31 : decode cX9_init 31 = .ok (.aload_n 0, 1) := by decide +kernel
theorem dX9_init_32 : decode cX9_init 32 = .ok (.bipush 8, 2) := by decide +kernel
theorem dX9_init_34 : decode cX9_init 34 = .ok (.newarray .int, 2) := by decide +kernel
theorem dX9_init_36 : decode cX9_init 36 = .ok (.putfield 19, 3) := by decide +kernel
theorem dX9_init_39 : decode cX9_init 39 = .ok (.aload_n 0, 1) := by decide +kernel
theorem dX9_init_40 : decode cX9_init 40 = .ok (.sipush 2880, 3) := by decide +kernel
theorem dX9_init_43 : decode cX9_init 43 = .ok (.newarray .int, 2) := by decide +kernel
theorem dX9_init_45 : decode cX9_init 45 = .ok (.putfield 22, 3) := by decide +kernel
theorem dX9_init_48 : decode cX9_init 48 = .ok (.aload_n 0, 1) := by decide +kernel
theorem dX9_init_49 : decode cX9_init 49 = .ok (.bipush 8, 2) := by decide +kernel
theorem dX9_init_51 : decode cX9_init 51 = .ok (.newarray .int, 2) := by decide +kernel
theorem dX9_init_53 : decode cX9_init 53 = .ok (.putfield 25, 3) := by decide +kernel
theorem dX9_init_56 : decode cX9_init 56 = .ok (.aload_n 0, 1) := by decide +kernel
theorem dX9_init_57 : decode cX9_init 57 = .ok (.bipush 10, 2) := by decide +kernel
theorem dX9_init_59 : decode cX9_init 59 = .ok (.newarray .int, 2) := by decide +kernel
theorem dX9_init_61 : decode cX9_init 61 = .ok (.putfield 28, 3) := by decide +kernel
theorem dX9_init_64 : decode cX9_init 64 = .ok (.aload_n 0, 1) := by decide +kernel
theorem dX9_init_65 : decode cX9_init 65 = .ok (.bipush 10, 2) := by decide +kernel
theorem dX9_init_67 : decode cX9_init 67 = .ok (.newarray .int, 2) := by decide +kernel
theorem dX9_init_69 : decode cX9_init 69 = .ok (.putfield 31, 3) := by decide +kernel
theorem dX9_init_72 : decode cX9_init 72 = .ok (.aload_n 0, 1) := by decide +kernel
theorem dX9_init_73 : decode cX9_init 73 = .ok (.bipush 10, 2) := by decide +kernel
theorem dX9_init_75 : decode cX9_init 75 = .ok (.newarray .int, 2) := by decide +kernel
theorem dX9_init_77 : decode cX9_init 77 = .ok (.putfield 34, 3) := by decide +kernel
theorem dX9_init_80 : decode cX9_init 80 = .ok (.aload_n 0, 1) := by decide +kernel
theorem dX9_init_81 : decode cX9_init 81 = .ok (.bipush 20, 2) := by decide +kernel
theorem dX9_init_83 : decode cX9_init 83 = .ok (.newarray .int, 2) := by decide +kernel
theorem dX9_init_85 : decode cX9_init 85 = .ok (.putfield 37, 3) := by decide +kernel
theorem dX9_init_88 : decode cX9_init 88 = .ok (.aload_n 0, 1) := by decide +kernel
theorem dX9_init_89 : decode cX9_init 89 = .ok (.bipush 80, 2) := by decide +kernel
theorem dX9_init_91 : decode cX9_init 91 = .ok (.newarray .int, 2) := by decide +kernel
theorem dX9_init_93 : decode cX9_init 93 = .ok (.putfield 40, 3) := by decide +kernel
theorem dX9_init_96 : decode cX9_init 96 = .ok (.aload_n 0, 1) := by decide +kernel
theorem dX9_init_97 : decode cX9_init 97 = .ok (.bipush 40, 2) := by decide +kernel
theorem dX9_init_99 : decode cX9_init 99 = .ok (.newarray .int, 2) := by decide +kernel
theorem dX9_init_101 : decode cX9_init 101 = .ok (.putfield 43, 3) := by decide +kernel
theorem dX9_init_104 : decode cX9_init 104 = .ok (.aload_n 0, 1) := by decide +kernel
theorem dX9_init_105 : decode cX9_init 105 = .ok (.bipush 40, 2) := by decide +kernel
theorem dX9_init_107 : decode cX9_init 107 = .ok (.newarray .int, 2) := by decide +kernel
theorem dX9_init_109 : decode cX9_init 109 = .ok (.putfield 46, 3) := by decide +kernel
theorem dX9_init_112 : decode cX9_init 112 = .ok (.aload_n 0, 1) := by decide +kernel
theorem dX9_init_113 : decode cX9_init 113 = .ok (.bipush 40, 2) := by decide +kernel
theorem dX9_init_115 : decode cX9_init 115 = .ok (.newarray .boolean, 2) := by decide +kernel
theorem dX9_init_117 : decode cX9_init 117 = .ok (.putfield 49, 3) := by decide +kernel
theorem dX9_init_120 : decode cX9_init 120 = .ok (.aload_n 0, 1) := by decide +kernel
theorem dX9_init_121 : decode cX9_init 121 = .ok (.bipush 80, 2) := by decide +kernel
theorem dX9_init_123 : decode cX9_init 123 = .ok (.newarray .int, 2) := by decide +kernel
theorem dX9_init_125 : decode cX9_init 125 = .ok (.putfield 53, 3) := by decide +kernel
theorem dX9_init_128 : decode cX9_init 128 = .ok (.aload_n 0, 1) := by decide +kernel
theorem dX9_init_129 : decode cX9_init 129 = .ok (.bipush 80, 2) := by decide +kernel
theorem dX9_init_131 : decode cX9_init 131 = .ok (.newarray .int, 2) := by decide +kernel
theorem dX9_init_133 : decode cX9_init 133 = .ok (.putfield 56, 3) := by decide +kernel
theorem dX9_init_136 : decode cX9_init 136 = .ok (.aload_n 0, 1) := by decide +kernel
theorem dX9_init_137 : decode cX9_init 137 = .ok (.bipush 20, 2) := by decide +kernel
theorem dX9_init_139 : decode cX9_init 139 = .ok (.newarray .int, 2) := by decide +kernel
theorem dX9_init_141 : decode cX9_init 141 = .ok (.putfield 59, 3) := by decide +kernel
theorem dX9_init_144 : decode cX9_init 144 = .ok (.iconst 0, 1) := by decide +kernel
theorem dX9_init_145 : decode cX9_init 145 = .ok (.istore_n 1, 1) := by decide +kernel
theorem dX9_init_146 : decode cX9_init 146 = .ok (.iload_n 1, 1) := by decide +kernel
theorem dX9_init_147 : decode cX9_init 147 = .ok (.bipush 10, 2) := by decide +kernel
theorem dX9_init_149 : decode cX9_init 149 = .ok (.if_icmp .ge 29, 3) := by decide +kernel
theorem dX9_init_152 : decode cX9_init 152 = .ok (.aload_n 0, 1) := by decide +kernel
theorem dX9_init_153 : decode cX9_init 153 = .ok (.getfield 7, 3) := by decide +kernel
theorem dX9_init_156 : decode cX9_init 156 = .ok (.iconst 0, 1) := by decide +kernel
theorem dX9_init_157 : decode cX9_init 157 = .ok (.iload_n 1, 1) := by decide +kernel
theorem dX9_init_158 : decode cX9_init 158 = .ok (.iadd, 1) := by decide +kernel
theorem dX9_init_159 : decode cX9_init 159 = .ok (.iload_n 1, 1) := by decide +kernel
theorem dX9_init_160 : decode cX9_init 160 = .ok (.iastore, 1) := by decide +kernel
theorem dX9_init_161 : decode cX9_init 161 = .ok (.aload_n 0, 1) := by decide +kernel
theorem dX9_init_162 : decode cX9_init 162 = .ok (.getfield 7, 3) := by decide +kernel
theorem dX9_init_165 : decode cX9_init 165 = .ok (.bipush 20, 2) := by decide +kernel
theorem dX9_init_167 : decode cX9_init 167 = .ok (.iload_n 1, 1) := by decide +kernel
theorem dX9_init_168 : decode cX9_init 168 = .ok (.iadd, 1) := by decide +kernel
theorem dX9_init_169 : decode cX9_init 169 = .ok (.bipush (-5), 2) := by decide +kernel
theorem dX9_init_171 : decode cX9_init 171 = .ok (.iastore, 1) := by decide +kernel
theorem dX9_init_172 : decode cX9_init 172 = .ok (.iinc 1 1, 3) := by decide +kernel
theorem dX9_init_175 : decode cX9_init 175 = .ok (.goto (-29), 3) := by decide +kernel
theorem dX9_init_178 : decode cX9_init 178 = .ok (.return_, 1) := by decide +kernel
theorem dX9_in_0 : decode cX9_in 0 = .ok (.iload_n 0, 1) := by decide +kernel
theorem dX9_in_1 : decode cX9_in 1 = .ok (.iload_n 1, 1) := by decide +kernel
theorem dX9_in_2 : decode cX9_in 2 = .ok (.if_icmp .lt 12, 3) := by decide +kernel
theorem dX9_in_5 : decode cX9_in 5 = .ok (.iload_n 0, 1) := by decide +kernel
theorem dX9_in_6 : decode cX9_in 6 = .ok (.iload_n 2, 1) := by decide +kernel
theorem dX9_in_7 : decode cX9_in 7 = .ok (.if_icmp .gt 7, 3) := by decide +kernel
theorem dX9_in_10 : decode cX9_in 10 = .ok (.iconst 1, 1) := by decide +kernel
theorem dX9_in_11 : decode cX9_in 11 = .ok (.goto 4, 3) := by decide +kernel
theorem dX9_in_14 : decode cX9_in 14 = .ok (.iconst 0, 1) := by decide +kernel
theorem dX9_in_15 : decode cX9_in 15 = .ok (.ireturn, 1) := by decide +kernel
theorem dX9_isFigure_0 : decode cX9_isFigure 0 = .ok (.iload_n 0, 1) := by decide +kernel
theorem dX9_isFigure_1 : decode cX9_isFigure 1 = .ok (.iconst 0, 1) := by decide +kernel
theorem dX9_isFigure_2 : decode cX9_isFigure 2 = .ok (.bipush 7, 2) := by decide +kernel
theorem dX9_isFigure_4 : decode cX9_isFigure 4 = .ok (.invokestatic 62, 3) := by decide +kernel
theorem dX9_isFigure_7 : decode cX9_isFigure 7 = .ok (.ireturn, 1) := by decide +kernel
theorem dX9_isDancer_0 : decode cX9_isDancer 0 = .ok (.iload_n 0, 1) := by decide +kernel
theorem dX9_isDancer_1 : decode cX9_isDancer 1 = .ok (.iconst 0, 1) := by decide +kernel
theorem dX9_isDancer_2 : decode cX9_isDancer 2 = .ok (.bipush 9, 2) := by decide +kernel
theorem dX9_isDancer_4 : decode cX9_isDancer 4 = .ok (.invokestatic 62, 3) := by decide +kernel
theorem dX9_isDancer_7 : decode cX9_isDancer 7 = .ok (.ireturn, 1) := by decide +kernel
theorem dX9_ahead_0 : decode cX9_ahead 0 = .ok (.iload_n 0, 1) := by decide +kernel
theorem dX9_ahead_1 : decode cX9_ahead 1 = .ok (.iload_n 1, 1) := by decide +kernel
theorem dX9_ahead_2 : decode cX9_ahead 2 = .ok (.iadd, 1) := by decide +kernel
theorem dX9_ahead_3 : decode cX9_ahead 3 = .ok (.bipush 10, 2) := by decide +kernel
theorem dX9_ahead_5 : decode cX9_ahead 5 = .ok (.irem, 1) := by decide +kernel
theorem dX9_ahead_6 : decode cX9_ahead 6 = .ok (.ireturn, 1) := by decide +kernel
theorem dX9_moves_0 : decode cX9_moves 0 = .ok (.aload_n 0, 1) := by decide +kernel
theorem dX9_moves_1 : decode cX9_moves 1 = .ok (.getfield 7, 3) := by decide +kernel
theorem dX9_moves_4 : decode cX9_moves 4 = .ok (.bipush 30, 2) := by decide +kernel
theorem dX9_moves_6 : decode cX9_moves 6 = .ok (.bipush 31, 2) := by decide +kernel
theorem dX9_moves_8 : decode cX9_moves 8 = .ok (.iload_n 1, 1) := by decide +kernel
theorem dX9_moves_9 : decode cX9_moves 9 = .ok (.imul, 1) := by decide +kernel
theorem dX9_moves_10 : decode cX9_moves 10 = .ok (.iadd, 1) := by decide +kernel
theorem dX9_moves_11 : decode cX9_moves 11 = .ok (.iaload, 1) := by decide +kernel
theorem dX9_moves_12 : decode cX9_moves 12 = .ok (.ireturn, 1) := by decide +kernel
theorem dX9_ofMove_0 : decode cX9_ofMove 0 = .ok (.aload_n 0, 1) := by decide +kernel
theorem dX9_ofMove_1 : decode cX9_ofMove 1 = .ok (.getfield 7, 3) := by decide +kernel
theorem dX9_ofMove_4 : decode cX9_ofMove 4 = .ok (.bipush 30, 2) := by decide +kernel
theorem dX9_ofMove_6 : decode cX9_ofMove 6 = .ok (.bipush 31, 2) := by decide +kernel
theorem dX9_ofMove_8 : decode cX9_ofMove 8 = .ok (.iload_n 1, 1) := by decide +kernel
theorem dX9_ofMove_9 : decode cX9_ofMove 9 = .ok (.imul, 1) := by decide +kernel
theorem dX9_ofMove_10 : decode cX9_ofMove 10 = .ok (.iadd, 1) := by decide +kernel
theorem dX9_ofMove_11 : decode cX9_ofMove 11 = .ok (.iconst 1, 1) := by decide +kernel
theorem dX9_ofMove_12 : decode cX9_ofMove 12 = .ok (.iadd, 1) := by decide +kernel
theorem dX9_ofMove_13 : decode cX9_ofMove 13 = .ok (.iconst 3, 1) := by decide +kernel
theorem dX9_ofMove_14 : decode cX9_ofMove 14 = .ok (.iload_n 2, 1) := by decide +kernel
theorem dX9_ofMove_15 : decode cX9_ofMove 15 = .ok (.imul, 1) := by decide +kernel
theorem dX9_ofMove_16 : decode cX9_ofMove 16 = .ok (.iadd, 1) := by decide +kernel
theorem dX9_ofMove_17 : decode cX9_ofMove 17 = .ok (.iload_n 3, 1) := by decide +kernel
theorem dX9_ofMove_18 : decode cX9_ofMove 18 = .ok (.iadd, 1) := by decide +kernel
theorem dX9_ofMove_19 : decode cX9_ofMove 19 = .ok (.iaload, 1) := by decide +kernel
theorem dX9_ofMove_20 : decode cX9_ofMove 20 = .ok (.ireturn, 1) := by decide +kernel
theorem dX9_record_0 : decode cX9_record 0 = .ok (.aload_n 0, 1) := by decide +kernel
theorem dX9_record_1 : decode cX9_record 1 = .ok (.getfield 66, 3) := by decide +kernel
theorem dX9_record_4 : decode cX9_record 4 = .ok (.iconst 5, 1) := by decide +kernel
theorem dX9_record_5 : decode cX9_record 5 = .ok (.if_icmp .ne 44, 3) := by decide +kernel
theorem dX9_record_8 : decode cX9_record 8 = .ok (.iconst 0, 1) := by decide +kernel
theorem dX9_record_9 : decode cX9_record 9 = .ok (.istore_n 1, 1) := by decide +kernel
theorem dX9_record_10 : decode cX9_record 10 = .ok (.iload_n 1, 1) := by decide +kernel
theorem dX9_record_11 : decode cX9_record 11 = .ok (.sipush 1124, 3) := by decide +kernel
theorem dX9_record_14 : decode cX9_record 14 = .ok (.if_icmp .ge 25, 3) := by decide +kernel
theorem dX9_record_17 : decode cX9_record 17 = .ok (.aload_n 0, 1) := by decide +kernel
theorem dX9_record_18 : decode cX9_record 18 = .ok (.getfield 13, 3) := by decide +kernel
theorem dX9_record_21 : decode cX9_record 21 = .ok (.iload_n 1, 1) := by decide +kernel
theorem dX9_record_22 : decode cX9_record 22 = .ok (.aload_n 0, 1) := by decide +kernel
theorem dX9_record_23 : decode cX9_record 23 = .ok (.getfield 13, 3) := by decide +kernel
theorem dX9_record_26 : decode cX9_record 26 = .ok (.iload_n 1, 1) := by decide +kernel
theorem dX9_record_27 : decode cX9_record 27 = .ok (.sipush 281, 3) := by decide +kernel
theorem dX9_record_30 : decode cX9_record 30 = .ok (.iadd, 1) := by decide +kernel
theorem dX9_record_31 : decode cX9_record 31 = .ok (.iaload, 1) := by decide +kernel
theorem dX9_record_32 : decode cX9_record 32 = .ok (.iastore, 1) := by decide +kernel
theorem dX9_record_33 : decode cX9_record 33 = .ok (.iinc 1 1, 3) := by decide +kernel
theorem dX9_record_36 : decode cX9_record 36 = .ok (.goto (-26), 3) := by decide +kernel
theorem dX9_record_39 : decode cX9_record 39 = .ok (.aload_n 0, 1) := by decide +kernel
theorem dX9_record_40 : decode cX9_record 40 = .ok (.dup, 1) := by decide +kernel
theorem dX9_record_41 : decode cX9_record 41 = .ok (.getfield 66, 3) := by decide +kernel
theorem dX9_record_44 : decode cX9_record 44 = .ok (.iconst 1, 1) := by decide +kernel
theorem dX9_record_45 : decode cX9_record 45 = .ok (.isub, 1) := by decide +kernel
theorem dX9_record_46 : decode cX9_record 46 = .ok (.putfield 66, 3) := by decide +kernel
theorem dX9_record_49 : decode cX9_record 49 = .ok (.iconst 0, 1) := by decide +kernel
theorem dX9_record_50 : decode cX9_record 50 = .ok (.istore_n 1, 1) := by decide +kernel
theorem dX9_record_51 : decode cX9_record 51 = .ok (.iload_n 1, 1) := by decide +kernel
theorem dX9_record_52 : decode cX9_record 52 = .ok (.sipush 281, 3) := by decide +kernel
theorem dX9_record_55 : decode cX9_record 55 = .ok (.if_icmp .ge 30, 3) := by decide +kernel
theorem dX9_record_58 : decode cX9_record 58 = .ok (.aload_n 0, 1) := by decide +kernel
theorem dX9_record_59 : decode cX9_record 59 = .ok (.getfield 13, 3) := by decide +kernel
theorem dX9_record_62 : decode cX9_record 62 = .ok (.sipush 281, 3) := by decide +kernel
theorem dX9_record_65 : decode cX9_record 65 = .ok (.aload_n 0, 1) := by decide +kernel
theorem dX9_record_66 : decode cX9_record 66 = .ok (.getfield 66, 3) := by decide +kernel
theorem dX9_record_69 : decode cX9_record 69 = .ok (.imul, 1) := by decide +kernel
theorem dX9_record_70 : decode cX9_record 70 = .ok (.iload_n 1, 1) := by decide +kernel
theorem dX9_record_71 : decode cX9_record 71 = .ok (.iadd, 1) := by decide +kernel
theorem dX9_record_72 : decode cX9_record 72 = .ok (.aload_n 0, 1) := by decide +kernel
theorem dX9_record_73 : decode cX9_record 73 = .ok (.getfield 7, 3) := by decide +kernel
theorem dX9_record_76 : decode cX9_record 76 = .ok (.iload_n 1, 1) := by decide +kernel
theorem dX9_record_77 : decode cX9_record 77 = .ok (.iaload, 1) := by decide +kernel
theorem dX9_record_78 : decode cX9_record 78 = .ok (.iastore, 1) := by decide +kernel
theorem dX9_record_79 : decode cX9_record 79 = .ok (.iinc 1 1, 3) := by decide +kernel
theorem dX9_record_82 : decode cX9_record 82 = .ok (.goto (-31), 3) := by decide +kernel
theorem dX9_record_85 : decode cX9_record 85 = .ok (.aload_n 0, 1) := by decide +kernel
theorem dX9_record_86 : decode cX9_record 86 = .ok (.dup, 1) := by decide +kernel
theorem dX9_record_87 : decode cX9_record 87 = .ok (.getfield 66, 3) := by decide +kernel
theorem dX9_record_90 : decode cX9_record 90 = .ok (.iconst 1, 1) := by decide +kernel
theorem dX9_record_91 : decode cX9_record 91 = .ok (.iadd, 1) := by decide +kernel
theorem dX9_record_92 : decode cX9_record 92 = .ok (.putfield 66, 3) := by decide +kernel
theorem dX9_record_95 : decode cX9_record 95 = .ok (.return_, 1) := by decide +kernel
theorem dX9_placeOf_0 : decode cX9_placeOf 0 = .ok (.bipush (-5), 2) := by decide +kernel
theorem dX9_placeOf_2 : decode cX9_placeOf 2 = .ok (.istore_n 2, 1) := by decide +kernel
theorem dX9_placeOf_3 : decode cX9_placeOf 3 = .ok (.iconst 0, 1) := by decide +kernel
theorem dX9_placeOf_4 : decode cX9_placeOf 4 = .ok (.istore_n 3, 1) := by decide +kernel
theorem dX9_placeOf_5 : decode cX9_placeOf 5 = .ok (.iload_n 3, 1) := by decide +kernel
theorem dX9_placeOf_6 : decode cX9_placeOf 6 = .ok (.bipush 10, 2) := by decide +kernel
theorem dX9_placeOf_8 : decode cX9_placeOf 8 = .ok (.if_icmp .ge 27, 3) := by decide +kernel
theorem dX9_placeOf_11 : decode cX9_placeOf 11 = .ok (.aload_n 0, 1) := by decide +kernel
theorem dX9_placeOf_12 : decode cX9_placeOf 12 = .ok (.getfield 7, 3) := by decide +kernel
theorem dX9_placeOf_15 : decode cX9_placeOf 15 = .ok (.iconst 0, 1) := by decide +kernel
theorem dX9_placeOf_16 : decode cX9_placeOf 16 = .ok (.iload_n 3, 1) := by decide +kernel
theorem dX9_placeOf_17 : decode cX9_placeOf 17 = .ok (.iadd, 1) := by decide +kernel
theorem dX9_placeOf_18 : decode cX9_placeOf 18 = .ok (.iaload, 1) := by decide +kernel
theorem dX9_placeOf_19 : decode cX9_placeOf 19 = .ok (.iload_n 1, 1) := by decide +kernel
theorem dX9_placeOf_20 : decode cX9_placeOf 20 = .ok (.if_icmp .ne 7, 3) := by decide +kernel
theorem dX9_placeOf_23 : decode cX9_placeOf 23 = .ok (.iload_n 3, 1) := by decide +kernel
theorem dX9_placeOf_24 : decode cX9_placeOf 24 = .ok (.goto 4, 3) := by decide +kernel
theorem dX9_placeOf_27 : decode cX9_placeOf 27 = .ok (.iload_n 2, 1) := by decide +kernel
theorem dX9_placeOf_28 : decode cX9_placeOf 28 = .ok (.istore_n 2, 1) := by decide +kernel
theorem dX9_placeOf_29 : decode cX9_placeOf 29 = .ok (.iinc 3 1, 3) := by decide +kernel
theorem dX9_placeOf_32 : decode cX9_placeOf 32 = .ok (.goto (-27), 3) := by decide +kernel
theorem dX9_placeOf_35 : decode cX9_placeOf 35 = .ok (.iload_n 2, 1) := by decide +kernel
theorem dX9_placeOf_36 : decode cX9_placeOf 36 = .ok (.ireturn, 1) := by decide +kernel
theorem dX9_atHome_0 : decode cX9_atHome 0 = .ok (.iconst 0, 1) := by decide +kernel
theorem dX9_atHome_1 : decode cX9_atHome 1 = .ok (.istore_n 2, 1) := by decide +kernel
theorem dX9_atHome_2 : decode cX9_atHome 2 = .ok (.iconst 0, 1) := by decide +kernel
theorem dX9_atHome_3 : decode cX9_atHome 3 = .ok (.istore_n 3, 1) := by decide +kernel
theorem dX9_atHome_4 : decode cX9_atHome 4 = .ok (.iload_n 3, 1) := by decide +kernel
theorem dX9_atHome_5 : decode cX9_atHome 5 = .ok (.bipush 10, 2) := by decide +kernel
theorem dX9_atHome_7 : decode cX9_atHome 7 = .ok (.if_icmp .ge 45, 3) := by decide +kernel
theorem dX9_atHome_10 : decode cX9_atHome 10 = .ok (.iload_n 2, 1) := by decide +kernel
theorem dX9_atHome_11 : decode cX9_atHome 11 = .ok (.aload_n 0, 1) := by decide +kernel
theorem dX9_atHome_12 : decode cX9_atHome 12 = .ok (.getfield 7, 3) := by decide +kernel
theorem dX9_atHome_15 : decode cX9_atHome 15 = .ok (.iconst 0, 1) := by decide +kernel
theorem dX9_atHome_16 : decode cX9_atHome 16 = .ok (.iload_n 3, 1) := by decide +kernel
theorem dX9_atHome_17 : decode cX9_atHome 17 = .ok (.iadd, 1) := by decide +kernel
theorem dX9_atHome_18 : decode cX9_atHome 18 = .ok (.iaload, 1) := by decide +kernel
theorem dX9_atHome_19 : decode cX9_atHome 19 = .ok (.iload_n 3, 1) := by decide +kernel
theorem dX9_atHome_20 : decode cX9_atHome 20 = .ok (.if_icmp .ne 23, 3) := by decide +kernel
theorem dX9_atHome_23 : decode cX9_atHome 23 = .ok (.iload_n 1, 1) := by decide +kernel
theorem dX9_atHome_24 : decode cX9_atHome 24 = .ok (.ifCond .eq 15, 3) := by decide +kernel
theorem dX9_atHome_27 : decode cX9_atHome 27 = .ok (.aload_n 0, 1) := by decide +kernel
theorem dX9_atHome_28 : decode cX9_atHome 28 = .ok (.getfield 7, 3) := by decide +kernel
theorem dX9_atHome_31 : decode cX9_atHome 31 = .ok (.bipush 10, 2) := by decide +kernel
theorem dX9_atHome_33 : decode cX9_atHome 33 = .ok (.iload_n 3, 1) := by decide +kernel
theorem dX9_atHome_34 : decode cX9_atHome 34 = .ok (.iadd, 1) := by decide +kernel
theorem dX9_atHome_35 : decode cX9_atHome 35 = .ok (.iaload, 1) := by decide +kernel
theorem dX9_atHome_36 : decode cX9_atHome 36 = .ok (.ifCond .ne 7, 3) := by decide +kernel
theorem dX9_atHome_39 : decode cX9_atHome 39 = .ok (.iconst 1, 1) := by decide +kernel
theorem dX9_atHome_40 : decode cX9_atHome 40 = .ok (.goto 4, 3) := by decide +kernel
theorem dX9_atHome_43 : decode cX9_atHome 43 = .ok (.iconst 0, 1) := by decide +kernel
theorem dX9_atHome_44 : decode cX9_atHome 44 = .ok (.iadd, 1) := by decide +kernel
theorem dX9_atHome_45 : decode cX9_atHome 45 = .ok (.istore_n 2, 1) := by decide +kernel
theorem dX9_atHome_46 : decode cX9_atHome 46 = .ok (.iinc 3 1, 3) := by decide +kernel
theorem dX9_atHome_49 : decode cX9_atHome 49 = .ok (.goto (-45), 3) := by decide +kernel
theorem dX9_atHome_52 : decode cX9_atHome 52 = .ok (.iload_n 2, 1) := by decide +kernel
theorem dX9_atHome_53 : decode cX9_atHome 53 = .ok (.ireturn, 1) := by decide +kernel
theorem dX9_undo_0 : decode cX9_undo 0 = .ok (.aload_n 0, 1) := by decide +kernel
theorem dX9_undo_1 : decode cX9_undo 1 = .ok (.getfield 66, 3) := by decide +kernel
theorem dX9_undo_4 : decode cX9_undo 4 = .ok (.ifCond .ne 6, 3) := by decide +kernel
theorem dX9_undo_7 : decode cX9_undo 7 = .ok (.bipush (-5), 2) := by decide +kernel
theorem dX9_undo_9 : decode cX9_undo 9 = .ok (.ireturn, 1) := by decide +kernel
theorem dX9_undo_10 : decode cX9_undo 10 = .ok (.aload_n 0, 1) := by decide +kernel
theorem dX9_undo_11 : decode cX9_undo 11 = .ok (.dup, 1) := by decide +kernel
theorem dX9_undo_12 : decode cX9_undo 12 = .ok (.getfield 66, 3) := by decide +kernel
theorem dX9_undo_15 : decode cX9_undo 15 = .ok (.iconst 1, 1) := by decide +kernel
theorem dX9_undo_16 : decode cX9_undo 16 = .ok (.isub, 1) := by decide +kernel
theorem dX9_undo_17 : decode cX9_undo 17 = .ok (.putfield 66, 3) := by decide +kernel
theorem dX9_undo_20 : decode cX9_undo 20 = .ok (.iconst 0, 1) := by decide +kernel
theorem dX9_undo_21 : decode cX9_undo 21 = .ok (.istore_n 1, 1) := by decide +kernel
theorem dX9_undo_22 : decode cX9_undo 22 = .ok (.iload_n 1, 1) := by decide +kernel
theorem dX9_undo_23 : decode cX9_undo 23 = .ok (.sipush 281, 3) := by decide +kernel
theorem dX9_undo_26 : decode cX9_undo 26 = .ok (.if_icmp .ge 30, 3) := by decide +kernel
theorem dX9_undo_29 : decode cX9_undo 29 = .ok (.aload_n 0, 1) := by decide +kernel
theorem dX9_undo_30 : decode cX9_undo 30 = .ok (.getfield 7, 3) := by decide +kernel
theorem dX9_undo_33 : decode cX9_undo 33 = .ok (.iload_n 1, 1) := by decide +kernel
theorem dX9_undo_34 : decode cX9_undo 34 = .ok (.aload_n 0, 1) := by decide +kernel
theorem dX9_undo_35 : decode cX9_undo 35 = .ok (.getfield 13, 3) := by decide +kernel
theorem dX9_undo_38 : decode cX9_undo 38 = .ok (.sipush 281, 3) := by decide +kernel
theorem dX9_undo_41 : decode cX9_undo 41 = .ok (.aload_n 0, 1) := by decide +kernel
theorem dX9_undo_42 : decode cX9_undo 42 = .ok (.getfield 66, 3) := by decide +kernel
theorem dX9_undo_45 : decode cX9_undo 45 = .ok (.imul, 1) := by decide +kernel
theorem dX9_undo_46 : decode cX9_undo 46 = .ok (.iload_n 1, 1) := by decide +kernel
theorem dX9_undo_47 : decode cX9_undo 47 = .ok (.iadd, 1) := by decide +kernel
theorem dX9_undo_48 : decode cX9_undo 48 = .ok (.iaload, 1) := by decide +kernel
theorem dX9_undo_49 : decode cX9_undo 49 = .ok (.iastore, 1) := by decide +kernel
theorem dX9_undo_50 : decode cX9_undo 50 = .ok (.iinc 1 1, 3) := by decide +kernel
theorem dX9_undo_53 : decode cX9_undo 53 = .ok (.goto (-31), 3) := by decide +kernel
theorem dX9_undo_56 : decode cX9_undo 56 = .ok (.aload_n 0, 1) := by decide +kernel
theorem dX9_undo_57 : decode cX9_undo 57 = .ok (.getfield 66, 3) := by decide +kernel
theorem dX9_undo_60 : decode cX9_undo 60 = .ok (.ireturn, 1) := by decide +kernel
theorem dX9_save_0 : decode cX9_save 0 = .ok (.iconst 0, 1) := by decide +kernel
theorem dX9_save_1 : decode cX9_save 1 = .ok (.istore_n 1, 1) := by decide +kernel
theorem dX9_save_2 : decode cX9_save 2 = .ok (.iload_n 1, 1) := by decide +kernel
theorem dX9_save_3 : decode cX9_save 3 = .ok (.sipush 281, 3) := by decide +kernel
theorem dX9_save_6 : decode cX9_save 6 = .ok (.if_icmp .ge 21, 3) := by decide +kernel
theorem dX9_save_9 : decode cX9_save 9 = .ok (.aload_n 0, 1) := by decide +kernel
theorem dX9_save_10 : decode cX9_save 10 = .ok (.getfield 16, 3) := by decide +kernel
theorem dX9_save_13 : decode cX9_save 13 = .ok (.iload_n 1, 1) := by decide +kernel
theorem dX9_save_14 : decode cX9_save 14 = .ok (.aload_n 0, 1) := by decide +kernel
theorem dX9_save_15 : decode cX9_save 15 = .ok (.getfield 7, 3) := by decide +kernel
theorem dX9_save_18 : decode cX9_save 18 = .ok (.iload_n 1, 1) := by decide +kernel
theorem dX9_save_19 : decode cX9_save 19 = .ok (.iaload, 1) := by decide +kernel
theorem dX9_save_20 : decode cX9_save 20 = .ok (.iastore, 1) := by decide +kernel
theorem dX9_save_21 : decode cX9_save 21 = .ok (.iinc 1 1, 3) := by decide +kernel
theorem dX9_save_24 : decode cX9_save 24 = .ok (.goto (-22), 3) := by decide +kernel
theorem dX9_save_27 : decode cX9_save 27 = .ok (.aload_n 0, 1) := by decide +kernel
theorem dX9_save_28 : decode cX9_save 28 = .ok (.iconst 1, 1) := by decide +kernel
theorem dX9_save_29 : decode cX9_save 29 = .ok (.putfield 70, 3) := by decide +kernel
theorem dX9_save_32 : decode cX9_save 32 = .ok (.aload_n 0, 1) := by decide +kernel
theorem dX9_save_33 : decode cX9_save 33 = .ok (.iconst 1, 1) := by decide +kernel
theorem dX9_save_34 : decode cX9_save 34 = .ok (.invokevirtual 74, 3) := by decide +kernel
theorem dX9_save_37 : decode cX9_save 37 = .ok (.ireturn, 1) := by decide +kernel
theorem dX9_restore_0 : decode cX9_restore 0 = .ok (.aload_n 0, 1) := by decide +kernel
theorem dX9_restore_1 : decode cX9_restore 1 = .ok (.getfield 70, 3) := by decide +kernel
theorem dX9_restore_4 : decode cX9_restore 4 = .ok (.ifCond .ne 6, 3) := by decide +kernel
theorem dX9_restore_7 : decode cX9_restore 7 = .ok (.bipush (-4), 2) := by decide +kernel
theorem dX9_restore_9 : decode cX9_restore 9 = .ok (.ireturn, 1) := by decide +kernel
theorem dX9_restore_10 : decode cX9_restore 10 = .ok (.aload_n 0, 1) := by decide +kernel
theorem dX9_restore_11 : decode cX9_restore 11 = .ok (.invokevirtual 78, 3) := by decide +kernel
theorem dX9_restore_14 : decode cX9_restore 14 = .ok (.iconst 0, 1) := by decide +kernel
theorem dX9_restore_15 : decode cX9_restore 15 = .ok (.istore_n 1, 1) := by decide +kernel
theorem dX9_restore_16 : decode cX9_restore 16 = .ok (.iload_n 1, 1) := by decide +kernel
theorem dX9_restore_17 : decode cX9_restore 17 = .ok (.sipush 281, 3) := by decide +kernel
theorem dX9_restore_20 : decode cX9_restore 20 = .ok (.if_icmp .ge 21, 3) := by decide +kernel
theorem dX9_restore_23 : decode cX9_restore 23 = .ok (.aload_n 0, 1) := by decide +kernel
theorem dX9_restore_24 : decode cX9_restore 24 = .ok (.getfield 7, 3) := by decide +kernel
theorem dX9_restore_27 : decode cX9_restore 27 = .ok (.iload_n 1, 1) := by decide +kernel
theorem dX9_restore_28 : decode cX9_restore 28 = .ok (.aload_n 0, 1) := by decide +kernel
theorem dX9_restore_29 : decode cX9_restore 29 = .ok (.getfield 16, 3) := by decide +kernel
theorem dX9_restore_32 : decode cX9_restore 32 = .ok (.iload_n 1, 1) := by decide +kernel
theorem dX9_restore_33 : decode cX9_restore 33 = .ok (.iaload, 1) := by decide +kernel
theorem dX9_restore_34 : decode cX9_restore 34 = .ok (.iastore, 1) := by decide +kernel
theorem dX9_restore_35 : decode cX9_restore 35 = .ok (.iinc 1 1, 3) := by decide +kernel
theorem dX9_restore_38 : decode cX9_restore 38 = .ok (.goto (-22), 3) := by decide +kernel
theorem dX9_restore_41 : decode cX9_restore 41 = .ok (.aload_n 0, 1) := by decide +kernel
theorem dX9_restore_42 : decode cX9_restore 42 = .ok (.iconst 1, 1) := by decide +kernel
theorem dX9_restore_43 : decode cX9_restore 43 = .ok (.invokevirtual 74, 3) := by decide +kernel
theorem dX9_restore_46 : decode cX9_restore 46 = .ok (.ireturn, 1) := by decide +kernel
theorem dX9_unroll_0 : decode cX9_unroll 0 = .ok (.iconst 0, 1) := by decide +kernel
theorem dX9_unroll_1 : decode cX9_unroll 1 = .ok (.istore_n 1, 1) := by decide +kernel
theorem dX9_unroll_2 : decode cX9_unroll 2 = .ok (.iload_n 1, 1) := by decide +kernel
theorem dX9_unroll_3 : decode cX9_unroll 3 = .ok (.bipush 8, 2) := by decide +kernel
theorem dX9_unroll_5 : decode cX9_unroll 5 = .ok (.if_icmp .ge 85, 3) := by decide +kernel
theorem dX9_unroll_8 : decode cX9_unroll 8 = .ok (.aload_n 0, 1) := by decide +kernel
theorem dX9_unroll_9 : decode cX9_unroll 9 = .ok (.getfield 19, 3) := by decide +kernel
theorem dX9_unroll_12 : decode cX9_unroll 12 = .ok (.iload_n 1, 1) := by decide +kernel
theorem dX9_unroll_13 : decode cX9_unroll 13 = .ok (.iconst 0, 1) := by decide +kernel
theorem dX9_unroll_14 : decode cX9_unroll 14 = .ok (.iastore, 1) := by decide +kernel
theorem dX9_unroll_15 : decode cX9_unroll 15 = .ok (.iconst 0, 1) := by decide +kernel
theorem dX9_unroll_16 : decode cX9_unroll 16 = .ok (.istore_n 2, 1) := by decide +kernel
theorem dX9_unroll_17 : decode cX9_unroll 17 = .ok (.iload_n 2, 1) := by decide +kernel
theorem dX9_unroll_18 : decode cX9_unroll 18 = .ok (.aload_n 0, 1) := by decide +kernel
theorem dX9_unroll_19 : decode cX9_unroll 19 = .ok (.iload_n 1, 1) := by decide +kernel
theorem dX9_unroll_20 : decode cX9_unroll 20 = .ok (.invokevirtual 81, 3) := by decide +kernel
theorem dX9_unroll_23 : decode cX9_unroll 23 = .ok (.if_icmp .ge 61, 3) := by decide +kernel
theorem dX9_unroll_26 : decode cX9_unroll 26 = .ok (.aload_n 0, 1) := by decide +kernel
theorem dX9_unroll_27 : decode cX9_unroll 27 = .ok (.iload_n 1, 1) := by decide +kernel
theorem dX9_unroll_28 : decode cX9_unroll 28 = .ok (.iload_n 2, 1) := by decide +kernel
theorem dX9_unroll_29 : decode cX9_unroll 29 = .ok (.iconst 0, 1) := by decide +kernel
theorem dX9_unroll_30 : decode cX9_unroll 30 = .ok (.invokevirtual 85, 3) := by decide +kernel
theorem dX9_unroll_33 : decode cX9_unroll 33 = .ok (.iconst 4, 1) := by decide +kernel
theorem dX9_unroll_34 : decode cX9_unroll 34 = .ok (.if_icmp .ne 18, 3) := by decide +kernel
theorem dX9_unroll_37 : decode cX9_unroll 37 = .ok (.aload_n 0, 1) := by decide +kernel
theorem dX9_unroll_38 : decode cX9_unroll 38 = .ok (.iload_n 1, 1) := by decide +kernel
theorem dX9_unroll_39 : decode cX9_unroll 39 = .ok (.aload_n 0, 1) := by decide +kernel
theorem dX9_unroll_40 : decode cX9_unroll 40 = .ok (.iload_n 1, 1) := by decide +kernel
theorem dX9_unroll_41 : decode cX9_unroll 41 = .ok (.iload_n 2, 1) := by decide +kernel
theorem dX9_unroll_42 : decode cX9_unroll 42 = .ok (.iconst 1, 1) := by decide +kernel
theorem dX9_unroll_43 : decode cX9_unroll 43 = .ok (.invokevirtual 85, 3) := by decide +kernel
theorem dX9_unroll_46 : decode cX9_unroll 46 = .ok (.invokevirtual 89, 3) := by decide +kernel
theorem dX9_unroll_49 : decode cX9_unroll 49 = .ok (.goto 29, 3) := by decide +kernel
theorem dX9_unroll_52 : decode cX9_unroll 52 = .ok (.aload_n 0, 1) := by decide +kernel
theorem dX9_unroll_53 : decode cX9_unroll 53 = .ok (.iload_n 1, 1) := by decide +kernel
theorem dX9_unroll_54 : decode cX9_unroll 54 = .ok (.aload_n 0, 1) := by decide +kernel
theorem dX9_unroll_55 : decode cX9_unroll 55 = .ok (.iload_n 1, 1) := by decide +kernel
theorem dX9_unroll_56 : decode cX9_unroll 56 = .ok (.iload_n 2, 1) := by decide +kernel
theorem dX9_unroll_57 : decode cX9_unroll 57 = .ok (.iconst 0, 1) := by decide +kernel
theorem dX9_unroll_58 : decode cX9_unroll 58 = .ok (.invokevirtual 85, 3) := by decide +kernel
theorem dX9_unroll_61 : decode cX9_unroll 61 = .ok (.aload_n 0, 1) := by decide +kernel
theorem dX9_unroll_62 : decode cX9_unroll 62 = .ok (.iload_n 1, 1) := by decide +kernel
theorem dX9_unroll_63 : decode cX9_unroll 63 = .ok (.iload_n 2, 1) := by decide +kernel
theorem dX9_unroll_64 : decode cX9_unroll 64 = .ok (.iconst 1, 1) := by decide +kernel
theorem dX9_unroll_65 : decode cX9_unroll 65 = .ok (.invokevirtual 85, 3) := by decide +kernel
theorem dX9_unroll_68 : decode cX9_unroll 68 = .ok (.aload_n 0, 1) := by decide +kernel
theorem dX9_unroll_69 : decode cX9_unroll 69 = .ok (.iload_n 1, 1) := by decide +kernel
theorem dX9_unroll_70 : decode cX9_unroll 70 = .ok (.iload_n 2, 1) := by decide +kernel
theorem dX9_unroll_71 : decode cX9_unroll 71 = .ok (.iconst 2, 1) := by decide +kernel
theorem dX9_unroll_72 : decode cX9_unroll 72 = .ok (.invokevirtual 85, 3) := by decide +kernel
theorem dX9_unroll_75 : decode cX9_unroll 75 = .ok (.invokevirtual 93, 3) := by decide +kernel
theorem dX9_unroll_78 : decode cX9_unroll 78 = .ok (.iinc 2 1, 3) := by decide +kernel
theorem dX9_unroll_81 : decode cX9_unroll 81 = .ok (.goto (-64), 3) := by decide +kernel
theorem dX9_unroll_84 : decode cX9_unroll 84 = .ok (.iinc 1 1, 3) := by decide +kernel
theorem dX9_unroll_87 : decode cX9_unroll 87 = .ok (.goto (-85), 3) := by decide +kernel
theorem dX9_unroll_90 : decode cX9_unroll 90 = .ok (.return_, 1) := by decide +kernel
theorem dX9_addStep_0 : decode cX9_addStep 0 = .ok (.iconst 3, 1) := by decide +kernel
theorem dX9_addStep_1 : decode cX9_addStep 1 = .ok (.bipush 120, 2) := by decide +kernel
theorem dX9_addStep_3 : decode cX9_addStep 3 = .ok (.iload_n 1, 1) := by decide +kernel
theorem dX9_addStep_4 : decode cX9_addStep 4 = .ok (.imul, 1) := by decide +kernel
theorem dX9_addStep_5 : decode cX9_addStep 5 = .ok (.aload_n 0, 1) := by decide +kernel
theorem dX9_addStep_6 : decode cX9_addStep 6 = .ok (.getfield 19, 3) := by decide +kernel
theorem dX9_addStep_9 : decode cX9_addStep 9 = .ok (.iload_n 1, 1) := by decide +kernel
theorem dX9_addStep_10 : decode cX9_addStep 10 = .ok (.iaload, 1) := by decide +kernel
theorem dX9_addStep_11 : decode cX9_addStep 11 = .ok (.iadd, 1) := by decide +kernel
theorem dX9_addStep_12 : decode cX9_addStep 12 = .ok (.imul, 1) := by decide +kernel
theorem dX9_addStep_13 : decode cX9_addStep 13 = .ok (.istore 5, 2) := by decide +kernel
theorem dX9_addStep_15 : decode cX9_addStep 15 = .ok (.aload_n 0, 1) := by decide +kernel
theorem dX9_addStep_16 : decode cX9_addStep 16 = .ok (.getfield 22, 3) := by decide +kernel
theorem dX9_addStep_19 : decode cX9_addStep 19 = .ok (.iload 5, 2) := by decide +kernel
theorem dX9_addStep_21 : decode cX9_addStep 21 = .ok (.iload_n 2, 1) := by decide +kernel
theorem dX9_addStep_22 : decode cX9_addStep 22 = .ok (.iastore, 1) := by decide +kernel
theorem dX9_addStep_23 : decode cX9_addStep 23 = .ok (.aload_n 0, 1) := by decide +kernel
theorem dX9_addStep_24 : decode cX9_addStep 24 = .ok (.getfield 22, 3) := by decide +kernel
theorem dX9_addStep_27 : decode cX9_addStep 27 = .ok (.iload 5, 2) := by decide +kernel
theorem dX9_addStep_29 : decode cX9_addStep 29 = .ok (.iconst 1, 1) := by decide +kernel
theorem dX9_addStep_30 : decode cX9_addStep 30 = .ok (.iadd, 1) := by decide +kernel
theorem dX9_addStep_31 : decode cX9_addStep 31 = .ok (.iload_n 3, 1) := by decide +kernel
theorem dX9_addStep_32 : decode cX9_addStep 32 = .ok (.iastore, 1) := by decide +kernel
theorem dX9_addStep_33 : decode cX9_addStep 33 = .ok (.aload_n 0, 1) := by decide +kernel
theorem dX9_addStep_34 : decode cX9_addStep 34 = .ok (.getfield 22, 3) := by decide +kernel
theorem dX9_addStep_37 : decode cX9_addStep 37 = .ok (.iload 5, 2) := by decide +kernel
theorem dX9_addStep_39 : decode cX9_addStep 39 = .ok (.iconst 2, 1) := by decide +kernel
theorem dX9_addStep_40 : decode cX9_addStep 40 = .ok (.iadd, 1) := by decide +kernel
theorem dX9_addStep_41 : decode cX9_addStep 41 = .ok (.iload 4, 2) := by decide +kernel
theorem dX9_addStep_43 : decode cX9_addStep 43 = .ok (.iastore, 1) := by decide +kernel
theorem dX9_addStep_44 : decode cX9_addStep 44 = .ok (.aload_n 0, 1) := by decide +kernel
theorem dX9_addStep_45 : decode cX9_addStep 45 = .ok (.getfield 19, 3) := by decide +kernel
theorem dX9_addStep_48 : decode cX9_addStep 48 = .ok (.iload_n 1, 1) := by decide +kernel
theorem dX9_addStep_49 : decode cX9_addStep 49 = .ok (.dup2, 1) := by decide +kernel
theorem dX9_addStep_50 : decode cX9_addStep 50 = .ok (.iaload, 1) := by decide +kernel
theorem dX9_addStep_51 : decode cX9_addStep 51 = .ok (.iconst 1, 1) := by decide +kernel
theorem dX9_addStep_52 : decode cX9_addStep 52 = .ok (.iadd, 1) := by decide +kernel
theorem dX9_addStep_53 : decode cX9_addStep 53 = .ok (.iastore, 1) := by decide +kernel
theorem dX9_addStep_54 : decode cX9_addStep 54 = .ok (.return_, 1) := by decide +kernel
theorem dX9_addAll_0 : decode cX9_addAll 0 = .ok (.iconst 0, 1) := by decide +kernel
theorem dX9_addAll_1 : decode cX9_addAll 1 = .ok (.istore_n 3, 1) := by decide +kernel
theorem dX9_addAll_2 : decode cX9_addAll 2 = .ok (.iload_n 3, 1) := by decide +kernel
theorem dX9_addAll_3 : decode cX9_addAll 3 = .ok (.aload_n 0, 1) := by decide +kernel
theorem dX9_addAll_4 : decode cX9_addAll 4 = .ok (.getfield 19, 3) := by decide +kernel
theorem dX9_addAll_7 : decode cX9_addAll 7 = .ok (.iload_n 2, 1) := by decide +kernel
theorem dX9_addAll_8 : decode cX9_addAll 8 = .ok (.iaload, 1) := by decide +kernel
theorem dX9_addAll_9 : decode cX9_addAll 9 = .ok (.if_icmp .ge 49, 3) := by decide +kernel
theorem dX9_addAll_12 : decode cX9_addAll 12 = .ok (.iconst 3, 1) := by decide +kernel
theorem dX9_addAll_13 : decode cX9_addAll 13 = .ok (.bipush 120, 2) := by decide +kernel
theorem dX9_addAll_15 : decode cX9_addAll 15 = .ok (.iload_n 2, 1) := by decide +kernel
theorem dX9_addAll_16 : decode cX9_addAll 16 = .ok (.imul, 1) := by decide +kernel
theorem dX9_addAll_17 : decode cX9_addAll 17 = .ok (.iload_n 3, 1) := by decide +kernel
theorem dX9_addAll_18 : decode cX9_addAll 18 = .ok (.iadd, 1) := by decide +kernel
theorem dX9_addAll_19 : decode cX9_addAll 19 = .ok (.imul, 1) := by decide +kernel
theorem dX9_addAll_20 : decode cX9_addAll 20 = .ok (.istore 4, 2) := by decide +kernel
theorem dX9_addAll_22 : decode cX9_addAll 22 = .ok (.aload_n 0, 1) := by decide +kernel
theorem dX9_addAll_23 : decode cX9_addAll 23 = .ok (.iload_n 1, 1) := by decide +kernel
theorem dX9_addAll_24 : decode cX9_addAll 24 = .ok (.aload_n 0, 1) := by decide +kernel
theorem dX9_addAll_25 : decode cX9_addAll 25 = .ok (.getfield 22, 3) := by decide +kernel
theorem dX9_addAll_28 : decode cX9_addAll 28 = .ok (.iload 4, 2) := by decide +kernel
theorem dX9_addAll_30 : decode cX9_addAll 30 = .ok (.iaload, 1) := by decide +kernel
theorem dX9_addAll_31 : decode cX9_addAll 31 = .ok (.aload_n 0, 1) := by decide +kernel
theorem dX9_addAll_32 : decode cX9_addAll 32 = .ok (.getfield 22, 3) := by decide +kernel
theorem dX9_addAll_35 : decode cX9_addAll 35 = .ok (.iload 4, 2) := by decide +kernel
theorem dX9_addAll_37 : decode cX9_addAll 37 = .ok (.iconst 1, 1) := by decide +kernel
theorem dX9_addAll_38 : decode cX9_addAll 38 = .ok (.iadd, 1) := by decide +kernel
theorem dX9_addAll_39 : decode cX9_addAll 39 = .ok (.iaload, 1) := by decide +kernel
theorem dX9_addAll_40 : decode cX9_addAll 40 = .ok (.aload_n 0, 1) := by decide +kernel
theorem dX9_addAll_41 : decode cX9_addAll 41 = .ok (.getfield 22, 3) := by decide +kernel
theorem dX9_addAll_44 : decode cX9_addAll 44 = .ok (.iload 4, 2) := by decide +kernel
theorem dX9_addAll_46 : decode cX9_addAll 46 = .ok (.iconst 2, 1) := by decide +kernel
theorem dX9_addAll_47 : decode cX9_addAll 47 = .ok (.iadd, 1) := by decide +kernel
theorem dX9_addAll_48 : decode cX9_addAll 48 = .ok (.iaload, 1) := by decide +kernel
theorem dX9_addAll_49 : decode cX9_addAll 49 = .ok (.invokevirtual 93, 3) := by decide +kernel
theorem dX9_addAll_52 : decode cX9_addAll 52 = .ok (.iinc 3 1, 3) := by decide +kernel
theorem dX9_addAll_55 : decode cX9_addAll 55 = .ok (.goto (-53), 3) := by decide +kernel
theorem dX9_addAll_58 : decode cX9_addAll 58 = .ok (.return_, 1) := by decide +kernel
theorem dX9_isRoom_0 : decode cX9_isRoom 0 = .ok (.iconst 1, 1) := by decide +kernel
theorem dX9_isRoom_1 : decode cX9_isRoom 1 = .ok (.istore_n 3, 1) := by decide +kernel
theorem dX9_isRoom_2 : decode cX9_isRoom 2 = .ok (.iconst 0, 1) := by decide +kernel
theorem dX9_isRoom_3 : decode cX9_isRoom 3 = .ok (.istore 4, 2) := by decide +kernel
theorem dX9_isRoom_5 : decode cX9_isRoom 5 = .ok (.iload 4, 2) := by decide +kernel
theorem dX9_isRoom_7 : decode cX9_isRoom 7 = .ok (.bipush 8, 2) := by decide +kernel
theorem dX9_isRoom_9 : decode cX9_isRoom 9 = .ok (.if_icmp .ge 110, 3) := by decide +kernel
theorem dX9_isRoom_12 : decode cX9_isRoom 12 = .ok (.aload_n 0, 1) := by decide +kernel
theorem dX9_isRoom_13 : decode cX9_isRoom 13 = .ok (.getfield 25, 3) := by decide +kernel
theorem dX9_isRoom_16 : decode cX9_isRoom 16 = .ok (.iload 4, 2) := by decide +kernel
theorem dX9_isRoom_18 : decode cX9_isRoom 18 = .ok (.iload 4, 2) := by decide +kernel
theorem dX9_isRoom_20 : decode cX9_isRoom 20 = .ok (.iload_n 1, 1) := by decide +kernel
theorem dX9_isRoom_21 : decode cX9_isRoom 21 = .ok (.if_icmp .ne 7, 3) := by decide +kernel
theorem dX9_isRoom_24 : decode cX9_isRoom 24 = .ok (.iload_n 2, 1) := by decide +kernel
theorem dX9_isRoom_25 : decode cX9_isRoom 25 = .ok (.goto 4, 3) := by decide +kernel
theorem dX9_isRoom_28 : decode cX9_isRoom 28 = .ok (.iconst 0, 1) := by decide +kernel
theorem dX9_isRoom_29 : decode cX9_isRoom 29 = .ok (.iastore, 1) := by decide +kernel
theorem dX9_isRoom_30 : decode cX9_isRoom 30 = .ok (.iconst 0, 1) := by decide +kernel
theorem dX9_isRoom_31 : decode cX9_isRoom 31 = .ok (.istore 5, 2) := by decide +kernel
theorem dX9_isRoom_33 : decode cX9_isRoom 33 = .ok (.iload 5, 2) := by decide +kernel
theorem dX9_isRoom_35 : decode cX9_isRoom 35 = .ok (.aload_n 0, 1) := by decide +kernel
theorem dX9_isRoom_36 : decode cX9_isRoom 36 = .ok (.iload 4, 2) := by decide +kernel
theorem dX9_isRoom_38 : decode cX9_isRoom 38 = .ok (.invokevirtual 81, 3) := by decide +kernel
theorem dX9_isRoom_41 : decode cX9_isRoom 41 = .ok (.if_icmp .ge 50, 3) := by decide +kernel
theorem dX9_isRoom_44 : decode cX9_isRoom 44 = .ok (.aload_n 0, 1) := by decide +kernel
theorem dX9_isRoom_45 : decode cX9_isRoom 45 = .ok (.getfield 25, 3) := by decide +kernel
theorem dX9_isRoom_48 : decode cX9_isRoom 48 = .ok (.iload 4, 2) := by decide +kernel
theorem dX9_isRoom_50 : decode cX9_isRoom 50 = .ok (.dup2, 1) := by decide +kernel
theorem dX9_isRoom_51 : decode cX9_isRoom 51 = .ok (.iaload, 1) := by decide +kernel
theorem dX9_isRoom_52 : decode cX9_isRoom 52 = .ok (.aload_n 0, 1) := by decide +kernel
theorem dX9_isRoom_53 : decode cX9_isRoom 53 = .ok (.iload 4, 2) := by decide +kernel
theorem dX9_isRoom_55 : decode cX9_isRoom 55 = .ok (.iload 5, 2) := by decide +kernel
theorem dX9_isRoom_57 : decode cX9_isRoom 57 = .ok (.iconst 0, 1) := by decide +kernel
theorem dX9_isRoom_58 : decode cX9_isRoom 58 = .ok (.invokevirtual 85, 3) := by decide +kernel
theorem dX9_isRoom_61 : decode cX9_isRoom 61 = .ok (.iconst 4, 1) := by decide +kernel
theorem dX9_isRoom_62 : decode cX9_isRoom 62 = .ok (.if_icmp .ne 20, 3) := by decide +kernel
theorem dX9_isRoom_65 : decode cX9_isRoom 65 = .ok (.aload_n 0, 1) := by decide +kernel
theorem dX9_isRoom_66 : decode cX9_isRoom 66 = .ok (.getfield 25, 3) := by decide +kernel
theorem dX9_isRoom_69 : decode cX9_isRoom 69 = .ok (.aload_n 0, 1) := by decide +kernel
theorem dX9_isRoom_70 : decode cX9_isRoom 70 = .ok (.iload 4, 2) := by decide +kernel
theorem dX9_isRoom_72 : decode cX9_isRoom 72 = .ok (.iload 5, 2) := by decide +kernel
theorem dX9_isRoom_74 : decode cX9_isRoom 74 = .ok (.iconst 1, 1) := by decide +kernel
theorem dX9_isRoom_75 : decode cX9_isRoom 75 = .ok (.invokevirtual 85, 3) := by decide +kernel
theorem dX9_isRoom_78 : decode cX9_isRoom 78 = .ok (.iaload, 1) := by decide +kernel
theorem dX9_isRoom_79 : decode cX9_isRoom 79 = .ok (.goto 4, 3) := by decide +kernel
theorem dX9_isRoom_82 : decode cX9_isRoom 82 = .ok (.iconst 1, 1) := by decide +kernel
theorem dX9_isRoom_83 : decode cX9_isRoom 83 = .ok (.iadd, 1) := by decide +kernel
theorem dX9_isRoom_84 : decode cX9_isRoom 84 = .ok (.iastore, 1) := by decide +kernel
theorem dX9_isRoom_85 : decode cX9_isRoom 85 = .ok (.iinc 5 1, 3) := by decide +kernel
theorem dX9_isRoom_88 : decode cX9_isRoom 88 = .ok (.goto (-55), 3) := by decide +kernel
theorem dX9_isRoom_91 : decode cX9_isRoom 91 = .ok (.iload_n 3, 1) := by decide +kernel
theorem dX9_isRoom_92 : decode cX9_isRoom 92 = .ok (.ifCond .eq 19, 3) := by decide +kernel
theorem dX9_isRoom_95 : decode cX9_isRoom 95 = .ok (.aload_n 0, 1) := by decide +kernel
theorem dX9_isRoom_96 : decode cX9_isRoom 96 = .ok (.getfield 25, 3) := by decide +kernel
theorem dX9_isRoom_99 : decode cX9_isRoom 99 = .ok (.iload 4, 2) := by decide +kernel
theorem dX9_isRoom_101 : decode cX9_isRoom 101 = .ok (.iaload, 1) := by decide +kernel
theorem dX9_isRoom_102 : decode cX9_isRoom 102 = .ok (.bipush 120, 2) := by decide +kernel
theorem dX9_isRoom_104 : decode cX9_isRoom 104 = .ok (.if_icmp .gt 7, 3) := by decide +kernel
theorem dX9_isRoom_107 : decode cX9_isRoom 107 = .ok (.iconst 1, 1) := by decide +kernel
theorem dX9_isRoom_108 : decode cX9_isRoom 108 = .ok (.goto 4, 3) := by decide +kernel
theorem dX9_isRoom_111 : decode cX9_isRoom 111 = .ok (.iconst 0, 1) := by decide +kernel
theorem dX9_isRoom_112 : decode cX9_isRoom 112 = .ok (.istore_n 3, 1) := by decide +kernel
theorem dX9_isRoom_113 : decode cX9_isRoom 113 = .ok (.iinc 4 1, 3) := by decide +kernel
theorem dX9_isRoom_116 : decode cX9_isRoom 116 = .ok (.goto (-111), 3) := by decide +kernel
theorem dX9_isRoom_119 : decode cX9_isRoom 119 = .ok (.iload_n 3, 1) := by decide +kernel
theorem dX9_isRoom_120 : decode cX9_isRoom 120 = .ok (.ireturn, 1) := by decide +kernel
theorem dX9_isMove_0 : decode cX9_isMove 0 = .ok (.iload_n 1, 1) := by decide +kernel
theorem dX9_isMove_1 : decode cX9_isMove 1 = .ok (.tableswitch 129 0 4 #[35, 63, 88, 35, 108], 35) := by decide +kernel
theorem dX9_isMove_36 : decode cX9_isMove 36 = .ok (.iload_n 2, 1) := by decide +kernel
theorem dX9_isMove_37 : decode cX9_isMove 37 = .ok (.iconst 0, 1) := by decide +kernel
theorem dX9_isMove_38 : decode cX9_isMove 38 = .ok (.bipush 8, 2) := by decide +kernel
theorem dX9_isMove_40 : decode cX9_isMove 40 = .ok (.invokestatic 62, 3) := by decide +kernel
theorem dX9_isMove_43 : decode cX9_isMove 43 = .ok (.ifCond .eq 19, 3) := by decide +kernel
theorem dX9_isMove_46 : decode cX9_isMove 46 = .ok (.iload_n 3, 1) := by decide +kernel
theorem dX9_isMove_47 : decode cX9_isMove 47 = .ok (.iload_n 2, 1) := by decide +kernel
theorem dX9_isMove_48 : decode cX9_isMove 48 = .ok (.iconst 1, 1) := by decide +kernel
theorem dX9_isMove_49 : decode cX9_isMove 49 = .ok (.iadd, 1) := by decide +kernel
theorem dX9_isMove_50 : decode cX9_isMove 50 = .ok (.bipush 9, 2) := by decide +kernel
theorem dX9_isMove_52 : decode cX9_isMove 52 = .ok (.invokestatic 62, 3) := by decide +kernel
theorem dX9_isMove_55 : decode cX9_isMove 55 = .ok (.ifCond .eq 7, 3) := by decide +kernel
theorem dX9_isMove_58 : decode cX9_isMove 58 = .ok (.iconst 1, 1) := by decide +kernel
theorem dX9_isMove_59 : decode cX9_isMove 59 = .ok (.goto 4, 3) := by decide +kernel
theorem dX9_isMove_62 : decode cX9_isMove 62 = .ok (.iconst 0, 1) := by decide +kernel
theorem dX9_isMove_63 : decode cX9_isMove 63 = .ok (.ireturn, 1) := by decide +kernel
theorem dX9_isMove_64 : decode cX9_isMove 64 = .ok (.iload_n 2, 1) := by decide +kernel
theorem dX9_isMove_65 : decode cX9_isMove 65 = .ok (.iconst 0, 1) := by decide +kernel
theorem dX9_isMove_66 : decode cX9_isMove 66 = .ok (.bipush 9, 2) := by decide +kernel
theorem dX9_isMove_68 : decode cX9_isMove 68 = .ok (.invokestatic 62, 3) := by decide +kernel
theorem dX9_isMove_71 : decode cX9_isMove 71 = .ok (.ifCond .eq 16, 3) := by decide +kernel
theorem dX9_isMove_74 : decode cX9_isMove 74 = .ok (.iload_n 3, 1) := by decide +kernel
theorem dX9_isMove_75 : decode cX9_isMove 75 = .ok (.iconst 1, 1) := by decide +kernel
theorem dX9_isMove_76 : decode cX9_isMove 76 = .ok (.iconst 3, 1) := by decide +kernel
theorem dX9_isMove_77 : decode cX9_isMove 77 = .ok (.invokestatic 62, 3) := by decide +kernel
theorem dX9_isMove_80 : decode cX9_isMove 80 = .ok (.ifCond .eq 7, 3) := by decide +kernel
theorem dX9_isMove_83 : decode cX9_isMove 83 = .ok (.iconst 1, 1) := by decide +kernel
theorem dX9_isMove_84 : decode cX9_isMove 84 = .ok (.goto 4, 3) := by decide +kernel
theorem dX9_isMove_87 : decode cX9_isMove 87 = .ok (.iconst 0, 1) := by decide +kernel
theorem dX9_isMove_88 : decode cX9_isMove 88 = .ok (.ireturn, 1) := by decide +kernel
theorem dX9_isMove_89 : decode cX9_isMove 89 = .ok (.iload_n 2, 1) := by decide +kernel
theorem dX9_isMove_90 : decode cX9_isMove 90 = .ok (.iconst 1, 1) := by decide +kernel
theorem dX9_isMove_91 : decode cX9_isMove 91 = .ok (.bipush 9, 2) := by decide +kernel
theorem dX9_isMove_93 : decode cX9_isMove 93 = .ok (.invokestatic 62, 3) := by decide +kernel
theorem dX9_isMove_96 : decode cX9_isMove 96 = .ok (.ifCond .eq 11, 3) := by decide +kernel
theorem dX9_isMove_99 : decode cX9_isMove 99 = .ok (.iload_n 3, 1) := by decide +kernel
theorem dX9_isMove_100 : decode cX9_isMove 100 = .ok (.ifCond .ne 7, 3) := by decide +kernel
theorem dX9_isMove_103 : decode cX9_isMove 103 = .ok (.iconst 1, 1) := by decide +kernel
theorem dX9_isMove_104 : decode cX9_isMove 104 = .ok (.goto 4, 3) := by decide +kernel
theorem dX9_isMove_107 : decode cX9_isMove 107 = .ok (.iconst 0, 1) := by decide +kernel
theorem dX9_isMove_108 : decode cX9_isMove 108 = .ok (.ireturn, 1) := by decide +kernel
theorem dX9_isMove_109 : decode cX9_isMove 109 = .ok (.iload_n 2, 1) := by decide +kernel
theorem dX9_isMove_110 : decode cX9_isMove 110 = .ok (.iconst 0, 1) := by decide +kernel
theorem dX9_isMove_111 : decode cX9_isMove 111 = .ok (.iload_n 0, 1) := by decide +kernel
theorem dX9_isMove_112 : decode cX9_isMove 112 = .ok (.iconst 1, 1) := by decide +kernel
theorem dX9_isMove_113 : decode cX9_isMove 113 = .ok (.isub, 1) := by decide +kernel
theorem dX9_isMove_114 : decode cX9_isMove 114 = .ok (.invokestatic 62, 3) := by decide +kernel
theorem dX9_isMove_117 : decode cX9_isMove 117 = .ok (.ifCond .eq 11, 3) := by decide +kernel
theorem dX9_isMove_120 : decode cX9_isMove 120 = .ok (.iload_n 3, 1) := by decide +kernel
theorem dX9_isMove_121 : decode cX9_isMove 121 = .ok (.ifCond .ne 7, 3) := by decide +kernel
theorem dX9_isMove_124 : decode cX9_isMove 124 = .ok (.iconst 1, 1) := by decide +kernel
theorem dX9_isMove_125 : decode cX9_isMove 125 = .ok (.goto 4, 3) := by decide +kernel
theorem dX9_isMove_128 : decode cX9_isMove 128 = .ok (.iconst 0, 1) := by decide +kernel
theorem dX9_isMove_129 : decode cX9_isMove 129 = .ok (.ireturn, 1) := by decide +kernel
theorem dX9_isMove_130 : decode cX9_isMove 130 = .ok (.iconst 0, 1) := by decide +kernel
theorem dX9_isMove_131 : decode cX9_isMove 131 = .ok (.ireturn, 1) := by decide +kernel
theorem dX9_add_0 : decode cX9_add 0 = .ok (.iload_n 1, 1) := by decide +kernel
theorem dX9_add_1 : decode cX9_add 1 = .ok (.invokestatic 97, 3) := by decide +kernel
theorem dX9_add_4 : decode cX9_add 4 = .ok (.ifCond .ne 5, 3) := by decide +kernel
theorem dX9_add_7 : decode cX9_add 7 = .ok (.iconst (-1), 1) := by decide +kernel
theorem dX9_add_8 : decode cX9_add 8 = .ok (.ireturn, 1) := by decide +kernel
theorem dX9_add_9 : decode cX9_add 9 = .ok (.iload_n 1, 1) := by decide +kernel
theorem dX9_add_10 : decode cX9_add 10 = .ok (.iload_n 2, 1) := by decide +kernel
theorem dX9_add_11 : decode cX9_add 11 = .ok (.iload_n 3, 1) := by decide +kernel
theorem dX9_add_12 : decode cX9_add 12 = .ok (.iload 4, 2) := by decide +kernel
theorem dX9_add_14 : decode cX9_add 14 = .ok (.invokestatic 101, 3) := by decide +kernel
theorem dX9_add_17 : decode cX9_add 17 = .ok (.ifCond .ne 6, 3) := by decide +kernel
theorem dX9_add_20 : decode cX9_add 20 = .ok (.bipush (-2), 2) := by decide +kernel
theorem dX9_add_22 : decode cX9_add 22 = .ok (.ireturn, 1) := by decide +kernel
theorem dX9_add_23 : decode cX9_add 23 = .ok (.aload_n 0, 1) := by decide +kernel
theorem dX9_add_24 : decode cX9_add 24 = .ok (.iload_n 1, 1) := by decide +kernel
theorem dX9_add_25 : decode cX9_add 25 = .ok (.invokevirtual 81, 3) := by decide +kernel
theorem dX9_add_28 : decode cX9_add 28 = .ok (.bipush 10, 2) := by decide +kernel
theorem dX9_add_30 : decode cX9_add 30 = .ok (.if_icmp .eq 25, 3) := by decide +kernel
theorem dX9_add_33 : decode cX9_add 33 = .ok (.aload_n 0, 1) := by decide +kernel
theorem dX9_add_34 : decode cX9_add 34 = .ok (.iload_n 1, 1) := by decide +kernel
theorem dX9_add_35 : decode cX9_add 35 = .ok (.iload_n 2, 1) := by decide +kernel
theorem dX9_add_36 : decode cX9_add 36 = .ok (.iconst 4, 1) := by decide +kernel
theorem dX9_add_37 : decode cX9_add 37 = .ok (.if_icmp .ne 11, 3) := by decide +kernel
theorem dX9_add_40 : decode cX9_add 40 = .ok (.aload_n 0, 1) := by decide +kernel
theorem dX9_add_41 : decode cX9_add 41 = .ok (.iload_n 3, 1) := by decide +kernel
theorem dX9_add_42 : decode cX9_add 42 = .ok (.invokevirtual 105, 3) := by decide +kernel
theorem dX9_add_45 : decode cX9_add 45 = .ok (.goto 4, 3) := by decide +kernel
theorem dX9_add_48 : decode cX9_add 48 = .ok (.iconst 1, 1) := by decide +kernel
theorem dX9_add_49 : decode cX9_add 49 = .ok (.invokevirtual 108, 3) := by decide +kernel
theorem dX9_add_52 : decode cX9_add 52 = .ok (.ifCond .ne 6, 3) := by decide +kernel
theorem dX9_add_55 : decode cX9_add 55 = .ok (.bipush (-3), 2) := by decide +kernel
theorem dX9_add_57 : decode cX9_add 57 = .ok (.ireturn, 1) := by decide +kernel
theorem dX9_add_58 : decode cX9_add 58 = .ok (.aload_n 0, 1) := by decide +kernel
theorem dX9_add_59 : decode cX9_add 59 = .ok (.invokevirtual 78, 3) := by decide +kernel
theorem dX9_add_62 : decode cX9_add 62 = .ok (.bipush 30, 2) := by decide +kernel
theorem dX9_add_64 : decode cX9_add 64 = .ok (.bipush 31, 2) := by decide +kernel
theorem dX9_add_66 : decode cX9_add 66 = .ok (.iload_n 1, 1) := by decide +kernel
theorem dX9_add_67 : decode cX9_add 67 = .ok (.imul, 1) := by decide +kernel
theorem dX9_add_68 : decode cX9_add 68 = .ok (.iadd, 1) := by decide +kernel
theorem dX9_add_69 : decode cX9_add 69 = .ok (.iconst 1, 1) := by decide +kernel
theorem dX9_add_70 : decode cX9_add 70 = .ok (.iadd, 1) := by decide +kernel
theorem dX9_add_71 : decode cX9_add 71 = .ok (.iconst 3, 1) := by decide +kernel
theorem dX9_add_72 : decode cX9_add 72 = .ok (.aload_n 0, 1) := by decide +kernel
theorem dX9_add_73 : decode cX9_add 73 = .ok (.iload_n 1, 1) := by decide +kernel
theorem dX9_add_74 : decode cX9_add 74 = .ok (.invokevirtual 81, 3) := by decide +kernel
theorem dX9_add_77 : decode cX9_add 77 = .ok (.imul, 1) := by decide +kernel
theorem dX9_add_78 : decode cX9_add 78 = .ok (.iadd, 1) := by decide +kernel
theorem dX9_add_79 : decode cX9_add 79 = .ok (.istore 5, 2) := by decide +kernel
theorem dX9_add_81 : decode cX9_add 81 = .ok (.aload_n 0, 1) := by decide +kernel
theorem dX9_add_82 : decode cX9_add 82 = .ok (.getfield 7, 3) := by decide +kernel
theorem dX9_add_85 : decode cX9_add 85 = .ok (.iload 5, 2) := by decide +kernel
theorem dX9_add_87 : decode cX9_add 87 = .ok (.iload_n 2, 1) := by decide +kernel
theorem dX9_add_88 : decode cX9_add 88 = .ok (.iastore, 1) := by decide +kernel
theorem dX9_add_89 : decode cX9_add 89 = .ok (.aload_n 0, 1) := by decide +kernel
theorem dX9_add_90 : decode cX9_add 90 = .ok (.getfield 7, 3) := by decide +kernel
theorem dX9_add_93 : decode cX9_add 93 = .ok (.iload 5, 2) := by decide +kernel
theorem dX9_add_95 : decode cX9_add 95 = .ok (.iconst 1, 1) := by decide +kernel
theorem dX9_add_96 : decode cX9_add 96 = .ok (.iadd, 1) := by decide +kernel
theorem dX9_add_97 : decode cX9_add 97 = .ok (.iload_n 3, 1) := by decide +kernel
theorem dX9_add_98 : decode cX9_add 98 = .ok (.iastore, 1) := by decide +kernel
theorem dX9_add_99 : decode cX9_add 99 = .ok (.aload_n 0, 1) := by decide +kernel
theorem dX9_add_100 : decode cX9_add 100 = .ok (.getfield 7, 3) := by decide +kernel
theorem dX9_add_103 : decode cX9_add 103 = .ok (.iload 5, 2) := by decide +kernel
theorem dX9_add_105 : decode cX9_add 105 = .ok (.iconst 2, 1) := by decide +kernel
theorem dX9_add_106 : decode cX9_add 106 = .ok (.iadd, 1) := by decide +kernel
theorem dX9_add_107 : decode cX9_add 107 = .ok (.iload 4, 2) := by decide +kernel
theorem dX9_add_109 : decode cX9_add 109 = .ok (.iastore, 1) := by decide +kernel
theorem dX9_add_110 : decode cX9_add 110 = .ok (.aload_n 0, 1) := by decide +kernel
theorem dX9_add_111 : decode cX9_add 111 = .ok (.getfield 7, 3) := by decide +kernel
theorem dX9_add_114 : decode cX9_add 114 = .ok (.bipush 30, 2) := by decide +kernel
theorem dX9_add_116 : decode cX9_add 116 = .ok (.bipush 31, 2) := by decide +kernel
theorem dX9_add_118 : decode cX9_add 118 = .ok (.iload_n 1, 1) := by decide +kernel
theorem dX9_add_119 : decode cX9_add 119 = .ok (.imul, 1) := by decide +kernel
theorem dX9_add_120 : decode cX9_add 120 = .ok (.iadd, 1) := by decide +kernel
theorem dX9_add_121 : decode cX9_add 121 = .ok (.dup2, 1) := by decide +kernel
theorem dX9_add_122 : decode cX9_add 122 = .ok (.iaload, 1) := by decide +kernel
theorem dX9_add_123 : decode cX9_add 123 = .ok (.iconst 1, 1) := by decide +kernel
theorem dX9_add_124 : decode cX9_add 124 = .ok (.iadd, 1) := by decide +kernel
theorem dX9_add_125 : decode cX9_add 125 = .ok (.iastore, 1) := by decide +kernel
theorem dX9_add_126 : decode cX9_add 126 = .ok (.aload_n 0, 1) := by decide +kernel
theorem dX9_add_127 : decode cX9_add 127 = .ok (.iload_n 1, 1) := by decide +kernel
theorem dX9_add_128 : decode cX9_add 128 = .ok (.invokevirtual 81, 3) := by decide +kernel
theorem dX9_add_131 : decode cX9_add 131 = .ok (.ireturn, 1) := by decide +kernel
theorem dX9_stepsOf_0 : decode cX9_stepsOf 0 = .ok (.aload_n 0, 1) := by decide +kernel
theorem dX9_stepsOf_1 : decode cX9_stepsOf 1 = .ok (.invokevirtual 112, 3) := by decide +kernel
theorem dX9_stepsOf_4 : decode cX9_stepsOf 4 = .ok (.aload_n 0, 1) := by decide +kernel
theorem dX9_stepsOf_5 : decode cX9_stepsOf 5 = .ok (.getfield 19, 3) := by decide +kernel
theorem dX9_stepsOf_8 : decode cX9_stepsOf 8 = .ok (.iload_n 1, 1) := by decide +kernel
theorem dX9_stepsOf_9 : decode cX9_stepsOf 9 = .ok (.iaload, 1) := by decide +kernel
theorem dX9_stepsOf_10 : decode cX9_stepsOf 10 = .ok (.ireturn, 1) := by decide +kernel
theorem dX9_drop_0 : decode cX9_drop 0 = .ok (.iload_n 1, 1) := by decide +kernel
theorem dX9_drop_1 : decode cX9_drop 1 = .ok (.invokestatic 97, 3) := by decide +kernel
theorem dX9_drop_4 : decode cX9_drop 4 = .ok (.ifCond .ne 5, 3) := by decide +kernel
theorem dX9_drop_7 : decode cX9_drop 7 = .ok (.iconst (-1), 1) := by decide +kernel
theorem dX9_drop_8 : decode cX9_drop 8 = .ok (.ireturn, 1) := by decide +kernel
theorem dX9_drop_9 : decode cX9_drop 9 = .ok (.aload_n 0, 1) := by decide +kernel
theorem dX9_drop_10 : decode cX9_drop 10 = .ok (.iload_n 1, 1) := by decide +kernel
theorem dX9_drop_11 : decode cX9_drop 11 = .ok (.invokevirtual 81, 3) := by decide +kernel
theorem dX9_drop_14 : decode cX9_drop 14 = .ok (.ifCond .ne 6, 3) := by decide +kernel
theorem dX9_drop_17 : decode cX9_drop 17 = .ok (.bipush (-4), 2) := by decide +kernel
theorem dX9_drop_19 : decode cX9_drop 19 = .ok (.ireturn, 1) := by decide +kernel
theorem dX9_drop_20 : decode cX9_drop 20 = .ok (.aload_n 0, 1) := by decide +kernel
theorem dX9_drop_21 : decode cX9_drop 21 = .ok (.invokevirtual 78, 3) := by decide +kernel
theorem dX9_drop_24 : decode cX9_drop 24 = .ok (.aload_n 0, 1) := by decide +kernel
theorem dX9_drop_25 : decode cX9_drop 25 = .ok (.getfield 7, 3) := by decide +kernel
theorem dX9_drop_28 : decode cX9_drop 28 = .ok (.bipush 30, 2) := by decide +kernel
theorem dX9_drop_30 : decode cX9_drop 30 = .ok (.bipush 31, 2) := by decide +kernel
theorem dX9_drop_32 : decode cX9_drop 32 = .ok (.iload_n 1, 1) := by decide +kernel
theorem dX9_drop_33 : decode cX9_drop 33 = .ok (.imul, 1) := by decide +kernel
theorem dX9_drop_34 : decode cX9_drop 34 = .ok (.iadd, 1) := by decide +kernel
theorem dX9_drop_35 : decode cX9_drop 35 = .ok (.dup2, 1) := by decide +kernel
theorem dX9_drop_36 : decode cX9_drop 36 = .ok (.iaload, 1) := by decide +kernel
theorem dX9_drop_37 : decode cX9_drop 37 = .ok (.iconst 1, 1) := by decide +kernel
theorem dX9_drop_38 : decode cX9_drop 38 = .ok (.isub, 1) := by decide +kernel
theorem dX9_drop_39 : decode cX9_drop 39 = .ok (.iastore, 1) := by decide +kernel
theorem dX9_drop_40 : decode cX9_drop 40 = .ok (.bipush 30, 2) := by decide +kernel
theorem dX9_drop_42 : decode cX9_drop 42 = .ok (.bipush 31, 2) := by decide +kernel
theorem dX9_drop_44 : decode cX9_drop 44 = .ok (.iload_n 1, 1) := by decide +kernel
theorem dX9_drop_45 : decode cX9_drop 45 = .ok (.imul, 1) := by decide +kernel
theorem dX9_drop_46 : decode cX9_drop 46 = .ok (.iadd, 1) := by decide +kernel
theorem dX9_drop_47 : decode cX9_drop 47 = .ok (.iconst 1, 1) := by decide +kernel
theorem dX9_drop_48 : decode cX9_drop 48 = .ok (.iadd, 1) := by decide +kernel
theorem dX9_drop_49 : decode cX9_drop 49 = .ok (.iconst 3, 1) := by decide +kernel
theorem dX9_drop_50 : decode cX9_drop 50 = .ok (.aload_n 0, 1) := by decide +kernel
theorem dX9_drop_51 : decode cX9_drop 51 = .ok (.iload_n 1, 1) := by decide +kernel
theorem dX9_drop_52 : decode cX9_drop 52 = .ok (.invokevirtual 81, 3) := by decide +kernel
theorem dX9_drop_55 : decode cX9_drop 55 = .ok (.imul, 1) := by decide +kernel
theorem dX9_drop_56 : decode cX9_drop 56 = .ok (.iadd, 1) := by decide +kernel
theorem dX9_drop_57 : decode cX9_drop 57 = .ok (.istore_n 2, 1) := by decide +kernel
theorem dX9_drop_58 : decode cX9_drop 58 = .ok (.aload_n 0, 1) := by decide +kernel
theorem dX9_drop_59 : decode cX9_drop 59 = .ok (.getfield 7, 3) := by decide +kernel
theorem dX9_drop_62 : decode cX9_drop 62 = .ok (.iload_n 2, 1) := by decide +kernel
theorem dX9_drop_63 : decode cX9_drop 63 = .ok (.iconst 0, 1) := by decide +kernel
theorem dX9_drop_64 : decode cX9_drop 64 = .ok (.iastore, 1) := by decide +kernel
theorem dX9_drop_65 : decode cX9_drop 65 = .ok (.aload_n 0, 1) := by decide +kernel
theorem dX9_drop_66 : decode cX9_drop 66 = .ok (.getfield 7, 3) := by decide +kernel
theorem dX9_drop_69 : decode cX9_drop 69 = .ok (.iload_n 2, 1) := by decide +kernel
theorem dX9_drop_70 : decode cX9_drop 70 = .ok (.iconst 1, 1) := by decide +kernel
theorem dX9_drop_71 : decode cX9_drop 71 = .ok (.iadd, 1) := by decide +kernel
theorem dX9_drop_72 : decode cX9_drop 72 = .ok (.iconst 0, 1) := by decide +kernel
theorem dX9_drop_73 : decode cX9_drop 73 = .ok (.iastore, 1) := by decide +kernel
theorem dX9_drop_74 : decode cX9_drop 74 = .ok (.aload_n 0, 1) := by decide +kernel
theorem dX9_drop_75 : decode cX9_drop 75 = .ok (.getfield 7, 3) := by decide +kernel
theorem dX9_drop_78 : decode cX9_drop 78 = .ok (.iload_n 2, 1) := by decide +kernel
theorem dX9_drop_79 : decode cX9_drop 79 = .ok (.iconst 2, 1) := by decide +kernel
theorem dX9_drop_80 : decode cX9_drop 80 = .ok (.iadd, 1) := by decide +kernel
theorem dX9_drop_81 : decode cX9_drop 81 = .ok (.iconst 0, 1) := by decide +kernel
theorem dX9_drop_82 : decode cX9_drop 82 = .ok (.iastore, 1) := by decide +kernel
theorem dX9_drop_83 : decode cX9_drop 83 = .ok (.aload_n 0, 1) := by decide +kernel
theorem dX9_drop_84 : decode cX9_drop 84 = .ok (.iload_n 1, 1) := by decide +kernel
theorem dX9_drop_85 : decode cX9_drop 85 = .ok (.invokevirtual 81, 3) := by decide +kernel
theorem dX9_drop_88 : decode cX9_drop 88 = .ok (.ireturn, 1) := by decide +kernel
theorem dX9_lay_0 : decode cX9_lay 0 = .ok (.iconst 0, 1) := by decide +kernel
theorem dX9_lay_1 : decode cX9_lay 1 = .ok (.istore 4, 2) := by decide +kernel
theorem dX9_lay_3 : decode cX9_lay 3 = .ok (.iload 4, 2) := by decide +kernel
theorem dX9_lay_5 : decode cX9_lay 5 = .ok (.bipush 10, 2) := by decide +kernel
theorem dX9_lay_7 : decode cX9_lay 7 = .ok (.if_icmp .ge 128, 3) := by decide +kernel
theorem dX9_lay_10 : decode cX9_lay 10 = .ok (.iload_n 1, 1) := by decide +kernel
theorem dX9_lay_11 : decode cX9_lay 11 = .ok (.iconst 3, 1) := by decide +kernel
theorem dX9_lay_12 : decode cX9_lay 12 = .ok (.if_icmp .ne 17, 3) := by decide +kernel
theorem dX9_lay_15 : decode cX9_lay 15 = .ok (.iload 4, 2) := by decide +kernel
theorem dX9_lay_17 : decode cX9_lay 17 = .ok (.iload_n 2, 1) := by decide +kernel
theorem dX9_lay_18 : decode cX9_lay 18 = .ok (.iload_n 3, 1) := by decide +kernel
theorem dX9_lay_19 : decode cX9_lay 19 = .ok (.invokestatic 62, 3) := by decide +kernel
theorem dX9_lay_22 : decode cX9_lay 22 = .ok (.ifCond .eq 7, 3) := by decide +kernel
theorem dX9_lay_25 : decode cX9_lay 25 = .ok (.iconst 1, 1) := by decide +kernel
theorem dX9_lay_26 : decode cX9_lay 26 = .ok (.goto 4, 3) := by decide +kernel
theorem dX9_lay_29 : decode cX9_lay 29 = .ok (.iconst 0, 1) := by decide +kernel
theorem dX9_lay_30 : decode cX9_lay 30 = .ok (.istore 5, 2) := by decide +kernel
theorem dX9_lay_32 : decode cX9_lay 32 = .ok (.iload_n 1, 1) := by decide +kernel
theorem dX9_lay_33 : decode cX9_lay 33 = .ok (.ifCond .ne 19, 3) := by decide +kernel
theorem dX9_lay_36 : decode cX9_lay 36 = .ok (.iload 4, 2) := by decide +kernel
theorem dX9_lay_38 : decode cX9_lay 38 = .ok (.iload_n 2, 1) := by decide +kernel
theorem dX9_lay_39 : decode cX9_lay 39 = .ok (.if_icmp .eq 9, 3) := by decide +kernel
theorem dX9_lay_42 : decode cX9_lay 42 = .ok (.iload 4, 2) := by decide +kernel
theorem dX9_lay_44 : decode cX9_lay 44 = .ok (.iload_n 3, 1) := by decide +kernel
theorem dX9_lay_45 : decode cX9_lay 45 = .ok (.if_icmp .ne 7, 3) := by decide +kernel
theorem dX9_lay_48 : decode cX9_lay 48 = .ok (.iconst 1, 1) := by decide +kernel
theorem dX9_lay_49 : decode cX9_lay 49 = .ok (.goto 4, 3) := by decide +kernel
theorem dX9_lay_52 : decode cX9_lay 52 = .ok (.iconst 0, 1) := by decide +kernel
theorem dX9_lay_53 : decode cX9_lay 53 = .ok (.istore 6, 2) := by decide +kernel
theorem dX9_lay_55 : decode cX9_lay 55 = .ok (.aload_n 0, 1) := by decide +kernel
theorem dX9_lay_56 : decode cX9_lay 56 = .ok (.getfield 28, 3) := by decide +kernel
theorem dX9_lay_59 : decode cX9_lay 59 = .ok (.iload 4, 2) := by decide +kernel
theorem dX9_lay_61 : decode cX9_lay 61 = .ok (.iload 5, 2) := by decide +kernel
theorem dX9_lay_63 : decode cX9_lay 63 = .ok (.ifCond .ne 8, 3) := by decide +kernel
theorem dX9_lay_66 : decode cX9_lay 66 = .ok (.iload 6, 2) := by decide +kernel
theorem dX9_lay_68 : decode cX9_lay 68 = .ok (.ifCond .eq 12, 3) := by decide +kernel
theorem dX9_lay_71 : decode cX9_lay 71 = .ok (.iload_n 2, 1) := by decide +kernel
theorem dX9_lay_72 : decode cX9_lay 72 = .ok (.iload_n 3, 1) := by decide +kernel
theorem dX9_lay_73 : decode cX9_lay 73 = .ok (.iadd, 1) := by decide +kernel
theorem dX9_lay_74 : decode cX9_lay 74 = .ok (.iload 4, 2) := by decide +kernel
theorem dX9_lay_76 : decode cX9_lay 76 = .ok (.isub, 1) := by decide +kernel
theorem dX9_lay_77 : decode cX9_lay 77 = .ok (.goto 19, 3) := by decide +kernel
theorem dX9_lay_80 : decode cX9_lay 80 = .ok (.iload_n 1, 1) := by decide +kernel
theorem dX9_lay_81 : decode cX9_lay 81 = .ok (.iconst 2, 1) := by decide +kernel
theorem dX9_lay_82 : decode cX9_lay 82 = .ok (.if_icmp .ne 12, 3) := by decide +kernel
theorem dX9_lay_85 : decode cX9_lay 85 = .ok (.iload 4, 2) := by decide +kernel
theorem dX9_lay_87 : decode cX9_lay 87 = .ok (.iload_n 2, 1) := by decide +kernel
theorem dX9_lay_88 : decode cX9_lay 88 = .ok (.invokestatic 115, 3) := by decide +kernel
theorem dX9_lay_91 : decode cX9_lay 91 = .ok (.goto 5, 3) := by decide +kernel
theorem dX9_lay_94 : decode cX9_lay 94 = .ok (.iload 4, 2) := by decide +kernel
theorem dX9_lay_96 : decode cX9_lay 96 = .ok (.iastore, 1) := by decide +kernel
theorem dX9_lay_97 : decode cX9_lay 97 = .ok (.aload_n 0, 1) := by decide +kernel
theorem dX9_lay_98 : decode cX9_lay 98 = .ok (.getfield 31, 3) := by decide +kernel
theorem dX9_lay_101 : decode cX9_lay 101 = .ok (.iload 4, 2) := by decide +kernel
theorem dX9_lay_103 : decode cX9_lay 103 = .ok (.iload 5, 2) := by decide +kernel
theorem dX9_lay_105 : decode cX9_lay 105 = .ok (.ifCond .eq 7, 3) := by decide +kernel
theorem dX9_lay_108 : decode cX9_lay 108 = .ok (.iconst 2, 1) := by decide +kernel
theorem dX9_lay_109 : decode cX9_lay 109 = .ok (.goto 19, 3) := by decide +kernel
theorem dX9_lay_112 : decode cX9_lay 112 = .ok (.iload_n 1, 1) := by decide +kernel
theorem dX9_lay_113 : decode cX9_lay 113 = .ok (.iconst 1, 1) := by decide +kernel
theorem dX9_lay_114 : decode cX9_lay 114 = .ok (.if_icmp .ne 13, 3) := by decide +kernel
theorem dX9_lay_117 : decode cX9_lay 117 = .ok (.iload 4, 2) := by decide +kernel
theorem dX9_lay_119 : decode cX9_lay 119 = .ok (.iload_n 2, 1) := by decide +kernel
theorem dX9_lay_120 : decode cX9_lay 120 = .ok (.if_icmp .ne 7, 3) := by decide +kernel
theorem dX9_lay_123 : decode cX9_lay 123 = .ok (.iload_n 3, 1) := by decide +kernel
theorem dX9_lay_124 : decode cX9_lay 124 = .ok (.goto 4, 3) := by decide +kernel
theorem dX9_lay_127 : decode cX9_lay 127 = .ok (.iconst 0, 1) := by decide +kernel
theorem dX9_lay_128 : decode cX9_lay 128 = .ok (.iastore, 1) := by decide +kernel
theorem dX9_lay_129 : decode cX9_lay 129 = .ok (.iinc 4 1, 3) := by decide +kernel
theorem dX9_lay_132 : decode cX9_lay 132 = .ok (.goto (-129), 3) := by decide +kernel
theorem dX9_lay_135 : decode cX9_lay 135 = .ok (.return_, 1) := by decide +kernel
theorem dX9_layStep_0 : decode cX9_layStep 0 = .ok (.iconst 3, 1) := by decide +kernel
theorem dX9_layStep_1 : decode cX9_layStep 1 = .ok (.bipush 120, 2) := by decide +kernel
theorem dX9_layStep_3 : decode cX9_layStep 3 = .ok (.iload_n 1, 1) := by decide +kernel
theorem dX9_layStep_4 : decode cX9_layStep 4 = .ok (.imul, 1) := by decide +kernel
theorem dX9_layStep_5 : decode cX9_layStep 5 = .ok (.iload_n 3, 1) := by decide +kernel
theorem dX9_layStep_6 : decode cX9_layStep 6 = .ok (.ifCond .eq 16, 3) := by decide +kernel
theorem dX9_layStep_9 : decode cX9_layStep 9 = .ok (.aload_n 0, 1) := by decide +kernel
theorem dX9_layStep_10 : decode cX9_layStep 10 = .ok (.getfield 19, 3) := by decide +kernel
theorem dX9_layStep_13 : decode cX9_layStep 13 = .ok (.iload_n 1, 1) := by decide +kernel
theorem dX9_layStep_14 : decode cX9_layStep 14 = .ok (.iaload, 1) := by decide +kernel
theorem dX9_layStep_15 : decode cX9_layStep 15 = .ok (.iconst 1, 1) := by decide +kernel
theorem dX9_layStep_16 : decode cX9_layStep 16 = .ok (.isub, 1) := by decide +kernel
theorem dX9_layStep_17 : decode cX9_layStep 17 = .ok (.iload_n 2, 1) := by decide +kernel
theorem dX9_layStep_18 : decode cX9_layStep 18 = .ok (.isub, 1) := by decide +kernel
theorem dX9_layStep_19 : decode cX9_layStep 19 = .ok (.goto 4, 3) := by decide +kernel
theorem dX9_layStep_22 : decode cX9_layStep 22 = .ok (.iload_n 2, 1) := by decide +kernel
theorem dX9_layStep_23 : decode cX9_layStep 23 = .ok (.iadd, 1) := by decide +kernel
theorem dX9_layStep_24 : decode cX9_layStep 24 = .ok (.imul, 1) := by decide +kernel
theorem dX9_layStep_25 : decode cX9_layStep 25 = .ok (.istore 4, 2) := by decide +kernel
theorem dX9_layStep_27 : decode cX9_layStep 27 = .ok (.aload_n 0, 1) := by decide +kernel
theorem dX9_layStep_28 : decode cX9_layStep 28 = .ok (.getfield 22, 3) := by decide +kernel
theorem dX9_layStep_31 : decode cX9_layStep 31 = .ok (.iload 4, 2) := by decide +kernel
theorem dX9_layStep_33 : decode cX9_layStep 33 = .ok (.iaload, 1) := by decide +kernel
theorem dX9_layStep_34 : decode cX9_layStep 34 = .ok (.istore 5, 2) := by decide +kernel
theorem dX9_layStep_36 : decode cX9_layStep 36 = .ok (.aload_n 0, 1) := by decide +kernel
theorem dX9_layStep_37 : decode cX9_layStep 37 = .ok (.getfield 22, 3) := by decide +kernel
theorem dX9_layStep_40 : decode cX9_layStep 40 = .ok (.iload 4, 2) := by decide +kernel
theorem dX9_layStep_42 : decode cX9_layStep 42 = .ok (.iconst 1, 1) := by decide +kernel
theorem dX9_layStep_43 : decode cX9_layStep 43 = .ok (.iadd, 1) := by decide +kernel
theorem dX9_layStep_44 : decode cX9_layStep 44 = .ok (.iaload, 1) := by decide +kernel
theorem dX9_layStep_45 : decode cX9_layStep 45 = .ok (.istore 6, 2) := by decide +kernel
theorem dX9_layStep_47 : decode cX9_layStep 47 = .ok (.aload_n 0, 1) := by decide +kernel
theorem dX9_layStep_48 : decode cX9_layStep 48 = .ok (.getfield 22, 3) := by decide +kernel
theorem dX9_layStep_51 : decode cX9_layStep 51 = .ok (.iload 4, 2) := by decide +kernel
theorem dX9_layStep_53 : decode cX9_layStep 53 = .ok (.iconst 2, 1) := by decide +kernel
theorem dX9_layStep_54 : decode cX9_layStep 54 = .ok (.iadd, 1) := by decide +kernel
theorem dX9_layStep_55 : decode cX9_layStep 55 = .ok (.iaload, 1) := by decide +kernel
theorem dX9_layStep_56 : decode cX9_layStep 56 = .ok (.istore 7, 2) := by decide +kernel
theorem dX9_layStep_58 : decode cX9_layStep 58 = .ok (.aload_n 0, 1) := by decide +kernel
theorem dX9_layStep_59 : decode cX9_layStep 59 = .ok (.iload 5, 2) := by decide +kernel
theorem dX9_layStep_61 : decode cX9_layStep 61 = .ok (.iload_n 3, 1) := by decide +kernel
theorem dX9_layStep_62 : decode cX9_layStep 62 = .ok (.ifCond .eq 17, 3) := by decide +kernel
theorem dX9_layStep_65 : decode cX9_layStep 65 = .ok (.iload 5, 2) := by decide +kernel
theorem dX9_layStep_67 : decode cX9_layStep 67 = .ok (.iconst 2, 1) := by decide +kernel
theorem dX9_layStep_68 : decode cX9_layStep 68 = .ok (.if_icmp .ne 11, 3) := by decide +kernel
theorem dX9_layStep_71 : decode cX9_layStep 71 = .ok (.bipush 10, 2) := by decide +kernel
theorem dX9_layStep_73 : decode cX9_layStep 73 = .ok (.iload 6, 2) := by decide +kernel
theorem dX9_layStep_75 : decode cX9_layStep 75 = .ok (.isub, 1) := by decide +kernel
theorem dX9_layStep_76 : decode cX9_layStep 76 = .ok (.goto 5, 3) := by decide +kernel
theorem dX9_layStep_79 : decode cX9_layStep 79 = .ok (.iload 6, 2) := by decide +kernel
theorem dX9_layStep_81 : decode cX9_layStep 81 = .ok (.iload_n 3, 1) := by decide +kernel
theorem dX9_layStep_82 : decode cX9_layStep 82 = .ok (.ifCond .eq 16, 3) := by decide +kernel
theorem dX9_layStep_85 : decode cX9_layStep 85 = .ok (.iload 5, 2) := by decide +kernel
theorem dX9_layStep_87 : decode cX9_layStep 87 = .ok (.iconst 1, 1) := by decide +kernel
theorem dX9_layStep_88 : decode cX9_layStep 88 = .ok (.if_icmp .ne 10, 3) := by decide +kernel
theorem dX9_layStep_91 : decode cX9_layStep 91 = .ok (.iconst 4, 1) := by decide +kernel
theorem dX9_layStep_92 : decode cX9_layStep 92 = .ok (.iload 7, 2) := by decide +kernel
theorem dX9_layStep_94 : decode cX9_layStep 94 = .ok (.isub, 1) := by decide +kernel
theorem dX9_layStep_95 : decode cX9_layStep 95 = .ok (.goto 5, 3) := by decide +kernel
theorem dX9_layStep_98 : decode cX9_layStep 98 = .ok (.iload 7, 2) := by decide +kernel
theorem dX9_layStep_100 : decode cX9_layStep 100 = .ok (.invokevirtual 119, 3) := by decide +kernel
theorem dX9_layStep_103 : decode cX9_layStep 103 = .ok (.return_, 1) := by decide +kernel
theorem dX9_areNeighbors_0 : decode cX9_areNeighbors 0 = .ok (.iload_n 0, 1) := by decide +kernel
theorem dX9_areNeighbors_1 : decode cX9_areNeighbors 1 = .ok (.iconst 1, 1) := by decide +kernel
theorem dX9_areNeighbors_2 : decode cX9_areNeighbors 2 = .ok (.invokestatic 115, 3) := by decide +kernel
theorem dX9_areNeighbors_5 : decode cX9_areNeighbors 5 = .ok (.iload_n 1, 1) := by decide +kernel
theorem dX9_areNeighbors_6 : decode cX9_areNeighbors 6 = .ok (.if_icmp .eq 12, 3) := by decide +kernel
theorem dX9_areNeighbors_9 : decode cX9_areNeighbors 9 = .ok (.iload_n 1, 1) := by decide +kernel
theorem dX9_areNeighbors_10 : decode cX9_areNeighbors 10 = .ok (.iconst 1, 1) := by decide +kernel
theorem dX9_areNeighbors_11 : decode cX9_areNeighbors 11 = .ok (.invokestatic 115, 3) := by decide +kernel
theorem dX9_areNeighbors_14 : decode cX9_areNeighbors 14 = .ok (.iload_n 0, 1) := by decide +kernel
theorem dX9_areNeighbors_15 : decode cX9_areNeighbors 15 = .ok (.if_icmp .ne 7, 3) := by decide +kernel
theorem dX9_areNeighbors_18 : decode cX9_areNeighbors 18 = .ok (.iconst 1, 1) := by decide +kernel
theorem dX9_areNeighbors_19 : decode cX9_areNeighbors 19 = .ok (.goto 4, 3) := by decide +kernel
theorem dX9_areNeighbors_22 : decode cX9_areNeighbors 22 = .ok (.iconst 0, 1) := by decide +kernel
theorem dX9_areNeighbors_23 : decode cX9_areNeighbors 23 = .ok (.ireturn, 1) := by decide +kernel
theorem dX9_isAllowed_0 : decode cX9_isAllowed 0 = .ok (.iconst 1, 1) := by decide +kernel
theorem dX9_isAllowed_1 : decode cX9_isAllowed 1 = .ok (.istore_n 1, 1) := by decide +kernel
theorem dX9_isAllowed_2 : decode cX9_isAllowed 2 = .ok (.iconst 0, 1) := by decide +kernel
theorem dX9_isAllowed_3 : decode cX9_isAllowed 3 = .ok (.istore_n 2, 1) := by decide +kernel
theorem dX9_isAllowed_4 : decode cX9_isAllowed 4 = .ok (.iload_n 2, 1) := by decide +kernel
theorem dX9_isAllowed_5 : decode cX9_isAllowed 5 = .ok (.bipush 10, 2) := by decide +kernel
theorem dX9_isAllowed_7 : decode cX9_isAllowed 7 = .ok (.if_icmp .ge 64, 3) := by decide +kernel
theorem dX9_isAllowed_10 : decode cX9_isAllowed 10 = .ok (.aload_n 0, 1) := by decide +kernel
theorem dX9_isAllowed_11 : decode cX9_isAllowed 11 = .ok (.getfield 7, 3) := by decide +kernel
theorem dX9_isAllowed_14 : decode cX9_isAllowed 14 = .ok (.bipush 20, 2) := by decide +kernel
theorem dX9_isAllowed_16 : decode cX9_isAllowed 16 = .ok (.aload_n 0, 1) := by decide +kernel
theorem dX9_isAllowed_17 : decode cX9_isAllowed 17 = .ok (.getfield 7, 3) := by decide +kernel
theorem dX9_isAllowed_20 : decode cX9_isAllowed 20 = .ok (.iconst 0, 1) := by decide +kernel
theorem dX9_isAllowed_21 : decode cX9_isAllowed 21 = .ok (.iload_n 2, 1) := by decide +kernel
theorem dX9_isAllowed_22 : decode cX9_isAllowed 22 = .ok (.iadd, 1) := by decide +kernel
theorem dX9_isAllowed_23 : decode cX9_isAllowed 23 = .ok (.iaload, 1) := by decide +kernel
theorem dX9_isAllowed_24 : decode cX9_isAllowed 24 = .ok (.iadd, 1) := by decide +kernel
theorem dX9_isAllowed_25 : decode cX9_isAllowed 25 = .ok (.iaload, 1) := by decide +kernel
theorem dX9_isAllowed_26 : decode cX9_isAllowed 26 = .ok (.istore_n 3, 1) := by decide +kernel
theorem dX9_isAllowed_27 : decode cX9_isAllowed 27 = .ok (.iload_n 1, 1) := by decide +kernel
theorem dX9_isAllowed_28 : decode cX9_isAllowed 28 = .ok (.ifCond .eq 35, 3) := by decide +kernel
theorem dX9_isAllowed_31 : decode cX9_isAllowed 31 = .ok (.iload_n 3, 1) := by decide +kernel
theorem dX9_isAllowed_32 : decode cX9_isAllowed 32 = .ok (.bipush (-5), 2) := by decide +kernel
theorem dX9_isAllowed_34 : decode cX9_isAllowed 34 = .ok (.if_icmp .eq 25, 3) := by decide +kernel
theorem dX9_isAllowed_37 : decode cX9_isAllowed 37 = .ok (.aload_n 0, 1) := by decide +kernel
theorem dX9_isAllowed_38 : decode cX9_isAllowed 38 = .ok (.getfield 28, 3) := by decide +kernel
theorem dX9_isAllowed_41 : decode cX9_isAllowed 41 = .ok (.iload_n 2, 1) := by decide +kernel
theorem dX9_isAllowed_42 : decode cX9_isAllowed 42 = .ok (.iaload, 1) := by decide +kernel
theorem dX9_isAllowed_43 : decode cX9_isAllowed 43 = .ok (.aload_n 0, 1) := by decide +kernel
theorem dX9_isAllowed_44 : decode cX9_isAllowed 44 = .ok (.getfield 28, 3) := by decide +kernel
theorem dX9_isAllowed_47 : decode cX9_isAllowed 47 = .ok (.aload_n 0, 1) := by decide +kernel
theorem dX9_isAllowed_48 : decode cX9_isAllowed 48 = .ok (.iload_n 3, 1) := by decide +kernel
theorem dX9_isAllowed_49 : decode cX9_isAllowed 49 = .ok (.invokevirtual 123, 3) := by decide +kernel
theorem dX9_isAllowed_52 : decode cX9_isAllowed 52 = .ok (.iaload, 1) := by decide +kernel
theorem dX9_isAllowed_53 : decode cX9_isAllowed 53 = .ok (.invokestatic 126, 3) := by decide +kernel
theorem dX9_isAllowed_56 : decode cX9_isAllowed 56 = .ok (.ifCond .eq 7, 3) := by decide +kernel
theorem dX9_isAllowed_59 : decode cX9_isAllowed 59 = .ok (.iconst 1, 1) := by decide +kernel
theorem dX9_isAllowed_60 : decode cX9_isAllowed 60 = .ok (.goto 4, 3) := by decide +kernel
theorem dX9_isAllowed_63 : decode cX9_isAllowed 63 = .ok (.iconst 0, 1) := by decide +kernel
theorem dX9_isAllowed_64 : decode cX9_isAllowed 64 = .ok (.istore_n 1, 1) := by decide +kernel
theorem dX9_isAllowed_65 : decode cX9_isAllowed 65 = .ok (.iinc 2 1, 3) := by decide +kernel
theorem dX9_isAllowed_68 : decode cX9_isAllowed 68 = .ok (.goto (-64), 3) := by decide +kernel
theorem dX9_isAllowed_71 : decode cX9_isAllowed 71 = .ok (.iload_n 1, 1) := by decide +kernel
theorem dX9_isAllowed_72 : decode cX9_isAllowed 72 = .ok (.ireturn, 1) := by decide +kernel
theorem dX9_make_0 : decode cX9_make 0 = .ok (.iconst 0, 1) := by decide +kernel
theorem dX9_make_1 : decode cX9_make 1 = .ok (.istore_n 1, 1) := by decide +kernel
theorem dX9_make_2 : decode cX9_make 2 = .ok (.iload_n 1, 1) := by decide +kernel
theorem dX9_make_3 : decode cX9_make 3 = .ok (.bipush 10, 2) := by decide +kernel
theorem dX9_make_5 : decode cX9_make 5 = .ok (.if_icmp .ge 57, 3) := by decide +kernel
theorem dX9_make_8 : decode cX9_make 8 = .ok (.aload_n 0, 1) := by decide +kernel
theorem dX9_make_9 : decode cX9_make 9 = .ok (.getfield 7, 3) := by decide +kernel
theorem dX9_make_12 : decode cX9_make 12 = .ok (.iconst 0, 1) := by decide +kernel
theorem dX9_make_13 : decode cX9_make 13 = .ok (.iload_n 1, 1) := by decide +kernel
theorem dX9_make_14 : decode cX9_make 14 = .ok (.iadd, 1) := by decide +kernel
theorem dX9_make_15 : decode cX9_make 15 = .ok (.iaload, 1) := by decide +kernel
theorem dX9_make_16 : decode cX9_make 16 = .ok (.istore_n 2, 1) := by decide +kernel
theorem dX9_make_17 : decode cX9_make 17 = .ok (.aload_n 0, 1) := by decide +kernel
theorem dX9_make_18 : decode cX9_make 18 = .ok (.getfield 34, 3) := by decide +kernel
theorem dX9_make_21 : decode cX9_make 21 = .ok (.aload_n 0, 1) := by decide +kernel
theorem dX9_make_22 : decode cX9_make 22 = .ok (.getfield 28, 3) := by decide +kernel
theorem dX9_make_25 : decode cX9_make 25 = .ok (.iload_n 1, 1) := by decide +kernel
theorem dX9_make_26 : decode cX9_make 26 = .ok (.iaload, 1) := by decide +kernel
theorem dX9_make_27 : decode cX9_make 27 = .ok (.iload_n 2, 1) := by decide +kernel
theorem dX9_make_28 : decode cX9_make 28 = .ok (.iastore, 1) := by decide +kernel
theorem dX9_make_29 : decode cX9_make 29 = .ok (.aload_n 0, 1) := by decide +kernel
theorem dX9_make_30 : decode cX9_make 30 = .ok (.getfield 7, 3) := by decide +kernel
theorem dX9_make_33 : decode cX9_make 33 = .ok (.bipush 10, 2) := by decide +kernel
theorem dX9_make_35 : decode cX9_make 35 = .ok (.iload_n 2, 1) := by decide +kernel
theorem dX9_make_36 : decode cX9_make 36 = .ok (.iadd, 1) := by decide +kernel
theorem dX9_make_37 : decode cX9_make 37 = .ok (.aload_n 0, 1) := by decide +kernel
theorem dX9_make_38 : decode cX9_make 38 = .ok (.getfield 7, 3) := by decide +kernel
theorem dX9_make_41 : decode cX9_make 41 = .ok (.bipush 10, 2) := by decide +kernel
theorem dX9_make_43 : decode cX9_make 43 = .ok (.iload_n 2, 1) := by decide +kernel
theorem dX9_make_44 : decode cX9_make 44 = .ok (.iadd, 1) := by decide +kernel
theorem dX9_make_45 : decode cX9_make 45 = .ok (.iaload, 1) := by decide +kernel
theorem dX9_make_46 : decode cX9_make 46 = .ok (.aload_n 0, 1) := by decide +kernel
theorem dX9_make_47 : decode cX9_make 47 = .ok (.getfield 31, 3) := by decide +kernel
theorem dX9_make_50 : decode cX9_make 50 = .ok (.iload_n 1, 1) := by decide +kernel
theorem dX9_make_51 : decode cX9_make 51 = .ok (.iaload, 1) := by decide +kernel
theorem dX9_make_52 : decode cX9_make 52 = .ok (.iadd, 1) := by decide +kernel
theorem dX9_make_53 : decode cX9_make 53 = .ok (.iconst 4, 1) := by decide +kernel
theorem dX9_make_54 : decode cX9_make 54 = .ok (.irem, 1) := by decide +kernel
theorem dX9_make_55 : decode cX9_make 55 = .ok (.iastore, 1) := by decide +kernel
theorem dX9_make_56 : decode cX9_make 56 = .ok (.iinc 1 1, 3) := by decide +kernel
theorem dX9_make_59 : decode cX9_make 59 = .ok (.goto (-57), 3) := by decide +kernel
theorem dX9_make_62 : decode cX9_make 62 = .ok (.iconst 0, 1) := by decide +kernel
theorem dX9_make_63 : decode cX9_make 63 = .ok (.istore_n 1, 1) := by decide +kernel
theorem dX9_make_64 : decode cX9_make 64 = .ok (.iload_n 1, 1) := by decide +kernel
theorem dX9_make_65 : decode cX9_make 65 = .ok (.bipush 10, 2) := by decide +kernel
theorem dX9_make_67 : decode cX9_make 67 = .ok (.if_icmp .ge 23, 3) := by decide +kernel
theorem dX9_make_70 : decode cX9_make 70 = .ok (.aload_n 0, 1) := by decide +kernel
theorem dX9_make_71 : decode cX9_make 71 = .ok (.getfield 7, 3) := by decide +kernel
theorem dX9_make_74 : decode cX9_make 74 = .ok (.iconst 0, 1) := by decide +kernel
theorem dX9_make_75 : decode cX9_make 75 = .ok (.iload_n 1, 1) := by decide +kernel
theorem dX9_make_76 : decode cX9_make 76 = .ok (.iadd, 1) := by decide +kernel
theorem dX9_make_77 : decode cX9_make 77 = .ok (.aload_n 0, 1) := by decide +kernel
theorem dX9_make_78 : decode cX9_make 78 = .ok (.getfield 34, 3) := by decide +kernel
theorem dX9_make_81 : decode cX9_make 81 = .ok (.iload_n 1, 1) := by decide +kernel
theorem dX9_make_82 : decode cX9_make 82 = .ok (.iaload, 1) := by decide +kernel
theorem dX9_make_83 : decode cX9_make 83 = .ok (.iastore, 1) := by decide +kernel
theorem dX9_make_84 : decode cX9_make 84 = .ok (.iinc 1 1, 3) := by decide +kernel
theorem dX9_make_87 : decode cX9_make 87 = .ok (.goto (-23), 3) := by decide +kernel
theorem dX9_make_90 : decode cX9_make 90 = .ok (.return_, 1) := by decide +kernel
theorem dX9_go_0 : decode cX9_go 0 = .ok (.aload_n 0, 1) := by decide +kernel
theorem dX9_go_1 : decode cX9_go 1 = .ok (.invokevirtual 112, 3) := by decide +kernel
theorem dX9_go_4 : decode cX9_go 4 = .ok (.iconst 0, 1) := by decide +kernel
theorem dX9_go_5 : decode cX9_go 5 = .ok (.istore 4, 2) := by decide +kernel
theorem dX9_go_7 : decode cX9_go 7 = .ok (.iload 4, 2) := by decide +kernel
theorem dX9_go_9 : decode cX9_go 9 = .ok (.bipush 20, 2) := by decide +kernel
theorem dX9_go_11 : decode cX9_go 11 = .ok (.if_icmp .ge 23, 3) := by decide +kernel
theorem dX9_go_14 : decode cX9_go 14 = .ok (.aload_n 0, 1) := by decide +kernel
theorem dX9_go_15 : decode cX9_go 15 = .ok (.getfield 37, 3) := by decide +kernel
theorem dX9_go_18 : decode cX9_go 18 = .ok (.iload 4, 2) := by decide +kernel
theorem dX9_go_20 : decode cX9_go 20 = .ok (.aload_n 0, 1) := by decide +kernel
theorem dX9_go_21 : decode cX9_go 21 = .ok (.getfield 7, 3) := by decide +kernel
theorem dX9_go_24 : decode cX9_go 24 = .ok (.iload 4, 2) := by decide +kernel
theorem dX9_go_26 : decode cX9_go 26 = .ok (.iaload, 1) := by decide +kernel
theorem dX9_go_27 : decode cX9_go 27 = .ok (.iastore, 1) := by decide +kernel
theorem dX9_go_28 : decode cX9_go 28 = .ok (.iinc 4 1, 3) := by decide +kernel
theorem dX9_go_31 : decode cX9_go 31 = .ok (.goto (-24), 3) := by decide +kernel
theorem dX9_go_34 : decode cX9_go 34 = .ok (.iconst 0, 1) := by decide +kernel
theorem dX9_go_35 : decode cX9_go 35 = .ok (.istore 4, 2) := by decide +kernel
theorem dX9_go_37 : decode cX9_go 37 = .ok (.iconst 1, 1) := by decide +kernel
theorem dX9_go_38 : decode cX9_go 38 = .ok (.istore 5, 2) := by decide +kernel
theorem dX9_go_40 : decode cX9_go 40 = .ok (.iload 5, 2) := by decide +kernel
theorem dX9_go_42 : decode cX9_go 42 = .ok (.ifCond .eq 52, 3) := by decide +kernel
theorem dX9_go_45 : decode cX9_go 45 = .ok (.iload 4, 2) := by decide +kernel
theorem dX9_go_47 : decode cX9_go 47 = .ok (.iload_n 2, 1) := by decide +kernel
theorem dX9_go_48 : decode cX9_go 48 = .ok (.aload_n 0, 1) := by decide +kernel
theorem dX9_go_49 : decode cX9_go 49 = .ok (.getfield 19, 3) := by decide +kernel
theorem dX9_go_52 : decode cX9_go 52 = .ok (.iload_n 1, 1) := by decide +kernel
theorem dX9_go_53 : decode cX9_go 53 = .ok (.iaload, 1) := by decide +kernel
theorem dX9_go_54 : decode cX9_go 54 = .ok (.imul, 1) := by decide +kernel
theorem dX9_go_55 : decode cX9_go 55 = .ok (.if_icmp .ge 39, 3) := by decide +kernel
theorem dX9_go_58 : decode cX9_go 58 = .ok (.aload_n 0, 1) := by decide +kernel
theorem dX9_go_59 : decode cX9_go 59 = .ok (.iload_n 1, 1) := by decide +kernel
theorem dX9_go_60 : decode cX9_go 60 = .ok (.iload 4, 2) := by decide +kernel
theorem dX9_go_62 : decode cX9_go 62 = .ok (.aload_n 0, 1) := by decide +kernel
theorem dX9_go_63 : decode cX9_go 63 = .ok (.getfield 19, 3) := by decide +kernel
theorem dX9_go_66 : decode cX9_go 66 = .ok (.iload_n 1, 1) := by decide +kernel
theorem dX9_go_67 : decode cX9_go 67 = .ok (.iaload, 1) := by decide +kernel
theorem dX9_go_68 : decode cX9_go 68 = .ok (.irem, 1) := by decide +kernel
theorem dX9_go_69 : decode cX9_go 69 = .ok (.iload_n 3, 1) := by decide +kernel
theorem dX9_go_70 : decode cX9_go 70 = .ok (.invokevirtual 129, 3) := by decide +kernel
theorem dX9_go_73 : decode cX9_go 73 = .ok (.aload_n 0, 1) := by decide +kernel
theorem dX9_go_74 : decode cX9_go 74 = .ok (.invokevirtual 133, 3) := by decide +kernel
theorem dX9_go_77 : decode cX9_go 77 = .ok (.istore 5, 2) := by decide +kernel
theorem dX9_go_79 : decode cX9_go 79 = .ok (.iload 5, 2) := by decide +kernel
theorem dX9_go_81 : decode cX9_go 81 = .ok (.ifCond .eq (-41), 3) := by decide +kernel
theorem dX9_go_84 : decode cX9_go 84 = .ok (.aload_n 0, 1) := by decide +kernel
theorem dX9_go_85 : decode cX9_go 85 = .ok (.invokevirtual 137, 3) := by decide +kernel
theorem dX9_go_88 : decode cX9_go 88 = .ok (.iinc 4 1, 3) := by decide +kernel
theorem dX9_go_91 : decode cX9_go 91 = .ok (.goto (-51), 3) := by decide +kernel
theorem dX9_go_94 : decode cX9_go 94 = .ok (.iload 4, 2) := by decide +kernel
theorem dX9_go_96 : decode cX9_go 96 = .ok (.ireturn, 1) := by decide +kernel
theorem dX9_goBack_0 : decode cX9_goBack 0 = .ok (.iconst 0, 1) := by decide +kernel
theorem dX9_goBack_1 : decode cX9_goBack 1 = .ok (.istore_n 1, 1) := by decide +kernel
theorem dX9_goBack_2 : decode cX9_goBack 2 = .ok (.iload_n 1, 1) := by decide +kernel
theorem dX9_goBack_3 : decode cX9_goBack 3 = .ok (.bipush 20, 2) := by decide +kernel
theorem dX9_goBack_5 : decode cX9_goBack 5 = .ok (.if_icmp .ge 21, 3) := by decide +kernel
theorem dX9_goBack_8 : decode cX9_goBack 8 = .ok (.aload_n 0, 1) := by decide +kernel
theorem dX9_goBack_9 : decode cX9_goBack 9 = .ok (.getfield 7, 3) := by decide +kernel
theorem dX9_goBack_12 : decode cX9_goBack 12 = .ok (.iload_n 1, 1) := by decide +kernel
theorem dX9_goBack_13 : decode cX9_goBack 13 = .ok (.aload_n 0, 1) := by decide +kernel
theorem dX9_goBack_14 : decode cX9_goBack 14 = .ok (.getfield 37, 3) := by decide +kernel
theorem dX9_goBack_17 : decode cX9_goBack 17 = .ok (.iload_n 1, 1) := by decide +kernel
theorem dX9_goBack_18 : decode cX9_goBack 18 = .ok (.iaload, 1) := by decide +kernel
theorem dX9_goBack_19 : decode cX9_goBack 19 = .ok (.iastore, 1) := by decide +kernel
theorem dX9_goBack_20 : decode cX9_goBack 20 = .ok (.iinc 1 1, 3) := by decide +kernel
theorem dX9_goBack_23 : decode cX9_goBack 23 = .ok (.goto (-21), 3) := by decide +kernel
theorem dX9_goBack_26 : decode cX9_goBack 26 = .ok (.return_, 1) := by decide +kernel
theorem dX9_danceNow_0 : decode cX9_danceNow 0 = .ok (.aload_n 0, 1) := by decide +kernel
theorem dX9_danceNow_1 : decode cX9_danceNow 1 = .ok (.iload_n 1, 1) := by decide +kernel
theorem dX9_danceNow_2 : decode cX9_danceNow 2 = .ok (.iload_n 2, 1) := by decide +kernel
theorem dX9_danceNow_3 : decode cX9_danceNow 3 = .ok (.iload_n 3, 1) := by decide +kernel
theorem dX9_danceNow_4 : decode cX9_danceNow 4 = .ok (.invokevirtual 140, 3) := by decide +kernel
theorem dX9_danceNow_7 : decode cX9_danceNow 7 = .ok (.istore 4, 2) := by decide +kernel
theorem dX9_danceNow_9 : decode cX9_danceNow 9 = .ok (.iload 4, 2) := by decide +kernel
theorem dX9_danceNow_11 : decode cX9_danceNow 11 = .ok (.iload_n 2, 1) := by decide +kernel
theorem dX9_danceNow_12 : decode cX9_danceNow 12 = .ok (.aload_n 0, 1) := by decide +kernel
theorem dX9_danceNow_13 : decode cX9_danceNow 13 = .ok (.getfield 19, 3) := by decide +kernel
theorem dX9_danceNow_16 : decode cX9_danceNow 16 = .ok (.iload_n 1, 1) := by decide +kernel
theorem dX9_danceNow_17 : decode cX9_danceNow 17 = .ok (.iaload, 1) := by decide +kernel
theorem dX9_danceNow_18 : decode cX9_danceNow 18 = .ok (.imul, 1) := by decide +kernel
theorem dX9_danceNow_19 : decode cX9_danceNow 19 = .ok (.if_icmp .ge 13, 3) := by decide +kernel
theorem dX9_danceNow_22 : decode cX9_danceNow 22 = .ok (.aload_n 0, 1) := by decide +kernel
theorem dX9_danceNow_23 : decode cX9_danceNow 23 = .ok (.invokevirtual 144, 3) := by decide +kernel
theorem dX9_danceNow_26 : decode cX9_danceNow 26 = .ok (.bipush (-100), 2) := by decide +kernel
theorem dX9_danceNow_28 : decode cX9_danceNow 28 = .ok (.iload 4, 2) := by decide +kernel
theorem dX9_danceNow_30 : decode cX9_danceNow 30 = .ok (.isub, 1) := by decide +kernel
theorem dX9_danceNow_31 : decode cX9_danceNow 31 = .ok (.ireturn, 1) := by decide +kernel
theorem dX9_danceNow_32 : decode cX9_danceNow 32 = .ok (.aload_n 0, 1) := by decide +kernel
theorem dX9_danceNow_33 : decode cX9_danceNow 33 = .ok (.getfield 7, 3) := by decide +kernel
theorem dX9_danceNow_36 : decode cX9_danceNow 36 = .ok (.sipush 278, 3) := by decide +kernel
theorem dX9_danceNow_39 : decode cX9_danceNow 39 = .ok (.dup2, 1) := by decide +kernel
theorem dX9_danceNow_40 : decode cX9_danceNow 40 = .ok (.iaload, 1) := by decide +kernel
theorem dX9_danceNow_41 : decode cX9_danceNow 41 = .ok (.iconst 1, 1) := by decide +kernel
theorem dX9_danceNow_42 : decode cX9_danceNow 42 = .ok (.iadd, 1) := by decide +kernel
theorem dX9_danceNow_43 : decode cX9_danceNow 43 = .ok (.iastore, 1) := by decide +kernel
theorem dX9_danceNow_44 : decode cX9_danceNow 44 = .ok (.aload_n 0, 1) := by decide +kernel
theorem dX9_danceNow_45 : decode cX9_danceNow 45 = .ok (.getfield 7, 3) := by decide +kernel
theorem dX9_danceNow_48 : decode cX9_danceNow 48 = .ok (.sipush 279, 3) := by decide +kernel
theorem dX9_danceNow_51 : decode cX9_danceNow 51 = .ok (.dup2, 1) := by decide +kernel
theorem dX9_danceNow_52 : decode cX9_danceNow 52 = .ok (.iaload, 1) := by decide +kernel
theorem dX9_danceNow_53 : decode cX9_danceNow 53 = .ok (.iload 4, 2) := by decide +kernel
theorem dX9_danceNow_55 : decode cX9_danceNow 55 = .ok (.iadd, 1) := by decide +kernel
theorem dX9_danceNow_56 : decode cX9_danceNow 56 = .ok (.iastore, 1) := by decide +kernel
theorem dX9_danceNow_57 : decode cX9_danceNow 57 = .ok (.iload 4, 2) := by decide +kernel
theorem dX9_danceNow_59 : decode cX9_danceNow 59 = .ok (.ireturn, 1) := by decide +kernel
theorem dX9_pairs_0 : decode cX9_pairs 0 = .ok (.iconst 0, 1) := by decide +kernel
theorem dX9_pairs_1 : decode cX9_pairs 1 = .ok (.istore_n 1, 1) := by decide +kernel
theorem dX9_pairs_2 : decode cX9_pairs 2 = .ok (.iconst 0, 1) := by decide +kernel
theorem dX9_pairs_3 : decode cX9_pairs 3 = .ok (.istore_n 2, 1) := by decide +kernel
theorem dX9_pairs_4 : decode cX9_pairs 4 = .ok (.iload_n 2, 1) := by decide +kernel
theorem dX9_pairs_5 : decode cX9_pairs 5 = .ok (.bipush 10, 2) := by decide +kernel
theorem dX9_pairs_7 : decode cX9_pairs 7 = .ok (.if_icmp .ge 31, 3) := by decide +kernel
theorem dX9_pairs_10 : decode cX9_pairs 10 = .ok (.iload_n 1, 1) := by decide +kernel
theorem dX9_pairs_11 : decode cX9_pairs 11 = .ok (.aload_n 0, 1) := by decide +kernel
theorem dX9_pairs_12 : decode cX9_pairs 12 = .ok (.getfield 7, 3) := by decide +kernel
theorem dX9_pairs_15 : decode cX9_pairs 15 = .ok (.bipush 20, 2) := by decide +kernel
theorem dX9_pairs_17 : decode cX9_pairs 17 = .ok (.iload_n 2, 1) := by decide +kernel
theorem dX9_pairs_18 : decode cX9_pairs 18 = .ok (.iadd, 1) := by decide +kernel
theorem dX9_pairs_19 : decode cX9_pairs 19 = .ok (.iaload, 1) := by decide +kernel
theorem dX9_pairs_20 : decode cX9_pairs 20 = .ok (.bipush (-5), 2) := by decide +kernel
theorem dX9_pairs_22 : decode cX9_pairs 22 = .ok (.if_icmp .eq 7, 3) := by decide +kernel
theorem dX9_pairs_25 : decode cX9_pairs 25 = .ok (.iconst 1, 1) := by decide +kernel
theorem dX9_pairs_26 : decode cX9_pairs 26 = .ok (.goto 4, 3) := by decide +kernel
theorem dX9_pairs_29 : decode cX9_pairs 29 = .ok (.iconst 0, 1) := by decide +kernel
theorem dX9_pairs_30 : decode cX9_pairs 30 = .ok (.iadd, 1) := by decide +kernel
theorem dX9_pairs_31 : decode cX9_pairs 31 = .ok (.istore_n 1, 1) := by decide +kernel
theorem dX9_pairs_32 : decode cX9_pairs 32 = .ok (.iinc 2 1, 3) := by decide +kernel
theorem dX9_pairs_35 : decode cX9_pairs 35 = .ok (.goto (-31), 3) := by decide +kernel
theorem dX9_pairs_38 : decode cX9_pairs 38 = .ok (.iload_n 1, 1) := by decide +kernel
theorem dX9_pairs_39 : decode cX9_pairs 39 = .ok (.iconst 2, 1) := by decide +kernel
theorem dX9_pairs_40 : decode cX9_pairs 40 = .ok (.idiv, 1) := by decide +kernel
theorem dX9_pairs_41 : decode cX9_pairs 41 = .ok (.ireturn, 1) := by decide +kernel
theorem dX9_hold_0 : decode cX9_hold 0 = .ok (.iload_n 1, 1) := by decide +kernel
theorem dX9_hold_1 : decode cX9_hold 1 = .ok (.invokestatic 147, 3) := by decide +kernel
theorem dX9_hold_4 : decode cX9_hold 4 = .ok (.ifCond .eq 10, 3) := by decide +kernel
theorem dX9_hold_7 : decode cX9_hold 7 = .ok (.iload_n 2, 1) := by decide +kernel
theorem dX9_hold_8 : decode cX9_hold 8 = .ok (.invokestatic 147, 3) := by decide +kernel
theorem dX9_hold_11 : decode cX9_hold 11 = .ok (.ifCond .ne 5, 3) := by decide +kernel
theorem dX9_hold_14 : decode cX9_hold 14 = .ok (.iconst (-1), 1) := by decide +kernel
theorem dX9_hold_15 : decode cX9_hold 15 = .ok (.ireturn, 1) := by decide +kernel
theorem dX9_hold_16 : decode cX9_hold 16 = .ok (.iload_n 1, 1) := by decide +kernel
theorem dX9_hold_17 : decode cX9_hold 17 = .ok (.iload_n 2, 1) := by decide +kernel
theorem dX9_hold_18 : decode cX9_hold 18 = .ok (.if_icmp .ne 6, 3) := by decide +kernel
theorem dX9_hold_21 : decode cX9_hold 21 = .ok (.bipush (-2), 2) := by decide +kernel
theorem dX9_hold_23 : decode cX9_hold 23 = .ok (.ireturn, 1) := by decide +kernel
theorem dX9_hold_24 : decode cX9_hold 24 = .ok (.aload_n 0, 1) := by decide +kernel
theorem dX9_hold_25 : decode cX9_hold 25 = .ok (.getfield 7, 3) := by decide +kernel
theorem dX9_hold_28 : decode cX9_hold 28 = .ok (.bipush 20, 2) := by decide +kernel
theorem dX9_hold_30 : decode cX9_hold 30 = .ok (.iload_n 1, 1) := by decide +kernel
theorem dX9_hold_31 : decode cX9_hold 31 = .ok (.iadd, 1) := by decide +kernel
theorem dX9_hold_32 : decode cX9_hold 32 = .ok (.iaload, 1) := by decide +kernel
theorem dX9_hold_33 : decode cX9_hold 33 = .ok (.bipush (-5), 2) := by decide +kernel
theorem dX9_hold_35 : decode cX9_hold 35 = .ok (.if_icmp .ne 33, 3) := by decide +kernel
theorem dX9_hold_38 : decode cX9_hold 38 = .ok (.aload_n 0, 1) := by decide +kernel
theorem dX9_hold_39 : decode cX9_hold 39 = .ok (.getfield 7, 3) := by decide +kernel
theorem dX9_hold_42 : decode cX9_hold 42 = .ok (.bipush 20, 2) := by decide +kernel
theorem dX9_hold_44 : decode cX9_hold 44 = .ok (.iload_n 2, 1) := by decide +kernel
theorem dX9_hold_45 : decode cX9_hold 45 = .ok (.iadd, 1) := by decide +kernel
theorem dX9_hold_46 : decode cX9_hold 46 = .ok (.iaload, 1) := by decide +kernel
theorem dX9_hold_47 : decode cX9_hold 47 = .ok (.bipush (-5), 2) := by decide +kernel
theorem dX9_hold_49 : decode cX9_hold 49 = .ok (.if_icmp .ne 19, 3) := by decide +kernel
theorem dX9_hold_52 : decode cX9_hold 52 = .ok (.aload_n 0, 1) := by decide +kernel
theorem dX9_hold_53 : decode cX9_hold 53 = .ok (.iload_n 1, 1) := by decide +kernel
theorem dX9_hold_54 : decode cX9_hold 54 = .ok (.invokevirtual 123, 3) := by decide +kernel
theorem dX9_hold_57 : decode cX9_hold 57 = .ok (.aload_n 0, 1) := by decide +kernel
theorem dX9_hold_58 : decode cX9_hold 58 = .ok (.iload_n 2, 1) := by decide +kernel
theorem dX9_hold_59 : decode cX9_hold 59 = .ok (.invokevirtual 123, 3) := by decide +kernel
theorem dX9_hold_62 : decode cX9_hold 62 = .ok (.invokestatic 126, 3) := by decide +kernel
theorem dX9_hold_65 : decode cX9_hold 65 = .ok (.ifCond .ne 6, 3) := by decide +kernel
theorem dX9_hold_68 : decode cX9_hold 68 = .ok (.bipush (-4), 2) := by decide +kernel
theorem dX9_hold_70 : decode cX9_hold 70 = .ok (.ireturn, 1) := by decide +kernel
theorem dX9_hold_71 : decode cX9_hold 71 = .ok (.aload_n 0, 1) := by decide +kernel
theorem dX9_hold_72 : decode cX9_hold 72 = .ok (.invokevirtual 78, 3) := by decide +kernel
theorem dX9_hold_75 : decode cX9_hold 75 = .ok (.aload_n 0, 1) := by decide +kernel
theorem dX9_hold_76 : decode cX9_hold 76 = .ok (.getfield 7, 3) := by decide +kernel
theorem dX9_hold_79 : decode cX9_hold 79 = .ok (.bipush 20, 2) := by decide +kernel
theorem dX9_hold_81 : decode cX9_hold 81 = .ok (.iload_n 1, 1) := by decide +kernel
theorem dX9_hold_82 : decode cX9_hold 82 = .ok (.iadd, 1) := by decide +kernel
theorem dX9_hold_83 : decode cX9_hold 83 = .ok (.iload_n 2, 1) := by decide +kernel
theorem dX9_hold_84 : decode cX9_hold 84 = .ok (.iastore, 1) := by decide +kernel
theorem dX9_hold_85 : decode cX9_hold 85 = .ok (.aload_n 0, 1) := by decide +kernel
theorem dX9_hold_86 : decode cX9_hold 86 = .ok (.getfield 7, 3) := by decide +kernel
theorem dX9_hold_89 : decode cX9_hold 89 = .ok (.bipush 20, 2) := by decide +kernel
theorem dX9_hold_91 : decode cX9_hold 91 = .ok (.iload_n 2, 1) := by decide +kernel
theorem dX9_hold_92 : decode cX9_hold 92 = .ok (.iadd, 1) := by decide +kernel
theorem dX9_hold_93 : decode cX9_hold 93 = .ok (.iload_n 1, 1) := by decide +kernel
theorem dX9_hold_94 : decode cX9_hold 94 = .ok (.iastore, 1) := by decide +kernel
theorem dX9_hold_95 : decode cX9_hold 95 = .ok (.aload_n 0, 1) := by decide +kernel
theorem dX9_hold_96 : decode cX9_hold 96 = .ok (.invokevirtual 150, 3) := by decide +kernel
theorem dX9_hold_99 : decode cX9_hold 99 = .ok (.ireturn, 1) := by decide +kernel
theorem dX9_release_0 : decode cX9_release 0 = .ok (.iload_n 1, 1) := by decide +kernel
theorem dX9_release_1 : decode cX9_release 1 = .ok (.invokestatic 147, 3) := by decide +kernel
theorem dX9_release_4 : decode cX9_release 4 = .ok (.ifCond .ne 5, 3) := by decide +kernel
theorem dX9_release_7 : decode cX9_release 7 = .ok (.iconst (-1), 1) := by decide +kernel
theorem dX9_release_8 : decode cX9_release 8 = .ok (.ireturn, 1) := by decide +kernel
theorem dX9_release_9 : decode cX9_release 9 = .ok (.aload_n 0, 1) := by decide +kernel
theorem dX9_release_10 : decode cX9_release 10 = .ok (.getfield 7, 3) := by decide +kernel
theorem dX9_release_13 : decode cX9_release 13 = .ok (.bipush 20, 2) := by decide +kernel
theorem dX9_release_15 : decode cX9_release 15 = .ok (.iload_n 1, 1) := by decide +kernel
theorem dX9_release_16 : decode cX9_release 16 = .ok (.iadd, 1) := by decide +kernel
theorem dX9_release_17 : decode cX9_release 17 = .ok (.iaload, 1) := by decide +kernel
theorem dX9_release_18 : decode cX9_release 18 = .ok (.bipush (-5), 2) := by decide +kernel
theorem dX9_release_20 : decode cX9_release 20 = .ok (.if_icmp .ne 6, 3) := by decide +kernel
theorem dX9_release_23 : decode cX9_release 23 = .ok (.bipush (-4), 2) := by decide +kernel
theorem dX9_release_25 : decode cX9_release 25 = .ok (.ireturn, 1) := by decide +kernel
theorem dX9_release_26 : decode cX9_release 26 = .ok (.aload_n 0, 1) := by decide +kernel
theorem dX9_release_27 : decode cX9_release 27 = .ok (.invokevirtual 78, 3) := by decide +kernel
theorem dX9_release_30 : decode cX9_release 30 = .ok (.aload_n 0, 1) := by decide +kernel
theorem dX9_release_31 : decode cX9_release 31 = .ok (.getfield 7, 3) := by decide +kernel
theorem dX9_release_34 : decode cX9_release 34 = .ok (.bipush 20, 2) := by decide +kernel
theorem dX9_release_36 : decode cX9_release 36 = .ok (.iload_n 1, 1) := by decide +kernel
theorem dX9_release_37 : decode cX9_release 37 = .ok (.iadd, 1) := by decide +kernel
theorem dX9_release_38 : decode cX9_release 38 = .ok (.iaload, 1) := by decide +kernel
theorem dX9_release_39 : decode cX9_release 39 = .ok (.istore_n 2, 1) := by decide +kernel
theorem dX9_release_40 : decode cX9_release 40 = .ok (.aload_n 0, 1) := by decide +kernel
theorem dX9_release_41 : decode cX9_release 41 = .ok (.getfield 7, 3) := by decide +kernel
theorem dX9_release_44 : decode cX9_release 44 = .ok (.bipush 20, 2) := by decide +kernel
theorem dX9_release_46 : decode cX9_release 46 = .ok (.iload_n 1, 1) := by decide +kernel
theorem dX9_release_47 : decode cX9_release 47 = .ok (.iadd, 1) := by decide +kernel
theorem dX9_release_48 : decode cX9_release 48 = .ok (.bipush (-5), 2) := by decide +kernel
theorem dX9_release_50 : decode cX9_release 50 = .ok (.iastore, 1) := by decide +kernel
theorem dX9_release_51 : decode cX9_release 51 = .ok (.aload_n 0, 1) := by decide +kernel
theorem dX9_release_52 : decode cX9_release 52 = .ok (.getfield 7, 3) := by decide +kernel
theorem dX9_release_55 : decode cX9_release 55 = .ok (.bipush 20, 2) := by decide +kernel
theorem dX9_release_57 : decode cX9_release 57 = .ok (.iload_n 2, 1) := by decide +kernel
theorem dX9_release_58 : decode cX9_release 58 = .ok (.iadd, 1) := by decide +kernel
theorem dX9_release_59 : decode cX9_release 59 = .ok (.bipush (-5), 2) := by decide +kernel
theorem dX9_release_61 : decode cX9_release 61 = .ok (.iastore, 1) := by decide +kernel
theorem dX9_release_62 : decode cX9_release 62 = .ok (.iload_n 2, 1) := by decide +kernel
theorem dX9_release_63 : decode cX9_release 63 = .ok (.ireturn, 1) := by decide +kernel
theorem dX9_dance_0 : decode cX9_dance 0 = .ok (.iload_n 1, 1) := by decide +kernel
theorem dX9_dance_1 : decode cX9_dance 1 = .ok (.invokestatic 97, 3) := by decide +kernel
theorem dX9_dance_4 : decode cX9_dance 4 = .ok (.ifCond .ne 5, 3) := by decide +kernel
theorem dX9_dance_7 : decode cX9_dance 7 = .ok (.iconst (-1), 1) := by decide +kernel
theorem dX9_dance_8 : decode cX9_dance 8 = .ok (.ireturn, 1) := by decide +kernel
theorem dX9_dance_9 : decode cX9_dance 9 = .ok (.iload_n 2, 1) := by decide +kernel
theorem dX9_dance_10 : decode cX9_dance 10 = .ok (.iconst 1, 1) := by decide +kernel
theorem dX9_dance_11 : decode cX9_dance 11 = .ok (.bipush 9, 2) := by decide +kernel
theorem dX9_dance_13 : decode cX9_dance 13 = .ok (.invokestatic 62, 3) := by decide +kernel
theorem dX9_dance_16 : decode cX9_dance 16 = .ok (.ifCond .ne 6, 3) := by decide +kernel
theorem dX9_dance_19 : decode cX9_dance 19 = .ok (.bipush (-2), 2) := by decide +kernel
theorem dX9_dance_21 : decode cX9_dance 21 = .ok (.ireturn, 1) := by decide +kernel
theorem dX9_dance_22 : decode cX9_dance 22 = .ok (.aload_n 0, 1) := by decide +kernel
theorem dX9_dance_23 : decode cX9_dance 23 = .ok (.iload_n 1, 1) := by decide +kernel
theorem dX9_dance_24 : decode cX9_dance 24 = .ok (.iload_n 2, 1) := by decide +kernel
theorem dX9_dance_25 : decode cX9_dance 25 = .ok (.iload_n 3, 1) := by decide +kernel
theorem dX9_dance_26 : decode cX9_dance 26 = .ok (.invokevirtual 140, 3) := by decide +kernel
theorem dX9_dance_29 : decode cX9_dance 29 = .ok (.istore 4, 2) := by decide +kernel
theorem dX9_dance_31 : decode cX9_dance 31 = .ok (.aload_n 0, 1) := by decide +kernel
theorem dX9_dance_32 : decode cX9_dance 32 = .ok (.invokevirtual 144, 3) := by decide +kernel
theorem dX9_dance_35 : decode cX9_dance 35 = .ok (.iload 4, 2) := by decide +kernel
theorem dX9_dance_37 : decode cX9_dance 37 = .ok (.iload_n 2, 1) := by decide +kernel
theorem dX9_dance_38 : decode cX9_dance 38 = .ok (.aload_n 0, 1) := by decide +kernel
theorem dX9_dance_39 : decode cX9_dance 39 = .ok (.getfield 19, 3) := by decide +kernel
theorem dX9_dance_42 : decode cX9_dance 42 = .ok (.iload_n 1, 1) := by decide +kernel
theorem dX9_dance_43 : decode cX9_dance 43 = .ok (.iaload, 1) := by decide +kernel
theorem dX9_dance_44 : decode cX9_dance 44 = .ok (.imul, 1) := by decide +kernel
theorem dX9_dance_45 : decode cX9_dance 45 = .ok (.if_icmp .ge 9, 3) := by decide +kernel
theorem dX9_dance_48 : decode cX9_dance 48 = .ok (.bipush (-100), 2) := by decide +kernel
theorem dX9_dance_50 : decode cX9_dance 50 = .ok (.iload 4, 2) := by decide +kernel
theorem dX9_dance_52 : decode cX9_dance 52 = .ok (.isub, 1) := by decide +kernel
theorem dX9_dance_53 : decode cX9_dance 53 = .ok (.ireturn, 1) := by decide +kernel
theorem dX9_dance_54 : decode cX9_dance 54 = .ok (.aload_n 0, 1) := by decide +kernel
theorem dX9_dance_55 : decode cX9_dance 55 = .ok (.invokevirtual 78, 3) := by decide +kernel
theorem dX9_dance_58 : decode cX9_dance 58 = .ok (.aload_n 0, 1) := by decide +kernel
theorem dX9_dance_59 : decode cX9_dance 59 = .ok (.iload_n 1, 1) := by decide +kernel
theorem dX9_dance_60 : decode cX9_dance 60 = .ok (.iload_n 2, 1) := by decide +kernel
theorem dX9_dance_61 : decode cX9_dance 61 = .ok (.iload_n 3, 1) := by decide +kernel
theorem dX9_dance_62 : decode cX9_dance 62 = .ok (.invokevirtual 154, 3) := by decide +kernel
theorem dX9_dance_65 : decode cX9_dance 65 = .ok (.ireturn, 1) := by decide +kernel
theorem dX9_goHome_0 : decode cX9_goHome 0 = .ok (.aload_n 0, 1) := by decide +kernel
theorem dX9_goHome_1 : decode cX9_goHome 1 = .ok (.invokevirtual 78, 3) := by decide +kernel
theorem dX9_goHome_4 : decode cX9_goHome 4 = .ok (.bipush 10, 2) := by decide +kernel
theorem dX9_goHome_6 : decode cX9_goHome 6 = .ok (.aload_n 0, 1) := by decide +kernel
theorem dX9_goHome_7 : decode cX9_goHome 7 = .ok (.iconst 1, 1) := by decide +kernel
theorem dX9_goHome_8 : decode cX9_goHome 8 = .ok (.invokevirtual 74, 3) := by decide +kernel
theorem dX9_goHome_11 : decode cX9_goHome 11 = .ok (.isub, 1) := by decide +kernel
theorem dX9_goHome_12 : decode cX9_goHome 12 = .ok (.istore_n 1, 1) := by decide +kernel
theorem dX9_goHome_13 : decode cX9_goHome 13 = .ok (.iconst 0, 1) := by decide +kernel
theorem dX9_goHome_14 : decode cX9_goHome 14 = .ok (.istore_n 2, 1) := by decide +kernel
theorem dX9_goHome_15 : decode cX9_goHome 15 = .ok (.iload_n 2, 1) := by decide +kernel
theorem dX9_goHome_16 : decode cX9_goHome 16 = .ok (.bipush 10, 2) := by decide +kernel
theorem dX9_goHome_18 : decode cX9_goHome 18 = .ok (.if_icmp .ge 28, 3) := by decide +kernel
theorem dX9_goHome_21 : decode cX9_goHome 21 = .ok (.aload_n 0, 1) := by decide +kernel
theorem dX9_goHome_22 : decode cX9_goHome 22 = .ok (.getfield 7, 3) := by decide +kernel
theorem dX9_goHome_25 : decode cX9_goHome 25 = .ok (.iconst 0, 1) := by decide +kernel
theorem dX9_goHome_26 : decode cX9_goHome 26 = .ok (.iload_n 2, 1) := by decide +kernel
theorem dX9_goHome_27 : decode cX9_goHome 27 = .ok (.iadd, 1) := by decide +kernel
theorem dX9_goHome_28 : decode cX9_goHome 28 = .ok (.iload_n 2, 1) := by decide +kernel
theorem dX9_goHome_29 : decode cX9_goHome 29 = .ok (.iastore, 1) := by decide +kernel
theorem dX9_goHome_30 : decode cX9_goHome 30 = .ok (.aload_n 0, 1) := by decide +kernel
theorem dX9_goHome_31 : decode cX9_goHome 31 = .ok (.getfield 7, 3) := by decide +kernel
theorem dX9_goHome_34 : decode cX9_goHome 34 = .ok (.bipush 10, 2) := by decide +kernel
theorem dX9_goHome_36 : decode cX9_goHome 36 = .ok (.iload_n 2, 1) := by decide +kernel
theorem dX9_goHome_37 : decode cX9_goHome 37 = .ok (.iadd, 1) := by decide +kernel
theorem dX9_goHome_38 : decode cX9_goHome 38 = .ok (.iconst 0, 1) := by decide +kernel
theorem dX9_goHome_39 : decode cX9_goHome 39 = .ok (.iastore, 1) := by decide +kernel
theorem dX9_goHome_40 : decode cX9_goHome 40 = .ok (.iinc 2 1, 3) := by decide +kernel
theorem dX9_goHome_43 : decode cX9_goHome 43 = .ok (.goto (-28), 3) := by decide +kernel
theorem dX9_goHome_46 : decode cX9_goHome 46 = .ok (.iconst 0, 1) := by decide +kernel
theorem dX9_goHome_47 : decode cX9_goHome 47 = .ok (.istore_n 2, 1) := by decide +kernel
theorem dX9_goHome_48 : decode cX9_goHome 48 = .ok (.iload_n 2, 1) := by decide +kernel
theorem dX9_goHome_49 : decode cX9_goHome 49 = .ok (.bipush 10, 2) := by decide +kernel
