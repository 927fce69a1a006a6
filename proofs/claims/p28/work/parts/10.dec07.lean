theorem dX8_squares_23 : decode cX8_squares 23 = .ok (.iload_n 2, 1) := by decide +kernel
theorem dX8_squares_24 : decode cX8_squares 24 = .ok (.iaload, 1) := by decide +kernel
theorem dX8_squares_25 : decode cX8_squares 25 = .ok (.imul, 1) := by decide +kernel
theorem dX8_squares_26 : decode cX8_squares 26 = .ok (.iadd, 1) := by decide +kernel
theorem dX8_squares_27 : decode cX8_squares 27 = .ok (.istore_n 1, 1) := by decide +kernel
theorem dX8_squares_28 : decode cX8_squares 28 = .ok (.iinc 2 1, 3) := by decide +kernel
theorem dX8_squares_31 : decode cX8_squares 31 = .ok (.goto (-27), 3) := by decide +kernel
theorem dX8_squares_34 : decode cX8_squares 34 = .ok (.iload_n 1, 1) := by decide +kernel
theorem dX8_squares_35 : decode cX8_squares 35 = .ok (.ireturn, 1) := by decide +kernel
theorem dX8_weigh_0 : decode cX8_weigh 0 = .ok (.aload_n 0, 1) := by decide +kernel
theorem dX8_weigh_1 : decode cX8_weigh 1 = .ok (.lconst 1, 1) := by decide +kernel
theorem dX8_weigh_2 : decode cX8_weigh 2 = .ok (.putfield 168, 3) := by decide +kernel
theorem dX8_weigh_5 : decode cX8_weigh 5 = .ok (.iload_n 1, 1) := by decide +kernel
theorem dX8_weigh_6 : decode cX8_weigh 6 = .ok (.tableswitch 142 0 4 #[34, 51, 63, 96, 119], 34) := by decide +kernel
theorem dX8_weigh_40 : decode cX8_weigh 40 = .ok (.aload_n 0, 1) := by decide +kernel
theorem dX8_weigh_41 : decode cX8_weigh 41 = .ok (.aload_n 0, 1) := by decide +kernel
theorem dX8_weigh_42 : decode cX8_weigh 42 = .ok (.invokevirtual 172, 3) := by decide +kernel
theorem dX8_weigh_45 : decode cX8_weigh 45 = .ok (.aload_n 0, 1) := by decide +kernel
theorem dX8_weigh_46 : decode cX8_weigh 46 = .ok (.invokevirtual 176, 3) := by decide +kernel
theorem dX8_weigh_49 : decode cX8_weigh 49 = .ok (.isub, 1) := by decide +kernel
theorem dX8_weigh_50 : decode cX8_weigh 50 = .ok (.i2l, 1) := by decide +kernel
theorem dX8_weigh_51 : decode cX8_weigh 51 = .ok (.putfield 179, 3) := by decide +kernel
theorem dX8_weigh_54 : decode cX8_weigh 54 = .ok (.goto 121, 3) := by decide +kernel
theorem dX8_weigh_57 : decode cX8_weigh 57 = .ok (.aload_n 0, 1) := by decide +kernel
theorem dX8_weigh_58 : decode cX8_weigh 58 = .ok (.aload_n 0, 1) := by decide +kernel
theorem dX8_weigh_59 : decode cX8_weigh 59 = .ok (.invokevirtual 182, 3) := by decide +kernel
theorem dX8_weigh_62 : decode cX8_weigh 62 = .ok (.i2l, 1) := by decide +kernel
theorem dX8_weigh_63 : decode cX8_weigh 63 = .ok (.putfield 179, 3) := by decide +kernel
theorem dX8_weigh_66 : decode cX8_weigh 66 = .ok (.goto 109, 3) := by decide +kernel
theorem dX8_weigh_69 : decode cX8_weigh 69 = .ok (.aload_n 0, 1) := by decide +kernel
theorem dX8_weigh_70 : decode cX8_weigh 70 = .ok (.aload_n 0, 1) := by decide +kernel
theorem dX8_weigh_71 : decode cX8_weigh 71 = .ok (.iload_n 2, 1) := by decide +kernel
theorem dX8_weigh_72 : decode cX8_weigh 72 = .ok (.invokevirtual 185, 3) := by decide +kernel
theorem dX8_weigh_75 : decode cX8_weigh 75 = .ok (.i2l, 1) := by decide +kernel
theorem dX8_weigh_76 : decode cX8_weigh 76 = .ok (.putfield 179, 3) := by decide +kernel
theorem dX8_weigh_79 : decode cX8_weigh 79 = .ok (.aload_n 0, 1) := by decide +kernel
theorem dX8_weigh_80 : decode cX8_weigh 80 = .ok (.aload_n 0, 1) := by decide +kernel
theorem dX8_weigh_81 : decode cX8_weigh 81 = .ok (.invokevirtual 188, 3) := by decide +kernel
theorem dX8_weigh_84 : decode cX8_weigh 84 = .ok (.ifCond .ne 7, 3) := by decide +kernel
theorem dX8_weigh_87 : decode cX8_weigh 87 = .ok (.lconst 1, 1) := by decide +kernel
theorem dX8_weigh_88 : decode cX8_weigh 88 = .ok (.goto 8, 3) := by decide +kernel
theorem dX8_weigh_91 : decode cX8_weigh 91 = .ok (.aload_n 0, 1) := by decide +kernel
theorem dX8_weigh_92 : decode cX8_weigh 92 = .ok (.invokevirtual 188, 3) := by decide +kernel
theorem dX8_weigh_95 : decode cX8_weigh 95 = .ok (.i2l, 1) := by decide +kernel
theorem dX8_weigh_96 : decode cX8_weigh 96 = .ok (.putfield 168, 3) := by decide +kernel
theorem dX8_weigh_99 : decode cX8_weigh 99 = .ok (.goto 76, 3) := by decide +kernel
theorem dX8_weigh_102 : decode cX8_weigh 102 = .ok (.aload_n 0, 1) := by decide +kernel
theorem dX8_weigh_103 : decode cX8_weigh 103 = .ok (.aload_n 0, 1) := by decide +kernel
theorem dX8_weigh_104 : decode cX8_weigh 104 = .ok (.iload_n 2, 1) := by decide +kernel
theorem dX8_weigh_105 : decode cX8_weigh 105 = .ok (.iconst 0, 1) := by decide +kernel
theorem dX8_weigh_106 : decode cX8_weigh 106 = .ok (.invokevirtual 191, 3) := by decide +kernel
theorem dX8_weigh_109 : decode cX8_weigh 109 = .ok (.i2l, 1) := by decide +kernel
theorem dX8_weigh_110 : decode cX8_weigh 110 = .ok (.putfield 179, 3) := by decide +kernel
theorem dX8_weigh_113 : decode cX8_weigh 113 = .ok (.aload_n 0, 1) := by decide +kernel
theorem dX8_weigh_114 : decode cX8_weigh 114 = .ok (.aload_n 0, 1) := by decide +kernel
theorem dX8_weigh_115 : decode cX8_weigh 115 = .ok (.getfield 165, 3) := by decide +kernel
theorem dX8_weigh_118 : decode cX8_weigh 118 = .ok (.i2l, 1) := by decide +kernel
theorem dX8_weigh_119 : decode cX8_weigh 119 = .ok (.putfield 168, 3) := by decide +kernel
theorem dX8_weigh_122 : decode cX8_weigh 122 = .ok (.goto 53, 3) := by decide +kernel
theorem dX8_weigh_125 : decode cX8_weigh 125 = .ok (.aload_n 0, 1) := by decide +kernel
theorem dX8_weigh_126 : decode cX8_weigh 126 = .ok (.aload_n 0, 1) := by decide +kernel
theorem dX8_weigh_127 : decode cX8_weigh 127 = .ok (.iload_n 2, 1) := by decide +kernel
theorem dX8_weigh_128 : decode cX8_weigh 128 = .ok (.iconst 1, 1) := by decide +kernel
theorem dX8_weigh_129 : decode cX8_weigh 129 = .ok (.invokevirtual 191, 3) := by decide +kernel
theorem dX8_weigh_132 : decode cX8_weigh 132 = .ok (.i2l, 1) := by decide +kernel
theorem dX8_weigh_133 : decode cX8_weigh 133 = .ok (.putfield 179, 3) := by decide +kernel
theorem dX8_weigh_136 : decode cX8_weigh 136 = .ok (.aload_n 0, 1) := by decide +kernel
theorem dX8_weigh_137 : decode cX8_weigh 137 = .ok (.aload_n 0, 1) := by decide +kernel
theorem dX8_weigh_138 : decode cX8_weigh 138 = .ok (.getfield 165, 3) := by decide +kernel
theorem dX8_weigh_141 : decode cX8_weigh 141 = .ok (.i2l, 1) := by decide +kernel
theorem dX8_weigh_142 : decode cX8_weigh 142 = .ok (.putfield 168, 3) := by decide +kernel
theorem dX8_weigh_145 : decode cX8_weigh 145 = .ok (.goto 30, 3) := by decide +kernel
theorem dX8_weigh_148 : decode cX8_weigh 148 = .ok (.aload_n 0, 1) := by decide +kernel
theorem dX8_weigh_149 : decode cX8_weigh 149 = .ok (.aload_n 0, 1) := by decide +kernel
theorem dX8_weigh_150 : decode cX8_weigh 150 = .ok (.getfield 165, 3) := by decide +kernel
theorem dX8_weigh_153 : decode cX8_weigh 153 = .ok (.i2l, 1) := by decide +kernel
theorem dX8_weigh_154 : decode cX8_weigh 154 = .ok (.aload_n 0, 1) := by decide +kernel
theorem dX8_weigh_155 : decode cX8_weigh 155 = .ok (.invokevirtual 195, 3) := by decide +kernel
theorem dX8_weigh_158 : decode cX8_weigh 158 = .ok (.i2l, 1) := by decide +kernel
theorem dX8_weigh_159 : decode cX8_weigh 159 = .ok (.lmul, 1) := by decide +kernel
theorem dX8_weigh_160 : decode cX8_weigh 160 = .ok (.aload_n 0, 1) := by decide +kernel
theorem dX8_weigh_161 : decode cX8_weigh 161 = .ok (.invokevirtual 188, 3) := by decide +kernel
theorem dX8_weigh_164 : decode cX8_weigh 164 = .ok (.i2l, 1) := by decide +kernel
theorem dX8_weigh_165 : decode cX8_weigh 165 = .ok (.aload_n 0, 1) := by decide +kernel
theorem dX8_weigh_166 : decode cX8_weigh 166 = .ok (.invokevirtual 188, 3) := by decide +kernel
theorem dX8_weigh_169 : decode cX8_weigh 169 = .ok (.i2l, 1) := by decide +kernel
theorem dX8_weigh_170 : decode cX8_weigh 170 = .ok (.lmul, 1) := by decide +kernel
theorem dX8_weigh_171 : decode cX8_weigh 171 = .ok (.lsub, 1) := by decide +kernel
theorem dX8_weigh_172 : decode cX8_weigh 172 = .ok (.putfield 179, 3) := by decide +kernel
theorem dX8_weigh_175 : decode cX8_weigh 175 = .ok (.return_, 1) := by decide +kernel
theorem dX8_isMeasure_0 : decode cX8_isMeasure 0 = .ok (.iload_n 0, 1) := by decide +kernel
theorem dX8_isMeasure_1 : decode cX8_isMeasure 1 = .ok (.i2l, 1) := by decide +kernel
theorem dX8_isMeasure_2 : decode cX8_isMeasure 2 = .ok (.lconst 0, 1) := by decide +kernel
theorem dX8_isMeasure_3 : decode cX8_isMeasure 3 = .ok (.ldc2_w 198, 3) := by decide +kernel
theorem dX8_isMeasure_6 : decode cX8_isMeasure 6 = .ok (.invokestatic 77, 3) := by decide +kernel
theorem dX8_isMeasure_9 : decode cX8_isMeasure 9 = .ok (.ifCond .eq 44, 3) := by decide +kernel
theorem dX8_isMeasure_12 : decode cX8_isMeasure 12 = .ok (.iload_n 1, 1) := by decide +kernel
theorem dX8_isMeasure_13 : decode cX8_isMeasure 13 = .ok (.i2l, 1) := by decide +kernel
theorem dX8_isMeasure_14 : decode cX8_isMeasure 14 = .ok (.lconst 0, 1) := by decide +kernel
theorem dX8_isMeasure_15 : decode cX8_isMeasure 15 = .ok (.iload_n 0, 1) := by decide +kernel
theorem dX8_isMeasure_16 : decode cX8_isMeasure 16 = .ok (.iconst 2, 1) := by decide +kernel
theorem dX8_isMeasure_17 : decode cX8_isMeasure 17 = .ok (.if_icmp .ne 9, 3) := by decide +kernel
theorem dX8_isMeasure_20 : decode cX8_isMeasure 20 = .ok (.ldc2_w 200, 3) := by decide +kernel
theorem dX8_isMeasure_23 : decode cX8_isMeasure 23 = .ok (.goto 20, 3) := by decide +kernel
theorem dX8_isMeasure_26 : decode cX8_isMeasure 26 = .ok (.iload_n 0, 1) := by decide +kernel
theorem dX8_isMeasure_27 : decode cX8_isMeasure 27 = .ok (.iconst 3, 1) := by decide +kernel
theorem dX8_isMeasure_28 : decode cX8_isMeasure 28 = .ok (.if_icmp .eq 8, 3) := by decide +kernel
theorem dX8_isMeasure_31 : decode cX8_isMeasure 31 = .ok (.iload_n 0, 1) := by decide +kernel
theorem dX8_isMeasure_32 : decode cX8_isMeasure 32 = .ok (.iconst 4, 1) := by decide +kernel
theorem dX8_isMeasure_33 : decode cX8_isMeasure 33 = .ok (.if_icmp .ne 9, 3) := by decide +kernel
theorem dX8_isMeasure_36 : decode cX8_isMeasure 36 = .ok (.ldc2_w 85, 3) := by decide +kernel
theorem dX8_isMeasure_39 : decode cX8_isMeasure 39 = .ok (.goto 4, 3) := by decide +kernel
theorem dX8_isMeasure_42 : decode cX8_isMeasure 42 = .ok (.lconst 0, 1) := by decide +kernel
theorem dX8_isMeasure_43 : decode cX8_isMeasure 43 = .ok (.invokestatic 77, 3) := by decide +kernel
theorem dX8_isMeasure_46 : decode cX8_isMeasure 46 = .ok (.ifCond .eq 7, 3) := by decide +kernel
theorem dX8_isMeasure_49 : decode cX8_isMeasure 49 = .ok (.iconst 1, 1) := by decide +kernel
theorem dX8_isMeasure_50 : decode cX8_isMeasure 50 = .ok (.goto 4, 3) := by decide +kernel
theorem dX8_isMeasure_53 : decode cX8_isMeasure 53 = .ok (.iconst 0, 1) := by decide +kernel
theorem dX8_isMeasure_54 : decode cX8_isMeasure 54 = .ok (.ireturn, 1) := by decide +kernel
theorem dX8_takeRow_0 : decode cX8_takeRow 0 = .ok (.aload_n 0, 1) := by decide +kernel
theorem dX8_takeRow_1 : decode cX8_takeRow 1 = .ok (.aload_n 0, 1) := by decide +kernel
theorem dX8_takeRow_2 : decode cX8_takeRow 2 = .ok (.getfield 7, 3) := by decide +kernel
theorem dX8_takeRow_5 : decode cX8_takeRow 5 = .ok (.iload_n 1, 1) := by decide +kernel
theorem dX8_takeRow_6 : decode cX8_takeRow 6 = .ok (.iaload, 1) := by decide +kernel
theorem dX8_takeRow_7 : decode cX8_takeRow 7 = .ok (.putfield 165, 3) := by decide +kernel
theorem dX8_takeRow_10 : decode cX8_takeRow 10 = .ok (.iconst 0, 1) := by decide +kernel
theorem dX8_takeRow_11 : decode cX8_takeRow 11 = .ok (.istore_n 2, 1) := by decide +kernel
theorem dX8_takeRow_12 : decode cX8_takeRow 12 = .ok (.iload_n 2, 1) := by decide +kernel
theorem dX8_takeRow_13 : decode cX8_takeRow 13 = .ok (.aload_n 0, 1) := by decide +kernel
theorem dX8_takeRow_14 : decode cX8_takeRow 14 = .ok (.getfield 165, 3) := by decide +kernel
theorem dX8_takeRow_17 : decode cX8_takeRow 17 = .ok (.if_icmp .ge 26, 3) := by decide +kernel
theorem dX8_takeRow_20 : decode cX8_takeRow 20 = .ok (.aload_n 0, 1) := by decide +kernel
theorem dX8_takeRow_21 : decode cX8_takeRow 21 = .ok (.getfield 56, 3) := by decide +kernel
theorem dX8_takeRow_24 : decode cX8_takeRow 24 = .ok (.iload_n 2, 1) := by decide +kernel
theorem dX8_takeRow_25 : decode cX8_takeRow 25 = .ok (.aload_n 0, 1) := by decide +kernel
theorem dX8_takeRow_26 : decode cX8_takeRow 26 = .ok (.getfield 13, 3) := by decide +kernel
theorem dX8_takeRow_29 : decode cX8_takeRow 29 = .ok (.bipush 8, 2) := by decide +kernel
theorem dX8_takeRow_31 : decode cX8_takeRow 31 = .ok (.iload_n 1, 1) := by decide +kernel
theorem dX8_takeRow_32 : decode cX8_takeRow 32 = .ok (.imul, 1) := by decide +kernel
theorem dX8_takeRow_33 : decode cX8_takeRow 33 = .ok (.iload_n 2, 1) := by decide +kernel
theorem dX8_takeRow_34 : decode cX8_takeRow 34 = .ok (.iadd, 1) := by decide +kernel
theorem dX8_takeRow_35 : decode cX8_takeRow 35 = .ok (.iaload, 1) := by decide +kernel
theorem dX8_takeRow_36 : decode cX8_takeRow 36 = .ok (.iastore, 1) := by decide +kernel
theorem dX8_takeRow_37 : decode cX8_takeRow 37 = .ok (.iinc 2 1, 3) := by decide +kernel
theorem dX8_takeRow_40 : decode cX8_takeRow 40 = .ok (.goto (-28), 3) := by decide +kernel
theorem dX8_takeRow_43 : decode cX8_takeRow 43 = .ok (.return_, 1) := by decide +kernel
theorem dX8_measure_0 : decode cX8_measure 0 = .ok (.iload_n 1, 1) := by decide +kernel
theorem dX8_measure_1 : decode cX8_measure 1 = .ok (.invokestatic 81, 3) := by decide +kernel
theorem dX8_measure_4 : decode cX8_measure 4 = .ok (.ifCond .ne 7, 3) := by decide +kernel
theorem dX8_measure_7 : decode cX8_measure 7 = .ok (.ldc2_w 151, 3) := by decide +kernel
theorem dX8_measure_10 : decode cX8_measure 10 = .ok (.lreturn, 1) := by decide +kernel
theorem dX8_measure_11 : decode cX8_measure 11 = .ok (.iload_n 2, 1) := by decide +kernel
theorem dX8_measure_12 : decode cX8_measure 12 = .ok (.iload_n 3, 1) := by decide +kernel
theorem dX8_measure_13 : decode cX8_measure 13 = .ok (.invokestatic 202, 3) := by decide +kernel
theorem dX8_measure_16 : decode cX8_measure 16 = .ok (.ifCond .ne 7, 3) := by decide +kernel
theorem dX8_measure_19 : decode cX8_measure 19 = .ok (.ldc2_w 155, 3) := by decide +kernel
theorem dX8_measure_22 : decode cX8_measure 22 = .ok (.lreturn, 1) := by decide +kernel
theorem dX8_measure_23 : decode cX8_measure 23 = .ok (.aload_n 0, 1) := by decide +kernel
theorem dX8_measure_24 : decode cX8_measure 24 = .ok (.iload_n 1, 1) := by decide +kernel
theorem dX8_measure_25 : decode cX8_measure 25 = .ok (.invokevirtual 129, 3) := by decide +kernel
theorem dX8_measure_28 : decode cX8_measure 28 = .ok (.ifCond .ne 7, 3) := by decide +kernel
theorem dX8_measure_31 : decode cX8_measure 31 = .ok (.ldc2_w 157, 3) := by decide +kernel
theorem dX8_measure_34 : decode cX8_measure 34 = .ok (.lreturn, 1) := by decide +kernel
theorem dX8_measure_35 : decode cX8_measure 35 = .ok (.aload_n 0, 1) := by decide +kernel
theorem dX8_measure_36 : decode cX8_measure 36 = .ok (.iload_n 1, 1) := by decide +kernel
theorem dX8_measure_37 : decode cX8_measure 37 = .ok (.invokevirtual 205, 3) := by decide +kernel
theorem dX8_measure_40 : decode cX8_measure 40 = .ok (.aload_n 0, 1) := by decide +kernel
theorem dX8_measure_41 : decode cX8_measure 41 = .ok (.iload_n 2, 1) := by decide +kernel
theorem dX8_measure_42 : decode cX8_measure 42 = .ok (.iload_n 3, 1) := by decide +kernel
theorem dX8_measure_43 : decode cX8_measure 43 = .ok (.invokevirtual 209, 3) := by decide +kernel
theorem dX8_measure_46 : decode cX8_measure 46 = .ok (.aload_n 0, 1) := by decide +kernel
theorem dX8_measure_47 : decode cX8_measure 47 = .ok (.getfield 179, 3) := by decide +kernel
theorem dX8_measure_50 : decode cX8_measure 50 = .ok (.aload_n 0, 1) := by decide +kernel
theorem dX8_measure_51 : decode cX8_measure 51 = .ok (.getfield 168, 3) := by decide +kernel
theorem dX8_measure_54 : decode cX8_measure 54 = .ok (.iload 4, 2) := by decide +kernel
theorem dX8_measure_56 : decode cX8_measure 56 = .ok (.invokestatic 147, 3) := by decide +kernel
theorem dX8_measure_59 : decode cX8_measure 59 = .ok (.lreturn, 1) := by decide +kernel
theorem dX8_callOf_0 : decode cX8_callOf 0 = .ok (.aload_n 0, 1) := by decide +kernel
theorem dX8_callOf_1 : decode cX8_callOf 1 = .ok (.iload_n 1, 1) := by decide +kernel
theorem dX8_callOf_2 : decode cX8_callOf 2 = .ok (.invokevirtual 205, 3) := by decide +kernel
theorem dX8_callOf_5 : decode cX8_callOf 5 = .ok (.aload_n 0, 1) := by decide +kernel
theorem dX8_callOf_6 : decode cX8_callOf 6 = .ok (.iload_n 3, 1) := by decide +kernel
theorem dX8_callOf_7 : decode cX8_callOf 7 = .ok (.iload 4, 2) := by decide +kernel
theorem dX8_callOf_9 : decode cX8_callOf 9 = .ok (.invokevirtual 209, 3) := by decide +kernel
theorem dX8_callOf_12 : decode cX8_callOf 12 = .ok (.aload_n 0, 1) := by decide +kernel
theorem dX8_callOf_13 : decode cX8_callOf 13 = .ok (.getfield 179, 3) := by decide +kernel
theorem dX8_callOf_16 : decode cX8_callOf 16 = .ok (.lstore 5, 2) := by decide +kernel
theorem dX8_callOf_18 : decode cX8_callOf 18 = .ok (.aload_n 0, 1) := by decide +kernel
theorem dX8_callOf_19 : decode cX8_callOf 19 = .ok (.getfield 168, 3) := by decide +kernel
theorem dX8_callOf_22 : decode cX8_callOf 22 = .ok (.lstore 7, 2) := by decide +kernel
theorem dX8_callOf_24 : decode cX8_callOf 24 = .ok (.aload_n 0, 1) := by decide +kernel
theorem dX8_callOf_25 : decode cX8_callOf 25 = .ok (.iload_n 2, 1) := by decide +kernel
theorem dX8_callOf_26 : decode cX8_callOf 26 = .ok (.invokevirtual 205, 3) := by decide +kernel
theorem dX8_callOf_29 : decode cX8_callOf 29 = .ok (.aload_n 0, 1) := by decide +kernel
theorem dX8_callOf_30 : decode cX8_callOf 30 = .ok (.iload_n 3, 1) := by decide +kernel
theorem dX8_callOf_31 : decode cX8_callOf 31 = .ok (.iload 4, 2) := by decide +kernel
theorem dX8_callOf_33 : decode cX8_callOf 33 = .ok (.invokevirtual 209, 3) := by decide +kernel
theorem dX8_callOf_36 : decode cX8_callOf 36 = .ok (.lload 5, 2) := by decide +kernel
theorem dX8_callOf_38 : decode cX8_callOf 38 = .ok (.aload_n 0, 1) := by decide +kernel
theorem dX8_callOf_39 : decode cX8_callOf 39 = .ok (.getfield 168, 3) := by decide +kernel
theorem dX8_callOf_42 : decode cX8_callOf 42 = .ok (.lmul, 1) := by decide +kernel
theorem dX8_callOf_43 : decode cX8_callOf 43 = .ok (.aload_n 0, 1) := by decide +kernel
theorem dX8_callOf_44 : decode cX8_callOf 44 = .ok (.getfield 179, 3) := by decide +kernel
theorem dX8_callOf_47 : decode cX8_callOf 47 = .ok (.lload 7, 2) := by decide +kernel
theorem dX8_callOf_49 : decode cX8_callOf 49 = .ok (.lmul, 1) := by decide +kernel
theorem dX8_callOf_50 : decode cX8_callOf 50 = .ok (.lcmp, 1) := by decide +kernel
theorem dX8_callOf_51 : decode cX8_callOf 51 = .ok (.ifCond .ge 7, 3) := by decide +kernel
theorem dX8_callOf_54 : decode cX8_callOf 54 = .ok (.iconst 1, 1) := by decide +kernel
theorem dX8_callOf_55 : decode cX8_callOf 55 = .ok (.goto 26, 3) := by decide +kernel
theorem dX8_callOf_58 : decode cX8_callOf 58 = .ok (.lload 5, 2) := by decide +kernel
theorem dX8_callOf_60 : decode cX8_callOf 60 = .ok (.aload_n 0, 1) := by decide +kernel
theorem dX8_callOf_61 : decode cX8_callOf 61 = .ok (.getfield 168, 3) := by decide +kernel
theorem dX8_callOf_64 : decode cX8_callOf 64 = .ok (.lmul, 1) := by decide +kernel
theorem dX8_callOf_65 : decode cX8_callOf 65 = .ok (.aload_n 0, 1) := by decide +kernel
theorem dX8_callOf_66 : decode cX8_callOf 66 = .ok (.getfield 179, 3) := by decide +kernel
theorem dX8_callOf_69 : decode cX8_callOf 69 = .ok (.lload 7, 2) := by decide +kernel
theorem dX8_callOf_71 : decode cX8_callOf 71 = .ok (.lmul, 1) := by decide +kernel
theorem dX8_callOf_72 : decode cX8_callOf 72 = .ok (.lcmp, 1) := by decide +kernel
theorem dX8_callOf_73 : decode cX8_callOf 73 = .ok (.ifCond .le 7, 3) := by decide +kernel
theorem dX8_callOf_76 : decode cX8_callOf 76 = .ok (.iconst 2, 1) := by decide +kernel
theorem dX8_callOf_77 : decode cX8_callOf 77 = .ok (.goto 4, 3) := by decide +kernel
theorem dX8_callOf_80 : decode cX8_callOf 80 = .ok (.iconst 3, 1) := by decide +kernel
theorem dX8_callOf_81 : decode cX8_callOf 81 = .ok (.ireturn, 1) := by decide +kernel
theorem dX8_calls_0 : decode cX8_calls 0 = .ok (.iload_n 1, 1) := by decide +kernel
theorem dX8_calls_1 : decode cX8_calls 1 = .ok (.invokestatic 81, 3) := by decide +kernel
theorem dX8_calls_4 : decode cX8_calls 4 = .ok (.ifCond .eq 10, 3) := by decide +kernel
theorem dX8_calls_7 : decode cX8_calls 7 = .ok (.iload_n 2, 1) := by decide +kernel
theorem dX8_calls_8 : decode cX8_calls 8 = .ok (.invokestatic 81, 3) := by decide +kernel
theorem dX8_calls_11 : decode cX8_calls 11 = .ok (.ifCond .ne 5, 3) := by decide +kernel
theorem dX8_calls_14 : decode cX8_calls 14 = .ok (.iconst (-1), 1) := by decide +kernel
theorem dX8_calls_15 : decode cX8_calls 15 = .ok (.ireturn, 1) := by decide +kernel
theorem dX8_calls_16 : decode cX8_calls 16 = .ok (.iload_n 3, 1) := by decide +kernel
theorem dX8_calls_17 : decode cX8_calls 17 = .ok (.iload 4, 2) := by decide +kernel
theorem dX8_calls_19 : decode cX8_calls 19 = .ok (.invokestatic 202, 3) := by decide +kernel
theorem dX8_calls_22 : decode cX8_calls 22 = .ok (.ifCond .ne 6, 3) := by decide +kernel
theorem dX8_calls_25 : decode cX8_calls 25 = .ok (.bipush (-2), 2) := by decide +kernel
theorem dX8_calls_27 : decode cX8_calls 27 = .ok (.ireturn, 1) := by decide +kernel
theorem dX8_calls_28 : decode cX8_calls 28 = .ok (.aload_n 0, 1) := by decide +kernel
theorem dX8_calls_29 : decode cX8_calls 29 = .ok (.iload_n 1, 1) := by decide +kernel
theorem dX8_calls_30 : decode cX8_calls 30 = .ok (.invokevirtual 129, 3) := by decide +kernel
theorem dX8_calls_33 : decode cX8_calls 33 = .ok (.ifCond .eq 23, 3) := by decide +kernel
theorem dX8_calls_36 : decode cX8_calls 36 = .ok (.aload_n 0, 1) := by decide +kernel
theorem dX8_calls_37 : decode cX8_calls 37 = .ok (.iload_n 2, 1) := by decide +kernel
theorem dX8_calls_38 : decode cX8_calls 38 = .ok (.invokevirtual 129, 3) := by decide +kernel
theorem dX8_calls_41 : decode cX8_calls 41 = .ok (.ifCond .eq 15, 3) := by decide +kernel
theorem dX8_calls_44 : decode cX8_calls 44 = .ok (.aload_n 0, 1) := by decide +kernel
theorem dX8_calls_45 : decode cX8_calls 45 = .ok (.iload_n 1, 1) := by decide +kernel
theorem dX8_calls_46 : decode cX8_calls 46 = .ok (.iload_n 2, 1) := by decide +kernel
theorem dX8_calls_47 : decode cX8_calls 47 = .ok (.iload_n 3, 1) := by decide +kernel
theorem dX8_calls_48 : decode cX8_calls 48 = .ok (.iload 4, 2) := by decide +kernel
theorem dX8_calls_50 : decode cX8_calls 50 = .ok (.invokevirtual 212, 3) := by decide +kernel
theorem dX8_calls_53 : decode cX8_calls 53 = .ok (.goto 5, 3) := by decide +kernel
theorem dX8_calls_56 : decode cX8_calls 56 = .ok (.bipush (-3), 2) := by decide +kernel
theorem dX8_calls_58 : decode cX8_calls 58 = .ok (.ireturn, 1) := by decide +kernel
theorem dX8_isAgainst_0 : decode cX8_isAgainst 0 = .ok (.aload_n 0, 1) := by decide +kernel
theorem dX8_isAgainst_1 : decode cX8_isAgainst 1 = .ok (.iconst 3, 1) := by decide +kernel
theorem dX8_isAgainst_2 : decode cX8_isAgainst 2 = .ok (.putfield 165, 3) := by decide +kernel
theorem dX8_isAgainst_5 : decode cX8_isAgainst 5 = .ok (.iconst 0, 1) := by decide +kernel
theorem dX8_isAgainst_6 : decode cX8_isAgainst 6 = .ok (.istore 4, 2) := by decide +kernel
theorem dX8_isAgainst_8 : decode cX8_isAgainst 8 = .ok (.iconst 0, 1) := by decide +kernel
theorem dX8_isAgainst_9 : decode cX8_isAgainst 9 = .ok (.istore 5, 2) := by decide +kernel
theorem dX8_isAgainst_11 : decode cX8_isAgainst 11 = .ok (.iload 5, 2) := by decide +kernel
theorem dX8_isAgainst_13 : decode cX8_isAgainst 13 = .ok (.bipush 9, 2) := by decide +kernel
theorem dX8_isAgainst_15 : decode cX8_isAgainst 15 = .ok (.if_icmp .ge 149, 3) := by decide +kernel
theorem dX8_isAgainst_18 : decode cX8_isAgainst 18 = .ok (.iload 4, 2) := by decide +kernel
theorem dX8_isAgainst_20 : decode cX8_isAgainst 20 = .ok (.ifCond .ne 144, 3) := by decide +kernel
theorem dX8_isAgainst_23 : decode cX8_isAgainst 23 = .ok (.aload_n 0, 1) := by decide +kernel
theorem dX8_isAgainst_24 : decode cX8_isAgainst 24 = .ok (.getfield 56, 3) := by decide +kernel
theorem dX8_isAgainst_27 : decode cX8_isAgainst 27 = .ok (.iconst 0, 1) := by decide +kernel
theorem dX8_isAgainst_28 : decode cX8_isAgainst 28 = .ok (.iload_n 1, 1) := by decide +kernel
theorem dX8_isAgainst_29 : decode cX8_isAgainst 29 = .ok (.bipush 36, 2) := by decide +kernel
theorem dX8_isAgainst_31 : decode cX8_isAgainst 31 = .ok (.idiv, 1) := by decide +kernel
theorem dX8_isAgainst_32 : decode cX8_isAgainst 32 = .ok (.iastore, 1) := by decide +kernel
theorem dX8_isAgainst_33 : decode cX8_isAgainst 33 = .ok (.aload_n 0, 1) := by decide +kernel
theorem dX8_isAgainst_34 : decode cX8_isAgainst 34 = .ok (.getfield 56, 3) := by decide +kernel
theorem dX8_isAgainst_37 : decode cX8_isAgainst 37 = .ok (.iconst 1, 1) := by decide +kernel
theorem dX8_isAgainst_38 : decode cX8_isAgainst 38 = .ok (.iload_n 1, 1) := by decide +kernel
theorem dX8_isAgainst_39 : decode cX8_isAgainst 39 = .ok (.bipush 6, 2) := by decide +kernel
theorem dX8_isAgainst_41 : decode cX8_isAgainst 41 = .ok (.idiv, 1) := by decide +kernel
theorem dX8_isAgainst_42 : decode cX8_isAgainst 42 = .ok (.bipush 6, 2) := by decide +kernel
theorem dX8_isAgainst_44 : decode cX8_isAgainst 44 = .ok (.irem, 1) := by decide +kernel
theorem dX8_isAgainst_45 : decode cX8_isAgainst 45 = .ok (.iastore, 1) := by decide +kernel
theorem dX8_isAgainst_46 : decode cX8_isAgainst 46 = .ok (.aload_n 0, 1) := by decide +kernel
theorem dX8_isAgainst_47 : decode cX8_isAgainst 47 = .ok (.getfield 56, 3) := by decide +kernel
theorem dX8_isAgainst_50 : decode cX8_isAgainst 50 = .ok (.iconst 2, 1) := by decide +kernel
theorem dX8_isAgainst_51 : decode cX8_isAgainst 51 = .ok (.iload_n 1, 1) := by decide +kernel
theorem dX8_isAgainst_52 : decode cX8_isAgainst 52 = .ok (.bipush 6, 2) := by decide +kernel
theorem dX8_isAgainst_54 : decode cX8_isAgainst 54 = .ok (.irem, 1) := by decide +kernel
theorem dX8_isAgainst_55 : decode cX8_isAgainst 55 = .ok (.iastore, 1) := by decide +kernel
theorem dX8_isAgainst_56 : decode cX8_isAgainst 56 = .ok (.iload 5, 2) := by decide +kernel
theorem dX8_isAgainst_58 : decode cX8_isAgainst 58 = .ok (.iconst 3, 1) := by decide +kernel
theorem dX8_isAgainst_59 : decode cX8_isAgainst 59 = .ok (.idiv, 1) := by decide +kernel
theorem dX8_isAgainst_60 : decode cX8_isAgainst 60 = .ok (.istore 6, 2) := by decide +kernel
theorem dX8_isAgainst_62 : decode cX8_isAgainst 62 = .ok (.iload 5, 2) := by decide +kernel
theorem dX8_isAgainst_64 : decode cX8_isAgainst 64 = .ok (.iconst 3, 1) := by decide +kernel
theorem dX8_isAgainst_65 : decode cX8_isAgainst 65 = .ok (.irem, 1) := by decide +kernel
theorem dX8_isAgainst_66 : decode cX8_isAgainst 66 = .ok (.istore 7, 2) := by decide +kernel
theorem dX8_isAgainst_68 : decode cX8_isAgainst 68 = .ok (.aload_n 0, 1) := by decide +kernel
theorem dX8_isAgainst_69 : decode cX8_isAgainst 69 = .ok (.getfield 56, 3) := by decide +kernel
theorem dX8_isAgainst_72 : decode cX8_isAgainst 72 = .ok (.iload 6, 2) := by decide +kernel
theorem dX8_isAgainst_74 : decode cX8_isAgainst 74 = .ok (.iaload, 1) := by decide +kernel
theorem dX8_isAgainst_75 : decode cX8_isAgainst 75 = .ok (.aload_n 0, 1) := by decide +kernel
theorem dX8_isAgainst_76 : decode cX8_isAgainst 76 = .ok (.getfield 56, 3) := by decide +kernel
theorem dX8_isAgainst_79 : decode cX8_isAgainst 79 = .ok (.iload 7, 2) := by decide +kernel
theorem dX8_isAgainst_81 : decode cX8_isAgainst 81 = .ok (.iaload, 1) := by decide +kernel
theorem dX8_isAgainst_82 : decode cX8_isAgainst 82 = .ok (.iconst 2, 1) := by decide +kernel
theorem dX8_isAgainst_83 : decode cX8_isAgainst 83 = .ok (.iadd, 1) := by decide +kernel
theorem dX8_isAgainst_84 : decode cX8_isAgainst 84 = .ok (.if_icmp .lt 74, 3) := by decide +kernel
theorem dX8_isAgainst_87 : decode cX8_isAgainst 87 = .ok (.aload_n 0, 1) := by decide +kernel
theorem dX8_isAgainst_88 : decode cX8_isAgainst 88 = .ok (.iload_n 2, 1) := by decide +kernel
theorem dX8_isAgainst_89 : decode cX8_isAgainst 89 = .ok (.iload_n 3, 1) := by decide +kernel
theorem dX8_isAgainst_90 : decode cX8_isAgainst 90 = .ok (.invokevirtual 209, 3) := by decide +kernel
theorem dX8_isAgainst_93 : decode cX8_isAgainst 93 = .ok (.aload_n 0, 1) := by decide +kernel
theorem dX8_isAgainst_94 : decode cX8_isAgainst 94 = .ok (.getfield 179, 3) := by decide +kernel
theorem dX8_isAgainst_97 : decode cX8_isAgainst 97 = .ok (.lstore 8, 2) := by decide +kernel
theorem dX8_isAgainst_99 : decode cX8_isAgainst 99 = .ok (.aload_n 0, 1) := by decide +kernel
theorem dX8_isAgainst_100 : decode cX8_isAgainst 100 = .ok (.getfield 168, 3) := by decide +kernel
theorem dX8_isAgainst_103 : decode cX8_isAgainst 103 = .ok (.lstore 10, 2) := by decide +kernel
theorem dX8_isAgainst_105 : decode cX8_isAgainst 105 = .ok (.aload_n 0, 1) := by decide +kernel
theorem dX8_isAgainst_106 : decode cX8_isAgainst 106 = .ok (.getfield 56, 3) := by decide +kernel
theorem dX8_isAgainst_109 : decode cX8_isAgainst 109 = .ok (.iload 6, 2) := by decide +kernel
theorem dX8_isAgainst_111 : decode cX8_isAgainst 111 = .ok (.dup2, 1) := by decide +kernel
theorem dX8_isAgainst_112 : decode cX8_isAgainst 112 = .ok (.iaload, 1) := by decide +kernel
theorem dX8_isAgainst_113 : decode cX8_isAgainst 113 = .ok (.iconst 1, 1) := by decide +kernel
theorem dX8_isAgainst_114 : decode cX8_isAgainst 114 = .ok (.isub, 1) := by decide +kernel
theorem dX8_isAgainst_115 : decode cX8_isAgainst 115 = .ok (.iastore, 1) := by decide +kernel
theorem dX8_isAgainst_116 : decode cX8_isAgainst 116 = .ok (.aload_n 0, 1) := by decide +kernel
theorem dX8_isAgainst_117 : decode cX8_isAgainst 117 = .ok (.getfield 56, 3) := by decide +kernel
theorem dX8_isAgainst_120 : decode cX8_isAgainst 120 = .ok (.iload 7, 2) := by decide +kernel
theorem dX8_isAgainst_122 : decode cX8_isAgainst 122 = .ok (.dup2, 1) := by decide +kernel
theorem dX8_isAgainst_123 : decode cX8_isAgainst 123 = .ok (.iaload, 1) := by decide +kernel
theorem dX8_isAgainst_124 : decode cX8_isAgainst 124 = .ok (.iconst 1, 1) := by decide +kernel
theorem dX8_isAgainst_125 : decode cX8_isAgainst 125 = .ok (.iadd, 1) := by decide +kernel
theorem dX8_isAgainst_126 : decode cX8_isAgainst 126 = .ok (.iastore, 1) := by decide +kernel
theorem dX8_isAgainst_127 : decode cX8_isAgainst 127 = .ok (.aload_n 0, 1) := by decide +kernel
theorem dX8_isAgainst_128 : decode cX8_isAgainst 128 = .ok (.iload_n 2, 1) := by decide +kernel
theorem dX8_isAgainst_129 : decode cX8_isAgainst 129 = .ok (.iload_n 3, 1) := by decide +kernel
theorem dX8_isAgainst_130 : decode cX8_isAgainst 130 = .ok (.invokevirtual 209, 3) := by decide +kernel
theorem dX8_isAgainst_133 : decode cX8_isAgainst 133 = .ok (.aload_n 0, 1) := by decide +kernel
theorem dX8_isAgainst_134 : decode cX8_isAgainst 134 = .ok (.getfield 179, 3) := by decide +kernel
theorem dX8_isAgainst_137 : decode cX8_isAgainst 137 = .ok (.lload 10, 2) := by decide +kernel
theorem dX8_isAgainst_139 : decode cX8_isAgainst 139 = .ok (.lmul, 1) := by decide +kernel
theorem dX8_isAgainst_140 : decode cX8_isAgainst 140 = .ok (.lload 8, 2) := by decide +kernel
theorem dX8_isAgainst_142 : decode cX8_isAgainst 142 = .ok (.aload_n 0, 1) := by decide +kernel
theorem dX8_isAgainst_143 : decode cX8_isAgainst 143 = .ok (.getfield 168, 3) := by decide +kernel
theorem dX8_isAgainst_146 : decode cX8_isAgainst 146 = .ok (.lmul, 1) := by decide +kernel
theorem dX8_isAgainst_147 : decode cX8_isAgainst 147 = .ok (.lcmp, 1) := by decide +kernel
theorem dX8_isAgainst_148 : decode cX8_isAgainst 148 = .ok (.ifCond .le 7, 3) := by decide +kernel
theorem dX8_isAgainst_151 : decode cX8_isAgainst 151 = .ok (.iconst 1, 1) := by decide +kernel
theorem dX8_isAgainst_152 : decode cX8_isAgainst 152 = .ok (.goto 4, 3) := by decide +kernel
theorem dX8_isAgainst_155 : decode cX8_isAgainst 155 = .ok (.iconst 0, 1) := by decide +kernel
theorem dX8_isAgainst_156 : decode cX8_isAgainst 156 = .ok (.istore 4, 2) := by decide +kernel
theorem dX8_isAgainst_158 : decode cX8_isAgainst 158 = .ok (.iinc 5 1, 3) := by decide +kernel
theorem dX8_isAgainst_161 : decode cX8_isAgainst 161 = .ok (.goto (-150), 3) := by decide +kernel
theorem dX8_isAgainst_164 : decode cX8_isAgainst 164 = .ok (.iload 4, 2) := by decide +kernel
theorem dX8_isAgainst_166 : decode cX8_isAgainst 166 = .ok (.ireturn, 1) := by decide +kernel
theorem dX8_firstAgainst_0 : decode cX8_firstAgainst 0 = .ok (.iconst 0, 1) := by decide +kernel
theorem dX8_firstAgainst_1 : decode cX8_firstAgainst 1 = .ok (.istore_n 3, 1) := by decide +kernel
theorem dX8_firstAgainst_2 : decode cX8_firstAgainst 2 = .ok (.iload_n 3, 1) := by decide +kernel
theorem dX8_firstAgainst_3 : decode cX8_firstAgainst 3 = .ok (.sipush 216, 3) := by decide +kernel
theorem dX8_firstAgainst_6 : decode cX8_firstAgainst 6 = .ok (.if_icmp .ge 21, 3) := by decide +kernel
theorem dX8_firstAgainst_9 : decode cX8_firstAgainst 9 = .ok (.aload_n 0, 1) := by decide +kernel
theorem dX8_firstAgainst_10 : decode cX8_firstAgainst 10 = .ok (.iload_n 3, 1) := by decide +kernel
theorem dX8_firstAgainst_11 : decode cX8_firstAgainst 11 = .ok (.iload_n 1, 1) := by decide +kernel
theorem dX8_firstAgainst_12 : decode cX8_firstAgainst 12 = .ok (.iload_n 2, 1) := by decide +kernel
theorem dX8_firstAgainst_13 : decode cX8_firstAgainst 13 = .ok (.invokevirtual 215, 3) := by decide +kernel
theorem dX8_firstAgainst_16 : decode cX8_firstAgainst 16 = .ok (.ifCond .eq 5, 3) := by decide +kernel
theorem dX8_firstAgainst_19 : decode cX8_firstAgainst 19 = .ok (.iload_n 3, 1) := by decide +kernel
theorem dX8_firstAgainst_20 : decode cX8_firstAgainst 20 = .ok (.ireturn, 1) := by decide +kernel
theorem dX8_firstAgainst_21 : decode cX8_firstAgainst 21 = .ok (.iinc 3 1, 3) := by decide +kernel
theorem dX8_firstAgainst_24 : decode cX8_firstAgainst 24 = .ok (.goto (-22), 3) := by decide +kernel
theorem dX8_firstAgainst_27 : decode cX8_firstAgainst 27 = .ok (.bipush (-9), 2) := by decide +kernel
theorem dX8_firstAgainst_29 : decode cX8_firstAgainst 29 = .ok (.ireturn, 1) := by decide +kernel
theorem dX8_minds_0 : decode cX8_minds 0 = .ok (.iload_n 1, 1) := by decide +kernel
theorem dX8_minds_1 : decode cX8_minds 1 = .ok (.iload_n 2, 1) := by decide +kernel
theorem dX8_minds_2 : decode cX8_minds 2 = .ok (.invokestatic 202, 3) := by decide +kernel
theorem dX8_minds_5 : decode cX8_minds 5 = .ok (.ifCond .ne 8, 3) := by decide +kernel
theorem dX8_minds_8 : decode cX8_minds 8 = .ok (.bipush (-2), 2) := by decide +kernel
theorem dX8_minds_10 : decode cX8_minds 10 = .ok (.goto 19, 3) := by decide +kernel
theorem dX8_minds_13 : decode cX8_minds 13 = .ok (.aload_n 0, 1) := by decide +kernel
theorem dX8_minds_14 : decode cX8_minds 14 = .ok (.iload_n 1, 1) := by decide +kernel
theorem dX8_minds_15 : decode cX8_minds 15 = .ok (.iload_n 2, 1) := by decide +kernel
theorem dX8_minds_16 : decode cX8_minds 16 = .ok (.invokevirtual 219, 3) := by decide +kernel
theorem dX8_minds_19 : decode cX8_minds 19 = .ok (.bipush (-9), 2) := by decide +kernel
theorem dX8_minds_21 : decode cX8_minds 21 = .ok (.if_icmp .ne 7, 3) := by decide +kernel
theorem dX8_minds_24 : decode cX8_minds 24 = .ok (.iconst 1, 1) := by decide +kernel
theorem dX8_minds_25 : decode cX8_minds 25 = .ok (.goto 4, 3) := by decide +kernel
theorem dX8_minds_28 : decode cX8_minds 28 = .ok (.iconst 0, 1) := by decide +kernel
theorem dX8_minds_29 : decode cX8_minds 29 = .ok (.ireturn, 1) := by decide +kernel
theorem dX8_against_0 : decode cX8_against 0 = .ok (.iload_n 1, 1) := by decide +kernel
theorem dX8_against_1 : decode cX8_against 1 = .ok (.iload_n 2, 1) := by decide +kernel
theorem dX8_against_2 : decode cX8_against 2 = .ok (.invokestatic 202, 3) := by decide +kernel
theorem dX8_against_5 : decode cX8_against 5 = .ok (.ifCond .eq 12, 3) := by decide +kernel
theorem dX8_against_8 : decode cX8_against 8 = .ok (.aload_n 0, 1) := by decide +kernel
theorem dX8_against_9 : decode cX8_against 9 = .ok (.iload_n 1, 1) := by decide +kernel
theorem dX8_against_10 : decode cX8_against 10 = .ok (.iload_n 2, 1) := by decide +kernel
theorem dX8_against_11 : decode cX8_against 11 = .ok (.invokevirtual 219, 3) := by decide +kernel
theorem dX8_against_14 : decode cX8_against 14 = .ok (.goto 5, 3) := by decide +kernel
theorem dX8_against_17 : decode cX8_against 17 = .ok (.bipush (-2), 2) := by decide +kernel
theorem dX8_against_19 : decode cX8_against 19 = .ok (.ireturn, 1) := by decide +kernel
theorem dX8_part_0 : decode cX8_part 0 = .ok (.iload_n 1, 1) := by decide +kernel
theorem dX8_part_1 : decode cX8_part 1 = .ok (.invokestatic 81, 3) := by decide +kernel
theorem dX8_part_4 : decode cX8_part 4 = .ok (.ifCond .eq 10, 3) := by decide +kernel
theorem dX8_part_7 : decode cX8_part 7 = .ok (.iload_n 2, 1) := by decide +kernel
theorem dX8_part_8 : decode cX8_part 8 = .ok (.invokestatic 81, 3) := by decide +kernel
theorem dX8_part_11 : decode cX8_part 11 = .ok (.ifCond .ne 5, 3) := by decide +kernel
theorem dX8_part_14 : decode cX8_part 14 = .ok (.iconst (-1), 1) := by decide +kernel
theorem dX8_part_15 : decode cX8_part 15 = .ok (.ireturn, 1) := by decide +kernel
theorem dX8_part_16 : decode cX8_part 16 = .ok (.iload_n 3, 1) := by decide +kernel
theorem dX8_part_17 : decode cX8_part 17 = .ok (.i2l, 1) := by decide +kernel
theorem dX8_part_18 : decode cX8_part 18 = .ok (.lconst 0, 1) := by decide +kernel
theorem dX8_part_19 : decode cX8_part 19 = .ok (.ldc2_w 200, 3) := by decide +kernel
theorem dX8_part_22 : decode cX8_part 22 = .ok (.invokestatic 77, 3) := by decide +kernel
theorem dX8_part_25 : decode cX8_part 25 = .ok (.ifCond .ne 6, 3) := by decide +kernel
theorem dX8_part_28 : decode cX8_part 28 = .ok (.bipush (-2), 2) := by decide +kernel
theorem dX8_part_30 : decode cX8_part 30 = .ok (.ireturn, 1) := by decide +kernel
theorem dX8_part_31 : decode cX8_part 31 = .ok (.aload_n 0, 1) := by decide +kernel
theorem dX8_part_32 : decode cX8_part 32 = .ok (.iload_n 1, 1) := by decide +kernel
theorem dX8_part_33 : decode cX8_part 33 = .ok (.invokevirtual 129, 3) := by decide +kernel
theorem dX8_part_36 : decode cX8_part 36 = .ok (.ifCond .eq 11, 3) := by decide +kernel
theorem dX8_part_39 : decode cX8_part 39 = .ok (.aload_n 0, 1) := by decide +kernel
theorem dX8_part_40 : decode cX8_part 40 = .ok (.iload_n 2, 1) := by decide +kernel
theorem dX8_part_41 : decode cX8_part 41 = .ok (.invokevirtual 129, 3) := by decide +kernel
theorem dX8_part_44 : decode cX8_part 44 = .ok (.ifCond .ne 6, 3) := by decide +kernel
theorem dX8_part_47 : decode cX8_part 47 = .ok (.bipush (-3), 2) := by decide +kernel
theorem dX8_part_49 : decode cX8_part 49 = .ok (.ireturn, 1) := by decide +kernel
theorem dX8_part_50 : decode cX8_part 50 = .ok (.iconst 0, 1) := by decide +kernel
theorem dX8_part_51 : decode cX8_part 51 = .ok (.istore 4, 2) := by decide +kernel
theorem dX8_part_53 : decode cX8_part 53 = .ok (.iload 4, 2) := by decide +kernel
theorem dX8_part_55 : decode cX8_part 55 = .ok (.bipush 36, 2) := by decide +kernel
theorem dX8_part_57 : decode cX8_part 57 = .ok (.if_icmp .ge 113, 3) := by decide +kernel
theorem dX8_part_60 : decode cX8_part 60 = .ok (.iload 4, 2) := by decide +kernel
theorem dX8_part_62 : decode cX8_part 62 = .ok (.bipush 6, 2) := by decide +kernel
theorem dX8_part_64 : decode cX8_part 64 = .ok (.idiv, 1) := by decide +kernel
theorem dX8_part_65 : decode cX8_part 65 = .ok (.istore 5, 2) := by decide +kernel
theorem dX8_part_67 : decode cX8_part 67 = .ok (.iload 4, 2) := by decide +kernel
theorem dX8_part_69 : decode cX8_part 69 = .ok (.bipush 6, 2) := by decide +kernel
theorem dX8_part_71 : decode cX8_part 71 = .ok (.irem, 1) := by decide +kernel
theorem dX8_part_72 : decode cX8_part 72 = .ok (.istore 6, 2) := by decide +kernel
theorem dX8_part_74 : decode cX8_part 74 = .ok (.iload 5, 2) := by decide +kernel
theorem dX8_part_76 : decode cX8_part 76 = .ok (.iload 6, 2) := by decide +kernel
theorem dX8_part_78 : decode cX8_part 78 = .ok (.if_icmp .ge 86, 3) := by decide +kernel
theorem dX8_part_81 : decode cX8_part 81 = .ok (.aload_n 0, 1) := by decide +kernel
theorem dX8_part_82 : decode cX8_part 82 = .ok (.iload_n 1, 1) := by decide +kernel
theorem dX8_part_83 : decode cX8_part 83 = .ok (.iload_n 2, 1) := by decide +kernel
theorem dX8_part_84 : decode cX8_part 84 = .ok (.iload 5, 2) := by decide +kernel
theorem dX8_part_86 : decode cX8_part 86 = .ok (.iload 5, 2) := by decide +kernel
theorem dX8_part_88 : decode cX8_part 88 = .ok (.iconst 1, 1) := by decide +kernel
theorem dX8_part_89 : decode cX8_part 89 = .ok (.if_icmp .le 13, 3) := by decide +kernel
theorem dX8_part_92 : decode cX8_part 92 = .ok (.iload 5, 2) := by decide +kernel
theorem dX8_part_94 : decode cX8_part 94 = .ok (.iconst 5, 1) := by decide +kernel
theorem dX8_part_95 : decode cX8_part 95 = .ok (.if_icmp .ge 7, 3) := by decide +kernel
theorem dX8_part_98 : decode cX8_part 98 = .ok (.iload_n 3, 1) := by decide +kernel
theorem dX8_part_99 : decode cX8_part 99 = .ok (.goto 4, 3) := by decide +kernel
theorem dX8_part_102 : decode cX8_part 102 = .ok (.iconst 0, 1) := by decide +kernel
theorem dX8_part_103 : decode cX8_part 103 = .ok (.invokevirtual 212, 3) := by decide +kernel
theorem dX8_part_106 : decode cX8_part 106 = .ok (.istore 7, 2) := by decide +kernel
theorem dX8_part_108 : decode cX8_part 108 = .ok (.aload_n 0, 1) := by decide +kernel
theorem dX8_part_109 : decode cX8_part 109 = .ok (.iload_n 1, 1) := by decide +kernel
theorem dX8_part_110 : decode cX8_part 110 = .ok (.iload_n 2, 1) := by decide +kernel
theorem dX8_part_111 : decode cX8_part 111 = .ok (.iload 6, 2) := by decide +kernel
theorem dX8_part_113 : decode cX8_part 113 = .ok (.iload 6, 2) := by decide +kernel
theorem dX8_part_115 : decode cX8_part 115 = .ok (.iconst 1, 1) := by decide +kernel
theorem dX8_part_116 : decode cX8_part 116 = .ok (.if_icmp .le 13, 3) := by decide +kernel
theorem dX8_part_119 : decode cX8_part 119 = .ok (.iload 6, 2) := by decide +kernel
theorem dX8_part_121 : decode cX8_part 121 = .ok (.iconst 5, 1) := by decide +kernel
theorem dX8_part_122 : decode cX8_part 122 = .ok (.if_icmp .ge 7, 3) := by decide +kernel
theorem dX8_part_125 : decode cX8_part 125 = .ok (.iload_n 3, 1) := by decide +kernel
theorem dX8_part_126 : decode cX8_part 126 = .ok (.goto 4, 3) := by decide +kernel
theorem dX8_part_129 : decode cX8_part 129 = .ok (.iconst 0, 1) := by decide +kernel
theorem dX8_part_130 : decode cX8_part 130 = .ok (.invokevirtual 212, 3) := by decide +kernel
theorem dX8_part_133 : decode cX8_part 133 = .ok (.istore 8, 2) := by decide +kernel
theorem dX8_part_135 : decode cX8_part 135 = .ok (.iload 7, 2) := by decide +kernel
theorem dX8_part_137 : decode cX8_part 137 = .ok (.iload 8, 2) := by decide +kernel
theorem dX8_part_139 : decode cX8_part 139 = .ok (.iadd, 1) := by decide +kernel
theorem dX8_part_140 : decode cX8_part 140 = .ok (.iconst 3, 1) := by decide +kernel
theorem dX8_part_141 : decode cX8_part 141 = .ok (.if_icmp .ne 23, 3) := by decide +kernel
theorem dX8_part_144 : decode cX8_part 144 = .ok (.iload 7, 2) := by decide +kernel
theorem dX8_part_146 : decode cX8_part 146 = .ok (.ifCond .le 18, 3) := by decide +kernel
theorem dX8_part_149 : decode cX8_part 149 = .ok (.iload 7, 2) := by decide +kernel
theorem dX8_part_151 : decode cX8_part 151 = .ok (.iconst 3, 1) := by decide +kernel
theorem dX8_part_152 : decode cX8_part 152 = .ok (.if_icmp .ge 12, 3) := by decide +kernel
theorem dX8_part_155 : decode cX8_part 155 = .ok (.bipush 10, 2) := by decide +kernel
theorem dX8_part_157 : decode cX8_part 157 = .ok (.iload 5, 2) := by decide +kernel
theorem dX8_part_159 : decode cX8_part 159 = .ok (.imul, 1) := by decide +kernel
theorem dX8_part_160 : decode cX8_part 160 = .ok (.iload 6, 2) := by decide +kernel
theorem dX8_part_162 : decode cX8_part 162 = .ok (.iadd, 1) := by decide +kernel
theorem dX8_part_163 : decode cX8_part 163 = .ok (.ireturn, 1) := by decide +kernel
theorem dX8_part_164 : decode cX8_part 164 = .ok (.iinc 4 1, 3) := by decide +kernel
theorem dX8_part_167 : decode cX8_part 167 = .ok (.goto (-114), 3) := by decide +kernel
theorem dX8_part_170 : decode cX8_part 170 = .ok (.bipush (-9), 2) := by decide +kernel
theorem dX8_part_172 : decode cX8_part 172 = .ok (.ireturn, 1) := by decide +kernel
theorem dX8_fillingsOf_0 : decode cX8_fillingsOf 0 = .ok (.lconst 1, 1) := by decide +kernel
theorem dX8_fillingsOf_1 : decode cX8_fillingsOf 1 = .ok (.lstore_n 2, 1) := by decide +kernel
theorem dX8_fillingsOf_2 : decode cX8_fillingsOf 2 = .ok (.bipush 8, 2) := by decide +kernel
theorem dX8_fillingsOf_4 : decode cX8_fillingsOf 4 = .ok (.iload_n 1, 1) := by decide +kernel
theorem dX8_fillingsOf_5 : decode cX8_fillingsOf 5 = .ok (.imul, 1) := by decide +kernel
theorem dX8_fillingsOf_6 : decode cX8_fillingsOf 6 = .ok (.istore 4, 2) := by decide +kernel
theorem dX8_fillingsOf_8 : decode cX8_fillingsOf 8 = .ok (.iload 4, 2) := by decide +kernel
theorem dX8_fillingsOf_10 : decode cX8_fillingsOf 10 = .ok (.bipush 8, 2) := by decide +kernel
theorem dX8_fillingsOf_12 : decode cX8_fillingsOf 12 = .ok (.iload_n 1, 1) := by decide +kernel
theorem dX8_fillingsOf_13 : decode cX8_fillingsOf 13 = .ok (.imul, 1) := by decide +kernel
theorem dX8_fillingsOf_14 : decode cX8_fillingsOf 14 = .ok (.aload_n 0, 1) := by decide +kernel
theorem dX8_fillingsOf_15 : decode cX8_fillingsOf 15 = .ok (.getfield 7, 3) := by decide +kernel
theorem dX8_fillingsOf_18 : decode cX8_fillingsOf 18 = .ok (.iload_n 1, 1) := by decide +kernel
theorem dX8_fillingsOf_19 : decode cX8_fillingsOf 19 = .ok (.iaload, 1) := by decide +kernel
theorem dX8_fillingsOf_20 : decode cX8_fillingsOf 20 = .ok (.iadd, 1) := by decide +kernel
theorem dX8_fillingsOf_21 : decode cX8_fillingsOf 21 = .ok (.if_icmp .ge 30, 3) := by decide +kernel
theorem dX8_fillingsOf_24 : decode cX8_fillingsOf 24 = .ok (.lload_n 2, 1) := by decide +kernel
theorem dX8_fillingsOf_25 : decode cX8_fillingsOf 25 = .ok (.aload_n 0, 1) := by decide +kernel
theorem dX8_fillingsOf_26 : decode cX8_fillingsOf 26 = .ok (.getfield 16, 3) := by decide +kernel
theorem dX8_fillingsOf_29 : decode cX8_fillingsOf 29 = .ok (.iload 4, 2) := by decide +kernel
theorem dX8_fillingsOf_31 : decode cX8_fillingsOf 31 = .ok (.iaload, 1) := by decide +kernel
theorem dX8_fillingsOf_32 : decode cX8_fillingsOf 32 = .ok (.aload_n 0, 1) := by decide +kernel
theorem dX8_fillingsOf_33 : decode cX8_fillingsOf 33 = .ok (.getfield 13, 3) := by decide +kernel
theorem dX8_fillingsOf_36 : decode cX8_fillingsOf 36 = .ok (.iload 4, 2) := by decide +kernel
theorem dX8_fillingsOf_38 : decode cX8_fillingsOf 38 = .ok (.iaload, 1) := by decide +kernel
theorem dX8_fillingsOf_39 : decode cX8_fillingsOf 39 = .ok (.isub, 1) := by decide +kernel
theorem dX8_fillingsOf_40 : decode cX8_fillingsOf 40 = .ok (.iconst 1, 1) := by decide +kernel
theorem dX8_fillingsOf_41 : decode cX8_fillingsOf 41 = .ok (.iadd, 1) := by decide +kernel
theorem dX8_fillingsOf_42 : decode cX8_fillingsOf 42 = .ok (.i2l, 1) := by decide +kernel
theorem dX8_fillingsOf_43 : decode cX8_fillingsOf 43 = .ok (.lmul, 1) := by decide +kernel
theorem dX8_fillingsOf_44 : decode cX8_fillingsOf 44 = .ok (.lstore_n 2, 1) := by decide +kernel
theorem dX8_fillingsOf_45 : decode cX8_fillingsOf 45 = .ok (.iinc 4 1, 3) := by decide +kernel
theorem dX8_fillingsOf_48 : decode cX8_fillingsOf 48 = .ok (.goto (-40), 3) := by decide +kernel
theorem dX8_fillingsOf_51 : decode cX8_fillingsOf 51 = .ok (.lload_n 2, 1) := by decide +kernel
theorem dX8_fillingsOf_52 : decode cX8_fillingsOf 52 = .ok (.lreturn, 1) := by decide +kernel
theorem dX8_fillings_0 : decode cX8_fillings 0 = .ok (.iload_n 1, 1) := by decide +kernel
theorem dX8_fillings_1 : decode cX8_fillings 1 = .ok (.invokestatic 81, 3) := by decide +kernel
theorem dX8_fillings_4 : decode cX8_fillings 4 = .ok (.ifCond .eq 11, 3) := by decide +kernel
theorem dX8_fillings_7 : decode cX8_fillings 7 = .ok (.aload_n 0, 1) := by decide +kernel
theorem dX8_fillings_8 : decode cX8_fillings 8 = .ok (.iload_n 1, 1) := by decide +kernel
theorem dX8_fillings_9 : decode cX8_fillings 9 = .ok (.invokevirtual 222, 3) := by decide +kernel
theorem dX8_fillings_12 : decode cX8_fillings 12 = .ok (.goto 6, 3) := by decide +kernel
theorem dX8_fillings_15 : decode cX8_fillings 15 = .ok (.ldc2_w 151, 3) := by decide +kernel
theorem dX8_fillings_18 : decode cX8_fillings 18 = .ok (.lreturn, 1) := by decide +kernel
theorem dX8_fill_0 : decode cX8_fill 0 = .ok (.iload_n 3, 1) := by decide +kernel
theorem dX8_fill_1 : decode cX8_fill 1 = .ok (.istore 4, 2) := by decide +kernel
theorem dX8_fill_3 : decode cX8_fill 3 = .ok (.iconst 0, 1) := by decide +kernel
theorem dX8_fill_4 : decode cX8_fill 4 = .ok (.istore 5, 2) := by decide +kernel
theorem dX8_fill_6 : decode cX8_fill 6 = .ok (.iload 5, 2) := by decide +kernel
theorem dX8_fill_8 : decode cX8_fill 8 = .ok (.aload_n 0, 1) := by decide +kernel
theorem dX8_fill_9 : decode cX8_fill 9 = .ok (.getfield 7, 3) := by decide +kernel
theorem dX8_fill_12 : decode cX8_fill 12 = .ok (.iload_n 2, 1) := by decide +kernel
theorem dX8_fill_13 : decode cX8_fill 13 = .ok (.iaload, 1) := by decide +kernel
theorem dX8_fill_14 : decode cX8_fill 14 = .ok (.if_icmp .ge 75, 3) := by decide +kernel
theorem dX8_fill_17 : decode cX8_fill 17 = .ok (.aload_n 0, 1) := by decide +kernel
theorem dX8_fill_18 : decode cX8_fill 18 = .ok (.getfield 16, 3) := by decide +kernel
theorem dX8_fill_21 : decode cX8_fill 21 = .ok (.bipush 8, 2) := by decide +kernel
theorem dX8_fill_23 : decode cX8_fill 23 = .ok (.iload_n 2, 1) := by decide +kernel
theorem dX8_fill_24 : decode cX8_fill 24 = .ok (.imul, 1) := by decide +kernel
theorem dX8_fill_25 : decode cX8_fill 25 = .ok (.iload 5, 2) := by decide +kernel
theorem dX8_fill_27 : decode cX8_fill 27 = .ok (.iadd, 1) := by decide +kernel
theorem dX8_fill_28 : decode cX8_fill 28 = .ok (.iaload, 1) := by decide +kernel
theorem dX8_fill_29 : decode cX8_fill 29 = .ok (.aload_n 0, 1) := by decide +kernel
theorem dX8_fill_30 : decode cX8_fill 30 = .ok (.getfield 13, 3) := by decide +kernel
theorem dX8_fill_33 : decode cX8_fill 33 = .ok (.bipush 8, 2) := by decide +kernel
theorem dX8_fill_35 : decode cX8_fill 35 = .ok (.iload_n 2, 1) := by decide +kernel
theorem dX8_fill_36 : decode cX8_fill 36 = .ok (.imul, 1) := by decide +kernel
theorem dX8_fill_37 : decode cX8_fill 37 = .ok (.iload 5, 2) := by decide +kernel
theorem dX8_fill_39 : decode cX8_fill 39 = .ok (.iadd, 1) := by decide +kernel
theorem dX8_fill_40 : decode cX8_fill 40 = .ok (.iaload, 1) := by decide +kernel
theorem dX8_fill_41 : decode cX8_fill 41 = .ok (.isub, 1) := by decide +kernel
theorem dX8_fill_42 : decode cX8_fill 42 = .ok (.iconst 1, 1) := by decide +kernel
theorem dX8_fill_43 : decode cX8_fill 43 = .ok (.iadd, 1) := by decide +kernel
theorem dX8_fill_44 : decode cX8_fill 44 = .ok (.istore 6, 2) := by decide +kernel
theorem dX8_fill_46 : decode cX8_fill 46 = .ok (.aload_n 0, 1) := by decide +kernel
theorem dX8_fill_47 : decode cX8_fill 47 = .ok (.getfield 25, 3) := by decide +kernel
theorem dX8_fill_50 : decode cX8_fill 50 = .ok (.bipush 8, 2) := by decide +kernel
theorem dX8_fill_52 : decode cX8_fill 52 = .ok (.iload_n 1, 1) := by decide +kernel
theorem dX8_fill_53 : decode cX8_fill 53 = .ok (.imul, 1) := by decide +kernel
theorem dX8_fill_54 : decode cX8_fill 54 = .ok (.iload 5, 2) := by decide +kernel
theorem dX8_fill_56 : decode cX8_fill 56 = .ok (.iadd, 1) := by decide +kernel
theorem dX8_fill_57 : decode cX8_fill 57 = .ok (.aload_n 0, 1) := by decide +kernel
theorem dX8_fill_58 : decode cX8_fill 58 = .ok (.getfield 13, 3) := by decide +kernel
theorem dX8_fill_61 : decode cX8_fill 61 = .ok (.bipush 8, 2) := by decide +kernel
theorem dX8_fill_63 : decode cX8_fill 63 = .ok (.iload_n 2, 1) := by decide +kernel
theorem dX8_fill_64 : decode cX8_fill 64 = .ok (.imul, 1) := by decide +kernel
theorem dX8_fill_65 : decode cX8_fill 65 = .ok (.iload 5, 2) := by decide +kernel
theorem dX8_fill_67 : decode cX8_fill 67 = .ok (.iadd, 1) := by decide +kernel
theorem dX8_fill_68 : decode cX8_fill 68 = .ok (.iaload, 1) := by decide +kernel
theorem dX8_fill_69 : decode cX8_fill 69 = .ok (.iload 4, 2) := by decide +kernel
theorem dX8_fill_71 : decode cX8_fill 71 = .ok (.iload 6, 2) := by decide +kernel
theorem dX8_fill_73 : decode cX8_fill 73 = .ok (.irem, 1) := by decide +kernel
theorem dX8_fill_74 : decode cX8_fill 74 = .ok (.iadd, 1) := by decide +kernel
theorem dX8_fill_75 : decode cX8_fill 75 = .ok (.iastore, 1) := by decide +kernel
theorem dX8_fill_76 : decode cX8_fill 76 = .ok (.iload 4, 2) := by decide +kernel
theorem dX8_fill_78 : decode cX8_fill 78 = .ok (.iload 6, 2) := by decide +kernel
theorem dX8_fill_80 : decode cX8_fill 80 = .ok (.idiv, 1) := by decide +kernel
theorem dX8_fill_81 : decode cX8_fill 81 = .ok (.istore 4, 2) := by decide +kernel
theorem dX8_fill_83 : decode cX8_fill 83 = .ok (.iinc 5 1, 3) := by decide +kernel
theorem dX8_fill_86 : decode cX8_fill 86 = .ok (.goto (-80), 3) := by decide +kernel
theorem dX8_fill_89 : decode cX8_fill 89 = .ok (.return_, 1) := by decide +kernel
theorem dX8_mayHide_0 : decode cX8_mayHide 0 = .ok (.iload_n 1, 1) := by decide +kernel
theorem dX8_mayHide_1 : decode cX8_mayHide 1 = .ok (.invokestatic 81, 3) := by decide +kernel
theorem dX8_mayHide_4 : decode cX8_mayHide 4 = .ok (.ifCond .eq 10, 3) := by decide +kernel
theorem dX8_mayHide_7 : decode cX8_mayHide 7 = .ok (.iload_n 2, 1) := by decide +kernel
theorem dX8_mayHide_8 : decode cX8_mayHide 8 = .ok (.invokestatic 81, 3) := by decide +kernel
theorem dX8_mayHide_11 : decode cX8_mayHide 11 = .ok (.ifCond .ne 5, 3) := by decide +kernel
theorem dX8_mayHide_14 : decode cX8_mayHide 14 = .ok (.iconst (-1), 1) := by decide +kernel
theorem dX8_mayHide_15 : decode cX8_mayHide 15 = .ok (.ireturn, 1) := by decide +kernel
theorem dX8_mayHide_16 : decode cX8_mayHide 16 = .ok (.iload_n 3, 1) := by decide +kernel
theorem dX8_mayHide_17 : decode cX8_mayHide 17 = .ok (.iload 4, 2) := by decide +kernel
theorem dX8_mayHide_19 : decode cX8_mayHide 19 = .ok (.invokestatic 126, 3) := by decide +kernel
theorem dX8_mayHide_22 : decode cX8_mayHide 22 = .ok (.ifCond .ne 6, 3) := by decide +kernel
theorem dX8_mayHide_25 : decode cX8_mayHide 25 = .ok (.bipush (-2), 2) := by decide +kernel
theorem dX8_mayHide_27 : decode cX8_mayHide 27 = .ok (.ireturn, 1) := by decide +kernel
theorem dX8_mayHide_28 : decode cX8_mayHide 28 = .ok (.iload_n 1, 1) := by decide +kernel
theorem dX8_mayHide_29 : decode cX8_mayHide 29 = .ok (.iload_n 2, 1) := by decide +kernel
theorem dX8_mayHide_30 : decode cX8_mayHide 30 = .ok (.if_icmp .eq 21, 3) := by decide +kernel
theorem dX8_mayHide_33 : decode cX8_mayHide 33 = .ok (.aload_n 0, 1) := by decide +kernel
theorem dX8_mayHide_34 : decode cX8_mayHide 34 = .ok (.getfield 7, 3) := by decide +kernel
theorem dX8_mayHide_37 : decode cX8_mayHide 37 = .ok (.iload_n 1, 1) := by decide +kernel
theorem dX8_mayHide_38 : decode cX8_mayHide 38 = .ok (.iaload, 1) := by decide +kernel
theorem dX8_mayHide_39 : decode cX8_mayHide 39 = .ok (.ifCond .eq 12, 3) := by decide +kernel
theorem dX8_mayHide_42 : decode cX8_mayHide 42 = .ok (.aload_n 0, 1) := by decide +kernel
theorem dX8_mayHide_43 : decode cX8_mayHide 43 = .ok (.getfield 7, 3) := by decide +kernel
theorem dX8_mayHide_46 : decode cX8_mayHide 46 = .ok (.iload_n 2, 1) := by decide +kernel
theorem dX8_mayHide_47 : decode cX8_mayHide 47 = .ok (.iaload, 1) := by decide +kernel
theorem dX8_mayHide_48 : decode cX8_mayHide 48 = .ok (.ifCond .ne 6, 3) := by decide +kernel
theorem dX8_mayHide_51 : decode cX8_mayHide 51 = .ok (.bipush (-3), 2) := by decide +kernel
theorem dX8_mayHide_53 : decode cX8_mayHide 53 = .ok (.ireturn, 1) := by decide +kernel
theorem dX8_mayHide_54 : decode cX8_mayHide 54 = .ok (.aload_n 0, 1) := by decide +kernel
theorem dX8_mayHide_55 : decode cX8_mayHide 55 = .ok (.iload_n 1, 1) := by decide +kernel
theorem dX8_mayHide_56 : decode cX8_mayHide 56 = .ok (.invokevirtual 222, 3) := by decide +kernel
theorem dX8_mayHide_59 : decode cX8_mayHide 59 = .ok (.lstore 5, 2) := by decide +kernel
theorem dX8_mayHide_61 : decode cX8_mayHide 61 = .ok (.aload_n 0, 1) := by decide +kernel
theorem dX8_mayHide_62 : decode cX8_mayHide 62 = .ok (.iload_n 2, 1) := by decide +kernel
theorem dX8_mayHide_63 : decode cX8_mayHide 63 = .ok (.invokevirtual 222, 3) := by decide +kernel
theorem dX8_mayHide_66 : decode cX8_mayHide 66 = .ok (.lstore 7, 2) := by decide +kernel
theorem dX8_mayHide_68 : decode cX8_mayHide 68 = .ok (.lload 5, 2) := by decide +kernel
theorem dX8_mayHide_70 : decode cX8_mayHide 70 = .ok (.ldc2_w 226, 3) := by decide +kernel
theorem dX8_mayHide_73 : decode cX8_mayHide 73 = .ok (.lcmp, 1) := by decide +kernel
theorem dX8_mayHide_74 : decode cX8_mayHide 74 = .ok (.ifCond .gt 24, 3) := by decide +kernel
theorem dX8_mayHide_77 : decode cX8_mayHide 77 = .ok (.lload 7, 2) := by decide +kernel
theorem dX8_mayHide_79 : decode cX8_mayHide 79 = .ok (.ldc2_w 226, 3) := by decide +kernel
theorem dX8_mayHide_82 : decode cX8_mayHide 82 = .ok (.lcmp, 1) := by decide +kernel
theorem dX8_mayHide_83 : decode cX8_mayHide 83 = .ok (.ifCond .gt 15, 3) := by decide +kernel
theorem dX8_mayHide_86 : decode cX8_mayHide 86 = .ok (.lload 5, 2) := by decide +kernel
theorem dX8_mayHide_88 : decode cX8_mayHide 88 = .ok (.lload 7, 2) := by decide +kernel
theorem dX8_mayHide_90 : decode cX8_mayHide 90 = .ok (.lmul, 1) := by decide +kernel
theorem dX8_mayHide_91 : decode cX8_mayHide 91 = .ok (.ldc2_w 226, 3) := by decide +kernel
theorem dX8_mayHide_94 : decode cX8_mayHide 94 = .ok (.lcmp, 1) := by decide +kernel
theorem dX8_mayHide_95 : decode cX8_mayHide 95 = .ok (.ifCond .le 8, 3) := by decide +kernel
theorem dX8_mayHide_98 : decode cX8_mayHide 98 = .ok (.bipush (-3), 2) := by decide +kernel
theorem dX8_mayHide_100 : decode cX8_mayHide 100 = .ok (.goto 4, 3) := by decide +kernel
theorem dX8_mayHide_103 : decode cX8_mayHide 103 = .ok (.iconst 0, 1) := by decide +kernel
theorem dX8_mayHide_104 : decode cX8_mayHide 104 = .ok (.ireturn, 1) := by decide +kernel
theorem dX8_layHidden_0 : decode cX8_layHidden 0 = .ok (.iconst 0, 1) := by decide +kernel
theorem dX8_layHidden_1 : decode cX8_layHidden 1 = .ok (.istore 5, 2) := by decide +kernel
theorem dX8_layHidden_3 : decode cX8_layHidden 3 = .ok (.iload 5, 2) := by decide +kernel
theorem dX8_layHidden_5 : decode cX8_layHidden 5 = .ok (.sipush 800, 3) := by decide +kernel
theorem dX8_layHidden_8 : decode cX8_layHidden 8 = .ok (.if_icmp .ge 17, 3) := by decide +kernel
theorem dX8_layHidden_11 : decode cX8_layHidden 11 = .ok (.aload_n 0, 1) := by decide +kernel
theorem dX8_layHidden_12 : decode cX8_layHidden 12 = .ok (.getfield 59, 3) := by decide +kernel
theorem dX8_layHidden_15 : decode cX8_layHidden 15 = .ok (.iload 5, 2) := by decide +kernel
theorem dX8_layHidden_17 : decode cX8_layHidden 17 = .ok (.iconst 0, 1) := by decide +kernel
theorem dX8_layHidden_18 : decode cX8_layHidden 18 = .ok (.iastore, 1) := by decide +kernel
theorem dX8_layHidden_19 : decode cX8_layHidden 19 = .ok (.iinc 5 1, 3) := by decide +kernel
theorem dX8_layHidden_22 : decode cX8_layHidden 22 = .ok (.goto (-19), 3) := by decide +kernel
theorem dX8_layHidden_25 : decode cX8_layHidden 25 = .ok (.iconst 0, 1) := by decide +kernel
theorem dX8_layHidden_26 : decode cX8_layHidden 26 = .ok (.istore 5, 2) := by decide +kernel
theorem dX8_layHidden_28 : decode cX8_layHidden 28 = .ok (.iload 5, 2) := by decide +kernel
theorem dX8_layHidden_30 : decode cX8_layHidden 30 = .ok (.iconst 4, 1) := by decide +kernel
theorem dX8_layHidden_31 : decode cX8_layHidden 31 = .ok (.if_icmp .ge 17, 3) := by decide +kernel
theorem dX8_layHidden_34 : decode cX8_layHidden 34 = .ok (.aload_n 0, 1) := by decide +kernel
theorem dX8_layHidden_35 : decode cX8_layHidden 35 = .ok (.getfield 62, 3) := by decide +kernel
theorem dX8_layHidden_38 : decode cX8_layHidden 38 = .ok (.iload 5, 2) := by decide +kernel
theorem dX8_layHidden_40 : decode cX8_layHidden 40 = .ok (.iconst 0, 1) := by decide +kernel
theorem dX8_layHidden_41 : decode cX8_layHidden 41 = .ok (.iastore, 1) := by decide +kernel
theorem dX8_layHidden_42 : decode cX8_layHidden 42 = .ok (.iinc 5 1, 3) := by decide +kernel
theorem dX8_layHidden_45 : decode cX8_layHidden 45 = .ok (.goto (-17), 3) := by decide +kernel
theorem dX8_layHidden_48 : decode cX8_layHidden 48 = .ok (.aload_n 0, 1) := by decide +kernel
theorem dX8_layHidden_49 : decode cX8_layHidden 49 = .ok (.iload_n 1, 1) := by decide +kernel
theorem dX8_layHidden_50 : decode cX8_layHidden 50 = .ok (.invokevirtual 222, 3) := by decide +kernel
theorem dX8_layHidden_53 : decode cX8_layHidden 53 = .ok (.l2i, 1) := by decide +kernel
theorem dX8_layHidden_54 : decode cX8_layHidden 54 = .ok (.istore 5, 2) := by decide +kernel
theorem dX8_layHidden_56 : decode cX8_layHidden 56 = .ok (.aload_n 0, 1) := by decide +kernel
theorem dX8_layHidden_57 : decode cX8_layHidden 57 = .ok (.iload_n 2, 1) := by decide +kernel
theorem dX8_layHidden_58 : decode cX8_layHidden 58 = .ok (.invokevirtual 222, 3) := by decide +kernel
theorem dX8_layHidden_61 : decode cX8_layHidden 61 = .ok (.l2i, 1) := by decide +kernel
theorem dX8_layHidden_62 : decode cX8_layHidden 62 = .ok (.istore 6, 2) := by decide +kernel
theorem dX8_layHidden_64 : decode cX8_layHidden 64 = .ok (.iconst 0, 1) := by decide +kernel
theorem dX8_layHidden_65 : decode cX8_layHidden 65 = .ok (.istore 7, 2) := by decide +kernel
theorem dX8_layHidden_67 : decode cX8_layHidden 67 = .ok (.iload 7, 2) := by decide +kernel
theorem dX8_layHidden_69 : decode cX8_layHidden 69 = .ok (.iload 5, 2) := by decide +kernel
theorem dX8_layHidden_71 : decode cX8_layHidden 71 = .ok (.if_icmp .ge 119, 3) := by decide +kernel
theorem dX8_layHidden_74 : decode cX8_layHidden 74 = .ok (.aload_n 0, 1) := by decide +kernel
theorem dX8_layHidden_75 : decode cX8_layHidden 75 = .ok (.iconst 0, 1) := by decide +kernel
theorem dX8_layHidden_76 : decode cX8_layHidden 76 = .ok (.iload_n 1, 1) := by decide +kernel
theorem dX8_layHidden_77 : decode cX8_layHidden 77 = .ok (.iload 7, 2) := by decide +kernel
theorem dX8_layHidden_79 : decode cX8_layHidden 79 = .ok (.invokevirtual 228, 3) := by decide +kernel
theorem dX8_layHidden_82 : decode cX8_layHidden 82 = .ok (.aload_n 0, 1) := by decide +kernel
theorem dX8_layHidden_83 : decode cX8_layHidden 83 = .ok (.iconst 0, 1) := by decide +kernel
theorem dX8_layHidden_84 : decode cX8_layHidden 84 = .ok (.iload_n 1, 1) := by decide +kernel
theorem dX8_layHidden_85 : decode cX8_layHidden 85 = .ok (.iload_n 3, 1) := by decide +kernel
theorem dX8_layHidden_86 : decode cX8_layHidden 86 = .ok (.invokevirtual 135, 3) := by decide +kernel
theorem dX8_layHidden_89 : decode cX8_layHidden 89 = .ok (.iconst 0, 1) := by decide +kernel
theorem dX8_layHidden_90 : decode cX8_layHidden 90 = .ok (.istore 8, 2) := by decide +kernel
theorem dX8_layHidden_92 : decode cX8_layHidden 92 = .ok (.iload 8, 2) := by decide +kernel
theorem dX8_layHidden_94 : decode cX8_layHidden 94 = .ok (.iload 6, 2) := by decide +kernel
theorem dX8_layHidden_96 : decode cX8_layHidden 96 = .ok (.if_icmp .ge 88, 3) := by decide +kernel
theorem dX8_layHidden_99 : decode cX8_layHidden 99 = .ok (.aload_n 0, 1) := by decide +kernel
theorem dX8_layHidden_100 : decode cX8_layHidden 100 = .ok (.iconst 1, 1) := by decide +kernel
theorem dX8_layHidden_101 : decode cX8_layHidden 101 = .ok (.iload_n 2, 1) := by decide +kernel
theorem dX8_layHidden_102 : decode cX8_layHidden 102 = .ok (.iload 8, 2) := by decide +kernel
theorem dX8_layHidden_104 : decode cX8_layHidden 104 = .ok (.invokevirtual 228, 3) := by decide +kernel
theorem dX8_layHidden_107 : decode cX8_layHidden 107 = .ok (.aload_n 0, 1) := by decide +kernel
theorem dX8_layHidden_108 : decode cX8_layHidden 108 = .ok (.iconst 1, 1) := by decide +kernel
theorem dX8_layHidden_109 : decode cX8_layHidden 109 = .ok (.iload_n 2, 1) := by decide +kernel
theorem dX8_layHidden_110 : decode cX8_layHidden 110 = .ok (.iload_n 3, 1) := by decide +kernel
theorem dX8_layHidden_111 : decode cX8_layHidden 111 = .ok (.invokevirtual 135, 3) := by decide +kernel
theorem dX8_layHidden_114 : decode cX8_layHidden 114 = .ok (.aload_n 0, 1) := by decide +kernel
theorem dX8_layHidden_115 : decode cX8_layHidden 115 = .ok (.iload 4, 2) := by decide +kernel
theorem dX8_layHidden_117 : decode cX8_layHidden 117 = .ok (.invokevirtual 143, 3) := by decide +kernel
theorem dX8_layHidden_120 : decode cX8_layHidden 120 = .ok (.istore 9, 2) := by decide +kernel
theorem dX8_layHidden_122 : decode cX8_layHidden 122 = .ok (.aload_n 0, 1) := by decide +kernel
theorem dX8_layHidden_123 : decode cX8_layHidden 123 = .ok (.getfield 62, 3) := by decide +kernel
theorem dX8_layHidden_126 : decode cX8_layHidden 126 = .ok (.iload 9, 2) := by decide +kernel
theorem dX8_layHidden_128 : decode cX8_layHidden 128 = .ok (.dup2, 1) := by decide +kernel
theorem dX8_layHidden_129 : decode cX8_layHidden 129 = .ok (.iaload, 1) := by decide +kernel
theorem dX8_layHidden_130 : decode cX8_layHidden 130 = .ok (.iconst 1, 1) := by decide +kernel
theorem dX8_layHidden_131 : decode cX8_layHidden 131 = .ok (.iadd, 1) := by decide +kernel
theorem dX8_layHidden_132 : decode cX8_layHidden 132 = .ok (.iastore, 1) := by decide +kernel
theorem dX8_layHidden_133 : decode cX8_layHidden 133 = .ok (.iconst 0, 1) := by decide +kernel
theorem dX8_layHidden_134 : decode cX8_layHidden 134 = .ok (.istore 10, 2) := by decide +kernel
theorem dX8_layHidden_136 : decode cX8_layHidden 136 = .ok (.iload 10, 2) := by decide +kernel
theorem dX8_layHidden_138 : decode cX8_layHidden 138 = .ok (.aload_n 0, 1) := by decide +kernel
theorem dX8_layHidden_139 : decode cX8_layHidden 139 = .ok (.getfield 7, 3) := by decide +kernel
theorem dX8_layHidden_142 : decode cX8_layHidden 142 = .ok (.iload_n 1, 1) := by decide +kernel
theorem dX8_layHidden_143 : decode cX8_layHidden 143 = .ok (.iaload, 1) := by decide +kernel
theorem dX8_layHidden_144 : decode cX8_layHidden 144 = .ok (.if_icmp .ge 34, 3) := by decide +kernel
theorem dX8_layHidden_147 : decode cX8_layHidden 147 = .ok (.aload_n 0, 1) := by decide +kernel
theorem dX8_layHidden_148 : decode cX8_layHidden 148 = .ok (.getfield 59, 3) := by decide +kernel
theorem dX8_layHidden_151 : decode cX8_layHidden 151 = .ok (.bipush 100, 2) := by decide +kernel
theorem dX8_layHidden_153 : decode cX8_layHidden 153 = .ok (.iload 10, 2) := by decide +kernel
theorem dX8_layHidden_155 : decode cX8_layHidden 155 = .ok (.imul, 1) := by decide +kernel
theorem dX8_layHidden_156 : decode cX8_layHidden 156 = .ok (.aload_n 0, 1) := by decide +kernel
theorem dX8_layHidden_157 : decode cX8_layHidden 157 = .ok (.getfield 25, 3) := by decide +kernel
theorem dX8_layHidden_160 : decode cX8_layHidden 160 = .ok (.iload 10, 2) := by decide +kernel
theorem dX8_layHidden_162 : decode cX8_layHidden 162 = .ok (.iaload, 1) := by decide +kernel
theorem dX8_layHidden_163 : decode cX8_layHidden 163 = .ok (.iadd, 1) := by decide +kernel
theorem dX8_layHidden_164 : decode cX8_layHidden 164 = .ok (.dup2, 1) := by decide +kernel
theorem dX8_layHidden_165 : decode cX8_layHidden 165 = .ok (.iaload, 1) := by decide +kernel
theorem dX8_layHidden_166 : decode cX8_layHidden 166 = .ok (.iconst 1, 1) := by decide +kernel
theorem dX8_layHidden_167 : decode cX8_layHidden 167 = .ok (.iload 9, 2) := by decide +kernel
theorem dX8_layHidden_169 : decode cX8_layHidden 169 = .ok (.ishl, 1) := by decide +kernel
theorem dX8_layHidden_170 : decode cX8_layHidden 170 = .ok (.ior, 1) := by decide +kernel
theorem dX8_layHidden_171 : decode cX8_layHidden 171 = .ok (.iastore, 1) := by decide +kernel
theorem dX8_layHidden_172 : decode cX8_layHidden 172 = .ok (.iinc 10 1, 3) := by decide +kernel
theorem dX8_layHidden_175 : decode cX8_layHidden 175 = .ok (.goto (-39), 3) := by decide +kernel
theorem dX8_layHidden_178 : decode cX8_layHidden 178 = .ok (.iinc 8 1, 3) := by decide +kernel
theorem dX8_layHidden_181 : decode cX8_layHidden 181 = .ok (.goto (-89), 3) := by decide +kernel
theorem dX8_layHidden_184 : decode cX8_layHidden 184 = .ok (.iinc 7 1, 3) := by decide +kernel
theorem dX8_layHidden_187 : decode cX8_layHidden 187 = .ok (.goto (-120), 3) := by decide +kernel
theorem dX8_layHidden_190 : decode cX8_layHidden 190 = .ok (.return_, 1) := by decide +kernel
theorem dX8_hidden_0 : decode cX8_hidden 0 = .ok (.aload_n 0, 1) := by decide +kernel
theorem dX8_hidden_1 : decode cX8_hidden 1 = .ok (.iload_n 1, 1) := by decide +kernel
theorem dX8_hidden_2 : decode cX8_hidden 2 = .ok (.iload_n 2, 1) := by decide +kernel
theorem dX8_hidden_3 : decode cX8_hidden 3 = .ok (.iload_n 3, 1) := by decide +kernel
theorem dX8_hidden_4 : decode cX8_hidden 4 = .ok (.iload 4, 2) := by decide +kernel
theorem dX8_hidden_6 : decode cX8_hidden 6 = .ok (.invokevirtual 231, 3) := by decide +kernel
theorem dX8_hidden_9 : decode cX8_hidden 9 = .ok (.istore 6, 2) := by decide +kernel
theorem dX8_hidden_11 : decode cX8_hidden 11 = .ok (.iload 6, 2) := by decide +kernel
theorem dX8_hidden_13 : decode cX8_hidden 13 = .ok (.iconst (-1), 1) := by decide +kernel
theorem dX8_hidden_14 : decode cX8_hidden 14 = .ok (.if_icmp .eq 23, 3) := by decide +kernel
theorem dX8_hidden_17 : decode cX8_hidden 17 = .ok (.iload 6, 2) := by decide +kernel
theorem dX8_hidden_19 : decode cX8_hidden 19 = .ok (.bipush (-2), 2) := by decide +kernel
theorem dX8_hidden_21 : decode cX8_hidden 21 = .ok (.if_icmp .eq 16, 3) := by decide +kernel
theorem dX8_hidden_24 : decode cX8_hidden 24 = .ok (.iload 5, 2) := by decide +kernel
theorem dX8_hidden_26 : decode cX8_hidden 26 = .ok (.i2l, 1) := by decide +kernel
theorem dX8_hidden_27 : decode cX8_hidden 27 = .ok (.lconst 0, 1) := by decide +kernel
theorem dX8_hidden_28 : decode cX8_hidden 28 = .ok (.ldc2_w 75, 3) := by decide +kernel
theorem dX8_hidden_31 : decode cX8_hidden 31 = .ok (.invokestatic 77, 3) := by decide +kernel
theorem dX8_hidden_34 : decode cX8_hidden 34 = .ok (.ifCond .ne 16, 3) := by decide +kernel
theorem dX8_hidden_37 : decode cX8_hidden 37 = .ok (.iload 6, 2) := by decide +kernel
theorem dX8_hidden_39 : decode cX8_hidden 39 = .ok (.iconst (-1), 1) := by decide +kernel
theorem dX8_hidden_40 : decode cX8_hidden 40 = .ok (.if_icmp .ne 7, 3) := by decide +kernel
theorem dX8_hidden_43 : decode cX8_hidden 43 = .ok (.iconst (-1), 1) := by decide +kernel
theorem dX8_hidden_44 : decode cX8_hidden 44 = .ok (.goto 5, 3) := by decide +kernel
theorem dX8_hidden_47 : decode cX8_hidden 47 = .ok (.bipush (-2), 2) := by decide +kernel
theorem dX8_hidden_49 : decode cX8_hidden 49 = .ok (.ireturn, 1) := by decide +kernel
theorem dX8_hidden_50 : decode cX8_hidden 50 = .ok (.iload 6, 2) := by decide +kernel
theorem dX8_hidden_52 : decode cX8_hidden 52 = .ok (.bipush (-3), 2) := by decide +kernel
theorem dX8_hidden_54 : decode cX8_hidden 54 = .ok (.if_icmp .ne 6, 3) := by decide +kernel
theorem dX8_hidden_57 : decode cX8_hidden 57 = .ok (.bipush (-3), 2) := by decide +kernel
theorem dX8_hidden_59 : decode cX8_hidden 59 = .ok (.ireturn, 1) := by decide +kernel
theorem dX8_hidden_60 : decode cX8_hidden 60 = .ok (.aload_n 0, 1) := by decide +kernel
theorem dX8_hidden_61 : decode cX8_hidden 61 = .ok (.iload_n 1, 1) := by decide +kernel
theorem dX8_hidden_62 : decode cX8_hidden 62 = .ok (.iload_n 2, 1) := by decide +kernel
theorem dX8_hidden_63 : decode cX8_hidden 63 = .ok (.iload_n 3, 1) := by decide +kernel
theorem dX8_hidden_64 : decode cX8_hidden 64 = .ok (.iload 4, 2) := by decide +kernel
theorem dX8_hidden_66 : decode cX8_hidden 66 = .ok (.invokevirtual 234, 3) := by decide +kernel
theorem dX8_hidden_69 : decode cX8_hidden 69 = .ok (.aload_n 0, 1) := by decide +kernel
theorem dX8_hidden_70 : decode cX8_hidden 70 = .ok (.getfield 62, 3) := by decide +kernel
theorem dX8_hidden_73 : decode cX8_hidden 73 = .ok (.iload 5, 2) := by decide +kernel
theorem dX8_hidden_75 : decode cX8_hidden 75 = .ok (.iaload, 1) := by decide +kernel
theorem dX8_hidden_76 : decode cX8_hidden 76 = .ok (.ireturn, 1) := by decide +kernel
theorem dX8_ask_0 : decode cX8_ask 0 = .ok (.aload_n 0, 1) := by decide +kernel
theorem dX8_ask_1 : decode cX8_ask 1 = .ok (.iload_n 1, 1) := by decide +kernel
theorem dX8_ask_2 : decode cX8_ask 2 = .ok (.iload_n 2, 1) := by decide +kernel
theorem dX8_ask_3 : decode cX8_ask 3 = .ok (.iload_n 3, 1) := by decide +kernel
theorem dX8_ask_4 : decode cX8_ask 4 = .ok (.iload 4, 2) := by decide +kernel
theorem dX8_ask_6 : decode cX8_ask 6 = .ok (.invokevirtual 231, 3) := by decide +kernel
theorem dX8_ask_9 : decode cX8_ask 9 = .ok (.istore 5, 2) := by decide +kernel
theorem dX8_ask_11 : decode cX8_ask 11 = .ok (.iload 5, 2) := by decide +kernel
theorem dX8_ask_13 : decode cX8_ask 13 = .ok (.ifCond .ge 6, 3) := by decide +kernel
theorem dX8_ask_16 : decode cX8_ask 16 = .ok (.iload 5, 2) := by decide +kernel
theorem dX8_ask_18 : decode cX8_ask 18 = .ok (.ireturn, 1) := by decide +kernel
theorem dX8_ask_19 : decode cX8_ask 19 = .ok (.aload_n 0, 1) := by decide +kernel
theorem dX8_ask_20 : decode cX8_ask 20 = .ok (.iload_n 1, 1) := by decide +kernel
theorem dX8_ask_21 : decode cX8_ask 21 = .ok (.iload_n 2, 1) := by decide +kernel
theorem dX8_ask_22 : decode cX8_ask 22 = .ok (.iload_n 3, 1) := by decide +kernel
theorem dX8_ask_23 : decode cX8_ask 23 = .ok (.iload 4, 2) := by decide +kernel
theorem dX8_ask_25 : decode cX8_ask 25 = .ok (.invokevirtual 234, 3) := by decide +kernel
theorem dX8_ask_28 : decode cX8_ask 28 = .ok (.bipush (-9), 2) := by decide +kernel
theorem dX8_ask_30 : decode cX8_ask 30 = .ok (.istore 6, 2) := by decide +kernel
theorem dX8_ask_32 : decode cX8_ask 32 = .ok (.iconst (-1), 1) := by decide +kernel
theorem dX8_ask_33 : decode cX8_ask 33 = .ok (.istore 7, 2) := by decide +kernel
theorem dX8_ask_35 : decode cX8_ask 35 = .ok (.iconst 0, 1) := by decide +kernel
theorem dX8_ask_36 : decode cX8_ask 36 = .ok (.istore 8, 2) := by decide +kernel
theorem dX8_ask_38 : decode cX8_ask 38 = .ok (.iload 8, 2) := by decide +kernel
theorem dX8_ask_40 : decode cX8_ask 40 = .ok (.aload_n 0, 1) := by decide +kernel
theorem dX8_ask_41 : decode cX8_ask 41 = .ok (.getfield 7, 3) := by decide +kernel
theorem dX8_ask_44 : decode cX8_ask 44 = .ok (.iload_n 1, 1) := by decide +kernel
theorem dX8_ask_45 : decode cX8_ask 45 = .ok (.iaload, 1) := by decide +kernel
theorem dX8_ask_46 : decode cX8_ask 46 = .ok (.if_icmp .ge 141, 3) := by decide +kernel
theorem dX8_ask_49 : decode cX8_ask 49 = .ok (.iconst 0, 1) := by decide +kernel
theorem dX8_ask_50 : decode cX8_ask 50 = .ok (.istore 9, 2) := by decide +kernel
theorem dX8_ask_52 : decode cX8_ask 52 = .ok (.aload_n 0, 1) := by decide +kernel
theorem dX8_ask_53 : decode cX8_ask 53 = .ok (.getfield 13, 3) := by decide +kernel
theorem dX8_ask_56 : decode cX8_ask 56 = .ok (.bipush 8, 2) := by decide +kernel
theorem dX8_ask_58 : decode cX8_ask 58 = .ok (.iload_n 1, 1) := by decide +kernel
theorem dX8_ask_59 : decode cX8_ask 59 = .ok (.imul, 1) := by decide +kernel
theorem dX8_ask_60 : decode cX8_ask 60 = .ok (.iload 8, 2) := by decide +kernel
theorem dX8_ask_62 : decode cX8_ask 62 = .ok (.iadd, 1) := by decide +kernel
theorem dX8_ask_63 : decode cX8_ask 63 = .ok (.iaload, 1) := by decide +kernel
theorem dX8_ask_64 : decode cX8_ask 64 = .ok (.istore 10, 2) := by decide +kernel
theorem dX8_ask_66 : decode cX8_ask 66 = .ok (.iload 10, 2) := by decide +kernel
theorem dX8_ask_68 : decode cX8_ask 68 = .ok (.aload_n 0, 1) := by decide +kernel
theorem dX8_ask_69 : decode cX8_ask 69 = .ok (.getfield 16, 3) := by decide +kernel
theorem dX8_ask_72 : decode cX8_ask 72 = .ok (.bipush 8, 2) := by decide +kernel
theorem dX8_ask_74 : decode cX8_ask 74 = .ok (.iload_n 1, 1) := by decide +kernel
theorem dX8_ask_75 : decode cX8_ask 75 = .ok (.imul, 1) := by decide +kernel
theorem dX8_ask_76 : decode cX8_ask 76 = .ok (.iload 8, 2) := by decide +kernel
theorem dX8_ask_78 : decode cX8_ask 78 = .ok (.iadd, 1) := by decide +kernel
theorem dX8_ask_79 : decode cX8_ask 79 = .ok (.iaload, 1) := by decide +kernel
theorem dX8_ask_80 : decode cX8_ask 80 = .ok (.if_icmp .gt 59, 3) := by decide +kernel
theorem dX8_ask_83 : decode cX8_ask 83 = .ok (.aload_n 0, 1) := by decide +kernel
theorem dX8_ask_84 : decode cX8_ask 84 = .ok (.getfield 59, 3) := by decide +kernel
theorem dX8_ask_87 : decode cX8_ask 87 = .ok (.bipush 100, 2) := by decide +kernel
theorem dX8_ask_89 : decode cX8_ask 89 = .ok (.iload 8, 2) := by decide +kernel
theorem dX8_ask_91 : decode cX8_ask 91 = .ok (.imul, 1) := by decide +kernel
theorem dX8_ask_92 : decode cX8_ask 92 = .ok (.iload 10, 2) := by decide +kernel
theorem dX8_ask_94 : decode cX8_ask 94 = .ok (.iadd, 1) := by decide +kernel
theorem dX8_ask_95 : decode cX8_ask 95 = .ok (.iaload, 1) := by decide +kernel
theorem dX8_ask_96 : decode cX8_ask 96 = .ok (.istore 11, 2) := by decide +kernel
theorem dX8_ask_98 : decode cX8_ask 98 = .ok (.iload 9, 2) := by decide +kernel
theorem dX8_ask_100 : decode cX8_ask 100 = .ok (.iload 11, 2) := by decide +kernel
theorem dX8_ask_102 : decode cX8_ask 102 = .ok (.iconst 1, 1) := by decide +kernel
theorem dX8_ask_103 : decode cX8_ask 103 = .ok (.if_icmp .eq 22, 3) := by decide +kernel
theorem dX8_ask_106 : decode cX8_ask 106 = .ok (.iload 11, 2) := by decide +kernel
theorem dX8_ask_108 : decode cX8_ask 108 = .ok (.iconst 2, 1) := by decide +kernel
theorem dX8_ask_109 : decode cX8_ask 109 = .ok (.if_icmp .eq 16, 3) := by decide +kernel
theorem dX8_ask_112 : decode cX8_ask 112 = .ok (.iload 11, 2) := by decide +kernel
theorem dX8_ask_114 : decode cX8_ask 114 = .ok (.iconst 4, 1) := by decide +kernel
theorem dX8_ask_115 : decode cX8_ask 115 = .ok (.if_icmp .eq 10, 3) := by decide +kernel
theorem dX8_ask_118 : decode cX8_ask 118 = .ok (.iload 11, 2) := by decide +kernel
theorem dX8_ask_120 : decode cX8_ask 120 = .ok (.bipush 8, 2) := by decide +kernel
theorem dX8_ask_122 : decode cX8_ask 122 = .ok (.if_icmp .ne 7, 3) := by decide +kernel
theorem dX8_ask_125 : decode cX8_ask 125 = .ok (.iconst 1, 1) := by decide +kernel
theorem dX8_ask_126 : decode cX8_ask 126 = .ok (.goto 4, 3) := by decide +kernel
theorem dX8_ask_129 : decode cX8_ask 129 = .ok (.iconst 0, 1) := by decide +kernel
theorem dX8_ask_130 : decode cX8_ask 130 = .ok (.iadd, 1) := by decide +kernel
theorem dX8_ask_131 : decode cX8_ask 131 = .ok (.istore 9, 2) := by decide +kernel
theorem dX8_ask_133 : decode cX8_ask 133 = .ok (.iinc 10 1, 3) := by decide +kernel
theorem dX8_ask_136 : decode cX8_ask 136 = .ok (.goto (-70), 3) := by decide +kernel
theorem dX8_ask_139 : decode cX8_ask 139 = .ok (.aload_n 0, 1) := by decide +kernel
theorem dX8_ask_140 : decode cX8_ask 140 = .ok (.getfield 13, 3) := by decide +kernel
theorem dX8_ask_143 : decode cX8_ask 143 = .ok (.bipush 8, 2) := by decide +kernel
theorem dX8_ask_145 : decode cX8_ask 145 = .ok (.iload_n 1, 1) := by decide +kernel
theorem dX8_ask_146 : decode cX8_ask 146 = .ok (.imul, 1) := by decide +kernel
theorem dX8_ask_147 : decode cX8_ask 147 = .ok (.iload 8, 2) := by decide +kernel
theorem dX8_ask_149 : decode cX8_ask 149 = .ok (.iadd, 1) := by decide +kernel
theorem dX8_ask_150 : decode cX8_ask 150 = .ok (.iaload, 1) := by decide +kernel
theorem dX8_ask_151 : decode cX8_ask 151 = .ok (.aload_n 0, 1) := by decide +kernel
theorem dX8_ask_152 : decode cX8_ask 152 = .ok (.getfield 16, 3) := by decide +kernel
theorem dX8_ask_155 : decode cX8_ask 155 = .ok (.bipush 8, 2) := by decide +kernel
theorem dX8_ask_157 : decode cX8_ask 157 = .ok (.iload_n 1, 1) := by decide +kernel
theorem dX8_ask_158 : decode cX8_ask 158 = .ok (.imul, 1) := by decide +kernel
theorem dX8_ask_159 : decode cX8_ask 159 = .ok (.iload 8, 2) := by decide +kernel
theorem dX8_ask_161 : decode cX8_ask 161 = .ok (.iadd, 1) := by decide +kernel
theorem dX8_ask_162 : decode cX8_ask 162 = .ok (.iaload, 1) := by decide +kernel
theorem dX8_ask_163 : decode cX8_ask 163 = .ok (.if_icmp .ge 18, 3) := by decide +kernel
theorem dX8_ask_166 : decode cX8_ask 166 = .ok (.iload 9, 2) := by decide +kernel
theorem dX8_ask_168 : decode cX8_ask 168 = .ok (.iload 7, 2) := by decide +kernel
theorem dX8_ask_170 : decode cX8_ask 170 = .ok (.if_icmp .le 11, 3) := by decide +kernel
theorem dX8_ask_173 : decode cX8_ask 173 = .ok (.iload 8, 2) := by decide +kernel
theorem dX8_ask_175 : decode cX8_ask 175 = .ok (.istore 6, 2) := by decide +kernel
theorem dX8_ask_177 : decode cX8_ask 177 = .ok (.iload 9, 2) := by decide +kernel
