theorem dX8_init_0 : decode cX8_init 0 = .ok (.aload_n 0, 1) := by decide +kernel
theorem dX8_init_1 : decode cX8_init 1 = .ok (.invokespecial 1, 3) := by decide +kernel
theorem dX8_init_4 : decode cX8_init 4 = .ok (.aload_n 0, 1) := by decide +kernel
theorem dX8_init_5 : decode cX8_init 5 = .ok (.iconst 4, 1) := by decide +kernel
theorem dX8_init_6 : decode cX8_init 6 = .ok (.newarray .int, 2) := by decide +kernel
theorem dX8_init_8 : decode cX8_init 8 = .ok (.putfield 7, 3) := by decide +kernel
theorem dX8_init_11 : decode cX8_init 11 = .ok (.aload_n 0, 1) := by decide +kernel
theorem dX8_init_12 : decode cX8_init 12 = .ok (.bipush 32, 2) := by decide +kernel
theorem dX8_init_14 : decode cX8_init 14 = .ok (.newarray .int, 2) := by decide +kernel
theorem dX8_init_16 : decode cX8_init 16 = .ok (.putfield 13, 3) := by decide +kernel
theorem dX8_init_19 : decode cX8_init 19 = .ok (.aload_n 0, 1) := by decide +kernel
theorem dX8_init_20 : decode cX8_init 20 = .ok (.bipush 32, 2) := by decide +kernel
theorem dX8_init_22 : decode cX8_init 22 = .ok (.newarray .int, 2) := by decide +kernel
theorem dX8_init_24 : decode cX8_init 24 = .ok (.putfield 16, 3) := by decide +kernel
theorem dX8_init_27 : decode cX8_init 27 = .ok (.aload_n 0, 1) := by decide +kernel
theorem dX8_init_28 : decode cX8_init 28 = .ok (.bipush 32, 2) := by decide +kernel
theorem dX8_init_30 : decode cX8_init 30 = .ok (.newarray .int, 2) := by decide +kernel
theorem dX8_init_32 : decode cX8_init 32 = .ok (.putfield 19, 3) := by decide +kernel
theorem dX8_init_35 : decode cX8_init 35 = .ok (.aload_n 0, 1) := by decide +kernel
theorem dX8_init_36 : decode cX8_init 36 = .ok (.bipush 32, 2) := by decide +kernel
theorem dX8_init_38 : decode cX8_init 38 = .ok (.newarray .int, 2) := by decide +kernel
theorem dX8_init_40 : decode cX8_init 40 = .ok (.putfield 22, 3) := by decide +kernel
theorem dX8_init_43 : decode cX8_init 43 = .ok (.aload_n 0, 1) := by decide +kernel
theorem dX8_init_44 : decode cX8_init 44 = .ok (.bipush 16, 2) := by decide +kernel
theorem dX8_init_46 : decode cX8_init 46 = .ok (.newarray .int, 2) := by decide +kernel
theorem dX8_init_48 : decode cX8_init 48 = .ok (.putfield 25, 3) := by decide +kernel
theorem dX8_init_51 : decode cX8_init 51 = .ok (.aload_n 0, 1) := by decide +kernel
theorem dX8_init_52 : decode cX8_init 52 = .ok (.bipush 16, 2) := by decide +kernel
theorem dX8_init_54 : decode cX8_init 54 = .ok (.newarray .int, 2) := by decide +kernel
theorem dX8_init_56 : decode cX8_init 56 = .ok (.putfield 28, 3) := by decide +kernel
theorem dX8_init_59 : decode cX8_init 59 = .ok (.aload_n 0, 1) := by decide +kernel
theorem dX8_init_60 : decode cX8_init 60 = .ok (.bipush 16, 2) := by decide +kernel
theorem dX8_init_62 : decode cX8_init 62 = .ok (.newarray .long, 2) := by decide +kernel
theorem dX8_init_64 : decode cX8_init 64 = .ok (.putfield 31, 3) := by decide +kernel
theorem dX8_init_67 : decode cX8_init 67 = .ok (.aload_n 0, 1) := by decide +kernel
theorem dX8_init_68 : decode cX8_init 68 = .ok (.iconst 2, 1) := by decide +kernel
theorem dX8_init_69 : decode cX8_init 69 = .ok (.newarray .int, 2) := by decide +kernel
theorem dX8_init_71 : decode cX8_init 71 = .ok (.putfield 35, 3) := by decide +kernel
theorem dX8_init_74 : decode cX8_init 74 = .ok (.aload_n 0, 1) := by decide +kernel
theorem dX8_init_75 : decode cX8_init 75 = .ok (.iconst 2, 1) := by decide +kernel
theorem dX8_init_76 : decode cX8_init 76 = .ok (.newarray .int, 2) := by decide +kernel
theorem dX8_init_78 : decode cX8_init 78 = .ok (.putfield 38, 3) := by decide +kernel
theorem dX8_init_81 : decode cX8_init 81 = .ok (.aload_n 0, 1) := by decide +kernel
theorem dX8_init_82 : decode cX8_init 82 = .ok (.iconst 2, 1) := by decide +kernel
theorem dX8_init_83 : decode cX8_init 83 = .ok (.newarray .long, 2) := by decide +kernel
theorem dX8_init_85 : decode cX8_init 85 = .ok (.putfield 41, 3) := by decide +kernel
theorem dX8_init_88 : decode cX8_init 88 = .ok (.aload_n 0, 1) := by decide +kernel
theorem dX8_init_89 : decode cX8_init 89 = .ok (.bipush 16, 2) := by decide +kernel
theorem dX8_init_91 : decode cX8_init 91 = .ok (.newarray .int, 2) := by decide +kernel
theorem dX8_init_93 : decode cX8_init 93 = .ok (.putfield 44, 3) := by decide +kernel
theorem dX8_init_96 : decode cX8_init 96 = .ok (.aload_n 0, 1) := by decide +kernel
theorem dX8_init_97 : decode cX8_init 97 = .ok (.bipush 16, 2) := by decide +kernel
theorem dX8_init_99 : decode cX8_init 99 = .ok (.newarray .int, 2) := by decide +kernel
theorem dX8_init_101 : decode cX8_init 101 = .ok (.putfield 47, 3) := by decide +kernel
theorem dX8_init_104 : decode cX8_init 104 = .ok (.aload_n 0, 1) := by decide +kernel
theorem dX8_init_105 : decode cX8_init 105 = .ok (.bipush 8, 2) := by decide +kernel
theorem dX8_init_107 : decode cX8_init 107 = .ok (.newarray .int, 2) := by decide +kernel
theorem dX8_init_109 : decode cX8_init 109 = .ok (.putfield 50, 3) := by decide +kernel
theorem dX8_init_112 : decode cX8_init 112 = .ok (.aload_n 0, 1) := by decide +kernel
theorem dX8_init_113 : decode cX8_init 113 = .ok (.sipush 256, 3) := by decide +kernel
theorem dX8_init_116 : decode cX8_init 116 = .ok (.newarray .int, 2) := by decide +kernel
theorem dX8_init_118 : decode cX8_init 118 = .ok (.putfield 53, 3) := by decide +kernel
theorem dX8_init_121 : decode cX8_init 121 = .ok (.aload_n 0, 1) := by decide +kernel
theorem dX8_init_122 : decode cX8_init 122 = .ok (.bipush 8, 2) := by decide +kernel
theorem dX8_init_124 : decode cX8_init 124 = .ok (.newarray .int, 2) := by decide +kernel
theorem dX8_init_126 : decode cX8_init 126 = .ok (.putfield 56, 3) := by decide +kernel
theorem dX8_init_129 : decode cX8_init 129 = .ok (.aload_n 0, 1) := by decide +kernel
theorem dX8_init_130 : decode cX8_init 130 = .ok (.sipush 800, 3) := by decide +kernel
theorem dX8_init_133 : decode cX8_init 133 = .ok (.newarray .int, 2) := by decide +kernel
theorem dX8_init_135 : decode cX8_init 135 = .ok (.putfield 59, 3) := by decide +kernel
theorem dX8_init_138 : decode cX8_init 138 = .ok (.aload_n 0, 1) := by decide +kernel
theorem dX8_init_139 : decode cX8_init 139 = .ok (.iconst 4, 1) := by decide +kernel
theorem dX8_init_140 : decode cX8_init 140 = .ok (.newarray .int, 2) := by decide +kernel
theorem dX8_init_142 : decode cX8_init 142 = .ok (.putfield 62, 3) := by decide +kernel
theorem dX8_init_145 : decode cX8_init 145 = .ok (.aload_n 0, 1) := by decide +kernel
theorem dX8_init_146 : decode cX8_init 146 = .ok (.iconst 4, 1) := by decide +kernel
theorem dX8_init_147 : decode cX8_init 147 = .ok (.newarray .int, 2) := by decide +kernel
theorem dX8_init_149 : decode cX8_init 149 = .ok (.putfield 65, 3) := by decide +kernel
theorem dX8_init_152 : decode cX8_init 152 = .ok (.aload_n 0, 1) := by decide +kernel
theorem dX8_init_153 : decode cX8_init 153 = .ok (.iconst 4, 1) := by decide +kernel
theorem dX8_init_154 : decode cX8_init 154 = .ok (.newarray .int, 2) := by decide +kernel
theorem dX8_init_156 : decode cX8_init 156 = .ok (.putfield 68, 3) := by decide +kernel
theorem dX8_init_159 : decode cX8_init 159 = .ok (.return_, 1) := by decide +kernel
theorem dX8_in_0 : decode cX8_in 0 = .ok (.lload_n 0, 1) := by decide +kernel
theorem dX8_in_1 : decode cX8_in 1 = .ok (.lload_n 2, 1) := by decide +kernel
theorem dX8_in_2 : decode cX8_in 2 = .ok (.lcmp, 1) := by decide +kernel
theorem dX8_in_3 : decode cX8_in 3 = .ok (.ifCond .lt 14, 3) := by decide +kernel
theorem dX8_in_6 : decode cX8_in 6 = .ok (.lload_n 0, 1) := by decide +kernel
theorem dX8_in_7 : decode cX8_in 7 = .ok (.lload 4, 2) := by decide +kernel
theorem dX8_in_9 : decode cX8_in 9 = .ok (.lcmp, 1) := by decide +kernel
theorem dX8_in_10 : decode cX8_in 10 = .ok (.ifCond .gt 7, 3) := by decide +kernel
theorem dX8_in_13 : decode cX8_in 13 = .ok (.iconst 1, 1) := by decide +kernel
theorem dX8_in_14 : decode cX8_in 14 = .ok (.goto 4, 3) := by decide +kernel
theorem dX8_in_17 : decode cX8_in 17 = .ok (.iconst 0, 1) := by decide +kernel
theorem dX8_in_18 : decode cX8_in 18 = .ok (.ireturn, 1) := by decide +kernel
theorem dX8_common_0 : decode cX8_common 0 = .ok (.lload_n 0, 1) := by decide +kernel
theorem dX8_common_1 : decode cX8_common 1 = .ok (.lconst 0, 1) := by decide +kernel
theorem dX8_common_2 : decode cX8_common 2 = .ok (.lcmp, 1) := by decide +kernel
theorem dX8_common_3 : decode cX8_common 3 = .ok (.ifCond .ge 8, 3) := by decide +kernel
theorem dX8_common_6 : decode cX8_common 6 = .ok (.lload_n 0, 1) := by decide +kernel
theorem dX8_common_7 : decode cX8_common 7 = .ok (.lneg, 1) := by decide +kernel
theorem dX8_common_8 : decode cX8_common 8 = .ok (.goto 4, 3) := by decide +kernel
theorem dX8_common_11 : decode cX8_common 11 = .ok (.lload_n 0, 1) := by decide +kernel
theorem dX8_common_12 : decode cX8_common 12 = .ok (.lstore 4, 2) := by decide +kernel
theorem dX8_common_14 : decode cX8_common 14 = .ok (.lload_n 2, 1) := by decide +kernel
theorem dX8_common_15 : decode cX8_common 15 = .ok (.lstore 6, 2) := by decide +kernel
theorem dX8_common_17 : decode cX8_common 17 = .ok (.lload 6, 2) := by decide +kernel
theorem dX8_common_19 : decode cX8_common 19 = .ok (.lconst 0, 1) := by decide +kernel
theorem dX8_common_20 : decode cX8_common 20 = .ok (.lcmp, 1) := by decide +kernel
theorem dX8_common_21 : decode cX8_common 21 = .ok (.ifCond .eq 21, 3) := by decide +kernel
theorem dX8_common_24 : decode cX8_common 24 = .ok (.lload 4, 2) := by decide +kernel
theorem dX8_common_26 : decode cX8_common 26 = .ok (.lload 6, 2) := by decide +kernel
theorem dX8_common_28 : decode cX8_common 28 = .ok (.lrem, 1) := by decide +kernel
theorem dX8_common_29 : decode cX8_common 29 = .ok (.lstore 8, 2) := by decide +kernel
theorem dX8_common_31 : decode cX8_common 31 = .ok (.lload 6, 2) := by decide +kernel
theorem dX8_common_33 : decode cX8_common 33 = .ok (.lstore 4, 2) := by decide +kernel
theorem dX8_common_35 : decode cX8_common 35 = .ok (.lload 8, 2) := by decide +kernel
theorem dX8_common_37 : decode cX8_common 37 = .ok (.lstore 6, 2) := by decide +kernel
theorem dX8_common_39 : decode cX8_common 39 = .ok (.goto (-22), 3) := by decide +kernel
theorem dX8_common_42 : decode cX8_common 42 = .ok (.lload 4, 2) := by decide +kernel
theorem dX8_common_44 : decode cX8_common 44 = .ok (.lreturn, 1) := by decide +kernel
theorem dX8_told_0 : decode cX8_told 0 = .ok (.lload_n 0, 1) := by decide +kernel
theorem dX8_told_1 : decode cX8_told 1 = .ok (.lload_n 2, 1) := by decide +kernel
theorem dX8_told_2 : decode cX8_told 2 = .ok (.invokestatic 71, 3) := by decide +kernel
theorem dX8_told_5 : decode cX8_told 5 = .ok (.lstore 5, 2) := by decide +kernel
theorem dX8_told_7 : decode cX8_told 7 = .ok (.iload 4, 2) := by decide +kernel
theorem dX8_told_9 : decode cX8_told 9 = .ok (.ifCond .eq 10, 3) := by decide +kernel
theorem dX8_told_12 : decode cX8_told 12 = .ok (.lload_n 0, 1) := by decide +kernel
theorem dX8_told_13 : decode cX8_told 13 = .ok (.lload 5, 2) := by decide +kernel
theorem dX8_told_15 : decode cX8_told 15 = .ok (.ldiv, 1) := by decide +kernel
theorem dX8_told_16 : decode cX8_told 16 = .ok (.goto 7, 3) := by decide +kernel
theorem dX8_told_19 : decode cX8_told 19 = .ok (.lload_n 2, 1) := by decide +kernel
theorem dX8_told_20 : decode cX8_told 20 = .ok (.lload 5, 2) := by decide +kernel
theorem dX8_told_22 : decode cX8_told 22 = .ok (.ldiv, 1) := by decide +kernel
theorem dX8_told_23 : decode cX8_told 23 = .ok (.lreturn, 1) := by decide +kernel
theorem dX8_isTown_0 : decode cX8_isTown 0 = .ok (.iload_n 0, 1) := by decide +kernel
theorem dX8_isTown_1 : decode cX8_isTown 1 = .ok (.i2l, 1) := by decide +kernel
theorem dX8_isTown_2 : decode cX8_isTown 2 = .ok (.lconst 0, 1) := by decide +kernel
theorem dX8_isTown_3 : decode cX8_isTown 3 = .ok (.ldc2_w 75, 3) := by decide +kernel
theorem dX8_isTown_6 : decode cX8_isTown 6 = .ok (.invokestatic 77, 3) := by decide +kernel
theorem dX8_isTown_9 : decode cX8_isTown 9 = .ok (.ireturn, 1) := by decide +kernel
theorem dX8_isFamily_0 : decode cX8_isFamily 0 = .ok (.iload_n 1, 1) := by decide +kernel
theorem dX8_isFamily_1 : decode cX8_isFamily 1 = .ok (.invokestatic 81, 3) := by decide +kernel
theorem dX8_isFamily_4 : decode cX8_isFamily 4 = .ok (.ifCond .eq 25, 3) := by decide +kernel
theorem dX8_isFamily_7 : decode cX8_isFamily 7 = .ok (.iload_n 2, 1) := by decide +kernel
theorem dX8_isFamily_8 : decode cX8_isFamily 8 = .ok (.i2l, 1) := by decide +kernel
theorem dX8_isFamily_9 : decode cX8_isFamily 9 = .ok (.lconst 0, 1) := by decide +kernel
theorem dX8_isFamily_10 : decode cX8_isFamily 10 = .ok (.aload_n 0, 1) := by decide +kernel
theorem dX8_isFamily_11 : decode cX8_isFamily 11 = .ok (.getfield 7, 3) := by decide +kernel
theorem dX8_isFamily_14 : decode cX8_isFamily 14 = .ok (.iload_n 1, 1) := by decide +kernel
theorem dX8_isFamily_15 : decode cX8_isFamily 15 = .ok (.iaload, 1) := by decide +kernel
theorem dX8_isFamily_16 : decode cX8_isFamily 16 = .ok (.iconst 1, 1) := by decide +kernel
theorem dX8_isFamily_17 : decode cX8_isFamily 17 = .ok (.isub, 1) := by decide +kernel
theorem dX8_isFamily_18 : decode cX8_isFamily 18 = .ok (.i2l, 1) := by decide +kernel
theorem dX8_isFamily_19 : decode cX8_isFamily 19 = .ok (.invokestatic 77, 3) := by decide +kernel
theorem dX8_isFamily_22 : decode cX8_isFamily 22 = .ok (.ifCond .eq 7, 3) := by decide +kernel
theorem dX8_isFamily_25 : decode cX8_isFamily 25 = .ok (.iconst 1, 1) := by decide +kernel
theorem dX8_isFamily_26 : decode cX8_isFamily 26 = .ok (.goto 4, 3) := by decide +kernel
theorem dX8_isFamily_29 : decode cX8_isFamily 29 = .ok (.iconst 0, 1) := by decide +kernel
theorem dX8_isFamily_30 : decode cX8_isFamily 30 = .ok (.ireturn, 1) := by decide +kernel
theorem dX8_isSpan_0 : decode cX8_isSpan 0 = .ok (.iload_n 0, 1) := by decide +kernel
theorem dX8_isSpan_1 : decode cX8_isSpan 1 = .ok (.i2l, 1) := by decide +kernel
theorem dX8_isSpan_2 : decode cX8_isSpan 2 = .ok (.lconst 0, 1) := by decide +kernel
theorem dX8_isSpan_3 : decode cX8_isSpan 3 = .ok (.ldc2_w 85, 3) := by decide +kernel
theorem dX8_isSpan_6 : decode cX8_isSpan 6 = .ok (.invokestatic 77, 3) := by decide +kernel
theorem dX8_isSpan_9 : decode cX8_isSpan 9 = .ok (.ifCond .eq 20, 3) := by decide +kernel
theorem dX8_isSpan_12 : decode cX8_isSpan 12 = .ok (.iload_n 1, 1) := by decide +kernel
theorem dX8_isSpan_13 : decode cX8_isSpan 13 = .ok (.i2l, 1) := by decide +kernel
theorem dX8_isSpan_14 : decode cX8_isSpan 14 = .ok (.iload_n 0, 1) := by decide +kernel
theorem dX8_isSpan_15 : decode cX8_isSpan 15 = .ok (.i2l, 1) := by decide +kernel
theorem dX8_isSpan_16 : decode cX8_isSpan 16 = .ok (.ldc2_w 85, 3) := by decide +kernel
theorem dX8_isSpan_19 : decode cX8_isSpan 19 = .ok (.invokestatic 77, 3) := by decide +kernel
theorem dX8_isSpan_22 : decode cX8_isSpan 22 = .ok (.ifCond .eq 7, 3) := by decide +kernel
theorem dX8_isSpan_25 : decode cX8_isSpan 25 = .ok (.iconst 1, 1) := by decide +kernel
theorem dX8_isSpan_26 : decode cX8_isSpan 26 = .ok (.goto 4, 3) := by decide +kernel
theorem dX8_isSpan_29 : decode cX8_isSpan 29 = .ok (.iconst 0, 1) := by decide +kernel
theorem dX8_isSpan_30 : decode cX8_isSpan 30 = .ok (.ireturn, 1) := by decide +kernel
theorem dX8_family_0 : decode cX8_family 0 = .ok (.iload_n 1, 1) := by decide +kernel
theorem dX8_family_1 : decode cX8_family 1 = .ok (.invokestatic 81, 3) := by decide +kernel
theorem dX8_family_4 : decode cX8_family 4 = .ok (.ifCond .eq 16, 3) := by decide +kernel
theorem dX8_family_7 : decode cX8_family 7 = .ok (.iload 5, 2) := by decide +kernel
theorem dX8_family_9 : decode cX8_family 9 = .ok (.i2l, 1) := by decide +kernel
theorem dX8_family_10 : decode cX8_family 10 = .ok (.lconst 0, 1) := by decide +kernel
theorem dX8_family_11 : decode cX8_family 11 = .ok (.ldc2_w 87, 3) := by decide +kernel
theorem dX8_family_14 : decode cX8_family 14 = .ok (.invokestatic 77, 3) := by decide +kernel
theorem dX8_family_17 : decode cX8_family 17 = .ok (.ifCond .ne 5, 3) := by decide +kernel
theorem dX8_family_20 : decode cX8_family 20 = .ok (.iconst (-1), 1) := by decide +kernel
theorem dX8_family_21 : decode cX8_family 21 = .ok (.ireturn, 1) := by decide +kernel
theorem dX8_family_22 : decode cX8_family 22 = .ok (.iload_n 2, 1) := by decide +kernel
theorem dX8_family_23 : decode cX8_family 23 = .ok (.iload_n 3, 1) := by decide +kernel
theorem dX8_family_24 : decode cX8_family 24 = .ok (.invokestatic 89, 3) := by decide +kernel
theorem dX8_family_27 : decode cX8_family 27 = .ok (.ifCond .eq 16, 3) := by decide +kernel
theorem dX8_family_30 : decode cX8_family 30 = .ok (.iload 4, 2) := by decide +kernel
theorem dX8_family_32 : decode cX8_family 32 = .ok (.i2l, 1) := by decide +kernel
theorem dX8_family_33 : decode cX8_family 33 = .ok (.lconst 1, 1) := by decide +kernel
theorem dX8_family_34 : decode cX8_family 34 = .ok (.ldc2_w 93, 3) := by decide +kernel
theorem dX8_family_37 : decode cX8_family 37 = .ok (.invokestatic 77, 3) := by decide +kernel
theorem dX8_family_40 : decode cX8_family 40 = .ok (.ifCond .ne 6, 3) := by decide +kernel
theorem dX8_family_43 : decode cX8_family 43 = .ok (.bipush (-2), 2) := by decide +kernel
theorem dX8_family_45 : decode cX8_family 45 = .ok (.ireturn, 1) := by decide +kernel
theorem dX8_family_46 : decode cX8_family 46 = .ok (.aload_n 0, 1) := by decide +kernel
theorem dX8_family_47 : decode cX8_family 47 = .ok (.getfield 7, 3) := by decide +kernel
theorem dX8_family_50 : decode cX8_family 50 = .ok (.iload_n 1, 1) := by decide +kernel
theorem dX8_family_51 : decode cX8_family 51 = .ok (.iaload, 1) := by decide +kernel
theorem dX8_family_52 : decode cX8_family 52 = .ok (.bipush 8, 2) := by decide +kernel
theorem dX8_family_54 : decode cX8_family 54 = .ok (.if_icmp .ne 6, 3) := by decide +kernel
theorem dX8_family_57 : decode cX8_family 57 = .ok (.bipush (-4), 2) := by decide +kernel
theorem dX8_family_59 : decode cX8_family 59 = .ok (.ireturn, 1) := by decide +kernel
theorem dX8_family_60 : decode cX8_family 60 = .ok (.bipush 8, 2) := by decide +kernel
theorem dX8_family_62 : decode cX8_family 62 = .ok (.iload_n 1, 1) := by decide +kernel
theorem dX8_family_63 : decode cX8_family 63 = .ok (.imul, 1) := by decide +kernel
theorem dX8_family_64 : decode cX8_family 64 = .ok (.aload_n 0, 1) := by decide +kernel
theorem dX8_family_65 : decode cX8_family 65 = .ok (.getfield 7, 3) := by decide +kernel
theorem dX8_family_68 : decode cX8_family 68 = .ok (.iload_n 1, 1) := by decide +kernel
theorem dX8_family_69 : decode cX8_family 69 = .ok (.iaload, 1) := by decide +kernel
theorem dX8_family_70 : decode cX8_family 70 = .ok (.iadd, 1) := by decide +kernel
theorem dX8_family_71 : decode cX8_family 71 = .ok (.istore 6, 2) := by decide +kernel
theorem dX8_family_73 : decode cX8_family 73 = .ok (.aload_n 0, 1) := by decide +kernel
theorem dX8_family_74 : decode cX8_family 74 = .ok (.getfield 13, 3) := by decide +kernel
theorem dX8_family_77 : decode cX8_family 77 = .ok (.iload 6, 2) := by decide +kernel
theorem dX8_family_79 : decode cX8_family 79 = .ok (.iload_n 2, 1) := by decide +kernel
theorem dX8_family_80 : decode cX8_family 80 = .ok (.iastore, 1) := by decide +kernel
theorem dX8_family_81 : decode cX8_family 81 = .ok (.aload_n 0, 1) := by decide +kernel
theorem dX8_family_82 : decode cX8_family 82 = .ok (.getfield 16, 3) := by decide +kernel
theorem dX8_family_85 : decode cX8_family 85 = .ok (.iload 6, 2) := by decide +kernel
theorem dX8_family_87 : decode cX8_family 87 = .ok (.iload_n 3, 1) := by decide +kernel
theorem dX8_family_88 : decode cX8_family 88 = .ok (.iastore, 1) := by decide +kernel
theorem dX8_family_89 : decode cX8_family 89 = .ok (.aload_n 0, 1) := by decide +kernel
theorem dX8_family_90 : decode cX8_family 90 = .ok (.getfield 19, 3) := by decide +kernel
theorem dX8_family_93 : decode cX8_family 93 = .ok (.iload 6, 2) := by decide +kernel
theorem dX8_family_95 : decode cX8_family 95 = .ok (.iload 4, 2) := by decide +kernel
theorem dX8_family_97 : decode cX8_family 97 = .ok (.iastore, 1) := by decide +kernel
theorem dX8_family_98 : decode cX8_family 98 = .ok (.aload_n 0, 1) := by decide +kernel
theorem dX8_family_99 : decode cX8_family 99 = .ok (.getfield 22, 3) := by decide +kernel
theorem dX8_family_102 : decode cX8_family 102 = .ok (.iload 6, 2) := by decide +kernel
theorem dX8_family_104 : decode cX8_family 104 = .ok (.iload 5, 2) := by decide +kernel
theorem dX8_family_106 : decode cX8_family 106 = .ok (.iastore, 1) := by decide +kernel
theorem dX8_family_107 : decode cX8_family 107 = .ok (.aload_n 0, 1) := by decide +kernel
theorem dX8_family_108 : decode cX8_family 108 = .ok (.getfield 7, 3) := by decide +kernel
theorem dX8_family_111 : decode cX8_family 111 = .ok (.iload_n 1, 1) := by decide +kernel
theorem dX8_family_112 : decode cX8_family 112 = .ok (.dup2, 1) := by decide +kernel
theorem dX8_family_113 : decode cX8_family 113 = .ok (.iaload, 1) := by decide +kernel
theorem dX8_family_114 : decode cX8_family 114 = .ok (.iconst 1, 1) := by decide +kernel
theorem dX8_family_115 : decode cX8_family 115 = .ok (.iadd, 1) := by decide +kernel
theorem dX8_family_116 : decode cX8_family 116 = .ok (.iastore, 1) := by decide +kernel
theorem dX8_family_117 : decode cX8_family 117 = .ok (.aload_n 0, 1) := by decide +kernel
theorem dX8_family_118 : decode cX8_family 118 = .ok (.getfield 7, 3) := by decide +kernel
theorem dX8_family_121 : decode cX8_family 121 = .ok (.iload_n 1, 1) := by decide +kernel
theorem dX8_family_122 : decode cX8_family 122 = .ok (.iaload, 1) := by decide +kernel
theorem dX8_family_123 : decode cX8_family 123 = .ok (.ireturn, 1) := by decide +kernel
theorem dX8_know_0 : decode cX8_know 0 = .ok (.aload_n 0, 1) := by decide +kernel
theorem dX8_know_1 : decode cX8_know 1 = .ok (.iload_n 1, 1) := by decide +kernel
theorem dX8_know_2 : decode cX8_know 2 = .ok (.iload_n 2, 1) := by decide +kernel
theorem dX8_know_3 : decode cX8_know 3 = .ok (.invokevirtual 95, 3) := by decide +kernel
theorem dX8_know_6 : decode cX8_know 6 = .ok (.ifCond .ne 5, 3) := by decide +kernel
theorem dX8_know_9 : decode cX8_know 9 = .ok (.iconst (-1), 1) := by decide +kernel
theorem dX8_know_10 : decode cX8_know 10 = .ok (.ireturn, 1) := by decide +kernel
theorem dX8_know_11 : decode cX8_know 11 = .ok (.iload_n 3, 1) := by decide +kernel
theorem dX8_know_12 : decode cX8_know 12 = .ok (.iload 4, 2) := by decide +kernel
theorem dX8_know_14 : decode cX8_know 14 = .ok (.invokestatic 89, 3) := by decide +kernel
theorem dX8_know_17 : decode cX8_know 17 = .ok (.ifCond .ne 6, 3) := by decide +kernel
theorem dX8_know_20 : decode cX8_know 20 = .ok (.bipush (-2), 2) := by decide +kernel
theorem dX8_know_22 : decode cX8_know 22 = .ok (.ireturn, 1) := by decide +kernel
theorem dX8_know_23 : decode cX8_know 23 = .ok (.bipush 100, 2) := by decide +kernel
theorem dX8_know_25 : decode cX8_know 25 = .ok (.aload_n 0, 1) := by decide +kernel
theorem dX8_know_26 : decode cX8_know 26 = .ok (.getfield 13, 3) := by decide +kernel
theorem dX8_know_29 : decode cX8_know 29 = .ok (.bipush 8, 2) := by decide +kernel
theorem dX8_know_31 : decode cX8_know 31 = .ok (.iload_n 1, 1) := by decide +kernel
theorem dX8_know_32 : decode cX8_know 32 = .ok (.imul, 1) := by decide +kernel
theorem dX8_know_33 : decode cX8_know 33 = .ok (.iload_n 2, 1) := by decide +kernel
theorem dX8_know_34 : decode cX8_know 34 = .ok (.iadd, 1) := by decide +kernel
theorem dX8_know_35 : decode cX8_know 35 = .ok (.iaload, 1) := by decide +kernel
theorem dX8_know_36 : decode cX8_know 36 = .ok (.imul, 1) := by decide +kernel
theorem dX8_know_37 : decode cX8_know 37 = .ok (.aload_n 0, 1) := by decide +kernel
theorem dX8_know_38 : decode cX8_know 38 = .ok (.getfield 16, 3) := by decide +kernel
theorem dX8_know_41 : decode cX8_know 41 = .ok (.bipush 8, 2) := by decide +kernel
theorem dX8_know_43 : decode cX8_know 43 = .ok (.iload_n 1, 1) := by decide +kernel
theorem dX8_know_44 : decode cX8_know 44 = .ok (.imul, 1) := by decide +kernel
theorem dX8_know_45 : decode cX8_know 45 = .ok (.iload_n 2, 1) := by decide +kernel
theorem dX8_know_46 : decode cX8_know 46 = .ok (.iadd, 1) := by decide +kernel
theorem dX8_know_47 : decode cX8_know 47 = .ok (.iaload, 1) := by decide +kernel
theorem dX8_know_48 : decode cX8_know 48 = .ok (.iadd, 1) := by decide +kernel
theorem dX8_know_49 : decode cX8_know 49 = .ok (.istore 5, 2) := by decide +kernel
theorem dX8_know_51 : decode cX8_know 51 = .ok (.aload_n 0, 1) := by decide +kernel
theorem dX8_know_52 : decode cX8_know 52 = .ok (.getfield 13, 3) := by decide +kernel
theorem dX8_know_55 : decode cX8_know 55 = .ok (.bipush 8, 2) := by decide +kernel
theorem dX8_know_57 : decode cX8_know 57 = .ok (.iload_n 1, 1) := by decide +kernel
theorem dX8_know_58 : decode cX8_know 58 = .ok (.imul, 1) := by decide +kernel
theorem dX8_know_59 : decode cX8_know 59 = .ok (.iload_n 2, 1) := by decide +kernel
theorem dX8_know_60 : decode cX8_know 60 = .ok (.iadd, 1) := by decide +kernel
theorem dX8_know_61 : decode cX8_know 61 = .ok (.iload_n 3, 1) := by decide +kernel
theorem dX8_know_62 : decode cX8_know 62 = .ok (.iastore, 1) := by decide +kernel
theorem dX8_know_63 : decode cX8_know 63 = .ok (.aload_n 0, 1) := by decide +kernel
theorem dX8_know_64 : decode cX8_know 64 = .ok (.getfield 16, 3) := by decide +kernel
theorem dX8_know_67 : decode cX8_know 67 = .ok (.bipush 8, 2) := by decide +kernel
theorem dX8_know_69 : decode cX8_know 69 = .ok (.iload_n 1, 1) := by decide +kernel
theorem dX8_know_70 : decode cX8_know 70 = .ok (.imul, 1) := by decide +kernel
theorem dX8_know_71 : decode cX8_know 71 = .ok (.iload_n 2, 1) := by decide +kernel
theorem dX8_know_72 : decode cX8_know 72 = .ok (.iadd, 1) := by decide +kernel
theorem dX8_know_73 : decode cX8_know 73 = .ok (.iload 4, 2) := by decide +kernel
theorem dX8_know_75 : decode cX8_know 75 = .ok (.iastore, 1) := by decide +kernel
theorem dX8_know_76 : decode cX8_know 76 = .ok (.iload 5, 2) := by decide +kernel
theorem dX8_know_78 : decode cX8_know 78 = .ok (.ireturn, 1) := by decide +kernel
theorem dX8_clear_0 : decode cX8_clear 0 = .ok (.iload_n 1, 1) := by decide +kernel
theorem dX8_clear_1 : decode cX8_clear 1 = .ok (.invokestatic 81, 3) := by decide +kernel
theorem dX8_clear_4 : decode cX8_clear 4 = .ok (.ifCond .ne 5, 3) := by decide +kernel
theorem dX8_clear_7 : decode cX8_clear 7 = .ok (.iconst (-1), 1) := by decide +kernel
theorem dX8_clear_8 : decode cX8_clear 8 = .ok (.ireturn, 1) := by decide +kernel
theorem dX8_clear_9 : decode cX8_clear 9 = .ok (.aload_n 0, 1) := by decide +kernel
theorem dX8_clear_10 : decode cX8_clear 10 = .ok (.getfield 7, 3) := by decide +kernel
theorem dX8_clear_13 : decode cX8_clear 13 = .ok (.iload_n 1, 1) := by decide +kernel
theorem dX8_clear_14 : decode cX8_clear 14 = .ok (.iaload, 1) := by decide +kernel
theorem dX8_clear_15 : decode cX8_clear 15 = .ok (.istore_n 2, 1) := by decide +kernel
theorem dX8_clear_16 : decode cX8_clear 16 = .ok (.aload_n 0, 1) := by decide +kernel
theorem dX8_clear_17 : decode cX8_clear 17 = .ok (.getfield 7, 3) := by decide +kernel
theorem dX8_clear_20 : decode cX8_clear 20 = .ok (.iload_n 1, 1) := by decide +kernel
theorem dX8_clear_21 : decode cX8_clear 21 = .ok (.iconst 0, 1) := by decide +kernel
theorem dX8_clear_22 : decode cX8_clear 22 = .ok (.iastore, 1) := by decide +kernel
theorem dX8_clear_23 : decode cX8_clear 23 = .ok (.iload_n 2, 1) := by decide +kernel
theorem dX8_clear_24 : decode cX8_clear 24 = .ok (.ireturn, 1) := by decide +kernel
theorem dX8_about_0 : decode cX8_about 0 = .ok (.aload_n 0, 1) := by decide +kernel
theorem dX8_about_1 : decode cX8_about 1 = .ok (.iload_n 1, 1) := by decide +kernel
theorem dX8_about_2 : decode cX8_about 2 = .ok (.iload_n 2, 1) := by decide +kernel
theorem dX8_about_3 : decode cX8_about 3 = .ok (.invokevirtual 95, 3) := by decide +kernel
theorem dX8_about_6 : decode cX8_about 6 = .ok (.ifCond .ne 5, 3) := by decide +kernel
theorem dX8_about_9 : decode cX8_about 9 = .ok (.iconst (-1), 1) := by decide +kernel
theorem dX8_about_10 : decode cX8_about 10 = .ok (.ireturn, 1) := by decide +kernel
theorem dX8_about_11 : decode cX8_about 11 = .ok (.bipush 8, 2) := by decide +kernel
theorem dX8_about_13 : decode cX8_about 13 = .ok (.iload_n 1, 1) := by decide +kernel
theorem dX8_about_14 : decode cX8_about 14 = .ok (.imul, 1) := by decide +kernel
theorem dX8_about_15 : decode cX8_about 15 = .ok (.iload_n 2, 1) := by decide +kernel
theorem dX8_about_16 : decode cX8_about 16 = .ok (.iadd, 1) := by decide +kernel
theorem dX8_about_17 : decode cX8_about 17 = .ok (.istore 4, 2) := by decide +kernel
theorem dX8_about_19 : decode cX8_about 19 = .ok (.iload_n 3, 1) := by decide +kernel
theorem dX8_about_20 : decode cX8_about 20 = .ok (.tableswitch 64 0 3 #[32, 40, 48, 56], 32) := by decide +kernel
theorem dX8_about_52 : decode cX8_about 52 = .ok (.aload_n 0, 1) := by decide +kernel
theorem dX8_about_53 : decode cX8_about 53 = .ok (.getfield 13, 3) := by decide +kernel
theorem dX8_about_56 : decode cX8_about 56 = .ok (.iload 4, 2) := by decide +kernel
theorem dX8_about_58 : decode cX8_about 58 = .ok (.iaload, 1) := by decide +kernel
theorem dX8_about_59 : decode cX8_about 59 = .ok (.ireturn, 1) := by decide +kernel
theorem dX8_about_60 : decode cX8_about 60 = .ok (.aload_n 0, 1) := by decide +kernel
theorem dX8_about_61 : decode cX8_about 61 = .ok (.getfield 16, 3) := by decide +kernel
theorem dX8_about_64 : decode cX8_about 64 = .ok (.iload 4, 2) := by decide +kernel
theorem dX8_about_66 : decode cX8_about 66 = .ok (.iaload, 1) := by decide +kernel
theorem dX8_about_67 : decode cX8_about 67 = .ok (.ireturn, 1) := by decide +kernel
theorem dX8_about_68 : decode cX8_about 68 = .ok (.aload_n 0, 1) := by decide +kernel
theorem dX8_about_69 : decode cX8_about 69 = .ok (.getfield 19, 3) := by decide +kernel
theorem dX8_about_72 : decode cX8_about 72 = .ok (.iload 4, 2) := by decide +kernel
theorem dX8_about_74 : decode cX8_about 74 = .ok (.iaload, 1) := by decide +kernel
theorem dX8_about_75 : decode cX8_about 75 = .ok (.ireturn, 1) := by decide +kernel
theorem dX8_about_76 : decode cX8_about 76 = .ok (.aload_n 0, 1) := by decide +kernel
theorem dX8_about_77 : decode cX8_about 77 = .ok (.getfield 22, 3) := by decide +kernel
theorem dX8_about_80 : decode cX8_about 80 = .ok (.iload 4, 2) := by decide +kernel
theorem dX8_about_82 : decode cX8_about 82 = .ok (.iaload, 1) := by decide +kernel
theorem dX8_about_83 : decode cX8_about 83 = .ok (.ireturn, 1) := by decide +kernel
theorem dX8_about_84 : decode cX8_about 84 = .ok (.bipush (-2), 2) := by decide +kernel
theorem dX8_about_86 : decode cX8_about 86 = .ok (.ireturn, 1) := by decide +kernel
theorem dX8_isKnown_0 : decode cX8_isKnown 0 = .ok (.iconst 1, 1) := by decide +kernel
theorem dX8_isKnown_1 : decode cX8_isKnown 1 = .ok (.istore_n 2, 1) := by decide +kernel
theorem dX8_isKnown_2 : decode cX8_isKnown 2 = .ok (.bipush 8, 2) := by decide +kernel
theorem dX8_isKnown_4 : decode cX8_isKnown 4 = .ok (.iload_n 1, 1) := by decide +kernel
theorem dX8_isKnown_5 : decode cX8_isKnown 5 = .ok (.imul, 1) := by decide +kernel
theorem dX8_isKnown_6 : decode cX8_isKnown 6 = .ok (.istore_n 3, 1) := by decide +kernel
theorem dX8_isKnown_7 : decode cX8_isKnown 7 = .ok (.iload_n 3, 1) := by decide +kernel
theorem dX8_isKnown_8 : decode cX8_isKnown 8 = .ok (.bipush 8, 2) := by decide +kernel
theorem dX8_isKnown_10 : decode cX8_isKnown 10 = .ok (.iload_n 1, 1) := by decide +kernel
theorem dX8_isKnown_11 : decode cX8_isKnown 11 = .ok (.imul, 1) := by decide +kernel
theorem dX8_isKnown_12 : decode cX8_isKnown 12 = .ok (.aload_n 0, 1) := by decide +kernel
theorem dX8_isKnown_13 : decode cX8_isKnown 13 = .ok (.getfield 7, 3) := by decide +kernel
theorem dX8_isKnown_16 : decode cX8_isKnown 16 = .ok (.iload_n 1, 1) := by decide +kernel
theorem dX8_isKnown_17 : decode cX8_isKnown 17 = .ok (.iaload, 1) := by decide +kernel
theorem dX8_isKnown_18 : decode cX8_isKnown 18 = .ok (.iadd, 1) := by decide +kernel
theorem dX8_isKnown_19 : decode cX8_isKnown 19 = .ok (.if_icmp .ge 34, 3) := by decide +kernel
theorem dX8_isKnown_22 : decode cX8_isKnown 22 = .ok (.iload_n 2, 1) := by decide +kernel
theorem dX8_isKnown_23 : decode cX8_isKnown 23 = .ok (.ifCond .eq 22, 3) := by decide +kernel
theorem dX8_isKnown_26 : decode cX8_isKnown 26 = .ok (.aload_n 0, 1) := by decide +kernel
theorem dX8_isKnown_27 : decode cX8_isKnown 27 = .ok (.getfield 13, 3) := by decide +kernel
theorem dX8_isKnown_30 : decode cX8_isKnown 30 = .ok (.iload_n 3, 1) := by decide +kernel
theorem dX8_isKnown_31 : decode cX8_isKnown 31 = .ok (.iaload, 1) := by decide +kernel
theorem dX8_isKnown_32 : decode cX8_isKnown 32 = .ok (.aload_n 0, 1) := by decide +kernel
theorem dX8_isKnown_33 : decode cX8_isKnown 33 = .ok (.getfield 16, 3) := by decide +kernel
theorem dX8_isKnown_36 : decode cX8_isKnown 36 = .ok (.iload_n 3, 1) := by decide +kernel
theorem dX8_isKnown_37 : decode cX8_isKnown 37 = .ok (.iaload, 1) := by decide +kernel
theorem dX8_isKnown_38 : decode cX8_isKnown 38 = .ok (.if_icmp .ne 7, 3) := by decide +kernel
theorem dX8_isKnown_41 : decode cX8_isKnown 41 = .ok (.iconst 1, 1) := by decide +kernel
theorem dX8_isKnown_42 : decode cX8_isKnown 42 = .ok (.goto 4, 3) := by decide +kernel
theorem dX8_isKnown_45 : decode cX8_isKnown 45 = .ok (.iconst 0, 1) := by decide +kernel
theorem dX8_isKnown_46 : decode cX8_isKnown 46 = .ok (.istore_n 2, 1) := by decide +kernel
theorem dX8_isKnown_47 : decode cX8_isKnown 47 = .ok (.iinc 3 1, 3) := by decide +kernel
theorem dX8_isKnown_50 : decode cX8_isKnown 50 = .ok (.goto (-43), 3) := by decide +kernel
theorem dX8_isKnown_53 : decode cX8_isKnown 53 = .ok (.iload_n 2, 1) := by decide +kernel
theorem dX8_isKnown_54 : decode cX8_isKnown 54 = .ok (.ireturn, 1) := by decide +kernel
theorem dX8_town_0 : decode cX8_town 0 = .ok (.iload_n 1, 1) := by decide +kernel
theorem dX8_town_1 : decode cX8_town 1 = .ok (.invokestatic 81, 3) := by decide +kernel
theorem dX8_town_4 : decode cX8_town 4 = .ok (.ifCond .ne 5, 3) := by decide +kernel
theorem dX8_town_7 : decode cX8_town 7 = .ok (.iconst (-1), 1) := by decide +kernel
theorem dX8_town_8 : decode cX8_town 8 = .ok (.ireturn, 1) := by decide +kernel
theorem dX8_town_9 : decode cX8_town 9 = .ok (.iconst 0, 1) := by decide +kernel
theorem dX8_town_10 : decode cX8_town 10 = .ok (.istore_n 3, 1) := by decide +kernel
theorem dX8_town_11 : decode cX8_town 11 = .ok (.iconst 0, 1) := by decide +kernel
theorem dX8_town_12 : decode cX8_town 12 = .ok (.istore 4, 2) := by decide +kernel
theorem dX8_town_14 : decode cX8_town 14 = .ok (.iconst 0, 1) := by decide +kernel
theorem dX8_town_15 : decode cX8_town 15 = .ok (.istore 5, 2) := by decide +kernel
theorem dX8_town_17 : decode cX8_town 17 = .ok (.bipush 8, 2) := by decide +kernel
theorem dX8_town_19 : decode cX8_town 19 = .ok (.iload_n 1, 1) := by decide +kernel
theorem dX8_town_20 : decode cX8_town 20 = .ok (.imul, 1) := by decide +kernel
theorem dX8_town_21 : decode cX8_town 21 = .ok (.istore 6, 2) := by decide +kernel
theorem dX8_town_23 : decode cX8_town 23 = .ok (.iload 6, 2) := by decide +kernel
theorem dX8_town_25 : decode cX8_town 25 = .ok (.bipush 8, 2) := by decide +kernel
theorem dX8_town_27 : decode cX8_town 27 = .ok (.iload_n 1, 1) := by decide +kernel
theorem dX8_town_28 : decode cX8_town 28 = .ok (.imul, 1) := by decide +kernel
theorem dX8_town_29 : decode cX8_town 29 = .ok (.aload_n 0, 1) := by decide +kernel
theorem dX8_town_30 : decode cX8_town 30 = .ok (.getfield 7, 3) := by decide +kernel
theorem dX8_town_33 : decode cX8_town 33 = .ok (.iload_n 1, 1) := by decide +kernel
theorem dX8_town_34 : decode cX8_town 34 = .ok (.iaload, 1) := by decide +kernel
theorem dX8_town_35 : decode cX8_town 35 = .ok (.iadd, 1) := by decide +kernel
theorem dX8_town_36 : decode cX8_town 36 = .ok (.if_icmp .ge 43, 3) := by decide +kernel
theorem dX8_town_39 : decode cX8_town 39 = .ok (.iload_n 3, 1) := by decide +kernel
theorem dX8_town_40 : decode cX8_town 40 = .ok (.aload_n 0, 1) := by decide +kernel
theorem dX8_town_41 : decode cX8_town 41 = .ok (.getfield 19, 3) := by decide +kernel
theorem dX8_town_44 : decode cX8_town 44 = .ok (.iload 6, 2) := by decide +kernel
theorem dX8_town_46 : decode cX8_town 46 = .ok (.iaload, 1) := by decide +kernel
theorem dX8_town_47 : decode cX8_town 47 = .ok (.iadd, 1) := by decide +kernel
theorem dX8_town_48 : decode cX8_town 48 = .ok (.istore_n 3, 1) := by decide +kernel
theorem dX8_town_49 : decode cX8_town 49 = .ok (.iload 4, 2) := by decide +kernel
theorem dX8_town_51 : decode cX8_town 51 = .ok (.aload_n 0, 1) := by decide +kernel
theorem dX8_town_52 : decode cX8_town 52 = .ok (.getfield 13, 3) := by decide +kernel
theorem dX8_town_55 : decode cX8_town 55 = .ok (.iload 6, 2) := by decide +kernel
theorem dX8_town_57 : decode cX8_town 57 = .ok (.iaload, 1) := by decide +kernel
theorem dX8_town_58 : decode cX8_town 58 = .ok (.iadd, 1) := by decide +kernel
theorem dX8_town_59 : decode cX8_town 59 = .ok (.istore 4, 2) := by decide +kernel
theorem dX8_town_61 : decode cX8_town 61 = .ok (.iload 5, 2) := by decide +kernel
theorem dX8_town_63 : decode cX8_town 63 = .ok (.aload_n 0, 1) := by decide +kernel
theorem dX8_town_64 : decode cX8_town 64 = .ok (.getfield 16, 3) := by decide +kernel
theorem dX8_town_67 : decode cX8_town 67 = .ok (.iload 6, 2) := by decide +kernel
theorem dX8_town_69 : decode cX8_town 69 = .ok (.iaload, 1) := by decide +kernel
theorem dX8_town_70 : decode cX8_town 70 = .ok (.iadd, 1) := by decide +kernel
theorem dX8_town_71 : decode cX8_town 71 = .ok (.istore 5, 2) := by decide +kernel
theorem dX8_town_73 : decode cX8_town 73 = .ok (.iinc 6 1, 3) := by decide +kernel
theorem dX8_town_76 : decode cX8_town 76 = .ok (.goto (-53), 3) := by decide +kernel
theorem dX8_town_79 : decode cX8_town 79 = .ok (.iload_n 2, 1) := by decide +kernel
theorem dX8_town_80 : decode cX8_town 80 = .ok (.tableswitch 65 0 4 #[36, 43, 57, 59, 62], 36) := by decide +kernel
theorem dX8_town_116 : decode cX8_town 116 = .ok (.aload_n 0, 1) := by decide +kernel
theorem dX8_town_117 : decode cX8_town 117 = .ok (.getfield 7, 3) := by decide +kernel
theorem dX8_town_120 : decode cX8_town 120 = .ok (.iload_n 1, 1) := by decide +kernel
theorem dX8_town_121 : decode cX8_town 121 = .ok (.iaload, 1) := by decide +kernel
theorem dX8_town_122 : decode cX8_town 122 = .ok (.ireturn, 1) := by decide +kernel
theorem dX8_town_123 : decode cX8_town 123 = .ok (.aload_n 0, 1) := by decide +kernel
theorem dX8_town_124 : decode cX8_town 124 = .ok (.iload_n 1, 1) := by decide +kernel
theorem dX8_town_125 : decode cX8_town 125 = .ok (.invokevirtual 98, 3) := by decide +kernel
theorem dX8_town_128 : decode cX8_town 128 = .ok (.ifCond .eq 7, 3) := by decide +kernel
theorem dX8_town_131 : decode cX8_town 131 = .ok (.iconst 1, 1) := by decide +kernel
theorem dX8_town_132 : decode cX8_town 132 = .ok (.goto 4, 3) := by decide +kernel
theorem dX8_town_135 : decode cX8_town 135 = .ok (.iconst 0, 1) := by decide +kernel
theorem dX8_town_136 : decode cX8_town 136 = .ok (.ireturn, 1) := by decide +kernel
theorem dX8_town_137 : decode cX8_town 137 = .ok (.iload_n 3, 1) := by decide +kernel
theorem dX8_town_138 : decode cX8_town 138 = .ok (.ireturn, 1) := by decide +kernel
theorem dX8_town_139 : decode cX8_town 139 = .ok (.iload 4, 2) := by decide +kernel
theorem dX8_town_141 : decode cX8_town 141 = .ok (.ireturn, 1) := by decide +kernel
theorem dX8_town_142 : decode cX8_town 142 = .ok (.iload 5, 2) := by decide +kernel
theorem dX8_town_144 : decode cX8_town 144 = .ok (.ireturn, 1) := by decide +kernel
theorem dX8_town_145 : decode cX8_town 145 = .ok (.bipush (-2), 2) := by decide +kernel
theorem dX8_town_147 : decode cX8_town 147 = .ok (.ireturn, 1) := by decide +kernel
theorem dX8_takeLows_0 : decode cX8_takeLows 0 = .ok (.iconst 0, 1) := by decide +kernel
theorem dX8_takeLows_1 : decode cX8_takeLows 1 = .ok (.istore_n 3, 1) := by decide +kernel
theorem dX8_takeLows_2 : decode cX8_takeLows 2 = .ok (.iload_n 3, 1) := by decide +kernel
theorem dX8_takeLows_3 : decode cX8_takeLows 3 = .ok (.aload_n 0, 1) := by decide +kernel
theorem dX8_takeLows_4 : decode cX8_takeLows 4 = .ok (.getfield 7, 3) := by decide +kernel
theorem dX8_takeLows_7 : decode cX8_takeLows 7 = .ok (.iload_n 2, 1) := by decide +kernel
theorem dX8_takeLows_8 : decode cX8_takeLows 8 = .ok (.iaload, 1) := by decide +kernel
theorem dX8_takeLows_9 : decode cX8_takeLows 9 = .ok (.if_icmp .ge 31, 3) := by decide +kernel
theorem dX8_takeLows_12 : decode cX8_takeLows 12 = .ok (.aload_n 0, 1) := by decide +kernel
theorem dX8_takeLows_13 : decode cX8_takeLows 13 = .ok (.getfield 25, 3) := by decide +kernel
theorem dX8_takeLows_16 : decode cX8_takeLows 16 = .ok (.bipush 8, 2) := by decide +kernel
theorem dX8_takeLows_18 : decode cX8_takeLows 18 = .ok (.iload_n 1, 1) := by decide +kernel
theorem dX8_takeLows_19 : decode cX8_takeLows 19 = .ok (.imul, 1) := by decide +kernel
theorem dX8_takeLows_20 : decode cX8_takeLows 20 = .ok (.iload_n 3, 1) := by decide +kernel
theorem dX8_takeLows_21 : decode cX8_takeLows 21 = .ok (.iadd, 1) := by decide +kernel
theorem dX8_takeLows_22 : decode cX8_takeLows 22 = .ok (.aload_n 0, 1) := by decide +kernel
theorem dX8_takeLows_23 : decode cX8_takeLows 23 = .ok (.getfield 13, 3) := by decide +kernel
theorem dX8_takeLows_26 : decode cX8_takeLows 26 = .ok (.bipush 8, 2) := by decide +kernel
theorem dX8_takeLows_28 : decode cX8_takeLows 28 = .ok (.iload_n 2, 1) := by decide +kernel
theorem dX8_takeLows_29 : decode cX8_takeLows 29 = .ok (.imul, 1) := by decide +kernel
theorem dX8_takeLows_30 : decode cX8_takeLows 30 = .ok (.iload_n 3, 1) := by decide +kernel
theorem dX8_takeLows_31 : decode cX8_takeLows 31 = .ok (.iadd, 1) := by decide +kernel
theorem dX8_takeLows_32 : decode cX8_takeLows 32 = .ok (.iaload, 1) := by decide +kernel
theorem dX8_takeLows_33 : decode cX8_takeLows 33 = .ok (.iastore, 1) := by decide +kernel
theorem dX8_takeLows_34 : decode cX8_takeLows 34 = .ok (.iinc 3 1, 3) := by decide +kernel
theorem dX8_takeLows_37 : decode cX8_takeLows 37 = .ok (.goto (-35), 3) := by decide +kernel
theorem dX8_takeLows_40 : decode cX8_takeLows 40 = .ok (.return_, 1) := by decide +kernel
theorem dX8_lay_0 : decode cX8_lay 0 = .ok (.aload_n 0, 1) := by decide +kernel
theorem dX8_lay_1 : decode cX8_lay 1 = .ok (.getfield 35, 3) := by decide +kernel
theorem dX8_lay_4 : decode cX8_lay 4 = .ok (.iload_n 1, 1) := by decide +kernel
theorem dX8_lay_5 : decode cX8_lay 5 = .ok (.aload_n 0, 1) := by decide +kernel
theorem dX8_lay_6 : decode cX8_lay 6 = .ok (.getfield 7, 3) := by decide +kernel
theorem dX8_lay_9 : decode cX8_lay 9 = .ok (.iload_n 2, 1) := by decide +kernel
theorem dX8_lay_10 : decode cX8_lay 10 = .ok (.iaload, 1) := by decide +kernel
theorem dX8_lay_11 : decode cX8_lay 11 = .ok (.iastore, 1) := by decide +kernel
theorem dX8_lay_12 : decode cX8_lay 12 = .ok (.aload_n 0, 1) := by decide +kernel
theorem dX8_lay_13 : decode cX8_lay 13 = .ok (.getfield 38, 3) := by decide +kernel
theorem dX8_lay_16 : decode cX8_lay 16 = .ok (.iload_n 1, 1) := by decide +kernel
theorem dX8_lay_17 : decode cX8_lay 17 = .ok (.iconst 0, 1) := by decide +kernel
theorem dX8_lay_18 : decode cX8_lay 18 = .ok (.iastore, 1) := by decide +kernel
theorem dX8_lay_19 : decode cX8_lay 19 = .ok (.aload_n 0, 1) := by decide +kernel
theorem dX8_lay_20 : decode cX8_lay 20 = .ok (.getfield 41, 3) := by decide +kernel
theorem dX8_lay_23 : decode cX8_lay 23 = .ok (.iload_n 1, 1) := by decide +kernel
theorem dX8_lay_24 : decode cX8_lay 24 = .ok (.lconst 0, 1) := by decide +kernel
theorem dX8_lay_25 : decode cX8_lay 25 = .ok (.lastore, 1) := by decide +kernel
theorem dX8_lay_26 : decode cX8_lay 26 = .ok (.iconst 0, 1) := by decide +kernel
theorem dX8_lay_27 : decode cX8_lay 27 = .ok (.istore 4, 2) := by decide +kernel
theorem dX8_lay_29 : decode cX8_lay 29 = .ok (.iload 4, 2) := by decide +kernel
theorem dX8_lay_31 : decode cX8_lay 31 = .ok (.aload_n 0, 1) := by decide +kernel
theorem dX8_lay_32 : decode cX8_lay 32 = .ok (.getfield 7, 3) := by decide +kernel
theorem dX8_lay_35 : decode cX8_lay 35 = .ok (.iload_n 2, 1) := by decide +kernel
theorem dX8_lay_36 : decode cX8_lay 36 = .ok (.iaload, 1) := by decide +kernel
theorem dX8_lay_37 : decode cX8_lay 37 = .ok (.if_icmp .ge 229, 3) := by decide +kernel
theorem dX8_lay_40 : decode cX8_lay 40 = .ok (.iload_n 3, 1) := by decide +kernel
theorem dX8_lay_41 : decode cX8_lay 41 = .ok (.ifCond .ne 7, 3) := by decide +kernel
theorem dX8_lay_44 : decode cX8_lay 44 = .ok (.iconst 1, 1) := by decide +kernel
theorem dX8_lay_45 : decode cX8_lay 45 = .ok (.goto 15, 3) := by decide +kernel
theorem dX8_lay_48 : decode cX8_lay 48 = .ok (.aload_n 0, 1) := by decide +kernel
theorem dX8_lay_49 : decode cX8_lay 49 = .ok (.getfield 19, 3) := by decide +kernel
theorem dX8_lay_52 : decode cX8_lay 52 = .ok (.bipush 8, 2) := by decide +kernel
theorem dX8_lay_54 : decode cX8_lay 54 = .ok (.iload_n 2, 1) := by decide +kernel
theorem dX8_lay_55 : decode cX8_lay 55 = .ok (.imul, 1) := by decide +kernel
theorem dX8_lay_56 : decode cX8_lay 56 = .ok (.iload 4, 2) := by decide +kernel
theorem dX8_lay_58 : decode cX8_lay 58 = .ok (.iadd, 1) := by decide +kernel
theorem dX8_lay_59 : decode cX8_lay 59 = .ok (.iaload, 1) := by decide +kernel
theorem dX8_lay_60 : decode cX8_lay 60 = .ok (.istore 5, 2) := by decide +kernel
theorem dX8_lay_62 : decode cX8_lay 62 = .ok (.ldc2_w 101, 3) := by decide +kernel
theorem dX8_lay_65 : decode cX8_lay 65 = .ok (.aload_n 0, 1) := by decide +kernel
theorem dX8_lay_66 : decode cX8_lay 66 = .ok (.getfield 25, 3) := by decide +kernel
theorem dX8_lay_69 : decode cX8_lay 69 = .ok (.bipush 8, 2) := by decide +kernel
theorem dX8_lay_71 : decode cX8_lay 71 = .ok (.iload_n 1, 1) := by decide +kernel
theorem dX8_lay_72 : decode cX8_lay 72 = .ok (.imul, 1) := by decide +kernel
theorem dX8_lay_73 : decode cX8_lay 73 = .ok (.iload 4, 2) := by decide +kernel
theorem dX8_lay_75 : decode cX8_lay 75 = .ok (.iadd, 1) := by decide +kernel
theorem dX8_lay_76 : decode cX8_lay 76 = .ok (.iaload, 1) := by decide +kernel
theorem dX8_lay_77 : decode cX8_lay 77 = .ok (.i2l, 1) := by decide +kernel
theorem dX8_lay_78 : decode cX8_lay 78 = .ok (.lmul, 1) := by decide +kernel
theorem dX8_lay_79 : decode cX8_lay 79 = .ok (.lstore 6, 2) := by decide +kernel
theorem dX8_lay_81 : decode cX8_lay 81 = .ok (.iload_n 3, 1) := by decide +kernel
theorem dX8_lay_82 : decode cX8_lay 82 = .ok (.iconst 1, 1) := by decide +kernel
theorem dX8_lay_83 : decode cX8_lay 83 = .ok (.if_icmp .ne 12, 3) := by decide +kernel
theorem dX8_lay_86 : decode cX8_lay 86 = .ok (.lload 6, 2) := by decide +kernel
theorem dX8_lay_88 : decode cX8_lay 88 = .ok (.iload 5, 2) := by decide +kernel
theorem dX8_lay_90 : decode cX8_lay 90 = .ok (.i2l, 1) := by decide +kernel
theorem dX8_lay_91 : decode cX8_lay 91 = .ok (.ldiv, 1) := by decide +kernel
theorem dX8_lay_92 : decode cX8_lay 92 = .ok (.goto 25, 3) := by decide +kernel
theorem dX8_lay_95 : decode cX8_lay 95 = .ok (.iload_n 3, 1) := by decide +kernel
theorem dX8_lay_96 : decode cX8_lay 96 = .ok (.iconst 2, 1) := by decide +kernel
theorem dX8_lay_97 : decode cX8_lay 97 = .ok (.if_icmp .ne 18, 3) := by decide +kernel
theorem dX8_lay_100 : decode cX8_lay 100 = .ok (.ldc2_w 87, 3) := by decide +kernel
theorem dX8_lay_103 : decode cX8_lay 103 = .ok (.lload 6, 2) := by decide +kernel
theorem dX8_lay_105 : decode cX8_lay 105 = .ok (.lmul, 1) := by decide +kernel
theorem dX8_lay_106 : decode cX8_lay 106 = .ok (.iload 5, 2) := by decide +kernel
theorem dX8_lay_108 : decode cX8_lay 108 = .ok (.iconst 1, 1) := by decide +kernel
theorem dX8_lay_109 : decode cX8_lay 109 = .ok (.iadd, 1) := by decide +kernel
theorem dX8_lay_110 : decode cX8_lay 110 = .ok (.i2l, 1) := by decide +kernel
theorem dX8_lay_111 : decode cX8_lay 111 = .ok (.ldiv, 1) := by decide +kernel
theorem dX8_lay_112 : decode cX8_lay 112 = .ok (.goto 5, 3) := by decide +kernel
theorem dX8_lay_115 : decode cX8_lay 115 = .ok (.lload 6, 2) := by decide +kernel
theorem dX8_lay_117 : decode cX8_lay 117 = .ok (.lstore 6, 2) := by decide +kernel
theorem dX8_lay_119 : decode cX8_lay 119 = .ok (.iload 4, 2) := by decide +kernel
theorem dX8_lay_121 : decode cX8_lay 121 = .ok (.istore 8, 2) := by decide +kernel
theorem dX8_lay_123 : decode cX8_lay 123 = .ok (.iload 8, 2) := by decide +kernel
theorem dX8_lay_125 : decode cX8_lay 125 = .ok (.ifCond .le 81, 3) := by decide +kernel
theorem dX8_lay_128 : decode cX8_lay 128 = .ok (.aload_n 0, 1) := by decide +kernel
theorem dX8_lay_129 : decode cX8_lay 129 = .ok (.getfield 31, 3) := by decide +kernel
theorem dX8_lay_132 : decode cX8_lay 132 = .ok (.bipush 8, 2) := by decide +kernel
theorem dX8_lay_134 : decode cX8_lay 134 = .ok (.iload_n 1, 1) := by decide +kernel
theorem dX8_lay_135 : decode cX8_lay 135 = .ok (.imul, 1) := by decide +kernel
theorem dX8_lay_136 : decode cX8_lay 136 = .ok (.iload 8, 2) := by decide +kernel
theorem dX8_lay_138 : decode cX8_lay 138 = .ok (.iadd, 1) := by decide +kernel
theorem dX8_lay_139 : decode cX8_lay 139 = .ok (.iconst 1, 1) := by decide +kernel
theorem dX8_lay_140 : decode cX8_lay 140 = .ok (.isub, 1) := by decide +kernel
theorem dX8_lay_141 : decode cX8_lay 141 = .ok (.laload, 1) := by decide +kernel
theorem dX8_lay_142 : decode cX8_lay 142 = .ok (.lload 6, 2) := by decide +kernel
theorem dX8_lay_144 : decode cX8_lay 144 = .ok (.lcmp, 1) := by decide +kernel
theorem dX8_lay_145 : decode cX8_lay 145 = .ok (.ifCond .le 61, 3) := by decide +kernel
theorem dX8_lay_148 : decode cX8_lay 148 = .ok (.aload_n 0, 1) := by decide +kernel
theorem dX8_lay_149 : decode cX8_lay 149 = .ok (.getfield 31, 3) := by decide +kernel
theorem dX8_lay_152 : decode cX8_lay 152 = .ok (.bipush 8, 2) := by decide +kernel
theorem dX8_lay_154 : decode cX8_lay 154 = .ok (.iload_n 1, 1) := by decide +kernel
theorem dX8_lay_155 : decode cX8_lay 155 = .ok (.imul, 1) := by decide +kernel
theorem dX8_lay_156 : decode cX8_lay 156 = .ok (.iload 8, 2) := by decide +kernel
theorem dX8_lay_158 : decode cX8_lay 158 = .ok (.iadd, 1) := by decide +kernel
theorem dX8_lay_159 : decode cX8_lay 159 = .ok (.aload_n 0, 1) := by decide +kernel
theorem dX8_lay_160 : decode cX8_lay 160 = .ok (.getfield 31, 3) := by decide +kernel
theorem dX8_lay_163 : decode cX8_lay 163 = .ok (.bipush 8, 2) := by decide +kernel
theorem dX8_lay_165 : decode cX8_lay 165 = .ok (.iload_n 1, 1) := by decide +kernel
theorem dX8_lay_166 : decode cX8_lay 166 = .ok (.imul, 1) := by decide +kernel
theorem dX8_lay_167 : decode cX8_lay 167 = .ok (.iload 8, 2) := by decide +kernel
theorem dX8_lay_169 : decode cX8_lay 169 = .ok (.iadd, 1) := by decide +kernel
theorem dX8_lay_170 : decode cX8_lay 170 = .ok (.iconst 1, 1) := by decide +kernel
theorem dX8_lay_171 : decode cX8_lay 171 = .ok (.isub, 1) := by decide +kernel
theorem dX8_lay_172 : decode cX8_lay 172 = .ok (.laload, 1) := by decide +kernel
theorem dX8_lay_173 : decode cX8_lay 173 = .ok (.lastore, 1) := by decide +kernel
theorem dX8_lay_174 : decode cX8_lay 174 = .ok (.aload_n 0, 1) := by decide +kernel
theorem dX8_lay_175 : decode cX8_lay 175 = .ok (.getfield 28, 3) := by decide +kernel
theorem dX8_lay_178 : decode cX8_lay 178 = .ok (.bipush 8, 2) := by decide +kernel
theorem dX8_lay_180 : decode cX8_lay 180 = .ok (.iload_n 1, 1) := by decide +kernel
theorem dX8_lay_181 : decode cX8_lay 181 = .ok (.imul, 1) := by decide +kernel
theorem dX8_lay_182 : decode cX8_lay 182 = .ok (.iload 8, 2) := by decide +kernel
theorem dX8_lay_184 : decode cX8_lay 184 = .ok (.iadd, 1) := by decide +kernel
theorem dX8_lay_185 : decode cX8_lay 185 = .ok (.aload_n 0, 1) := by decide +kernel
theorem dX8_lay_186 : decode cX8_lay 186 = .ok (.getfield 28, 3) := by decide +kernel
theorem dX8_lay_189 : decode cX8_lay 189 = .ok (.bipush 8, 2) := by decide +kernel
theorem dX8_lay_191 : decode cX8_lay 191 = .ok (.iload_n 1, 1) := by decide +kernel
theorem dX8_lay_192 : decode cX8_lay 192 = .ok (.imul, 1) := by decide +kernel
theorem dX8_lay_193 : decode cX8_lay 193 = .ok (.iload 8, 2) := by decide +kernel
theorem dX8_lay_195 : decode cX8_lay 195 = .ok (.iadd, 1) := by decide +kernel
theorem dX8_lay_196 : decode cX8_lay 196 = .ok (.iconst 1, 1) := by decide +kernel
theorem dX8_lay_197 : decode cX8_lay 197 = .ok (.isub, 1) := by decide +kernel
theorem dX8_lay_198 : decode cX8_lay 198 = .ok (.iaload, 1) := by decide +kernel
theorem dX8_lay_199 : decode cX8_lay 199 = .ok (.iastore, 1) := by decide +kernel
theorem dX8_lay_200 : decode cX8_lay 200 = .ok (.iinc 8 (-1), 3) := by decide +kernel
theorem dX8_lay_203 : decode cX8_lay 203 = .ok (.goto (-80), 3) := by decide +kernel
theorem dX8_lay_206 : decode cX8_lay 206 = .ok (.aload_n 0, 1) := by decide +kernel
theorem dX8_lay_207 : decode cX8_lay 207 = .ok (.getfield 31, 3) := by decide +kernel
theorem dX8_lay_210 : decode cX8_lay 210 = .ok (.bipush 8, 2) := by decide +kernel
theorem dX8_lay_212 : decode cX8_lay 212 = .ok (.iload_n 1, 1) := by decide +kernel
theorem dX8_lay_213 : decode cX8_lay 213 = .ok (.imul, 1) := by decide +kernel
theorem dX8_lay_214 : decode cX8_lay 214 = .ok (.iload 8, 2) := by decide +kernel
theorem dX8_lay_216 : decode cX8_lay 216 = .ok (.iadd, 1) := by decide +kernel
theorem dX8_lay_217 : decode cX8_lay 217 = .ok (.lload 6, 2) := by decide +kernel
theorem dX8_lay_219 : decode cX8_lay 219 = .ok (.lastore, 1) := by decide +kernel
theorem dX8_lay_220 : decode cX8_lay 220 = .ok (.aload_n 0, 1) := by decide +kernel
theorem dX8_lay_221 : decode cX8_lay 221 = .ok (.getfield 28, 3) := by decide +kernel
theorem dX8_lay_224 : decode cX8_lay 224 = .ok (.bipush 8, 2) := by decide +kernel
theorem dX8_lay_226 : decode cX8_lay 226 = .ok (.iload_n 1, 1) := by decide +kernel
theorem dX8_lay_227 : decode cX8_lay 227 = .ok (.imul, 1) := by decide +kernel
theorem dX8_lay_228 : decode cX8_lay 228 = .ok (.iload 8, 2) := by decide +kernel
theorem dX8_lay_230 : decode cX8_lay 230 = .ok (.iadd, 1) := by decide +kernel
theorem dX8_lay_231 : decode cX8_lay 231 = .ok (.iload 5, 2) := by decide +kernel
theorem dX8_lay_233 : decode cX8_lay 233 = .ok (.iastore, 1) := by decide +kernel
theorem dX8_lay_234 : decode cX8_lay 234 = .ok (.aload_n 0, 1) := by decide +kernel
theorem dX8_lay_235 : decode cX8_lay 235 = .ok (.getfield 38, 3) := by decide +kernel
theorem dX8_lay_238 : decode cX8_lay 238 = .ok (.iload_n 1, 1) := by decide +kernel
theorem dX8_lay_239 : decode cX8_lay 239 = .ok (.dup2, 1) := by decide +kernel
theorem dX8_lay_240 : decode cX8_lay 240 = .ok (.iaload, 1) := by decide +kernel
theorem dX8_lay_241 : decode cX8_lay 241 = .ok (.iload 5, 2) := by decide +kernel
theorem dX8_lay_243 : decode cX8_lay 243 = .ok (.iadd, 1) := by decide +kernel
theorem dX8_lay_244 : decode cX8_lay 244 = .ok (.iastore, 1) := by decide +kernel
theorem dX8_lay_245 : decode cX8_lay 245 = .ok (.aload_n 0, 1) := by decide +kernel
theorem dX8_lay_246 : decode cX8_lay 246 = .ok (.getfield 41, 3) := by decide +kernel
theorem dX8_lay_249 : decode cX8_lay 249 = .ok (.iload_n 1, 1) := by decide +kernel
theorem dX8_lay_250 : decode cX8_lay 250 = .ok (.dup2, 1) := by decide +kernel
theorem dX8_lay_251 : decode cX8_lay 251 = .ok (.laload, 1) := by decide +kernel
theorem dX8_lay_252 : decode cX8_lay 252 = .ok (.iload 5, 2) := by decide +kernel
theorem dX8_lay_254 : decode cX8_lay 254 = .ok (.i2l, 1) := by decide +kernel
theorem dX8_lay_255 : decode cX8_lay 255 = .ok (.lload 6, 2) := by decide +kernel
theorem dX8_lay_257 : decode cX8_lay 257 = .ok (.lmul, 1) := by decide +kernel
theorem dX8_lay_258 : decode cX8_lay 258 = .ok (.ladd, 1) := by decide +kernel
theorem dX8_lay_259 : decode cX8_lay 259 = .ok (.lastore, 1) := by decide +kernel
theorem dX8_lay_260 : decode cX8_lay 260 = .ok (.iinc 4 1, 3) := by decide +kernel
theorem dX8_lay_263 : decode cX8_lay 263 = .ok (.goto (-234), 3) := by decide +kernel
theorem dX8_lay_266 : decode cX8_lay 266 = .ok (.iconst 0, 1) := by decide +kernel
theorem dX8_lay_267 : decode cX8_lay 267 = .ok (.istore 4, 2) := by decide +kernel
theorem dX8_lay_269 : decode cX8_lay 269 = .ok (.iload 4, 2) := by decide +kernel
theorem dX8_lay_271 : decode cX8_lay 271 = .ok (.aload_n 0, 1) := by decide +kernel
theorem dX8_lay_272 : decode cX8_lay 272 = .ok (.getfield 7, 3) := by decide +kernel
theorem dX8_lay_275 : decode cX8_lay 275 = .ok (.iload_n 2, 1) := by decide +kernel
theorem dX8_lay_276 : decode cX8_lay 276 = .ok (.iaload, 1) := by decide +kernel
theorem dX8_lay_277 : decode cX8_lay 277 = .ok (.if_icmp .ge 35, 3) := by decide +kernel
theorem dX8_lay_280 : decode cX8_lay 280 = .ok (.aload_n 0, 1) := by decide +kernel
theorem dX8_lay_281 : decode cX8_lay 281 = .ok (.getfield 41, 3) := by decide +kernel
theorem dX8_lay_284 : decode cX8_lay 284 = .ok (.iload_n 1, 1) := by decide +kernel
theorem dX8_lay_285 : decode cX8_lay 285 = .ok (.laload, 1) := by decide +kernel
theorem dX8_lay_286 : decode cX8_lay 286 = .ok (.lconst 0, 1) := by decide +kernel
theorem dX8_lay_287 : decode cX8_lay 287 = .ok (.lcmp, 1) := by decide +kernel
theorem dX8_lay_288 : decode cX8_lay 288 = .ok (.ifCond .ne 24, 3) := by decide +kernel
theorem dX8_lay_291 : decode cX8_lay 291 = .ok (.aload_n 0, 1) := by decide +kernel
theorem dX8_lay_292 : decode cX8_lay 292 = .ok (.getfield 31, 3) := by decide +kernel
theorem dX8_lay_295 : decode cX8_lay 295 = .ok (.bipush 8, 2) := by decide +kernel
theorem dX8_lay_297 : decode cX8_lay 297 = .ok (.iload_n 1, 1) := by decide +kernel
theorem dX8_lay_298 : decode cX8_lay 298 = .ok (.imul, 1) := by decide +kernel
theorem dX8_lay_299 : decode cX8_lay 299 = .ok (.iload 4, 2) := by decide +kernel
theorem dX8_lay_301 : decode cX8_lay 301 = .ok (.iadd, 1) := by decide +kernel
theorem dX8_lay_302 : decode cX8_lay 302 = .ok (.ldc2_w 101, 3) := by decide +kernel
theorem dX8_lay_305 : decode cX8_lay 305 = .ok (.lastore, 1) := by decide +kernel
theorem dX8_lay_306 : decode cX8_lay 306 = .ok (.iinc 4 1, 3) := by decide +kernel
theorem dX8_lay_309 : decode cX8_lay 309 = .ok (.goto (-40), 3) := by decide +kernel
theorem dX8_lay_312 : decode cX8_lay 312 = .ok (.return_, 1) := by decide +kernel
theorem dX8_fromBelow_0 : decode cX8_fromBelow 0 = .ok (.aload_n 0, 1) := by decide +kernel
theorem dX8_fromBelow_1 : decode cX8_fromBelow 1 = .ok (.getfield 38, 3) := by decide +kernel
theorem dX8_fromBelow_4 : decode cX8_fromBelow 4 = .ok (.iload_n 1, 1) := by decide +kernel
theorem dX8_fromBelow_5 : decode cX8_fromBelow 5 = .ok (.iaload, 1) := by decide +kernel
theorem dX8_fromBelow_6 : decode cX8_fromBelow 6 = .ok (.i2l, 1) := by decide +kernel
theorem dX8_fromBelow_7 : decode cX8_fromBelow 7 = .ok (.iload_n 2, 1) := by decide +kernel
theorem dX8_fromBelow_8 : decode cX8_fromBelow 8 = .ok (.i2l, 1) := by decide +kernel
theorem dX8_fromBelow_9 : decode cX8_fromBelow 9 = .ok (.lmul, 1) := by decide +kernel
theorem dX8_fromBelow_10 : decode cX8_fromBelow 10 = .ok (.lstore 4, 2) := by decide +kernel
theorem dX8_fromBelow_12 : decode cX8_fromBelow 12 = .ok (.lconst 0, 1) := by decide +kernel
theorem dX8_fromBelow_13 : decode cX8_fromBelow 13 = .ok (.lstore 6, 2) := by decide +kernel
theorem dX8_fromBelow_15 : decode cX8_fromBelow 15 = .ok (.bipush 8, 2) := by decide +kernel
theorem dX8_fromBelow_17 : decode cX8_fromBelow 17 = .ok (.iload_n 1, 1) := by decide +kernel
theorem dX8_fromBelow_18 : decode cX8_fromBelow 18 = .ok (.imul, 1) := by decide +kernel
theorem dX8_fromBelow_19 : decode cX8_fromBelow 19 = .ok (.istore 8, 2) := by decide +kernel
theorem dX8_fromBelow_21 : decode cX8_fromBelow 21 = .ok (.iload 8, 2) := by decide +kernel
theorem dX8_fromBelow_23 : decode cX8_fromBelow 23 = .ok (.bipush 8, 2) := by decide +kernel
theorem dX8_fromBelow_25 : decode cX8_fromBelow 25 = .ok (.iload_n 1, 1) := by decide +kernel
theorem dX8_fromBelow_26 : decode cX8_fromBelow 26 = .ok (.imul, 1) := by decide +kernel
theorem dX8_fromBelow_27 : decode cX8_fromBelow 27 = .ok (.aload_n 0, 1) := by decide +kernel
theorem dX8_fromBelow_28 : decode cX8_fromBelow 28 = .ok (.getfield 35, 3) := by decide +kernel
theorem dX8_fromBelow_31 : decode cX8_fromBelow 31 = .ok (.iload_n 1, 1) := by decide +kernel
theorem dX8_fromBelow_32 : decode cX8_fromBelow 32 = .ok (.iaload, 1) := by decide +kernel
theorem dX8_fromBelow_33 : decode cX8_fromBelow 33 = .ok (.iadd, 1) := by decide +kernel
theorem dX8_fromBelow_34 : decode cX8_fromBelow 34 = .ok (.if_icmp .ge 73, 3) := by decide +kernel
theorem dX8_fromBelow_37 : decode cX8_fromBelow 37 = .ok (.lload 4, 2) := by decide +kernel
theorem dX8_fromBelow_39 : decode cX8_fromBelow 39 = .ok (.lconst 0, 1) := by decide +kernel
theorem dX8_fromBelow_40 : decode cX8_fromBelow 40 = .ok (.lcmp, 1) := by decide +kernel
theorem dX8_fromBelow_41 : decode cX8_fromBelow 41 = .ok (.ifCond .le 66, 3) := by decide +kernel
theorem dX8_fromBelow_44 : decode cX8_fromBelow 44 = .ok (.aload_n 0, 1) := by decide +kernel
theorem dX8_fromBelow_45 : decode cX8_fromBelow 45 = .ok (.getfield 28, 3) := by decide +kernel
theorem dX8_fromBelow_48 : decode cX8_fromBelow 48 = .ok (.iload 8, 2) := by decide +kernel
theorem dX8_fromBelow_50 : decode cX8_fromBelow 50 = .ok (.iaload, 1) := by decide +kernel
theorem dX8_fromBelow_51 : decode cX8_fromBelow 51 = .ok (.i2l, 1) := by decide +kernel
theorem dX8_fromBelow_52 : decode cX8_fromBelow 52 = .ok (.iload_n 3, 1) := by decide +kernel
theorem dX8_fromBelow_53 : decode cX8_fromBelow 53 = .ok (.i2l, 1) := by decide +kernel
theorem dX8_fromBelow_54 : decode cX8_fromBelow 54 = .ok (.lmul, 1) := by decide +kernel
theorem dX8_fromBelow_55 : decode cX8_fromBelow 55 = .ok (.lload 4, 2) := by decide +kernel
theorem dX8_fromBelow_57 : decode cX8_fromBelow 57 = .ok (.lcmp, 1) := by decide +kernel
theorem dX8_fromBelow_58 : decode cX8_fromBelow 58 = .ok (.ifCond .ge 17, 3) := by decide +kernel
theorem dX8_fromBelow_61 : decode cX8_fromBelow 61 = .ok (.aload_n 0, 1) := by decide +kernel
theorem dX8_fromBelow_62 : decode cX8_fromBelow 62 = .ok (.getfield 28, 3) := by decide +kernel
theorem dX8_fromBelow_65 : decode cX8_fromBelow 65 = .ok (.iload 8, 2) := by decide +kernel
theorem dX8_fromBelow_67 : decode cX8_fromBelow 67 = .ok (.iaload, 1) := by decide +kernel
theorem dX8_fromBelow_68 : decode cX8_fromBelow 68 = .ok (.i2l, 1) := by decide +kernel
theorem dX8_fromBelow_69 : decode cX8_fromBelow 69 = .ok (.iload_n 3, 1) := by decide +kernel
theorem dX8_fromBelow_70 : decode cX8_fromBelow 70 = .ok (.i2l, 1) := by decide +kernel
theorem dX8_fromBelow_71 : decode cX8_fromBelow 71 = .ok (.lmul, 1) := by decide +kernel
theorem dX8_fromBelow_72 : decode cX8_fromBelow 72 = .ok (.goto 5, 3) := by decide +kernel
theorem dX8_fromBelow_75 : decode cX8_fromBelow 75 = .ok (.lload 4, 2) := by decide +kernel
theorem dX8_fromBelow_77 : decode cX8_fromBelow 77 = .ok (.lstore 9, 2) := by decide +kernel
theorem dX8_fromBelow_79 : decode cX8_fromBelow 79 = .ok (.lload 6, 2) := by decide +kernel
theorem dX8_fromBelow_81 : decode cX8_fromBelow 81 = .ok (.lload 9, 2) := by decide +kernel
theorem dX8_fromBelow_83 : decode cX8_fromBelow 83 = .ok (.aload_n 0, 1) := by decide +kernel
theorem dX8_fromBelow_84 : decode cX8_fromBelow 84 = .ok (.getfield 31, 3) := by decide +kernel
theorem dX8_fromBelow_87 : decode cX8_fromBelow 87 = .ok (.iload 8, 2) := by decide +kernel
theorem dX8_fromBelow_89 : decode cX8_fromBelow 89 = .ok (.laload, 1) := by decide +kernel
theorem dX8_fromBelow_90 : decode cX8_fromBelow 90 = .ok (.lmul, 1) := by decide +kernel
theorem dX8_fromBelow_91 : decode cX8_fromBelow 91 = .ok (.ladd, 1) := by decide +kernel
theorem dX8_fromBelow_92 : decode cX8_fromBelow 92 = .ok (.lstore 6, 2) := by decide +kernel
theorem dX8_fromBelow_94 : decode cX8_fromBelow 94 = .ok (.lload 4, 2) := by decide +kernel
theorem dX8_fromBelow_96 : decode cX8_fromBelow 96 = .ok (.lload 9, 2) := by decide +kernel
theorem dX8_fromBelow_98 : decode cX8_fromBelow 98 = .ok (.lsub, 1) := by decide +kernel
theorem dX8_fromBelow_99 : decode cX8_fromBelow 99 = .ok (.lstore 4, 2) := by decide +kernel
theorem dX8_fromBelow_101 : decode cX8_fromBelow 101 = .ok (.iinc 8 1, 3) := by decide +kernel
theorem dX8_fromBelow_104 : decode cX8_fromBelow 104 = .ok (.goto (-83), 3) := by decide +kernel
theorem dX8_fromBelow_107 : decode cX8_fromBelow 107 = .ok (.lload 6, 2) := by decide +kernel
theorem dX8_fromBelow_109 : decode cX8_fromBelow 109 = .ok (.lreturn, 1) := by decide +kernel
theorem dX8_by_0 : decode cX8_by 0 = .ok (.iload_n 2, 1) := by decide +kernel
theorem dX8_by_1 : decode cX8_by 1 = .ok (.iconst 1, 1) := by decide +kernel
theorem dX8_by_2 : decode cX8_by 2 = .ok (.if_icmp .ne 17, 3) := by decide +kernel
theorem dX8_by_5 : decode cX8_by 5 = .ok (.ldc2_w 101, 3) := by decide +kernel
theorem dX8_by_8 : decode cX8_by 8 = .ok (.aload_n 0, 1) := by decide +kernel
theorem dX8_by_9 : decode cX8_by 9 = .ok (.getfield 38, 3) := by decide +kernel
theorem dX8_by_12 : decode cX8_by 12 = .ok (.iload_n 1, 1) := by decide +kernel
theorem dX8_by_13 : decode cX8_by 13 = .ok (.iaload, 1) := by decide +kernel
theorem dX8_by_14 : decode cX8_by 14 = .ok (.i2l, 1) := by decide +kernel
theorem dX8_by_15 : decode cX8_by 15 = .ok (.lmul, 1) := by decide +kernel
theorem dX8_by_16 : decode cX8_by 16 = .ok (.goto 34, 3) := by decide +kernel
theorem dX8_by_19 : decode cX8_by 19 = .ok (.aload_n 0, 1) := by decide +kernel
theorem dX8_by_20 : decode cX8_by 20 = .ok (.getfield 41, 3) := by decide +kernel
theorem dX8_by_23 : decode cX8_by 23 = .ok (.iload_n 1, 1) := by decide +kernel
theorem dX8_by_24 : decode cX8_by 24 = .ok (.laload, 1) := by decide +kernel
theorem dX8_by_25 : decode cX8_by 25 = .ok (.lconst 0, 1) := by decide +kernel
theorem dX8_by_26 : decode cX8_by 26 = .ok (.lcmp, 1) := by decide +kernel
theorem dX8_by_27 : decode cX8_by 27 = .ok (.ifCond .le 12, 3) := by decide +kernel
theorem dX8_by_30 : decode cX8_by 30 = .ok (.aload_n 0, 1) := by decide +kernel
theorem dX8_by_31 : decode cX8_by 31 = .ok (.getfield 41, 3) := by decide +kernel
theorem dX8_by_34 : decode cX8_by 34 = .ok (.iload_n 1, 1) := by decide +kernel
theorem dX8_by_35 : decode cX8_by 35 = .ok (.laload, 1) := by decide +kernel
theorem dX8_by_36 : decode cX8_by 36 = .ok (.goto 14, 3) := by decide +kernel
theorem dX8_by_39 : decode cX8_by 39 = .ok (.ldc2_w 101, 3) := by decide +kernel
theorem dX8_by_42 : decode cX8_by 42 = .ok (.aload_n 0, 1) := by decide +kernel
theorem dX8_by_43 : decode cX8_by 43 = .ok (.getfield 38, 3) := by decide +kernel
theorem dX8_by_46 : decode cX8_by 46 = .ok (.iload_n 1, 1) := by decide +kernel
theorem dX8_by_47 : decode cX8_by 47 = .ok (.iaload, 1) := by decide +kernel
theorem dX8_by_48 : decode cX8_by 48 = .ok (.i2l, 1) := by decide +kernel
theorem dX8_by_49 : decode cX8_by 49 = .ok (.lmul, 1) := by decide +kernel
theorem dX8_by_50 : decode cX8_by 50 = .ok (.lreturn, 1) := by decide +kernel
theorem dX8_addBreak_0 : decode cX8_addBreak 0 = .ok (.aload_n 0, 1) := by decide +kernel
theorem dX8_addBreak_1 : decode cX8_addBreak 1 = .ok (.getfield 103, 3) := by decide +kernel
theorem dX8_addBreak_4 : decode cX8_addBreak 4 = .ok (.istore_n 3, 1) := by decide +kernel
theorem dX8_addBreak_5 : decode cX8_addBreak 5 = .ok (.iload_n 3, 1) := by decide +kernel
theorem dX8_addBreak_6 : decode cX8_addBreak 6 = .ok (.ifCond .le 60, 3) := by decide +kernel
theorem dX8_addBreak_9 : decode cX8_addBreak 9 = .ok (.aload_n 0, 1) := by decide +kernel
theorem dX8_addBreak_10 : decode cX8_addBreak 10 = .ok (.getfield 44, 3) := by decide +kernel
theorem dX8_addBreak_13 : decode cX8_addBreak 13 = .ok (.iload_n 3, 1) := by decide +kernel
theorem dX8_addBreak_14 : decode cX8_addBreak 14 = .ok (.iconst 1, 1) := by decide +kernel
theorem dX8_addBreak_15 : decode cX8_addBreak 15 = .ok (.isub, 1) := by decide +kernel
theorem dX8_addBreak_16 : decode cX8_addBreak 16 = .ok (.iaload, 1) := by decide +kernel
theorem dX8_addBreak_17 : decode cX8_addBreak 17 = .ok (.iload_n 2, 1) := by decide +kernel
theorem dX8_addBreak_18 : decode cX8_addBreak 18 = .ok (.imul, 1) := by decide +kernel
theorem dX8_addBreak_19 : decode cX8_addBreak 19 = .ok (.iload_n 1, 1) := by decide +kernel
theorem dX8_addBreak_20 : decode cX8_addBreak 20 = .ok (.aload_n 0, 1) := by decide +kernel
theorem dX8_addBreak_21 : decode cX8_addBreak 21 = .ok (.getfield 47, 3) := by decide +kernel
theorem dX8_addBreak_24 : decode cX8_addBreak 24 = .ok (.iload_n 3, 1) := by decide +kernel
theorem dX8_addBreak_25 : decode cX8_addBreak 25 = .ok (.iconst 1, 1) := by decide +kernel
theorem dX8_addBreak_26 : decode cX8_addBreak 26 = .ok (.isub, 1) := by decide +kernel
theorem dX8_addBreak_27 : decode cX8_addBreak 27 = .ok (.iaload, 1) := by decide +kernel
theorem dX8_addBreak_28 : decode cX8_addBreak 28 = .ok (.imul, 1) := by decide +kernel
theorem dX8_addBreak_29 : decode cX8_addBreak 29 = .ok (.if_icmp .le 37, 3) := by decide +kernel
theorem dX8_addBreak_32 : decode cX8_addBreak 32 = .ok (.aload_n 0, 1) := by decide +kernel
theorem dX8_addBreak_33 : decode cX8_addBreak 33 = .ok (.getfield 44, 3) := by decide +kernel
theorem dX8_addBreak_36 : decode cX8_addBreak 36 = .ok (.iload_n 3, 1) := by decide +kernel
theorem dX8_addBreak_37 : decode cX8_addBreak 37 = .ok (.aload_n 0, 1) := by decide +kernel
theorem dX8_addBreak_38 : decode cX8_addBreak 38 = .ok (.getfield 44, 3) := by decide +kernel
theorem dX8_addBreak_41 : decode cX8_addBreak 41 = .ok (.iload_n 3, 1) := by decide +kernel
theorem dX8_addBreak_42 : decode cX8_addBreak 42 = .ok (.iconst 1, 1) := by decide +kernel
theorem dX8_addBreak_43 : decode cX8_addBreak 43 = .ok (.isub, 1) := by decide +kernel
theorem dX8_addBreak_44 : decode cX8_addBreak 44 = .ok (.iaload, 1) := by decide +kernel
theorem dX8_addBreak_45 : decode cX8_addBreak 45 = .ok (.iastore, 1) := by decide +kernel
theorem dX8_addBreak_46 : decode cX8_addBreak 46 = .ok (.aload_n 0, 1) := by decide +kernel
theorem dX8_addBreak_47 : decode cX8_addBreak 47 = .ok (.getfield 47, 3) := by decide +kernel
theorem dX8_addBreak_50 : decode cX8_addBreak 50 = .ok (.iload_n 3, 1) := by decide +kernel
theorem dX8_addBreak_51 : decode cX8_addBreak 51 = .ok (.aload_n 0, 1) := by decide +kernel
theorem dX8_addBreak_52 : decode cX8_addBreak 52 = .ok (.getfield 47, 3) := by decide +kernel
theorem dX8_addBreak_55 : decode cX8_addBreak 55 = .ok (.iload_n 3, 1) := by decide +kernel
theorem dX8_addBreak_56 : decode cX8_addBreak 56 = .ok (.iconst 1, 1) := by decide +kernel
theorem dX8_addBreak_57 : decode cX8_addBreak 57 = .ok (.isub, 1) := by decide +kernel
theorem dX8_addBreak_58 : decode cX8_addBreak 58 = .ok (.iaload, 1) := by decide +kernel
theorem dX8_addBreak_59 : decode cX8_addBreak 59 = .ok (.iastore, 1) := by decide +kernel
theorem dX8_addBreak_60 : decode cX8_addBreak 60 = .ok (.iinc 3 (-1), 3) := by decide +kernel
theorem dX8_addBreak_63 : decode cX8_addBreak 63 = .ok (.goto (-58), 3) := by decide +kernel
theorem dX8_addBreak_66 : decode cX8_addBreak 66 = .ok (.aload_n 0, 1) := by decide +kernel
theorem dX8_addBreak_67 : decode cX8_addBreak 67 = .ok (.getfield 44, 3) := by decide +kernel
theorem dX8_addBreak_70 : decode cX8_addBreak 70 = .ok (.iload_n 3, 1) := by decide +kernel
theorem dX8_addBreak_71 : decode cX8_addBreak 71 = .ok (.iload_n 1, 1) := by decide +kernel
theorem dX8_addBreak_72 : decode cX8_addBreak 72 = .ok (.iastore, 1) := by decide +kernel
theorem dX8_addBreak_73 : decode cX8_addBreak 73 = .ok (.aload_n 0, 1) := by decide +kernel
theorem dX8_addBreak_74 : decode cX8_addBreak 74 = .ok (.getfield 47, 3) := by decide +kernel
theorem dX8_addBreak_77 : decode cX8_addBreak 77 = .ok (.iload_n 3, 1) := by decide +kernel
theorem dX8_addBreak_78 : decode cX8_addBreak 78 = .ok (.iload_n 2, 1) := by decide +kernel
theorem dX8_addBreak_79 : decode cX8_addBreak 79 = .ok (.iastore, 1) := by decide +kernel
theorem dX8_addBreak_80 : decode cX8_addBreak 80 = .ok (.aload_n 0, 1) := by decide +kernel
theorem dX8_addBreak_81 : decode cX8_addBreak 81 = .ok (.dup, 1) := by decide +kernel
theorem dX8_addBreak_82 : decode cX8_addBreak 82 = .ok (.getfield 103, 3) := by decide +kernel
theorem dX8_addBreak_85 : decode cX8_addBreak 85 = .ok (.iconst 1, 1) := by decide +kernel
theorem dX8_addBreak_86 : decode cX8_addBreak 86 = .ok (.iadd, 1) := by decide +kernel
theorem dX8_addBreak_87 : decode cX8_addBreak 87 = .ok (.putfield 103, 3) := by decide +kernel
theorem dX8_addBreak_90 : decode cX8_addBreak 90 = .ok (.return_, 1) := by decide +kernel
theorem dX8_layBreaks_0 : decode cX8_layBreaks 0 = .ok (.aload_n 0, 1) := by decide +kernel
theorem dX8_layBreaks_1 : decode cX8_layBreaks 1 = .ok (.iconst 0, 1) := by decide +kernel
theorem dX8_layBreaks_2 : decode cX8_layBreaks 2 = .ok (.putfield 103, 3) := by decide +kernel
theorem dX8_layBreaks_5 : decode cX8_layBreaks 5 = .ok (.iconst 0, 1) := by decide +kernel
theorem dX8_layBreaks_6 : decode cX8_layBreaks 6 = .ok (.istore_n 1, 1) := by decide +kernel
theorem dX8_layBreaks_7 : decode cX8_layBreaks 7 = .ok (.iload_n 1, 1) := by decide +kernel
theorem dX8_layBreaks_8 : decode cX8_layBreaks 8 = .ok (.iconst 2, 1) := by decide +kernel
theorem dX8_layBreaks_9 : decode cX8_layBreaks 9 = .ok (.if_icmp .ge 57, 3) := by decide +kernel
theorem dX8_layBreaks_12 : decode cX8_layBreaks 12 = .ok (.iconst 0, 1) := by decide +kernel
theorem dX8_layBreaks_13 : decode cX8_layBreaks 13 = .ok (.istore_n 2, 1) := by decide +kernel
theorem dX8_layBreaks_14 : decode cX8_layBreaks 14 = .ok (.bipush 8, 2) := by decide +kernel
theorem dX8_layBreaks_16 : decode cX8_layBreaks 16 = .ok (.iload_n 1, 1) := by decide +kernel
theorem dX8_layBreaks_17 : decode cX8_layBreaks 17 = .ok (.imul, 1) := by decide +kernel
theorem dX8_layBreaks_18 : decode cX8_layBreaks 18 = .ok (.istore_n 3, 1) := by decide +kernel
theorem dX8_layBreaks_19 : decode cX8_layBreaks 19 = .ok (.iload_n 3, 1) := by decide +kernel
theorem dX8_layBreaks_20 : decode cX8_layBreaks 20 = .ok (.bipush 8, 2) := by decide +kernel
theorem dX8_layBreaks_22 : decode cX8_layBreaks 22 = .ok (.iload_n 1, 1) := by decide +kernel
theorem dX8_layBreaks_23 : decode cX8_layBreaks 23 = .ok (.imul, 1) := by decide +kernel
theorem dX8_layBreaks_24 : decode cX8_layBreaks 24 = .ok (.aload_n 0, 1) := by decide +kernel
theorem dX8_layBreaks_25 : decode cX8_layBreaks 25 = .ok (.getfield 35, 3) := by decide +kernel
theorem dX8_layBreaks_28 : decode cX8_layBreaks 28 = .ok (.iload_n 1, 1) := by decide +kernel
theorem dX8_layBreaks_29 : decode cX8_layBreaks 29 = .ok (.iaload, 1) := by decide +kernel
theorem dX8_layBreaks_30 : decode cX8_layBreaks 30 = .ok (.iadd, 1) := by decide +kernel
theorem dX8_layBreaks_31 : decode cX8_layBreaks 31 = .ok (.if_icmp .ge 29, 3) := by decide +kernel
theorem dX8_layBreaks_34 : decode cX8_layBreaks 34 = .ok (.iload_n 2, 1) := by decide +kernel
theorem dX8_layBreaks_35 : decode cX8_layBreaks 35 = .ok (.aload_n 0, 1) := by decide +kernel
theorem dX8_layBreaks_36 : decode cX8_layBreaks 36 = .ok (.getfield 28, 3) := by decide +kernel
theorem dX8_layBreaks_39 : decode cX8_layBreaks 39 = .ok (.iload_n 3, 1) := by decide +kernel
theorem dX8_layBreaks_40 : decode cX8_layBreaks 40 = .ok (.iaload, 1) := by decide +kernel
theorem dX8_layBreaks_41 : decode cX8_layBreaks 41 = .ok (.iadd, 1) := by decide +kernel
theorem dX8_layBreaks_42 : decode cX8_layBreaks 42 = .ok (.istore_n 2, 1) := by decide +kernel
theorem dX8_layBreaks_43 : decode cX8_layBreaks 43 = .ok (.aload_n 0, 1) := by decide +kernel
theorem dX8_layBreaks_44 : decode cX8_layBreaks 44 = .ok (.iload_n 2, 1) := by decide +kernel
theorem dX8_layBreaks_45 : decode cX8_layBreaks 45 = .ok (.aload_n 0, 1) := by decide +kernel
theorem dX8_layBreaks_46 : decode cX8_layBreaks 46 = .ok (.getfield 38, 3) := by decide +kernel
theorem dX8_layBreaks_49 : decode cX8_layBreaks 49 = .ok (.iload_n 1, 1) := by decide +kernel
theorem dX8_layBreaks_50 : decode cX8_layBreaks 50 = .ok (.iaload, 1) := by decide +kernel
theorem dX8_layBreaks_51 : decode cX8_layBreaks 51 = .ok (.invokevirtual 107, 3) := by decide +kernel
theorem dX8_layBreaks_54 : decode cX8_layBreaks 54 = .ok (.iinc 3 1, 3) := by decide +kernel
theorem dX8_layBreaks_57 : decode cX8_layBreaks 57 = .ok (.goto (-38), 3) := by decide +kernel
theorem dX8_layBreaks_60 : decode cX8_layBreaks 60 = .ok (.iinc 1 1, 3) := by decide +kernel
theorem dX8_layBreaks_63 : decode cX8_layBreaks 63 = .ok (.goto (-56), 3) := by decide +kernel
theorem dX8_layBreaks_66 : decode cX8_layBreaks 66 = .ok (.return_, 1) := by decide +kernel
theorem dX8_sign_0 : decode cX8_sign 0 = .ok (.aload_n 0, 1) := by decide +kernel
theorem dX8_sign_1 : decode cX8_sign 1 = .ok (.iconst 0, 1) := by decide +kernel
theorem dX8_sign_2 : decode cX8_sign 2 = .ok (.aload_n 0, 1) := by decide +kernel
theorem dX8_sign_3 : decode cX8_sign 3 = .ok (.getfield 44, 3) := by decide +kernel
theorem dX8_sign_6 : decode cX8_sign 6 = .ok (.iload_n 1, 1) := by decide +kernel
theorem dX8_sign_7 : decode cX8_sign 7 = .ok (.iaload, 1) := by decide +kernel
theorem dX8_sign_8 : decode cX8_sign 8 = .ok (.aload_n 0, 1) := by decide +kernel
theorem dX8_sign_9 : decode cX8_sign 9 = .ok (.getfield 47, 3) := by decide +kernel
theorem dX8_sign_12 : decode cX8_sign 12 = .ok (.iload_n 1, 1) := by decide +kernel
theorem dX8_sign_13 : decode cX8_sign 13 = .ok (.iaload, 1) := by decide +kernel
theorem dX8_sign_14 : decode cX8_sign 14 = .ok (.invokevirtual 111, 3) := by decide +kernel
theorem dX8_sign_17 : decode cX8_sign 17 = .ok (.aload_n 0, 1) := by decide +kernel
theorem dX8_sign_18 : decode cX8_sign 18 = .ok (.iconst 1, 1) := by decide +kernel
