theorem dX7_edge_26 : decode cX7_edge 26 = .ok (.iload_n 3, 1) := by decide +kernel
theorem dX7_edge_27 : decode cX7_edge 27 = .ok (.iconst 0, 1) := by decide +kernel
theorem dX7_edge_28 : decode cX7_edge 28 = .ok (.bipush 100, 2) := by decide +kernel
theorem dX7_edge_30 : decode cX7_edge 30 = .ok (.invokestatic 55, 3) := by decide +kernel
theorem dX7_edge_33 : decode cX7_edge 33 = .ok (.ifCond .eq 11, 3) := by decide +kernel
theorem dX7_edge_36 : decode cX7_edge 36 = .ok (.iload 4, 2) := by decide +kernel
theorem dX7_edge_38 : decode cX7_edge 38 = .ok (.invokestatic 98, 3) := by decide +kernel
theorem dX7_edge_41 : decode cX7_edge 41 = .ok (.ifCond .ne 6, 3) := by decide +kernel
theorem dX7_edge_44 : decode cX7_edge 44 = .ok (.bipush (-2), 2) := by decide +kernel
theorem dX7_edge_46 : decode cX7_edge 46 = .ok (.ireturn, 1) := by decide +kernel
theorem dX7_edge_47 : decode cX7_edge 47 = .ok (.aload 5, 2) := by decide +kernel
theorem dX7_edge_49 : decode cX7_edge 49 = .ok (.invokevirtual 101, 3) := by decide +kernel
theorem dX7_edge_52 : decode cX7_edge 52 = .ok (.ifCond .eq 11, 3) := by decide +kernel
theorem dX7_edge_55 : decode cX7_edge 55 = .ok (.aload 6, 2) := by decide +kernel
theorem dX7_edge_57 : decode cX7_edge 57 = .ok (.invokevirtual 101, 3) := by decide +kernel
theorem dX7_edge_60 : decode cX7_edge 60 = .ok (.ifCond .ne 6, 3) := by decide +kernel
theorem dX7_edge_63 : decode cX7_edge 63 = .ok (.bipush (-3), 2) := by decide +kernel
theorem dX7_edge_65 : decode cX7_edge 65 = .ok (.ireturn, 1) := by decide +kernel
theorem dX7_edge_66 : decode cX7_edge 66 = .ok (.iconst 0, 1) := by decide +kernel
theorem dX7_edge_67 : decode cX7_edge 67 = .ok (.istore 7, 2) := by decide +kernel
theorem dX7_edge_69 : decode cX7_edge 69 = .ok (.iload 7, 2) := by decide +kernel
theorem dX7_edge_71 : decode cX7_edge 71 = .ok (.iload_n 3, 1) := by decide +kernel
theorem dX7_edge_72 : decode cX7_edge 72 = .ok (.if_icmp .gt 79, 3) := by decide +kernel
theorem dX7_edge_75 : decode cX7_edge 75 = .ok (.iload 4, 2) := by decide +kernel
theorem dX7_edge_77 : decode cX7_edge 77 = .ok (.ifCond .ne 13, 3) := by decide +kernel
theorem dX7_edge_80 : decode cX7_edge 80 = .ok (.aload 5, 2) := by decide +kernel
theorem dX7_edge_82 : decode cX7_edge 82 = .ok (.iload 7, 2) := by decide +kernel
theorem dX7_edge_84 : decode cX7_edge 84 = .ok (.invokestatic 228, 3) := by decide +kernel
theorem dX7_edge_87 : decode cX7_edge 87 = .ok (.goto 10, 3) := by decide +kernel
theorem dX7_edge_90 : decode cX7_edge 90 = .ok (.aload 5, 2) := by decide +kernel
theorem dX7_edge_92 : decode cX7_edge 92 = .ok (.iload 7, 2) := by decide +kernel
theorem dX7_edge_94 : decode cX7_edge 94 = .ok (.invokestatic 224, 3) := by decide +kernel
theorem dX7_edge_97 : decode cX7_edge 97 = .ok (.istore 8, 2) := by decide +kernel
theorem dX7_edge_99 : decode cX7_edge 99 = .ok (.iload 4, 2) := by decide +kernel
theorem dX7_edge_101 : decode cX7_edge 101 = .ok (.ifCond .ne 13, 3) := by decide +kernel
theorem dX7_edge_104 : decode cX7_edge 104 = .ok (.aload 6, 2) := by decide +kernel
theorem dX7_edge_106 : decode cX7_edge 106 = .ok (.iload 7, 2) := by decide +kernel
theorem dX7_edge_108 : decode cX7_edge 108 = .ok (.invokestatic 228, 3) := by decide +kernel
theorem dX7_edge_111 : decode cX7_edge 111 = .ok (.goto 10, 3) := by decide +kernel
theorem dX7_edge_114 : decode cX7_edge 114 = .ok (.aload 6, 2) := by decide +kernel
theorem dX7_edge_116 : decode cX7_edge 116 = .ok (.iload 7, 2) := by decide +kernel
theorem dX7_edge_118 : decode cX7_edge 118 = .ok (.invokestatic 224, 3) := by decide +kernel
theorem dX7_edge_121 : decode cX7_edge 121 = .ok (.istore 9, 2) := by decide +kernel
theorem dX7_edge_123 : decode cX7_edge 123 = .ok (.iload 8, 2) := by decide +kernel
theorem dX7_edge_125 : decode cX7_edge 125 = .ok (.aload 6, 2) := by decide +kernel
theorem dX7_edge_127 : decode cX7_edge 127 = .ok (.getfield 63, 3) := by decide +kernel
theorem dX7_edge_130 : decode cX7_edge 130 = .ok (.imul, 1) := by decide +kernel
theorem dX7_edge_131 : decode cX7_edge 131 = .ok (.iload 9, 2) := by decide +kernel
theorem dX7_edge_133 : decode cX7_edge 133 = .ok (.aload 5, 2) := by decide +kernel
theorem dX7_edge_135 : decode cX7_edge 135 = .ok (.getfield 63, 3) := by decide +kernel
theorem dX7_edge_138 : decode cX7_edge 138 = .ok (.imul, 1) := by decide +kernel
theorem dX7_edge_139 : decode cX7_edge 139 = .ok (.if_icmp .le 6, 3) := by decide +kernel
theorem dX7_edge_142 : decode cX7_edge 142 = .ok (.iload 7, 2) := by decide +kernel
theorem dX7_edge_144 : decode cX7_edge 144 = .ok (.ireturn, 1) := by decide +kernel
theorem dX7_edge_145 : decode cX7_edge 145 = .ok (.iinc 7 1, 3) := by decide +kernel
theorem dX7_edge_148 : decode cX7_edge 148 = .ok (.goto (-79), 3) := by decide +kernel
theorem dX7_edge_151 : decode cX7_edge 151 = .ok (.bipush (-9), 2) := by decide +kernel
theorem dX7_edge_153 : decode cX7_edge 153 = .ok (.ireturn, 1) := by decide +kernel
theorem dX7_spread_0 : decode cX7_spread 0 = .ok (.aload_n 0, 1) := by decide +kernel
theorem dX7_spread_1 : decode cX7_spread 1 = .ok (.iload_n 1, 1) := by decide +kernel
theorem dX7_spread_2 : decode cX7_spread 2 = .ok (.invokevirtual 51, 3) := by decide +kernel
theorem dX7_spread_5 : decode cX7_spread 5 = .ok (.astore 4, 2) := by decide +kernel
theorem dX7_spread_7 : decode cX7_spread 7 = .ok (.aload 4, 2) := by decide +kernel
theorem dX7_spread_9 : decode cX7_spread 9 = .ok (.ifnull 12, 3) := by decide +kernel
theorem dX7_spread_12 : decode cX7_spread 12 = .ok (.iload_n 2, 1) := by decide +kernel
theorem dX7_spread_13 : decode cX7_spread 13 = .ok (.iconst (-1), 1) := by decide +kernel
theorem dX7_spread_14 : decode cX7_spread 14 = .ok (.iconst 3, 1) := by decide +kernel
theorem dX7_spread_15 : decode cX7_spread 15 = .ok (.invokestatic 55, 3) := by decide +kernel
theorem dX7_spread_18 : decode cX7_spread 18 = .ok (.ifCond .ne 7, 3) := by decide +kernel
theorem dX7_spread_21 : decode cX7_spread 21 = .ok (.ldc2_w 142, 3) := by decide +kernel
theorem dX7_spread_24 : decode cX7_spread 24 = .ok (.lreturn, 1) := by decide +kernel
theorem dX7_spread_25 : decode cX7_spread 25 = .ok (.aload 4, 2) := by decide +kernel
theorem dX7_spread_27 : decode cX7_spread 27 = .ok (.invokevirtual 101, 3) := by decide +kernel
theorem dX7_spread_30 : decode cX7_spread 30 = .ok (.ifCond .ne 7, 3) := by decide +kernel
theorem dX7_spread_33 : decode cX7_spread 33 = .ok (.ldc2_w 146, 3) := by decide +kernel
theorem dX7_spread_36 : decode cX7_spread 36 = .ok (.lreturn, 1) := by decide +kernel
theorem dX7_spread_37 : decode cX7_spread 37 = .ok (.iload_n 2, 1) := by decide +kernel
theorem dX7_spread_38 : decode cX7_spread 38 = .ok (.iconst 3, 1) := by decide +kernel
theorem dX7_spread_39 : decode cX7_spread 39 = .ok (.if_icmp .ne 10, 3) := by decide +kernel
theorem dX7_spread_42 : decode cX7_spread 42 = .ok (.aload 4, 2) := by decide +kernel
theorem dX7_spread_44 : decode cX7_spread 44 = .ok (.iload_n 3, 1) := by decide +kernel
theorem dX7_spread_45 : decode cX7_spread 45 = .ok (.invokestatic 234, 3) := by decide +kernel
theorem dX7_spread_48 : decode cX7_spread 48 = .ok (.lreturn, 1) := by decide +kernel
theorem dX7_spread_49 : decode cX7_spread 49 = .ok (.aload 4, 2) := by decide +kernel
theorem dX7_spread_51 : decode cX7_spread 51 = .ok (.iload_n 2, 1) := by decide +kernel
theorem dX7_spread_52 : decode cX7_spread 52 = .ok (.iload_n 3, 1) := by decide +kernel
theorem dX7_spread_53 : decode cX7_spread 53 = .ok (.invokestatic 238, 3) := by decide +kernel
theorem dX7_spread_56 : decode cX7_spread 56 = .ok (.lreturn, 1) := by decide +kernel
theorem dX7_moved_0 : decode cX7_moved 0 = .ok (.aload_n 0, 1) := by decide +kernel
theorem dX7_moved_1 : decode cX7_moved 1 = .ok (.iload_n 1, 1) := by decide +kernel
theorem dX7_moved_2 : decode cX7_moved 2 = .ok (.invokevirtual 51, 3) := by decide +kernel
theorem dX7_moved_5 : decode cX7_moved 5 = .ok (.astore_n 3, 1) := by decide +kernel
theorem dX7_moved_6 : decode cX7_moved 6 = .ok (.aload_n 0, 1) := by decide +kernel
theorem dX7_moved_7 : decode cX7_moved 7 = .ok (.iload_n 2, 1) := by decide +kernel
theorem dX7_moved_8 : decode cX7_moved 8 = .ok (.invokevirtual 51, 3) := by decide +kernel
theorem dX7_moved_11 : decode cX7_moved 11 = .ok (.astore 4, 2) := by decide +kernel
theorem dX7_moved_13 : decode cX7_moved 13 = .ok (.aload_n 3, 1) := by decide +kernel
theorem dX7_moved_14 : decode cX7_moved 14 = .ok (.ifnull 8, 3) := by decide +kernel
theorem dX7_moved_17 : decode cX7_moved 17 = .ok (.aload 4, 2) := by decide +kernel
theorem dX7_moved_19 : decode cX7_moved 19 = .ok (.ifnonnull 5, 3) := by decide +kernel
theorem dX7_moved_22 : decode cX7_moved 22 = .ok (.iconst (-1), 1) := by decide +kernel
theorem dX7_moved_23 : decode cX7_moved 23 = .ok (.ireturn, 1) := by decide +kernel
theorem dX7_moved_24 : decode cX7_moved 24 = .ok (.aload_n 3, 1) := by decide +kernel
theorem dX7_moved_25 : decode cX7_moved 25 = .ok (.aload 4, 2) := by decide +kernel
theorem dX7_moved_27 : decode cX7_moved 27 = .ok (.invokestatic 242, 3) := by decide +kernel
theorem dX7_moved_30 : decode cX7_moved 30 = .ok (.ifCond .ne 6, 3) := by decide +kernel
theorem dX7_moved_33 : decode cX7_moved 33 = .ok (.bipush (-3), 2) := by decide +kernel
theorem dX7_moved_35 : decode cX7_moved 35 = .ok (.ireturn, 1) := by decide +kernel
theorem dX7_moved_36 : decode cX7_moved 36 = .ok (.iconst 0, 1) := by decide +kernel
theorem dX7_moved_37 : decode cX7_moved 37 = .ok (.istore 5, 2) := by decide +kernel
theorem dX7_moved_39 : decode cX7_moved 39 = .ok (.iconst 0, 1) := by decide +kernel
theorem dX7_moved_40 : decode cX7_moved 40 = .ok (.istore 6, 2) := by decide +kernel
theorem dX7_moved_42 : decode cX7_moved 42 = .ok (.iload 6, 2) := by decide +kernel
theorem dX7_moved_44 : decode cX7_moved 44 = .ok (.aload_n 3, 1) := by decide +kernel
theorem dX7_moved_45 : decode cX7_moved 45 = .ok (.getfield 63, 3) := by decide +kernel
theorem dX7_moved_48 : decode cX7_moved 48 = .ok (.if_icmp .ge 76, 3) := by decide +kernel
theorem dX7_moved_51 : decode cX7_moved 51 = .ok (.iconst 0, 1) := by decide +kernel
theorem dX7_moved_52 : decode cX7_moved 52 = .ok (.istore 7, 2) := by decide +kernel
theorem dX7_moved_54 : decode cX7_moved 54 = .ok (.iload 7, 2) := by decide +kernel
theorem dX7_moved_56 : decode cX7_moved 56 = .ok (.iload 6, 2) := by decide +kernel
theorem dX7_moved_58 : decode cX7_moved 58 = .ok (.if_icmp .ge 60, 3) := by decide +kernel
theorem dX7_moved_61 : decode cX7_moved 61 = .ok (.aload_n 3, 1) := by decide +kernel
theorem dX7_moved_62 : decode cX7_moved 62 = .ok (.getfield 75, 3) := by decide +kernel
theorem dX7_moved_65 : decode cX7_moved 65 = .ok (.iload 6, 2) := by decide +kernel
theorem dX7_moved_67 : decode cX7_moved 67 = .ok (.iaload, 1) := by decide +kernel
theorem dX7_moved_68 : decode cX7_moved 68 = .ok (.aload_n 3, 1) := by decide +kernel
theorem dX7_moved_69 : decode cX7_moved 69 = .ok (.getfield 75, 3) := by decide +kernel
theorem dX7_moved_72 : decode cX7_moved 72 = .ok (.iload 7, 2) := by decide +kernel
theorem dX7_moved_74 : decode cX7_moved 74 = .ok (.iaload, 1) := by decide +kernel
theorem dX7_moved_75 : decode cX7_moved 75 = .ok (.invokestatic 245, 3) := by decide +kernel
theorem dX7_moved_78 : decode cX7_moved 78 = .ok (.istore 8, 2) := by decide +kernel
theorem dX7_moved_80 : decode cX7_moved 80 = .ok (.aload 4, 2) := by decide +kernel
theorem dX7_moved_82 : decode cX7_moved 82 = .ok (.getfield 75, 3) := by decide +kernel
theorem dX7_moved_85 : decode cX7_moved 85 = .ok (.iload 6, 2) := by decide +kernel
theorem dX7_moved_87 : decode cX7_moved 87 = .ok (.iaload, 1) := by decide +kernel
theorem dX7_moved_88 : decode cX7_moved 88 = .ok (.aload 4, 2) := by decide +kernel
theorem dX7_moved_90 : decode cX7_moved 90 = .ok (.getfield 75, 3) := by decide +kernel
theorem dX7_moved_93 : decode cX7_moved 93 = .ok (.iload 7, 2) := by decide +kernel
theorem dX7_moved_95 : decode cX7_moved 95 = .ok (.iaload, 1) := by decide +kernel
theorem dX7_moved_96 : decode cX7_moved 96 = .ok (.invokestatic 245, 3) := by decide +kernel
theorem dX7_moved_99 : decode cX7_moved 99 = .ok (.istore 9, 2) := by decide +kernel
theorem dX7_moved_101 : decode cX7_moved 101 = .ok (.iload 8, 2) := by decide +kernel
theorem dX7_moved_103 : decode cX7_moved 103 = .ok (.iload 9, 2) := by decide +kernel
theorem dX7_moved_105 : decode cX7_moved 105 = .ok (.imul, 1) := by decide +kernel
theorem dX7_moved_106 : decode cX7_moved 106 = .ok (.ifCond .ge 6, 3) := by decide +kernel
theorem dX7_moved_109 : decode cX7_moved 109 = .ok (.iinc 5 1, 3) := by decide +kernel
theorem dX7_moved_112 : decode cX7_moved 112 = .ok (.iinc 7 1, 3) := by decide +kernel
theorem dX7_moved_115 : decode cX7_moved 115 = .ok (.goto (-61), 3) := by decide +kernel
theorem dX7_moved_118 : decode cX7_moved 118 = .ok (.iinc 6 1, 3) := by decide +kernel
theorem dX7_moved_121 : decode cX7_moved 121 = .ok (.goto (-79), 3) := by decide +kernel
theorem dX7_moved_124 : decode cX7_moved 124 = .ok (.iload 5, 2) := by decide +kernel
theorem dX7_moved_126 : decode cX7_moved 126 = .ok (.ireturn, 1) := by decide +kernel
theorem dX7_rose_0 : decode cX7_rose 0 = .ok (.aload_n 0, 1) := by decide +kernel
theorem dX7_rose_1 : decode cX7_rose 1 = .ok (.iload_n 1, 1) := by decide +kernel
theorem dX7_rose_2 : decode cX7_rose 2 = .ok (.invokevirtual 51, 3) := by decide +kernel
theorem dX7_rose_5 : decode cX7_rose 5 = .ok (.astore 4, 2) := by decide +kernel
theorem dX7_rose_7 : decode cX7_rose 7 = .ok (.aload_n 0, 1) := by decide +kernel
theorem dX7_rose_8 : decode cX7_rose 8 = .ok (.iload_n 2, 1) := by decide +kernel
theorem dX7_rose_9 : decode cX7_rose 9 = .ok (.invokevirtual 51, 3) := by decide +kernel
theorem dX7_rose_12 : decode cX7_rose 12 = .ok (.astore 5, 2) := by decide +kernel
theorem dX7_rose_14 : decode cX7_rose 14 = .ok (.aload 4, 2) := by decide +kernel
theorem dX7_rose_16 : decode cX7_rose 16 = .ok (.ifnull 26, 3) := by decide +kernel
theorem dX7_rose_19 : decode cX7_rose 19 = .ok (.aload 5, 2) := by decide +kernel
theorem dX7_rose_21 : decode cX7_rose 21 = .ok (.ifnull 21, 3) := by decide +kernel
theorem dX7_rose_24 : decode cX7_rose 24 = .ok (.aload 4, 2) := by decide +kernel
theorem dX7_rose_26 : decode cX7_rose 26 = .ok (.iload_n 3, 1) := by decide +kernel
theorem dX7_rose_27 : decode cX7_rose 27 = .ok (.invokevirtual 71, 3) := by decide +kernel
theorem dX7_rose_30 : decode cX7_rose 30 = .ok (.ifCond .eq 12, 3) := by decide +kernel
theorem dX7_rose_33 : decode cX7_rose 33 = .ok (.aload 5, 2) := by decide +kernel
theorem dX7_rose_35 : decode cX7_rose 35 = .ok (.iload_n 3, 1) := by decide +kernel
theorem dX7_rose_36 : decode cX7_rose 36 = .ok (.invokevirtual 71, 3) := by decide +kernel
theorem dX7_rose_39 : decode cX7_rose 39 = .ok (.ifCond .ne 5, 3) := by decide +kernel
theorem dX7_rose_42 : decode cX7_rose 42 = .ok (.iconst (-1), 1) := by decide +kernel
theorem dX7_rose_43 : decode cX7_rose 43 = .ok (.ireturn, 1) := by decide +kernel
theorem dX7_rose_44 : decode cX7_rose 44 = .ok (.aload 4, 2) := by decide +kernel
theorem dX7_rose_46 : decode cX7_rose 46 = .ok (.aload 5, 2) := by decide +kernel
theorem dX7_rose_48 : decode cX7_rose 48 = .ok (.invokestatic 242, 3) := by decide +kernel
theorem dX7_rose_51 : decode cX7_rose 51 = .ok (.ifCond .ne 6, 3) := by decide +kernel
theorem dX7_rose_54 : decode cX7_rose 54 = .ok (.bipush (-3), 2) := by decide +kernel
theorem dX7_rose_56 : decode cX7_rose 56 = .ok (.ireturn, 1) := by decide +kernel
theorem dX7_rose_57 : decode cX7_rose 57 = .ok (.bipush 100, 2) := by decide +kernel
theorem dX7_rose_59 : decode cX7_rose 59 = .ok (.aload 5, 2) := by decide +kernel
theorem dX7_rose_61 : decode cX7_rose 61 = .ok (.aload 5, 2) := by decide +kernel
theorem dX7_rose_63 : decode cX7_rose 63 = .ok (.getfield 75, 3) := by decide +kernel
theorem dX7_rose_66 : decode cX7_rose 66 = .ok (.iload_n 3, 1) := by decide +kernel
theorem dX7_rose_67 : decode cX7_rose 67 = .ok (.iaload, 1) := by decide +kernel
theorem dX7_rose_68 : decode cX7_rose 68 = .ok (.invokestatic 228, 3) := by decide +kernel
theorem dX7_rose_71 : decode cX7_rose 71 = .ok (.iadd, 1) := by decide +kernel
theorem dX7_rose_72 : decode cX7_rose 72 = .ok (.aload 4, 2) := by decide +kernel
theorem dX7_rose_74 : decode cX7_rose 74 = .ok (.aload 4, 2) := by decide +kernel
theorem dX7_rose_76 : decode cX7_rose 76 = .ok (.getfield 75, 3) := by decide +kernel
theorem dX7_rose_79 : decode cX7_rose 79 = .ok (.iload_n 3, 1) := by decide +kernel
theorem dX7_rose_80 : decode cX7_rose 80 = .ok (.iaload, 1) := by decide +kernel
theorem dX7_rose_81 : decode cX7_rose 81 = .ok (.invokestatic 228, 3) := by decide +kernel
theorem dX7_rose_84 : decode cX7_rose 84 = .ok (.isub, 1) := by decide +kernel
theorem dX7_rose_85 : decode cX7_rose 85 = .ok (.ireturn, 1) := by decide +kernel
theorem dX7_band_0 : decode cX7_band 0 = .ok (.iload_n 1, 1) := by decide +kernel
theorem dX7_band_1 : decode cX7_band 1 = .ok (.iconst 0, 1) := by decide +kernel
theorem dX7_band_2 : decode cX7_band 2 = .ok (.bipush 99, 2) := by decide +kernel
theorem dX7_band_4 : decode cX7_band 4 = .ok (.invokestatic 55, 3) := by decide +kernel
theorem dX7_band_7 : decode cX7_band 7 = .ok (.ifCond .eq 13, 3) := by decide +kernel
theorem dX7_band_10 : decode cX7_band 10 = .ok (.iload_n 2, 1) := by decide +kernel
theorem dX7_band_11 : decode cX7_band 11 = .ok (.iconst 0, 1) := by decide +kernel
theorem dX7_band_12 : decode cX7_band 12 = .ok (.bipush 10, 2) := by decide +kernel
theorem dX7_band_14 : decode cX7_band 14 = .ok (.invokestatic 55, 3) := by decide +kernel
theorem dX7_band_17 : decode cX7_band 17 = .ok (.ifCond .ne 6, 3) := by decide +kernel
theorem dX7_band_20 : decode cX7_band 20 = .ok (.bipush (-2), 2) := by decide +kernel
theorem dX7_band_22 : decode cX7_band 22 = .ok (.ireturn, 1) := by decide +kernel
theorem dX7_band_23 : decode cX7_band 23 = .ok (.aload_n 0, 1) := by decide +kernel
theorem dX7_band_24 : decode cX7_band 24 = .ok (.getfield 18, 3) := by decide +kernel
theorem dX7_band_27 : decode cX7_band 27 = .ok (.getfield 250, 3) := by decide +kernel
theorem dX7_band_30 : decode cX7_band 30 = .ok (.iconst 4, 1) := by decide +kernel
theorem dX7_band_31 : decode cX7_band 31 = .ok (.if_icmp .lt 6, 3) := by decide +kernel
theorem dX7_band_34 : decode cX7_band 34 = .ok (.bipush (-4), 2) := by decide +kernel
theorem dX7_band_36 : decode cX7_band 36 = .ok (.ireturn, 1) := by decide +kernel
theorem dX7_band_37 : decode cX7_band 37 = .ok (.aload_n 0, 1) := by decide +kernel
theorem dX7_band_38 : decode cX7_band 38 = .ok (.getfield 18, 3) := by decide +kernel
theorem dX7_band_41 : decode cX7_band 41 = .ok (.iload_n 1, 1) := by decide +kernel
theorem dX7_band_42 : decode cX7_band 42 = .ok (.iload_n 2, 1) := by decide +kernel
theorem dX7_band_43 : decode cX7_band 43 = .ok (.invokevirtual 252, 3) := by decide +kernel
theorem dX7_band_46 : decode cX7_band 46 = .ok (.aload_n 0, 1) := by decide +kernel
theorem dX7_band_47 : decode cX7_band 47 = .ok (.getfield 18, 3) := by decide +kernel
theorem dX7_band_50 : decode cX7_band 50 = .ok (.getfield 250, 3) := by decide +kernel
theorem dX7_band_53 : decode cX7_band 53 = .ok (.ireturn, 1) := by decide +kernel
theorem dX7_unband_0 : decode cX7_unband 0 = .ok (.aload_n 0, 1) := by decide +kernel
theorem dX7_unband_1 : decode cX7_unband 1 = .ok (.getfield 18, 3) := by decide +kernel
theorem dX7_unband_4 : decode cX7_unband 4 = .ok (.getfield 250, 3) := by decide +kernel
theorem dX7_unband_7 : decode cX7_unband 7 = .ok (.istore_n 1, 1) := by decide +kernel
theorem dX7_unband_8 : decode cX7_unband 8 = .ok (.aload_n 0, 1) := by decide +kernel
theorem dX7_unband_9 : decode cX7_unband 9 = .ok (.getfield 18, 3) := by decide +kernel
theorem dX7_unband_12 : decode cX7_unband 12 = .ok (.iconst 0, 1) := by decide +kernel
theorem dX7_unband_13 : decode cX7_unband 13 = .ok (.putfield 250, 3) := by decide +kernel
theorem dX7_unband_16 : decode cX7_unband 16 = .ok (.iload_n 1, 1) := by decide +kernel
theorem dX7_unband_17 : decode cX7_unband 17 = .ok (.ireturn, 1) := by decide +kernel
theorem dX7_tax_0 : decode cX7_tax 0 = .ok (.iload_n 1, 1) := by decide +kernel
theorem dX7_tax_1 : decode cX7_tax 1 = .ok (.iconst 0, 1) := by decide +kernel
theorem dX7_tax_2 : decode cX7_tax 2 = .ok (.bipush 99, 2) := by decide +kernel
theorem dX7_tax_4 : decode cX7_tax 4 = .ok (.invokestatic 55, 3) := by decide +kernel
theorem dX7_tax_7 : decode cX7_tax 7 = .ok (.ifCond .eq 14, 3) := by decide +kernel
theorem dX7_tax_10 : decode cX7_tax 10 = .ok (.aload_n 0, 1) := by decide +kernel
theorem dX7_tax_11 : decode cX7_tax 11 = .ok (.getfield 18, 3) := by decide +kernel
theorem dX7_tax_14 : decode cX7_tax 14 = .ok (.iload_n 1, 1) := by decide +kernel
theorem dX7_tax_15 : decode cX7_tax 15 = .ok (.invokevirtual 254, 3) := by decide +kernel
theorem dX7_tax_18 : decode cX7_tax 18 = .ok (.goto 5, 3) := by decide +kernel
theorem dX7_tax_21 : decode cX7_tax 21 = .ok (.bipush (-2), 2) := by decide +kernel
theorem dX7_tax_23 : decode cX7_tax 23 = .ok (.ireturn, 1) := by decide +kernel
theorem dX7_taxed_0 : decode cX7_taxed 0 = .ok (.aload_n 0, 1) := by decide +kernel
theorem dX7_taxed_1 : decode cX7_taxed 1 = .ok (.iload_n 1, 1) := by decide +kernel
theorem dX7_taxed_2 : decode cX7_taxed 2 = .ok (.invokevirtual 51, 3) := by decide +kernel
theorem dX7_taxed_5 : decode cX7_taxed 5 = .ok (.astore_n 3, 1) := by decide +kernel
theorem dX7_taxed_6 : decode cX7_taxed 6 = .ok (.aload_n 0, 1) := by decide +kernel
theorem dX7_taxed_7 : decode cX7_taxed 7 = .ok (.iload_n 2, 1) := by decide +kernel
theorem dX7_taxed_8 : decode cX7_taxed 8 = .ok (.invokevirtual 51, 3) := by decide +kernel
theorem dX7_taxed_11 : decode cX7_taxed 11 = .ok (.astore 4, 2) := by decide +kernel
theorem dX7_taxed_13 : decode cX7_taxed 13 = .ok (.aload_n 3, 1) := by decide +kernel
theorem dX7_taxed_14 : decode cX7_taxed 14 = .ok (.ifnull 8, 3) := by decide +kernel
theorem dX7_taxed_17 : decode cX7_taxed 17 = .ok (.aload 4, 2) := by decide +kernel
theorem dX7_taxed_19 : decode cX7_taxed 19 = .ok (.ifnonnull 5, 3) := by decide +kernel
theorem dX7_taxed_22 : decode cX7_taxed 22 = .ok (.iconst (-1), 1) := by decide +kernel
theorem dX7_taxed_23 : decode cX7_taxed 23 = .ok (.ireturn, 1) := by decide +kernel
theorem dX7_taxed_24 : decode cX7_taxed 24 = .ok (.aload_n 3, 1) := by decide +kernel
theorem dX7_taxed_25 : decode cX7_taxed 25 = .ok (.invokevirtual 87, 3) := by decide +kernel
theorem dX7_taxed_28 : decode cX7_taxed 28 = .ok (.ifCond .eq 8, 3) := by decide +kernel
theorem dX7_taxed_31 : decode cX7_taxed 31 = .ok (.iload_n 1, 1) := by decide +kernel
theorem dX7_taxed_32 : decode cX7_taxed 32 = .ok (.iload_n 2, 1) := by decide +kernel
theorem dX7_taxed_33 : decode cX7_taxed 33 = .ok (.if_icmp .ne 6, 3) := by decide +kernel
theorem dX7_taxed_36 : decode cX7_taxed 36 = .ok (.bipush (-3), 2) := by decide +kernel
theorem dX7_taxed_38 : decode cX7_taxed 38 = .ok (.ireturn, 1) := by decide +kernel
theorem dX7_taxed_39 : decode cX7_taxed 39 = .ok (.iconst 0, 1) := by decide +kernel
theorem dX7_taxed_40 : decode cX7_taxed 40 = .ok (.istore 5, 2) := by decide +kernel
theorem dX7_taxed_42 : decode cX7_taxed 42 = .ok (.aload 4, 2) := by decide +kernel
theorem dX7_taxed_44 : decode cX7_taxed 44 = .ok (.iconst 0, 1) := by decide +kernel
theorem dX7_taxed_45 : decode cX7_taxed 45 = .ok (.putfield 63, 3) := by decide +kernel
theorem dX7_taxed_48 : decode cX7_taxed 48 = .ok (.iconst 0, 1) := by decide +kernel
theorem dX7_taxed_49 : decode cX7_taxed 49 = .ok (.istore 6, 2) := by decide +kernel
theorem dX7_taxed_51 : decode cX7_taxed 51 = .ok (.iload 6, 2) := by decide +kernel
theorem dX7_taxed_53 : decode cX7_taxed 53 = .ok (.aload_n 3, 1) := by decide +kernel
theorem dX7_taxed_54 : decode cX7_taxed 54 = .ok (.getfield 63, 3) := by decide +kernel
theorem dX7_taxed_57 : decode cX7_taxed 57 = .ok (.if_icmp .ge 67, 3) := by decide +kernel
theorem dX7_taxed_60 : decode cX7_taxed 60 = .ok (.aload_n 0, 1) := by decide +kernel
theorem dX7_taxed_61 : decode cX7_taxed 61 = .ok (.getfield 18, 3) := by decide +kernel
theorem dX7_taxed_64 : decode cX7_taxed 64 = .ok (.aload_n 3, 1) := by decide +kernel
theorem dX7_taxed_65 : decode cX7_taxed 65 = .ok (.getfield 75, 3) := by decide +kernel
theorem dX7_taxed_68 : decode cX7_taxed 68 = .ok (.iload 6, 2) := by decide +kernel
theorem dX7_taxed_70 : decode cX7_taxed 70 = .ok (.iaload, 1) := by decide +kernel
theorem dX7_taxed_71 : decode cX7_taxed 71 = .ok (.invokevirtual 254, 3) := by decide +kernel
theorem dX7_taxed_74 : decode cX7_taxed 74 = .ok (.istore 7, 2) := by decide +kernel
theorem dX7_taxed_76 : decode cX7_taxed 76 = .ok (.aload_n 3, 1) := by decide +kernel
theorem dX7_taxed_77 : decode cX7_taxed 77 = .ok (.getfield 75, 3) := by decide +kernel
theorem dX7_taxed_80 : decode cX7_taxed 80 = .ok (.iload 6, 2) := by decide +kernel
theorem dX7_taxed_82 : decode cX7_taxed 82 = .ok (.iaload, 1) := by decide +kernel
theorem dX7_taxed_83 : decode cX7_taxed 83 = .ok (.iload 7, 2) := by decide +kernel
theorem dX7_taxed_85 : decode cX7_taxed 85 = .ok (.isub, 1) := by decide +kernel
theorem dX7_taxed_86 : decode cX7_taxed 86 = .ok (.istore 8, 2) := by decide +kernel
theorem dX7_taxed_88 : decode cX7_taxed 88 = .ok (.aload 4, 2) := by decide +kernel
theorem dX7_taxed_90 : decode cX7_taxed 90 = .ok (.iload 8, 2) := by decide +kernel
theorem dX7_taxed_92 : decode cX7_taxed 92 = .ok (.iload 8, 2) := by decide +kernel
theorem dX7_taxed_94 : decode cX7_taxed 94 = .ok (.aload_n 3, 1) := by decide +kernel
theorem dX7_taxed_95 : decode cX7_taxed 95 = .ok (.getfield 81, 3) := by decide +kernel
theorem dX7_taxed_98 : decode cX7_taxed 98 = .ok (.iload 6, 2) := by decide +kernel
theorem dX7_taxed_100 : decode cX7_taxed 100 = .ok (.iaload, 1) := by decide +kernel
theorem dX7_taxed_101 : decode cX7_taxed 101 = .ok (.aload_n 3, 1) := by decide +kernel
theorem dX7_taxed_102 : decode cX7_taxed 102 = .ok (.getfield 84, 3) := by decide +kernel
theorem dX7_taxed_105 : decode cX7_taxed 105 = .ok (.iload 6, 2) := by decide +kernel
theorem dX7_taxed_107 : decode cX7_taxed 107 = .ok (.iaload, 1) := by decide +kernel
theorem dX7_taxed_108 : decode cX7_taxed 108 = .ok (.invokevirtual 67, 3) := by decide +kernel
theorem dX7_taxed_111 : decode cX7_taxed 111 = .ok (.iload 5, 2) := by decide +kernel
theorem dX7_taxed_113 : decode cX7_taxed 113 = .ok (.iload 7, 2) := by decide +kernel
theorem dX7_taxed_115 : decode cX7_taxed 115 = .ok (.iadd, 1) := by decide +kernel
theorem dX7_taxed_116 : decode cX7_taxed 116 = .ok (.istore 5, 2) := by decide +kernel
theorem dX7_taxed_118 : decode cX7_taxed 118 = .ok (.iinc 6 1, 3) := by decide +kernel
theorem dX7_taxed_121 : decode cX7_taxed 121 = .ok (.goto (-70), 3) := by decide +kernel
theorem dX7_taxed_124 : decode cX7_taxed 124 = .ok (.iload 5, 2) := by decide +kernel
theorem dX7_taxed_126 : decode cX7_taxed 126 = .ok (.ireturn, 1) := by decide +kernel
theorem dX7_rises_0 : decode cX7_rises 0 = .ok (.iconst 1, 1) := by decide +kernel
theorem dX7_rises_1 : decode cX7_rises 1 = .ok (.istore_n 1, 1) := by decide +kernel
theorem dX7_rises_2 : decode cX7_rises 2 = .ok (.iload_n 1, 1) := by decide +kernel
theorem dX7_rises_3 : decode cX7_rises 3 = .ok (.bipush 99, 2) := by decide +kernel
theorem dX7_rises_5 : decode cX7_rises 5 = .ok (.if_icmp .ge 38, 3) := by decide +kernel
theorem dX7_rises_8 : decode cX7_rises 8 = .ok (.aload_n 0, 1) := by decide +kernel
theorem dX7_rises_9 : decode cX7_rises 9 = .ok (.getfield 18, 3) := by decide +kernel
theorem dX7_rises_12 : decode cX7_rises 12 = .ok (.iload_n 1, 1) := by decide +kernel
theorem dX7_rises_13 : decode cX7_rises 13 = .ok (.invokevirtual 254, 3) := by decide +kernel
theorem dX7_rises_16 : decode cX7_rises 16 = .ok (.iload_n 1, 1) := by decide +kernel
theorem dX7_rises_17 : decode cX7_rises 17 = .ok (.iconst 1, 1) := by decide +kernel
theorem dX7_rises_18 : decode cX7_rises 18 = .ok (.iadd, 1) := by decide +kernel
theorem dX7_rises_19 : decode cX7_rises 19 = .ok (.imul, 1) := by decide +kernel
theorem dX7_rises_20 : decode cX7_rises 20 = .ok (.aload_n 0, 1) := by decide +kernel
theorem dX7_rises_21 : decode cX7_rises 21 = .ok (.getfield 18, 3) := by decide +kernel
theorem dX7_rises_24 : decode cX7_rises 24 = .ok (.iload_n 1, 1) := by decide +kernel
theorem dX7_rises_25 : decode cX7_rises 25 = .ok (.iconst 1, 1) := by decide +kernel
theorem dX7_rises_26 : decode cX7_rises 26 = .ok (.iadd, 1) := by decide +kernel
theorem dX7_rises_27 : decode cX7_rises 27 = .ok (.invokevirtual 254, 3) := by decide +kernel
theorem dX7_rises_30 : decode cX7_rises 30 = .ok (.iload_n 1, 1) := by decide +kernel
theorem dX7_rises_31 : decode cX7_rises 31 = .ok (.imul, 1) := by decide +kernel
theorem dX7_rises_32 : decode cX7_rises 32 = .ok (.if_icmp .le 5, 3) := by decide +kernel
theorem dX7_rises_35 : decode cX7_rises 35 = .ok (.iconst 0, 1) := by decide +kernel
theorem dX7_rises_36 : decode cX7_rises 36 = .ok (.ireturn, 1) := by decide +kernel
theorem dX7_rises_37 : decode cX7_rises 37 = .ok (.iinc 1 1, 3) := by decide +kernel
theorem dX7_rises_40 : decode cX7_rises 40 = .ok (.goto (-38), 3) := by decide +kernel
theorem dX7_rises_43 : decode cX7_rises 43 = .ok (.iconst 1, 1) := by decide +kernel
theorem dX7_rises_44 : decode cX7_rises 44 = .ok (.ireturn, 1) := by decide +kernel
theorem dX7_count_0 : decode cX7_count 0 = .ok (.iload_n 1, 1) := by decide +kernel
theorem dX7_count_1 : decode cX7_count 1 = .ok (.tableswitch 45 0 2 #[27, 32, 37], 27) := by decide +kernel
theorem dX7_count_28 : decode cX7_count 28 = .ok (.aload_n 0, 1) := by decide +kernel
theorem dX7_count_29 : decode cX7_count 29 = .ok (.invokevirtual 257, 3) := by decide +kernel
theorem dX7_count_32 : decode cX7_count 32 = .ok (.ireturn, 1) := by decide +kernel
theorem dX7_count_33 : decode cX7_count 33 = .ok (.aload_n 0, 1) := by decide +kernel
theorem dX7_count_34 : decode cX7_count 34 = .ok (.invokevirtual 261, 3) := by decide +kernel
theorem dX7_count_37 : decode cX7_count 37 = .ok (.ireturn, 1) := by decide +kernel
theorem dX7_count_38 : decode cX7_count 38 = .ok (.aload_n 0, 1) := by decide +kernel
theorem dX7_count_39 : decode cX7_count 39 = .ok (.getfield 18, 3) := by decide +kernel
theorem dX7_count_42 : decode cX7_count 42 = .ok (.getfield 250, 3) := by decide +kernel
theorem dX7_count_45 : decode cX7_count 45 = .ok (.ireturn, 1) := by decide +kernel
theorem dX7_count_46 : decode cX7_count 46 = .ok (.bipush (-2), 2) := by decide +kernel
theorem dX7_count_48 : decode cX7_count 48 = .ok (.ireturn, 1) := by decide +kernel
theorem dX7_townAt_0 : decode cX7_townAt 0 = .ok (.iload_n 1, 1) := by decide +kernel
theorem dX7_townAt_1 : decode cX7_townAt 1 = .ok (.iconst 0, 1) := by decide +kernel
theorem dX7_townAt_2 : decode cX7_townAt 2 = .ok (.iconst 3, 1) := by decide +kernel
theorem dX7_townAt_3 : decode cX7_townAt 3 = .ok (.invokestatic 55, 3) := by decide +kernel
theorem dX7_townAt_6 : decode cX7_townAt 6 = .ok (.ifCond .eq 12, 3) := by decide +kernel
theorem dX7_townAt_9 : decode cX7_townAt 9 = .ok (.aload_n 0, 1) := by decide +kernel
theorem dX7_townAt_10 : decode cX7_townAt 10 = .ok (.getfield 11, 3) := by decide +kernel
theorem dX7_townAt_13 : decode cX7_townAt 13 = .ok (.iload_n 1, 1) := by decide +kernel
theorem dX7_townAt_14 : decode cX7_townAt 14 = .ok (.aaload, 1) := by decide +kernel
theorem dX7_townAt_15 : decode cX7_townAt 15 = .ok (.goto 4, 3) := by decide +kernel
theorem dX7_townAt_18 : decode cX7_townAt 18 = .ok (.aconst_null, 1) := by decide +kernel
theorem dX7_townAt_19 : decode cX7_townAt 19 = .ok (.areturn, 1) := by decide +kernel
theorem dX7_isWithin_0 : decode cX7_isWithin 0 = .ok (.iload_n 0, 1) := by decide +kernel
theorem dX7_isWithin_1 : decode cX7_isWithin 1 = .ok (.iload_n 1, 1) := by decide +kernel
theorem dX7_isWithin_2 : decode cX7_isWithin 2 = .ok (.if_icmp .lt 12, 3) := by decide +kernel
theorem dX7_isWithin_5 : decode cX7_isWithin 5 = .ok (.iload_n 0, 1) := by decide +kernel
theorem dX7_isWithin_6 : decode cX7_isWithin 6 = .ok (.iload_n 2, 1) := by decide +kernel
theorem dX7_isWithin_7 : decode cX7_isWithin 7 = .ok (.if_icmp .gt 7, 3) := by decide +kernel
theorem dX7_isWithin_10 : decode cX7_isWithin 10 = .ok (.iconst 1, 1) := by decide +kernel
theorem dX7_isWithin_11 : decode cX7_isWithin 11 = .ok (.goto 4, 3) := by decide +kernel
theorem dX7_isWithin_14 : decode cX7_isWithin 14 = .ok (.iconst 0, 1) := by decide +kernel
theorem dX7_isWithin_15 : decode cX7_isWithin 15 = .ok (.ireturn, 1) := by decide +kernel
theorem dX7_areEnds_0 : decode cX7_areEnds 0 = .ok (.iload_n 0, 1) := by decide +kernel
theorem dX7_areEnds_1 : decode cX7_areEnds 1 = .ok (.iconst 0, 1) := by decide +kernel
theorem dX7_areEnds_2 : decode cX7_areEnds 2 = .ok (.bipush 99, 2) := by decide +kernel
theorem dX7_areEnds_4 : decode cX7_areEnds 4 = .ok (.invokestatic 55, 3) := by decide +kernel
theorem dX7_areEnds_7 : decode cX7_areEnds 7 = .ok (.ifCond .eq 17, 3) := by decide +kernel
theorem dX7_areEnds_10 : decode cX7_areEnds 10 = .ok (.iload_n 1, 1) := by decide +kernel
theorem dX7_areEnds_11 : decode cX7_areEnds 11 = .ok (.iload_n 0, 1) := by decide +kernel
theorem dX7_areEnds_12 : decode cX7_areEnds 12 = .ok (.bipush 99, 2) := by decide +kernel
theorem dX7_areEnds_14 : decode cX7_areEnds 14 = .ok (.invokestatic 55, 3) := by decide +kernel
theorem dX7_areEnds_17 : decode cX7_areEnds 17 = .ok (.ifCond .eq 7, 3) := by decide +kernel
theorem dX7_areEnds_20 : decode cX7_areEnds 20 = .ok (.iconst 1, 1) := by decide +kernel
theorem dX7_areEnds_21 : decode cX7_areEnds 21 = .ok (.goto 4, 3) := by decide +kernel
theorem dX7_areEnds_24 : decode cX7_areEnds 24 = .ok (.iconst 0, 1) := by decide +kernel
theorem dX7_areEnds_25 : decode cX7_areEnds 25 = .ok (.ireturn, 1) := by decide +kernel
theorem dX7_isScale_0 : decode cX7_isScale 0 = .ok (.iload_n 0, 1) := by decide +kernel
theorem dX7_isScale_1 : decode cX7_isScale 1 = .ok (.iconst 0, 1) := by decide +kernel
theorem dX7_isScale_2 : decode cX7_isScale 2 = .ok (.iconst 2, 1) := by decide +kernel
theorem dX7_isScale_3 : decode cX7_isScale 3 = .ok (.invokestatic 55, 3) := by decide +kernel
theorem dX7_isScale_6 : decode cX7_isScale 6 = .ok (.ireturn, 1) := by decide +kernel
theorem dX7_isOrder_0 : decode cX7_isOrder 0 = .ok (.iload_n 0, 1) := by decide +kernel
theorem dX7_isOrder_1 : decode cX7_isOrder 1 = .ok (.iconst 0, 1) := by decide +kernel
theorem dX7_isOrder_2 : decode cX7_isOrder 2 = .ok (.iconst 1, 1) := by decide +kernel
theorem dX7_isOrder_3 : decode cX7_isOrder 3 = .ok (.invokestatic 55, 3) := by decide +kernel
theorem dX7_isOrder_6 : decode cX7_isOrder 6 = .ok (.ireturn, 1) := by decide +kernel
theorem dX7_areTwoYears_0 : decode cX7_areTwoYears 0 = .ok (.aload_n 0, 1) := by decide +kernel
theorem dX7_areTwoYears_1 : decode cX7_areTwoYears 1 = .ok (.invokevirtual 87, 3) := by decide +kernel
theorem dX7_areTwoYears_4 : decode cX7_areTwoYears 4 = .ok (.ifCond .eq 25, 3) := by decide +kernel
theorem dX7_areTwoYears_7 : decode cX7_areTwoYears 7 = .ok (.aload_n 1, 1) := by decide +kernel
theorem dX7_areTwoYears_8 : decode cX7_areTwoYears 8 = .ok (.invokevirtual 87, 3) := by decide +kernel
theorem dX7_areTwoYears_11 : decode cX7_areTwoYears 11 = .ok (.ifCond .eq 18, 3) := by decide +kernel
theorem dX7_areTwoYears_14 : decode cX7_areTwoYears 14 = .ok (.aload_n 0, 1) := by decide +kernel
theorem dX7_areTwoYears_15 : decode cX7_areTwoYears 15 = .ok (.getfield 63, 3) := by decide +kernel
theorem dX7_areTwoYears_18 : decode cX7_areTwoYears 18 = .ok (.aload_n 1, 1) := by decide +kernel
theorem dX7_areTwoYears_19 : decode cX7_areTwoYears 19 = .ok (.getfield 63, 3) := by decide +kernel
theorem dX7_areTwoYears_22 : decode cX7_areTwoYears 22 = .ok (.if_icmp .ne 7, 3) := by decide +kernel
theorem dX7_areTwoYears_25 : decode cX7_areTwoYears 25 = .ok (.iconst 1, 1) := by decide +kernel
theorem dX7_areTwoYears_26 : decode cX7_areTwoYears 26 = .ok (.goto 4, 3) := by decide +kernel
theorem dX7_areTwoYears_29 : decode cX7_areTwoYears 29 = .ok (.iconst 0, 1) := by decide +kernel
theorem dX7_areTwoYears_30 : decode cX7_areTwoYears 30 = .ok (.ireturn, 1) := by decide +kernel
theorem dX7_sumOf_0 : decode cX7_sumOf 0 = .ok (.iconst 0, 1) := by decide +kernel
theorem dX7_sumOf_1 : decode cX7_sumOf 1 = .ok (.istore_n 2, 1) := by decide +kernel
theorem dX7_sumOf_2 : decode cX7_sumOf 2 = .ok (.iconst 0, 1) := by decide +kernel
theorem dX7_sumOf_3 : decode cX7_sumOf 3 = .ok (.istore_n 3, 1) := by decide +kernel
theorem dX7_sumOf_4 : decode cX7_sumOf 4 = .ok (.iload_n 3, 1) := by decide +kernel
theorem dX7_sumOf_5 : decode cX7_sumOf 5 = .ok (.iload_n 1, 1) := by decide +kernel
theorem dX7_sumOf_6 : decode cX7_sumOf 6 = .ok (.if_icmp .ge 21, 3) := by decide +kernel
theorem dX7_sumOf_9 : decode cX7_sumOf 9 = .ok (.iload_n 3, 1) := by decide +kernel
theorem dX7_sumOf_10 : decode cX7_sumOf 10 = .ok (.aload_n 0, 1) := by decide +kernel
theorem dX7_sumOf_11 : decode cX7_sumOf 11 = .ok (.arraylength, 1) := by decide +kernel
theorem dX7_sumOf_12 : decode cX7_sumOf 12 = .ok (.if_icmp .ge 15, 3) := by decide +kernel
theorem dX7_sumOf_15 : decode cX7_sumOf 15 = .ok (.iload_n 2, 1) := by decide +kernel
theorem dX7_sumOf_16 : decode cX7_sumOf 16 = .ok (.aload_n 0, 1) := by decide +kernel
theorem dX7_sumOf_17 : decode cX7_sumOf 17 = .ok (.iload_n 3, 1) := by decide +kernel
theorem dX7_sumOf_18 : decode cX7_sumOf 18 = .ok (.iaload, 1) := by decide +kernel
theorem dX7_sumOf_19 : decode cX7_sumOf 19 = .ok (.iadd, 1) := by decide +kernel
theorem dX7_sumOf_20 : decode cX7_sumOf 20 = .ok (.istore_n 2, 1) := by decide +kernel
theorem dX7_sumOf_21 : decode cX7_sumOf 21 = .ok (.iinc 3 1, 3) := by decide +kernel
theorem dX7_sumOf_24 : decode cX7_sumOf 24 = .ok (.goto (-20), 3) := by decide +kernel
theorem dX7_sumOf_27 : decode cX7_sumOf 27 = .ok (.iload_n 2, 1) := by decide +kernel
theorem dX7_sumOf_28 : decode cX7_sumOf 28 = .ok (.ireturn, 1) := by decide +kernel
theorem dX7_inLeastTerms_0 : decode cX7_inLeastTerms 0 = .ok (.lload_n 0, 1) := by decide +kernel
theorem dX7_inLeastTerms_1 : decode cX7_inLeastTerms 1 = .ok (.lload_n 2, 1) := by decide +kernel
theorem dX7_inLeastTerms_2 : decode cX7_inLeastTerms 2 = .ok (.invokestatic 264, 3) := by decide +kernel
theorem dX7_inLeastTerms_5 : decode cX7_inLeastTerms 5 = .ok (.lstore 5, 2) := by decide +kernel
theorem dX7_inLeastTerms_7 : decode cX7_inLeastTerms 7 = .ok (.lload 5, 2) := by decide +kernel
theorem dX7_inLeastTerms_9 : decode cX7_inLeastTerms 9 = .ok (.lconst 1, 1) := by decide +kernel
theorem dX7_inLeastTerms_10 : decode cX7_inLeastTerms 10 = .ok (.lcmp, 1) := by decide +kernel
theorem dX7_inLeastTerms_11 : decode cX7_inLeastTerms 11 = .ok (.ifCond .ge 14, 3) := by decide +kernel
theorem dX7_inLeastTerms_14 : decode cX7_inLeastTerms 14 = .ok (.iload 4, 2) := by decide +kernel
theorem dX7_inLeastTerms_16 : decode cX7_inLeastTerms 16 = .ok (.ifCond .eq 7, 3) := by decide +kernel
theorem dX7_inLeastTerms_19 : decode cX7_inLeastTerms 19 = .ok (.lload_n 0, 1) := by decide +kernel
theorem dX7_inLeastTerms_20 : decode cX7_inLeastTerms 20 = .ok (.goto 4, 3) := by decide +kernel
theorem dX7_inLeastTerms_23 : decode cX7_inLeastTerms 23 = .ok (.lload_n 2, 1) := by decide +kernel
theorem dX7_inLeastTerms_24 : decode cX7_inLeastTerms 24 = .ok (.lreturn, 1) := by decide +kernel
theorem dX7_inLeastTerms_25 : decode cX7_inLeastTerms 25 = .ok (.iload 4, 2) := by decide +kernel
theorem dX7_inLeastTerms_27 : decode cX7_inLeastTerms 27 = .ok (.ifCond .eq 7, 3) := by decide +kernel
theorem dX7_inLeastTerms_30 : decode cX7_inLeastTerms 30 = .ok (.lload_n 0, 1) := by decide +kernel
theorem dX7_inLeastTerms_31 : decode cX7_inLeastTerms 31 = .ok (.goto 4, 3) := by decide +kernel
theorem dX7_inLeastTerms_34 : decode cX7_inLeastTerms 34 = .ok (.lload_n 2, 1) := by decide +kernel
theorem dX7_inLeastTerms_35 : decode cX7_inLeastTerms 35 = .ok (.lload 5, 2) := by decide +kernel
theorem dX7_inLeastTerms_37 : decode cX7_inLeastTerms 37 = .ok (.ldiv, 1) := by decide +kernel
theorem dX7_inLeastTerms_38 : decode cX7_inLeastTerms 38 = .ok (.lreturn, 1) := by decide +kernel
theorem dX7_commonDivisor_0 : decode cX7_commonDivisor 0 = .ok (.iconst 0, 1) := by decide +kernel
theorem dX7_commonDivisor_1 : decode cX7_commonDivisor 1 = .ok (.istore 4, 2) := by decide +kernel
theorem dX7_commonDivisor_3 : decode cX7_commonDivisor 3 = .ok (.iload 4, 2) := by decide +kernel
theorem dX7_commonDivisor_5 : decode cX7_commonDivisor 5 = .ok (.bipush 100, 2) := by decide +kernel
theorem dX7_commonDivisor_7 : decode cX7_commonDivisor 7 = .ok (.if_icmp .ge 25, 3) := by decide +kernel
theorem dX7_commonDivisor_10 : decode cX7_commonDivisor 10 = .ok (.lload_n 2, 1) := by decide +kernel
theorem dX7_commonDivisor_11 : decode cX7_commonDivisor 11 = .ok (.lconst 0, 1) := by decide +kernel
theorem dX7_commonDivisor_12 : decode cX7_commonDivisor 12 = .ok (.lcmp, 1) := by decide +kernel
theorem dX7_commonDivisor_13 : decode cX7_commonDivisor 13 = .ok (.ifCond .eq 19, 3) := by decide +kernel
theorem dX7_commonDivisor_16 : decode cX7_commonDivisor 16 = .ok (.lload_n 0, 1) := by decide +kernel
theorem dX7_commonDivisor_17 : decode cX7_commonDivisor 17 = .ok (.lload_n 2, 1) := by decide +kernel
theorem dX7_commonDivisor_18 : decode cX7_commonDivisor 18 = .ok (.lrem, 1) := by decide +kernel
theorem dX7_commonDivisor_19 : decode cX7_commonDivisor 19 = .ok (.lstore 5, 2) := by decide +kernel
theorem dX7_commonDivisor_21 : decode cX7_commonDivisor 21 = .ok (.lload_n 2, 1) := by decide +kernel
theorem dX7_commonDivisor_22 : decode cX7_commonDivisor 22 = .ok (.lstore_n 0, 1) := by decide +kernel
theorem dX7_commonDivisor_23 : decode cX7_commonDivisor 23 = .ok (.lload 5, 2) := by decide +kernel
theorem dX7_commonDivisor_25 : decode cX7_commonDivisor 25 = .ok (.lstore_n 2, 1) := by decide +kernel
theorem dX7_commonDivisor_26 : decode cX7_commonDivisor 26 = .ok (.iinc 4 1, 3) := by decide +kernel
theorem dX7_commonDivisor_29 : decode cX7_commonDivisor 29 = .ok (.goto (-26), 3) := by decide +kernel
theorem dX7_commonDivisor_32 : decode cX7_commonDivisor 32 = .ok (.lload_n 0, 1) := by decide +kernel
theorem dX7_commonDivisor_33 : decode cX7_commonDivisor 33 = .ok (.lreturn, 1) := by decide +kernel
theorem dX7_canTryAll_0 : decode cX7_canTryAll 0 = .ok (.aload_n 0, 1) := by decide +kernel
theorem dX7_canTryAll_1 : decode cX7_canTryAll 1 = .ok (.getfield 63, 3) := by decide +kernel
theorem dX7_canTryAll_4 : decode cX7_canTryAll 4 = .ok (.ifCond .eq 10, 3) := by decide +kernel
theorem dX7_canTryAll_7 : decode cX7_canTryAll 7 = .ok (.aload_n 1, 1) := by decide +kernel
theorem dX7_canTryAll_8 : decode cX7_canTryAll 8 = .ok (.getfield 63, 3) := by decide +kernel
theorem dX7_canTryAll_11 : decode cX7_canTryAll 11 = .ok (.ifCond .ne 5, 3) := by decide +kernel
theorem dX7_canTryAll_14 : decode cX7_canTryAll 14 = .ok (.iconst 0, 1) := by decide +kernel
theorem dX7_canTryAll_15 : decode cX7_canTryAll 15 = .ok (.ireturn, 1) := by decide +kernel
theorem dX7_canTryAll_16 : decode cX7_canTryAll 16 = .ok (.aload_n 0, 1) := by decide +kernel
theorem dX7_canTryAll_17 : decode cX7_canTryAll 17 = .ok (.invokevirtual 195, 3) := by decide +kernel
theorem dX7_canTryAll_20 : decode cX7_canTryAll 20 = .ok (.lstore_n 2, 1) := by decide +kernel
theorem dX7_canTryAll_21 : decode cX7_canTryAll 21 = .ok (.aload_n 1, 1) := by decide +kernel
theorem dX7_canTryAll_22 : decode cX7_canTryAll 22 = .ok (.invokevirtual 195, 3) := by decide +kernel
theorem dX7_canTryAll_25 : decode cX7_canTryAll 25 = .ok (.lstore 4, 2) := by decide +kernel
theorem dX7_canTryAll_27 : decode cX7_canTryAll 27 = .ok (.lload_n 2, 1) := by decide +kernel
theorem dX7_canTryAll_28 : decode cX7_canTryAll 28 = .ok (.ldc2_w 268, 3) := by decide +kernel
theorem dX7_canTryAll_31 : decode cX7_canTryAll 31 = .ok (.lcmp, 1) := by decide +kernel
theorem dX7_canTryAll_32 : decode cX7_canTryAll 32 = .ok (.ifCond .gt 27, 3) := by decide +kernel
theorem dX7_canTryAll_35 : decode cX7_canTryAll 35 = .ok (.lload 4, 2) := by decide +kernel
theorem dX7_canTryAll_37 : decode cX7_canTryAll 37 = .ok (.ldc2_w 268, 3) := by decide +kernel
theorem dX7_canTryAll_40 : decode cX7_canTryAll 40 = .ok (.lcmp, 1) := by decide +kernel
theorem dX7_canTryAll_41 : decode cX7_canTryAll 41 = .ok (.ifCond .gt 18, 3) := by decide +kernel
theorem dX7_canTryAll_44 : decode cX7_canTryAll 44 = .ok (.lload_n 2, 1) := by decide +kernel
theorem dX7_canTryAll_45 : decode cX7_canTryAll 45 = .ok (.lload 4, 2) := by decide +kernel
theorem dX7_canTryAll_47 : decode cX7_canTryAll 47 = .ok (.lmul, 1) := by decide +kernel
theorem dX7_canTryAll_48 : decode cX7_canTryAll 48 = .ok (.ldc2_w 268, 3) := by decide +kernel
theorem dX7_canTryAll_51 : decode cX7_canTryAll 51 = .ok (.lcmp, 1) := by decide +kernel
theorem dX7_canTryAll_52 : decode cX7_canTryAll 52 = .ok (.ifCond .gt 7, 3) := by decide +kernel
theorem dX7_canTryAll_55 : decode cX7_canTryAll 55 = .ok (.iconst 1, 1) := by decide +kernel
theorem dX7_canTryAll_56 : decode cX7_canTryAll 56 = .ok (.goto 4, 3) := by decide +kernel
theorem dX7_canTryAll_59 : decode cX7_canTryAll 59 = .ok (.iconst 0, 1) := by decide +kernel
theorem dX7_canTryAll_60 : decode cX7_canTryAll 60 = .ok (.ireturn, 1) := by decide +kernel
theorem dX7_timesTold_0 : decode cX7_timesTold 0 = .ok (.iconst 0, 1) := by decide +kernel
theorem dX7_timesTold_1 : decode cX7_timesTold 1 = .ok (.istore 5, 2) := by decide +kernel
theorem dX7_timesTold_3 : decode cX7_timesTold 3 = .ok (.aload_n 1, 1) := by decide +kernel
theorem dX7_timesTold_4 : decode cX7_timesTold 4 = .ok (.invokevirtual 195, 3) := by decide +kernel
theorem dX7_timesTold_7 : decode cX7_timesTold 7 = .ok (.lstore 6, 2) := by decide +kernel
theorem dX7_timesTold_9 : decode cX7_timesTold 9 = .ok (.aload_n 1, 1) := by decide +kernel
theorem dX7_timesTold_10 : decode cX7_timesTold 10 = .ok (.invokevirtual 104, 3) := by decide +kernel
theorem dX7_timesTold_13 : decode cX7_timesTold 13 = .ok (.lconst 0, 1) := by decide +kernel
theorem dX7_timesTold_14 : decode cX7_timesTold 14 = .ok (.lstore 8, 2) := by decide +kernel
theorem dX7_timesTold_16 : decode cX7_timesTold 16 = .ok (.lload 8, 2) := by decide +kernel
theorem dX7_timesTold_18 : decode cX7_timesTold 18 = .ok (.lload 6, 2) := by decide +kernel
theorem dX7_timesTold_20 : decode cX7_timesTold 20 = .ok (.lcmp, 1) := by decide +kernel
theorem dX7_timesTold_21 : decode cX7_timesTold 21 = .ok (.ifCond .ge 53, 3) := by decide +kernel
theorem dX7_timesTold_24 : decode cX7_timesTold 24 = .ok (.aload_n 0, 1) := by decide +kernel
theorem dX7_timesTold_25 : decode cX7_timesTold 25 = .ok (.getfield 25, 3) := by decide +kernel
theorem dX7_timesTold_28 : decode cX7_timesTold 28 = .ok (.getfield 117, 3) := by decide +kernel
theorem dX7_timesTold_31 : decode cX7_timesTold 31 = .ok (.aload_n 1, 1) := by decide +kernel
theorem dX7_timesTold_32 : decode cX7_timesTold 32 = .ok (.iload_n 2, 1) := by decide +kernel
theorem dX7_timesTold_33 : decode cX7_timesTold 33 = .ok (.iload_n 3, 1) := by decide +kernel
theorem dX7_timesTold_34 : decode cX7_timesTold 34 = .ok (.ifCond .ne 7, 3) := by decide +kernel
theorem dX7_timesTold_37 : decode cX7_timesTold 37 = .ok (.iconst 1, 1) := by decide +kernel
theorem dX7_timesTold_38 : decode cX7_timesTold 38 = .ok (.goto 4, 3) := by decide +kernel
theorem dX7_timesTold_41 : decode cX7_timesTold 41 = .ok (.iconst 0, 1) := by decide +kernel
theorem dX7_timesTold_42 : decode cX7_timesTold 42 = .ok (.invokevirtual 111, 3) := by decide +kernel
theorem dX7_timesTold_45 : decode cX7_timesTold 45 = .ok (.aload_n 0, 1) := by decide +kernel
theorem dX7_timesTold_46 : decode cX7_timesTold 46 = .ok (.getfield 25, 3) := by decide +kernel
theorem dX7_timesTold_49 : decode cX7_timesTold 49 = .ok (.iload_n 3, 1) := by decide +kernel
theorem dX7_timesTold_50 : decode cX7_timesTold 50 = .ok (.invokevirtual 120, 3) := by decide +kernel
theorem dX7_timesTold_53 : decode cX7_timesTold 53 = .ok (.iload 4, 2) := by decide +kernel
theorem dX7_timesTold_55 : decode cX7_timesTold 55 = .ok (.if_icmp .ne 6, 3) := by decide +kernel
theorem dX7_timesTold_58 : decode cX7_timesTold 58 = .ok (.iinc 5 1, 3) := by decide +kernel
theorem dX7_timesTold_61 : decode cX7_timesTold 61 = .ok (.aload_n 1, 1) := by decide +kernel
theorem dX7_timesTold_62 : decode cX7_timesTold 62 = .ok (.invokevirtual 206, 3) := by decide +kernel
theorem dX7_timesTold_65 : decode cX7_timesTold 65 = .ok (.lload 8, 2) := by decide +kernel
theorem dX7_timesTold_67 : decode cX7_timesTold 67 = .ok (.lconst 1, 1) := by decide +kernel
theorem dX7_timesTold_68 : decode cX7_timesTold 68 = .ok (.ladd, 1) := by decide +kernel
theorem dX7_timesTold_69 : decode cX7_timesTold 69 = .ok (.lstore 8, 2) := by decide +kernel
theorem dX7_timesTold_71 : decode cX7_timesTold 71 = .ok (.goto (-55), 3) := by decide +kernel
theorem dX7_timesTold_74 : decode cX7_timesTold 74 = .ok (.iload 5, 2) := by decide +kernel
theorem dX7_timesTold_76 : decode cX7_timesTold 76 = .ok (.ireturn, 1) := by decide +kernel
theorem dX7_allTold_0 : decode cX7_allTold 0 = .ok (.iconst 0, 1) := by decide +kernel
theorem dX7_allTold_1 : decode cX7_allTold 1 = .ok (.istore 4, 2) := by decide +kernel
theorem dX7_allTold_3 : decode cX7_allTold 3 = .ok (.aload_n 1, 1) := by decide +kernel
theorem dX7_allTold_4 : decode cX7_allTold 4 = .ok (.invokevirtual 195, 3) := by decide +kernel
theorem dX7_allTold_7 : decode cX7_allTold 7 = .ok (.lstore 5, 2) := by decide +kernel
theorem dX7_allTold_9 : decode cX7_allTold 9 = .ok (.aload_n 1, 1) := by decide +kernel
theorem dX7_allTold_10 : decode cX7_allTold 10 = .ok (.invokevirtual 104, 3) := by decide +kernel
theorem dX7_allTold_13 : decode cX7_allTold 13 = .ok (.lconst 0, 1) := by decide +kernel
theorem dX7_allTold_14 : decode cX7_allTold 14 = .ok (.lstore 7, 2) := by decide +kernel
theorem dX7_allTold_16 : decode cX7_allTold 16 = .ok (.lload 7, 2) := by decide +kernel
theorem dX7_allTold_18 : decode cX7_allTold 18 = .ok (.lload 5, 2) := by decide +kernel
theorem dX7_allTold_20 : decode cX7_allTold 20 = .ok (.lcmp, 1) := by decide +kernel
theorem dX7_allTold_21 : decode cX7_allTold 21 = .ok (.ifCond .ge 52, 3) := by decide +kernel
theorem dX7_allTold_24 : decode cX7_allTold 24 = .ok (.aload_n 0, 1) := by decide +kernel
theorem dX7_allTold_25 : decode cX7_allTold 25 = .ok (.getfield 25, 3) := by decide +kernel
theorem dX7_allTold_28 : decode cX7_allTold 28 = .ok (.getfield 117, 3) := by decide +kernel
theorem dX7_allTold_31 : decode cX7_allTold 31 = .ok (.aload_n 1, 1) := by decide +kernel
theorem dX7_allTold_32 : decode cX7_allTold 32 = .ok (.iload_n 2, 1) := by decide +kernel
theorem dX7_allTold_33 : decode cX7_allTold 33 = .ok (.iload_n 3, 1) := by decide +kernel
theorem dX7_allTold_34 : decode cX7_allTold 34 = .ok (.ifCond .ne 7, 3) := by decide +kernel
theorem dX7_allTold_37 : decode cX7_allTold 37 = .ok (.iconst 1, 1) := by decide +kernel
theorem dX7_allTold_38 : decode cX7_allTold 38 = .ok (.goto 4, 3) := by decide +kernel
theorem dX7_allTold_41 : decode cX7_allTold 41 = .ok (.iconst 0, 1) := by decide +kernel
theorem dX7_allTold_42 : decode cX7_allTold 42 = .ok (.invokevirtual 111, 3) := by decide +kernel
theorem dX7_allTold_45 : decode cX7_allTold 45 = .ok (.iload 4, 2) := by decide +kernel
theorem dX7_allTold_47 : decode cX7_allTold 47 = .ok (.iconst 1, 1) := by decide +kernel
theorem dX7_allTold_48 : decode cX7_allTold 48 = .ok (.aload_n 0, 1) := by decide +kernel
theorem dX7_allTold_49 : decode cX7_allTold 49 = .ok (.getfield 25, 3) := by decide +kernel
theorem dX7_allTold_52 : decode cX7_allTold 52 = .ok (.iload_n 3, 1) := by decide +kernel
theorem dX7_allTold_53 : decode cX7_allTold 53 = .ok (.invokevirtual 120, 3) := by decide +kernel
theorem dX7_allTold_56 : decode cX7_allTold 56 = .ok (.ishl, 1) := by decide +kernel
theorem dX7_allTold_57 : decode cX7_allTold 57 = .ok (.ior, 1) := by decide +kernel
theorem dX7_allTold_58 : decode cX7_allTold 58 = .ok (.istore 4, 2) := by decide +kernel
theorem dX7_allTold_60 : decode cX7_allTold 60 = .ok (.aload_n 1, 1) := by decide +kernel
theorem dX7_allTold_61 : decode cX7_allTold 61 = .ok (.invokevirtual 206, 3) := by decide +kernel
theorem dX7_allTold_64 : decode cX7_allTold 64 = .ok (.lload 7, 2) := by decide +kernel
theorem dX7_allTold_66 : decode cX7_allTold 66 = .ok (.lconst 1, 1) := by decide +kernel
theorem dX7_allTold_67 : decode cX7_allTold 67 = .ok (.ladd, 1) := by decide +kernel
theorem dX7_allTold_68 : decode cX7_allTold 68 = .ok (.lstore 7, 2) := by decide +kernel
theorem dX7_allTold_70 : decode cX7_allTold 70 = .ok (.goto (-54), 3) := by decide +kernel
theorem dX7_allTold_73 : decode cX7_allTold 73 = .ok (.iload 4, 2) := by decide +kernel
theorem dX7_allTold_75 : decode cX7_allTold 75 = .ok (.ireturn, 1) := by decide +kernel
theorem dX7_someCoinMakesGreater_0 : decode cX7_someCoinMakesGreater 0 = .ok (.iconst 0, 1) := by decide +kernel
theorem dX7_someCoinMakesGreater_1 : decode cX7_someCoinMakesGreater 1 = .ok (.istore_n 3, 1) := by decide +kernel
theorem dX7_someCoinMakesGreater_2 : decode cX7_someCoinMakesGreater 2 = .ok (.iload_n 3, 1) := by decide +kernel
theorem dX7_someCoinMakesGreater_3 : decode cX7_someCoinMakesGreater 3 = .ok (.iconst 3, 1) := by decide +kernel
theorem dX7_someCoinMakesGreater_4 : decode cX7_someCoinMakesGreater 4 = .ok (.if_icmp .ge 56, 3) := by decide +kernel
theorem dX7_someCoinMakesGreater_7 : decode cX7_someCoinMakesGreater 7 = .ok (.iconst 0, 1) := by decide +kernel
theorem dX7_someCoinMakesGreater_8 : decode cX7_someCoinMakesGreater 8 = .ok (.istore 4, 2) := by decide +kernel
theorem dX7_someCoinMakesGreater_10 : decode cX7_someCoinMakesGreater 10 = .ok (.iload 4, 2) := by decide +kernel
theorem dX7_someCoinMakesGreater_12 : decode cX7_someCoinMakesGreater 12 = .ok (.iconst 3, 1) := by decide +kernel
theorem dX7_someCoinMakesGreater_13 : decode cX7_someCoinMakesGreater 13 = .ok (.if_icmp .ge 41, 3) := by decide +kernel
theorem dX7_someCoinMakesGreater_16 : decode cX7_someCoinMakesGreater 16 = .ok (.aload_n 0, 1) := by decide +kernel
theorem dX7_someCoinMakesGreater_17 : decode cX7_someCoinMakesGreater 17 = .ok (.getfield 43, 3) := by decide +kernel
theorem dX7_someCoinMakesGreater_20 : decode cX7_someCoinMakesGreater 20 = .ok (.iload_n 3, 1) := by decide +kernel
theorem dX7_someCoinMakesGreater_21 : decode cX7_someCoinMakesGreater 21 = .ok (.iaload, 1) := by decide +kernel
theorem dX7_someCoinMakesGreater_22 : decode cX7_someCoinMakesGreater 22 = .ok (.aload_n 0, 1) := by decide +kernel
theorem dX7_someCoinMakesGreater_23 : decode cX7_someCoinMakesGreater 23 = .ok (.getfield 43, 3) := by decide +kernel
theorem dX7_someCoinMakesGreater_26 : decode cX7_someCoinMakesGreater 26 = .ok (.iload 4, 2) := by decide +kernel
theorem dX7_someCoinMakesGreater_28 : decode cX7_someCoinMakesGreater 28 = .ok (.iaload, 1) := by decide +kernel
theorem dX7_someCoinMakesGreater_29 : decode cX7_someCoinMakesGreater 29 = .ok (.iconst 2, 1) := by decide +kernel
theorem dX7_someCoinMakesGreater_30 : decode cX7_someCoinMakesGreater 30 = .ok (.iadd, 1) := by decide +kernel
theorem dX7_someCoinMakesGreater_31 : decode cX7_someCoinMakesGreater 31 = .ok (.if_icmp .lt 17, 3) := by decide +kernel
theorem dX7_someCoinMakesGreater_34 : decode cX7_someCoinMakesGreater 34 = .ok (.aload_n 0, 1) := by decide +kernel
theorem dX7_someCoinMakesGreater_35 : decode cX7_someCoinMakesGreater 35 = .ok (.iload_n 1, 1) := by decide +kernel
theorem dX7_someCoinMakesGreater_36 : decode cX7_someCoinMakesGreater 36 = .ok (.iload_n 2, 1) := by decide +kernel
theorem dX7_someCoinMakesGreater_37 : decode cX7_someCoinMakesGreater 37 = .ok (.iload_n 3, 1) := by decide +kernel
theorem dX7_someCoinMakesGreater_38 : decode cX7_someCoinMakesGreater 38 = .ok (.iload 4, 2) := by decide +kernel
theorem dX7_someCoinMakesGreater_40 : decode cX7_someCoinMakesGreater 40 = .ok (.invokevirtual 270, 3) := by decide +kernel
theorem dX7_someCoinMakesGreater_43 : decode cX7_someCoinMakesGreater 43 = .ok (.ifCond .eq 5, 3) := by decide +kernel
theorem dX7_someCoinMakesGreater_46 : decode cX7_someCoinMakesGreater 46 = .ok (.iconst 1, 1) := by decide +kernel
theorem dX7_someCoinMakesGreater_47 : decode cX7_someCoinMakesGreater 47 = .ok (.ireturn, 1) := by decide +kernel
theorem dX7_someCoinMakesGreater_48 : decode cX7_someCoinMakesGreater 48 = .ok (.iinc 4 1, 3) := by decide +kernel
theorem dX7_someCoinMakesGreater_51 : decode cX7_someCoinMakesGreater 51 = .ok (.goto (-41), 3) := by decide +kernel
theorem dX7_someCoinMakesGreater_54 : decode cX7_someCoinMakesGreater 54 = .ok (.iinc 3 1, 3) := by decide +kernel
theorem dX7_someCoinMakesGreater_57 : decode cX7_someCoinMakesGreater 57 = .ok (.goto (-55), 3) := by decide +kernel
theorem dX7_someCoinMakesGreater_60 : decode cX7_someCoinMakesGreater 60 = .ok (.iconst 0, 1) := by decide +kernel
theorem dX7_someCoinMakesGreater_61 : decode cX7_someCoinMakesGreater 61 = .ok (.ireturn, 1) := by decide +kernel
theorem dX7_coinMakesGreater_0 : decode cX7_coinMakesGreater 0 = .ok (.iconst 0, 1) := by decide +kernel
theorem dX7_coinMakesGreater_1 : decode cX7_coinMakesGreater 1 = .ok (.istore 5, 2) := by decide +kernel
theorem dX7_coinMakesGreater_3 : decode cX7_coinMakesGreater 3 = .ok (.iload 5, 2) := by decide +kernel
theorem dX7_coinMakesGreater_5 : decode cX7_coinMakesGreater 5 = .ok (.iconst 3, 1) := by decide +kernel
theorem dX7_coinMakesGreater_6 : decode cX7_coinMakesGreater 6 = .ok (.if_icmp .ge 48, 3) := by decide +kernel
theorem dX7_coinMakesGreater_9 : decode cX7_coinMakesGreater 9 = .ok (.aload_n 0, 1) := by decide +kernel
theorem dX7_coinMakesGreater_10 : decode cX7_coinMakesGreater 10 = .ok (.getfield 47, 3) := by decide +kernel
theorem dX7_coinMakesGreater_13 : decode cX7_coinMakesGreater 13 = .ok (.iload 5, 2) := by decide +kernel
theorem dX7_coinMakesGreater_15 : decode cX7_coinMakesGreater 15 = .ok (.aload_n 0, 1) := by decide +kernel
theorem dX7_coinMakesGreater_16 : decode cX7_coinMakesGreater 16 = .ok (.getfield 43, 3) := by decide +kernel
theorem dX7_coinMakesGreater_19 : decode cX7_coinMakesGreater 19 = .ok (.iload 5, 2) := by decide +kernel
theorem dX7_coinMakesGreater_21 : decode cX7_coinMakesGreater 21 = .ok (.iaload, 1) := by decide +kernel
theorem dX7_coinMakesGreater_22 : decode cX7_coinMakesGreater 22 = .ok (.iload 5, 2) := by decide +kernel
theorem dX7_coinMakesGreater_24 : decode cX7_coinMakesGreater 24 = .ok (.iload_n 3, 1) := by decide +kernel
theorem dX7_coinMakesGreater_25 : decode cX7_coinMakesGreater 25 = .ok (.if_icmp .ne 7, 3) := by decide +kernel
theorem dX7_coinMakesGreater_28 : decode cX7_coinMakesGreater 28 = .ok (.iconst 1, 1) := by decide +kernel
theorem dX7_coinMakesGreater_29 : decode cX7_coinMakesGreater 29 = .ok (.goto 4, 3) := by decide +kernel
theorem dX7_coinMakesGreater_32 : decode cX7_coinMakesGreater 32 = .ok (.iconst 0, 1) := by decide +kernel
theorem dX7_coinMakesGreater_33 : decode cX7_coinMakesGreater 33 = .ok (.isub, 1) := by decide +kernel
theorem dX7_coinMakesGreater_34 : decode cX7_coinMakesGreater 34 = .ok (.iload 5, 2) := by decide +kernel
theorem dX7_coinMakesGreater_36 : decode cX7_coinMakesGreater 36 = .ok (.iload 4, 2) := by decide +kernel
theorem dX7_coinMakesGreater_38 : decode cX7_coinMakesGreater 38 = .ok (.if_icmp .ne 7, 3) := by decide +kernel
theorem dX7_coinMakesGreater_41 : decode cX7_coinMakesGreater 41 = .ok (.iconst 1, 1) := by decide +kernel
theorem dX7_coinMakesGreater_42 : decode cX7_coinMakesGreater 42 = .ok (.goto 4, 3) := by decide +kernel
theorem dX7_coinMakesGreater_45 : decode cX7_coinMakesGreater 45 = .ok (.iconst 0, 1) := by decide +kernel
theorem dX7_coinMakesGreater_46 : decode cX7_coinMakesGreater 46 = .ok (.iadd, 1) := by decide +kernel
theorem dX7_coinMakesGreater_47 : decode cX7_coinMakesGreater 47 = .ok (.iastore, 1) := by decide +kernel
theorem dX7_coinMakesGreater_48 : decode cX7_coinMakesGreater 48 = .ok (.iinc 5 1, 3) := by decide +kernel
theorem dX7_coinMakesGreater_51 : decode cX7_coinMakesGreater 51 = .ok (.goto (-48), 3) := by decide +kernel
theorem dX7_coinMakesGreater_54 : decode cX7_coinMakesGreater 54 = .ok (.iload_n 1, 1) := by decide +kernel
theorem dX7_coinMakesGreater_55 : decode cX7_coinMakesGreater 55 = .ok (.iload_n 2, 1) := by decide +kernel
theorem dX7_coinMakesGreater_56 : decode cX7_coinMakesGreater 56 = .ok (.aload_n 0, 1) := by decide +kernel
theorem dX7_coinMakesGreater_57 : decode cX7_coinMakesGreater 57 = .ok (.getfield 47, 3) := by decide +kernel
theorem dX7_coinMakesGreater_60 : decode cX7_coinMakesGreater 60 = .ok (.iconst 3, 1) := by decide +kernel
theorem dX7_coinMakesGreater_61 : decode cX7_coinMakesGreater 61 = .ok (.invokestatic 172, 3) := by decide +kernel
theorem dX7_coinMakesGreater_64 : decode cX7_coinMakesGreater 64 = .ok (.iload_n 1, 1) := by decide +kernel
theorem dX7_coinMakesGreater_65 : decode cX7_coinMakesGreater 65 = .ok (.iload_n 2, 1) := by decide +kernel
theorem dX7_coinMakesGreater_66 : decode cX7_coinMakesGreater 66 = .ok (.aload_n 0, 1) := by decide +kernel
theorem dX7_coinMakesGreater_67 : decode cX7_coinMakesGreater 67 = .ok (.getfield 43, 3) := by decide +kernel
theorem dX7_coinMakesGreater_70 : decode cX7_coinMakesGreater 70 = .ok (.iconst 3, 1) := by decide +kernel
theorem dX7_coinMakesGreater_71 : decode cX7_coinMakesGreater 71 = .ok (.invokestatic 172, 3) := by decide +kernel
theorem dX7_coinMakesGreater_74 : decode cX7_coinMakesGreater 74 = .ok (.lcmp, 1) := by decide +kernel
theorem dX7_coinMakesGreater_75 : decode cX7_coinMakesGreater 75 = .ok (.ifCond .le 7, 3) := by decide +kernel
theorem dX7_coinMakesGreater_78 : decode cX7_coinMakesGreater 78 = .ok (.iconst 1, 1) := by decide +kernel
theorem dX7_coinMakesGreater_79 : decode cX7_coinMakesGreater 79 = .ok (.goto 4, 3) := by decide +kernel
theorem dX7_coinMakesGreater_82 : decode cX7_coinMakesGreater 82 = .ok (.iconst 0, 1) := by decide +kernel
theorem dX7_coinMakesGreater_83 : decode cX7_coinMakesGreater 83 = .ok (.ireturn, 1) := by decide +kernel
theorem dX7_firstParting_0 : decode cX7_firstParting 0 = .ok (.bipush (-9), 2) := by decide +kernel
theorem dX7_firstParting_2 : decode cX7_firstParting 2 = .ok (.istore_n 3, 1) := by decide +kernel
theorem dX7_firstParting_3 : decode cX7_firstParting 3 = .ok (.iconst 3, 1) := by decide +kernel
theorem dX7_firstParting_4 : decode cX7_firstParting 4 = .ok (.istore 4, 2) := by decide +kernel
theorem dX7_firstParting_6 : decode cX7_firstParting 6 = .ok (.iconst 0, 1) := by decide +kernel
theorem dX7_firstParting_7 : decode cX7_firstParting 7 = .ok (.istore 5, 2) := by decide +kernel
theorem dX7_firstParting_9 : decode cX7_firstParting 9 = .ok (.iload 5, 2) := by decide +kernel
theorem dX7_firstParting_11 : decode cX7_firstParting 11 = .ok (.bipush 6, 2) := by decide +kernel
theorem dX7_firstParting_13 : decode cX7_firstParting 13 = .ok (.if_icmp .ge 71, 3) := by decide +kernel
theorem dX7_firstParting_16 : decode cX7_firstParting 16 = .ok (.iload 5, 2) := by decide +kernel
theorem dX7_firstParting_18 : decode cX7_firstParting 18 = .ok (.iload 5, 2) := by decide +kernel
theorem dX7_firstParting_20 : decode cX7_firstParting 20 = .ok (.invokestatic 274, 3) := by decide +kernel
theorem dX7_firstParting_23 : decode cX7_firstParting 23 = .ok (.ifCond .eq 7, 3) := by decide +kernel
theorem dX7_firstParting_26 : decode cX7_firstParting 26 = .ok (.iload_n 2, 1) := by decide +kernel
theorem dX7_firstParting_27 : decode cX7_firstParting 27 = .ok (.goto 4, 3) := by decide +kernel
theorem dX7_firstParting_30 : decode cX7_firstParting 30 = .ok (.iconst 0, 1) := by decide +kernel
theorem dX7_firstParting_31 : decode cX7_firstParting 31 = .ok (.aload_n 0, 1) := by decide +kernel
theorem dX7_firstParting_32 : decode cX7_firstParting 32 = .ok (.aload_n 1, 1) := by decide +kernel
theorem dX7_firstParting_33 : decode cX7_firstParting 33 = .ok (.invokestatic 180, 3) := by decide +kernel
theorem dX7_firstParting_36 : decode cX7_firstParting 36 = .ok (.istore 6, 2) := by decide +kernel
theorem dX7_firstParting_38 : decode cX7_firstParting 38 = .ok (.iload 6, 2) := by decide +kernel
theorem dX7_firstParting_40 : decode cX7_firstParting 40 = .ok (.iconst 3, 1) := by decide +kernel
theorem dX7_firstParting_41 : decode cX7_firstParting 41 = .ok (.if_icmp .eq 16, 3) := by decide +kernel
theorem dX7_firstParting_44 : decode cX7_firstParting 44 = .ok (.iload_n 3, 1) := by decide +kernel
theorem dX7_firstParting_45 : decode cX7_firstParting 45 = .ok (.bipush (-9), 2) := by decide +kernel
theorem dX7_firstParting_47 : decode cX7_firstParting 47 = .ok (.if_icmp .ne 10, 3) := by decide +kernel
theorem dX7_firstParting_50 : decode cX7_firstParting 50 = .ok (.iload 5, 2) := by decide +kernel
theorem dX7_firstParting_52 : decode cX7_firstParting 52 = .ok (.istore_n 3, 1) := by decide +kernel
theorem dX7_firstParting_53 : decode cX7_firstParting 53 = .ok (.iload 6, 2) := by decide +kernel
theorem dX7_firstParting_55 : decode cX7_firstParting 55 = .ok (.istore 4, 2) := by decide +kernel
theorem dX7_firstParting_57 : decode cX7_firstParting 57 = .ok (.iload 6, 2) := by decide +kernel
theorem dX7_firstParting_59 : decode cX7_firstParting 59 = .ok (.iconst 3, 1) := by decide +kernel
theorem dX7_firstParting_60 : decode cX7_firstParting 60 = .ok (.if_icmp .eq 18, 3) := by decide +kernel
theorem dX7_firstParting_63 : decode cX7_firstParting 63 = .ok (.iload 6, 2) := by decide +kernel
theorem dX7_firstParting_65 : decode cX7_firstParting 65 = .ok (.iload 4, 2) := by decide +kernel
theorem dX7_firstParting_67 : decode cX7_firstParting 67 = .ok (.if_icmp .eq 11, 3) := by decide +kernel
theorem dX7_firstParting_70 : decode cX7_firstParting 70 = .ok (.bipush 10, 2) := by decide +kernel
theorem dX7_firstParting_72 : decode cX7_firstParting 72 = .ok (.iload_n 3, 1) := by decide +kernel
theorem dX7_firstParting_73 : decode cX7_firstParting 73 = .ok (.imul, 1) := by decide +kernel
theorem dX7_firstParting_74 : decode cX7_firstParting 74 = .ok (.iload 5, 2) := by decide +kernel
theorem dX7_firstParting_76 : decode cX7_firstParting 76 = .ok (.iadd, 1) := by decide +kernel
theorem dX7_firstParting_77 : decode cX7_firstParting 77 = .ok (.ireturn, 1) := by decide +kernel
theorem dX7_firstParting_78 : decode cX7_firstParting 78 = .ok (.iinc 5 1, 3) := by decide +kernel
theorem dX7_firstParting_81 : decode cX7_firstParting 81 = .ok (.goto (-72), 3) := by decide +kernel
theorem dX7_firstParting_84 : decode cX7_firstParting 84 = .ok (.bipush (-9), 2) := by decide +kernel
theorem dX7_firstParting_86 : decode cX7_firstParting 86 = .ok (.ireturn, 1) := by decide +kernel
theorem dX7_poorBelow_0 : decode cX7_poorBelow 0 = .ok (.iconst 0, 1) := by decide +kernel
theorem dX7_poorBelow_1 : decode cX7_poorBelow 1 = .ok (.istore_n 2, 1) := by decide +kernel
theorem dX7_poorBelow_2 : decode cX7_poorBelow 2 = .ok (.iconst 0, 1) := by decide +kernel
theorem dX7_poorBelow_3 : decode cX7_poorBelow 3 = .ok (.istore_n 3, 1) := by decide +kernel
theorem dX7_poorBelow_4 : decode cX7_poorBelow 4 = .ok (.iload_n 3, 1) := by decide +kernel
theorem dX7_poorBelow_5 : decode cX7_poorBelow 5 = .ok (.aload_n 0, 1) := by decide +kernel
theorem dX7_poorBelow_6 : decode cX7_poorBelow 6 = .ok (.getfield 63, 3) := by decide +kernel
theorem dX7_poorBelow_9 : decode cX7_poorBelow 9 = .ok (.if_icmp .ge 22, 3) := by decide +kernel
theorem dX7_poorBelow_12 : decode cX7_poorBelow 12 = .ok (.aload_n 0, 1) := by decide +kernel
theorem dX7_poorBelow_13 : decode cX7_poorBelow 13 = .ok (.getfield 75, 3) := by decide +kernel
theorem dX7_poorBelow_16 : decode cX7_poorBelow 16 = .ok (.iload_n 3, 1) := by decide +kernel
theorem dX7_poorBelow_17 : decode cX7_poorBelow 17 = .ok (.iaload, 1) := by decide +kernel
theorem dX7_poorBelow_18 : decode cX7_poorBelow 18 = .ok (.iload_n 1, 1) := by decide +kernel
theorem dX7_poorBelow_19 : decode cX7_poorBelow 19 = .ok (.if_icmp .ge 6, 3) := by decide +kernel
theorem dX7_poorBelow_22 : decode cX7_poorBelow 22 = .ok (.iinc 2 1, 3) := by decide +kernel
theorem dX7_poorBelow_25 : decode cX7_poorBelow 25 = .ok (.iinc 3 1, 3) := by decide +kernel
theorem dX7_poorBelow_28 : decode cX7_poorBelow 28 = .ok (.goto (-24), 3) := by decide +kernel
theorem dX7_poorBelow_31 : decode cX7_poorBelow 31 = .ok (.iload_n 2, 1) := by decide +kernel
theorem dX7_poorBelow_32 : decode cX7_poorBelow 32 = .ok (.ireturn, 1) := by decide +kernel
theorem dX7_lackBelow_0 : decode cX7_lackBelow 0 = .ok (.iconst 0, 1) := by decide +kernel
theorem dX7_lackBelow_1 : decode cX7_lackBelow 1 = .ok (.istore_n 2, 1) := by decide +kernel
theorem dX7_lackBelow_2 : decode cX7_lackBelow 2 = .ok (.iconst 0, 1) := by decide +kernel
theorem dX7_lackBelow_3 : decode cX7_lackBelow 3 = .ok (.istore_n 3, 1) := by decide +kernel
theorem dX7_lackBelow_4 : decode cX7_lackBelow 4 = .ok (.iload_n 3, 1) := by decide +kernel
theorem dX7_lackBelow_5 : decode cX7_lackBelow 5 = .ok (.aload_n 0, 1) := by decide +kernel
theorem dX7_lackBelow_6 : decode cX7_lackBelow 6 = .ok (.getfield 63, 3) := by decide +kernel
theorem dX7_lackBelow_9 : decode cX7_lackBelow 9 = .ok (.if_icmp .ge 24, 3) := by decide +kernel
theorem dX7_lackBelow_12 : decode cX7_lackBelow 12 = .ok (.iload_n 2, 1) := by decide +kernel
theorem dX7_lackBelow_13 : decode cX7_lackBelow 13 = .ok (.iconst 0, 1) := by decide +kernel
theorem dX7_lackBelow_14 : decode cX7_lackBelow 14 = .ok (.iload_n 1, 1) := by decide +kernel
theorem dX7_lackBelow_15 : decode cX7_lackBelow 15 = .ok (.aload_n 0, 1) := by decide +kernel
theorem dX7_lackBelow_16 : decode cX7_lackBelow 16 = .ok (.getfield 75, 3) := by decide +kernel
theorem dX7_lackBelow_19 : decode cX7_lackBelow 19 = .ok (.iload_n 3, 1) := by decide +kernel
theorem dX7_lackBelow_20 : decode cX7_lackBelow 20 = .ok (.iaload, 1) := by decide +kernel
theorem dX7_lackBelow_21 : decode cX7_lackBelow 21 = .ok (.isub, 1) := by decide +kernel
theorem dX7_lackBelow_22 : decode cX7_lackBelow 22 = .ok (.invokestatic 277, 3) := by decide +kernel
theorem dX7_lackBelow_25 : decode cX7_lackBelow 25 = .ok (.iadd, 1) := by decide +kernel
theorem dX7_lackBelow_26 : decode cX7_lackBelow 26 = .ok (.istore_n 2, 1) := by decide +kernel
theorem dX7_lackBelow_27 : decode cX7_lackBelow 27 = .ok (.iinc 3 1, 3) := by decide +kernel
theorem dX7_lackBelow_30 : decode cX7_lackBelow 30 = .ok (.goto (-26), 3) := by decide +kernel
theorem dX7_lackBelow_33 : decode cX7_lackBelow 33 = .ok (.iload_n 2, 1) := by decide +kernel
theorem dX7_lackBelow_34 : decode cX7_lackBelow 34 = .ok (.ireturn, 1) := by decide +kernel
theorem dX7_spreadWithin_0 : decode cX7_spreadWithin 0 = .ok (.lconst 0, 1) := by decide +kernel
theorem dX7_spreadWithin_1 : decode cX7_spreadWithin 1 = .ok (.lstore_n 3, 1) := by decide +kernel
theorem dX7_spreadWithin_2 : decode cX7_spreadWithin 2 = .ok (.lconst 0, 1) := by decide +kernel
theorem dX7_spreadWithin_3 : decode cX7_spreadWithin 3 = .ok (.lstore 5, 2) := by decide +kernel
theorem dX7_spreadWithin_5 : decode cX7_spreadWithin 5 = .ok (.lconst 0, 1) := by decide +kernel
theorem dX7_spreadWithin_6 : decode cX7_spreadWithin 6 = .ok (.lstore 7, 2) := by decide +kernel
theorem dX7_spreadWithin_8 : decode cX7_spreadWithin 8 = .ok (.iconst 0, 1) := by decide +kernel
theorem dX7_spreadWithin_9 : decode cX7_spreadWithin 9 = .ok (.istore 9, 2) := by decide +kernel
theorem dX7_spreadWithin_11 : decode cX7_spreadWithin 11 = .ok (.iload 9, 2) := by decide +kernel
theorem dX7_spreadWithin_13 : decode cX7_spreadWithin 13 = .ok (.aload_n 0, 1) := by decide +kernel
theorem dX7_spreadWithin_14 : decode cX7_spreadWithin 14 = .ok (.getfield 63, 3) := by decide +kernel
theorem dX7_spreadWithin_17 : decode cX7_spreadWithin 17 = .ok (.if_icmp .ge 64, 3) := by decide +kernel
theorem dX7_spreadWithin_20 : decode cX7_spreadWithin 20 = .ok (.iload_n 1, 1) := by decide +kernel
theorem dX7_spreadWithin_21 : decode cX7_spreadWithin 21 = .ok (.iconst (-1), 1) := by decide +kernel
theorem dX7_spreadWithin_22 : decode cX7_spreadWithin 22 = .ok (.if_icmp .eq 14, 3) := by decide +kernel
theorem dX7_spreadWithin_25 : decode cX7_spreadWithin 25 = .ok (.aload_n 0, 1) := by decide +kernel
theorem dX7_spreadWithin_26 : decode cX7_spreadWithin 26 = .ok (.getfield 84, 3) := by decide +kernel
theorem dX7_spreadWithin_29 : decode cX7_spreadWithin 29 = .ok (.iload 9, 2) := by decide +kernel
theorem dX7_spreadWithin_31 : decode cX7_spreadWithin 31 = .ok (.iaload, 1) := by decide +kernel
theorem dX7_spreadWithin_32 : decode cX7_spreadWithin 32 = .ok (.iload_n 1, 1) := by decide +kernel
theorem dX7_spreadWithin_33 : decode cX7_spreadWithin 33 = .ok (.if_icmp .ne 42, 3) := by decide +kernel
theorem dX7_spreadWithin_36 : decode cX7_spreadWithin 36 = .ok (.lload_n 3, 1) := by decide +kernel
theorem dX7_spreadWithin_37 : decode cX7_spreadWithin 37 = .ok (.lconst 1, 1) := by decide +kernel
theorem dX7_spreadWithin_38 : decode cX7_spreadWithin 38 = .ok (.ladd, 1) := by decide +kernel
theorem dX7_spreadWithin_39 : decode cX7_spreadWithin 39 = .ok (.lstore_n 3, 1) := by decide +kernel
theorem dX7_spreadWithin_40 : decode cX7_spreadWithin 40 = .ok (.lload 5, 2) := by decide +kernel
theorem dX7_spreadWithin_42 : decode cX7_spreadWithin 42 = .ok (.aload_n 0, 1) := by decide +kernel
theorem dX7_spreadWithin_43 : decode cX7_spreadWithin 43 = .ok (.getfield 75, 3) := by decide +kernel
theorem dX7_spreadWithin_46 : decode cX7_spreadWithin 46 = .ok (.iload 9, 2) := by decide +kernel
theorem dX7_spreadWithin_48 : decode cX7_spreadWithin 48 = .ok (.iaload, 1) := by decide +kernel
theorem dX7_spreadWithin_49 : decode cX7_spreadWithin 49 = .ok (.i2l, 1) := by decide +kernel
theorem dX7_spreadWithin_50 : decode cX7_spreadWithin 50 = .ok (.ladd, 1) := by decide +kernel
theorem dX7_spreadWithin_51 : decode cX7_spreadWithin 51 = .ok (.lstore 5, 2) := by decide +kernel
theorem dX7_spreadWithin_53 : decode cX7_spreadWithin 53 = .ok (.lload 7, 2) := by decide +kernel
theorem dX7_spreadWithin_55 : decode cX7_spreadWithin 55 = .ok (.aload_n 0, 1) := by decide +kernel
theorem dX7_spreadWithin_56 : decode cX7_spreadWithin 56 = .ok (.getfield 75, 3) := by decide +kernel
theorem dX7_spreadWithin_59 : decode cX7_spreadWithin 59 = .ok (.iload 9, 2) := by decide +kernel
theorem dX7_spreadWithin_61 : decode cX7_spreadWithin 61 = .ok (.iaload, 1) := by decide +kernel
theorem dX7_spreadWithin_62 : decode cX7_spreadWithin 62 = .ok (.i2l, 1) := by decide +kernel
theorem dX7_spreadWithin_63 : decode cX7_spreadWithin 63 = .ok (.aload_n 0, 1) := by decide +kernel
theorem dX7_spreadWithin_64 : decode cX7_spreadWithin 64 = .ok (.getfield 75, 3) := by decide +kernel
theorem dX7_spreadWithin_67 : decode cX7_spreadWithin 67 = .ok (.iload 9, 2) := by decide +kernel
theorem dX7_spreadWithin_69 : decode cX7_spreadWithin 69 = .ok (.iaload, 1) := by decide +kernel
theorem dX7_spreadWithin_70 : decode cX7_spreadWithin 70 = .ok (.i2l, 1) := by decide +kernel
theorem dX7_spreadWithin_71 : decode cX7_spreadWithin 71 = .ok (.lmul, 1) := by decide +kernel
theorem dX7_spreadWithin_72 : decode cX7_spreadWithin 72 = .ok (.ladd, 1) := by decide +kernel
theorem dX7_spreadWithin_73 : decode cX7_spreadWithin 73 = .ok (.lstore 7, 2) := by decide +kernel
theorem dX7_spreadWithin_75 : decode cX7_spreadWithin 75 = .ok (.iinc 9 1, 3) := by decide +kernel
theorem dX7_spreadWithin_78 : decode cX7_spreadWithin 78 = .ok (.goto (-67), 3) := by decide +kernel
theorem dX7_spreadWithin_81 : decode cX7_spreadWithin 81 = .ok (.lload_n 3, 1) := by decide +kernel
theorem dX7_spreadWithin_82 : decode cX7_spreadWithin 82 = .ok (.lconst 0, 1) := by decide +kernel
theorem dX7_spreadWithin_83 : decode cX7_spreadWithin 83 = .ok (.lcmp, 1) := by decide +kernel
theorem dX7_spreadWithin_84 : decode cX7_spreadWithin 84 = .ok (.ifCond .ne 10, 3) := by decide +kernel
theorem dX7_spreadWithin_87 : decode cX7_spreadWithin 87 = .ok (.lconst 0, 1) := by decide +kernel
theorem dX7_spreadWithin_88 : decode cX7_spreadWithin 88 = .ok (.lconst 1, 1) := by decide +kernel
theorem dX7_spreadWithin_89 : decode cX7_spreadWithin 89 = .ok (.iload_n 2, 1) := by decide +kernel
theorem dX7_spreadWithin_90 : decode cX7_spreadWithin 90 = .ok (.invokestatic 138, 3) := by decide +kernel
theorem dX7_spreadWithin_93 : decode cX7_spreadWithin 93 = .ok (.lreturn, 1) := by decide +kernel
theorem dX7_spreadWithin_94 : decode cX7_spreadWithin 94 = .ok (.lload_n 3, 1) := by decide +kernel
theorem dX7_spreadWithin_95 : decode cX7_spreadWithin 95 = .ok (.lload 7, 2) := by decide +kernel
theorem dX7_spreadWithin_97 : decode cX7_spreadWithin 97 = .ok (.lmul, 1) := by decide +kernel
theorem dX7_spreadWithin_98 : decode cX7_spreadWithin 98 = .ok (.lload 5, 2) := by decide +kernel
theorem dX7_spreadWithin_100 : decode cX7_spreadWithin 100 = .ok (.lload 5, 2) := by decide +kernel
theorem dX7_spreadWithin_102 : decode cX7_spreadWithin 102 = .ok (.lmul, 1) := by decide +kernel
theorem dX7_spreadWithin_103 : decode cX7_spreadWithin 103 = .ok (.lsub, 1) := by decide +kernel
theorem dX7_spreadWithin_104 : decode cX7_spreadWithin 104 = .ok (.lload_n 3, 1) := by decide +kernel
theorem dX7_spreadWithin_105 : decode cX7_spreadWithin 105 = .ok (.aload_n 0, 1) := by decide +kernel
theorem dX7_spreadWithin_106 : decode cX7_spreadWithin 106 = .ok (.getfield 63, 3) := by decide +kernel
theorem dX7_spreadWithin_109 : decode cX7_spreadWithin 109 = .ok (.i2l, 1) := by decide +kernel
theorem dX7_spreadWithin_110 : decode cX7_spreadWithin 110 = .ok (.lmul, 1) := by decide +kernel
theorem dX7_spreadWithin_111 : decode cX7_spreadWithin 111 = .ok (.iload_n 2, 1) := by decide +kernel
theorem dX7_spreadWithin_112 : decode cX7_spreadWithin 112 = .ok (.invokestatic 138, 3) := by decide +kernel
theorem dX7_spreadWithin_115 : decode cX7_spreadWithin 115 = .ok (.lreturn, 1) := by decide +kernel
theorem dX7_spreadBetween_0 : decode cX7_spreadBetween 0 = .ok (.aload_n 0, 1) := by decide +kernel
theorem dX7_spreadBetween_1 : decode cX7_spreadBetween 1 = .ok (.getfield 63, 3) := by decide +kernel
theorem dX7_spreadBetween_4 : decode cX7_spreadBetween 4 = .ok (.i2l, 1) := by decide +kernel
theorem dX7_spreadBetween_5 : decode cX7_spreadBetween 5 = .ok (.lstore_n 2, 1) := by decide +kernel
theorem dX7_spreadBetween_6 : decode cX7_spreadBetween 6 = .ok (.aload_n 0, 1) := by decide +kernel
theorem dX7_spreadBetween_7 : decode cX7_spreadBetween 7 = .ok (.getfield 75, 3) := by decide +kernel
theorem dX7_spreadBetween_10 : decode cX7_spreadBetween 10 = .ok (.aload_n 0, 1) := by decide +kernel
theorem dX7_spreadBetween_11 : decode cX7_spreadBetween 11 = .ok (.getfield 63, 3) := by decide +kernel
theorem dX7_spreadBetween_14 : decode cX7_spreadBetween 14 = .ok (.invokestatic 91, 3) := by decide +kernel
theorem dX7_spreadBetween_17 : decode cX7_spreadBetween 17 = .ok (.i2l, 1) := by decide +kernel
theorem dX7_spreadBetween_18 : decode cX7_spreadBetween 18 = .ok (.lstore 4, 2) := by decide +kernel
theorem dX7_spreadBetween_20 : decode cX7_spreadBetween 20 = .ok (.lconst 1, 1) := by decide +kernel
theorem dX7_spreadBetween_21 : decode cX7_spreadBetween 21 = .ok (.lstore 6, 2) := by decide +kernel
theorem dX7_spreadBetween_23 : decode cX7_spreadBetween 23 = .ok (.iconst 0, 1) := by decide +kernel
theorem dX7_spreadBetween_24 : decode cX7_spreadBetween 24 = .ok (.istore 8, 2) := by decide +kernel
theorem dX7_spreadBetween_26 : decode cX7_spreadBetween 26 = .ok (.iload 8, 2) := by decide +kernel
theorem dX7_spreadBetween_28 : decode cX7_spreadBetween 28 = .ok (.iconst 3, 1) := by decide +kernel
theorem dX7_spreadBetween_29 : decode cX7_spreadBetween 29 = .ok (.if_icmp .ge 25, 3) := by decide +kernel
theorem dX7_spreadBetween_32 : decode cX7_spreadBetween 32 = .ok (.lload 6, 2) := by decide +kernel
theorem dX7_spreadBetween_34 : decode cX7_spreadBetween 34 = .ok (.iconst 1, 1) := by decide +kernel
theorem dX7_spreadBetween_35 : decode cX7_spreadBetween 35 = .ok (.aload_n 0, 1) := by decide +kernel
theorem dX7_spreadBetween_36 : decode cX7_spreadBetween 36 = .ok (.iload 8, 2) := by decide +kernel
theorem dX7_spreadBetween_38 : decode cX7_spreadBetween 38 = .ok (.invokevirtual 282, 3) := by decide +kernel
theorem dX7_spreadBetween_41 : decode cX7_spreadBetween 41 = .ok (.invokestatic 277, 3) := by decide +kernel
theorem dX7_spreadBetween_44 : decode cX7_spreadBetween 44 = .ok (.i2l, 1) := by decide +kernel
theorem dX7_spreadBetween_45 : decode cX7_spreadBetween 45 = .ok (.lmul, 1) := by decide +kernel
theorem dX7_spreadBetween_46 : decode cX7_spreadBetween 46 = .ok (.lstore 6, 2) := by decide +kernel
theorem dX7_spreadBetween_48 : decode cX7_spreadBetween 48 = .ok (.iinc 8 1, 3) := by decide +kernel
theorem dX7_spreadBetween_51 : decode cX7_spreadBetween 51 = .ok (.goto (-25), 3) := by decide +kernel
theorem dX7_spreadBetween_54 : decode cX7_spreadBetween 54 = .ok (.lconst 0, 1) := by decide +kernel
theorem dX7_spreadBetween_55 : decode cX7_spreadBetween 55 = .ok (.lstore 8, 2) := by decide +kernel
theorem dX7_spreadBetween_57 : decode cX7_spreadBetween 57 = .ok (.iconst 0, 1) := by decide +kernel
theorem dX7_spreadBetween_58 : decode cX7_spreadBetween 58 = .ok (.istore 10, 2) := by decide +kernel
theorem dX7_spreadBetween_60 : decode cX7_spreadBetween 60 = .ok (.iload 10, 2) := by decide +kernel
theorem dX7_spreadBetween_62 : decode cX7_spreadBetween 62 = .ok (.iconst 3, 1) := by decide +kernel
theorem dX7_spreadBetween_63 : decode cX7_spreadBetween 63 = .ok (.if_icmp .ge 43, 3) := by decide +kernel
theorem dX7_spreadBetween_66 : decode cX7_spreadBetween 66 = .ok (.aload_n 0, 1) := by decide +kernel
theorem dX7_spreadBetween_67 : decode cX7_spreadBetween 67 = .ok (.iload 10, 2) := by decide +kernel
theorem dX7_spreadBetween_69 : decode cX7_spreadBetween 69 = .ok (.invokevirtual 285, 3) := by decide +kernel
theorem dX7_spreadBetween_72 : decode cX7_spreadBetween 72 = .ok (.i2l, 1) := by decide +kernel
theorem dX7_spreadBetween_73 : decode cX7_spreadBetween 73 = .ok (.lstore 11, 2) := by decide +kernel
theorem dX7_spreadBetween_75 : decode cX7_spreadBetween 75 = .ok (.lload 8, 2) := by decide +kernel
theorem dX7_spreadBetween_77 : decode cX7_spreadBetween 77 = .ok (.lload 11, 2) := by decide +kernel
theorem dX7_spreadBetween_79 : decode cX7_spreadBetween 79 = .ok (.lload 11, 2) := by decide +kernel
theorem dX7_spreadBetween_81 : decode cX7_spreadBetween 81 = .ok (.lmul, 1) := by decide +kernel
theorem dX7_spreadBetween_82 : decode cX7_spreadBetween 82 = .ok (.lload 6, 2) := by decide +kernel
theorem dX7_spreadBetween_84 : decode cX7_spreadBetween 84 = .ok (.iconst 1, 1) := by decide +kernel
theorem dX7_spreadBetween_85 : decode cX7_spreadBetween 85 = .ok (.aload_n 0, 1) := by decide +kernel
theorem dX7_spreadBetween_86 : decode cX7_spreadBetween 86 = .ok (.iload 10, 2) := by decide +kernel
theorem dX7_spreadBetween_88 : decode cX7_spreadBetween 88 = .ok (.invokevirtual 282, 3) := by decide +kernel
theorem dX7_spreadBetween_91 : decode cX7_spreadBetween 91 = .ok (.invokestatic 277, 3) := by decide +kernel
theorem dX7_spreadBetween_94 : decode cX7_spreadBetween 94 = .ok (.i2l, 1) := by decide +kernel
theorem dX7_spreadBetween_95 : decode cX7_spreadBetween 95 = .ok (.ldiv, 1) := by decide +kernel
theorem dX7_spreadBetween_96 : decode cX7_spreadBetween 96 = .ok (.lmul, 1) := by decide +kernel
theorem dX7_spreadBetween_97 : decode cX7_spreadBetween 97 = .ok (.ladd, 1) := by decide +kernel
theorem dX7_spreadBetween_98 : decode cX7_spreadBetween 98 = .ok (.lstore 8, 2) := by decide +kernel
theorem dX7_spreadBetween_100 : decode cX7_spreadBetween 100 = .ok (.iinc 10 1, 3) := by decide +kernel
theorem dX7_spreadBetween_103 : decode cX7_spreadBetween 103 = .ok (.goto (-43), 3) := by decide +kernel
theorem dX7_spreadBetween_106 : decode cX7_spreadBetween 106 = .ok (.lload_n 2, 1) := by decide +kernel
theorem dX7_spreadBetween_107 : decode cX7_spreadBetween 107 = .ok (.lload 8, 2) := by decide +kernel
theorem dX7_spreadBetween_109 : decode cX7_spreadBetween 109 = .ok (.lmul, 1) := by decide +kernel
