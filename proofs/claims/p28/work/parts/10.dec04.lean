theorem dX7_spreadBetween_110 : decode cX7_spreadBetween 110 = .ok (.lload 4, 2) := by decide +kernel
theorem dX7_spreadBetween_112 : decode cX7_spreadBetween 112 = .ok (.lload 4, 2) := by decide +kernel
theorem dX7_spreadBetween_114 : decode cX7_spreadBetween 114 = .ok (.lmul, 1) := by decide +kernel
theorem dX7_spreadBetween_115 : decode cX7_spreadBetween 115 = .ok (.lload 6, 2) := by decide +kernel
theorem dX7_spreadBetween_117 : decode cX7_spreadBetween 117 = .ok (.lmul, 1) := by decide +kernel
theorem dX7_spreadBetween_118 : decode cX7_spreadBetween 118 = .ok (.lsub, 1) := by decide +kernel
theorem dX7_spreadBetween_119 : decode cX7_spreadBetween 119 = .ok (.lload_n 2, 1) := by decide +kernel
theorem dX7_spreadBetween_120 : decode cX7_spreadBetween 120 = .ok (.lload_n 2, 1) := by decide +kernel
theorem dX7_spreadBetween_121 : decode cX7_spreadBetween 121 = .ok (.lmul, 1) := by decide +kernel
theorem dX7_spreadBetween_122 : decode cX7_spreadBetween 122 = .ok (.lload 6, 2) := by decide +kernel
theorem dX7_spreadBetween_124 : decode cX7_spreadBetween 124 = .ok (.lmul, 1) := by decide +kernel
theorem dX7_spreadBetween_125 : decode cX7_spreadBetween 125 = .ok (.iload_n 1, 1) := by decide +kernel
theorem dX7_spreadBetween_126 : decode cX7_spreadBetween 126 = .ok (.invokestatic 138, 3) := by decide +kernel
theorem dX7_spreadBetween_129 : decode cX7_spreadBetween 129 = .ok (.lreturn, 1) := by decide +kernel
theorem dX7_allFamilies_0 : decode cX7_allFamilies 0 = .ok (.iconst 0, 1) := by decide +kernel
theorem dX7_allFamilies_1 : decode cX7_allFamilies 1 = .ok (.istore_n 1, 1) := by decide +kernel
theorem dX7_allFamilies_2 : decode cX7_allFamilies 2 = .ok (.iconst 0, 1) := by decide +kernel
theorem dX7_allFamilies_3 : decode cX7_allFamilies 3 = .ok (.istore_n 2, 1) := by decide +kernel
theorem dX7_allFamilies_4 : decode cX7_allFamilies 4 = .ok (.iload_n 2, 1) := by decide +kernel
theorem dX7_allFamilies_5 : decode cX7_allFamilies 5 = .ok (.iconst 4, 1) := by decide +kernel
theorem dX7_allFamilies_6 : decode cX7_allFamilies 6 = .ok (.if_icmp .ge 26, 3) := by decide +kernel
theorem dX7_allFamilies_9 : decode cX7_allFamilies 9 = .ok (.aload_n 0, 1) := by decide +kernel
theorem dX7_allFamilies_10 : decode cX7_allFamilies 10 = .ok (.iload_n 2, 1) := by decide +kernel
theorem dX7_allFamilies_11 : decode cX7_allFamilies 11 = .ok (.invokevirtual 51, 3) := by decide +kernel
theorem dX7_allFamilies_14 : decode cX7_allFamilies 14 = .ok (.astore_n 3, 1) := by decide +kernel
theorem dX7_allFamilies_15 : decode cX7_allFamilies 15 = .ok (.aload_n 3, 1) := by decide +kernel
theorem dX7_allFamilies_16 : decode cX7_allFamilies 16 = .ok (.ifnull 10, 3) := by decide +kernel
theorem dX7_allFamilies_19 : decode cX7_allFamilies 19 = .ok (.iload_n 1, 1) := by decide +kernel
theorem dX7_allFamilies_20 : decode cX7_allFamilies 20 = .ok (.aload_n 3, 1) := by decide +kernel
theorem dX7_allFamilies_21 : decode cX7_allFamilies 21 = .ok (.getfield 63, 3) := by decide +kernel
theorem dX7_allFamilies_24 : decode cX7_allFamilies 24 = .ok (.iadd, 1) := by decide +kernel
theorem dX7_allFamilies_25 : decode cX7_allFamilies 25 = .ok (.istore_n 1, 1) := by decide +kernel
theorem dX7_allFamilies_26 : decode cX7_allFamilies 26 = .ok (.iinc 2 1, 3) := by decide +kernel
theorem dX7_allFamilies_29 : decode cX7_allFamilies 29 = .ok (.goto (-25), 3) := by decide +kernel
theorem dX7_allFamilies_32 : decode cX7_allFamilies 32 = .ok (.iload_n 1, 1) := by decide +kernel
theorem dX7_allFamilies_33 : decode cX7_allFamilies 33 = .ok (.ireturn, 1) := by decide +kernel
theorem dX7_readyTowns_0 : decode cX7_readyTowns 0 = .ok (.iconst 0, 1) := by decide +kernel
theorem dX7_readyTowns_1 : decode cX7_readyTowns 1 = .ok (.istore_n 1, 1) := by decide +kernel
theorem dX7_readyTowns_2 : decode cX7_readyTowns 2 = .ok (.iconst 0, 1) := by decide +kernel
theorem dX7_readyTowns_3 : decode cX7_readyTowns 3 = .ok (.istore_n 2, 1) := by decide +kernel
theorem dX7_readyTowns_4 : decode cX7_readyTowns 4 = .ok (.iload_n 2, 1) := by decide +kernel
theorem dX7_readyTowns_5 : decode cX7_readyTowns 5 = .ok (.iconst 4, 1) := by decide +kernel
theorem dX7_readyTowns_6 : decode cX7_readyTowns 6 = .ok (.if_icmp .ge 29, 3) := by decide +kernel
theorem dX7_readyTowns_9 : decode cX7_readyTowns 9 = .ok (.aload_n 0, 1) := by decide +kernel
theorem dX7_readyTowns_10 : decode cX7_readyTowns 10 = .ok (.iload_n 2, 1) := by decide +kernel
theorem dX7_readyTowns_11 : decode cX7_readyTowns 11 = .ok (.invokevirtual 51, 3) := by decide +kernel
theorem dX7_readyTowns_14 : decode cX7_readyTowns 14 = .ok (.astore_n 3, 1) := by decide +kernel
theorem dX7_readyTowns_15 : decode cX7_readyTowns 15 = .ok (.aload_n 3, 1) := by decide +kernel
theorem dX7_readyTowns_16 : decode cX7_readyTowns 16 = .ok (.ifnull 13, 3) := by decide +kernel
theorem dX7_readyTowns_19 : decode cX7_readyTowns 19 = .ok (.aload_n 3, 1) := by decide +kernel
theorem dX7_readyTowns_20 : decode cX7_readyTowns 20 = .ok (.invokevirtual 101, 3) := by decide +kernel
theorem dX7_readyTowns_23 : decode cX7_readyTowns 23 = .ok (.ifCond .eq 6, 3) := by decide +kernel
theorem dX7_readyTowns_26 : decode cX7_readyTowns 26 = .ok (.iinc 1 1, 3) := by decide +kernel
theorem dX7_readyTowns_29 : decode cX7_readyTowns 29 = .ok (.iinc 2 1, 3) := by decide +kernel
theorem dX7_readyTowns_32 : decode cX7_readyTowns 32 = .ok (.goto (-28), 3) := by decide +kernel
theorem dX7_readyTowns_35 : decode cX7_readyTowns 35 = .ok (.iload_n 1, 1) := by decide +kernel
theorem dX7_readyTowns_36 : decode cX7_readyTowns 36 = .ok (.ireturn, 1) := by decide +kernel
