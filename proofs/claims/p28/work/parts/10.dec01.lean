theorem dX4_moreEven_13 : decode cX4_moreEven 13 = .ok (.iload_n 0, 1) := by decide +kernel
theorem dX4_moreEven_14 : decode cX4_moreEven 14 = .ok (.aload_n 3, 1) := by decide +kernel
theorem dX4_moreEven_15 : decode cX4_moreEven 15 = .ok (.getfield 19, 3) := by decide +kernel
theorem dX4_moreEven_18 : decode cX4_moreEven 18 = .ok (.aload_n 3, 1) := by decide +kernel
theorem dX4_moreEven_19 : decode cX4_moreEven 19 = .ok (.getfield 25, 3) := by decide +kernel
theorem dX4_moreEven_22 : decode cX4_moreEven 22 = .ok (.invokestatic 33, 3) := by decide +kernel
theorem dX4_moreEven_25 : decode cX4_moreEven 25 = .ok (.lmul, 1) := by decide +kernel
theorem dX4_moreEven_26 : decode cX4_moreEven 26 = .ok (.lstore 4, 2) := by decide +kernel
theorem dX4_moreEven_28 : decode cX4_moreEven 28 = .ok (.iload_n 0, 1) := by decide +kernel
theorem dX4_moreEven_29 : decode cX4_moreEven 29 = .ok (.iload_n 1, 1) := by decide +kernel
theorem dX4_moreEven_30 : decode cX4_moreEven 30 = .ok (.aload_n 3, 1) := by decide +kernel
theorem dX4_moreEven_31 : decode cX4_moreEven 31 = .ok (.getfield 19, 3) := by decide +kernel
theorem dX4_moreEven_34 : decode cX4_moreEven 34 = .ok (.aload_n 3, 1) := by decide +kernel
theorem dX4_moreEven_35 : decode cX4_moreEven 35 = .ok (.getfield 25, 3) := by decide +kernel
theorem dX4_moreEven_38 : decode cX4_moreEven 38 = .ok (.invokestatic 29, 3) := by decide +kernel
theorem dX4_moreEven_41 : decode cX4_moreEven 41 = .ok (.iload_n 0, 1) := by decide +kernel
theorem dX4_moreEven_42 : decode cX4_moreEven 42 = .ok (.aload_n 2, 1) := by decide +kernel
theorem dX4_moreEven_43 : decode cX4_moreEven 43 = .ok (.getfield 19, 3) := by decide +kernel
theorem dX4_moreEven_46 : decode cX4_moreEven 46 = .ok (.aload_n 2, 1) := by decide +kernel
theorem dX4_moreEven_47 : decode cX4_moreEven 47 = .ok (.getfield 25, 3) := by decide +kernel
theorem dX4_moreEven_50 : decode cX4_moreEven 50 = .ok (.invokestatic 33, 3) := by decide +kernel
theorem dX4_moreEven_53 : decode cX4_moreEven 53 = .ok (.lmul, 1) := by decide +kernel
theorem dX4_moreEven_54 : decode cX4_moreEven 54 = .ok (.lstore 6, 2) := by decide +kernel
theorem dX4_moreEven_56 : decode cX4_moreEven 56 = .ok (.lload 4, 2) := by decide +kernel
theorem dX4_moreEven_58 : decode cX4_moreEven 58 = .ok (.lload 6, 2) := by decide +kernel
theorem dX4_moreEven_60 : decode cX4_moreEven 60 = .ok (.lcmp, 1) := by decide +kernel
theorem dX4_moreEven_61 : decode cX4_moreEven 61 = .ok (.ifCond .ne 5, 3) := by decide +kernel
theorem dX4_moreEven_64 : decode cX4_moreEven 64 = .ok (.iconst 3, 1) := by decide +kernel
theorem dX4_moreEven_65 : decode cX4_moreEven 65 = .ok (.ireturn, 1) := by decide +kernel
theorem dX4_moreEven_66 : decode cX4_moreEven 66 = .ok (.lload 4, 2) := by decide +kernel
theorem dX4_moreEven_68 : decode cX4_moreEven 68 = .ok (.lload 6, 2) := by decide +kernel
theorem dX4_moreEven_70 : decode cX4_moreEven 70 = .ok (.lcmp, 1) := by decide +kernel
theorem dX4_moreEven_71 : decode cX4_moreEven 71 = .ok (.ifCond .ge 7, 3) := by decide +kernel
theorem dX4_moreEven_74 : decode cX4_moreEven 74 = .ok (.iconst 1, 1) := by decide +kernel
theorem dX4_moreEven_75 : decode cX4_moreEven 75 = .ok (.goto 4, 3) := by decide +kernel
theorem dX4_moreEven_78 : decode cX4_moreEven 78 = .ok (.iconst 2, 1) := by decide +kernel
theorem dX4_moreEven_79 : decode cX4_moreEven 79 = .ok (.ireturn, 1) := by decide +kernel
theorem dX4_above_0 : decode cX4_above 0 = .ok (.iload_n 3, 1) := by decide +kernel
theorem dX4_above_1 : decode cX4_above 1 = .ok (.aload_n 2, 1) := by decide +kernel
theorem dX4_above_2 : decode cX4_above 2 = .ok (.arraylength, 1) := by decide +kernel
theorem dX4_above_3 : decode cX4_above 3 = .ok (.invokestatic 37, 3) := by decide +kernel
theorem dX4_above_6 : decode cX4_above 6 = .ok (.istore 4, 2) := by decide +kernel
theorem dX4_above_8 : decode cX4_above 8 = .ok (.iload_n 0, 1) := by decide +kernel
theorem dX4_above_9 : decode cX4_above 9 = .ok (.tableswitch 73 0 4 #[35, 42, 49, 57, 65], 35) := by decide +kernel
theorem dX4_above_44 : decode cX4_above 44 = .ok (.aload_n 2, 1) := by decide +kernel
theorem dX4_above_45 : decode cX4_above 45 = .ok (.iload 4, 2) := by decide +kernel
theorem dX4_above_47 : decode cX4_above 47 = .ok (.invokestatic 43, 3) := by decide +kernel
theorem dX4_above_50 : decode cX4_above 50 = .ok (.lreturn, 1) := by decide +kernel
theorem dX4_above_51 : decode cX4_above 51 = .ok (.aload_n 2, 1) := by decide +kernel
theorem dX4_above_52 : decode cX4_above 52 = .ok (.iload 4, 2) := by decide +kernel
theorem dX4_above_54 : decode cX4_above 54 = .ok (.invokestatic 47, 3) := by decide +kernel
theorem dX4_above_57 : decode cX4_above 57 = .ok (.lreturn, 1) := by decide +kernel
theorem dX4_above_58 : decode cX4_above 58 = .ok (.iload_n 1, 1) := by decide +kernel
theorem dX4_above_59 : decode cX4_above 59 = .ok (.aload_n 2, 1) := by decide +kernel
theorem dX4_above_60 : decode cX4_above 60 = .ok (.iload 4, 2) := by decide +kernel
theorem dX4_above_62 : decode cX4_above 62 = .ok (.invokestatic 50, 3) := by decide +kernel
theorem dX4_above_65 : decode cX4_above 65 = .ok (.lreturn, 1) := by decide +kernel
theorem dX4_above_66 : decode cX4_above 66 = .ok (.iload_n 1, 1) := by decide +kernel
theorem dX4_above_67 : decode cX4_above 67 = .ok (.aload_n 2, 1) := by decide +kernel
theorem dX4_above_68 : decode cX4_above 68 = .ok (.iload 4, 2) := by decide +kernel
theorem dX4_above_70 : decode cX4_above 70 = .ok (.invokestatic 53, 3) := by decide +kernel
theorem dX4_above_73 : decode cX4_above 73 = .ok (.lreturn, 1) := by decide +kernel
theorem dX4_above_74 : decode cX4_above 74 = .ok (.iload_n 1, 1) := by decide +kernel
theorem dX4_above_75 : decode cX4_above 75 = .ok (.aload_n 2, 1) := by decide +kernel
theorem dX4_above_76 : decode cX4_above 76 = .ok (.iload 4, 2) := by decide +kernel
theorem dX4_above_78 : decode cX4_above 78 = .ok (.invokestatic 56, 3) := by decide +kernel
theorem dX4_above_81 : decode cX4_above 81 = .ok (.lreturn, 1) := by decide +kernel
theorem dX4_above_82 : decode cX4_above 82 = .ok (.aload_n 2, 1) := by decide +kernel
theorem dX4_above_83 : decode cX4_above 83 = .ok (.iload 4, 2) := by decide +kernel
theorem dX4_above_85 : decode cX4_above 85 = .ok (.invokestatic 59, 3) := by decide +kernel
theorem dX4_above_88 : decode cX4_above 88 = .ok (.lreturn, 1) := by decide +kernel
theorem dX4_under_0 : decode cX4_under 0 = .ok (.iconst 1, 1) := by decide +kernel
theorem dX4_under_1 : decode cX4_under 1 = .ok (.istore_n 3, 1) := by decide +kernel
theorem dX4_under_2 : decode cX4_under 2 = .ok (.iload_n 0, 1) := by decide +kernel
theorem dX4_under_3 : decode cX4_under 3 = .ok (.iconst 2, 1) := by decide +kernel
theorem dX4_under_4 : decode cX4_under 4 = .ok (.if_icmp .ne 12, 3) := by decide +kernel
theorem dX4_under_7 : decode cX4_under 7 = .ok (.aload_n 1, 1) := by decide +kernel
theorem dX4_under_8 : decode cX4_under 8 = .ok (.iload_n 2, 1) := by decide +kernel
theorem dX4_under_9 : decode cX4_under 9 = .ok (.invokestatic 62, 3) := by decide +kernel
theorem dX4_under_12 : decode cX4_under 12 = .ok (.istore_n 3, 1) := by decide +kernel
theorem dX4_under_13 : decode cX4_under 13 = .ok (.goto 15, 3) := by decide +kernel
theorem dX4_under_16 : decode cX4_under 16 = .ok (.iload_n 0, 1) := by decide +kernel
theorem dX4_under_17 : decode cX4_under 17 = .ok (.iconst 3, 1) := by decide +kernel
theorem dX4_under_18 : decode cX4_under 18 = .ok (.if_icmp .eq 8, 3) := by decide +kernel
theorem dX4_under_21 : decode cX4_under 21 = .ok (.iload_n 0, 1) := by decide +kernel
theorem dX4_under_22 : decode cX4_under 22 = .ok (.iconst 4, 1) := by decide +kernel
theorem dX4_under_23 : decode cX4_under 23 = .ok (.if_icmp .ne 5, 3) := by decide +kernel
theorem dX4_under_26 : decode cX4_under 26 = .ok (.iload_n 2, 1) := by decide +kernel
theorem dX4_under_27 : decode cX4_under 27 = .ok (.istore_n 3, 1) := by decide +kernel
theorem dX4_under_28 : decode cX4_under 28 = .ok (.iconst 1, 1) := by decide +kernel
theorem dX4_under_29 : decode cX4_under 29 = .ok (.iload_n 3, 1) := by decide +kernel
theorem dX4_under_30 : decode cX4_under 30 = .ok (.invokestatic 66, 3) := by decide +kernel
theorem dX4_under_33 : decode cX4_under 33 = .ok (.i2l, 1) := by decide +kernel
theorem dX4_under_34 : decode cX4_under 34 = .ok (.lreturn, 1) := by decide +kernel
theorem dX4_greatestLessLeast_0 : decode cX4_greatestLessLeast 0 = .ok (.iconst 0, 1) := by decide +kernel
theorem dX4_greatestLessLeast_1 : decode cX4_greatestLessLeast 1 = .ok (.istore_n 2, 1) := by decide +kernel
theorem dX4_greatestLessLeast_2 : decode cX4_greatestLessLeast 2 = .ok (.bipush 99, 2) := by decide +kernel
theorem dX4_greatestLessLeast_4 : decode cX4_greatestLessLeast 4 = .ok (.istore_n 3, 1) := by decide +kernel
theorem dX4_greatestLessLeast_5 : decode cX4_greatestLessLeast 5 = .ok (.iconst 0, 1) := by decide +kernel
theorem dX4_greatestLessLeast_6 : decode cX4_greatestLessLeast 6 = .ok (.istore 4, 2) := by decide +kernel
theorem dX4_greatestLessLeast_8 : decode cX4_greatestLessLeast 8 = .ok (.iload 4, 2) := by decide +kernel
theorem dX4_greatestLessLeast_10 : decode cX4_greatestLessLeast 10 = .ok (.iload_n 1, 1) := by decide +kernel
theorem dX4_greatestLessLeast_11 : decode cX4_greatestLessLeast 11 = .ok (.if_icmp .ge 27, 3) := by decide +kernel
theorem dX4_greatestLessLeast_14 : decode cX4_greatestLessLeast 14 = .ok (.iload_n 2, 1) := by decide +kernel
theorem dX4_greatestLessLeast_15 : decode cX4_greatestLessLeast 15 = .ok (.aload_n 0, 1) := by decide +kernel
theorem dX4_greatestLessLeast_16 : decode cX4_greatestLessLeast 16 = .ok (.iload 4, 2) := by decide +kernel
theorem dX4_greatestLessLeast_18 : decode cX4_greatestLessLeast 18 = .ok (.iaload, 1) := by decide +kernel
theorem dX4_greatestLessLeast_19 : decode cX4_greatestLessLeast 19 = .ok (.invokestatic 66, 3) := by decide +kernel
theorem dX4_greatestLessLeast_22 : decode cX4_greatestLessLeast 22 = .ok (.istore_n 2, 1) := by decide +kernel
theorem dX4_greatestLessLeast_23 : decode cX4_greatestLessLeast 23 = .ok (.iload_n 3, 1) := by decide +kernel
theorem dX4_greatestLessLeast_24 : decode cX4_greatestLessLeast 24 = .ok (.aload_n 0, 1) := by decide +kernel
theorem dX4_greatestLessLeast_25 : decode cX4_greatestLessLeast 25 = .ok (.iload 4, 2) := by decide +kernel
theorem dX4_greatestLessLeast_27 : decode cX4_greatestLessLeast 27 = .ok (.iaload, 1) := by decide +kernel
theorem dX4_greatestLessLeast_28 : decode cX4_greatestLessLeast 28 = .ok (.invokestatic 37, 3) := by decide +kernel
theorem dX4_greatestLessLeast_31 : decode cX4_greatestLessLeast 31 = .ok (.istore_n 3, 1) := by decide +kernel
theorem dX4_greatestLessLeast_32 : decode cX4_greatestLessLeast 32 = .ok (.iinc 4 1, 3) := by decide +kernel
theorem dX4_greatestLessLeast_35 : decode cX4_greatestLessLeast 35 = .ok (.goto (-27), 3) := by decide +kernel
theorem dX4_greatestLessLeast_38 : decode cX4_greatestLessLeast 38 = .ok (.iload_n 2, 1) := by decide +kernel
theorem dX4_greatestLessLeast_39 : decode cX4_greatestLessLeast 39 = .ok (.iload_n 3, 1) := by decide +kernel
theorem dX4_greatestLessLeast_40 : decode cX4_greatestLessLeast 40 = .ok (.isub, 1) := by decide +kernel
theorem dX4_greatestLessLeast_41 : decode cX4_greatestLessLeast 41 = .ok (.i2l, 1) := by decide +kernel
theorem dX4_greatestLessLeast_42 : decode cX4_greatestLessLeast 42 = .ok (.lreturn, 1) := by decide +kernel
theorem dX4_pairsDiffer_0 : decode cX4_pairsDiffer 0 = .ok (.lconst 0, 1) := by decide +kernel
theorem dX4_pairsDiffer_1 : decode cX4_pairsDiffer 1 = .ok (.lstore_n 2, 1) := by decide +kernel
theorem dX4_pairsDiffer_2 : decode cX4_pairsDiffer 2 = .ok (.iconst 0, 1) := by decide +kernel
theorem dX4_pairsDiffer_3 : decode cX4_pairsDiffer 3 = .ok (.istore 4, 2) := by decide +kernel
theorem dX4_pairsDiffer_5 : decode cX4_pairsDiffer 5 = .ok (.iload 4, 2) := by decide +kernel
theorem dX4_pairsDiffer_7 : decode cX4_pairsDiffer 7 = .ok (.iload_n 1, 1) := by decide +kernel
theorem dX4_pairsDiffer_8 : decode cX4_pairsDiffer 8 = .ok (.if_icmp .ge 41, 3) := by decide +kernel
theorem dX4_pairsDiffer_11 : decode cX4_pairsDiffer 11 = .ok (.iconst 0, 1) := by decide +kernel
theorem dX4_pairsDiffer_12 : decode cX4_pairsDiffer 12 = .ok (.istore 5, 2) := by decide +kernel
theorem dX4_pairsDiffer_14 : decode cX4_pairsDiffer 14 = .ok (.iload 5, 2) := by decide +kernel
theorem dX4_pairsDiffer_16 : decode cX4_pairsDiffer 16 = .ok (.iload 4, 2) := by decide +kernel
theorem dX4_pairsDiffer_18 : decode cX4_pairsDiffer 18 = .ok (.if_icmp .ge 25, 3) := by decide +kernel
theorem dX4_pairsDiffer_21 : decode cX4_pairsDiffer 21 = .ok (.lload_n 2, 1) := by decide +kernel
theorem dX4_pairsDiffer_22 : decode cX4_pairsDiffer 22 = .ok (.aload_n 0, 1) := by decide +kernel
theorem dX4_pairsDiffer_23 : decode cX4_pairsDiffer 23 = .ok (.iload 4, 2) := by decide +kernel
theorem dX4_pairsDiffer_25 : decode cX4_pairsDiffer 25 = .ok (.iaload, 1) := by decide +kernel
theorem dX4_pairsDiffer_26 : decode cX4_pairsDiffer 26 = .ok (.aload_n 0, 1) := by decide +kernel
theorem dX4_pairsDiffer_27 : decode cX4_pairsDiffer 27 = .ok (.iload 5, 2) := by decide +kernel
theorem dX4_pairsDiffer_29 : decode cX4_pairsDiffer 29 = .ok (.iaload, 1) := by decide +kernel
theorem dX4_pairsDiffer_30 : decode cX4_pairsDiffer 30 = .ok (.isub, 1) := by decide +kernel
theorem dX4_pairsDiffer_31 : decode cX4_pairsDiffer 31 = .ok (.invokestatic 69, 3) := by decide +kernel
theorem dX4_pairsDiffer_34 : decode cX4_pairsDiffer 34 = .ok (.i2l, 1) := by decide +kernel
theorem dX4_pairsDiffer_35 : decode cX4_pairsDiffer 35 = .ok (.ladd, 1) := by decide +kernel
theorem dX4_pairsDiffer_36 : decode cX4_pairsDiffer 36 = .ok (.lstore_n 2, 1) := by decide +kernel
theorem dX4_pairsDiffer_37 : decode cX4_pairsDiffer 37 = .ok (.iinc 5 1, 3) := by decide +kernel
theorem dX4_pairsDiffer_40 : decode cX4_pairsDiffer 40 = .ok (.goto (-26), 3) := by decide +kernel
theorem dX4_pairsDiffer_43 : decode cX4_pairsDiffer 43 = .ok (.iinc 4 1, 3) := by decide +kernel
theorem dX4_pairsDiffer_46 : decode cX4_pairsDiffer 46 = .ok (.goto (-41), 3) := by decide +kernel
theorem dX4_pairsDiffer_49 : decode cX4_pairsDiffer 49 = .ok (.lload_n 2, 1) := by decide +kernel
theorem dX4_pairsDiffer_50 : decode cX4_pairsDiffer 50 = .ok (.lreturn, 1) := by decide +kernel
theorem dX4_heldByMost_0 : decode cX4_heldByMost 0 = .ok (.lconst 0, 1) := by decide +kernel
theorem dX4_heldByMost_1 : decode cX4_heldByMost 1 = .ok (.lstore_n 3, 1) := by decide +kernel
theorem dX4_heldByMost_2 : decode cX4_heldByMost 2 = .ok (.iconst 0, 1) := by decide +kernel
theorem dX4_heldByMost_3 : decode cX4_heldByMost 3 = .ok (.istore 5, 2) := by decide +kernel
theorem dX4_heldByMost_5 : decode cX4_heldByMost 5 = .ok (.iload 5, 2) := by decide +kernel
theorem dX4_heldByMost_7 : decode cX4_heldByMost 7 = .ok (.iload_n 2, 1) := by decide +kernel
theorem dX4_heldByMost_8 : decode cX4_heldByMost 8 = .ok (.if_icmp .ge 73, 3) := by decide +kernel
theorem dX4_heldByMost_11 : decode cX4_heldByMost 11 = .ok (.iconst 0, 1) := by decide +kernel
theorem dX4_heldByMost_12 : decode cX4_heldByMost 12 = .ok (.istore 6, 2) := by decide +kernel
theorem dX4_heldByMost_14 : decode cX4_heldByMost 14 = .ok (.iconst 0, 1) := by decide +kernel
theorem dX4_heldByMost_15 : decode cX4_heldByMost 15 = .ok (.istore 7, 2) := by decide +kernel
theorem dX4_heldByMost_17 : decode cX4_heldByMost 17 = .ok (.iload 7, 2) := by decide +kernel
theorem dX4_heldByMost_19 : decode cX4_heldByMost 19 = .ok (.iload_n 2, 1) := by decide +kernel
theorem dX4_heldByMost_20 : decode cX4_heldByMost 20 = .ok (.if_icmp .ge 41, 3) := by decide +kernel
theorem dX4_heldByMost_23 : decode cX4_heldByMost 23 = .ok (.aload_n 1, 1) := by decide +kernel
theorem dX4_heldByMost_24 : decode cX4_heldByMost 24 = .ok (.iload 7, 2) := by decide +kernel
theorem dX4_heldByMost_26 : decode cX4_heldByMost 26 = .ok (.iaload, 1) := by decide +kernel
theorem dX4_heldByMost_27 : decode cX4_heldByMost 27 = .ok (.aload_n 1, 1) := by decide +kernel
theorem dX4_heldByMost_28 : decode cX4_heldByMost 28 = .ok (.iload 5, 2) := by decide +kernel
theorem dX4_heldByMost_30 : decode cX4_heldByMost 30 = .ok (.iaload, 1) := by decide +kernel
theorem dX4_heldByMost_31 : decode cX4_heldByMost 31 = .ok (.if_icmp .gt 21, 3) := by decide +kernel
theorem dX4_heldByMost_34 : decode cX4_heldByMost 34 = .ok (.aload_n 1, 1) := by decide +kernel
theorem dX4_heldByMost_35 : decode cX4_heldByMost 35 = .ok (.iload 7, 2) := by decide +kernel
theorem dX4_heldByMost_37 : decode cX4_heldByMost 37 = .ok (.iaload, 1) := by decide +kernel
theorem dX4_heldByMost_38 : decode cX4_heldByMost 38 = .ok (.aload_n 1, 1) := by decide +kernel
theorem dX4_heldByMost_39 : decode cX4_heldByMost 39 = .ok (.iload 5, 2) := by decide +kernel
theorem dX4_heldByMost_41 : decode cX4_heldByMost 41 = .ok (.iaload, 1) := by decide +kernel
theorem dX4_heldByMost_42 : decode cX4_heldByMost 42 = .ok (.if_icmp .ne 13, 3) := by decide +kernel
theorem dX4_heldByMost_45 : decode cX4_heldByMost 45 = .ok (.iload 7, 2) := by decide +kernel
theorem dX4_heldByMost_47 : decode cX4_heldByMost 47 = .ok (.iload 5, 2) := by decide +kernel
theorem dX4_heldByMost_49 : decode cX4_heldByMost 49 = .ok (.if_icmp .ge 6, 3) := by decide +kernel
theorem dX4_heldByMost_52 : decode cX4_heldByMost 52 = .ok (.iinc 6 1, 3) := by decide +kernel
theorem dX4_heldByMost_55 : decode cX4_heldByMost 55 = .ok (.iinc 7 1, 3) := by decide +kernel
theorem dX4_heldByMost_58 : decode cX4_heldByMost 58 = .ok (.goto (-41), 3) := by decide +kernel
theorem dX4_heldByMost_61 : decode cX4_heldByMost 61 = .ok (.iload 6, 2) := by decide +kernel
theorem dX4_heldByMost_63 : decode cX4_heldByMost 63 = .ok (.iload_n 0, 1) := by decide +kernel
theorem dX4_heldByMost_64 : decode cX4_heldByMost 64 = .ok (.if_icmp .ge 11, 3) := by decide +kernel
theorem dX4_heldByMost_67 : decode cX4_heldByMost 67 = .ok (.lload_n 3, 1) := by decide +kernel
theorem dX4_heldByMost_68 : decode cX4_heldByMost 68 = .ok (.aload_n 1, 1) := by decide +kernel
theorem dX4_heldByMost_69 : decode cX4_heldByMost 69 = .ok (.iload 5, 2) := by decide +kernel
theorem dX4_heldByMost_71 : decode cX4_heldByMost 71 = .ok (.iaload, 1) := by decide +kernel
theorem dX4_heldByMost_72 : decode cX4_heldByMost 72 = .ok (.i2l, 1) := by decide +kernel
theorem dX4_heldByMost_73 : decode cX4_heldByMost 73 = .ok (.ladd, 1) := by decide +kernel
theorem dX4_heldByMost_74 : decode cX4_heldByMost 74 = .ok (.lstore_n 3, 1) := by decide +kernel
theorem dX4_heldByMost_75 : decode cX4_heldByMost 75 = .ok (.iinc 5 1, 3) := by decide +kernel
theorem dX4_heldByMost_78 : decode cX4_heldByMost 78 = .ok (.goto (-73), 3) := by decide +kernel
theorem dX4_heldByMost_81 : decode cX4_heldByMost 81 = .ok (.lload_n 3, 1) := by decide +kernel
theorem dX4_heldByMost_82 : decode cX4_heldByMost 82 = .ok (.lreturn, 1) := by decide +kernel
theorem dX4_lessThan_0 : decode cX4_lessThan 0 = .ok (.lconst 0, 1) := by decide +kernel
theorem dX4_lessThan_1 : decode cX4_lessThan 1 = .ok (.lstore_n 3, 1) := by decide +kernel
theorem dX4_lessThan_2 : decode cX4_lessThan 2 = .ok (.iconst 0, 1) := by decide +kernel
theorem dX4_lessThan_3 : decode cX4_lessThan 3 = .ok (.istore 5, 2) := by decide +kernel
theorem dX4_lessThan_5 : decode cX4_lessThan 5 = .ok (.iload 5, 2) := by decide +kernel
theorem dX4_lessThan_7 : decode cX4_lessThan 7 = .ok (.iload_n 2, 1) := by decide +kernel
theorem dX4_lessThan_8 : decode cX4_lessThan 8 = .ok (.if_icmp .ge 21, 3) := by decide +kernel
theorem dX4_lessThan_11 : decode cX4_lessThan 11 = .ok (.aload_n 1, 1) := by decide +kernel
theorem dX4_lessThan_12 : decode cX4_lessThan 12 = .ok (.iload 5, 2) := by decide +kernel
theorem dX4_lessThan_14 : decode cX4_lessThan 14 = .ok (.iaload, 1) := by decide +kernel
theorem dX4_lessThan_15 : decode cX4_lessThan 15 = .ok (.iload_n 0, 1) := by decide +kernel
theorem dX4_lessThan_16 : decode cX4_lessThan 16 = .ok (.if_icmp .ge 7, 3) := by decide +kernel
theorem dX4_lessThan_19 : decode cX4_lessThan 19 = .ok (.lload_n 3, 1) := by decide +kernel
theorem dX4_lessThan_20 : decode cX4_lessThan 20 = .ok (.lconst 1, 1) := by decide +kernel
theorem dX4_lessThan_21 : decode cX4_lessThan 21 = .ok (.ladd, 1) := by decide +kernel
theorem dX4_lessThan_22 : decode cX4_lessThan 22 = .ok (.lstore_n 3, 1) := by decide +kernel
theorem dX4_lessThan_23 : decode cX4_lessThan 23 = .ok (.iinc 5 1, 3) := by decide +kernel
theorem dX4_lessThan_26 : decode cX4_lessThan 26 = .ok (.goto (-21), 3) := by decide +kernel
theorem dX4_lessThan_29 : decode cX4_lessThan 29 = .ok (.lload_n 3, 1) := by decide +kernel
theorem dX4_lessThan_30 : decode cX4_lessThan 30 = .ok (.lreturn, 1) := by decide +kernel
theorem dX4_lackTo_0 : decode cX4_lackTo 0 = .ok (.lconst 0, 1) := by decide +kernel
theorem dX4_lackTo_1 : decode cX4_lackTo 1 = .ok (.lstore_n 3, 1) := by decide +kernel
theorem dX4_lackTo_2 : decode cX4_lackTo 2 = .ok (.iconst 0, 1) := by decide +kernel
theorem dX4_lackTo_3 : decode cX4_lackTo 3 = .ok (.istore 5, 2) := by decide +kernel
theorem dX4_lackTo_5 : decode cX4_lackTo 5 = .ok (.iload 5, 2) := by decide +kernel
theorem dX4_lackTo_7 : decode cX4_lackTo 7 = .ok (.iload_n 2, 1) := by decide +kernel
theorem dX4_lackTo_8 : decode cX4_lackTo 8 = .ok (.if_icmp .ge 23, 3) := by decide +kernel
theorem dX4_lackTo_11 : decode cX4_lackTo 11 = .ok (.lload_n 3, 1) := by decide +kernel
theorem dX4_lackTo_12 : decode cX4_lackTo 12 = .ok (.iconst 0, 1) := by decide +kernel
theorem dX4_lackTo_13 : decode cX4_lackTo 13 = .ok (.iload_n 0, 1) := by decide +kernel
theorem dX4_lackTo_14 : decode cX4_lackTo 14 = .ok (.aload_n 1, 1) := by decide +kernel
theorem dX4_lackTo_15 : decode cX4_lackTo 15 = .ok (.iload 5, 2) := by decide +kernel
theorem dX4_lackTo_17 : decode cX4_lackTo 17 = .ok (.iaload, 1) := by decide +kernel
theorem dX4_lackTo_18 : decode cX4_lackTo 18 = .ok (.isub, 1) := by decide +kernel
theorem dX4_lackTo_19 : decode cX4_lackTo 19 = .ok (.invokestatic 66, 3) := by decide +kernel
theorem dX4_lackTo_22 : decode cX4_lackTo 22 = .ok (.i2l, 1) := by decide +kernel
theorem dX4_lackTo_23 : decode cX4_lackTo 23 = .ok (.ladd, 1) := by decide +kernel
theorem dX4_lackTo_24 : decode cX4_lackTo 24 = .ok (.lstore_n 3, 1) := by decide +kernel
theorem dX4_lackTo_25 : decode cX4_lackTo 25 = .ok (.iinc 5 1, 3) := by decide +kernel
theorem dX4_lackTo_28 : decode cX4_lackTo 28 = .ok (.goto (-23), 3) := by decide +kernel
theorem dX4_lackTo_31 : decode cX4_lackTo 31 = .ok (.lload_n 3, 1) := by decide +kernel
theorem dX4_lackTo_32 : decode cX4_lackTo 32 = .ok (.lreturn, 1) := by decide +kernel
theorem dX4_squaresLessSquare_0 : decode cX4_squaresLessSquare 0 = .ok (.lconst 0, 1) := by decide +kernel
theorem dX4_squaresLessSquare_1 : decode cX4_squaresLessSquare 1 = .ok (.lstore_n 2, 1) := by decide +kernel
theorem dX4_squaresLessSquare_2 : decode cX4_squaresLessSquare 2 = .ok (.lconst 0, 1) := by decide +kernel
theorem dX4_squaresLessSquare_3 : decode cX4_squaresLessSquare 3 = .ok (.lstore 4, 2) := by decide +kernel
theorem dX4_squaresLessSquare_5 : decode cX4_squaresLessSquare 5 = .ok (.iconst 0, 1) := by decide +kernel
theorem dX4_squaresLessSquare_6 : decode cX4_squaresLessSquare 6 = .ok (.istore 6, 2) := by decide +kernel
theorem dX4_squaresLessSquare_8 : decode cX4_squaresLessSquare 8 = .ok (.iload 6, 2) := by decide +kernel
theorem dX4_squaresLessSquare_10 : decode cX4_squaresLessSquare 10 = .ok (.iload_n 1, 1) := by decide +kernel
theorem dX4_squaresLessSquare_11 : decode cX4_squaresLessSquare 11 = .ok (.if_icmp .ge 33, 3) := by decide +kernel
theorem dX4_squaresLessSquare_14 : decode cX4_squaresLessSquare 14 = .ok (.lload_n 2, 1) := by decide +kernel
theorem dX4_squaresLessSquare_15 : decode cX4_squaresLessSquare 15 = .ok (.aload_n 0, 1) := by decide +kernel
theorem dX4_squaresLessSquare_16 : decode cX4_squaresLessSquare 16 = .ok (.iload 6, 2) := by decide +kernel
theorem dX4_squaresLessSquare_18 : decode cX4_squaresLessSquare 18 = .ok (.iaload, 1) := by decide +kernel
theorem dX4_squaresLessSquare_19 : decode cX4_squaresLessSquare 19 = .ok (.i2l, 1) := by decide +kernel
theorem dX4_squaresLessSquare_20 : decode cX4_squaresLessSquare 20 = .ok (.aload_n 0, 1) := by decide +kernel
theorem dX4_squaresLessSquare_21 : decode cX4_squaresLessSquare 21 = .ok (.iload 6, 2) := by decide +kernel
theorem dX4_squaresLessSquare_23 : decode cX4_squaresLessSquare 23 = .ok (.iaload, 1) := by decide +kernel
theorem dX4_squaresLessSquare_24 : decode cX4_squaresLessSquare 24 = .ok (.i2l, 1) := by decide +kernel
theorem dX4_squaresLessSquare_25 : decode cX4_squaresLessSquare 25 = .ok (.lmul, 1) := by decide +kernel
theorem dX4_squaresLessSquare_26 : decode cX4_squaresLessSquare 26 = .ok (.ladd, 1) := by decide +kernel
theorem dX4_squaresLessSquare_27 : decode cX4_squaresLessSquare 27 = .ok (.lstore_n 2, 1) := by decide +kernel
theorem dX4_squaresLessSquare_28 : decode cX4_squaresLessSquare 28 = .ok (.lload 4, 2) := by decide +kernel
theorem dX4_squaresLessSquare_30 : decode cX4_squaresLessSquare 30 = .ok (.aload_n 0, 1) := by decide +kernel
theorem dX4_squaresLessSquare_31 : decode cX4_squaresLessSquare 31 = .ok (.iload 6, 2) := by decide +kernel
theorem dX4_squaresLessSquare_33 : decode cX4_squaresLessSquare 33 = .ok (.iaload, 1) := by decide +kernel
theorem dX4_squaresLessSquare_34 : decode cX4_squaresLessSquare 34 = .ok (.i2l, 1) := by decide +kernel
theorem dX4_squaresLessSquare_35 : decode cX4_squaresLessSquare 35 = .ok (.ladd, 1) := by decide +kernel
theorem dX4_squaresLessSquare_36 : decode cX4_squaresLessSquare 36 = .ok (.lstore 4, 2) := by decide +kernel
theorem dX4_squaresLessSquare_38 : decode cX4_squaresLessSquare 38 = .ok (.iinc 6 1, 3) := by decide +kernel
theorem dX4_squaresLessSquare_41 : decode cX4_squaresLessSquare 41 = .ok (.goto (-33), 3) := by decide +kernel
theorem dX4_squaresLessSquare_44 : decode cX4_squaresLessSquare 44 = .ok (.lload_n 2, 1) := by decide +kernel
theorem dX4_squaresLessSquare_45 : decode cX4_squaresLessSquare 45 = .ok (.iload_n 1, 1) := by decide +kernel
theorem dX4_squaresLessSquare_46 : decode cX4_squaresLessSquare 46 = .ok (.i2l, 1) := by decide +kernel
theorem dX4_squaresLessSquare_47 : decode cX4_squaresLessSquare 47 = .ok (.lmul, 1) := by decide +kernel
theorem dX4_squaresLessSquare_48 : decode cX4_squaresLessSquare 48 = .ok (.lload 4, 2) := by decide +kernel
theorem dX4_squaresLessSquare_50 : decode cX4_squaresLessSquare 50 = .ok (.lload 4, 2) := by decide +kernel
theorem dX4_squaresLessSquare_52 : decode cX4_squaresLessSquare 52 = .ok (.lmul, 1) := by decide +kernel
theorem dX4_squaresLessSquare_53 : decode cX4_squaresLessSquare 53 = .ok (.lsub, 1) := by decide +kernel
theorem dX4_squaresLessSquare_54 : decode cX4_squaresLessSquare 54 = .ok (.lreturn, 1) := by decide +kernel
theorem dX5_init_0 : decode cX5_init 0 = .ok (.aload_n 0, 1) := by decide +kernel
theorem dX5_init_1 : decode cX5_init 1 = .ok (.invokespecial 3, 3) := by decide +kernel
theorem dX5_init_4 : decode cX5_init 4 = .ok (.aload_n 0, 1) := by decide +kernel
theorem dX5_init_5 : decode cX5_init 5 = .ok (.bipush 8, 2) := by decide +kernel
theorem dX5_init_7 : decode cX5_init 7 = .ok (.newarray .int, 2) := by decide +kernel
theorem dX5_init_9 : decode cX5_init 9 = .ok (.putfield 9, 3) := by decide +kernel
theorem dX5_init_12 : decode cX5_init 12 = .ok (.aload_n 0, 1) := by decide +kernel
theorem dX5_init_13 : decode cX5_init 13 = .ok (.bipush 8, 2) := by decide +kernel
theorem dX5_init_15 : decode cX5_init 15 = .ok (.newarray .int, 2) := by decide +kernel
theorem dX5_init_17 : decode cX5_init 17 = .ok (.putfield 15, 3) := by decide +kernel
theorem dX5_init_20 : decode cX5_init 20 = .ok (.aload_n 0, 1) := by decide +kernel
theorem dX5_init_21 : decode cX5_init 21 = .ok (.bipush 8, 2) := by decide +kernel
theorem dX5_init_23 : decode cX5_init 23 = .ok (.newarray .int, 2) := by decide +kernel
theorem dX5_init_25 : decode cX5_init 25 = .ok (.putfield 18, 3) := by decide +kernel
theorem dX5_init_28 : decode cX5_init 28 = .ok (.aload_n 0, 1) := by decide +kernel
theorem dX5_init_29 : decode cX5_init 29 = .ok (.bipush 8, 2) := by decide +kernel
theorem dX5_init_31 : decode cX5_init 31 = .ok (.newarray .int, 2) := by decide +kernel
theorem dX5_init_33 : decode cX5_init 33 = .ok (.putfield 21, 3) := by decide +kernel
theorem dX5_init_36 : decode cX5_init 36 = .ok (.aload_n 0, 1) := by decide +kernel
theorem dX5_init_37 : decode cX5_init 37 = .ok (.bipush 8, 2) := by decide +kernel
theorem dX5_init_39 : decode cX5_init 39 = .ok (.newarray .int, 2) := by decide +kernel
theorem dX5_init_41 : decode cX5_init 41 = .ok (.putfield 24, 3) := by decide +kernel
theorem dX5_init_44 : decode cX5_init 44 = .ok (.return_, 1) := by decide +kernel
theorem dX5_holds_0 : decode cX5_holds 0 = .ok (.iload_n 1, 1) := by decide +kernel
theorem dX5_holds_1 : decode cX5_holds 1 = .ok (.ifCond .lt 15, 3) := by decide +kernel
theorem dX5_holds_4 : decode cX5_holds 4 = .ok (.iload_n 1, 1) := by decide +kernel
theorem dX5_holds_5 : decode cX5_holds 5 = .ok (.aload_n 0, 1) := by decide +kernel
theorem dX5_holds_6 : decode cX5_holds 6 = .ok (.getfield 27, 3) := by decide +kernel
theorem dX5_holds_9 : decode cX5_holds 9 = .ok (.if_icmp .ge 7, 3) := by decide +kernel
theorem dX5_holds_12 : decode cX5_holds 12 = .ok (.iconst 1, 1) := by decide +kernel
theorem dX5_holds_13 : decode cX5_holds 13 = .ok (.goto 4, 3) := by decide +kernel
theorem dX5_holds_16 : decode cX5_holds 16 = .ok (.iconst 0, 1) := by decide +kernel
theorem dX5_holds_17 : decode cX5_holds 17 = .ok (.ireturn, 1) := by decide +kernel
theorem dX5_add_0 : decode cX5_add 0 = .ok (.aload_n 0, 1) := by decide +kernel
theorem dX5_add_1 : decode cX5_add 1 = .ok (.getfield 27, 3) := by decide +kernel
theorem dX5_add_4 : decode cX5_add 4 = .ok (.bipush 8, 2) := by decide +kernel
theorem dX5_add_6 : decode cX5_add 6 = .ok (.if_icmp .lt 4, 3) := by decide +kernel
theorem dX5_add_9 : decode cX5_add 9 = .ok (.return_, 1) := by decide +kernel
theorem dX5_add_10 : decode cX5_add 10 = .ok (.aload_n 0, 1) := by decide +kernel
theorem dX5_add_11 : decode cX5_add 11 = .ok (.getfield 9, 3) := by decide +kernel
theorem dX5_add_14 : decode cX5_add 14 = .ok (.aload_n 0, 1) := by decide +kernel
theorem dX5_add_15 : decode cX5_add 15 = .ok (.getfield 27, 3) := by decide +kernel
theorem dX5_add_18 : decode cX5_add 18 = .ok (.iload_n 1, 1) := by decide +kernel
theorem dX5_add_19 : decode cX5_add 19 = .ok (.iastore, 1) := by decide +kernel
theorem dX5_add_20 : decode cX5_add 20 = .ok (.aload_n 0, 1) := by decide +kernel
theorem dX5_add_21 : decode cX5_add 21 = .ok (.getfield 15, 3) := by decide +kernel
theorem dX5_add_24 : decode cX5_add 24 = .ok (.aload_n 0, 1) := by decide +kernel
theorem dX5_add_25 : decode cX5_add 25 = .ok (.getfield 27, 3) := by decide +kernel
theorem dX5_add_28 : decode cX5_add 28 = .ok (.iload_n 2, 1) := by decide +kernel
theorem dX5_add_29 : decode cX5_add 29 = .ok (.iastore, 1) := by decide +kernel
theorem dX5_add_30 : decode cX5_add 30 = .ok (.aload_n 0, 1) := by decide +kernel
theorem dX5_add_31 : decode cX5_add 31 = .ok (.getfield 18, 3) := by decide +kernel
theorem dX5_add_34 : decode cX5_add 34 = .ok (.aload_n 0, 1) := by decide +kernel
theorem dX5_add_35 : decode cX5_add 35 = .ok (.getfield 27, 3) := by decide +kernel
theorem dX5_add_38 : decode cX5_add 38 = .ok (.iload_n 3, 1) := by decide +kernel
theorem dX5_add_39 : decode cX5_add 39 = .ok (.iastore, 1) := by decide +kernel
theorem dX5_add_40 : decode cX5_add 40 = .ok (.aload_n 0, 1) := by decide +kernel
theorem dX5_add_41 : decode cX5_add 41 = .ok (.getfield 21, 3) := by decide +kernel
theorem dX5_add_44 : decode cX5_add 44 = .ok (.aload_n 0, 1) := by decide +kernel
theorem dX5_add_45 : decode cX5_add 45 = .ok (.getfield 27, 3) := by decide +kernel
theorem dX5_add_48 : decode cX5_add 48 = .ok (.iload 4, 2) := by decide +kernel
theorem dX5_add_50 : decode cX5_add 50 = .ok (.iastore, 1) := by decide +kernel
theorem dX5_add_51 : decode cX5_add 51 = .ok (.aload_n 0, 1) := by decide +kernel
theorem dX5_add_52 : decode cX5_add 52 = .ok (.dup, 1) := by decide +kernel
theorem dX5_add_53 : decode cX5_add 53 = .ok (.getfield 27, 3) := by decide +kernel
theorem dX5_add_56 : decode cX5_add 56 = .ok (.iconst 1, 1) := by decide +kernel
theorem dX5_add_57 : decode cX5_add 57 = .ok (.iadd, 1) := by decide +kernel
theorem dX5_add_58 : decode cX5_add 58 = .ok (.putfield 27, 3) := by decide +kernel
theorem dX5_add_61 : decode cX5_add 61 = .ok (.return_, 1) := by decide +kernel
theorem dX5_hold_0 : decode cX5_hold 0 = .ok (.aload_n 0, 1) := by decide +kernel
theorem dX5_hold_1 : decode cX5_hold 1 = .ok (.iload_n 1, 1) := by decide +kernel
theorem dX5_hold_2 : decode cX5_hold 2 = .ok (.invokevirtual 31, 3) := by decide +kernel
theorem dX5_hold_5 : decode cX5_hold 5 = .ok (.ifCond .eq 17, 3) := by decide +kernel
theorem dX5_hold_8 : decode cX5_hold 8 = .ok (.aload_n 0, 1) := by decide +kernel
theorem dX5_hold_9 : decode cX5_hold 9 = .ok (.getfield 9, 3) := by decide +kernel
theorem dX5_hold_12 : decode cX5_hold 12 = .ok (.iload_n 1, 1) := by decide +kernel
theorem dX5_hold_13 : decode cX5_hold 13 = .ok (.iload_n 2, 1) := by decide +kernel
theorem dX5_hold_14 : decode cX5_hold 14 = .ok (.iastore, 1) := by decide +kernel
theorem dX5_hold_15 : decode cX5_hold 15 = .ok (.aload_n 0, 1) := by decide +kernel
theorem dX5_hold_16 : decode cX5_hold 16 = .ok (.getfield 15, 3) := by decide +kernel
theorem dX5_hold_19 : decode cX5_hold 19 = .ok (.iload_n 1, 1) := by decide +kernel
theorem dX5_hold_20 : decode cX5_hold 20 = .ok (.iload_n 2, 1) := by decide +kernel
theorem dX5_hold_21 : decode cX5_hold 21 = .ok (.iastore, 1) := by decide +kernel
theorem dX5_hold_22 : decode cX5_hold 22 = .ok (.return_, 1) := by decide +kernel
theorem dX5_isKnown_0 : decode cX5_isKnown 0 = .ok (.iconst 0, 1) := by decide +kernel
theorem dX5_isKnown_1 : decode cX5_isKnown 1 = .ok (.istore_n 1, 1) := by decide +kernel
theorem dX5_isKnown_2 : decode cX5_isKnown 2 = .ok (.iload_n 1, 1) := by decide +kernel
theorem dX5_isKnown_3 : decode cX5_isKnown 3 = .ok (.aload_n 0, 1) := by decide +kernel
theorem dX5_isKnown_4 : decode cX5_isKnown 4 = .ok (.getfield 27, 3) := by decide +kernel
theorem dX5_isKnown_7 : decode cX5_isKnown 7 = .ok (.if_icmp .ge 26, 3) := by decide +kernel
theorem dX5_isKnown_10 : decode cX5_isKnown 10 = .ok (.aload_n 0, 1) := by decide +kernel
theorem dX5_isKnown_11 : decode cX5_isKnown 11 = .ok (.getfield 9, 3) := by decide +kernel
theorem dX5_isKnown_14 : decode cX5_isKnown 14 = .ok (.iload_n 1, 1) := by decide +kernel
theorem dX5_isKnown_15 : decode cX5_isKnown 15 = .ok (.iaload, 1) := by decide +kernel
theorem dX5_isKnown_16 : decode cX5_isKnown 16 = .ok (.aload_n 0, 1) := by decide +kernel
theorem dX5_isKnown_17 : decode cX5_isKnown 17 = .ok (.getfield 15, 3) := by decide +kernel
theorem dX5_isKnown_20 : decode cX5_isKnown 20 = .ok (.iload_n 1, 1) := by decide +kernel
theorem dX5_isKnown_21 : decode cX5_isKnown 21 = .ok (.iaload, 1) := by decide +kernel
theorem dX5_isKnown_22 : decode cX5_isKnown 22 = .ok (.if_icmp .eq 5, 3) := by decide +kernel
theorem dX5_isKnown_25 : decode cX5_isKnown 25 = .ok (.iconst 0, 1) := by decide +kernel
theorem dX5_isKnown_26 : decode cX5_isKnown 26 = .ok (.ireturn, 1) := by decide +kernel
theorem dX5_isKnown_27 : decode cX5_isKnown 27 = .ok (.iinc 1 1, 3) := by decide +kernel
theorem dX5_isKnown_30 : decode cX5_isKnown 30 = .ok (.goto (-28), 3) := by decide +kernel
theorem dX5_isKnown_33 : decode cX5_isKnown 33 = .ok (.iconst 1, 1) := by decide +kernel
theorem dX5_isKnown_34 : decode cX5_isKnown 34 = .ok (.ireturn, 1) := by decide +kernel
theorem dX5_isReady_0 : decode cX5_isReady 0 = .ok (.aload_n 0, 1) := by decide +kernel
theorem dX5_isReady_1 : decode cX5_isReady 1 = .ok (.getfield 27, 3) := by decide +kernel
theorem dX5_isReady_4 : decode cX5_isReady 4 = .ok (.ifCond .le 14, 3) := by decide +kernel
theorem dX5_isReady_7 : decode cX5_isReady 7 = .ok (.aload_n 0, 1) := by decide +kernel
theorem dX5_isReady_8 : decode cX5_isReady 8 = .ok (.invokevirtual 35, 3) := by decide +kernel
theorem dX5_isReady_11 : decode cX5_isReady 11 = .ok (.ifCond .eq 7, 3) := by decide +kernel
theorem dX5_isReady_14 : decode cX5_isReady 14 = .ok (.iconst 1, 1) := by decide +kernel
theorem dX5_isReady_15 : decode cX5_isReady 15 = .ok (.goto 4, 3) := by decide +kernel
theorem dX5_isReady_18 : decode cX5_isReady 18 = .ok (.iconst 0, 1) := by decide +kernel
theorem dX5_isReady_19 : decode cX5_isReady 19 = .ok (.ireturn, 1) := by decide +kernel
theorem dX5_ways_0 : decode cX5_ways 0 = .ok (.lconst 1, 1) := by decide +kernel
theorem dX5_ways_1 : decode cX5_ways 1 = .ok (.lstore_n 1, 1) := by decide +kernel
theorem dX5_ways_2 : decode cX5_ways 2 = .ok (.iconst 0, 1) := by decide +kernel
theorem dX5_ways_3 : decode cX5_ways 3 = .ok (.istore_n 3, 1) := by decide +kernel
theorem dX5_ways_4 : decode cX5_ways 4 = .ok (.iload_n 3, 1) := by decide +kernel
theorem dX5_ways_5 : decode cX5_ways 5 = .ok (.aload_n 0, 1) := by decide +kernel
theorem dX5_ways_6 : decode cX5_ways 6 = .ok (.getfield 27, 3) := by decide +kernel
theorem dX5_ways_9 : decode cX5_ways 9 = .ok (.if_icmp .ge 28, 3) := by decide +kernel
theorem dX5_ways_12 : decode cX5_ways 12 = .ok (.lload_n 1, 1) := by decide +kernel
theorem dX5_ways_13 : decode cX5_ways 13 = .ok (.aload_n 0, 1) := by decide +kernel
theorem dX5_ways_14 : decode cX5_ways 14 = .ok (.getfield 15, 3) := by decide +kernel
theorem dX5_ways_17 : decode cX5_ways 17 = .ok (.iload_n 3, 1) := by decide +kernel
theorem dX5_ways_18 : decode cX5_ways 18 = .ok (.iaload, 1) := by decide +kernel
theorem dX5_ways_19 : decode cX5_ways 19 = .ok (.aload_n 0, 1) := by decide +kernel
theorem dX5_ways_20 : decode cX5_ways 20 = .ok (.getfield 9, 3) := by decide +kernel
theorem dX5_ways_23 : decode cX5_ways 23 = .ok (.iload_n 3, 1) := by decide +kernel
theorem dX5_ways_24 : decode cX5_ways 24 = .ok (.iaload, 1) := by decide +kernel
theorem dX5_ways_25 : decode cX5_ways 25 = .ok (.isub, 1) := by decide +kernel
theorem dX5_ways_26 : decode cX5_ways 26 = .ok (.iconst 1, 1) := by decide +kernel
theorem dX5_ways_27 : decode cX5_ways 27 = .ok (.iadd, 1) := by decide +kernel
theorem dX5_ways_28 : decode cX5_ways 28 = .ok (.i2l, 1) := by decide +kernel
theorem dX5_ways_29 : decode cX5_ways 29 = .ok (.lmul, 1) := by decide +kernel
theorem dX5_ways_30 : decode cX5_ways 30 = .ok (.lstore_n 1, 1) := by decide +kernel
theorem dX5_ways_31 : decode cX5_ways 31 = .ok (.iinc 3 1, 3) := by decide +kernel
theorem dX5_ways_34 : decode cX5_ways 34 = .ok (.goto (-30), 3) := by decide +kernel
theorem dX5_ways_37 : decode cX5_ways 37 = .ok (.lload_n 1, 1) := by decide +kernel
theorem dX5_ways_38 : decode cX5_ways 38 = .ok (.lreturn, 1) := by decide +kernel
theorem dX5_startFillings_0 : decode cX5_startFillings 0 = .ok (.iconst 0, 1) := by decide +kernel
theorem dX5_startFillings_1 : decode cX5_startFillings 1 = .ok (.istore_n 1, 1) := by decide +kernel
theorem dX5_startFillings_2 : decode cX5_startFillings 2 = .ok (.iload_n 1, 1) := by decide +kernel
theorem dX5_startFillings_3 : decode cX5_startFillings 3 = .ok (.aload_n 0, 1) := by decide +kernel
theorem dX5_startFillings_4 : decode cX5_startFillings 4 = .ok (.getfield 27, 3) := by decide +kernel
theorem dX5_startFillings_7 : decode cX5_startFillings 7 = .ok (.if_icmp .ge 21, 3) := by decide +kernel
theorem dX5_startFillings_10 : decode cX5_startFillings 10 = .ok (.aload_n 0, 1) := by decide +kernel
theorem dX5_startFillings_11 : decode cX5_startFillings 11 = .ok (.getfield 24, 3) := by decide +kernel
theorem dX5_startFillings_14 : decode cX5_startFillings 14 = .ok (.iload_n 1, 1) := by decide +kernel
theorem dX5_startFillings_15 : decode cX5_startFillings 15 = .ok (.aload_n 0, 1) := by decide +kernel
theorem dX5_startFillings_16 : decode cX5_startFillings 16 = .ok (.getfield 9, 3) := by decide +kernel
theorem dX5_startFillings_19 : decode cX5_startFillings 19 = .ok (.iload_n 1, 1) := by decide +kernel
theorem dX5_startFillings_20 : decode cX5_startFillings 20 = .ok (.iaload, 1) := by decide +kernel
theorem dX5_startFillings_21 : decode cX5_startFillings 21 = .ok (.iastore, 1) := by decide +kernel
theorem dX5_startFillings_22 : decode cX5_startFillings 22 = .ok (.iinc 1 1, 3) := by decide +kernel
theorem dX5_startFillings_25 : decode cX5_startFillings 25 = .ok (.goto (-23), 3) := by decide +kernel
theorem dX5_startFillings_28 : decode cX5_startFillings 28 = .ok (.return_, 1) := by decide +kernel
theorem dX5_nextFilling_0 : decode cX5_nextFilling 0 = .ok (.iconst 0, 1) := by decide +kernel
theorem dX5_nextFilling_1 : decode cX5_nextFilling 1 = .ok (.istore_n 1, 1) := by decide +kernel
theorem dX5_nextFilling_2 : decode cX5_nextFilling 2 = .ok (.iload_n 1, 1) := by decide +kernel
theorem dX5_nextFilling_3 : decode cX5_nextFilling 3 = .ok (.aload_n 0, 1) := by decide +kernel
theorem dX5_nextFilling_4 : decode cX5_nextFilling 4 = .ok (.getfield 27, 3) := by decide +kernel
theorem dX5_nextFilling_7 : decode cX5_nextFilling 7 = .ok (.if_icmp .ge 47, 3) := by decide +kernel
theorem dX5_nextFilling_10 : decode cX5_nextFilling 10 = .ok (.aload_n 0, 1) := by decide +kernel
theorem dX5_nextFilling_11 : decode cX5_nextFilling 11 = .ok (.getfield 24, 3) := by decide +kernel
theorem dX5_nextFilling_14 : decode cX5_nextFilling 14 = .ok (.iload_n 1, 1) := by decide +kernel
theorem dX5_nextFilling_15 : decode cX5_nextFilling 15 = .ok (.iaload, 1) := by decide +kernel
theorem dX5_nextFilling_16 : decode cX5_nextFilling 16 = .ok (.aload_n 0, 1) := by decide +kernel
theorem dX5_nextFilling_17 : decode cX5_nextFilling 17 = .ok (.getfield 15, 3) := by decide +kernel
theorem dX5_nextFilling_20 : decode cX5_nextFilling 20 = .ok (.iload_n 1, 1) := by decide +kernel
theorem dX5_nextFilling_21 : decode cX5_nextFilling 21 = .ok (.iaload, 1) := by decide +kernel
theorem dX5_nextFilling_22 : decode cX5_nextFilling 22 = .ok (.if_icmp .ge 14, 3) := by decide +kernel
theorem dX5_nextFilling_25 : decode cX5_nextFilling 25 = .ok (.aload_n 0, 1) := by decide +kernel
theorem dX5_nextFilling_26 : decode cX5_nextFilling 26 = .ok (.getfield 24, 3) := by decide +kernel
theorem dX5_nextFilling_29 : decode cX5_nextFilling 29 = .ok (.iload_n 1, 1) := by decide +kernel
theorem dX5_nextFilling_30 : decode cX5_nextFilling 30 = .ok (.dup2, 1) := by decide +kernel
theorem dX5_nextFilling_31 : decode cX5_nextFilling 31 = .ok (.iaload, 1) := by decide +kernel
theorem dX5_nextFilling_32 : decode cX5_nextFilling 32 = .ok (.iconst 1, 1) := by decide +kernel
theorem dX5_nextFilling_33 : decode cX5_nextFilling 33 = .ok (.iadd, 1) := by decide +kernel
theorem dX5_nextFilling_34 : decode cX5_nextFilling 34 = .ok (.iastore, 1) := by decide +kernel
theorem dX5_nextFilling_35 : decode cX5_nextFilling 35 = .ok (.return_, 1) := by decide +kernel
theorem dX5_nextFilling_36 : decode cX5_nextFilling 36 = .ok (.aload_n 0, 1) := by decide +kernel
theorem dX5_nextFilling_37 : decode cX5_nextFilling 37 = .ok (.getfield 24, 3) := by decide +kernel
theorem dX5_nextFilling_40 : decode cX5_nextFilling 40 = .ok (.iload_n 1, 1) := by decide +kernel
theorem dX5_nextFilling_41 : decode cX5_nextFilling 41 = .ok (.aload_n 0, 1) := by decide +kernel
theorem dX5_nextFilling_42 : decode cX5_nextFilling 42 = .ok (.getfield 9, 3) := by decide +kernel
theorem dX5_nextFilling_45 : decode cX5_nextFilling 45 = .ok (.iload_n 1, 1) := by decide +kernel
theorem dX5_nextFilling_46 : decode cX5_nextFilling 46 = .ok (.iaload, 1) := by decide +kernel
theorem dX5_nextFilling_47 : decode cX5_nextFilling 47 = .ok (.iastore, 1) := by decide +kernel
theorem dX5_nextFilling_48 : decode cX5_nextFilling 48 = .ok (.iinc 1 1, 3) := by decide +kernel
theorem dX5_nextFilling_51 : decode cX5_nextFilling 51 = .ok (.goto (-49), 3) := by decide +kernel
theorem dX5_nextFilling_54 : decode cX5_nextFilling 54 = .ok (.return_, 1) := by decide +kernel
theorem dX5_familiesOf_0 : decode cX5_familiesOf 0 = .ok (.iconst 0, 1) := by decide +kernel
theorem dX5_familiesOf_1 : decode cX5_familiesOf 1 = .ok (.istore_n 2, 1) := by decide +kernel
theorem dX5_familiesOf_2 : decode cX5_familiesOf 2 = .ok (.iconst 0, 1) := by decide +kernel
theorem dX5_familiesOf_3 : decode cX5_familiesOf 3 = .ok (.istore_n 3, 1) := by decide +kernel
theorem dX5_familiesOf_4 : decode cX5_familiesOf 4 = .ok (.iload_n 3, 1) := by decide +kernel
theorem dX5_familiesOf_5 : decode cX5_familiesOf 5 = .ok (.aload_n 0, 1) := by decide +kernel
theorem dX5_familiesOf_6 : decode cX5_familiesOf 6 = .ok (.getfield 27, 3) := by decide +kernel
theorem dX5_familiesOf_9 : decode cX5_familiesOf 9 = .ok (.if_icmp .ge 22, 3) := by decide +kernel
theorem dX5_familiesOf_12 : decode cX5_familiesOf 12 = .ok (.aload_n 0, 1) := by decide +kernel
theorem dX5_familiesOf_13 : decode cX5_familiesOf 13 = .ok (.getfield 21, 3) := by decide +kernel
theorem dX5_familiesOf_16 : decode cX5_familiesOf 16 = .ok (.iload_n 3, 1) := by decide +kernel
theorem dX5_familiesOf_17 : decode cX5_familiesOf 17 = .ok (.iaload, 1) := by decide +kernel
theorem dX5_familiesOf_18 : decode cX5_familiesOf 18 = .ok (.iload_n 1, 1) := by decide +kernel
theorem dX5_familiesOf_19 : decode cX5_familiesOf 19 = .ok (.if_icmp .ne 6, 3) := by decide +kernel
theorem dX5_familiesOf_22 : decode cX5_familiesOf 22 = .ok (.iinc 2 1, 3) := by decide +kernel
theorem dX5_familiesOf_25 : decode cX5_familiesOf 25 = .ok (.iinc 3 1, 3) := by decide +kernel
theorem dX5_familiesOf_28 : decode cX5_familiesOf 28 = .ok (.goto (-24), 3) := by decide +kernel
theorem dX5_familiesOf_31 : decode cX5_familiesOf 31 = .ok (.iload_n 2, 1) := by decide +kernel
theorem dX5_familiesOf_32 : decode cX5_familiesOf 32 = .ok (.ireturn, 1) := by decide +kernel
theorem dX5_sumOfPart_0 : decode cX5_sumOfPart 0 = .ok (.iconst 0, 1) := by decide +kernel
theorem dX5_sumOfPart_1 : decode cX5_sumOfPart 1 = .ok (.istore_n 2, 1) := by decide +kernel
theorem dX5_sumOfPart_2 : decode cX5_sumOfPart 2 = .ok (.iconst 0, 1) := by decide +kernel
theorem dX5_sumOfPart_3 : decode cX5_sumOfPart 3 = .ok (.istore_n 3, 1) := by decide +kernel
theorem dX5_sumOfPart_4 : decode cX5_sumOfPart 4 = .ok (.iload_n 3, 1) := by decide +kernel
theorem dX5_sumOfPart_5 : decode cX5_sumOfPart 5 = .ok (.aload_n 0, 1) := by decide +kernel
theorem dX5_sumOfPart_6 : decode cX5_sumOfPart 6 = .ok (.getfield 27, 3) := by decide +kernel
theorem dX5_sumOfPart_9 : decode cX5_sumOfPart 9 = .ok (.if_icmp .ge 28, 3) := by decide +kernel
theorem dX5_sumOfPart_12 : decode cX5_sumOfPart 12 = .ok (.aload_n 0, 1) := by decide +kernel
theorem dX5_sumOfPart_13 : decode cX5_sumOfPart 13 = .ok (.getfield 21, 3) := by decide +kernel
theorem dX5_sumOfPart_16 : decode cX5_sumOfPart 16 = .ok (.iload_n 3, 1) := by decide +kernel
theorem dX5_sumOfPart_17 : decode cX5_sumOfPart 17 = .ok (.iaload, 1) := by decide +kernel
theorem dX5_sumOfPart_18 : decode cX5_sumOfPart 18 = .ok (.iload_n 1, 1) := by decide +kernel
theorem dX5_sumOfPart_19 : decode cX5_sumOfPart 19 = .ok (.if_icmp .ne 12, 3) := by decide +kernel
theorem dX5_sumOfPart_22 : decode cX5_sumOfPart 22 = .ok (.iload_n 2, 1) := by decide +kernel
theorem dX5_sumOfPart_23 : decode cX5_sumOfPart 23 = .ok (.aload_n 0, 1) := by decide +kernel
theorem dX5_sumOfPart_24 : decode cX5_sumOfPart 24 = .ok (.getfield 9, 3) := by decide +kernel
theorem dX5_sumOfPart_27 : decode cX5_sumOfPart 27 = .ok (.iload_n 3, 1) := by decide +kernel
theorem dX5_sumOfPart_28 : decode cX5_sumOfPart 28 = .ok (.iaload, 1) := by decide +kernel
theorem dX5_sumOfPart_29 : decode cX5_sumOfPart 29 = .ok (.iadd, 1) := by decide +kernel
theorem dX5_sumOfPart_30 : decode cX5_sumOfPart 30 = .ok (.istore_n 2, 1) := by decide +kernel
theorem dX5_sumOfPart_31 : decode cX5_sumOfPart 31 = .ok (.iinc 3 1, 3) := by decide +kernel
theorem dX5_sumOfPart_34 : decode cX5_sumOfPart 34 = .ok (.goto (-30), 3) := by decide +kernel
theorem dX5_sumOfPart_37 : decode cX5_sumOfPart 37 = .ok (.iload_n 2, 1) := by decide +kernel
theorem dX5_sumOfPart_38 : decode cX5_sumOfPart 38 = .ok (.ireturn, 1) := by decide +kernel
theorem dX6_init_0 : decode cX6_init 0 = .ok (.aload_n 0, 1) := by decide +kernel
theorem dX6_init_1 : decode cX6_init 1 = .ok (.invokespecial 3, 3) := by decide +kernel
theorem dX6_init_4 : decode cX6_init 4 = .ok (.aload_n 0, 1) := by decide +kernel
theorem dX6_init_5 : decode cX6_init 5 = .ok (.new 9, 3) := by decide +kernel
theorem dX6_init_8 : decode cX6_init 8 = .ok (.dup, 1) := by decide +kernel
theorem dX6_init_9 : decode cX6_init 9 = .ok (.invokespecial 11, 3) := by decide +kernel
theorem dX6_init_12 : decode cX6_init 12 = .ok (.putfield 12, 3) := by decide +kernel
theorem dX6_init_15 : decode cX6_init 15 = .ok (.aload_n 0, 1) := by decide +kernel
theorem dX6_init_16 : decode cX6_init 16 = .ok (.new 9, 3) := by decide +kernel
theorem dX6_init_19 : decode cX6_init 19 = .ok (.dup, 1) := by decide +kernel
theorem dX6_init_20 : decode cX6_init 20 = .ok (.invokespecial 11, 3) := by decide +kernel
theorem dX6_init_23 : decode cX6_init 23 = .ok (.putfield 18, 3) := by decide +kernel
theorem dX6_init_26 : decode cX6_init 26 = .ok (.return_, 1) := by decide +kernel
theorem dX6_atEnd_0 : decode cX6_atEnd 0 = .ok (.aload_n 0, 1) := by decide +kernel
theorem dX6_atEnd_1 : decode cX6_atEnd 1 = .ok (.getfield 12, 3) := by decide +kernel
theorem dX6_atEnd_4 : decode cX6_atEnd 4 = .ok (.getfield 21, 3) := by decide +kernel
theorem dX6_atEnd_7 : decode cX6_atEnd 7 = .ok (.aload_n 0, 1) := by decide +kernel
theorem dX6_atEnd_8 : decode cX6_atEnd 8 = .ok (.getfield 18, 3) := by decide +kernel
theorem dX6_atEnd_11 : decode cX6_atEnd 11 = .ok (.getfield 21, 3) := by decide +kernel
theorem dX6_atEnd_14 : decode cX6_atEnd 14 = .ok (.lmul, 1) := by decide +kernel
theorem dX6_atEnd_15 : decode cX6_atEnd 15 = .ok (.lreturn, 1) := by decide +kernel
theorem dX6_told_0 : decode cX6_told 0 = .ok (.iconst 0, 1) := by decide +kernel
theorem dX6_told_1 : decode cX6_told 1 = .ok (.istore_n 2, 1) := by decide +kernel
theorem dX6_told_2 : decode cX6_told 2 = .ok (.iconst 0, 1) := by decide +kernel
theorem dX6_told_3 : decode cX6_told 3 = .ok (.istore_n 3, 1) := by decide +kernel
theorem dX6_told_4 : decode cX6_told 4 = .ok (.aload_n 0, 1) := by decide +kernel
theorem dX6_told_5 : decode cX6_told 5 = .ok (.iload_n 1, 1) := by decide +kernel
theorem dX6_told_6 : decode cX6_told 6 = .ok (.invokevirtual 25, 3) := by decide +kernel
theorem dX6_told_9 : decode cX6_told 9 = .ok (.iconst 0, 1) := by decide +kernel
theorem dX6_told_10 : decode cX6_told 10 = .ok (.istore 4, 2) := by decide +kernel
theorem dX6_told_12 : decode cX6_told 12 = .ok (.iload 4, 2) := by decide +kernel
theorem dX6_told_14 : decode cX6_told 14 = .ok (.bipush 16, 2) := by decide +kernel
theorem dX6_told_16 : decode cX6_told 16 = .ok (.if_icmp .ge 56, 3) := by decide +kernel
theorem dX6_told_19 : decode cX6_told 19 = .ok (.aload_n 0, 1) := by decide +kernel
theorem dX6_told_20 : decode cX6_told 20 = .ok (.invokevirtual 29, 3) := by decide +kernel
theorem dX6_told_23 : decode cX6_told 23 = .ok (.ifCond .eq 49, 3) := by decide +kernel
theorem dX6_told_26 : decode cX6_told 26 = .ok (.iload_n 2, 1) := by decide +kernel
theorem dX6_told_27 : decode cX6_told 27 = .ok (.aload_n 0, 1) := by decide +kernel
theorem dX6_told_28 : decode cX6_told 28 = .ok (.getfield 33, 3) := by decide +kernel
theorem dX6_told_31 : decode cX6_told 31 = .ok (.ifCond .le 7, 3) := by decide +kernel
theorem dX6_told_34 : decode cX6_told 34 = .ok (.iconst 1, 1) := by decide +kernel
theorem dX6_told_35 : decode cX6_told 35 = .ok (.goto 4, 3) := by decide +kernel
theorem dX6_told_38 : decode cX6_told 38 = .ok (.iconst 0, 1) := by decide +kernel
theorem dX6_told_39 : decode cX6_told 39 = .ok (.ior, 1) := by decide +kernel
theorem dX6_told_40 : decode cX6_told 40 = .ok (.istore_n 2, 1) := by decide +kernel
theorem dX6_told_41 : decode cX6_told 41 = .ok (.iload_n 3, 1) := by decide +kernel
theorem dX6_told_42 : decode cX6_told 42 = .ok (.aload_n 0, 1) := by decide +kernel
theorem dX6_told_43 : decode cX6_told 43 = .ok (.getfield 33, 3) := by decide +kernel
theorem dX6_told_46 : decode cX6_told 46 = .ok (.ifCond .ge 7, 3) := by decide +kernel
theorem dX6_told_49 : decode cX6_told 49 = .ok (.iconst 1, 1) := by decide +kernel
theorem dX6_told_50 : decode cX6_told 50 = .ok (.goto 4, 3) := by decide +kernel
theorem dX6_told_53 : decode cX6_told 53 = .ok (.iconst 0, 1) := by decide +kernel
theorem dX6_told_54 : decode cX6_told 54 = .ok (.ior, 1) := by decide +kernel
theorem dX6_told_55 : decode cX6_told 55 = .ok (.istore_n 3, 1) := by decide +kernel
theorem dX6_told_56 : decode cX6_told 56 = .ok (.iload_n 2, 1) := by decide +kernel
theorem dX6_told_57 : decode cX6_told 57 = .ok (.ifCond .eq 9, 3) := by decide +kernel
theorem dX6_told_60 : decode cX6_told 60 = .ok (.iload_n 3, 1) := by decide +kernel
theorem dX6_told_61 : decode cX6_told 61 = .ok (.ifCond .eq 5, 3) := by decide +kernel
theorem dX6_told_64 : decode cX6_told 64 = .ok (.iconst 0, 1) := by decide +kernel
theorem dX6_told_65 : decode cX6_told 65 = .ok (.ireturn, 1) := by decide +kernel
theorem dX6_told_66 : decode cX6_told 66 = .ok (.iinc 4 1, 3) := by decide +kernel
theorem dX6_told_69 : decode cX6_told 69 = .ok (.goto (-57), 3) := by decide +kernel
theorem dX6_told_72 : decode cX6_told 72 = .ok (.iload_n 2, 1) := by decide +kernel
theorem dX6_told_73 : decode cX6_told 73 = .ok (.ifCond .eq 5, 3) := by decide +kernel
theorem dX6_told_76 : decode cX6_told 76 = .ok (.iconst 1, 1) := by decide +kernel
theorem dX6_told_77 : decode cX6_told 77 = .ok (.ireturn, 1) := by decide +kernel
theorem dX6_told_78 : decode cX6_told 78 = .ok (.iload_n 3, 1) := by decide +kernel
theorem dX6_told_79 : decode cX6_told 79 = .ok (.ifCond .eq 7, 3) := by decide +kernel
theorem dX6_told_82 : decode cX6_told 82 = .ok (.iconst 2, 1) := by decide +kernel
theorem dX6_told_83 : decode cX6_told 83 = .ok (.goto 4, 3) := by decide +kernel
theorem dX6_told_86 : decode cX6_told 86 = .ok (.iconst 3, 1) := by decide +kernel
theorem dX6_told_87 : decode cX6_told 87 = .ok (.ireturn, 1) := by decide +kernel
theorem dX6_firstMore_0 : decode cX6_firstMore 0 = .ok (.aload_n 0, 1) := by decide +kernel
theorem dX6_firstMore_1 : decode cX6_firstMore 1 = .ok (.iload_n 1, 1) := by decide +kernel
theorem dX6_firstMore_2 : decode cX6_firstMore 2 = .ok (.invokevirtual 25, 3) := by decide +kernel
theorem dX6_firstMore_5 : decode cX6_firstMore 5 = .ok (.iconst 0, 1) := by decide +kernel
theorem dX6_firstMore_6 : decode cX6_firstMore 6 = .ok (.istore_n 2, 1) := by decide +kernel
theorem dX6_firstMore_7 : decode cX6_firstMore 7 = .ok (.iload_n 2, 1) := by decide +kernel
theorem dX6_firstMore_8 : decode cX6_firstMore 8 = .ok (.bipush 16, 2) := by decide +kernel
theorem dX6_firstMore_10 : decode cX6_firstMore 10 = .ok (.if_icmp .ge 28, 3) := by decide +kernel
theorem dX6_firstMore_13 : decode cX6_firstMore 13 = .ok (.aload_n 0, 1) := by decide +kernel
theorem dX6_firstMore_14 : decode cX6_firstMore 14 = .ok (.invokevirtual 29, 3) := by decide +kernel
theorem dX6_firstMore_17 : decode cX6_firstMore 17 = .ok (.ifCond .eq 21, 3) := by decide +kernel
theorem dX6_firstMore_20 : decode cX6_firstMore 20 = .ok (.aload_n 0, 1) := by decide +kernel
theorem dX6_firstMore_21 : decode cX6_firstMore 21 = .ok (.getfield 33, 3) := by decide +kernel
theorem dX6_firstMore_24 : decode cX6_firstMore 24 = .ok (.ifCond .le 8, 3) := by decide +kernel
theorem dX6_firstMore_27 : decode cX6_firstMore 27 = .ok (.aload_n 0, 1) := by decide +kernel
theorem dX6_firstMore_28 : decode cX6_firstMore 28 = .ok (.getfield 37, 3) := by decide +kernel
theorem dX6_firstMore_31 : decode cX6_firstMore 31 = .ok (.lreturn, 1) := by decide +kernel
theorem dX6_firstMore_32 : decode cX6_firstMore 32 = .ok (.iinc 2 1, 3) := by decide +kernel
theorem dX6_firstMore_35 : decode cX6_firstMore 35 = .ok (.goto (-28), 3) := by decide +kernel
theorem dX6_firstMore_38 : decode cX6_firstMore 38 = .ok (.ldc2_w 40, 3) := by decide +kernel
theorem dX6_firstMore_41 : decode cX6_firstMore 41 = .ok (.lreturn, 1) := by decide +kernel
theorem dX6_start_0 : decode cX6_start 0 = .ok (.aload_n 0, 1) := by decide +kernel
theorem dX6_start_1 : decode cX6_start 1 = .ok (.getfield 12, 3) := by decide +kernel
theorem dX6_start_4 : decode cX6_start 4 = .ok (.invokevirtual 42, 3) := by decide +kernel
theorem dX6_start_7 : decode cX6_start 7 = .ok (.aload_n 0, 1) := by decide +kernel
theorem dX6_start_8 : decode cX6_start 8 = .ok (.getfield 18, 3) := by decide +kernel
theorem dX6_start_11 : decode cX6_start 11 = .ok (.invokevirtual 42, 3) := by decide +kernel
theorem dX6_start_14 : decode cX6_start 14 = .ok (.aload_n 0, 1) := by decide +kernel
theorem dX6_start_15 : decode cX6_start 15 = .ok (.iload_n 1, 1) := by decide +kernel
theorem dX6_start_16 : decode cX6_start 16 = .ok (.ifCond .ne 21, 3) := by decide +kernel
theorem dX6_start_19 : decode cX6_start 19 = .ok (.aload_n 0, 1) := by decide +kernel
theorem dX6_start_20 : decode cX6_start 20 = .ok (.getfield 12, 3) := by decide +kernel
theorem dX6_start_23 : decode cX6_start 23 = .ok (.getfield 21, 3) := by decide +kernel
theorem dX6_start_26 : decode cX6_start 26 = .ok (.aload_n 0, 1) := by decide +kernel
theorem dX6_start_27 : decode cX6_start 27 = .ok (.getfield 18, 3) := by decide +kernel
theorem dX6_start_30 : decode cX6_start 30 = .ok (.getfield 45, 3) := by decide +kernel
theorem dX6_start_33 : decode cX6_start 33 = .ok (.lmul, 1) := by decide +kernel
theorem dX6_start_34 : decode cX6_start 34 = .ok (.goto 4, 3) := by decide +kernel
theorem dX6_start_37 : decode cX6_start 37 = .ok (.lconst 1, 1) := by decide +kernel
theorem dX6_start_38 : decode cX6_start 38 = .ok (.putfield 48, 3) := by decide +kernel
theorem dX6_start_41 : decode cX6_start 41 = .ok (.aload_n 0, 1) := by decide +kernel
theorem dX6_start_42 : decode cX6_start 42 = .ok (.iload_n 1, 1) := by decide +kernel
theorem dX6_start_43 : decode cX6_start 43 = .ok (.ifCond .ne 21, 3) := by decide +kernel
theorem dX6_start_46 : decode cX6_start 46 = .ok (.aload_n 0, 1) := by decide +kernel
theorem dX6_start_47 : decode cX6_start 47 = .ok (.getfield 18, 3) := by decide +kernel
theorem dX6_start_50 : decode cX6_start 50 = .ok (.getfield 21, 3) := by decide +kernel
theorem dX6_start_53 : decode cX6_start 53 = .ok (.aload_n 0, 1) := by decide +kernel
theorem dX6_start_54 : decode cX6_start 54 = .ok (.getfield 12, 3) := by decide +kernel
theorem dX6_start_57 : decode cX6_start 57 = .ok (.getfield 45, 3) := by decide +kernel
theorem dX6_start_60 : decode cX6_start 60 = .ok (.lmul, 1) := by decide +kernel
theorem dX6_start_61 : decode cX6_start 61 = .ok (.goto 4, 3) := by decide +kernel
theorem dX6_start_64 : decode cX6_start 64 = .ok (.lconst 1, 1) := by decide +kernel
theorem dX6_start_65 : decode cX6_start 65 = .ok (.putfield 51, 3) := by decide +kernel
theorem dX6_start_68 : decode cX6_start 68 = .ok (.return_, 1) := by decide +kernel
theorem dX6_toNextBreak_0 : decode cX6_toNextBreak 0 = .ok (.aload_n 0, 1) := by decide +kernel
theorem dX6_toNextBreak_1 : decode cX6_toNextBreak 1 = .ok (.getfield 12, 3) := by decide +kernel
theorem dX6_toNextBreak_4 : decode cX6_toNextBreak 4 = .ok (.invokevirtual 54, 3) := by decide +kernel
theorem dX6_toNextBreak_7 : decode cX6_toNextBreak 7 = .ok (.ifCond .ne 13, 3) := by decide +kernel
theorem dX6_toNextBreak_10 : decode cX6_toNextBreak 10 = .ok (.aload_n 0, 1) := by decide +kernel
theorem dX6_toNextBreak_11 : decode cX6_toNextBreak 11 = .ok (.getfield 18, 3) := by decide +kernel
theorem dX6_toNextBreak_14 : decode cX6_toNextBreak 14 = .ok (.invokevirtual 54, 3) := by decide +kernel
theorem dX6_toNextBreak_17 : decode cX6_toNextBreak 17 = .ok (.ifCond .eq 5, 3) := by decide +kernel
theorem dX6_toNextBreak_20 : decode cX6_toNextBreak 20 = .ok (.iconst 0, 1) := by decide +kernel
theorem dX6_toNextBreak_21 : decode cX6_toNextBreak 21 = .ok (.ireturn, 1) := by decide +kernel
theorem dX6_toNextBreak_22 : decode cX6_toNextBreak 22 = .ok (.aload_n 0, 1) := by decide +kernel
theorem dX6_toNextBreak_23 : decode cX6_toNextBreak 23 = .ok (.getfield 12, 3) := by decide +kernel
theorem dX6_toNextBreak_26 : decode cX6_toNextBreak 26 = .ok (.aload_n 0, 1) := by decide +kernel
theorem dX6_toNextBreak_27 : decode cX6_toNextBreak 27 = .ok (.getfield 18, 3) := by decide +kernel
theorem dX6_toNextBreak_30 : decode cX6_toNextBreak 30 = .ok (.getfield 21, 3) := by decide +kernel
theorem dX6_toNextBreak_33 : decode cX6_toNextBreak 33 = .ok (.invokevirtual 57, 3) := by decide +kernel
theorem dX6_toNextBreak_36 : decode cX6_toNextBreak 36 = .ok (.lstore_n 1, 1) := by decide +kernel
theorem dX6_toNextBreak_37 : decode cX6_toNextBreak 37 = .ok (.aload_n 0, 1) := by decide +kernel
theorem dX6_toNextBreak_38 : decode cX6_toNextBreak 38 = .ok (.getfield 18, 3) := by decide +kernel
theorem dX6_toNextBreak_41 : decode cX6_toNextBreak 41 = .ok (.aload_n 0, 1) := by decide +kernel
theorem dX6_toNextBreak_42 : decode cX6_toNextBreak 42 = .ok (.getfield 12, 3) := by decide +kernel
theorem dX6_toNextBreak_45 : decode cX6_toNextBreak 45 = .ok (.getfield 21, 3) := by decide +kernel
theorem dX6_toNextBreak_48 : decode cX6_toNextBreak 48 = .ok (.invokevirtual 57, 3) := by decide +kernel
theorem dX6_toNextBreak_51 : decode cX6_toNextBreak 51 = .ok (.lstore_n 3, 1) := by decide +kernel
theorem dX6_toNextBreak_52 : decode cX6_toNextBreak 52 = .ok (.aload_n 0, 1) := by decide +kernel
theorem dX6_toNextBreak_53 : decode cX6_toNextBreak 53 = .ok (.lload_n 1, 1) := by decide +kernel
theorem dX6_toNextBreak_54 : decode cX6_toNextBreak 54 = .ok (.lload_n 3, 1) := by decide +kernel
theorem dX6_toNextBreak_55 : decode cX6_toNextBreak 55 = .ok (.invokestatic 61, 3) := by decide +kernel
theorem dX6_toNextBreak_58 : decode cX6_toNextBreak 58 = .ok (.putfield 37, 3) := by decide +kernel
theorem dX6_toNextBreak_61 : decode cX6_toNextBreak 61 = .ok (.aload_n 0, 1) := by decide +kernel
theorem dX6_toNextBreak_62 : decode cX6_toNextBreak 62 = .ok (.getfield 12, 3) := by decide +kernel
theorem dX6_toNextBreak_65 : decode cX6_toNextBreak 65 = .ok (.aload_n 0, 1) := by decide +kernel
theorem dX6_toNextBreak_66 : decode cX6_toNextBreak 66 = .ok (.getfield 37, 3) := by decide +kernel
theorem dX6_toNextBreak_69 : decode cX6_toNextBreak 69 = .ok (.aload_n 0, 1) := by decide +kernel
theorem dX6_toNextBreak_70 : decode cX6_toNextBreak 70 = .ok (.getfield 18, 3) := by decide +kernel
theorem dX6_toNextBreak_73 : decode cX6_toNextBreak 73 = .ok (.getfield 21, 3) := by decide +kernel
theorem dX6_toNextBreak_76 : decode cX6_toNextBreak 76 = .ok (.invokevirtual 67, 3) := by decide +kernel
theorem dX6_toNextBreak_79 : decode cX6_toNextBreak 79 = .ok (.aload_n 0, 1) := by decide +kernel
theorem dX6_toNextBreak_80 : decode cX6_toNextBreak 80 = .ok (.getfield 48, 3) := by decide +kernel
theorem dX6_toNextBreak_83 : decode cX6_toNextBreak 83 = .ok (.lmul, 1) := by decide +kernel
theorem dX6_toNextBreak_84 : decode cX6_toNextBreak 84 = .ok (.lstore 5, 2) := by decide +kernel
theorem dX6_toNextBreak_86 : decode cX6_toNextBreak 86 = .ok (.aload_n 0, 1) := by decide +kernel
theorem dX6_toNextBreak_87 : decode cX6_toNextBreak 87 = .ok (.getfield 18, 3) := by decide +kernel
theorem dX6_toNextBreak_90 : decode cX6_toNextBreak 90 = .ok (.aload_n 0, 1) := by decide +kernel
theorem dX6_toNextBreak_91 : decode cX6_toNextBreak 91 = .ok (.getfield 37, 3) := by decide +kernel
theorem dX6_toNextBreak_94 : decode cX6_toNextBreak 94 = .ok (.aload_n 0, 1) := by decide +kernel
theorem dX6_toNextBreak_95 : decode cX6_toNextBreak 95 = .ok (.getfield 12, 3) := by decide +kernel
theorem dX6_toNextBreak_98 : decode cX6_toNextBreak 98 = .ok (.getfield 21, 3) := by decide +kernel
theorem dX6_toNextBreak_101 : decode cX6_toNextBreak 101 = .ok (.invokevirtual 67, 3) := by decide +kernel
theorem dX6_toNextBreak_104 : decode cX6_toNextBreak 104 = .ok (.aload_n 0, 1) := by decide +kernel
theorem dX6_toNextBreak_105 : decode cX6_toNextBreak 105 = .ok (.getfield 51, 3) := by decide +kernel
theorem dX6_toNextBreak_108 : decode cX6_toNextBreak 108 = .ok (.lmul, 1) := by decide +kernel
theorem dX6_toNextBreak_109 : decode cX6_toNextBreak 109 = .ok (.lstore 7, 2) := by decide +kernel
theorem dX6_toNextBreak_111 : decode cX6_toNextBreak 111 = .ok (.aload_n 0, 1) := by decide +kernel
theorem dX6_toNextBreak_112 : decode cX6_toNextBreak 112 = .ok (.lload 5, 2) := by decide +kernel
theorem dX6_toNextBreak_114 : decode cX6_toNextBreak 114 = .ok (.lload 7, 2) := by decide +kernel
theorem dX6_toNextBreak_116 : decode cX6_toNextBreak 116 = .ok (.invokestatic 70, 3) := by decide +kernel
theorem dX6_toNextBreak_119 : decode cX6_toNextBreak 119 = .ok (.putfield 33, 3) := by decide +kernel
theorem dX6_toNextBreak_122 : decode cX6_toNextBreak 122 = .ok (.lload_n 1, 1) := by decide +kernel
theorem dX6_toNextBreak_123 : decode cX6_toNextBreak 123 = .ok (.aload_n 0, 1) := by decide +kernel
theorem dX6_toNextBreak_124 : decode cX6_toNextBreak 124 = .ok (.getfield 37, 3) := by decide +kernel
theorem dX6_toNextBreak_127 : decode cX6_toNextBreak 127 = .ok (.lcmp, 1) := by decide +kernel
theorem dX6_toNextBreak_128 : decode cX6_toNextBreak 128 = .ok (.ifCond .ne 10, 3) := by decide +kernel
theorem dX6_toNextBreak_131 : decode cX6_toNextBreak 131 = .ok (.aload_n 0, 1) := by decide +kernel
theorem dX6_toNextBreak_132 : decode cX6_toNextBreak 132 = .ok (.getfield 12, 3) := by decide +kernel
theorem dX6_toNextBreak_135 : decode cX6_toNextBreak 135 = .ok (.invokevirtual 76, 3) := by decide +kernel
theorem dX6_toNextBreak_138 : decode cX6_toNextBreak 138 = .ok (.lload_n 3, 1) := by decide +kernel
theorem dX6_toNextBreak_139 : decode cX6_toNextBreak 139 = .ok (.aload_n 0, 1) := by decide +kernel
theorem dX6_toNextBreak_140 : decode cX6_toNextBreak 140 = .ok (.getfield 37, 3) := by decide +kernel
theorem dX6_toNextBreak_143 : decode cX6_toNextBreak 143 = .ok (.lcmp, 1) := by decide +kernel
theorem dX6_toNextBreak_144 : decode cX6_toNextBreak 144 = .ok (.ifCond .ne 10, 3) := by decide +kernel
theorem dX6_toNextBreak_147 : decode cX6_toNextBreak 147 = .ok (.aload_n 0, 1) := by decide +kernel
theorem dX6_toNextBreak_148 : decode cX6_toNextBreak 148 = .ok (.getfield 18, 3) := by decide +kernel
theorem dX6_toNextBreak_151 : decode cX6_toNextBreak 151 = .ok (.invokevirtual 76, 3) := by decide +kernel
theorem dX6_toNextBreak_154 : decode cX6_toNextBreak 154 = .ok (.iconst 1, 1) := by decide +kernel
theorem dX6_toNextBreak_155 : decode cX6_toNextBreak 155 = .ok (.ireturn, 1) := by decide +kernel
