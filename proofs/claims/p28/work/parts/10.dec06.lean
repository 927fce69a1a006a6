theorem dX8_sign_19 : decode cX8_sign 19 = .ok (.iload_n 2, 1) := by decide +kernel
theorem dX8_sign_20 : decode cX8_sign 20 = .ok (.invokevirtual 115, 3) := by decide +kernel
theorem dX8_sign_23 : decode cX8_sign 23 = .ok (.lmul, 1) := by decide +kernel
theorem dX8_sign_24 : decode cX8_sign 24 = .ok (.lstore_n 3, 1) := by decide +kernel
theorem dX8_sign_25 : decode cX8_sign 25 = .ok (.aload_n 0, 1) := by decide +kernel
theorem dX8_sign_26 : decode cX8_sign 26 = .ok (.iconst 1, 1) := by decide +kernel
theorem dX8_sign_27 : decode cX8_sign 27 = .ok (.aload_n 0, 1) := by decide +kernel
theorem dX8_sign_28 : decode cX8_sign 28 = .ok (.getfield 44, 3) := by decide +kernel
theorem dX8_sign_31 : decode cX8_sign 31 = .ok (.iload_n 1, 1) := by decide +kernel
theorem dX8_sign_32 : decode cX8_sign 32 = .ok (.iaload, 1) := by decide +kernel
theorem dX8_sign_33 : decode cX8_sign 33 = .ok (.aload_n 0, 1) := by decide +kernel
theorem dX8_sign_34 : decode cX8_sign 34 = .ok (.getfield 47, 3) := by decide +kernel
theorem dX8_sign_37 : decode cX8_sign 37 = .ok (.iload_n 1, 1) := by decide +kernel
theorem dX8_sign_38 : decode cX8_sign 38 = .ok (.iaload, 1) := by decide +kernel
theorem dX8_sign_39 : decode cX8_sign 39 = .ok (.invokevirtual 111, 3) := by decide +kernel
theorem dX8_sign_42 : decode cX8_sign 42 = .ok (.aload_n 0, 1) := by decide +kernel
theorem dX8_sign_43 : decode cX8_sign 43 = .ok (.iconst 0, 1) := by decide +kernel
theorem dX8_sign_44 : decode cX8_sign 44 = .ok (.iload_n 2, 1) := by decide +kernel
theorem dX8_sign_45 : decode cX8_sign 45 = .ok (.invokevirtual 115, 3) := by decide +kernel
theorem dX8_sign_48 : decode cX8_sign 48 = .ok (.lmul, 1) := by decide +kernel
theorem dX8_sign_49 : decode cX8_sign 49 = .ok (.lstore 5, 2) := by decide +kernel
theorem dX8_sign_51 : decode cX8_sign 51 = .ok (.iload_n 2, 1) := by decide +kernel
theorem dX8_sign_52 : decode cX8_sign 52 = .ok (.iconst 1, 1) := by decide +kernel
theorem dX8_sign_53 : decode cX8_sign 53 = .ok (.if_icmp .ne 18, 3) := by decide +kernel
theorem dX8_sign_56 : decode cX8_sign 56 = .ok (.aload_n 0, 1) := by decide +kernel
theorem dX8_sign_57 : decode cX8_sign 57 = .ok (.getfield 41, 3) := by decide +kernel
theorem dX8_sign_60 : decode cX8_sign 60 = .ok (.iconst 0, 1) := by decide +kernel
theorem dX8_sign_61 : decode cX8_sign 61 = .ok (.laload, 1) := by decide +kernel
theorem dX8_sign_62 : decode cX8_sign 62 = .ok (.lconst 0, 1) := by decide +kernel
theorem dX8_sign_63 : decode cX8_sign 63 = .ok (.lcmp, 1) := by decide +kernel
theorem dX8_sign_64 : decode cX8_sign 64 = .ok (.ifCond .ne 7, 3) := by decide +kernel
theorem dX8_sign_67 : decode cX8_sign 67 = .ok (.lconst 0, 1) := by decide +kernel
theorem dX8_sign_68 : decode cX8_sign 68 = .ok (.goto 4, 3) := by decide +kernel
theorem dX8_sign_71 : decode cX8_sign 71 = .ok (.lload_n 3, 1) := by decide +kernel
theorem dX8_sign_72 : decode cX8_sign 72 = .ok (.lstore_n 3, 1) := by decide +kernel
theorem dX8_sign_73 : decode cX8_sign 73 = .ok (.iload_n 2, 1) := by decide +kernel
theorem dX8_sign_74 : decode cX8_sign 74 = .ok (.iconst 1, 1) := by decide +kernel
theorem dX8_sign_75 : decode cX8_sign 75 = .ok (.if_icmp .ne 18, 3) := by decide +kernel
theorem dX8_sign_78 : decode cX8_sign 78 = .ok (.aload_n 0, 1) := by decide +kernel
theorem dX8_sign_79 : decode cX8_sign 79 = .ok (.getfield 41, 3) := by decide +kernel
theorem dX8_sign_82 : decode cX8_sign 82 = .ok (.iconst 1, 1) := by decide +kernel
theorem dX8_sign_83 : decode cX8_sign 83 = .ok (.laload, 1) := by decide +kernel
theorem dX8_sign_84 : decode cX8_sign 84 = .ok (.lconst 0, 1) := by decide +kernel
theorem dX8_sign_85 : decode cX8_sign 85 = .ok (.lcmp, 1) := by decide +kernel
theorem dX8_sign_86 : decode cX8_sign 86 = .ok (.ifCond .ne 7, 3) := by decide +kernel
theorem dX8_sign_89 : decode cX8_sign 89 = .ok (.lconst 0, 1) := by decide +kernel
theorem dX8_sign_90 : decode cX8_sign 90 = .ok (.goto 5, 3) := by decide +kernel
theorem dX8_sign_93 : decode cX8_sign 93 = .ok (.lload 5, 2) := by decide +kernel
theorem dX8_sign_95 : decode cX8_sign 95 = .ok (.lstore 5, 2) := by decide +kernel
theorem dX8_sign_97 : decode cX8_sign 97 = .ok (.lload_n 3, 1) := by decide +kernel
theorem dX8_sign_98 : decode cX8_sign 98 = .ok (.lload 5, 2) := by decide +kernel
theorem dX8_sign_100 : decode cX8_sign 100 = .ok (.lcmp, 1) := by decide +kernel
theorem dX8_sign_101 : decode cX8_sign 101 = .ok (.ifCond .le 7, 3) := by decide +kernel
theorem dX8_sign_104 : decode cX8_sign 104 = .ok (.iconst 1, 1) := by decide +kernel
theorem dX8_sign_105 : decode cX8_sign 105 = .ok (.goto 15, 3) := by decide +kernel
theorem dX8_sign_108 : decode cX8_sign 108 = .ok (.lload_n 3, 1) := by decide +kernel
theorem dX8_sign_109 : decode cX8_sign 109 = .ok (.lload 5, 2) := by decide +kernel
theorem dX8_sign_111 : decode cX8_sign 111 = .ok (.lcmp, 1) := by decide +kernel
theorem dX8_sign_112 : decode cX8_sign 112 = .ok (.ifCond .ge 7, 3) := by decide +kernel
theorem dX8_sign_115 : decode cX8_sign 115 = .ok (.iconst (-1), 1) := by decide +kernel
theorem dX8_sign_116 : decode cX8_sign 116 = .ok (.goto 4, 3) := by decide +kernel
theorem dX8_sign_119 : decode cX8_sign 119 = .ok (.iconst 0, 1) := by decide +kernel
theorem dX8_sign_120 : decode cX8_sign 120 = .ok (.ireturn, 1) := by decide +kernel
theorem dX8_orderLaid_0 : decode cX8_orderLaid 0 = .ok (.aload_n 0, 1) := by decide +kernel
theorem dX8_orderLaid_1 : decode cX8_orderLaid 1 = .ok (.invokevirtual 119, 3) := by decide +kernel
theorem dX8_orderLaid_4 : decode cX8_orderLaid 4 = .ok (.iconst 0, 1) := by decide +kernel
theorem dX8_orderLaid_5 : decode cX8_orderLaid 5 = .ok (.istore_n 2, 1) := by decide +kernel
theorem dX8_orderLaid_6 : decode cX8_orderLaid 6 = .ok (.iconst 0, 1) := by decide +kernel
theorem dX8_orderLaid_7 : decode cX8_orderLaid 7 = .ok (.istore_n 3, 1) := by decide +kernel
theorem dX8_orderLaid_8 : decode cX8_orderLaid 8 = .ok (.iconst 0, 1) := by decide +kernel
theorem dX8_orderLaid_9 : decode cX8_orderLaid 9 = .ok (.istore 4, 2) := by decide +kernel
theorem dX8_orderLaid_11 : decode cX8_orderLaid 11 = .ok (.iload 4, 2) := by decide +kernel
theorem dX8_orderLaid_13 : decode cX8_orderLaid 13 = .ok (.aload_n 0, 1) := by decide +kernel
theorem dX8_orderLaid_14 : decode cX8_orderLaid 14 = .ok (.getfield 103, 3) := by decide +kernel
theorem dX8_orderLaid_17 : decode cX8_orderLaid 17 = .ok (.if_icmp .ge 48, 3) := by decide +kernel
theorem dX8_orderLaid_20 : decode cX8_orderLaid 20 = .ok (.aload_n 0, 1) := by decide +kernel
theorem dX8_orderLaid_21 : decode cX8_orderLaid 21 = .ok (.iload 4, 2) := by decide +kernel
theorem dX8_orderLaid_23 : decode cX8_orderLaid 23 = .ok (.iload_n 1, 1) := by decide +kernel
theorem dX8_orderLaid_24 : decode cX8_orderLaid 24 = .ok (.invokevirtual 122, 3) := by decide +kernel
theorem dX8_orderLaid_27 : decode cX8_orderLaid 27 = .ok (.istore 5, 2) := by decide +kernel
theorem dX8_orderLaid_29 : decode cX8_orderLaid 29 = .ok (.iload_n 2, 1) := by decide +kernel
theorem dX8_orderLaid_30 : decode cX8_orderLaid 30 = .ok (.ifCond .ne 8, 3) := by decide +kernel
theorem dX8_orderLaid_33 : decode cX8_orderLaid 33 = .ok (.iload 5, 2) := by decide +kernel
theorem dX8_orderLaid_35 : decode cX8_orderLaid 35 = .ok (.ifCond .le 7, 3) := by decide +kernel
theorem dX8_orderLaid_38 : decode cX8_orderLaid 38 = .ok (.iconst 1, 1) := by decide +kernel
theorem dX8_orderLaid_39 : decode cX8_orderLaid 39 = .ok (.goto 4, 3) := by decide +kernel
theorem dX8_orderLaid_42 : decode cX8_orderLaid 42 = .ok (.iconst 0, 1) := by decide +kernel
theorem dX8_orderLaid_43 : decode cX8_orderLaid 43 = .ok (.istore_n 2, 1) := by decide +kernel
theorem dX8_orderLaid_44 : decode cX8_orderLaid 44 = .ok (.iload_n 3, 1) := by decide +kernel
theorem dX8_orderLaid_45 : decode cX8_orderLaid 45 = .ok (.ifCond .ne 8, 3) := by decide +kernel
theorem dX8_orderLaid_48 : decode cX8_orderLaid 48 = .ok (.iload 5, 2) := by decide +kernel
theorem dX8_orderLaid_50 : decode cX8_orderLaid 50 = .ok (.ifCond .ge 7, 3) := by decide +kernel
theorem dX8_orderLaid_53 : decode cX8_orderLaid 53 = .ok (.iconst 1, 1) := by decide +kernel
theorem dX8_orderLaid_54 : decode cX8_orderLaid 54 = .ok (.goto 4, 3) := by decide +kernel
theorem dX8_orderLaid_57 : decode cX8_orderLaid 57 = .ok (.iconst 0, 1) := by decide +kernel
theorem dX8_orderLaid_58 : decode cX8_orderLaid 58 = .ok (.istore_n 3, 1) := by decide +kernel
theorem dX8_orderLaid_59 : decode cX8_orderLaid 59 = .ok (.iinc 4 1, 3) := by decide +kernel
theorem dX8_orderLaid_62 : decode cX8_orderLaid 62 = .ok (.goto (-51), 3) := by decide +kernel
theorem dX8_orderLaid_65 : decode cX8_orderLaid 65 = .ok (.iload_n 2, 1) := by decide +kernel
theorem dX8_orderLaid_66 : decode cX8_orderLaid 66 = .ok (.ifCond .eq 11, 3) := by decide +kernel
theorem dX8_orderLaid_69 : decode cX8_orderLaid 69 = .ok (.iload_n 3, 1) := by decide +kernel
theorem dX8_orderLaid_70 : decode cX8_orderLaid 70 = .ok (.ifCond .eq 7, 3) := by decide +kernel
theorem dX8_orderLaid_73 : decode cX8_orderLaid 73 = .ok (.iconst 0, 1) := by decide +kernel
theorem dX8_orderLaid_74 : decode cX8_orderLaid 74 = .ok (.goto 20, 3) := by decide +kernel
theorem dX8_orderLaid_77 : decode cX8_orderLaid 77 = .ok (.iload_n 2, 1) := by decide +kernel
theorem dX8_orderLaid_78 : decode cX8_orderLaid 78 = .ok (.ifCond .eq 7, 3) := by decide +kernel
theorem dX8_orderLaid_81 : decode cX8_orderLaid 81 = .ok (.iconst 1, 1) := by decide +kernel
theorem dX8_orderLaid_82 : decode cX8_orderLaid 82 = .ok (.goto 12, 3) := by decide +kernel
theorem dX8_orderLaid_85 : decode cX8_orderLaid 85 = .ok (.iload_n 3, 1) := by decide +kernel
theorem dX8_orderLaid_86 : decode cX8_orderLaid 86 = .ok (.ifCond .eq 7, 3) := by decide +kernel
theorem dX8_orderLaid_89 : decode cX8_orderLaid 89 = .ok (.iconst 2, 1) := by decide +kernel
theorem dX8_orderLaid_90 : decode cX8_orderLaid 90 = .ok (.goto 4, 3) := by decide +kernel
theorem dX8_orderLaid_93 : decode cX8_orderLaid 93 = .ok (.iconst 3, 1) := by decide +kernel
theorem dX8_orderLaid_94 : decode cX8_orderLaid 94 = .ok (.ireturn, 1) := by decide +kernel
theorem dX8_isLook_0 : decode cX8_isLook 0 = .ok (.iload_n 0, 1) := by decide +kernel
theorem dX8_isLook_1 : decode cX8_isLook 1 = .ok (.i2l, 1) := by decide +kernel
theorem dX8_isLook_2 : decode cX8_isLook 2 = .ok (.lconst 0, 1) := by decide +kernel
theorem dX8_isLook_3 : decode cX8_isLook 3 = .ok (.ldc2_w 87, 3) := by decide +kernel
theorem dX8_isLook_6 : decode cX8_isLook 6 = .ok (.invokestatic 77, 3) := by decide +kernel
theorem dX8_isLook_9 : decode cX8_isLook 9 = .ok (.ifCond .eq 17, 3) := by decide +kernel
theorem dX8_isLook_12 : decode cX8_isLook 12 = .ok (.iload_n 1, 1) := by decide +kernel
theorem dX8_isLook_13 : decode cX8_isLook 13 = .ok (.i2l, 1) := by decide +kernel
theorem dX8_isLook_14 : decode cX8_isLook 14 = .ok (.lconst 0, 1) := by decide +kernel
theorem dX8_isLook_15 : decode cX8_isLook 15 = .ok (.lconst 1, 1) := by decide +kernel
theorem dX8_isLook_16 : decode cX8_isLook 16 = .ok (.invokestatic 77, 3) := by decide +kernel
theorem dX8_isLook_19 : decode cX8_isLook 19 = .ok (.ifCond .eq 7, 3) := by decide +kernel
theorem dX8_isLook_22 : decode cX8_isLook 22 = .ok (.iconst 1, 1) := by decide +kernel
theorem dX8_isLook_23 : decode cX8_isLook 23 = .ok (.goto 4, 3) := by decide +kernel
theorem dX8_isLook_26 : decode cX8_isLook 26 = .ok (.iconst 0, 1) := by decide +kernel
theorem dX8_isLook_27 : decode cX8_isLook 27 = .ok (.ireturn, 1) := by decide +kernel
theorem dX8_isThere_0 : decode cX8_isThere 0 = .ok (.aload_n 0, 1) := by decide +kernel
theorem dX8_isThere_1 : decode cX8_isThere 1 = .ok (.iload_n 1, 1) := by decide +kernel
theorem dX8_isThere_2 : decode cX8_isThere 2 = .ok (.invokevirtual 98, 3) := by decide +kernel
theorem dX8_isThere_5 : decode cX8_isThere 5 = .ok (.ifCond .eq 16, 3) := by decide +kernel
theorem dX8_isThere_8 : decode cX8_isThere 8 = .ok (.aload_n 0, 1) := by decide +kernel
theorem dX8_isThere_9 : decode cX8_isThere 9 = .ok (.getfield 7, 3) := by decide +kernel
theorem dX8_isThere_12 : decode cX8_isThere 12 = .ok (.iload_n 1, 1) := by decide +kernel
theorem dX8_isThere_13 : decode cX8_isThere 13 = .ok (.iaload, 1) := by decide +kernel
theorem dX8_isThere_14 : decode cX8_isThere 14 = .ok (.ifCond .le 7, 3) := by decide +kernel
theorem dX8_isThere_17 : decode cX8_isThere 17 = .ok (.iconst 1, 1) := by decide +kernel
theorem dX8_isThere_18 : decode cX8_isThere 18 = .ok (.goto 4, 3) := by decide +kernel
theorem dX8_isThere_21 : decode cX8_isThere 21 = .ok (.iconst 0, 1) := by decide +kernel
theorem dX8_isThere_22 : decode cX8_isThere 22 = .ok (.ireturn, 1) := by decide +kernel
theorem dX8_mayOrder_0 : decode cX8_mayOrder 0 = .ok (.iload_n 1, 1) := by decide +kernel
theorem dX8_mayOrder_1 : decode cX8_mayOrder 1 = .ok (.invokestatic 81, 3) := by decide +kernel
theorem dX8_mayOrder_4 : decode cX8_mayOrder 4 = .ok (.ifCond .eq 10, 3) := by decide +kernel
theorem dX8_mayOrder_7 : decode cX8_mayOrder 7 = .ok (.iload_n 2, 1) := by decide +kernel
theorem dX8_mayOrder_8 : decode cX8_mayOrder 8 = .ok (.invokestatic 81, 3) := by decide +kernel
theorem dX8_mayOrder_11 : decode cX8_mayOrder 11 = .ok (.ifCond .ne 5, 3) := by decide +kernel
theorem dX8_mayOrder_14 : decode cX8_mayOrder 14 = .ok (.iconst (-1), 1) := by decide +kernel
theorem dX8_mayOrder_15 : decode cX8_mayOrder 15 = .ok (.ireturn, 1) := by decide +kernel
theorem dX8_mayOrder_16 : decode cX8_mayOrder 16 = .ok (.iload_n 3, 1) := by decide +kernel
theorem dX8_mayOrder_17 : decode cX8_mayOrder 17 = .ok (.iload 4, 2) := by decide +kernel
theorem dX8_mayOrder_19 : decode cX8_mayOrder 19 = .ok (.invokestatic 126, 3) := by decide +kernel
theorem dX8_mayOrder_22 : decode cX8_mayOrder 22 = .ok (.ifCond .ne 6, 3) := by decide +kernel
theorem dX8_mayOrder_25 : decode cX8_mayOrder 25 = .ok (.bipush (-2), 2) := by decide +kernel
theorem dX8_mayOrder_27 : decode cX8_mayOrder 27 = .ok (.ireturn, 1) := by decide +kernel
theorem dX8_mayOrder_28 : decode cX8_mayOrder 28 = .ok (.aload_n 0, 1) := by decide +kernel
theorem dX8_mayOrder_29 : decode cX8_mayOrder 29 = .ok (.iload_n 1, 1) := by decide +kernel
theorem dX8_mayOrder_30 : decode cX8_mayOrder 30 = .ok (.invokevirtual 129, 3) := by decide +kernel
theorem dX8_mayOrder_33 : decode cX8_mayOrder 33 = .ok (.ifCond .eq 11, 3) := by decide +kernel
theorem dX8_mayOrder_36 : decode cX8_mayOrder 36 = .ok (.aload_n 0, 1) := by decide +kernel
theorem dX8_mayOrder_37 : decode cX8_mayOrder 37 = .ok (.iload_n 2, 1) := by decide +kernel
theorem dX8_mayOrder_38 : decode cX8_mayOrder 38 = .ok (.invokevirtual 129, 3) := by decide +kernel
theorem dX8_mayOrder_41 : decode cX8_mayOrder 41 = .ok (.ifCond .ne 6, 3) := by decide +kernel
theorem dX8_mayOrder_44 : decode cX8_mayOrder 44 = .ok (.bipush (-3), 2) := by decide +kernel
theorem dX8_mayOrder_46 : decode cX8_mayOrder 46 = .ok (.ireturn, 1) := by decide +kernel
theorem dX8_mayOrder_47 : decode cX8_mayOrder 47 = .ok (.aload_n 0, 1) := by decide +kernel
theorem dX8_mayOrder_48 : decode cX8_mayOrder 48 = .ok (.iconst 0, 1) := by decide +kernel
theorem dX8_mayOrder_49 : decode cX8_mayOrder 49 = .ok (.iload_n 1, 1) := by decide +kernel
theorem dX8_mayOrder_50 : decode cX8_mayOrder 50 = .ok (.invokevirtual 132, 3) := by decide +kernel
theorem dX8_mayOrder_53 : decode cX8_mayOrder 53 = .ok (.aload_n 0, 1) := by decide +kernel
theorem dX8_mayOrder_54 : decode cX8_mayOrder 54 = .ok (.iconst 1, 1) := by decide +kernel
theorem dX8_mayOrder_55 : decode cX8_mayOrder 55 = .ok (.iload_n 2, 1) := by decide +kernel
theorem dX8_mayOrder_56 : decode cX8_mayOrder 56 = .ok (.invokevirtual 132, 3) := by decide +kernel
theorem dX8_mayOrder_59 : decode cX8_mayOrder 59 = .ok (.aload_n 0, 1) := by decide +kernel
theorem dX8_mayOrder_60 : decode cX8_mayOrder 60 = .ok (.iconst 0, 1) := by decide +kernel
theorem dX8_mayOrder_61 : decode cX8_mayOrder 61 = .ok (.iload_n 1, 1) := by decide +kernel
theorem dX8_mayOrder_62 : decode cX8_mayOrder 62 = .ok (.iload_n 3, 1) := by decide +kernel
theorem dX8_mayOrder_63 : decode cX8_mayOrder 63 = .ok (.invokevirtual 135, 3) := by decide +kernel
theorem dX8_mayOrder_66 : decode cX8_mayOrder 66 = .ok (.aload_n 0, 1) := by decide +kernel
theorem dX8_mayOrder_67 : decode cX8_mayOrder 67 = .ok (.iconst 1, 1) := by decide +kernel
theorem dX8_mayOrder_68 : decode cX8_mayOrder 68 = .ok (.iload_n 2, 1) := by decide +kernel
theorem dX8_mayOrder_69 : decode cX8_mayOrder 69 = .ok (.iload_n 3, 1) := by decide +kernel
theorem dX8_mayOrder_70 : decode cX8_mayOrder 70 = .ok (.invokevirtual 135, 3) := by decide +kernel
theorem dX8_mayOrder_73 : decode cX8_mayOrder 73 = .ok (.iconst 0, 1) := by decide +kernel
theorem dX8_mayOrder_74 : decode cX8_mayOrder 74 = .ok (.ireturn, 1) := by decide +kernel
theorem dX8_order_0 : decode cX8_order 0 = .ok (.aload_n 0, 1) := by decide +kernel
theorem dX8_order_1 : decode cX8_order 1 = .ok (.iload_n 1, 1) := by decide +kernel
theorem dX8_order_2 : decode cX8_order 2 = .ok (.iload_n 2, 1) := by decide +kernel
theorem dX8_order_3 : decode cX8_order 3 = .ok (.iload_n 3, 1) := by decide +kernel
theorem dX8_order_4 : decode cX8_order 4 = .ok (.iload 4, 2) := by decide +kernel
theorem dX8_order_6 : decode cX8_order 6 = .ok (.invokevirtual 139, 3) := by decide +kernel
theorem dX8_order_9 : decode cX8_order 9 = .ok (.istore 5, 2) := by decide +kernel
theorem dX8_order_11 : decode cX8_order 11 = .ok (.iload 5, 2) := by decide +kernel
theorem dX8_order_13 : decode cX8_order 13 = .ok (.ifCond .ge 8, 3) := by decide +kernel
theorem dX8_order_16 : decode cX8_order 16 = .ok (.iload 5, 2) := by decide +kernel
theorem dX8_order_18 : decode cX8_order 18 = .ok (.goto 9, 3) := by decide +kernel
theorem dX8_order_21 : decode cX8_order 21 = .ok (.aload_n 0, 1) := by decide +kernel
theorem dX8_order_22 : decode cX8_order 22 = .ok (.iload 4, 2) := by decide +kernel
theorem dX8_order_24 : decode cX8_order 24 = .ok (.invokevirtual 143, 3) := by decide +kernel
theorem dX8_order_27 : decode cX8_order 27 = .ok (.ireturn, 1) := by decide +kernel
theorem dX8_where_0 : decode cX8_where 0 = .ok (.aload_n 0, 1) := by decide +kernel
theorem dX8_where_1 : decode cX8_where 1 = .ok (.iload_n 1, 1) := by decide +kernel
theorem dX8_where_2 : decode cX8_where 2 = .ok (.iload_n 2, 1) := by decide +kernel
theorem dX8_where_3 : decode cX8_where 3 = .ok (.iload_n 3, 1) := by decide +kernel
theorem dX8_where_4 : decode cX8_where 4 = .ok (.iload 4, 2) := by decide +kernel
theorem dX8_where_6 : decode cX8_where 6 = .ok (.invokevirtual 139, 3) := by decide +kernel
theorem dX8_where_9 : decode cX8_where 9 = .ok (.istore 6, 2) := by decide +kernel
theorem dX8_where_11 : decode cX8_where 11 = .ok (.iload 6, 2) := by decide +kernel
theorem dX8_where_13 : decode cX8_where 13 = .ok (.ifCond .ge 6, 3) := by decide +kernel
theorem dX8_where_16 : decode cX8_where 16 = .ok (.iload 6, 2) := by decide +kernel
theorem dX8_where_18 : decode cX8_where 18 = .ok (.ireturn, 1) := by decide +kernel
theorem dX8_where_19 : decode cX8_where 19 = .ok (.aload_n 0, 1) := by decide +kernel
theorem dX8_where_20 : decode cX8_where 20 = .ok (.invokevirtual 119, 3) := by decide +kernel
theorem dX8_where_23 : decode cX8_where 23 = .ok (.iconst 0, 1) := by decide +kernel
theorem dX8_where_24 : decode cX8_where 24 = .ok (.istore 7, 2) := by decide +kernel
theorem dX8_where_26 : decode cX8_where 26 = .ok (.iload 7, 2) := by decide +kernel
theorem dX8_where_28 : decode cX8_where 28 = .ok (.aload_n 0, 1) := by decide +kernel
theorem dX8_where_29 : decode cX8_where 29 = .ok (.getfield 103, 3) := by decide +kernel
theorem dX8_where_32 : decode cX8_where 32 = .ok (.if_icmp .ge 43, 3) := by decide +kernel
theorem dX8_where_35 : decode cX8_where 35 = .ok (.aload_n 0, 1) := by decide +kernel
theorem dX8_where_36 : decode cX8_where 36 = .ok (.iload 7, 2) := by decide +kernel
theorem dX8_where_38 : decode cX8_where 38 = .ok (.iload 4, 2) := by decide +kernel
theorem dX8_where_40 : decode cX8_where 40 = .ok (.invokevirtual 122, 3) := by decide +kernel
theorem dX8_where_43 : decode cX8_where 43 = .ok (.ifCond .le 26, 3) := by decide +kernel
theorem dX8_where_46 : decode cX8_where 46 = .ok (.aload_n 0, 1) := by decide +kernel
theorem dX8_where_47 : decode cX8_where 47 = .ok (.getfield 44, 3) := by decide +kernel
theorem dX8_where_50 : decode cX8_where 50 = .ok (.iload 7, 2) := by decide +kernel
theorem dX8_where_52 : decode cX8_where 52 = .ok (.iaload, 1) := by decide +kernel
theorem dX8_where_53 : decode cX8_where 53 = .ok (.i2l, 1) := by decide +kernel
theorem dX8_where_54 : decode cX8_where 54 = .ok (.aload_n 0, 1) := by decide +kernel
theorem dX8_where_55 : decode cX8_where 55 = .ok (.getfield 47, 3) := by decide +kernel
theorem dX8_where_58 : decode cX8_where 58 = .ok (.iload 7, 2) := by decide +kernel
theorem dX8_where_60 : decode cX8_where 60 = .ok (.iaload, 1) := by decide +kernel
theorem dX8_where_61 : decode cX8_where 61 = .ok (.i2l, 1) := by decide +kernel
theorem dX8_where_62 : decode cX8_where 62 = .ok (.iload 5, 2) := by decide +kernel
theorem dX8_where_64 : decode cX8_where 64 = .ok (.invokestatic 147, 3) := by decide +kernel
theorem dX8_where_67 : decode cX8_where 67 = .ok (.l2i, 1) := by decide +kernel
theorem dX8_where_68 : decode cX8_where 68 = .ok (.ireturn, 1) := by decide +kernel
theorem dX8_where_69 : decode cX8_where 69 = .ok (.iinc 7 1, 3) := by decide +kernel
theorem dX8_where_72 : decode cX8_where 72 = .ok (.goto (-46), 3) := by decide +kernel
theorem dX8_where_75 : decode cX8_where 75 = .ok (.bipush (-9), 2) := by decide +kernel
theorem dX8_where_77 : decode cX8_where 77 = .ok (.ireturn, 1) := by decide +kernel
theorem dX8_below_0 : decode cX8_below 0 = .ok (.iload_n 1, 1) := by decide +kernel
theorem dX8_below_1 : decode cX8_below 1 = .ok (.invokestatic 81, 3) := by decide +kernel
theorem dX8_below_4 : decode cX8_below 4 = .ok (.ifCond .ne 7, 3) := by decide +kernel
theorem dX8_below_7 : decode cX8_below 7 = .ok (.ldc2_w 151, 3) := by decide +kernel
theorem dX8_below_10 : decode cX8_below 10 = .ok (.lreturn, 1) := by decide +kernel
theorem dX8_below_11 : decode cX8_below 11 = .ok (.iload_n 2, 1) := by decide +kernel
theorem dX8_below_12 : decode cX8_below 12 = .ok (.i2l, 1) := by decide +kernel
theorem dX8_below_13 : decode cX8_below 13 = .ok (.lconst 0, 1) := by decide +kernel
theorem dX8_below_14 : decode cX8_below 14 = .ok (.ldc2_w 87, 3) := by decide +kernel
theorem dX8_below_17 : decode cX8_below 17 = .ok (.invokestatic 77, 3) := by decide +kernel
theorem dX8_below_20 : decode cX8_below 20 = .ok (.ifCond .eq 28, 3) := by decide +kernel
theorem dX8_below_23 : decode cX8_below 23 = .ok (.iload 4, 2) := by decide +kernel
theorem dX8_below_25 : decode cX8_below 25 = .ok (.i2l, 1) := by decide +kernel
theorem dX8_below_26 : decode cX8_below 26 = .ok (.lconst 1, 1) := by decide +kernel
theorem dX8_below_27 : decode cX8_below 27 = .ok (.ldc2_w 153, 3) := by decide +kernel
theorem dX8_below_30 : decode cX8_below 30 = .ok (.invokestatic 77, 3) := by decide +kernel
theorem dX8_below_33 : decode cX8_below 33 = .ok (.ifCond .eq 15, 3) := by decide +kernel
theorem dX8_below_36 : decode cX8_below 36 = .ok (.iload_n 3, 1) := by decide +kernel
theorem dX8_below_37 : decode cX8_below 37 = .ok (.i2l, 1) := by decide +kernel
theorem dX8_below_38 : decode cX8_below 38 = .ok (.lconst 0, 1) := by decide +kernel
theorem dX8_below_39 : decode cX8_below 39 = .ok (.iload 4, 2) := by decide +kernel
theorem dX8_below_41 : decode cX8_below 41 = .ok (.i2l, 1) := by decide +kernel
theorem dX8_below_42 : decode cX8_below 42 = .ok (.invokestatic 77, 3) := by decide +kernel
theorem dX8_below_45 : decode cX8_below 45 = .ok (.ifCond .ne 7, 3) := by decide +kernel
theorem dX8_below_48 : decode cX8_below 48 = .ok (.ldc2_w 155, 3) := by decide +kernel
theorem dX8_below_51 : decode cX8_below 51 = .ok (.lreturn, 1) := by decide +kernel
theorem dX8_below_52 : decode cX8_below 52 = .ok (.aload_n 0, 1) := by decide +kernel
theorem dX8_below_53 : decode cX8_below 53 = .ok (.iload_n 1, 1) := by decide +kernel
theorem dX8_below_54 : decode cX8_below 54 = .ok (.invokevirtual 129, 3) := by decide +kernel
theorem dX8_below_57 : decode cX8_below 57 = .ok (.ifCond .ne 7, 3) := by decide +kernel
theorem dX8_below_60 : decode cX8_below 60 = .ok (.ldc2_w 157, 3) := by decide +kernel
theorem dX8_below_63 : decode cX8_below 63 = .ok (.lreturn, 1) := by decide +kernel
theorem dX8_below_64 : decode cX8_below 64 = .ok (.aload_n 0, 1) := by decide +kernel
theorem dX8_below_65 : decode cX8_below 65 = .ok (.iconst 0, 1) := by decide +kernel
theorem dX8_below_66 : decode cX8_below 66 = .ok (.iload_n 1, 1) := by decide +kernel
theorem dX8_below_67 : decode cX8_below 67 = .ok (.invokevirtual 132, 3) := by decide +kernel
theorem dX8_below_70 : decode cX8_below 70 = .ok (.aload_n 0, 1) := by decide +kernel
theorem dX8_below_71 : decode cX8_below 71 = .ok (.iconst 0, 1) := by decide +kernel
theorem dX8_below_72 : decode cX8_below 72 = .ok (.iload_n 1, 1) := by decide +kernel
theorem dX8_below_73 : decode cX8_below 73 = .ok (.iload_n 2, 1) := by decide +kernel
theorem dX8_below_74 : decode cX8_below 74 = .ok (.invokevirtual 135, 3) := by decide +kernel
theorem dX8_below_77 : decode cX8_below 77 = .ok (.aload_n 0, 1) := by decide +kernel
theorem dX8_below_78 : decode cX8_below 78 = .ok (.iconst 0, 1) := by decide +kernel
theorem dX8_below_79 : decode cX8_below 79 = .ok (.iload_n 3, 1) := by decide +kernel
theorem dX8_below_80 : decode cX8_below 80 = .ok (.iload 4, 2) := by decide +kernel
theorem dX8_below_82 : decode cX8_below 82 = .ok (.invokevirtual 111, 3) := by decide +kernel
theorem dX8_below_85 : decode cX8_below 85 = .ok (.iload 4, 2) := by decide +kernel
theorem dX8_below_87 : decode cX8_below 87 = .ok (.i2l, 1) := by decide +kernel
theorem dX8_below_88 : decode cX8_below 88 = .ok (.aload_n 0, 1) := by decide +kernel
theorem dX8_below_89 : decode cX8_below 89 = .ok (.iconst 0, 1) := by decide +kernel
theorem dX8_below_90 : decode cX8_below 90 = .ok (.iconst 0, 1) := by decide +kernel
theorem dX8_below_91 : decode cX8_below 91 = .ok (.invokevirtual 115, 3) := by decide +kernel
theorem dX8_below_94 : decode cX8_below 94 = .ok (.lmul, 1) := by decide +kernel
theorem dX8_below_95 : decode cX8_below 95 = .ok (.iload 5, 2) := by decide +kernel
theorem dX8_below_97 : decode cX8_below 97 = .ok (.invokestatic 147, 3) := by decide +kernel
theorem dX8_below_100 : decode cX8_below 100 = .ok (.lreturn, 1) := by decide +kernel
theorem dX8_comesEven_0 : decode cX8_comesEven 0 = .ok (.iconst 0, 1) := by decide +kernel
theorem dX8_comesEven_1 : decode cX8_comesEven 1 = .ok (.istore_n 3, 1) := by decide +kernel
theorem dX8_comesEven_2 : decode cX8_comesEven 2 = .ok (.iconst 1, 1) := by decide +kernel
theorem dX8_comesEven_3 : decode cX8_comesEven 3 = .ok (.istore 4, 2) := by decide +kernel
theorem dX8_comesEven_5 : decode cX8_comesEven 5 = .ok (.iconst 0, 1) := by decide +kernel
theorem dX8_comesEven_6 : decode cX8_comesEven 6 = .ok (.istore 5, 2) := by decide +kernel
theorem dX8_comesEven_8 : decode cX8_comesEven 8 = .ok (.iload 5, 2) := by decide +kernel
theorem dX8_comesEven_10 : decode cX8_comesEven 10 = .ok (.iload_n 2, 1) := by decide +kernel
theorem dX8_comesEven_11 : decode cX8_comesEven 11 = .ok (.if_icmp .ge 49, 3) := by decide +kernel
theorem dX8_comesEven_14 : decode cX8_comesEven 14 = .ok (.iload_n 3, 1) := by decide +kernel
theorem dX8_comesEven_15 : decode cX8_comesEven 15 = .ok (.iload_n 1, 1) := by decide +kernel
theorem dX8_comesEven_16 : decode cX8_comesEven 16 = .ok (.iload 5, 2) := by decide +kernel
theorem dX8_comesEven_18 : decode cX8_comesEven 18 = .ok (.ishr, 1) := by decide +kernel
theorem dX8_comesEven_19 : decode cX8_comesEven 19 = .ok (.iconst 1, 1) := by decide +kernel
theorem dX8_comesEven_20 : decode cX8_comesEven 20 = .ok (.iand, 1) := by decide +kernel
theorem dX8_comesEven_21 : decode cX8_comesEven 21 = .ok (.iconst 1, 1) := by decide +kernel
theorem dX8_comesEven_22 : decode cX8_comesEven 22 = .ok (.if_icmp .ne 13, 3) := by decide +kernel
theorem dX8_comesEven_25 : decode cX8_comesEven 25 = .ok (.aload_n 0, 1) := by decide +kernel
theorem dX8_comesEven_26 : decode cX8_comesEven 26 = .ok (.getfield 50, 3) := by decide +kernel
theorem dX8_comesEven_29 : decode cX8_comesEven 29 = .ok (.iload 5, 2) := by decide +kernel
theorem dX8_comesEven_31 : decode cX8_comesEven 31 = .ok (.iaload, 1) := by decide +kernel
theorem dX8_comesEven_32 : decode cX8_comesEven 32 = .ok (.goto 4, 3) := by decide +kernel
theorem dX8_comesEven_35 : decode cX8_comesEven 35 = .ok (.iconst 0, 1) := by decide +kernel
theorem dX8_comesEven_36 : decode cX8_comesEven 36 = .ok (.iadd, 1) := by decide +kernel
theorem dX8_comesEven_37 : decode cX8_comesEven 37 = .ok (.istore_n 3, 1) := by decide +kernel
theorem dX8_comesEven_38 : decode cX8_comesEven 38 = .ok (.iload 4, 2) := by decide +kernel
theorem dX8_comesEven_40 : decode cX8_comesEven 40 = .ok (.ifCond .eq 11, 3) := by decide +kernel
theorem dX8_comesEven_43 : decode cX8_comesEven 43 = .ok (.iload_n 3, 1) := by decide +kernel
theorem dX8_comesEven_44 : decode cX8_comesEven 44 = .ok (.ifCond .lt 7, 3) := by decide +kernel
theorem dX8_comesEven_47 : decode cX8_comesEven 47 = .ok (.iconst 1, 1) := by decide +kernel
theorem dX8_comesEven_48 : decode cX8_comesEven 48 = .ok (.goto 4, 3) := by decide +kernel
theorem dX8_comesEven_51 : decode cX8_comesEven 51 = .ok (.iconst 0, 1) := by decide +kernel
theorem dX8_comesEven_52 : decode cX8_comesEven 52 = .ok (.istore 4, 2) := by decide +kernel
theorem dX8_comesEven_54 : decode cX8_comesEven 54 = .ok (.iinc 5 1, 3) := by decide +kernel
theorem dX8_comesEven_57 : decode cX8_comesEven 57 = .ok (.goto (-49), 3) := by decide +kernel
theorem dX8_comesEven_60 : decode cX8_comesEven 60 = .ok (.iload 4, 2) := by decide +kernel
theorem dX8_comesEven_62 : decode cX8_comesEven 62 = .ok (.ifCond .eq 11, 3) := by decide +kernel
theorem dX8_comesEven_65 : decode cX8_comesEven 65 = .ok (.iload_n 3, 1) := by decide +kernel
theorem dX8_comesEven_66 : decode cX8_comesEven 66 = .ok (.ifCond .ne 7, 3) := by decide +kernel
theorem dX8_comesEven_69 : decode cX8_comesEven 69 = .ok (.iconst 1, 1) := by decide +kernel
theorem dX8_comesEven_70 : decode cX8_comesEven 70 = .ok (.goto 4, 3) := by decide +kernel
theorem dX8_comesEven_73 : decode cX8_comesEven 73 = .ok (.iconst 0, 1) := by decide +kernel
theorem dX8_comesEven_74 : decode cX8_comesEven 74 = .ok (.ireturn, 1) := by decide +kernel
theorem dX8_coins_0 : decode cX8_coins 0 = .ok (.iload_n 1, 1) := by decide +kernel
theorem dX8_coins_1 : decode cX8_coins 1 = .ok (.invokestatic 81, 3) := by decide +kernel
theorem dX8_coins_4 : decode cX8_coins 4 = .ok (.ifCond .eq 10, 3) := by decide +kernel
theorem dX8_coins_7 : decode cX8_coins 7 = .ok (.iload_n 2, 1) := by decide +kernel
theorem dX8_coins_8 : decode cX8_coins 8 = .ok (.invokestatic 81, 3) := by decide +kernel
theorem dX8_coins_11 : decode cX8_coins 11 = .ok (.ifCond .ne 5, 3) := by decide +kernel
theorem dX8_coins_14 : decode cX8_coins 14 = .ok (.iconst (-1), 1) := by decide +kernel
theorem dX8_coins_15 : decode cX8_coins 15 = .ok (.ireturn, 1) := by decide +kernel
theorem dX8_coins_16 : decode cX8_coins 16 = .ok (.aload_n 0, 1) := by decide +kernel
theorem dX8_coins_17 : decode cX8_coins 17 = .ok (.iload_n 1, 1) := by decide +kernel
theorem dX8_coins_18 : decode cX8_coins 18 = .ok (.invokevirtual 98, 3) := by decide +kernel
theorem dX8_coins_21 : decode cX8_coins 21 = .ok (.ifCond .eq 26, 3) := by decide +kernel
theorem dX8_coins_24 : decode cX8_coins 24 = .ok (.aload_n 0, 1) := by decide +kernel
theorem dX8_coins_25 : decode cX8_coins 25 = .ok (.iload_n 2, 1) := by decide +kernel
theorem dX8_coins_26 : decode cX8_coins 26 = .ok (.invokevirtual 98, 3) := by decide +kernel
theorem dX8_coins_29 : decode cX8_coins 29 = .ok (.ifCond .eq 18, 3) := by decide +kernel
theorem dX8_coins_32 : decode cX8_coins 32 = .ok (.aload_n 0, 1) := by decide +kernel
theorem dX8_coins_33 : decode cX8_coins 33 = .ok (.getfield 7, 3) := by decide +kernel
theorem dX8_coins_36 : decode cX8_coins 36 = .ok (.iload_n 1, 1) := by decide +kernel
theorem dX8_coins_37 : decode cX8_coins 37 = .ok (.iaload, 1) := by decide +kernel
theorem dX8_coins_38 : decode cX8_coins 38 = .ok (.aload_n 0, 1) := by decide +kernel
theorem dX8_coins_39 : decode cX8_coins 39 = .ok (.getfield 7, 3) := by decide +kernel
theorem dX8_coins_42 : decode cX8_coins 42 = .ok (.iload_n 2, 1) := by decide +kernel
theorem dX8_coins_43 : decode cX8_coins 43 = .ok (.iaload, 1) := by decide +kernel
theorem dX8_coins_44 : decode cX8_coins 44 = .ok (.if_icmp .eq 6, 3) := by decide +kernel
theorem dX8_coins_47 : decode cX8_coins 47 = .ok (.bipush (-3), 2) := by decide +kernel
theorem dX8_coins_49 : decode cX8_coins 49 = .ok (.ireturn, 1) := by decide +kernel
theorem dX8_coins_50 : decode cX8_coins 50 = .ok (.aload_n 0, 1) := by decide +kernel
theorem dX8_coins_51 : decode cX8_coins 51 = .ok (.iconst 0, 1) := by decide +kernel
theorem dX8_coins_52 : decode cX8_coins 52 = .ok (.iload_n 1, 1) := by decide +kernel
theorem dX8_coins_53 : decode cX8_coins 53 = .ok (.invokevirtual 132, 3) := by decide +kernel
theorem dX8_coins_56 : decode cX8_coins 56 = .ok (.aload_n 0, 1) := by decide +kernel
theorem dX8_coins_57 : decode cX8_coins 57 = .ok (.iconst 1, 1) := by decide +kernel
theorem dX8_coins_58 : decode cX8_coins 58 = .ok (.iload_n 2, 1) := by decide +kernel
theorem dX8_coins_59 : decode cX8_coins 59 = .ok (.invokevirtual 132, 3) := by decide +kernel
theorem dX8_coins_62 : decode cX8_coins 62 = .ok (.aload_n 0, 1) := by decide +kernel
theorem dX8_coins_63 : decode cX8_coins 63 = .ok (.iconst 0, 1) := by decide +kernel
theorem dX8_coins_64 : decode cX8_coins 64 = .ok (.iload_n 1, 1) := by decide +kernel
theorem dX8_coins_65 : decode cX8_coins 65 = .ok (.iconst 0, 1) := by decide +kernel
theorem dX8_coins_66 : decode cX8_coins 66 = .ok (.invokevirtual 135, 3) := by decide +kernel
theorem dX8_coins_69 : decode cX8_coins 69 = .ok (.aload_n 0, 1) := by decide +kernel
theorem dX8_coins_70 : decode cX8_coins 70 = .ok (.iconst 1, 1) := by decide +kernel
theorem dX8_coins_71 : decode cX8_coins 71 = .ok (.iload_n 2, 1) := by decide +kernel
theorem dX8_coins_72 : decode cX8_coins 72 = .ok (.iconst 0, 1) := by decide +kernel
theorem dX8_coins_73 : decode cX8_coins 73 = .ok (.invokevirtual 135, 3) := by decide +kernel
theorem dX8_coins_76 : decode cX8_coins 76 = .ok (.aload_n 0, 1) := by decide +kernel
theorem dX8_coins_77 : decode cX8_coins 77 = .ok (.getfield 41, 3) := by decide +kernel
theorem dX8_coins_80 : decode cX8_coins 80 = .ok (.iconst 0, 1) := by decide +kernel
theorem dX8_coins_81 : decode cX8_coins 81 = .ok (.laload, 1) := by decide +kernel
theorem dX8_coins_82 : decode cX8_coins 82 = .ok (.aload_n 0, 1) := by decide +kernel
theorem dX8_coins_83 : decode cX8_coins 83 = .ok (.getfield 41, 3) := by decide +kernel
theorem dX8_coins_86 : decode cX8_coins 86 = .ok (.iconst 1, 1) := by decide +kernel
theorem dX8_coins_87 : decode cX8_coins 87 = .ok (.laload, 1) := by decide +kernel
theorem dX8_coins_88 : decode cX8_coins 88 = .ok (.lcmp, 1) := by decide +kernel
theorem dX8_coins_89 : decode cX8_coins 89 = .ok (.ifCond .eq 6, 3) := by decide +kernel
theorem dX8_coins_92 : decode cX8_coins 92 = .ok (.bipush (-3), 2) := by decide +kernel
theorem dX8_coins_94 : decode cX8_coins 94 = .ok (.ireturn, 1) := by decide +kernel
theorem dX8_coins_95 : decode cX8_coins 95 = .ok (.aload_n 0, 1) := by decide +kernel
theorem dX8_coins_96 : decode cX8_coins 96 = .ok (.getfield 7, 3) := by decide +kernel
theorem dX8_coins_99 : decode cX8_coins 99 = .ok (.iload_n 1, 1) := by decide +kernel
theorem dX8_coins_100 : decode cX8_coins 100 = .ok (.iaload, 1) := by decide +kernel
theorem dX8_coins_101 : decode cX8_coins 101 = .ok (.istore_n 3, 1) := by decide +kernel
theorem dX8_coins_102 : decode cX8_coins 102 = .ok (.iconst 0, 1) := by decide +kernel
theorem dX8_coins_103 : decode cX8_coins 103 = .ok (.istore 4, 2) := by decide +kernel
theorem dX8_coins_105 : decode cX8_coins 105 = .ok (.iload 4, 2) := by decide +kernel
theorem dX8_coins_107 : decode cX8_coins 107 = .ok (.iload_n 3, 1) := by decide +kernel
theorem dX8_coins_108 : decode cX8_coins 108 = .ok (.if_icmp .ge 39, 3) := by decide +kernel
theorem dX8_coins_111 : decode cX8_coins 111 = .ok (.aload_n 0, 1) := by decide +kernel
theorem dX8_coins_112 : decode cX8_coins 112 = .ok (.getfield 50, 3) := by decide +kernel
theorem dX8_coins_115 : decode cX8_coins 115 = .ok (.iload 4, 2) := by decide +kernel
theorem dX8_coins_117 : decode cX8_coins 117 = .ok (.aload_n 0, 1) := by decide +kernel
theorem dX8_coins_118 : decode cX8_coins 118 = .ok (.getfield 31, 3) := by decide +kernel
theorem dX8_coins_121 : decode cX8_coins 121 = .ok (.bipush 8, 2) := by decide +kernel
theorem dX8_coins_123 : decode cX8_coins 123 = .ok (.iload 4, 2) := by decide +kernel
theorem dX8_coins_125 : decode cX8_coins 125 = .ok (.iadd, 1) := by decide +kernel
theorem dX8_coins_126 : decode cX8_coins 126 = .ok (.laload, 1) := by decide +kernel
theorem dX8_coins_127 : decode cX8_coins 127 = .ok (.aload_n 0, 1) := by decide +kernel
theorem dX8_coins_128 : decode cX8_coins 128 = .ok (.getfield 31, 3) := by decide +kernel
theorem dX8_coins_131 : decode cX8_coins 131 = .ok (.iload 4, 2) := by decide +kernel
theorem dX8_coins_133 : decode cX8_coins 133 = .ok (.laload, 1) := by decide +kernel
theorem dX8_coins_134 : decode cX8_coins 134 = .ok (.lsub, 1) := by decide +kernel
theorem dX8_coins_135 : decode cX8_coins 135 = .ok (.ldc2_w 101, 3) := by decide +kernel
theorem dX8_coins_138 : decode cX8_coins 138 = .ok (.ldiv, 1) := by decide +kernel
theorem dX8_coins_139 : decode cX8_coins 139 = .ok (.l2i, 1) := by decide +kernel
theorem dX8_coins_140 : decode cX8_coins 140 = .ok (.iastore, 1) := by decide +kernel
theorem dX8_coins_141 : decode cX8_coins 141 = .ok (.iinc 4 1, 3) := by decide +kernel
theorem dX8_coins_144 : decode cX8_coins 144 = .ok (.goto (-39), 3) := by decide +kernel
theorem dX8_coins_147 : decode cX8_coins 147 = .ok (.aload_n 0, 1) := by decide +kernel
theorem dX8_coins_148 : decode cX8_coins 148 = .ok (.getfield 53, 3) := by decide +kernel
theorem dX8_coins_151 : decode cX8_coins 151 = .ok (.iconst 0, 1) := by decide +kernel
theorem dX8_coins_152 : decode cX8_coins 152 = .ok (.iconst 0, 1) := by decide +kernel
theorem dX8_coins_153 : decode cX8_coins 153 = .ok (.iastore, 1) := by decide +kernel
theorem dX8_coins_154 : decode cX8_coins 154 = .ok (.iconst 1, 1) := by decide +kernel
theorem dX8_coins_155 : decode cX8_coins 155 = .ok (.istore 4, 2) := by decide +kernel
theorem dX8_coins_157 : decode cX8_coins 157 = .ok (.iload 4, 2) := by decide +kernel
theorem dX8_coins_159 : decode cX8_coins 159 = .ok (.iconst 1, 1) := by decide +kernel
theorem dX8_coins_160 : decode cX8_coins 160 = .ok (.iload_n 3, 1) := by decide +kernel
theorem dX8_coins_161 : decode cX8_coins 161 = .ok (.ishl, 1) := by decide +kernel
theorem dX8_coins_162 : decode cX8_coins 162 = .ok (.if_icmp .ge 111, 3) := by decide +kernel
theorem dX8_coins_165 : decode cX8_coins 165 = .ok (.aload_n 0, 1) := by decide +kernel
theorem dX8_coins_166 : decode cX8_coins 166 = .ok (.getfield 53, 3) := by decide +kernel
theorem dX8_coins_169 : decode cX8_coins 169 = .ok (.iload 4, 2) := by decide +kernel
theorem dX8_coins_171 : decode cX8_coins 171 = .ok (.bipush (-9), 2) := by decide +kernel
theorem dX8_coins_173 : decode cX8_coins 173 = .ok (.iastore, 1) := by decide +kernel
theorem dX8_coins_174 : decode cX8_coins 174 = .ok (.iload 4, 2) := by decide +kernel
theorem dX8_coins_176 : decode cX8_coins 176 = .ok (.istore 5, 2) := by decide +kernel
theorem dX8_coins_178 : decode cX8_coins 178 = .ok (.iload 5, 2) := by decide +kernel
theorem dX8_coins_180 : decode cX8_coins 180 = .ok (.ifCond .le 87, 3) := by decide +kernel
theorem dX8_coins_183 : decode cX8_coins 183 = .ok (.aload_n 0, 1) := by decide +kernel
theorem dX8_coins_184 : decode cX8_coins 184 = .ok (.getfield 53, 3) := by decide +kernel
theorem dX8_coins_187 : decode cX8_coins 187 = .ok (.iload 4, 2) := by decide +kernel
theorem dX8_coins_189 : decode cX8_coins 189 = .ok (.iload 5, 2) := by decide +kernel
theorem dX8_coins_191 : decode cX8_coins 191 = .ok (.iconst (-1), 1) := by decide +kernel
theorem dX8_coins_192 : decode cX8_coins 192 = .ok (.ixor, 1) := by decide +kernel
theorem dX8_coins_193 : decode cX8_coins 193 = .ok (.iand, 1) := by decide +kernel
theorem dX8_coins_194 : decode cX8_coins 194 = .ok (.iaload, 1) := by decide +kernel
theorem dX8_coins_195 : decode cX8_coins 195 = .ok (.ifCond .lt 60, 3) := by decide +kernel
theorem dX8_coins_198 : decode cX8_coins 198 = .ok (.aload_n 0, 1) := by decide +kernel
theorem dX8_coins_199 : decode cX8_coins 199 = .ok (.iload 5, 2) := by decide +kernel
theorem dX8_coins_201 : decode cX8_coins 201 = .ok (.iload_n 3, 1) := by decide +kernel
theorem dX8_coins_202 : decode cX8_coins 202 = .ok (.invokevirtual 159, 3) := by decide +kernel
theorem dX8_coins_205 : decode cX8_coins 205 = .ok (.ifCond .eq 50, 3) := by decide +kernel
theorem dX8_coins_208 : decode cX8_coins 208 = .ok (.aload_n 0, 1) := by decide +kernel
theorem dX8_coins_209 : decode cX8_coins 209 = .ok (.getfield 53, 3) := by decide +kernel
theorem dX8_coins_212 : decode cX8_coins 212 = .ok (.iload 4, 2) := by decide +kernel
theorem dX8_coins_214 : decode cX8_coins 214 = .ok (.iload 5, 2) := by decide +kernel
theorem dX8_coins_216 : decode cX8_coins 216 = .ok (.iconst (-1), 1) := by decide +kernel
theorem dX8_coins_217 : decode cX8_coins 217 = .ok (.ixor, 1) := by decide +kernel
theorem dX8_coins_218 : decode cX8_coins 218 = .ok (.iand, 1) := by decide +kernel
theorem dX8_coins_219 : decode cX8_coins 219 = .ok (.iaload, 1) := by decide +kernel
theorem dX8_coins_220 : decode cX8_coins 220 = .ok (.iconst 1, 1) := by decide +kernel
theorem dX8_coins_221 : decode cX8_coins 221 = .ok (.iadd, 1) := by decide +kernel
theorem dX8_coins_222 : decode cX8_coins 222 = .ok (.istore 6, 2) := by decide +kernel
theorem dX8_coins_224 : decode cX8_coins 224 = .ok (.aload_n 0, 1) := by decide +kernel
theorem dX8_coins_225 : decode cX8_coins 225 = .ok (.getfield 53, 3) := by decide +kernel
theorem dX8_coins_228 : decode cX8_coins 228 = .ok (.iload 4, 2) := by decide +kernel
theorem dX8_coins_230 : decode cX8_coins 230 = .ok (.iload 6, 2) := by decide +kernel
theorem dX8_coins_232 : decode cX8_coins 232 = .ok (.aload_n 0, 1) := by decide +kernel
theorem dX8_coins_233 : decode cX8_coins 233 = .ok (.getfield 53, 3) := by decide +kernel
theorem dX8_coins_236 : decode cX8_coins 236 = .ok (.iload 4, 2) := by decide +kernel
theorem dX8_coins_238 : decode cX8_coins 238 = .ok (.iaload, 1) := by decide +kernel
theorem dX8_coins_239 : decode cX8_coins 239 = .ok (.if_icmp .le 8, 3) := by decide +kernel
theorem dX8_coins_242 : decode cX8_coins 242 = .ok (.iload 6, 2) := by decide +kernel
theorem dX8_coins_244 : decode cX8_coins 244 = .ok (.goto 10, 3) := by decide +kernel
theorem dX8_coins_247 : decode cX8_coins 247 = .ok (.aload_n 0, 1) := by decide +kernel
theorem dX8_coins_248 : decode cX8_coins 248 = .ok (.getfield 53, 3) := by decide +kernel
theorem dX8_coins_251 : decode cX8_coins 251 = .ok (.iload 4, 2) := by decide +kernel
theorem dX8_coins_253 : decode cX8_coins 253 = .ok (.iaload, 1) := by decide +kernel
theorem dX8_coins_254 : decode cX8_coins 254 = .ok (.iastore, 1) := by decide +kernel
theorem dX8_coins_255 : decode cX8_coins 255 = .ok (.iload 5, 2) := by decide +kernel
theorem dX8_coins_257 : decode cX8_coins 257 = .ok (.iconst 1, 1) := by decide +kernel
theorem dX8_coins_258 : decode cX8_coins 258 = .ok (.isub, 1) := by decide +kernel
theorem dX8_coins_259 : decode cX8_coins 259 = .ok (.iload 4, 2) := by decide +kernel
theorem dX8_coins_261 : decode cX8_coins 261 = .ok (.iand, 1) := by decide +kernel
theorem dX8_coins_262 : decode cX8_coins 262 = .ok (.istore 5, 2) := by decide +kernel
theorem dX8_coins_264 : decode cX8_coins 264 = .ok (.goto (-86), 3) := by decide +kernel
theorem dX8_coins_267 : decode cX8_coins 267 = .ok (.iinc 4 1, 3) := by decide +kernel
theorem dX8_coins_270 : decode cX8_coins 270 = .ok (.goto (-113), 3) := by decide +kernel
theorem dX8_coins_273 : decode cX8_coins 273 = .ok (.aload_n 0, 1) := by decide +kernel
theorem dX8_coins_274 : decode cX8_coins 274 = .ok (.getfield 53, 3) := by decide +kernel
theorem dX8_coins_277 : decode cX8_coins 277 = .ok (.iconst 1, 1) := by decide +kernel
theorem dX8_coins_278 : decode cX8_coins 278 = .ok (.iload_n 3, 1) := by decide +kernel
theorem dX8_coins_279 : decode cX8_coins 279 = .ok (.ishl, 1) := by decide +kernel
theorem dX8_coins_280 : decode cX8_coins 280 = .ok (.iconst 1, 1) := by decide +kernel
theorem dX8_coins_281 : decode cX8_coins 281 = .ok (.isub, 1) := by decide +kernel
theorem dX8_coins_282 : decode cX8_coins 282 = .ok (.iaload, 1) := by decide +kernel
theorem dX8_coins_283 : decode cX8_coins 283 = .ok (.istore 4, 2) := by decide +kernel
theorem dX8_coins_285 : decode cX8_coins 285 = .ok (.iload 4, 2) := by decide +kernel
theorem dX8_coins_287 : decode cX8_coins 287 = .ok (.ifCond .ge 8, 3) := by decide +kernel
theorem dX8_coins_290 : decode cX8_coins 290 = .ok (.bipush (-9), 2) := by decide +kernel
theorem dX8_coins_292 : decode cX8_coins 292 = .ok (.goto 7, 3) := by decide +kernel
theorem dX8_coins_295 : decode cX8_coins 295 = .ok (.iload_n 3, 1) := by decide +kernel
theorem dX8_coins_296 : decode cX8_coins 296 = .ok (.iload 4, 2) := by decide +kernel
theorem dX8_coins_298 : decode cX8_coins 298 = .ok (.isub, 1) := by decide +kernel
theorem dX8_coins_299 : decode cX8_coins 299 = .ok (.ireturn, 1) := by decide +kernel
theorem dX8_mayGive_0 : decode cX8_mayGive 0 = .ok (.aload_n 0, 1) := by decide +kernel
theorem dX8_mayGive_1 : decode cX8_mayGive 1 = .ok (.iload_n 1, 1) := by decide +kernel
theorem dX8_mayGive_2 : decode cX8_mayGive 2 = .ok (.iload_n 2, 1) := by decide +kernel
theorem dX8_mayGive_3 : decode cX8_mayGive 3 = .ok (.invokevirtual 95, 3) := by decide +kernel
theorem dX8_mayGive_6 : decode cX8_mayGive 6 = .ok (.ifCond .eq 12, 3) := by decide +kernel
theorem dX8_mayGive_9 : decode cX8_mayGive 9 = .ok (.aload_n 0, 1) := by decide +kernel
theorem dX8_mayGive_10 : decode cX8_mayGive 10 = .ok (.iload_n 1, 1) := by decide +kernel
theorem dX8_mayGive_11 : decode cX8_mayGive 11 = .ok (.iload_n 3, 1) := by decide +kernel
theorem dX8_mayGive_12 : decode cX8_mayGive 12 = .ok (.invokevirtual 95, 3) := by decide +kernel
theorem dX8_mayGive_15 : decode cX8_mayGive 15 = .ok (.ifCond .ne 5, 3) := by decide +kernel
theorem dX8_mayGive_18 : decode cX8_mayGive 18 = .ok (.iconst (-1), 1) := by decide +kernel
theorem dX8_mayGive_19 : decode cX8_mayGive 19 = .ok (.ireturn, 1) := by decide +kernel
theorem dX8_mayGive_20 : decode cX8_mayGive 20 = .ok (.iload 4, 2) := by decide +kernel
theorem dX8_mayGive_22 : decode cX8_mayGive 22 = .ok (.i2l, 1) := by decide +kernel
theorem dX8_mayGive_23 : decode cX8_mayGive 23 = .ok (.lconst 1, 1) := by decide +kernel
theorem dX8_mayGive_24 : decode cX8_mayGive 24 = .ok (.ldc2_w 85, 3) := by decide +kernel
theorem dX8_mayGive_27 : decode cX8_mayGive 27 = .ok (.invokestatic 77, 3) := by decide +kernel
theorem dX8_mayGive_30 : decode cX8_mayGive 30 = .ok (.ifCond .ne 6, 3) := by decide +kernel
theorem dX8_mayGive_33 : decode cX8_mayGive 33 = .ok (.bipush (-2), 2) := by decide +kernel
theorem dX8_mayGive_35 : decode cX8_mayGive 35 = .ok (.ireturn, 1) := by decide +kernel
theorem dX8_mayGive_36 : decode cX8_mayGive 36 = .ok (.aload_n 0, 1) := by decide +kernel
theorem dX8_mayGive_37 : decode cX8_mayGive 37 = .ok (.iload_n 1, 1) := by decide +kernel
theorem dX8_mayGive_38 : decode cX8_mayGive 38 = .ok (.invokevirtual 98, 3) := by decide +kernel
theorem dX8_mayGive_41 : decode cX8_mayGive 41 = .ok (.ifCond .eq 47, 3) := by decide +kernel
theorem dX8_mayGive_44 : decode cX8_mayGive 44 = .ok (.iload_n 2, 1) := by decide +kernel
theorem dX8_mayGive_45 : decode cX8_mayGive 45 = .ok (.iload_n 3, 1) := by decide +kernel
theorem dX8_mayGive_46 : decode cX8_mayGive 46 = .ok (.if_icmp .eq 42, 3) := by decide +kernel
theorem dX8_mayGive_49 : decode cX8_mayGive 49 = .ok (.aload_n 0, 1) := by decide +kernel
theorem dX8_mayGive_50 : decode cX8_mayGive 50 = .ok (.getfield 13, 3) := by decide +kernel
theorem dX8_mayGive_53 : decode cX8_mayGive 53 = .ok (.bipush 8, 2) := by decide +kernel
theorem dX8_mayGive_55 : decode cX8_mayGive 55 = .ok (.iload_n 1, 1) := by decide +kernel
theorem dX8_mayGive_56 : decode cX8_mayGive 56 = .ok (.imul, 1) := by decide +kernel
theorem dX8_mayGive_57 : decode cX8_mayGive 57 = .ok (.iload_n 2, 1) := by decide +kernel
theorem dX8_mayGive_58 : decode cX8_mayGive 58 = .ok (.iadd, 1) := by decide +kernel
theorem dX8_mayGive_59 : decode cX8_mayGive 59 = .ok (.iaload, 1) := by decide +kernel
theorem dX8_mayGive_60 : decode cX8_mayGive 60 = .ok (.iload 4, 2) := by decide +kernel
theorem dX8_mayGive_62 : decode cX8_mayGive 62 = .ok (.if_icmp .lt 26, 3) := by decide +kernel
theorem dX8_mayGive_65 : decode cX8_mayGive 65 = .ok (.aload_n 0, 1) := by decide +kernel
theorem dX8_mayGive_66 : decode cX8_mayGive 66 = .ok (.getfield 13, 3) := by decide +kernel
theorem dX8_mayGive_69 : decode cX8_mayGive 69 = .ok (.bipush 8, 2) := by decide +kernel
theorem dX8_mayGive_71 : decode cX8_mayGive 71 = .ok (.iload_n 1, 1) := by decide +kernel
theorem dX8_mayGive_72 : decode cX8_mayGive 72 = .ok (.imul, 1) := by decide +kernel
theorem dX8_mayGive_73 : decode cX8_mayGive 73 = .ok (.iload_n 3, 1) := by decide +kernel
theorem dX8_mayGive_74 : decode cX8_mayGive 74 = .ok (.iadd, 1) := by decide +kernel
theorem dX8_mayGive_75 : decode cX8_mayGive 75 = .ok (.iaload, 1) := by decide +kernel
theorem dX8_mayGive_76 : decode cX8_mayGive 76 = .ok (.iload 4, 2) := by decide +kernel
theorem dX8_mayGive_78 : decode cX8_mayGive 78 = .ok (.iadd, 1) := by decide +kernel
theorem dX8_mayGive_79 : decode cX8_mayGive 79 = .ok (.bipush 100, 2) := by decide +kernel
theorem dX8_mayGive_81 : decode cX8_mayGive 81 = .ok (.if_icmp .ge 7, 3) := by decide +kernel
theorem dX8_mayGive_84 : decode cX8_mayGive 84 = .ok (.iconst 1, 1) := by decide +kernel
theorem dX8_mayGive_85 : decode cX8_mayGive 85 = .ok (.goto 4, 3) := by decide +kernel
theorem dX8_mayGive_88 : decode cX8_mayGive 88 = .ok (.iconst 0, 1) := by decide +kernel
theorem dX8_mayGive_89 : decode cX8_mayGive 89 = .ok (.istore 5, 2) := by decide +kernel
theorem dX8_mayGive_91 : decode cX8_mayGive 91 = .ok (.iload 5, 2) := by decide +kernel
theorem dX8_mayGive_93 : decode cX8_mayGive 93 = .ok (.ifCond .ne 8, 3) := by decide +kernel
theorem dX8_mayGive_96 : decode cX8_mayGive 96 = .ok (.bipush (-3), 2) := by decide +kernel
theorem dX8_mayGive_98 : decode cX8_mayGive 98 = .ok (.goto 39, 3) := by decide +kernel
theorem dX8_mayGive_101 : decode cX8_mayGive 101 = .ok (.aload_n 0, 1) := by decide +kernel
theorem dX8_mayGive_102 : decode cX8_mayGive 102 = .ok (.getfield 13, 3) := by decide +kernel
theorem dX8_mayGive_105 : decode cX8_mayGive 105 = .ok (.bipush 8, 2) := by decide +kernel
theorem dX8_mayGive_107 : decode cX8_mayGive 107 = .ok (.iload_n 1, 1) := by decide +kernel
theorem dX8_mayGive_108 : decode cX8_mayGive 108 = .ok (.imul, 1) := by decide +kernel
theorem dX8_mayGive_109 : decode cX8_mayGive 109 = .ok (.iload_n 2, 1) := by decide +kernel
theorem dX8_mayGive_110 : decode cX8_mayGive 110 = .ok (.iadd, 1) := by decide +kernel
theorem dX8_mayGive_111 : decode cX8_mayGive 111 = .ok (.iaload, 1) := by decide +kernel
theorem dX8_mayGive_112 : decode cX8_mayGive 112 = .ok (.iload 4, 2) := by decide +kernel
theorem dX8_mayGive_114 : decode cX8_mayGive 114 = .ok (.isub, 1) := by decide +kernel
theorem dX8_mayGive_115 : decode cX8_mayGive 115 = .ok (.aload_n 0, 1) := by decide +kernel
theorem dX8_mayGive_116 : decode cX8_mayGive 116 = .ok (.getfield 13, 3) := by decide +kernel
theorem dX8_mayGive_119 : decode cX8_mayGive 119 = .ok (.bipush 8, 2) := by decide +kernel
theorem dX8_mayGive_121 : decode cX8_mayGive 121 = .ok (.iload_n 1, 1) := by decide +kernel
theorem dX8_mayGive_122 : decode cX8_mayGive 122 = .ok (.imul, 1) := by decide +kernel
theorem dX8_mayGive_123 : decode cX8_mayGive 123 = .ok (.iload_n 3, 1) := by decide +kernel
theorem dX8_mayGive_124 : decode cX8_mayGive 124 = .ok (.iadd, 1) := by decide +kernel
theorem dX8_mayGive_125 : decode cX8_mayGive 125 = .ok (.iaload, 1) := by decide +kernel
theorem dX8_mayGive_126 : decode cX8_mayGive 126 = .ok (.iload 4, 2) := by decide +kernel
theorem dX8_mayGive_128 : decode cX8_mayGive 128 = .ok (.iadd, 1) := by decide +kernel
theorem dX8_mayGive_129 : decode cX8_mayGive 129 = .ok (.if_icmp .lt 7, 3) := by decide +kernel
theorem dX8_mayGive_132 : decode cX8_mayGive 132 = .ok (.iconst 1, 1) := by decide +kernel
theorem dX8_mayGive_133 : decode cX8_mayGive 133 = .ok (.goto 4, 3) := by decide +kernel
theorem dX8_mayGive_136 : decode cX8_mayGive 136 = .ok (.iconst 0, 1) := by decide +kernel
theorem dX8_mayGive_137 : decode cX8_mayGive 137 = .ok (.ireturn, 1) := by decide +kernel
theorem dX8_give_0 : decode cX8_give 0 = .ok (.aload_n 0, 1) := by decide +kernel
theorem dX8_give_1 : decode cX8_give 1 = .ok (.iload_n 1, 1) := by decide +kernel
theorem dX8_give_2 : decode cX8_give 2 = .ok (.iload_n 2, 1) := by decide +kernel
theorem dX8_give_3 : decode cX8_give 3 = .ok (.iload_n 3, 1) := by decide +kernel
theorem dX8_give_4 : decode cX8_give 4 = .ok (.iload 4, 2) := by decide +kernel
theorem dX8_give_6 : decode cX8_give 6 = .ok (.invokevirtual 162, 3) := by decide +kernel
theorem dX8_give_9 : decode cX8_give 9 = .ok (.istore 5, 2) := by decide +kernel
theorem dX8_give_11 : decode cX8_give 11 = .ok (.iload 5, 2) := by decide +kernel
theorem dX8_give_13 : decode cX8_give 13 = .ok (.ifCond .lt 67, 3) := by decide +kernel
theorem dX8_give_16 : decode cX8_give 16 = .ok (.aload_n 0, 1) := by decide +kernel
theorem dX8_give_17 : decode cX8_give 17 = .ok (.getfield 13, 3) := by decide +kernel
theorem dX8_give_20 : decode cX8_give 20 = .ok (.bipush 8, 2) := by decide +kernel
theorem dX8_give_22 : decode cX8_give 22 = .ok (.iload_n 1, 1) := by decide +kernel
theorem dX8_give_23 : decode cX8_give 23 = .ok (.imul, 1) := by decide +kernel
theorem dX8_give_24 : decode cX8_give 24 = .ok (.iload_n 2, 1) := by decide +kernel
theorem dX8_give_25 : decode cX8_give 25 = .ok (.iadd, 1) := by decide +kernel
theorem dX8_give_26 : decode cX8_give 26 = .ok (.dup2, 1) := by decide +kernel
theorem dX8_give_27 : decode cX8_give 27 = .ok (.iaload, 1) := by decide +kernel
theorem dX8_give_28 : decode cX8_give 28 = .ok (.iload 4, 2) := by decide +kernel
theorem dX8_give_30 : decode cX8_give 30 = .ok (.isub, 1) := by decide +kernel
theorem dX8_give_31 : decode cX8_give 31 = .ok (.iastore, 1) := by decide +kernel
theorem dX8_give_32 : decode cX8_give 32 = .ok (.aload_n 0, 1) := by decide +kernel
theorem dX8_give_33 : decode cX8_give 33 = .ok (.getfield 16, 3) := by decide +kernel
theorem dX8_give_36 : decode cX8_give 36 = .ok (.bipush 8, 2) := by decide +kernel
theorem dX8_give_38 : decode cX8_give 38 = .ok (.iload_n 1, 1) := by decide +kernel
theorem dX8_give_39 : decode cX8_give 39 = .ok (.imul, 1) := by decide +kernel
theorem dX8_give_40 : decode cX8_give 40 = .ok (.iload_n 2, 1) := by decide +kernel
theorem dX8_give_41 : decode cX8_give 41 = .ok (.iadd, 1) := by decide +kernel
theorem dX8_give_42 : decode cX8_give 42 = .ok (.dup2, 1) := by decide +kernel
theorem dX8_give_43 : decode cX8_give 43 = .ok (.iaload, 1) := by decide +kernel
theorem dX8_give_44 : decode cX8_give 44 = .ok (.iload 4, 2) := by decide +kernel
theorem dX8_give_46 : decode cX8_give 46 = .ok (.isub, 1) := by decide +kernel
theorem dX8_give_47 : decode cX8_give 47 = .ok (.iastore, 1) := by decide +kernel
theorem dX8_give_48 : decode cX8_give 48 = .ok (.aload_n 0, 1) := by decide +kernel
theorem dX8_give_49 : decode cX8_give 49 = .ok (.getfield 13, 3) := by decide +kernel
theorem dX8_give_52 : decode cX8_give 52 = .ok (.bipush 8, 2) := by decide +kernel
theorem dX8_give_54 : decode cX8_give 54 = .ok (.iload_n 1, 1) := by decide +kernel
theorem dX8_give_55 : decode cX8_give 55 = .ok (.imul, 1) := by decide +kernel
theorem dX8_give_56 : decode cX8_give 56 = .ok (.iload_n 3, 1) := by decide +kernel
theorem dX8_give_57 : decode cX8_give 57 = .ok (.iadd, 1) := by decide +kernel
theorem dX8_give_58 : decode cX8_give 58 = .ok (.dup2, 1) := by decide +kernel
theorem dX8_give_59 : decode cX8_give 59 = .ok (.iaload, 1) := by decide +kernel
theorem dX8_give_60 : decode cX8_give 60 = .ok (.iload 4, 2) := by decide +kernel
theorem dX8_give_62 : decode cX8_give 62 = .ok (.iadd, 1) := by decide +kernel
theorem dX8_give_63 : decode cX8_give 63 = .ok (.iastore, 1) := by decide +kernel
theorem dX8_give_64 : decode cX8_give 64 = .ok (.aload_n 0, 1) := by decide +kernel
theorem dX8_give_65 : decode cX8_give 65 = .ok (.getfield 16, 3) := by decide +kernel
theorem dX8_give_68 : decode cX8_give 68 = .ok (.bipush 8, 2) := by decide +kernel
theorem dX8_give_70 : decode cX8_give 70 = .ok (.iload_n 1, 1) := by decide +kernel
theorem dX8_give_71 : decode cX8_give 71 = .ok (.imul, 1) := by decide +kernel
theorem dX8_give_72 : decode cX8_give 72 = .ok (.iload_n 3, 1) := by decide +kernel
theorem dX8_give_73 : decode cX8_give 73 = .ok (.iadd, 1) := by decide +kernel
theorem dX8_give_74 : decode cX8_give 74 = .ok (.dup2, 1) := by decide +kernel
theorem dX8_give_75 : decode cX8_give 75 = .ok (.iaload, 1) := by decide +kernel
theorem dX8_give_76 : decode cX8_give 76 = .ok (.iload 4, 2) := by decide +kernel
theorem dX8_give_78 : decode cX8_give 78 = .ok (.iadd, 1) := by decide +kernel
theorem dX8_give_79 : decode cX8_give 79 = .ok (.iastore, 1) := by decide +kernel
theorem dX8_give_80 : decode cX8_give 80 = .ok (.iload 5, 2) := by decide +kernel
theorem dX8_give_82 : decode cX8_give 82 = .ok (.ireturn, 1) := by decide +kernel
theorem dX8_would_0 : decode cX8_would 0 = .ok (.aload_n 0, 1) := by decide +kernel
theorem dX8_would_1 : decode cX8_would 1 = .ok (.iload_n 1, 1) := by decide +kernel
theorem dX8_would_2 : decode cX8_would 2 = .ok (.iload_n 2, 1) := by decide +kernel
theorem dX8_would_3 : decode cX8_would 3 = .ok (.iload_n 3, 1) := by decide +kernel
theorem dX8_would_4 : decode cX8_would 4 = .ok (.iload 4, 2) := by decide +kernel
theorem dX8_would_6 : decode cX8_would 6 = .ok (.invokevirtual 162, 3) := by decide +kernel
theorem dX8_would_9 : decode cX8_would 9 = .ok (.ireturn, 1) := by decide +kernel
theorem dX8_rowSum_0 : decode cX8_rowSum 0 = .ok (.iconst 0, 1) := by decide +kernel
theorem dX8_rowSum_1 : decode cX8_rowSum 1 = .ok (.istore_n 1, 1) := by decide +kernel
theorem dX8_rowSum_2 : decode cX8_rowSum 2 = .ok (.iconst 0, 1) := by decide +kernel
theorem dX8_rowSum_3 : decode cX8_rowSum 3 = .ok (.istore_n 2, 1) := by decide +kernel
theorem dX8_rowSum_4 : decode cX8_rowSum 4 = .ok (.iload_n 2, 1) := by decide +kernel
theorem dX8_rowSum_5 : decode cX8_rowSum 5 = .ok (.aload_n 0, 1) := by decide +kernel
theorem dX8_rowSum_6 : decode cX8_rowSum 6 = .ok (.getfield 165, 3) := by decide +kernel
theorem dX8_rowSum_9 : decode cX8_rowSum 9 = .ok (.if_icmp .ge 18, 3) := by decide +kernel
theorem dX8_rowSum_12 : decode cX8_rowSum 12 = .ok (.iload_n 1, 1) := by decide +kernel
theorem dX8_rowSum_13 : decode cX8_rowSum 13 = .ok (.aload_n 0, 1) := by decide +kernel
theorem dX8_rowSum_14 : decode cX8_rowSum 14 = .ok (.getfield 56, 3) := by decide +kernel
theorem dX8_rowSum_17 : decode cX8_rowSum 17 = .ok (.iload_n 2, 1) := by decide +kernel
theorem dX8_rowSum_18 : decode cX8_rowSum 18 = .ok (.iaload, 1) := by decide +kernel
theorem dX8_rowSum_19 : decode cX8_rowSum 19 = .ok (.iadd, 1) := by decide +kernel
theorem dX8_rowSum_20 : decode cX8_rowSum 20 = .ok (.istore_n 1, 1) := by decide +kernel
theorem dX8_rowSum_21 : decode cX8_rowSum 21 = .ok (.iinc 2 1, 3) := by decide +kernel
theorem dX8_rowSum_24 : decode cX8_rowSum 24 = .ok (.goto (-20), 3) := by decide +kernel
theorem dX8_rowSum_27 : decode cX8_rowSum 27 = .ok (.iload_n 1, 1) := by decide +kernel
theorem dX8_rowSum_28 : decode cX8_rowSum 28 = .ok (.ireturn, 1) := by decide +kernel
theorem dX8_greatest_0 : decode cX8_greatest 0 = .ok (.aload_n 0, 1) := by decide +kernel
theorem dX8_greatest_1 : decode cX8_greatest 1 = .ok (.getfield 56, 3) := by decide +kernel
theorem dX8_greatest_4 : decode cX8_greatest 4 = .ok (.iconst 0, 1) := by decide +kernel
theorem dX8_greatest_5 : decode cX8_greatest 5 = .ok (.iaload, 1) := by decide +kernel
theorem dX8_greatest_6 : decode cX8_greatest 6 = .ok (.istore_n 1, 1) := by decide +kernel
theorem dX8_greatest_7 : decode cX8_greatest 7 = .ok (.iconst 1, 1) := by decide +kernel
theorem dX8_greatest_8 : decode cX8_greatest 8 = .ok (.istore_n 2, 1) := by decide +kernel
theorem dX8_greatest_9 : decode cX8_greatest 9 = .ok (.iload_n 2, 1) := by decide +kernel
theorem dX8_greatest_10 : decode cX8_greatest 10 = .ok (.aload_n 0, 1) := by decide +kernel
theorem dX8_greatest_11 : decode cX8_greatest 11 = .ok (.getfield 165, 3) := by decide +kernel
theorem dX8_greatest_14 : decode cX8_greatest 14 = .ok (.if_icmp .ge 30, 3) := by decide +kernel
theorem dX8_greatest_17 : decode cX8_greatest 17 = .ok (.aload_n 0, 1) := by decide +kernel
theorem dX8_greatest_18 : decode cX8_greatest 18 = .ok (.getfield 56, 3) := by decide +kernel
theorem dX8_greatest_21 : decode cX8_greatest 21 = .ok (.iload_n 2, 1) := by decide +kernel
theorem dX8_greatest_22 : decode cX8_greatest 22 = .ok (.iaload, 1) := by decide +kernel
theorem dX8_greatest_23 : decode cX8_greatest 23 = .ok (.iload_n 1, 1) := by decide +kernel
theorem dX8_greatest_24 : decode cX8_greatest 24 = .ok (.if_icmp .le 12, 3) := by decide +kernel
theorem dX8_greatest_27 : decode cX8_greatest 27 = .ok (.aload_n 0, 1) := by decide +kernel
theorem dX8_greatest_28 : decode cX8_greatest 28 = .ok (.getfield 56, 3) := by decide +kernel
theorem dX8_greatest_31 : decode cX8_greatest 31 = .ok (.iload_n 2, 1) := by decide +kernel
theorem dX8_greatest_32 : decode cX8_greatest 32 = .ok (.iaload, 1) := by decide +kernel
theorem dX8_greatest_33 : decode cX8_greatest 33 = .ok (.goto 4, 3) := by decide +kernel
theorem dX8_greatest_36 : decode cX8_greatest 36 = .ok (.iload_n 1, 1) := by decide +kernel
theorem dX8_greatest_37 : decode cX8_greatest 37 = .ok (.istore_n 1, 1) := by decide +kernel
theorem dX8_greatest_38 : decode cX8_greatest 38 = .ok (.iinc 2 1, 3) := by decide +kernel
theorem dX8_greatest_41 : decode cX8_greatest 41 = .ok (.goto (-32), 3) := by decide +kernel
theorem dX8_greatest_44 : decode cX8_greatest 44 = .ok (.iload_n 1, 1) := by decide +kernel
theorem dX8_greatest_45 : decode cX8_greatest 45 = .ok (.ireturn, 1) := by decide +kernel
theorem dX8_leastOfRow_0 : decode cX8_leastOfRow 0 = .ok (.aload_n 0, 1) := by decide +kernel
theorem dX8_leastOfRow_1 : decode cX8_leastOfRow 1 = .ok (.getfield 56, 3) := by decide +kernel
theorem dX8_leastOfRow_4 : decode cX8_leastOfRow 4 = .ok (.iconst 0, 1) := by decide +kernel
theorem dX8_leastOfRow_5 : decode cX8_leastOfRow 5 = .ok (.iaload, 1) := by decide +kernel
theorem dX8_leastOfRow_6 : decode cX8_leastOfRow 6 = .ok (.istore_n 1, 1) := by decide +kernel
theorem dX8_leastOfRow_7 : decode cX8_leastOfRow 7 = .ok (.iconst 1, 1) := by decide +kernel
theorem dX8_leastOfRow_8 : decode cX8_leastOfRow 8 = .ok (.istore_n 2, 1) := by decide +kernel
theorem dX8_leastOfRow_9 : decode cX8_leastOfRow 9 = .ok (.iload_n 2, 1) := by decide +kernel
theorem dX8_leastOfRow_10 : decode cX8_leastOfRow 10 = .ok (.aload_n 0, 1) := by decide +kernel
theorem dX8_leastOfRow_11 : decode cX8_leastOfRow 11 = .ok (.getfield 165, 3) := by decide +kernel
theorem dX8_leastOfRow_14 : decode cX8_leastOfRow 14 = .ok (.if_icmp .ge 30, 3) := by decide +kernel
theorem dX8_leastOfRow_17 : decode cX8_leastOfRow 17 = .ok (.aload_n 0, 1) := by decide +kernel
theorem dX8_leastOfRow_18 : decode cX8_leastOfRow 18 = .ok (.getfield 56, 3) := by decide +kernel
theorem dX8_leastOfRow_21 : decode cX8_leastOfRow 21 = .ok (.iload_n 2, 1) := by decide +kernel
theorem dX8_leastOfRow_22 : decode cX8_leastOfRow 22 = .ok (.iaload, 1) := by decide +kernel
theorem dX8_leastOfRow_23 : decode cX8_leastOfRow 23 = .ok (.iload_n 1, 1) := by decide +kernel
theorem dX8_leastOfRow_24 : decode cX8_leastOfRow 24 = .ok (.if_icmp .ge 12, 3) := by decide +kernel
theorem dX8_leastOfRow_27 : decode cX8_leastOfRow 27 = .ok (.aload_n 0, 1) := by decide +kernel
theorem dX8_leastOfRow_28 : decode cX8_leastOfRow 28 = .ok (.getfield 56, 3) := by decide +kernel
theorem dX8_leastOfRow_31 : decode cX8_leastOfRow 31 = .ok (.iload_n 2, 1) := by decide +kernel
theorem dX8_leastOfRow_32 : decode cX8_leastOfRow 32 = .ok (.iaload, 1) := by decide +kernel
theorem dX8_leastOfRow_33 : decode cX8_leastOfRow 33 = .ok (.goto 4, 3) := by decide +kernel
theorem dX8_leastOfRow_36 : decode cX8_leastOfRow 36 = .ok (.iload_n 1, 1) := by decide +kernel
theorem dX8_leastOfRow_37 : decode cX8_leastOfRow 37 = .ok (.istore_n 1, 1) := by decide +kernel
theorem dX8_leastOfRow_38 : decode cX8_leastOfRow 38 = .ok (.iinc 2 1, 3) := by decide +kernel
theorem dX8_leastOfRow_41 : decode cX8_leastOfRow 41 = .ok (.goto (-32), 3) := by decide +kernel
theorem dX8_leastOfRow_44 : decode cX8_leastOfRow 44 = .ok (.iload_n 1, 1) := by decide +kernel
theorem dX8_leastOfRow_45 : decode cX8_leastOfRow 45 = .ok (.ireturn, 1) := by decide +kernel
theorem dX8_pairSum_0 : decode cX8_pairSum 0 = .ok (.iconst 0, 1) := by decide +kernel
theorem dX8_pairSum_1 : decode cX8_pairSum 1 = .ok (.istore_n 1, 1) := by decide +kernel
theorem dX8_pairSum_2 : decode cX8_pairSum 2 = .ok (.iconst 0, 1) := by decide +kernel
theorem dX8_pairSum_3 : decode cX8_pairSum 3 = .ok (.istore_n 2, 1) := by decide +kernel
theorem dX8_pairSum_4 : decode cX8_pairSum 4 = .ok (.iload_n 2, 1) := by decide +kernel
theorem dX8_pairSum_5 : decode cX8_pairSum 5 = .ok (.aload_n 0, 1) := by decide +kernel
theorem dX8_pairSum_6 : decode cX8_pairSum 6 = .ok (.getfield 165, 3) := by decide +kernel
theorem dX8_pairSum_9 : decode cX8_pairSum 9 = .ok (.if_icmp .ge 69, 3) := by decide +kernel
theorem dX8_pairSum_12 : decode cX8_pairSum 12 = .ok (.iconst 0, 1) := by decide +kernel
theorem dX8_pairSum_13 : decode cX8_pairSum 13 = .ok (.istore_n 3, 1) := by decide +kernel
theorem dX8_pairSum_14 : decode cX8_pairSum 14 = .ok (.iload_n 3, 1) := by decide +kernel
theorem dX8_pairSum_15 : decode cX8_pairSum 15 = .ok (.iload_n 2, 1) := by decide +kernel
theorem dX8_pairSum_16 : decode cX8_pairSum 16 = .ok (.if_icmp .ge 56, 3) := by decide +kernel
theorem dX8_pairSum_19 : decode cX8_pairSum 19 = .ok (.iload_n 1, 1) := by decide +kernel
theorem dX8_pairSum_20 : decode cX8_pairSum 20 = .ok (.aload_n 0, 1) := by decide +kernel
theorem dX8_pairSum_21 : decode cX8_pairSum 21 = .ok (.getfield 56, 3) := by decide +kernel
theorem dX8_pairSum_24 : decode cX8_pairSum 24 = .ok (.iload_n 2, 1) := by decide +kernel
theorem dX8_pairSum_25 : decode cX8_pairSum 25 = .ok (.iaload, 1) := by decide +kernel
theorem dX8_pairSum_26 : decode cX8_pairSum 26 = .ok (.aload_n 0, 1) := by decide +kernel
theorem dX8_pairSum_27 : decode cX8_pairSum 27 = .ok (.getfield 56, 3) := by decide +kernel
theorem dX8_pairSum_30 : decode cX8_pairSum 30 = .ok (.iload_n 3, 1) := by decide +kernel
theorem dX8_pairSum_31 : decode cX8_pairSum 31 = .ok (.iaload, 1) := by decide +kernel
theorem dX8_pairSum_32 : decode cX8_pairSum 32 = .ok (.if_icmp .le 19, 3) := by decide +kernel
theorem dX8_pairSum_35 : decode cX8_pairSum 35 = .ok (.aload_n 0, 1) := by decide +kernel
theorem dX8_pairSum_36 : decode cX8_pairSum 36 = .ok (.getfield 56, 3) := by decide +kernel
theorem dX8_pairSum_39 : decode cX8_pairSum 39 = .ok (.iload_n 2, 1) := by decide +kernel
theorem dX8_pairSum_40 : decode cX8_pairSum 40 = .ok (.iaload, 1) := by decide +kernel
theorem dX8_pairSum_41 : decode cX8_pairSum 41 = .ok (.aload_n 0, 1) := by decide +kernel
theorem dX8_pairSum_42 : decode cX8_pairSum 42 = .ok (.getfield 56, 3) := by decide +kernel
theorem dX8_pairSum_45 : decode cX8_pairSum 45 = .ok (.iload_n 3, 1) := by decide +kernel
theorem dX8_pairSum_46 : decode cX8_pairSum 46 = .ok (.iaload, 1) := by decide +kernel
theorem dX8_pairSum_47 : decode cX8_pairSum 47 = .ok (.isub, 1) := by decide +kernel
theorem dX8_pairSum_48 : decode cX8_pairSum 48 = .ok (.goto 16, 3) := by decide +kernel
theorem dX8_pairSum_51 : decode cX8_pairSum 51 = .ok (.aload_n 0, 1) := by decide +kernel
theorem dX8_pairSum_52 : decode cX8_pairSum 52 = .ok (.getfield 56, 3) := by decide +kernel
theorem dX8_pairSum_55 : decode cX8_pairSum 55 = .ok (.iload_n 3, 1) := by decide +kernel
theorem dX8_pairSum_56 : decode cX8_pairSum 56 = .ok (.iaload, 1) := by decide +kernel
theorem dX8_pairSum_57 : decode cX8_pairSum 57 = .ok (.aload_n 0, 1) := by decide +kernel
theorem dX8_pairSum_58 : decode cX8_pairSum 58 = .ok (.getfield 56, 3) := by decide +kernel
theorem dX8_pairSum_61 : decode cX8_pairSum 61 = .ok (.iload_n 2, 1) := by decide +kernel
theorem dX8_pairSum_62 : decode cX8_pairSum 62 = .ok (.iaload, 1) := by decide +kernel
theorem dX8_pairSum_63 : decode cX8_pairSum 63 = .ok (.isub, 1) := by decide +kernel
theorem dX8_pairSum_64 : decode cX8_pairSum 64 = .ok (.iadd, 1) := by decide +kernel
theorem dX8_pairSum_65 : decode cX8_pairSum 65 = .ok (.istore_n 1, 1) := by decide +kernel
theorem dX8_pairSum_66 : decode cX8_pairSum 66 = .ok (.iinc 3 1, 3) := by decide +kernel
theorem dX8_pairSum_69 : decode cX8_pairSum 69 = .ok (.goto (-55), 3) := by decide +kernel
theorem dX8_pairSum_72 : decode cX8_pairSum 72 = .ok (.iinc 2 1, 3) := by decide +kernel
theorem dX8_pairSum_75 : decode cX8_pairSum 75 = .ok (.goto (-71), 3) := by decide +kernel
theorem dX8_pairSum_78 : decode cX8_pairSum 78 = .ok (.iload_n 1, 1) := by decide +kernel
theorem dX8_pairSum_79 : decode cX8_pairSum 79 = .ok (.ireturn, 1) := by decide +kernel
theorem dX8_topSum_0 : decode cX8_topSum 0 = .ok (.iconst 0, 1) := by decide +kernel
theorem dX8_topSum_1 : decode cX8_topSum 1 = .ok (.istore_n 2, 1) := by decide +kernel
theorem dX8_topSum_2 : decode cX8_topSum 2 = .ok (.iconst 0, 1) := by decide +kernel
theorem dX8_topSum_3 : decode cX8_topSum 3 = .ok (.istore_n 3, 1) := by decide +kernel
theorem dX8_topSum_4 : decode cX8_topSum 4 = .ok (.iload_n 3, 1) := by decide +kernel
theorem dX8_topSum_5 : decode cX8_topSum 5 = .ok (.aload_n 0, 1) := by decide +kernel
theorem dX8_topSum_6 : decode cX8_topSum 6 = .ok (.getfield 165, 3) := by decide +kernel
theorem dX8_topSum_9 : decode cX8_topSum 9 = .ok (.if_icmp .ge 97, 3) := by decide +kernel
theorem dX8_topSum_12 : decode cX8_topSum 12 = .ok (.iconst 0, 1) := by decide +kernel
theorem dX8_topSum_13 : decode cX8_topSum 13 = .ok (.istore 4, 2) := by decide +kernel
theorem dX8_topSum_15 : decode cX8_topSum 15 = .ok (.iconst 0, 1) := by decide +kernel
theorem dX8_topSum_16 : decode cX8_topSum 16 = .ok (.istore 5, 2) := by decide +kernel
theorem dX8_topSum_18 : decode cX8_topSum 18 = .ok (.iload 5, 2) := by decide +kernel
theorem dX8_topSum_20 : decode cX8_topSum 20 = .ok (.aload_n 0, 1) := by decide +kernel
theorem dX8_topSum_21 : decode cX8_topSum 21 = .ok (.getfield 165, 3) := by decide +kernel
theorem dX8_topSum_24 : decode cX8_topSum 24 = .ok (.if_icmp .ge 57, 3) := by decide +kernel
theorem dX8_topSum_27 : decode cX8_topSum 27 = .ok (.iload 4, 2) := by decide +kernel
theorem dX8_topSum_29 : decode cX8_topSum 29 = .ok (.aload_n 0, 1) := by decide +kernel
theorem dX8_topSum_30 : decode cX8_topSum 30 = .ok (.getfield 56, 3) := by decide +kernel
theorem dX8_topSum_33 : decode cX8_topSum 33 = .ok (.iload 5, 2) := by decide +kernel
theorem dX8_topSum_35 : decode cX8_topSum 35 = .ok (.iaload, 1) := by decide +kernel
theorem dX8_topSum_36 : decode cX8_topSum 36 = .ok (.aload_n 0, 1) := by decide +kernel
theorem dX8_topSum_37 : decode cX8_topSum 37 = .ok (.getfield 56, 3) := by decide +kernel
theorem dX8_topSum_40 : decode cX8_topSum 40 = .ok (.iload_n 3, 1) := by decide +kernel
theorem dX8_topSum_41 : decode cX8_topSum 41 = .ok (.iaload, 1) := by decide +kernel
theorem dX8_topSum_42 : decode cX8_topSum 42 = .ok (.if_icmp .gt 25, 3) := by decide +kernel
theorem dX8_topSum_45 : decode cX8_topSum 45 = .ok (.aload_n 0, 1) := by decide +kernel
theorem dX8_topSum_46 : decode cX8_topSum 46 = .ok (.getfield 56, 3) := by decide +kernel
theorem dX8_topSum_49 : decode cX8_topSum 49 = .ok (.iload 5, 2) := by decide +kernel
theorem dX8_topSum_51 : decode cX8_topSum 51 = .ok (.iaload, 1) := by decide +kernel
theorem dX8_topSum_52 : decode cX8_topSum 52 = .ok (.aload_n 0, 1) := by decide +kernel
theorem dX8_topSum_53 : decode cX8_topSum 53 = .ok (.getfield 56, 3) := by decide +kernel
theorem dX8_topSum_56 : decode cX8_topSum 56 = .ok (.iload_n 3, 1) := by decide +kernel
theorem dX8_topSum_57 : decode cX8_topSum 57 = .ok (.iaload, 1) := by decide +kernel
theorem dX8_topSum_58 : decode cX8_topSum 58 = .ok (.if_icmp .ne 13, 3) := by decide +kernel
theorem dX8_topSum_61 : decode cX8_topSum 61 = .ok (.iload 5, 2) := by decide +kernel
theorem dX8_topSum_63 : decode cX8_topSum 63 = .ok (.iload_n 3, 1) := by decide +kernel
theorem dX8_topSum_64 : decode cX8_topSum 64 = .ok (.if_icmp .ge 7, 3) := by decide +kernel
theorem dX8_topSum_67 : decode cX8_topSum 67 = .ok (.iconst 1, 1) := by decide +kernel
theorem dX8_topSum_68 : decode cX8_topSum 68 = .ok (.goto 4, 3) := by decide +kernel
theorem dX8_topSum_71 : decode cX8_topSum 71 = .ok (.iconst 0, 1) := by decide +kernel
theorem dX8_topSum_72 : decode cX8_topSum 72 = .ok (.iadd, 1) := by decide +kernel
theorem dX8_topSum_73 : decode cX8_topSum 73 = .ok (.istore 4, 2) := by decide +kernel
theorem dX8_topSum_75 : decode cX8_topSum 75 = .ok (.iinc 5 1, 3) := by decide +kernel
theorem dX8_topSum_78 : decode cX8_topSum 78 = .ok (.goto (-60), 3) := by decide +kernel
theorem dX8_topSum_81 : decode cX8_topSum 81 = .ok (.iload_n 2, 1) := by decide +kernel
theorem dX8_topSum_82 : decode cX8_topSum 82 = .ok (.iload 4, 2) := by decide +kernel
theorem dX8_topSum_84 : decode cX8_topSum 84 = .ok (.iload_n 1, 1) := by decide +kernel
theorem dX8_topSum_85 : decode cX8_topSum 85 = .ok (.if_icmp .ge 12, 3) := by decide +kernel
theorem dX8_topSum_88 : decode cX8_topSum 88 = .ok (.aload_n 0, 1) := by decide +kernel
theorem dX8_topSum_89 : decode cX8_topSum 89 = .ok (.getfield 56, 3) := by decide +kernel
theorem dX8_topSum_92 : decode cX8_topSum 92 = .ok (.iload_n 3, 1) := by decide +kernel
theorem dX8_topSum_93 : decode cX8_topSum 93 = .ok (.iaload, 1) := by decide +kernel
theorem dX8_topSum_94 : decode cX8_topSum 94 = .ok (.goto 4, 3) := by decide +kernel
theorem dX8_topSum_97 : decode cX8_topSum 97 = .ok (.iconst 0, 1) := by decide +kernel
theorem dX8_topSum_98 : decode cX8_topSum 98 = .ok (.iadd, 1) := by decide +kernel
theorem dX8_topSum_99 : decode cX8_topSum 99 = .ok (.istore_n 2, 1) := by decide +kernel
theorem dX8_topSum_100 : decode cX8_topSum 100 = .ok (.iinc 3 1, 3) := by decide +kernel
theorem dX8_topSum_103 : decode cX8_topSum 103 = .ok (.goto (-99), 3) := by decide +kernel
theorem dX8_topSum_106 : decode cX8_topSum 106 = .ok (.iload_n 2, 1) := by decide +kernel
theorem dX8_topSum_107 : decode cX8_topSum 107 = .ok (.ireturn, 1) := by decide +kernel
theorem dX8_lackOf_0 : decode cX8_lackOf 0 = .ok (.iconst 0, 1) := by decide +kernel
theorem dX8_lackOf_1 : decode cX8_lackOf 1 = .ok (.istore_n 3, 1) := by decide +kernel
theorem dX8_lackOf_2 : decode cX8_lackOf 2 = .ok (.iconst 0, 1) := by decide +kernel
theorem dX8_lackOf_3 : decode cX8_lackOf 3 = .ok (.istore 4, 2) := by decide +kernel
theorem dX8_lackOf_5 : decode cX8_lackOf 5 = .ok (.iload 4, 2) := by decide +kernel
theorem dX8_lackOf_7 : decode cX8_lackOf 7 = .ok (.aload_n 0, 1) := by decide +kernel
theorem dX8_lackOf_8 : decode cX8_lackOf 8 = .ok (.getfield 165, 3) := by decide +kernel
theorem dX8_lackOf_11 : decode cX8_lackOf 11 = .ok (.if_icmp .ge 44, 3) := by decide +kernel
theorem dX8_lackOf_14 : decode cX8_lackOf 14 = .ok (.iload_n 3, 1) := by decide +kernel
theorem dX8_lackOf_15 : decode cX8_lackOf 15 = .ok (.aload_n 0, 1) := by decide +kernel
theorem dX8_lackOf_16 : decode cX8_lackOf 16 = .ok (.getfield 56, 3) := by decide +kernel
theorem dX8_lackOf_19 : decode cX8_lackOf 19 = .ok (.iload 4, 2) := by decide +kernel
theorem dX8_lackOf_21 : decode cX8_lackOf 21 = .ok (.iaload, 1) := by decide +kernel
theorem dX8_lackOf_22 : decode cX8_lackOf 22 = .ok (.iload_n 1, 1) := by decide +kernel
theorem dX8_lackOf_23 : decode cX8_lackOf 23 = .ok (.if_icmp .ge 23, 3) := by decide +kernel
theorem dX8_lackOf_26 : decode cX8_lackOf 26 = .ok (.iload_n 2, 1) := by decide +kernel
theorem dX8_lackOf_27 : decode cX8_lackOf 27 = .ok (.ifCond .eq 15, 3) := by decide +kernel
theorem dX8_lackOf_30 : decode cX8_lackOf 30 = .ok (.iload_n 1, 1) := by decide +kernel
theorem dX8_lackOf_31 : decode cX8_lackOf 31 = .ok (.aload_n 0, 1) := by decide +kernel
theorem dX8_lackOf_32 : decode cX8_lackOf 32 = .ok (.getfield 56, 3) := by decide +kernel
theorem dX8_lackOf_35 : decode cX8_lackOf 35 = .ok (.iload 4, 2) := by decide +kernel
theorem dX8_lackOf_37 : decode cX8_lackOf 37 = .ok (.iaload, 1) := by decide +kernel
theorem dX8_lackOf_38 : decode cX8_lackOf 38 = .ok (.isub, 1) := by decide +kernel
theorem dX8_lackOf_39 : decode cX8_lackOf 39 = .ok (.goto 8, 3) := by decide +kernel
theorem dX8_lackOf_42 : decode cX8_lackOf 42 = .ok (.iconst 1, 1) := by decide +kernel
theorem dX8_lackOf_43 : decode cX8_lackOf 43 = .ok (.goto 4, 3) := by decide +kernel
theorem dX8_lackOf_46 : decode cX8_lackOf 46 = .ok (.iconst 0, 1) := by decide +kernel
theorem dX8_lackOf_47 : decode cX8_lackOf 47 = .ok (.iadd, 1) := by decide +kernel
theorem dX8_lackOf_48 : decode cX8_lackOf 48 = .ok (.istore_n 3, 1) := by decide +kernel
theorem dX8_lackOf_49 : decode cX8_lackOf 49 = .ok (.iinc 4 1, 3) := by decide +kernel
theorem dX8_lackOf_52 : decode cX8_lackOf 52 = .ok (.goto (-47), 3) := by decide +kernel
theorem dX8_lackOf_55 : decode cX8_lackOf 55 = .ok (.iload_n 3, 1) := by decide +kernel
theorem dX8_lackOf_56 : decode cX8_lackOf 56 = .ok (.ireturn, 1) := by decide +kernel
theorem dX8_squares_0 : decode cX8_squares 0 = .ok (.iconst 0, 1) := by decide +kernel
theorem dX8_squares_1 : decode cX8_squares 1 = .ok (.istore_n 1, 1) := by decide +kernel
theorem dX8_squares_2 : decode cX8_squares 2 = .ok (.iconst 0, 1) := by decide +kernel
theorem dX8_squares_3 : decode cX8_squares 3 = .ok (.istore_n 2, 1) := by decide +kernel
theorem dX8_squares_4 : decode cX8_squares 4 = .ok (.iload_n 2, 1) := by decide +kernel
theorem dX8_squares_5 : decode cX8_squares 5 = .ok (.aload_n 0, 1) := by decide +kernel
theorem dX8_squares_6 : decode cX8_squares 6 = .ok (.getfield 165, 3) := by decide +kernel
theorem dX8_squares_9 : decode cX8_squares 9 = .ok (.if_icmp .ge 25, 3) := by decide +kernel
theorem dX8_squares_12 : decode cX8_squares 12 = .ok (.iload_n 1, 1) := by decide +kernel
theorem dX8_squares_13 : decode cX8_squares 13 = .ok (.aload_n 0, 1) := by decide +kernel
theorem dX8_squares_14 : decode cX8_squares 14 = .ok (.getfield 56, 3) := by decide +kernel
theorem dX8_squares_17 : decode cX8_squares 17 = .ok (.iload_n 2, 1) := by decide +kernel
theorem dX8_squares_18 : decode cX8_squares 18 = .ok (.iaload, 1) := by decide +kernel
theorem dX8_squares_19 : decode cX8_squares 19 = .ok (.aload_n 0, 1) := by decide +kernel
theorem dX8_squares_20 : decode cX8_squares 20 = .ok (.getfield 56, 3) := by decide +kernel
