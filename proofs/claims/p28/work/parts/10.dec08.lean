theorem dX8_ask_179 : decode cX8_ask 179 = .ok (.istore 7, 2) := by decide +kernel
theorem dX8_ask_181 : decode cX8_ask 181 = .ok (.iinc 8 1, 3) := by decide +kernel
theorem dX8_ask_184 : decode cX8_ask 184 = .ok (.goto (-146), 3) := by decide +kernel
theorem dX8_ask_187 : decode cX8_ask 187 = .ok (.iload 6, 2) := by decide +kernel
theorem dX8_ask_189 : decode cX8_ask 189 = .ok (.ireturn, 1) := by decide +kernel
theorem dX8_poor_0 : decode cX8_poor 0 = .ok (.iload_n 1, 1) := by decide +kernel
theorem dX8_poor_1 : decode cX8_poor 1 = .ok (.invokestatic 81, 3) := by decide +kernel
theorem dX8_poor_4 : decode cX8_poor 4 = .ok (.ifCond .ne 5, 3) := by decide +kernel
theorem dX8_poor_7 : decode cX8_poor 7 = .ok (.iconst (-1), 1) := by decide +kernel
theorem dX8_poor_8 : decode cX8_poor 8 = .ok (.ireturn, 1) := by decide +kernel
theorem dX8_poor_9 : decode cX8_poor 9 = .ok (.iload_n 2, 1) := by decide +kernel
theorem dX8_poor_10 : decode cX8_poor 10 = .ok (.i2l, 1) := by decide +kernel
theorem dX8_poor_11 : decode cX8_poor 11 = .ok (.lconst 0, 1) := by decide +kernel
theorem dX8_poor_12 : decode cX8_poor 12 = .ok (.ldc2_w 153, 3) := by decide +kernel
theorem dX8_poor_15 : decode cX8_poor 15 = .ok (.invokestatic 77, 3) := by decide +kernel
theorem dX8_poor_18 : decode cX8_poor 18 = .ok (.ifCond .ne 6, 3) := by decide +kernel
theorem dX8_poor_21 : decode cX8_poor 21 = .ok (.bipush (-2), 2) := by decide +kernel
theorem dX8_poor_23 : decode cX8_poor 23 = .ok (.ireturn, 1) := by decide +kernel
theorem dX8_poor_24 : decode cX8_poor 24 = .ok (.aload_n 0, 1) := by decide +kernel
theorem dX8_poor_25 : decode cX8_poor 25 = .ok (.iload_n 1, 1) := by decide +kernel
theorem dX8_poor_26 : decode cX8_poor 26 = .ok (.invokevirtual 98, 3) := by decide +kernel
theorem dX8_poor_29 : decode cX8_poor 29 = .ok (.ifCond .ne 6, 3) := by decide +kernel
theorem dX8_poor_32 : decode cX8_poor 32 = .ok (.bipush (-3), 2) := by decide +kernel
theorem dX8_poor_34 : decode cX8_poor 34 = .ok (.ireturn, 1) := by decide +kernel
theorem dX8_poor_35 : decode cX8_poor 35 = .ok (.aload_n 0, 1) := by decide +kernel
theorem dX8_poor_36 : decode cX8_poor 36 = .ok (.iload_n 1, 1) := by decide +kernel
theorem dX8_poor_37 : decode cX8_poor 37 = .ok (.invokevirtual 205, 3) := by decide +kernel
theorem dX8_poor_40 : decode cX8_poor 40 = .ok (.aload_n 0, 1) := by decide +kernel
theorem dX8_poor_41 : decode cX8_poor 41 = .ok (.iload_n 2, 1) := by decide +kernel
theorem dX8_poor_42 : decode cX8_poor 42 = .ok (.iload_n 3, 1) := by decide +kernel
theorem dX8_poor_43 : decode cX8_poor 43 = .ok (.invokevirtual 191, 3) := by decide +kernel
theorem dX8_poor_46 : decode cX8_poor 46 = .ok (.ireturn, 1) := by decide +kernel
theorem dX8_edgeOf_0 : decode cX8_edgeOf 0 = .ok (.iconst 0, 1) := by decide +kernel
theorem dX8_edgeOf_1 : decode cX8_edgeOf 1 = .ok (.istore 5, 2) := by decide +kernel
theorem dX8_edgeOf_3 : decode cX8_edgeOf 3 = .ok (.iload 5, 2) := by decide +kernel
theorem dX8_edgeOf_5 : decode cX8_edgeOf 5 = .ok (.iload_n 3, 1) := by decide +kernel
theorem dX8_edgeOf_6 : decode cX8_edgeOf 6 = .ok (.if_icmp .gt 81, 3) := by decide +kernel
theorem dX8_edgeOf_9 : decode cX8_edgeOf 9 = .ok (.aload_n 0, 1) := by decide +kernel
theorem dX8_edgeOf_10 : decode cX8_edgeOf 10 = .ok (.iload_n 1, 1) := by decide +kernel
theorem dX8_edgeOf_11 : decode cX8_edgeOf 11 = .ok (.invokevirtual 205, 3) := by decide +kernel
theorem dX8_edgeOf_14 : decode cX8_edgeOf 14 = .ok (.aload_n 0, 1) := by decide +kernel
theorem dX8_edgeOf_15 : decode cX8_edgeOf 15 = .ok (.iload 5, 2) := by decide +kernel
theorem dX8_edgeOf_17 : decode cX8_edgeOf 17 = .ok (.iload 4, 2) := by decide +kernel
theorem dX8_edgeOf_19 : decode cX8_edgeOf 19 = .ok (.iconst 1, 1) := by decide +kernel
theorem dX8_edgeOf_20 : decode cX8_edgeOf 20 = .ok (.if_icmp .ne 7, 3) := by decide +kernel
theorem dX8_edgeOf_23 : decode cX8_edgeOf 23 = .ok (.iconst 1, 1) := by decide +kernel
theorem dX8_edgeOf_24 : decode cX8_edgeOf 24 = .ok (.goto 4, 3) := by decide +kernel
theorem dX8_edgeOf_27 : decode cX8_edgeOf 27 = .ok (.iconst 0, 1) := by decide +kernel
theorem dX8_edgeOf_28 : decode cX8_edgeOf 28 = .ok (.invokevirtual 191, 3) := by decide +kernel
theorem dX8_edgeOf_31 : decode cX8_edgeOf 31 = .ok (.aload_n 0, 1) := by decide +kernel
theorem dX8_edgeOf_32 : decode cX8_edgeOf 32 = .ok (.getfield 7, 3) := by decide +kernel
theorem dX8_edgeOf_35 : decode cX8_edgeOf 35 = .ok (.iload_n 2, 1) := by decide +kernel
theorem dX8_edgeOf_36 : decode cX8_edgeOf 36 = .ok (.iaload, 1) := by decide +kernel
theorem dX8_edgeOf_37 : decode cX8_edgeOf 37 = .ok (.imul, 1) := by decide +kernel
theorem dX8_edgeOf_38 : decode cX8_edgeOf 38 = .ok (.istore 6, 2) := by decide +kernel
theorem dX8_edgeOf_40 : decode cX8_edgeOf 40 = .ok (.aload_n 0, 1) := by decide +kernel
theorem dX8_edgeOf_41 : decode cX8_edgeOf 41 = .ok (.iload_n 2, 1) := by decide +kernel
theorem dX8_edgeOf_42 : decode cX8_edgeOf 42 = .ok (.invokevirtual 205, 3) := by decide +kernel
theorem dX8_edgeOf_45 : decode cX8_edgeOf 45 = .ok (.aload_n 0, 1) := by decide +kernel
theorem dX8_edgeOf_46 : decode cX8_edgeOf 46 = .ok (.iload 5, 2) := by decide +kernel
theorem dX8_edgeOf_48 : decode cX8_edgeOf 48 = .ok (.iload 4, 2) := by decide +kernel
theorem dX8_edgeOf_50 : decode cX8_edgeOf 50 = .ok (.iconst 1, 1) := by decide +kernel
theorem dX8_edgeOf_51 : decode cX8_edgeOf 51 = .ok (.if_icmp .ne 7, 3) := by decide +kernel
theorem dX8_edgeOf_54 : decode cX8_edgeOf 54 = .ok (.iconst 1, 1) := by decide +kernel
theorem dX8_edgeOf_55 : decode cX8_edgeOf 55 = .ok (.goto 4, 3) := by decide +kernel
theorem dX8_edgeOf_58 : decode cX8_edgeOf 58 = .ok (.iconst 0, 1) := by decide +kernel
theorem dX8_edgeOf_59 : decode cX8_edgeOf 59 = .ok (.invokevirtual 191, 3) := by decide +kernel
theorem dX8_edgeOf_62 : decode cX8_edgeOf 62 = .ok (.aload_n 0, 1) := by decide +kernel
theorem dX8_edgeOf_63 : decode cX8_edgeOf 63 = .ok (.getfield 7, 3) := by decide +kernel
theorem dX8_edgeOf_66 : decode cX8_edgeOf 66 = .ok (.iload_n 1, 1) := by decide +kernel
theorem dX8_edgeOf_67 : decode cX8_edgeOf 67 = .ok (.iaload, 1) := by decide +kernel
theorem dX8_edgeOf_68 : decode cX8_edgeOf 68 = .ok (.imul, 1) := by decide +kernel
theorem dX8_edgeOf_69 : decode cX8_edgeOf 69 = .ok (.istore 7, 2) := by decide +kernel
theorem dX8_edgeOf_71 : decode cX8_edgeOf 71 = .ok (.iload 6, 2) := by decide +kernel
theorem dX8_edgeOf_73 : decode cX8_edgeOf 73 = .ok (.iload 7, 2) := by decide +kernel
theorem dX8_edgeOf_75 : decode cX8_edgeOf 75 = .ok (.if_icmp .le 6, 3) := by decide +kernel
theorem dX8_edgeOf_78 : decode cX8_edgeOf 78 = .ok (.iload 5, 2) := by decide +kernel
theorem dX8_edgeOf_80 : decode cX8_edgeOf 80 = .ok (.ireturn, 1) := by decide +kernel
theorem dX8_edgeOf_81 : decode cX8_edgeOf 81 = .ok (.iinc 5 1, 3) := by decide +kernel
theorem dX8_edgeOf_84 : decode cX8_edgeOf 84 = .ok (.goto (-81), 3) := by decide +kernel
theorem dX8_edgeOf_87 : decode cX8_edgeOf 87 = .ok (.bipush (-9), 2) := by decide +kernel
theorem dX8_edgeOf_89 : decode cX8_edgeOf 89 = .ok (.ireturn, 1) := by decide +kernel
theorem dX8_mayEdge_0 : decode cX8_mayEdge 0 = .ok (.iload_n 1, 1) := by decide +kernel
theorem dX8_mayEdge_1 : decode cX8_mayEdge 1 = .ok (.invokestatic 81, 3) := by decide +kernel
theorem dX8_mayEdge_4 : decode cX8_mayEdge 4 = .ok (.ifCond .eq 10, 3) := by decide +kernel
theorem dX8_mayEdge_7 : decode cX8_mayEdge 7 = .ok (.iload_n 2, 1) := by decide +kernel
theorem dX8_mayEdge_8 : decode cX8_mayEdge 8 = .ok (.invokestatic 81, 3) := by decide +kernel
theorem dX8_mayEdge_11 : decode cX8_mayEdge 11 = .ok (.ifCond .ne 5, 3) := by decide +kernel
theorem dX8_mayEdge_14 : decode cX8_mayEdge 14 = .ok (.iconst (-1), 1) := by decide +kernel
theorem dX8_mayEdge_15 : decode cX8_mayEdge 15 = .ok (.ireturn, 1) := by decide +kernel
theorem dX8_mayEdge_16 : decode cX8_mayEdge 16 = .ok (.iload_n 3, 1) := by decide +kernel
theorem dX8_mayEdge_17 : decode cX8_mayEdge 17 = .ok (.i2l, 1) := by decide +kernel
theorem dX8_mayEdge_18 : decode cX8_mayEdge 18 = .ok (.lconst 0, 1) := by decide +kernel
theorem dX8_mayEdge_19 : decode cX8_mayEdge 19 = .ok (.ldc2_w 153, 3) := by decide +kernel
theorem dX8_mayEdge_22 : decode cX8_mayEdge 22 = .ok (.invokestatic 77, 3) := by decide +kernel
theorem dX8_mayEdge_25 : decode cX8_mayEdge 25 = .ok (.ifCond .eq 14, 3) := by decide +kernel
theorem dX8_mayEdge_28 : decode cX8_mayEdge 28 = .ok (.iload 4, 2) := by decide +kernel
theorem dX8_mayEdge_30 : decode cX8_mayEdge 30 = .ok (.i2l, 1) := by decide +kernel
theorem dX8_mayEdge_31 : decode cX8_mayEdge 31 = .ok (.lconst 0, 1) := by decide +kernel
theorem dX8_mayEdge_32 : decode cX8_mayEdge 32 = .ok (.lconst 1, 1) := by decide +kernel
theorem dX8_mayEdge_33 : decode cX8_mayEdge 33 = .ok (.invokestatic 77, 3) := by decide +kernel
theorem dX8_mayEdge_36 : decode cX8_mayEdge 36 = .ok (.ifCond .ne 6, 3) := by decide +kernel
theorem dX8_mayEdge_39 : decode cX8_mayEdge 39 = .ok (.bipush (-2), 2) := by decide +kernel
theorem dX8_mayEdge_41 : decode cX8_mayEdge 41 = .ok (.ireturn, 1) := by decide +kernel
theorem dX8_mayEdge_42 : decode cX8_mayEdge 42 = .ok (.aload_n 0, 1) := by decide +kernel
theorem dX8_mayEdge_43 : decode cX8_mayEdge 43 = .ok (.iload_n 1, 1) := by decide +kernel
theorem dX8_mayEdge_44 : decode cX8_mayEdge 44 = .ok (.invokevirtual 129, 3) := by decide +kernel
theorem dX8_mayEdge_47 : decode cX8_mayEdge 47 = .ok (.ifCond .eq 15, 3) := by decide +kernel
theorem dX8_mayEdge_50 : decode cX8_mayEdge 50 = .ok (.aload_n 0, 1) := by decide +kernel
theorem dX8_mayEdge_51 : decode cX8_mayEdge 51 = .ok (.iload_n 2, 1) := by decide +kernel
theorem dX8_mayEdge_52 : decode cX8_mayEdge 52 = .ok (.invokevirtual 129, 3) := by decide +kernel
theorem dX8_mayEdge_55 : decode cX8_mayEdge 55 = .ok (.ifCond .eq 7, 3) := by decide +kernel
theorem dX8_mayEdge_58 : decode cX8_mayEdge 58 = .ok (.iconst 0, 1) := by decide +kernel
theorem dX8_mayEdge_59 : decode cX8_mayEdge 59 = .ok (.goto 5, 3) := by decide +kernel
theorem dX8_mayEdge_62 : decode cX8_mayEdge 62 = .ok (.bipush (-3), 2) := by decide +kernel
theorem dX8_mayEdge_64 : decode cX8_mayEdge 64 = .ok (.ireturn, 1) := by decide +kernel
theorem dX8_never_0 : decode cX8_never 0 = .ok (.aload_n 0, 1) := by decide +kernel
theorem dX8_never_1 : decode cX8_never 1 = .ok (.iload_n 1, 1) := by decide +kernel
theorem dX8_never_2 : decode cX8_never 2 = .ok (.iload_n 2, 1) := by decide +kernel
theorem dX8_never_3 : decode cX8_never 3 = .ok (.iload_n 3, 1) := by decide +kernel
theorem dX8_never_4 : decode cX8_never 4 = .ok (.iload 4, 2) := by decide +kernel
theorem dX8_never_6 : decode cX8_never 6 = .ok (.invokevirtual 238, 3) := by decide +kernel
theorem dX8_never_9 : decode cX8_never 9 = .ok (.istore 5, 2) := by decide +kernel
theorem dX8_never_11 : decode cX8_never 11 = .ok (.iload 5, 2) := by decide +kernel
theorem dX8_never_13 : decode cX8_never 13 = .ok (.ifCond .ge 8, 3) := by decide +kernel
theorem dX8_never_16 : decode cX8_never 16 = .ok (.iload 5, 2) := by decide +kernel
theorem dX8_never_18 : decode cX8_never 18 = .ok (.goto 22, 3) := by decide +kernel
theorem dX8_never_21 : decode cX8_never 21 = .ok (.aload_n 0, 1) := by decide +kernel
theorem dX8_never_22 : decode cX8_never 22 = .ok (.iload_n 1, 1) := by decide +kernel
theorem dX8_never_23 : decode cX8_never 23 = .ok (.iload_n 2, 1) := by decide +kernel
theorem dX8_never_24 : decode cX8_never 24 = .ok (.iload_n 3, 1) := by decide +kernel
theorem dX8_never_25 : decode cX8_never 25 = .ok (.iload 4, 2) := by decide +kernel
theorem dX8_never_27 : decode cX8_never 27 = .ok (.invokevirtual 241, 3) := by decide +kernel
theorem dX8_never_30 : decode cX8_never 30 = .ok (.bipush (-9), 2) := by decide +kernel
theorem dX8_never_32 : decode cX8_never 32 = .ok (.if_icmp .ne 7, 3) := by decide +kernel
theorem dX8_never_35 : decode cX8_never 35 = .ok (.iconst 1, 1) := by decide +kernel
theorem dX8_never_36 : decode cX8_never 36 = .ok (.goto 4, 3) := by decide +kernel
theorem dX8_never_39 : decode cX8_never 39 = .ok (.iconst 0, 1) := by decide +kernel
theorem dX8_never_40 : decode cX8_never 40 = .ok (.ireturn, 1) := by decide +kernel
theorem dX8_edge_0 : decode cX8_edge 0 = .ok (.aload_n 0, 1) := by decide +kernel
theorem dX8_edge_1 : decode cX8_edge 1 = .ok (.iload_n 1, 1) := by decide +kernel
theorem dX8_edge_2 : decode cX8_edge 2 = .ok (.iload_n 2, 1) := by decide +kernel
theorem dX8_edge_3 : decode cX8_edge 3 = .ok (.iload_n 3, 1) := by decide +kernel
theorem dX8_edge_4 : decode cX8_edge 4 = .ok (.iload 4, 2) := by decide +kernel
theorem dX8_edge_6 : decode cX8_edge 6 = .ok (.invokevirtual 238, 3) := by decide +kernel
theorem dX8_edge_9 : decode cX8_edge 9 = .ok (.istore 5, 2) := by decide +kernel
theorem dX8_edge_11 : decode cX8_edge 11 = .ok (.iload 5, 2) := by decide +kernel
theorem dX8_edge_13 : decode cX8_edge 13 = .ok (.ifCond .ge 8, 3) := by decide +kernel
theorem dX8_edge_16 : decode cX8_edge 16 = .ok (.iload 5, 2) := by decide +kernel
theorem dX8_edge_18 : decode cX8_edge 18 = .ok (.goto 12, 3) := by decide +kernel
theorem dX8_edge_21 : decode cX8_edge 21 = .ok (.aload_n 0, 1) := by decide +kernel
theorem dX8_edge_22 : decode cX8_edge 22 = .ok (.iload_n 1, 1) := by decide +kernel
theorem dX8_edge_23 : decode cX8_edge 23 = .ok (.iload_n 2, 1) := by decide +kernel
theorem dX8_edge_24 : decode cX8_edge 24 = .ok (.iload_n 3, 1) := by decide +kernel
theorem dX8_edge_25 : decode cX8_edge 25 = .ok (.iload 4, 2) := by decide +kernel
theorem dX8_edge_27 : decode cX8_edge 27 = .ok (.invokevirtual 241, 3) := by decide +kernel
theorem dX8_edge_30 : decode cX8_edge 30 = .ok (.ireturn, 1) := by decide +kernel
theorem dX8_takePart_0 : decode cX8_takePart 0 = .ok (.aload_n 0, 1) := by decide +kernel
theorem dX8_takePart_1 : decode cX8_takePart 1 = .ok (.iconst 0, 1) := by decide +kernel
theorem dX8_takePart_2 : decode cX8_takePart 2 = .ok (.putfield 165, 3) := by decide +kernel
theorem dX8_takePart_5 : decode cX8_takePart 5 = .ok (.bipush 8, 2) := by decide +kernel
theorem dX8_takePart_7 : decode cX8_takePart 7 = .ok (.iload_n 1, 1) := by decide +kernel
theorem dX8_takePart_8 : decode cX8_takePart 8 = .ok (.imul, 1) := by decide +kernel
theorem dX8_takePart_9 : decode cX8_takePart 9 = .ok (.istore_n 3, 1) := by decide +kernel
theorem dX8_takePart_10 : decode cX8_takePart 10 = .ok (.iload_n 3, 1) := by decide +kernel
theorem dX8_takePart_11 : decode cX8_takePart 11 = .ok (.bipush 8, 2) := by decide +kernel
theorem dX8_takePart_13 : decode cX8_takePart 13 = .ok (.iload_n 1, 1) := by decide +kernel
theorem dX8_takePart_14 : decode cX8_takePart 14 = .ok (.imul, 1) := by decide +kernel
theorem dX8_takePart_15 : decode cX8_takePart 15 = .ok (.aload_n 0, 1) := by decide +kernel
theorem dX8_takePart_16 : decode cX8_takePart 16 = .ok (.getfield 7, 3) := by decide +kernel
theorem dX8_takePart_19 : decode cX8_takePart 19 = .ok (.iload_n 1, 1) := by decide +kernel
theorem dX8_takePart_20 : decode cX8_takePart 20 = .ok (.iaload, 1) := by decide +kernel
theorem dX8_takePart_21 : decode cX8_takePart 21 = .ok (.iadd, 1) := by decide +kernel
theorem dX8_takePart_22 : decode cX8_takePart 22 = .ok (.if_icmp .ge 44, 3) := by decide +kernel
theorem dX8_takePart_25 : decode cX8_takePart 25 = .ok (.aload_n 0, 1) := by decide +kernel
theorem dX8_takePart_26 : decode cX8_takePart 26 = .ok (.getfield 22, 3) := by decide +kernel
theorem dX8_takePart_29 : decode cX8_takePart 29 = .ok (.iload_n 3, 1) := by decide +kernel
theorem dX8_takePart_30 : decode cX8_takePart 30 = .ok (.iaload, 1) := by decide +kernel
theorem dX8_takePart_31 : decode cX8_takePart 31 = .ok (.iload_n 2, 1) := by decide +kernel
theorem dX8_takePart_32 : decode cX8_takePart 32 = .ok (.if_icmp .ne 28, 3) := by decide +kernel
theorem dX8_takePart_35 : decode cX8_takePart 35 = .ok (.aload_n 0, 1) := by decide +kernel
theorem dX8_takePart_36 : decode cX8_takePart 36 = .ok (.getfield 56, 3) := by decide +kernel
theorem dX8_takePart_39 : decode cX8_takePart 39 = .ok (.aload_n 0, 1) := by decide +kernel
theorem dX8_takePart_40 : decode cX8_takePart 40 = .ok (.getfield 165, 3) := by decide +kernel
theorem dX8_takePart_43 : decode cX8_takePart 43 = .ok (.aload_n 0, 1) := by decide +kernel
theorem dX8_takePart_44 : decode cX8_takePart 44 = .ok (.getfield 13, 3) := by decide +kernel
theorem dX8_takePart_47 : decode cX8_takePart 47 = .ok (.iload_n 3, 1) := by decide +kernel
theorem dX8_takePart_48 : decode cX8_takePart 48 = .ok (.iaload, 1) := by decide +kernel
theorem dX8_takePart_49 : decode cX8_takePart 49 = .ok (.iastore, 1) := by decide +kernel
theorem dX8_takePart_50 : decode cX8_takePart 50 = .ok (.aload_n 0, 1) := by decide +kernel
theorem dX8_takePart_51 : decode cX8_takePart 51 = .ok (.dup, 1) := by decide +kernel
theorem dX8_takePart_52 : decode cX8_takePart 52 = .ok (.getfield 165, 3) := by decide +kernel
theorem dX8_takePart_55 : decode cX8_takePart 55 = .ok (.iconst 1, 1) := by decide +kernel
theorem dX8_takePart_56 : decode cX8_takePart 56 = .ok (.iadd, 1) := by decide +kernel
theorem dX8_takePart_57 : decode cX8_takePart 57 = .ok (.putfield 165, 3) := by decide +kernel
theorem dX8_takePart_60 : decode cX8_takePart 60 = .ok (.iinc 3 1, 3) := by decide +kernel
theorem dX8_takePart_63 : decode cX8_takePart 63 = .ok (.goto (-53), 3) := by decide +kernel
theorem dX8_takePart_66 : decode cX8_takePart 66 = .ok (.return_, 1) := by decide +kernel
theorem dX8_spread_0 : decode cX8_spread 0 = .ok (.iload_n 1, 1) := by decide +kernel
theorem dX8_spread_1 : decode cX8_spread 1 = .ok (.invokestatic 81, 3) := by decide +kernel
theorem dX8_spread_4 : decode cX8_spread 4 = .ok (.ifCond .eq 17, 3) := by decide +kernel
theorem dX8_spread_7 : decode cX8_spread 7 = .ok (.iload_n 2, 1) := by decide +kernel
theorem dX8_spread_8 : decode cX8_spread 8 = .ok (.i2l, 1) := by decide +kernel
theorem dX8_spread_9 : decode cX8_spread 9 = .ok (.ldc2_w 151, 3) := by decide +kernel
theorem dX8_spread_12 : decode cX8_spread 12 = .ok (.ldc2_w 75, 3) := by decide +kernel
theorem dX8_spread_15 : decode cX8_spread 15 = .ok (.invokestatic 77, 3) := by decide +kernel
theorem dX8_spread_18 : decode cX8_spread 18 = .ok (.ifCond .ne 7, 3) := by decide +kernel
theorem dX8_spread_21 : decode cX8_spread 21 = .ok (.ldc2_w 151, 3) := by decide +kernel
theorem dX8_spread_24 : decode cX8_spread 24 = .ok (.lreturn, 1) := by decide +kernel
theorem dX8_spread_25 : decode cX8_spread 25 = .ok (.aload_n 0, 1) := by decide +kernel
theorem dX8_spread_26 : decode cX8_spread 26 = .ok (.iload_n 1, 1) := by decide +kernel
theorem dX8_spread_27 : decode cX8_spread 27 = .ok (.invokevirtual 129, 3) := by decide +kernel
theorem dX8_spread_30 : decode cX8_spread 30 = .ok (.ifCond .ne 7, 3) := by decide +kernel
theorem dX8_spread_33 : decode cX8_spread 33 = .ok (.ldc2_w 157, 3) := by decide +kernel
theorem dX8_spread_36 : decode cX8_spread 36 = .ok (.lreturn, 1) := by decide +kernel
theorem dX8_spread_37 : decode cX8_spread 37 = .ok (.aload_n 0, 1) := by decide +kernel
theorem dX8_spread_38 : decode cX8_spread 38 = .ok (.getfield 7, 3) := by decide +kernel
theorem dX8_spread_41 : decode cX8_spread 41 = .ok (.iload_n 1, 1) := by decide +kernel
theorem dX8_spread_42 : decode cX8_spread 42 = .ok (.iaload, 1) := by decide +kernel
theorem dX8_spread_43 : decode cX8_spread 43 = .ok (.i2l, 1) := by decide +kernel
theorem dX8_spread_44 : decode cX8_spread 44 = .ok (.lstore 4, 2) := by decide +kernel
theorem dX8_spread_46 : decode cX8_spread 46 = .ok (.iload_n 2, 1) := by decide +kernel
theorem dX8_spread_47 : decode cX8_spread 47 = .ok (.iconst (-1), 1) := by decide +kernel
theorem dX8_spread_48 : decode cX8_spread 48 = .ok (.if_icmp .ne 28, 3) := by decide +kernel
theorem dX8_spread_51 : decode cX8_spread 51 = .ok (.aload_n 0, 1) := by decide +kernel
theorem dX8_spread_52 : decode cX8_spread 52 = .ok (.iload_n 1, 1) := by decide +kernel
theorem dX8_spread_53 : decode cX8_spread 53 = .ok (.invokevirtual 205, 3) := by decide +kernel
theorem dX8_spread_56 : decode cX8_spread 56 = .ok (.aload_n 0, 1) := by decide +kernel
theorem dX8_spread_57 : decode cX8_spread 57 = .ok (.iconst 5, 1) := by decide +kernel
theorem dX8_spread_58 : decode cX8_spread 58 = .ok (.iconst 0, 1) := by decide +kernel
theorem dX8_spread_59 : decode cX8_spread 59 = .ok (.invokevirtual 209, 3) := by decide +kernel
theorem dX8_spread_62 : decode cX8_spread 62 = .ok (.aload_n 0, 1) := by decide +kernel
theorem dX8_spread_63 : decode cX8_spread 63 = .ok (.getfield 179, 3) := by decide +kernel
theorem dX8_spread_66 : decode cX8_spread 66 = .ok (.lload 4, 2) := by decide +kernel
theorem dX8_spread_68 : decode cX8_spread 68 = .ok (.lload 4, 2) := by decide +kernel
theorem dX8_spread_70 : decode cX8_spread 70 = .ok (.lmul, 1) := by decide +kernel
theorem dX8_spread_71 : decode cX8_spread 71 = .ok (.iload_n 3, 1) := by decide +kernel
theorem dX8_spread_72 : decode cX8_spread 72 = .ok (.invokestatic 147, 3) := by decide +kernel
theorem dX8_spread_75 : decode cX8_spread 75 = .ok (.lreturn, 1) := by decide +kernel
theorem dX8_spread_76 : decode cX8_spread 76 = .ok (.iload_n 2, 1) := by decide +kernel
theorem dX8_spread_77 : decode cX8_spread 77 = .ok (.iconst 3, 1) := by decide +kernel
theorem dX8_spread_78 : decode cX8_spread 78 = .ok (.if_icmp .ge 46, 3) := by decide +kernel
theorem dX8_spread_81 : decode cX8_spread 81 = .ok (.aload_n 0, 1) := by decide +kernel
theorem dX8_spread_82 : decode cX8_spread 82 = .ok (.iload_n 1, 1) := by decide +kernel
theorem dX8_spread_83 : decode cX8_spread 83 = .ok (.iload_n 2, 1) := by decide +kernel
theorem dX8_spread_84 : decode cX8_spread 84 = .ok (.invokevirtual 244, 3) := by decide +kernel
theorem dX8_spread_87 : decode cX8_spread 87 = .ok (.aload_n 0, 1) := by decide +kernel
theorem dX8_spread_88 : decode cX8_spread 88 = .ok (.getfield 165, 3) := by decide +kernel
theorem dX8_spread_91 : decode cX8_spread 91 = .ok (.ifCond .ne 10, 3) := by decide +kernel
theorem dX8_spread_94 : decode cX8_spread 94 = .ok (.lconst 0, 1) := by decide +kernel
theorem dX8_spread_95 : decode cX8_spread 95 = .ok (.lconst 1, 1) := by decide +kernel
theorem dX8_spread_96 : decode cX8_spread 96 = .ok (.iload_n 3, 1) := by decide +kernel
theorem dX8_spread_97 : decode cX8_spread 97 = .ok (.invokestatic 147, 3) := by decide +kernel
theorem dX8_spread_100 : decode cX8_spread 100 = .ok (.lreturn, 1) := by decide +kernel
theorem dX8_spread_101 : decode cX8_spread 101 = .ok (.aload_n 0, 1) := by decide +kernel
theorem dX8_spread_102 : decode cX8_spread 102 = .ok (.iconst 5, 1) := by decide +kernel
theorem dX8_spread_103 : decode cX8_spread 103 = .ok (.iconst 0, 1) := by decide +kernel
theorem dX8_spread_104 : decode cX8_spread 104 = .ok (.invokevirtual 209, 3) := by decide +kernel
theorem dX8_spread_107 : decode cX8_spread 107 = .ok (.aload_n 0, 1) := by decide +kernel
theorem dX8_spread_108 : decode cX8_spread 108 = .ok (.getfield 179, 3) := by decide +kernel
theorem dX8_spread_111 : decode cX8_spread 111 = .ok (.aload_n 0, 1) := by decide +kernel
theorem dX8_spread_112 : decode cX8_spread 112 = .ok (.getfield 165, 3) := by decide +kernel
theorem dX8_spread_115 : decode cX8_spread 115 = .ok (.i2l, 1) := by decide +kernel
theorem dX8_spread_116 : decode cX8_spread 116 = .ok (.lload 4, 2) := by decide +kernel
theorem dX8_spread_118 : decode cX8_spread 118 = .ok (.lmul, 1) := by decide +kernel
theorem dX8_spread_119 : decode cX8_spread 119 = .ok (.iload_n 3, 1) := by decide +kernel
theorem dX8_spread_120 : decode cX8_spread 120 = .ok (.invokestatic 147, 3) := by decide +kernel
theorem dX8_spread_123 : decode cX8_spread 123 = .ok (.lreturn, 1) := by decide +kernel
theorem dX8_spread_124 : decode cX8_spread 124 = .ok (.lconst 0, 1) := by decide +kernel
theorem dX8_spread_125 : decode cX8_spread 125 = .ok (.lstore 6, 2) := by decide +kernel
theorem dX8_spread_127 : decode cX8_spread 127 = .ok (.iconst 0, 1) := by decide +kernel
theorem dX8_spread_128 : decode cX8_spread 128 = .ok (.istore 8, 2) := by decide +kernel
theorem dX8_spread_130 : decode cX8_spread 130 = .ok (.iload 8, 2) := by decide +kernel
theorem dX8_spread_132 : decode cX8_spread 132 = .ok (.iconst 3, 1) := by decide +kernel
theorem dX8_spread_133 : decode cX8_spread 133 = .ok (.if_icmp .ge 53, 3) := by decide +kernel
theorem dX8_spread_136 : decode cX8_spread 136 = .ok (.aload_n 0, 1) := by decide +kernel
theorem dX8_spread_137 : decode cX8_spread 137 = .ok (.iload_n 1, 1) := by decide +kernel
theorem dX8_spread_138 : decode cX8_spread 138 = .ok (.iload 8, 2) := by decide +kernel
theorem dX8_spread_140 : decode cX8_spread 140 = .ok (.invokevirtual 244, 3) := by decide +kernel
theorem dX8_spread_143 : decode cX8_spread 143 = .ok (.lload 6, 2) := by decide +kernel
theorem dX8_spread_145 : decode cX8_spread 145 = .ok (.aload_n 0, 1) := by decide +kernel
theorem dX8_spread_146 : decode cX8_spread 146 = .ok (.getfield 165, 3) := by decide +kernel
theorem dX8_spread_149 : decode cX8_spread 149 = .ok (.ifCond .ne 7, 3) := by decide +kernel
theorem dX8_spread_152 : decode cX8_spread 152 = .ok (.lconst 0, 1) := by decide +kernel
theorem dX8_spread_153 : decode cX8_spread 153 = .ok (.goto 24, 3) := by decide +kernel
theorem dX8_spread_156 : decode cX8_spread 156 = .ok (.ldc2_w 247, 3) := by decide +kernel
theorem dX8_spread_159 : decode cX8_spread 159 = .ok (.aload_n 0, 1) := by decide +kernel
theorem dX8_spread_160 : decode cX8_spread 160 = .ok (.invokevirtual 188, 3) := by decide +kernel
theorem dX8_spread_163 : decode cX8_spread 163 = .ok (.i2l, 1) := by decide +kernel
theorem dX8_spread_164 : decode cX8_spread 164 = .ok (.lmul, 1) := by decide +kernel
theorem dX8_spread_165 : decode cX8_spread 165 = .ok (.aload_n 0, 1) := by decide +kernel
theorem dX8_spread_166 : decode cX8_spread 166 = .ok (.invokevirtual 188, 3) := by decide +kernel
theorem dX8_spread_169 : decode cX8_spread 169 = .ok (.i2l, 1) := by decide +kernel
theorem dX8_spread_170 : decode cX8_spread 170 = .ok (.lmul, 1) := by decide +kernel
theorem dX8_spread_171 : decode cX8_spread 171 = .ok (.aload_n 0, 1) := by decide +kernel
theorem dX8_spread_172 : decode cX8_spread 172 = .ok (.getfield 165, 3) := by decide +kernel
theorem dX8_spread_175 : decode cX8_spread 175 = .ok (.i2l, 1) := by decide +kernel
theorem dX8_spread_176 : decode cX8_spread 176 = .ok (.ldiv, 1) := by decide +kernel
theorem dX8_spread_177 : decode cX8_spread 177 = .ok (.ladd, 1) := by decide +kernel
theorem dX8_spread_178 : decode cX8_spread 178 = .ok (.lstore 6, 2) := by decide +kernel
theorem dX8_spread_180 : decode cX8_spread 180 = .ok (.iinc 8 1, 3) := by decide +kernel
theorem dX8_spread_183 : decode cX8_spread 183 = .ok (.goto (-53), 3) := by decide +kernel
theorem dX8_spread_186 : decode cX8_spread 186 = .ok (.aload_n 0, 1) := by decide +kernel
theorem dX8_spread_187 : decode cX8_spread 187 = .ok (.iload_n 1, 1) := by decide +kernel
theorem dX8_spread_188 : decode cX8_spread 188 = .ok (.invokevirtual 205, 3) := by decide +kernel
theorem dX8_spread_191 : decode cX8_spread 191 = .ok (.lload 4, 2) := by decide +kernel
theorem dX8_spread_193 : decode cX8_spread 193 = .ok (.lload 6, 2) := by decide +kernel
theorem dX8_spread_195 : decode cX8_spread 195 = .ok (.lmul, 1) := by decide +kernel
theorem dX8_spread_196 : decode cX8_spread 196 = .ok (.ldc2_w 247, 3) := by decide +kernel
theorem dX8_spread_199 : decode cX8_spread 199 = .ok (.aload_n 0, 1) := by decide +kernel
theorem dX8_spread_200 : decode cX8_spread 200 = .ok (.invokevirtual 188, 3) := by decide +kernel
theorem dX8_spread_203 : decode cX8_spread 203 = .ok (.i2l, 1) := by decide +kernel
theorem dX8_spread_204 : decode cX8_spread 204 = .ok (.lmul, 1) := by decide +kernel
theorem dX8_spread_205 : decode cX8_spread 205 = .ok (.aload_n 0, 1) := by decide +kernel
theorem dX8_spread_206 : decode cX8_spread 206 = .ok (.invokevirtual 188, 3) := by decide +kernel
theorem dX8_spread_209 : decode cX8_spread 209 = .ok (.i2l, 1) := by decide +kernel
theorem dX8_spread_210 : decode cX8_spread 210 = .ok (.lmul, 1) := by decide +kernel
theorem dX8_spread_211 : decode cX8_spread 211 = .ok (.lsub, 1) := by decide +kernel
theorem dX8_spread_212 : decode cX8_spread 212 = .ok (.ldc2_w 247, 3) := by decide +kernel
theorem dX8_spread_215 : decode cX8_spread 215 = .ok (.lload 4, 2) := by decide +kernel
theorem dX8_spread_217 : decode cX8_spread 217 = .ok (.lmul, 1) := by decide +kernel
theorem dX8_spread_218 : decode cX8_spread 218 = .ok (.lload 4, 2) := by decide +kernel
theorem dX8_spread_220 : decode cX8_spread 220 = .ok (.lmul, 1) := by decide +kernel
theorem dX8_spread_221 : decode cX8_spread 221 = .ok (.iload_n 3, 1) := by decide +kernel
theorem dX8_spread_222 : decode cX8_spread 222 = .ok (.invokestatic 147, 3) := by decide +kernel
theorem dX8_spread_225 : decode cX8_spread 225 = .ok (.lreturn, 1) := by decide +kernel
theorem dX8_mayMove_0 : decode cX8_mayMove 0 = .ok (.iload_n 1, 1) := by decide +kernel
theorem dX8_mayMove_1 : decode cX8_mayMove 1 = .ok (.invokestatic 81, 3) := by decide +kernel
theorem dX8_mayMove_4 : decode cX8_mayMove 4 = .ok (.ifCond .eq 10, 3) := by decide +kernel
theorem dX8_mayMove_7 : decode cX8_mayMove 7 = .ok (.iload_n 2, 1) := by decide +kernel
theorem dX8_mayMove_8 : decode cX8_mayMove 8 = .ok (.invokestatic 81, 3) := by decide +kernel
theorem dX8_mayMove_11 : decode cX8_mayMove 11 = .ok (.ifCond .ne 5, 3) := by decide +kernel
theorem dX8_mayMove_14 : decode cX8_mayMove 14 = .ok (.iconst (-1), 1) := by decide +kernel
theorem dX8_mayMove_15 : decode cX8_mayMove 15 = .ok (.ireturn, 1) := by decide +kernel
theorem dX8_mayMove_16 : decode cX8_mayMove 16 = .ok (.aload_n 0, 1) := by decide +kernel
theorem dX8_mayMove_17 : decode cX8_mayMove 17 = .ok (.iload_n 1, 1) := by decide +kernel
theorem dX8_mayMove_18 : decode cX8_mayMove 18 = .ok (.invokevirtual 98, 3) := by decide +kernel
theorem dX8_mayMove_21 : decode cX8_mayMove 21 = .ok (.ifCond .eq 30, 3) := by decide +kernel
theorem dX8_mayMove_24 : decode cX8_mayMove 24 = .ok (.aload_n 0, 1) := by decide +kernel
theorem dX8_mayMove_25 : decode cX8_mayMove 25 = .ok (.iload_n 2, 1) := by decide +kernel
theorem dX8_mayMove_26 : decode cX8_mayMove 26 = .ok (.invokevirtual 98, 3) := by decide +kernel
theorem dX8_mayMove_29 : decode cX8_mayMove 29 = .ok (.ifCond .eq 22, 3) := by decide +kernel
theorem dX8_mayMove_32 : decode cX8_mayMove 32 = .ok (.aload_n 0, 1) := by decide +kernel
theorem dX8_mayMove_33 : decode cX8_mayMove 33 = .ok (.getfield 7, 3) := by decide +kernel
theorem dX8_mayMove_36 : decode cX8_mayMove 36 = .ok (.iload_n 1, 1) := by decide +kernel
theorem dX8_mayMove_37 : decode cX8_mayMove 37 = .ok (.iaload, 1) := by decide +kernel
theorem dX8_mayMove_38 : decode cX8_mayMove 38 = .ok (.aload_n 0, 1) := by decide +kernel
theorem dX8_mayMove_39 : decode cX8_mayMove 39 = .ok (.getfield 7, 3) := by decide +kernel
theorem dX8_mayMove_42 : decode cX8_mayMove 42 = .ok (.iload_n 2, 1) := by decide +kernel
theorem dX8_mayMove_43 : decode cX8_mayMove 43 = .ok (.iaload, 1) := by decide +kernel
theorem dX8_mayMove_44 : decode cX8_mayMove 44 = .ok (.if_icmp .ne 7, 3) := by decide +kernel
theorem dX8_mayMove_47 : decode cX8_mayMove 47 = .ok (.iconst 0, 1) := by decide +kernel
theorem dX8_mayMove_48 : decode cX8_mayMove 48 = .ok (.goto 5, 3) := by decide +kernel
theorem dX8_mayMove_51 : decode cX8_mayMove 51 = .ok (.bipush (-3), 2) := by decide +kernel
theorem dX8_mayMove_53 : decode cX8_mayMove 53 = .ok (.ireturn, 1) := by decide +kernel
theorem dX8_moved_0 : decode cX8_moved 0 = .ok (.aload_n 0, 1) := by decide +kernel
theorem dX8_moved_1 : decode cX8_moved 1 = .ok (.iload_n 1, 1) := by decide +kernel
theorem dX8_moved_2 : decode cX8_moved 2 = .ok (.iload_n 2, 1) := by decide +kernel
theorem dX8_moved_3 : decode cX8_moved 3 = .ok (.invokevirtual 249, 3) := by decide +kernel
theorem dX8_moved_6 : decode cX8_moved 6 = .ok (.istore_n 3, 1) := by decide +kernel
theorem dX8_moved_7 : decode cX8_moved 7 = .ok (.iload_n 3, 1) := by decide +kernel
theorem dX8_moved_8 : decode cX8_moved 8 = .ok (.ifCond .ge 5, 3) := by decide +kernel
theorem dX8_moved_11 : decode cX8_moved 11 = .ok (.iload_n 3, 1) := by decide +kernel
theorem dX8_moved_12 : decode cX8_moved 12 = .ok (.ireturn, 1) := by decide +kernel
theorem dX8_moved_13 : decode cX8_moved 13 = .ok (.iconst 0, 1) := by decide +kernel
theorem dX8_moved_14 : decode cX8_moved 14 = .ok (.istore 4, 2) := by decide +kernel
theorem dX8_moved_16 : decode cX8_moved 16 = .ok (.iconst 0, 1) := by decide +kernel
theorem dX8_moved_17 : decode cX8_moved 17 = .ok (.istore 5, 2) := by decide +kernel
theorem dX8_moved_19 : decode cX8_moved 19 = .ok (.iload 5, 2) := by decide +kernel
theorem dX8_moved_21 : decode cX8_moved 21 = .ok (.aload_n 0, 1) := by decide +kernel
theorem dX8_moved_22 : decode cX8_moved 22 = .ok (.getfield 7, 3) := by decide +kernel
theorem dX8_moved_25 : decode cX8_moved 25 = .ok (.iload_n 1, 1) := by decide +kernel
theorem dX8_moved_26 : decode cX8_moved 26 = .ok (.iaload, 1) := by decide +kernel
theorem dX8_moved_27 : decode cX8_moved 27 = .ok (.if_icmp .ge 93, 3) := by decide +kernel
theorem dX8_moved_30 : decode cX8_moved 30 = .ok (.iconst 0, 1) := by decide +kernel
theorem dX8_moved_31 : decode cX8_moved 31 = .ok (.istore 6, 2) := by decide +kernel
theorem dX8_moved_33 : decode cX8_moved 33 = .ok (.iload 6, 2) := by decide +kernel
theorem dX8_moved_35 : decode cX8_moved 35 = .ok (.aload_n 0, 1) := by decide +kernel
theorem dX8_moved_36 : decode cX8_moved 36 = .ok (.getfield 7, 3) := by decide +kernel
theorem dX8_moved_39 : decode cX8_moved 39 = .ok (.iload_n 1, 1) := by decide +kernel
theorem dX8_moved_40 : decode cX8_moved 40 = .ok (.iaload, 1) := by decide +kernel
theorem dX8_moved_41 : decode cX8_moved 41 = .ok (.if_icmp .ge 73, 3) := by decide +kernel
theorem dX8_moved_44 : decode cX8_moved 44 = .ok (.iload 4, 2) := by decide +kernel
theorem dX8_moved_46 : decode cX8_moved 46 = .ok (.aload_n 0, 1) := by decide +kernel
theorem dX8_moved_47 : decode cX8_moved 47 = .ok (.getfield 13, 3) := by decide +kernel
theorem dX8_moved_50 : decode cX8_moved 50 = .ok (.bipush 8, 2) := by decide +kernel
theorem dX8_moved_52 : decode cX8_moved 52 = .ok (.iload_n 1, 1) := by decide +kernel
theorem dX8_moved_53 : decode cX8_moved 53 = .ok (.imul, 1) := by decide +kernel
theorem dX8_moved_54 : decode cX8_moved 54 = .ok (.iload 5, 2) := by decide +kernel
theorem dX8_moved_56 : decode cX8_moved 56 = .ok (.iadd, 1) := by decide +kernel
theorem dX8_moved_57 : decode cX8_moved 57 = .ok (.iaload, 1) := by decide +kernel
theorem dX8_moved_58 : decode cX8_moved 58 = .ok (.aload_n 0, 1) := by decide +kernel
theorem dX8_moved_59 : decode cX8_moved 59 = .ok (.getfield 13, 3) := by decide +kernel
theorem dX8_moved_62 : decode cX8_moved 62 = .ok (.bipush 8, 2) := by decide +kernel
theorem dX8_moved_64 : decode cX8_moved 64 = .ok (.iload_n 1, 1) := by decide +kernel
theorem dX8_moved_65 : decode cX8_moved 65 = .ok (.imul, 1) := by decide +kernel
theorem dX8_moved_66 : decode cX8_moved 66 = .ok (.iload 6, 2) := by decide +kernel
theorem dX8_moved_68 : decode cX8_moved 68 = .ok (.iadd, 1) := by decide +kernel
theorem dX8_moved_69 : decode cX8_moved 69 = .ok (.iaload, 1) := by decide +kernel
theorem dX8_moved_70 : decode cX8_moved 70 = .ok (.if_icmp .le 34, 3) := by decide +kernel
theorem dX8_moved_73 : decode cX8_moved 73 = .ok (.aload_n 0, 1) := by decide +kernel
theorem dX8_moved_74 : decode cX8_moved 74 = .ok (.getfield 13, 3) := by decide +kernel
theorem dX8_moved_77 : decode cX8_moved 77 = .ok (.bipush 8, 2) := by decide +kernel
theorem dX8_moved_79 : decode cX8_moved 79 = .ok (.iload_n 2, 1) := by decide +kernel
theorem dX8_moved_80 : decode cX8_moved 80 = .ok (.imul, 1) := by decide +kernel
theorem dX8_moved_81 : decode cX8_moved 81 = .ok (.iload 5, 2) := by decide +kernel
theorem dX8_moved_83 : decode cX8_moved 83 = .ok (.iadd, 1) := by decide +kernel
theorem dX8_moved_84 : decode cX8_moved 84 = .ok (.iaload, 1) := by decide +kernel
theorem dX8_moved_85 : decode cX8_moved 85 = .ok (.aload_n 0, 1) := by decide +kernel
theorem dX8_moved_86 : decode cX8_moved 86 = .ok (.getfield 13, 3) := by decide +kernel
theorem dX8_moved_89 : decode cX8_moved 89 = .ok (.bipush 8, 2) := by decide +kernel
theorem dX8_moved_91 : decode cX8_moved 91 = .ok (.iload_n 2, 1) := by decide +kernel
theorem dX8_moved_92 : decode cX8_moved 92 = .ok (.imul, 1) := by decide +kernel
theorem dX8_moved_93 : decode cX8_moved 93 = .ok (.iload 6, 2) := by decide +kernel
theorem dX8_moved_95 : decode cX8_moved 95 = .ok (.iadd, 1) := by decide +kernel
theorem dX8_moved_96 : decode cX8_moved 96 = .ok (.iaload, 1) := by decide +kernel
theorem dX8_moved_97 : decode cX8_moved 97 = .ok (.if_icmp .ge 7, 3) := by decide +kernel
theorem dX8_moved_100 : decode cX8_moved 100 = .ok (.iconst 1, 1) := by decide +kernel
theorem dX8_moved_101 : decode cX8_moved 101 = .ok (.goto 4, 3) := by decide +kernel
theorem dX8_moved_104 : decode cX8_moved 104 = .ok (.iconst 0, 1) := by decide +kernel
theorem dX8_moved_105 : decode cX8_moved 105 = .ok (.iadd, 1) := by decide +kernel
theorem dX8_moved_106 : decode cX8_moved 106 = .ok (.istore 4, 2) := by decide +kernel
theorem dX8_moved_108 : decode cX8_moved 108 = .ok (.iinc 6 1, 3) := by decide +kernel
theorem dX8_moved_111 : decode cX8_moved 111 = .ok (.goto (-78), 3) := by decide +kernel
theorem dX8_moved_114 : decode cX8_moved 114 = .ok (.iinc 5 1, 3) := by decide +kernel
theorem dX8_moved_117 : decode cX8_moved 117 = .ok (.goto (-98), 3) := by decide +kernel
theorem dX8_moved_120 : decode cX8_moved 120 = .ok (.iload 4, 2) := by decide +kernel
theorem dX8_moved_122 : decode cX8_moved 122 = .ok (.ireturn, 1) := by decide +kernel
theorem dX8_lessThan_0 : decode cX8_lessThan 0 = .ok (.iconst 0, 1) := by decide +kernel
theorem dX8_lessThan_1 : decode cX8_lessThan 1 = .ok (.istore_n 3, 1) := by decide +kernel
theorem dX8_lessThan_2 : decode cX8_lessThan 2 = .ok (.bipush 8, 2) := by decide +kernel
theorem dX8_lessThan_4 : decode cX8_lessThan 4 = .ok (.iload_n 1, 1) := by decide +kernel
theorem dX8_lessThan_5 : decode cX8_lessThan 5 = .ok (.imul, 1) := by decide +kernel
theorem dX8_lessThan_6 : decode cX8_lessThan 6 = .ok (.istore 4, 2) := by decide +kernel
theorem dX8_lessThan_8 : decode cX8_lessThan 8 = .ok (.iload 4, 2) := by decide +kernel
theorem dX8_lessThan_10 : decode cX8_lessThan 10 = .ok (.bipush 8, 2) := by decide +kernel
theorem dX8_lessThan_12 : decode cX8_lessThan 12 = .ok (.iload_n 1, 1) := by decide +kernel
theorem dX8_lessThan_13 : decode cX8_lessThan 13 = .ok (.imul, 1) := by decide +kernel
theorem dX8_lessThan_14 : decode cX8_lessThan 14 = .ok (.aload_n 0, 1) := by decide +kernel
theorem dX8_lessThan_15 : decode cX8_lessThan 15 = .ok (.getfield 7, 3) := by decide +kernel
theorem dX8_lessThan_18 : decode cX8_lessThan 18 = .ok (.iload_n 1, 1) := by decide +kernel
theorem dX8_lessThan_19 : decode cX8_lessThan 19 = .ok (.iaload, 1) := by decide +kernel
theorem dX8_lessThan_20 : decode cX8_lessThan 20 = .ok (.iadd, 1) := by decide +kernel
theorem dX8_lessThan_21 : decode cX8_lessThan 21 = .ok (.if_icmp .ge 38, 3) := by decide +kernel
theorem dX8_lessThan_24 : decode cX8_lessThan 24 = .ok (.iload_n 3, 1) := by decide +kernel
theorem dX8_lessThan_25 : decode cX8_lessThan 25 = .ok (.aload_n 0, 1) := by decide +kernel
theorem dX8_lessThan_26 : decode cX8_lessThan 26 = .ok (.getfield 13, 3) := by decide +kernel
theorem dX8_lessThan_29 : decode cX8_lessThan 29 = .ok (.iload 4, 2) := by decide +kernel
theorem dX8_lessThan_31 : decode cX8_lessThan 31 = .ok (.iaload, 1) := by decide +kernel
theorem dX8_lessThan_32 : decode cX8_lessThan 32 = .ok (.aload_n 0, 1) := by decide +kernel
theorem dX8_lessThan_33 : decode cX8_lessThan 33 = .ok (.getfield 13, 3) := by decide +kernel
theorem dX8_lessThan_36 : decode cX8_lessThan 36 = .ok (.bipush 8, 2) := by decide +kernel
theorem dX8_lessThan_38 : decode cX8_lessThan 38 = .ok (.iload_n 1, 1) := by decide +kernel
theorem dX8_lessThan_39 : decode cX8_lessThan 39 = .ok (.imul, 1) := by decide +kernel
theorem dX8_lessThan_40 : decode cX8_lessThan 40 = .ok (.iload_n 2, 1) := by decide +kernel
theorem dX8_lessThan_41 : decode cX8_lessThan 41 = .ok (.iadd, 1) := by decide +kernel
theorem dX8_lessThan_42 : decode cX8_lessThan 42 = .ok (.iaload, 1) := by decide +kernel
theorem dX8_lessThan_43 : decode cX8_lessThan 43 = .ok (.if_icmp .ge 7, 3) := by decide +kernel
theorem dX8_lessThan_46 : decode cX8_lessThan 46 = .ok (.iconst 1, 1) := by decide +kernel
theorem dX8_lessThan_47 : decode cX8_lessThan 47 = .ok (.goto 4, 3) := by decide +kernel
theorem dX8_lessThan_50 : decode cX8_lessThan 50 = .ok (.iconst 0, 1) := by decide +kernel
theorem dX8_lessThan_51 : decode cX8_lessThan 51 = .ok (.iadd, 1) := by decide +kernel
theorem dX8_lessThan_52 : decode cX8_lessThan 52 = .ok (.istore_n 3, 1) := by decide +kernel
theorem dX8_lessThan_53 : decode cX8_lessThan 53 = .ok (.iinc 4 1, 3) := by decide +kernel
theorem dX8_lessThan_56 : decode cX8_lessThan 56 = .ok (.goto (-48), 3) := by decide +kernel
theorem dX8_lessThan_59 : decode cX8_lessThan 59 = .ok (.iload_n 3, 1) := by decide +kernel
theorem dX8_lessThan_60 : decode cX8_lessThan 60 = .ok (.ireturn, 1) := by decide +kernel
theorem dX8_rose_0 : decode cX8_rose 0 = .ok (.iload_n 1, 1) := by decide +kernel
theorem dX8_rose_1 : decode cX8_rose 1 = .ok (.invokestatic 81, 3) := by decide +kernel
theorem dX8_rose_4 : decode cX8_rose 4 = .ok (.ifCond .eq 19, 3) := by decide +kernel
theorem dX8_rose_7 : decode cX8_rose 7 = .ok (.iload_n 2, 1) := by decide +kernel
theorem dX8_rose_8 : decode cX8_rose 8 = .ok (.invokestatic 81, 3) := by decide +kernel
theorem dX8_rose_11 : decode cX8_rose 11 = .ok (.ifCond .eq 12, 3) := by decide +kernel
theorem dX8_rose_14 : decode cX8_rose 14 = .ok (.aload_n 0, 1) := by decide +kernel
theorem dX8_rose_15 : decode cX8_rose 15 = .ok (.iload_n 1, 1) := by decide +kernel
theorem dX8_rose_16 : decode cX8_rose 16 = .ok (.iload_n 3, 1) := by decide +kernel
theorem dX8_rose_17 : decode cX8_rose 17 = .ok (.invokevirtual 95, 3) := by decide +kernel
theorem dX8_rose_20 : decode cX8_rose 20 = .ok (.ifCond .ne 5, 3) := by decide +kernel
theorem dX8_rose_23 : decode cX8_rose 23 = .ok (.iconst (-1), 1) := by decide +kernel
theorem dX8_rose_24 : decode cX8_rose 24 = .ok (.ireturn, 1) := by decide +kernel
theorem dX8_rose_25 : decode cX8_rose 25 = .ok (.aload_n 0, 1) := by decide +kernel
theorem dX8_rose_26 : decode cX8_rose 26 = .ok (.iload_n 1, 1) := by decide +kernel
theorem dX8_rose_27 : decode cX8_rose 27 = .ok (.iload_n 2, 1) := by decide +kernel
theorem dX8_rose_28 : decode cX8_rose 28 = .ok (.invokevirtual 249, 3) := by decide +kernel
theorem dX8_rose_31 : decode cX8_rose 31 = .ok (.istore 4, 2) := by decide +kernel
theorem dX8_rose_33 : decode cX8_rose 33 = .ok (.iload 4, 2) := by decide +kernel
theorem dX8_rose_35 : decode cX8_rose 35 = .ok (.ifCond .ge 8, 3) := by decide +kernel
theorem dX8_rose_38 : decode cX8_rose 38 = .ok (.iload 4, 2) := by decide +kernel
theorem dX8_rose_40 : decode cX8_rose 40 = .ok (.goto 19, 3) := by decide +kernel
theorem dX8_rose_43 : decode cX8_rose 43 = .ok (.aload_n 0, 1) := by decide +kernel
theorem dX8_rose_44 : decode cX8_rose 44 = .ok (.iload_n 2, 1) := by decide +kernel
theorem dX8_rose_45 : decode cX8_rose 45 = .ok (.iload_n 3, 1) := by decide +kernel
theorem dX8_rose_46 : decode cX8_rose 46 = .ok (.invokevirtual 252, 3) := by decide +kernel
theorem dX8_rose_49 : decode cX8_rose 49 = .ok (.aload_n 0, 1) := by decide +kernel
theorem dX8_rose_50 : decode cX8_rose 50 = .ok (.iload_n 1, 1) := by decide +kernel
theorem dX8_rose_51 : decode cX8_rose 51 = .ok (.iload_n 3, 1) := by decide +kernel
theorem dX8_rose_52 : decode cX8_rose 52 = .ok (.invokevirtual 252, 3) := by decide +kernel
theorem dX8_rose_55 : decode cX8_rose 55 = .ok (.isub, 1) := by decide +kernel
theorem dX8_rose_56 : decode cX8_rose 56 = .ok (.bipush 100, 2) := by decide +kernel
theorem dX8_rose_58 : decode cX8_rose 58 = .ok (.iadd, 1) := by decide +kernel
theorem dX8_rose_59 : decode cX8_rose 59 = .ok (.ireturn, 1) := by decide +kernel
theorem dX8_band_0 : decode cX8_band 0 = .ok (.iload_n 1, 1) := by decide +kernel
theorem dX8_band_1 : decode cX8_band 1 = .ok (.i2l, 1) := by decide +kernel
theorem dX8_band_2 : decode cX8_band 2 = .ok (.lconst 0, 1) := by decide +kernel
theorem dX8_band_3 : decode cX8_band 3 = .ok (.ldc2_w 85, 3) := by decide +kernel
theorem dX8_band_6 : decode cX8_band 6 = .ok (.invokestatic 77, 3) := by decide +kernel
theorem dX8_band_9 : decode cX8_band 9 = .ok (.ifCond .eq 15, 3) := by decide +kernel
theorem dX8_band_12 : decode cX8_band 12 = .ok (.iload_n 2, 1) := by decide +kernel
theorem dX8_band_13 : decode cX8_band 13 = .ok (.i2l, 1) := by decide +kernel
theorem dX8_band_14 : decode cX8_band 14 = .ok (.lconst 0, 1) := by decide +kernel
theorem dX8_band_15 : decode cX8_band 15 = .ok (.ldc2_w 255, 3) := by decide +kernel
theorem dX8_band_18 : decode cX8_band 18 = .ok (.invokestatic 77, 3) := by decide +kernel
theorem dX8_band_21 : decode cX8_band 21 = .ok (.ifCond .ne 6, 3) := by decide +kernel
theorem dX8_band_24 : decode cX8_band 24 = .ok (.bipush (-2), 2) := by decide +kernel
theorem dX8_band_26 : decode cX8_band 26 = .ok (.ireturn, 1) := by decide +kernel
theorem dX8_band_27 : decode cX8_band 27 = .ok (.aload_n 0, 1) := by decide +kernel
theorem dX8_band_28 : decode cX8_band 28 = .ok (.getfield 257, 3) := by decide +kernel
theorem dX8_band_31 : decode cX8_band 31 = .ok (.iconst 4, 1) := by decide +kernel
theorem dX8_band_32 : decode cX8_band 32 = .ok (.if_icmp .ne 6, 3) := by decide +kernel
theorem dX8_band_35 : decode cX8_band 35 = .ok (.bipush (-4), 2) := by decide +kernel
theorem dX8_band_37 : decode cX8_band 37 = .ok (.ireturn, 1) := by decide +kernel
theorem dX8_band_38 : decode cX8_band 38 = .ok (.aload_n 0, 1) := by decide +kernel
theorem dX8_band_39 : decode cX8_band 39 = .ok (.getfield 65, 3) := by decide +kernel
theorem dX8_band_42 : decode cX8_band 42 = .ok (.aload_n 0, 1) := by decide +kernel
theorem dX8_band_43 : decode cX8_band 43 = .ok (.getfield 257, 3) := by decide +kernel
theorem dX8_band_46 : decode cX8_band 46 = .ok (.iload_n 1, 1) := by decide +kernel
theorem dX8_band_47 : decode cX8_band 47 = .ok (.iastore, 1) := by decide +kernel
theorem dX8_band_48 : decode cX8_band 48 = .ok (.aload_n 0, 1) := by decide +kernel
theorem dX8_band_49 : decode cX8_band 49 = .ok (.getfield 68, 3) := by decide +kernel
theorem dX8_band_52 : decode cX8_band 52 = .ok (.aload_n 0, 1) := by decide +kernel
theorem dX8_band_53 : decode cX8_band 53 = .ok (.getfield 257, 3) := by decide +kernel
theorem dX8_band_56 : decode cX8_band 56 = .ok (.iload_n 2, 1) := by decide +kernel
theorem dX8_band_57 : decode cX8_band 57 = .ok (.iastore, 1) := by decide +kernel
theorem dX8_band_58 : decode cX8_band 58 = .ok (.aload_n 0, 1) := by decide +kernel
theorem dX8_band_59 : decode cX8_band 59 = .ok (.dup, 1) := by decide +kernel
theorem dX8_band_60 : decode cX8_band 60 = .ok (.getfield 257, 3) := by decide +kernel
theorem dX8_band_63 : decode cX8_band 63 = .ok (.iconst 1, 1) := by decide +kernel
theorem dX8_band_64 : decode cX8_band 64 = .ok (.iadd, 1) := by decide +kernel
theorem dX8_band_65 : decode cX8_band 65 = .ok (.putfield 257, 3) := by decide +kernel
theorem dX8_band_68 : decode cX8_band 68 = .ok (.aload_n 0, 1) := by decide +kernel
theorem dX8_band_69 : decode cX8_band 69 = .ok (.getfield 257, 3) := by decide +kernel
theorem dX8_band_72 : decode cX8_band 72 = .ok (.ireturn, 1) := by decide +kernel
theorem dX8_unband_0 : decode cX8_unband 0 = .ok (.aload_n 0, 1) := by decide +kernel
theorem dX8_unband_1 : decode cX8_unband 1 = .ok (.getfield 257, 3) := by decide +kernel
theorem dX8_unband_4 : decode cX8_unband 4 = .ok (.istore_n 1, 1) := by decide +kernel
theorem dX8_unband_5 : decode cX8_unband 5 = .ok (.aload_n 0, 1) := by decide +kernel
theorem dX8_unband_6 : decode cX8_unband 6 = .ok (.iconst 0, 1) := by decide +kernel
theorem dX8_unband_7 : decode cX8_unband 7 = .ok (.putfield 257, 3) := by decide +kernel
theorem dX8_unband_10 : decode cX8_unband 10 = .ok (.iload_n 1, 1) := by decide +kernel
theorem dX8_unband_11 : decode cX8_unband 11 = .ok (.ireturn, 1) := by decide +kernel
theorem dX8_rateAbove_0 : decode cX8_rateAbove 0 = .ok (.bipush (-9), 2) := by decide +kernel
theorem dX8_rateAbove_2 : decode cX8_rateAbove 2 = .ok (.istore_n 2, 1) := by decide +kernel
theorem dX8_rateAbove_3 : decode cX8_rateAbove 3 = .ok (.iconst 0, 1) := by decide +kernel
theorem dX8_rateAbove_4 : decode cX8_rateAbove 4 = .ok (.istore_n 3, 1) := by decide +kernel
theorem dX8_rateAbove_5 : decode cX8_rateAbove 5 = .ok (.iload_n 3, 1) := by decide +kernel
theorem dX8_rateAbove_6 : decode cX8_rateAbove 6 = .ok (.aload_n 0, 1) := by decide +kernel
theorem dX8_rateAbove_7 : decode cX8_rateAbove 7 = .ok (.getfield 257, 3) := by decide +kernel
theorem dX8_rateAbove_10 : decode cX8_rateAbove 10 = .ok (.if_icmp .ge 46, 3) := by decide +kernel
theorem dX8_rateAbove_13 : decode cX8_rateAbove 13 = .ok (.aload_n 0, 1) := by decide +kernel
theorem dX8_rateAbove_14 : decode cX8_rateAbove 14 = .ok (.getfield 65, 3) := by decide +kernel
theorem dX8_rateAbove_17 : decode cX8_rateAbove 17 = .ok (.iload_n 3, 1) := by decide +kernel
theorem dX8_rateAbove_18 : decode cX8_rateAbove 18 = .ok (.iaload, 1) := by decide +kernel
theorem dX8_rateAbove_19 : decode cX8_rateAbove 19 = .ok (.iload_n 1, 1) := by decide +kernel
theorem dX8_rateAbove_20 : decode cX8_rateAbove 20 = .ok (.if_icmp .gt 28, 3) := by decide +kernel
theorem dX8_rateAbove_23 : decode cX8_rateAbove 23 = .ok (.iload_n 2, 1) := by decide +kernel
theorem dX8_rateAbove_24 : decode cX8_rateAbove 24 = .ok (.bipush (-9), 2) := by decide +kernel
theorem dX8_rateAbove_26 : decode cX8_rateAbove 26 = .ok (.if_icmp .eq 18, 3) := by decide +kernel
theorem dX8_rateAbove_29 : decode cX8_rateAbove 29 = .ok (.aload_n 0, 1) := by decide +kernel
theorem dX8_rateAbove_30 : decode cX8_rateAbove 30 = .ok (.getfield 65, 3) := by decide +kernel
theorem dX8_rateAbove_33 : decode cX8_rateAbove 33 = .ok (.iload_n 3, 1) := by decide +kernel
theorem dX8_rateAbove_34 : decode cX8_rateAbove 34 = .ok (.iaload, 1) := by decide +kernel
theorem dX8_rateAbove_35 : decode cX8_rateAbove 35 = .ok (.aload_n 0, 1) := by decide +kernel
theorem dX8_rateAbove_36 : decode cX8_rateAbove 36 = .ok (.getfield 65, 3) := by decide +kernel
theorem dX8_rateAbove_39 : decode cX8_rateAbove 39 = .ok (.iload_n 2, 1) := by decide +kernel
theorem dX8_rateAbove_40 : decode cX8_rateAbove 40 = .ok (.iaload, 1) := by decide +kernel
theorem dX8_rateAbove_41 : decode cX8_rateAbove 41 = .ok (.if_icmp .lt 7, 3) := by decide +kernel
theorem dX8_rateAbove_44 : decode cX8_rateAbove 44 = .ok (.iload_n 3, 1) := by decide +kernel
theorem dX8_rateAbove_45 : decode cX8_rateAbove 45 = .ok (.goto 4, 3) := by decide +kernel
theorem dX8_rateAbove_48 : decode cX8_rateAbove 48 = .ok (.iload_n 2, 1) := by decide +kernel
theorem dX8_rateAbove_49 : decode cX8_rateAbove 49 = .ok (.istore_n 2, 1) := by decide +kernel
theorem dX8_rateAbove_50 : decode cX8_rateAbove 50 = .ok (.iinc 3 1, 3) := by decide +kernel
theorem dX8_rateAbove_53 : decode cX8_rateAbove 53 = .ok (.goto (-48), 3) := by decide +kernel
theorem dX8_rateAbove_56 : decode cX8_rateAbove 56 = .ok (.iload_n 2, 1) := by decide +kernel
theorem dX8_rateAbove_57 : decode cX8_rateAbove 57 = .ok (.bipush (-9), 2) := by decide +kernel
theorem dX8_rateAbove_59 : decode cX8_rateAbove 59 = .ok (.if_icmp .ne 7, 3) := by decide +kernel
theorem dX8_rateAbove_62 : decode cX8_rateAbove 62 = .ok (.iconst 0, 1) := by decide +kernel
theorem dX8_rateAbove_63 : decode cX8_rateAbove 63 = .ok (.goto 9, 3) := by decide +kernel
theorem dX8_rateAbove_66 : decode cX8_rateAbove 66 = .ok (.aload_n 0, 1) := by decide +kernel
theorem dX8_rateAbove_67 : decode cX8_rateAbove 67 = .ok (.getfield 68, 3) := by decide +kernel
theorem dX8_rateAbove_70 : decode cX8_rateAbove 70 = .ok (.iload_n 2, 1) := by decide +kernel
theorem dX8_rateAbove_71 : decode cX8_rateAbove 71 = .ok (.iaload, 1) := by decide +kernel
theorem dX8_rateAbove_72 : decode cX8_rateAbove 72 = .ok (.ireturn, 1) := by decide +kernel
theorem dX8_taxOf_0 : decode cX8_taxOf 0 = .ok (.iconst 0, 1) := by decide +kernel
theorem dX8_taxOf_1 : decode cX8_taxOf 1 = .ok (.istore_n 2, 1) := by decide +kernel
theorem dX8_taxOf_2 : decode cX8_taxOf 2 = .ok (.iconst 0, 1) := by decide +kernel
theorem dX8_taxOf_3 : decode cX8_taxOf 3 = .ok (.istore_n 3, 1) := by decide +kernel
theorem dX8_taxOf_4 : decode cX8_taxOf 4 = .ok (.iload_n 3, 1) := by decide +kernel
theorem dX8_taxOf_5 : decode cX8_taxOf 5 = .ok (.iload_n 1, 1) := by decide +kernel
theorem dX8_taxOf_6 : decode cX8_taxOf 6 = .ok (.if_icmp .ge 17, 3) := by decide +kernel
theorem dX8_taxOf_9 : decode cX8_taxOf 9 = .ok (.iload_n 2, 1) := by decide +kernel
theorem dX8_taxOf_10 : decode cX8_taxOf 10 = .ok (.aload_n 0, 1) := by decide +kernel
theorem dX8_taxOf_11 : decode cX8_taxOf 11 = .ok (.iload_n 3, 1) := by decide +kernel
theorem dX8_taxOf_12 : decode cX8_taxOf 12 = .ok (.invokevirtual 260, 3) := by decide +kernel
theorem dX8_taxOf_15 : decode cX8_taxOf 15 = .ok (.iadd, 1) := by decide +kernel
theorem dX8_taxOf_16 : decode cX8_taxOf 16 = .ok (.istore_n 2, 1) := by decide +kernel
theorem dX8_taxOf_17 : decode cX8_taxOf 17 = .ok (.iinc 3 1, 3) := by decide +kernel
theorem dX8_taxOf_20 : decode cX8_taxOf 20 = .ok (.goto (-16), 3) := by decide +kernel
theorem dX8_taxOf_23 : decode cX8_taxOf 23 = .ok (.iload_n 2, 1) := by decide +kernel
theorem dX8_taxOf_24 : decode cX8_taxOf 24 = .ok (.bipush 10, 2) := by decide +kernel
theorem dX8_taxOf_26 : decode cX8_taxOf 26 = .ok (.idiv, 1) := by decide +kernel
theorem dX8_taxOf_27 : decode cX8_taxOf 27 = .ok (.ireturn, 1) := by decide +kernel
theorem dX8_tax_0 : decode cX8_tax 0 = .ok (.iload_n 1, 1) := by decide +kernel
theorem dX8_tax_1 : decode cX8_tax 1 = .ok (.i2l, 1) := by decide +kernel
theorem dX8_tax_2 : decode cX8_tax 2 = .ok (.lconst 0, 1) := by decide +kernel
theorem dX8_tax_3 : decode cX8_tax 3 = .ok (.ldc2_w 85, 3) := by decide +kernel
theorem dX8_tax_6 : decode cX8_tax 6 = .ok (.invokestatic 77, 3) := by decide +kernel
theorem dX8_tax_9 : decode cX8_tax 9 = .ok (.ifCond .eq 11, 3) := by decide +kernel
theorem dX8_tax_12 : decode cX8_tax 12 = .ok (.aload_n 0, 1) := by decide +kernel
theorem dX8_tax_13 : decode cX8_tax 13 = .ok (.iload_n 1, 1) := by decide +kernel
theorem dX8_tax_14 : decode cX8_tax 14 = .ok (.invokevirtual 263, 3) := by decide +kernel
theorem dX8_tax_17 : decode cX8_tax 17 = .ok (.goto 5, 3) := by decide +kernel
theorem dX8_tax_20 : decode cX8_tax 20 = .ok (.bipush (-2), 2) := by decide +kernel
theorem dX8_tax_22 : decode cX8_tax 22 = .ok (.ireturn, 1) := by decide +kernel
theorem dX8_taxed_0 : decode cX8_taxed 0 = .ok (.iload_n 1, 1) := by decide +kernel
theorem dX8_taxed_1 : decode cX8_taxed 1 = .ok (.invokestatic 81, 3) := by decide +kernel
theorem dX8_taxed_4 : decode cX8_taxed 4 = .ok (.ifCond .eq 10, 3) := by decide +kernel
theorem dX8_taxed_7 : decode cX8_taxed 7 = .ok (.iload_n 2, 1) := by decide +kernel
theorem dX8_taxed_8 : decode cX8_taxed 8 = .ok (.invokestatic 81, 3) := by decide +kernel
theorem dX8_taxed_11 : decode cX8_taxed 11 = .ok (.ifCond .ne 5, 3) := by decide +kernel
theorem dX8_taxed_14 : decode cX8_taxed 14 = .ok (.iconst (-1), 1) := by decide +kernel
theorem dX8_taxed_15 : decode cX8_taxed 15 = .ok (.ireturn, 1) := by decide +kernel
theorem dX8_taxed_16 : decode cX8_taxed 16 = .ok (.aload_n 0, 1) := by decide +kernel
theorem dX8_taxed_17 : decode cX8_taxed 17 = .ok (.iload_n 1, 1) := by decide +kernel
theorem dX8_taxed_18 : decode cX8_taxed 18 = .ok (.invokevirtual 98, 3) := by decide +kernel
theorem dX8_taxed_21 : decode cX8_taxed 21 = .ok (.ifCond .eq 8, 3) := by decide +kernel
theorem dX8_taxed_24 : decode cX8_taxed 24 = .ok (.iload_n 1, 1) := by decide +kernel
theorem dX8_taxed_25 : decode cX8_taxed 25 = .ok (.iload_n 2, 1) := by decide +kernel
theorem dX8_taxed_26 : decode cX8_taxed 26 = .ok (.if_icmp .ne 6, 3) := by decide +kernel
theorem dX8_taxed_29 : decode cX8_taxed 29 = .ok (.bipush (-3), 2) := by decide +kernel
theorem dX8_taxed_31 : decode cX8_taxed 31 = .ok (.ireturn, 1) := by decide +kernel
theorem dX8_taxed_32 : decode cX8_taxed 32 = .ok (.iconst 0, 1) := by decide +kernel
theorem dX8_taxed_33 : decode cX8_taxed 33 = .ok (.istore_n 3, 1) := by decide +kernel
theorem dX8_taxed_34 : decode cX8_taxed 34 = .ok (.aload_n 0, 1) := by decide +kernel
theorem dX8_taxed_35 : decode cX8_taxed 35 = .ok (.getfield 7, 3) := by decide +kernel
theorem dX8_taxed_38 : decode cX8_taxed 38 = .ok (.iload_n 2, 1) := by decide +kernel
theorem dX8_taxed_39 : decode cX8_taxed 39 = .ok (.aload_n 0, 1) := by decide +kernel
theorem dX8_taxed_40 : decode cX8_taxed 40 = .ok (.getfield 7, 3) := by decide +kernel
theorem dX8_taxed_43 : decode cX8_taxed 43 = .ok (.iload_n 1, 1) := by decide +kernel
theorem dX8_taxed_44 : decode cX8_taxed 44 = .ok (.iaload, 1) := by decide +kernel
theorem dX8_taxed_45 : decode cX8_taxed 45 = .ok (.iastore, 1) := by decide +kernel
theorem dX8_taxed_46 : decode cX8_taxed 46 = .ok (.iconst 0, 1) := by decide +kernel
theorem dX8_taxed_47 : decode cX8_taxed 47 = .ok (.istore 4, 2) := by decide +kernel
theorem dX8_taxed_49 : decode cX8_taxed 49 = .ok (.iload 4, 2) := by decide +kernel
theorem dX8_taxed_51 : decode cX8_taxed 51 = .ok (.aload_n 0, 1) := by decide +kernel
theorem dX8_taxed_52 : decode cX8_taxed 52 = .ok (.getfield 7, 3) := by decide +kernel
theorem dX8_taxed_55 : decode cX8_taxed 55 = .ok (.iload_n 1, 1) := by decide +kernel
theorem dX8_taxed_56 : decode cX8_taxed 56 = .ok (.iaload, 1) := by decide +kernel
theorem dX8_taxed_57 : decode cX8_taxed 57 = .ok (.if_icmp .ge 131, 3) := by decide +kernel
theorem dX8_taxed_60 : decode cX8_taxed 60 = .ok (.aload_n 0, 1) := by decide +kernel
theorem dX8_taxed_61 : decode cX8_taxed 61 = .ok (.aload_n 0, 1) := by decide +kernel
theorem dX8_taxed_62 : decode cX8_taxed 62 = .ok (.getfield 13, 3) := by decide +kernel
theorem dX8_taxed_65 : decode cX8_taxed 65 = .ok (.bipush 8, 2) := by decide +kernel
theorem dX8_taxed_67 : decode cX8_taxed 67 = .ok (.iload_n 1, 1) := by decide +kernel
theorem dX8_taxed_68 : decode cX8_taxed 68 = .ok (.imul, 1) := by decide +kernel
theorem dX8_taxed_69 : decode cX8_taxed 69 = .ok (.iload 4, 2) := by decide +kernel
theorem dX8_taxed_71 : decode cX8_taxed 71 = .ok (.iadd, 1) := by decide +kernel
theorem dX8_taxed_72 : decode cX8_taxed 72 = .ok (.iaload, 1) := by decide +kernel
theorem dX8_taxed_73 : decode cX8_taxed 73 = .ok (.invokevirtual 263, 3) := by decide +kernel
theorem dX8_taxed_76 : decode cX8_taxed 76 = .ok (.istore 5, 2) := by decide +kernel
theorem dX8_taxed_78 : decode cX8_taxed 78 = .ok (.iload_n 3, 1) := by decide +kernel
theorem dX8_taxed_79 : decode cX8_taxed 79 = .ok (.iload 5, 2) := by decide +kernel
theorem dX8_taxed_81 : decode cX8_taxed 81 = .ok (.iadd, 1) := by decide +kernel
theorem dX8_taxed_82 : decode cX8_taxed 82 = .ok (.istore_n 3, 1) := by decide +kernel
theorem dX8_taxed_83 : decode cX8_taxed 83 = .ok (.aload_n 0, 1) := by decide +kernel
theorem dX8_taxed_84 : decode cX8_taxed 84 = .ok (.getfield 13, 3) := by decide +kernel
theorem dX8_taxed_87 : decode cX8_taxed 87 = .ok (.bipush 8, 2) := by decide +kernel
theorem dX8_taxed_89 : decode cX8_taxed 89 = .ok (.iload_n 2, 1) := by decide +kernel
theorem dX8_taxed_90 : decode cX8_taxed 90 = .ok (.imul, 1) := by decide +kernel
theorem dX8_taxed_91 : decode cX8_taxed 91 = .ok (.iload 4, 2) := by decide +kernel
theorem dX8_taxed_93 : decode cX8_taxed 93 = .ok (.iadd, 1) := by decide +kernel
theorem dX8_taxed_94 : decode cX8_taxed 94 = .ok (.aload_n 0, 1) := by decide +kernel
theorem dX8_taxed_95 : decode cX8_taxed 95 = .ok (.getfield 13, 3) := by decide +kernel
theorem dX8_taxed_98 : decode cX8_taxed 98 = .ok (.bipush 8, 2) := by decide +kernel
theorem dX8_taxed_100 : decode cX8_taxed 100 = .ok (.iload_n 1, 1) := by decide +kernel
theorem dX8_taxed_101 : decode cX8_taxed 101 = .ok (.imul, 1) := by decide +kernel
theorem dX8_taxed_102 : decode cX8_taxed 102 = .ok (.iload 4, 2) := by decide +kernel
theorem dX8_taxed_104 : decode cX8_taxed 104 = .ok (.iadd, 1) := by decide +kernel
theorem dX8_taxed_105 : decode cX8_taxed 105 = .ok (.iaload, 1) := by decide +kernel
theorem dX8_taxed_106 : decode cX8_taxed 106 = .ok (.iload 5, 2) := by decide +kernel
theorem dX8_taxed_108 : decode cX8_taxed 108 = .ok (.isub, 1) := by decide +kernel
theorem dX8_taxed_109 : decode cX8_taxed 109 = .ok (.iastore, 1) := by decide +kernel
theorem dX8_taxed_110 : decode cX8_taxed 110 = .ok (.aload_n 0, 1) := by decide +kernel
theorem dX8_taxed_111 : decode cX8_taxed 111 = .ok (.getfield 16, 3) := by decide +kernel
theorem dX8_taxed_114 : decode cX8_taxed 114 = .ok (.bipush 8, 2) := by decide +kernel
theorem dX8_taxed_116 : decode cX8_taxed 116 = .ok (.iload_n 2, 1) := by decide +kernel
theorem dX8_taxed_117 : decode cX8_taxed 117 = .ok (.imul, 1) := by decide +kernel
theorem dX8_taxed_118 : decode cX8_taxed 118 = .ok (.iload 4, 2) := by decide +kernel
theorem dX8_taxed_120 : decode cX8_taxed 120 = .ok (.iadd, 1) := by decide +kernel
theorem dX8_taxed_121 : decode cX8_taxed 121 = .ok (.aload_n 0, 1) := by decide +kernel
theorem dX8_taxed_122 : decode cX8_taxed 122 = .ok (.getfield 13, 3) := by decide +kernel
theorem dX8_taxed_125 : decode cX8_taxed 125 = .ok (.bipush 8, 2) := by decide +kernel
theorem dX8_taxed_127 : decode cX8_taxed 127 = .ok (.iload_n 2, 1) := by decide +kernel
theorem dX8_taxed_128 : decode cX8_taxed 128 = .ok (.imul, 1) := by decide +kernel
theorem dX8_taxed_129 : decode cX8_taxed 129 = .ok (.iload 4, 2) := by decide +kernel
theorem dX8_taxed_131 : decode cX8_taxed 131 = .ok (.iadd, 1) := by decide +kernel
theorem dX8_taxed_132 : decode cX8_taxed 132 = .ok (.iaload, 1) := by decide +kernel
theorem dX8_taxed_133 : decode cX8_taxed 133 = .ok (.iastore, 1) := by decide +kernel
theorem dX8_taxed_134 : decode cX8_taxed 134 = .ok (.aload_n 0, 1) := by decide +kernel
theorem dX8_taxed_135 : decode cX8_taxed 135 = .ok (.getfield 19, 3) := by decide +kernel
theorem dX8_taxed_138 : decode cX8_taxed 138 = .ok (.bipush 8, 2) := by decide +kernel
theorem dX8_taxed_140 : decode cX8_taxed 140 = .ok (.iload_n 2, 1) := by decide +kernel
theorem dX8_taxed_141 : decode cX8_taxed 141 = .ok (.imul, 1) := by decide +kernel
theorem dX8_taxed_142 : decode cX8_taxed 142 = .ok (.iload 4, 2) := by decide +kernel
theorem dX8_taxed_144 : decode cX8_taxed 144 = .ok (.iadd, 1) := by decide +kernel
theorem dX8_taxed_145 : decode cX8_taxed 145 = .ok (.aload_n 0, 1) := by decide +kernel
theorem dX8_taxed_146 : decode cX8_taxed 146 = .ok (.getfield 19, 3) := by decide +kernel
theorem dX8_taxed_149 : decode cX8_taxed 149 = .ok (.bipush 8, 2) := by decide +kernel
theorem dX8_taxed_151 : decode cX8_taxed 151 = .ok (.iload_n 1, 1) := by decide +kernel
theorem dX8_taxed_152 : decode cX8_taxed 152 = .ok (.imul, 1) := by decide +kernel
theorem dX8_taxed_153 : decode cX8_taxed 153 = .ok (.iload 4, 2) := by decide +kernel
theorem dX8_taxed_155 : decode cX8_taxed 155 = .ok (.iadd, 1) := by decide +kernel
theorem dX8_taxed_156 : decode cX8_taxed 156 = .ok (.iaload, 1) := by decide +kernel
theorem dX8_taxed_157 : decode cX8_taxed 157 = .ok (.iastore, 1) := by decide +kernel
theorem dX8_taxed_158 : decode cX8_taxed 158 = .ok (.aload_n 0, 1) := by decide +kernel
theorem dX8_taxed_159 : decode cX8_taxed 159 = .ok (.getfield 22, 3) := by decide +kernel
theorem dX8_taxed_162 : decode cX8_taxed 162 = .ok (.bipush 8, 2) := by decide +kernel
theorem dX8_taxed_164 : decode cX8_taxed 164 = .ok (.iload_n 2, 1) := by decide +kernel
theorem dX8_taxed_165 : decode cX8_taxed 165 = .ok (.imul, 1) := by decide +kernel
theorem dX8_taxed_166 : decode cX8_taxed 166 = .ok (.iload 4, 2) := by decide +kernel
theorem dX8_taxed_168 : decode cX8_taxed 168 = .ok (.iadd, 1) := by decide +kernel
theorem dX8_taxed_169 : decode cX8_taxed 169 = .ok (.aload_n 0, 1) := by decide +kernel
theorem dX8_taxed_170 : decode cX8_taxed 170 = .ok (.getfield 22, 3) := by decide +kernel
theorem dX8_taxed_173 : decode cX8_taxed 173 = .ok (.bipush 8, 2) := by decide +kernel
theorem dX8_taxed_175 : decode cX8_taxed 175 = .ok (.iload_n 1, 1) := by decide +kernel
theorem dX8_taxed_176 : decode cX8_taxed 176 = .ok (.imul, 1) := by decide +kernel
theorem dX8_taxed_177 : decode cX8_taxed 177 = .ok (.iload 4, 2) := by decide +kernel
theorem dX8_taxed_179 : decode cX8_taxed 179 = .ok (.iadd, 1) := by decide +kernel
theorem dX8_taxed_180 : decode cX8_taxed 180 = .ok (.iaload, 1) := by decide +kernel
theorem dX8_taxed_181 : decode cX8_taxed 181 = .ok (.iastore, 1) := by decide +kernel
theorem dX8_taxed_182 : decode cX8_taxed 182 = .ok (.iinc 4 1, 3) := by decide +kernel
theorem dX8_taxed_185 : decode cX8_taxed 185 = .ok (.goto (-136), 3) := by decide +kernel
theorem dX8_taxed_188 : decode cX8_taxed 188 = .ok (.iload_n 3, 1) := by decide +kernel
theorem dX8_taxed_189 : decode cX8_taxed 189 = .ok (.ireturn, 1) := by decide +kernel
theorem dX8_rises_0 : decode cX8_rises 0 = .ok (.iconst 1, 1) := by decide +kernel
theorem dX8_rises_1 : decode cX8_rises 1 = .ok (.istore_n 1, 1) := by decide +kernel
theorem dX8_rises_2 : decode cX8_rises 2 = .ok (.iload_n 1, 1) := by decide +kernel
theorem dX8_rises_3 : decode cX8_rises 3 = .ok (.bipush 99, 2) := by decide +kernel
theorem dX8_rises_5 : decode cX8_rises 5 = .ok (.if_icmp .ge 32, 3) := by decide +kernel
theorem dX8_rises_8 : decode cX8_rises 8 = .ok (.aload_n 0, 1) := by decide +kernel
theorem dX8_rises_9 : decode cX8_rises 9 = .ok (.iload_n 1, 1) := by decide +kernel
theorem dX8_rises_10 : decode cX8_rises 10 = .ok (.invokevirtual 263, 3) := by decide +kernel
theorem dX8_rises_13 : decode cX8_rises 13 = .ok (.iload_n 1, 1) := by decide +kernel
theorem dX8_rises_14 : decode cX8_rises 14 = .ok (.iconst 1, 1) := by decide +kernel
theorem dX8_rises_15 : decode cX8_rises 15 = .ok (.iadd, 1) := by decide +kernel
theorem dX8_rises_16 : decode cX8_rises 16 = .ok (.imul, 1) := by decide +kernel
theorem dX8_rises_17 : decode cX8_rises 17 = .ok (.aload_n 0, 1) := by decide +kernel
theorem dX8_rises_18 : decode cX8_rises 18 = .ok (.iload_n 1, 1) := by decide +kernel
theorem dX8_rises_19 : decode cX8_rises 19 = .ok (.iconst 1, 1) := by decide +kernel
theorem dX8_rises_20 : decode cX8_rises 20 = .ok (.iadd, 1) := by decide +kernel
theorem dX8_rises_21 : decode cX8_rises 21 = .ok (.invokevirtual 263, 3) := by decide +kernel
theorem dX8_rises_24 : decode cX8_rises 24 = .ok (.iload_n 1, 1) := by decide +kernel
theorem dX8_rises_25 : decode cX8_rises 25 = .ok (.imul, 1) := by decide +kernel
theorem dX8_rises_26 : decode cX8_rises 26 = .ok (.if_icmp .le 5, 3) := by decide +kernel
theorem dX8_rises_29 : decode cX8_rises 29 = .ok (.iconst 0, 1) := by decide +kernel
theorem dX8_rises_30 : decode cX8_rises 30 = .ok (.ireturn, 1) := by decide +kernel
theorem dX8_rises_31 : decode cX8_rises 31 = .ok (.iinc 1 1, 3) := by decide +kernel
theorem dX8_rises_34 : decode cX8_rises 34 = .ok (.goto (-32), 3) := by decide +kernel
theorem dX8_rises_37 : decode cX8_rises 37 = .ok (.iconst 1, 1) := by decide +kernel
theorem dX8_rises_38 : decode cX8_rises 38 = .ok (.ireturn, 1) := by decide +kernel
theorem dX8_count_0 : decode cX8_count 0 = .ok (.iconst 0, 1) := by decide +kernel
theorem dX8_count_1 : decode cX8_count 1 = .ok (.istore_n 2, 1) := by decide +kernel
theorem dX8_count_2 : decode cX8_count 2 = .ok (.iconst 0, 1) := by decide +kernel
theorem dX8_count_3 : decode cX8_count 3 = .ok (.istore_n 3, 1) := by decide +kernel
theorem dX8_count_4 : decode cX8_count 4 = .ok (.iconst 0, 1) := by decide +kernel
theorem dX8_count_5 : decode cX8_count 5 = .ok (.istore 4, 2) := by decide +kernel
theorem dX8_count_7 : decode cX8_count 7 = .ok (.iload 4, 2) := by decide +kernel
theorem dX8_count_9 : decode cX8_count 9 = .ok (.iconst 4, 1) := by decide +kernel
theorem dX8_count_10 : decode cX8_count 10 = .ok (.if_icmp .ge 36, 3) := by decide +kernel
theorem dX8_count_13 : decode cX8_count 13 = .ok (.iload_n 2, 1) := by decide +kernel
theorem dX8_count_14 : decode cX8_count 14 = .ok (.aload_n 0, 1) := by decide +kernel
theorem dX8_count_15 : decode cX8_count 15 = .ok (.getfield 7, 3) := by decide +kernel
theorem dX8_count_18 : decode cX8_count 18 = .ok (.iload 4, 2) := by decide +kernel
theorem dX8_count_20 : decode cX8_count 20 = .ok (.iaload, 1) := by decide +kernel
theorem dX8_count_21 : decode cX8_count 21 = .ok (.iadd, 1) := by decide +kernel
theorem dX8_count_22 : decode cX8_count 22 = .ok (.istore_n 2, 1) := by decide +kernel
theorem dX8_count_23 : decode cX8_count 23 = .ok (.iload_n 3, 1) := by decide +kernel
theorem dX8_count_24 : decode cX8_count 24 = .ok (.aload_n 0, 1) := by decide +kernel
theorem dX8_count_25 : decode cX8_count 25 = .ok (.iload 4, 2) := by decide +kernel
theorem dX8_count_27 : decode cX8_count 27 = .ok (.invokevirtual 129, 3) := by decide +kernel
theorem dX8_count_30 : decode cX8_count 30 = .ok (.ifCond .eq 7, 3) := by decide +kernel
theorem dX8_count_33 : decode cX8_count 33 = .ok (.iconst 1, 1) := by decide +kernel
theorem dX8_count_34 : decode cX8_count 34 = .ok (.goto 4, 3) := by decide +kernel
theorem dX8_count_37 : decode cX8_count 37 = .ok (.iconst 0, 1) := by decide +kernel
theorem dX8_count_38 : decode cX8_count 38 = .ok (.iadd, 1) := by decide +kernel
theorem dX8_count_39 : decode cX8_count 39 = .ok (.istore_n 3, 1) := by decide +kernel
theorem dX8_count_40 : decode cX8_count 40 = .ok (.iinc 4 1, 3) := by decide +kernel
theorem dX8_count_43 : decode cX8_count 43 = .ok (.goto (-36), 3) := by decide +kernel
theorem dX8_count_46 : decode cX8_count 46 = .ok (.iload_n 1, 1) := by decide +kernel
theorem dX8_count_47 : decode cX8_count 47 = .ok (.tableswitch 34 0 2 #[25, 27, 29], 25) := by decide +kernel
theorem dX8_count_72 : decode cX8_count 72 = .ok (.iload_n 2, 1) := by decide +kernel
theorem dX8_count_73 : decode cX8_count 73 = .ok (.ireturn, 1) := by decide +kernel
theorem dX8_count_74 : decode cX8_count 74 = .ok (.iload_n 3, 1) := by decide +kernel
theorem dX8_count_75 : decode cX8_count 75 = .ok (.ireturn, 1) := by decide +kernel
theorem dX8_count_76 : decode cX8_count 76 = .ok (.aload_n 0, 1) := by decide +kernel
theorem dX8_count_77 : decode cX8_count 77 = .ok (.getfield 257, 3) := by decide +kernel
theorem dX8_count_80 : decode cX8_count 80 = .ok (.ireturn, 1) := by decide +kernel
theorem dX8_count_81 : decode cX8_count 81 = .ok (.bipush (-2), 2) := by decide +kernel
theorem dX8_count_83 : decode cX8_count 83 = .ok (.ireturn, 1) := by decide +kernel
