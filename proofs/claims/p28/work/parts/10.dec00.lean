theorem dX0_init_0 : decode cX0_init 0 = .ok (.aload_n 0, 1) := by decide +kernel
theorem dX0_init_1 : decode cX0_init 1 = .ok (.invokespecial 3, 3) := by decide +kernel
theorem dX0_init_4 : decode cX0_init 4 = .ok (.aload_n 0, 1) := by decide +kernel
theorem dX0_init_5 : decode cX0_init 5 = .ok (.sipush 800, 3) := by decide +kernel
theorem dX0_init_8 : decode cX0_init 8 = .ok (.newarray .int, 2) := by decide +kernel
theorem dX0_init_10 : decode cX0_init 10 = .ok (.putfield 9, 3) := by decide +kernel
theorem dX0_init_13 : decode cX0_init 13 = .ok (.return_, 1) := by decide +kernel
theorem dX0_forget_0 : decode cX0_forget 0 = .ok (.iconst 0, 1) := by decide +kernel
theorem dX0_forget_1 : decode cX0_forget 1 = .ok (.istore_n 1, 1) := by decide +kernel
theorem dX0_forget_2 : decode cX0_forget 2 = .ok (.iload_n 1, 1) := by decide +kernel
theorem dX0_forget_3 : decode cX0_forget 3 = .ok (.aload_n 0, 1) := by decide +kernel
theorem dX0_forget_4 : decode cX0_forget 4 = .ok (.getfield 9, 3) := by decide +kernel
theorem dX0_forget_7 : decode cX0_forget 7 = .ok (.arraylength, 1) := by decide +kernel
theorem dX0_forget_8 : decode cX0_forget 8 = .ok (.if_icmp .ge 16, 3) := by decide +kernel
theorem dX0_forget_11 : decode cX0_forget 11 = .ok (.aload_n 0, 1) := by decide +kernel
theorem dX0_forget_12 : decode cX0_forget 12 = .ok (.getfield 9, 3) := by decide +kernel
theorem dX0_forget_15 : decode cX0_forget 15 = .ok (.iload_n 1, 1) := by decide +kernel
theorem dX0_forget_16 : decode cX0_forget 16 = .ok (.iconst 0, 1) := by decide +kernel
theorem dX0_forget_17 : decode cX0_forget 17 = .ok (.iastore, 1) := by decide +kernel
theorem dX0_forget_18 : decode cX0_forget 18 = .ok (.iinc 1 1, 3) := by decide +kernel
theorem dX0_forget_21 : decode cX0_forget 21 = .ok (.goto (-19), 3) := by decide +kernel
theorem dX0_forget_24 : decode cX0_forget 24 = .ok (.return_, 1) := by decide +kernel
theorem dX0_note_0 : decode cX0_note 0 = .ok (.iconst 0, 1) := by decide +kernel
theorem dX0_note_1 : decode cX0_note 1 = .ok (.istore_n 3, 1) := by decide +kernel
theorem dX0_note_2 : decode cX0_note 2 = .ok (.iload_n 3, 1) := by decide +kernel
theorem dX0_note_3 : decode cX0_note 3 = .ok (.aload_n 1, 1) := by decide +kernel
theorem dX0_note_4 : decode cX0_note 4 = .ok (.getfield 15, 3) := by decide +kernel
theorem dX0_note_7 : decode cX0_note 7 = .ok (.if_icmp .ge 49, 3) := by decide +kernel
theorem dX0_note_10 : decode cX0_note 10 = .ok (.iload_n 3, 1) := by decide +kernel
theorem dX0_note_11 : decode cX0_note 11 = .ok (.bipush 100, 2) := by decide +kernel
theorem dX0_note_13 : decode cX0_note 13 = .ok (.imul, 1) := by decide +kernel
theorem dX0_note_14 : decode cX0_note 14 = .ok (.aload_n 1, 1) := by decide +kernel
theorem dX0_note_15 : decode cX0_note 15 = .ok (.getfield 21, 3) := by decide +kernel
theorem dX0_note_18 : decode cX0_note 18 = .ok (.iload_n 3, 1) := by decide +kernel
theorem dX0_note_19 : decode cX0_note 19 = .ok (.iaload, 1) := by decide +kernel
theorem dX0_note_20 : decode cX0_note 20 = .ok (.iadd, 1) := by decide +kernel
theorem dX0_note_21 : decode cX0_note 21 = .ok (.istore 4, 2) := by decide +kernel
theorem dX0_note_23 : decode cX0_note 23 = .ok (.iload 4, 2) := by decide +kernel
theorem dX0_note_25 : decode cX0_note 25 = .ok (.iconst 0, 1) := by decide +kernel
theorem dX0_note_26 : decode cX0_note 26 = .ok (.aload_n 0, 1) := by decide +kernel
theorem dX0_note_27 : decode cX0_note 27 = .ok (.getfield 9, 3) := by decide +kernel
theorem dX0_note_30 : decode cX0_note 30 = .ok (.arraylength, 1) := by decide +kernel
theorem dX0_note_31 : decode cX0_note 31 = .ok (.iconst 1, 1) := by decide +kernel
theorem dX0_note_32 : decode cX0_note 32 = .ok (.isub, 1) := by decide +kernel
theorem dX0_note_33 : decode cX0_note 33 = .ok (.invokestatic 24, 3) := by decide +kernel
theorem dX0_note_36 : decode cX0_note 36 = .ok (.ifCond .eq 14, 3) := by decide +kernel
theorem dX0_note_39 : decode cX0_note 39 = .ok (.aload_n 0, 1) := by decide +kernel
theorem dX0_note_40 : decode cX0_note 40 = .ok (.getfield 9, 3) := by decide +kernel
theorem dX0_note_43 : decode cX0_note 43 = .ok (.iload 4, 2) := by decide +kernel
theorem dX0_note_45 : decode cX0_note 45 = .ok (.dup2, 1) := by decide +kernel
theorem dX0_note_46 : decode cX0_note 46 = .ok (.iaload, 1) := by decide +kernel
theorem dX0_note_47 : decode cX0_note 47 = .ok (.iload_n 2, 1) := by decide +kernel
theorem dX0_note_48 : decode cX0_note 48 = .ok (.ior, 1) := by decide +kernel
theorem dX0_note_49 : decode cX0_note 49 = .ok (.iastore, 1) := by decide +kernel
theorem dX0_note_50 : decode cX0_note 50 = .ok (.iinc 3 1, 3) := by decide +kernel
theorem dX0_note_53 : decode cX0_note 53 = .ok (.goto (-51), 3) := by decide +kernel
theorem dX0_note_56 : decode cX0_note 56 = .ok (.return_, 1) := by decide +kernel
theorem dX0_best_0 : decode cX0_best 0 = .ok (.bipush (-9), 2) := by decide +kernel
theorem dX0_best_2 : decode cX0_best 2 = .ok (.istore_n 2, 1) := by decide +kernel
theorem dX0_best_3 : decode cX0_best 3 = .ok (.iconst (-1), 1) := by decide +kernel
theorem dX0_best_4 : decode cX0_best 4 = .ok (.istore_n 3, 1) := by decide +kernel
theorem dX0_best_5 : decode cX0_best 5 = .ok (.iconst 0, 1) := by decide +kernel
theorem dX0_best_6 : decode cX0_best 6 = .ok (.istore 4, 2) := by decide +kernel
theorem dX0_best_8 : decode cX0_best 8 = .ok (.iload 4, 2) := by decide +kernel
theorem dX0_best_10 : decode cX0_best 10 = .ok (.aload_n 1, 1) := by decide +kernel
theorem dX0_best_11 : decode cX0_best 11 = .ok (.getfield 15, 3) := by decide +kernel
theorem dX0_best_14 : decode cX0_best 14 = .ok (.if_icmp .ge 51, 3) := by decide +kernel
theorem dX0_best_17 : decode cX0_best 17 = .ok (.aload_n 1, 1) := by decide +kernel
theorem dX0_best_18 : decode cX0_best 18 = .ok (.getfield 28, 3) := by decide +kernel
theorem dX0_best_21 : decode cX0_best 21 = .ok (.iload 4, 2) := by decide +kernel
theorem dX0_best_23 : decode cX0_best 23 = .ok (.iaload, 1) := by decide +kernel
theorem dX0_best_24 : decode cX0_best 24 = .ok (.aload_n 1, 1) := by decide +kernel
theorem dX0_best_25 : decode cX0_best 25 = .ok (.getfield 31, 3) := by decide +kernel
theorem dX0_best_28 : decode cX0_best 28 = .ok (.iload 4, 2) := by decide +kernel
theorem dX0_best_30 : decode cX0_best 30 = .ok (.iaload, 1) := by decide +kernel
theorem dX0_best_31 : decode cX0_best 31 = .ok (.if_icmp .ge 13, 3) := by decide +kernel
theorem dX0_best_34 : decode cX0_best 34 = .ok (.aload_n 0, 1) := by decide +kernel
theorem dX0_best_35 : decode cX0_best 35 = .ok (.aload_n 1, 1) := by decide +kernel
theorem dX0_best_36 : decode cX0_best 36 = .ok (.iload 4, 2) := by decide +kernel
theorem dX0_best_38 : decode cX0_best 38 = .ok (.invokevirtual 34, 3) := by decide +kernel
theorem dX0_best_41 : decode cX0_best 41 = .ok (.goto 4, 3) := by decide +kernel
theorem dX0_best_44 : decode cX0_best 44 = .ok (.iconst (-1), 1) := by decide +kernel
theorem dX0_best_45 : decode cX0_best 45 = .ok (.istore 5, 2) := by decide +kernel
theorem dX0_best_47 : decode cX0_best 47 = .ok (.iload 5, 2) := by decide +kernel
theorem dX0_best_49 : decode cX0_best 49 = .ok (.iload_n 3, 1) := by decide +kernel
theorem dX0_best_50 : decode cX0_best 50 = .ok (.if_icmp .le 9, 3) := by decide +kernel
theorem dX0_best_53 : decode cX0_best 53 = .ok (.iload 5, 2) := by decide +kernel
theorem dX0_best_55 : decode cX0_best 55 = .ok (.istore_n 3, 1) := by decide +kernel
theorem dX0_best_56 : decode cX0_best 56 = .ok (.iload 4, 2) := by decide +kernel
theorem dX0_best_58 : decode cX0_best 58 = .ok (.istore_n 2, 1) := by decide +kernel
theorem dX0_best_59 : decode cX0_best 59 = .ok (.iinc 4 1, 3) := by decide +kernel
theorem dX0_best_62 : decode cX0_best 62 = .ok (.goto (-54), 3) := by decide +kernel
theorem dX0_best_65 : decode cX0_best 65 = .ok (.iload_n 2, 1) := by decide +kernel
theorem dX0_best_66 : decode cX0_best 66 = .ok (.ireturn, 1) := by decide +kernel
theorem dX0_settlingOf_0 : decode cX0_settlingOf 0 = .ok (.iconst 0, 1) := by decide +kernel
theorem dX0_settlingOf_1 : decode cX0_settlingOf 1 = .ok (.istore_n 3, 1) := by decide +kernel
theorem dX0_settlingOf_2 : decode cX0_settlingOf 2 = .ok (.aload_n 1, 1) := by decide +kernel
theorem dX0_settlingOf_3 : decode cX0_settlingOf 3 = .ok (.getfield 28, 3) := by decide +kernel
theorem dX0_settlingOf_6 : decode cX0_settlingOf 6 = .ok (.iload_n 2, 1) := by decide +kernel
theorem dX0_settlingOf_7 : decode cX0_settlingOf 7 = .ok (.iaload, 1) := by decide +kernel
theorem dX0_settlingOf_8 : decode cX0_settlingOf 8 = .ok (.istore 4, 2) := by decide +kernel
theorem dX0_settlingOf_10 : decode cX0_settlingOf 10 = .ok (.iload 4, 2) := by decide +kernel
theorem dX0_settlingOf_12 : decode cX0_settlingOf 12 = .ok (.aload_n 1, 1) := by decide +kernel
theorem dX0_settlingOf_13 : decode cX0_settlingOf 13 = .ok (.getfield 31, 3) := by decide +kernel
theorem dX0_settlingOf_16 : decode cX0_settlingOf 16 = .ok (.iload_n 2, 1) := by decide +kernel
theorem dX0_settlingOf_17 : decode cX0_settlingOf 17 = .ok (.iaload, 1) := by decide +kernel
theorem dX0_settlingOf_18 : decode cX0_settlingOf 18 = .ok (.if_icmp .gt 51, 3) := by decide +kernel
theorem dX0_settlingOf_21 : decode cX0_settlingOf 21 = .ok (.iload_n 2, 1) := by decide +kernel
theorem dX0_settlingOf_22 : decode cX0_settlingOf 22 = .ok (.bipush 100, 2) := by decide +kernel
theorem dX0_settlingOf_24 : decode cX0_settlingOf 24 = .ok (.imul, 1) := by decide +kernel
theorem dX0_settlingOf_25 : decode cX0_settlingOf 25 = .ok (.iload 4, 2) := by decide +kernel
theorem dX0_settlingOf_27 : decode cX0_settlingOf 27 = .ok (.iadd, 1) := by decide +kernel
theorem dX0_settlingOf_28 : decode cX0_settlingOf 28 = .ok (.istore 5, 2) := by decide +kernel
theorem dX0_settlingOf_30 : decode cX0_settlingOf 30 = .ok (.iload 5, 2) := by decide +kernel
theorem dX0_settlingOf_32 : decode cX0_settlingOf 32 = .ok (.iconst 0, 1) := by decide +kernel
theorem dX0_settlingOf_33 : decode cX0_settlingOf 33 = .ok (.aload_n 0, 1) := by decide +kernel
theorem dX0_settlingOf_34 : decode cX0_settlingOf 34 = .ok (.getfield 9, 3) := by decide +kernel
theorem dX0_settlingOf_37 : decode cX0_settlingOf 37 = .ok (.arraylength, 1) := by decide +kernel
theorem dX0_settlingOf_38 : decode cX0_settlingOf 38 = .ok (.iconst 1, 1) := by decide +kernel
theorem dX0_settlingOf_39 : decode cX0_settlingOf 39 = .ok (.isub, 1) := by decide +kernel
theorem dX0_settlingOf_40 : decode cX0_settlingOf 40 = .ok (.invokestatic 24, 3) := by decide +kernel
theorem dX0_settlingOf_43 : decode cX0_settlingOf 43 = .ok (.ifCond .eq 20, 3) := by decide +kernel
theorem dX0_settlingOf_46 : decode cX0_settlingOf 46 = .ok (.aload_n 0, 1) := by decide +kernel
theorem dX0_settlingOf_47 : decode cX0_settlingOf 47 = .ok (.getfield 9, 3) := by decide +kernel
theorem dX0_settlingOf_50 : decode cX0_settlingOf 50 = .ok (.iload 5, 2) := by decide +kernel
theorem dX0_settlingOf_52 : decode cX0_settlingOf 52 = .ok (.iaload, 1) := by decide +kernel
theorem dX0_settlingOf_53 : decode cX0_settlingOf 53 = .ok (.invokestatic 38, 3) := by decide +kernel
theorem dX0_settlingOf_56 : decode cX0_settlingOf 56 = .ok (.iconst 1, 1) := by decide +kernel
theorem dX0_settlingOf_57 : decode cX0_settlingOf 57 = .ok (.if_icmp .ne 6, 3) := by decide +kernel
theorem dX0_settlingOf_60 : decode cX0_settlingOf 60 = .ok (.iinc 3 1, 3) := by decide +kernel
theorem dX0_settlingOf_63 : decode cX0_settlingOf 63 = .ok (.iinc 4 1, 3) := by decide +kernel
theorem dX0_settlingOf_66 : decode cX0_settlingOf 66 = .ok (.goto (-56), 3) := by decide +kernel
theorem dX0_settlingOf_69 : decode cX0_settlingOf 69 = .ok (.iload_n 3, 1) := by decide +kernel
theorem dX0_settlingOf_70 : decode cX0_settlingOf 70 = .ok (.ireturn, 1) := by decide +kernel
theorem dX1_init_0 : decode cX1_init 0 = .ok (.aload_n 0, 1) := by decide +kernel
theorem dX1_init_1 : decode cX1_init 1 = .ok (.invokespecial 3, 3) := by decide +kernel
theorem dX1_init_4 : decode cX1_init 4 = .ok (.aload_n 0, 1) := by decide +kernel
theorem dX1_init_5 : decode cX1_init 5 = .ok (.iconst 4, 1) := by decide +kernel
theorem dX1_init_6 : decode cX1_init 6 = .ok (.newarray .int, 2) := by decide +kernel
theorem dX1_init_8 : decode cX1_init 8 = .ok (.putfield 9, 3) := by decide +kernel
theorem dX1_init_11 : decode cX1_init 11 = .ok (.aload_n 0, 1) := by decide +kernel
theorem dX1_init_12 : decode cX1_init 12 = .ok (.iconst 4, 1) := by decide +kernel
theorem dX1_init_13 : decode cX1_init 13 = .ok (.newarray .int, 2) := by decide +kernel
theorem dX1_init_15 : decode cX1_init 15 = .ok (.putfield 15, 3) := by decide +kernel
theorem dX1_init_18 : decode cX1_init 18 = .ok (.return_, 1) := by decide +kernel
theorem dX1_add_0 : decode cX1_add 0 = .ok (.aload_n 0, 1) := by decide +kernel
theorem dX1_add_1 : decode cX1_add 1 = .ok (.getfield 18, 3) := by decide +kernel
theorem dX1_add_4 : decode cX1_add 4 = .ok (.iconst 4, 1) := by decide +kernel
theorem dX1_add_5 : decode cX1_add 5 = .ok (.if_icmp .ge 33, 3) := by decide +kernel
theorem dX1_add_8 : decode cX1_add 8 = .ok (.aload_n 0, 1) := by decide +kernel
theorem dX1_add_9 : decode cX1_add 9 = .ok (.getfield 9, 3) := by decide +kernel
theorem dX1_add_12 : decode cX1_add 12 = .ok (.aload_n 0, 1) := by decide +kernel
theorem dX1_add_13 : decode cX1_add 13 = .ok (.getfield 18, 3) := by decide +kernel
theorem dX1_add_16 : decode cX1_add 16 = .ok (.iload_n 1, 1) := by decide +kernel
theorem dX1_add_17 : decode cX1_add 17 = .ok (.iastore, 1) := by decide +kernel
theorem dX1_add_18 : decode cX1_add 18 = .ok (.aload_n 0, 1) := by decide +kernel
theorem dX1_add_19 : decode cX1_add 19 = .ok (.getfield 15, 3) := by decide +kernel
theorem dX1_add_22 : decode cX1_add 22 = .ok (.aload_n 0, 1) := by decide +kernel
theorem dX1_add_23 : decode cX1_add 23 = .ok (.getfield 18, 3) := by decide +kernel
theorem dX1_add_26 : decode cX1_add 26 = .ok (.iload_n 2, 1) := by decide +kernel
theorem dX1_add_27 : decode cX1_add 27 = .ok (.iastore, 1) := by decide +kernel
theorem dX1_add_28 : decode cX1_add 28 = .ok (.aload_n 0, 1) := by decide +kernel
theorem dX1_add_29 : decode cX1_add 29 = .ok (.dup, 1) := by decide +kernel
theorem dX1_add_30 : decode cX1_add 30 = .ok (.getfield 18, 3) := by decide +kernel
theorem dX1_add_33 : decode cX1_add 33 = .ok (.iconst 1, 1) := by decide +kernel
theorem dX1_add_34 : decode cX1_add 34 = .ok (.iadd, 1) := by decide +kernel
theorem dX1_add_35 : decode cX1_add 35 = .ok (.putfield 18, 3) := by decide +kernel
theorem dX1_add_38 : decode cX1_add 38 = .ok (.return_, 1) := by decide +kernel
theorem dX1_taken_0 : decode cX1_taken 0 = .ok (.iconst 0, 1) := by decide +kernel
theorem dX1_taken_1 : decode cX1_taken 1 = .ok (.istore_n 2, 1) := by decide +kernel
theorem dX1_taken_2 : decode cX1_taken 2 = .ok (.iconst 0, 1) := by decide +kernel
theorem dX1_taken_3 : decode cX1_taken 3 = .ok (.istore_n 3, 1) := by decide +kernel
theorem dX1_taken_4 : decode cX1_taken 4 = .ok (.iload_n 3, 1) := by decide +kernel
theorem dX1_taken_5 : decode cX1_taken 5 = .ok (.aload_n 0, 1) := by decide +kernel
theorem dX1_taken_6 : decode cX1_taken 6 = .ok (.getfield 18, 3) := by decide +kernel
theorem dX1_taken_9 : decode cX1_taken 9 = .ok (.if_icmp .ge 57, 3) := by decide +kernel
theorem dX1_taken_12 : decode cX1_taken 12 = .ok (.iload_n 1, 1) := by decide +kernel
theorem dX1_taken_13 : decode cX1_taken 13 = .ok (.aload_n 0, 1) := by decide +kernel
theorem dX1_taken_14 : decode cX1_taken 14 = .ok (.aload_n 0, 1) := by decide +kernel
theorem dX1_taken_15 : decode cX1_taken 15 = .ok (.getfield 9, 3) := by decide +kernel
theorem dX1_taken_18 : decode cX1_taken 18 = .ok (.iload_n 3, 1) := by decide +kernel
theorem dX1_taken_19 : decode cX1_taken 19 = .ok (.iaload, 1) := by decide +kernel
theorem dX1_taken_20 : decode cX1_taken 20 = .ok (.invokevirtual 22, 3) := by decide +kernel
theorem dX1_taken_23 : decode cX1_taken 23 = .ok (.invokestatic 26, 3) := by decide +kernel
theorem dX1_taken_26 : decode cX1_taken 26 = .ok (.aload_n 0, 1) := by decide +kernel
theorem dX1_taken_27 : decode cX1_taken 27 = .ok (.getfield 9, 3) := by decide +kernel
theorem dX1_taken_30 : decode cX1_taken 30 = .ok (.iload_n 3, 1) := by decide +kernel
theorem dX1_taken_31 : decode cX1_taken 31 = .ok (.iaload, 1) := by decide +kernel
theorem dX1_taken_32 : decode cX1_taken 32 = .ok (.isub, 1) := by decide +kernel
theorem dX1_taken_33 : decode cX1_taken 33 = .ok (.istore 4, 2) := by decide +kernel
theorem dX1_taken_35 : decode cX1_taken 35 = .ok (.iload 4, 2) := by decide +kernel
theorem dX1_taken_37 : decode cX1_taken 37 = .ok (.ifCond .le 23, 3) := by decide +kernel
theorem dX1_taken_40 : decode cX1_taken 40 = .ok (.aload_n 0, 1) := by decide +kernel
theorem dX1_taken_41 : decode cX1_taken 41 = .ok (.iload_n 3, 1) := by decide +kernel
theorem dX1_taken_42 : decode cX1_taken 42 = .ok (.invokevirtual 32, 3) := by decide +kernel
theorem dX1_taken_45 : decode cX1_taken 45 = .ok (.ifCond .ne 15, 3) := by decide +kernel
theorem dX1_taken_48 : decode cX1_taken 48 = .ok (.iload_n 2, 1) := by decide +kernel
theorem dX1_taken_49 : decode cX1_taken 49 = .ok (.aload_n 0, 1) := by decide +kernel
theorem dX1_taken_50 : decode cX1_taken 50 = .ok (.getfield 15, 3) := by decide +kernel
theorem dX1_taken_53 : decode cX1_taken 53 = .ok (.iload_n 3, 1) := by decide +kernel
theorem dX1_taken_54 : decode cX1_taken 54 = .ok (.iaload, 1) := by decide +kernel
theorem dX1_taken_55 : decode cX1_taken 55 = .ok (.iload 4, 2) := by decide +kernel
theorem dX1_taken_57 : decode cX1_taken 57 = .ok (.imul, 1) := by decide +kernel
theorem dX1_taken_58 : decode cX1_taken 58 = .ok (.iadd, 1) := by decide +kernel
theorem dX1_taken_59 : decode cX1_taken 59 = .ok (.istore_n 2, 1) := by decide +kernel
theorem dX1_taken_60 : decode cX1_taken 60 = .ok (.iinc 3 1, 3) := by decide +kernel
theorem dX1_taken_63 : decode cX1_taken 63 = .ok (.goto (-59), 3) := by decide +kernel
theorem dX1_taken_66 : decode cX1_taken 66 = .ok (.iload_n 2, 1) := by decide +kernel
theorem dX1_taken_67 : decode cX1_taken 67 = .ok (.bipush 10, 2) := by decide +kernel
theorem dX1_taken_69 : decode cX1_taken 69 = .ok (.idiv, 1) := by decide +kernel
theorem dX1_taken_70 : decode cX1_taken 70 = .ok (.ireturn, 1) := by decide +kernel
theorem dX1_nextFrom_0 : decode cX1_nextFrom 0 = .ok (.bipush 100, 2) := by decide +kernel
theorem dX1_nextFrom_2 : decode cX1_nextFrom 2 = .ok (.istore_n 2, 1) := by decide +kernel
theorem dX1_nextFrom_3 : decode cX1_nextFrom 3 = .ok (.iconst 0, 1) := by decide +kernel
theorem dX1_nextFrom_4 : decode cX1_nextFrom 4 = .ok (.istore_n 3, 1) := by decide +kernel
theorem dX1_nextFrom_5 : decode cX1_nextFrom 5 = .ok (.iload_n 3, 1) := by decide +kernel
theorem dX1_nextFrom_6 : decode cX1_nextFrom 6 = .ok (.aload_n 0, 1) := by decide +kernel
theorem dX1_nextFrom_7 : decode cX1_nextFrom 7 = .ok (.getfield 18, 3) := by decide +kernel
theorem dX1_nextFrom_10 : decode cX1_nextFrom 10 = .ok (.if_icmp .ge 30, 3) := by decide +kernel
theorem dX1_nextFrom_13 : decode cX1_nextFrom 13 = .ok (.aload_n 0, 1) := by decide +kernel
theorem dX1_nextFrom_14 : decode cX1_nextFrom 14 = .ok (.getfield 9, 3) := by decide +kernel
theorem dX1_nextFrom_17 : decode cX1_nextFrom 17 = .ok (.iload_n 3, 1) := by decide +kernel
theorem dX1_nextFrom_18 : decode cX1_nextFrom 18 = .ok (.iaload, 1) := by decide +kernel
theorem dX1_nextFrom_19 : decode cX1_nextFrom 19 = .ok (.iload_n 1, 1) := by decide +kernel
theorem dX1_nextFrom_20 : decode cX1_nextFrom 20 = .ok (.if_icmp .le 14, 3) := by decide +kernel
theorem dX1_nextFrom_23 : decode cX1_nextFrom 23 = .ok (.iload_n 2, 1) := by decide +kernel
theorem dX1_nextFrom_24 : decode cX1_nextFrom 24 = .ok (.aload_n 0, 1) := by decide +kernel
theorem dX1_nextFrom_25 : decode cX1_nextFrom 25 = .ok (.getfield 9, 3) := by decide +kernel
theorem dX1_nextFrom_28 : decode cX1_nextFrom 28 = .ok (.iload_n 3, 1) := by decide +kernel
theorem dX1_nextFrom_29 : decode cX1_nextFrom 29 = .ok (.iaload, 1) := by decide +kernel
theorem dX1_nextFrom_30 : decode cX1_nextFrom 30 = .ok (.invokestatic 26, 3) := by decide +kernel
theorem dX1_nextFrom_33 : decode cX1_nextFrom 33 = .ok (.istore_n 2, 1) := by decide +kernel
theorem dX1_nextFrom_34 : decode cX1_nextFrom 34 = .ok (.iinc 3 1, 3) := by decide +kernel
theorem dX1_nextFrom_37 : decode cX1_nextFrom 37 = .ok (.goto (-32), 3) := by decide +kernel
theorem dX1_nextFrom_40 : decode cX1_nextFrom 40 = .ok (.iload_n 2, 1) := by decide +kernel
theorem dX1_nextFrom_41 : decode cX1_nextFrom 41 = .ok (.ireturn, 1) := by decide +kernel
theorem dX1_isToldAgain_0 : decode cX1_isToldAgain 0 = .ok (.iload_n 1, 1) := by decide +kernel
theorem dX1_isToldAgain_1 : decode cX1_isToldAgain 1 = .ok (.iconst 1, 1) := by decide +kernel
theorem dX1_isToldAgain_2 : decode cX1_isToldAgain 2 = .ok (.iadd, 1) := by decide +kernel
theorem dX1_isToldAgain_3 : decode cX1_isToldAgain 3 = .ok (.istore_n 2, 1) := by decide +kernel
theorem dX1_isToldAgain_4 : decode cX1_isToldAgain 4 = .ok (.iload_n 2, 1) := by decide +kernel
theorem dX1_isToldAgain_5 : decode cX1_isToldAgain 5 = .ok (.aload_n 0, 1) := by decide +kernel
theorem dX1_isToldAgain_6 : decode cX1_isToldAgain 6 = .ok (.getfield 18, 3) := by decide +kernel
theorem dX1_isToldAgain_9 : decode cX1_isToldAgain 9 = .ok (.if_icmp .ge 26, 3) := by decide +kernel
theorem dX1_isToldAgain_12 : decode cX1_isToldAgain 12 = .ok (.aload_n 0, 1) := by decide +kernel
theorem dX1_isToldAgain_13 : decode cX1_isToldAgain 13 = .ok (.getfield 9, 3) := by decide +kernel
theorem dX1_isToldAgain_16 : decode cX1_isToldAgain 16 = .ok (.iload_n 2, 1) := by decide +kernel
theorem dX1_isToldAgain_17 : decode cX1_isToldAgain 17 = .ok (.iaload, 1) := by decide +kernel
theorem dX1_isToldAgain_18 : decode cX1_isToldAgain 18 = .ok (.aload_n 0, 1) := by decide +kernel
theorem dX1_isToldAgain_19 : decode cX1_isToldAgain 19 = .ok (.getfield 9, 3) := by decide +kernel
theorem dX1_isToldAgain_22 : decode cX1_isToldAgain 22 = .ok (.iload_n 1, 1) := by decide +kernel
theorem dX1_isToldAgain_23 : decode cX1_isToldAgain 23 = .ok (.iaload, 1) := by decide +kernel
theorem dX1_isToldAgain_24 : decode cX1_isToldAgain 24 = .ok (.if_icmp .ne 5, 3) := by decide +kernel
theorem dX1_isToldAgain_27 : decode cX1_isToldAgain 27 = .ok (.iconst 1, 1) := by decide +kernel
theorem dX1_isToldAgain_28 : decode cX1_isToldAgain 28 = .ok (.ireturn, 1) := by decide +kernel
theorem dX1_isToldAgain_29 : decode cX1_isToldAgain 29 = .ok (.iinc 2 1, 3) := by decide +kernel
theorem dX1_isToldAgain_32 : decode cX1_isToldAgain 32 = .ok (.goto (-28), 3) := by decide +kernel
theorem dX1_isToldAgain_35 : decode cX1_isToldAgain 35 = .ok (.iconst 0, 1) := by decide +kernel
theorem dX1_isToldAgain_36 : decode cX1_isToldAgain 36 = .ok (.ireturn, 1) := by decide +kernel
theorem dX2_init_0 : decode cX2_init 0 = .ok (.aload_n 0, 1) := by decide +kernel
theorem dX2_init_1 : decode cX2_init 1 = .ok (.invokespecial 3, 3) := by decide +kernel
theorem dX2_init_4 : decode cX2_init 4 = .ok (.aload_n 0, 1) := by decide +kernel
theorem dX2_init_5 : decode cX2_init 5 = .ok (.bipush 8, 2) := by decide +kernel
theorem dX2_init_7 : decode cX2_init 7 = .ok (.newarray .int, 2) := by decide +kernel
theorem dX2_init_9 : decode cX2_init 9 = .ok (.putfield 9, 3) := by decide +kernel
theorem dX2_init_12 : decode cX2_init 12 = .ok (.aload_n 0, 1) := by decide +kernel
theorem dX2_init_13 : decode cX2_init 13 = .ok (.sipush 256, 3) := by decide +kernel
theorem dX2_init_16 : decode cX2_init 16 = .ok (.newarray .int, 2) := by decide +kernel
theorem dX2_init_18 : decode cX2_init 18 = .ok (.putfield 15, 3) := by decide +kernel
theorem dX2_init_21 : decode cX2_init 21 = .ok (.aload_n 0, 1) := by decide +kernel
theorem dX2_init_22 : decode cX2_init 22 = .ok (.sipush 256, 3) := by decide +kernel
theorem dX2_init_25 : decode cX2_init 25 = .ok (.newarray .boolean, 2) := by decide +kernel
theorem dX2_init_27 : decode cX2_init 27 = .ok (.putfield 18, 3) := by decide +kernel
theorem dX2_init_30 : decode cX2_init 30 = .ok (.aload_n 0, 1) := by decide +kernel
theorem dX2_init_31 : decode cX2_init 31 = .ok (.sipush 256, 3) := by decide +kernel
theorem dX2_init_34 : decode cX2_init 34 = .ok (.newarray .int, 2) := by decide +kernel
theorem dX2_init_36 : decode cX2_init 36 = .ok (.putfield 22, 3) := by decide +kernel
theorem dX2_init_39 : decode cX2_init 39 = .ok (.return_, 1) := by decide +kernel
theorem dX2_between_0 : decode cX2_between 0 = .ok (.aload_n 1, 1) := by decide +kernel
theorem dX2_between_1 : decode cX2_between 1 = .ok (.getfield 25, 3) := by decide +kernel
theorem dX2_between_4 : decode cX2_between 4 = .ok (.bipush 8, 2) := by decide +kernel
theorem dX2_between_6 : decode cX2_between 6 = .ok (.invokestatic 31, 3) := by decide +kernel
theorem dX2_between_9 : decode cX2_between 9 = .ok (.istore_n 3, 1) := by decide +kernel
theorem dX2_between_10 : decode cX2_between 10 = .ok (.iconst 1, 1) := by decide +kernel
theorem dX2_between_11 : decode cX2_between 11 = .ok (.iload_n 3, 1) := by decide +kernel
theorem dX2_between_12 : decode cX2_between 12 = .ok (.ishl, 1) := by decide +kernel
theorem dX2_between_13 : decode cX2_between 13 = .ok (.istore 4, 2) := by decide +kernel
theorem dX2_between_15 : decode cX2_between 15 = .ok (.aload_n 0, 1) := by decide +kernel
theorem dX2_between_16 : decode cX2_between 16 = .ok (.aload_n 1, 1) := by decide +kernel
theorem dX2_between_17 : decode cX2_between 17 = .ok (.aload_n 2, 1) := by decide +kernel
theorem dX2_between_18 : decode cX2_between 18 = .ok (.iload_n 3, 1) := by decide +kernel
theorem dX2_between_19 : decode cX2_between 19 = .ok (.invokevirtual 37, 3) := by decide +kernel
theorem dX2_between_22 : decode cX2_between 22 = .ok (.aload_n 0, 1) := by decide +kernel
theorem dX2_between_23 : decode cX2_between 23 = .ok (.iload_n 3, 1) := by decide +kernel
theorem dX2_between_24 : decode cX2_between 24 = .ok (.invokevirtual 41, 3) := by decide +kernel
theorem dX2_between_27 : decode cX2_between 27 = .ok (.aload_n 0, 1) := by decide +kernel
theorem dX2_between_28 : decode cX2_between 28 = .ok (.getfield 18, 3) := by decide +kernel
theorem dX2_between_31 : decode cX2_between 31 = .ok (.iload 4, 2) := by decide +kernel
theorem dX2_between_33 : decode cX2_between 33 = .ok (.iconst 1, 1) := by decide +kernel
theorem dX2_between_34 : decode cX2_between 34 = .ok (.isub, 1) := by decide +kernel
theorem dX2_between_35 : decode cX2_between 35 = .ok (.baload, 1) := by decide +kernel
theorem dX2_between_36 : decode cX2_between 36 = .ok (.ifCond .ne 6, 3) := by decide +kernel
theorem dX2_between_39 : decode cX2_between 39 = .ok (.bipush (-9), 2) := by decide +kernel
theorem dX2_between_41 : decode cX2_between 41 = .ok (.ireturn, 1) := by decide +kernel
theorem dX2_between_42 : decode cX2_between 42 = .ok (.aload_n 0, 1) := by decide +kernel
theorem dX2_between_43 : decode cX2_between 43 = .ok (.getfield 22, 3) := by decide +kernel
theorem dX2_between_46 : decode cX2_between 46 = .ok (.iconst 0, 1) := by decide +kernel
theorem dX2_between_47 : decode cX2_between 47 = .ok (.iconst 0, 1) := by decide +kernel
theorem dX2_between_48 : decode cX2_between 48 = .ok (.iastore, 1) := by decide +kernel
theorem dX2_between_49 : decode cX2_between 49 = .ok (.iconst 1, 1) := by decide +kernel
theorem dX2_between_50 : decode cX2_between 50 = .ok (.istore 5, 2) := by decide +kernel
theorem dX2_between_52 : decode cX2_between 52 = .ok (.iload 5, 2) := by decide +kernel
theorem dX2_between_54 : decode cX2_between 54 = .ok (.iload 4, 2) := by decide +kernel
theorem dX2_between_56 : decode cX2_between 56 = .ok (.if_icmp .ge 22, 3) := by decide +kernel
theorem dX2_between_59 : decode cX2_between 59 = .ok (.aload_n 0, 1) := by decide +kernel
theorem dX2_between_60 : decode cX2_between 60 = .ok (.getfield 22, 3) := by decide +kernel
theorem dX2_between_63 : decode cX2_between 63 = .ok (.iload 5, 2) := by decide +kernel
theorem dX2_between_65 : decode cX2_between 65 = .ok (.aload_n 0, 1) := by decide +kernel
theorem dX2_between_66 : decode cX2_between 66 = .ok (.iload 5, 2) := by decide +kernel
theorem dX2_between_68 : decode cX2_between 68 = .ok (.invokevirtual 45, 3) := by decide +kernel
theorem dX2_between_71 : decode cX2_between 71 = .ok (.iastore, 1) := by decide +kernel
theorem dX2_between_72 : decode cX2_between 72 = .ok (.iinc 5 1, 3) := by decide +kernel
theorem dX2_between_75 : decode cX2_between 75 = .ok (.goto (-23), 3) := by decide +kernel
theorem dX2_between_78 : decode cX2_between 78 = .ok (.iload_n 3, 1) := by decide +kernel
theorem dX2_between_79 : decode cX2_between 79 = .ok (.aload_n 0, 1) := by decide +kernel
theorem dX2_between_80 : decode cX2_between 80 = .ok (.getfield 22, 3) := by decide +kernel
theorem dX2_between_83 : decode cX2_between 83 = .ok (.iload 4, 2) := by decide +kernel
theorem dX2_between_85 : decode cX2_between 85 = .ok (.iconst 1, 1) := by decide +kernel
theorem dX2_between_86 : decode cX2_between 86 = .ok (.isub, 1) := by decide +kernel
theorem dX2_between_87 : decode cX2_between 87 = .ok (.iaload, 1) := by decide +kernel
theorem dX2_between_88 : decode cX2_between 88 = .ok (.isub, 1) := by decide +kernel
theorem dX2_between_89 : decode cX2_between 89 = .ok (.ireturn, 1) := by decide +kernel
theorem dX2_putDue_0 : decode cX2_putDue 0 = .ok (.iconst 0, 1) := by decide +kernel
theorem dX2_putDue_1 : decode cX2_putDue 1 = .ok (.istore 4, 2) := by decide +kernel
theorem dX2_putDue_3 : decode cX2_putDue 3 = .ok (.iload 4, 2) := by decide +kernel
theorem dX2_putDue_5 : decode cX2_putDue 5 = .ok (.iload_n 3, 1) := by decide +kernel
theorem dX2_putDue_6 : decode cX2_putDue 6 = .ok (.if_icmp .ge 17, 3) := by decide +kernel
theorem dX2_putDue_9 : decode cX2_putDue 9 = .ok (.aload_n 0, 1) := by decide +kernel
theorem dX2_putDue_10 : decode cX2_putDue 10 = .ok (.getfield 9, 3) := by decide +kernel
theorem dX2_putDue_13 : decode cX2_putDue 13 = .ok (.iload 4, 2) := by decide +kernel
theorem dX2_putDue_15 : decode cX2_putDue 15 = .ok (.iconst 0, 1) := by decide +kernel
theorem dX2_putDue_16 : decode cX2_putDue 16 = .ok (.iastore, 1) := by decide +kernel
theorem dX2_putDue_17 : decode cX2_putDue 17 = .ok (.iinc 4 1, 3) := by decide +kernel
theorem dX2_putDue_20 : decode cX2_putDue 20 = .ok (.goto (-17), 3) := by decide +kernel
theorem dX2_putDue_23 : decode cX2_putDue 23 = .ok (.iconst 0, 1) := by decide +kernel
theorem dX2_putDue_24 : decode cX2_putDue 24 = .ok (.istore 4, 2) := by decide +kernel
theorem dX2_putDue_26 : decode cX2_putDue 26 = .ok (.iload 4, 2) := by decide +kernel
theorem dX2_putDue_28 : decode cX2_putDue 28 = .ok (.iload_n 3, 1) := by decide +kernel
theorem dX2_putDue_29 : decode cX2_putDue 29 = .ok (.if_icmp .ge 51, 3) := by decide +kernel
theorem dX2_putDue_32 : decode cX2_putDue 32 = .ok (.aload_n 0, 1) := by decide +kernel
theorem dX2_putDue_33 : decode cX2_putDue 33 = .ok (.getfield 9, 3) := by decide +kernel
theorem dX2_putDue_36 : decode cX2_putDue 36 = .ok (.aload_n 2, 1) := by decide +kernel
theorem dX2_putDue_37 : decode cX2_putDue 37 = .ok (.iload 4, 2) := by decide +kernel
theorem dX2_putDue_39 : decode cX2_putDue 39 = .ok (.invokestatic 49, 3) := by decide +kernel
theorem dX2_putDue_42 : decode cX2_putDue 42 = .ok (.dup2, 1) := by decide +kernel
theorem dX2_putDue_43 : decode cX2_putDue 43 = .ok (.iaload, 1) := by decide +kernel
theorem dX2_putDue_44 : decode cX2_putDue 44 = .ok (.aload_n 2, 1) := by decide +kernel
theorem dX2_putDue_45 : decode cX2_putDue 45 = .ok (.getfield 53, 3) := by decide +kernel
theorem dX2_putDue_48 : decode cX2_putDue 48 = .ok (.iload 4, 2) := by decide +kernel
theorem dX2_putDue_50 : decode cX2_putDue 50 = .ok (.iaload, 1) := by decide +kernel
theorem dX2_putDue_51 : decode cX2_putDue 51 = .ok (.iadd, 1) := by decide +kernel
theorem dX2_putDue_52 : decode cX2_putDue 52 = .ok (.iastore, 1) := by decide +kernel
theorem dX2_putDue_53 : decode cX2_putDue 53 = .ok (.aload_n 0, 1) := by decide +kernel
theorem dX2_putDue_54 : decode cX2_putDue 54 = .ok (.getfield 9, 3) := by decide +kernel
theorem dX2_putDue_57 : decode cX2_putDue 57 = .ok (.aload_n 1, 1) := by decide +kernel
theorem dX2_putDue_58 : decode cX2_putDue 58 = .ok (.iload 4, 2) := by decide +kernel
theorem dX2_putDue_60 : decode cX2_putDue 60 = .ok (.invokestatic 49, 3) := by decide +kernel
theorem dX2_putDue_63 : decode cX2_putDue 63 = .ok (.dup2, 1) := by decide +kernel
theorem dX2_putDue_64 : decode cX2_putDue 64 = .ok (.iaload, 1) := by decide +kernel
theorem dX2_putDue_65 : decode cX2_putDue 65 = .ok (.aload_n 1, 1) := by decide +kernel
theorem dX2_putDue_66 : decode cX2_putDue 66 = .ok (.getfield 53, 3) := by decide +kernel
theorem dX2_putDue_69 : decode cX2_putDue 69 = .ok (.iload 4, 2) := by decide +kernel
theorem dX2_putDue_71 : decode cX2_putDue 71 = .ok (.iaload, 1) := by decide +kernel
theorem dX2_putDue_72 : decode cX2_putDue 72 = .ok (.isub, 1) := by decide +kernel
theorem dX2_putDue_73 : decode cX2_putDue 73 = .ok (.iastore, 1) := by decide +kernel
theorem dX2_putDue_74 : decode cX2_putDue 74 = .ok (.iinc 4 1, 3) := by decide +kernel
theorem dX2_putDue_77 : decode cX2_putDue 77 = .ok (.goto (-51), 3) := by decide +kernel
theorem dX2_putDue_80 : decode cX2_putDue 80 = .ok (.return_, 1) := by decide +kernel
theorem dX2_placeOf_0 : decode cX2_placeOf 0 = .ok (.iconst 0, 1) := by decide +kernel
theorem dX2_placeOf_1 : decode cX2_placeOf 1 = .ok (.istore_n 2, 1) := by decide +kernel
theorem dX2_placeOf_2 : decode cX2_placeOf 2 = .ok (.iconst 0, 1) := by decide +kernel
theorem dX2_placeOf_3 : decode cX2_placeOf 3 = .ok (.istore_n 3, 1) := by decide +kernel
theorem dX2_placeOf_4 : decode cX2_placeOf 4 = .ok (.iload_n 3, 1) := by decide +kernel
theorem dX2_placeOf_5 : decode cX2_placeOf 5 = .ok (.aload_n 0, 1) := by decide +kernel
theorem dX2_placeOf_6 : decode cX2_placeOf 6 = .ok (.getfield 25, 3) := by decide +kernel
theorem dX2_placeOf_9 : decode cX2_placeOf 9 = .ok (.if_icmp .ge 47, 3) := by decide +kernel
theorem dX2_placeOf_12 : decode cX2_placeOf 12 = .ok (.aload_n 0, 1) := by decide +kernel
theorem dX2_placeOf_13 : decode cX2_placeOf 13 = .ok (.getfield 53, 3) := by decide +kernel
theorem dX2_placeOf_16 : decode cX2_placeOf 16 = .ok (.iload_n 3, 1) := by decide +kernel
theorem dX2_placeOf_17 : decode cX2_placeOf 17 = .ok (.iaload, 1) := by decide +kernel
theorem dX2_placeOf_18 : decode cX2_placeOf 18 = .ok (.aload_n 0, 1) := by decide +kernel
theorem dX2_placeOf_19 : decode cX2_placeOf 19 = .ok (.getfield 53, 3) := by decide +kernel
theorem dX2_placeOf_22 : decode cX2_placeOf 22 = .ok (.iload_n 1, 1) := by decide +kernel
theorem dX2_placeOf_23 : decode cX2_placeOf 23 = .ok (.iaload, 1) := by decide +kernel
theorem dX2_placeOf_24 : decode cX2_placeOf 24 = .ok (.if_icmp .lt 23, 3) := by decide +kernel
theorem dX2_placeOf_27 : decode cX2_placeOf 27 = .ok (.aload_n 0, 1) := by decide +kernel
theorem dX2_placeOf_28 : decode cX2_placeOf 28 = .ok (.getfield 53, 3) := by decide +kernel
theorem dX2_placeOf_31 : decode cX2_placeOf 31 = .ok (.iload_n 3, 1) := by decide +kernel
theorem dX2_placeOf_32 : decode cX2_placeOf 32 = .ok (.iaload, 1) := by decide +kernel
theorem dX2_placeOf_33 : decode cX2_placeOf 33 = .ok (.aload_n 0, 1) := by decide +kernel
theorem dX2_placeOf_34 : decode cX2_placeOf 34 = .ok (.getfield 53, 3) := by decide +kernel
theorem dX2_placeOf_37 : decode cX2_placeOf 37 = .ok (.iload_n 1, 1) := by decide +kernel
theorem dX2_placeOf_38 : decode cX2_placeOf 38 = .ok (.iaload, 1) := by decide +kernel
theorem dX2_placeOf_39 : decode cX2_placeOf 39 = .ok (.if_icmp .ne 11, 3) := by decide +kernel
theorem dX2_placeOf_42 : decode cX2_placeOf 42 = .ok (.iload_n 3, 1) := by decide +kernel
theorem dX2_placeOf_43 : decode cX2_placeOf 43 = .ok (.iload_n 1, 1) := by decide +kernel
theorem dX2_placeOf_44 : decode cX2_placeOf 44 = .ok (.if_icmp .ge 6, 3) := by decide +kernel
theorem dX2_placeOf_47 : decode cX2_placeOf 47 = .ok (.iinc 2 1, 3) := by decide +kernel
theorem dX2_placeOf_50 : decode cX2_placeOf 50 = .ok (.iinc 3 1, 3) := by decide +kernel
theorem dX2_placeOf_53 : decode cX2_placeOf 53 = .ok (.goto (-49), 3) := by decide +kernel
theorem dX2_placeOf_56 : decode cX2_placeOf 56 = .ok (.iload_n 2, 1) := by decide +kernel
theorem dX2_placeOf_57 : decode cX2_placeOf 57 = .ok (.ireturn, 1) := by decide +kernel
theorem dX2_findSums_0 : decode cX2_findSums 0 = .ok (.aload_n 0, 1) := by decide +kernel
theorem dX2_findSums_1 : decode cX2_findSums 1 = .ok (.getfield 15, 3) := by decide +kernel
theorem dX2_findSums_4 : decode cX2_findSums 4 = .ok (.iconst 0, 1) := by decide +kernel
theorem dX2_findSums_5 : decode cX2_findSums 5 = .ok (.iconst 0, 1) := by decide +kernel
theorem dX2_findSums_6 : decode cX2_findSums 6 = .ok (.iastore, 1) := by decide +kernel
theorem dX2_findSums_7 : decode cX2_findSums 7 = .ok (.aload_n 0, 1) := by decide +kernel
theorem dX2_findSums_8 : decode cX2_findSums 8 = .ok (.getfield 18, 3) := by decide +kernel
theorem dX2_findSums_11 : decode cX2_findSums 11 = .ok (.iconst 0, 1) := by decide +kernel
theorem dX2_findSums_12 : decode cX2_findSums 12 = .ok (.iconst 1, 1) := by decide +kernel
theorem dX2_findSums_13 : decode cX2_findSums 13 = .ok (.bastore, 1) := by decide +kernel
theorem dX2_findSums_14 : decode cX2_findSums 14 = .ok (.iconst 0, 1) := by decide +kernel
theorem dX2_findSums_15 : decode cX2_findSums 15 = .ok (.istore_n 2, 1) := by decide +kernel
theorem dX2_findSums_16 : decode cX2_findSums 16 = .ok (.iload_n 2, 1) := by decide +kernel
theorem dX2_findSums_17 : decode cX2_findSums 17 = .ok (.iload_n 1, 1) := by decide +kernel
theorem dX2_findSums_18 : decode cX2_findSums 18 = .ok (.if_icmp .ge 87, 3) := by decide +kernel
theorem dX2_findSums_21 : decode cX2_findSums 21 = .ok (.iconst 1, 1) := by decide +kernel
theorem dX2_findSums_22 : decode cX2_findSums 22 = .ok (.iload_n 2, 1) := by decide +kernel
theorem dX2_findSums_23 : decode cX2_findSums 23 = .ok (.ishl, 1) := by decide +kernel
theorem dX2_findSums_24 : decode cX2_findSums 24 = .ok (.istore_n 3, 1) := by decide +kernel
theorem dX2_findSums_25 : decode cX2_findSums 25 = .ok (.iconst 0, 1) := by decide +kernel
theorem dX2_findSums_26 : decode cX2_findSums 26 = .ok (.istore 4, 2) := by decide +kernel
theorem dX2_findSums_28 : decode cX2_findSums 28 = .ok (.iload 4, 2) := by decide +kernel
theorem dX2_findSums_30 : decode cX2_findSums 30 = .ok (.iload_n 3, 1) := by decide +kernel
theorem dX2_findSums_31 : decode cX2_findSums 31 = .ok (.if_icmp .ge 68, 3) := by decide +kernel
theorem dX2_findSums_34 : decode cX2_findSums 34 = .ok (.aload_n 0, 1) := by decide +kernel
theorem dX2_findSums_35 : decode cX2_findSums 35 = .ok (.getfield 15, 3) := by decide +kernel
theorem dX2_findSums_38 : decode cX2_findSums 38 = .ok (.iload_n 3, 1) := by decide +kernel
theorem dX2_findSums_39 : decode cX2_findSums 39 = .ok (.iload 4, 2) := by decide +kernel
theorem dX2_findSums_41 : decode cX2_findSums 41 = .ok (.iadd, 1) := by decide +kernel
theorem dX2_findSums_42 : decode cX2_findSums 42 = .ok (.aload_n 0, 1) := by decide +kernel
theorem dX2_findSums_43 : decode cX2_findSums 43 = .ok (.getfield 15, 3) := by decide +kernel
theorem dX2_findSums_46 : decode cX2_findSums 46 = .ok (.iload 4, 2) := by decide +kernel
theorem dX2_findSums_48 : decode cX2_findSums 48 = .ok (.iaload, 1) := by decide +kernel
theorem dX2_findSums_49 : decode cX2_findSums 49 = .ok (.aload_n 0, 1) := by decide +kernel
theorem dX2_findSums_50 : decode cX2_findSums 50 = .ok (.getfield 9, 3) := by decide +kernel
theorem dX2_findSums_53 : decode cX2_findSums 53 = .ok (.iload_n 2, 1) := by decide +kernel
theorem dX2_findSums_54 : decode cX2_findSums 54 = .ok (.iaload, 1) := by decide +kernel
theorem dX2_findSums_55 : decode cX2_findSums 55 = .ok (.iadd, 1) := by decide +kernel
theorem dX2_findSums_56 : decode cX2_findSums 56 = .ok (.iastore, 1) := by decide +kernel
theorem dX2_findSums_57 : decode cX2_findSums 57 = .ok (.aload_n 0, 1) := by decide +kernel
theorem dX2_findSums_58 : decode cX2_findSums 58 = .ok (.getfield 18, 3) := by decide +kernel
theorem dX2_findSums_61 : decode cX2_findSums 61 = .ok (.iload_n 3, 1) := by decide +kernel
theorem dX2_findSums_62 : decode cX2_findSums 62 = .ok (.iload 4, 2) := by decide +kernel
theorem dX2_findSums_64 : decode cX2_findSums 64 = .ok (.iadd, 1) := by decide +kernel
theorem dX2_findSums_65 : decode cX2_findSums 65 = .ok (.aload_n 0, 1) := by decide +kernel
theorem dX2_findSums_66 : decode cX2_findSums 66 = .ok (.getfield 18, 3) := by decide +kernel
theorem dX2_findSums_69 : decode cX2_findSums 69 = .ok (.iload 4, 2) := by decide +kernel
theorem dX2_findSums_71 : decode cX2_findSums 71 = .ok (.baload, 1) := by decide +kernel
theorem dX2_findSums_72 : decode cX2_findSums 72 = .ok (.ifCond .eq 19, 3) := by decide +kernel
theorem dX2_findSums_75 : decode cX2_findSums 75 = .ok (.aload_n 0, 1) := by decide +kernel
theorem dX2_findSums_76 : decode cX2_findSums 76 = .ok (.getfield 15, 3) := by decide +kernel
theorem dX2_findSums_79 : decode cX2_findSums 79 = .ok (.iload_n 3, 1) := by decide +kernel
theorem dX2_findSums_80 : decode cX2_findSums 80 = .ok (.iload 4, 2) := by decide +kernel
theorem dX2_findSums_82 : decode cX2_findSums 82 = .ok (.iadd, 1) := by decide +kernel
theorem dX2_findSums_83 : decode cX2_findSums 83 = .ok (.iaload, 1) := by decide +kernel
theorem dX2_findSums_84 : decode cX2_findSums 84 = .ok (.ifCond .lt 7, 3) := by decide +kernel
theorem dX2_findSums_87 : decode cX2_findSums 87 = .ok (.iconst 1, 1) := by decide +kernel
theorem dX2_findSums_88 : decode cX2_findSums 88 = .ok (.goto 4, 3) := by decide +kernel
theorem dX2_findSums_91 : decode cX2_findSums 91 = .ok (.iconst 0, 1) := by decide +kernel
theorem dX2_findSums_92 : decode cX2_findSums 92 = .ok (.bastore, 1) := by decide +kernel
theorem dX2_findSums_93 : decode cX2_findSums 93 = .ok (.iinc 4 1, 3) := by decide +kernel
theorem dX2_findSums_96 : decode cX2_findSums 96 = .ok (.goto (-68), 3) := by decide +kernel
theorem dX2_findSums_99 : decode cX2_findSums 99 = .ok (.iinc 2 1, 3) := by decide +kernel
theorem dX2_findSums_102 : decode cX2_findSums 102 = .ok (.goto (-86), 3) := by decide +kernel
theorem dX2_findSums_105 : decode cX2_findSums 105 = .ok (.return_, 1) := by decide +kernel
theorem dX2_mostGroups_0 : decode cX2_mostGroups 0 = .ok (.bipush (-8), 2) := by decide +kernel
theorem dX2_mostGroups_2 : decode cX2_mostGroups 2 = .ok (.istore_n 2, 1) := by decide +kernel
theorem dX2_mostGroups_3 : decode cX2_mostGroups 3 = .ok (.iload_n 1, 1) := by decide +kernel
theorem dX2_mostGroups_4 : decode cX2_mostGroups 4 = .ok (.iload_n 1, 1) := by decide +kernel
theorem dX2_mostGroups_5 : decode cX2_mostGroups 5 = .ok (.ineg, 1) := by decide +kernel
theorem dX2_mostGroups_6 : decode cX2_mostGroups 6 = .ok (.iand, 1) := by decide +kernel
theorem dX2_mostGroups_7 : decode cX2_mostGroups 7 = .ok (.istore_n 3, 1) := by decide +kernel
theorem dX2_mostGroups_8 : decode cX2_mostGroups 8 = .ok (.iload_n 1, 1) := by decide +kernel
theorem dX2_mostGroups_9 : decode cX2_mostGroups 9 = .ok (.iload_n 3, 1) := by decide +kernel
theorem dX2_mostGroups_10 : decode cX2_mostGroups 10 = .ok (.isub, 1) := by decide +kernel
theorem dX2_mostGroups_11 : decode cX2_mostGroups 11 = .ok (.istore 4, 2) := by decide +kernel
theorem dX2_mostGroups_13 : decode cX2_mostGroups 13 = .ok (.iload 4, 2) := by decide +kernel
theorem dX2_mostGroups_15 : decode cX2_mostGroups 15 = .ok (.istore 5, 2) := by decide +kernel
theorem dX2_mostGroups_17 : decode cX2_mostGroups 17 = .ok (.iconst 0, 1) := by decide +kernel
theorem dX2_mostGroups_18 : decode cX2_mostGroups 18 = .ok (.istore 6, 2) := by decide +kernel
theorem dX2_mostGroups_20 : decode cX2_mostGroups 20 = .ok (.iload 6, 2) := by decide +kernel
theorem dX2_mostGroups_22 : decode cX2_mostGroups 22 = .ok (.sipush 256, 3) := by decide +kernel
theorem dX2_mostGroups_25 : decode cX2_mostGroups 25 = .ok (.if_icmp .ge 68, 3) := by decide +kernel
theorem dX2_mostGroups_28 : decode cX2_mostGroups 28 = .ok (.iload 5, 2) := by decide +kernel
theorem dX2_mostGroups_30 : decode cX2_mostGroups 30 = .ok (.iload_n 3, 1) := by decide +kernel
theorem dX2_mostGroups_31 : decode cX2_mostGroups 31 = .ok (.iadd, 1) := by decide +kernel
theorem dX2_mostGroups_32 : decode cX2_mostGroups 32 = .ok (.istore 7, 2) := by decide +kernel
theorem dX2_mostGroups_34 : decode cX2_mostGroups 34 = .ok (.aload_n 0, 1) := by decide +kernel
theorem dX2_mostGroups_35 : decode cX2_mostGroups 35 = .ok (.getfield 15, 3) := by decide +kernel
theorem dX2_mostGroups_38 : decode cX2_mostGroups 38 = .ok (.iload 7, 2) := by decide +kernel
theorem dX2_mostGroups_40 : decode cX2_mostGroups 40 = .ok (.iaload, 1) := by decide +kernel
theorem dX2_mostGroups_41 : decode cX2_mostGroups 41 = .ok (.ifCond .ne 29, 3) := by decide +kernel
theorem dX2_mostGroups_44 : decode cX2_mostGroups 44 = .ok (.aload_n 0, 1) := by decide +kernel
theorem dX2_mostGroups_45 : decode cX2_mostGroups 45 = .ok (.getfield 18, 3) := by decide +kernel
theorem dX2_mostGroups_48 : decode cX2_mostGroups 48 = .ok (.iload 7, 2) := by decide +kernel
theorem dX2_mostGroups_50 : decode cX2_mostGroups 50 = .ok (.baload, 1) := by decide +kernel
theorem dX2_mostGroups_51 : decode cX2_mostGroups 51 = .ok (.ifCond .eq 19, 3) := by decide +kernel
theorem dX2_mostGroups_54 : decode cX2_mostGroups 54 = .ok (.iload_n 2, 1) := by decide +kernel
theorem dX2_mostGroups_55 : decode cX2_mostGroups 55 = .ok (.aload_n 0, 1) := by decide +kernel
theorem dX2_mostGroups_56 : decode cX2_mostGroups 56 = .ok (.getfield 22, 3) := by decide +kernel
theorem dX2_mostGroups_59 : decode cX2_mostGroups 59 = .ok (.iload_n 1, 1) := by decide +kernel
theorem dX2_mostGroups_60 : decode cX2_mostGroups 60 = .ok (.iload 7, 2) := by decide +kernel
theorem dX2_mostGroups_62 : decode cX2_mostGroups 62 = .ok (.isub, 1) := by decide +kernel
theorem dX2_mostGroups_63 : decode cX2_mostGroups 63 = .ok (.iaload, 1) := by decide +kernel
theorem dX2_mostGroups_64 : decode cX2_mostGroups 64 = .ok (.iconst 1, 1) := by decide +kernel
theorem dX2_mostGroups_65 : decode cX2_mostGroups 65 = .ok (.iadd, 1) := by decide +kernel
theorem dX2_mostGroups_66 : decode cX2_mostGroups 66 = .ok (.invokestatic 56, 3) := by decide +kernel
theorem dX2_mostGroups_69 : decode cX2_mostGroups 69 = .ok (.istore_n 2, 1) := by decide +kernel
theorem dX2_mostGroups_70 : decode cX2_mostGroups 70 = .ok (.iload 5, 2) := by decide +kernel
theorem dX2_mostGroups_72 : decode cX2_mostGroups 72 = .ok (.ifCond .ne 6, 3) := by decide +kernel
theorem dX2_mostGroups_75 : decode cX2_mostGroups 75 = .ok (.goto 18, 3) := by decide +kernel
theorem dX2_mostGroups_78 : decode cX2_mostGroups 78 = .ok (.iload 5, 2) := by decide +kernel
theorem dX2_mostGroups_80 : decode cX2_mostGroups 80 = .ok (.iconst 1, 1) := by decide +kernel
theorem dX2_mostGroups_81 : decode cX2_mostGroups 81 = .ok (.isub, 1) := by decide +kernel
theorem dX2_mostGroups_82 : decode cX2_mostGroups 82 = .ok (.iload 4, 2) := by decide +kernel
theorem dX2_mostGroups_84 : decode cX2_mostGroups 84 = .ok (.iand, 1) := by decide +kernel
theorem dX2_mostGroups_85 : decode cX2_mostGroups 85 = .ok (.istore 5, 2) := by decide +kernel
theorem dX2_mostGroups_87 : decode cX2_mostGroups 87 = .ok (.iinc 6 1, 3) := by decide +kernel
theorem dX2_mostGroups_90 : decode cX2_mostGroups 90 = .ok (.goto (-70), 3) := by decide +kernel
theorem dX2_mostGroups_93 : decode cX2_mostGroups 93 = .ok (.iload_n 2, 1) := by decide +kernel
theorem dX2_mostGroups_94 : decode cX2_mostGroups 94 = .ok (.ireturn, 1) := by decide +kernel
theorem dX3_init_0 : decode cX3_init 0 = .ok (.aload_n 0, 1) := by decide +kernel
theorem dX3_init_1 : decode cX3_init 1 = .ok (.invokespecial 3, 3) := by decide +kernel
theorem dX3_init_4 : decode cX3_init 4 = .ok (.aload_n 0, 1) := by decide +kernel
theorem dX3_init_5 : decode cX3_init 5 = .ok (.bipush 8, 2) := by decide +kernel
theorem dX3_init_7 : decode cX3_init 7 = .ok (.newarray .long, 2) := by decide +kernel
theorem dX3_init_9 : decode cX3_init 9 = .ok (.putfield 9, 3) := by decide +kernel
theorem dX3_init_12 : decode cX3_init 12 = .ok (.aload_n 0, 1) := by decide +kernel
theorem dX3_init_13 : decode cX3_init 13 = .ok (.bipush 8, 2) := by decide +kernel
theorem dX3_init_15 : decode cX3_init 15 = .ok (.newarray .long, 2) := by decide +kernel
theorem dX3_init_17 : decode cX3_init 17 = .ok (.putfield 15, 3) := by decide +kernel
theorem dX3_init_20 : decode cX3_init 20 = .ok (.return_, 1) := by decide +kernel
theorem dX3_look_0 : decode cX3_look 0 = .ok (.aload_n 0, 1) := by decide +kernel
theorem dX3_look_1 : decode cX3_look 1 = .ok (.iconst 0, 1) := by decide +kernel
theorem dX3_look_2 : decode cX3_look 2 = .ok (.putfield 18, 3) := by decide +kernel
theorem dX3_look_5 : decode cX3_look 5 = .ok (.aload_n 0, 1) := by decide +kernel
theorem dX3_look_6 : decode cX3_look 6 = .ok (.lconst 0, 1) := by decide +kernel
theorem dX3_look_7 : decode cX3_look 7 = .ok (.putfield 22, 3) := by decide +kernel
theorem dX3_look_10 : decode cX3_look 10 = .ok (.aload_n 0, 1) := by decide +kernel
theorem dX3_look_11 : decode cX3_look 11 = .ok (.lconst 0, 1) := by decide +kernel
theorem dX3_look_12 : decode cX3_look 12 = .ok (.putfield 26, 3) := by decide +kernel
theorem dX3_look_15 : decode cX3_look 15 = .ok (.iconst 0, 1) := by decide +kernel
theorem dX3_look_16 : decode cX3_look 16 = .ok (.istore 4, 2) := by decide +kernel
theorem dX3_look_18 : decode cX3_look 18 = .ok (.iload 4, 2) := by decide +kernel
theorem dX3_look_20 : decode cX3_look 20 = .ok (.aload_n 1, 1) := by decide +kernel
theorem dX3_look_21 : decode cX3_look 21 = .ok (.getfield 29, 3) := by decide +kernel
theorem dX3_look_24 : decode cX3_look 24 = .ok (.if_icmp .ge 36, 3) := by decide +kernel
theorem dX3_look_27 : decode cX3_look 27 = .ok (.aload_n 0, 1) := by decide +kernel
theorem dX3_look_28 : decode cX3_look 28 = .ok (.aload_n 1, 1) := by decide +kernel
theorem dX3_look_29 : decode cX3_look 29 = .ok (.iload 4, 2) := by decide +kernel
theorem dX3_look_31 : decode cX3_look 31 = .ok (.iload_n 2, 1) := by decide +kernel
theorem dX3_look_32 : decode cX3_look 32 = .ok (.invokestatic 34, 3) := by decide +kernel
theorem dX3_look_35 : decode cX3_look 35 = .ok (.iload_n 2, 1) := by decide +kernel
theorem dX3_look_36 : decode cX3_look 36 = .ok (.ifCond .ne 7, 3) := by decide +kernel
theorem dX3_look_39 : decode cX3_look 39 = .ok (.lconst 1, 1) := by decide +kernel
theorem dX3_look_40 : decode cX3_look 40 = .ok (.goto 11, 3) := by decide +kernel
theorem dX3_look_43 : decode cX3_look 43 = .ok (.aload_n 1, 1) := by decide +kernel
theorem dX3_look_44 : decode cX3_look 44 = .ok (.getfield 38, 3) := by decide +kernel
theorem dX3_look_47 : decode cX3_look 47 = .ok (.iload 4, 2) := by decide +kernel
theorem dX3_look_49 : decode cX3_look 49 = .ok (.iaload, 1) := by decide +kernel
theorem dX3_look_50 : decode cX3_look 50 = .ok (.i2l, 1) := by decide +kernel
theorem dX3_look_51 : decode cX3_look 51 = .ok (.invokevirtual 42, 3) := by decide +kernel
theorem dX3_look_54 : decode cX3_look 54 = .ok (.iinc 4 1, 3) := by decide +kernel
theorem dX3_look_57 : decode cX3_look 57 = .ok (.goto (-39), 3) := by decide +kernel
theorem dX3_look_60 : decode cX3_look 60 = .ok (.iload_n 3, 1) := by decide +kernel
theorem dX3_look_61 : decode cX3_look 61 = .ok (.ifCond .eq 16, 3) := by decide +kernel
theorem dX3_look_64 : decode cX3_look 64 = .ok (.aload_n 0, 1) := by decide +kernel
theorem dX3_look_65 : decode cX3_look 65 = .ok (.getfield 26, 3) := by decide +kernel
theorem dX3_look_68 : decode cX3_look 68 = .ok (.lconst 0, 1) := by decide +kernel
theorem dX3_look_69 : decode cX3_look 69 = .ok (.lcmp, 1) := by decide +kernel
theorem dX3_look_70 : decode cX3_look 70 = .ok (.ifCond .ne 7, 3) := by decide +kernel
theorem dX3_look_73 : decode cX3_look 73 = .ok (.aload_n 0, 1) := by decide +kernel
theorem dX3_look_74 : decode cX3_look 74 = .ok (.invokevirtual 46, 3) := by decide +kernel
theorem dX3_look_77 : decode cX3_look 77 = .ok (.return_, 1) := by decide +kernel
theorem dX3_headHas_0 : decode cX3_headHas 0 = .ok (.sipush 2520, 3) := by decide +kernel
theorem dX3_headHas_3 : decode cX3_headHas 3 = .ok (.aload_n 0, 1) := by decide +kernel
theorem dX3_headHas_4 : decode cX3_headHas 4 = .ok (.getfield 49, 3) := by decide +kernel
theorem dX3_headHas_7 : decode cX3_headHas 7 = .ok (.iload_n 1, 1) := by decide +kernel
theorem dX3_headHas_8 : decode cX3_headHas 8 = .ok (.iaload, 1) := by decide +kernel
theorem dX3_headHas_9 : decode cX3_headHas 9 = .ok (.imul, 1) := by decide +kernel
theorem dX3_headHas_10 : decode cX3_headHas 10 = .ok (.istore_n 3, 1) := by decide +kernel
theorem dX3_headHas_11 : decode cX3_headHas 11 = .ok (.iload_n 2, 1) := by decide +kernel
theorem dX3_headHas_12 : decode cX3_headHas 12 = .ok (.ifCond .eq 13, 3) := by decide +kernel
theorem dX3_headHas_15 : decode cX3_headHas 15 = .ok (.aload_n 0, 1) := by decide +kernel
theorem dX3_headHas_16 : decode cX3_headHas 16 = .ok (.getfield 38, 3) := by decide +kernel
theorem dX3_headHas_19 : decode cX3_headHas 19 = .ok (.iload_n 1, 1) := by decide +kernel
theorem dX3_headHas_20 : decode cX3_headHas 20 = .ok (.iaload, 1) := by decide +kernel
theorem dX3_headHas_21 : decode cX3_headHas 21 = .ok (.iconst 1, 1) := by decide +kernel
theorem dX3_headHas_22 : decode cX3_headHas 22 = .ok (.if_icmp .ge 6, 3) := by decide +kernel
theorem dX3_headHas_25 : decode cX3_headHas 25 = .ok (.iload_n 3, 1) := by decide +kernel
theorem dX3_headHas_26 : decode cX3_headHas 26 = .ok (.i2l, 1) := by decide +kernel
theorem dX3_headHas_27 : decode cX3_headHas 27 = .ok (.lreturn, 1) := by decide +kernel
theorem dX3_headHas_28 : decode cX3_headHas 28 = .ok (.iload_n 2, 1) := by decide +kernel
theorem dX3_headHas_29 : decode cX3_headHas 29 = .ok (.iconst 1, 1) := by decide +kernel
theorem dX3_headHas_30 : decode cX3_headHas 30 = .ok (.if_icmp .ne 15, 3) := by decide +kernel
theorem dX3_headHas_33 : decode cX3_headHas 33 = .ok (.iload_n 3, 1) := by decide +kernel
theorem dX3_headHas_34 : decode cX3_headHas 34 = .ok (.aload_n 0, 1) := by decide +kernel
theorem dX3_headHas_35 : decode cX3_headHas 35 = .ok (.getfield 38, 3) := by decide +kernel
theorem dX3_headHas_38 : decode cX3_headHas 38 = .ok (.iload_n 1, 1) := by decide +kernel
theorem dX3_headHas_39 : decode cX3_headHas 39 = .ok (.iaload, 1) := by decide +kernel
theorem dX3_headHas_40 : decode cX3_headHas 40 = .ok (.idiv, 1) := by decide +kernel
theorem dX3_headHas_41 : decode cX3_headHas 41 = .ok (.i2l, 1) := by decide +kernel
theorem dX3_headHas_42 : decode cX3_headHas 42 = .ok (.goto 16, 3) := by decide +kernel
theorem dX3_headHas_45 : decode cX3_headHas 45 = .ok (.iconst 2, 1) := by decide +kernel
theorem dX3_headHas_46 : decode cX3_headHas 46 = .ok (.iload_n 3, 1) := by decide +kernel
theorem dX3_headHas_47 : decode cX3_headHas 47 = .ok (.imul, 1) := by decide +kernel
theorem dX3_headHas_48 : decode cX3_headHas 48 = .ok (.aload_n 0, 1) := by decide +kernel
theorem dX3_headHas_49 : decode cX3_headHas 49 = .ok (.getfield 38, 3) := by decide +kernel
theorem dX3_headHas_52 : decode cX3_headHas 52 = .ok (.iload_n 1, 1) := by decide +kernel
theorem dX3_headHas_53 : decode cX3_headHas 53 = .ok (.iaload, 1) := by decide +kernel
theorem dX3_headHas_54 : decode cX3_headHas 54 = .ok (.iconst 1, 1) := by decide +kernel
theorem dX3_headHas_55 : decode cX3_headHas 55 = .ok (.iadd, 1) := by decide +kernel
theorem dX3_headHas_56 : decode cX3_headHas 56 = .ok (.idiv, 1) := by decide +kernel
theorem dX3_headHas_57 : decode cX3_headHas 57 = .ok (.i2l, 1) := by decide +kernel
theorem dX3_headHas_58 : decode cX3_headHas 58 = .ok (.lreturn, 1) := by decide +kernel
theorem dX3_insert_0 : decode cX3_insert 0 = .ok (.aload_n 0, 1) := by decide +kernel
theorem dX3_insert_1 : decode cX3_insert 1 = .ok (.getfield 18, 3) := by decide +kernel
theorem dX3_insert_4 : decode cX3_insert 4 = .ok (.bipush 8, 2) := by decide +kernel
theorem dX3_insert_6 : decode cX3_insert 6 = .ok (.if_icmp .lt 4, 3) := by decide +kernel
theorem dX3_insert_9 : decode cX3_insert 9 = .ok (.return_, 1) := by decide +kernel
theorem dX3_insert_10 : decode cX3_insert 10 = .ok (.aload_n 0, 1) := by decide +kernel
theorem dX3_insert_11 : decode cX3_insert 11 = .ok (.getfield 18, 3) := by decide +kernel
theorem dX3_insert_14 : decode cX3_insert 14 = .ok (.istore 5, 2) := by decide +kernel
theorem dX3_insert_16 : decode cX3_insert 16 = .ok (.iload 5, 2) := by decide +kernel
theorem dX3_insert_18 : decode cX3_insert 18 = .ok (.ifCond .le 55, 3) := by decide +kernel
theorem dX3_insert_21 : decode cX3_insert 21 = .ok (.aload_n 0, 1) := by decide +kernel
theorem dX3_insert_22 : decode cX3_insert 22 = .ok (.getfield 15, 3) := by decide +kernel
theorem dX3_insert_25 : decode cX3_insert 25 = .ok (.iload 5, 2) := by decide +kernel
theorem dX3_insert_27 : decode cX3_insert 27 = .ok (.iconst 1, 1) := by decide +kernel
theorem dX3_insert_28 : decode cX3_insert 28 = .ok (.isub, 1) := by decide +kernel
theorem dX3_insert_29 : decode cX3_insert 29 = .ok (.laload, 1) := by decide +kernel
theorem dX3_insert_30 : decode cX3_insert 30 = .ok (.lload_n 1, 1) := by decide +kernel
theorem dX3_insert_31 : decode cX3_insert 31 = .ok (.lcmp, 1) := by decide +kernel
theorem dX3_insert_32 : decode cX3_insert 32 = .ok (.ifCond .le 41, 3) := by decide +kernel
theorem dX3_insert_35 : decode cX3_insert 35 = .ok (.aload_n 0, 1) := by decide +kernel
theorem dX3_insert_36 : decode cX3_insert 36 = .ok (.getfield 15, 3) := by decide +kernel
theorem dX3_insert_39 : decode cX3_insert 39 = .ok (.iload 5, 2) := by decide +kernel
theorem dX3_insert_41 : decode cX3_insert 41 = .ok (.aload_n 0, 1) := by decide +kernel
theorem dX3_insert_42 : decode cX3_insert 42 = .ok (.getfield 15, 3) := by decide +kernel
theorem dX3_insert_45 : decode cX3_insert 45 = .ok (.iload 5, 2) := by decide +kernel
theorem dX3_insert_47 : decode cX3_insert 47 = .ok (.iconst 1, 1) := by decide +kernel
theorem dX3_insert_48 : decode cX3_insert 48 = .ok (.isub, 1) := by decide +kernel
theorem dX3_insert_49 : decode cX3_insert 49 = .ok (.laload, 1) := by decide +kernel
theorem dX3_insert_50 : decode cX3_insert 50 = .ok (.lastore, 1) := by decide +kernel
theorem dX3_insert_51 : decode cX3_insert 51 = .ok (.aload_n 0, 1) := by decide +kernel
theorem dX3_insert_52 : decode cX3_insert 52 = .ok (.getfield 9, 3) := by decide +kernel
theorem dX3_insert_55 : decode cX3_insert 55 = .ok (.iload 5, 2) := by decide +kernel
theorem dX3_insert_57 : decode cX3_insert 57 = .ok (.aload_n 0, 1) := by decide +kernel
theorem dX3_insert_58 : decode cX3_insert 58 = .ok (.getfield 9, 3) := by decide +kernel
theorem dX3_insert_61 : decode cX3_insert 61 = .ok (.iload 5, 2) := by decide +kernel
theorem dX3_insert_63 : decode cX3_insert 63 = .ok (.iconst 1, 1) := by decide +kernel
theorem dX3_insert_64 : decode cX3_insert 64 = .ok (.isub, 1) := by decide +kernel
theorem dX3_insert_65 : decode cX3_insert 65 = .ok (.laload, 1) := by decide +kernel
theorem dX3_insert_66 : decode cX3_insert 66 = .ok (.lastore, 1) := by decide +kernel
theorem dX3_insert_67 : decode cX3_insert 67 = .ok (.iinc 5 (-1), 3) := by decide +kernel
theorem dX3_insert_70 : decode cX3_insert 70 = .ok (.goto (-54), 3) := by decide +kernel
theorem dX3_insert_73 : decode cX3_insert 73 = .ok (.aload_n 0, 1) := by decide +kernel
theorem dX3_insert_74 : decode cX3_insert 74 = .ok (.getfield 15, 3) := by decide +kernel
theorem dX3_insert_77 : decode cX3_insert 77 = .ok (.iload 5, 2) := by decide +kernel
theorem dX3_insert_79 : decode cX3_insert 79 = .ok (.lload_n 1, 1) := by decide +kernel
theorem dX3_insert_80 : decode cX3_insert 80 = .ok (.lastore, 1) := by decide +kernel
theorem dX3_insert_81 : decode cX3_insert 81 = .ok (.aload_n 0, 1) := by decide +kernel
theorem dX3_insert_82 : decode cX3_insert 82 = .ok (.getfield 9, 3) := by decide +kernel
theorem dX3_insert_85 : decode cX3_insert 85 = .ok (.iload 5, 2) := by decide +kernel
theorem dX3_insert_87 : decode cX3_insert 87 = .ok (.lload_n 3, 1) := by decide +kernel
theorem dX3_insert_88 : decode cX3_insert 88 = .ok (.lastore, 1) := by decide +kernel
theorem dX3_insert_89 : decode cX3_insert 89 = .ok (.aload_n 0, 1) := by decide +kernel
theorem dX3_insert_90 : decode cX3_insert 90 = .ok (.dup, 1) := by decide +kernel
theorem dX3_insert_91 : decode cX3_insert 91 = .ok (.getfield 18, 3) := by decide +kernel
theorem dX3_insert_94 : decode cX3_insert 94 = .ok (.iconst 1, 1) := by decide +kernel
theorem dX3_insert_95 : decode cX3_insert 95 = .ok (.iadd, 1) := by decide +kernel
theorem dX3_insert_96 : decode cX3_insert 96 = .ok (.putfield 18, 3) := by decide +kernel
theorem dX3_insert_99 : decode cX3_insert 99 = .ok (.aload_n 0, 1) := by decide +kernel
theorem dX3_insert_100 : decode cX3_insert 100 = .ok (.dup, 1) := by decide +kernel
theorem dX3_insert_101 : decode cX3_insert 101 = .ok (.getfield 22, 3) := by decide +kernel
theorem dX3_insert_104 : decode cX3_insert 104 = .ok (.lload_n 3, 1) := by decide +kernel
theorem dX3_insert_105 : decode cX3_insert 105 = .ok (.ladd, 1) := by decide +kernel
theorem dX3_insert_106 : decode cX3_insert 106 = .ok (.putfield 22, 3) := by decide +kernel
theorem dX3_insert_109 : decode cX3_insert 109 = .ok (.aload_n 0, 1) := by decide +kernel
theorem dX3_insert_110 : decode cX3_insert 110 = .ok (.dup, 1) := by decide +kernel
theorem dX3_insert_111 : decode cX3_insert 111 = .ok (.getfield 26, 3) := by decide +kernel
theorem dX3_insert_114 : decode cX3_insert 114 = .ok (.lload_n 1, 1) := by decide +kernel
theorem dX3_insert_115 : decode cX3_insert 115 = .ok (.lload_n 3, 1) := by decide +kernel
theorem dX3_insert_116 : decode cX3_insert 116 = .ok (.lmul, 1) := by decide +kernel
theorem dX3_insert_117 : decode cX3_insert 117 = .ok (.ladd, 1) := by decide +kernel
theorem dX3_insert_118 : decode cX3_insert 118 = .ok (.putfield 26, 3) := by decide +kernel
theorem dX3_insert_121 : decode cX3_insert 121 = .ok (.return_, 1) := by decide +kernel
theorem dX3_giveEachOne_0 : decode cX3_giveEachOne 0 = .ok (.iconst 0, 1) := by decide +kernel
theorem dX3_giveEachOne_1 : decode cX3_giveEachOne 1 = .ok (.istore_n 1, 1) := by decide +kernel
theorem dX3_giveEachOne_2 : decode cX3_giveEachOne 2 = .ok (.iload_n 1, 1) := by decide +kernel
theorem dX3_giveEachOne_3 : decode cX3_giveEachOne 3 = .ok (.aload_n 0, 1) := by decide +kernel
theorem dX3_giveEachOne_4 : decode cX3_giveEachOne 4 = .ok (.getfield 18, 3) := by decide +kernel
theorem dX3_giveEachOne_7 : decode cX3_giveEachOne 7 = .ok (.if_icmp .ge 16, 3) := by decide +kernel
theorem dX3_giveEachOne_10 : decode cX3_giveEachOne 10 = .ok (.aload_n 0, 1) := by decide +kernel
theorem dX3_giveEachOne_11 : decode cX3_giveEachOne 11 = .ok (.getfield 15, 3) := by decide +kernel
theorem dX3_giveEachOne_14 : decode cX3_giveEachOne 14 = .ok (.iload_n 1, 1) := by decide +kernel
theorem dX3_giveEachOne_15 : decode cX3_giveEachOne 15 = .ok (.lconst 1, 1) := by decide +kernel
theorem dX3_giveEachOne_16 : decode cX3_giveEachOne 16 = .ok (.lastore, 1) := by decide +kernel
theorem dX3_giveEachOne_17 : decode cX3_giveEachOne 17 = .ok (.iinc 1 1, 3) := by decide +kernel
theorem dX3_giveEachOne_20 : decode cX3_giveEachOne 20 = .ok (.goto (-18), 3) := by decide +kernel
theorem dX3_giveEachOne_23 : decode cX3_giveEachOne 23 = .ok (.aload_n 0, 1) := by decide +kernel
theorem dX3_giveEachOne_24 : decode cX3_giveEachOne 24 = .ok (.aload_n 0, 1) := by decide +kernel
theorem dX3_giveEachOne_25 : decode cX3_giveEachOne 25 = .ok (.getfield 22, 3) := by decide +kernel
theorem dX3_giveEachOne_28 : decode cX3_giveEachOne 28 = .ok (.putfield 26, 3) := by decide +kernel
theorem dX3_giveEachOne_31 : decode cX3_giveEachOne 31 = .ok (.return_, 1) := by decide +kernel
theorem dX3_heldByShare_0 : decode cX3_heldByShare 0 = .ok (.iload_n 1, 1) := by decide +kernel
theorem dX3_heldByShare_1 : decode cX3_heldByShare 1 = .ok (.i2l, 1) := by decide +kernel
theorem dX3_heldByShare_2 : decode cX3_heldByShare 2 = .ok (.aload_n 0, 1) := by decide +kernel
theorem dX3_heldByShare_3 : decode cX3_heldByShare 3 = .ok (.getfield 22, 3) := by decide +kernel
theorem dX3_heldByShare_6 : decode cX3_heldByShare 6 = .ok (.lmul, 1) := by decide +kernel
theorem dX3_heldByShare_7 : decode cX3_heldByShare 7 = .ok (.lstore_n 3, 1) := by decide +kernel
theorem dX3_heldByShare_8 : decode cX3_heldByShare 8 = .ok (.lconst 0, 1) := by decide +kernel
theorem dX3_heldByShare_9 : decode cX3_heldByShare 9 = .ok (.lstore 5, 2) := by decide +kernel
theorem dX3_heldByShare_11 : decode cX3_heldByShare 11 = .ok (.iconst 0, 1) := by decide +kernel
theorem dX3_heldByShare_12 : decode cX3_heldByShare 12 = .ok (.istore 7, 2) := by decide +kernel
theorem dX3_heldByShare_14 : decode cX3_heldByShare 14 = .ok (.iload 7, 2) := by decide +kernel
theorem dX3_heldByShare_16 : decode cX3_heldByShare 16 = .ok (.aload_n 0, 1) := by decide +kernel
theorem dX3_heldByShare_17 : decode cX3_heldByShare 17 = .ok (.getfield 18, 3) := by decide +kernel
theorem dX3_heldByShare_20 : decode cX3_heldByShare 20 = .ok (.if_icmp .ge 45, 3) := by decide +kernel
theorem dX3_heldByShare_23 : decode cX3_heldByShare 23 = .ok (.lload_n 3, 1) := by decide +kernel
theorem dX3_heldByShare_24 : decode cX3_heldByShare 24 = .ok (.aload_n 0, 1) := by decide +kernel
theorem dX3_heldByShare_25 : decode cX3_heldByShare 25 = .ok (.getfield 9, 3) := by decide +kernel
theorem dX3_heldByShare_28 : decode cX3_heldByShare 28 = .ok (.iload 7, 2) := by decide +kernel
theorem dX3_heldByShare_30 : decode cX3_heldByShare 30 = .ok (.laload, 1) := by decide +kernel
theorem dX3_heldByShare_31 : decode cX3_heldByShare 31 = .ok (.iload_n 2, 1) := by decide +kernel
theorem dX3_heldByShare_32 : decode cX3_heldByShare 32 = .ok (.i2l, 1) := by decide +kernel
theorem dX3_heldByShare_33 : decode cX3_heldByShare 33 = .ok (.lmul, 1) := by decide +kernel
theorem dX3_heldByShare_34 : decode cX3_heldByShare 34 = .ok (.invokestatic 52, 3) := by decide +kernel
theorem dX3_heldByShare_37 : decode cX3_heldByShare 37 = .ok (.lstore 8, 2) := by decide +kernel
theorem dX3_heldByShare_39 : decode cX3_heldByShare 39 = .ok (.lload 5, 2) := by decide +kernel
theorem dX3_heldByShare_41 : decode cX3_heldByShare 41 = .ok (.lload 8, 2) := by decide +kernel
theorem dX3_heldByShare_43 : decode cX3_heldByShare 43 = .ok (.aload_n 0, 1) := by decide +kernel
theorem dX3_heldByShare_44 : decode cX3_heldByShare 44 = .ok (.getfield 15, 3) := by decide +kernel
theorem dX3_heldByShare_47 : decode cX3_heldByShare 47 = .ok (.iload 7, 2) := by decide +kernel
theorem dX3_heldByShare_49 : decode cX3_heldByShare 49 = .ok (.laload, 1) := by decide +kernel
theorem dX3_heldByShare_50 : decode cX3_heldByShare 50 = .ok (.lmul, 1) := by decide +kernel
theorem dX3_heldByShare_51 : decode cX3_heldByShare 51 = .ok (.ladd, 1) := by decide +kernel
theorem dX3_heldByShare_52 : decode cX3_heldByShare 52 = .ok (.lstore 5, 2) := by decide +kernel
theorem dX3_heldByShare_54 : decode cX3_heldByShare 54 = .ok (.lload_n 3, 1) := by decide +kernel
theorem dX3_heldByShare_55 : decode cX3_heldByShare 55 = .ok (.lload 8, 2) := by decide +kernel
theorem dX3_heldByShare_57 : decode cX3_heldByShare 57 = .ok (.lsub, 1) := by decide +kernel
theorem dX3_heldByShare_58 : decode cX3_heldByShare 58 = .ok (.lstore_n 3, 1) := by decide +kernel
theorem dX3_heldByShare_59 : decode cX3_heldByShare 59 = .ok (.iinc 7 1, 3) := by decide +kernel
theorem dX3_heldByShare_62 : decode cX3_heldByShare 62 = .ok (.goto (-48), 3) := by decide +kernel
theorem dX3_heldByShare_65 : decode cX3_heldByShare 65 = .ok (.lload 5, 2) := by decide +kernel
theorem dX3_heldByShare_67 : decode cX3_heldByShare 67 = .ok (.lreturn, 1) := by decide +kernel
theorem dX3_rewind_0 : decode cX3_rewind 0 = .ok (.aload_n 0, 1) := by decide +kernel
theorem dX3_rewind_1 : decode cX3_rewind 1 = .ok (.iconst 0, 1) := by decide +kernel
theorem dX3_rewind_2 : decode cX3_rewind 2 = .ok (.putfield 58, 3) := by decide +kernel
theorem dX3_rewind_5 : decode cX3_rewind 5 = .ok (.aload_n 0, 1) := by decide +kernel
theorem dX3_rewind_6 : decode cX3_rewind 6 = .ok (.lconst 0, 1) := by decide +kernel
theorem dX3_rewind_7 : decode cX3_rewind 7 = .ok (.putfield 61, 3) := by decide +kernel
theorem dX3_rewind_10 : decode cX3_rewind 10 = .ok (.aload_n 0, 1) := by decide +kernel
theorem dX3_rewind_11 : decode cX3_rewind 11 = .ok (.lconst 0, 1) := by decide +kernel
theorem dX3_rewind_12 : decode cX3_rewind 12 = .ok (.putfield 64, 3) := by decide +kernel
theorem dX3_rewind_15 : decode cX3_rewind 15 = .ok (.return_, 1) := by decide +kernel
theorem dX3_isWalked_0 : decode cX3_isWalked 0 = .ok (.aload_n 0, 1) := by decide +kernel
theorem dX3_isWalked_1 : decode cX3_isWalked 1 = .ok (.getfield 58, 3) := by decide +kernel
theorem dX3_isWalked_4 : decode cX3_isWalked 4 = .ok (.aload_n 0, 1) := by decide +kernel
theorem dX3_isWalked_5 : decode cX3_isWalked 5 = .ok (.getfield 18, 3) := by decide +kernel
theorem dX3_isWalked_8 : decode cX3_isWalked 8 = .ok (.if_icmp .lt 7, 3) := by decide +kernel
theorem dX3_isWalked_11 : decode cX3_isWalked 11 = .ok (.iconst 1, 1) := by decide +kernel
theorem dX3_isWalked_12 : decode cX3_isWalked 12 = .ok (.goto 4, 3) := by decide +kernel
theorem dX3_isWalked_15 : decode cX3_isWalked 15 = .ok (.iconst 0, 1) := by decide +kernel
theorem dX3_isWalked_16 : decode cX3_isWalked 16 = .ok (.ireturn, 1) := by decide +kernel
theorem dX3_endOfPiece_0 : decode cX3_endOfPiece 0 = .ok (.aload_n 0, 1) := by decide +kernel
theorem dX3_endOfPiece_1 : decode cX3_endOfPiece 1 = .ok (.invokevirtual 67, 3) := by decide +kernel
theorem dX3_endOfPiece_4 : decode cX3_endOfPiece 4 = .ok (.ifCond .eq 12, 3) := by decide +kernel
theorem dX3_endOfPiece_7 : decode cX3_endOfPiece 7 = .ok (.aload_n 0, 1) := by decide +kernel
theorem dX3_endOfPiece_8 : decode cX3_endOfPiece 8 = .ok (.getfield 22, 3) := by decide +kernel
theorem dX3_endOfPiece_11 : decode cX3_endOfPiece 11 = .ok (.lload_n 1, 1) := by decide +kernel
theorem dX3_endOfPiece_12 : decode cX3_endOfPiece 12 = .ok (.lmul, 1) := by decide +kernel
theorem dX3_endOfPiece_13 : decode cX3_endOfPiece 13 = .ok (.goto 19, 3) := by decide +kernel
theorem dX3_endOfPiece_16 : decode cX3_endOfPiece 16 = .ok (.aload_n 0, 1) := by decide +kernel
theorem dX3_endOfPiece_17 : decode cX3_endOfPiece 17 = .ok (.getfield 61, 3) := by decide +kernel
theorem dX3_endOfPiece_20 : decode cX3_endOfPiece 20 = .ok (.aload_n 0, 1) := by decide +kernel
theorem dX3_endOfPiece_21 : decode cX3_endOfPiece 21 = .ok (.getfield 9, 3) := by decide +kernel
theorem dX3_endOfPiece_24 : decode cX3_endOfPiece 24 = .ok (.aload_n 0, 1) := by decide +kernel
theorem dX3_endOfPiece_25 : decode cX3_endOfPiece 25 = .ok (.getfield 58, 3) := by decide +kernel
theorem dX3_endOfPiece_28 : decode cX3_endOfPiece 28 = .ok (.laload, 1) := by decide +kernel
theorem dX3_endOfPiece_29 : decode cX3_endOfPiece 29 = .ok (.ladd, 1) := by decide +kernel
theorem dX3_endOfPiece_30 : decode cX3_endOfPiece 30 = .ok (.lload_n 1, 1) := by decide +kernel
theorem dX3_endOfPiece_31 : decode cX3_endOfPiece 31 = .ok (.lmul, 1) := by decide +kernel
theorem dX3_endOfPiece_32 : decode cX3_endOfPiece 32 = .ok (.lreturn, 1) := by decide +kernel
theorem dX3_heldTo_0 : decode cX3_heldTo 0 = .ok (.aload_n 0, 1) := by decide +kernel
theorem dX3_heldTo_1 : decode cX3_heldTo 1 = .ok (.getfield 64, 3) := by decide +kernel
theorem dX3_heldTo_4 : decode cX3_heldTo 4 = .ok (.lload_n 3, 1) := by decide +kernel
theorem dX3_heldTo_5 : decode cX3_heldTo 5 = .ok (.lmul, 1) := by decide +kernel
theorem dX3_heldTo_6 : decode cX3_heldTo 6 = .ok (.lstore 5, 2) := by decide +kernel
theorem dX3_heldTo_8 : decode cX3_heldTo 8 = .ok (.aload_n 0, 1) := by decide +kernel
theorem dX3_heldTo_9 : decode cX3_heldTo 9 = .ok (.invokevirtual 67, 3) := by decide +kernel
theorem dX3_heldTo_12 : decode cX3_heldTo 12 = .ok (.ifCond .eq 8, 3) := by decide +kernel
theorem dX3_heldTo_15 : decode cX3_heldTo 15 = .ok (.lload 5, 2) := by decide +kernel
theorem dX3_heldTo_17 : decode cX3_heldTo 17 = .ok (.goto 24, 3) := by decide +kernel
theorem dX3_heldTo_20 : decode cX3_heldTo 20 = .ok (.lload 5, 2) := by decide +kernel
theorem dX3_heldTo_22 : decode cX3_heldTo 22 = .ok (.lload_n 1, 1) := by decide +kernel
theorem dX3_heldTo_23 : decode cX3_heldTo 23 = .ok (.aload_n 0, 1) := by decide +kernel
theorem dX3_heldTo_24 : decode cX3_heldTo 24 = .ok (.getfield 61, 3) := by decide +kernel
theorem dX3_heldTo_27 : decode cX3_heldTo 27 = .ok (.lload_n 3, 1) := by decide +kernel
theorem dX3_heldTo_28 : decode cX3_heldTo 28 = .ok (.lmul, 1) := by decide +kernel
theorem dX3_heldTo_29 : decode cX3_heldTo 29 = .ok (.lsub, 1) := by decide +kernel
theorem dX3_heldTo_30 : decode cX3_heldTo 30 = .ok (.aload_n 0, 1) := by decide +kernel
theorem dX3_heldTo_31 : decode cX3_heldTo 31 = .ok (.getfield 15, 3) := by decide +kernel
theorem dX3_heldTo_34 : decode cX3_heldTo 34 = .ok (.aload_n 0, 1) := by decide +kernel
theorem dX3_heldTo_35 : decode cX3_heldTo 35 = .ok (.getfield 58, 3) := by decide +kernel
theorem dX3_heldTo_38 : decode cX3_heldTo 38 = .ok (.laload, 1) := by decide +kernel
theorem dX3_heldTo_39 : decode cX3_heldTo 39 = .ok (.lmul, 1) := by decide +kernel
theorem dX3_heldTo_40 : decode cX3_heldTo 40 = .ok (.ladd, 1) := by decide +kernel
theorem dX3_heldTo_41 : decode cX3_heldTo 41 = .ok (.lreturn, 1) := by decide +kernel
theorem dX3_leavePiece_0 : decode cX3_leavePiece 0 = .ok (.aload_n 0, 1) := by decide +kernel
theorem dX3_leavePiece_1 : decode cX3_leavePiece 1 = .ok (.invokevirtual 67, 3) := by decide +kernel
theorem dX3_leavePiece_4 : decode cX3_leavePiece 4 = .ok (.ifCond .ne 59, 3) := by decide +kernel
theorem dX3_leavePiece_7 : decode cX3_leavePiece 7 = .ok (.aload_n 0, 1) := by decide +kernel
theorem dX3_leavePiece_8 : decode cX3_leavePiece 8 = .ok (.dup, 1) := by decide +kernel
theorem dX3_leavePiece_9 : decode cX3_leavePiece 9 = .ok (.getfield 61, 3) := by decide +kernel
theorem dX3_leavePiece_12 : decode cX3_leavePiece 12 = .ok (.aload_n 0, 1) := by decide +kernel
theorem dX3_leavePiece_13 : decode cX3_leavePiece 13 = .ok (.getfield 9, 3) := by decide +kernel
theorem dX3_leavePiece_16 : decode cX3_leavePiece 16 = .ok (.aload_n 0, 1) := by decide +kernel
theorem dX3_leavePiece_17 : decode cX3_leavePiece 17 = .ok (.getfield 58, 3) := by decide +kernel
theorem dX3_leavePiece_20 : decode cX3_leavePiece 20 = .ok (.laload, 1) := by decide +kernel
theorem dX3_leavePiece_21 : decode cX3_leavePiece 21 = .ok (.ladd, 1) := by decide +kernel
theorem dX3_leavePiece_22 : decode cX3_leavePiece 22 = .ok (.putfield 61, 3) := by decide +kernel
theorem dX3_leavePiece_25 : decode cX3_leavePiece 25 = .ok (.aload_n 0, 1) := by decide +kernel
theorem dX3_leavePiece_26 : decode cX3_leavePiece 26 = .ok (.dup, 1) := by decide +kernel
theorem dX3_leavePiece_27 : decode cX3_leavePiece 27 = .ok (.getfield 64, 3) := by decide +kernel
theorem dX3_leavePiece_30 : decode cX3_leavePiece 30 = .ok (.aload_n 0, 1) := by decide +kernel
theorem dX3_leavePiece_31 : decode cX3_leavePiece 31 = .ok (.getfield 9, 3) := by decide +kernel
theorem dX3_leavePiece_34 : decode cX3_leavePiece 34 = .ok (.aload_n 0, 1) := by decide +kernel
theorem dX3_leavePiece_35 : decode cX3_leavePiece 35 = .ok (.getfield 58, 3) := by decide +kernel
theorem dX3_leavePiece_38 : decode cX3_leavePiece 38 = .ok (.laload, 1) := by decide +kernel
theorem dX3_leavePiece_39 : decode cX3_leavePiece 39 = .ok (.aload_n 0, 1) := by decide +kernel
theorem dX3_leavePiece_40 : decode cX3_leavePiece 40 = .ok (.getfield 15, 3) := by decide +kernel
theorem dX3_leavePiece_43 : decode cX3_leavePiece 43 = .ok (.aload_n 0, 1) := by decide +kernel
theorem dX3_leavePiece_44 : decode cX3_leavePiece 44 = .ok (.getfield 58, 3) := by decide +kernel
theorem dX3_leavePiece_47 : decode cX3_leavePiece 47 = .ok (.laload, 1) := by decide +kernel
theorem dX3_leavePiece_48 : decode cX3_leavePiece 48 = .ok (.lmul, 1) := by decide +kernel
theorem dX3_leavePiece_49 : decode cX3_leavePiece 49 = .ok (.ladd, 1) := by decide +kernel
theorem dX3_leavePiece_50 : decode cX3_leavePiece 50 = .ok (.putfield 64, 3) := by decide +kernel
theorem dX3_leavePiece_53 : decode cX3_leavePiece 53 = .ok (.aload_n 0, 1) := by decide +kernel
theorem dX3_leavePiece_54 : decode cX3_leavePiece 54 = .ok (.dup, 1) := by decide +kernel
theorem dX3_leavePiece_55 : decode cX3_leavePiece 55 = .ok (.getfield 58, 3) := by decide +kernel
theorem dX3_leavePiece_58 : decode cX3_leavePiece 58 = .ok (.iconst 1, 1) := by decide +kernel
theorem dX3_leavePiece_59 : decode cX3_leavePiece 59 = .ok (.iadd, 1) := by decide +kernel
theorem dX3_leavePiece_60 : decode cX3_leavePiece 60 = .ok (.putfield 58, 3) := by decide +kernel
theorem dX3_leavePiece_63 : decode cX3_leavePiece 63 = .ok (.return_, 1) := by decide +kernel
theorem dX4_hasNumber_0 : decode cX4_hasNumber 0 = .ok (.iload_n 0, 1) := by decide +kernel
theorem dX4_hasNumber_1 : decode cX4_hasNumber 1 = .ok (.iconst 2, 1) := by decide +kernel
theorem dX4_hasNumber_2 : decode cX4_hasNumber 2 = .ok (.if_icmp .lt 12, 3) := by decide +kernel
theorem dX4_hasNumber_5 : decode cX4_hasNumber 5 = .ok (.iload_n 0, 1) := by decide +kernel
theorem dX4_hasNumber_6 : decode cX4_hasNumber 6 = .ok (.iconst 4, 1) := by decide +kernel
theorem dX4_hasNumber_7 : decode cX4_hasNumber 7 = .ok (.if_icmp .gt 7, 3) := by decide +kernel
theorem dX4_hasNumber_10 : decode cX4_hasNumber 10 = .ok (.iconst 1, 1) := by decide +kernel
theorem dX4_hasNumber_11 : decode cX4_hasNumber 11 = .ok (.goto 4, 3) := by decide +kernel
theorem dX4_hasNumber_14 : decode cX4_hasNumber 14 = .ok (.iconst 0, 1) := by decide +kernel
theorem dX4_hasNumber_15 : decode cX4_hasNumber 15 = .ok (.ireturn, 1) := by decide +kernel
theorem dX4_takes_0 : decode cX4_takes 0 = .ok (.iload_n 0, 1) := by decide +kernel
theorem dX4_takes_1 : decode cX4_takes 1 = .ok (.iconst 0, 1) := by decide +kernel
theorem dX4_takes_2 : decode cX4_takes 2 = .ok (.iconst 5, 1) := by decide +kernel
theorem dX4_takes_3 : decode cX4_takes 3 = .ok (.invokestatic 9, 3) := by decide +kernel
theorem dX4_takes_6 : decode cX4_takes 6 = .ok (.ifCond .ne 5, 3) := by decide +kernel
theorem dX4_takes_9 : decode cX4_takes 9 = .ok (.iconst 0, 1) := by decide +kernel
theorem dX4_takes_10 : decode cX4_takes 10 = .ok (.ireturn, 1) := by decide +kernel
theorem dX4_takes_11 : decode cX4_takes 11 = .ok (.iload_n 0, 1) := by decide +kernel
theorem dX4_takes_12 : decode cX4_takes 12 = .ok (.invokestatic 13, 3) := by decide +kernel
theorem dX4_takes_15 : decode cX4_takes 15 = .ok (.ifCond .ne 13, 3) := by decide +kernel
theorem dX4_takes_18 : decode cX4_takes 18 = .ok (.iload_n 1, 1) := by decide +kernel
theorem dX4_takes_19 : decode cX4_takes 19 = .ok (.ifCond .ne 7, 3) := by decide +kernel
theorem dX4_takes_22 : decode cX4_takes 22 = .ok (.iconst 1, 1) := by decide +kernel
theorem dX4_takes_23 : decode cX4_takes 23 = .ok (.goto 4, 3) := by decide +kernel
theorem dX4_takes_26 : decode cX4_takes 26 = .ok (.iconst 0, 1) := by decide +kernel
theorem dX4_takes_27 : decode cX4_takes 27 = .ok (.ireturn, 1) := by decide +kernel
theorem dX4_takes_28 : decode cX4_takes 28 = .ok (.iload_n 1, 1) := by decide +kernel
theorem dX4_takes_29 : decode cX4_takes 29 = .ok (.iconst 0, 1) := by decide +kernel
theorem dX4_takes_30 : decode cX4_takes 30 = .ok (.iload_n 0, 1) := by decide +kernel
theorem dX4_takes_31 : decode cX4_takes 31 = .ok (.iconst 2, 1) := by decide +kernel
theorem dX4_takes_32 : decode cX4_takes 32 = .ok (.if_icmp .ne 8, 3) := by decide +kernel
theorem dX4_takes_35 : decode cX4_takes 35 = .ok (.bipush 8, 2) := by decide +kernel
theorem dX4_takes_37 : decode cX4_takes 37 = .ok (.goto 5, 3) := by decide +kernel
theorem dX4_takes_40 : decode cX4_takes 40 = .ok (.bipush 99, 2) := by decide +kernel
theorem dX4_takes_42 : decode cX4_takes 42 = .ok (.invokestatic 9, 3) := by decide +kernel
theorem dX4_takes_45 : decode cX4_takes 45 = .ok (.ireturn, 1) := by decide +kernel
theorem dX4_moreEven_0 : decode cX4_moreEven 0 = .ok (.iload_n 0, 1) := by decide +kernel
theorem dX4_moreEven_1 : decode cX4_moreEven 1 = .ok (.iload_n 1, 1) := by decide +kernel
theorem dX4_moreEven_2 : decode cX4_moreEven 2 = .ok (.aload_n 2, 1) := by decide +kernel
theorem dX4_moreEven_3 : decode cX4_moreEven 3 = .ok (.getfield 19, 3) := by decide +kernel
theorem dX4_moreEven_6 : decode cX4_moreEven 6 = .ok (.aload_n 2, 1) := by decide +kernel
theorem dX4_moreEven_7 : decode cX4_moreEven 7 = .ok (.getfield 25, 3) := by decide +kernel
theorem dX4_moreEven_10 : decode cX4_moreEven 10 = .ok (.invokestatic 29, 3) := by decide +kernel
