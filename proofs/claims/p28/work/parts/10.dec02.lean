theorem dX7_init_0 : decode cX7_init 0 = .ok (.aload_n 0, 1) := by decide +kernel
theorem dX7_init_1 : decode cX7_init 1 = .ok (.invokespecial 3, 3) := by decide +kernel
theorem dX7_init_4 : decode cX7_init 4 = .ok (.aload_n 0, 1) := by decide +kernel
theorem dX7_init_5 : decode cX7_init 5 = .ok (.iconst 4, 1) := by decide +kernel
theorem dX7_init_6 : decode cX7_init 6 = .ok (.anewarray 9, 3) := by decide +kernel
theorem dX7_init_9 : decode cX7_init 9 = .ok (.putfield 11, 3) := by decide +kernel
theorem dX7_init_12 : decode cX7_init 12 = .ok (.aload_n 0, 1) := by decide +kernel
theorem dX7_init_13 : decode cX7_init 13 = .ok (.new 15, 3) := by decide +kernel
theorem dX7_init_16 : decode cX7_init 16 = .ok (.dup, 1) := by decide +kernel
theorem dX7_init_17 : decode cX7_init 17 = .ok (.invokespecial 17, 3) := by decide +kernel
theorem dX7_init_20 : decode cX7_init 20 = .ok (.putfield 18, 3) := by decide +kernel
theorem dX7_init_23 : decode cX7_init 23 = .ok (.aload_n 0, 1) := by decide +kernel
theorem dX7_init_24 : decode cX7_init 24 = .ok (.new 22, 3) := by decide +kernel
theorem dX7_init_27 : decode cX7_init 27 = .ok (.dup, 1) := by decide +kernel
theorem dX7_init_28 : decode cX7_init 28 = .ok (.invokespecial 24, 3) := by decide +kernel
theorem dX7_init_31 : decode cX7_init 31 = .ok (.putfield 25, 3) := by decide +kernel
theorem dX7_init_34 : decode cX7_init 34 = .ok (.aload_n 0, 1) := by decide +kernel
theorem dX7_init_35 : decode cX7_init 35 = .ok (.new 29, 3) := by decide +kernel
theorem dX7_init_38 : decode cX7_init 38 = .ok (.dup, 1) := by decide +kernel
theorem dX7_init_39 : decode cX7_init 39 = .ok (.invokespecial 31, 3) := by decide +kernel
theorem dX7_init_42 : decode cX7_init 42 = .ok (.putfield 32, 3) := by decide +kernel
theorem dX7_init_45 : decode cX7_init 45 = .ok (.aload_n 0, 1) := by decide +kernel
theorem dX7_init_46 : decode cX7_init 46 = .ok (.new 36, 3) := by decide +kernel
theorem dX7_init_49 : decode cX7_init 49 = .ok (.dup, 1) := by decide +kernel
theorem dX7_init_50 : decode cX7_init 50 = .ok (.invokespecial 38, 3) := by decide +kernel
theorem dX7_init_53 : decode cX7_init 53 = .ok (.putfield 39, 3) := by decide +kernel
theorem dX7_init_56 : decode cX7_init 56 = .ok (.aload_n 0, 1) := by decide +kernel
theorem dX7_init_57 : decode cX7_init 57 = .ok (.iconst 3, 1) := by decide +kernel
theorem dX7_init_58 : decode cX7_init 58 = .ok (.newarray .int, 2) := by decide +kernel
theorem dX7_init_60 : decode cX7_init 60 = .ok (.putfield 43, 3) := by decide +kernel
theorem dX7_init_63 : decode cX7_init 63 = .ok (.aload_n 0, 1) := by decide +kernel
theorem dX7_init_64 : decode cX7_init 64 = .ok (.iconst 3, 1) := by decide +kernel
theorem dX7_init_65 : decode cX7_init 65 = .ok (.newarray .int, 2) := by decide +kernel
theorem dX7_init_67 : decode cX7_init 67 = .ok (.putfield 47, 3) := by decide +kernel
theorem dX7_init_70 : decode cX7_init 70 = .ok (.iconst 0, 1) := by decide +kernel
theorem dX7_init_71 : decode cX7_init 71 = .ok (.istore_n 1, 1) := by decide +kernel
theorem dX7_init_72 : decode cX7_init 72 = .ok (.iload_n 1, 1) := by decide +kernel
theorem dX7_init_73 : decode cX7_init 73 = .ok (.iconst 4, 1) := by decide +kernel
theorem dX7_init_74 : decode cX7_init 74 = .ok (.if_icmp .ge 22, 3) := by decide +kernel
theorem dX7_init_77 : decode cX7_init 77 = .ok (.aload_n 0, 1) := by decide +kernel
theorem dX7_init_78 : decode cX7_init 78 = .ok (.getfield 11, 3) := by decide +kernel
theorem dX7_init_81 : decode cX7_init 81 = .ok (.iload_n 1, 1) := by decide +kernel
theorem dX7_init_82 : decode cX7_init 82 = .ok (.new 9, 3) := by decide +kernel
theorem dX7_init_85 : decode cX7_init 85 = .ok (.dup, 1) := by decide +kernel
theorem dX7_init_86 : decode cX7_init 86 = .ok (.invokespecial 50, 3) := by decide +kernel
theorem dX7_init_89 : decode cX7_init 89 = .ok (.aastore, 1) := by decide +kernel
theorem dX7_init_90 : decode cX7_init 90 = .ok (.iinc 1 1, 3) := by decide +kernel
theorem dX7_init_93 : decode cX7_init 93 = .ok (.goto (-21), 3) := by decide +kernel
theorem dX7_init_96 : decode cX7_init 96 = .ok (.return_, 1) := by decide +kernel
theorem dX7_family_0 : decode cX7_family 0 = .ok (.aload_n 0, 1) := by decide +kernel
theorem dX7_family_1 : decode cX7_family 1 = .ok (.iload_n 1, 1) := by decide +kernel
theorem dX7_family_2 : decode cX7_family 2 = .ok (.invokevirtual 51, 3) := by decide +kernel
theorem dX7_family_5 : decode cX7_family 5 = .ok (.astore 6, 2) := by decide +kernel
theorem dX7_family_7 : decode cX7_family 7 = .ok (.aload 6, 2) := by decide +kernel
theorem dX7_family_9 : decode cX7_family 9 = .ok (.ifnull 13, 3) := by decide +kernel
theorem dX7_family_12 : decode cX7_family 12 = .ok (.iload 5, 2) := by decide +kernel
theorem dX7_family_14 : decode cX7_family 14 = .ok (.iconst 0, 1) := by decide +kernel
theorem dX7_family_15 : decode cX7_family 15 = .ok (.iconst 2, 1) := by decide +kernel
theorem dX7_family_16 : decode cX7_family 16 = .ok (.invokestatic 55, 3) := by decide +kernel
theorem dX7_family_19 : decode cX7_family 19 = .ok (.ifCond .ne 5, 3) := by decide +kernel
theorem dX7_family_22 : decode cX7_family 22 = .ok (.iconst (-1), 1) := by decide +kernel
theorem dX7_family_23 : decode cX7_family 23 = .ok (.ireturn, 1) := by decide +kernel
theorem dX7_family_24 : decode cX7_family 24 = .ok (.iload_n 2, 1) := by decide +kernel
theorem dX7_family_25 : decode cX7_family 25 = .ok (.iload_n 3, 1) := by decide +kernel
theorem dX7_family_26 : decode cX7_family 26 = .ok (.invokestatic 59, 3) := by decide +kernel
theorem dX7_family_29 : decode cX7_family 29 = .ok (.ifCond .eq 14, 3) := by decide +kernel
theorem dX7_family_32 : decode cX7_family 32 = .ok (.iload 4, 2) := by decide +kernel
theorem dX7_family_34 : decode cX7_family 34 = .ok (.iconst 1, 1) := by decide +kernel
theorem dX7_family_35 : decode cX7_family 35 = .ok (.bipush 9, 2) := by decide +kernel
theorem dX7_family_37 : decode cX7_family 37 = .ok (.invokestatic 55, 3) := by decide +kernel
theorem dX7_family_40 : decode cX7_family 40 = .ok (.ifCond .ne 6, 3) := by decide +kernel
theorem dX7_family_43 : decode cX7_family 43 = .ok (.bipush (-2), 2) := by decide +kernel
theorem dX7_family_45 : decode cX7_family 45 = .ok (.ireturn, 1) := by decide +kernel
theorem dX7_family_46 : decode cX7_family 46 = .ok (.aload 6, 2) := by decide +kernel
theorem dX7_family_48 : decode cX7_family 48 = .ok (.getfield 63, 3) := by decide +kernel
theorem dX7_family_51 : decode cX7_family 51 = .ok (.bipush 8, 2) := by decide +kernel
theorem dX7_family_53 : decode cX7_family 53 = .ok (.if_icmp .lt 6, 3) := by decide +kernel
theorem dX7_family_56 : decode cX7_family 56 = .ok (.bipush (-4), 2) := by decide +kernel
theorem dX7_family_58 : decode cX7_family 58 = .ok (.ireturn, 1) := by decide +kernel
theorem dX7_family_59 : decode cX7_family 59 = .ok (.aload 6, 2) := by decide +kernel
theorem dX7_family_61 : decode cX7_family 61 = .ok (.iload_n 2, 1) := by decide +kernel
theorem dX7_family_62 : decode cX7_family 62 = .ok (.iload_n 3, 1) := by decide +kernel
theorem dX7_family_63 : decode cX7_family 63 = .ok (.iload 4, 2) := by decide +kernel
theorem dX7_family_65 : decode cX7_family 65 = .ok (.iload 5, 2) := by decide +kernel
theorem dX7_family_67 : decode cX7_family 67 = .ok (.invokevirtual 67, 3) := by decide +kernel
theorem dX7_family_70 : decode cX7_family 70 = .ok (.aload 6, 2) := by decide +kernel
theorem dX7_family_72 : decode cX7_family 72 = .ok (.getfield 63, 3) := by decide +kernel
theorem dX7_family_75 : decode cX7_family 75 = .ok (.ireturn, 1) := by decide +kernel
theorem dX7_know_0 : decode cX7_know 0 = .ok (.aload_n 0, 1) := by decide +kernel
theorem dX7_know_1 : decode cX7_know 1 = .ok (.iload_n 1, 1) := by decide +kernel
theorem dX7_know_2 : decode cX7_know 2 = .ok (.invokevirtual 51, 3) := by decide +kernel
theorem dX7_know_5 : decode cX7_know 5 = .ok (.astore 5, 2) := by decide +kernel
theorem dX7_know_7 : decode cX7_know 7 = .ok (.aload 5, 2) := by decide +kernel
theorem dX7_know_9 : decode cX7_know 9 = .ok (.ifnull 12, 3) := by decide +kernel
theorem dX7_know_12 : decode cX7_know 12 = .ok (.aload 5, 2) := by decide +kernel
theorem dX7_know_14 : decode cX7_know 14 = .ok (.iload_n 2, 1) := by decide +kernel
theorem dX7_know_15 : decode cX7_know 15 = .ok (.invokevirtual 71, 3) := by decide +kernel
theorem dX7_know_18 : decode cX7_know 18 = .ok (.ifCond .ne 5, 3) := by decide +kernel
theorem dX7_know_21 : decode cX7_know 21 = .ok (.iconst (-1), 1) := by decide +kernel
theorem dX7_know_22 : decode cX7_know 22 = .ok (.ireturn, 1) := by decide +kernel
theorem dX7_know_23 : decode cX7_know 23 = .ok (.iload_n 3, 1) := by decide +kernel
theorem dX7_know_24 : decode cX7_know 24 = .ok (.iload 4, 2) := by decide +kernel
theorem dX7_know_26 : decode cX7_know 26 = .ok (.invokestatic 59, 3) := by decide +kernel
theorem dX7_know_29 : decode cX7_know 29 = .ok (.ifCond .ne 6, 3) := by decide +kernel
theorem dX7_know_32 : decode cX7_know 32 = .ok (.bipush (-2), 2) := by decide +kernel
theorem dX7_know_34 : decode cX7_know 34 = .ok (.ireturn, 1) := by decide +kernel
theorem dX7_know_35 : decode cX7_know 35 = .ok (.bipush 100, 2) := by decide +kernel
theorem dX7_know_37 : decode cX7_know 37 = .ok (.aload 5, 2) := by decide +kernel
theorem dX7_know_39 : decode cX7_know 39 = .ok (.getfield 75, 3) := by decide +kernel
theorem dX7_know_42 : decode cX7_know 42 = .ok (.iload_n 2, 1) := by decide +kernel
theorem dX7_know_43 : decode cX7_know 43 = .ok (.iaload, 1) := by decide +kernel
theorem dX7_know_44 : decode cX7_know 44 = .ok (.imul, 1) := by decide +kernel
theorem dX7_know_45 : decode cX7_know 45 = .ok (.aload 5, 2) := by decide +kernel
theorem dX7_know_47 : decode cX7_know 47 = .ok (.getfield 78, 3) := by decide +kernel
theorem dX7_know_50 : decode cX7_know 50 = .ok (.iload_n 2, 1) := by decide +kernel
theorem dX7_know_51 : decode cX7_know 51 = .ok (.iaload, 1) := by decide +kernel
theorem dX7_know_52 : decode cX7_know 52 = .ok (.iadd, 1) := by decide +kernel
theorem dX7_know_53 : decode cX7_know 53 = .ok (.istore 6, 2) := by decide +kernel
theorem dX7_know_55 : decode cX7_know 55 = .ok (.aload 5, 2) := by decide +kernel
theorem dX7_know_57 : decode cX7_know 57 = .ok (.getfield 75, 3) := by decide +kernel
theorem dX7_know_60 : decode cX7_know 60 = .ok (.iload_n 2, 1) := by decide +kernel
theorem dX7_know_61 : decode cX7_know 61 = .ok (.iload_n 3, 1) := by decide +kernel
theorem dX7_know_62 : decode cX7_know 62 = .ok (.iastore, 1) := by decide +kernel
theorem dX7_know_63 : decode cX7_know 63 = .ok (.aload 5, 2) := by decide +kernel
theorem dX7_know_65 : decode cX7_know 65 = .ok (.getfield 78, 3) := by decide +kernel
theorem dX7_know_68 : decode cX7_know 68 = .ok (.iload_n 2, 1) := by decide +kernel
theorem dX7_know_69 : decode cX7_know 69 = .ok (.iload 4, 2) := by decide +kernel
theorem dX7_know_71 : decode cX7_know 71 = .ok (.iastore, 1) := by decide +kernel
theorem dX7_know_72 : decode cX7_know 72 = .ok (.iload 6, 2) := by decide +kernel
theorem dX7_know_74 : decode cX7_know 74 = .ok (.ireturn, 1) := by decide +kernel
theorem dX7_clear_0 : decode cX7_clear 0 = .ok (.aload_n 0, 1) := by decide +kernel
theorem dX7_clear_1 : decode cX7_clear 1 = .ok (.iload_n 1, 1) := by decide +kernel
theorem dX7_clear_2 : decode cX7_clear 2 = .ok (.invokevirtual 51, 3) := by decide +kernel
theorem dX7_clear_5 : decode cX7_clear 5 = .ok (.astore_n 2, 1) := by decide +kernel
theorem dX7_clear_6 : decode cX7_clear 6 = .ok (.aload_n 2, 1) := by decide +kernel
theorem dX7_clear_7 : decode cX7_clear 7 = .ok (.ifnonnull 5, 3) := by decide +kernel
theorem dX7_clear_10 : decode cX7_clear 10 = .ok (.iconst (-1), 1) := by decide +kernel
theorem dX7_clear_11 : decode cX7_clear 11 = .ok (.ireturn, 1) := by decide +kernel
theorem dX7_clear_12 : decode cX7_clear 12 = .ok (.aload_n 2, 1) := by decide +kernel
theorem dX7_clear_13 : decode cX7_clear 13 = .ok (.getfield 63, 3) := by decide +kernel
theorem dX7_clear_16 : decode cX7_clear 16 = .ok (.istore_n 3, 1) := by decide +kernel
theorem dX7_clear_17 : decode cX7_clear 17 = .ok (.aload_n 2, 1) := by decide +kernel
theorem dX7_clear_18 : decode cX7_clear 18 = .ok (.iconst 0, 1) := by decide +kernel
theorem dX7_clear_19 : decode cX7_clear 19 = .ok (.putfield 63, 3) := by decide +kernel
theorem dX7_clear_22 : decode cX7_clear 22 = .ok (.iload_n 3, 1) := by decide +kernel
theorem dX7_clear_23 : decode cX7_clear 23 = .ok (.ireturn, 1) := by decide +kernel
theorem dX7_about_0 : decode cX7_about 0 = .ok (.aload_n 0, 1) := by decide +kernel
theorem dX7_about_1 : decode cX7_about 1 = .ok (.iload_n 1, 1) := by decide +kernel
theorem dX7_about_2 : decode cX7_about 2 = .ok (.invokevirtual 51, 3) := by decide +kernel
theorem dX7_about_5 : decode cX7_about 5 = .ok (.astore 4, 2) := by decide +kernel
theorem dX7_about_7 : decode cX7_about 7 = .ok (.aload 4, 2) := by decide +kernel
theorem dX7_about_9 : decode cX7_about 9 = .ok (.ifnull 12, 3) := by decide +kernel
theorem dX7_about_12 : decode cX7_about 12 = .ok (.aload 4, 2) := by decide +kernel
theorem dX7_about_14 : decode cX7_about 14 = .ok (.iload_n 2, 1) := by decide +kernel
theorem dX7_about_15 : decode cX7_about 15 = .ok (.invokevirtual 71, 3) := by decide +kernel
theorem dX7_about_18 : decode cX7_about 18 = .ok (.ifCond .ne 5, 3) := by decide +kernel
theorem dX7_about_21 : decode cX7_about 21 = .ok (.iconst (-1), 1) := by decide +kernel
theorem dX7_about_22 : decode cX7_about 22 = .ok (.ireturn, 1) := by decide +kernel
theorem dX7_about_23 : decode cX7_about 23 = .ok (.iload_n 3, 1) := by decide +kernel
theorem dX7_about_24 : decode cX7_about 24 = .ok (.tableswitch 64 0 3 #[32, 40, 48, 56], 32) := by decide +kernel
theorem dX7_about_56 : decode cX7_about 56 = .ok (.aload 4, 2) := by decide +kernel
theorem dX7_about_58 : decode cX7_about 58 = .ok (.getfield 75, 3) := by decide +kernel
theorem dX7_about_61 : decode cX7_about 61 = .ok (.iload_n 2, 1) := by decide +kernel
theorem dX7_about_62 : decode cX7_about 62 = .ok (.iaload, 1) := by decide +kernel
theorem dX7_about_63 : decode cX7_about 63 = .ok (.ireturn, 1) := by decide +kernel
theorem dX7_about_64 : decode cX7_about 64 = .ok (.aload 4, 2) := by decide +kernel
theorem dX7_about_66 : decode cX7_about 66 = .ok (.getfield 78, 3) := by decide +kernel
theorem dX7_about_69 : decode cX7_about 69 = .ok (.iload_n 2, 1) := by decide +kernel
theorem dX7_about_70 : decode cX7_about 70 = .ok (.iaload, 1) := by decide +kernel
theorem dX7_about_71 : decode cX7_about 71 = .ok (.ireturn, 1) := by decide +kernel
theorem dX7_about_72 : decode cX7_about 72 = .ok (.aload 4, 2) := by decide +kernel
theorem dX7_about_74 : decode cX7_about 74 = .ok (.getfield 81, 3) := by decide +kernel
theorem dX7_about_77 : decode cX7_about 77 = .ok (.iload_n 2, 1) := by decide +kernel
theorem dX7_about_78 : decode cX7_about 78 = .ok (.iaload, 1) := by decide +kernel
theorem dX7_about_79 : decode cX7_about 79 = .ok (.ireturn, 1) := by decide +kernel
theorem dX7_about_80 : decode cX7_about 80 = .ok (.aload 4, 2) := by decide +kernel
theorem dX7_about_82 : decode cX7_about 82 = .ok (.getfield 84, 3) := by decide +kernel
theorem dX7_about_85 : decode cX7_about 85 = .ok (.iload_n 2, 1) := by decide +kernel
theorem dX7_about_86 : decode cX7_about 86 = .ok (.iaload, 1) := by decide +kernel
theorem dX7_about_87 : decode cX7_about 87 = .ok (.ireturn, 1) := by decide +kernel
theorem dX7_about_88 : decode cX7_about 88 = .ok (.bipush (-2), 2) := by decide +kernel
theorem dX7_about_90 : decode cX7_about 90 = .ok (.ireturn, 1) := by decide +kernel
theorem dX7_town_0 : decode cX7_town 0 = .ok (.aload_n 0, 1) := by decide +kernel
theorem dX7_town_1 : decode cX7_town 1 = .ok (.iload_n 1, 1) := by decide +kernel
theorem dX7_town_2 : decode cX7_town 2 = .ok (.invokevirtual 51, 3) := by decide +kernel
theorem dX7_town_5 : decode cX7_town 5 = .ok (.astore_n 3, 1) := by decide +kernel
theorem dX7_town_6 : decode cX7_town 6 = .ok (.aload_n 3, 1) := by decide +kernel
theorem dX7_town_7 : decode cX7_town 7 = .ok (.ifnonnull 5, 3) := by decide +kernel
theorem dX7_town_10 : decode cX7_town 10 = .ok (.iconst (-1), 1) := by decide +kernel
theorem dX7_town_11 : decode cX7_town 11 = .ok (.ireturn, 1) := by decide +kernel
theorem dX7_town_12 : decode cX7_town 12 = .ok (.iload_n 2, 1) := by decide +kernel
theorem dX7_town_13 : decode cX7_town 13 = .ok (.tableswitch 89 0 4 #[35, 40, 53, 65, 77], 35) := by decide +kernel
theorem dX7_town_48 : decode cX7_town 48 = .ok (.aload_n 3, 1) := by decide +kernel
theorem dX7_town_49 : decode cX7_town 49 = .ok (.getfield 63, 3) := by decide +kernel
theorem dX7_town_52 : decode cX7_town 52 = .ok (.ireturn, 1) := by decide +kernel
theorem dX7_town_53 : decode cX7_town 53 = .ok (.aload_n 3, 1) := by decide +kernel
theorem dX7_town_54 : decode cX7_town 54 = .ok (.invokevirtual 87, 3) := by decide +kernel
theorem dX7_town_57 : decode cX7_town 57 = .ok (.ifCond .eq 7, 3) := by decide +kernel
theorem dX7_town_60 : decode cX7_town 60 = .ok (.iconst 1, 1) := by decide +kernel
theorem dX7_town_61 : decode cX7_town 61 = .ok (.goto 4, 3) := by decide +kernel
theorem dX7_town_64 : decode cX7_town 64 = .ok (.iconst 0, 1) := by decide +kernel
theorem dX7_town_65 : decode cX7_town 65 = .ok (.ireturn, 1) := by decide +kernel
theorem dX7_town_66 : decode cX7_town 66 = .ok (.aload_n 3, 1) := by decide +kernel
theorem dX7_town_67 : decode cX7_town 67 = .ok (.getfield 81, 3) := by decide +kernel
theorem dX7_town_70 : decode cX7_town 70 = .ok (.aload_n 3, 1) := by decide +kernel
theorem dX7_town_71 : decode cX7_town 71 = .ok (.getfield 63, 3) := by decide +kernel
theorem dX7_town_74 : decode cX7_town 74 = .ok (.invokestatic 91, 3) := by decide +kernel
theorem dX7_town_77 : decode cX7_town 77 = .ok (.ireturn, 1) := by decide +kernel
theorem dX7_town_78 : decode cX7_town 78 = .ok (.aload_n 3, 1) := by decide +kernel
theorem dX7_town_79 : decode cX7_town 79 = .ok (.getfield 75, 3) := by decide +kernel
theorem dX7_town_82 : decode cX7_town 82 = .ok (.aload_n 3, 1) := by decide +kernel
theorem dX7_town_83 : decode cX7_town 83 = .ok (.getfield 63, 3) := by decide +kernel
theorem dX7_town_86 : decode cX7_town 86 = .ok (.invokestatic 91, 3) := by decide +kernel
theorem dX7_town_89 : decode cX7_town 89 = .ok (.ireturn, 1) := by decide +kernel
theorem dX7_town_90 : decode cX7_town 90 = .ok (.aload_n 3, 1) := by decide +kernel
theorem dX7_town_91 : decode cX7_town 91 = .ok (.getfield 78, 3) := by decide +kernel
theorem dX7_town_94 : decode cX7_town 94 = .ok (.aload_n 3, 1) := by decide +kernel
theorem dX7_town_95 : decode cX7_town 95 = .ok (.getfield 63, 3) := by decide +kernel
theorem dX7_town_98 : decode cX7_town 98 = .ok (.invokestatic 91, 3) := by decide +kernel
theorem dX7_town_101 : decode cX7_town 101 = .ok (.ireturn, 1) := by decide +kernel
theorem dX7_town_102 : decode cX7_town 102 = .ok (.bipush (-2), 2) := by decide +kernel
theorem dX7_town_104 : decode cX7_town 104 = .ok (.ireturn, 1) := by decide +kernel
theorem dX7_order_0 : decode cX7_order 0 = .ok (.aload_n 0, 1) := by decide +kernel
theorem dX7_order_1 : decode cX7_order 1 = .ok (.iload_n 1, 1) := by decide +kernel
theorem dX7_order_2 : decode cX7_order 2 = .ok (.invokevirtual 51, 3) := by decide +kernel
theorem dX7_order_5 : decode cX7_order 5 = .ok (.astore 5, 2) := by decide +kernel
theorem dX7_order_7 : decode cX7_order 7 = .ok (.aload_n 0, 1) := by decide +kernel
theorem dX7_order_8 : decode cX7_order 8 = .ok (.iload_n 2, 1) := by decide +kernel
theorem dX7_order_9 : decode cX7_order 9 = .ok (.invokevirtual 51, 3) := by decide +kernel
theorem dX7_order_12 : decode cX7_order 12 = .ok (.astore 6, 2) := by decide +kernel
theorem dX7_order_14 : decode cX7_order 14 = .ok (.aload 5, 2) := by decide +kernel
theorem dX7_order_16 : decode cX7_order 16 = .ok (.ifnull 8, 3) := by decide +kernel
theorem dX7_order_19 : decode cX7_order 19 = .ok (.aload 6, 2) := by decide +kernel
theorem dX7_order_21 : decode cX7_order 21 = .ok (.ifnonnull 5, 3) := by decide +kernel
theorem dX7_order_24 : decode cX7_order 24 = .ok (.iconst (-1), 1) := by decide +kernel
theorem dX7_order_25 : decode cX7_order 25 = .ok (.ireturn, 1) := by decide +kernel
theorem dX7_order_26 : decode cX7_order 26 = .ok (.iload_n 3, 1) := by decide +kernel
theorem dX7_order_27 : decode cX7_order 27 = .ok (.invokestatic 95, 3) := by decide +kernel
theorem dX7_order_30 : decode cX7_order 30 = .ok (.ifCond .eq 11, 3) := by decide +kernel
theorem dX7_order_33 : decode cX7_order 33 = .ok (.iload 4, 2) := by decide +kernel
theorem dX7_order_35 : decode cX7_order 35 = .ok (.invokestatic 98, 3) := by decide +kernel
theorem dX7_order_38 : decode cX7_order 38 = .ok (.ifCond .ne 6, 3) := by decide +kernel
theorem dX7_order_41 : decode cX7_order 41 = .ok (.bipush (-2), 2) := by decide +kernel
theorem dX7_order_43 : decode cX7_order 43 = .ok (.ireturn, 1) := by decide +kernel
theorem dX7_order_44 : decode cX7_order 44 = .ok (.aload 5, 2) := by decide +kernel
theorem dX7_order_46 : decode cX7_order 46 = .ok (.invokevirtual 101, 3) := by decide +kernel
theorem dX7_order_49 : decode cX7_order 49 = .ok (.ifCond .eq 11, 3) := by decide +kernel
theorem dX7_order_52 : decode cX7_order 52 = .ok (.aload 6, 2) := by decide +kernel
theorem dX7_order_54 : decode cX7_order 54 = .ok (.invokevirtual 101, 3) := by decide +kernel
theorem dX7_order_57 : decode cX7_order 57 = .ok (.ifCond .ne 6, 3) := by decide +kernel
theorem dX7_order_60 : decode cX7_order 60 = .ok (.bipush (-3), 2) := by decide +kernel
theorem dX7_order_62 : decode cX7_order 62 = .ok (.ireturn, 1) := by decide +kernel
theorem dX7_order_63 : decode cX7_order 63 = .ok (.aload 5, 2) := by decide +kernel
theorem dX7_order_65 : decode cX7_order 65 = .ok (.invokevirtual 104, 3) := by decide +kernel
theorem dX7_order_68 : decode cX7_order 68 = .ok (.aload_n 0, 1) := by decide +kernel
theorem dX7_order_69 : decode cX7_order 69 = .ok (.getfield 25, 3) := by decide +kernel
theorem dX7_order_72 : decode cX7_order 72 = .ok (.getfield 107, 3) := by decide +kernel
theorem dX7_order_75 : decode cX7_order 75 = .ok (.aload 5, 2) := by decide +kernel
theorem dX7_order_77 : decode cX7_order 77 = .ok (.iload_n 3, 1) := by decide +kernel
theorem dX7_order_78 : decode cX7_order 78 = .ok (.iload 4, 2) := by decide +kernel
theorem dX7_order_80 : decode cX7_order 80 = .ok (.ifCond .ne 7, 3) := by decide +kernel
theorem dX7_order_83 : decode cX7_order 83 = .ok (.iconst 1, 1) := by decide +kernel
theorem dX7_order_84 : decode cX7_order 84 = .ok (.goto 4, 3) := by decide +kernel
theorem dX7_order_87 : decode cX7_order 87 = .ok (.iconst 0, 1) := by decide +kernel
theorem dX7_order_88 : decode cX7_order 88 = .ok (.invokevirtual 111, 3) := by decide +kernel
theorem dX7_order_91 : decode cX7_order 91 = .ok (.aload 6, 2) := by decide +kernel
theorem dX7_order_93 : decode cX7_order 93 = .ok (.invokevirtual 104, 3) := by decide +kernel
theorem dX7_order_96 : decode cX7_order 96 = .ok (.aload_n 0, 1) := by decide +kernel
theorem dX7_order_97 : decode cX7_order 97 = .ok (.getfield 25, 3) := by decide +kernel
theorem dX7_order_100 : decode cX7_order 100 = .ok (.getfield 117, 3) := by decide +kernel
theorem dX7_order_103 : decode cX7_order 103 = .ok (.aload 6, 2) := by decide +kernel
theorem dX7_order_105 : decode cX7_order 105 = .ok (.iload_n 3, 1) := by decide +kernel
theorem dX7_order_106 : decode cX7_order 106 = .ok (.iload 4, 2) := by decide +kernel
theorem dX7_order_108 : decode cX7_order 108 = .ok (.ifCond .ne 7, 3) := by decide +kernel
theorem dX7_order_111 : decode cX7_order 111 = .ok (.iconst 1, 1) := by decide +kernel
theorem dX7_order_112 : decode cX7_order 112 = .ok (.goto 4, 3) := by decide +kernel
theorem dX7_order_115 : decode cX7_order 115 = .ok (.iconst 0, 1) := by decide +kernel
theorem dX7_order_116 : decode cX7_order 116 = .ok (.invokevirtual 111, 3) := by decide +kernel
theorem dX7_order_119 : decode cX7_order 119 = .ok (.aload_n 0, 1) := by decide +kernel
theorem dX7_order_120 : decode cX7_order 120 = .ok (.getfield 25, 3) := by decide +kernel
theorem dX7_order_123 : decode cX7_order 123 = .ok (.iload 4, 2) := by decide +kernel
theorem dX7_order_125 : decode cX7_order 125 = .ok (.invokevirtual 120, 3) := by decide +kernel
theorem dX7_order_128 : decode cX7_order 128 = .ok (.ireturn, 1) := by decide +kernel
theorem dX7_where_0 : decode cX7_where 0 = .ok (.aload_n 0, 1) := by decide +kernel
theorem dX7_where_1 : decode cX7_where 1 = .ok (.iload_n 1, 1) := by decide +kernel
theorem dX7_where_2 : decode cX7_where 2 = .ok (.iload_n 2, 1) := by decide +kernel
theorem dX7_where_3 : decode cX7_where 3 = .ok (.iload_n 3, 1) := by decide +kernel
theorem dX7_where_4 : decode cX7_where 4 = .ok (.iload 4, 2) := by decide +kernel
theorem dX7_where_6 : decode cX7_where 6 = .ok (.invokevirtual 124, 3) := by decide +kernel
theorem dX7_where_9 : decode cX7_where 9 = .ok (.istore 6, 2) := by decide +kernel
theorem dX7_where_11 : decode cX7_where 11 = .ok (.iload 6, 2) := by decide +kernel
theorem dX7_where_13 : decode cX7_where 13 = .ok (.ifCond .ge 6, 3) := by decide +kernel
theorem dX7_where_16 : decode cX7_where 16 = .ok (.iload 6, 2) := by decide +kernel
theorem dX7_where_18 : decode cX7_where 18 = .ok (.ireturn, 1) := by decide +kernel
theorem dX7_where_19 : decode cX7_where 19 = .ok (.aload_n 0, 1) := by decide +kernel
theorem dX7_where_20 : decode cX7_where 20 = .ok (.getfield 25, 3) := by decide +kernel
theorem dX7_where_23 : decode cX7_where 23 = .ok (.iload 4, 2) := by decide +kernel
theorem dX7_where_25 : decode cX7_where 25 = .ok (.invokevirtual 128, 3) := by decide +kernel
theorem dX7_where_28 : decode cX7_where 28 = .ok (.lstore 7, 2) := by decide +kernel
theorem dX7_where_30 : decode cX7_where 30 = .ok (.lload 7, 2) := by decide +kernel
theorem dX7_where_32 : decode cX7_where 32 = .ok (.ldc2_w 132, 3) := by decide +kernel
theorem dX7_where_35 : decode cX7_where 35 = .ok (.lcmp, 1) := by decide +kernel
theorem dX7_where_36 : decode cX7_where 36 = .ok (.ifCond .ne 8, 3) := by decide +kernel
theorem dX7_where_39 : decode cX7_where 39 = .ok (.bipush (-9), 2) := by decide +kernel
theorem dX7_where_41 : decode cX7_where 41 = .ok (.goto 18, 3) := by decide +kernel
theorem dX7_where_44 : decode cX7_where 44 = .ok (.lload 7, 2) := by decide +kernel
theorem dX7_where_46 : decode cX7_where 46 = .ok (.aload_n 0, 1) := by decide +kernel
theorem dX7_where_47 : decode cX7_where 47 = .ok (.getfield 25, 3) := by decide +kernel
theorem dX7_where_50 : decode cX7_where 50 = .ok (.invokevirtual 134, 3) := by decide +kernel
theorem dX7_where_53 : decode cX7_where 53 = .ok (.iload 5, 2) := by decide +kernel
theorem dX7_where_55 : decode cX7_where 55 = .ok (.invokestatic 138, 3) := by decide +kernel
theorem dX7_where_58 : decode cX7_where 58 = .ok (.l2i, 1) := by decide +kernel
theorem dX7_where_59 : decode cX7_where 59 = .ok (.ireturn, 1) := by decide +kernel
theorem dX7_below_0 : decode cX7_below 0 = .ok (.aload_n 0, 1) := by decide +kernel
theorem dX7_below_1 : decode cX7_below 1 = .ok (.iload_n 1, 1) := by decide +kernel
theorem dX7_below_2 : decode cX7_below 2 = .ok (.invokevirtual 51, 3) := by decide +kernel
theorem dX7_below_5 : decode cX7_below 5 = .ok (.astore 6, 2) := by decide +kernel
theorem dX7_below_7 : decode cX7_below 7 = .ok (.aload 6, 2) := by decide +kernel
theorem dX7_below_9 : decode cX7_below 9 = .ok (.ifnonnull 7, 3) := by decide +kernel
theorem dX7_below_12 : decode cX7_below 12 = .ok (.ldc2_w 142, 3) := by decide +kernel
theorem dX7_below_15 : decode cX7_below 15 = .ok (.lreturn, 1) := by decide +kernel
theorem dX7_below_16 : decode cX7_below 16 = .ok (.iload_n 2, 1) := by decide +kernel
theorem dX7_below_17 : decode cX7_below 17 = .ok (.invokestatic 95, 3) := by decide +kernel
theorem dX7_below_20 : decode cX7_below 20 = .ok (.ifCond .eq 24, 3) := by decide +kernel
theorem dX7_below_23 : decode cX7_below 23 = .ok (.iload 4, 2) := by decide +kernel
theorem dX7_below_25 : decode cX7_below 25 = .ok (.iconst 1, 1) := by decide +kernel
theorem dX7_below_26 : decode cX7_below 26 = .ok (.bipush 100, 2) := by decide +kernel
theorem dX7_below_28 : decode cX7_below 28 = .ok (.invokestatic 55, 3) := by decide +kernel
theorem dX7_below_31 : decode cX7_below 31 = .ok (.ifCond .eq 13, 3) := by decide +kernel
theorem dX7_below_34 : decode cX7_below 34 = .ok (.iload_n 3, 1) := by decide +kernel
theorem dX7_below_35 : decode cX7_below 35 = .ok (.iconst 0, 1) := by decide +kernel
theorem dX7_below_36 : decode cX7_below 36 = .ok (.iload 4, 2) := by decide +kernel
theorem dX7_below_38 : decode cX7_below 38 = .ok (.invokestatic 55, 3) := by decide +kernel
theorem dX7_below_41 : decode cX7_below 41 = .ok (.ifCond .ne 7, 3) := by decide +kernel
theorem dX7_below_44 : decode cX7_below 44 = .ok (.ldc2_w 144, 3) := by decide +kernel
theorem dX7_below_47 : decode cX7_below 47 = .ok (.lreturn, 1) := by decide +kernel
theorem dX7_below_48 : decode cX7_below 48 = .ok (.aload 6, 2) := by decide +kernel
theorem dX7_below_50 : decode cX7_below 50 = .ok (.invokevirtual 101, 3) := by decide +kernel
theorem dX7_below_53 : decode cX7_below 53 = .ok (.ifCond .ne 7, 3) := by decide +kernel
theorem dX7_below_56 : decode cX7_below 56 = .ok (.ldc2_w 146, 3) := by decide +kernel
theorem dX7_below_59 : decode cX7_below 59 = .ok (.lreturn, 1) := by decide +kernel
theorem dX7_below_60 : decode cX7_below 60 = .ok (.aload_n 0, 1) := by decide +kernel
theorem dX7_below_61 : decode cX7_below 61 = .ok (.getfield 25, 3) := by decide +kernel
theorem dX7_below_64 : decode cX7_below 64 = .ok (.getfield 107, 3) := by decide +kernel
theorem dX7_below_67 : decode cX7_below 67 = .ok (.astore 7, 2) := by decide +kernel
theorem dX7_below_69 : decode cX7_below 69 = .ok (.aload 6, 2) := by decide +kernel
theorem dX7_below_71 : decode cX7_below 71 = .ok (.invokevirtual 104, 3) := by decide +kernel
theorem dX7_below_74 : decode cX7_below 74 = .ok (.aload 7, 2) := by decide +kernel
theorem dX7_below_76 : decode cX7_below 76 = .ok (.aload 6, 2) := by decide +kernel
theorem dX7_below_78 : decode cX7_below 78 = .ok (.iload_n 2, 1) := by decide +kernel
theorem dX7_below_79 : decode cX7_below 79 = .ok (.iconst 1, 1) := by decide +kernel
theorem dX7_below_80 : decode cX7_below 80 = .ok (.invokevirtual 111, 3) := by decide +kernel
theorem dX7_below_83 : decode cX7_below 83 = .ok (.aload 7, 2) := by decide +kernel
theorem dX7_below_85 : decode cX7_below 85 = .ok (.iload_n 3, 1) := by decide +kernel
theorem dX7_below_86 : decode cX7_below 86 = .ok (.iload 4, 2) := by decide +kernel
theorem dX7_below_88 : decode cX7_below 88 = .ok (.invokevirtual 148, 3) := by decide +kernel
theorem dX7_below_91 : decode cX7_below 91 = .ok (.iload 4, 2) := by decide +kernel
theorem dX7_below_93 : decode cX7_below 93 = .ok (.i2l, 1) := by decide +kernel
theorem dX7_below_94 : decode cX7_below 94 = .ok (.aload 7, 2) := by decide +kernel
theorem dX7_below_96 : decode cX7_below 96 = .ok (.getfield 152, 3) := by decide +kernel
theorem dX7_below_99 : decode cX7_below 99 = .ok (.lmul, 1) := by decide +kernel
theorem dX7_below_100 : decode cX7_below 100 = .ok (.iload 5, 2) := by decide +kernel
theorem dX7_below_102 : decode cX7_below 102 = .ok (.invokestatic 138, 3) := by decide +kernel
theorem dX7_below_105 : decode cX7_below 105 = .ok (.lreturn, 1) := by decide +kernel
theorem dX7_coins_0 : decode cX7_coins 0 = .ok (.aload_n 0, 1) := by decide +kernel
theorem dX7_coins_1 : decode cX7_coins 1 = .ok (.iload_n 1, 1) := by decide +kernel
theorem dX7_coins_2 : decode cX7_coins 2 = .ok (.invokevirtual 51, 3) := by decide +kernel
theorem dX7_coins_5 : decode cX7_coins 5 = .ok (.astore_n 3, 1) := by decide +kernel
theorem dX7_coins_6 : decode cX7_coins 6 = .ok (.aload_n 0, 1) := by decide +kernel
theorem dX7_coins_7 : decode cX7_coins 7 = .ok (.iload_n 2, 1) := by decide +kernel
theorem dX7_coins_8 : decode cX7_coins 8 = .ok (.invokevirtual 51, 3) := by decide +kernel
theorem dX7_coins_11 : decode cX7_coins 11 = .ok (.astore 4, 2) := by decide +kernel
theorem dX7_coins_13 : decode cX7_coins 13 = .ok (.aload_n 3, 1) := by decide +kernel
theorem dX7_coins_14 : decode cX7_coins 14 = .ok (.ifnull 8, 3) := by decide +kernel
theorem dX7_coins_17 : decode cX7_coins 17 = .ok (.aload 4, 2) := by decide +kernel
theorem dX7_coins_19 : decode cX7_coins 19 = .ok (.ifnonnull 5, 3) := by decide +kernel
theorem dX7_coins_22 : decode cX7_coins 22 = .ok (.iconst (-1), 1) := by decide +kernel
theorem dX7_coins_23 : decode cX7_coins 23 = .ok (.ireturn, 1) := by decide +kernel
theorem dX7_coins_24 : decode cX7_coins 24 = .ok (.aload_n 3, 1) := by decide +kernel
theorem dX7_coins_25 : decode cX7_coins 25 = .ok (.invokevirtual 87, 3) := by decide +kernel
theorem dX7_coins_28 : decode cX7_coins 28 = .ok (.ifCond .eq 23, 3) := by decide +kernel
theorem dX7_coins_31 : decode cX7_coins 31 = .ok (.aload 4, 2) := by decide +kernel
theorem dX7_coins_33 : decode cX7_coins 33 = .ok (.invokevirtual 87, 3) := by decide +kernel
theorem dX7_coins_36 : decode cX7_coins 36 = .ok (.ifCond .eq 15, 3) := by decide +kernel
theorem dX7_coins_39 : decode cX7_coins 39 = .ok (.aload_n 3, 1) := by decide +kernel
theorem dX7_coins_40 : decode cX7_coins 40 = .ok (.getfield 63, 3) := by decide +kernel
theorem dX7_coins_43 : decode cX7_coins 43 = .ok (.aload 4, 2) := by decide +kernel
theorem dX7_coins_45 : decode cX7_coins 45 = .ok (.getfield 63, 3) := by decide +kernel
theorem dX7_coins_48 : decode cX7_coins 48 = .ok (.if_icmp .eq 6, 3) := by decide +kernel
theorem dX7_coins_51 : decode cX7_coins 51 = .ok (.bipush (-3), 2) := by decide +kernel
theorem dX7_coins_53 : decode cX7_coins 53 = .ok (.ireturn, 1) := by decide +kernel
theorem dX7_coins_54 : decode cX7_coins 54 = .ok (.aload_n 3, 1) := by decide +kernel
theorem dX7_coins_55 : decode cX7_coins 55 = .ok (.getfield 75, 3) := by decide +kernel
theorem dX7_coins_58 : decode cX7_coins 58 = .ok (.aload_n 3, 1) := by decide +kernel
theorem dX7_coins_59 : decode cX7_coins 59 = .ok (.getfield 63, 3) := by decide +kernel
theorem dX7_coins_62 : decode cX7_coins 62 = .ok (.invokestatic 91, 3) := by decide +kernel
theorem dX7_coins_65 : decode cX7_coins 65 = .ok (.aload 4, 2) := by decide +kernel
theorem dX7_coins_67 : decode cX7_coins 67 = .ok (.getfield 75, 3) := by decide +kernel
theorem dX7_coins_70 : decode cX7_coins 70 = .ok (.aload 4, 2) := by decide +kernel
theorem dX7_coins_72 : decode cX7_coins 72 = .ok (.getfield 63, 3) := by decide +kernel
theorem dX7_coins_75 : decode cX7_coins 75 = .ok (.invokestatic 91, 3) := by decide +kernel
theorem dX7_coins_78 : decode cX7_coins 78 = .ok (.if_icmp .eq 6, 3) := by decide +kernel
theorem dX7_coins_81 : decode cX7_coins 81 = .ok (.bipush (-3), 2) := by decide +kernel
theorem dX7_coins_83 : decode cX7_coins 83 = .ok (.ireturn, 1) := by decide +kernel
theorem dX7_coins_84 : decode cX7_coins 84 = .ok (.aload_n 0, 1) := by decide +kernel
theorem dX7_coins_85 : decode cX7_coins 85 = .ok (.getfield 32, 3) := by decide +kernel
theorem dX7_coins_88 : decode cX7_coins 88 = .ok (.aload_n 3, 1) := by decide +kernel
theorem dX7_coins_89 : decode cX7_coins 89 = .ok (.aload 4, 2) := by decide +kernel
theorem dX7_coins_91 : decode cX7_coins 91 = .ok (.invokevirtual 156, 3) := by decide +kernel
theorem dX7_coins_94 : decode cX7_coins 94 = .ok (.ireturn, 1) := by decide +kernel
theorem dX7_give_0 : decode cX7_give 0 = .ok (.aload_n 0, 1) := by decide +kernel
theorem dX7_give_1 : decode cX7_give 1 = .ok (.iload_n 1, 1) := by decide +kernel
theorem dX7_give_2 : decode cX7_give 2 = .ok (.iload_n 2, 1) := by decide +kernel
theorem dX7_give_3 : decode cX7_give 3 = .ok (.iload_n 3, 1) := by decide +kernel
theorem dX7_give_4 : decode cX7_give 4 = .ok (.iload 4, 2) := by decide +kernel
theorem dX7_give_6 : decode cX7_give 6 = .ok (.invokevirtual 160, 3) := by decide +kernel
theorem dX7_give_9 : decode cX7_give 9 = .ok (.istore 5, 2) := by decide +kernel
theorem dX7_give_11 : decode cX7_give 11 = .ok (.aload_n 0, 1) := by decide +kernel
theorem dX7_give_12 : decode cX7_give 12 = .ok (.iload_n 1, 1) := by decide +kernel
theorem dX7_give_13 : decode cX7_give 13 = .ok (.invokevirtual 51, 3) := by decide +kernel
theorem dX7_give_16 : decode cX7_give 16 = .ok (.astore 6, 2) := by decide +kernel
theorem dX7_give_18 : decode cX7_give 18 = .ok (.iload 5, 2) := by decide +kernel
theorem dX7_give_20 : decode cX7_give 20 = .ok (.ifCond .lt 8, 3) := by decide +kernel
theorem dX7_give_23 : decode cX7_give 23 = .ok (.aload 6, 2) := by decide +kernel
theorem dX7_give_25 : decode cX7_give 25 = .ok (.ifnonnull 6, 3) := by decide +kernel
theorem dX7_give_28 : decode cX7_give 28 = .ok (.iload 5, 2) := by decide +kernel
theorem dX7_give_30 : decode cX7_give 30 = .ok (.ireturn, 1) := by decide +kernel
theorem dX7_give_31 : decode cX7_give 31 = .ok (.aload 6, 2) := by decide +kernel
theorem dX7_give_33 : decode cX7_give 33 = .ok (.iload_n 2, 1) := by decide +kernel
theorem dX7_give_34 : decode cX7_give 34 = .ok (.aload 6, 2) := by decide +kernel
theorem dX7_give_36 : decode cX7_give 36 = .ok (.getfield 75, 3) := by decide +kernel
theorem dX7_give_39 : decode cX7_give 39 = .ok (.iload_n 2, 1) := by decide +kernel
theorem dX7_give_40 : decode cX7_give 40 = .ok (.iaload, 1) := by decide +kernel
theorem dX7_give_41 : decode cX7_give 41 = .ok (.iload 4, 2) := by decide +kernel
theorem dX7_give_43 : decode cX7_give 43 = .ok (.isub, 1) := by decide +kernel
theorem dX7_give_44 : decode cX7_give 44 = .ok (.invokevirtual 163, 3) := by decide +kernel
theorem dX7_give_47 : decode cX7_give 47 = .ok (.aload 6, 2) := by decide +kernel
theorem dX7_give_49 : decode cX7_give 49 = .ok (.iload_n 3, 1) := by decide +kernel
theorem dX7_give_50 : decode cX7_give 50 = .ok (.aload 6, 2) := by decide +kernel
theorem dX7_give_52 : decode cX7_give 52 = .ok (.getfield 75, 3) := by decide +kernel
theorem dX7_give_55 : decode cX7_give 55 = .ok (.iload_n 3, 1) := by decide +kernel
theorem dX7_give_56 : decode cX7_give 56 = .ok (.iaload, 1) := by decide +kernel
theorem dX7_give_57 : decode cX7_give 57 = .ok (.iload 4, 2) := by decide +kernel
theorem dX7_give_59 : decode cX7_give 59 = .ok (.iadd, 1) := by decide +kernel
theorem dX7_give_60 : decode cX7_give 60 = .ok (.invokevirtual 163, 3) := by decide +kernel
theorem dX7_give_63 : decode cX7_give 63 = .ok (.iload 5, 2) := by decide +kernel
theorem dX7_give_65 : decode cX7_give 65 = .ok (.ireturn, 1) := by decide +kernel
theorem dX7_would_0 : decode cX7_would 0 = .ok (.aload_n 0, 1) := by decide +kernel
theorem dX7_would_1 : decode cX7_would 1 = .ok (.iload_n 1, 1) := by decide +kernel
theorem dX7_would_2 : decode cX7_would 2 = .ok (.invokevirtual 51, 3) := by decide +kernel
theorem dX7_would_5 : decode cX7_would 5 = .ok (.astore 5, 2) := by decide +kernel
theorem dX7_would_7 : decode cX7_would 7 = .ok (.aload 5, 2) := by decide +kernel
theorem dX7_would_9 : decode cX7_would 9 = .ok (.ifnull 21, 3) := by decide +kernel
theorem dX7_would_12 : decode cX7_would 12 = .ok (.aload 5, 2) := by decide +kernel
theorem dX7_would_14 : decode cX7_would 14 = .ok (.iload_n 2, 1) := by decide +kernel
theorem dX7_would_15 : decode cX7_would 15 = .ok (.invokevirtual 71, 3) := by decide +kernel
theorem dX7_would_18 : decode cX7_would 18 = .ok (.ifCond .eq 12, 3) := by decide +kernel
theorem dX7_would_21 : decode cX7_would 21 = .ok (.aload 5, 2) := by decide +kernel
theorem dX7_would_23 : decode cX7_would 23 = .ok (.iload_n 3, 1) := by decide +kernel
theorem dX7_would_24 : decode cX7_would 24 = .ok (.invokevirtual 71, 3) := by decide +kernel
theorem dX7_would_27 : decode cX7_would 27 = .ok (.ifCond .ne 5, 3) := by decide +kernel
theorem dX7_would_30 : decode cX7_would 30 = .ok (.iconst (-1), 1) := by decide +kernel
theorem dX7_would_31 : decode cX7_would 31 = .ok (.ireturn, 1) := by decide +kernel
theorem dX7_would_32 : decode cX7_would 32 = .ok (.iload 4, 2) := by decide +kernel
theorem dX7_would_34 : decode cX7_would 34 = .ok (.iconst 1, 1) := by decide +kernel
theorem dX7_would_35 : decode cX7_would 35 = .ok (.bipush 99, 2) := by decide +kernel
theorem dX7_would_37 : decode cX7_would 37 = .ok (.invokestatic 55, 3) := by decide +kernel
theorem dX7_would_40 : decode cX7_would 40 = .ok (.ifCond .ne 6, 3) := by decide +kernel
theorem dX7_would_43 : decode cX7_would 43 = .ok (.bipush (-2), 2) := by decide +kernel
theorem dX7_would_45 : decode cX7_would 45 = .ok (.ireturn, 1) := by decide +kernel
theorem dX7_would_46 : decode cX7_would 46 = .ok (.aload 5, 2) := by decide +kernel
theorem dX7_would_48 : decode cX7_would 48 = .ok (.invokevirtual 87, 3) := by decide +kernel
theorem dX7_would_51 : decode cX7_would 51 = .ok (.ifCond .eq 8, 3) := by decide +kernel
theorem dX7_would_54 : decode cX7_would 54 = .ok (.iload_n 2, 1) := by decide +kernel
theorem dX7_would_55 : decode cX7_would 55 = .ok (.iload_n 3, 1) := by decide +kernel
theorem dX7_would_56 : decode cX7_would 56 = .ok (.if_icmp .ne 6, 3) := by decide +kernel
theorem dX7_would_59 : decode cX7_would 59 = .ok (.bipush (-3), 2) := by decide +kernel
theorem dX7_would_61 : decode cX7_would 61 = .ok (.ireturn, 1) := by decide +kernel
theorem dX7_would_62 : decode cX7_would 62 = .ok (.aload 5, 2) := by decide +kernel
theorem dX7_would_64 : decode cX7_would 64 = .ok (.getfield 75, 3) := by decide +kernel
theorem dX7_would_67 : decode cX7_would 67 = .ok (.iload_n 2, 1) := by decide +kernel
theorem dX7_would_68 : decode cX7_would 68 = .ok (.iaload, 1) := by decide +kernel
theorem dX7_would_69 : decode cX7_would 69 = .ok (.iload 4, 2) := by decide +kernel
theorem dX7_would_71 : decode cX7_would 71 = .ok (.isub, 1) := by decide +kernel
theorem dX7_would_72 : decode cX7_would 72 = .ok (.istore 6, 2) := by decide +kernel
theorem dX7_would_74 : decode cX7_would 74 = .ok (.aload 5, 2) := by decide +kernel
theorem dX7_would_76 : decode cX7_would 76 = .ok (.getfield 75, 3) := by decide +kernel
theorem dX7_would_79 : decode cX7_would 79 = .ok (.iload_n 3, 1) := by decide +kernel
theorem dX7_would_80 : decode cX7_would 80 = .ok (.iaload, 1) := by decide +kernel
theorem dX7_would_81 : decode cX7_would 81 = .ok (.iload 4, 2) := by decide +kernel
theorem dX7_would_83 : decode cX7_would 83 = .ok (.iadd, 1) := by decide +kernel
theorem dX7_would_84 : decode cX7_would 84 = .ok (.istore 7, 2) := by decide +kernel
theorem dX7_would_86 : decode cX7_would 86 = .ok (.iload 6, 2) := by decide +kernel
theorem dX7_would_88 : decode cX7_would 88 = .ok (.ifCond .lt 10, 3) := by decide +kernel
theorem dX7_would_91 : decode cX7_would 91 = .ok (.iload 7, 2) := by decide +kernel
theorem dX7_would_93 : decode cX7_would 93 = .ok (.bipush 99, 2) := by decide +kernel
theorem dX7_would_95 : decode cX7_would 95 = .ok (.if_icmp .le 6, 3) := by decide +kernel
theorem dX7_would_98 : decode cX7_would 98 = .ok (.bipush (-3), 2) := by decide +kernel
theorem dX7_would_100 : decode cX7_would 100 = .ok (.ireturn, 1) := by decide +kernel
theorem dX7_would_101 : decode cX7_would 101 = .ok (.iload 6, 2) := by decide +kernel
theorem dX7_would_103 : decode cX7_would 103 = .ok (.iload 7, 2) := by decide +kernel
theorem dX7_would_105 : decode cX7_would 105 = .ok (.if_icmp .lt 7, 3) := by decide +kernel
theorem dX7_would_108 : decode cX7_would 108 = .ok (.iconst 1, 1) := by decide +kernel
theorem dX7_would_109 : decode cX7_would 109 = .ok (.goto 4, 3) := by decide +kernel
theorem dX7_would_112 : decode cX7_would 112 = .ok (.iconst 0, 1) := by decide +kernel
theorem dX7_would_113 : decode cX7_would 113 = .ok (.ireturn, 1) := by decide +kernel
theorem dX7_measure_0 : decode cX7_measure 0 = .ok (.aload_n 0, 1) := by decide +kernel
theorem dX7_measure_1 : decode cX7_measure 1 = .ok (.iload_n 1, 1) := by decide +kernel
theorem dX7_measure_2 : decode cX7_measure 2 = .ok (.invokevirtual 51, 3) := by decide +kernel
theorem dX7_measure_5 : decode cX7_measure 5 = .ok (.astore 5, 2) := by decide +kernel
theorem dX7_measure_7 : decode cX7_measure 7 = .ok (.aload 5, 2) := by decide +kernel
theorem dX7_measure_9 : decode cX7_measure 9 = .ok (.ifnonnull 7, 3) := by decide +kernel
theorem dX7_measure_12 : decode cX7_measure 12 = .ok (.ldc2_w 142, 3) := by decide +kernel
theorem dX7_measure_15 : decode cX7_measure 15 = .ok (.lreturn, 1) := by decide +kernel
theorem dX7_measure_16 : decode cX7_measure 16 = .ok (.iload_n 2, 1) := by decide +kernel
theorem dX7_measure_17 : decode cX7_measure 17 = .ok (.iload_n 3, 1) := by decide +kernel
theorem dX7_measure_18 : decode cX7_measure 18 = .ok (.invokestatic 167, 3) := by decide +kernel
theorem dX7_measure_21 : decode cX7_measure 21 = .ok (.ifCond .ne 7, 3) := by decide +kernel
theorem dX7_measure_24 : decode cX7_measure 24 = .ok (.ldc2_w 144, 3) := by decide +kernel
theorem dX7_measure_27 : decode cX7_measure 27 = .ok (.lreturn, 1) := by decide +kernel
theorem dX7_measure_28 : decode cX7_measure 28 = .ok (.aload 5, 2) := by decide +kernel
theorem dX7_measure_30 : decode cX7_measure 30 = .ok (.invokevirtual 101, 3) := by decide +kernel
theorem dX7_measure_33 : decode cX7_measure 33 = .ok (.ifCond .ne 7, 3) := by decide +kernel
theorem dX7_measure_36 : decode cX7_measure 36 = .ok (.ldc2_w 146, 3) := by decide +kernel
theorem dX7_measure_39 : decode cX7_measure 39 = .ok (.lreturn, 1) := by decide +kernel
theorem dX7_measure_40 : decode cX7_measure 40 = .ok (.iload_n 2, 1) := by decide +kernel
theorem dX7_measure_41 : decode cX7_measure 41 = .ok (.iload_n 3, 1) := by decide +kernel
theorem dX7_measure_42 : decode cX7_measure 42 = .ok (.aload 5, 2) := by decide +kernel
theorem dX7_measure_44 : decode cX7_measure 44 = .ok (.getfield 75, 3) := by decide +kernel
theorem dX7_measure_47 : decode cX7_measure 47 = .ok (.aload 5, 2) := by decide +kernel
theorem dX7_measure_49 : decode cX7_measure 49 = .ok (.getfield 63, 3) := by decide +kernel
theorem dX7_measure_52 : decode cX7_measure 52 = .ok (.invokestatic 172, 3) := by decide +kernel
theorem dX7_measure_55 : decode cX7_measure 55 = .ok (.lstore 6, 2) := by decide +kernel
theorem dX7_measure_57 : decode cX7_measure 57 = .ok (.lload 6, 2) := by decide +kernel
theorem dX7_measure_59 : decode cX7_measure 59 = .ok (.iload_n 2, 1) := by decide +kernel
theorem dX7_measure_60 : decode cX7_measure 60 = .ok (.aload 5, 2) := by decide +kernel
theorem dX7_measure_62 : decode cX7_measure 62 = .ok (.getfield 75, 3) := by decide +kernel
theorem dX7_measure_65 : decode cX7_measure 65 = .ok (.aload 5, 2) := by decide +kernel
theorem dX7_measure_67 : decode cX7_measure 67 = .ok (.getfield 63, 3) := by decide +kernel
theorem dX7_measure_70 : decode cX7_measure 70 = .ok (.invokestatic 176, 3) := by decide +kernel
theorem dX7_measure_73 : decode cX7_measure 73 = .ok (.iload 4, 2) := by decide +kernel
theorem dX7_measure_75 : decode cX7_measure 75 = .ok (.invokestatic 138, 3) := by decide +kernel
theorem dX7_measure_78 : decode cX7_measure 78 = .ok (.lreturn, 1) := by decide +kernel
theorem dX7_calls_0 : decode cX7_calls 0 = .ok (.aload_n 0, 1) := by decide +kernel
theorem dX7_calls_1 : decode cX7_calls 1 = .ok (.iload_n 1, 1) := by decide +kernel
theorem dX7_calls_2 : decode cX7_calls 2 = .ok (.invokevirtual 51, 3) := by decide +kernel
theorem dX7_calls_5 : decode cX7_calls 5 = .ok (.astore 5, 2) := by decide +kernel
theorem dX7_calls_7 : decode cX7_calls 7 = .ok (.aload_n 0, 1) := by decide +kernel
theorem dX7_calls_8 : decode cX7_calls 8 = .ok (.iload_n 2, 1) := by decide +kernel
theorem dX7_calls_9 : decode cX7_calls 9 = .ok (.invokevirtual 51, 3) := by decide +kernel
theorem dX7_calls_12 : decode cX7_calls 12 = .ok (.astore 6, 2) := by decide +kernel
theorem dX7_calls_14 : decode cX7_calls 14 = .ok (.aload 5, 2) := by decide +kernel
theorem dX7_calls_16 : decode cX7_calls 16 = .ok (.ifnull 8, 3) := by decide +kernel
theorem dX7_calls_19 : decode cX7_calls 19 = .ok (.aload 6, 2) := by decide +kernel
theorem dX7_calls_21 : decode cX7_calls 21 = .ok (.ifnonnull 5, 3) := by decide +kernel
theorem dX7_calls_24 : decode cX7_calls 24 = .ok (.iconst (-1), 1) := by decide +kernel
theorem dX7_calls_25 : decode cX7_calls 25 = .ok (.ireturn, 1) := by decide +kernel
theorem dX7_calls_26 : decode cX7_calls 26 = .ok (.iload_n 3, 1) := by decide +kernel
theorem dX7_calls_27 : decode cX7_calls 27 = .ok (.iload 4, 2) := by decide +kernel
theorem dX7_calls_29 : decode cX7_calls 29 = .ok (.invokestatic 167, 3) := by decide +kernel
theorem dX7_calls_32 : decode cX7_calls 32 = .ok (.ifCond .ne 6, 3) := by decide +kernel
theorem dX7_calls_35 : decode cX7_calls 35 = .ok (.bipush (-2), 2) := by decide +kernel
theorem dX7_calls_37 : decode cX7_calls 37 = .ok (.ireturn, 1) := by decide +kernel
theorem dX7_calls_38 : decode cX7_calls 38 = .ok (.aload 5, 2) := by decide +kernel
theorem dX7_calls_40 : decode cX7_calls 40 = .ok (.invokevirtual 101, 3) := by decide +kernel
theorem dX7_calls_43 : decode cX7_calls 43 = .ok (.ifCond .eq 11, 3) := by decide +kernel
theorem dX7_calls_46 : decode cX7_calls 46 = .ok (.aload 6, 2) := by decide +kernel
theorem dX7_calls_48 : decode cX7_calls 48 = .ok (.invokevirtual 101, 3) := by decide +kernel
theorem dX7_calls_51 : decode cX7_calls 51 = .ok (.ifCond .ne 6, 3) := by decide +kernel
theorem dX7_calls_54 : decode cX7_calls 54 = .ok (.bipush (-3), 2) := by decide +kernel
theorem dX7_calls_56 : decode cX7_calls 56 = .ok (.ireturn, 1) := by decide +kernel
theorem dX7_calls_57 : decode cX7_calls 57 = .ok (.iload_n 3, 1) := by decide +kernel
theorem dX7_calls_58 : decode cX7_calls 58 = .ok (.iload 4, 2) := by decide +kernel
theorem dX7_calls_60 : decode cX7_calls 60 = .ok (.aload 5, 2) := by decide +kernel
theorem dX7_calls_62 : decode cX7_calls 62 = .ok (.aload 6, 2) := by decide +kernel
theorem dX7_calls_64 : decode cX7_calls 64 = .ok (.invokestatic 180, 3) := by decide +kernel
theorem dX7_calls_67 : decode cX7_calls 67 = .ok (.ireturn, 1) := by decide +kernel
theorem dX7_minds_0 : decode cX7_minds 0 = .ok (.aload_n 0, 1) := by decide +kernel
theorem dX7_minds_1 : decode cX7_minds 1 = .ok (.iload_n 1, 1) := by decide +kernel
theorem dX7_minds_2 : decode cX7_minds 2 = .ok (.iload_n 2, 1) := by decide +kernel
theorem dX7_minds_3 : decode cX7_minds 3 = .ok (.invokevirtual 184, 3) := by decide +kernel
theorem dX7_minds_6 : decode cX7_minds 6 = .ok (.istore_n 3, 1) := by decide +kernel
theorem dX7_minds_7 : decode cX7_minds 7 = .ok (.iload_n 3, 1) := by decide +kernel
theorem dX7_minds_8 : decode cX7_minds 8 = .ok (.bipush (-9), 2) := by decide +kernel
theorem dX7_minds_10 : decode cX7_minds 10 = .ok (.if_icmp .ne 5, 3) := by decide +kernel
theorem dX7_minds_13 : decode cX7_minds 13 = .ok (.iconst 1, 1) := by decide +kernel
theorem dX7_minds_14 : decode cX7_minds 14 = .ok (.ireturn, 1) := by decide +kernel
theorem dX7_minds_15 : decode cX7_minds 15 = .ok (.iload_n 3, 1) := by decide +kernel
theorem dX7_minds_16 : decode cX7_minds 16 = .ok (.ifCond .ge 7, 3) := by decide +kernel
theorem dX7_minds_19 : decode cX7_minds 19 = .ok (.iload_n 3, 1) := by decide +kernel
theorem dX7_minds_20 : decode cX7_minds 20 = .ok (.goto 4, 3) := by decide +kernel
theorem dX7_minds_23 : decode cX7_minds 23 = .ok (.iconst 0, 1) := by decide +kernel
theorem dX7_minds_24 : decode cX7_minds 24 = .ok (.ireturn, 1) := by decide +kernel
theorem dX7_against_0 : decode cX7_against 0 = .ok (.iload_n 1, 1) := by decide +kernel
theorem dX7_against_1 : decode cX7_against 1 = .ok (.iload_n 2, 1) := by decide +kernel
theorem dX7_against_2 : decode cX7_against 2 = .ok (.invokestatic 167, 3) := by decide +kernel
theorem dX7_against_5 : decode cX7_against 5 = .ok (.ifCond .ne 6, 3) := by decide +kernel
theorem dX7_against_8 : decode cX7_against 8 = .ok (.bipush (-2), 2) := by decide +kernel
theorem dX7_against_10 : decode cX7_against 10 = .ok (.ireturn, 1) := by decide +kernel
theorem dX7_against_11 : decode cX7_against 11 = .ok (.iconst 0, 1) := by decide +kernel
theorem dX7_against_12 : decode cX7_against 12 = .ok (.istore_n 3, 1) := by decide +kernel
theorem dX7_against_13 : decode cX7_against 13 = .ok (.iload_n 3, 1) := by decide +kernel
theorem dX7_against_14 : decode cX7_against 14 = .ok (.sipush 216, 3) := by decide +kernel
theorem dX7_against_17 : decode cX7_against 17 = .ok (.if_icmp .ge 53, 3) := by decide +kernel
theorem dX7_against_20 : decode cX7_against 20 = .ok (.aload_n 0, 1) := by decide +kernel
theorem dX7_against_21 : decode cX7_against 21 = .ok (.getfield 43, 3) := by decide +kernel
theorem dX7_against_24 : decode cX7_against 24 = .ok (.iconst 0, 1) := by decide +kernel
theorem dX7_against_25 : decode cX7_against 25 = .ok (.iload_n 3, 1) := by decide +kernel
theorem dX7_against_26 : decode cX7_against 26 = .ok (.bipush 36, 2) := by decide +kernel
theorem dX7_against_28 : decode cX7_against 28 = .ok (.idiv, 1) := by decide +kernel
theorem dX7_against_29 : decode cX7_against 29 = .ok (.iastore, 1) := by decide +kernel
theorem dX7_against_30 : decode cX7_against 30 = .ok (.aload_n 0, 1) := by decide +kernel
theorem dX7_against_31 : decode cX7_against 31 = .ok (.getfield 43, 3) := by decide +kernel
theorem dX7_against_34 : decode cX7_against 34 = .ok (.iconst 1, 1) := by decide +kernel
theorem dX7_against_35 : decode cX7_against 35 = .ok (.iload_n 3, 1) := by decide +kernel
theorem dX7_against_36 : decode cX7_against 36 = .ok (.bipush 6, 2) := by decide +kernel
theorem dX7_against_38 : decode cX7_against 38 = .ok (.idiv, 1) := by decide +kernel
theorem dX7_against_39 : decode cX7_against 39 = .ok (.bipush 6, 2) := by decide +kernel
theorem dX7_against_41 : decode cX7_against 41 = .ok (.irem, 1) := by decide +kernel
theorem dX7_against_42 : decode cX7_against 42 = .ok (.iastore, 1) := by decide +kernel
theorem dX7_against_43 : decode cX7_against 43 = .ok (.aload_n 0, 1) := by decide +kernel
theorem dX7_against_44 : decode cX7_against 44 = .ok (.getfield 43, 3) := by decide +kernel
theorem dX7_against_47 : decode cX7_against 47 = .ok (.iconst 2, 1) := by decide +kernel
theorem dX7_against_48 : decode cX7_against 48 = .ok (.iload_n 3, 1) := by decide +kernel
theorem dX7_against_49 : decode cX7_against 49 = .ok (.bipush 6, 2) := by decide +kernel
theorem dX7_against_51 : decode cX7_against 51 = .ok (.irem, 1) := by decide +kernel
theorem dX7_against_52 : decode cX7_against 52 = .ok (.iastore, 1) := by decide +kernel
theorem dX7_against_53 : decode cX7_against 53 = .ok (.aload_n 0, 1) := by decide +kernel
theorem dX7_against_54 : decode cX7_against 54 = .ok (.iload_n 1, 1) := by decide +kernel
theorem dX7_against_55 : decode cX7_against 55 = .ok (.iload_n 2, 1) := by decide +kernel
theorem dX7_against_56 : decode cX7_against 56 = .ok (.invokevirtual 188, 3) := by decide +kernel
theorem dX7_against_59 : decode cX7_against 59 = .ok (.ifCond .eq 5, 3) := by decide +kernel
theorem dX7_against_62 : decode cX7_against 62 = .ok (.iload_n 3, 1) := by decide +kernel
theorem dX7_against_63 : decode cX7_against 63 = .ok (.ireturn, 1) := by decide +kernel
theorem dX7_against_64 : decode cX7_against 64 = .ok (.iinc 3 1, 3) := by decide +kernel
theorem dX7_against_67 : decode cX7_against 67 = .ok (.goto (-54), 3) := by decide +kernel
theorem dX7_against_70 : decode cX7_against 70 = .ok (.bipush (-9), 2) := by decide +kernel
theorem dX7_against_72 : decode cX7_against 72 = .ok (.ireturn, 1) := by decide +kernel
theorem dX7_part_0 : decode cX7_part 0 = .ok (.aload_n 0, 1) := by decide +kernel
theorem dX7_part_1 : decode cX7_part 1 = .ok (.iload_n 1, 1) := by decide +kernel
theorem dX7_part_2 : decode cX7_part 2 = .ok (.invokevirtual 51, 3) := by decide +kernel
theorem dX7_part_5 : decode cX7_part 5 = .ok (.astore 4, 2) := by decide +kernel
theorem dX7_part_7 : decode cX7_part 7 = .ok (.aload_n 0, 1) := by decide +kernel
theorem dX7_part_8 : decode cX7_part 8 = .ok (.iload_n 2, 1) := by decide +kernel
theorem dX7_part_9 : decode cX7_part 9 = .ok (.invokevirtual 51, 3) := by decide +kernel
theorem dX7_part_12 : decode cX7_part 12 = .ok (.astore 5, 2) := by decide +kernel
theorem dX7_part_14 : decode cX7_part 14 = .ok (.aload 4, 2) := by decide +kernel
theorem dX7_part_16 : decode cX7_part 16 = .ok (.ifnull 8, 3) := by decide +kernel
theorem dX7_part_19 : decode cX7_part 19 = .ok (.aload 5, 2) := by decide +kernel
theorem dX7_part_21 : decode cX7_part 21 = .ok (.ifnonnull 5, 3) := by decide +kernel
theorem dX7_part_24 : decode cX7_part 24 = .ok (.iconst (-1), 1) := by decide +kernel
theorem dX7_part_25 : decode cX7_part 25 = .ok (.ireturn, 1) := by decide +kernel
theorem dX7_part_26 : decode cX7_part 26 = .ok (.iload_n 3, 1) := by decide +kernel
theorem dX7_part_27 : decode cX7_part 27 = .ok (.iconst 0, 1) := by decide +kernel
theorem dX7_part_28 : decode cX7_part 28 = .ok (.bipush 8, 2) := by decide +kernel
theorem dX7_part_30 : decode cX7_part 30 = .ok (.invokestatic 55, 3) := by decide +kernel
theorem dX7_part_33 : decode cX7_part 33 = .ok (.ifCond .ne 6, 3) := by decide +kernel
theorem dX7_part_36 : decode cX7_part 36 = .ok (.bipush (-2), 2) := by decide +kernel
theorem dX7_part_38 : decode cX7_part 38 = .ok (.ireturn, 1) := by decide +kernel
theorem dX7_part_39 : decode cX7_part 39 = .ok (.aload 4, 2) := by decide +kernel
theorem dX7_part_41 : decode cX7_part 41 = .ok (.invokevirtual 101, 3) := by decide +kernel
theorem dX7_part_44 : decode cX7_part 44 = .ok (.ifCond .eq 11, 3) := by decide +kernel
theorem dX7_part_47 : decode cX7_part 47 = .ok (.aload 5, 2) := by decide +kernel
theorem dX7_part_49 : decode cX7_part 49 = .ok (.invokevirtual 101, 3) := by decide +kernel
theorem dX7_part_52 : decode cX7_part 52 = .ok (.ifCond .ne 6, 3) := by decide +kernel
theorem dX7_part_55 : decode cX7_part 55 = .ok (.bipush (-3), 2) := by decide +kernel
theorem dX7_part_57 : decode cX7_part 57 = .ok (.ireturn, 1) := by decide +kernel
theorem dX7_part_58 : decode cX7_part 58 = .ok (.aload 4, 2) := by decide +kernel
theorem dX7_part_60 : decode cX7_part 60 = .ok (.aload 5, 2) := by decide +kernel
theorem dX7_part_62 : decode cX7_part 62 = .ok (.iload_n 3, 1) := by decide +kernel
theorem dX7_part_63 : decode cX7_part 63 = .ok (.invokestatic 191, 3) := by decide +kernel
theorem dX7_part_66 : decode cX7_part 66 = .ok (.ireturn, 1) := by decide +kernel
theorem dX7_fillings_0 : decode cX7_fillings 0 = .ok (.aload_n 0, 1) := by decide +kernel
theorem dX7_fillings_1 : decode cX7_fillings 1 = .ok (.iload_n 1, 1) := by decide +kernel
theorem dX7_fillings_2 : decode cX7_fillings 2 = .ok (.invokevirtual 51, 3) := by decide +kernel
theorem dX7_fillings_5 : decode cX7_fillings 5 = .ok (.astore_n 2, 1) := by decide +kernel
theorem dX7_fillings_6 : decode cX7_fillings 6 = .ok (.aload_n 2, 1) := by decide +kernel
theorem dX7_fillings_7 : decode cX7_fillings 7 = .ok (.ifnonnull 9, 3) := by decide +kernel
theorem dX7_fillings_10 : decode cX7_fillings 10 = .ok (.ldc2_w 142, 3) := by decide +kernel
theorem dX7_fillings_13 : decode cX7_fillings 13 = .ok (.goto 7, 3) := by decide +kernel
theorem dX7_fillings_16 : decode cX7_fillings 16 = .ok (.aload_n 2, 1) := by decide +kernel
theorem dX7_fillings_17 : decode cX7_fillings 17 = .ok (.invokevirtual 195, 3) := by decide +kernel
theorem dX7_fillings_20 : decode cX7_fillings 20 = .ok (.lreturn, 1) := by decide +kernel
theorem dX7_hidden_0 : decode cX7_hidden 0 = .ok (.aload_n 0, 1) := by decide +kernel
theorem dX7_hidden_1 : decode cX7_hidden 1 = .ok (.iload_n 1, 1) := by decide +kernel
theorem dX7_hidden_2 : decode cX7_hidden 2 = .ok (.invokevirtual 51, 3) := by decide +kernel
theorem dX7_hidden_5 : decode cX7_hidden 5 = .ok (.astore 6, 2) := by decide +kernel
theorem dX7_hidden_7 : decode cX7_hidden 7 = .ok (.aload_n 0, 1) := by decide +kernel
theorem dX7_hidden_8 : decode cX7_hidden 8 = .ok (.iload_n 2, 1) := by decide +kernel
theorem dX7_hidden_9 : decode cX7_hidden 9 = .ok (.invokevirtual 51, 3) := by decide +kernel
theorem dX7_hidden_12 : decode cX7_hidden 12 = .ok (.astore 7, 2) := by decide +kernel
theorem dX7_hidden_14 : decode cX7_hidden 14 = .ok (.aload 6, 2) := by decide +kernel
theorem dX7_hidden_16 : decode cX7_hidden 16 = .ok (.ifnull 8, 3) := by decide +kernel
theorem dX7_hidden_19 : decode cX7_hidden 19 = .ok (.aload 7, 2) := by decide +kernel
theorem dX7_hidden_21 : decode cX7_hidden 21 = .ok (.ifnonnull 5, 3) := by decide +kernel
theorem dX7_hidden_24 : decode cX7_hidden 24 = .ok (.iconst (-1), 1) := by decide +kernel
theorem dX7_hidden_25 : decode cX7_hidden 25 = .ok (.ireturn, 1) := by decide +kernel
theorem dX7_hidden_26 : decode cX7_hidden 26 = .ok (.iload_n 3, 1) := by decide +kernel
theorem dX7_hidden_27 : decode cX7_hidden 27 = .ok (.invokestatic 95, 3) := by decide +kernel
theorem dX7_hidden_30 : decode cX7_hidden 30 = .ok (.ifCond .eq 21, 3) := by decide +kernel
theorem dX7_hidden_33 : decode cX7_hidden 33 = .ok (.iload 4, 2) := by decide +kernel
theorem dX7_hidden_35 : decode cX7_hidden 35 = .ok (.invokestatic 98, 3) := by decide +kernel
theorem dX7_hidden_38 : decode cX7_hidden 38 = .ok (.ifCond .eq 13, 3) := by decide +kernel
theorem dX7_hidden_41 : decode cX7_hidden 41 = .ok (.iload 5, 2) := by decide +kernel
theorem dX7_hidden_43 : decode cX7_hidden 43 = .ok (.iconst 0, 1) := by decide +kernel
theorem dX7_hidden_44 : decode cX7_hidden 44 = .ok (.iconst 3, 1) := by decide +kernel
theorem dX7_hidden_45 : decode cX7_hidden 45 = .ok (.invokestatic 55, 3) := by decide +kernel
theorem dX7_hidden_48 : decode cX7_hidden 48 = .ok (.ifCond .ne 6, 3) := by decide +kernel
theorem dX7_hidden_51 : decode cX7_hidden 51 = .ok (.bipush (-2), 2) := by decide +kernel
theorem dX7_hidden_53 : decode cX7_hidden 53 = .ok (.ireturn, 1) := by decide +kernel
theorem dX7_hidden_54 : decode cX7_hidden 54 = .ok (.iload_n 1, 1) := by decide +kernel
theorem dX7_hidden_55 : decode cX7_hidden 55 = .ok (.iload_n 2, 1) := by decide +kernel
theorem dX7_hidden_56 : decode cX7_hidden 56 = .ok (.if_icmp .eq 13, 3) := by decide +kernel
theorem dX7_hidden_59 : decode cX7_hidden 59 = .ok (.aload 6, 2) := by decide +kernel
theorem dX7_hidden_61 : decode cX7_hidden 61 = .ok (.aload 7, 2) := by decide +kernel
theorem dX7_hidden_63 : decode cX7_hidden 63 = .ok (.invokestatic 198, 3) := by decide +kernel
theorem dX7_hidden_66 : decode cX7_hidden 66 = .ok (.ifCond .ne 6, 3) := by decide +kernel
theorem dX7_hidden_69 : decode cX7_hidden 69 = .ok (.bipush (-3), 2) := by decide +kernel
theorem dX7_hidden_71 : decode cX7_hidden 71 = .ok (.ireturn, 1) := by decide +kernel
theorem dX7_hidden_72 : decode cX7_hidden 72 = .ok (.iconst 0, 1) := by decide +kernel
theorem dX7_hidden_73 : decode cX7_hidden 73 = .ok (.istore 8, 2) := by decide +kernel
theorem dX7_hidden_75 : decode cX7_hidden 75 = .ok (.aload 6, 2) := by decide +kernel
theorem dX7_hidden_77 : decode cX7_hidden 77 = .ok (.invokevirtual 195, 3) := by decide +kernel
theorem dX7_hidden_80 : decode cX7_hidden 80 = .ok (.lstore 9, 2) := by decide +kernel
theorem dX7_hidden_82 : decode cX7_hidden 82 = .ok (.aload 6, 2) := by decide +kernel
theorem dX7_hidden_84 : decode cX7_hidden 84 = .ok (.invokevirtual 104, 3) := by decide +kernel
theorem dX7_hidden_87 : decode cX7_hidden 87 = .ok (.lconst 0, 1) := by decide +kernel
theorem dX7_hidden_88 : decode cX7_hidden 88 = .ok (.lstore 11, 2) := by decide +kernel
theorem dX7_hidden_90 : decode cX7_hidden 90 = .ok (.lload 11, 2) := by decide +kernel
theorem dX7_hidden_92 : decode cX7_hidden 92 = .ok (.lload 9, 2) := by decide +kernel
theorem dX7_hidden_94 : decode cX7_hidden 94 = .ok (.lcmp, 1) := by decide +kernel
theorem dX7_hidden_95 : decode cX7_hidden 95 = .ok (.ifCond .ge 56, 3) := by decide +kernel
theorem dX7_hidden_98 : decode cX7_hidden 98 = .ok (.aload_n 0, 1) := by decide +kernel
theorem dX7_hidden_99 : decode cX7_hidden 99 = .ok (.getfield 25, 3) := by decide +kernel
theorem dX7_hidden_102 : decode cX7_hidden 102 = .ok (.getfield 107, 3) := by decide +kernel
theorem dX7_hidden_105 : decode cX7_hidden 105 = .ok (.aload 6, 2) := by decide +kernel
theorem dX7_hidden_107 : decode cX7_hidden 107 = .ok (.iload_n 3, 1) := by decide +kernel
theorem dX7_hidden_108 : decode cX7_hidden 108 = .ok (.iload 4, 2) := by decide +kernel
theorem dX7_hidden_110 : decode cX7_hidden 110 = .ok (.ifCond .ne 7, 3) := by decide +kernel
theorem dX7_hidden_113 : decode cX7_hidden 113 = .ok (.iconst 1, 1) := by decide +kernel
theorem dX7_hidden_114 : decode cX7_hidden 114 = .ok (.goto 4, 3) := by decide +kernel
theorem dX7_hidden_117 : decode cX7_hidden 117 = .ok (.iconst 0, 1) := by decide +kernel
theorem dX7_hidden_118 : decode cX7_hidden 118 = .ok (.invokevirtual 111, 3) := by decide +kernel
theorem dX7_hidden_121 : decode cX7_hidden 121 = .ok (.iload 8, 2) := by decide +kernel
theorem dX7_hidden_123 : decode cX7_hidden 123 = .ok (.aload_n 0, 1) := by decide +kernel
theorem dX7_hidden_124 : decode cX7_hidden 124 = .ok (.aload 7, 2) := by decide +kernel
theorem dX7_hidden_126 : decode cX7_hidden 126 = .ok (.iload_n 3, 1) := by decide +kernel
theorem dX7_hidden_127 : decode cX7_hidden 127 = .ok (.iload 4, 2) := by decide +kernel
theorem dX7_hidden_129 : decode cX7_hidden 129 = .ok (.iload 5, 2) := by decide +kernel
theorem dX7_hidden_131 : decode cX7_hidden 131 = .ok (.invokevirtual 202, 3) := by decide +kernel
theorem dX7_hidden_134 : decode cX7_hidden 134 = .ok (.iadd, 1) := by decide +kernel
theorem dX7_hidden_135 : decode cX7_hidden 135 = .ok (.istore 8, 2) := by decide +kernel
theorem dX7_hidden_137 : decode cX7_hidden 137 = .ok (.aload 6, 2) := by decide +kernel
theorem dX7_hidden_139 : decode cX7_hidden 139 = .ok (.invokevirtual 206, 3) := by decide +kernel
theorem dX7_hidden_142 : decode cX7_hidden 142 = .ok (.lload 11, 2) := by decide +kernel
theorem dX7_hidden_144 : decode cX7_hidden 144 = .ok (.lconst 1, 1) := by decide +kernel
theorem dX7_hidden_145 : decode cX7_hidden 145 = .ok (.ladd, 1) := by decide +kernel
theorem dX7_hidden_146 : decode cX7_hidden 146 = .ok (.lstore 11, 2) := by decide +kernel
theorem dX7_hidden_148 : decode cX7_hidden 148 = .ok (.goto (-58), 3) := by decide +kernel
theorem dX7_hidden_151 : decode cX7_hidden 151 = .ok (.iload 8, 2) := by decide +kernel
theorem dX7_hidden_153 : decode cX7_hidden 153 = .ok (.ireturn, 1) := by decide +kernel
theorem dX7_ask_0 : decode cX7_ask 0 = .ok (.aload_n 0, 1) := by decide +kernel
theorem dX7_ask_1 : decode cX7_ask 1 = .ok (.iload_n 1, 1) := by decide +kernel
theorem dX7_ask_2 : decode cX7_ask 2 = .ok (.invokevirtual 51, 3) := by decide +kernel
theorem dX7_ask_5 : decode cX7_ask 5 = .ok (.astore 5, 2) := by decide +kernel
theorem dX7_ask_7 : decode cX7_ask 7 = .ok (.aload_n 0, 1) := by decide +kernel
theorem dX7_ask_8 : decode cX7_ask 8 = .ok (.iload_n 2, 1) := by decide +kernel
theorem dX7_ask_9 : decode cX7_ask 9 = .ok (.invokevirtual 51, 3) := by decide +kernel
theorem dX7_ask_12 : decode cX7_ask 12 = .ok (.astore 6, 2) := by decide +kernel
theorem dX7_ask_14 : decode cX7_ask 14 = .ok (.aload 5, 2) := by decide +kernel
theorem dX7_ask_16 : decode cX7_ask 16 = .ok (.ifnull 8, 3) := by decide +kernel
theorem dX7_ask_19 : decode cX7_ask 19 = .ok (.aload 6, 2) := by decide +kernel
theorem dX7_ask_21 : decode cX7_ask 21 = .ok (.ifnonnull 5, 3) := by decide +kernel
theorem dX7_ask_24 : decode cX7_ask 24 = .ok (.iconst (-1), 1) := by decide +kernel
theorem dX7_ask_25 : decode cX7_ask 25 = .ok (.ireturn, 1) := by decide +kernel
theorem dX7_ask_26 : decode cX7_ask 26 = .ok (.iload_n 3, 1) := by decide +kernel
theorem dX7_ask_27 : decode cX7_ask 27 = .ok (.invokestatic 95, 3) := by decide +kernel
theorem dX7_ask_30 : decode cX7_ask 30 = .ok (.ifCond .eq 11, 3) := by decide +kernel
theorem dX7_ask_33 : decode cX7_ask 33 = .ok (.iload 4, 2) := by decide +kernel
theorem dX7_ask_35 : decode cX7_ask 35 = .ok (.invokestatic 98, 3) := by decide +kernel
theorem dX7_ask_38 : decode cX7_ask 38 = .ok (.ifCond .ne 6, 3) := by decide +kernel
theorem dX7_ask_41 : decode cX7_ask 41 = .ok (.bipush (-2), 2) := by decide +kernel
theorem dX7_ask_43 : decode cX7_ask 43 = .ok (.ireturn, 1) := by decide +kernel
theorem dX7_ask_44 : decode cX7_ask 44 = .ok (.iload_n 1, 1) := by decide +kernel
theorem dX7_ask_45 : decode cX7_ask 45 = .ok (.iload_n 2, 1) := by decide +kernel
theorem dX7_ask_46 : decode cX7_ask 46 = .ok (.if_icmp .eq 13, 3) := by decide +kernel
theorem dX7_ask_49 : decode cX7_ask 49 = .ok (.aload 5, 2) := by decide +kernel
theorem dX7_ask_51 : decode cX7_ask 51 = .ok (.aload 6, 2) := by decide +kernel
theorem dX7_ask_53 : decode cX7_ask 53 = .ok (.invokestatic 198, 3) := by decide +kernel
theorem dX7_ask_56 : decode cX7_ask 56 = .ok (.ifCond .ne 6, 3) := by decide +kernel
theorem dX7_ask_59 : decode cX7_ask 59 = .ok (.bipush (-3), 2) := by decide +kernel
theorem dX7_ask_61 : decode cX7_ask 61 = .ok (.ireturn, 1) := by decide +kernel
theorem dX7_ask_62 : decode cX7_ask 62 = .ok (.aload_n 0, 1) := by decide +kernel
theorem dX7_ask_63 : decode cX7_ask 63 = .ok (.getfield 39, 3) := by decide +kernel
theorem dX7_ask_66 : decode cX7_ask 66 = .ok (.invokevirtual 209, 3) := by decide +kernel
theorem dX7_ask_69 : decode cX7_ask 69 = .ok (.aload 5, 2) := by decide +kernel
theorem dX7_ask_71 : decode cX7_ask 71 = .ok (.invokevirtual 195, 3) := by decide +kernel
theorem dX7_ask_74 : decode cX7_ask 74 = .ok (.lstore 7, 2) := by decide +kernel
theorem dX7_ask_76 : decode cX7_ask 76 = .ok (.aload 5, 2) := by decide +kernel
theorem dX7_ask_78 : decode cX7_ask 78 = .ok (.invokevirtual 104, 3) := by decide +kernel
theorem dX7_ask_81 : decode cX7_ask 81 = .ok (.lconst 0, 1) := by decide +kernel
theorem dX7_ask_82 : decode cX7_ask 82 = .ok (.lstore 9, 2) := by decide +kernel
theorem dX7_ask_84 : decode cX7_ask 84 = .ok (.lload 9, 2) := by decide +kernel
theorem dX7_ask_86 : decode cX7_ask 86 = .ok (.lload 7, 2) := by decide +kernel
theorem dX7_ask_88 : decode cX7_ask 88 = .ok (.lcmp, 1) := by decide +kernel
theorem dX7_ask_89 : decode cX7_ask 89 = .ok (.ifCond .ge 58, 3) := by decide +kernel
theorem dX7_ask_92 : decode cX7_ask 92 = .ok (.aload_n 0, 1) := by decide +kernel
theorem dX7_ask_93 : decode cX7_ask 93 = .ok (.getfield 25, 3) := by decide +kernel
theorem dX7_ask_96 : decode cX7_ask 96 = .ok (.getfield 107, 3) := by decide +kernel
theorem dX7_ask_99 : decode cX7_ask 99 = .ok (.aload 5, 2) := by decide +kernel
theorem dX7_ask_101 : decode cX7_ask 101 = .ok (.iload_n 3, 1) := by decide +kernel
theorem dX7_ask_102 : decode cX7_ask 102 = .ok (.iload 4, 2) := by decide +kernel
theorem dX7_ask_104 : decode cX7_ask 104 = .ok (.ifCond .ne 7, 3) := by decide +kernel
theorem dX7_ask_107 : decode cX7_ask 107 = .ok (.iconst 1, 1) := by decide +kernel
theorem dX7_ask_108 : decode cX7_ask 108 = .ok (.goto 4, 3) := by decide +kernel
theorem dX7_ask_111 : decode cX7_ask 111 = .ok (.iconst 0, 1) := by decide +kernel
theorem dX7_ask_112 : decode cX7_ask 112 = .ok (.invokevirtual 111, 3) := by decide +kernel
theorem dX7_ask_115 : decode cX7_ask 115 = .ok (.aload_n 0, 1) := by decide +kernel
theorem dX7_ask_116 : decode cX7_ask 116 = .ok (.getfield 39, 3) := by decide +kernel
theorem dX7_ask_119 : decode cX7_ask 119 = .ok (.aload 5, 2) := by decide +kernel
theorem dX7_ask_121 : decode cX7_ask 121 = .ok (.aload_n 0, 1) := by decide +kernel
theorem dX7_ask_122 : decode cX7_ask 122 = .ok (.aload 6, 2) := by decide +kernel
theorem dX7_ask_124 : decode cX7_ask 124 = .ok (.iload_n 3, 1) := by decide +kernel
theorem dX7_ask_125 : decode cX7_ask 125 = .ok (.iload 4, 2) := by decide +kernel
theorem dX7_ask_127 : decode cX7_ask 127 = .ok (.invokevirtual 212, 3) := by decide +kernel
theorem dX7_ask_130 : decode cX7_ask 130 = .ok (.invokevirtual 216, 3) := by decide +kernel
theorem dX7_ask_133 : decode cX7_ask 133 = .ok (.aload 5, 2) := by decide +kernel
theorem dX7_ask_135 : decode cX7_ask 135 = .ok (.invokevirtual 206, 3) := by decide +kernel
theorem dX7_ask_138 : decode cX7_ask 138 = .ok (.lload 9, 2) := by decide +kernel
theorem dX7_ask_140 : decode cX7_ask 140 = .ok (.lconst 1, 1) := by decide +kernel
theorem dX7_ask_141 : decode cX7_ask 141 = .ok (.ladd, 1) := by decide +kernel
theorem dX7_ask_142 : decode cX7_ask 142 = .ok (.lstore 9, 2) := by decide +kernel
theorem dX7_ask_144 : decode cX7_ask 144 = .ok (.goto (-60), 3) := by decide +kernel
theorem dX7_ask_147 : decode cX7_ask 147 = .ok (.aload_n 0, 1) := by decide +kernel
theorem dX7_ask_148 : decode cX7_ask 148 = .ok (.getfield 39, 3) := by decide +kernel
theorem dX7_ask_151 : decode cX7_ask 151 = .ok (.aload 5, 2) := by decide +kernel
theorem dX7_ask_153 : decode cX7_ask 153 = .ok (.invokevirtual 220, 3) := by decide +kernel
theorem dX7_ask_156 : decode cX7_ask 156 = .ok (.ireturn, 1) := by decide +kernel
theorem dX7_poor_0 : decode cX7_poor 0 = .ok (.aload_n 0, 1) := by decide +kernel
theorem dX7_poor_1 : decode cX7_poor 1 = .ok (.iload_n 1, 1) := by decide +kernel
theorem dX7_poor_2 : decode cX7_poor 2 = .ok (.invokevirtual 51, 3) := by decide +kernel
theorem dX7_poor_5 : decode cX7_poor 5 = .ok (.astore 4, 2) := by decide +kernel
theorem dX7_poor_7 : decode cX7_poor 7 = .ok (.aload 4, 2) := by decide +kernel
theorem dX7_poor_9 : decode cX7_poor 9 = .ok (.ifnonnull 5, 3) := by decide +kernel
theorem dX7_poor_12 : decode cX7_poor 12 = .ok (.iconst (-1), 1) := by decide +kernel
theorem dX7_poor_13 : decode cX7_poor 13 = .ok (.ireturn, 1) := by decide +kernel
theorem dX7_poor_14 : decode cX7_poor 14 = .ok (.iload_n 2, 1) := by decide +kernel
theorem dX7_poor_15 : decode cX7_poor 15 = .ok (.iconst 0, 1) := by decide +kernel
theorem dX7_poor_16 : decode cX7_poor 16 = .ok (.bipush 100, 2) := by decide +kernel
theorem dX7_poor_18 : decode cX7_poor 18 = .ok (.invokestatic 55, 3) := by decide +kernel
theorem dX7_poor_21 : decode cX7_poor 21 = .ok (.ifCond .ne 6, 3) := by decide +kernel
theorem dX7_poor_24 : decode cX7_poor 24 = .ok (.bipush (-2), 2) := by decide +kernel
theorem dX7_poor_26 : decode cX7_poor 26 = .ok (.ireturn, 1) := by decide +kernel
theorem dX7_poor_27 : decode cX7_poor 27 = .ok (.aload 4, 2) := by decide +kernel
theorem dX7_poor_29 : decode cX7_poor 29 = .ok (.invokevirtual 87, 3) := by decide +kernel
theorem dX7_poor_32 : decode cX7_poor 32 = .ok (.ifCond .ne 6, 3) := by decide +kernel
theorem dX7_poor_35 : decode cX7_poor 35 = .ok (.bipush (-3), 2) := by decide +kernel
theorem dX7_poor_37 : decode cX7_poor 37 = .ok (.ireturn, 1) := by decide +kernel
theorem dX7_poor_38 : decode cX7_poor 38 = .ok (.iload_n 3, 1) := by decide +kernel
theorem dX7_poor_39 : decode cX7_poor 39 = .ok (.ifCond .eq 12, 3) := by decide +kernel
theorem dX7_poor_42 : decode cX7_poor 42 = .ok (.aload 4, 2) := by decide +kernel
theorem dX7_poor_44 : decode cX7_poor 44 = .ok (.iload_n 2, 1) := by decide +kernel
theorem dX7_poor_45 : decode cX7_poor 45 = .ok (.invokestatic 224, 3) := by decide +kernel
theorem dX7_poor_48 : decode cX7_poor 48 = .ok (.goto 9, 3) := by decide +kernel
theorem dX7_poor_51 : decode cX7_poor 51 = .ok (.aload 4, 2) := by decide +kernel
theorem dX7_poor_53 : decode cX7_poor 53 = .ok (.iload_n 2, 1) := by decide +kernel
theorem dX7_poor_54 : decode cX7_poor 54 = .ok (.invokestatic 228, 3) := by decide +kernel
theorem dX7_poor_57 : decode cX7_poor 57 = .ok (.ireturn, 1) := by decide +kernel
theorem dX7_never_0 : decode cX7_never 0 = .ok (.aload_n 0, 1) := by decide +kernel
theorem dX7_never_1 : decode cX7_never 1 = .ok (.iload_n 1, 1) := by decide +kernel
theorem dX7_never_2 : decode cX7_never 2 = .ok (.iload_n 2, 1) := by decide +kernel
theorem dX7_never_3 : decode cX7_never 3 = .ok (.iload_n 3, 1) := by decide +kernel
theorem dX7_never_4 : decode cX7_never 4 = .ok (.iload 4, 2) := by decide +kernel
theorem dX7_never_6 : decode cX7_never 6 = .ok (.invokevirtual 231, 3) := by decide +kernel
theorem dX7_never_9 : decode cX7_never 9 = .ok (.istore 5, 2) := by decide +kernel
theorem dX7_never_11 : decode cX7_never 11 = .ok (.iload 5, 2) := by decide +kernel
theorem dX7_never_13 : decode cX7_never 13 = .ok (.bipush (-9), 2) := by decide +kernel
theorem dX7_never_15 : decode cX7_never 15 = .ok (.if_icmp .ne 5, 3) := by decide +kernel
theorem dX7_never_18 : decode cX7_never 18 = .ok (.iconst 1, 1) := by decide +kernel
theorem dX7_never_19 : decode cX7_never 19 = .ok (.ireturn, 1) := by decide +kernel
theorem dX7_never_20 : decode cX7_never 20 = .ok (.iload 5, 2) := by decide +kernel
theorem dX7_never_22 : decode cX7_never 22 = .ok (.ifCond .ge 8, 3) := by decide +kernel
theorem dX7_never_25 : decode cX7_never 25 = .ok (.iload 5, 2) := by decide +kernel
theorem dX7_never_27 : decode cX7_never 27 = .ok (.goto 4, 3) := by decide +kernel
theorem dX7_never_30 : decode cX7_never 30 = .ok (.iconst 0, 1) := by decide +kernel
theorem dX7_never_31 : decode cX7_never 31 = .ok (.ireturn, 1) := by decide +kernel
theorem dX7_edge_0 : decode cX7_edge 0 = .ok (.aload_n 0, 1) := by decide +kernel
theorem dX7_edge_1 : decode cX7_edge 1 = .ok (.iload_n 1, 1) := by decide +kernel
theorem dX7_edge_2 : decode cX7_edge 2 = .ok (.invokevirtual 51, 3) := by decide +kernel
theorem dX7_edge_5 : decode cX7_edge 5 = .ok (.astore 5, 2) := by decide +kernel
theorem dX7_edge_7 : decode cX7_edge 7 = .ok (.aload_n 0, 1) := by decide +kernel
theorem dX7_edge_8 : decode cX7_edge 8 = .ok (.iload_n 2, 1) := by decide +kernel
theorem dX7_edge_9 : decode cX7_edge 9 = .ok (.invokevirtual 51, 3) := by decide +kernel
theorem dX7_edge_12 : decode cX7_edge 12 = .ok (.astore 6, 2) := by decide +kernel
theorem dX7_edge_14 : decode cX7_edge 14 = .ok (.aload 5, 2) := by decide +kernel
theorem dX7_edge_16 : decode cX7_edge 16 = .ok (.ifnull 8, 3) := by decide +kernel
theorem dX7_edge_19 : decode cX7_edge 19 = .ok (.aload 6, 2) := by decide +kernel
theorem dX7_edge_21 : decode cX7_edge 21 = .ok (.ifnonnull 5, 3) := by decide +kernel
theorem dX7_edge_24 : decode cX7_edge 24 = .ok (.iconst (-1), 1) := by decide +kernel
theorem dX7_edge_25 : decode cX7_edge 25 = .ok (.ireturn, 1) := by decide +kernel
