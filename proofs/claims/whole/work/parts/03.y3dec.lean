theorem dX11_stuff_0 : decode cX11_stuff 0 = .ok (.aload_n 0, 1) := by decide +kernel
theorem dX11_stuff_1 : decode cX11_stuff 1 = .ok (.iconst 0, 1) := by decide +kernel
theorem dX11_stuff_2 : decode cX11_stuff 2 = .ok (.putfield 1, 3) := by decide +kernel
theorem dX11_stuff_5 : decode cX11_stuff 5 = .ok (.aload_n 0, 1) := by decide +kernel
theorem dX11_stuff_6 : decode cX11_stuff 6 = .ok (.iload_n 1, 1) := by decide +kernel
theorem dX11_stuff_7 : decode cX11_stuff 7 = .ok (.invokevirtual 283, 3) := by decide +kernel
theorem dX11_stuff_10 : decode cX11_stuff 10 = .ok (.ifCond .eq 11, 3) := by decide +kernel
theorem dX11_stuff_13 : decode cX11_stuff 13 = .ok (.aload_n 0, 1) := by decide +kernel
theorem dX11_stuff_14 : decode cX11_stuff 14 = .ok (.iload_n 2, 1) := by decide +kernel
theorem dX11_stuff_15 : decode cX11_stuff 15 = .ok (.invokevirtual 274, 3) := by decide +kernel
theorem dX11_stuff_18 : decode cX11_stuff 18 = .ok (.ifCond .ne 5, 3) := by decide +kernel
theorem dX11_stuff_21 : decode cX11_stuff 21 = .ok (.iconst (-1), 1) := by decide +kernel
theorem dX11_stuff_22 : decode cX11_stuff 22 = .ok (.ireturn, 1) := by decide +kernel
theorem dX11_stuff_23 : decode cX11_stuff 23 = .ok (.aload_n 0, 1) := by decide +kernel
theorem dX11_stuff_24 : decode cX11_stuff 24 = .ok (.getfield 33, 3) := by decide +kernel
theorem dX11_stuff_27 : decode cX11_stuff 27 = .ok (.sipush 185, 3) := by decide +kernel
theorem dX11_stuff_30 : decode cX11_stuff 30 = .ok (.iload_n 2, 1) := by decide +kernel
theorem dX11_stuff_31 : decode cX11_stuff 31 = .ok (.iadd, 1) := by decide +kernel
theorem dX11_stuff_32 : decode cX11_stuff 32 = .ok (.iaload, 1) := by decide +kernel
theorem dX11_stuff_33 : decode cX11_stuff 33 = .ok (.ifCond .ne 5, 3) := by decide +kernel
theorem dX11_stuff_36 : decode cX11_stuff 36 = .ok (.iconst 1, 1) := by decide +kernel
theorem dX11_stuff_37 : decode cX11_stuff 37 = .ok (.ireturn, 1) := by decide +kernel
theorem dX11_stuff_38 : decode cX11_stuff 38 = .ok (.aload_n 0, 1) := by decide +kernel
theorem dX11_stuff_39 : decode cX11_stuff 39 = .ok (.invokevirtual 309, 3) := by decide +kernel
theorem dX11_stuff_42 : decode cX11_stuff 42 = .ok (.aload_n 0, 1) := by decide +kernel
theorem dX11_stuff_43 : decode cX11_stuff 43 = .ok (.iload_n 1, 1) := by decide +kernel
theorem dX11_stuff_44 : decode cX11_stuff 44 = .ok (.iload_n 2, 1) := by decide +kernel
theorem dX11_stuff_45 : decode cX11_stuff 45 = .ok (.invokevirtual 318, 3) := by decide +kernel
theorem dX11_stuff_48 : decode cX11_stuff 48 = .ok (.iconst 0, 1) := by decide +kernel
theorem dX11_stuff_49 : decode cX11_stuff 49 = .ok (.ireturn, 1) := by decide +kernel
theorem dX11_days_0 : decode cX11_days 0 = .ok (.aload_n 0, 1) := by decide +kernel
theorem dX11_days_1 : decode cX11_days 1 = .ok (.iconst 0, 1) := by decide +kernel
theorem dX11_days_2 : decode cX11_days 2 = .ok (.putfield 1, 3) := by decide +kernel
theorem dX11_days_5 : decode cX11_days 5 = .ok (.iload_n 1, 1) := by decide +kernel
theorem dX11_days_6 : decode cX11_days 6 = .ok (.iconst 1, 1) := by decide +kernel
theorem dX11_days_7 : decode cX11_days 7 = .ok (.bipush 60, 2) := by decide +kernel
theorem dX11_days_9 : decode cX11_days 9 = .ok (.invokestatic 176, 3) := by decide +kernel
theorem dX11_days_12 : decode cX11_days 12 = .ok (.ifCond .ne 5, 3) := by decide +kernel
theorem dX11_days_15 : decode cX11_days 15 = .ok (.iconst (-1), 1) := by decide +kernel
theorem dX11_days_16 : decode cX11_days 16 = .ok (.ireturn, 1) := by decide +kernel
theorem dX11_days_17 : decode cX11_days 17 = .ok (.aload_n 0, 1) := by decide +kernel
theorem dX11_days_18 : decode cX11_days 18 = .ok (.getfield 33, 3) := by decide +kernel
theorem dX11_days_21 : decode cX11_days 21 = .ok (.bipush 121, 2) := by decide +kernel
theorem dX11_days_23 : decode cX11_days 23 = .ok (.iaload, 1) := by decide +kernel
theorem dX11_days_24 : decode cX11_days 24 = .ok (.sipush 400, 3) := by decide +kernel
theorem dX11_days_27 : decode cX11_days 27 = .ok (.if_icmp .ne 5, 3) := by decide +kernel
theorem dX11_days_30 : decode cX11_days 30 = .ok (.iconst 0, 1) := by decide +kernel
theorem dX11_days_31 : decode cX11_days 31 = .ok (.ireturn, 1) := by decide +kernel
theorem dX11_days_32 : decode cX11_days 32 = .ok (.aload_n 0, 1) := by decide +kernel
theorem dX11_days_33 : decode cX11_days 33 = .ok (.invokevirtual 309, 3) := by decide +kernel
theorem dX11_days_36 : decode cX11_days 36 = .ok (.aload_n 0, 1) := by decide +kernel
theorem dX11_days_37 : decode cX11_days 37 = .ok (.iload_n 1, 1) := by decide +kernel
theorem dX11_days_38 : decode cX11_days 38 = .ok (.invokevirtual 321, 3) := by decide +kernel
theorem dX11_days_41 : decode cX11_days 41 = .ok (.ireturn, 1) := by decide +kernel
theorem dX11_undo_0 : decode cX11_undo 0 = .ok (.aload_n 0, 1) := by decide +kernel
theorem dX11_undo_1 : decode cX11_undo 1 = .ok (.iconst 0, 1) := by decide +kernel
theorem dX11_undo_2 : decode cX11_undo 2 = .ok (.putfield 1, 3) := by decide +kernel
theorem dX11_undo_5 : decode cX11_undo 5 = .ok (.aload_n 0, 1) := by decide +kernel
theorem dX11_undo_6 : decode cX11_undo 6 = .ok (.getfield 242, 3) := by decide +kernel
theorem dX11_undo_9 : decode cX11_undo 9 = .ok (.ifCond .ne 5, 3) := by decide +kernel
theorem dX11_undo_12 : decode cX11_undo 12 = .ok (.iconst (-1), 1) := by decide +kernel
theorem dX11_undo_13 : decode cX11_undo 13 = .ok (.ireturn, 1) := by decide +kernel
theorem dX11_undo_14 : decode cX11_undo 14 = .ok (.aload_n 0, 1) := by decide +kernel
theorem dX11_undo_15 : decode cX11_undo 15 = .ok (.dup, 1) := by decide +kernel
theorem dX11_undo_16 : decode cX11_undo 16 = .ok (.getfield 242, 3) := by decide +kernel
theorem dX11_undo_19 : decode cX11_undo 19 = .ok (.iconst 1, 1) := by decide +kernel
theorem dX11_undo_20 : decode cX11_undo 20 = .ok (.isub, 1) := by decide +kernel
theorem dX11_undo_21 : decode cX11_undo 21 = .ok (.putfield 242, 3) := by decide +kernel
theorem dX11_undo_24 : decode cX11_undo 24 = .ok (.iconst 0, 1) := by decide +kernel
theorem dX11_undo_25 : decode cX11_undo 25 = .ok (.istore_n 1, 1) := by decide +kernel
theorem dX11_undo_26 : decode cX11_undo 26 = .ok (.iload_n 1, 1) := by decide +kernel
theorem dX11_undo_27 : decode cX11_undo 27 = .ok (.bipush 88, 2) := by decide +kernel
theorem dX11_undo_29 : decode cX11_undo 29 = .ok (.if_icmp .ge 32, 3) := by decide +kernel
theorem dX11_undo_32 : decode cX11_undo 32 = .ok (.aload_n 0, 1) := by decide +kernel
theorem dX11_undo_33 : decode cX11_undo 33 = .ok (.getfield 33, 3) := by decide +kernel
theorem dX11_undo_36 : decode cX11_undo 36 = .ok (.bipush 121, 2) := by decide +kernel
theorem dX11_undo_38 : decode cX11_undo 38 = .ok (.iload_n 1, 1) := by decide +kernel
theorem dX11_undo_39 : decode cX11_undo 39 = .ok (.iadd, 1) := by decide +kernel
theorem dX11_undo_40 : decode cX11_undo 40 = .ok (.aload_n 0, 1) := by decide +kernel
theorem dX11_undo_41 : decode cX11_undo 41 = .ok (.getfield 50, 3) := by decide +kernel
theorem dX11_undo_44 : decode cX11_undo 44 = .ok (.bipush 88, 2) := by decide +kernel
theorem dX11_undo_46 : decode cX11_undo 46 = .ok (.aload_n 0, 1) := by decide +kernel
theorem dX11_undo_47 : decode cX11_undo 47 = .ok (.getfield 242, 3) := by decide +kernel
theorem dX11_undo_50 : decode cX11_undo 50 = .ok (.imul, 1) := by decide +kernel
theorem dX11_undo_51 : decode cX11_undo 51 = .ok (.iload_n 1, 1) := by decide +kernel
theorem dX11_undo_52 : decode cX11_undo 52 = .ok (.iadd, 1) := by decide +kernel
theorem dX11_undo_53 : decode cX11_undo 53 = .ok (.iaload, 1) := by decide +kernel
theorem dX11_undo_54 : decode cX11_undo 54 = .ok (.iastore, 1) := by decide +kernel
theorem dX11_undo_55 : decode cX11_undo 55 = .ok (.iinc 1 1, 3) := by decide +kernel
theorem dX11_undo_58 : decode cX11_undo 58 = .ok (.goto (-32), 3) := by decide +kernel
theorem dX11_undo_61 : decode cX11_undo 61 = .ok (.aload_n 0, 1) := by decide +kernel
theorem dX11_undo_62 : decode cX11_undo 62 = .ok (.getfield 242, 3) := by decide +kernel
theorem dX11_undo_65 : decode cX11_undo 65 = .ok (.ireturn, 1) := by decide +kernel
theorem dX11_tries_0 : decode cX11_tries 0 = .ok (.iconst 0, 1) := by decide +kernel
theorem dX11_tries_1 : decode cX11_tries 1 = .ok (.istore_n 1, 1) := by decide +kernel
theorem dX11_tries_2 : decode cX11_tries 2 = .ok (.iload_n 1, 1) := by decide +kernel
theorem dX11_tries_3 : decode cX11_tries 3 = .ok (.bipush 88, 2) := by decide +kernel
theorem dX11_tries_5 : decode cX11_tries 5 = .ok (.if_icmp .ge 24, 3) := by decide +kernel
theorem dX11_tries_8 : decode cX11_tries 8 = .ok (.aload_n 0, 1) := by decide +kernel
theorem dX11_tries_9 : decode cX11_tries 9 = .ok (.getfield 53, 3) := by decide +kernel
theorem dX11_tries_12 : decode cX11_tries 12 = .ok (.iload_n 1, 1) := by decide +kernel
theorem dX11_tries_13 : decode cX11_tries 13 = .ok (.aload_n 0, 1) := by decide +kernel
theorem dX11_tries_14 : decode cX11_tries 14 = .ok (.getfield 33, 3) := by decide +kernel
theorem dX11_tries_17 : decode cX11_tries 17 = .ok (.bipush 121, 2) := by decide +kernel
theorem dX11_tries_19 : decode cX11_tries 19 = .ok (.iload_n 1, 1) := by decide +kernel
theorem dX11_tries_20 : decode cX11_tries 20 = .ok (.iadd, 1) := by decide +kernel
theorem dX11_tries_21 : decode cX11_tries 21 = .ok (.iaload, 1) := by decide +kernel
theorem dX11_tries_22 : decode cX11_tries 22 = .ok (.iastore, 1) := by decide +kernel
theorem dX11_tries_23 : decode cX11_tries 23 = .ok (.iinc 1 1, 3) := by decide +kernel
theorem dX11_tries_26 : decode cX11_tries 26 = .ok (.goto (-24), 3) := by decide +kernel
theorem dX11_tries_29 : decode cX11_tries 29 = .ok (.return_, 1) := by decide +kernel
theorem dX11_back_0 : decode cX11_back 0 = .ok (.iconst 0, 1) := by decide +kernel
theorem dX11_back_1 : decode cX11_back 1 = .ok (.istore_n 1, 1) := by decide +kernel
theorem dX11_back_2 : decode cX11_back 2 = .ok (.iload_n 1, 1) := by decide +kernel
theorem dX11_back_3 : decode cX11_back 3 = .ok (.bipush 88, 2) := by decide +kernel
theorem dX11_back_5 : decode cX11_back 5 = .ok (.if_icmp .ge 24, 3) := by decide +kernel
theorem dX11_back_8 : decode cX11_back 8 = .ok (.aload_n 0, 1) := by decide +kernel
theorem dX11_back_9 : decode cX11_back 9 = .ok (.getfield 33, 3) := by decide +kernel
theorem dX11_back_12 : decode cX11_back 12 = .ok (.bipush 121, 2) := by decide +kernel
theorem dX11_back_14 : decode cX11_back 14 = .ok (.iload_n 1, 1) := by decide +kernel
theorem dX11_back_15 : decode cX11_back 15 = .ok (.iadd, 1) := by decide +kernel
theorem dX11_back_16 : decode cX11_back 16 = .ok (.aload_n 0, 1) := by decide +kernel
theorem dX11_back_17 : decode cX11_back 17 = .ok (.getfield 53, 3) := by decide +kernel
theorem dX11_back_20 : decode cX11_back 20 = .ok (.iload_n 1, 1) := by decide +kernel
theorem dX11_back_21 : decode cX11_back 21 = .ok (.iaload, 1) := by decide +kernel
theorem dX11_back_22 : decode cX11_back 22 = .ok (.iastore, 1) := by decide +kernel
theorem dX11_back_23 : decode cX11_back 23 = .ok (.iinc 1 1, 3) := by decide +kernel
theorem dX11_back_26 : decode cX11_back 26 = .ok (.goto (-24), 3) := by decide +kernel
theorem dX11_back_29 : decode cX11_back 29 = .ok (.return_, 1) := by decide +kernel
theorem dX11_easeBy_0 : decode cX11_easeBy 0 = .ok (.aload_n 0, 1) := by decide +kernel
theorem dX11_easeBy_1 : decode cX11_easeBy 1 = .ok (.getfield 33, 3) := by decide +kernel
theorem dX11_easeBy_4 : decode cX11_easeBy 4 = .ok (.sipush 179, 3) := by decide +kernel
theorem dX11_easeBy_7 : decode cX11_easeBy 7 = .ok (.iload_n 1, 1) := by decide +kernel
theorem dX11_easeBy_8 : decode cX11_easeBy 8 = .ok (.iadd, 1) := by decide +kernel
theorem dX11_easeBy_9 : decode cX11_easeBy 9 = .ok (.iaload, 1) := by decide +kernel
theorem dX11_easeBy_10 : decode cX11_easeBy 10 = .ok (.aload_n 0, 1) := by decide +kernel
theorem dX11_easeBy_11 : decode cX11_easeBy 11 = .ok (.iload_n 1, 1) := by decide +kernel
theorem dX11_easeBy_12 : decode cX11_easeBy 12 = .ok (.invokevirtual 268, 3) := by decide +kernel
theorem dX11_easeBy_15 : decode cX11_easeBy 15 = .ok (.iadd, 1) := by decide +kernel
theorem dX11_easeBy_16 : decode cX11_easeBy 16 = .ok (.aload_n 0, 1) := by decide +kernel
theorem dX11_easeBy_17 : decode cX11_easeBy 17 = .ok (.getfield 33, 3) := by decide +kernel
theorem dX11_easeBy_20 : decode cX11_easeBy 20 = .ok (.bipush 21, 2) := by decide +kernel
theorem dX11_easeBy_22 : decode cX11_easeBy 22 = .ok (.iload_n 1, 1) := by decide +kernel
theorem dX11_easeBy_23 : decode cX11_easeBy 23 = .ok (.iadd, 1) := by decide +kernel
theorem dX11_easeBy_24 : decode cX11_easeBy 24 = .ok (.iaload, 1) := by decide +kernel
theorem dX11_easeBy_25 : decode cX11_easeBy 25 = .ok (.if_icmp .le 21, 3) := by decide +kernel
theorem dX11_easeBy_28 : decode cX11_easeBy 28 = .ok (.aload_n 0, 1) := by decide +kernel
theorem dX11_easeBy_29 : decode cX11_easeBy 29 = .ok (.getfield 33, 3) := by decide +kernel
theorem dX11_easeBy_32 : decode cX11_easeBy 32 = .ok (.bipush 125, 2) := by decide +kernel
theorem dX11_easeBy_34 : decode cX11_easeBy 34 = .ok (.iload_n 1, 1) := by decide +kernel
theorem dX11_easeBy_35 : decode cX11_easeBy 35 = .ok (.iadd, 1) := by decide +kernel
theorem dX11_easeBy_36 : decode cX11_easeBy 36 = .ok (.iaload, 1) := by decide +kernel
theorem dX11_easeBy_37 : decode cX11_easeBy 37 = .ok (.ifCond .ne 7, 3) := by decide +kernel
theorem dX11_easeBy_40 : decode cX11_easeBy 40 = .ok (.iconst 0, 1) := by decide +kernel
theorem dX11_easeBy_41 : decode cX11_easeBy 41 = .ok (.goto 4, 3) := by decide +kernel
theorem dX11_easeBy_44 : decode cX11_easeBy 44 = .ok (.iconst (-1), 1) := by decide +kernel
theorem dX11_easeBy_45 : decode cX11_easeBy 45 = .ok (.ireturn, 1) := by decide +kernel
theorem dX11_easeBy_46 : decode cX11_easeBy 46 = .ok (.iconst 0, 1) := by decide +kernel
theorem dX11_easeBy_47 : decode cX11_easeBy 47 = .ok (.istore_n 2, 1) := by decide +kernel
theorem dX11_easeBy_48 : decode cX11_easeBy 48 = .ok (.iconst 0, 1) := by decide +kernel
theorem dX11_easeBy_49 : decode cX11_easeBy 49 = .ok (.istore_n 3, 1) := by decide +kernel
theorem dX11_easeBy_50 : decode cX11_easeBy 50 = .ok (.iconst 0, 1) := by decide +kernel
theorem dX11_easeBy_51 : decode cX11_easeBy 51 = .ok (.istore 4, 2) := by decide +kernel
theorem dX11_easeBy_53 : decode cX11_easeBy 53 = .ok (.iload 4, 2) := by decide +kernel
theorem dX11_easeBy_55 : decode cX11_easeBy 55 = .ok (.aload_n 0, 1) := by decide +kernel
theorem dX11_easeBy_56 : decode cX11_easeBy 56 = .ok (.getfield 33, 3) := by decide +kernel
theorem dX11_easeBy_59 : decode cX11_easeBy 59 = .ok (.bipush 125, 2) := by decide +kernel
theorem dX11_easeBy_61 : decode cX11_easeBy 61 = .ok (.iload_n 1, 1) := by decide +kernel
theorem dX11_easeBy_62 : decode cX11_easeBy 62 = .ok (.iadd, 1) := by decide +kernel
theorem dX11_easeBy_63 : decode cX11_easeBy 63 = .ok (.iaload, 1) := by decide +kernel
theorem dX11_easeBy_64 : decode cX11_easeBy 64 = .ok (.if_icmp .ge 61, 3) := by decide +kernel
theorem dX11_easeBy_67 : decode cX11_easeBy 67 = .ok (.aload_n 0, 1) := by decide +kernel
theorem dX11_easeBy_68 : decode cX11_easeBy 68 = .ok (.iload_n 1, 1) := by decide +kernel
theorem dX11_easeBy_69 : decode cX11_easeBy 69 = .ok (.iload 4, 2) := by decide +kernel
theorem dX11_easeBy_71 : decode cX11_easeBy 71 = .ok (.invokevirtual 265, 3) := by decide +kernel
theorem dX11_easeBy_74 : decode cX11_easeBy 74 = .ok (.istore 5, 2) := by decide +kernel
theorem dX11_easeBy_76 : decode cX11_easeBy 76 = .ok (.iload 5, 2) := by decide +kernel
theorem dX11_easeBy_78 : decode cX11_easeBy 78 = .ok (.aload_n 0, 1) := by decide +kernel
theorem dX11_easeBy_79 : decode cX11_easeBy 79 = .ok (.getfield 33, 3) := by decide +kernel
theorem dX11_easeBy_82 : decode cX11_easeBy 82 = .ok (.iconst 4, 1) := by decide +kernel
theorem dX11_easeBy_83 : decode cX11_easeBy 83 = .ok (.iaload, 1) := by decide +kernel
theorem dX11_easeBy_84 : decode cX11_easeBy 84 = .ok (.if_icmp .le 5, 3) := by decide +kernel
theorem dX11_easeBy_87 : decode cX11_easeBy 87 = .ok (.iconst (-1), 1) := by decide +kernel
theorem dX11_easeBy_88 : decode cX11_easeBy 88 = .ok (.ireturn, 1) := by decide +kernel
theorem dX11_easeBy_89 : decode cX11_easeBy 89 = .ok (.iload 5, 2) := by decide +kernel
theorem dX11_easeBy_91 : decode cX11_easeBy 91 = .ok (.iload_n 3, 1) := by decide +kernel
theorem dX11_easeBy_92 : decode cX11_easeBy 92 = .ok (.if_icmp .le 13, 3) := by decide +kernel
theorem dX11_easeBy_95 : decode cX11_easeBy 95 = .ok (.iinc 2 1, 3) := by decide +kernel
theorem dX11_easeBy_98 : decode cX11_easeBy 98 = .ok (.aload_n 0, 1) := by decide +kernel
theorem dX11_easeBy_99 : decode cX11_easeBy 99 = .ok (.getfield 33, 3) := by decide +kernel
theorem dX11_easeBy_102 : decode cX11_easeBy 102 = .ok (.iconst 4, 1) := by decide +kernel
theorem dX11_easeBy_103 : decode cX11_easeBy 103 = .ok (.iaload, 1) := by decide +kernel
theorem dX11_easeBy_104 : decode cX11_easeBy 104 = .ok (.istore_n 3, 1) := by decide +kernel
theorem dX11_easeBy_105 : decode cX11_easeBy 105 = .ok (.iload_n 3, 1) := by decide +kernel
theorem dX11_easeBy_106 : decode cX11_easeBy 106 = .ok (.iload 5, 2) := by decide +kernel
theorem dX11_easeBy_108 : decode cX11_easeBy 108 = .ok (.isub, 1) := by decide +kernel
theorem dX11_easeBy_109 : decode cX11_easeBy 109 = .ok (.istore_n 3, 1) := by decide +kernel
theorem dX11_easeBy_110 : decode cX11_easeBy 110 = .ok (.iload 4, 2) := by decide +kernel
theorem dX11_easeBy_112 : decode cX11_easeBy 112 = .ok (.aload_n 0, 1) := by decide +kernel
theorem dX11_easeBy_113 : decode cX11_easeBy 113 = .ok (.iload_n 1, 1) := by decide +kernel
theorem dX11_easeBy_114 : decode cX11_easeBy 114 = .ok (.iload 4, 2) := by decide +kernel
theorem dX11_easeBy_116 : decode cX11_easeBy 116 = .ok (.invokevirtual 248, 3) := by decide +kernel
theorem dX11_easeBy_119 : decode cX11_easeBy 119 = .ok (.iadd, 1) := by decide +kernel
theorem dX11_easeBy_120 : decode cX11_easeBy 120 = .ok (.istore 4, 2) := by decide +kernel
theorem dX11_easeBy_122 : decode cX11_easeBy 122 = .ok (.goto (-69), 3) := by decide +kernel
theorem dX11_easeBy_125 : decode cX11_easeBy 125 = .ok (.iload_n 2, 1) := by decide +kernel
theorem dX11_easeBy_126 : decode cX11_easeBy 126 = .ok (.ireturn, 1) := by decide +kernel
theorem dX11_ease_0 : decode cX11_ease 0 = .ok (.aload_n 0, 1) := by decide +kernel
theorem dX11_ease_1 : decode cX11_ease 1 = .ok (.iconst 0, 1) := by decide +kernel
theorem dX11_ease_2 : decode cX11_ease 2 = .ok (.putfield 1, 3) := by decide +kernel
theorem dX11_ease_5 : decode cX11_ease 5 = .ok (.aload_n 0, 1) := by decide +kernel
theorem dX11_ease_6 : decode cX11_ease 6 = .ok (.iload_n 1, 1) := by decide +kernel
theorem dX11_ease_7 : decode cX11_ease 7 = .ok (.invokevirtual 254, 3) := by decide +kernel
theorem dX11_ease_10 : decode cX11_ease 10 = .ok (.ifCond .eq 11, 3) := by decide +kernel
theorem dX11_ease_13 : decode cX11_ease 13 = .ok (.aload_n 0, 1) := by decide +kernel
theorem dX11_ease_14 : decode cX11_ease 14 = .ok (.iload_n 1, 1) := by decide +kernel
theorem dX11_ease_15 : decode cX11_ease 15 = .ok (.invokevirtual 324, 3) := by decide +kernel
theorem dX11_ease_18 : decode cX11_ease 18 = .ok (.goto 4, 3) := by decide +kernel
theorem dX11_ease_21 : decode cX11_ease 21 = .ok (.iconst (-1), 1) := by decide +kernel
theorem dX11_ease_22 : decode cX11_ease 22 = .ok (.ireturn, 1) := by decide +kernel
theorem dX11_nests_0 : decode cX11_nests 0 = .ok (.aload_n 0, 1) := by decide +kernel
theorem dX11_nests_1 : decode cX11_nests 1 = .ok (.iconst 0, 1) := by decide +kernel
theorem dX11_nests_2 : decode cX11_nests 2 = .ok (.putfield 1, 3) := by decide +kernel
theorem dX11_nests_5 : decode cX11_nests 5 = .ok (.aload_n 0, 1) := by decide +kernel
theorem dX11_nests_6 : decode cX11_nests 6 = .ok (.iload_n 1, 1) := by decide +kernel
theorem dX11_nests_7 : decode cX11_nests 7 = .ok (.invokevirtual 254, 3) := by decide +kernel
theorem dX11_nests_10 : decode cX11_nests 10 = .ok (.ifCond .ne 5, 3) := by decide +kernel
theorem dX11_nests_13 : decode cX11_nests 13 = .ok (.iconst (-1), 1) := by decide +kernel
theorem dX11_nests_14 : decode cX11_nests 14 = .ok (.ireturn, 1) := by decide +kernel
theorem dX11_nests_15 : decode cX11_nests 15 = .ok (.aload_n 0, 1) := by decide +kernel
theorem dX11_nests_16 : decode cX11_nests 16 = .ok (.invokevirtual 327, 3) := by decide +kernel
theorem dX11_nests_19 : decode cX11_nests 19 = .ok (.iconst (-1), 1) := by decide +kernel
theorem dX11_nests_20 : decode cX11_nests 20 = .ok (.istore_n 2, 1) := by decide +kernel
theorem dX11_nests_21 : decode cX11_nests 21 = .ok (.iconst 0, 1) := by decide +kernel
theorem dX11_nests_22 : decode cX11_nests 22 = .ok (.istore_n 3, 1) := by decide +kernel
theorem dX11_nests_23 : decode cX11_nests 23 = .ok (.iload_n 3, 1) := by decide +kernel
theorem dX11_nests_24 : decode cX11_nests 24 = .ok (.bipush 99, 2) := by decide +kernel
theorem dX11_nests_26 : decode cX11_nests 26 = .ok (.if_icmp .gt 27, 3) := by decide +kernel
theorem dX11_nests_29 : decode cX11_nests 29 = .ok (.iload_n 2, 1) := by decide +kernel
theorem dX11_nests_30 : decode cX11_nests 30 = .ok (.ifCond .ge 23, 3) := by decide +kernel
theorem dX11_nests_33 : decode cX11_nests 33 = .ok (.aload_n 0, 1) := by decide +kernel
theorem dX11_nests_34 : decode cX11_nests 34 = .ok (.iload_n 1, 1) := by decide +kernel
theorem dX11_nests_35 : decode cX11_nests 35 = .ok (.invokevirtual 271, 3) := by decide +kernel
theorem dX11_nests_38 : decode cX11_nests 38 = .ok (.ifCond .eq 5, 3) := by decide +kernel
theorem dX11_nests_41 : decode cX11_nests 41 = .ok (.iload_n 3, 1) := by decide +kernel
theorem dX11_nests_42 : decode cX11_nests 42 = .ok (.istore_n 2, 1) := by decide +kernel
theorem dX11_nests_43 : decode cX11_nests 43 = .ok (.aload_n 0, 1) := by decide +kernel
theorem dX11_nests_44 : decode cX11_nests 44 = .ok (.invokevirtual 303, 3) := by decide +kernel
theorem dX11_nests_47 : decode cX11_nests 47 = .ok (.iinc 3 1, 3) := by decide +kernel
theorem dX11_nests_50 : decode cX11_nests 50 = .ok (.goto (-27), 3) := by decide +kernel
theorem dX11_nests_53 : decode cX11_nests 53 = .ok (.aload_n 0, 1) := by decide +kernel
theorem dX11_nests_54 : decode cX11_nests 54 = .ok (.invokevirtual 330, 3) := by decide +kernel
theorem dX11_nests_57 : decode cX11_nests 57 = .ok (.iload_n 2, 1) := by decide +kernel
theorem dX11_nests_58 : decode cX11_nests 58 = .ok (.ireturn, 1) := by decide +kernel
theorem dX11_round_0 : decode cX11_round 0 = .ok (.aload_n 0, 1) := by decide +kernel
theorem dX11_round_1 : decode cX11_round 1 = .ok (.iconst 0, 1) := by decide +kernel
theorem dX11_round_2 : decode cX11_round 2 = .ok (.putfield 1, 3) := by decide +kernel
theorem dX11_round_5 : decode cX11_round 5 = .ok (.iload_n 1, 1) := by decide +kernel
theorem dX11_round_6 : decode cX11_round 6 = .ok (.iconst 0, 1) := by decide +kernel
theorem dX11_round_7 : decode cX11_round 7 = .ok (.sipush 999, 3) := by decide +kernel
theorem dX11_round_10 : decode cX11_round 10 = .ok (.invokestatic 176, 3) := by decide +kernel
theorem dX11_round_13 : decode cX11_round 13 = .ok (.ifCond .ne 5, 3) := by decide +kernel
theorem dX11_round_16 : decode cX11_round 16 = .ok (.iconst (-1), 1) := by decide +kernel
theorem dX11_round_17 : decode cX11_round 17 = .ok (.ireturn, 1) := by decide +kernel
theorem dX11_round_18 : decode cX11_round 18 = .ok (.iconst 0, 1) := by decide +kernel
theorem dX11_round_19 : decode cX11_round 19 = .ok (.istore_n 2, 1) := by decide +kernel
theorem dX11_round_20 : decode cX11_round 20 = .ok (.iconst 0, 1) := by decide +kernel
theorem dX11_round_21 : decode cX11_round 21 = .ok (.istore_n 3, 1) := by decide +kernel
theorem dX11_round_22 : decode cX11_round 22 = .ok (.iconst 1, 1) := by decide +kernel
theorem dX11_round_23 : decode cX11_round 23 = .ok (.istore 4, 2) := by decide +kernel
theorem dX11_round_25 : decode cX11_round 25 = .ok (.iload 4, 2) := by decide +kernel
theorem dX11_round_27 : decode cX11_round 27 = .ok (.iconst 1, 1) := by decide +kernel
theorem dX11_round_28 : decode cX11_round 28 = .ok (.aload_n 0, 1) := by decide +kernel
theorem dX11_round_29 : decode cX11_round 29 = .ok (.getfield 33, 3) := by decide +kernel
theorem dX11_round_32 : decode cX11_round 32 = .ok (.iconst 1, 1) := by decide +kernel
theorem dX11_round_33 : decode cX11_round 33 = .ok (.iaload, 1) := by decide +kernel
theorem dX11_round_34 : decode cX11_round 34 = .ok (.ishl, 1) := by decide +kernel
theorem dX11_round_35 : decode cX11_round 35 = .ok (.if_icmp .ge 130, 3) := by decide +kernel
theorem dX11_round_38 : decode cX11_round 38 = .ok (.iconst 0, 1) := by decide +kernel
theorem dX11_round_39 : decode cX11_round 39 = .ok (.istore 5, 2) := by decide +kernel
theorem dX11_round_41 : decode cX11_round 41 = .ok (.iconst 1, 1) := by decide +kernel
theorem dX11_round_42 : decode cX11_round 42 = .ok (.istore 6, 2) := by decide +kernel
theorem dX11_round_44 : decode cX11_round 44 = .ok (.iconst 0, 1) := by decide +kernel
theorem dX11_round_45 : decode cX11_round 45 = .ok (.istore 7, 2) := by decide +kernel
theorem dX11_round_47 : decode cX11_round 47 = .ok (.iload 7, 2) := by decide +kernel
theorem dX11_round_49 : decode cX11_round 49 = .ok (.aload_n 0, 1) := by decide +kernel
theorem dX11_round_50 : decode cX11_round 50 = .ok (.getfield 33, 3) := by decide +kernel
theorem dX11_round_53 : decode cX11_round 53 = .ok (.iconst 1, 1) := by decide +kernel
theorem dX11_round_54 : decode cX11_round 54 = .ok (.iaload, 1) := by decide +kernel
theorem dX11_round_55 : decode cX11_round 55 = .ok (.if_icmp .ge 54, 3) := by decide +kernel
theorem dX11_round_58 : decode cX11_round 58 = .ok (.iload 4, 2) := by decide +kernel
theorem dX11_round_60 : decode cX11_round 60 = .ok (.iload 7, 2) := by decide +kernel
theorem dX11_round_62 : decode cX11_round 62 = .ok (.invokestatic 333, 3) := by decide +kernel
theorem dX11_round_65 : decode cX11_round 65 = .ok (.ifCond .ne 6, 3) := by decide +kernel
theorem dX11_round_68 : decode cX11_round 68 = .ok (.goto 35, 3) := by decide +kernel
theorem dX11_round_71 : decode cX11_round 71 = .ok (.iload 6, 2) := by decide +kernel
theorem dX11_round_73 : decode cX11_round 73 = .ok (.ifCond .eq 16, 3) := by decide +kernel
theorem dX11_round_76 : decode cX11_round 76 = .ok (.aload_n 0, 1) := by decide +kernel
theorem dX11_round_77 : decode cX11_round 77 = .ok (.iload 7, 2) := by decide +kernel
theorem dX11_round_79 : decode cX11_round 79 = .ok (.invokevirtual 324, 3) := by decide +kernel
theorem dX11_round_82 : decode cX11_round 82 = .ok (.ifCond .le 7, 3) := by decide +kernel
theorem dX11_round_85 : decode cX11_round 85 = .ok (.iconst 1, 1) := by decide +kernel
theorem dX11_round_86 : decode cX11_round 86 = .ok (.goto 4, 3) := by decide +kernel
theorem dX11_round_89 : decode cX11_round 89 = .ok (.iconst 0, 1) := by decide +kernel
theorem dX11_round_90 : decode cX11_round 90 = .ok (.istore 6, 2) := by decide +kernel
theorem dX11_round_92 : decode cX11_round 92 = .ok (.iload 5, 2) := by decide +kernel
theorem dX11_round_94 : decode cX11_round 94 = .ok (.aload_n 0, 1) := by decide +kernel
theorem dX11_round_95 : decode cX11_round 95 = .ok (.iload 7, 2) := by decide +kernel
theorem dX11_round_97 : decode cX11_round 97 = .ok (.invokevirtual 268, 3) := by decide +kernel
theorem dX11_round_100 : decode cX11_round 100 = .ok (.iadd, 1) := by decide +kernel
theorem dX11_round_101 : decode cX11_round 101 = .ok (.istore 5, 2) := by decide +kernel
theorem dX11_round_103 : decode cX11_round 103 = .ok (.iinc 7 1, 3) := by decide +kernel
theorem dX11_round_106 : decode cX11_round 106 = .ok (.goto (-59), 3) := by decide +kernel
theorem dX11_round_109 : decode cX11_round 109 = .ok (.iload 6, 2) := by decide +kernel
theorem dX11_round_111 : decode cX11_round 111 = .ok (.ifCond .eq 48, 3) := by decide +kernel
theorem dX11_round_114 : decode cX11_round 114 = .ok (.iload 5, 2) := by decide +kernel
theorem dX11_round_116 : decode cX11_round 116 = .ok (.iload_n 1, 1) := by decide +kernel
theorem dX11_round_117 : decode cX11_round 117 = .ok (.if_icmp .gt 42, 3) := by decide +kernel
theorem dX11_round_120 : decode cX11_round 120 = .ok (.iload 4, 2) := by decide +kernel
theorem dX11_round_122 : decode cX11_round 122 = .ok (.invokestatic 336, 3) := by decide +kernel
theorem dX11_round_125 : decode cX11_round 125 = .ok (.iload_n 2, 1) := by decide +kernel
theorem dX11_round_126 : decode cX11_round 126 = .ok (.invokestatic 336, 3) := by decide +kernel
theorem dX11_round_129 : decode cX11_round 129 = .ok (.if_icmp .lt 30, 3) := by decide +kernel
theorem dX11_round_132 : decode cX11_round 132 = .ok (.iload 4, 2) := by decide +kernel
theorem dX11_round_134 : decode cX11_round 134 = .ok (.invokestatic 336, 3) := by decide +kernel
theorem dX11_round_137 : decode cX11_round 137 = .ok (.iload_n 2, 1) := by decide +kernel
theorem dX11_round_138 : decode cX11_round 138 = .ok (.invokestatic 336, 3) := by decide +kernel
theorem dX11_round_141 : decode cX11_round 141 = .ok (.if_icmp .ne 12, 3) := by decide +kernel
theorem dX11_round_144 : decode cX11_round 144 = .ok (.iload 5, 2) := by decide +kernel
theorem dX11_round_146 : decode cX11_round 146 = .ok (.iload_n 3, 1) := by decide +kernel
theorem dX11_round_147 : decode cX11_round 147 = .ok (.if_icmp .lt 6, 3) := by decide +kernel
theorem dX11_round_150 : decode cX11_round 150 = .ok (.goto 9, 3) := by decide +kernel
theorem dX11_round_153 : decode cX11_round 153 = .ok (.iload 4, 2) := by decide +kernel
theorem dX11_round_155 : decode cX11_round 155 = .ok (.istore_n 2, 1) := by decide +kernel
theorem dX11_round_156 : decode cX11_round 156 = .ok (.iload 5, 2) := by decide +kernel
theorem dX11_round_158 : decode cX11_round 158 = .ok (.istore_n 3, 1) := by decide +kernel
theorem dX11_round_159 : decode cX11_round 159 = .ok (.iinc 4 1, 3) := by decide +kernel
theorem dX11_round_162 : decode cX11_round 162 = .ok (.goto (-137), 3) := by decide +kernel
theorem dX11_round_165 : decode cX11_round 165 = .ok (.aload_n 0, 1) := by decide +kernel
theorem dX11_round_166 : decode cX11_round 166 = .ok (.iconst 1, 1) := by decide +kernel
theorem dX11_round_167 : decode cX11_round 167 = .ok (.putfield 339, 3) := by decide +kernel
theorem dX11_round_170 : decode cX11_round 170 = .ok (.aload_n 0, 1) := by decide +kernel
theorem dX11_round_171 : decode cX11_round 171 = .ok (.iload_n 2, 1) := by decide +kernel
theorem dX11_round_172 : decode cX11_round 172 = .ok (.putfield 342, 3) := by decide +kernel
theorem dX11_round_175 : decode cX11_round 175 = .ok (.iload_n 2, 1) := by decide +kernel
theorem dX11_round_176 : decode cX11_round 176 = .ok (.invokestatic 336, 3) := by decide +kernel
theorem dX11_round_179 : decode cX11_round 179 = .ok (.ireturn, 1) := by decide +kernel
theorem dX11_rounded_0 : decode cX11_rounded 0 = .ok (.aload_n 0, 1) := by decide +kernel
theorem dX11_rounded_1 : decode cX11_rounded 1 = .ok (.iconst 0, 1) := by decide +kernel
theorem dX11_rounded_2 : decode cX11_rounded 2 = .ok (.putfield 1, 3) := by decide +kernel
theorem dX11_rounded_5 : decode cX11_rounded 5 = .ok (.aload_n 0, 1) := by decide +kernel
theorem dX11_rounded_6 : decode cX11_rounded 6 = .ok (.getfield 339, 3) := by decide +kernel
theorem dX11_rounded_9 : decode cX11_rounded 9 = .ok (.ifCond .eq 10, 3) := by decide +kernel
theorem dX11_rounded_12 : decode cX11_rounded 12 = .ok (.aload_n 0, 1) := by decide +kernel
theorem dX11_rounded_13 : decode cX11_rounded 13 = .ok (.getfield 342, 3) := by decide +kernel
theorem dX11_rounded_16 : decode cX11_rounded 16 = .ok (.goto 4, 3) := by decide +kernel
theorem dX11_rounded_19 : decode cX11_rounded 19 = .ok (.iconst (-1), 1) := by decide +kernel
theorem dX11_rounded_20 : decode cX11_rounded 20 = .ok (.ireturn, 1) := by decide +kernel
theorem dX11_laysBag_0 : decode cX11_laysBag 0 = .ok (.iconst 0, 1) := by decide +kernel
theorem dX11_laysBag_1 : decode cX11_laysBag 1 = .ok (.istore_n 1, 1) := by decide +kernel
theorem dX11_laysBag_2 : decode cX11_laysBag 2 = .ok (.iconst 0, 1) := by decide +kernel
theorem dX11_laysBag_3 : decode cX11_laysBag 3 = .ok (.istore_n 2, 1) := by decide +kernel
theorem dX11_laysBag_4 : decode cX11_laysBag 4 = .ok (.iload_n 2, 1) := by decide +kernel
theorem dX11_laysBag_5 : decode cX11_laysBag 5 = .ok (.bipush 8, 2) := by decide +kernel
theorem dX11_laysBag_7 : decode cX11_laysBag 7 = .ok (.if_icmp .ge 49, 3) := by decide +kernel
theorem dX11_laysBag_10 : decode cX11_laysBag 10 = .ok (.iconst 0, 1) := by decide +kernel
theorem dX11_laysBag_11 : decode cX11_laysBag 11 = .ok (.istore_n 3, 1) := by decide +kernel
theorem dX11_laysBag_12 : decode cX11_laysBag 12 = .ok (.iload_n 3, 1) := by decide +kernel
theorem dX11_laysBag_13 : decode cX11_laysBag 13 = .ok (.aload_n 0, 1) := by decide +kernel
theorem dX11_laysBag_14 : decode cX11_laysBag 14 = .ok (.getfield 33, 3) := by decide +kernel
theorem dX11_laysBag_17 : decode cX11_laysBag 17 = .ok (.sipush 185, 3) := by decide +kernel
theorem dX11_laysBag_20 : decode cX11_laysBag 20 = .ok (.iload_n 2, 1) := by decide +kernel
theorem dX11_laysBag_21 : decode cX11_laysBag 21 = .ok (.iadd, 1) := by decide +kernel
theorem dX11_laysBag_22 : decode cX11_laysBag 22 = .ok (.iaload, 1) := by decide +kernel
theorem dX11_laysBag_23 : decode cX11_laysBag 23 = .ok (.if_icmp .ge 27, 3) := by decide +kernel
theorem dX11_laysBag_26 : decode cX11_laysBag 26 = .ok (.aload_n 0, 1) := by decide +kernel
theorem dX11_laysBag_27 : decode cX11_laysBag 27 = .ok (.getfield 63, 3) := by decide +kernel
theorem dX11_laysBag_30 : decode cX11_laysBag 30 = .ok (.iload_n 1, 1) := by decide +kernel
theorem dX11_laysBag_31 : decode cX11_laysBag 31 = .ok (.aload_n 0, 1) := by decide +kernel
theorem dX11_laysBag_32 : decode cX11_laysBag 32 = .ok (.getfield 33, 3) := by decide +kernel
theorem dX11_laysBag_35 : decode cX11_laysBag 35 = .ok (.bipush 13, 2) := by decide +kernel
theorem dX11_laysBag_37 : decode cX11_laysBag 37 = .ok (.iload_n 2, 1) := by decide +kernel
theorem dX11_laysBag_38 : decode cX11_laysBag 38 = .ok (.iadd, 1) := by decide +kernel
theorem dX11_laysBag_39 : decode cX11_laysBag 39 = .ok (.iaload, 1) := by decide +kernel
theorem dX11_laysBag_40 : decode cX11_laysBag 40 = .ok (.iastore, 1) := by decide +kernel
theorem dX11_laysBag_41 : decode cX11_laysBag 41 = .ok (.iinc 1 1, 3) := by decide +kernel
theorem dX11_laysBag_44 : decode cX11_laysBag 44 = .ok (.iinc 3 1, 3) := by decide +kernel
theorem dX11_laysBag_47 : decode cX11_laysBag 47 = .ok (.goto (-35), 3) := by decide +kernel
theorem dX11_laysBag_50 : decode cX11_laysBag 50 = .ok (.iinc 2 1, 3) := by decide +kernel
theorem dX11_laysBag_53 : decode cX11_laysBag 53 = .ok (.goto (-49), 3) := by decide +kernel
theorem dX11_laysBag_56 : decode cX11_laysBag 56 = .ok (.iconst 0, 1) := by decide +kernel
theorem dX11_laysBag_57 : decode cX11_laysBag 57 = .ok (.istore_n 2, 1) := by decide +kernel
theorem dX11_laysBag_58 : decode cX11_laysBag 58 = .ok (.iload_n 2, 1) := by decide +kernel
theorem dX11_laysBag_59 : decode cX11_laysBag 59 = .ok (.iconst 1, 1) := by decide +kernel
theorem dX11_laysBag_60 : decode cX11_laysBag 60 = .ok (.iload_n 1, 1) := by decide +kernel
theorem dX11_laysBag_61 : decode cX11_laysBag 61 = .ok (.ishl, 1) := by decide +kernel
theorem dX11_laysBag_62 : decode cX11_laysBag 62 = .ok (.if_icmp .ge 56, 3) := by decide +kernel
theorem dX11_laysBag_65 : decode cX11_laysBag 65 = .ok (.aload_n 0, 1) := by decide +kernel
theorem dX11_laysBag_66 : decode cX11_laysBag 66 = .ok (.getfield 60, 3) := by decide +kernel
theorem dX11_laysBag_69 : decode cX11_laysBag 69 = .ok (.iload_n 2, 1) := by decide +kernel
theorem dX11_laysBag_70 : decode cX11_laysBag 70 = .ok (.iconst 0, 1) := by decide +kernel
theorem dX11_laysBag_71 : decode cX11_laysBag 71 = .ok (.iastore, 1) := by decide +kernel
theorem dX11_laysBag_72 : decode cX11_laysBag 72 = .ok (.iconst 0, 1) := by decide +kernel
theorem dX11_laysBag_73 : decode cX11_laysBag 73 = .ok (.istore_n 3, 1) := by decide +kernel
theorem dX11_laysBag_74 : decode cX11_laysBag 74 = .ok (.iload_n 3, 1) := by decide +kernel
theorem dX11_laysBag_75 : decode cX11_laysBag 75 = .ok (.iload_n 1, 1) := by decide +kernel
theorem dX11_laysBag_76 : decode cX11_laysBag 76 = .ok (.if_icmp .ge 36, 3) := by decide +kernel
theorem dX11_laysBag_79 : decode cX11_laysBag 79 = .ok (.aload_n 0, 1) := by decide +kernel
theorem dX11_laysBag_80 : decode cX11_laysBag 80 = .ok (.getfield 60, 3) := by decide +kernel
theorem dX11_laysBag_83 : decode cX11_laysBag 83 = .ok (.iload_n 2, 1) := by decide +kernel
theorem dX11_laysBag_84 : decode cX11_laysBag 84 = .ok (.dup2, 1) := by decide +kernel
theorem dX11_laysBag_85 : decode cX11_laysBag 85 = .ok (.iaload, 1) := by decide +kernel
theorem dX11_laysBag_86 : decode cX11_laysBag 86 = .ok (.iload_n 2, 1) := by decide +kernel
theorem dX11_laysBag_87 : decode cX11_laysBag 87 = .ok (.iload_n 3, 1) := by decide +kernel
theorem dX11_laysBag_88 : decode cX11_laysBag 88 = .ok (.invokestatic 333, 3) := by decide +kernel
theorem dX11_laysBag_91 : decode cX11_laysBag 91 = .ok (.ifCond .eq 12, 3) := by decide +kernel
theorem dX11_laysBag_94 : decode cX11_laysBag 94 = .ok (.aload_n 0, 1) := by decide +kernel
theorem dX11_laysBag_95 : decode cX11_laysBag 95 = .ok (.getfield 63, 3) := by decide +kernel
theorem dX11_laysBag_98 : decode cX11_laysBag 98 = .ok (.iload_n 3, 1) := by decide +kernel
theorem dX11_laysBag_99 : decode cX11_laysBag 99 = .ok (.iaload, 1) := by decide +kernel
theorem dX11_laysBag_100 : decode cX11_laysBag 100 = .ok (.goto 4, 3) := by decide +kernel
theorem dX11_laysBag_103 : decode cX11_laysBag 103 = .ok (.iconst 0, 1) := by decide +kernel
theorem dX11_laysBag_104 : decode cX11_laysBag 104 = .ok (.iadd, 1) := by decide +kernel
theorem dX11_laysBag_105 : decode cX11_laysBag 105 = .ok (.iastore, 1) := by decide +kernel
theorem dX11_laysBag_106 : decode cX11_laysBag 106 = .ok (.iinc 3 1, 3) := by decide +kernel
theorem dX11_laysBag_109 : decode cX11_laysBag 109 = .ok (.goto (-35), 3) := by decide +kernel
theorem dX11_laysBag_112 : decode cX11_laysBag 112 = .ok (.iinc 2 1, 3) := by decide +kernel
theorem dX11_laysBag_115 : decode cX11_laysBag 115 = .ok (.goto (-57), 3) := by decide +kernel
theorem dX11_laysBag_118 : decode cX11_laysBag 118 = .ok (.iload_n 1, 1) := by decide +kernel
theorem dX11_laysBag_119 : decode cX11_laysBag 119 = .ok (.ireturn, 1) := by decide +kernel
theorem dX11_fills_0 : decode cX11_fills 0 = .ok (.iconst 3, 1) := by decide +kernel
theorem dX11_fills_1 : decode cX11_fills 1 = .ok (.istore_n 3, 1) := by decide +kernel
theorem dX11_fills_2 : decode cX11_fills 2 = .ok (.iload_n 1, 1) := by decide +kernel
theorem dX11_fills_3 : decode cX11_fills 3 = .ok (.iload_n 3, 1) := by decide +kernel
theorem dX11_fills_4 : decode cX11_fills 4 = .ok (.invokestatic 333, 3) := by decide +kernel
theorem dX11_fills_7 : decode cX11_fills 7 = .ok (.ifCond .ne 9, 3) := by decide +kernel
theorem dX11_fills_10 : decode cX11_fills 10 = .ok (.iinc 3 (-1), 3) := by decide +kernel
theorem dX11_fills_13 : decode cX11_fills 13 = .ok (.goto (-11), 3) := by decide +kernel
theorem dX11_fills_16 : decode cX11_fills 16 = .ok (.aload_n 0, 1) := by decide +kernel
theorem dX11_fills_17 : decode cX11_fills 17 = .ok (.getfield 33, 3) := by decide +kernel
theorem dX11_fills_20 : decode cX11_fills 20 = .ok (.bipush 117, 2) := by decide +kernel
theorem dX11_fills_22 : decode cX11_fills 22 = .ok (.iload_n 3, 1) := by decide +kernel
theorem dX11_fills_23 : decode cX11_fills 23 = .ok (.iadd, 1) := by decide +kernel
theorem dX11_fills_24 : decode cX11_fills 24 = .ok (.iaload, 1) := by decide +kernel
theorem dX11_fills_25 : decode cX11_fills 25 = .ok (.aload_n 0, 1) := by decide +kernel
theorem dX11_fills_26 : decode cX11_fills 26 = .ok (.getfield 33, 3) := by decide +kernel
theorem dX11_fills_29 : decode cX11_fills 29 = .ok (.sipush 193, 3) := by decide +kernel
theorem dX11_fills_32 : decode cX11_fills 32 = .ok (.iload_n 3, 1) := by decide +kernel
theorem dX11_fills_33 : decode cX11_fills 33 = .ok (.iadd, 1) := by decide +kernel
theorem dX11_fills_34 : decode cX11_fills 34 = .ok (.iaload, 1) := by decide +kernel
theorem dX11_fills_35 : decode cX11_fills 35 = .ok (.isub, 1) := by decide +kernel
theorem dX11_fills_36 : decode cX11_fills 36 = .ok (.istore 4, 2) := by decide +kernel
theorem dX11_fills_38 : decode cX11_fills 38 = .ok (.iconst 0, 1) := by decide +kernel
theorem dX11_fills_39 : decode cX11_fills 39 = .ok (.istore 5, 2) := by decide +kernel
theorem dX11_fills_41 : decode cX11_fills 41 = .ok (.iconst 0, 1) := by decide +kernel
theorem dX11_fills_42 : decode cX11_fills 42 = .ok (.istore 6, 2) := by decide +kernel
theorem dX11_fills_44 : decode cX11_fills 44 = .ok (.iload 6, 2) := by decide +kernel
theorem dX11_fills_46 : decode cX11_fills 46 = .ok (.iconst 1, 1) := by decide +kernel
theorem dX11_fills_47 : decode cX11_fills 47 = .ok (.iload_n 2, 1) := by decide +kernel
theorem dX11_fills_48 : decode cX11_fills 48 = .ok (.ishl, 1) := by decide +kernel
theorem dX11_fills_49 : decode cX11_fills 49 = .ok (.if_icmp .ge 112, 3) := by decide +kernel
theorem dX11_fills_52 : decode cX11_fills 52 = .ok (.iconst 0, 1) := by decide +kernel
theorem dX11_fills_53 : decode cX11_fills 53 = .ok (.istore 7, 2) := by decide +kernel
theorem dX11_fills_55 : decode cX11_fills 55 = .ok (.iload 6, 2) := by decide +kernel
theorem dX11_fills_57 : decode cX11_fills 57 = .ok (.istore 8, 2) := by decide +kernel
theorem dX11_fills_59 : decode cX11_fills 59 = .ok (.iload 8, 2) := by decide +kernel
theorem dX11_fills_61 : decode cX11_fills 61 = .ok (.ifCond .le 62, 3) := by decide +kernel
theorem dX11_fills_64 : decode cX11_fills 64 = .ok (.iload 7, 2) := by decide +kernel
theorem dX11_fills_66 : decode cX11_fills 66 = .ok (.ifCond .ne 57, 3) := by decide +kernel
theorem dX11_fills_69 : decode cX11_fills 69 = .ok (.aload_n 0, 1) := by decide +kernel
theorem dX11_fills_70 : decode cX11_fills 70 = .ok (.getfield 60, 3) := by decide +kernel
theorem dX11_fills_73 : decode cX11_fills 73 = .ok (.iload 8, 2) := by decide +kernel
theorem dX11_fills_75 : decode cX11_fills 75 = .ok (.iaload, 1) := by decide +kernel
theorem dX11_fills_76 : decode cX11_fills 76 = .ok (.iload 4, 2) := by decide +kernel
theorem dX11_fills_78 : decode cX11_fills 78 = .ok (.if_icmp .lt 30, 3) := by decide +kernel
theorem dX11_fills_81 : decode cX11_fills 81 = .ok (.aload_n 0, 1) := by decide +kernel
theorem dX11_fills_82 : decode cX11_fills 82 = .ok (.getfield 56, 3) := by decide +kernel
theorem dX11_fills_85 : decode cX11_fills 85 = .ok (.sipush 1024, 3) := by decide +kernel
theorem dX11_fills_88 : decode cX11_fills 88 = .ok (.iload_n 1, 1) := by decide +kernel
theorem dX11_fills_89 : decode cX11_fills 89 = .ok (.iconst 1, 1) := by decide +kernel
theorem dX11_fills_90 : decode cX11_fills 90 = .ok (.iload_n 3, 1) := by decide +kernel
theorem dX11_fills_91 : decode cX11_fills 91 = .ok (.ishl, 1) := by decide +kernel
theorem dX11_fills_92 : decode cX11_fills 92 = .ok (.ixor, 1) := by decide +kernel
theorem dX11_fills_93 : decode cX11_fills 93 = .ok (.imul, 1) := by decide +kernel
theorem dX11_fills_94 : decode cX11_fills 94 = .ok (.iload 6, 2) := by decide +kernel
theorem dX11_fills_96 : decode cX11_fills 96 = .ok (.iload 8, 2) := by decide +kernel
theorem dX11_fills_98 : decode cX11_fills 98 = .ok (.ixor, 1) := by decide +kernel
theorem dX11_fills_99 : decode cX11_fills 99 = .ok (.iadd, 1) := by decide +kernel
theorem dX11_fills_100 : decode cX11_fills 100 = .ok (.baload, 1) := by decide +kernel
theorem dX11_fills_101 : decode cX11_fills 101 = .ok (.ifCond .eq 7, 3) := by decide +kernel
theorem dX11_fills_104 : decode cX11_fills 104 = .ok (.iconst 1, 1) := by decide +kernel
theorem dX11_fills_105 : decode cX11_fills 105 = .ok (.goto 4, 3) := by decide +kernel
theorem dX11_fills_108 : decode cX11_fills 108 = .ok (.iconst 0, 1) := by decide +kernel
theorem dX11_fills_109 : decode cX11_fills 109 = .ok (.istore 7, 2) := by decide +kernel
theorem dX11_fills_111 : decode cX11_fills 111 = .ok (.iload 8, 2) := by decide +kernel
theorem dX11_fills_113 : decode cX11_fills 113 = .ok (.iconst 1, 1) := by decide +kernel
theorem dX11_fills_114 : decode cX11_fills 114 = .ok (.isub, 1) := by decide +kernel
theorem dX11_fills_115 : decode cX11_fills 115 = .ok (.iload 6, 2) := by decide +kernel
theorem dX11_fills_117 : decode cX11_fills 117 = .ok (.iand, 1) := by decide +kernel
theorem dX11_fills_118 : decode cX11_fills 118 = .ok (.istore 8, 2) := by decide +kernel
theorem dX11_fills_120 : decode cX11_fills 120 = .ok (.goto (-61), 3) := by decide +kernel
theorem dX11_fills_123 : decode cX11_fills 123 = .ok (.aload_n 0, 1) := by decide +kernel
theorem dX11_fills_124 : decode cX11_fills 124 = .ok (.getfield 56, 3) := by decide +kernel
theorem dX11_fills_127 : decode cX11_fills 127 = .ok (.sipush 1024, 3) := by decide +kernel
theorem dX11_fills_130 : decode cX11_fills 130 = .ok (.iload_n 1, 1) := by decide +kernel
theorem dX11_fills_131 : decode cX11_fills 131 = .ok (.imul, 1) := by decide +kernel
theorem dX11_fills_132 : decode cX11_fills 132 = .ok (.iload 6, 2) := by decide +kernel
theorem dX11_fills_134 : decode cX11_fills 134 = .ok (.iadd, 1) := by decide +kernel
theorem dX11_fills_135 : decode cX11_fills 135 = .ok (.iload 7, 2) := by decide +kernel
theorem dX11_fills_137 : decode cX11_fills 137 = .ok (.bastore, 1) := by decide +kernel
theorem dX11_fills_138 : decode cX11_fills 138 = .ok (.iload 5, 2) := by decide +kernel
theorem dX11_fills_140 : decode cX11_fills 140 = .ok (.ifCond .ne 8, 3) := by decide +kernel
theorem dX11_fills_143 : decode cX11_fills 143 = .ok (.iload 7, 2) := by decide +kernel
theorem dX11_fills_145 : decode cX11_fills 145 = .ok (.ifCond .eq 7, 3) := by decide +kernel
theorem dX11_fills_148 : decode cX11_fills 148 = .ok (.iconst 1, 1) := by decide +kernel
theorem dX11_fills_149 : decode cX11_fills 149 = .ok (.goto 4, 3) := by decide +kernel
theorem dX11_fills_152 : decode cX11_fills 152 = .ok (.iconst 0, 1) := by decide +kernel
theorem dX11_fills_153 : decode cX11_fills 153 = .ok (.istore 5, 2) := by decide +kernel
theorem dX11_fills_155 : decode cX11_fills 155 = .ok (.iinc 6 1, 3) := by decide +kernel
theorem dX11_fills_158 : decode cX11_fills 158 = .ok (.goto (-114), 3) := by decide +kernel
theorem dX11_fills_161 : decode cX11_fills 161 = .ok (.iload 5, 2) := by decide +kernel
theorem dX11_fills_163 : decode cX11_fills 163 = .ok (.ireturn, 1) := by decide +kernel
theorem dX11_beds_0 : decode cX11_beds 0 = .ok (.aload_n 0, 1) := by decide +kernel
theorem dX11_beds_1 : decode cX11_beds 1 = .ok (.iconst 0, 1) := by decide +kernel
theorem dX11_beds_2 : decode cX11_beds 2 = .ok (.putfield 1, 3) := by decide +kernel
theorem dX11_beds_5 : decode cX11_beds 5 = .ok (.aload_n 0, 1) := by decide +kernel
theorem dX11_beds_6 : decode cX11_beds 6 = .ok (.invokevirtual 345, 3) := by decide +kernel
theorem dX11_beds_9 : decode cX11_beds 9 = .ok (.istore_n 1, 1) := by decide +kernel
theorem dX11_beds_10 : decode cX11_beds 10 = .ok (.aload_n 0, 1) := by decide +kernel
theorem dX11_beds_11 : decode cX11_beds 11 = .ok (.invokevirtual 289, 3) := by decide +kernel
theorem dX11_beds_14 : decode cX11_beds 14 = .ok (.istore_n 2, 1) := by decide +kernel
theorem dX11_beds_15 : decode cX11_beds 15 = .ok (.iload_n 2, 1) := by decide +kernel
theorem dX11_beds_16 : decode cX11_beds 16 = .ok (.istore_n 3, 1) := by decide +kernel
theorem dX11_beds_17 : decode cX11_beds 17 = .ok (.iconst 0, 1) := by decide +kernel
theorem dX11_beds_18 : decode cX11_beds 18 = .ok (.istore 4, 2) := by decide +kernel
theorem dX11_beds_20 : decode cX11_beds 20 = .ok (.iload 4, 2) := by decide +kernel
theorem dX11_beds_22 : decode cX11_beds 22 = .ok (.iconst 1, 1) := by decide +kernel
theorem dX11_beds_23 : decode cX11_beds 23 = .ok (.iload_n 1, 1) := by decide +kernel
theorem dX11_beds_24 : decode cX11_beds 24 = .ok (.ishl, 1) := by decide +kernel
theorem dX11_beds_25 : decode cX11_beds 25 = .ok (.if_icmp .ge 26, 3) := by decide +kernel
theorem dX11_beds_28 : decode cX11_beds 28 = .ok (.aload_n 0, 1) := by decide +kernel
theorem dX11_beds_29 : decode cX11_beds 29 = .ok (.getfield 56, 3) := by decide +kernel
theorem dX11_beds_32 : decode cX11_beds 32 = .ok (.iload 4, 2) := by decide +kernel
theorem dX11_beds_34 : decode cX11_beds 34 = .ok (.iload 4, 2) := by decide +kernel
theorem dX11_beds_36 : decode cX11_beds 36 = .ok (.ifCond .ne 7, 3) := by decide +kernel
theorem dX11_beds_39 : decode cX11_beds 39 = .ok (.iconst 1, 1) := by decide +kernel
theorem dX11_beds_40 : decode cX11_beds 40 = .ok (.goto 4, 3) := by decide +kernel
theorem dX11_beds_43 : decode cX11_beds 43 = .ok (.iconst 0, 1) := by decide +kernel
theorem dX11_beds_44 : decode cX11_beds 44 = .ok (.bastore, 1) := by decide +kernel
theorem dX11_beds_45 : decode cX11_beds 45 = .ok (.iinc 4 1, 3) := by decide +kernel
theorem dX11_beds_48 : decode cX11_beds 48 = .ok (.goto (-28), 3) := by decide +kernel
theorem dX11_beds_51 : decode cX11_beds 51 = .ok (.iconst 1, 1) := by decide +kernel
theorem dX11_beds_52 : decode cX11_beds 52 = .ok (.istore 4, 2) := by decide +kernel
theorem dX11_beds_54 : decode cX11_beds 54 = .ok (.iload 4, 2) := by decide +kernel
theorem dX11_beds_56 : decode cX11_beds 56 = .ok (.iconst 1, 1) := by decide +kernel
theorem dX11_beds_57 : decode cX11_beds 57 = .ok (.aload_n 0, 1) := by decide +kernel
theorem dX11_beds_58 : decode cX11_beds 58 = .ok (.getfield 33, 3) := by decide +kernel
theorem dX11_beds_61 : decode cX11_beds 61 = .ok (.iconst 3, 1) := by decide +kernel
theorem dX11_beds_62 : decode cX11_beds 62 = .ok (.iaload, 1) := by decide +kernel
theorem dX11_beds_63 : decode cX11_beds 63 = .ok (.ishl, 1) := by decide +kernel
theorem dX11_beds_64 : decode cX11_beds 64 = .ok (.if_icmp .ge 72, 3) := by decide +kernel
theorem dX11_beds_67 : decode cX11_beds 67 = .ok (.iload 4, 2) := by decide +kernel
theorem dX11_beds_69 : decode cX11_beds 69 = .ok (.iload_n 2, 1) := by decide +kernel
theorem dX11_beds_70 : decode cX11_beds 70 = .ok (.iand, 1) := by decide +kernel
theorem dX11_beds_71 : decode cX11_beds 71 = .ok (.ifCond .eq 6, 3) := by decide +kernel
theorem dX11_beds_74 : decode cX11_beds 74 = .ok (.goto 56, 3) := by decide +kernel
theorem dX11_beds_77 : decode cX11_beds 77 = .ok (.aload_n 0, 1) := by decide +kernel
theorem dX11_beds_78 : decode cX11_beds 78 = .ok (.iload 4, 2) := by decide +kernel
theorem dX11_beds_80 : decode cX11_beds 80 = .ok (.iload_n 1, 1) := by decide +kernel
theorem dX11_beds_81 : decode cX11_beds 81 = .ok (.invokevirtual 348, 3) := by decide +kernel
theorem dX11_beds_84 : decode cX11_beds 84 = .ok (.istore 5, 2) := by decide +kernel
theorem dX11_beds_86 : decode cX11_beds 86 = .ok (.iload 4, 2) := by decide +kernel
theorem dX11_beds_88 : decode cX11_beds 88 = .ok (.iload_n 2, 1) := by decide +kernel
theorem dX11_beds_89 : decode cX11_beds 89 = .ok (.ior, 1) := by decide +kernel
theorem dX11_beds_90 : decode cX11_beds 90 = .ok (.istore 6, 2) := by decide +kernel
theorem dX11_beds_92 : decode cX11_beds 92 = .ok (.iload 5, 2) := by decide +kernel
theorem dX11_beds_94 : decode cX11_beds 94 = .ok (.ifCond .eq 36, 3) := by decide +kernel
theorem dX11_beds_97 : decode cX11_beds 97 = .ok (.iload 6, 2) := by decide +kernel
theorem dX11_beds_99 : decode cX11_beds 99 = .ok (.invokestatic 336, 3) := by decide +kernel
theorem dX11_beds_102 : decode cX11_beds 102 = .ok (.iload_n 3, 1) := by decide +kernel
theorem dX11_beds_103 : decode cX11_beds 103 = .ok (.invokestatic 336, 3) := by decide +kernel
theorem dX11_beds_106 : decode cX11_beds 106 = .ok (.if_icmp .gt 21, 3) := by decide +kernel
theorem dX11_beds_109 : decode cX11_beds 109 = .ok (.iload 6, 2) := by decide +kernel
theorem dX11_beds_111 : decode cX11_beds 111 = .ok (.invokestatic 336, 3) := by decide +kernel
theorem dX11_beds_114 : decode cX11_beds 114 = .ok (.iload_n 3, 1) := by decide +kernel
theorem dX11_beds_115 : decode cX11_beds 115 = .ok (.invokestatic 336, 3) := by decide +kernel
theorem dX11_beds_118 : decode cX11_beds 118 = .ok (.if_icmp .ne 12, 3) := by decide +kernel
theorem dX11_beds_121 : decode cX11_beds 121 = .ok (.iload 6, 2) := by decide +kernel
theorem dX11_beds_123 : decode cX11_beds 123 = .ok (.iload_n 3, 1) := by decide +kernel
theorem dX11_beds_124 : decode cX11_beds 124 = .ok (.if_icmp .ge 6, 3) := by decide +kernel
theorem dX11_beds_127 : decode cX11_beds 127 = .ok (.iload 6, 2) := by decide +kernel
theorem dX11_beds_129 : decode cX11_beds 129 = .ok (.istore_n 3, 1) := by decide +kernel
theorem dX11_beds_130 : decode cX11_beds 130 = .ok (.iinc 4 1, 3) := by decide +kernel
theorem dX11_beds_133 : decode cX11_beds 133 = .ok (.goto (-79), 3) := by decide +kernel
theorem dX11_beds_136 : decode cX11_beds 136 = .ok (.aload_n 0, 1) := by decide +kernel
theorem dX11_beds_137 : decode cX11_beds 137 = .ok (.iconst 1, 1) := by decide +kernel
theorem dX11_beds_138 : decode cX11_beds 138 = .ok (.putfield 351, 3) := by decide +kernel
theorem dX11_beds_141 : decode cX11_beds 141 = .ok (.aload_n 0, 1) := by decide +kernel
theorem dX11_beds_142 : decode cX11_beds 142 = .ok (.iload_n 3, 1) := by decide +kernel
theorem dX11_beds_143 : decode cX11_beds 143 = .ok (.putfield 354, 3) := by decide +kernel
theorem dX11_beds_146 : decode cX11_beds 146 = .ok (.iload_n 3, 1) := by decide +kernel
theorem dX11_beds_147 : decode cX11_beds 147 = .ok (.invokestatic 336, 3) := by decide +kernel
theorem dX11_beds_150 : decode cX11_beds 150 = .ok (.ireturn, 1) := by decide +kernel
theorem dX11_bedded_0 : decode cX11_bedded 0 = .ok (.aload_n 0, 1) := by decide +kernel
theorem dX11_bedded_1 : decode cX11_bedded 1 = .ok (.iconst 0, 1) := by decide +kernel
theorem dX11_bedded_2 : decode cX11_bedded 2 = .ok (.putfield 1, 3) := by decide +kernel
theorem dX11_bedded_5 : decode cX11_bedded 5 = .ok (.aload_n 0, 1) := by decide +kernel
theorem dX11_bedded_6 : decode cX11_bedded 6 = .ok (.getfield 351, 3) := by decide +kernel
theorem dX11_bedded_9 : decode cX11_bedded 9 = .ok (.ifCond .eq 10, 3) := by decide +kernel
theorem dX11_bedded_12 : decode cX11_bedded 12 = .ok (.aload_n 0, 1) := by decide +kernel
theorem dX11_bedded_13 : decode cX11_bedded 13 = .ok (.getfield 354, 3) := by decide +kernel
theorem dX11_bedded_16 : decode cX11_bedded 16 = .ok (.goto 4, 3) := by decide +kernel
theorem dX11_bedded_19 : decode cX11_bedded 19 = .ok (.iconst (-1), 1) := by decide +kernel
theorem dX11_bedded_20 : decode cX11_bedded 20 = .ok (.ireturn, 1) := by decide +kernel
theorem dX11_isFit_0 : decode cX11_isFit 0 = .ok (.aload_n 0, 1) := by decide +kernel
theorem dX11_isFit_1 : decode cX11_isFit 1 = .ok (.getfield 33, 3) := by decide +kernel
theorem dX11_isFit_4 : decode cX11_isFit 4 = .ok (.bipush 125, 2) := by decide +kernel
theorem dX11_isFit_6 : decode cX11_isFit 6 = .ok (.iload_n 1, 1) := by decide +kernel
theorem dX11_isFit_7 : decode cX11_isFit 7 = .ok (.iadd, 1) := by decide +kernel
theorem dX11_isFit_8 : decode cX11_isFit 8 = .ok (.iaload, 1) := by decide +kernel
theorem dX11_isFit_9 : decode cX11_isFit 9 = .ok (.aload_n 0, 1) := by decide +kernel
theorem dX11_isFit_10 : decode cX11_isFit 10 = .ok (.getfield 18, 3) := by decide +kernel
theorem dX11_isFit_13 : decode cX11_isFit 13 = .ok (.if_icmp .lt 7, 3) := by decide +kernel
theorem dX11_isFit_16 : decode cX11_isFit 16 = .ok (.iconst 1, 1) := by decide +kernel
theorem dX11_isFit_17 : decode cX11_isFit 17 = .ok (.goto 4, 3) := by decide +kernel
theorem dX11_isFit_20 : decode cX11_isFit 20 = .ok (.iconst 0, 1) := by decide +kernel
theorem dX11_isFit_21 : decode cX11_isFit 21 = .ok (.istore_n 2, 1) := by decide +kernel
theorem dX11_isFit_22 : decode cX11_isFit 22 = .ok (.iconst 0, 1) := by decide +kernel
theorem dX11_isFit_23 : decode cX11_isFit 23 = .ok (.istore_n 3, 1) := by decide +kernel
theorem dX11_isFit_24 : decode cX11_isFit 24 = .ok (.iload_n 3, 1) := by decide +kernel
theorem dX11_isFit_25 : decode cX11_isFit 25 = .ok (.aload_n 0, 1) := by decide +kernel
theorem dX11_isFit_26 : decode cX11_isFit 26 = .ok (.getfield 18, 3) := by decide +kernel
theorem dX11_isFit_29 : decode cX11_isFit 29 = .ok (.if_icmp .ge 40, 3) := by decide +kernel
theorem dX11_isFit_32 : decode cX11_isFit 32 = .ok (.iload_n 2, 1) := by decide +kernel
theorem dX11_isFit_33 : decode cX11_isFit 33 = .ok (.ifCond .eq 36, 3) := by decide +kernel
theorem dX11_isFit_36 : decode cX11_isFit 36 = .ok (.aload_n 0, 1) := by decide +kernel
theorem dX11_isFit_37 : decode cX11_isFit 37 = .ok (.iload_n 1, 1) := by decide +kernel
theorem dX11_isFit_38 : decode cX11_isFit 38 = .ok (.aload_n 0, 1) := by decide +kernel
theorem dX11_isFit_39 : decode cX11_isFit 39 = .ok (.getfield 18, 3) := by decide +kernel
theorem dX11_isFit_42 : decode cX11_isFit 42 = .ok (.iconst 1, 1) := by decide +kernel
theorem dX11_isFit_43 : decode cX11_isFit 43 = .ok (.isub, 1) := by decide +kernel
theorem dX11_isFit_44 : decode cX11_isFit 44 = .ok (.iload_n 3, 1) := by decide +kernel
theorem dX11_isFit_45 : decode cX11_isFit 45 = .ok (.isub, 1) := by decide +kernel
theorem dX11_isFit_46 : decode cX11_isFit 46 = .ok (.invokevirtual 245, 3) := by decide +kernel
theorem dX11_isFit_49 : decode cX11_isFit 49 = .ok (.aload_n 0, 1) := by decide +kernel
theorem dX11_isFit_50 : decode cX11_isFit 50 = .ok (.iload_n 3, 1) := by decide +kernel
theorem dX11_isFit_51 : decode cX11_isFit 51 = .ok (.invokevirtual 357, 3) := by decide +kernel
theorem dX11_isFit_54 : decode cX11_isFit 54 = .ok (.if_icmp .ne 7, 3) := by decide +kernel
theorem dX11_isFit_57 : decode cX11_isFit 57 = .ok (.iconst 1, 1) := by decide +kernel
theorem dX11_isFit_58 : decode cX11_isFit 58 = .ok (.goto 4, 3) := by decide +kernel
theorem dX11_isFit_61 : decode cX11_isFit 61 = .ok (.iconst 0, 1) := by decide +kernel
theorem dX11_isFit_62 : decode cX11_isFit 62 = .ok (.istore_n 2, 1) := by decide +kernel
theorem dX11_isFit_63 : decode cX11_isFit 63 = .ok (.iinc 3 1, 3) := by decide +kernel
theorem dX11_isFit_66 : decode cX11_isFit 66 = .ok (.goto (-42), 3) := by decide +kernel
theorem dX11_isFit_69 : decode cX11_isFit 69 = .ok (.iload_n 2, 1) := by decide +kernel
theorem dX11_isFit_70 : decode cX11_isFit 70 = .ok (.ireturn, 1) := by decide +kernel
theorem dX11_leftBy_0 : decode cX11_leftBy 0 = .ok (.iconst 0, 1) := by decide +kernel
theorem dX11_leftBy_1 : decode cX11_leftBy 1 = .ok (.istore_n 3, 1) := by decide +kernel
theorem dX11_leftBy_2 : decode cX11_leftBy 2 = .ok (.iconst (-1), 1) := by decide +kernel
theorem dX11_leftBy_3 : decode cX11_leftBy 3 = .ok (.istore 4, 2) := by decide +kernel
theorem dX11_leftBy_5 : decode cX11_leftBy 5 = .ok (.iload 4, 2) := by decide +kernel
theorem dX11_leftBy_7 : decode cX11_leftBy 7 = .ok (.aload_n 0, 1) := by decide +kernel
theorem dX11_leftBy_8 : decode cX11_leftBy 8 = .ok (.getfield 33, 3) := by decide +kernel
theorem dX11_leftBy_11 : decode cX11_leftBy 11 = .ok (.iconst 0, 1) := by decide +kernel
theorem dX11_leftBy_12 : decode cX11_leftBy 12 = .ok (.iaload, 1) := by decide +kernel
theorem dX11_leftBy_13 : decode cX11_leftBy 13 = .ok (.if_icmp .ge 70, 3) := by decide +kernel
theorem dX11_leftBy_16 : decode cX11_leftBy 16 = .ok (.iconst 0, 1) := by decide +kernel
theorem dX11_leftBy_17 : decode cX11_leftBy 17 = .ok (.istore 5, 2) := by decide +kernel
theorem dX11_leftBy_19 : decode cX11_leftBy 19 = .ok (.iconst 0, 1) := by decide +kernel
theorem dX11_leftBy_20 : decode cX11_leftBy 20 = .ok (.istore 6, 2) := by decide +kernel
theorem dX11_leftBy_22 : decode cX11_leftBy 22 = .ok (.iload 6, 2) := by decide +kernel
theorem dX11_leftBy_24 : decode cX11_leftBy 24 = .ok (.aload_n 0, 1) := by decide +kernel
theorem dX11_leftBy_25 : decode cX11_leftBy 25 = .ok (.getfield 33, 3) := by decide +kernel
theorem dX11_leftBy_28 : decode cX11_leftBy 28 = .ok (.iconst 1, 1) := by decide +kernel
theorem dX11_leftBy_29 : decode cX11_leftBy 29 = .ok (.iaload, 1) := by decide +kernel
theorem dX11_leftBy_30 : decode cX11_leftBy 30 = .ok (.if_icmp .ge 40, 3) := by decide +kernel
theorem dX11_leftBy_33 : decode cX11_leftBy 33 = .ok (.iload 5, 2) := by decide +kernel
theorem dX11_leftBy_35 : decode cX11_leftBy 35 = .ok (.iload_n 1, 1) := by decide +kernel
theorem dX11_leftBy_36 : decode cX11_leftBy 36 = .ok (.iload 6, 2) := by decide +kernel
theorem dX11_leftBy_38 : decode cX11_leftBy 38 = .ok (.invokestatic 333, 3) := by decide +kernel
theorem dX11_leftBy_41 : decode cX11_leftBy 41 = .ok (.ifCond .eq 19, 3) := by decide +kernel
theorem dX11_leftBy_44 : decode cX11_leftBy 44 = .ok (.aload_n 0, 1) := by decide +kernel
theorem dX11_leftBy_45 : decode cX11_leftBy 45 = .ok (.iload 6, 2) := by decide +kernel
theorem dX11_leftBy_47 : decode cX11_leftBy 47 = .ok (.iload_n 2, 1) := by decide +kernel
theorem dX11_leftBy_48 : decode cX11_leftBy 48 = .ok (.invokevirtual 245, 3) := by decide +kernel
theorem dX11_leftBy_51 : decode cX11_leftBy 51 = .ok (.iload 4, 2) := by decide +kernel
theorem dX11_leftBy_53 : decode cX11_leftBy 53 = .ok (.if_icmp .ne 7, 3) := by decide +kernel
theorem dX11_leftBy_56 : decode cX11_leftBy 56 = .ok (.iconst 1, 1) := by decide +kernel
theorem dX11_leftBy_57 : decode cX11_leftBy 57 = .ok (.goto 4, 3) := by decide +kernel
theorem dX11_leftBy_60 : decode cX11_leftBy 60 = .ok (.iconst 0, 1) := by decide +kernel
theorem dX11_leftBy_61 : decode cX11_leftBy 61 = .ok (.iadd, 1) := by decide +kernel
theorem dX11_leftBy_62 : decode cX11_leftBy 62 = .ok (.istore 5, 2) := by decide +kernel
theorem dX11_leftBy_64 : decode cX11_leftBy 64 = .ok (.iinc 6 1, 3) := by decide +kernel
theorem dX11_leftBy_67 : decode cX11_leftBy 67 = .ok (.goto (-45), 3) := by decide +kernel
theorem dX11_leftBy_70 : decode cX11_leftBy 70 = .ok (.iload_n 3, 1) := by decide +kernel
theorem dX11_leftBy_71 : decode cX11_leftBy 71 = .ok (.iload 5, 2) := by decide +kernel
theorem dX11_leftBy_73 : decode cX11_leftBy 73 = .ok (.invokestatic 360, 3) := by decide +kernel
theorem dX11_leftBy_76 : decode cX11_leftBy 76 = .ok (.istore_n 3, 1) := by decide +kernel
theorem dX11_leftBy_77 : decode cX11_leftBy 77 = .ok (.iinc 4 1, 3) := by decide +kernel
theorem dX11_leftBy_80 : decode cX11_leftBy 80 = .ok (.goto (-75), 3) := by decide +kernel
theorem dX11_leftBy_83 : decode cX11_leftBy 83 = .ok (.iload_n 3, 1) := by decide +kernel
theorem dX11_leftBy_84 : decode cX11_leftBy 84 = .ok (.ireturn, 1) := by decide +kernel
theorem dX11_fits_0 : decode cX11_fits 0 = .ok (.aload_n 0, 1) := by decide +kernel
theorem dX11_fits_1 : decode cX11_fits 1 = .ok (.iconst 0, 1) := by decide +kernel
theorem dX11_fits_2 : decode cX11_fits 2 = .ok (.putfield 1, 3) := by decide +kernel
theorem dX11_fits_5 : decode cX11_fits 5 = .ok (.aload_n 0, 1) := by decide +kernel
theorem dX11_fits_6 : decode cX11_fits 6 = .ok (.sipush 940, 3) := by decide +kernel
theorem dX11_fits_9 : decode cX11_fits 9 = .ok (.invokevirtual 230, 3) := by decide +kernel
theorem dX11_fits_12 : decode cX11_fits 12 = .ok (.aload_n 0, 1) := by decide +kernel
theorem dX11_fits_13 : decode cX11_fits 13 = .ok (.getfield 18, 3) := by decide +kernel
theorem dX11_fits_16 : decode cX11_fits 16 = .ok (.iconst 1, 1) := by decide +kernel
theorem dX11_fits_17 : decode cX11_fits 17 = .ok (.bipush 8, 2) := by decide +kernel
theorem dX11_fits_19 : decode cX11_fits 19 = .ok (.invokestatic 176, 3) := by decide +kernel
theorem dX11_fits_22 : decode cX11_fits 22 = .ok (.ifCond .ne 5, 3) := by decide +kernel
theorem dX11_fits_25 : decode cX11_fits 25 = .ok (.iconst (-1), 1) := by decide +kernel
theorem dX11_fits_26 : decode cX11_fits 26 = .ok (.ireturn, 1) := by decide +kernel
theorem dX11_fits_27 : decode cX11_fits 27 = .ok (.iconst 0, 1) := by decide +kernel
theorem dX11_fits_28 : decode cX11_fits 28 = .ok (.istore_n 1, 1) := by decide +kernel
theorem dX11_fits_29 : decode cX11_fits 29 = .ok (.iload_n 1, 1) := by decide +kernel
theorem dX11_fits_30 : decode cX11_fits 30 = .ok (.aload_n 0, 1) := by decide +kernel
theorem dX11_fits_31 : decode cX11_fits 31 = .ok (.getfield 18, 3) := by decide +kernel
theorem dX11_fits_34 : decode cX11_fits 34 = .ok (.if_icmp .ge 23, 3) := by decide +kernel
theorem dX11_fits_37 : decode cX11_fits 37 = .ok (.aload_n 0, 1) := by decide +kernel
theorem dX11_fits_38 : decode cX11_fits 38 = .ok (.aload_n 0, 1) := by decide +kernel
theorem dX11_fits_39 : decode cX11_fits 39 = .ok (.iload_n 1, 1) := by decide +kernel
theorem dX11_fits_40 : decode cX11_fits 40 = .ok (.invokevirtual 357, 3) := by decide +kernel
theorem dX11_fits_43 : decode cX11_fits 43 = .ok (.invokevirtual 274, 3) := by decide +kernel
theorem dX11_fits_46 : decode cX11_fits 46 = .ok (.ifCond .ne 5, 3) := by decide +kernel
theorem dX11_fits_49 : decode cX11_fits 49 = .ok (.iconst (-1), 1) := by decide +kernel
theorem dX11_fits_50 : decode cX11_fits 50 = .ok (.ireturn, 1) := by decide +kernel
theorem dX11_fits_51 : decode cX11_fits 51 = .ok (.iinc 1 1, 3) := by decide +kernel
theorem dX11_fits_54 : decode cX11_fits 54 = .ok (.goto (-25), 3) := by decide +kernel
theorem dX11_fits_57 : decode cX11_fits 57 = .ok (.iconst 0, 1) := by decide +kernel
theorem dX11_fits_58 : decode cX11_fits 58 = .ok (.istore_n 1, 1) := by decide +kernel
theorem dX11_fits_59 : decode cX11_fits 59 = .ok (.iconst 0, 1) := by decide +kernel
theorem dX11_fits_60 : decode cX11_fits 60 = .ok (.istore_n 2, 1) := by decide +kernel
theorem dX11_fits_61 : decode cX11_fits 61 = .ok (.iload_n 2, 1) := by decide +kernel
theorem dX11_fits_62 : decode cX11_fits 62 = .ok (.aload_n 0, 1) := by decide +kernel
theorem dX11_fits_63 : decode cX11_fits 63 = .ok (.getfield 33, 3) := by decide +kernel
theorem dX11_fits_66 : decode cX11_fits 66 = .ok (.iconst 1, 1) := by decide +kernel
theorem dX11_fits_67 : decode cX11_fits 67 = .ok (.iaload, 1) := by decide +kernel
theorem dX11_fits_68 : decode cX11_fits 68 = .ok (.if_icmp .ge 27, 3) := by decide +kernel
theorem dX11_fits_71 : decode cX11_fits 71 = .ok (.iload_n 1, 1) := by decide +kernel
theorem dX11_fits_72 : decode cX11_fits 72 = .ok (.aload_n 0, 1) := by decide +kernel
theorem dX11_fits_73 : decode cX11_fits 73 = .ok (.iload_n 2, 1) := by decide +kernel
theorem dX11_fits_74 : decode cX11_fits 74 = .ok (.invokevirtual 363, 3) := by decide +kernel
theorem dX11_fits_77 : decode cX11_fits 77 = .ok (.ifCond .eq 9, 3) := by decide +kernel
theorem dX11_fits_80 : decode cX11_fits 80 = .ok (.iconst 1, 1) := by decide +kernel
theorem dX11_fits_81 : decode cX11_fits 81 = .ok (.iload_n 2, 1) := by decide +kernel
theorem dX11_fits_82 : decode cX11_fits 82 = .ok (.ishl, 1) := by decide +kernel
theorem dX11_fits_83 : decode cX11_fits 83 = .ok (.goto 4, 3) := by decide +kernel
theorem dX11_fits_86 : decode cX11_fits 86 = .ok (.iconst 0, 1) := by decide +kernel
theorem dX11_fits_87 : decode cX11_fits 87 = .ok (.ior, 1) := by decide +kernel
theorem dX11_fits_88 : decode cX11_fits 88 = .ok (.istore_n 1, 1) := by decide +kernel
theorem dX11_fits_89 : decode cX11_fits 89 = .ok (.iinc 2 1, 3) := by decide +kernel
theorem dX11_fits_92 : decode cX11_fits 92 = .ok (.goto (-31), 3) := by decide +kernel
theorem dX11_fits_95 : decode cX11_fits 95 = .ok (.iload_n 1, 1) := by decide +kernel
theorem dX11_fits_96 : decode cX11_fits 96 = .ok (.ifCond .ne 5, 3) := by decide +kernel
theorem dX11_fits_99 : decode cX11_fits 99 = .ok (.iconst 0, 1) := by decide +kernel
theorem dX11_fits_100 : decode cX11_fits 100 = .ok (.ireturn, 1) := by decide +kernel
theorem dX11_fits_101 : decode cX11_fits 101 = .ok (.aload_n 0, 1) := by decide +kernel
theorem dX11_fits_102 : decode cX11_fits 102 = .ok (.iconst 1, 1) := by decide +kernel
theorem dX11_fits_103 : decode cX11_fits 103 = .ok (.putfield 366, 3) := by decide +kernel
theorem dX11_fits_106 : decode cX11_fits 106 = .ok (.aload_n 0, 1) := by decide +kernel
theorem dX11_fits_107 : decode cX11_fits 107 = .ok (.iconst 0, 1) := by decide +kernel
theorem dX11_fits_108 : decode cX11_fits 108 = .ok (.putfield 369, 3) := by decide +kernel
theorem dX11_fits_111 : decode cX11_fits 111 = .ok (.iconst 1, 1) := by decide +kernel
theorem dX11_fits_112 : decode cX11_fits 112 = .ok (.istore_n 2, 1) := by decide +kernel
theorem dX11_fits_113 : decode cX11_fits 113 = .ok (.iload_n 2, 1) := by decide +kernel
theorem dX11_fits_114 : decode cX11_fits 114 = .ok (.bipush 8, 2) := by decide +kernel
theorem dX11_fits_116 : decode cX11_fits 116 = .ok (.if_icmp .ge 32, 3) := by decide +kernel
theorem dX11_fits_119 : decode cX11_fits 119 = .ok (.aload_n 0, 1) := by decide +kernel
theorem dX11_fits_120 : decode cX11_fits 120 = .ok (.iload_n 1, 1) := by decide +kernel
theorem dX11_fits_121 : decode cX11_fits 121 = .ok (.iload_n 2, 1) := by decide +kernel
theorem dX11_fits_122 : decode cX11_fits 122 = .ok (.invokevirtual 372, 3) := by decide +kernel
theorem dX11_fits_125 : decode cX11_fits 125 = .ok (.aload_n 0, 1) := by decide +kernel
theorem dX11_fits_126 : decode cX11_fits 126 = .ok (.iload_n 1, 1) := by decide +kernel
theorem dX11_fits_127 : decode cX11_fits 127 = .ok (.aload_n 0, 1) := by decide +kernel
theorem dX11_fits_128 : decode cX11_fits 128 = .ok (.getfield 369, 3) := by decide +kernel
theorem dX11_fits_131 : decode cX11_fits 131 = .ok (.invokevirtual 372, 3) := by decide +kernel
theorem dX11_fits_134 : decode cX11_fits 134 = .ok (.if_icmp .ge 8, 3) := by decide +kernel
theorem dX11_fits_137 : decode cX11_fits 137 = .ok (.aload_n 0, 1) := by decide +kernel
theorem dX11_fits_138 : decode cX11_fits 138 = .ok (.iload_n 2, 1) := by decide +kernel
theorem dX11_fits_139 : decode cX11_fits 139 = .ok (.putfield 369, 3) := by decide +kernel
theorem dX11_fits_142 : decode cX11_fits 142 = .ok (.iinc 2 1, 3) := by decide +kernel
theorem dX11_fits_145 : decode cX11_fits 145 = .ok (.goto (-32), 3) := by decide +kernel
theorem dX11_fits_148 : decode cX11_fits 148 = .ok (.iload_n 1, 1) := by decide +kernel
theorem dX11_fits_149 : decode cX11_fits 149 = .ok (.ireturn, 1) := by decide +kernel
theorem dX11_ask_0 : decode cX11_ask 0 = .ok (.aload_n 0, 1) := by decide +kernel
theorem dX11_ask_1 : decode cX11_ask 1 = .ok (.iconst 0, 1) := by decide +kernel
theorem dX11_ask_2 : decode cX11_ask 2 = .ok (.putfield 1, 3) := by decide +kernel
theorem dX11_ask_5 : decode cX11_ask 5 = .ok (.aload_n 0, 1) := by decide +kernel
theorem dX11_ask_6 : decode cX11_ask 6 = .ok (.getfield 366, 3) := by decide +kernel
theorem dX11_ask_9 : decode cX11_ask 9 = .ok (.ifCond .eq 10, 3) := by decide +kernel
theorem dX11_ask_12 : decode cX11_ask 12 = .ok (.aload_n 0, 1) := by decide +kernel
theorem dX11_ask_13 : decode cX11_ask 13 = .ok (.getfield 369, 3) := by decide +kernel
theorem dX11_ask_16 : decode cX11_ask 16 = .ok (.goto 4, 3) := by decide +kernel
theorem dX11_ask_19 : decode cX11_ask 19 = .ok (.iconst (-1), 1) := by decide +kernel
theorem dX11_ask_20 : decode cX11_ask 20 = .ok (.ireturn, 1) := by decide +kernel
theorem dX11_isLike_0 : decode cX11_isLike 0 = .ok (.aload_n 0, 1) := by decide +kernel
theorem dX11_isLike_1 : decode cX11_isLike 1 = .ok (.getfield 33, 3) := by decide +kernel
theorem dX11_isLike_4 : decode cX11_isLike 4 = .ok (.bipush 125, 2) := by decide +kernel
theorem dX11_isLike_6 : decode cX11_isLike 6 = .ok (.iload_n 1, 1) := by decide +kernel
theorem dX11_isLike_7 : decode cX11_isLike 7 = .ok (.iadd, 1) := by decide +kernel
theorem dX11_isLike_8 : decode cX11_isLike 8 = .ok (.iaload, 1) := by decide +kernel
theorem dX11_isLike_9 : decode cX11_isLike 9 = .ok (.aload_n 0, 1) := by decide +kernel
theorem dX11_isLike_10 : decode cX11_isLike 10 = .ok (.getfield 33, 3) := by decide +kernel
theorem dX11_isLike_13 : decode cX11_isLike 13 = .ok (.bipush 125, 2) := by decide +kernel
theorem dX11_isLike_15 : decode cX11_isLike 15 = .ok (.iload_n 2, 1) := by decide +kernel
theorem dX11_isLike_16 : decode cX11_isLike 16 = .ok (.iadd, 1) := by decide +kernel
theorem dX11_isLike_17 : decode cX11_isLike 17 = .ok (.iaload, 1) := by decide +kernel
theorem dX11_isLike_18 : decode cX11_isLike 18 = .ok (.if_icmp .ne 7, 3) := by decide +kernel
theorem dX11_isLike_21 : decode cX11_isLike 21 = .ok (.iconst 1, 1) := by decide +kernel
theorem dX11_isLike_22 : decode cX11_isLike 22 = .ok (.goto 4, 3) := by decide +kernel
theorem dX11_isLike_25 : decode cX11_isLike 25 = .ok (.iconst 0, 1) := by decide +kernel
theorem dX11_isLike_26 : decode cX11_isLike 26 = .ok (.istore_n 3, 1) := by decide +kernel
theorem dX11_isLike_27 : decode cX11_isLike 27 = .ok (.iconst 0, 1) := by decide +kernel
theorem dX11_isLike_28 : decode cX11_isLike 28 = .ok (.istore 4, 2) := by decide +kernel
theorem dX11_isLike_30 : decode cX11_isLike 30 = .ok (.iload 4, 2) := by decide +kernel
theorem dX11_isLike_32 : decode cX11_isLike 32 = .ok (.aload_n 0, 1) := by decide +kernel
theorem dX11_isLike_33 : decode cX11_isLike 33 = .ok (.getfield 33, 3) := by decide +kernel
theorem dX11_isLike_36 : decode cX11_isLike 36 = .ok (.bipush 125, 2) := by decide +kernel
theorem dX11_isLike_38 : decode cX11_isLike 38 = .ok (.iload_n 1, 1) := by decide +kernel
theorem dX11_isLike_39 : decode cX11_isLike 39 = .ok (.iadd, 1) := by decide +kernel
theorem dX11_isLike_40 : decode cX11_isLike 40 = .ok (.iaload, 1) := by decide +kernel
theorem dX11_isLike_41 : decode cX11_isLike 41 = .ok (.if_icmp .ge 54, 3) := by decide +kernel
theorem dX11_isLike_44 : decode cX11_isLike 44 = .ok (.iload_n 3, 1) := by decide +kernel
theorem dX11_isLike_45 : decode cX11_isLike 45 = .ok (.ifCond .eq 50, 3) := by decide +kernel
theorem dX11_isLike_48 : decode cX11_isLike 48 = .ok (.aload_n 0, 1) := by decide +kernel
theorem dX11_isLike_49 : decode cX11_isLike 49 = .ok (.getfield 33, 3) := by decide +kernel
theorem dX11_isLike_52 : decode cX11_isLike 52 = .ok (.sipush 131, 3) := by decide +kernel
theorem dX11_isLike_55 : decode cX11_isLike 55 = .ok (.bipush 8, 2) := by decide +kernel
theorem dX11_isLike_57 : decode cX11_isLike 57 = .ok (.iload_n 1, 1) := by decide +kernel
theorem dX11_isLike_58 : decode cX11_isLike 58 = .ok (.imul, 1) := by decide +kernel
theorem dX11_isLike_59 : decode cX11_isLike 59 = .ok (.iadd, 1) := by decide +kernel
theorem dX11_isLike_60 : decode cX11_isLike 60 = .ok (.iload 4, 2) := by decide +kernel
theorem dX11_isLike_62 : decode cX11_isLike 62 = .ok (.iadd, 1) := by decide +kernel
theorem dX11_isLike_63 : decode cX11_isLike 63 = .ok (.iaload, 1) := by decide +kernel
theorem dX11_isLike_64 : decode cX11_isLike 64 = .ok (.aload_n 0, 1) := by decide +kernel
theorem dX11_isLike_65 : decode cX11_isLike 65 = .ok (.getfield 33, 3) := by decide +kernel
theorem dX11_isLike_68 : decode cX11_isLike 68 = .ok (.sipush 131, 3) := by decide +kernel
theorem dX11_isLike_71 : decode cX11_isLike 71 = .ok (.bipush 8, 2) := by decide +kernel
theorem dX11_isLike_73 : decode cX11_isLike 73 = .ok (.iload_n 2, 1) := by decide +kernel
theorem dX11_isLike_74 : decode cX11_isLike 74 = .ok (.imul, 1) := by decide +kernel
theorem dX11_isLike_75 : decode cX11_isLike 75 = .ok (.iadd, 1) := by decide +kernel
theorem dX11_isLike_76 : decode cX11_isLike 76 = .ok (.iload 4, 2) := by decide +kernel
theorem dX11_isLike_78 : decode cX11_isLike 78 = .ok (.iadd, 1) := by decide +kernel
theorem dX11_isLike_79 : decode cX11_isLike 79 = .ok (.iaload, 1) := by decide +kernel
theorem dX11_isLike_80 : decode cX11_isLike 80 = .ok (.if_icmp .ne 7, 3) := by decide +kernel
theorem dX11_isLike_83 : decode cX11_isLike 83 = .ok (.iconst 1, 1) := by decide +kernel
theorem dX11_isLike_84 : decode cX11_isLike 84 = .ok (.goto 4, 3) := by decide +kernel
theorem dX11_isLike_87 : decode cX11_isLike 87 = .ok (.iconst 0, 1) := by decide +kernel
theorem dX11_isLike_88 : decode cX11_isLike 88 = .ok (.istore_n 3, 1) := by decide +kernel
theorem dX11_isLike_89 : decode cX11_isLike 89 = .ok (.iinc 4 1, 3) := by decide +kernel
theorem dX11_isLike_92 : decode cX11_isLike 92 = .ok (.goto (-62), 3) := by decide +kernel
theorem dX11_isLike_95 : decode cX11_isLike 95 = .ok (.iload_n 3, 1) := by decide +kernel
theorem dX11_isLike_96 : decode cX11_isLike 96 = .ok (.ireturn, 1) := by decide +kernel
theorem dX11_like_0 : decode cX11_like 0 = .ok (.aload_n 0, 1) := by decide +kernel
theorem dX11_like_1 : decode cX11_like 1 = .ok (.iconst 0, 1) := by decide +kernel
theorem dX11_like_2 : decode cX11_like 2 = .ok (.putfield 1, 3) := by decide +kernel
theorem dX11_like_5 : decode cX11_like 5 = .ok (.aload_n 0, 1) := by decide +kernel
theorem dX11_like_6 : decode cX11_like 6 = .ok (.iload_n 1, 1) := by decide +kernel
theorem dX11_like_7 : decode cX11_like 7 = .ok (.invokevirtual 254, 3) := by decide +kernel
theorem dX11_like_10 : decode cX11_like 10 = .ok (.ifCond .ne 5, 3) := by decide +kernel
theorem dX11_like_13 : decode cX11_like 13 = .ok (.iconst (-1), 1) := by decide +kernel
theorem dX11_like_14 : decode cX11_like 14 = .ok (.ireturn, 1) := by decide +kernel
theorem dX11_like_15 : decode cX11_like 15 = .ok (.iconst 0, 1) := by decide +kernel
theorem dX11_like_16 : decode cX11_like 16 = .ok (.istore_n 2, 1) := by decide +kernel
theorem dX11_like_17 : decode cX11_like 17 = .ok (.iconst 0, 1) := by decide +kernel
theorem dX11_like_18 : decode cX11_like 18 = .ok (.istore_n 3, 1) := by decide +kernel
theorem dX11_like_19 : decode cX11_like 19 = .ok (.iload_n 3, 1) := by decide +kernel
theorem dX11_like_20 : decode cX11_like 20 = .ok (.aload_n 0, 1) := by decide +kernel
theorem dX11_like_21 : decode cX11_like 21 = .ok (.getfield 33, 3) := by decide +kernel
theorem dX11_like_24 : decode cX11_like 24 = .ok (.iconst 1, 1) := by decide +kernel
theorem dX11_like_25 : decode cX11_like 25 = .ok (.iaload, 1) := by decide +kernel
theorem dX11_like_26 : decode cX11_like 26 = .ok (.if_icmp .ge 33, 3) := by decide +kernel
theorem dX11_like_29 : decode cX11_like 29 = .ok (.iload_n 2, 1) := by decide +kernel
theorem dX11_like_30 : decode cX11_like 30 = .ok (.iload_n 3, 1) := by decide +kernel
theorem dX11_like_31 : decode cX11_like 31 = .ok (.iload_n 1, 1) := by decide +kernel
theorem dX11_like_32 : decode cX11_like 32 = .ok (.if_icmp .eq 18, 3) := by decide +kernel
theorem dX11_like_35 : decode cX11_like 35 = .ok (.aload_n 0, 1) := by decide +kernel
theorem dX11_like_36 : decode cX11_like 36 = .ok (.iload_n 1, 1) := by decide +kernel
theorem dX11_like_37 : decode cX11_like 37 = .ok (.iload_n 3, 1) := by decide +kernel
theorem dX11_like_38 : decode cX11_like 38 = .ok (.invokevirtual 375, 3) := by decide +kernel
theorem dX11_like_41 : decode cX11_like 41 = .ok (.ifCond .eq 9, 3) := by decide +kernel
theorem dX11_like_44 : decode cX11_like 44 = .ok (.iconst 1, 1) := by decide +kernel
theorem dX11_like_45 : decode cX11_like 45 = .ok (.iload_n 3, 1) := by decide +kernel
theorem dX11_like_46 : decode cX11_like 46 = .ok (.ishl, 1) := by decide +kernel
theorem dX11_like_47 : decode cX11_like 47 = .ok (.goto 4, 3) := by decide +kernel
theorem dX11_like_50 : decode cX11_like 50 = .ok (.iconst 0, 1) := by decide +kernel
theorem dX11_like_51 : decode cX11_like 51 = .ok (.ior, 1) := by decide +kernel
theorem dX11_like_52 : decode cX11_like 52 = .ok (.istore_n 2, 1) := by decide +kernel
theorem dX11_like_53 : decode cX11_like 53 = .ok (.iinc 3 1, 3) := by decide +kernel
theorem dX11_like_56 : decode cX11_like 56 = .ok (.goto (-37), 3) := by decide +kernel
theorem dX11_like_59 : decode cX11_like 59 = .ok (.iload_n 2, 1) := by decide +kernel
theorem dX11_like_60 : decode cX11_like 60 = .ok (.ireturn, 1) := by decide +kernel
theorem dX11_hardest_0 : decode cX11_hardest 0 = .ok (.aload_n 0, 1) := by decide +kernel
theorem dX11_hardest_1 : decode cX11_hardest 1 = .ok (.iconst 0, 1) := by decide +kernel
theorem dX11_hardest_2 : decode cX11_hardest 2 = .ok (.putfield 1, 3) := by decide +kernel
theorem dX11_hardest_5 : decode cX11_hardest 5 = .ok (.iconst (-1), 1) := by decide +kernel
theorem dX11_hardest_6 : decode cX11_hardest 6 = .ok (.istore_n 1, 1) := by decide +kernel
theorem dX11_hardest_7 : decode cX11_hardest 7 = .ok (.iconst 0, 1) := by decide +kernel
theorem dX11_hardest_8 : decode cX11_hardest 8 = .ok (.istore_n 2, 1) := by decide +kernel
theorem dX11_hardest_9 : decode cX11_hardest 9 = .ok (.iload_n 2, 1) := by decide +kernel
theorem dX11_hardest_10 : decode cX11_hardest 10 = .ok (.aload_n 0, 1) := by decide +kernel
theorem dX11_hardest_11 : decode cX11_hardest 11 = .ok (.getfield 33, 3) := by decide +kernel
theorem dX11_hardest_14 : decode cX11_hardest 14 = .ok (.iconst 1, 1) := by decide +kernel
theorem dX11_hardest_15 : decode cX11_hardest 15 = .ok (.iaload, 1) := by decide +kernel
theorem dX11_hardest_16 : decode cX11_hardest 16 = .ok (.if_icmp .ge 28, 3) := by decide +kernel
theorem dX11_hardest_19 : decode cX11_hardest 19 = .ok (.iload_n 1, 1) := by decide +kernel
theorem dX11_hardest_20 : decode cX11_hardest 20 = .ok (.ifCond .lt 16, 3) := by decide +kernel
theorem dX11_hardest_23 : decode cX11_hardest 23 = .ok (.aload_n 0, 1) := by decide +kernel
theorem dX11_hardest_24 : decode cX11_hardest 24 = .ok (.iload_n 2, 1) := by decide +kernel
theorem dX11_hardest_25 : decode cX11_hardest 25 = .ok (.invokevirtual 268, 3) := by decide +kernel
theorem dX11_hardest_28 : decode cX11_hardest 28 = .ok (.aload_n 0, 1) := by decide +kernel
theorem dX11_hardest_29 : decode cX11_hardest 29 = .ok (.iload_n 1, 1) := by decide +kernel
theorem dX11_hardest_30 : decode cX11_hardest 30 = .ok (.invokevirtual 268, 3) := by decide +kernel
theorem dX11_hardest_33 : decode cX11_hardest 33 = .ok (.if_icmp .le 5, 3) := by decide +kernel
theorem dX11_hardest_36 : decode cX11_hardest 36 = .ok (.iload_n 2, 1) := by decide +kernel
theorem dX11_hardest_37 : decode cX11_hardest 37 = .ok (.istore_n 1, 1) := by decide +kernel
theorem dX11_hardest_38 : decode cX11_hardest 38 = .ok (.iinc 2 1, 3) := by decide +kernel
theorem dX11_hardest_41 : decode cX11_hardest 41 = .ok (.goto (-32), 3) := by decide +kernel
theorem dX11_hardest_44 : decode cX11_hardest 44 = .ok (.iload_n 1, 1) := by decide +kernel
theorem dX11_hardest_45 : decode cX11_hardest 45 = .ok (.ireturn, 1) := by decide +kernel
theorem dX11_mean_0 : decode cX11_mean 0 = .ok (.aload_n 0, 1) := by decide +kernel
theorem dX11_mean_1 : decode cX11_mean 1 = .ok (.aload_n 0, 1) := by decide +kernel
theorem dX11_mean_2 : decode cX11_mean 2 = .ok (.iload_n 1, 1) := by decide +kernel
theorem dX11_mean_3 : decode cX11_mean 3 = .ok (.invokevirtual 254, 3) := by decide +kernel
theorem dX11_mean_6 : decode cX11_mean 6 = .ok (.ifCond .eq 24, 3) := by decide +kernel
theorem dX11_mean_9 : decode cX11_mean 9 = .ok (.iload_n 2, 1) := by decide +kernel
theorem dX11_mean_10 : decode cX11_mean 10 = .ok (.iconst 0, 1) := by decide +kernel
theorem dX11_mean_11 : decode cX11_mean 11 = .ok (.iconst 1, 1) := by decide +kernel
theorem dX11_mean_12 : decode cX11_mean 12 = .ok (.invokestatic 176, 3) := by decide +kernel
theorem dX11_mean_15 : decode cX11_mean 15 = .ok (.ifCond .eq 15, 3) := by decide +kernel
theorem dX11_mean_18 : decode cX11_mean 18 = .ok (.aload_n 0, 1) := by decide +kernel
theorem dX11_mean_19 : decode cX11_mean 19 = .ok (.getfield 33, 3) := by decide +kernel
theorem dX11_mean_22 : decode cX11_mean 22 = .ok (.bipush 125, 2) := by decide +kernel
theorem dX11_mean_24 : decode cX11_mean 24 = .ok (.iload_n 1, 1) := by decide +kernel
theorem dX11_mean_25 : decode cX11_mean 25 = .ok (.iadd, 1) := by decide +kernel
theorem dX11_mean_26 : decode cX11_mean 26 = .ok (.iaload, 1) := by decide +kernel
theorem dX11_mean_27 : decode cX11_mean 27 = .ok (.ifCond .ne 7, 3) := by decide +kernel
theorem dX11_mean_30 : decode cX11_mean 30 = .ok (.iconst 1, 1) := by decide +kernel
theorem dX11_mean_31 : decode cX11_mean 31 = .ok (.goto 4, 3) := by decide +kernel
theorem dX11_mean_34 : decode cX11_mean 34 = .ok (.iconst 0, 1) := by decide +kernel
theorem dX11_mean_35 : decode cX11_mean 35 = .ok (.invokevirtual 257, 3) := by decide +kernel
theorem dX11_mean_38 : decode cX11_mean 38 = .ok (.ifCond .eq 5, 3) := by decide +kernel
theorem dX11_mean_41 : decode cX11_mean 41 = .ok (.iconst 0, 1) := by decide +kernel
theorem dX11_mean_42 : decode cX11_mean 42 = .ok (.ireturn, 1) := by decide +kernel
theorem dX11_mean_43 : decode cX11_mean 43 = .ok (.aload_n 0, 1) := by decide +kernel
theorem dX11_mean_44 : decode cX11_mean 44 = .ok (.iload_n 1, 1) := by decide +kernel
theorem dX11_mean_45 : decode cX11_mean 45 = .ok (.invokevirtual 261, 3) := by decide +kernel
theorem dX11_mean_48 : decode cX11_mean 48 = .ok (.istore_n 3, 1) := by decide +kernel
theorem dX11_mean_49 : decode cX11_mean 49 = .ok (.aload_n 0, 1) := by decide +kernel
theorem dX11_mean_50 : decode cX11_mean 50 = .ok (.iload_n 1, 1) := by decide +kernel
theorem dX11_mean_51 : decode cX11_mean 51 = .ok (.invokevirtual 268, 3) := by decide +kernel
theorem dX11_mean_54 : decode cX11_mean 54 = .ok (.istore 4, 2) := by decide +kernel
theorem dX11_mean_56 : decode cX11_mean 56 = .ok (.iload 4, 2) := by decide +kernel
theorem dX11_mean_58 : decode cX11_mean 58 = .ok (.ifCond .eq 19, 3) := by decide +kernel
theorem dX11_mean_61 : decode cX11_mean 61 = .ok (.iload_n 3, 1) := by decide +kernel
theorem dX11_mean_62 : decode cX11_mean 62 = .ok (.iload 4, 2) := by decide +kernel
theorem dX11_mean_64 : decode cX11_mean 64 = .ok (.irem, 1) := by decide +kernel
theorem dX11_mean_65 : decode cX11_mean 65 = .ok (.istore 5, 2) := by decide +kernel
theorem dX11_mean_67 : decode cX11_mean 67 = .ok (.iload 4, 2) := by decide +kernel
theorem dX11_mean_69 : decode cX11_mean 69 = .ok (.istore_n 3, 1) := by decide +kernel
theorem dX11_mean_70 : decode cX11_mean 70 = .ok (.iload 5, 2) := by decide +kernel
theorem dX11_mean_72 : decode cX11_mean 72 = .ok (.istore 4, 2) := by decide +kernel
theorem dX11_mean_74 : decode cX11_mean 74 = .ok (.goto (-18), 3) := by decide +kernel
theorem dX11_mean_77 : decode cX11_mean 77 = .ok (.iload_n 2, 1) := by decide +kernel
theorem dX11_mean_78 : decode cX11_mean 78 = .ok (.ifCond .ne 11, 3) := by decide +kernel
theorem dX11_mean_81 : decode cX11_mean 81 = .ok (.aload_n 0, 1) := by decide +kernel
theorem dX11_mean_82 : decode cX11_mean 82 = .ok (.iload_n 1, 1) := by decide +kernel
theorem dX11_mean_83 : decode cX11_mean 83 = .ok (.invokevirtual 268, 3) := by decide +kernel
theorem dX11_mean_86 : decode cX11_mean 86 = .ok (.goto 8, 3) := by decide +kernel
theorem dX11_mean_89 : decode cX11_mean 89 = .ok (.aload_n 0, 1) := by decide +kernel
theorem dX11_mean_90 : decode cX11_mean 90 = .ok (.iload_n 1, 1) := by decide +kernel
theorem dX11_mean_91 : decode cX11_mean 91 = .ok (.invokevirtual 261, 3) := by decide +kernel
theorem dX11_mean_94 : decode cX11_mean 94 = .ok (.iload_n 3, 1) := by decide +kernel
theorem dX11_mean_95 : decode cX11_mean 95 = .ok (.idiv, 1) := by decide +kernel
theorem dX11_mean_96 : decode cX11_mean 96 = .ok (.ireturn, 1) := by decide +kernel
theorem dX11_lays_0 : decode cX11_lays 0 = .ok (.aload_n 0, 1) := by decide +kernel
theorem dX11_lays_1 : decode cX11_lays 1 = .ok (.getfield 66, 3) := by decide +kernel
theorem dX11_lays_4 : decode cX11_lays 4 = .ok (.aload_n 0, 1) := by decide +kernel
theorem dX11_lays_5 : decode cX11_lays 5 = .ok (.getfield 378, 3) := by decide +kernel
theorem dX11_lays_8 : decode cX11_lays 8 = .ok (.iload_n 1, 1) := by decide +kernel
theorem dX11_lays_9 : decode cX11_lays 9 = .ok (.i2b, 1) := by decide +kernel
theorem dX11_lays_10 : decode cX11_lays 10 = .ok (.bastore, 1) := by decide +kernel
theorem dX11_lays_11 : decode cX11_lays 11 = .ok (.aload_n 0, 1) := by decide +kernel
theorem dX11_lays_12 : decode cX11_lays 12 = .ok (.dup, 1) := by decide +kernel
theorem dX11_lays_13 : decode cX11_lays 13 = .ok (.getfield 378, 3) := by decide +kernel
theorem dX11_lays_16 : decode cX11_lays 16 = .ok (.iconst 1, 1) := by decide +kernel
theorem dX11_lays_17 : decode cX11_lays 17 = .ok (.iadd, 1) := by decide +kernel
theorem dX11_lays_18 : decode cX11_lays 18 = .ok (.putfield 378, 3) := by decide +kernel
theorem dX11_lays_21 : decode cX11_lays 21 = .ok (.return_, 1) := by decide +kernel
theorem dX11_spells_0 : decode cX11_spells 0 = .ok (.bipush 56, 2) := by decide +kernel
theorem dX11_spells_2 : decode cX11_spells 2 = .ok (.istore_n 3, 1) := by decide +kernel
theorem dX11_spells_3 : decode cX11_spells 3 = .ok (.iload_n 3, 1) := by decide +kernel
theorem dX11_spells_4 : decode cX11_spells 4 = .ok (.ifCond .lt 33, 3) := by decide +kernel
theorem dX11_spells_7 : decode cX11_spells 7 = .ok (.lload_n 1, 1) := by decide +kernel
theorem dX11_spells_8 : decode cX11_spells 8 = .ok (.iload_n 3, 1) := by decide +kernel
theorem dX11_spells_9 : decode cX11_spells 9 = .ok (.lshr, 1) := by decide +kernel
theorem dX11_spells_10 : decode cX11_spells 10 = .ok (.ldc2_w 381, 3) := by decide +kernel
theorem dX11_spells_13 : decode cX11_spells 13 = .ok (.land, 1) := by decide +kernel
theorem dX11_spells_14 : decode cX11_spells 14 = .ok (.lconst 0, 1) := by decide +kernel
theorem dX11_spells_15 : decode cX11_spells 15 = .ok (.lcmp, 1) := by decide +kernel
theorem dX11_spells_16 : decode cX11_spells 16 = .ok (.ifCond .eq 15, 3) := by decide +kernel
theorem dX11_spells_19 : decode cX11_spells 19 = .ok (.aload_n 0, 1) := by decide +kernel
theorem dX11_spells_20 : decode cX11_spells 20 = .ok (.lload_n 1, 1) := by decide +kernel
theorem dX11_spells_21 : decode cX11_spells 21 = .ok (.iload_n 3, 1) := by decide +kernel
theorem dX11_spells_22 : decode cX11_spells 22 = .ok (.lshr, 1) := by decide +kernel
theorem dX11_spells_23 : decode cX11_spells 23 = .ok (.ldc2_w 381, 3) := by decide +kernel
theorem dX11_spells_26 : decode cX11_spells 26 = .ok (.land, 1) := by decide +kernel
theorem dX11_spells_27 : decode cX11_spells 27 = .ok (.l2i, 1) := by decide +kernel
theorem dX11_spells_28 : decode cX11_spells 28 = .ok (.invokevirtual 383, 3) := by decide +kernel
theorem dX11_spells_31 : decode cX11_spells 31 = .ok (.iinc 3 (-8), 3) := by decide +kernel
theorem dX11_spells_34 : decode cX11_spells 34 = .ok (.goto (-31), 3) := by decide +kernel
theorem dX11_spells_37 : decode cX11_spells 37 = .ok (.return_, 1) := by decide +kernel
theorem dX11_says_0 : decode cX11_says 0 = .ok (.aload_n 0, 1) := by decide +kernel
theorem dX11_says_1 : decode cX11_says 1 = .ok (.bipush 32, 2) := by decide +kernel
theorem dX11_says_3 : decode cX11_says 3 = .ok (.invokevirtual 383, 3) := by decide +kernel
theorem dX11_says_6 : decode cX11_says 6 = .ok (.aload_n 0, 1) := by decide +kernel
theorem dX11_says_7 : decode cX11_says 7 = .ok (.lload_n 1, 1) := by decide +kernel
theorem dX11_says_8 : decode cX11_says 8 = .ok (.invokevirtual 386, 3) := by decide +kernel
theorem dX11_says_11 : decode cX11_says 11 = .ok (.return_, 1) := by decide +kernel
theorem dX11_tag_0 : decode cX11_tag 0 = .ok (.aload_n 0, 1) := by decide +kernel
theorem dX11_tag_1 : decode cX11_tag 1 = .ok (.iconst 0, 1) := by decide +kernel
theorem dX11_tag_2 : decode cX11_tag 2 = .ok (.putfield 1, 3) := by decide +kernel
theorem dX11_tag_5 : decode cX11_tag 5 = .ok (.aload_n 0, 1) := by decide +kernel
theorem dX11_tag_6 : decode cX11_tag 6 = .ok (.iload_n 1, 1) := by decide +kernel
theorem dX11_tag_7 : decode cX11_tag 7 = .ok (.invokevirtual 254, 3) := by decide +kernel
theorem dX11_tag_10 : decode cX11_tag 10 = .ok (.ifCond .ne 5, 3) := by decide +kernel
theorem dX11_tag_13 : decode cX11_tag 13 = .ok (.iconst (-1), 1) := by decide +kernel
theorem dX11_tag_14 : decode cX11_tag 14 = .ok (.ireturn, 1) := by decide +kernel
theorem dX11_tag_15 : decode cX11_tag 15 = .ok (.aload_n 0, 1) := by decide +kernel
theorem dX11_tag_16 : decode cX11_tag 16 = .ok (.iconst 0, 1) := by decide +kernel
theorem dX11_tag_17 : decode cX11_tag 17 = .ok (.putfield 378, 3) := by decide +kernel
theorem dX11_tag_20 : decode cX11_tag 20 = .ok (.aload_n 0, 1) := by decide +kernel
theorem dX11_tag_21 : decode cX11_tag 21 = .ok (.aload_n 0, 1) := by decide +kernel
theorem dX11_tag_22 : decode cX11_tag 22 = .ok (.getfield 43, 3) := by decide +kernel
theorem dX11_tag_25 : decode cX11_tag 25 = .ok (.bipush 8, 2) := by decide +kernel
theorem dX11_tag_27 : decode cX11_tag 27 = .ok (.iload_n 1, 1) := by decide +kernel
theorem dX11_tag_28 : decode cX11_tag 28 = .ok (.iadd, 1) := by decide +kernel
theorem dX11_tag_29 : decode cX11_tag 29 = .ok (.laload, 1) := by decide +kernel
theorem dX11_tag_30 : decode cX11_tag 30 = .ok (.invokevirtual 386, 3) := by decide +kernel
theorem dX11_tag_33 : decode cX11_tag 33 = .ok (.aload_n 0, 1) := by decide +kernel
theorem dX11_tag_34 : decode cX11_tag 34 = .ok (.getfield 33, 3) := by decide +kernel
theorem dX11_tag_37 : decode cX11_tag 37 = .ok (.bipush 125, 2) := by decide +kernel
theorem dX11_tag_39 : decode cX11_tag 39 = .ok (.iload_n 1, 1) := by decide +kernel
theorem dX11_tag_40 : decode cX11_tag 40 = .ok (.iadd, 1) := by decide +kernel
theorem dX11_tag_41 : decode cX11_tag 41 = .ok (.iaload, 1) := by decide +kernel
theorem dX11_tag_42 : decode cX11_tag 42 = .ok (.ifCond .ne 10, 3) := by decide +kernel
theorem dX11_tag_45 : decode cX11_tag 45 = .ok (.aload_n 0, 1) := by decide +kernel
theorem dX11_tag_46 : decode cX11_tag 46 = .ok (.ldc2_w 115, 3) := by decide +kernel
theorem dX11_tag_49 : decode cX11_tag 49 = .ok (.invokevirtual 390, 3) := by decide +kernel
theorem dX11_tag_52 : decode cX11_tag 52 = .ok (.iconst 0, 1) := by decide +kernel
theorem dX11_tag_53 : decode cX11_tag 53 = .ok (.istore_n 2, 1) := by decide +kernel
theorem dX11_tag_54 : decode cX11_tag 54 = .ok (.iload_n 2, 1) := by decide +kernel
theorem dX11_tag_55 : decode cX11_tag 55 = .ok (.aload_n 0, 1) := by decide +kernel
theorem dX11_tag_56 : decode cX11_tag 56 = .ok (.getfield 33, 3) := by decide +kernel
theorem dX11_tag_59 : decode cX11_tag 59 = .ok (.bipush 125, 2) := by decide +kernel
theorem dX11_tag_61 : decode cX11_tag 61 = .ok (.iload_n 1, 1) := by decide +kernel
theorem dX11_tag_62 : decode cX11_tag 62 = .ok (.iadd, 1) := by decide +kernel
theorem dX11_tag_63 : decode cX11_tag 63 = .ok (.iaload, 1) := by decide +kernel
theorem dX11_tag_64 : decode cX11_tag 64 = .ok (.if_icmp .ge 91, 3) := by decide +kernel
theorem dX11_tag_67 : decode cX11_tag 67 = .ok (.aload_n 0, 1) := by decide +kernel
theorem dX11_tag_68 : decode cX11_tag 68 = .ok (.getfield 33, 3) := by decide +kernel
theorem dX11_tag_71 : decode cX11_tag 71 = .ok (.sipush 131, 3) := by decide +kernel
theorem dX11_tag_74 : decode cX11_tag 74 = .ok (.bipush 8, 2) := by decide +kernel
theorem dX11_tag_76 : decode cX11_tag 76 = .ok (.iload_n 1, 1) := by decide +kernel
theorem dX11_tag_77 : decode cX11_tag 77 = .ok (.imul, 1) := by decide +kernel
theorem dX11_tag_78 : decode cX11_tag 78 = .ok (.iadd, 1) := by decide +kernel
theorem dX11_tag_79 : decode cX11_tag 79 = .ok (.iload_n 2, 1) := by decide +kernel
theorem dX11_tag_80 : decode cX11_tag 80 = .ok (.iadd, 1) := by decide +kernel
theorem dX11_tag_81 : decode cX11_tag 81 = .ok (.iaload, 1) := by decide +kernel
theorem dX11_tag_82 : decode cX11_tag 82 = .ok (.istore_n 3, 1) := by decide +kernel
theorem dX11_tag_83 : decode cX11_tag 83 = .ok (.iconst 0, 1) := by decide +kernel
theorem dX11_tag_84 : decode cX11_tag 84 = .ok (.istore 4, 2) := by decide +kernel
theorem dX11_tag_86 : decode cX11_tag 86 = .ok (.iload_n 2, 1) := by decide +kernel
theorem dX11_tag_87 : decode cX11_tag 87 = .ok (.aload_n 0, 1) := by decide +kernel
theorem dX11_tag_88 : decode cX11_tag 88 = .ok (.getfield 33, 3) := by decide +kernel
theorem dX11_tag_91 : decode cX11_tag 91 = .ok (.bipush 125, 2) := by decide +kernel
theorem dX11_tag_93 : decode cX11_tag 93 = .ok (.iload_n 1, 1) := by decide +kernel
theorem dX11_tag_94 : decode cX11_tag 94 = .ok (.iadd, 1) := by decide +kernel
theorem dX11_tag_95 : decode cX11_tag 95 = .ok (.iaload, 1) := by decide +kernel
theorem dX11_tag_96 : decode cX11_tag 96 = .ok (.if_icmp .ge 31, 3) := by decide +kernel
theorem dX11_tag_99 : decode cX11_tag 99 = .ok (.aload_n 0, 1) := by decide +kernel
theorem dX11_tag_100 : decode cX11_tag 100 = .ok (.getfield 33, 3) := by decide +kernel
theorem dX11_tag_103 : decode cX11_tag 103 = .ok (.sipush 131, 3) := by decide +kernel
theorem dX11_tag_106 : decode cX11_tag 106 = .ok (.bipush 8, 2) := by decide +kernel
theorem dX11_tag_108 : decode cX11_tag 108 = .ok (.iload_n 1, 1) := by decide +kernel
theorem dX11_tag_109 : decode cX11_tag 109 = .ok (.imul, 1) := by decide +kernel
theorem dX11_tag_110 : decode cX11_tag 110 = .ok (.iadd, 1) := by decide +kernel
theorem dX11_tag_111 : decode cX11_tag 111 = .ok (.iload_n 2, 1) := by decide +kernel
theorem dX11_tag_112 : decode cX11_tag 112 = .ok (.iadd, 1) := by decide +kernel
theorem dX11_tag_113 : decode cX11_tag 113 = .ok (.iaload, 1) := by decide +kernel
theorem dX11_tag_114 : decode cX11_tag 114 = .ok (.iload_n 3, 1) := by decide +kernel
theorem dX11_tag_115 : decode cX11_tag 115 = .ok (.if_icmp .ne 12, 3) := by decide +kernel
theorem dX11_tag_118 : decode cX11_tag 118 = .ok (.iinc 2 1, 3) := by decide +kernel
theorem dX11_tag_121 : decode cX11_tag 121 = .ok (.iinc 4 1, 3) := by decide +kernel
theorem dX11_tag_124 : decode cX11_tag 124 = .ok (.goto (-38), 3) := by decide +kernel
theorem dX11_tag_127 : decode cX11_tag 127 = .ok (.aload_n 0, 1) := by decide +kernel
theorem dX11_tag_128 : decode cX11_tag 128 = .ok (.aload_n 0, 1) := by decide +kernel
theorem dX11_tag_129 : decode cX11_tag 129 = .ok (.getfield 43, 3) := by decide +kernel
theorem dX11_tag_132 : decode cX11_tag 132 = .ok (.iload_n 3, 1) := by decide +kernel
theorem dX11_tag_133 : decode cX11_tag 133 = .ok (.laload, 1) := by decide +kernel
theorem dX11_tag_134 : decode cX11_tag 134 = .ok (.invokevirtual 390, 3) := by decide +kernel
theorem dX11_tag_137 : decode cX11_tag 137 = .ok (.iload 4, 2) := by decide +kernel
theorem dX11_tag_139 : decode cX11_tag 139 = .ok (.iconst 1, 1) := by decide +kernel
theorem dX11_tag_140 : decode cX11_tag 140 = .ok (.if_icmp .le 12, 3) := by decide +kernel
theorem dX11_tag_143 : decode cX11_tag 143 = .ok (.aload_n 0, 1) := by decide +kernel
theorem dX11_tag_144 : decode cX11_tag 144 = .ok (.bipush 48, 2) := by decide +kernel
theorem dX11_tag_146 : decode cX11_tag 146 = .ok (.iload 4, 2) := by decide +kernel
theorem dX11_tag_148 : decode cX11_tag 148 = .ok (.iadd, 1) := by decide +kernel
theorem dX11_tag_149 : decode cX11_tag 149 = .ok (.invokevirtual 383, 3) := by decide +kernel
theorem dX11_tag_152 : decode cX11_tag 152 = .ok (.goto (-98), 3) := by decide +kernel
theorem dX11_tag_155 : decode cX11_tag 155 = .ok (.aload_n 0, 1) := by decide +kernel
theorem dX11_tag_156 : decode cX11_tag 156 = .ok (.getfield 378, 3) := by decide +kernel
theorem dX11_tag_159 : decode cX11_tag 159 = .ok (.ireturn, 1) := by decide +kernel
theorem dX11_byteAt_0 : decode cX11_byteAt 0 = .ok (.aload_n 0, 1) := by decide +kernel
theorem dX11_byteAt_1 : decode cX11_byteAt 1 = .ok (.iconst 0, 1) := by decide +kernel
theorem dX11_byteAt_2 : decode cX11_byteAt 2 = .ok (.putfield 1, 3) := by decide +kernel
theorem dX11_byteAt_5 : decode cX11_byteAt 5 = .ok (.iload_n 1, 1) := by decide +kernel
theorem dX11_byteAt_6 : decode cX11_byteAt 6 = .ok (.iconst 0, 1) := by decide +kernel
theorem dX11_byteAt_7 : decode cX11_byteAt 7 = .ok (.aload_n 0, 1) := by decide +kernel
theorem dX11_byteAt_8 : decode cX11_byteAt 8 = .ok (.getfield 378, 3) := by decide +kernel
theorem dX11_byteAt_11 : decode cX11_byteAt 11 = .ok (.iconst 1, 1) := by decide +kernel
theorem dX11_byteAt_12 : decode cX11_byteAt 12 = .ok (.isub, 1) := by decide +kernel
theorem dX11_byteAt_13 : decode cX11_byteAt 13 = .ok (.invokestatic 176, 3) := by decide +kernel
theorem dX11_byteAt_16 : decode cX11_byteAt 16 = .ok (.ifCond .eq 12, 3) := by decide +kernel
theorem dX11_byteAt_19 : decode cX11_byteAt 19 = .ok (.aload_n 0, 1) := by decide +kernel
theorem dX11_byteAt_20 : decode cX11_byteAt 20 = .ok (.getfield 66, 3) := by decide +kernel
theorem dX11_byteAt_23 : decode cX11_byteAt 23 = .ok (.iload_n 1, 1) := by decide +kernel
theorem dX11_byteAt_24 : decode cX11_byteAt 24 = .ok (.baload, 1) := by decide +kernel
theorem dX11_byteAt_25 : decode cX11_byteAt 25 = .ok (.goto 4, 3) := by decide +kernel
theorem dX11_byteAt_28 : decode cX11_byteAt 28 = .ok (.iconst (-1), 1) := by decide +kernel
theorem dX11_byteAt_29 : decode cX11_byteAt 29 = .ok (.ireturn, 1) := by decide +kernel
theorem dX11_chance_0 : decode cX11_chance 0 = .ok (.aload_n 0, 1) := by decide +kernel
theorem dX11_chance_1 : decode cX11_chance 1 = .ok (.aload_n 0, 1) := by decide +kernel
theorem dX11_chance_2 : decode cX11_chance 2 = .ok (.getfield 393, 3) := by decide +kernel
theorem dX11_chance_5 : decode cX11_chance 5 = .ok (.ldc_w 396, 3) := by decide +kernel
theorem dX11_chance_8 : decode cX11_chance 8 = .ok (.imul, 1) := by decide +kernel
theorem dX11_chance_9 : decode cX11_chance 9 = .ok (.sipush 12345, 3) := by decide +kernel
theorem dX11_chance_12 : decode cX11_chance 12 = .ok (.iadd, 1) := by decide +kernel
theorem dX11_chance_13 : decode cX11_chance 13 = .ok (.putfield 393, 3) := by decide +kernel
theorem dX11_chance_16 : decode cX11_chance 16 = .ok (.aload_n 0, 1) := by decide +kernel
theorem dX11_chance_17 : decode cX11_chance 17 = .ok (.getfield 393, 3) := by decide +kernel
theorem dX11_chance_20 : decode cX11_chance 20 = .ok (.bipush 8, 2) := by decide +kernel
theorem dX11_chance_22 : decode cX11_chance 22 = .ok (.iushr, 1) := by decide +kernel
theorem dX11_chance_23 : decode cX11_chance 23 = .ok (.iload_n 1, 1) := by decide +kernel
theorem dX11_chance_24 : decode cX11_chance 24 = .ok (.irem, 1) := by decide +kernel
theorem dX11_chance_25 : decode cX11_chance 25 = .ok (.ireturn, 1) := by decide +kernel
theorem dX11_chanceOf_0 : decode cX11_chanceOf 0 = .ok (.aload_n 0, 1) := by decide +kernel
theorem dX11_chanceOf_1 : decode cX11_chanceOf 1 = .ok (.bipush 6, 2) := by decide +kernel
theorem dX11_chanceOf_3 : decode cX11_chanceOf 3 = .ok (.invokevirtual 397, 3) := by decide +kernel
theorem dX11_chanceOf_6 : decode cX11_chanceOf 6 = .ok (.istore_n 2, 1) := by decide +kernel
theorem dX11_chanceOf_7 : decode cX11_chanceOf 7 = .ok (.iload_n 2, 1) := by decide +kernel
theorem dX11_chanceOf_8 : decode cX11_chanceOf 8 = .ok (.iconst 2, 1) := by decide +kernel
theorem dX11_chanceOf_9 : decode cX11_chanceOf 9 = .ok (.if_icmp .ge 40, 3) := by decide +kernel
theorem dX11_chanceOf_12 : decode cX11_chanceOf 12 = .ok (.aload_n 0, 1) := by decide +kernel
theorem dX11_chanceOf_13 : decode cX11_chanceOf 13 = .ok (.getfield 33, 3) := by decide +kernel
theorem dX11_chanceOf_16 : decode cX11_chanceOf 16 = .ok (.iconst 0, 1) := by decide +kernel
theorem dX11_chanceOf_17 : decode cX11_chanceOf 17 = .ok (.iaload, 1) := by decide +kernel
theorem dX11_chanceOf_18 : decode cX11_chanceOf 18 = .ok (.ifCond .le 31, 3) := by decide +kernel
theorem dX11_chanceOf_21 : decode cX11_chanceOf 21 = .ok (.aload_n 0, 1) := by decide +kernel
theorem dX11_chanceOf_22 : decode cX11_chanceOf 22 = .ok (.aload_n 0, 1) := by decide +kernel
theorem dX11_chanceOf_23 : decode cX11_chanceOf 23 = .ok (.getfield 33, 3) := by decide +kernel
theorem dX11_chanceOf_26 : decode cX11_chanceOf 26 = .ok (.iconst 0, 1) := by decide +kernel
theorem dX11_chanceOf_27 : decode cX11_chanceOf 27 = .ok (.iaload, 1) := by decide +kernel
theorem dX11_chanceOf_28 : decode cX11_chanceOf 28 = .ok (.invokevirtual 397, 3) := by decide +kernel
theorem dX11_chanceOf_31 : decode cX11_chanceOf 31 = .ok (.istore_n 3, 1) := by decide +kernel
theorem dX11_chanceOf_32 : decode cX11_chanceOf 32 = .ok (.aload_n 0, 1) := by decide +kernel
theorem dX11_chanceOf_33 : decode cX11_chanceOf 33 = .ok (.iload_n 1, 1) := by decide +kernel
theorem dX11_chanceOf_34 : decode cX11_chanceOf 34 = .ok (.invokevirtual 271, 3) := by decide +kernel
theorem dX11_chanceOf_37 : decode cX11_chanceOf 37 = .ok (.ifCond .ne 9, 3) := by decide +kernel
theorem dX11_chanceOf_40 : decode cX11_chanceOf 40 = .ok (.aload_n 0, 1) := by decide +kernel
theorem dX11_chanceOf_41 : decode cX11_chanceOf 41 = .ok (.iload_n 1, 1) := by decide +kernel
theorem dX11_chanceOf_42 : decode cX11_chanceOf 42 = .ok (.iload_n 3, 1) := by decide +kernel
theorem dX11_chanceOf_43 : decode cX11_chanceOf 43 = .ok (.invokevirtual 299, 3) := by decide +kernel
theorem dX11_chanceOf_46 : decode cX11_chanceOf 46 = .ok (.goto 57, 3) := by decide +kernel
theorem dX11_chanceOf_49 : decode cX11_chanceOf 49 = .ok (.iload_n 2, 1) := by decide +kernel
theorem dX11_chanceOf_50 : decode cX11_chanceOf 50 = .ok (.iconst 2, 1) := by decide +kernel
theorem dX11_chanceOf_51 : decode cX11_chanceOf 51 = .ok (.if_icmp .ne 30, 3) := by decide +kernel
theorem dX11_chanceOf_54 : decode cX11_chanceOf 54 = .ok (.aload_n 0, 1) := by decide +kernel
theorem dX11_chanceOf_55 : decode cX11_chanceOf 55 = .ok (.bipush 20, 2) := by decide +kernel
theorem dX11_chanceOf_57 : decode cX11_chanceOf 57 = .ok (.invokevirtual 397, 3) := by decide +kernel
theorem dX11_chanceOf_60 : decode cX11_chanceOf 60 = .ok (.iconst 1, 1) := by decide +kernel
theorem dX11_chanceOf_61 : decode cX11_chanceOf 61 = .ok (.iadd, 1) := by decide +kernel
theorem dX11_chanceOf_62 : decode cX11_chanceOf 62 = .ok (.istore_n 3, 1) := by decide +kernel
theorem dX11_chanceOf_63 : decode cX11_chanceOf 63 = .ok (.aload_n 0, 1) := by decide +kernel
theorem dX11_chanceOf_64 : decode cX11_chanceOf 64 = .ok (.iload_n 1, 1) := by decide +kernel
theorem dX11_chanceOf_65 : decode cX11_chanceOf 65 = .ok (.iload_n 3, 1) := by decide +kernel
theorem dX11_chanceOf_66 : decode cX11_chanceOf 66 = .ok (.invokevirtual 306, 3) := by decide +kernel
theorem dX11_chanceOf_69 : decode cX11_chanceOf 69 = .ok (.ifCond .ne 9, 3) := by decide +kernel
theorem dX11_chanceOf_72 : decode cX11_chanceOf 72 = .ok (.aload_n 0, 1) := by decide +kernel
theorem dX11_chanceOf_73 : decode cX11_chanceOf 73 = .ok (.iload_n 1, 1) := by decide +kernel
theorem dX11_chanceOf_74 : decode cX11_chanceOf 74 = .ok (.iload_n 3, 1) := by decide +kernel
theorem dX11_chanceOf_75 : decode cX11_chanceOf 75 = .ok (.invokevirtual 312, 3) := by decide +kernel
theorem dX11_chanceOf_78 : decode cX11_chanceOf 78 = .ok (.goto 25, 3) := by decide +kernel
theorem dX11_chanceOf_81 : decode cX11_chanceOf 81 = .ok (.iload_n 2, 1) := by decide +kernel
theorem dX11_chanceOf_82 : decode cX11_chanceOf 82 = .ok (.iconst 3, 1) := by decide +kernel
theorem dX11_chanceOf_83 : decode cX11_chanceOf 83 = .ok (.if_icmp .ne 20, 3) := by decide +kernel
theorem dX11_chanceOf_86 : decode cX11_chanceOf 86 = .ok (.aload_n 0, 1) := by decide +kernel
theorem dX11_chanceOf_87 : decode cX11_chanceOf 87 = .ok (.getfield 33, 3) := by decide +kernel
theorem dX11_chanceOf_90 : decode cX11_chanceOf 90 = .ok (.bipush 125, 2) := by decide +kernel
theorem dX11_chanceOf_92 : decode cX11_chanceOf 92 = .ok (.iload_n 1, 1) := by decide +kernel
theorem dX11_chanceOf_93 : decode cX11_chanceOf 93 = .ok (.iadd, 1) := by decide +kernel
theorem dX11_chanceOf_94 : decode cX11_chanceOf 94 = .ok (.iaload, 1) := by decide +kernel
theorem dX11_chanceOf_95 : decode cX11_chanceOf 95 = .ok (.ifCond .le 8, 3) := by decide +kernel
theorem dX11_chanceOf_98 : decode cX11_chanceOf 98 = .ok (.aload_n 0, 1) := by decide +kernel
theorem dX11_chanceOf_99 : decode cX11_chanceOf 99 = .ok (.iload_n 1, 1) := by decide +kernel
theorem dX11_chanceOf_100 : decode cX11_chanceOf 100 = .ok (.invokevirtual 315, 3) := by decide +kernel
theorem dX11_chanceOf_103 : decode cX11_chanceOf 103 = .ok (.return_, 1) := by decide +kernel
theorem dX11_chances_0 : decode cX11_chances 0 = .ok (.aload_n 0, 1) := by decide +kernel
theorem dX11_chances_1 : decode cX11_chances 1 = .ok (.iload_n 2, 1) := by decide +kernel
theorem dX11_chances_2 : decode cX11_chances 2 = .ok (.putfield 393, 3) := by decide +kernel
theorem dX11_chances_5 : decode cX11_chances 5 = .ok (.iconst 0, 1) := by decide +kernel
theorem dX11_chances_6 : decode cX11_chances 6 = .ok (.istore_n 3, 1) := by decide +kernel
theorem dX11_chances_7 : decode cX11_chances 7 = .ok (.iload_n 3, 1) := by decide +kernel
theorem dX11_chances_8 : decode cX11_chances 8 = .ok (.iload_n 1, 1) := by decide +kernel
theorem dX11_chances_9 : decode cX11_chances 9 = .ok (.if_icmp .ge 52, 3) := by decide +kernel
theorem dX11_chances_12 : decode cX11_chances 12 = .ok (.aload_n 0, 1) := by decide +kernel
theorem dX11_chances_13 : decode cX11_chances 13 = .ok (.getfield 33, 3) := by decide +kernel
theorem dX11_chances_16 : decode cX11_chances 16 = .ok (.bipush 121, 2) := by decide +kernel
theorem dX11_chances_18 : decode cX11_chances 18 = .ok (.iaload, 1) := by decide +kernel
theorem dX11_chances_19 : decode cX11_chances 19 = .ok (.sipush 400, 3) := by decide +kernel
theorem dX11_chances_22 : decode cX11_chances 22 = .ok (.if_icmp .ge 39, 3) := by decide +kernel
theorem dX11_chances_25 : decode cX11_chances 25 = .ok (.iconst 0, 1) := by decide +kernel
theorem dX11_chances_26 : decode cX11_chances 26 = .ok (.istore 4, 2) := by decide +kernel
theorem dX11_chances_28 : decode cX11_chances 28 = .ok (.iload 4, 2) := by decide +kernel
theorem dX11_chances_30 : decode cX11_chances 30 = .ok (.aload_n 0, 1) := by decide +kernel
theorem dX11_chances_31 : decode cX11_chances 31 = .ok (.getfield 33, 3) := by decide +kernel
theorem dX11_chances_34 : decode cX11_chances 34 = .ok (.iconst 1, 1) := by decide +kernel
theorem dX11_chances_35 : decode cX11_chances 35 = .ok (.iaload, 1) := by decide +kernel
theorem dX11_chances_36 : decode cX11_chances 36 = .ok (.if_icmp .ge 15, 3) := by decide +kernel
theorem dX11_chances_39 : decode cX11_chances 39 = .ok (.aload_n 0, 1) := by decide +kernel
theorem dX11_chances_40 : decode cX11_chances 40 = .ok (.iload 4, 2) := by decide +kernel
theorem dX11_chances_42 : decode cX11_chances 42 = .ok (.invokevirtual 400, 3) := by decide +kernel
theorem dX11_chances_45 : decode cX11_chances 45 = .ok (.iinc 4 1, 3) := by decide +kernel
theorem dX11_chances_48 : decode cX11_chances 48 = .ok (.goto (-20), 3) := by decide +kernel
theorem dX11_chances_51 : decode cX11_chances 51 = .ok (.aload_n 0, 1) := by decide +kernel
theorem dX11_chances_52 : decode cX11_chances 52 = .ok (.invokevirtual 303, 3) := by decide +kernel
theorem dX11_chances_55 : decode cX11_chances 55 = .ok (.iinc 3 1, 3) := by decide +kernel
theorem dX11_chances_58 : decode cX11_chances 58 = .ok (.goto (-51), 3) := by decide +kernel
theorem dX11_chances_61 : decode cX11_chances 61 = .ok (.iload_n 3, 1) := by decide +kernel
theorem dX11_chances_62 : decode cX11_chances 62 = .ok (.ireturn, 1) := by decide +kernel
theorem dX11_drawn_0 : decode cX11_drawn 0 = .ok (.aload_n 0, 1) := by decide +kernel
theorem dX11_drawn_1 : decode cX11_drawn 1 = .ok (.iconst 0, 1) := by decide +kernel
theorem dX11_drawn_2 : decode cX11_drawn 2 = .ok (.putfield 1, 3) := by decide +kernel
theorem dX11_drawn_5 : decode cX11_drawn 5 = .ok (.iload_n 1, 1) := by decide +kernel
theorem dX11_drawn_6 : decode cX11_drawn 6 = .ok (.iconst 1, 1) := by decide +kernel
theorem dX11_drawn_7 : decode cX11_drawn 7 = .ok (.bipush 60, 2) := by decide +kernel
theorem dX11_drawn_9 : decode cX11_drawn 9 = .ok (.invokestatic 176, 3) := by decide +kernel
theorem dX11_drawn_12 : decode cX11_drawn 12 = .ok (.ifCond .ne 5, 3) := by decide +kernel
theorem dX11_drawn_15 : decode cX11_drawn 15 = .ok (.iconst (-1), 1) := by decide +kernel
theorem dX11_drawn_16 : decode cX11_drawn 16 = .ok (.ireturn, 1) := by decide +kernel
theorem dX11_drawn_17 : decode cX11_drawn 17 = .ok (.aload_n 0, 1) := by decide +kernel
theorem dX11_drawn_18 : decode cX11_drawn 18 = .ok (.getfield 33, 3) := by decide +kernel
theorem dX11_drawn_21 : decode cX11_drawn 21 = .ok (.bipush 121, 2) := by decide +kernel
theorem dX11_drawn_23 : decode cX11_drawn 23 = .ok (.iaload, 1) := by decide +kernel
theorem dX11_drawn_24 : decode cX11_drawn 24 = .ok (.sipush 400, 3) := by decide +kernel
theorem dX11_drawn_27 : decode cX11_drawn 27 = .ok (.if_icmp .ge 7, 3) := by decide +kernel
theorem dX11_drawn_30 : decode cX11_drawn 30 = .ok (.aload_n 0, 1) := by decide +kernel
theorem dX11_drawn_31 : decode cX11_drawn 31 = .ok (.invokevirtual 309, 3) := by decide +kernel
theorem dX11_drawn_34 : decode cX11_drawn 34 = .ok (.aload_n 0, 1) := by decide +kernel
theorem dX11_drawn_35 : decode cX11_drawn 35 = .ok (.iload_n 1, 1) := by decide +kernel
theorem dX11_drawn_36 : decode cX11_drawn 36 = .ok (.iload_n 2, 1) := by decide +kernel
theorem dX11_drawn_37 : decode cX11_drawn 37 = .ok (.invokevirtual 403, 3) := by decide +kernel
theorem dX11_drawn_40 : decode cX11_drawn 40 = .ok (.ireturn, 1) := by decide +kernel
theorem dX11_odds_0 : decode cX11_odds 0 = .ok (.aload_n 0, 1) := by decide +kernel
theorem dX11_odds_1 : decode cX11_odds 1 = .ok (.iconst 0, 1) := by decide +kernel
theorem dX11_odds_2 : decode cX11_odds 2 = .ok (.putfield 1, 3) := by decide +kernel
theorem dX11_odds_5 : decode cX11_odds 5 = .ok (.aload_n 0, 1) := by decide +kernel
theorem dX11_odds_6 : decode cX11_odds 6 = .ok (.iload_n 1, 1) := by decide +kernel
theorem dX11_odds_7 : decode cX11_odds 7 = .ok (.invokevirtual 254, 3) := by decide +kernel
theorem dX11_odds_10 : decode cX11_odds 10 = .ok (.ifCond .eq 13, 3) := by decide +kernel
theorem dX11_odds_13 : decode cX11_odds 13 = .ok (.iload_n 2, 1) := by decide +kernel
theorem dX11_odds_14 : decode cX11_odds 14 = .ok (.iconst 1, 1) := by decide +kernel
theorem dX11_odds_15 : decode cX11_odds 15 = .ok (.bipush 30, 2) := by decide +kernel
theorem dX11_odds_17 : decode cX11_odds 17 = .ok (.invokestatic 176, 3) := by decide +kernel
theorem dX11_odds_20 : decode cX11_odds 20 = .ok (.ifCond .ne 5, 3) := by decide +kernel
theorem dX11_odds_23 : decode cX11_odds 23 = .ok (.iconst (-1), 1) := by decide +kernel
theorem dX11_odds_24 : decode cX11_odds 24 = .ok (.ireturn, 1) := by decide +kernel
theorem dX11_odds_25 : decode cX11_odds 25 = .ok (.aload_n 0, 1) := by decide +kernel
theorem dX11_odds_26 : decode cX11_odds 26 = .ok (.invokevirtual 327, 3) := by decide +kernel
theorem dX11_odds_29 : decode cX11_odds 29 = .ok (.iconst 0, 1) := by decide +kernel
theorem dX11_odds_30 : decode cX11_odds 30 = .ok (.istore 4, 2) := by decide +kernel
theorem dX11_odds_32 : decode cX11_odds 32 = .ok (.iconst 0, 1) := by decide +kernel
theorem dX11_odds_33 : decode cX11_odds 33 = .ok (.istore 5, 2) := by decide +kernel
theorem dX11_odds_35 : decode cX11_odds 35 = .ok (.iload 5, 2) := by decide +kernel
theorem dX11_odds_37 : decode cX11_odds 37 = .ok (.iload_n 2, 1) := by decide +kernel
theorem dX11_odds_38 : decode cX11_odds 38 = .ok (.if_icmp .ge 42, 3) := by decide +kernel
theorem dX11_odds_41 : decode cX11_odds 41 = .ok (.aload_n 0, 1) := by decide +kernel
theorem dX11_odds_42 : decode cX11_odds 42 = .ok (.bipush 10, 2) := by decide +kernel
theorem dX11_odds_44 : decode cX11_odds 44 = .ok (.iload_n 3, 1) := by decide +kernel
theorem dX11_odds_45 : decode cX11_odds 45 = .ok (.iload 5, 2) := by decide +kernel
theorem dX11_odds_47 : decode cX11_odds 47 = .ok (.iadd, 1) := by decide +kernel
theorem dX11_odds_48 : decode cX11_odds 48 = .ok (.invokevirtual 403, 3) := by decide +kernel
theorem dX11_odds_51 : decode cX11_odds 51 = .ok (.pop, 1) := by decide +kernel
theorem dX11_odds_52 : decode cX11_odds 52 = .ok (.iload 4, 2) := by decide +kernel
theorem dX11_odds_54 : decode cX11_odds 54 = .ok (.aload_n 0, 1) := by decide +kernel
theorem dX11_odds_55 : decode cX11_odds 55 = .ok (.iload_n 1, 1) := by decide +kernel
theorem dX11_odds_56 : decode cX11_odds 56 = .ok (.invokevirtual 271, 3) := by decide +kernel
theorem dX11_odds_59 : decode cX11_odds 59 = .ok (.ifCond .eq 7, 3) := by decide +kernel
theorem dX11_odds_62 : decode cX11_odds 62 = .ok (.iconst 1, 1) := by decide +kernel
theorem dX11_odds_63 : decode cX11_odds 63 = .ok (.goto 4, 3) := by decide +kernel
theorem dX11_odds_66 : decode cX11_odds 66 = .ok (.iconst 0, 1) := by decide +kernel
theorem dX11_odds_67 : decode cX11_odds 67 = .ok (.iadd, 1) := by decide +kernel
theorem dX11_odds_68 : decode cX11_odds 68 = .ok (.istore 4, 2) := by decide +kernel
theorem dX11_odds_70 : decode cX11_odds 70 = .ok (.aload_n 0, 1) := by decide +kernel
theorem dX11_odds_71 : decode cX11_odds 71 = .ok (.invokevirtual 330, 3) := by decide +kernel
theorem dX11_odds_74 : decode cX11_odds 74 = .ok (.iinc 5 1, 3) := by decide +kernel
theorem dX11_odds_77 : decode cX11_odds 77 = .ok (.goto (-42), 3) := by decide +kernel
theorem dX11_odds_80 : decode cX11_odds 80 = .ok (.iload 4, 2) := by decide +kernel
theorem dX11_odds_82 : decode cX11_odds 82 = .ok (.ireturn, 1) := by decide +kernel
theorem dX11_bookLine_0 : decode cX11_bookLine 0 = .ok (.iconst 3, 1) := by decide +kernel
theorem dX11_bookLine_1 : decode cX11_bookLine 1 = .ok (.aload_n 0, 1) := by decide +kernel
theorem dX11_bookLine_2 : decode cX11_bookLine 2 = .ok (.getfield 406, 3) := by decide +kernel
theorem dX11_bookLine_5 : decode cX11_bookLine 5 = .ok (.imul, 1) := by decide +kernel
theorem dX11_bookLine_6 : decode cX11_bookLine 6 = .ok (.istore_n 1, 1) := by decide +kernel
theorem dX11_bookLine_7 : decode cX11_bookLine 7 = .ok (.aload_n 0, 1) := by decide +kernel
theorem dX11_bookLine_8 : decode cX11_bookLine 8 = .ok (.ldc2_w 107, 3) := by decide +kernel
theorem dX11_bookLine_11 : decode cX11_bookLine 11 = .ok (.invokevirtual 198, 3) := by decide +kernel
theorem dX11_bookLine_14 : decode cX11_bookLine 14 = .ok (.istore_n 2, 1) := by decide +kernel
theorem dX11_bookLine_15 : decode cX11_bookLine 15 = .ok (.aload_n 0, 1) := by decide +kernel
theorem dX11_bookLine_16 : decode cX11_bookLine 16 = .ok (.ldc2_w 105, 3) := by decide +kernel
theorem dX11_bookLine_19 : decode cX11_bookLine 19 = .ok (.invokevirtual 198, 3) := by decide +kernel
theorem dX11_bookLine_22 : decode cX11_bookLine 22 = .ok (.istore_n 3, 1) := by decide +kernel
theorem dX11_bookLine_23 : decode cX11_bookLine 23 = .ok (.iload_n 2, 1) := by decide +kernel
theorem dX11_bookLine_24 : decode cX11_bookLine 24 = .ok (.ifCond .ne 24, 3) := by decide +kernel
theorem dX11_bookLine_27 : decode cX11_bookLine 27 = .ok (.iload_n 3, 1) := by decide +kernel
theorem dX11_bookLine_28 : decode cX11_bookLine 28 = .ok (.ifCond .ne 20, 3) := by decide +kernel
theorem dX11_bookLine_31 : decode cX11_bookLine 31 = .ok (.aload_n 0, 1) := by decide +kernel
theorem dX11_bookLine_32 : decode cX11_bookLine 32 = .ok (.bipush 8, 2) := by decide +kernel
theorem dX11_bookLine_34 : decode cX11_bookLine 34 = .ok (.aload_n 0, 1) := by decide +kernel
theorem dX11_bookLine_35 : decode cX11_bookLine 35 = .ok (.getfield 33, 3) := by decide +kernel
theorem dX11_bookLine_38 : decode cX11_bookLine 38 = .ok (.iconst 1, 1) := by decide +kernel
theorem dX11_bookLine_39 : decode cX11_bookLine 39 = .ok (.iaload, 1) := by decide +kernel
theorem dX11_bookLine_40 : decode cX11_bookLine 40 = .ok (.invokevirtual 195, 3) := by decide +kernel
theorem dX11_bookLine_43 : decode cX11_bookLine 43 = .ok (.ifCond .ne 5, 3) := by decide +kernel
theorem dX11_bookLine_46 : decode cX11_bookLine 46 = .ok (.iconst 0, 1) := by decide +kernel
theorem dX11_bookLine_47 : decode cX11_bookLine 47 = .ok (.ireturn, 1) := by decide +kernel
theorem dX11_bookLine_48 : decode cX11_bookLine 48 = .ok (.aload_n 0, 1) := by decide +kernel
theorem dX11_bookLine_49 : decode cX11_bookLine 49 = .ok (.getfield 406, 3) := by decide +kernel
theorem dX11_bookLine_52 : decode cX11_bookLine 52 = .ok (.bipush 40, 2) := by decide +kernel
theorem dX11_bookLine_54 : decode cX11_bookLine 54 = .ok (.if_icmp .ne 9, 3) := by decide +kernel
theorem dX11_bookLine_57 : decode cX11_bookLine 57 = .ok (.aload_n 0, 1) := by decide +kernel
theorem dX11_bookLine_58 : decode cX11_bookLine 58 = .ok (.iconst 4, 1) := by decide +kernel
theorem dX11_bookLine_59 : decode cX11_bookLine 59 = .ok (.invokevirtual 170, 3) := by decide +kernel
theorem dX11_bookLine_62 : decode cX11_bookLine 62 = .ok (.ireturn, 1) := by decide +kernel
theorem dX11_bookLine_63 : decode cX11_bookLine 63 = .ok (.aload_n 0, 1) := by decide +kernel
theorem dX11_bookLine_64 : decode cX11_bookLine 64 = .ok (.getfield 180, 3) := by decide +kernel
theorem dX11_bookLine_67 : decode cX11_bookLine 67 = .ok (.istore 4, 2) := by decide +kernel
theorem dX11_bookLine_69 : decode cX11_bookLine 69 = .ok (.aload_n 0, 1) := by decide +kernel
theorem dX11_bookLine_70 : decode cX11_bookLine 70 = .ok (.invokevirtual 173, 3) := by decide +kernel
theorem dX11_bookLine_73 : decode cX11_bookLine 73 = .ok (.iload_n 2, 1) := by decide +kernel
theorem dX11_bookLine_74 : decode cX11_bookLine 74 = .ok (.ifCond .eq 36, 3) := by decide +kernel
theorem dX11_bookLine_77 : decode cX11_bookLine 77 = .ok (.aload_n 0, 1) := by decide +kernel
theorem dX11_bookLine_78 : decode cX11_bookLine 78 = .ok (.getfield 40, 3) := by decide +kernel
theorem dX11_bookLine_81 : decode cX11_bookLine 81 = .ok (.iload_n 1, 1) := by decide +kernel
theorem dX11_bookLine_82 : decode cX11_bookLine 82 = .ok (.iconst 4, 1) := by decide +kernel
theorem dX11_bookLine_83 : decode cX11_bookLine 83 = .ok (.iastore, 1) := by decide +kernel
theorem dX11_bookLine_84 : decode cX11_bookLine 84 = .ok (.aload_n 0, 1) := by decide +kernel
theorem dX11_bookLine_85 : decode cX11_bookLine 85 = .ok (.iconst 1, 1) := by decide +kernel
theorem dX11_bookLine_86 : decode cX11_bookLine 86 = .ok (.bipush 60, 2) := by decide +kernel
theorem dX11_bookLine_88 : decode cX11_bookLine 88 = .ok (.invokevirtual 183, 3) := by decide +kernel
theorem dX11_bookLine_91 : decode cX11_bookLine 91 = .ok (.ifCond .ne 5, 3) := by decide +kernel
theorem dX11_bookLine_94 : decode cX11_bookLine 94 = .ok (.iconst 0, 1) := by decide +kernel
theorem dX11_bookLine_95 : decode cX11_bookLine 95 = .ok (.ireturn, 1) := by decide +kernel
theorem dX11_bookLine_96 : decode cX11_bookLine 96 = .ok (.aload_n 0, 1) := by decide +kernel
theorem dX11_bookLine_97 : decode cX11_bookLine 97 = .ok (.getfield 40, 3) := by decide +kernel
theorem dX11_bookLine_100 : decode cX11_bookLine 100 = .ok (.iload_n 1, 1) := by decide +kernel
theorem dX11_bookLine_101 : decode cX11_bookLine 101 = .ok (.iconst 1, 1) := by decide +kernel
theorem dX11_bookLine_102 : decode cX11_bookLine 102 = .ok (.iadd, 1) := by decide +kernel
theorem dX11_bookLine_103 : decode cX11_bookLine 103 = .ok (.aload_n 0, 1) := by decide +kernel
theorem dX11_bookLine_104 : decode cX11_bookLine 104 = .ok (.getfield 180, 3) := by decide +kernel
theorem dX11_bookLine_107 : decode cX11_bookLine 107 = .ok (.iastore, 1) := by decide +kernel
theorem dX11_bookLine_108 : decode cX11_bookLine 108 = .ok (.iconst 1, 1) := by decide +kernel
theorem dX11_bookLine_109 : decode cX11_bookLine 109 = .ok (.ireturn, 1) := by decide +kernel
theorem dX11_bookLine_110 : decode cX11_bookLine 110 = .ok (.iload_n 3, 1) := by decide +kernel
theorem dX11_bookLine_111 : decode cX11_bookLine 111 = .ok (.ifCond .eq 69, 3) := by decide +kernel
theorem dX11_bookLine_114 : decode cX11_bookLine 114 = .ok (.aload_n 0, 1) := by decide +kernel
theorem dX11_bookLine_115 : decode cX11_bookLine 115 = .ok (.getfield 40, 3) := by decide +kernel
theorem dX11_bookLine_118 : decode cX11_bookLine 118 = .ok (.iload_n 1, 1) := by decide +kernel
theorem dX11_bookLine_119 : decode cX11_bookLine 119 = .ok (.iconst 3, 1) := by decide +kernel
theorem dX11_bookLine_120 : decode cX11_bookLine 120 = .ok (.iastore, 1) := by decide +kernel
theorem dX11_bookLine_121 : decode cX11_bookLine 121 = .ok (.aload_n 0, 1) := by decide +kernel
theorem dX11_bookLine_122 : decode cX11_bookLine 122 = .ok (.bipush 14, 2) := by decide +kernel
theorem dX11_bookLine_124 : decode cX11_bookLine 124 = .ok (.aload_n 0, 1) := by decide +kernel
theorem dX11_bookLine_125 : decode cX11_bookLine 125 = .ok (.getfield 33, 3) := by decide +kernel
theorem dX11_bookLine_128 : decode cX11_bookLine 128 = .ok (.iconst 3, 1) := by decide +kernel
theorem dX11_bookLine_129 : decode cX11_bookLine 129 = .ok (.iaload, 1) := by decide +kernel
theorem dX11_bookLine_130 : decode cX11_bookLine 130 = .ok (.invokevirtual 227, 3) := by decide +kernel
theorem dX11_bookLine_133 : decode cX11_bookLine 133 = .ok (.ifCond .ne 5, 3) := by decide +kernel
theorem dX11_bookLine_136 : decode cX11_bookLine 136 = .ok (.iconst 0, 1) := by decide +kernel
theorem dX11_bookLine_137 : decode cX11_bookLine 137 = .ok (.ireturn, 1) := by decide +kernel
theorem dX11_bookLine_138 : decode cX11_bookLine 138 = .ok (.aload_n 0, 1) := by decide +kernel
theorem dX11_bookLine_139 : decode cX11_bookLine 139 = .ok (.getfield 40, 3) := by decide +kernel
theorem dX11_bookLine_142 : decode cX11_bookLine 142 = .ok (.iload_n 1, 1) := by decide +kernel
theorem dX11_bookLine_143 : decode cX11_bookLine 143 = .ok (.iconst 1, 1) := by decide +kernel
theorem dX11_bookLine_144 : decode cX11_bookLine 144 = .ok (.iadd, 1) := by decide +kernel
theorem dX11_bookLine_145 : decode cX11_bookLine 145 = .ok (.aload_n 0, 1) := by decide +kernel
theorem dX11_bookLine_146 : decode cX11_bookLine 146 = .ok (.getfield 180, 3) := by decide +kernel
theorem dX11_bookLine_149 : decode cX11_bookLine 149 = .ok (.iastore, 1) := by decide +kernel
theorem dX11_bookLine_150 : decode cX11_bookLine 150 = .ok (.aload_n 0, 1) := by decide +kernel
theorem dX11_bookLine_151 : decode cX11_bookLine 151 = .ok (.iconst 0, 1) := by decide +kernel
theorem dX11_bookLine_152 : decode cX11_bookLine 152 = .ok (.aload_n 0, 1) := by decide +kernel
theorem dX11_bookLine_153 : decode cX11_bookLine 153 = .ok (.getfield 33, 3) := by decide +kernel
theorem dX11_bookLine_156 : decode cX11_bookLine 156 = .ok (.iconst 0, 1) := by decide +kernel
theorem dX11_bookLine_157 : decode cX11_bookLine 157 = .ok (.iaload, 1) := by decide +kernel
theorem dX11_bookLine_158 : decode cX11_bookLine 158 = .ok (.invokevirtual 227, 3) := by decide +kernel
theorem dX11_bookLine_161 : decode cX11_bookLine 161 = .ok (.ifCond .ne 5, 3) := by decide +kernel
theorem dX11_bookLine_164 : decode cX11_bookLine 164 = .ok (.iconst 0, 1) := by decide +kernel
theorem dX11_bookLine_165 : decode cX11_bookLine 165 = .ok (.ireturn, 1) := by decide +kernel
theorem dX11_bookLine_166 : decode cX11_bookLine 166 = .ok (.aload_n 0, 1) := by decide +kernel
theorem dX11_bookLine_167 : decode cX11_bookLine 167 = .ok (.getfield 40, 3) := by decide +kernel
theorem dX11_bookLine_170 : decode cX11_bookLine 170 = .ok (.iload_n 1, 1) := by decide +kernel
theorem dX11_bookLine_171 : decode cX11_bookLine 171 = .ok (.iconst 2, 1) := by decide +kernel
theorem dX11_bookLine_172 : decode cX11_bookLine 172 = .ok (.iadd, 1) := by decide +kernel
theorem dX11_bookLine_173 : decode cX11_bookLine 173 = .ok (.aload_n 0, 1) := by decide +kernel
theorem dX11_bookLine_174 : decode cX11_bookLine 174 = .ok (.getfield 180, 3) := by decide +kernel
theorem dX11_bookLine_177 : decode cX11_bookLine 177 = .ok (.iastore, 1) := by decide +kernel
theorem dX11_bookLine_178 : decode cX11_bookLine 178 = .ok (.iconst 1, 1) := by decide +kernel
theorem dX11_bookLine_179 : decode cX11_bookLine 179 = .ok (.ireturn, 1) := by decide +kernel
theorem dX11_bookLine_180 : decode cX11_bookLine 180 = .ok (.aload_n 0, 1) := by decide +kernel
theorem dX11_bookLine_181 : decode cX11_bookLine 181 = .ok (.ldc2_w 99, 3) := by decide +kernel
theorem dX11_bookLine_184 : decode cX11_bookLine 184 = .ok (.invokevirtual 198, 3) := by decide +kernel
theorem dX11_bookLine_187 : decode cX11_bookLine 187 = .ok (.ifCond .eq 7, 3) := by decide +kernel
theorem dX11_bookLine_190 : decode cX11_bookLine 190 = .ok (.iconst 0, 1) := by decide +kernel
theorem dX11_bookLine_191 : decode cX11_bookLine 191 = .ok (.goto 32, 3) := by decide +kernel
theorem dX11_bookLine_194 : decode cX11_bookLine 194 = .ok (.aload_n 0, 1) := by decide +kernel
theorem dX11_bookLine_195 : decode cX11_bookLine 195 = .ok (.ldc2_w 101, 3) := by decide +kernel
theorem dX11_bookLine_198 : decode cX11_bookLine 198 = .ok (.invokevirtual 198, 3) := by decide +kernel
theorem dX11_bookLine_201 : decode cX11_bookLine 201 = .ok (.ifCond .eq 7, 3) := by decide +kernel
theorem dX11_bookLine_204 : decode cX11_bookLine 204 = .ok (.iconst 1, 1) := by decide +kernel
theorem dX11_bookLine_205 : decode cX11_bookLine 205 = .ok (.goto 18, 3) := by decide +kernel
theorem dX11_bookLine_208 : decode cX11_bookLine 208 = .ok (.aload_n 0, 1) := by decide +kernel
theorem dX11_bookLine_209 : decode cX11_bookLine 209 = .ok (.ldc2_w 103, 3) := by decide +kernel
theorem dX11_bookLine_212 : decode cX11_bookLine 212 = .ok (.invokevirtual 198, 3) := by decide +kernel
theorem dX11_bookLine_215 : decode cX11_bookLine 215 = .ok (.ifCond .eq 7, 3) := by decide +kernel
theorem dX11_bookLine_218 : decode cX11_bookLine 218 = .ok (.iconst 2, 1) := by decide +kernel
theorem dX11_bookLine_219 : decode cX11_bookLine 219 = .ok (.goto 4, 3) := by decide +kernel
theorem dX11_bookLine_222 : decode cX11_bookLine 222 = .ok (.iconst (-1), 1) := by decide +kernel
theorem dX11_bookLine_223 : decode cX11_bookLine 223 = .ok (.istore 5, 2) := by decide +kernel
theorem dX11_bookLine_225 : decode cX11_bookLine 225 = .ok (.iload 5, 2) := by decide +kernel
theorem dX11_bookLine_227 : decode cX11_bookLine 227 = .ok (.ifCond .ge 9, 3) := by decide +kernel
theorem dX11_bookLine_230 : decode cX11_bookLine 230 = .ok (.aload_n 0, 1) := by decide +kernel
theorem dX11_bookLine_231 : decode cX11_bookLine 231 = .ok (.iconst 1, 1) := by decide +kernel
theorem dX11_bookLine_232 : decode cX11_bookLine 232 = .ok (.invokevirtual 170, 3) := by decide +kernel
theorem dX11_bookLine_235 : decode cX11_bookLine 235 = .ok (.ireturn, 1) := by decide +kernel
theorem dX11_bookLine_236 : decode cX11_bookLine 236 = .ok (.aload_n 0, 1) := by decide +kernel
theorem dX11_bookLine_237 : decode cX11_bookLine 237 = .ok (.invokevirtual 173, 3) := by decide +kernel
theorem dX11_bookLine_240 : decode cX11_bookLine 240 = .ok (.aload_n 0, 1) := by decide +kernel
theorem dX11_bookLine_241 : decode cX11_bookLine 241 = .ok (.getfield 40, 3) := by decide +kernel
theorem dX11_bookLine_244 : decode cX11_bookLine 244 = .ok (.iload_n 1, 1) := by decide +kernel
theorem dX11_bookLine_245 : decode cX11_bookLine 245 = .ok (.iload 5, 2) := by decide +kernel
theorem dX11_bookLine_247 : decode cX11_bookLine 247 = .ok (.iastore, 1) := by decide +kernel
theorem dX11_bookLine_248 : decode cX11_bookLine 248 = .ok (.aload_n 0, 1) := by decide +kernel
theorem dX11_bookLine_249 : decode cX11_bookLine 249 = .ok (.getfield 40, 3) := by decide +kernel
theorem dX11_bookLine_252 : decode cX11_bookLine 252 = .ok (.iload_n 1, 1) := by decide +kernel
theorem dX11_bookLine_253 : decode cX11_bookLine 253 = .ok (.iconst 1, 1) := by decide +kernel
theorem dX11_bookLine_254 : decode cX11_bookLine 254 = .ok (.iadd, 1) := by decide +kernel
theorem dX11_bookLine_255 : decode cX11_bookLine 255 = .ok (.iload 4, 2) := by decide +kernel
theorem dX11_bookLine_257 : decode cX11_bookLine 257 = .ok (.iastore, 1) := by decide +kernel
theorem dX11_bookLine_258 : decode cX11_bookLine 258 = .ok (.iload 5, 2) := by decide +kernel
theorem dX11_bookLine_260 : decode cX11_bookLine 260 = .ok (.iconst 1, 1) := by decide +kernel
theorem dX11_bookLine_261 : decode cX11_bookLine 261 = .ok (.if_icmp .ne 5, 3) := by decide +kernel
theorem dX11_bookLine_264 : decode cX11_bookLine 264 = .ok (.iconst 1, 1) := by decide +kernel
theorem dX11_bookLine_265 : decode cX11_bookLine 265 = .ok (.ireturn, 1) := by decide +kernel
theorem dX11_bookLine_266 : decode cX11_bookLine 266 = .ok (.iload 5, 2) := by decide +kernel
theorem dX11_bookLine_268 : decode cX11_bookLine 268 = .ok (.ifCond .ne 13, 3) := by decide +kernel
theorem dX11_bookLine_271 : decode cX11_bookLine 271 = .ok (.aload_n 0, 1) := by decide +kernel
theorem dX11_bookLine_272 : decode cX11_bookLine 272 = .ok (.iconst 1, 1) := by decide +kernel
theorem dX11_bookLine_273 : decode cX11_bookLine 273 = .ok (.bipush 20, 2) := by decide +kernel
theorem dX11_bookLine_275 : decode cX11_bookLine 275 = .ok (.invokevirtual 183, 3) := by decide +kernel
theorem dX11_bookLine_278 : decode cX11_bookLine 278 = .ok (.goto 14, 3) := by decide +kernel
theorem dX11_bookLine_281 : decode cX11_bookLine 281 = .ok (.aload_n 0, 1) := by decide +kernel
theorem dX11_bookLine_282 : decode cX11_bookLine 282 = .ok (.iconst 0, 1) := by decide +kernel
theorem dX11_bookLine_283 : decode cX11_bookLine 283 = .ok (.aload_n 0, 1) := by decide +kernel
theorem dX11_bookLine_284 : decode cX11_bookLine 284 = .ok (.getfield 33, 3) := by decide +kernel
theorem dX11_bookLine_287 : decode cX11_bookLine 287 = .ok (.iconst 0, 1) := by decide +kernel
theorem dX11_bookLine_288 : decode cX11_bookLine 288 = .ok (.iaload, 1) := by decide +kernel
theorem dX11_bookLine_289 : decode cX11_bookLine 289 = .ok (.invokevirtual 227, 3) := by decide +kernel
theorem dX11_bookLine_292 : decode cX11_bookLine 292 = .ok (.istore 6, 2) := by decide +kernel
theorem dX11_bookLine_294 : decode cX11_bookLine 294 = .ok (.aload_n 0, 1) := by decide +kernel
theorem dX11_bookLine_295 : decode cX11_bookLine 295 = .ok (.getfield 40, 3) := by decide +kernel
theorem dX11_bookLine_298 : decode cX11_bookLine 298 = .ok (.iload_n 1, 1) := by decide +kernel
theorem dX11_bookLine_299 : decode cX11_bookLine 299 = .ok (.iconst 2, 1) := by decide +kernel
theorem dX11_bookLine_300 : decode cX11_bookLine 300 = .ok (.iadd, 1) := by decide +kernel
theorem dX11_bookLine_301 : decode cX11_bookLine 301 = .ok (.aload_n 0, 1) := by decide +kernel
theorem dX11_bookLine_302 : decode cX11_bookLine 302 = .ok (.getfield 180, 3) := by decide +kernel
theorem dX11_bookLine_305 : decode cX11_bookLine 305 = .ok (.iastore, 1) := by decide +kernel
theorem dX11_bookLine_306 : decode cX11_bookLine 306 = .ok (.iload 6, 2) := by decide +kernel
theorem dX11_bookLine_308 : decode cX11_bookLine 308 = .ok (.ireturn, 1) := by decide +kernel
theorem dX11_does_0 : decode cX11_does 0 = .ok (.iconst 0, 1) := by decide +kernel
theorem dX11_does_1 : decode cX11_does 1 = .ok (.istore 4, 2) := by decide +kernel
theorem dX11_does_3 : decode cX11_does 3 = .ok (.iload_n 1, 1) := by decide +kernel
theorem dX11_does_4 : decode cX11_does 4 = .ok (.tableswitch 149 0 3 #[32, 54, 86, 115], 32) := by decide +kernel
theorem dX11_does_36 : decode cX11_does 36 = .ok (.aload_n 0, 1) := by decide +kernel
theorem dX11_does_37 : decode cX11_does 37 = .ok (.iload_n 2, 1) := by decide +kernel
theorem dX11_does_38 : decode cX11_does 38 = .ok (.iload_n 3, 1) := by decide +kernel
theorem dX11_does_39 : decode cX11_does 39 = .ok (.invokevirtual 306, 3) := by decide +kernel
theorem dX11_does_42 : decode cX11_does 42 = .ok (.istore 4, 2) := by decide +kernel
theorem dX11_does_44 : decode cX11_does 44 = .ok (.iload 4, 2) := by decide +kernel
theorem dX11_does_46 : decode cX11_does 46 = .ok (.ifCond .ne 140, 3) := by decide +kernel
theorem dX11_does_49 : decode cX11_does 49 = .ok (.aload_n 0, 1) := by decide +kernel
theorem dX11_does_50 : decode cX11_does 50 = .ok (.iload_n 2, 1) := by decide +kernel
theorem dX11_does_51 : decode cX11_does 51 = .ok (.iload_n 3, 1) := by decide +kernel
theorem dX11_does_52 : decode cX11_does 52 = .ok (.invokevirtual 312, 3) := by decide +kernel
theorem dX11_does_55 : decode cX11_does 55 = .ok (.goto 131, 3) := by decide +kernel
theorem dX11_does_58 : decode cX11_does 58 = .ok (.aload_n 0, 1) := by decide +kernel
theorem dX11_does_59 : decode cX11_does 59 = .ok (.getfield 33, 3) := by decide +kernel
theorem dX11_does_62 : decode cX11_does 62 = .ok (.bipush 125, 2) := by decide +kernel
theorem dX11_does_64 : decode cX11_does 64 = .ok (.iload_n 2, 1) := by decide +kernel
theorem dX11_does_65 : decode cX11_does 65 = .ok (.iadd, 1) := by decide +kernel
theorem dX11_does_66 : decode cX11_does 66 = .ok (.iaload, 1) := by decide +kernel
theorem dX11_does_67 : decode cX11_does 67 = .ok (.ifCond .ne 7, 3) := by decide +kernel
theorem dX11_does_70 : decode cX11_does 70 = .ok (.iconst 1, 1) := by decide +kernel
theorem dX11_does_71 : decode cX11_does 71 = .ok (.goto 4, 3) := by decide +kernel
theorem dX11_does_74 : decode cX11_does 74 = .ok (.iconst 0, 1) := by decide +kernel
theorem dX11_does_75 : decode cX11_does 75 = .ok (.istore 4, 2) := by decide +kernel
theorem dX11_does_77 : decode cX11_does 77 = .ok (.iload 4, 2) := by decide +kernel
theorem dX11_does_79 : decode cX11_does 79 = .ok (.ifCond .ne 107, 3) := by decide +kernel
theorem dX11_does_82 : decode cX11_does 82 = .ok (.aload_n 0, 1) := by decide +kernel
theorem dX11_does_83 : decode cX11_does 83 = .ok (.iload_n 2, 1) := by decide +kernel
theorem dX11_does_84 : decode cX11_does 84 = .ok (.invokevirtual 315, 3) := by decide +kernel
theorem dX11_does_87 : decode cX11_does 87 = .ok (.goto 99, 3) := by decide +kernel
theorem dX11_does_90 : decode cX11_does 90 = .ok (.aload_n 0, 1) := by decide +kernel
theorem dX11_does_91 : decode cX11_does 91 = .ok (.iload_n 2, 1) := by decide +kernel
theorem dX11_does_92 : decode cX11_does 92 = .ok (.invokevirtual 271, 3) := by decide +kernel
theorem dX11_does_95 : decode cX11_does 95 = .ok (.ifCond .eq 7, 3) := by decide +kernel
theorem dX11_does_98 : decode cX11_does 98 = .ok (.iconst 1, 1) := by decide +kernel
theorem dX11_does_99 : decode cX11_does 99 = .ok (.goto 4, 3) := by decide +kernel
theorem dX11_does_102 : decode cX11_does 102 = .ok (.iconst 0, 1) := by decide +kernel
theorem dX11_does_103 : decode cX11_does 103 = .ok (.istore 4, 2) := by decide +kernel
theorem dX11_does_105 : decode cX11_does 105 = .ok (.iload 4, 2) := by decide +kernel
theorem dX11_does_107 : decode cX11_does 107 = .ok (.ifCond .ne 79, 3) := by decide +kernel
theorem dX11_does_110 : decode cX11_does 110 = .ok (.aload_n 0, 1) := by decide +kernel
theorem dX11_does_111 : decode cX11_does 111 = .ok (.iload_n 2, 1) := by decide +kernel
theorem dX11_does_112 : decode cX11_does 112 = .ok (.iload_n 3, 1) := by decide +kernel
theorem dX11_does_113 : decode cX11_does 113 = .ok (.invokevirtual 299, 3) := by decide +kernel
theorem dX11_does_116 : decode cX11_does 116 = .ok (.goto 70, 3) := by decide +kernel
theorem dX11_does_119 : decode cX11_does 119 = .ok (.aload_n 0, 1) := by decide +kernel
theorem dX11_does_120 : decode cX11_does 120 = .ok (.getfield 33, 3) := by decide +kernel
theorem dX11_does_123 : decode cX11_does 123 = .ok (.sipush 185, 3) := by decide +kernel
theorem dX11_does_126 : decode cX11_does 126 = .ok (.iload_n 3, 1) := by decide +kernel
theorem dX11_does_127 : decode cX11_does 127 = .ok (.iadd, 1) := by decide +kernel
theorem dX11_does_128 : decode cX11_does 128 = .ok (.iaload, 1) := by decide +kernel
theorem dX11_does_129 : decode cX11_does 129 = .ok (.ifCond .ne 7, 3) := by decide +kernel
theorem dX11_does_132 : decode cX11_does 132 = .ok (.iconst 1, 1) := by decide +kernel
theorem dX11_does_133 : decode cX11_does 133 = .ok (.goto 4, 3) := by decide +kernel
theorem dX11_does_136 : decode cX11_does 136 = .ok (.iconst 0, 1) := by decide +kernel
theorem dX11_does_137 : decode cX11_does 137 = .ok (.istore 4, 2) := by decide +kernel
theorem dX11_does_139 : decode cX11_does 139 = .ok (.iload 4, 2) := by decide +kernel
theorem dX11_does_141 : decode cX11_does 141 = .ok (.ifCond .ne 45, 3) := by decide +kernel
theorem dX11_does_144 : decode cX11_does 144 = .ok (.aload_n 0, 1) := by decide +kernel
theorem dX11_does_145 : decode cX11_does 145 = .ok (.iload_n 2, 1) := by decide +kernel
theorem dX11_does_146 : decode cX11_does 146 = .ok (.iload_n 3, 1) := by decide +kernel
theorem dX11_does_147 : decode cX11_does 147 = .ok (.invokevirtual 318, 3) := by decide +kernel
theorem dX11_does_150 : decode cX11_does 150 = .ok (.goto 36, 3) := by decide +kernel
theorem dX11_does_153 : decode cX11_does 153 = .ok (.aload_n 0, 1) := by decide +kernel
theorem dX11_does_154 : decode cX11_does 154 = .ok (.getfield 33, 3) := by decide +kernel
theorem dX11_does_157 : decode cX11_does 157 = .ok (.bipush 121, 2) := by decide +kernel
theorem dX11_does_159 : decode cX11_does 159 = .ok (.iaload, 1) := by decide +kernel
theorem dX11_does_160 : decode cX11_does 160 = .ok (.iload_n 2, 1) := by decide +kernel
theorem dX11_does_161 : decode cX11_does 161 = .ok (.iadd, 1) := by decide +kernel
theorem dX11_does_162 : decode cX11_does 162 = .ok (.sipush 400, 3) := by decide +kernel
theorem dX11_does_165 : decode cX11_does 165 = .ok (.if_icmp .le 7, 3) := by decide +kernel
theorem dX11_does_168 : decode cX11_does 168 = .ok (.iconst 1, 1) := by decide +kernel
theorem dX11_does_169 : decode cX11_does 169 = .ok (.goto 4, 3) := by decide +kernel
theorem dX11_does_172 : decode cX11_does 172 = .ok (.iconst 0, 1) := by decide +kernel
theorem dX11_does_173 : decode cX11_does 173 = .ok (.istore 4, 2) := by decide +kernel
theorem dX11_does_175 : decode cX11_does 175 = .ok (.iload 4, 2) := by decide +kernel
theorem dX11_does_177 : decode cX11_does 177 = .ok (.ifCond .ne 9, 3) := by decide +kernel
theorem dX11_does_180 : decode cX11_does 180 = .ok (.aload_n 0, 1) := by decide +kernel
theorem dX11_does_181 : decode cX11_does 181 = .ok (.iload_n 2, 1) := by decide +kernel
theorem dX11_does_182 : decode cX11_does 182 = .ok (.invokevirtual 321, 3) := by decide +kernel
theorem dX11_does_185 : decode cX11_does 185 = .ok (.pop, 1) := by decide +kernel
theorem dX11_does_186 : decode cX11_does 186 = .ok (.iload 4, 2) := by decide +kernel
theorem dX11_does_188 : decode cX11_does 188 = .ok (.ifCond .le 13, 3) := by decide +kernel
theorem dX11_does_191 : decode cX11_does 191 = .ok (.bipush 10, 2) := by decide +kernel
theorem dX11_does_193 : decode cX11_does 193 = .ok (.iload_n 1, 1) := by decide +kernel
theorem dX11_does_194 : decode cX11_does 194 = .ok (.imul, 1) := by decide +kernel
theorem dX11_does_195 : decode cX11_does 195 = .ok (.iload 4, 2) := by decide +kernel
theorem dX11_does_197 : decode cX11_does 197 = .ok (.iadd, 1) := by decide +kernel
theorem dX11_does_198 : decode cX11_does 198 = .ok (.goto 4, 3) := by decide +kernel
theorem dX11_does_201 : decode cX11_does 201 = .ok (.iconst 0, 1) := by decide +kernel
theorem dX11_does_202 : decode cX11_does 202 = .ok (.ireturn, 1) := by decide +kernel
theorem dX11_book_0 : decode cX11_book 0 = .ok (.aload_n 0, 1) := by decide +kernel
theorem dX11_book_1 : decode cX11_book 1 = .ok (.iconst 0, 1) := by decide +kernel
theorem dX11_book_2 : decode cX11_book 2 = .ok (.putfield 1, 3) := by decide +kernel
theorem dX11_book_5 : decode cX11_book 5 = .ok (.iload_n 1, 1) := by decide +kernel
theorem dX11_book_6 : decode cX11_book 6 = .ok (.iconst 0, 1) := by decide +kernel
theorem dX11_book_7 : decode cX11_book 7 = .ok (.iconst 1, 1) := by decide +kernel
theorem dX11_book_8 : decode cX11_book 8 = .ok (.invokestatic 176, 3) := by decide +kernel
theorem dX11_book_11 : decode cX11_book 11 = .ok (.ifCond .ne 7, 3) := by decide +kernel
theorem dX11_book_14 : decode cX11_book 14 = .ok (.sipush (-1000), 3) := by decide +kernel
theorem dX11_book_17 : decode cX11_book 17 = .ok (.ireturn, 1) := by decide +kernel
theorem dX11_book_18 : decode cX11_book 18 = .ok (.aload_n 0, 1) := by decide +kernel
theorem dX11_book_19 : decode cX11_book 19 = .ok (.sipush 400, 3) := by decide +kernel
theorem dX11_book_22 : decode cX11_book 22 = .ok (.invokevirtual 230, 3) := by decide +kernel
theorem dX11_book_25 : decode cX11_book 25 = .ok (.aload_n 0, 1) := by decide +kernel
theorem dX11_book_26 : decode cX11_book 26 = .ok (.iconst 0, 1) := by decide +kernel
theorem dX11_book_27 : decode cX11_book 27 = .ok (.putfield 161, 3) := by decide +kernel
theorem dX11_book_30 : decode cX11_book 30 = .ok (.aload_n 0, 1) := by decide +kernel
theorem dX11_book_31 : decode cX11_book 31 = .ok (.iconst 0, 1) := by decide +kernel
theorem dX11_book_32 : decode cX11_book 32 = .ok (.putfield 406, 3) := by decide +kernel
theorem dX11_book_35 : decode cX11_book 35 = .ok (.aload_n 0, 1) := by decide +kernel
theorem dX11_book_36 : decode cX11_book 36 = .ok (.invokevirtual 173, 3) := by decide +kernel
theorem dX11_book_39 : decode cX11_book 39 = .ok (.aload_n 0, 1) := by decide +kernel
theorem dX11_book_40 : decode cX11_book 40 = .ok (.getfield 144, 3) := by decide +kernel
theorem dX11_book_43 : decode cX11_book 43 = .ok (.ifCond .eq 40, 3) := by decide +kernel
theorem dX11_book_46 : decode cX11_book 46 = .ok (.aload_n 0, 1) := by decide +kernel
theorem dX11_book_47 : decode cX11_book 47 = .ok (.invokevirtual 409, 3) := by decide +kernel
theorem dX11_book_50 : decode cX11_book 50 = .ok (.ifCond .eq 12, 3) := by decide +kernel
theorem dX11_book_53 : decode cX11_book 53 = .ok (.aload_n 0, 1) := by decide +kernel
theorem dX11_book_54 : decode cX11_book 54 = .ok (.bipush 59, 2) := by decide +kernel
theorem dX11_book_56 : decode cX11_book 56 = .ok (.invokevirtual 239, 3) := by decide +kernel
theorem dX11_book_59 : decode cX11_book 59 = .ok (.ifCond .ne 11, 3) := by decide +kernel
theorem dX11_book_62 : decode cX11_book 62 = .ok (.bipush (-2), 2) := by decide +kernel
theorem dX11_book_64 : decode cX11_book 64 = .ok (.aload_n 0, 1) := by decide +kernel
theorem dX11_book_65 : decode cX11_book 65 = .ok (.getfield 164, 3) := by decide +kernel
theorem dX11_book_68 : decode cX11_book 68 = .ok (.isub, 1) := by decide +kernel
theorem dX11_book_69 : decode cX11_book 69 = .ok (.ireturn, 1) := by decide +kernel
theorem dX11_book_70 : decode cX11_book 70 = .ok (.aload_n 0, 1) := by decide +kernel
theorem dX11_book_71 : decode cX11_book 71 = .ok (.dup, 1) := by decide +kernel
theorem dX11_book_72 : decode cX11_book 72 = .ok (.getfield 406, 3) := by decide +kernel
theorem dX11_book_75 : decode cX11_book 75 = .ok (.iconst 1, 1) := by decide +kernel
theorem dX11_book_76 : decode cX11_book 76 = .ok (.iadd, 1) := by decide +kernel
theorem dX11_book_77 : decode cX11_book 77 = .ok (.putfield 406, 3) := by decide +kernel
theorem dX11_book_80 : decode cX11_book 80 = .ok (.goto (-41), 3) := by decide +kernel
theorem dX11_book_83 : decode cX11_book 83 = .ok (.aload_n 0, 1) := by decide +kernel
theorem dX11_book_84 : decode cX11_book 84 = .ok (.invokevirtual 327, 3) := by decide +kernel
theorem dX11_book_87 : decode cX11_book 87 = .ok (.iconst 0, 1) := by decide +kernel
theorem dX11_book_88 : decode cX11_book 88 = .ok (.istore_n 2, 1) := by decide +kernel
theorem dX11_book_89 : decode cX11_book 89 = .ok (.iload_n 2, 1) := by decide +kernel
theorem dX11_book_90 : decode cX11_book 90 = .ok (.iconst 4, 1) := by decide +kernel
theorem dX11_book_91 : decode cX11_book 91 = .ok (.if_icmp .ge 16, 3) := by decide +kernel
theorem dX11_book_94 : decode cX11_book 94 = .ok (.aload_n 0, 1) := by decide +kernel
theorem dX11_book_95 : decode cX11_book 95 = .ok (.getfield 69, 3) := by decide +kernel
theorem dX11_book_98 : decode cX11_book 98 = .ok (.iload_n 2, 1) := by decide +kernel
theorem dX11_book_99 : decode cX11_book 99 = .ok (.iconst 0, 1) := by decide +kernel
theorem dX11_book_100 : decode cX11_book 100 = .ok (.iastore, 1) := by decide +kernel
theorem dX11_book_101 : decode cX11_book 101 = .ok (.iinc 2 1, 3) := by decide +kernel
theorem dX11_book_104 : decode cX11_book 104 = .ok (.goto (-15), 3) := by decide +kernel
theorem dX11_book_107 : decode cX11_book 107 = .ok (.iconst (-1), 1) := by decide +kernel
theorem dX11_book_108 : decode cX11_book 108 = .ok (.istore_n 2, 1) := by decide +kernel
theorem dX11_book_109 : decode cX11_book 109 = .ok (.iconst 0, 1) := by decide +kernel
theorem dX11_book_110 : decode cX11_book 110 = .ok (.istore_n 3, 1) := by decide +kernel
theorem dX11_book_111 : decode cX11_book 111 = .ok (.iload_n 3, 1) := by decide +kernel
theorem dX11_book_112 : decode cX11_book 112 = .ok (.aload_n 0, 1) := by decide +kernel
theorem dX11_book_113 : decode cX11_book 113 = .ok (.getfield 406, 3) := by decide +kernel
theorem dX11_book_116 : decode cX11_book 116 = .ok (.if_icmp .ge 75, 3) := by decide +kernel
theorem dX11_book_119 : decode cX11_book 119 = .ok (.iload_n 2, 1) := by decide +kernel
theorem dX11_book_120 : decode cX11_book 120 = .ok (.ifCond .ge 71, 3) := by decide +kernel
theorem dX11_book_123 : decode cX11_book 123 = .ok (.aload_n 0, 1) := by decide +kernel
theorem dX11_book_124 : decode cX11_book 124 = .ok (.getfield 69, 3) := by decide +kernel
theorem dX11_book_127 : decode cX11_book 127 = .ok (.iconst 0, 1) := by decide +kernel
theorem dX11_book_128 : decode cX11_book 128 = .ok (.aload_n 0, 1) := by decide +kernel
theorem dX11_book_129 : decode cX11_book 129 = .ok (.aload_n 0, 1) := by decide +kernel
theorem dX11_book_130 : decode cX11_book 130 = .ok (.getfield 40, 3) := by decide +kernel
theorem dX11_book_133 : decode cX11_book 133 = .ok (.iconst 3, 1) := by decide +kernel
theorem dX11_book_134 : decode cX11_book 134 = .ok (.iload_n 3, 1) := by decide +kernel
theorem dX11_book_135 : decode cX11_book 135 = .ok (.imul, 1) := by decide +kernel
theorem dX11_book_136 : decode cX11_book 136 = .ok (.iaload, 1) := by decide +kernel
theorem dX11_book_137 : decode cX11_book 137 = .ok (.aload_n 0, 1) := by decide +kernel
theorem dX11_book_138 : decode cX11_book 138 = .ok (.getfield 40, 3) := by decide +kernel
theorem dX11_book_141 : decode cX11_book 141 = .ok (.iconst 3, 1) := by decide +kernel
theorem dX11_book_142 : decode cX11_book 142 = .ok (.iload_n 3, 1) := by decide +kernel
theorem dX11_book_143 : decode cX11_book 143 = .ok (.imul, 1) := by decide +kernel
theorem dX11_book_144 : decode cX11_book 144 = .ok (.iconst 1, 1) := by decide +kernel
theorem dX11_book_145 : decode cX11_book 145 = .ok (.iadd, 1) := by decide +kernel
theorem dX11_book_146 : decode cX11_book 146 = .ok (.iaload, 1) := by decide +kernel
theorem dX11_book_147 : decode cX11_book 147 = .ok (.aload_n 0, 1) := by decide +kernel
theorem dX11_book_148 : decode cX11_book 148 = .ok (.getfield 40, 3) := by decide +kernel
theorem dX11_book_151 : decode cX11_book 151 = .ok (.iconst 3, 1) := by decide +kernel
theorem dX11_book_152 : decode cX11_book 152 = .ok (.iload_n 3, 1) := by decide +kernel
theorem dX11_book_153 : decode cX11_book 153 = .ok (.imul, 1) := by decide +kernel
theorem dX11_book_154 : decode cX11_book 154 = .ok (.iconst 2, 1) := by decide +kernel
theorem dX11_book_155 : decode cX11_book 155 = .ok (.iadd, 1) := by decide +kernel
theorem dX11_book_156 : decode cX11_book 156 = .ok (.iaload, 1) := by decide +kernel
theorem dX11_book_157 : decode cX11_book 157 = .ok (.invokevirtual 412, 3) := by decide +kernel
theorem dX11_book_160 : decode cX11_book 160 = .ok (.iastore, 1) := by decide +kernel
theorem dX11_book_161 : decode cX11_book 161 = .ok (.aload_n 0, 1) := by decide +kernel
theorem dX11_book_162 : decode cX11_book 162 = .ok (.getfield 69, 3) := by decide +kernel
theorem dX11_book_165 : decode cX11_book 165 = .ok (.iconst 0, 1) := by decide +kernel
theorem dX11_book_166 : decode cX11_book 166 = .ok (.iaload, 1) := by decide +kernel
theorem dX11_book_167 : decode cX11_book 167 = .ok (.ifCond .le 8, 3) := by decide +kernel
theorem dX11_book_170 : decode cX11_book 170 = .ok (.iload_n 3, 1) := by decide +kernel
theorem dX11_book_171 : decode cX11_book 171 = .ok (.istore_n 2, 1) := by decide +kernel
theorem dX11_book_172 : decode cX11_book 172 = .ok (.goto 13, 3) := by decide +kernel
theorem dX11_book_175 : decode cX11_book 175 = .ok (.aload_n 0, 1) := by decide +kernel
theorem dX11_book_176 : decode cX11_book 176 = .ok (.getfield 69, 3) := by decide +kernel
theorem dX11_book_179 : decode cX11_book 179 = .ok (.iconst 1, 1) := by decide +kernel
theorem dX11_book_180 : decode cX11_book 180 = .ok (.dup2, 1) := by decide +kernel
theorem dX11_book_181 : decode cX11_book 181 = .ok (.iaload, 1) := by decide +kernel
theorem dX11_book_182 : decode cX11_book 182 = .ok (.iconst 1, 1) := by decide +kernel
theorem dX11_book_183 : decode cX11_book 183 = .ok (.iadd, 1) := by decide +kernel
theorem dX11_book_184 : decode cX11_book 184 = .ok (.iastore, 1) := by decide +kernel
theorem dX11_book_185 : decode cX11_book 185 = .ok (.iinc 3 1, 3) := by decide +kernel
theorem dX11_book_188 : decode cX11_book 188 = .ok (.goto (-77), 3) := by decide +kernel
theorem dX11_book_191 : decode cX11_book 191 = .ok (.aload_n 0, 1) := by decide +kernel
theorem dX11_book_192 : decode cX11_book 192 = .ok (.getfield 69, 3) := by decide +kernel
theorem dX11_book_195 : decode cX11_book 195 = .ok (.iconst 2, 1) := by decide +kernel
theorem dX11_book_196 : decode cX11_book 196 = .ok (.aload_n 0, 1) := by decide +kernel
theorem dX11_book_197 : decode cX11_book 197 = .ok (.getfield 33, 3) := by decide +kernel
theorem dX11_book_200 : decode cX11_book 200 = .ok (.bipush 121, 2) := by decide +kernel
theorem dX11_book_202 : decode cX11_book 202 = .ok (.iaload, 1) := by decide +kernel
theorem dX11_book_203 : decode cX11_book 203 = .ok (.iastore, 1) := by decide +kernel
theorem dX11_book_204 : decode cX11_book 204 = .ok (.aload_n 0, 1) := by decide +kernel
theorem dX11_book_205 : decode cX11_book 205 = .ok (.getfield 69, 3) := by decide +kernel
theorem dX11_book_208 : decode cX11_book 208 = .ok (.iconst 3, 1) := by decide +kernel
theorem dX11_book_209 : decode cX11_book 209 = .ok (.aload_n 0, 1) := by decide +kernel
theorem dX11_book_210 : decode cX11_book 210 = .ok (.invokevirtual 286, 3) := by decide +kernel
theorem dX11_book_213 : decode cX11_book 213 = .ok (.iastore, 1) := by decide +kernel
theorem dX11_book_214 : decode cX11_book 214 = .ok (.aload_n 0, 1) := by decide +kernel
theorem dX11_book_215 : decode cX11_book 215 = .ok (.iconst 1, 1) := by decide +kernel
theorem dX11_book_216 : decode cX11_book 216 = .ok (.putfield 416, 3) := by decide +kernel
theorem dX11_book_219 : decode cX11_book 219 = .ok (.iload_n 1, 1) := by decide +kernel
theorem dX11_book_220 : decode cX11_book 220 = .ok (.iconst 1, 1) := by decide +kernel
theorem dX11_book_221 : decode cX11_book 221 = .ok (.if_icmp .ne 52, 3) := by decide +kernel
theorem dX11_book_224 : decode cX11_book 224 = .ok (.aload_n 0, 1) := by decide +kernel
theorem dX11_book_225 : decode cX11_book 225 = .ok (.getfield 69, 3) := by decide +kernel
theorem dX11_book_228 : decode cX11_book 228 = .ok (.iconst 1, 1) := by decide +kernel
theorem dX11_book_229 : decode cX11_book 229 = .ok (.iaload, 1) := by decide +kernel
theorem dX11_book_230 : decode cX11_book 230 = .ok (.ifCond .le 43, 3) := by decide +kernel
theorem dX11_book_233 : decode cX11_book 233 = .ok (.aload_n 0, 1) := by decide +kernel
theorem dX11_book_234 : decode cX11_book 234 = .ok (.invokevirtual 309, 3) := by decide +kernel
theorem dX11_book_237 : decode cX11_book 237 = .ok (.iconst 0, 1) := by decide +kernel
theorem dX11_book_238 : decode cX11_book 238 = .ok (.istore_n 3, 1) := by decide +kernel
theorem dX11_book_239 : decode cX11_book 239 = .ok (.iload_n 3, 1) := by decide +kernel
theorem dX11_book_240 : decode cX11_book 240 = .ok (.bipush 88, 2) := by decide +kernel
theorem dX11_book_242 : decode cX11_book 242 = .ok (.if_icmp .ge 31, 3) := by decide +kernel
theorem dX11_book_245 : decode cX11_book 245 = .ok (.aload_n 0, 1) := by decide +kernel
theorem dX11_book_246 : decode cX11_book 246 = .ok (.getfield 50, 3) := by decide +kernel
theorem dX11_book_249 : decode cX11_book 249 = .ok (.bipush 88, 2) := by decide +kernel
theorem dX11_book_251 : decode cX11_book 251 = .ok (.aload_n 0, 1) := by decide +kernel
theorem dX11_book_252 : decode cX11_book 252 = .ok (.getfield 242, 3) := by decide +kernel
theorem dX11_book_255 : decode cX11_book 255 = .ok (.iconst 1, 1) := by decide +kernel
theorem dX11_book_256 : decode cX11_book 256 = .ok (.isub, 1) := by decide +kernel
theorem dX11_book_257 : decode cX11_book 257 = .ok (.imul, 1) := by decide +kernel
theorem dX11_book_258 : decode cX11_book 258 = .ok (.iload_n 3, 1) := by decide +kernel
theorem dX11_book_259 : decode cX11_book 259 = .ok (.iadd, 1) := by decide +kernel
theorem dX11_book_260 : decode cX11_book 260 = .ok (.aload_n 0, 1) := by decide +kernel
theorem dX11_book_261 : decode cX11_book 261 = .ok (.getfield 53, 3) := by decide +kernel
theorem dX11_book_264 : decode cX11_book 264 = .ok (.iload_n 3, 1) := by decide +kernel
theorem dX11_book_265 : decode cX11_book 265 = .ok (.iaload, 1) := by decide +kernel
theorem dX11_book_266 : decode cX11_book 266 = .ok (.iastore, 1) := by decide +kernel
theorem dX11_book_267 : decode cX11_book 267 = .ok (.iinc 3 1, 3) := by decide +kernel
theorem dX11_book_270 : decode cX11_book 270 = .ok (.goto (-31), 3) := by decide +kernel
theorem dX11_book_273 : decode cX11_book 273 = .ok (.iload_n 1, 1) := by decide +kernel
theorem dX11_book_274 : decode cX11_book 274 = .ok (.ifCond .ne 7, 3) := by decide +kernel
theorem dX11_book_277 : decode cX11_book 277 = .ok (.aload_n 0, 1) := by decide +kernel
theorem dX11_book_278 : decode cX11_book 278 = .ok (.invokevirtual 330, 3) := by decide +kernel
theorem dX11_book_281 : decode cX11_book 281 = .ok (.iload_n 2, 1) := by decide +kernel
theorem dX11_book_282 : decode cX11_book 282 = .ok (.ireturn, 1) := by decide +kernel
theorem dX11_told_0 : decode cX11_told 0 = .ok (.aload_n 0, 1) := by decide +kernel
theorem dX11_told_1 : decode cX11_told 1 = .ok (.iconst 0, 1) := by decide +kernel
theorem dX11_told_2 : decode cX11_told 2 = .ok (.putfield 1, 3) := by decide +kernel
theorem dX11_told_5 : decode cX11_told 5 = .ok (.aload_n 0, 1) := by decide +kernel
theorem dX11_told_6 : decode cX11_told 6 = .ok (.getfield 416, 3) := by decide +kernel
theorem dX11_told_9 : decode cX11_told 9 = .ok (.ifCond .eq 21, 3) := by decide +kernel
theorem dX11_told_12 : decode cX11_told 12 = .ok (.iload_n 1, 1) := by decide +kernel
theorem dX11_told_13 : decode cX11_told 13 = .ok (.iconst 0, 1) := by decide +kernel
theorem dX11_told_14 : decode cX11_told 14 = .ok (.iconst 3, 1) := by decide +kernel
theorem dX11_told_15 : decode cX11_told 15 = .ok (.invokestatic 176, 3) := by decide +kernel
theorem dX11_told_18 : decode cX11_told 18 = .ok (.ifCond .eq 12, 3) := by decide +kernel
theorem dX11_told_21 : decode cX11_told 21 = .ok (.aload_n 0, 1) := by decide +kernel
theorem dX11_told_22 : decode cX11_told 22 = .ok (.getfield 69, 3) := by decide +kernel
theorem dX11_told_25 : decode cX11_told 25 = .ok (.iload_n 1, 1) := by decide +kernel
theorem dX11_told_26 : decode cX11_told 26 = .ok (.iaload, 1) := by decide +kernel
theorem dX11_told_27 : decode cX11_told 27 = .ok (.goto 4, 3) := by decide +kernel
theorem dX11_told_30 : decode cX11_told 30 = .ok (.iconst (-1), 1) := by decide +kernel
theorem dX11_told_31 : decode cX11_told 31 = .ok (.ireturn, 1) := by decide +kernel
theorem dX11_code_0 : decode cX11_code 0 = .ok (.aload_n 0, 1) := by decide +kernel
theorem dX11_code_1 : decode cX11_code 1 = .ok (.getfield 40, 3) := by decide +kernel
theorem dX11_code_4 : decode cX11_code 4 = .ok (.iconst 3, 1) := by decide +kernel
theorem dX11_code_5 : decode cX11_code 5 = .ok (.aload_n 0, 1) := by decide +kernel
theorem dX11_code_6 : decode cX11_code 6 = .ok (.getfield 419, 3) := by decide +kernel
theorem dX11_code_9 : decode cX11_code 9 = .ok (.imul, 1) := by decide +kernel
theorem dX11_code_10 : decode cX11_code 10 = .ok (.iload_n 1, 1) := by decide +kernel
theorem dX11_code_11 : decode cX11_code 11 = .ok (.iastore, 1) := by decide +kernel
theorem dX11_code_12 : decode cX11_code 12 = .ok (.aload_n 0, 1) := by decide +kernel
theorem dX11_code_13 : decode cX11_code 13 = .ok (.getfield 40, 3) := by decide +kernel
theorem dX11_code_16 : decode cX11_code 16 = .ok (.iconst 3, 1) := by decide +kernel
theorem dX11_code_17 : decode cX11_code 17 = .ok (.aload_n 0, 1) := by decide +kernel
theorem dX11_code_18 : decode cX11_code 18 = .ok (.getfield 419, 3) := by decide +kernel
theorem dX11_code_21 : decode cX11_code 21 = .ok (.imul, 1) := by decide +kernel
theorem dX11_code_22 : decode cX11_code 22 = .ok (.iconst 1, 1) := by decide +kernel
theorem dX11_code_23 : decode cX11_code 23 = .ok (.iadd, 1) := by decide +kernel
theorem dX11_code_24 : decode cX11_code 24 = .ok (.iload_n 2, 1) := by decide +kernel
theorem dX11_code_25 : decode cX11_code 25 = .ok (.iastore, 1) := by decide +kernel
theorem dX11_code_26 : decode cX11_code 26 = .ok (.aload_n 0, 1) := by decide +kernel
theorem dX11_code_27 : decode cX11_code 27 = .ok (.getfield 40, 3) := by decide +kernel
theorem dX11_code_30 : decode cX11_code 30 = .ok (.iconst 3, 1) := by decide +kernel
theorem dX11_code_31 : decode cX11_code 31 = .ok (.aload_n 0, 1) := by decide +kernel
theorem dX11_code_32 : decode cX11_code 32 = .ok (.getfield 419, 3) := by decide +kernel
theorem dX11_code_35 : decode cX11_code 35 = .ok (.imul, 1) := by decide +kernel
theorem dX11_code_36 : decode cX11_code 36 = .ok (.iconst 2, 1) := by decide +kernel
theorem dX11_code_37 : decode cX11_code 37 = .ok (.iadd, 1) := by decide +kernel
theorem dX11_code_38 : decode cX11_code 38 = .ok (.iload_n 3, 1) := by decide +kernel
theorem dX11_code_39 : decode cX11_code 39 = .ok (.iastore, 1) := by decide +kernel
theorem dX11_code_40 : decode cX11_code 40 = .ok (.aload_n 0, 1) := by decide +kernel
theorem dX11_code_41 : decode cX11_code 41 = .ok (.dup, 1) := by decide +kernel
theorem dX11_code_42 : decode cX11_code 42 = .ok (.getfield 419, 3) := by decide +kernel
theorem dX11_code_45 : decode cX11_code 45 = .ok (.iconst 1, 1) := by decide +kernel
theorem dX11_code_46 : decode cX11_code 46 = .ok (.iadd, 1) := by decide +kernel
theorem dX11_code_47 : decode cX11_code 47 = .ok (.putfield 419, 3) := by decide +kernel
theorem dX11_code_50 : decode cX11_code 50 = .ok (.return_, 1) := by decide +kernel
theorem dX11_joins_0 : decode cX11_joins 0 = .ok (.aload_n 0, 1) := by decide +kernel
theorem dX11_joins_1 : decode cX11_joins 1 = .ok (.getfield 422, 3) := by decide +kernel
theorem dX11_joins_4 : decode cX11_joins 4 = .ok (.ifCond .le 69, 3) := by decide +kernel
theorem dX11_joins_7 : decode cX11_joins 7 = .ok (.aload_n 0, 1) := by decide +kernel
theorem dX11_joins_8 : decode cX11_joins 8 = .ok (.getfield 72, 3) := by decide +kernel
theorem dX11_joins_11 : decode cX11_joins 11 = .ok (.aload_n 0, 1) := by decide +kernel
theorem dX11_joins_12 : decode cX11_joins 12 = .ok (.getfield 422, 3) := by decide +kernel
theorem dX11_joins_15 : decode cX11_joins 15 = .ok (.iconst 1, 1) := by decide +kernel
theorem dX11_joins_16 : decode cX11_joins 16 = .ok (.isub, 1) := by decide +kernel
theorem dX11_joins_17 : decode cX11_joins 17 = .ok (.iaload, 1) := by decide +kernel
theorem dX11_joins_18 : decode cX11_joins 18 = .ok (.bipush 21, 2) := by decide +kernel
theorem dX11_joins_20 : decode cX11_joins 20 = .ok (.if_icmp .eq 25, 3) := by decide +kernel
theorem dX11_joins_23 : decode cX11_joins 23 = .ok (.aload_n 0, 1) := by decide +kernel
theorem dX11_joins_24 : decode cX11_joins 24 = .ok (.getfield 72, 3) := by decide +kernel
theorem dX11_joins_27 : decode cX11_joins 27 = .ok (.aload_n 0, 1) := by decide +kernel
theorem dX11_joins_28 : decode cX11_joins 28 = .ok (.getfield 422, 3) := by decide +kernel
theorem dX11_joins_31 : decode cX11_joins 31 = .ok (.iconst 1, 1) := by decide +kernel
theorem dX11_joins_32 : decode cX11_joins 32 = .ok (.isub, 1) := by decide +kernel
theorem dX11_joins_33 : decode cX11_joins 33 = .ok (.iaload, 1) := by decide +kernel
theorem dX11_joins_34 : decode cX11_joins 34 = .ok (.bipush 22, 2) := by decide +kernel
theorem dX11_joins_36 : decode cX11_joins 36 = .ok (.if_icmp .ne 37, 3) := by decide +kernel
theorem dX11_joins_39 : decode cX11_joins 39 = .ok (.iload_n 1, 1) := by decide +kernel
theorem dX11_joins_40 : decode cX11_joins 40 = .ok (.bipush 22, 2) := by decide +kernel
theorem dX11_joins_42 : decode cX11_joins 42 = .ok (.if_icmp .ne 31, 3) := by decide +kernel
theorem dX11_joins_45 : decode cX11_joins 45 = .ok (.aload_n 0, 1) := by decide +kernel
theorem dX11_joins_46 : decode cX11_joins 46 = .ok (.dup, 1) := by decide +kernel
theorem dX11_joins_47 : decode cX11_joins 47 = .ok (.getfield 422, 3) := by decide +kernel
theorem dX11_joins_50 : decode cX11_joins 50 = .ok (.iconst 1, 1) := by decide +kernel
theorem dX11_joins_51 : decode cX11_joins 51 = .ok (.isub, 1) := by decide +kernel
theorem dX11_joins_52 : decode cX11_joins 52 = .ok (.putfield 422, 3) := by decide +kernel
theorem dX11_joins_55 : decode cX11_joins 55 = .ok (.aload_n 0, 1) := by decide +kernel
theorem dX11_joins_56 : decode cX11_joins 56 = .ok (.aload_n 0, 1) := by decide +kernel
theorem dX11_joins_57 : decode cX11_joins 57 = .ok (.getfield 72, 3) := by decide +kernel
theorem dX11_joins_60 : decode cX11_joins 60 = .ok (.aload_n 0, 1) := by decide +kernel
theorem dX11_joins_61 : decode cX11_joins 61 = .ok (.getfield 422, 3) := by decide +kernel
theorem dX11_joins_64 : decode cX11_joins 64 = .ok (.iaload, 1) := by decide +kernel
theorem dX11_joins_65 : decode cX11_joins 65 = .ok (.iconst 0, 1) := by decide +kernel
theorem dX11_joins_66 : decode cX11_joins 66 = .ok (.iconst 0, 1) := by decide +kernel
theorem dX11_joins_67 : decode cX11_joins 67 = .ok (.invokevirtual 425, 3) := by decide +kernel
theorem dX11_joins_70 : decode cX11_joins 70 = .ok (.goto (-70), 3) := by decide +kernel
theorem dX11_joins_73 : decode cX11_joins 73 = .ok (.return_, 1) := by decide +kernel
theorem dX11_nots_0 : decode cX11_nots 0 = .ok (.aload_n 0, 1) := by decide +kernel
theorem dX11_nots_1 : decode cX11_nots 1 = .ok (.getfield 422, 3) := by decide +kernel
theorem dX11_nots_4 : decode cX11_nots 4 = .ok (.ifCond .le 50, 3) := by decide +kernel
theorem dX11_nots_7 : decode cX11_nots 7 = .ok (.aload_n 0, 1) := by decide +kernel
theorem dX11_nots_8 : decode cX11_nots 8 = .ok (.getfield 72, 3) := by decide +kernel
theorem dX11_nots_11 : decode cX11_nots 11 = .ok (.aload_n 0, 1) := by decide +kernel
theorem dX11_nots_12 : decode cX11_nots 12 = .ok (.getfield 422, 3) := by decide +kernel
theorem dX11_nots_15 : decode cX11_nots 15 = .ok (.iconst 1, 1) := by decide +kernel
theorem dX11_nots_16 : decode cX11_nots 16 = .ok (.isub, 1) := by decide +kernel
theorem dX11_nots_17 : decode cX11_nots 17 = .ok (.iaload, 1) := by decide +kernel
theorem dX11_nots_18 : decode cX11_nots 18 = .ok (.bipush 20, 2) := by decide +kernel
theorem dX11_nots_20 : decode cX11_nots 20 = .ok (.if_icmp .ne 34, 3) := by decide +kernel
theorem dX11_nots_23 : decode cX11_nots 23 = .ok (.aload_n 0, 1) := by decide +kernel
theorem dX11_nots_24 : decode cX11_nots 24 = .ok (.dup, 1) := by decide +kernel
theorem dX11_nots_25 : decode cX11_nots 25 = .ok (.getfield 422, 3) := by decide +kernel
theorem dX11_nots_28 : decode cX11_nots 28 = .ok (.iconst 1, 1) := by decide +kernel
theorem dX11_nots_29 : decode cX11_nots 29 = .ok (.isub, 1) := by decide +kernel
theorem dX11_nots_30 : decode cX11_nots 30 = .ok (.putfield 422, 3) := by decide +kernel
theorem dX11_nots_33 : decode cX11_nots 33 = .ok (.aload_n 0, 1) := by decide +kernel
theorem dX11_nots_34 : decode cX11_nots 34 = .ok (.dup, 1) := by decide +kernel
theorem dX11_nots_35 : decode cX11_nots 35 = .ok (.getfield 429, 3) := by decide +kernel
theorem dX11_nots_38 : decode cX11_nots 38 = .ok (.iconst 1, 1) := by decide +kernel
theorem dX11_nots_39 : decode cX11_nots 39 = .ok (.isub, 1) := by decide +kernel
theorem dX11_nots_40 : decode cX11_nots 40 = .ok (.putfield 429, 3) := by decide +kernel
theorem dX11_nots_43 : decode cX11_nots 43 = .ok (.aload_n 0, 1) := by decide +kernel
theorem dX11_nots_44 : decode cX11_nots 44 = .ok (.bipush 20, 2) := by decide +kernel
theorem dX11_nots_46 : decode cX11_nots 46 = .ok (.iconst 0, 1) := by decide +kernel
theorem dX11_nots_47 : decode cX11_nots 47 = .ok (.iconst 0, 1) := by decide +kernel
theorem dX11_nots_48 : decode cX11_nots 48 = .ok (.invokevirtual 425, 3) := by decide +kernel
theorem dX11_nots_51 : decode cX11_nots 51 = .ok (.goto (-51), 3) := by decide +kernel
theorem dX11_nots_54 : decode cX11_nots 54 = .ok (.return_, 1) := by decide +kernel
theorem dX11_leafOf_0 : decode cX11_leafOf 0 = .ok (.aload_n 0, 1) := by decide +kernel
theorem dX11_leafOf_1 : decode cX11_leafOf 1 = .ok (.ldc2_w 115, 3) := by decide +kernel
theorem dX11_leafOf_4 : decode cX11_leafOf 4 = .ok (.invokevirtual 198, 3) := by decide +kernel
theorem dX11_leafOf_7 : decode cX11_leafOf 7 = .ok (.ifCond .eq 7, 3) := by decide +kernel
theorem dX11_leafOf_10 : decode cX11_leafOf 10 = .ok (.iconst 0, 1) := by decide +kernel
theorem dX11_leafOf_11 : decode cX11_leafOf 11 = .ok (.goto 119, 3) := by decide +kernel
theorem dX11_leafOf_14 : decode cX11_leafOf 14 = .ok (.aload_n 0, 1) := by decide +kernel
theorem dX11_leafOf_15 : decode cX11_leafOf 15 = .ok (.ldc2_w 117, 3) := by decide +kernel
theorem dX11_leafOf_18 : decode cX11_leafOf 18 = .ok (.invokevirtual 198, 3) := by decide +kernel
theorem dX11_leafOf_21 : decode cX11_leafOf 21 = .ok (.ifCond .eq 7, 3) := by decide +kernel
theorem dX11_leafOf_24 : decode cX11_leafOf 24 = .ok (.iconst 1, 1) := by decide +kernel
theorem dX11_leafOf_25 : decode cX11_leafOf 25 = .ok (.goto 105, 3) := by decide +kernel
theorem dX11_leafOf_28 : decode cX11_leafOf 28 = .ok (.aload_n 0, 1) := by decide +kernel
theorem dX11_leafOf_29 : decode cX11_leafOf 29 = .ok (.ldc2_w 119, 3) := by decide +kernel
theorem dX11_leafOf_32 : decode cX11_leafOf 32 = .ok (.invokevirtual 198, 3) := by decide +kernel
theorem dX11_leafOf_35 : decode cX11_leafOf 35 = .ok (.ifCond .eq 7, 3) := by decide +kernel
theorem dX11_leafOf_38 : decode cX11_leafOf 38 = .ok (.iconst 2, 1) := by decide +kernel
theorem dX11_leafOf_39 : decode cX11_leafOf 39 = .ok (.goto 91, 3) := by decide +kernel
theorem dX11_leafOf_42 : decode cX11_leafOf 42 = .ok (.aload_n 0, 1) := by decide +kernel
theorem dX11_leafOf_43 : decode cX11_leafOf 43 = .ok (.ldc2_w 121, 3) := by decide +kernel
theorem dX11_leafOf_46 : decode cX11_leafOf 46 = .ok (.invokevirtual 198, 3) := by decide +kernel
theorem dX11_leafOf_49 : decode cX11_leafOf 49 = .ok (.ifCond .eq 7, 3) := by decide +kernel
theorem dX11_leafOf_52 : decode cX11_leafOf 52 = .ok (.iconst 3, 1) := by decide +kernel
theorem dX11_leafOf_53 : decode cX11_leafOf 53 = .ok (.goto 77, 3) := by decide +kernel
theorem dX11_leafOf_56 : decode cX11_leafOf 56 = .ok (.aload_n 0, 1) := by decide +kernel
theorem dX11_leafOf_57 : decode cX11_leafOf 57 = .ok (.ldc2_w 123, 3) := by decide +kernel
theorem dX11_leafOf_60 : decode cX11_leafOf 60 = .ok (.invokevirtual 198, 3) := by decide +kernel
theorem dX11_leafOf_63 : decode cX11_leafOf 63 = .ok (.ifCond .eq 7, 3) := by decide +kernel
theorem dX11_leafOf_66 : decode cX11_leafOf 66 = .ok (.iconst 4, 1) := by decide +kernel
theorem dX11_leafOf_67 : decode cX11_leafOf 67 = .ok (.goto 63, 3) := by decide +kernel
theorem dX11_leafOf_70 : decode cX11_leafOf 70 = .ok (.aload_n 0, 1) := by decide +kernel
theorem dX11_leafOf_71 : decode cX11_leafOf 71 = .ok (.ldc2_w 91, 3) := by decide +kernel
theorem dX11_leafOf_74 : decode cX11_leafOf 74 = .ok (.invokevirtual 198, 3) := by decide +kernel
theorem dX11_leafOf_77 : decode cX11_leafOf 77 = .ok (.ifCond .eq 7, 3) := by decide +kernel
theorem dX11_leafOf_80 : decode cX11_leafOf 80 = .ok (.iconst 5, 1) := by decide +kernel
theorem dX11_leafOf_81 : decode cX11_leafOf 81 = .ok (.goto 49, 3) := by decide +kernel
theorem dX11_leafOf_84 : decode cX11_leafOf 84 = .ok (.aload_n 0, 1) := by decide +kernel
theorem dX11_leafOf_85 : decode cX11_leafOf 85 = .ok (.ldc2_w 125, 3) := by decide +kernel
theorem dX11_leafOf_88 : decode cX11_leafOf 88 = .ok (.invokevirtual 198, 3) := by decide +kernel
theorem dX11_leafOf_91 : decode cX11_leafOf 91 = .ok (.ifCond .eq 8, 3) := by decide +kernel
theorem dX11_leafOf_94 : decode cX11_leafOf 94 = .ok (.bipush 6, 2) := by decide +kernel
theorem dX11_leafOf_96 : decode cX11_leafOf 96 = .ok (.goto 34, 3) := by decide +kernel
theorem dX11_leafOf_99 : decode cX11_leafOf 99 = .ok (.aload_n 0, 1) := by decide +kernel
theorem dX11_leafOf_100 : decode cX11_leafOf 100 = .ok (.ldc2_w 127, 3) := by decide +kernel
theorem dX11_leafOf_103 : decode cX11_leafOf 103 = .ok (.invokevirtual 198, 3) := by decide +kernel
theorem dX11_leafOf_106 : decode cX11_leafOf 106 = .ok (.ifCond .eq 8, 3) := by decide +kernel
theorem dX11_leafOf_109 : decode cX11_leafOf 109 = .ok (.bipush 7, 2) := by decide +kernel
theorem dX11_leafOf_111 : decode cX11_leafOf 111 = .ok (.goto 19, 3) := by decide +kernel
theorem dX11_leafOf_114 : decode cX11_leafOf 114 = .ok (.aload_n 0, 1) := by decide +kernel
theorem dX11_leafOf_115 : decode cX11_leafOf 115 = .ok (.ldc2_w 129, 3) := by decide +kernel
theorem dX11_leafOf_118 : decode cX11_leafOf 118 = .ok (.invokevirtual 198, 3) := by decide +kernel
theorem dX11_leafOf_121 : decode cX11_leafOf 121 = .ok (.ifCond .eq 8, 3) := by decide +kernel
theorem dX11_leafOf_124 : decode cX11_leafOf 124 = .ok (.bipush 8, 2) := by decide +kernel
theorem dX11_leafOf_126 : decode cX11_leafOf 126 = .ok (.goto 4, 3) := by decide +kernel
theorem dX11_leafOf_129 : decode cX11_leafOf 129 = .ok (.iconst (-1), 1) := by decide +kernel
theorem dX11_leafOf_130 : decode cX11_leafOf 130 = .ok (.ireturn, 1) := by decide +kernel
theorem dX11_operand_0 : decode cX11_operand 0 = .ok (.aload_n 0, 1) := by decide +kernel
theorem dX11_operand_1 : decode cX11_operand 1 = .ok (.ldc2_w 113, 3) := by decide +kernel
theorem dX11_operand_4 : decode cX11_operand 4 = .ok (.invokevirtual 198, 3) := by decide +kernel
theorem dX11_operand_7 : decode cX11_operand 7 = .ok (.istore_n 1, 1) := by decide +kernel
theorem dX11_operand_8 : decode cX11_operand 8 = .ok (.aload_n 0, 1) := by decide +kernel
theorem dX11_operand_9 : decode cX11_operand 9 = .ok (.bipush 40, 2) := by decide +kernel
theorem dX11_operand_11 : decode cX11_operand 11 = .ok (.invokevirtual 167, 3) := by decide +kernel
theorem dX11_operand_14 : decode cX11_operand 14 = .ok (.istore_n 2, 1) := by decide +kernel
theorem dX11_operand_15 : decode cX11_operand 15 = .ok (.aload_n 0, 1) := by decide +kernel
theorem dX11_operand_16 : decode cX11_operand 16 = .ok (.invokevirtual 432, 3) := by decide +kernel
theorem dX11_operand_19 : decode cX11_operand 19 = .ok (.istore_n 3, 1) := by decide +kernel
theorem dX11_operand_20 : decode cX11_operand 20 = .ok (.iload_n 1, 1) := by decide +kernel
theorem dX11_operand_21 : decode cX11_operand 21 = .ok (.ifCond .ne 17, 3) := by decide +kernel
theorem dX11_operand_24 : decode cX11_operand 24 = .ok (.iload_n 2, 1) := by decide +kernel
theorem dX11_operand_25 : decode cX11_operand 25 = .ok (.ifCond .ne 13, 3) := by decide +kernel
theorem dX11_operand_28 : decode cX11_operand 28 = .ok (.iload_n 3, 1) := by decide +kernel
theorem dX11_operand_29 : decode cX11_operand 29 = .ok (.ifCond .ge 9, 3) := by decide +kernel
theorem dX11_operand_32 : decode cX11_operand 32 = .ok (.aload_n 0, 1) := by decide +kernel
theorem dX11_operand_33 : decode cX11_operand 33 = .ok (.iconst 1, 1) := by decide +kernel
theorem dX11_operand_34 : decode cX11_operand 34 = .ok (.invokevirtual 170, 3) := by decide +kernel
theorem dX11_operand_37 : decode cX11_operand 37 = .ok (.ireturn, 1) := by decide +kernel
theorem dX11_operand_38 : decode cX11_operand 38 = .ok (.aload_n 0, 1) := by decide +kernel
theorem dX11_operand_39 : decode cX11_operand 39 = .ok (.getfield 435, 3) := by decide +kernel
theorem dX11_operand_42 : decode cX11_operand 42 = .ok (.bipush 20, 2) := by decide +kernel
theorem dX11_operand_44 : decode cX11_operand 44 = .ok (.if_icmp .eq 12, 3) := by decide +kernel
theorem dX11_operand_47 : decode cX11_operand 47 = .ok (.aload_n 0, 1) := by decide +kernel
theorem dX11_operand_48 : decode cX11_operand 48 = .ok (.getfield 429, 3) := by decide +kernel
theorem dX11_operand_51 : decode cX11_operand 51 = .ok (.bipush 8, 2) := by decide +kernel
theorem dX11_operand_53 : decode cX11_operand 53 = .ok (.if_icmp .le 9, 3) := by decide +kernel
theorem dX11_operand_56 : decode cX11_operand 56 = .ok (.aload_n 0, 1) := by decide +kernel
theorem dX11_operand_57 : decode cX11_operand 57 = .ok (.iconst 4, 1) := by decide +kernel
theorem dX11_operand_58 : decode cX11_operand 58 = .ok (.invokevirtual 170, 3) := by decide +kernel
theorem dX11_operand_61 : decode cX11_operand 61 = .ok (.ireturn, 1) := by decide +kernel
theorem dX11_operand_62 : decode cX11_operand 62 = .ok (.aload_n 0, 1) := by decide +kernel
theorem dX11_operand_63 : decode cX11_operand 63 = .ok (.dup, 1) := by decide +kernel
theorem dX11_operand_64 : decode cX11_operand 64 = .ok (.getfield 435, 3) := by decide +kernel
theorem dX11_operand_67 : decode cX11_operand 67 = .ok (.iconst 1, 1) := by decide +kernel
theorem dX11_operand_68 : decode cX11_operand 68 = .ok (.iadd, 1) := by decide +kernel
theorem dX11_operand_69 : decode cX11_operand 69 = .ok (.putfield 435, 3) := by decide +kernel
theorem dX11_operand_72 : decode cX11_operand 72 = .ok (.aload_n 0, 1) := by decide +kernel
theorem dX11_operand_73 : decode cX11_operand 73 = .ok (.invokevirtual 173, 3) := by decide +kernel
theorem dX11_operand_76 : decode cX11_operand 76 = .ok (.iload_n 1, 1) := by decide +kernel
theorem dX11_operand_77 : decode cX11_operand 77 = .ok (.ifCond .ne 7, 3) := by decide +kernel
theorem dX11_operand_80 : decode cX11_operand 80 = .ok (.iload_n 2, 1) := by decide +kernel
theorem dX11_operand_81 : decode cX11_operand 81 = .ok (.ifCond .eq 45, 3) := by decide +kernel
theorem dX11_operand_84 : decode cX11_operand 84 = .ok (.aload_n 0, 1) := by decide +kernel
theorem dX11_operand_85 : decode cX11_operand 85 = .ok (.getfield 72, 3) := by decide +kernel
theorem dX11_operand_88 : decode cX11_operand 88 = .ok (.aload_n 0, 1) := by decide +kernel
theorem dX11_operand_89 : decode cX11_operand 89 = .ok (.getfield 422, 3) := by decide +kernel
theorem dX11_operand_92 : decode cX11_operand 92 = .ok (.iload_n 1, 1) := by decide +kernel
theorem dX11_operand_93 : decode cX11_operand 93 = .ok (.ifCond .eq 8, 3) := by decide +kernel
theorem dX11_operand_96 : decode cX11_operand 96 = .ok (.bipush 20, 2) := by decide +kernel
theorem dX11_operand_98 : decode cX11_operand 98 = .ok (.goto 5, 3) := by decide +kernel
theorem dX11_operand_101 : decode cX11_operand 101 = .ok (.bipush 23, 2) := by decide +kernel
theorem dX11_operand_103 : decode cX11_operand 103 = .ok (.iastore, 1) := by decide +kernel
theorem dX11_operand_104 : decode cX11_operand 104 = .ok (.aload_n 0, 1) := by decide +kernel
theorem dX11_operand_105 : decode cX11_operand 105 = .ok (.dup, 1) := by decide +kernel
theorem dX11_operand_106 : decode cX11_operand 106 = .ok (.getfield 422, 3) := by decide +kernel
theorem dX11_operand_109 : decode cX11_operand 109 = .ok (.iconst 1, 1) := by decide +kernel
theorem dX11_operand_110 : decode cX11_operand 110 = .ok (.iadd, 1) := by decide +kernel
theorem dX11_operand_111 : decode cX11_operand 111 = .ok (.putfield 422, 3) := by decide +kernel
theorem dX11_operand_114 : decode cX11_operand 114 = .ok (.aload_n 0, 1) := by decide +kernel
theorem dX11_operand_115 : decode cX11_operand 115 = .ok (.dup, 1) := by decide +kernel
theorem dX11_operand_116 : decode cX11_operand 116 = .ok (.getfield 429, 3) := by decide +kernel
theorem dX11_operand_119 : decode cX11_operand 119 = .ok (.iconst 1, 1) := by decide +kernel
theorem dX11_operand_120 : decode cX11_operand 120 = .ok (.iadd, 1) := by decide +kernel
theorem dX11_operand_121 : decode cX11_operand 121 = .ok (.putfield 429, 3) := by decide +kernel
theorem dX11_operand_124 : decode cX11_operand 124 = .ok (.iconst 1, 1) := by decide +kernel
theorem dX11_operand_125 : decode cX11_operand 125 = .ok (.ireturn, 1) := by decide +kernel
theorem dX11_operand_126 : decode cX11_operand 126 = .ok (.aload_n 0, 1) := by decide +kernel
theorem dX11_operand_127 : decode cX11_operand 127 = .ok (.iconst 1, 1) := by decide +kernel
theorem dX11_operand_128 : decode cX11_operand 128 = .ok (.putfield 438, 3) := by decide +kernel
theorem dX11_operand_131 : decode cX11_operand 131 = .ok (.iload_n 3, 1) := by decide +kernel
theorem dX11_operand_132 : decode cX11_operand 132 = .ok (.iconst 3, 1) := by decide +kernel
theorem dX11_operand_133 : decode cX11_operand 133 = .ok (.if_icmp .ge 12, 3) := by decide +kernel
theorem dX11_operand_136 : decode cX11_operand 136 = .ok (.aload_n 0, 1) := by decide +kernel
theorem dX11_operand_137 : decode cX11_operand 137 = .ok (.iload_n 3, 1) := by decide +kernel
theorem dX11_operand_138 : decode cX11_operand 138 = .ok (.iconst 0, 1) := by decide +kernel
theorem dX11_operand_139 : decode cX11_operand 139 = .ok (.iconst 0, 1) := by decide +kernel
theorem dX11_operand_140 : decode cX11_operand 140 = .ok (.invokevirtual 425, 3) := by decide +kernel
theorem dX11_operand_143 : decode cX11_operand 143 = .ok (.iconst 1, 1) := by decide +kernel
theorem dX11_operand_144 : decode cX11_operand 144 = .ok (.ireturn, 1) := by decide +kernel
theorem dX11_operand_145 : decode cX11_operand 145 = .ok (.iload_n 3, 1) := by decide +kernel
theorem dX11_operand_146 : decode cX11_operand 146 = .ok (.iconst 5, 1) := by decide +kernel
theorem dX11_operand_147 : decode cX11_operand 147 = .ok (.if_icmp .ge 59, 3) := by decide +kernel
theorem dX11_operand_150 : decode cX11_operand 150 = .ok (.iload_n 3, 1) := by decide +kernel
theorem dX11_operand_151 : decode cX11_operand 151 = .ok (.iconst 3, 1) := by decide +kernel
theorem dX11_operand_152 : decode cX11_operand 152 = .ok (.if_icmp .ne 17, 3) := by decide +kernel
theorem dX11_operand_155 : decode cX11_operand 155 = .ok (.aload_n 0, 1) := by decide +kernel
theorem dX11_operand_156 : decode cX11_operand 156 = .ok (.iconst 0, 1) := by decide +kernel
theorem dX11_operand_157 : decode cX11_operand 157 = .ok (.aload_n 0, 1) := by decide +kernel
theorem dX11_operand_158 : decode cX11_operand 158 = .ok (.getfield 33, 3) := by decide +kernel
theorem dX11_operand_161 : decode cX11_operand 161 = .ok (.iconst 0, 1) := by decide +kernel
theorem dX11_operand_162 : decode cX11_operand 162 = .ok (.iaload, 1) := by decide +kernel
theorem dX11_operand_163 : decode cX11_operand 163 = .ok (.invokevirtual 195, 3) := by decide +kernel
theorem dX11_operand_166 : decode cX11_operand 166 = .ok (.goto 15, 3) := by decide +kernel
theorem dX11_operand_169 : decode cX11_operand 169 = .ok (.aload_n 0, 1) := by decide +kernel
theorem dX11_operand_170 : decode cX11_operand 170 = .ok (.bipush 8, 2) := by decide +kernel
theorem dX11_operand_172 : decode cX11_operand 172 = .ok (.aload_n 0, 1) := by decide +kernel
theorem dX11_operand_173 : decode cX11_operand 173 = .ok (.getfield 33, 3) := by decide +kernel
theorem dX11_operand_176 : decode cX11_operand 176 = .ok (.iconst 1, 1) := by decide +kernel
theorem dX11_operand_177 : decode cX11_operand 177 = .ok (.iaload, 1) := by decide +kernel
theorem dX11_operand_178 : decode cX11_operand 178 = .ok (.invokevirtual 195, 3) := by decide +kernel
theorem dX11_operand_181 : decode cX11_operand 181 = .ok (.istore 4, 2) := by decide +kernel
theorem dX11_operand_183 : decode cX11_operand 183 = .ok (.iload 4, 2) := by decide +kernel
theorem dX11_operand_185 : decode cX11_operand 185 = .ok (.ifCond .ne 5, 3) := by decide +kernel
theorem dX11_operand_188 : decode cX11_operand 188 = .ok (.iconst 0, 1) := by decide +kernel
theorem dX11_operand_189 : decode cX11_operand 189 = .ok (.ireturn, 1) := by decide +kernel
theorem dX11_operand_190 : decode cX11_operand 190 = .ok (.aload_n 0, 1) := by decide +kernel
theorem dX11_operand_191 : decode cX11_operand 191 = .ok (.iload_n 3, 1) := by decide +kernel
theorem dX11_operand_192 : decode cX11_operand 192 = .ok (.iconst 0, 1) := by decide +kernel
theorem dX11_operand_193 : decode cX11_operand 193 = .ok (.aload_n 0, 1) := by decide +kernel
theorem dX11_operand_194 : decode cX11_operand 194 = .ok (.getfield 180, 3) := by decide +kernel
theorem dX11_operand_197 : decode cX11_operand 197 = .ok (.invokevirtual 425, 3) := by decide +kernel
theorem dX11_operand_200 : decode cX11_operand 200 = .ok (.aload_n 0, 1) := by decide +kernel
theorem dX11_operand_201 : decode cX11_operand 201 = .ok (.invokevirtual 173, 3) := by decide +kernel
theorem dX11_operand_204 : decode cX11_operand 204 = .ok (.iconst 1, 1) := by decide +kernel
theorem dX11_operand_205 : decode cX11_operand 205 = .ok (.ireturn, 1) := by decide +kernel
theorem dX11_operand_206 : decode cX11_operand 206 = .ok (.aload_n 0, 1) := by decide +kernel
theorem dX11_operand_207 : decode cX11_operand 207 = .ok (.getfield 144, 3) := by decide +kernel
theorem dX11_operand_210 : decode cX11_operand 210 = .ok (.iconst 3, 1) := by decide +kernel
theorem dX11_operand_211 : decode cX11_operand 211 = .ok (.if_icmp .ne 21, 3) := by decide +kernel
theorem dX11_operand_214 : decode cX11_operand 214 = .ok (.aload_n 0, 1) := by decide +kernel
theorem dX11_operand_215 : decode cX11_operand 215 = .ok (.getfield 154, 3) := by decide +kernel
theorem dX11_operand_218 : decode cX11_operand 218 = .ok (.bipush 60, 2) := by decide +kernel
theorem dX11_operand_220 : decode cX11_operand 220 = .ok (.if_icmp .lt 12, 3) := by decide +kernel
theorem dX11_operand_223 : decode cX11_operand 223 = .ok (.aload_n 0, 1) := by decide +kernel
theorem dX11_operand_224 : decode cX11_operand 224 = .ok (.getfield 154, 3) := by decide +kernel
theorem dX11_operand_227 : decode cX11_operand 227 = .ok (.bipush 62, 2) := by decide +kernel
theorem dX11_operand_229 : decode cX11_operand 229 = .ok (.if_icmp .le 9, 3) := by decide +kernel
theorem dX11_operand_232 : decode cX11_operand 232 = .ok (.aload_n 0, 1) := by decide +kernel
theorem dX11_operand_233 : decode cX11_operand 233 = .ok (.iconst 1, 1) := by decide +kernel
theorem dX11_operand_234 : decode cX11_operand 234 = .ok (.invokevirtual 170, 3) := by decide +kernel
theorem dX11_operand_237 : decode cX11_operand 237 = .ok (.ireturn, 1) := by decide +kernel
theorem dX11_operand_238 : decode cX11_operand 238 = .ok (.aload_n 0, 1) := by decide +kernel
theorem dX11_operand_239 : decode cX11_operand 239 = .ok (.getfield 154, 3) := by decide +kernel
theorem dX11_operand_242 : decode cX11_operand 242 = .ok (.istore 4, 2) := by decide +kernel
theorem dX11_operand_244 : decode cX11_operand 244 = .ok (.aload_n 0, 1) := by decide +kernel
theorem dX11_operand_245 : decode cX11_operand 245 = .ok (.invokevirtual 173, 3) := by decide +kernel
theorem dX11_operand_248 : decode cX11_operand 248 = .ok (.aload_n 0, 1) := by decide +kernel
theorem dX11_operand_249 : decode cX11_operand 249 = .ok (.getfield 144, 3) := by decide +kernel
theorem dX11_operand_252 : decode cX11_operand 252 = .ok (.iconst 2, 1) := by decide +kernel
theorem dX11_operand_253 : decode cX11_operand 253 = .ok (.if_icmp .eq 9, 3) := by decide +kernel
theorem dX11_operand_256 : decode cX11_operand 256 = .ok (.aload_n 0, 1) := by decide +kernel
theorem dX11_operand_257 : decode cX11_operand 257 = .ok (.iconst 1, 1) := by decide +kernel
theorem dX11_operand_258 : decode cX11_operand 258 = .ok (.invokevirtual 170, 3) := by decide +kernel
theorem dX11_operand_261 : decode cX11_operand 261 = .ok (.ireturn, 1) := by decide +kernel
theorem dX11_operand_262 : decode cX11_operand 262 = .ok (.aload_n 0, 1) := by decide +kernel
theorem dX11_operand_263 : decode cX11_operand 263 = .ok (.iload_n 3, 1) := by decide +kernel
theorem dX11_operand_264 : decode cX11_operand 264 = .ok (.iload 4, 2) := by decide +kernel
theorem dX11_operand_266 : decode cX11_operand 266 = .ok (.aload_n 0, 1) := by decide +kernel
theorem dX11_operand_267 : decode cX11_operand 267 = .ok (.getfield 154, 3) := by decide +kernel
theorem dX11_operand_270 : decode cX11_operand 270 = .ok (.invokevirtual 425, 3) := by decide +kernel
theorem dX11_operand_273 : decode cX11_operand 273 = .ok (.aload_n 0, 1) := by decide +kernel
theorem dX11_operand_274 : decode cX11_operand 274 = .ok (.invokevirtual 173, 3) := by decide +kernel
theorem dX11_operand_277 : decode cX11_operand 277 = .ok (.iconst 1, 1) := by decide +kernel
theorem dX11_operand_278 : decode cX11_operand 278 = .ok (.ireturn, 1) := by decide +kernel
theorem dX11_behind_0 : decode cX11_behind 0 = .ok (.aload_n 0, 1) := by decide +kernel
theorem dX11_behind_1 : decode cX11_behind 1 = .ok (.invokevirtual 441, 3) := by decide +kernel
theorem dX11_behind_4 : decode cX11_behind 4 = .ok (.aload_n 0, 1) := by decide +kernel
theorem dX11_behind_5 : decode cX11_behind 5 = .ok (.ldc2_w 111, 3) := by decide +kernel
theorem dX11_behind_8 : decode cX11_behind 8 = .ok (.invokevirtual 198, 3) := by decide +kernel
theorem dX11_behind_11 : decode cX11_behind 11 = .ok (.ifCond .ne 13, 3) := by decide +kernel
theorem dX11_behind_14 : decode cX11_behind 14 = .ok (.aload_n 0, 1) := by decide +kernel
theorem dX11_behind_15 : decode cX11_behind 15 = .ok (.ldc2_w 109, 3) := by decide +kernel
theorem dX11_behind_18 : decode cX11_behind 18 = .ok (.invokevirtual 198, 3) := by decide +kernel
theorem dX11_behind_21 : decode cX11_behind 21 = .ok (.ifCond .eq 71, 3) := by decide +kernel
theorem dX11_behind_24 : decode cX11_behind 24 = .ok (.aload_n 0, 1) := by decide +kernel
theorem dX11_behind_25 : decode cX11_behind 25 = .ok (.aload_n 0, 1) := by decide +kernel
theorem dX11_behind_26 : decode cX11_behind 26 = .ok (.ldc2_w 111, 3) := by decide +kernel
theorem dX11_behind_29 : decode cX11_behind 29 = .ok (.invokevirtual 198, 3) := by decide +kernel
theorem dX11_behind_32 : decode cX11_behind 32 = .ok (.ifCond .eq 8, 3) := by decide +kernel
theorem dX11_behind_35 : decode cX11_behind 35 = .ok (.bipush 21, 2) := by decide +kernel
theorem dX11_behind_37 : decode cX11_behind 37 = .ok (.goto 5, 3) := by decide +kernel
theorem dX11_behind_40 : decode cX11_behind 40 = .ok (.bipush 22, 2) := by decide +kernel
theorem dX11_behind_42 : decode cX11_behind 42 = .ok (.invokevirtual 444, 3) := by decide +kernel
theorem dX11_behind_45 : decode cX11_behind 45 = .ok (.aload_n 0, 1) := by decide +kernel
theorem dX11_behind_46 : decode cX11_behind 46 = .ok (.getfield 72, 3) := by decide +kernel
theorem dX11_behind_49 : decode cX11_behind 49 = .ok (.aload_n 0, 1) := by decide +kernel
theorem dX11_behind_50 : decode cX11_behind 50 = .ok (.getfield 422, 3) := by decide +kernel
theorem dX11_behind_53 : decode cX11_behind 53 = .ok (.aload_n 0, 1) := by decide +kernel
theorem dX11_behind_54 : decode cX11_behind 54 = .ok (.ldc2_w 111, 3) := by decide +kernel
theorem dX11_behind_57 : decode cX11_behind 57 = .ok (.invokevirtual 198, 3) := by decide +kernel
theorem dX11_behind_60 : decode cX11_behind 60 = .ok (.ifCond .eq 8, 3) := by decide +kernel
theorem dX11_behind_63 : decode cX11_behind 63 = .ok (.bipush 21, 2) := by decide +kernel
theorem dX11_behind_65 : decode cX11_behind 65 = .ok (.goto 5, 3) := by decide +kernel
theorem dX11_behind_68 : decode cX11_behind 68 = .ok (.bipush 22, 2) := by decide +kernel
theorem dX11_behind_70 : decode cX11_behind 70 = .ok (.iastore, 1) := by decide +kernel
theorem dX11_behind_71 : decode cX11_behind 71 = .ok (.aload_n 0, 1) := by decide +kernel
theorem dX11_behind_72 : decode cX11_behind 72 = .ok (.dup, 1) := by decide +kernel
theorem dX11_behind_73 : decode cX11_behind 73 = .ok (.getfield 422, 3) := by decide +kernel
theorem dX11_behind_76 : decode cX11_behind 76 = .ok (.iconst 1, 1) := by decide +kernel
theorem dX11_behind_77 : decode cX11_behind 77 = .ok (.iadd, 1) := by decide +kernel
theorem dX11_behind_78 : decode cX11_behind 78 = .ok (.putfield 422, 3) := by decide +kernel
theorem dX11_behind_81 : decode cX11_behind 81 = .ok (.aload_n 0, 1) := by decide +kernel
theorem dX11_behind_82 : decode cX11_behind 82 = .ok (.iconst 0, 1) := by decide +kernel
theorem dX11_behind_83 : decode cX11_behind 83 = .ok (.putfield 438, 3) := by decide +kernel
theorem dX11_behind_86 : decode cX11_behind 86 = .ok (.aload_n 0, 1) := by decide +kernel
theorem dX11_behind_87 : decode cX11_behind 87 = .ok (.invokevirtual 173, 3) := by decide +kernel
theorem dX11_behind_90 : decode cX11_behind 90 = .ok (.iconst 1, 1) := by decide +kernel
theorem dX11_behind_91 : decode cX11_behind 91 = .ok (.ireturn, 1) := by decide +kernel
theorem dX11_behind_92 : decode cX11_behind 92 = .ok (.aload_n 0, 1) := by decide +kernel
theorem dX11_behind_93 : decode cX11_behind 93 = .ok (.bipush 22, 2) := by decide +kernel
theorem dX11_behind_95 : decode cX11_behind 95 = .ok (.invokevirtual 444, 3) := by decide +kernel
theorem dX11_behind_98 : decode cX11_behind 98 = .ok (.aload_n 0, 1) := by decide +kernel
theorem dX11_behind_99 : decode cX11_behind 99 = .ok (.bipush 41, 2) := by decide +kernel
theorem dX11_behind_101 : decode cX11_behind 101 = .ok (.invokevirtual 167, 3) := by decide +kernel
theorem dX11_behind_104 : decode cX11_behind 104 = .ok (.ifCond .eq 10, 3) := by decide +kernel
theorem dX11_behind_107 : decode cX11_behind 107 = .ok (.aload_n 0, 1) := by decide +kernel
theorem dX11_behind_108 : decode cX11_behind 108 = .ok (.getfield 422, 3) := by decide +kernel
theorem dX11_behind_111 : decode cX11_behind 111 = .ok (.ifCond .ne 9, 3) := by decide +kernel
theorem dX11_behind_114 : decode cX11_behind 114 = .ok (.aload_n 0, 1) := by decide +kernel
theorem dX11_behind_115 : decode cX11_behind 115 = .ok (.iconst 1, 1) := by decide +kernel
theorem dX11_behind_116 : decode cX11_behind 116 = .ok (.invokevirtual 170, 3) := by decide +kernel
theorem dX11_behind_119 : decode cX11_behind 119 = .ok (.ireturn, 1) := by decide +kernel
theorem dX11_behind_120 : decode cX11_behind 120 = .ok (.aload_n 0, 1) := by decide +kernel
theorem dX11_behind_121 : decode cX11_behind 121 = .ok (.dup, 1) := by decide +kernel
theorem dX11_behind_122 : decode cX11_behind 122 = .ok (.getfield 422, 3) := by decide +kernel
theorem dX11_behind_125 : decode cX11_behind 125 = .ok (.iconst 1, 1) := by decide +kernel
theorem dX11_behind_126 : decode cX11_behind 126 = .ok (.isub, 1) := by decide +kernel
theorem dX11_behind_127 : decode cX11_behind 127 = .ok (.putfield 422, 3) := by decide +kernel
theorem dX11_behind_130 : decode cX11_behind 130 = .ok (.aload_n 0, 1) := by decide +kernel
theorem dX11_behind_131 : decode cX11_behind 131 = .ok (.dup, 1) := by decide +kernel
theorem dX11_behind_132 : decode cX11_behind 132 = .ok (.getfield 429, 3) := by decide +kernel
theorem dX11_behind_135 : decode cX11_behind 135 = .ok (.iconst 1, 1) := by decide +kernel
theorem dX11_behind_136 : decode cX11_behind 136 = .ok (.isub, 1) := by decide +kernel
theorem dX11_behind_137 : decode cX11_behind 137 = .ok (.putfield 429, 3) := by decide +kernel
theorem dX11_behind_140 : decode cX11_behind 140 = .ok (.aload_n 0, 1) := by decide +kernel
theorem dX11_behind_141 : decode cX11_behind 141 = .ok (.invokevirtual 173, 3) := by decide +kernel
theorem dX11_behind_144 : decode cX11_behind 144 = .ok (.iconst 1, 1) := by decide +kernel
theorem dX11_behind_145 : decode cX11_behind 145 = .ok (.ireturn, 1) := by decide +kernel
