theorem dX10_days_0 : decode cX10_days 0 = .ok (.iload_n 1, 1) := by decide +kernel
theorem dX10_days_1 : decode cX10_days 1 = .ok (.iconst 1, 1) := by decide +kernel
theorem dX10_days_2 : decode cX10_days 2 = .ok (.if_icmp .lt 9, 3) := by decide +kernel
theorem dX10_days_5 : decode cX10_days 5 = .ok (.iload_n 1, 1) := by decide +kernel
theorem dX10_days_6 : decode cX10_days 6 = .ok (.bipush 60, 2) := by decide +kernel
theorem dX10_days_8 : decode cX10_days 8 = .ok (.if_icmp .le 5, 3) := by decide +kernel
theorem dX10_days_11 : decode cX10_days 11 = .ok (.iconst (-1), 1) := by decide +kernel
theorem dX10_days_12 : decode cX10_days 12 = .ok (.ireturn, 1) := by decide +kernel
theorem dX10_days_13 : decode cX10_days 13 = .ok (.iload_n 1, 1) := by decide +kernel
theorem dX10_days_14 : decode cX10_days 14 = .ok (.aload_n 0, 1) := by decide +kernel
theorem dX10_days_15 : decode cX10_days 15 = .ok (.getfield 26, 3) := by decide +kernel
theorem dX10_days_18 : decode cX10_days 18 = .ok (.invokevirtual 247, 3) := by decide +kernel
theorem dX10_days_21 : decode cX10_days 21 = .ok (.invokestatic 251, 3) := by decide +kernel
theorem dX10_days_24 : decode cX10_days 24 = .ok (.istore_n 2, 1) := by decide +kernel
theorem dX10_days_25 : decode cX10_days 25 = .ok (.iload_n 2, 1) := by decide +kernel
theorem dX10_days_26 : decode cX10_days 26 = .ok (.ifCond .le 26, 3) := by decide +kernel
theorem dX10_days_29 : decode cX10_days 29 = .ok (.aload_n 0, 1) := by decide +kernel
theorem dX10_days_30 : decode cX10_days 30 = .ok (.getfield 40, 3) := by decide +kernel
theorem dX10_days_33 : decode cX10_days 33 = .ok (.aload_n 0, 1) := by decide +kernel
theorem dX10_days_34 : decode cX10_days 34 = .ok (.getfield 26, 3) := by decide +kernel
theorem dX10_days_37 : decode cX10_days 37 = .ok (.invokevirtual 221, 3) := by decide +kernel
theorem dX10_days_40 : decode cX10_days 40 = .ok (.aload_n 0, 1) := by decide +kernel
theorem dX10_days_41 : decode cX10_days 41 = .ok (.getfield 26, 3) := by decide +kernel
theorem dX10_days_44 : decode cX10_days 44 = .ok (.aload_n 0, 1) := by decide +kernel
theorem dX10_days_45 : decode cX10_days 45 = .ok (.getfield 19, 3) := by decide +kernel
theorem dX10_days_48 : decode cX10_days 48 = .ok (.iload_n 2, 1) := by decide +kernel
theorem dX10_days_49 : decode cX10_days 49 = .ok (.invokevirtual 256, 3) := by decide +kernel
theorem dX10_days_52 : decode cX10_days 52 = .ok (.iload_n 2, 1) := by decide +kernel
theorem dX10_days_53 : decode cX10_days 53 = .ok (.ireturn, 1) := by decide +kernel
theorem dX10_undo_0 : decode cX10_undo 0 = .ok (.aload_n 0, 1) := by decide +kernel
theorem dX10_undo_1 : decode cX10_undo 1 = .ok (.getfield 40, 3) := by decide +kernel
theorem dX10_undo_4 : decode cX10_undo 4 = .ok (.aload_n 0, 1) := by decide +kernel
theorem dX10_undo_5 : decode cX10_undo 5 = .ok (.getfield 26, 3) := by decide +kernel
theorem dX10_undo_8 : decode cX10_undo 8 = .ok (.invokevirtual 260, 3) := by decide +kernel
theorem dX10_undo_11 : decode cX10_undo 11 = .ok (.ireturn, 1) := by decide +kernel
theorem dX10_ease_0 : decode cX10_ease 0 = .ok (.aload_n 0, 1) := by decide +kernel
theorem dX10_ease_1 : decode cX10_ease 1 = .ok (.iload_n 1, 1) := by decide +kernel
theorem dX10_ease_2 : decode cX10_ease 2 = .ok (.invokevirtual 122, 3) := by decide +kernel
theorem dX10_ease_5 : decode cX10_ease 5 = .ok (.ifCond .eq 22, 3) := by decide +kernel
theorem dX10_ease_8 : decode cX10_ease 8 = .ok (.aload_n 0, 1) := by decide +kernel
theorem dX10_ease_9 : decode cX10_ease 9 = .ok (.getfield 54, 3) := by decide +kernel
theorem dX10_ease_12 : decode cX10_ease 12 = .ok (.aload_n 0, 1) := by decide +kernel
theorem dX10_ease_13 : decode cX10_ease 13 = .ok (.getfield 19, 3) := by decide +kernel
theorem dX10_ease_16 : decode cX10_ease 16 = .ok (.aload_n 0, 1) := by decide +kernel
theorem dX10_ease_17 : decode cX10_ease 17 = .ok (.getfield 26, 3) := by decide +kernel
theorem dX10_ease_20 : decode cX10_ease 20 = .ok (.iload_n 1, 1) := by decide +kernel
theorem dX10_ease_21 : decode cX10_ease 21 = .ok (.invokevirtual 264, 3) := by decide +kernel
theorem dX10_ease_24 : decode cX10_ease 24 = .ok (.goto 4, 3) := by decide +kernel
theorem dX10_ease_27 : decode cX10_ease 27 = .ok (.iconst (-1), 1) := by decide +kernel
theorem dX10_ease_28 : decode cX10_ease 28 = .ok (.ireturn, 1) := by decide +kernel
theorem dX10_nests_0 : decode cX10_nests 0 = .ok (.aload_n 0, 1) := by decide +kernel
theorem dX10_nests_1 : decode cX10_nests 1 = .ok (.iload_n 1, 1) := by decide +kernel
theorem dX10_nests_2 : decode cX10_nests 2 = .ok (.invokevirtual 122, 3) := by decide +kernel
theorem dX10_nests_5 : decode cX10_nests 5 = .ok (.ifCond .eq 22, 3) := by decide +kernel
theorem dX10_nests_8 : decode cX10_nests 8 = .ok (.aload_n 0, 1) := by decide +kernel
theorem dX10_nests_9 : decode cX10_nests 9 = .ok (.getfield 54, 3) := by decide +kernel
theorem dX10_nests_12 : decode cX10_nests 12 = .ok (.aload_n 0, 1) := by decide +kernel
theorem dX10_nests_13 : decode cX10_nests 13 = .ok (.getfield 19, 3) := by decide +kernel
theorem dX10_nests_16 : decode cX10_nests 16 = .ok (.aload_n 0, 1) := by decide +kernel
theorem dX10_nests_17 : decode cX10_nests 17 = .ok (.getfield 26, 3) := by decide +kernel
theorem dX10_nests_20 : decode cX10_nests 20 = .ok (.iload_n 1, 1) := by decide +kernel
theorem dX10_nests_21 : decode cX10_nests 21 = .ok (.invokevirtual 268, 3) := by decide +kernel
theorem dX10_nests_24 : decode cX10_nests 24 = .ok (.goto 4, 3) := by decide +kernel
theorem dX10_nests_27 : decode cX10_nests 27 = .ok (.iconst (-1), 1) := by decide +kernel
theorem dX10_nests_28 : decode cX10_nests 28 = .ok (.ireturn, 1) := by decide +kernel
theorem dX10_round_0 : decode cX10_round 0 = .ok (.iload_n 1, 1) := by decide +kernel
theorem dX10_round_1 : decode cX10_round 1 = .ok (.ifCond .lt 10, 3) := by decide +kernel
theorem dX10_round_4 : decode cX10_round 4 = .ok (.iload_n 1, 1) := by decide +kernel
theorem dX10_round_5 : decode cX10_round 5 = .ok (.sipush 999, 3) := by decide +kernel
theorem dX10_round_8 : decode cX10_round 8 = .ok (.if_icmp .le 5, 3) := by decide +kernel
theorem dX10_round_11 : decode cX10_round 11 = .ok (.iconst (-1), 1) := by decide +kernel
theorem dX10_round_12 : decode cX10_round 12 = .ok (.ireturn, 1) := by decide +kernel
theorem dX10_round_13 : decode cX10_round 13 = .ok (.aload_n 0, 1) := by decide +kernel
theorem dX10_round_14 : decode cX10_round 14 = .ok (.aload_n 0, 1) := by decide +kernel
theorem dX10_round_15 : decode cX10_round 15 = .ok (.getfield 54, 3) := by decide +kernel
theorem dX10_round_18 : decode cX10_round 18 = .ok (.aload_n 0, 1) := by decide +kernel
theorem dX10_round_19 : decode cX10_round 19 = .ok (.getfield 19, 3) := by decide +kernel
theorem dX10_round_22 : decode cX10_round 22 = .ok (.aload_n 0, 1) := by decide +kernel
theorem dX10_round_23 : decode cX10_round 23 = .ok (.getfield 26, 3) := by decide +kernel
theorem dX10_round_26 : decode cX10_round 26 = .ok (.iload_n 1, 1) := by decide +kernel
theorem dX10_round_27 : decode cX10_round 27 = .ok (.invokevirtual 271, 3) := by decide +kernel
theorem dX10_round_30 : decode cX10_round 30 = .ok (.putfield 85, 3) := by decide +kernel
theorem dX10_round_33 : decode cX10_round 33 = .ok (.aload_n 0, 1) := by decide +kernel
theorem dX10_round_34 : decode cX10_round 34 = .ok (.getfield 85, 3) := by decide +kernel
theorem dX10_round_37 : decode cX10_round 37 = .ok (.invokestatic 274, 3) := by decide +kernel
theorem dX10_round_40 : decode cX10_round 40 = .ok (.ireturn, 1) := by decide +kernel
theorem dX10_rounded_0 : decode cX10_rounded 0 = .ok (.aload_n 0, 1) := by decide +kernel
theorem dX10_rounded_1 : decode cX10_rounded 1 = .ok (.getfield 85, 3) := by decide +kernel
theorem dX10_rounded_4 : decode cX10_rounded 4 = .ok (.ireturn, 1) := by decide +kernel
theorem dX10_beds_0 : decode cX10_beds 0 = .ok (.aload_n 0, 1) := by decide +kernel
theorem dX10_beds_1 : decode cX10_beds 1 = .ok (.aload_n 0, 1) := by decide +kernel
theorem dX10_beds_2 : decode cX10_beds 2 = .ok (.getfield 54, 3) := by decide +kernel
theorem dX10_beds_5 : decode cX10_beds 5 = .ok (.aload_n 0, 1) := by decide +kernel
theorem dX10_beds_6 : decode cX10_beds 6 = .ok (.getfield 19, 3) := by decide +kernel
theorem dX10_beds_9 : decode cX10_beds 9 = .ok (.aload_n 0, 1) := by decide +kernel
theorem dX10_beds_10 : decode cX10_beds 10 = .ok (.getfield 26, 3) := by decide +kernel
theorem dX10_beds_13 : decode cX10_beds 13 = .ok (.invokevirtual 279, 3) := by decide +kernel
theorem dX10_beds_16 : decode cX10_beds 16 = .ok (.putfield 88, 3) := by decide +kernel
theorem dX10_beds_19 : decode cX10_beds 19 = .ok (.aload_n 0, 1) := by decide +kernel
theorem dX10_beds_20 : decode cX10_beds 20 = .ok (.getfield 88, 3) := by decide +kernel
theorem dX10_beds_23 : decode cX10_beds 23 = .ok (.invokestatic 274, 3) := by decide +kernel
theorem dX10_beds_26 : decode cX10_beds 26 = .ok (.ireturn, 1) := by decide +kernel
theorem dX10_bedded_0 : decode cX10_bedded 0 = .ok (.aload_n 0, 1) := by decide +kernel
theorem dX10_bedded_1 : decode cX10_bedded 1 = .ok (.getfield 88, 3) := by decide +kernel
theorem dX10_bedded_4 : decode cX10_bedded 4 = .ok (.ireturn, 1) := by decide +kernel
theorem dX10_fits_0 : decode cX10_fits 0 = .ok (.aload_n 0, 1) := by decide +kernel
theorem dX10_fits_1 : decode cX10_fits 1 = .ok (.getfield 10, 3) := by decide +kernel
theorem dX10_fits_4 : decode cX10_fits 4 = .ok (.getfield 94, 3) := by decide +kernel
theorem dX10_fits_7 : decode cX10_fits 7 = .ok (.istore_n 1, 1) := by decide +kernel
theorem dX10_fits_8 : decode cX10_fits 8 = .ok (.aload_n 0, 1) := by decide +kernel
theorem dX10_fits_9 : decode cX10_fits 9 = .ok (.getfield 10, 3) := by decide +kernel
theorem dX10_fits_12 : decode cX10_fits 12 = .ok (.iconst 0, 1) := by decide +kernel
theorem dX10_fits_13 : decode cX10_fits 13 = .ok (.putfield 94, 3) := by decide +kernel
theorem dX10_fits_16 : decode cX10_fits 16 = .ok (.iload_n 1, 1) := by decide +kernel
theorem dX10_fits_17 : decode cX10_fits 17 = .ok (.iconst 1, 1) := by decide +kernel
theorem dX10_fits_18 : decode cX10_fits 18 = .ok (.if_icmp .lt 9, 3) := by decide +kernel
theorem dX10_fits_21 : decode cX10_fits 21 = .ok (.iload_n 1, 1) := by decide +kernel
theorem dX10_fits_22 : decode cX10_fits 22 = .ok (.bipush 8, 2) := by decide +kernel
theorem dX10_fits_24 : decode cX10_fits 24 = .ok (.if_icmp .le 5, 3) := by decide +kernel
theorem dX10_fits_27 : decode cX10_fits 27 = .ok (.iconst (-1), 1) := by decide +kernel
theorem dX10_fits_28 : decode cX10_fits 28 = .ok (.ireturn, 1) := by decide +kernel
theorem dX10_fits_29 : decode cX10_fits 29 = .ok (.iconst 0, 1) := by decide +kernel
theorem dX10_fits_30 : decode cX10_fits 30 = .ok (.istore_n 2, 1) := by decide +kernel
theorem dX10_fits_31 : decode cX10_fits 31 = .ok (.iload_n 2, 1) := by decide +kernel
theorem dX10_fits_32 : decode cX10_fits 32 = .ok (.iload_n 1, 1) := by decide +kernel
theorem dX10_fits_33 : decode cX10_fits 33 = .ok (.if_icmp .ge 27, 3) := by decide +kernel
theorem dX10_fits_36 : decode cX10_fits 36 = .ok (.aload_n 0, 1) := by decide +kernel
theorem dX10_fits_37 : decode cX10_fits 37 = .ok (.aload_n 0, 1) := by decide +kernel
theorem dX10_fits_38 : decode cX10_fits 38 = .ok (.getfield 10, 3) := by decide +kernel
theorem dX10_fits_41 : decode cX10_fits 41 = .ok (.getfield 283, 3) := by decide +kernel
theorem dX10_fits_44 : decode cX10_fits 44 = .ok (.iload_n 2, 1) := by decide +kernel
theorem dX10_fits_45 : decode cX10_fits 45 = .ok (.iaload, 1) := by decide +kernel
theorem dX10_fits_46 : decode cX10_fits 46 = .ok (.invokevirtual 163, 3) := by decide +kernel
theorem dX10_fits_49 : decode cX10_fits 49 = .ok (.ifCond .ne 5, 3) := by decide +kernel
theorem dX10_fits_52 : decode cX10_fits 52 = .ok (.iconst (-1), 1) := by decide +kernel
theorem dX10_fits_53 : decode cX10_fits 53 = .ok (.ireturn, 1) := by decide +kernel
theorem dX10_fits_54 : decode cX10_fits 54 = .ok (.iinc 2 1, 3) := by decide +kernel
theorem dX10_fits_57 : decode cX10_fits 57 = .ok (.goto (-26), 3) := by decide +kernel
theorem dX10_fits_60 : decode cX10_fits 60 = .ok (.iconst 0, 1) := by decide +kernel
theorem dX10_fits_61 : decode cX10_fits 61 = .ok (.istore_n 2, 1) := by decide +kernel
theorem dX10_fits_62 : decode cX10_fits 62 = .ok (.iconst 0, 1) := by decide +kernel
theorem dX10_fits_63 : decode cX10_fits 63 = .ok (.istore_n 3, 1) := by decide +kernel
theorem dX10_fits_64 : decode cX10_fits 64 = .ok (.iload_n 3, 1) := by decide +kernel
theorem dX10_fits_65 : decode cX10_fits 65 = .ok (.aload_n 0, 1) := by decide +kernel
theorem dX10_fits_66 : decode cX10_fits 66 = .ok (.getfield 19, 3) := by decide +kernel
theorem dX10_fits_69 : decode cX10_fits 69 = .ok (.getfield 286, 3) := by decide +kernel
theorem dX10_fits_72 : decode cX10_fits 72 = .ok (.if_icmp .ge 34, 3) := by decide +kernel
theorem dX10_fits_75 : decode cX10_fits 75 = .ok (.aload_n 0, 1) := by decide +kernel
theorem dX10_fits_76 : decode cX10_fits 76 = .ok (.getfield 26, 3) := by decide +kernel
theorem dX10_fits_79 : decode cX10_fits 79 = .ok (.iload_n 3, 1) := by decide +kernel
theorem dX10_fits_80 : decode cX10_fits 80 = .ok (.aload_n 0, 1) := by decide +kernel
theorem dX10_fits_81 : decode cX10_fits 81 = .ok (.getfield 10, 3) := by decide +kernel
theorem dX10_fits_84 : decode cX10_fits 84 = .ok (.getfield 283, 3) := by decide +kernel
theorem dX10_fits_87 : decode cX10_fits 87 = .ok (.iload_n 1, 1) := by decide +kernel
theorem dX10_fits_88 : decode cX10_fits 88 = .ok (.invokevirtual 289, 3) := by decide +kernel
theorem dX10_fits_91 : decode cX10_fits 91 = .ok (.ifCond .eq 9, 3) := by decide +kernel
theorem dX10_fits_94 : decode cX10_fits 94 = .ok (.iload_n 2, 1) := by decide +kernel
theorem dX10_fits_95 : decode cX10_fits 95 = .ok (.iconst 1, 1) := by decide +kernel
theorem dX10_fits_96 : decode cX10_fits 96 = .ok (.iload_n 3, 1) := by decide +kernel
theorem dX10_fits_97 : decode cX10_fits 97 = .ok (.ishl, 1) := by decide +kernel
theorem dX10_fits_98 : decode cX10_fits 98 = .ok (.ior, 1) := by decide +kernel
theorem dX10_fits_99 : decode cX10_fits 99 = .ok (.istore_n 2, 1) := by decide +kernel
theorem dX10_fits_100 : decode cX10_fits 100 = .ok (.iinc 3 1, 3) := by decide +kernel
theorem dX10_fits_103 : decode cX10_fits 103 = .ok (.goto (-39), 3) := by decide +kernel
theorem dX10_fits_106 : decode cX10_fits 106 = .ok (.iload_n 2, 1) := by decide +kernel
theorem dX10_fits_107 : decode cX10_fits 107 = .ok (.ifCond .le 23, 3) := by decide +kernel
theorem dX10_fits_110 : decode cX10_fits 110 = .ok (.aload_n 0, 1) := by decide +kernel
theorem dX10_fits_111 : decode cX10_fits 111 = .ok (.aload_n 0, 1) := by decide +kernel
theorem dX10_fits_112 : decode cX10_fits 112 = .ok (.getfield 54, 3) := by decide +kernel
theorem dX10_fits_115 : decode cX10_fits 115 = .ok (.aload_n 0, 1) := by decide +kernel
theorem dX10_fits_116 : decode cX10_fits 116 = .ok (.getfield 19, 3) := by decide +kernel
theorem dX10_fits_119 : decode cX10_fits 119 = .ok (.aload_n 0, 1) := by decide +kernel
theorem dX10_fits_120 : decode cX10_fits 120 = .ok (.getfield 26, 3) := by decide +kernel
theorem dX10_fits_123 : decode cX10_fits 123 = .ok (.iload_n 2, 1) := by decide +kernel
theorem dX10_fits_124 : decode cX10_fits 124 = .ok (.invokevirtual 293, 3) := by decide +kernel
theorem dX10_fits_127 : decode cX10_fits 127 = .ok (.putfield 91, 3) := by decide +kernel
theorem dX10_fits_130 : decode cX10_fits 130 = .ok (.iload_n 2, 1) := by decide +kernel
theorem dX10_fits_131 : decode cX10_fits 131 = .ok (.ireturn, 1) := by decide +kernel
theorem dX10_ask_0 : decode cX10_ask 0 = .ok (.aload_n 0, 1) := by decide +kernel
theorem dX10_ask_1 : decode cX10_ask 1 = .ok (.getfield 91, 3) := by decide +kernel
theorem dX10_ask_4 : decode cX10_ask 4 = .ok (.ireturn, 1) := by decide +kernel
theorem dX10_like_0 : decode cX10_like 0 = .ok (.aload_n 0, 1) := by decide +kernel
theorem dX10_like_1 : decode cX10_like 1 = .ok (.iload_n 1, 1) := by decide +kernel
theorem dX10_like_2 : decode cX10_like 2 = .ok (.invokevirtual 122, 3) := by decide +kernel
theorem dX10_like_5 : decode cX10_like 5 = .ok (.ifCond .ne 5, 3) := by decide +kernel
theorem dX10_like_8 : decode cX10_like 8 = .ok (.iconst (-1), 1) := by decide +kernel
theorem dX10_like_9 : decode cX10_like 9 = .ok (.ireturn, 1) := by decide +kernel
theorem dX10_like_10 : decode cX10_like 10 = .ok (.iconst 0, 1) := by decide +kernel
theorem dX10_like_11 : decode cX10_like 11 = .ok (.istore_n 2, 1) := by decide +kernel
theorem dX10_like_12 : decode cX10_like 12 = .ok (.iconst 0, 1) := by decide +kernel
theorem dX10_like_13 : decode cX10_like 13 = .ok (.istore_n 3, 1) := by decide +kernel
theorem dX10_like_14 : decode cX10_like 14 = .ok (.iload_n 3, 1) := by decide +kernel
theorem dX10_like_15 : decode cX10_like 15 = .ok (.aload_n 0, 1) := by decide +kernel
theorem dX10_like_16 : decode cX10_like 16 = .ok (.getfield 19, 3) := by decide +kernel
theorem dX10_like_19 : decode cX10_like 19 = .ok (.getfield 286, 3) := by decide +kernel
theorem dX10_like_22 : decode cX10_like 22 = .ok (.if_icmp .ge 32, 3) := by decide +kernel
theorem dX10_like_25 : decode cX10_like 25 = .ok (.iload_n 3, 1) := by decide +kernel
theorem dX10_like_26 : decode cX10_like 26 = .ok (.iload_n 1, 1) := by decide +kernel
theorem dX10_like_27 : decode cX10_like 27 = .ok (.if_icmp .eq 21, 3) := by decide +kernel
theorem dX10_like_30 : decode cX10_like 30 = .ok (.aload_n 0, 1) := by decide +kernel
theorem dX10_like_31 : decode cX10_like 31 = .ok (.getfield 26, 3) := by decide +kernel
theorem dX10_like_34 : decode cX10_like 34 = .ok (.iload_n 1, 1) := by decide +kernel
theorem dX10_like_35 : decode cX10_like 35 = .ok (.iload_n 3, 1) := by decide +kernel
theorem dX10_like_36 : decode cX10_like 36 = .ok (.invokevirtual 296, 3) := by decide +kernel
theorem dX10_like_39 : decode cX10_like 39 = .ok (.ifCond .eq 9, 3) := by decide +kernel
theorem dX10_like_42 : decode cX10_like 42 = .ok (.iload_n 2, 1) := by decide +kernel
theorem dX10_like_43 : decode cX10_like 43 = .ok (.iconst 1, 1) := by decide +kernel
theorem dX10_like_44 : decode cX10_like 44 = .ok (.iload_n 3, 1) := by decide +kernel
theorem dX10_like_45 : decode cX10_like 45 = .ok (.ishl, 1) := by decide +kernel
theorem dX10_like_46 : decode cX10_like 46 = .ok (.ior, 1) := by decide +kernel
theorem dX10_like_47 : decode cX10_like 47 = .ok (.istore_n 2, 1) := by decide +kernel
theorem dX10_like_48 : decode cX10_like 48 = .ok (.iinc 3 1, 3) := by decide +kernel
theorem dX10_like_51 : decode cX10_like 51 = .ok (.goto (-37), 3) := by decide +kernel
theorem dX10_like_54 : decode cX10_like 54 = .ok (.iload_n 2, 1) := by decide +kernel
theorem dX10_like_55 : decode cX10_like 55 = .ok (.ireturn, 1) := by decide +kernel
theorem dX10_hardest_0 : decode cX10_hardest 0 = .ok (.iconst (-1), 1) := by decide +kernel
theorem dX10_hardest_1 : decode cX10_hardest 1 = .ok (.istore_n 1, 1) := by decide +kernel
theorem dX10_hardest_2 : decode cX10_hardest 2 = .ok (.iconst (-1), 1) := by decide +kernel
theorem dX10_hardest_3 : decode cX10_hardest 3 = .ok (.istore_n 2, 1) := by decide +kernel
theorem dX10_hardest_4 : decode cX10_hardest 4 = .ok (.iconst 0, 1) := by decide +kernel
theorem dX10_hardest_5 : decode cX10_hardest 5 = .ok (.istore_n 3, 1) := by decide +kernel
theorem dX10_hardest_6 : decode cX10_hardest 6 = .ok (.iload_n 3, 1) := by decide +kernel
theorem dX10_hardest_7 : decode cX10_hardest 7 = .ok (.aload_n 0, 1) := by decide +kernel
theorem dX10_hardest_8 : decode cX10_hardest 8 = .ok (.getfield 19, 3) := by decide +kernel
theorem dX10_hardest_11 : decode cX10_hardest 11 = .ok (.getfield 286, 3) := by decide +kernel
theorem dX10_hardest_14 : decode cX10_hardest 14 = .ok (.if_icmp .ge 34, 3) := by decide +kernel
theorem dX10_hardest_17 : decode cX10_hardest 17 = .ok (.aload_n 0, 1) := by decide +kernel
theorem dX10_hardest_18 : decode cX10_hardest 18 = .ok (.getfield 26, 3) := by decide +kernel
theorem dX10_hardest_21 : decode cX10_hardest 21 = .ok (.aload_n 0, 1) := by decide +kernel
theorem dX10_hardest_22 : decode cX10_hardest 22 = .ok (.getfield 19, 3) := by decide +kernel
theorem dX10_hardest_25 : decode cX10_hardest 25 = .ok (.iload_n 3, 1) := by decide +kernel
theorem dX10_hardest_26 : decode cX10_hardest 26 = .ok (.invokevirtual 151, 3) := by decide +kernel
theorem dX10_hardest_29 : decode cX10_hardest 29 = .ok (.istore 4, 2) := by decide +kernel
theorem dX10_hardest_31 : decode cX10_hardest 31 = .ok (.iload 4, 2) := by decide +kernel
theorem dX10_hardest_33 : decode cX10_hardest 33 = .ok (.iload_n 2, 1) := by decide +kernel
theorem dX10_hardest_34 : decode cX10_hardest 34 = .ok (.if_icmp .le 8, 3) := by decide +kernel
theorem dX10_hardest_37 : decode cX10_hardest 37 = .ok (.iload 4, 2) := by decide +kernel
theorem dX10_hardest_39 : decode cX10_hardest 39 = .ok (.istore_n 2, 1) := by decide +kernel
theorem dX10_hardest_40 : decode cX10_hardest 40 = .ok (.iload_n 3, 1) := by decide +kernel
theorem dX10_hardest_41 : decode cX10_hardest 41 = .ok (.istore_n 1, 1) := by decide +kernel
theorem dX10_hardest_42 : decode cX10_hardest 42 = .ok (.iinc 3 1, 3) := by decide +kernel
theorem dX10_hardest_45 : decode cX10_hardest 45 = .ok (.goto (-39), 3) := by decide +kernel
theorem dX10_hardest_48 : decode cX10_hardest 48 = .ok (.iload_n 1, 1) := by decide +kernel
theorem dX10_hardest_49 : decode cX10_hardest 49 = .ok (.ireturn, 1) := by decide +kernel
theorem dX10_mean_0 : decode cX10_mean 0 = .ok (.aload_n 0, 1) := by decide +kernel
theorem dX10_mean_1 : decode cX10_mean 1 = .ok (.iload_n 1, 1) := by decide +kernel
theorem dX10_mean_2 : decode cX10_mean 2 = .ok (.invokevirtual 122, 3) := by decide +kernel
theorem dX10_mean_5 : decode cX10_mean 5 = .ok (.ifCond .eq 12, 3) := by decide +kernel
theorem dX10_mean_8 : decode cX10_mean 8 = .ok (.iload_n 2, 1) := by decide +kernel
theorem dX10_mean_9 : decode cX10_mean 9 = .ok (.ifCond .lt 8, 3) := by decide +kernel
theorem dX10_mean_12 : decode cX10_mean 12 = .ok (.iload_n 2, 1) := by decide +kernel
theorem dX10_mean_13 : decode cX10_mean 13 = .ok (.iconst 1, 1) := by decide +kernel
theorem dX10_mean_14 : decode cX10_mean 14 = .ok (.if_icmp .le 14, 3) := by decide +kernel
theorem dX10_mean_17 : decode cX10_mean 17 = .ok (.new 126, 3) := by decide +kernel
theorem dX10_mean_20 : decode cX10_mean 20 = .ok (.dup, 1) := by decide +kernel
theorem dX10_mean_21 : decode cX10_mean 21 = .ok (.ldc_w 300, 3) := by decide +kernel
theorem dX10_mean_24 : decode cX10_mean 24 = .ok (.invokespecial 130, 3) := by decide +kernel
theorem dX10_mean_27 : decode cX10_mean 27 = .ok (.athrow, 1) := by decide +kernel
theorem dX10_mean_28 : decode cX10_mean 28 = .ok (.aload_n 0, 1) := by decide +kernel
theorem dX10_mean_29 : decode cX10_mean 29 = .ok (.getfield 26, 3) := by decide +kernel
theorem dX10_mean_32 : decode cX10_mean 32 = .ok (.iload_n 1, 1) := by decide +kernel
theorem dX10_mean_33 : decode cX10_mean 33 = .ok (.invokevirtual 143, 3) := by decide +kernel
theorem dX10_mean_36 : decode cX10_mean 36 = .ok (.istore_n 3, 1) := by decide +kernel
theorem dX10_mean_37 : decode cX10_mean 37 = .ok (.iload_n 3, 1) := by decide +kernel
theorem dX10_mean_38 : decode cX10_mean 38 = .ok (.iconst 1, 1) := by decide +kernel
theorem dX10_mean_39 : decode cX10_mean 39 = .ok (.if_icmp .ge 14, 3) := by decide +kernel
theorem dX10_mean_42 : decode cX10_mean 42 = .ok (.new 126, 3) := by decide +kernel
theorem dX10_mean_45 : decode cX10_mean 45 = .ok (.dup, 1) := by decide +kernel
theorem dX10_mean_46 : decode cX10_mean 46 = .ok (.ldc_w 302, 3) := by decide +kernel
theorem dX10_mean_49 : decode cX10_mean 49 = .ok (.invokespecial 130, 3) := by decide +kernel
theorem dX10_mean_52 : decode cX10_mean 52 = .ok (.athrow, 1) := by decide +kernel
theorem dX10_mean_53 : decode cX10_mean 53 = .ok (.aload_n 0, 1) := by decide +kernel
theorem dX10_mean_54 : decode cX10_mean 54 = .ok (.getfield 26, 3) := by decide +kernel
theorem dX10_mean_57 : decode cX10_mean 57 = .ok (.aload_n 0, 1) := by decide +kernel
theorem dX10_mean_58 : decode cX10_mean 58 = .ok (.getfield 19, 3) := by decide +kernel
theorem dX10_mean_61 : decode cX10_mean 61 = .ok (.iload_n 1, 1) := by decide +kernel
theorem dX10_mean_62 : decode cX10_mean 62 = .ok (.invokevirtual 151, 3) := by decide +kernel
theorem dX10_mean_65 : decode cX10_mean 65 = .ok (.istore 4, 2) := by decide +kernel
theorem dX10_mean_67 : decode cX10_mean 67 = .ok (.iload_n 3, 1) := by decide +kernel
theorem dX10_mean_68 : decode cX10_mean 68 = .ok (.istore 5, 2) := by decide +kernel
theorem dX10_mean_70 : decode cX10_mean 70 = .ok (.iload_n 3, 1) := by decide +kernel
theorem dX10_mean_71 : decode cX10_mean 71 = .ok (.istore 6, 2) := by decide +kernel
theorem dX10_mean_73 : decode cX10_mean 73 = .ok (.iload 6, 2) := by decide +kernel
theorem dX10_mean_75 : decode cX10_mean 75 = .ok (.iconst 1, 1) := by decide +kernel
theorem dX10_mean_76 : decode cX10_mean 76 = .ok (.if_icmp .le 39, 3) := by decide +kernel
theorem dX10_mean_79 : decode cX10_mean 79 = .ok (.iload 4, 2) := by decide +kernel
theorem dX10_mean_81 : decode cX10_mean 81 = .ok (.iload 6, 2) := by decide +kernel
theorem dX10_mean_83 : decode cX10_mean 83 = .ok (.irem, 1) := by decide +kernel
theorem dX10_mean_84 : decode cX10_mean 84 = .ok (.ifCond .ne 25, 3) := by decide +kernel
theorem dX10_mean_87 : decode cX10_mean 87 = .ok (.iload 5, 2) := by decide +kernel
theorem dX10_mean_89 : decode cX10_mean 89 = .ok (.iload 6, 2) := by decide +kernel
theorem dX10_mean_91 : decode cX10_mean 91 = .ok (.irem, 1) := by decide +kernel
theorem dX10_mean_92 : decode cX10_mean 92 = .ok (.ifCond .ne 17, 3) := by decide +kernel
theorem dX10_mean_95 : decode cX10_mean 95 = .ok (.iload 4, 2) := by decide +kernel
theorem dX10_mean_97 : decode cX10_mean 97 = .ok (.iload 6, 2) := by decide +kernel
theorem dX10_mean_99 : decode cX10_mean 99 = .ok (.idiv, 1) := by decide +kernel
theorem dX10_mean_100 : decode cX10_mean 100 = .ok (.istore 4, 2) := by decide +kernel
theorem dX10_mean_102 : decode cX10_mean 102 = .ok (.iload 5, 2) := by decide +kernel
theorem dX10_mean_104 : decode cX10_mean 104 = .ok (.iload 6, 2) := by decide +kernel
theorem dX10_mean_106 : decode cX10_mean 106 = .ok (.idiv, 1) := by decide +kernel
theorem dX10_mean_107 : decode cX10_mean 107 = .ok (.istore 5, 2) := by decide +kernel
theorem dX10_mean_109 : decode cX10_mean 109 = .ok (.iinc 6 (-1), 3) := by decide +kernel
theorem dX10_mean_112 : decode cX10_mean 112 = .ok (.goto (-39), 3) := by decide +kernel
theorem dX10_mean_115 : decode cX10_mean 115 = .ok (.iload_n 2, 1) := by decide +kernel
theorem dX10_mean_116 : decode cX10_mean 116 = .ok (.ifCond .ne 8, 3) := by decide +kernel
theorem dX10_mean_119 : decode cX10_mean 119 = .ok (.iload 4, 2) := by decide +kernel
theorem dX10_mean_121 : decode cX10_mean 121 = .ok (.goto 5, 3) := by decide +kernel
theorem dX10_mean_124 : decode cX10_mean 124 = .ok (.iload 5, 2) := by decide +kernel
theorem dX10_mean_126 : decode cX10_mean 126 = .ok (.ireturn, 1) := by decide +kernel
theorem dX10_tag_0 : decode cX10_tag 0 = .ok (.aload_n 0, 1) := by decide +kernel
theorem dX10_tag_1 : decode cX10_tag 1 = .ok (.iload_n 1, 1) := by decide +kernel
theorem dX10_tag_2 : decode cX10_tag 2 = .ok (.invokevirtual 122, 3) := by decide +kernel
theorem dX10_tag_5 : decode cX10_tag 5 = .ok (.ifCond .ne 5, 3) := by decide +kernel
theorem dX10_tag_8 : decode cX10_tag 8 = .ok (.iconst (-1), 1) := by decide +kernel
theorem dX10_tag_9 : decode cX10_tag 9 = .ok (.ireturn, 1) := by decide +kernel
theorem dX10_tag_10 : decode cX10_tag 10 = .ok (.aload_n 0, 1) := by decide +kernel
theorem dX10_tag_11 : decode cX10_tag 11 = .ok (.getfield 68, 3) := by decide +kernel
theorem dX10_tag_14 : decode cX10_tag 14 = .ok (.aload_n 0, 1) := by decide +kernel
theorem dX10_tag_15 : decode cX10_tag 15 = .ok (.getfield 19, 3) := by decide +kernel
theorem dX10_tag_18 : decode cX10_tag 18 = .ok (.aload_n 0, 1) := by decide +kernel
theorem dX10_tag_19 : decode cX10_tag 19 = .ok (.getfield 26, 3) := by decide +kernel
theorem dX10_tag_22 : decode cX10_tag 22 = .ok (.iload_n 1, 1) := by decide +kernel
theorem dX10_tag_23 : decode cX10_tag 23 = .ok (.invokevirtual 304, 3) := by decide +kernel
theorem dX10_tag_26 : decode cX10_tag 26 = .ok (.aload_n 0, 1) := by decide +kernel
theorem dX10_tag_27 : decode cX10_tag 27 = .ok (.getfield 68, 3) := by decide +kernel
theorem dX10_tag_30 : decode cX10_tag 30 = .ok (.getfield 308, 3) := by decide +kernel
theorem dX10_tag_33 : decode cX10_tag 33 = .ok (.ireturn, 1) := by decide +kernel
theorem dX10_byteAt_0 : decode cX10_byteAt 0 = .ok (.iload_n 1, 1) := by decide +kernel
theorem dX10_byteAt_1 : decode cX10_byteAt 1 = .ok (.ifCond .lt 14, 3) := by decide +kernel
theorem dX10_byteAt_4 : decode cX10_byteAt 4 = .ok (.iload_n 1, 1) := by decide +kernel
theorem dX10_byteAt_5 : decode cX10_byteAt 5 = .ok (.aload_n 0, 1) := by decide +kernel
theorem dX10_byteAt_6 : decode cX10_byteAt 6 = .ok (.getfield 68, 3) := by decide +kernel
theorem dX10_byteAt_9 : decode cX10_byteAt 9 = .ok (.getfield 308, 3) := by decide +kernel
theorem dX10_byteAt_12 : decode cX10_byteAt 12 = .ok (.if_icmp .lt 7, 3) := by decide +kernel
theorem dX10_byteAt_15 : decode cX10_byteAt 15 = .ok (.iconst (-1), 1) := by decide +kernel
theorem dX10_byteAt_16 : decode cX10_byteAt 16 = .ok (.goto 12, 3) := by decide +kernel
theorem dX10_byteAt_19 : decode cX10_byteAt 19 = .ok (.aload_n 0, 1) := by decide +kernel
theorem dX10_byteAt_20 : decode cX10_byteAt 20 = .ok (.getfield 68, 3) := by decide +kernel
theorem dX10_byteAt_23 : decode cX10_byteAt 23 = .ok (.getfield 311, 3) := by decide +kernel
theorem dX10_byteAt_26 : decode cX10_byteAt 26 = .ok (.iload_n 1, 1) := by decide +kernel
theorem dX10_byteAt_27 : decode cX10_byteAt 27 = .ok (.iaload, 1) := by decide +kernel
theorem dX10_byteAt_28 : decode cX10_byteAt 28 = .ok (.ireturn, 1) := by decide +kernel
theorem dX10_drawn_0 : decode cX10_drawn 0 = .ok (.iload_n 1, 1) := by decide +kernel
theorem dX10_drawn_1 : decode cX10_drawn 1 = .ok (.iconst 1, 1) := by decide +kernel
theorem dX10_drawn_2 : decode cX10_drawn 2 = .ok (.if_icmp .lt 9, 3) := by decide +kernel
theorem dX10_drawn_5 : decode cX10_drawn 5 = .ok (.iload_n 1, 1) := by decide +kernel
theorem dX10_drawn_6 : decode cX10_drawn 6 = .ok (.bipush 60, 2) := by decide +kernel
theorem dX10_drawn_8 : decode cX10_drawn 8 = .ok (.if_icmp .le 5, 3) := by decide +kernel
theorem dX10_drawn_11 : decode cX10_drawn 11 = .ok (.iconst (-1), 1) := by decide +kernel
theorem dX10_drawn_12 : decode cX10_drawn 12 = .ok (.ireturn, 1) := by decide +kernel
theorem dX10_drawn_13 : decode cX10_drawn 13 = .ok (.iload_n 1, 1) := by decide +kernel
theorem dX10_drawn_14 : decode cX10_drawn 14 = .ok (.aload_n 0, 1) := by decide +kernel
theorem dX10_drawn_15 : decode cX10_drawn 15 = .ok (.getfield 26, 3) := by decide +kernel
theorem dX10_drawn_18 : decode cX10_drawn 18 = .ok (.invokevirtual 247, 3) := by decide +kernel
theorem dX10_drawn_21 : decode cX10_drawn 21 = .ok (.invokestatic 251, 3) := by decide +kernel
theorem dX10_drawn_24 : decode cX10_drawn 24 = .ok (.istore_n 3, 1) := by decide +kernel
theorem dX10_drawn_25 : decode cX10_drawn 25 = .ok (.iload_n 3, 1) := by decide +kernel
theorem dX10_drawn_26 : decode cX10_drawn 26 = .ok (.ifCond .le 27, 3) := by decide +kernel
theorem dX10_drawn_29 : decode cX10_drawn 29 = .ok (.aload_n 0, 1) := by decide +kernel
theorem dX10_drawn_30 : decode cX10_drawn 30 = .ok (.getfield 40, 3) := by decide +kernel
theorem dX10_drawn_33 : decode cX10_drawn 33 = .ok (.aload_n 0, 1) := by decide +kernel
theorem dX10_drawn_34 : decode cX10_drawn 34 = .ok (.getfield 26, 3) := by decide +kernel
theorem dX10_drawn_37 : decode cX10_drawn 37 = .ok (.invokevirtual 221, 3) := by decide +kernel
theorem dX10_drawn_40 : decode cX10_drawn 40 = .ok (.aload_n 0, 1) := by decide +kernel
theorem dX10_drawn_41 : decode cX10_drawn 41 = .ok (.getfield 26, 3) := by decide +kernel
theorem dX10_drawn_44 : decode cX10_drawn 44 = .ok (.aload_n 0, 1) := by decide +kernel
theorem dX10_drawn_45 : decode cX10_drawn 45 = .ok (.getfield 19, 3) := by decide +kernel
theorem dX10_drawn_48 : decode cX10_drawn 48 = .ok (.iload_n 3, 1) := by decide +kernel
theorem dX10_drawn_49 : decode cX10_drawn 49 = .ok (.iload_n 2, 1) := by decide +kernel
theorem dX10_drawn_50 : decode cX10_drawn 50 = .ok (.invokevirtual 312, 3) := by decide +kernel
theorem dX10_drawn_53 : decode cX10_drawn 53 = .ok (.iload_n 3, 1) := by decide +kernel
theorem dX10_drawn_54 : decode cX10_drawn 54 = .ok (.ireturn, 1) := by decide +kernel
theorem dX10_odds_0 : decode cX10_odds 0 = .ok (.aload_n 0, 1) := by decide +kernel
theorem dX10_odds_1 : decode cX10_odds 1 = .ok (.iload_n 1, 1) := by decide +kernel
theorem dX10_odds_2 : decode cX10_odds 2 = .ok (.invokevirtual 122, 3) := by decide +kernel
theorem dX10_odds_5 : decode cX10_odds 5 = .ok (.ifCond .eq 14, 3) := by decide +kernel
theorem dX10_odds_8 : decode cX10_odds 8 = .ok (.iload_n 2, 1) := by decide +kernel
theorem dX10_odds_9 : decode cX10_odds 9 = .ok (.iconst 1, 1) := by decide +kernel
theorem dX10_odds_10 : decode cX10_odds 10 = .ok (.if_icmp .lt 9, 3) := by decide +kernel
theorem dX10_odds_13 : decode cX10_odds 13 = .ok (.iload_n 2, 1) := by decide +kernel
theorem dX10_odds_14 : decode cX10_odds 14 = .ok (.bipush 30, 2) := by decide +kernel
theorem dX10_odds_16 : decode cX10_odds 16 = .ok (.if_icmp .le 5, 3) := by decide +kernel
theorem dX10_odds_19 : decode cX10_odds 19 = .ok (.iconst (-1), 1) := by decide +kernel
theorem dX10_odds_20 : decode cX10_odds 20 = .ok (.ireturn, 1) := by decide +kernel
theorem dX10_odds_21 : decode cX10_odds 21 = .ok (.iconst 0, 1) := by decide +kernel
theorem dX10_odds_22 : decode cX10_odds 22 = .ok (.istore 4, 2) := by decide +kernel
theorem dX10_odds_24 : decode cX10_odds 24 = .ok (.iconst 0, 1) := by decide +kernel
theorem dX10_odds_25 : decode cX10_odds 25 = .ok (.istore 5, 2) := by decide +kernel
theorem dX10_odds_27 : decode cX10_odds 27 = .ok (.iload 5, 2) := by decide +kernel
theorem dX10_odds_29 : decode cX10_odds 29 = .ok (.iload_n 2, 1) := by decide +kernel
theorem dX10_odds_30 : decode cX10_odds 30 = .ok (.if_icmp .ge 61, 3) := by decide +kernel
theorem dX10_odds_33 : decode cX10_odds 33 = .ok (.aload_n 0, 1) := by decide +kernel
theorem dX10_odds_34 : decode cX10_odds 34 = .ok (.getfield 78, 3) := by decide +kernel
theorem dX10_odds_37 : decode cX10_odds 37 = .ok (.aload_n 0, 1) := by decide +kernel
theorem dX10_odds_38 : decode cX10_odds 38 = .ok (.getfield 26, 3) := by decide +kernel
theorem dX10_odds_41 : decode cX10_odds 41 = .ok (.invokevirtual 115, 3) := by decide +kernel
theorem dX10_odds_44 : decode cX10_odds 44 = .ok (.aload_n 0, 1) := by decide +kernel
theorem dX10_odds_45 : decode cX10_odds 45 = .ok (.getfield 78, 3) := by decide +kernel
theorem dX10_odds_48 : decode cX10_odds 48 = .ok (.aload_n 0, 1) := by decide +kernel
theorem dX10_odds_49 : decode cX10_odds 49 = .ok (.getfield 19, 3) := by decide +kernel
theorem dX10_odds_52 : decode cX10_odds 52 = .ok (.bipush 10, 2) := by decide +kernel
theorem dX10_odds_54 : decode cX10_odds 54 = .ok (.aload_n 0, 1) := by decide +kernel
theorem dX10_odds_55 : decode cX10_odds 55 = .ok (.getfield 78, 3) := by decide +kernel
theorem dX10_odds_58 : decode cX10_odds 58 = .ok (.invokevirtual 247, 3) := by decide +kernel
theorem dX10_odds_61 : decode cX10_odds 61 = .ok (.invokestatic 251, 3) := by decide +kernel
theorem dX10_odds_64 : decode cX10_odds 64 = .ok (.iload_n 3, 1) := by decide +kernel
theorem dX10_odds_65 : decode cX10_odds 65 = .ok (.iload 5, 2) := by decide +kernel
theorem dX10_odds_67 : decode cX10_odds 67 = .ok (.iadd, 1) := by decide +kernel
theorem dX10_odds_68 : decode cX10_odds 68 = .ok (.invokevirtual 312, 3) := by decide +kernel
theorem dX10_odds_71 : decode cX10_odds 71 = .ok (.aload_n 0, 1) := by decide +kernel
theorem dX10_odds_72 : decode cX10_odds 72 = .ok (.getfield 78, 3) := by decide +kernel
theorem dX10_odds_75 : decode cX10_odds 75 = .ok (.iload_n 1, 1) := by decide +kernel
theorem dX10_odds_76 : decode cX10_odds 76 = .ok (.invokevirtual 154, 3) := by decide +kernel
theorem dX10_odds_79 : decode cX10_odds 79 = .ok (.ifCond .eq 6, 3) := by decide +kernel
theorem dX10_odds_82 : decode cX10_odds 82 = .ok (.iinc 4 1, 3) := by decide +kernel
theorem dX10_odds_85 : decode cX10_odds 85 = .ok (.iinc 5 1, 3) := by decide +kernel
theorem dX10_odds_88 : decode cX10_odds 88 = .ok (.goto (-61), 3) := by decide +kernel
theorem dX10_odds_91 : decode cX10_odds 91 = .ok (.iload 4, 2) := by decide +kernel
theorem dX10_odds_93 : decode cX10_odds 93 = .ok (.ireturn, 1) := by decide +kernel
theorem dX10_book_0 : decode cX10_book 0 = .ok (.iload_n 1, 1) := by decide +kernel
theorem dX10_book_1 : decode cX10_book 1 = .ok (.ifCond .lt 8, 3) := by decide +kernel
theorem dX10_book_4 : decode cX10_book 4 = .ok (.iload_n 1, 1) := by decide +kernel
theorem dX10_book_5 : decode cX10_book 5 = .ok (.iconst 1, 1) := by decide +kernel
theorem dX10_book_6 : decode cX10_book 6 = .ok (.if_icmp .le 7, 3) := by decide +kernel
theorem dX10_book_9 : decode cX10_book 9 = .ok (.sipush (-1000), 3) := by decide +kernel
theorem dX10_book_12 : decode cX10_book 12 = .ok (.ireturn, 1) := by decide +kernel
theorem dX10_book_13 : decode cX10_book 13 = .ok (.aload_n 0, 1) := by decide +kernel
theorem dX10_book_14 : decode cX10_book 14 = .ok (.getfield 61, 3) := by decide +kernel
theorem dX10_book_17 : decode cX10_book 17 = .ok (.aload_n 0, 1) := by decide +kernel
theorem dX10_book_18 : decode cX10_book 18 = .ok (.getfield 10, 3) := by decide +kernel
theorem dX10_book_21 : decode cX10_book 21 = .ok (.aload_n 0, 1) := by decide +kernel
theorem dX10_book_22 : decode cX10_book 22 = .ok (.getfield 19, 3) := by decide +kernel
theorem dX10_book_25 : decode cX10_book 25 = .ok (.invokevirtual 315, 3) := by decide +kernel
theorem dX10_book_28 : decode cX10_book 28 = .ok (.aload_n 0, 1) := by decide +kernel
theorem dX10_book_29 : decode cX10_book 29 = .ok (.getfield 10, 3) := by decide +kernel
theorem dX10_book_32 : decode cX10_book 32 = .ok (.iconst 0, 1) := by decide +kernel
theorem dX10_book_33 : decode cX10_book 33 = .ok (.putfield 94, 3) := by decide +kernel
theorem dX10_book_36 : decode cX10_book 36 = .ok (.aload_n 0, 1) := by decide +kernel
theorem dX10_book_37 : decode cX10_book 37 = .ok (.aload_n 0, 1) := by decide +kernel
theorem dX10_book_38 : decode cX10_book 38 = .ok (.getfield 10, 3) := by decide +kernel
theorem dX10_book_41 : decode cX10_book 41 = .ok (.getfield 105, 3) := by decide +kernel
theorem dX10_book_44 : decode cX10_book 44 = .ok (.putfield 81, 3) := by decide +kernel
theorem dX10_book_47 : decode cX10_book 47 = .ok (.aload_n 0, 1) := by decide +kernel
theorem dX10_book_48 : decode cX10_book 48 = .ok (.getfield 81, 3) := by decide +kernel
theorem dX10_book_51 : decode cX10_book 51 = .ok (.ifCond .eq 14, 3) := by decide +kernel
theorem dX10_book_54 : decode cX10_book 54 = .ok (.bipush (-2), 2) := by decide +kernel
theorem dX10_book_56 : decode cX10_book 56 = .ok (.aload_n 0, 1) := by decide +kernel
theorem dX10_book_57 : decode cX10_book 57 = .ok (.getfield 10, 3) := by decide +kernel
theorem dX10_book_60 : decode cX10_book 60 = .ok (.getfield 108, 3) := by decide +kernel
theorem dX10_book_63 : decode cX10_book 63 = .ok (.isub, 1) := by decide +kernel
theorem dX10_book_64 : decode cX10_book 64 = .ok (.ireturn, 1) := by decide +kernel
theorem dX10_book_65 : decode cX10_book 65 = .ok (.aload_n 0, 1) := by decide +kernel
theorem dX10_book_66 : decode cX10_book 66 = .ok (.getfield 78, 3) := by decide +kernel
theorem dX10_book_69 : decode cX10_book 69 = .ok (.aload_n 0, 1) := by decide +kernel
theorem dX10_book_70 : decode cX10_book 70 = .ok (.getfield 26, 3) := by decide +kernel
theorem dX10_book_73 : decode cX10_book 73 = .ok (.invokevirtual 115, 3) := by decide +kernel
theorem dX10_book_76 : decode cX10_book 76 = .ok (.aload_n 0, 1) := by decide +kernel
theorem dX10_book_77 : decode cX10_book 77 = .ok (.getfield 61, 3) := by decide +kernel
theorem dX10_book_80 : decode cX10_book 80 = .ok (.aload_n 0, 1) := by decide +kernel
theorem dX10_book_81 : decode cX10_book 81 = .ok (.getfield 19, 3) := by decide +kernel
theorem dX10_book_84 : decode cX10_book 84 = .ok (.aload_n 0, 1) := by decide +kernel
theorem dX10_book_85 : decode cX10_book 85 = .ok (.getfield 78, 3) := by decide +kernel
theorem dX10_book_88 : decode cX10_book 88 = .ok (.invokevirtual 318, 3) := by decide +kernel
theorem dX10_book_91 : decode cX10_book 91 = .ok (.iload_n 1, 1) := by decide +kernel
theorem dX10_book_92 : decode cX10_book 92 = .ok (.iconst 1, 1) := by decide +kernel
theorem dX10_book_93 : decode cX10_book 93 = .ok (.if_icmp .ne 35, 3) := by decide +kernel
theorem dX10_book_96 : decode cX10_book 96 = .ok (.aload_n 0, 1) := by decide +kernel
theorem dX10_book_97 : decode cX10_book 97 = .ok (.getfield 61, 3) := by decide +kernel
theorem dX10_book_100 : decode cX10_book 100 = .ok (.getfield 322, 3) := by decide +kernel
theorem dX10_book_103 : decode cX10_book 103 = .ok (.ifCond .le 25, 3) := by decide +kernel
theorem dX10_book_106 : decode cX10_book 106 = .ok (.aload_n 0, 1) := by decide +kernel
theorem dX10_book_107 : decode cX10_book 107 = .ok (.getfield 40, 3) := by decide +kernel
theorem dX10_book_110 : decode cX10_book 110 = .ok (.aload_n 0, 1) := by decide +kernel
theorem dX10_book_111 : decode cX10_book 111 = .ok (.getfield 26, 3) := by decide +kernel
theorem dX10_book_114 : decode cX10_book 114 = .ok (.invokevirtual 221, 3) := by decide +kernel
theorem dX10_book_117 : decode cX10_book 117 = .ok (.aload_n 0, 1) := by decide +kernel
theorem dX10_book_118 : decode cX10_book 118 = .ok (.getfield 26, 3) := by decide +kernel
theorem dX10_book_121 : decode cX10_book 121 = .ok (.aload_n 0, 1) := by decide +kernel
theorem dX10_book_122 : decode cX10_book 122 = .ok (.getfield 78, 3) := by decide +kernel
theorem dX10_book_125 : decode cX10_book 125 = .ok (.invokevirtual 115, 3) := by decide +kernel
theorem dX10_book_128 : decode cX10_book 128 = .ok (.aload_n 0, 1) := by decide +kernel
theorem dX10_book_129 : decode cX10_book 129 = .ok (.getfield 61, 3) := by decide +kernel
theorem dX10_book_132 : decode cX10_book 132 = .ok (.getfield 325, 3) := by decide +kernel
theorem dX10_book_135 : decode cX10_book 135 = .ok (.ifCond .ne 7, 3) := by decide +kernel
theorem dX10_book_138 : decode cX10_book 138 = .ok (.iconst (-1), 1) := by decide +kernel
theorem dX10_book_139 : decode cX10_book 139 = .ok (.goto 10, 3) := by decide +kernel
theorem dX10_book_142 : decode cX10_book 142 = .ok (.aload_n 0, 1) := by decide +kernel
theorem dX10_book_143 : decode cX10_book 143 = .ok (.getfield 61, 3) := by decide +kernel
theorem dX10_book_146 : decode cX10_book 146 = .ok (.getfield 322, 3) := by decide +kernel
theorem dX10_book_149 : decode cX10_book 149 = .ok (.ireturn, 1) := by decide +kernel
theorem dX10_told_0 : decode cX10_told 0 = .ok (.aload_n 0, 1) := by decide +kernel
theorem dX10_told_1 : decode cX10_told 1 = .ok (.getfield 61, 3) := by decide +kernel
theorem dX10_told_4 : decode cX10_told 4 = .ok (.getfield 328, 3) := by decide +kernel
theorem dX10_told_7 : decode cX10_told 7 = .ok (.ifCond .ne 5, 3) := by decide +kernel
theorem dX10_told_10 : decode cX10_told 10 = .ok (.iconst (-1), 1) := by decide +kernel
theorem dX10_told_11 : decode cX10_told 11 = .ok (.ireturn, 1) := by decide +kernel
theorem dX10_told_12 : decode cX10_told 12 = .ok (.iload_n 1, 1) := by decide +kernel
theorem dX10_told_13 : decode cX10_told 13 = .ok (.tableswitch 63 0 3 #[31, 39, 47, 55], 31) := by decide +kernel
theorem dX10_told_44 : decode cX10_told 44 = .ok (.aload_n 0, 1) := by decide +kernel
theorem dX10_told_45 : decode cX10_told 45 = .ok (.getfield 61, 3) := by decide +kernel
theorem dX10_told_48 : decode cX10_told 48 = .ok (.getfield 325, 3) := by decide +kernel
theorem dX10_told_51 : decode cX10_told 51 = .ok (.ireturn, 1) := by decide +kernel
theorem dX10_told_52 : decode cX10_told 52 = .ok (.aload_n 0, 1) := by decide +kernel
theorem dX10_told_53 : decode cX10_told 53 = .ok (.getfield 61, 3) := by decide +kernel
theorem dX10_told_56 : decode cX10_told 56 = .ok (.getfield 322, 3) := by decide +kernel
theorem dX10_told_59 : decode cX10_told 59 = .ok (.ireturn, 1) := by decide +kernel
theorem dX10_told_60 : decode cX10_told 60 = .ok (.aload_n 0, 1) := by decide +kernel
theorem dX10_told_61 : decode cX10_told 61 = .ok (.getfield 61, 3) := by decide +kernel
theorem dX10_told_64 : decode cX10_told 64 = .ok (.getfield 332, 3) := by decide +kernel
theorem dX10_told_67 : decode cX10_told 67 = .ok (.ireturn, 1) := by decide +kernel
theorem dX10_told_68 : decode cX10_told 68 = .ok (.aload_n 0, 1) := by decide +kernel
theorem dX10_told_69 : decode cX10_told 69 = .ok (.getfield 61, 3) := by decide +kernel
theorem dX10_told_72 : decode cX10_told 72 = .ok (.getfield 335, 3) := by decide +kernel
theorem dX10_told_75 : decode cX10_told 75 = .ok (.ireturn, 1) := by decide +kernel
theorem dX10_told_76 : decode cX10_told 76 = .ok (.iconst (-1), 1) := by decide +kernel
theorem dX10_told_77 : decode cX10_told 77 = .ok (.ireturn, 1) := by decide +kernel
theorem dX10_sentence_0 : decode cX10_sentence 0 = .ok (.aload_n 0, 1) := by decide +kernel
theorem dX10_sentence_1 : decode cX10_sentence 1 = .ok (.getfield 75, 3) := by decide +kernel
theorem dX10_sentence_4 : decode cX10_sentence 4 = .ok (.aload_n 0, 1) := by decide +kernel
theorem dX10_sentence_5 : decode cX10_sentence 5 = .ok (.getfield 10, 3) := by decide +kernel
theorem dX10_sentence_8 : decode cX10_sentence 8 = .ok (.aload_n 0, 1) := by decide +kernel
theorem dX10_sentence_9 : decode cX10_sentence 9 = .ok (.getfield 19, 3) := by decide +kernel
theorem dX10_sentence_12 : decode cX10_sentence 12 = .ok (.invokevirtual 338, 3) := by decide +kernel
theorem dX10_sentence_15 : decode cX10_sentence 15 = .ok (.aload_n 0, 1) := by decide +kernel
theorem dX10_sentence_16 : decode cX10_sentence 16 = .ok (.getfield 10, 3) := by decide +kernel
theorem dX10_sentence_19 : decode cX10_sentence 19 = .ok (.iconst 0, 1) := by decide +kernel
theorem dX10_sentence_20 : decode cX10_sentence 20 = .ok (.putfield 94, 3) := by decide +kernel
theorem dX10_sentence_23 : decode cX10_sentence 23 = .ok (.aload_n 0, 1) := by decide +kernel
theorem dX10_sentence_24 : decode cX10_sentence 24 = .ok (.aload_n 0, 1) := by decide +kernel
theorem dX10_sentence_25 : decode cX10_sentence 25 = .ok (.getfield 10, 3) := by decide +kernel
theorem dX10_sentence_28 : decode cX10_sentence 28 = .ok (.getfield 105, 3) := by decide +kernel
theorem dX10_sentence_31 : decode cX10_sentence 31 = .ok (.putfield 81, 3) := by decide +kernel
theorem dX10_sentence_34 : decode cX10_sentence 34 = .ok (.aload_n 0, 1) := by decide +kernel
theorem dX10_sentence_35 : decode cX10_sentence 35 = .ok (.getfield 81, 3) := by decide +kernel
theorem dX10_sentence_38 : decode cX10_sentence 38 = .ok (.ifCond .eq 13, 3) := by decide +kernel
theorem dX10_sentence_41 : decode cX10_sentence 41 = .ok (.iconst (-1), 1) := by decide +kernel
theorem dX10_sentence_42 : decode cX10_sentence 42 = .ok (.aload_n 0, 1) := by decide +kernel
theorem dX10_sentence_43 : decode cX10_sentence 43 = .ok (.getfield 10, 3) := by decide +kernel
theorem dX10_sentence_46 : decode cX10_sentence 46 = .ok (.getfield 108, 3) := by decide +kernel
theorem dX10_sentence_49 : decode cX10_sentence 49 = .ok (.isub, 1) := by decide +kernel
theorem dX10_sentence_50 : decode cX10_sentence 50 = .ok (.ireturn, 1) := by decide +kernel
theorem dX10_sentence_51 : decode cX10_sentence 51 = .ok (.aload_n 0, 1) := by decide +kernel
theorem dX10_sentence_52 : decode cX10_sentence 52 = .ok (.getfield 33, 3) := by decide +kernel
theorem dX10_sentence_55 : decode cX10_sentence 55 = .ok (.aload_n 0, 1) := by decide +kernel
theorem dX10_sentence_56 : decode cX10_sentence 56 = .ok (.getfield 75, 3) := by decide +kernel
theorem dX10_sentence_59 : decode cX10_sentence 59 = .ok (.invokevirtual 339, 3) := by decide +kernel
theorem dX10_sentence_62 : decode cX10_sentence 62 = .ok (.aload_n 0, 1) := by decide +kernel
theorem dX10_sentence_63 : decode cX10_sentence 63 = .ok (.getfield 33, 3) := by decide +kernel
theorem dX10_sentence_66 : decode cX10_sentence 66 = .ok (.getfield 342, 3) := by decide +kernel
theorem dX10_sentence_69 : decode cX10_sentence 69 = .ok (.ireturn, 1) := by decide +kernel
theorem dX10_said_0 : decode cX10_said 0 = .ok (.aload_n 0, 1) := by decide +kernel
theorem dX10_said_1 : decode cX10_said 1 = .ok (.getfield 33, 3) := by decide +kernel
theorem dX10_said_4 : decode cX10_said 4 = .ok (.getfield 342, 3) := by decide +kernel
theorem dX10_said_7 : decode cX10_said 7 = .ok (.ifCond .eq 8, 3) := by decide +kernel
theorem dX10_said_10 : decode cX10_said 10 = .ok (.iload_n 1, 1) := by decide +kernel
theorem dX10_said_11 : decode cX10_said 11 = .ok (.iconst (-1), 1) := by decide +kernel
theorem dX10_said_12 : decode cX10_said 12 = .ok (.if_icmp .ge 5, 3) := by decide +kernel
theorem dX10_said_15 : decode cX10_said 15 = .ok (.iconst (-1), 1) := by decide +kernel
theorem dX10_said_16 : decode cX10_said 16 = .ok (.ireturn, 1) := by decide +kernel
theorem dX10_said_17 : decode cX10_said 17 = .ok (.iconst 0, 1) := by decide +kernel
theorem dX10_said_18 : decode cX10_said 18 = .ok (.istore_n 2, 1) := by decide +kernel
theorem dX10_said_19 : decode cX10_said 19 = .ok (.iconst 0, 1) := by decide +kernel
theorem dX10_said_20 : decode cX10_said 20 = .ok (.istore_n 3, 1) := by decide +kernel
theorem dX10_said_21 : decode cX10_said 21 = .ok (.iload_n 3, 1) := by decide +kernel
theorem dX10_said_22 : decode cX10_said 22 = .ok (.aload_n 0, 1) := by decide +kernel
theorem dX10_said_23 : decode cX10_said 23 = .ok (.getfield 19, 3) := by decide +kernel
theorem dX10_said_26 : decode cX10_said 26 = .ok (.getfield 286, 3) := by decide +kernel
theorem dX10_said_29 : decode cX10_said 29 = .ok (.if_icmp .ge 38, 3) := by decide +kernel
theorem dX10_said_32 : decode cX10_said 32 = .ok (.aload_n 0, 1) := by decide +kernel
theorem dX10_said_33 : decode cX10_said 33 = .ok (.getfield 33, 3) := by decide +kernel
theorem dX10_said_36 : decode cX10_said 36 = .ok (.aload_n 0, 1) := by decide +kernel
theorem dX10_said_37 : decode cX10_said 37 = .ok (.getfield 19, 3) := by decide +kernel
theorem dX10_said_40 : decode cX10_said 40 = .ok (.aload_n 0, 1) := by decide +kernel
theorem dX10_said_41 : decode cX10_said 41 = .ok (.getfield 26, 3) := by decide +kernel
theorem dX10_said_44 : decode cX10_said 44 = .ok (.iload_n 3, 1) := by decide +kernel
theorem dX10_said_45 : decode cX10_said 45 = .ok (.invokevirtual 345, 3) := by decide +kernel
theorem dX10_said_48 : decode cX10_said 48 = .ok (.ifCond .eq 13, 3) := by decide +kernel
theorem dX10_said_51 : decode cX10_said 51 = .ok (.iload_n 2, 1) := by decide +kernel
theorem dX10_said_52 : decode cX10_said 52 = .ok (.iload_n 1, 1) := by decide +kernel
theorem dX10_said_53 : decode cX10_said 53 = .ok (.if_icmp .ne 5, 3) := by decide +kernel
theorem dX10_said_56 : decode cX10_said 56 = .ok (.iload_n 3, 1) := by decide +kernel
theorem dX10_said_57 : decode cX10_said 57 = .ok (.ireturn, 1) := by decide +kernel
theorem dX10_said_58 : decode cX10_said 58 = .ok (.iinc 2 1, 3) := by decide +kernel
theorem dX10_said_61 : decode cX10_said 61 = .ok (.iinc 3 1, 3) := by decide +kernel
theorem dX10_said_64 : decode cX10_said 64 = .ok (.goto (-43), 3) := by decide +kernel
theorem dX10_said_67 : decode cX10_said 67 = .ok (.iload_n 1, 1) := by decide +kernel
theorem dX10_said_68 : decode cX10_said 68 = .ok (.iconst (-1), 1) := by decide +kernel
theorem dX10_said_69 : decode cX10_said 69 = .ok (.if_icmp .ne 7, 3) := by decide +kernel
theorem dX10_said_72 : decode cX10_said 72 = .ok (.iload_n 2, 1) := by decide +kernel
theorem dX10_said_73 : decode cX10_said 73 = .ok (.goto 4, 3) := by decide +kernel
theorem dX10_said_76 : decode cX10_said 76 = .ok (.iconst (-1), 1) := by decide +kernel
theorem dX10_said_77 : decode cX10_said 77 = .ok (.ireturn, 1) := by decide +kernel
theorem dX10_image_0 : decode cX10_image 0 = .ok (.iload_n 1, 1) := by decide +kernel
theorem dX10_image_1 : decode cX10_image 1 = .ok (.ifCond .lt 17, 3) := by decide +kernel
theorem dX10_image_4 : decode cX10_image 4 = .ok (.iload_n 1, 1) := by decide +kernel
theorem dX10_image_5 : decode cX10_image 5 = .ok (.iconst 2, 1) := by decide +kernel
theorem dX10_image_6 : decode cX10_image 6 = .ok (.if_icmp .ge 12, 3) := by decide +kernel
theorem dX10_image_9 : decode cX10_image 9 = .ok (.aload_n 0, 1) := by decide +kernel
theorem dX10_image_10 : decode cX10_image 10 = .ok (.getfield 46, 3) := by decide +kernel
theorem dX10_image_13 : decode cX10_image 13 = .ok (.iload_n 1, 1) := by decide +kernel
theorem dX10_image_14 : decode cX10_image 14 = .ok (.aaload, 1) := by decide +kernel
theorem dX10_image_15 : decode cX10_image 15 = .ok (.ifnonnull 5, 3) := by decide +kernel
theorem dX10_image_18 : decode cX10_image 18 = .ok (.iconst 0, 1) := by decide +kernel
theorem dX10_image_19 : decode cX10_image 19 = .ok (.ireturn, 1) := by decide +kernel
theorem dX10_image_20 : decode cX10_image 20 = .ok (.aload_n 0, 1) := by decide +kernel
theorem dX10_image_21 : decode cX10_image 21 = .ok (.getfield 46, 3) := by decide +kernel
theorem dX10_image_24 : decode cX10_image 24 = .ok (.iload_n 1, 1) := by decide +kernel
theorem dX10_image_25 : decode cX10_image 25 = .ok (.aaload, 1) := by decide +kernel
theorem dX10_image_26 : decode cX10_image 26 = .ok (.aload_n 0, 1) := by decide +kernel
theorem dX10_image_27 : decode cX10_image 27 = .ok (.getfield 19, 3) := by decide +kernel
theorem dX10_image_30 : decode cX10_image 30 = .ok (.aload_n 0, 1) := by decide +kernel
theorem dX10_image_31 : decode cX10_image 31 = .ok (.getfield 26, 3) := by decide +kernel
theorem dX10_image_34 : decode cX10_image 34 = .ok (.aload_n 0, 1) := by decide +kernel
theorem dX10_image_35 : decode cX10_image 35 = .ok (.getfield 33, 3) := by decide +kernel
theorem dX10_image_38 : decode cX10_image 38 = .ok (.invokevirtual 349, 3) := by decide +kernel
theorem dX10_image_41 : decode cX10_image 41 = .ok (.iconst 1, 1) := by decide +kernel
theorem dX10_image_42 : decode cX10_image 42 = .ok (.ireturn, 1) := by decide +kernel
theorem dX10_restore_0 : decode cX10_restore 0 = .ok (.iload_n 1, 1) := by decide +kernel
theorem dX10_restore_1 : decode cX10_restore 1 = .ok (.ifCond .lt 29, 3) := by decide +kernel
theorem dX10_restore_4 : decode cX10_restore 4 = .ok (.iload_n 1, 1) := by decide +kernel
theorem dX10_restore_5 : decode cX10_restore 5 = .ok (.iconst 2, 1) := by decide +kernel
theorem dX10_restore_6 : decode cX10_restore 6 = .ok (.if_icmp .ge 24, 3) := by decide +kernel
theorem dX10_restore_9 : decode cX10_restore 9 = .ok (.aload_n 0, 1) := by decide +kernel
theorem dX10_restore_10 : decode cX10_restore 10 = .ok (.getfield 46, 3) := by decide +kernel
theorem dX10_restore_13 : decode cX10_restore 13 = .ok (.iload_n 1, 1) := by decide +kernel
theorem dX10_restore_14 : decode cX10_restore 14 = .ok (.aaload, 1) := by decide +kernel
theorem dX10_restore_15 : decode cX10_restore 15 = .ok (.ifnull 15, 3) := by decide +kernel
theorem dX10_restore_18 : decode cX10_restore 18 = .ok (.aload_n 0, 1) := by decide +kernel
theorem dX10_restore_19 : decode cX10_restore 19 = .ok (.getfield 46, 3) := by decide +kernel
theorem dX10_restore_22 : decode cX10_restore 22 = .ok (.iload_n 1, 1) := by decide +kernel
theorem dX10_restore_23 : decode cX10_restore 23 = .ok (.aaload, 1) := by decide +kernel
theorem dX10_restore_24 : decode cX10_restore 24 = .ok (.getfield 352, 3) := by decide +kernel
theorem dX10_restore_27 : decode cX10_restore 27 = .ok (.ifCond .ne 5, 3) := by decide +kernel
theorem dX10_restore_30 : decode cX10_restore 30 = .ok (.iconst 0, 1) := by decide +kernel
theorem dX10_restore_31 : decode cX10_restore 31 = .ok (.ireturn, 1) := by decide +kernel
theorem dX10_restore_32 : decode cX10_restore 32 = .ok (.aload_n 0, 1) := by decide +kernel
theorem dX10_restore_33 : decode cX10_restore 33 = .ok (.getfield 46, 3) := by decide +kernel
theorem dX10_restore_36 : decode cX10_restore 36 = .ok (.iload_n 1, 1) := by decide +kernel
theorem dX10_restore_37 : decode cX10_restore 37 = .ok (.aaload, 1) := by decide +kernel
theorem dX10_restore_38 : decode cX10_restore 38 = .ok (.aload_n 0, 1) := by decide +kernel
theorem dX10_restore_39 : decode cX10_restore 39 = .ok (.getfield 19, 3) := by decide +kernel
theorem dX10_restore_42 : decode cX10_restore 42 = .ok (.aload_n 0, 1) := by decide +kernel
theorem dX10_restore_43 : decode cX10_restore 43 = .ok (.getfield 26, 3) := by decide +kernel
theorem dX10_restore_46 : decode cX10_restore 46 = .ok (.aload_n 0, 1) := by decide +kernel
theorem dX10_restore_47 : decode cX10_restore 47 = .ok (.getfield 33, 3) := by decide +kernel
theorem dX10_restore_50 : decode cX10_restore 50 = .ok (.invokevirtual 355, 3) := by decide +kernel
theorem dX10_restore_53 : decode cX10_restore 53 = .ok (.aload_n 0, 1) := by decide +kernel
theorem dX10_restore_54 : decode cX10_restore 54 = .ok (.getfield 40, 3) := by decide +kernel
theorem dX10_restore_57 : decode cX10_restore 57 = .ok (.invokevirtual 121, 3) := by decide +kernel
theorem dX10_restore_60 : decode cX10_restore 60 = .ok (.iconst 1, 1) := by decide +kernel
theorem dX10_restore_61 : decode cX10_restore 61 = .ok (.ireturn, 1) := by decide +kernel
theorem dX10_count_0 : decode cX10_count 0 = .ok (.iload_n 1, 1) := by decide +kernel
theorem dX10_count_1 : decode cX10_count 1 = .ok (.tableswitch 87 0 5 #[39, 47, 55, 63, 71, 79], 39) := by decide +kernel
theorem dX10_count_40 : decode cX10_count 40 = .ok (.aload_n 0, 1) := by decide +kernel
theorem dX10_count_41 : decode cX10_count 41 = .ok (.getfield 19, 3) := by decide +kernel
theorem dX10_count_44 : decode cX10_count 44 = .ok (.getfield 358, 3) := by decide +kernel
theorem dX10_count_47 : decode cX10_count 47 = .ok (.ireturn, 1) := by decide +kernel
theorem dX10_count_48 : decode cX10_count 48 = .ok (.aload_n 0, 1) := by decide +kernel
theorem dX10_count_49 : decode cX10_count 49 = .ok (.getfield 19, 3) := by decide +kernel
theorem dX10_count_52 : decode cX10_count 52 = .ok (.getfield 286, 3) := by decide +kernel
theorem dX10_count_55 : decode cX10_count 55 = .ok (.ireturn, 1) := by decide +kernel
theorem dX10_count_56 : decode cX10_count 56 = .ok (.aload_n 0, 1) := by decide +kernel
theorem dX10_count_57 : decode cX10_count 57 = .ok (.getfield 19, 3) := by decide +kernel
theorem dX10_count_60 : decode cX10_count 60 = .ok (.getfield 361, 3) := by decide +kernel
theorem dX10_count_63 : decode cX10_count 63 = .ok (.ireturn, 1) := by decide +kernel
theorem dX10_count_64 : decode cX10_count 64 = .ok (.aload_n 0, 1) := by decide +kernel
theorem dX10_count_65 : decode cX10_count 65 = .ok (.getfield 19, 3) := by decide +kernel
theorem dX10_count_68 : decode cX10_count 68 = .ok (.getfield 364, 3) := by decide +kernel
theorem dX10_count_71 : decode cX10_count 71 = .ok (.ireturn, 1) := by decide +kernel
theorem dX10_count_72 : decode cX10_count 72 = .ok (.aload_n 0, 1) := by decide +kernel
theorem dX10_count_73 : decode cX10_count 73 = .ok (.getfield 19, 3) := by decide +kernel
theorem dX10_count_76 : decode cX10_count 76 = .ok (.getfield 367, 3) := by decide +kernel
theorem dX10_count_79 : decode cX10_count 79 = .ok (.ireturn, 1) := by decide +kernel
theorem dX10_count_80 : decode cX10_count 80 = .ok (.aload_n 0, 1) := by decide +kernel
theorem dX10_count_81 : decode cX10_count 81 = .ok (.getfield 10, 3) := by decide +kernel
theorem dX10_count_84 : decode cX10_count 84 = .ok (.getfield 94, 3) := by decide +kernel
theorem dX10_count_87 : decode cX10_count 87 = .ok (.ireturn, 1) := by decide +kernel
theorem dX10_count_88 : decode cX10_count 88 = .ok (.iconst (-1), 1) := by decide +kernel
theorem dX10_count_89 : decode cX10_count 89 = .ok (.ireturn, 1) := by decide +kernel
theorem dX10_isPerson_0 : decode cX10_isPerson 0 = .ok (.iload_n 1, 1) := by decide +kernel
theorem dX10_isPerson_1 : decode cX10_isPerson 1 = .ok (.ifCond .lt 18, 3) := by decide +kernel
theorem dX10_isPerson_4 : decode cX10_isPerson 4 = .ok (.iload_n 1, 1) := by decide +kernel
theorem dX10_isPerson_5 : decode cX10_isPerson 5 = .ok (.aload_n 0, 1) := by decide +kernel
theorem dX10_isPerson_6 : decode cX10_isPerson 6 = .ok (.getfield 19, 3) := by decide +kernel
theorem dX10_isPerson_9 : decode cX10_isPerson 9 = .ok (.getfield 286, 3) := by decide +kernel
theorem dX10_isPerson_12 : decode cX10_isPerson 12 = .ok (.if_icmp .ge 7, 3) := by decide +kernel
theorem dX10_isPerson_15 : decode cX10_isPerson 15 = .ok (.iconst 1, 1) := by decide +kernel
theorem dX10_isPerson_16 : decode cX10_isPerson 16 = .ok (.goto 4, 3) := by decide +kernel
theorem dX10_isPerson_19 : decode cX10_isPerson 19 = .ok (.iconst 0, 1) := by decide +kernel
theorem dX10_isPerson_20 : decode cX10_isPerson 20 = .ok (.ireturn, 1) := by decide +kernel
theorem dX10_isThing_0 : decode cX10_isThing 0 = .ok (.iload_n 1, 1) := by decide +kernel
theorem dX10_isThing_1 : decode cX10_isThing 1 = .ok (.ifCond .lt 18, 3) := by decide +kernel
theorem dX10_isThing_4 : decode cX10_isThing 4 = .ok (.iload_n 1, 1) := by decide +kernel
theorem dX10_isThing_5 : decode cX10_isThing 5 = .ok (.aload_n 0, 1) := by decide +kernel
theorem dX10_isThing_6 : decode cX10_isThing 6 = .ok (.getfield 19, 3) := by decide +kernel
theorem dX10_isThing_9 : decode cX10_isThing 9 = .ok (.getfield 358, 3) := by decide +kernel
theorem dX10_isThing_12 : decode cX10_isThing 12 = .ok (.if_icmp .ge 7, 3) := by decide +kernel
theorem dX10_isThing_15 : decode cX10_isThing 15 = .ok (.iconst 1, 1) := by decide +kernel
theorem dX10_isThing_16 : decode cX10_isThing 16 = .ok (.goto 4, 3) := by decide +kernel
theorem dX10_isThing_19 : decode cX10_isThing 19 = .ok (.iconst 0, 1) := by decide +kernel
theorem dX10_isThing_20 : decode cX10_isThing 20 = .ok (.ireturn, 1) := by decide +kernel
theorem dX10_isBed_0 : decode cX10_isBed 0 = .ok (.iload_n 1, 1) := by decide +kernel
theorem dX10_isBed_1 : decode cX10_isBed 1 = .ok (.ifCond .lt 18, 3) := by decide +kernel
theorem dX10_isBed_4 : decode cX10_isBed 4 = .ok (.iload_n 1, 1) := by decide +kernel
theorem dX10_isBed_5 : decode cX10_isBed 5 = .ok (.aload_n 0, 1) := by decide +kernel
theorem dX10_isBed_6 : decode cX10_isBed 6 = .ok (.getfield 19, 3) := by decide +kernel
theorem dX10_isBed_9 : decode cX10_isBed 9 = .ok (.getfield 364, 3) := by decide +kernel
theorem dX10_isBed_12 : decode cX10_isBed 12 = .ok (.if_icmp .ge 7, 3) := by decide +kernel
theorem dX10_isBed_15 : decode cX10_isBed 15 = .ok (.iconst 1, 1) := by decide +kernel
theorem dX10_isBed_16 : decode cX10_isBed 16 = .ok (.goto 4, 3) := by decide +kernel
theorem dX10_isBed_19 : decode cX10_isBed 19 = .ok (.iconst 0, 1) := by decide +kernel
theorem dX10_isBed_20 : decode cX10_isBed 20 = .ok (.ireturn, 1) := by decide +kernel
theorem dX11_thrown_0 : decode cX11_thrown 0 = .ok (.aload_n 0, 1) := by decide +kernel
theorem dX11_thrown_1 : decode cX11_thrown 1 = .ok (.getfield 1, 3) := by decide +kernel
theorem dX11_thrown_4 : decode cX11_thrown 4 = .ok (.ireturn, 1) := by decide +kernel
theorem dX11_throwsIf_0 : decode cX11_throwsIf 0 = .ok (.aload_n 0, 1) := by decide +kernel
theorem dX11_throwsIf_1 : decode cX11_throwsIf 1 = .ok (.iload_n 1, 1) := by decide +kernel
theorem dX11_throwsIf_2 : decode cX11_throwsIf 2 = .ok (.ifCond .eq 7, 3) := by decide +kernel
theorem dX11_throwsIf_5 : decode cX11_throwsIf 5 = .ok (.iconst 1, 1) := by decide +kernel
theorem dX11_throwsIf_6 : decode cX11_throwsIf 6 = .ok (.goto 4, 3) := by decide +kernel
theorem dX11_throwsIf_9 : decode cX11_throwsIf 9 = .ok (.iconst 0, 1) := by decide +kernel
theorem dX11_throwsIf_10 : decode cX11_throwsIf 10 = .ok (.putfield 1, 3) := by decide +kernel
theorem dX11_throwsIf_13 : decode cX11_throwsIf 13 = .ok (.iload_n 1, 1) := by decide +kernel
theorem dX11_throwsIf_14 : decode cX11_throwsIf 14 = .ok (.ireturn, 1) := by decide +kernel
theorem dX11_feed_0 : decode cX11_feed 0 = .ok (.aload_n 0, 1) := by decide +kernel
theorem dX11_feed_1 : decode cX11_feed 1 = .ok (.iconst 0, 1) := by decide +kernel
theorem dX11_feed_2 : decode cX11_feed 2 = .ok (.putfield 1, 3) := by decide +kernel
theorem dX11_feed_5 : decode cX11_feed 5 = .ok (.aload_n 0, 1) := by decide +kernel
theorem dX11_feed_6 : decode cX11_feed 6 = .ok (.getfield 7, 3) := by decide +kernel
theorem dX11_feed_9 : decode cX11_feed 9 = .ok (.bipush 20, 2) := by decide +kernel
theorem dX11_feed_11 : decode cX11_feed 11 = .ok (.iadd, 1) := by decide +kernel
theorem dX11_feed_12 : decode cX11_feed 12 = .ok (.sipush 940, 3) := by decide +kernel
theorem dX11_feed_15 : decode cX11_feed 15 = .ok (.if_icmp .le 5, 3) := by decide +kernel
theorem dX11_feed_18 : decode cX11_feed 18 = .ok (.iconst (-1), 1) := by decide +kernel
theorem dX11_feed_19 : decode cX11_feed 19 = .ok (.ireturn, 1) := by decide +kernel
theorem dX11_feed_20 : decode cX11_feed 20 = .ok (.aload_n 0, 1) := by decide +kernel
theorem dX11_feed_21 : decode cX11_feed 21 = .ok (.iload_n 1, 1) := by decide +kernel
theorem dX11_feed_22 : decode cX11_feed 22 = .ok (.invokevirtual 10, 3) := by decide +kernel
theorem dX11_feed_25 : decode cX11_feed 25 = .ok (.aload_n 0, 1) := by decide +kernel
theorem dX11_feed_26 : decode cX11_feed 26 = .ok (.iload_n 2, 1) := by decide +kernel
theorem dX11_feed_27 : decode cX11_feed 27 = .ok (.invokevirtual 10, 3) := by decide +kernel
theorem dX11_feed_30 : decode cX11_feed 30 = .ok (.aload_n 0, 1) := by decide +kernel
theorem dX11_feed_31 : decode cX11_feed 31 = .ok (.iload_n 3, 1) := by decide +kernel
theorem dX11_feed_32 : decode cX11_feed 32 = .ok (.invokevirtual 10, 3) := by decide +kernel
theorem dX11_feed_35 : decode cX11_feed 35 = .ok (.aload_n 0, 1) := by decide +kernel
theorem dX11_feed_36 : decode cX11_feed 36 = .ok (.iload 4, 2) := by decide +kernel
theorem dX11_feed_38 : decode cX11_feed 38 = .ok (.invokevirtual 10, 3) := by decide +kernel
theorem dX11_feed_41 : decode cX11_feed 41 = .ok (.aload_n 0, 1) := by decide +kernel
theorem dX11_feed_42 : decode cX11_feed 42 = .ok (.iload 5, 2) := by decide +kernel
theorem dX11_feed_44 : decode cX11_feed 44 = .ok (.invokevirtual 10, 3) := by decide +kernel
theorem dX11_feed_47 : decode cX11_feed 47 = .ok (.aload_n 0, 1) := by decide +kernel
theorem dX11_feed_48 : decode cX11_feed 48 = .ok (.getfield 7, 3) := by decide +kernel
theorem dX11_feed_51 : decode cX11_feed 51 = .ok (.ireturn, 1) := by decide +kernel
theorem dX11_four_0 : decode cX11_four 0 = .ok (.bipush 24, 2) := by decide +kernel
theorem dX11_four_2 : decode cX11_four 2 = .ok (.istore_n 2, 1) := by decide +kernel
theorem dX11_four_3 : decode cX11_four 3 = .ok (.iload_n 2, 1) := by decide +kernel
theorem dX11_four_4 : decode cX11_four 4 = .ok (.ifCond .lt 32, 3) := by decide +kernel
theorem dX11_four_7 : decode cX11_four 7 = .ok (.aload_n 0, 1) := by decide +kernel
theorem dX11_four_8 : decode cX11_four 8 = .ok (.getfield 14, 3) := by decide +kernel
theorem dX11_four_11 : decode cX11_four 11 = .ok (.aload_n 0, 1) := by decide +kernel
theorem dX11_four_12 : decode cX11_four 12 = .ok (.getfield 7, 3) := by decide +kernel
theorem dX11_four_15 : decode cX11_four 15 = .ok (.iload_n 1, 1) := by decide +kernel
theorem dX11_four_16 : decode cX11_four 16 = .ok (.iload_n 2, 1) := by decide +kernel
theorem dX11_four_17 : decode cX11_four 17 = .ok (.ishr, 1) := by decide +kernel
theorem dX11_four_18 : decode cX11_four 18 = .ok (.i2b, 1) := by decide +kernel
theorem dX11_four_19 : decode cX11_four 19 = .ok (.bastore, 1) := by decide +kernel
theorem dX11_four_20 : decode cX11_four 20 = .ok (.aload_n 0, 1) := by decide +kernel
theorem dX11_four_21 : decode cX11_four 21 = .ok (.dup, 1) := by decide +kernel
theorem dX11_four_22 : decode cX11_four 22 = .ok (.getfield 7, 3) := by decide +kernel
theorem dX11_four_25 : decode cX11_four 25 = .ok (.iconst 1, 1) := by decide +kernel
theorem dX11_four_26 : decode cX11_four 26 = .ok (.iadd, 1) := by decide +kernel
theorem dX11_four_27 : decode cX11_four 27 = .ok (.putfield 7, 3) := by decide +kernel
theorem dX11_four_30 : decode cX11_four 30 = .ok (.iinc 2 (-8), 3) := by decide +kernel
theorem dX11_four_33 : decode cX11_four 33 = .ok (.goto (-30), 3) := by decide +kernel
theorem dX11_four_36 : decode cX11_four 36 = .ok (.return_, 1) := by decide +kernel
theorem dX11_end_0 : decode cX11_end 0 = .ok (.aload_n 0, 1) := by decide +kernel
theorem dX11_end_1 : decode cX11_end 1 = .ok (.iconst 0, 1) := by decide +kernel
theorem dX11_end_2 : decode cX11_end 2 = .ok (.putfield 1, 3) := by decide +kernel
theorem dX11_end_5 : decode cX11_end 5 = .ok (.iload_n 1, 1) := by decide +kernel
theorem dX11_end_6 : decode cX11_end 6 = .ok (.ifCond .lt 11, 3) := by decide +kernel
theorem dX11_end_9 : decode cX11_end 9 = .ok (.iload_n 1, 1) := by decide +kernel
theorem dX11_end_10 : decode cX11_end 10 = .ok (.aload_n 0, 1) := by decide +kernel
theorem dX11_end_11 : decode cX11_end 11 = .ok (.getfield 7, 3) := by decide +kernel
theorem dX11_end_14 : decode cX11_end 14 = .ok (.if_icmp .le 5, 3) := by decide +kernel
theorem dX11_end_17 : decode cX11_end 17 = .ok (.iconst 0, 1) := by decide +kernel
theorem dX11_end_18 : decode cX11_end 18 = .ok (.ireturn, 1) := by decide +kernel
theorem dX11_end_19 : decode cX11_end 19 = .ok (.aload_n 0, 1) := by decide +kernel
theorem dX11_end_20 : decode cX11_end 20 = .ok (.iload_n 1, 1) := by decide +kernel
theorem dX11_end_21 : decode cX11_end 21 = .ok (.putfield 7, 3) := by decide +kernel
theorem dX11_end_24 : decode cX11_end 24 = .ok (.iconst 1, 1) := by decide +kernel
theorem dX11_end_25 : decode cX11_end 25 = .ok (.ireturn, 1) := by decide +kernel
theorem dX11_taken_0 : decode cX11_taken 0 = .ok (.aload_n 0, 1) := by decide +kernel
theorem dX11_taken_1 : decode cX11_taken 1 = .ok (.aload_n 0, 1) := by decide +kernel
theorem dX11_taken_2 : decode cX11_taken 2 = .ok (.getfield 7, 3) := by decide +kernel
theorem dX11_taken_5 : decode cX11_taken 5 = .ok (.putfield 18, 3) := by decide +kernel
theorem dX11_taken_8 : decode cX11_taken 8 = .ok (.aload_n 0, 1) := by decide +kernel
theorem dX11_taken_9 : decode cX11_taken 9 = .ok (.iconst 0, 1) := by decide +kernel
theorem dX11_taken_10 : decode cX11_taken 10 = .ok (.putfield 7, 3) := by decide +kernel
theorem dX11_taken_13 : decode cX11_taken 13 = .ok (.aload_n 0, 1) := by decide +kernel
theorem dX11_taken_14 : decode cX11_taken 14 = .ok (.iconst 0, 1) := by decide +kernel
theorem dX11_taken_15 : decode cX11_taken 15 = .ok (.putfield 21, 3) := by decide +kernel
theorem dX11_taken_18 : decode cX11_taken 18 = .ok (.aload_n 0, 1) := by decide +kernel
theorem dX11_taken_19 : decode cX11_taken 19 = .ok (.iload_n 1, 1) := by decide +kernel
theorem dX11_taken_20 : decode cX11_taken 20 = .ok (.putfield 24, 3) := by decide +kernel
theorem dX11_taken_23 : decode cX11_taken 23 = .ok (.return_, 1) := by decide +kernel
theorem dX11_isIn_0 : decode cX11_isIn 0 = .ok (.iload_n 0, 1) := by decide +kernel
theorem dX11_isIn_1 : decode cX11_isIn 1 = .ok (.iload_n 1, 1) := by decide +kernel
theorem dX11_isIn_2 : decode cX11_isIn 2 = .ok (.if_icmp .lt 12, 3) := by decide +kernel
theorem dX11_isIn_5 : decode cX11_isIn 5 = .ok (.iload_n 0, 1) := by decide +kernel
theorem dX11_isIn_6 : decode cX11_isIn 6 = .ok (.iload_n 2, 1) := by decide +kernel
theorem dX11_isIn_7 : decode cX11_isIn 7 = .ok (.if_icmp .gt 7, 3) := by decide +kernel
theorem dX11_isIn_10 : decode cX11_isIn 10 = .ok (.iconst 1, 1) := by decide +kernel
theorem dX11_isIn_11 : decode cX11_isIn 11 = .ok (.goto 4, 3) := by decide +kernel
theorem dX11_isIn_14 : decode cX11_isIn 14 = .ok (.iconst 0, 1) := by decide +kernel
theorem dX11_isIn_15 : decode cX11_isIn 15 = .ok (.ireturn, 1) := by decide +kernel
theorem dX11_bitOf_0 : decode cX11_bitOf 0 = .ok (.iload_n 0, 1) := by decide +kernel
theorem dX11_bitOf_1 : decode cX11_bitOf 1 = .ok (.iload_n 1, 1) := by decide +kernel
theorem dX11_bitOf_2 : decode cX11_bitOf 2 = .ok (.ishr, 1) := by decide +kernel
theorem dX11_bitOf_3 : decode cX11_bitOf 3 = .ok (.iconst 1, 1) := by decide +kernel
theorem dX11_bitOf_4 : decode cX11_bitOf 4 = .ok (.iand, 1) := by decide +kernel
theorem dX11_bitOf_5 : decode cX11_bitOf 5 = .ok (.iconst 1, 1) := by decide +kernel
theorem dX11_bitOf_6 : decode cX11_bitOf 6 = .ok (.if_icmp .ne 7, 3) := by decide +kernel
theorem dX11_bitOf_9 : decode cX11_bitOf 9 = .ok (.iconst 1, 1) := by decide +kernel
theorem dX11_bitOf_10 : decode cX11_bitOf 10 = .ok (.goto 4, 3) := by decide +kernel
theorem dX11_bitOf_13 : decode cX11_bitOf 13 = .ok (.iconst 0, 1) := by decide +kernel
theorem dX11_bitOf_14 : decode cX11_bitOf 14 = .ok (.ireturn, 1) := by decide +kernel
theorem dX11_lesser_0 : decode cX11_lesser 0 = .ok (.iload_n 0, 1) := by decide +kernel
theorem dX11_lesser_1 : decode cX11_lesser 1 = .ok (.iload_n 1, 1) := by decide +kernel
theorem dX11_lesser_2 : decode cX11_lesser 2 = .ok (.if_icmp .ge 7, 3) := by decide +kernel
theorem dX11_lesser_5 : decode cX11_lesser 5 = .ok (.iload_n 0, 1) := by decide +kernel
theorem dX11_lesser_6 : decode cX11_lesser 6 = .ok (.goto 4, 3) := by decide +kernel
theorem dX11_lesser_9 : decode cX11_lesser 9 = .ok (.iload_n 1, 1) := by decide +kernel
theorem dX11_lesser_10 : decode cX11_lesser 10 = .ok (.ireturn, 1) := by decide +kernel
theorem dX11_greater_0 : decode cX11_greater 0 = .ok (.iload_n 0, 1) := by decide +kernel
theorem dX11_greater_1 : decode cX11_greater 1 = .ok (.iload_n 1, 1) := by decide +kernel
theorem dX11_greater_2 : decode cX11_greater 2 = .ok (.if_icmp .le 7, 3) := by decide +kernel
theorem dX11_greater_5 : decode cX11_greater 5 = .ok (.iload_n 0, 1) := by decide +kernel
theorem dX11_greater_6 : decode cX11_greater 6 = .ok (.goto 4, 3) := by decide +kernel
theorem dX11_greater_9 : decode cX11_greater 9 = .ok (.iload_n 1, 1) := by decide +kernel
theorem dX11_greater_10 : decode cX11_greater 10 = .ok (.ireturn, 1) := by decide +kernel
theorem dX11_bits_0 : decode cX11_bits 0 = .ok (.iconst 0, 1) := by decide +kernel
theorem dX11_bits_1 : decode cX11_bits 1 = .ok (.istore_n 1, 1) := by decide +kernel
theorem dX11_bits_2 : decode cX11_bits 2 = .ok (.iload_n 0, 1) := by decide +kernel
theorem dX11_bits_3 : decode cX11_bits 3 = .ok (.istore_n 2, 1) := by decide +kernel
theorem dX11_bits_4 : decode cX11_bits 4 = .ok (.iload_n 2, 1) := by decide +kernel
theorem dX11_bits_5 : decode cX11_bits 5 = .ok (.ifCond .eq 15, 3) := by decide +kernel
theorem dX11_bits_8 : decode cX11_bits 8 = .ok (.iinc 1 1, 3) := by decide +kernel
theorem dX11_bits_11 : decode cX11_bits 11 = .ok (.iload_n 2, 1) := by decide +kernel
theorem dX11_bits_12 : decode cX11_bits 12 = .ok (.iload_n 2, 1) := by decide +kernel
theorem dX11_bits_13 : decode cX11_bits 13 = .ok (.iconst 1, 1) := by decide +kernel
theorem dX11_bits_14 : decode cX11_bits 14 = .ok (.isub, 1) := by decide +kernel
theorem dX11_bits_15 : decode cX11_bits 15 = .ok (.iand, 1) := by decide +kernel
theorem dX11_bits_16 : decode cX11_bits 16 = .ok (.istore_n 2, 1) := by decide +kernel
theorem dX11_bits_17 : decode cX11_bits 17 = .ok (.goto (-13), 3) := by decide +kernel
theorem dX11_bits_20 : decode cX11_bits 20 = .ok (.iload_n 1, 1) := by decide +kernel
theorem dX11_bits_21 : decode cX11_bits 21 = .ok (.ireturn, 1) := by decide +kernel
theorem dX11_octet_0 : decode cX11_octet 0 = .ok (.aload_n 0, 1) := by decide +kernel
theorem dX11_octet_1 : decode cX11_octet 1 = .ok (.getfield 14, 3) := by decide +kernel
theorem dX11_octet_4 : decode cX11_octet 4 = .ok (.iload_n 1, 1) := by decide +kernel
theorem dX11_octet_5 : decode cX11_octet 5 = .ok (.baload, 1) := by decide +kernel
theorem dX11_octet_6 : decode cX11_octet 6 = .ok (.sipush 255, 3) := by decide +kernel
theorem dX11_octet_9 : decode cX11_octet 9 = .ok (.iand, 1) := by decide +kernel
theorem dX11_octet_10 : decode cX11_octet 10 = .ok (.ireturn, 1) := by decide +kernel
theorem dX11_init_0 : decode cX11_init 0 = .ok (.aload_n 0, 1) := by decide +kernel
theorem dX11_init_1 : decode cX11_init 1 = .ok (.invokespecial 27, 3) := by decide +kernel
theorem dX11_init_4 : decode cX11_init 4 = .ok (.aload_n 0, 1) := by decide +kernel
theorem dX11_init_5 : decode cX11_init 5 = .ok (.sipush 940, 3) := by decide +kernel
theorem dX11_init_8 : decode cX11_init 8 = .ok (.newarray .byte, 2) := by decide +kernel
theorem dX11_init_10 : decode cX11_init 10 = .ok (.putfield 14, 3) := by decide +kernel
theorem dX11_init_13 : decode cX11_init 13 = .ok (.aload_n 0, 1) := by decide +kernel
theorem dX11_init_14 : decode cX11_init 14 = .ok (.sipush 390, 3) := by decide +kernel
theorem dX11_init_17 : decode cX11_init 17 = .ok (.newarray .int, 2) := by decide +kernel
theorem dX11_init_19 : decode cX11_init 19 = .ok (.putfield 33, 3) := by decide +kernel
theorem dX11_init_22 : decode cX11_init 22 = .ok (.aload_n 0, 1) := by decide +kernel
theorem dX11_init_23 : decode cX11_init 23 = .ok (.bipush 121, 2) := by decide +kernel
theorem dX11_init_25 : decode cX11_init 25 = .ok (.newarray .int, 2) := by decide +kernel
theorem dX11_init_27 : decode cX11_init 27 = .ok (.putfield 37, 3) := by decide +kernel
theorem dX11_init_30 : decode cX11_init 30 = .ok (.aload_n 0, 1) := by decide +kernel
theorem dX11_init_31 : decode cX11_init 31 = .ok (.sipush 135, 3) := by decide +kernel
theorem dX11_init_34 : decode cX11_init 34 = .ok (.newarray .int, 2) := by decide +kernel
theorem dX11_init_36 : decode cX11_init 36 = .ok (.putfield 40, 3) := by decide +kernel
theorem dX11_init_39 : decode cX11_init 39 = .ok (.aload_n 0, 1) := by decide +kernel
theorem dX11_init_40 : decode cX11_init 40 = .ok (.bipush 36, 2) := by decide +kernel
theorem dX11_init_42 : decode cX11_init 42 = .ok (.newarray .long, 2) := by decide +kernel
theorem dX11_init_44 : decode cX11_init 44 = .ok (.putfield 43, 3) := by decide +kernel
theorem dX11_init_47 : decode cX11_init 47 = .ok (.aload_n 0, 1) := by decide +kernel
theorem dX11_init_48 : decode cX11_init 48 = .ok (.bipush 22, 2) := by decide +kernel
theorem dX11_init_50 : decode cX11_init 50 = .ok (.newarray .long, 2) := by decide +kernel
theorem dX11_init_52 : decode cX11_init 52 = .ok (.putfield 47, 3) := by decide +kernel
theorem dX11_init_55 : decode cX11_init 55 = .ok (.aload_n 0, 1) := by decide +kernel
theorem dX11_init_56 : decode cX11_init 56 = .ok (.sipush 704, 3) := by decide +kernel
theorem dX11_init_59 : decode cX11_init 59 = .ok (.newarray .int, 2) := by decide +kernel
theorem dX11_init_61 : decode cX11_init 61 = .ok (.putfield 50, 3) := by decide +kernel
theorem dX11_init_64 : decode cX11_init 64 = .ok (.aload_n 0, 1) := by decide +kernel
theorem dX11_init_65 : decode cX11_init 65 = .ok (.bipush 88, 2) := by decide +kernel
theorem dX11_init_67 : decode cX11_init 67 = .ok (.newarray .int, 2) := by decide +kernel
theorem dX11_init_69 : decode cX11_init 69 = .ok (.putfield 53, 3) := by decide +kernel
theorem dX11_init_72 : decode cX11_init 72 = .ok (.aload_n 0, 1) := by decide +kernel
theorem dX11_init_73 : decode cX11_init 73 = .ok (.sipush 16384, 3) := by decide +kernel
theorem dX11_init_76 : decode cX11_init 76 = .ok (.newarray .boolean, 2) := by decide +kernel
theorem dX11_init_78 : decode cX11_init 78 = .ok (.putfield 56, 3) := by decide +kernel
theorem dX11_init_81 : decode cX11_init 81 = .ok (.aload_n 0, 1) := by decide +kernel
theorem dX11_init_82 : decode cX11_init 82 = .ok (.sipush 1024, 3) := by decide +kernel
theorem dX11_init_85 : decode cX11_init 85 = .ok (.newarray .int, 2) := by decide +kernel
theorem dX11_init_87 : decode cX11_init 87 = .ok (.putfield 60, 3) := by decide +kernel
theorem dX11_init_90 : decode cX11_init 90 = .ok (.aload_n 0, 1) := by decide +kernel
theorem dX11_init_91 : decode cX11_init 91 = .ok (.bipush 10, 2) := by decide +kernel
theorem dX11_init_93 : decode cX11_init 93 = .ok (.newarray .int, 2) := by decide +kernel
theorem dX11_init_95 : decode cX11_init 95 = .ok (.putfield 63, 3) := by decide +kernel
theorem dX11_init_98 : decode cX11_init 98 = .ok (.aload_n 0, 1) := by decide +kernel
theorem dX11_init_99 : decode cX11_init 99 = .ok (.bipush 88, 2) := by decide +kernel
theorem dX11_init_101 : decode cX11_init 101 = .ok (.newarray .byte, 2) := by decide +kernel
theorem dX11_init_103 : decode cX11_init 103 = .ok (.putfield 66, 3) := by decide +kernel
theorem dX11_init_106 : decode cX11_init 106 = .ok (.aload_n 0, 1) := by decide +kernel
theorem dX11_init_107 : decode cX11_init 107 = .ok (.iconst 4, 1) := by decide +kernel
theorem dX11_init_108 : decode cX11_init 108 = .ok (.newarray .int, 2) := by decide +kernel
theorem dX11_init_110 : decode cX11_init 110 = .ok (.putfield 69, 3) := by decide +kernel
theorem dX11_init_113 : decode cX11_init 113 = .ok (.aload_n 0, 1) := by decide +kernel
theorem dX11_init_114 : decode cX11_init 114 = .ok (.bipush 45, 2) := by decide +kernel
theorem dX11_init_116 : decode cX11_init 116 = .ok (.newarray .int, 2) := by decide +kernel
theorem dX11_init_118 : decode cX11_init 118 = .ok (.putfield 72, 3) := by decide +kernel
theorem dX11_init_121 : decode cX11_init 121 = .ok (.aload_n 0, 1) := by decide +kernel
theorem dX11_init_122 : decode cX11_init 122 = .ok (.bipush 45, 2) := by decide +kernel
theorem dX11_init_124 : decode cX11_init 124 = .ok (.newarray .boolean, 2) := by decide +kernel
theorem dX11_init_126 : decode cX11_init 126 = .ok (.putfield 75, 3) := by decide +kernel
theorem dX11_init_129 : decode cX11_init 129 = .ok (.aload_n 0, 1) := by decide +kernel
theorem dX11_init_130 : decode cX11_init 130 = .ok (.sipush 780, 3) := by decide +kernel
theorem dX11_init_133 : decode cX11_init 133 = .ok (.newarray .int, 2) := by decide +kernel
theorem dX11_init_135 : decode cX11_init 135 = .ok (.putfield 78, 3) := by decide +kernel
theorem dX11_init_138 : decode cX11_init 138 = .ok (.aload_n 0, 1) := by decide +kernel
theorem dX11_init_139 : decode cX11_init 139 = .ok (.bipush 36, 2) := by decide +kernel
theorem dX11_init_141 : decode cX11_init 141 = .ok (.newarray .long, 2) := by decide +kernel
theorem dX11_init_143 : decode cX11_init 143 = .ok (.putfield 81, 3) := by decide +kernel
theorem dX11_init_146 : decode cX11_init 146 = .ok (.aload_n 0, 1) := by decide +kernel
theorem dX11_init_147 : decode cX11_init 147 = .ok (.iconst 2, 1) := by decide +kernel
theorem dX11_init_148 : decode cX11_init 148 = .ok (.newarray .boolean, 2) := by decide +kernel
theorem dX11_init_150 : decode cX11_init 150 = .ok (.putfield 84, 3) := by decide +kernel
theorem dX11_init_153 : decode cX11_init 153 = .ok (.aload_n 0, 1) := by decide +kernel
theorem dX11_init_154 : decode cX11_init 154 = .ok (.getfield 47, 3) := by decide +kernel
theorem dX11_init_157 : decode cX11_init 157 = .ok (.iconst 0, 1) := by decide +kernel
theorem dX11_init_158 : decode cX11_init 158 = .ok (.ldc2_w 87, 3) := by decide +kernel
theorem dX11_init_161 : decode cX11_init 161 = .ok (.lastore, 1) := by decide +kernel
theorem dX11_init_162 : decode cX11_init 162 = .ok (.aload_n 0, 1) := by decide +kernel
theorem dX11_init_163 : decode cX11_init 163 = .ok (.getfield 47, 3) := by decide +kernel
theorem dX11_init_166 : decode cX11_init 166 = .ok (.iconst 1, 1) := by decide +kernel
theorem dX11_init_167 : decode cX11_init 167 = .ok (.ldc2_w 89, 3) := by decide +kernel
theorem dX11_init_170 : decode cX11_init 170 = .ok (.lastore, 1) := by decide +kernel
theorem dX11_init_171 : decode cX11_init 171 = .ok (.aload_n 0, 1) := by decide +kernel
theorem dX11_init_172 : decode cX11_init 172 = .ok (.getfield 47, 3) := by decide +kernel
theorem dX11_init_175 : decode cX11_init 175 = .ok (.iconst 2, 1) := by decide +kernel
theorem dX11_init_176 : decode cX11_init 176 = .ok (.ldc2_w 91, 3) := by decide +kernel
theorem dX11_init_179 : decode cX11_init 179 = .ok (.lastore, 1) := by decide +kernel
theorem dX11_init_180 : decode cX11_init 180 = .ok (.aload_n 0, 1) := by decide +kernel
theorem dX11_init_181 : decode cX11_init 181 = .ok (.getfield 47, 3) := by decide +kernel
theorem dX11_init_184 : decode cX11_init 184 = .ok (.iconst 3, 1) := by decide +kernel
theorem dX11_init_185 : decode cX11_init 185 = .ok (.ldc2_w 93, 3) := by decide +kernel
theorem dX11_init_188 : decode cX11_init 188 = .ok (.lastore, 1) := by decide +kernel
theorem dX11_init_189 : decode cX11_init 189 = .ok (.aload_n 0, 1) := by decide +kernel
theorem dX11_init_190 : decode cX11_init 190 = .ok (.getfield 47, 3) := by decide +kernel
theorem dX11_init_193 : decode cX11_init 193 = .ok (.iconst 4, 1) := by decide +kernel
theorem dX11_init_194 : decode cX11_init 194 = .ok (.ldc2_w 95, 3) := by decide +kernel
theorem dX11_init_197 : decode cX11_init 197 = .ok (.lastore, 1) := by decide +kernel
theorem dX11_init_198 : decode cX11_init 198 = .ok (.aload_n 0, 1) := by decide +kernel
theorem dX11_init_199 : decode cX11_init 199 = .ok (.getfield 47, 3) := by decide +kernel
theorem dX11_init_202 : decode cX11_init 202 = .ok (.iconst 5, 1) := by decide +kernel
theorem dX11_init_203 : decode cX11_init 203 = .ok (.ldc2_w 97, 3) := by decide +kernel
theorem dX11_init_206 : decode cX11_init 206 = .ok (.lastore, 1) := by decide +kernel
theorem dX11_init_207 : decode cX11_init 207 = .ok (.aload_n 0, 1) := by decide +kernel
theorem dX11_init_208 : decode cX11_init 208 = .ok (.getfield 47, 3) := by decide +kernel
theorem dX11_init_211 : decode cX11_init 211 = .ok (.bipush 6, 2) := by decide +kernel
theorem dX11_init_213 : decode cX11_init 213 = .ok (.ldc2_w 99, 3) := by decide +kernel
theorem dX11_init_216 : decode cX11_init 216 = .ok (.lastore, 1) := by decide +kernel
theorem dX11_init_217 : decode cX11_init 217 = .ok (.aload_n 0, 1) := by decide +kernel
theorem dX11_init_218 : decode cX11_init 218 = .ok (.getfield 47, 3) := by decide +kernel
theorem dX11_init_221 : decode cX11_init 221 = .ok (.bipush 7, 2) := by decide +kernel
theorem dX11_init_223 : decode cX11_init 223 = .ok (.ldc2_w 101, 3) := by decide +kernel
theorem dX11_init_226 : decode cX11_init 226 = .ok (.lastore, 1) := by decide +kernel
theorem dX11_init_227 : decode cX11_init 227 = .ok (.aload_n 0, 1) := by decide +kernel
theorem dX11_init_228 : decode cX11_init 228 = .ok (.getfield 47, 3) := by decide +kernel
theorem dX11_init_231 : decode cX11_init 231 = .ok (.bipush 8, 2) := by decide +kernel
theorem dX11_init_233 : decode cX11_init 233 = .ok (.ldc2_w 103, 3) := by decide +kernel
theorem dX11_init_236 : decode cX11_init 236 = .ok (.lastore, 1) := by decide +kernel
theorem dX11_init_237 : decode cX11_init 237 = .ok (.aload_n 0, 1) := by decide +kernel
theorem dX11_init_238 : decode cX11_init 238 = .ok (.getfield 47, 3) := by decide +kernel
theorem dX11_init_241 : decode cX11_init 241 = .ok (.bipush 9, 2) := by decide +kernel
theorem dX11_init_243 : decode cX11_init 243 = .ok (.ldc2_w 105, 3) := by decide +kernel
theorem dX11_init_246 : decode cX11_init 246 = .ok (.lastore, 1) := by decide +kernel
theorem dX11_init_247 : decode cX11_init 247 = .ok (.aload_n 0, 1) := by decide +kernel
theorem dX11_init_248 : decode cX11_init 248 = .ok (.getfield 47, 3) := by decide +kernel
theorem dX11_init_251 : decode cX11_init 251 = .ok (.bipush 10, 2) := by decide +kernel
theorem dX11_init_253 : decode cX11_init 253 = .ok (.ldc2_w 107, 3) := by decide +kernel
theorem dX11_init_256 : decode cX11_init 256 = .ok (.lastore, 1) := by decide +kernel
theorem dX11_init_257 : decode cX11_init 257 = .ok (.aload_n 0, 1) := by decide +kernel
theorem dX11_init_258 : decode cX11_init 258 = .ok (.getfield 47, 3) := by decide +kernel
theorem dX11_init_261 : decode cX11_init 261 = .ok (.bipush 11, 2) := by decide +kernel
theorem dX11_init_263 : decode cX11_init 263 = .ok (.ldc2_w 109, 3) := by decide +kernel
theorem dX11_init_266 : decode cX11_init 266 = .ok (.lastore, 1) := by decide +kernel
theorem dX11_init_267 : decode cX11_init 267 = .ok (.aload_n 0, 1) := by decide +kernel
theorem dX11_init_268 : decode cX11_init 268 = .ok (.getfield 47, 3) := by decide +kernel
theorem dX11_init_271 : decode cX11_init 271 = .ok (.bipush 12, 2) := by decide +kernel
theorem dX11_init_273 : decode cX11_init 273 = .ok (.ldc2_w 111, 3) := by decide +kernel
theorem dX11_init_276 : decode cX11_init 276 = .ok (.lastore, 1) := by decide +kernel
theorem dX11_init_277 : decode cX11_init 277 = .ok (.aload_n 0, 1) := by decide +kernel
theorem dX11_init_278 : decode cX11_init 278 = .ok (.getfield 47, 3) := by decide +kernel
theorem dX11_init_281 : decode cX11_init 281 = .ok (.bipush 13, 2) := by decide +kernel
theorem dX11_init_283 : decode cX11_init 283 = .ok (.ldc2_w 113, 3) := by decide +kernel
theorem dX11_init_286 : decode cX11_init 286 = .ok (.lastore, 1) := by decide +kernel
theorem dX11_init_287 : decode cX11_init 287 = .ok (.aload_n 0, 1) := by decide +kernel
theorem dX11_init_288 : decode cX11_init 288 = .ok (.getfield 47, 3) := by decide +kernel
theorem dX11_init_291 : decode cX11_init 291 = .ok (.bipush 14, 2) := by decide +kernel
theorem dX11_init_293 : decode cX11_init 293 = .ok (.ldc2_w 115, 3) := by decide +kernel
theorem dX11_init_296 : decode cX11_init 296 = .ok (.lastore, 1) := by decide +kernel
theorem dX11_init_297 : decode cX11_init 297 = .ok (.aload_n 0, 1) := by decide +kernel
theorem dX11_init_298 : decode cX11_init 298 = .ok (.getfield 47, 3) := by decide +kernel
theorem dX11_init_301 : decode cX11_init 301 = .ok (.bipush 15, 2) := by decide +kernel
theorem dX11_init_303 : decode cX11_init 303 = .ok (.ldc2_w 117, 3) := by decide +kernel
theorem dX11_init_306 : decode cX11_init 306 = .ok (.lastore, 1) := by decide +kernel
theorem dX11_init_307 : decode cX11_init 307 = .ok (.aload_n 0, 1) := by decide +kernel
theorem dX11_init_308 : decode cX11_init 308 = .ok (.getfield 47, 3) := by decide +kernel
theorem dX11_init_311 : decode cX11_init 311 = .ok (.bipush 16, 2) := by decide +kernel
theorem dX11_init_313 : decode cX11_init 313 = .ok (.ldc2_w 119, 3) := by decide +kernel
theorem dX11_init_316 : decode cX11_init 316 = .ok (.lastore, 1) := by decide +kernel
theorem dX11_init_317 : decode cX11_init 317 = .ok (.aload_n 0, 1) := by decide +kernel
theorem dX11_init_318 : decode cX11_init 318 = .ok (.getfield 47, 3) := by decide +kernel
theorem dX11_init_321 : decode cX11_init 321 = .ok (.bipush 17, 2) := by decide +kernel
theorem dX11_init_323 : decode cX11_init 323 = .ok (.ldc2_w 121, 3) := by decide +kernel
theorem dX11_init_326 : decode cX11_init 326 = .ok (.lastore, 1) := by decide +kernel
theorem dX11_init_327 : decode cX11_init 327 = .ok (.aload_n 0, 1) := by decide +kernel
theorem dX11_init_328 : decode cX11_init 328 = .ok (.getfield 47, 3) := by decide +kernel
theorem dX11_init_331 : decode cX11_init 331 = .ok (.bipush 18, 2) := by decide +kernel
theorem dX11_init_333 : decode cX11_init 333 = .ok (.ldc2_w 123, 3) := by decide +kernel
theorem dX11_init_336 : decode cX11_init 336 = .ok (.lastore, 1) := by decide +kernel
theorem dX11_init_337 : decode cX11_init 337 = .ok (.aload_n 0, 1) := by decide +kernel
theorem dX11_init_338 : decode cX11_init 338 = .ok (.getfield 47, 3) := by decide +kernel
theorem dX11_init_341 : decode cX11_init 341 = .ok (.bipush 19, 2) := by decide +kernel
theorem dX11_init_343 : decode cX11_init 343 = .ok (.ldc2_w 125, 3) := by decide +kernel
theorem dX11_init_346 : decode cX11_init 346 = .ok (.lastore, 1) := by decide +kernel
theorem dX11_init_347 : decode cX11_init 347 = .ok (.aload_n 0, 1) := by decide +kernel
theorem dX11_init_348 : decode cX11_init 348 = .ok (.getfield 47, 3) := by decide +kernel
theorem dX11_init_351 : decode cX11_init 351 = .ok (.bipush 20, 2) := by decide +kernel
theorem dX11_init_353 : decode cX11_init 353 = .ok (.ldc2_w 127, 3) := by decide +kernel
theorem dX11_init_356 : decode cX11_init 356 = .ok (.lastore, 1) := by decide +kernel
theorem dX11_init_357 : decode cX11_init 357 = .ok (.aload_n 0, 1) := by decide +kernel
theorem dX11_init_358 : decode cX11_init 358 = .ok (.getfield 47, 3) := by decide +kernel
theorem dX11_init_361 : decode cX11_init 361 = .ok (.bipush 21, 2) := by decide +kernel
theorem dX11_init_363 : decode cX11_init 363 = .ok (.ldc2_w 129, 3) := by decide +kernel
theorem dX11_init_366 : decode cX11_init 366 = .ok (.lastore, 1) := by decide +kernel
theorem dX11_init_367 : decode cX11_init 367 = .ok (.aload_n 0, 1) := by decide +kernel
theorem dX11_init_368 : decode cX11_init 368 = .ok (.invokevirtual 131, 3) := by decide +kernel
theorem dX11_init_371 : decode cX11_init 371 = .ok (.iconst 0, 1) := by decide +kernel
theorem dX11_init_372 : decode cX11_init 372 = .ok (.istore_n 1, 1) := by decide +kernel
theorem dX11_init_373 : decode cX11_init 373 = .ok (.iload_n 1, 1) := by decide +kernel
theorem dX11_init_374 : decode cX11_init 374 = .ok (.bipush 121, 2) := by decide +kernel
theorem dX11_init_376 : decode cX11_init 376 = .ok (.if_icmp .ge 21, 3) := by decide +kernel
theorem dX11_init_379 : decode cX11_init 379 = .ok (.aload_n 0, 1) := by decide +kernel
theorem dX11_init_380 : decode cX11_init 380 = .ok (.getfield 33, 3) := by decide +kernel
theorem dX11_init_383 : decode cX11_init 383 = .ok (.iload_n 1, 1) := by decide +kernel
theorem dX11_init_384 : decode cX11_init 384 = .ok (.aload_n 0, 1) := by decide +kernel
theorem dX11_init_385 : decode cX11_init 385 = .ok (.getfield 37, 3) := by decide +kernel
theorem dX11_init_388 : decode cX11_init 388 = .ok (.iload_n 1, 1) := by decide +kernel
theorem dX11_init_389 : decode cX11_init 389 = .ok (.iaload, 1) := by decide +kernel
theorem dX11_init_390 : decode cX11_init 390 = .ok (.iastore, 1) := by decide +kernel
theorem dX11_init_391 : decode cX11_init 391 = .ok (.iinc 1 1, 3) := by decide +kernel
theorem dX11_init_394 : decode cX11_init 394 = .ok (.goto (-21), 3) := by decide +kernel
theorem dX11_init_397 : decode cX11_init 397 = .ok (.return_, 1) := by decide +kernel
theorem dX11_clears_0 : decode cX11_clears 0 = .ok (.iconst 0, 1) := by decide +kernel
theorem dX11_clears_1 : decode cX11_clears 1 = .ok (.istore_n 1, 1) := by decide +kernel
theorem dX11_clears_2 : decode cX11_clears 2 = .ok (.iload_n 1, 1) := by decide +kernel
theorem dX11_clears_3 : decode cX11_clears 3 = .ok (.bipush 121, 2) := by decide +kernel
theorem dX11_clears_5 : decode cX11_clears 5 = .ok (.if_icmp .ge 16, 3) := by decide +kernel
theorem dX11_clears_8 : decode cX11_clears 8 = .ok (.aload_n 0, 1) := by decide +kernel
theorem dX11_clears_9 : decode cX11_clears 9 = .ok (.getfield 37, 3) := by decide +kernel
theorem dX11_clears_12 : decode cX11_clears 12 = .ok (.iload_n 1, 1) := by decide +kernel
theorem dX11_clears_13 : decode cX11_clears 13 = .ok (.iconst 0, 1) := by decide +kernel
theorem dX11_clears_14 : decode cX11_clears 14 = .ok (.iastore, 1) := by decide +kernel
theorem dX11_clears_15 : decode cX11_clears 15 = .ok (.iinc 1 1, 3) := by decide +kernel
theorem dX11_clears_18 : decode cX11_clears 18 = .ok (.goto (-16), 3) := by decide +kernel
theorem dX11_clears_21 : decode cX11_clears 21 = .ok (.aload_n 0, 1) := by decide +kernel
theorem dX11_clears_22 : decode cX11_clears 22 = .ok (.getfield 37, 3) := by decide +kernel
theorem dX11_clears_25 : decode cX11_clears 25 = .ok (.iconst 4, 1) := by decide +kernel
theorem dX11_clears_26 : decode cX11_clears 26 = .ok (.bipush 9, 2) := by decide +kernel
theorem dX11_clears_28 : decode cX11_clears 28 = .ok (.iastore, 1) := by decide +kernel
theorem dX11_clears_29 : decode cX11_clears 29 = .ok (.return_, 1) := by decide +kernel
theorem dX11_peek_0 : decode cX11_peek 0 = .ok (.aload_n 0, 1) := by decide +kernel
theorem dX11_peek_1 : decode cX11_peek 1 = .ok (.getfield 21, 3) := by decide +kernel
theorem dX11_peek_4 : decode cX11_peek 4 = .ok (.aload_n 0, 1) := by decide +kernel
theorem dX11_peek_5 : decode cX11_peek 5 = .ok (.getfield 18, 3) := by decide +kernel
theorem dX11_peek_8 : decode cX11_peek 8 = .ok (.if_icmp .ge 19, 3) := by decide +kernel
theorem dX11_peek_11 : decode cX11_peek 11 = .ok (.aload_n 0, 1) := by decide +kernel
theorem dX11_peek_12 : decode cX11_peek 12 = .ok (.getfield 14, 3) := by decide +kernel
theorem dX11_peek_15 : decode cX11_peek 15 = .ok (.aload_n 0, 1) := by decide +kernel
theorem dX11_peek_16 : decode cX11_peek 16 = .ok (.getfield 21, 3) := by decide +kernel
theorem dX11_peek_19 : decode cX11_peek 19 = .ok (.baload, 1) := by decide +kernel
theorem dX11_peek_20 : decode cX11_peek 20 = .ok (.sipush 255, 3) := by decide +kernel
theorem dX11_peek_23 : decode cX11_peek 23 = .ok (.iand, 1) := by decide +kernel
theorem dX11_peek_24 : decode cX11_peek 24 = .ok (.goto 4, 3) := by decide +kernel
theorem dX11_peek_27 : decode cX11_peek 27 = .ok (.iconst (-1), 1) := by decide +kernel
theorem dX11_peek_28 : decode cX11_peek 28 = .ok (.ireturn, 1) := by decide +kernel
theorem dX11_isSmall_0 : decode cX11_isSmall 0 = .ok (.iload_n 0, 1) := by decide +kernel
theorem dX11_isSmall_1 : decode cX11_isSmall 1 = .ok (.bipush 97, 2) := by decide +kernel
theorem dX11_isSmall_3 : decode cX11_isSmall 3 = .ok (.if_icmp .lt 13, 3) := by decide +kernel
theorem dX11_isSmall_6 : decode cX11_isSmall 6 = .ok (.iload_n 0, 1) := by decide +kernel
theorem dX11_isSmall_7 : decode cX11_isSmall 7 = .ok (.bipush 122, 2) := by decide +kernel
theorem dX11_isSmall_9 : decode cX11_isSmall 9 = .ok (.if_icmp .gt 7, 3) := by decide +kernel
theorem dX11_isSmall_12 : decode cX11_isSmall 12 = .ok (.iconst 1, 1) := by decide +kernel
theorem dX11_isSmall_13 : decode cX11_isSmall 13 = .ok (.goto 4, 3) := by decide +kernel
theorem dX11_isSmall_16 : decode cX11_isSmall 16 = .ok (.iconst 0, 1) := by decide +kernel
theorem dX11_isSmall_17 : decode cX11_isSmall 17 = .ok (.ireturn, 1) := by decide +kernel
theorem dX11_isDigit_0 : decode cX11_isDigit 0 = .ok (.iload_n 0, 1) := by decide +kernel
theorem dX11_isDigit_1 : decode cX11_isDigit 1 = .ok (.bipush 48, 2) := by decide +kernel
theorem dX11_isDigit_3 : decode cX11_isDigit 3 = .ok (.if_icmp .lt 13, 3) := by decide +kernel
theorem dX11_isDigit_6 : decode cX11_isDigit 6 = .ok (.iload_n 0, 1) := by decide +kernel
theorem dX11_isDigit_7 : decode cX11_isDigit 7 = .ok (.bipush 57, 2) := by decide +kernel
theorem dX11_isDigit_9 : decode cX11_isDigit 9 = .ok (.if_icmp .gt 7, 3) := by decide +kernel
theorem dX11_isDigit_12 : decode cX11_isDigit 12 = .ok (.iconst 1, 1) := by decide +kernel
theorem dX11_isDigit_13 : decode cX11_isDigit 13 = .ok (.goto 4, 3) := by decide +kernel
theorem dX11_isDigit_16 : decode cX11_isDigit 16 = .ok (.iconst 0, 1) := by decide +kernel
theorem dX11_isDigit_17 : decode cX11_isDigit 17 = .ok (.ireturn, 1) := by decide +kernel
theorem dX11_next_0 : decode cX11_next 0 = .ok (.aload_n 0, 1) := by decide +kernel
theorem dX11_next_1 : decode cX11_next 1 = .ok (.invokevirtual 134, 3) := by decide +kernel
theorem dX11_next_4 : decode cX11_next 4 = .ok (.bipush 32, 2) := by decide +kernel
theorem dX11_next_6 : decode cX11_next 6 = .ok (.if_icmp .eq 12, 3) := by decide +kernel
theorem dX11_next_9 : decode cX11_next 9 = .ok (.aload_n 0, 1) := by decide +kernel
theorem dX11_next_10 : decode cX11_next 10 = .ok (.invokevirtual 134, 3) := by decide +kernel
theorem dX11_next_13 : decode cX11_next 13 = .ok (.bipush 10, 2) := by decide +kernel
theorem dX11_next_15 : decode cX11_next 15 = .ok (.if_icmp .ne 16, 3) := by decide +kernel
theorem dX11_next_18 : decode cX11_next 18 = .ok (.aload_n 0, 1) := by decide +kernel
theorem dX11_next_19 : decode cX11_next 19 = .ok (.dup, 1) := by decide +kernel
theorem dX11_next_20 : decode cX11_next 20 = .ok (.getfield 21, 3) := by decide +kernel
theorem dX11_next_23 : decode cX11_next 23 = .ok (.iconst 1, 1) := by decide +kernel
theorem dX11_next_24 : decode cX11_next 24 = .ok (.iadd, 1) := by decide +kernel
theorem dX11_next_25 : decode cX11_next 25 = .ok (.putfield 21, 3) := by decide +kernel
theorem dX11_next_28 : decode cX11_next 28 = .ok (.goto (-28), 3) := by decide +kernel
theorem dX11_next_31 : decode cX11_next 31 = .ok (.aload_n 0, 1) := by decide +kernel
theorem dX11_next_32 : decode cX11_next 32 = .ok (.aload_n 0, 1) := by decide +kernel
theorem dX11_next_33 : decode cX11_next 33 = .ok (.getfield 21, 3) := by decide +kernel
theorem dX11_next_36 : decode cX11_next 36 = .ok (.putfield 138, 3) := by decide +kernel
theorem dX11_next_39 : decode cX11_next 39 = .ok (.aload_n 0, 1) := by decide +kernel
theorem dX11_next_40 : decode cX11_next 40 = .ok (.iconst 0, 1) := by decide +kernel
theorem dX11_next_41 : decode cX11_next 41 = .ok (.putfield 141, 3) := by decide +kernel
theorem dX11_next_44 : decode cX11_next 44 = .ok (.aload_n 0, 1) := by decide +kernel
theorem dX11_next_45 : decode cX11_next 45 = .ok (.getfield 18, 3) := by decide +kernel
theorem dX11_next_48 : decode cX11_next 48 = .ok (.aload_n 0, 1) := by decide +kernel
theorem dX11_next_49 : decode cX11_next 49 = .ok (.getfield 24, 3) := by decide +kernel
theorem dX11_next_52 : decode cX11_next 52 = .ok (.if_icmp .le 28, 3) := by decide +kernel
theorem dX11_next_55 : decode cX11_next 55 = .ok (.aload_n 0, 1) := by decide +kernel
theorem dX11_next_56 : decode cX11_next 56 = .ok (.getfield 21, 3) := by decide +kernel
theorem dX11_next_59 : decode cX11_next 59 = .ok (.aload_n 0, 1) := by decide +kernel
theorem dX11_next_60 : decode cX11_next 60 = .ok (.getfield 24, 3) := by decide +kernel
theorem dX11_next_63 : decode cX11_next 63 = .ok (.if_icmp .lt 17, 3) := by decide +kernel
theorem dX11_next_66 : decode cX11_next 66 = .ok (.aload_n 0, 1) := by decide +kernel
theorem dX11_next_67 : decode cX11_next 67 = .ok (.aload_n 0, 1) := by decide +kernel
theorem dX11_next_68 : decode cX11_next 68 = .ok (.getfield 24, 3) := by decide +kernel
theorem dX11_next_71 : decode cX11_next 71 = .ok (.putfield 138, 3) := by decide +kernel
theorem dX11_next_74 : decode cX11_next 74 = .ok (.aload_n 0, 1) := by decide +kernel
theorem dX11_next_75 : decode cX11_next 75 = .ok (.iconst 4, 1) := by decide +kernel
theorem dX11_next_76 : decode cX11_next 76 = .ok (.putfield 144, 3) := by decide +kernel
theorem dX11_next_79 : decode cX11_next 79 = .ok (.return_, 1) := by decide +kernel
theorem dX11_next_80 : decode cX11_next 80 = .ok (.aload_n 0, 1) := by decide +kernel
theorem dX11_next_81 : decode cX11_next 81 = .ok (.invokevirtual 134, 3) := by decide +kernel
theorem dX11_next_84 : decode cX11_next 84 = .ok (.istore_n 1, 1) := by decide +kernel
theorem dX11_next_85 : decode cX11_next 85 = .ok (.iload_n 1, 1) := by decide +kernel
theorem dX11_next_86 : decode cX11_next 86 = .ok (.ifCond .ge 9, 3) := by decide +kernel
theorem dX11_next_89 : decode cX11_next 89 = .ok (.aload_n 0, 1) := by decide +kernel
theorem dX11_next_90 : decode cX11_next 90 = .ok (.iconst 0, 1) := by decide +kernel
theorem dX11_next_91 : decode cX11_next 91 = .ok (.putfield 144, 3) := by decide +kernel
theorem dX11_next_94 : decode cX11_next 94 = .ok (.return_, 1) := by decide +kernel
theorem dX11_next_95 : decode cX11_next 95 = .ok (.iload_n 1, 1) := by decide +kernel
theorem dX11_next_96 : decode cX11_next 96 = .ok (.invokestatic 147, 3) := by decide +kernel
theorem dX11_next_99 : decode cX11_next 99 = .ok (.ifCond .ne 65, 3) := by decide +kernel
theorem dX11_next_102 : decode cX11_next 102 = .ok (.iload_n 1, 1) := by decide +kernel
theorem dX11_next_103 : decode cX11_next 103 = .ok (.invokestatic 151, 3) := by decide +kernel
theorem dX11_next_106 : decode cX11_next 106 = .ok (.ifCond .ne 58, 3) := by decide +kernel
theorem dX11_next_109 : decode cX11_next 109 = .ok (.aload_n 0, 1) := by decide +kernel
theorem dX11_next_110 : decode cX11_next 110 = .ok (.iload_n 1, 1) := by decide +kernel
theorem dX11_next_111 : decode cX11_next 111 = .ok (.bipush 59, 2) := by decide +kernel
theorem dX11_next_113 : decode cX11_next 113 = .ok (.if_icmp .eq 27, 3) := by decide +kernel
theorem dX11_next_116 : decode cX11_next 116 = .ok (.iload_n 1, 1) := by decide +kernel
theorem dX11_next_117 : decode cX11_next 117 = .ok (.bipush 40, 2) := by decide +kernel
theorem dX11_next_119 : decode cX11_next 119 = .ok (.if_icmp .eq 21, 3) := by decide +kernel
theorem dX11_next_122 : decode cX11_next 122 = .ok (.iload_n 1, 1) := by decide +kernel
theorem dX11_next_123 : decode cX11_next 123 = .ok (.bipush 41, 2) := by decide +kernel
theorem dX11_next_125 : decode cX11_next 125 = .ok (.if_icmp .eq 15, 3) := by decide +kernel
theorem dX11_next_128 : decode cX11_next 128 = .ok (.iload_n 1, 1) := by decide +kernel
theorem dX11_next_129 : decode cX11_next 129 = .ok (.bipush 60, 2) := by decide +kernel
theorem dX11_next_131 : decode cX11_next 131 = .ok (.if_icmp .lt 13, 3) := by decide +kernel
theorem dX11_next_134 : decode cX11_next 134 = .ok (.iload_n 1, 1) := by decide +kernel
theorem dX11_next_135 : decode cX11_next 135 = .ok (.bipush 62, 2) := by decide +kernel
theorem dX11_next_137 : decode cX11_next 137 = .ok (.if_icmp .gt 7, 3) := by decide +kernel
theorem dX11_next_140 : decode cX11_next 140 = .ok (.iconst 3, 1) := by decide +kernel
theorem dX11_next_141 : decode cX11_next 141 = .ok (.goto 4, 3) := by decide +kernel
theorem dX11_next_144 : decode cX11_next 144 = .ok (.iconst 4, 1) := by decide +kernel
theorem dX11_next_145 : decode cX11_next 145 = .ok (.putfield 144, 3) := by decide +kernel
theorem dX11_next_148 : decode cX11_next 148 = .ok (.aload_n 0, 1) := by decide +kernel
theorem dX11_next_149 : decode cX11_next 149 = .ok (.iload_n 1, 1) := by decide +kernel
theorem dX11_next_150 : decode cX11_next 150 = .ok (.putfield 154, 3) := by decide +kernel
theorem dX11_next_153 : decode cX11_next 153 = .ok (.aload_n 0, 1) := by decide +kernel
theorem dX11_next_154 : decode cX11_next 154 = .ok (.dup, 1) := by decide +kernel
theorem dX11_next_155 : decode cX11_next 155 = .ok (.getfield 21, 3) := by decide +kernel
theorem dX11_next_158 : decode cX11_next 158 = .ok (.iconst 1, 1) := by decide +kernel
theorem dX11_next_159 : decode cX11_next 159 = .ok (.iadd, 1) := by decide +kernel
theorem dX11_next_160 : decode cX11_next 160 = .ok (.putfield 21, 3) := by decide +kernel
theorem dX11_next_163 : decode cX11_next 163 = .ok (.return_, 1) := by decide +kernel
theorem dX11_next_164 : decode cX11_next 164 = .ok (.iload_n 1, 1) := by decide +kernel
theorem dX11_next_165 : decode cX11_next 165 = .ok (.invokestatic 147, 3) := by decide +kernel
theorem dX11_next_168 : decode cX11_next 168 = .ok (.istore_n 2, 1) := by decide +kernel
theorem dX11_next_169 : decode cX11_next 169 = .ok (.iconst 1, 1) := by decide +kernel
theorem dX11_next_170 : decode cX11_next 170 = .ok (.istore_n 3, 1) := by decide +kernel
theorem dX11_next_171 : decode cX11_next 171 = .ok (.aload_n 0, 1) := by decide +kernel
theorem dX11_next_172 : decode cX11_next 172 = .ok (.lconst 0, 1) := by decide +kernel
theorem dX11_next_173 : decode cX11_next 173 = .ok (.putfield 157, 3) := by decide +kernel
theorem dX11_next_176 : decode cX11_next 176 = .ok (.aload_n 0, 1) := by decide +kernel
theorem dX11_next_177 : decode cX11_next 177 = .ok (.iconst 0, 1) := by decide +kernel
theorem dX11_next_178 : decode cX11_next 178 = .ok (.putfield 154, 3) := by decide +kernel
theorem dX11_next_181 : decode cX11_next 181 = .ok (.aload_n 0, 1) := by decide +kernel
theorem dX11_next_182 : decode cX11_next 182 = .ok (.invokevirtual 134, 3) := by decide +kernel
theorem dX11_next_185 : decode cX11_next 185 = .ok (.invokestatic 147, 3) := by decide +kernel
theorem dX11_next_188 : decode cX11_next 188 = .ok (.ifCond .ne 13, 3) := by decide +kernel
theorem dX11_next_191 : decode cX11_next 191 = .ok (.aload_n 0, 1) := by decide +kernel
theorem dX11_next_192 : decode cX11_next 192 = .ok (.invokevirtual 134, 3) := by decide +kernel
theorem dX11_next_195 : decode cX11_next 195 = .ok (.invokestatic 151, 3) := by decide +kernel
theorem dX11_next_198 : decode cX11_next 198 = .ok (.ifCond .eq 100, 3) := by decide +kernel
theorem dX11_next_201 : decode cX11_next 201 = .ok (.iload_n 3, 1) := by decide +kernel
theorem dX11_next_202 : decode cX11_next 202 = .ok (.ifCond .eq 18, 3) := by decide +kernel
theorem dX11_next_205 : decode cX11_next 205 = .ok (.aload_n 0, 1) := by decide +kernel
theorem dX11_next_206 : decode cX11_next 206 = .ok (.invokevirtual 134, 3) := by decide +kernel
theorem dX11_next_209 : decode cX11_next 209 = .ok (.invokestatic 147, 3) := by decide +kernel
theorem dX11_next_212 : decode cX11_next 212 = .ok (.iload_n 2, 1) := by decide +kernel
theorem dX11_next_213 : decode cX11_next 213 = .ok (.if_icmp .ne 7, 3) := by decide +kernel
theorem dX11_next_216 : decode cX11_next 216 = .ok (.iconst 1, 1) := by decide +kernel
theorem dX11_next_217 : decode cX11_next 217 = .ok (.goto 4, 3) := by decide +kernel
theorem dX11_next_220 : decode cX11_next 220 = .ok (.iconst 0, 1) := by decide +kernel
theorem dX11_next_221 : decode cX11_next 221 = .ok (.istore_n 3, 1) := by decide +kernel
theorem dX11_next_222 : decode cX11_next 222 = .ok (.aload_n 0, 1) := by decide +kernel
theorem dX11_next_223 : decode cX11_next 223 = .ok (.getfield 141, 3) := by decide +kernel
theorem dX11_next_226 : decode cX11_next 226 = .ok (.bipush 7, 2) := by decide +kernel
theorem dX11_next_228 : decode cX11_next 228 = .ok (.if_icmp .ge 20, 3) := by decide +kernel
theorem dX11_next_231 : decode cX11_next 231 = .ok (.aload_n 0, 1) := by decide +kernel
theorem dX11_next_232 : decode cX11_next 232 = .ok (.aload_n 0, 1) := by decide +kernel
theorem dX11_next_233 : decode cX11_next 233 = .ok (.getfield 157, 3) := by decide +kernel
theorem dX11_next_236 : decode cX11_next 236 = .ok (.bipush 8, 2) := by decide +kernel
theorem dX11_next_238 : decode cX11_next 238 = .ok (.lshl, 1) := by decide +kernel
theorem dX11_next_239 : decode cX11_next 239 = .ok (.aload_n 0, 1) := by decide +kernel
theorem dX11_next_240 : decode cX11_next 240 = .ok (.invokevirtual 134, 3) := by decide +kernel
theorem dX11_next_243 : decode cX11_next 243 = .ok (.i2l, 1) := by decide +kernel
theorem dX11_next_244 : decode cX11_next 244 = .ok (.lor, 1) := by decide +kernel
theorem dX11_next_245 : decode cX11_next 245 = .ok (.putfield 157, 3) := by decide +kernel
theorem dX11_next_248 : decode cX11_next 248 = .ok (.aload_n 0, 1) := by decide +kernel
theorem dX11_next_249 : decode cX11_next 249 = .ok (.getfield 141, 3) := by decide +kernel
theorem dX11_next_252 : decode cX11_next 252 = .ok (.iconst 3, 1) := by decide +kernel
theorem dX11_next_253 : decode cX11_next 253 = .ok (.if_icmp .ge 22, 3) := by decide +kernel
theorem dX11_next_256 : decode cX11_next 256 = .ok (.aload_n 0, 1) := by decide +kernel
theorem dX11_next_257 : decode cX11_next 257 = .ok (.bipush 10, 2) := by decide +kernel
theorem dX11_next_259 : decode cX11_next 259 = .ok (.aload_n 0, 1) := by decide +kernel
theorem dX11_next_260 : decode cX11_next 260 = .ok (.getfield 154, 3) := by decide +kernel
theorem dX11_next_263 : decode cX11_next 263 = .ok (.imul, 1) := by decide +kernel
theorem dX11_next_264 : decode cX11_next 264 = .ok (.aload_n 0, 1) := by decide +kernel
theorem dX11_next_265 : decode cX11_next 265 = .ok (.invokevirtual 134, 3) := by decide +kernel
theorem dX11_next_268 : decode cX11_next 268 = .ok (.iadd, 1) := by decide +kernel
theorem dX11_next_269 : decode cX11_next 269 = .ok (.bipush 48, 2) := by decide +kernel
theorem dX11_next_271 : decode cX11_next 271 = .ok (.isub, 1) := by decide +kernel
theorem dX11_next_272 : decode cX11_next 272 = .ok (.putfield 154, 3) := by decide +kernel
theorem dX11_next_275 : decode cX11_next 275 = .ok (.aload_n 0, 1) := by decide +kernel
theorem dX11_next_276 : decode cX11_next 276 = .ok (.dup, 1) := by decide +kernel
theorem dX11_next_277 : decode cX11_next 277 = .ok (.getfield 141, 3) := by decide +kernel
theorem dX11_next_280 : decode cX11_next 280 = .ok (.iconst 1, 1) := by decide +kernel
theorem dX11_next_281 : decode cX11_next 281 = .ok (.iadd, 1) := by decide +kernel
theorem dX11_next_282 : decode cX11_next 282 = .ok (.putfield 141, 3) := by decide +kernel
theorem dX11_next_285 : decode cX11_next 285 = .ok (.aload_n 0, 1) := by decide +kernel
theorem dX11_next_286 : decode cX11_next 286 = .ok (.dup, 1) := by decide +kernel
theorem dX11_next_287 : decode cX11_next 287 = .ok (.getfield 21, 3) := by decide +kernel
theorem dX11_next_290 : decode cX11_next 290 = .ok (.iconst 1, 1) := by decide +kernel
theorem dX11_next_291 : decode cX11_next 291 = .ok (.iadd, 1) := by decide +kernel
theorem dX11_next_292 : decode cX11_next 292 = .ok (.putfield 21, 3) := by decide +kernel
theorem dX11_next_295 : decode cX11_next 295 = .ok (.goto (-114), 3) := by decide +kernel
theorem dX11_next_298 : decode cX11_next 298 = .ok (.aload_n 0, 1) := by decide +kernel
theorem dX11_next_299 : decode cX11_next 299 = .ok (.iload_n 3, 1) := by decide +kernel
theorem dX11_next_300 : decode cX11_next 300 = .ok (.ifCond .eq 20, 3) := by decide +kernel
theorem dX11_next_303 : decode cX11_next 303 = .ok (.aload_n 0, 1) := by decide +kernel
theorem dX11_next_304 : decode cX11_next 304 = .ok (.getfield 141, 3) := by decide +kernel
theorem dX11_next_307 : decode cX11_next 307 = .ok (.iload_n 2, 1) := by decide +kernel
theorem dX11_next_308 : decode cX11_next 308 = .ok (.ifCond .eq 8, 3) := by decide +kernel
theorem dX11_next_311 : decode cX11_next 311 = .ok (.bipush 7, 2) := by decide +kernel
theorem dX11_next_313 : decode cX11_next 313 = .ok (.goto 4, 3) := by decide +kernel
theorem dX11_next_316 : decode cX11_next 316 = .ok (.iconst 3, 1) := by decide +kernel
theorem dX11_next_317 : decode cX11_next 317 = .ok (.if_icmp .le 7, 3) := by decide +kernel
theorem dX11_next_320 : decode cX11_next 320 = .ok (.iconst 4, 1) := by decide +kernel
theorem dX11_next_321 : decode cX11_next 321 = .ok (.goto 12, 3) := by decide +kernel
theorem dX11_next_324 : decode cX11_next 324 = .ok (.iload_n 2, 1) := by decide +kernel
theorem dX11_next_325 : decode cX11_next 325 = .ok (.ifCond .eq 7, 3) := by decide +kernel
theorem dX11_next_328 : decode cX11_next 328 = .ok (.iconst 1, 1) := by decide +kernel
theorem dX11_next_329 : decode cX11_next 329 = .ok (.goto 4, 3) := by decide +kernel
theorem dX11_next_332 : decode cX11_next 332 = .ok (.iconst 2, 1) := by decide +kernel
theorem dX11_next_333 : decode cX11_next 333 = .ok (.putfield 144, 3) := by decide +kernel
theorem dX11_next_336 : decode cX11_next 336 = .ok (.return_, 1) := by decide +kernel
theorem dX11_bad_0 : decode cX11_bad 0 = .ok (.aload_n 0, 1) := by decide +kernel
theorem dX11_bad_1 : decode cX11_bad 1 = .ok (.iload_n 1, 1) := by decide +kernel
theorem dX11_bad_2 : decode cX11_bad 2 = .ok (.putfield 161, 3) := by decide +kernel
theorem dX11_bad_5 : decode cX11_bad 5 = .ok (.aload_n 0, 1) := by decide +kernel
theorem dX11_bad_6 : decode cX11_bad 6 = .ok (.aload_n 0, 1) := by decide +kernel
theorem dX11_bad_7 : decode cX11_bad 7 = .ok (.getfield 138, 3) := by decide +kernel
theorem dX11_bad_10 : decode cX11_bad 10 = .ok (.putfield 164, 3) := by decide +kernel
theorem dX11_bad_13 : decode cX11_bad 13 = .ok (.iconst 0, 1) := by decide +kernel
theorem dX11_bad_14 : decode cX11_bad 14 = .ok (.ireturn, 1) := by decide +kernel
theorem dX11_isWord_0 : decode cX11_isWord 0 = .ok (.aload_n 0, 1) := by decide +kernel
theorem dX11_isWord_1 : decode cX11_isWord 1 = .ok (.getfield 144, 3) := by decide +kernel
theorem dX11_isWord_4 : decode cX11_isWord 4 = .ok (.iconst 1, 1) := by decide +kernel
theorem dX11_isWord_5 : decode cX11_isWord 5 = .ok (.if_icmp .ne 16, 3) := by decide +kernel
theorem dX11_isWord_8 : decode cX11_isWord 8 = .ok (.aload_n 0, 1) := by decide +kernel
theorem dX11_isWord_9 : decode cX11_isWord 9 = .ok (.getfield 157, 3) := by decide +kernel
theorem dX11_isWord_12 : decode cX11_isWord 12 = .ok (.lload_n 1, 1) := by decide +kernel
theorem dX11_isWord_13 : decode cX11_isWord 13 = .ok (.lcmp, 1) := by decide +kernel
theorem dX11_isWord_14 : decode cX11_isWord 14 = .ok (.ifCond .ne 7, 3) := by decide +kernel
theorem dX11_isWord_17 : decode cX11_isWord 17 = .ok (.iconst 1, 1) := by decide +kernel
theorem dX11_isWord_18 : decode cX11_isWord 18 = .ok (.goto 4, 3) := by decide +kernel
theorem dX11_isWord_21 : decode cX11_isWord 21 = .ok (.iconst 0, 1) := by decide +kernel
theorem dX11_isWord_22 : decode cX11_isWord 22 = .ok (.ireturn, 1) := by decide +kernel
theorem dX11_isSign_0 : decode cX11_isSign 0 = .ok (.aload_n 0, 1) := by decide +kernel
theorem dX11_isSign_1 : decode cX11_isSign 1 = .ok (.getfield 144, 3) := by decide +kernel
theorem dX11_isSign_4 : decode cX11_isSign 4 = .ok (.iconst 3, 1) := by decide +kernel
theorem dX11_isSign_5 : decode cX11_isSign 5 = .ok (.if_icmp .ne 15, 3) := by decide +kernel
theorem dX11_isSign_8 : decode cX11_isSign 8 = .ok (.aload_n 0, 1) := by decide +kernel
theorem dX11_isSign_9 : decode cX11_isSign 9 = .ok (.getfield 154, 3) := by decide +kernel
theorem dX11_isSign_12 : decode cX11_isSign 12 = .ok (.iload_n 1, 1) := by decide +kernel
theorem dX11_isSign_13 : decode cX11_isSign 13 = .ok (.if_icmp .ne 7, 3) := by decide +kernel
theorem dX11_isSign_16 : decode cX11_isSign 16 = .ok (.iconst 1, 1) := by decide +kernel
theorem dX11_isSign_17 : decode cX11_isSign 17 = .ok (.goto 4, 3) := by decide +kernel
theorem dX11_isSign_20 : decode cX11_isSign 20 = .ok (.iconst 0, 1) := by decide +kernel
theorem dX11_isSign_21 : decode cX11_isSign 21 = .ok (.ireturn, 1) := by decide +kernel
theorem dX11_sign_0 : decode cX11_sign 0 = .ok (.aload_n 0, 1) := by decide +kernel
theorem dX11_sign_1 : decode cX11_sign 1 = .ok (.iload_n 1, 1) := by decide +kernel
theorem dX11_sign_2 : decode cX11_sign 2 = .ok (.invokevirtual 167, 3) := by decide +kernel
theorem dX11_sign_5 : decode cX11_sign 5 = .ok (.ifCond .ne 9, 3) := by decide +kernel
theorem dX11_sign_8 : decode cX11_sign 8 = .ok (.aload_n 0, 1) := by decide +kernel
theorem dX11_sign_9 : decode cX11_sign 9 = .ok (.iconst 1, 1) := by decide +kernel
theorem dX11_sign_10 : decode cX11_sign 10 = .ok (.invokevirtual 170, 3) := by decide +kernel
theorem dX11_sign_13 : decode cX11_sign 13 = .ok (.ireturn, 1) := by decide +kernel
theorem dX11_sign_14 : decode cX11_sign 14 = .ok (.aload_n 0, 1) := by decide +kernel
theorem dX11_sign_15 : decode cX11_sign 15 = .ok (.invokevirtual 173, 3) := by decide +kernel
theorem dX11_sign_18 : decode cX11_sign 18 = .ok (.iconst 1, 1) := by decide +kernel
theorem dX11_sign_19 : decode cX11_sign 19 = .ok (.ireturn, 1) := by decide +kernel
theorem dX11_isName_0 : decode cX11_isName 0 = .ok (.aload_n 0, 1) := by decide +kernel
theorem dX11_isName_1 : decode cX11_isName 1 = .ok (.getfield 144, 3) := by decide +kernel
theorem dX11_isName_4 : decode cX11_isName 4 = .ok (.iconst 1, 1) := by decide +kernel
theorem dX11_isName_5 : decode cX11_isName 5 = .ok (.if_icmp .ne 7, 3) := by decide +kernel
theorem dX11_isName_8 : decode cX11_isName 8 = .ok (.iconst 1, 1) := by decide +kernel
theorem dX11_isName_9 : decode cX11_isName 9 = .ok (.goto 4, 3) := by decide +kernel
theorem dX11_isName_12 : decode cX11_isName 12 = .ok (.iconst 0, 1) := by decide +kernel
theorem dX11_isName_13 : decode cX11_isName 13 = .ok (.istore_n 1, 1) := by decide +kernel
theorem dX11_isName_14 : decode cX11_isName 14 = .ok (.iconst 0, 1) := by decide +kernel
theorem dX11_isName_15 : decode cX11_isName 15 = .ok (.istore_n 2, 1) := by decide +kernel
theorem dX11_isName_16 : decode cX11_isName 16 = .ok (.iload_n 2, 1) := by decide +kernel
theorem dX11_isName_17 : decode cX11_isName 17 = .ok (.bipush 22, 2) := by decide +kernel
theorem dX11_isName_19 : decode cX11_isName 19 = .ok (.if_icmp .ge 33, 3) := by decide +kernel
theorem dX11_isName_22 : decode cX11_isName 22 = .ok (.iload_n 1, 1) := by decide +kernel
theorem dX11_isName_23 : decode cX11_isName 23 = .ok (.ifCond .eq 21, 3) := by decide +kernel
theorem dX11_isName_26 : decode cX11_isName 26 = .ok (.aload_n 0, 1) := by decide +kernel
theorem dX11_isName_27 : decode cX11_isName 27 = .ok (.getfield 157, 3) := by decide +kernel
theorem dX11_isName_30 : decode cX11_isName 30 = .ok (.aload_n 0, 1) := by decide +kernel
theorem dX11_isName_31 : decode cX11_isName 31 = .ok (.getfield 47, 3) := by decide +kernel
theorem dX11_isName_34 : decode cX11_isName 34 = .ok (.iload_n 2, 1) := by decide +kernel
theorem dX11_isName_35 : decode cX11_isName 35 = .ok (.laload, 1) := by decide +kernel
theorem dX11_isName_36 : decode cX11_isName 36 = .ok (.lcmp, 1) := by decide +kernel
theorem dX11_isName_37 : decode cX11_isName 37 = .ok (.ifCond .eq 7, 3) := by decide +kernel
theorem dX11_isName_40 : decode cX11_isName 40 = .ok (.iconst 1, 1) := by decide +kernel
theorem dX11_isName_41 : decode cX11_isName 41 = .ok (.goto 4, 3) := by decide +kernel
theorem dX11_isName_44 : decode cX11_isName 44 = .ok (.iconst 0, 1) := by decide +kernel
theorem dX11_isName_45 : decode cX11_isName 45 = .ok (.istore_n 1, 1) := by decide +kernel
theorem dX11_isName_46 : decode cX11_isName 46 = .ok (.iinc 2 1, 3) := by decide +kernel
theorem dX11_isName_49 : decode cX11_isName 49 = .ok (.goto (-33), 3) := by decide +kernel
theorem dX11_isName_52 : decode cX11_isName 52 = .ok (.iload_n 1, 1) := by decide +kernel
theorem dX11_isName_53 : decode cX11_isName 53 = .ok (.ireturn, 1) := by decide +kernel
theorem dX11_takes_0 : decode cX11_takes 0 = .ok (.aload_n 0, 1) := by decide +kernel
theorem dX11_takes_1 : decode cX11_takes 1 = .ok (.getfield 144, 3) := by decide +kernel
theorem dX11_takes_4 : decode cX11_takes 4 = .ok (.iconst 2, 1) := by decide +kernel
theorem dX11_takes_5 : decode cX11_takes 5 = .ok (.if_icmp .eq 9, 3) := by decide +kernel
theorem dX11_takes_8 : decode cX11_takes 8 = .ok (.aload_n 0, 1) := by decide +kernel
theorem dX11_takes_9 : decode cX11_takes 9 = .ok (.iconst 1, 1) := by decide +kernel
theorem dX11_takes_10 : decode cX11_takes 10 = .ok (.invokevirtual 170, 3) := by decide +kernel
theorem dX11_takes_13 : decode cX11_takes 13 = .ok (.ireturn, 1) := by decide +kernel
theorem dX11_takes_14 : decode cX11_takes 14 = .ok (.aload_n 0, 1) := by decide +kernel
theorem dX11_takes_15 : decode cX11_takes 15 = .ok (.getfield 154, 3) := by decide +kernel
theorem dX11_takes_18 : decode cX11_takes 18 = .ok (.iload_n 1, 1) := by decide +kernel
theorem dX11_takes_19 : decode cX11_takes 19 = .ok (.iload_n 2, 1) := by decide +kernel
theorem dX11_takes_20 : decode cX11_takes 20 = .ok (.invokestatic 176, 3) := by decide +kernel
theorem dX11_takes_23 : decode cX11_takes 23 = .ok (.ifCond .ne 9, 3) := by decide +kernel
theorem dX11_takes_26 : decode cX11_takes 26 = .ok (.aload_n 0, 1) := by decide +kernel
theorem dX11_takes_27 : decode cX11_takes 27 = .ok (.iconst 2, 1) := by decide +kernel
theorem dX11_takes_28 : decode cX11_takes 28 = .ok (.invokevirtual 170, 3) := by decide +kernel
theorem dX11_takes_31 : decode cX11_takes 31 = .ok (.ireturn, 1) := by decide +kernel
theorem dX11_takes_32 : decode cX11_takes 32 = .ok (.aload_n 0, 1) := by decide +kernel
theorem dX11_takes_33 : decode cX11_takes 33 = .ok (.aload_n 0, 1) := by decide +kernel
theorem dX11_takes_34 : decode cX11_takes 34 = .ok (.getfield 154, 3) := by decide +kernel
theorem dX11_takes_37 : decode cX11_takes 37 = .ok (.putfield 180, 3) := by decide +kernel
theorem dX11_takes_40 : decode cX11_takes 40 = .ok (.aload_n 0, 1) := by decide +kernel
theorem dX11_takes_41 : decode cX11_takes 41 = .ok (.invokevirtual 173, 3) := by decide +kernel
theorem dX11_takes_44 : decode cX11_takes 44 = .ok (.iconst 1, 1) := by decide +kernel
theorem dX11_takes_45 : decode cX11_takes 45 = .ok (.ireturn, 1) := by decide +kernel
theorem dX11_puts_0 : decode cX11_puts 0 = .ok (.aload_n 0, 1) := by decide +kernel
theorem dX11_puts_1 : decode cX11_puts 1 = .ok (.iload_n 2, 1) := by decide +kernel
theorem dX11_puts_2 : decode cX11_puts 2 = .ok (.iload_n 3, 1) := by decide +kernel
theorem dX11_puts_3 : decode cX11_puts 3 = .ok (.invokevirtual 183, 3) := by decide +kernel
theorem dX11_puts_6 : decode cX11_puts 6 = .ok (.ifCond .ne 5, 3) := by decide +kernel
theorem dX11_puts_9 : decode cX11_puts 9 = .ok (.iconst 0, 1) := by decide +kernel
theorem dX11_puts_10 : decode cX11_puts 10 = .ok (.ireturn, 1) := by decide +kernel
theorem dX11_puts_11 : decode cX11_puts 11 = .ok (.aload_n 0, 1) := by decide +kernel
theorem dX11_puts_12 : decode cX11_puts 12 = .ok (.getfield 37, 3) := by decide +kernel
theorem dX11_puts_15 : decode cX11_puts 15 = .ok (.iload_n 1, 1) := by decide +kernel
theorem dX11_puts_16 : decode cX11_puts 16 = .ok (.aload_n 0, 1) := by decide +kernel
theorem dX11_puts_17 : decode cX11_puts 17 = .ok (.getfield 180, 3) := by decide +kernel
theorem dX11_puts_20 : decode cX11_puts 20 = .ok (.iastore, 1) := by decide +kernel
theorem dX11_puts_21 : decode cX11_puts 21 = .ok (.iconst 1, 1) := by decide +kernel
theorem dX11_puts_22 : decode cX11_puts 22 = .ok (.ireturn, 1) := by decide +kernel
theorem dX11_seek_0 : decode cX11_seek 0 = .ok (.iconst 0, 1) := by decide +kernel
theorem dX11_seek_1 : decode cX11_seek 1 = .ok (.istore_n 3, 1) := by decide +kernel
theorem dX11_seek_2 : decode cX11_seek 2 = .ok (.iload_n 3, 1) := by decide +kernel
theorem dX11_seek_3 : decode cX11_seek 3 = .ok (.iload_n 2, 1) := by decide +kernel
theorem dX11_seek_4 : decode cX11_seek 4 = .ok (.if_icmp .ge 27, 3) := by decide +kernel
theorem dX11_seek_7 : decode cX11_seek 7 = .ok (.aload_n 0, 1) := by decide +kernel
theorem dX11_seek_8 : decode cX11_seek 8 = .ok (.getfield 43, 3) := by decide +kernel
theorem dX11_seek_11 : decode cX11_seek 11 = .ok (.iload_n 1, 1) := by decide +kernel
theorem dX11_seek_12 : decode cX11_seek 12 = .ok (.iload_n 3, 1) := by decide +kernel
theorem dX11_seek_13 : decode cX11_seek 13 = .ok (.iadd, 1) := by decide +kernel
theorem dX11_seek_14 : decode cX11_seek 14 = .ok (.laload, 1) := by decide +kernel
theorem dX11_seek_15 : decode cX11_seek 15 = .ok (.aload_n 0, 1) := by decide +kernel
theorem dX11_seek_16 : decode cX11_seek 16 = .ok (.getfield 157, 3) := by decide +kernel
theorem dX11_seek_19 : decode cX11_seek 19 = .ok (.lcmp, 1) := by decide +kernel
theorem dX11_seek_20 : decode cX11_seek 20 = .ok (.ifCond .ne 5, 3) := by decide +kernel
theorem dX11_seek_23 : decode cX11_seek 23 = .ok (.iload_n 3, 1) := by decide +kernel
theorem dX11_seek_24 : decode cX11_seek 24 = .ok (.ireturn, 1) := by decide +kernel
theorem dX11_seek_25 : decode cX11_seek 25 = .ok (.iinc 3 1, 3) := by decide +kernel
theorem dX11_seek_28 : decode cX11_seek 28 = .ok (.goto (-26), 3) := by decide +kernel
theorem dX11_seek_31 : decode cX11_seek 31 = .ok (.iconst (-1), 1) := by decide +kernel
theorem dX11_seek_32 : decode cX11_seek 32 = .ok (.ireturn, 1) := by decide +kernel
theorem dX11_fresh_0 : decode cX11_fresh 0 = .ok (.aload_n 0, 1) := by decide +kernel
theorem dX11_fresh_1 : decode cX11_fresh 1 = .ok (.invokevirtual 187, 3) := by decide +kernel
theorem dX11_fresh_4 : decode cX11_fresh 4 = .ok (.ifCond .ne 9, 3) := by decide +kernel
theorem dX11_fresh_7 : decode cX11_fresh 7 = .ok (.aload_n 0, 1) := by decide +kernel
theorem dX11_fresh_8 : decode cX11_fresh 8 = .ok (.iconst 1, 1) := by decide +kernel
theorem dX11_fresh_9 : decode cX11_fresh 9 = .ok (.invokevirtual 170, 3) := by decide +kernel
theorem dX11_fresh_12 : decode cX11_fresh 12 = .ok (.ireturn, 1) := by decide +kernel
theorem dX11_fresh_13 : decode cX11_fresh 13 = .ok (.aload_n 0, 1) := by decide +kernel
theorem dX11_fresh_14 : decode cX11_fresh 14 = .ok (.bipush 18, 2) := by decide +kernel
theorem dX11_fresh_16 : decode cX11_fresh 16 = .ok (.aload_n 0, 1) := by decide +kernel
theorem dX11_fresh_17 : decode cX11_fresh 17 = .ok (.getfield 37, 3) := by decide +kernel
theorem dX11_fresh_20 : decode cX11_fresh 20 = .ok (.iconst 0, 1) := by decide +kernel
theorem dX11_fresh_21 : decode cX11_fresh 21 = .ok (.iaload, 1) := by decide +kernel
theorem dX11_fresh_22 : decode cX11_fresh 22 = .ok (.invokevirtual 191, 3) := by decide +kernel
theorem dX11_fresh_25 : decode cX11_fresh 25 = .ok (.ifCond .ge 33, 3) := by decide +kernel
theorem dX11_fresh_28 : decode cX11_fresh 28 = .ok (.aload_n 0, 1) := by decide +kernel
theorem dX11_fresh_29 : decode cX11_fresh 29 = .ok (.bipush 26, 2) := by decide +kernel
theorem dX11_fresh_31 : decode cX11_fresh 31 = .ok (.aload_n 0, 1) := by decide +kernel
theorem dX11_fresh_32 : decode cX11_fresh 32 = .ok (.getfield 37, 3) := by decide +kernel
theorem dX11_fresh_35 : decode cX11_fresh 35 = .ok (.iconst 1, 1) := by decide +kernel
theorem dX11_fresh_36 : decode cX11_fresh 36 = .ok (.iaload, 1) := by decide +kernel
theorem dX11_fresh_37 : decode cX11_fresh 37 = .ok (.invokevirtual 191, 3) := by decide +kernel
theorem dX11_fresh_40 : decode cX11_fresh 40 = .ok (.ifCond .ge 18, 3) := by decide +kernel
theorem dX11_fresh_43 : decode cX11_fresh 43 = .ok (.aload_n 0, 1) := by decide +kernel
theorem dX11_fresh_44 : decode cX11_fresh 44 = .ok (.bipush 32, 2) := by decide +kernel
theorem dX11_fresh_46 : decode cX11_fresh 46 = .ok (.aload_n 0, 1) := by decide +kernel
theorem dX11_fresh_47 : decode cX11_fresh 47 = .ok (.getfield 37, 3) := by decide +kernel
theorem dX11_fresh_50 : decode cX11_fresh 50 = .ok (.iconst 3, 1) := by decide +kernel
theorem dX11_fresh_51 : decode cX11_fresh 51 = .ok (.iaload, 1) := by decide +kernel
theorem dX11_fresh_52 : decode cX11_fresh 52 = .ok (.invokevirtual 191, 3) := by decide +kernel
theorem dX11_fresh_55 : decode cX11_fresh 55 = .ok (.ifCond .lt 9, 3) := by decide +kernel
theorem dX11_fresh_58 : decode cX11_fresh 58 = .ok (.aload_n 0, 1) := by decide +kernel
theorem dX11_fresh_59 : decode cX11_fresh 59 = .ok (.iconst 3, 1) := by decide +kernel
theorem dX11_fresh_60 : decode cX11_fresh 60 = .ok (.invokevirtual 170, 3) := by decide +kernel
theorem dX11_fresh_63 : decode cX11_fresh 63 = .ok (.ireturn, 1) := by decide +kernel
theorem dX11_fresh_64 : decode cX11_fresh 64 = .ok (.aload_n 0, 1) := by decide +kernel
theorem dX11_fresh_65 : decode cX11_fresh 65 = .ok (.getfield 43, 3) := by decide +kernel
theorem dX11_fresh_68 : decode cX11_fresh 68 = .ok (.iload_n 1, 1) := by decide +kernel
theorem dX11_fresh_69 : decode cX11_fresh 69 = .ok (.aload_n 0, 1) := by decide +kernel
theorem dX11_fresh_70 : decode cX11_fresh 70 = .ok (.getfield 157, 3) := by decide +kernel
theorem dX11_fresh_73 : decode cX11_fresh 73 = .ok (.lastore, 1) := by decide +kernel
theorem dX11_fresh_74 : decode cX11_fresh 74 = .ok (.aload_n 0, 1) := by decide +kernel
theorem dX11_fresh_75 : decode cX11_fresh 75 = .ok (.invokevirtual 173, 3) := by decide +kernel
theorem dX11_fresh_78 : decode cX11_fresh 78 = .ok (.iconst 1, 1) := by decide +kernel
theorem dX11_fresh_79 : decode cX11_fresh 79 = .ok (.ireturn, 1) := by decide +kernel
theorem dX11_looksAt_0 : decode cX11_looksAt 0 = .ok (.aload_n 0, 1) := by decide +kernel
theorem dX11_looksAt_1 : decode cX11_looksAt 1 = .ok (.invokevirtual 187, 3) := by decide +kernel
theorem dX11_looksAt_4 : decode cX11_looksAt 4 = .ok (.ifCond .ne 9, 3) := by decide +kernel
theorem dX11_looksAt_7 : decode cX11_looksAt 7 = .ok (.aload_n 0, 1) := by decide +kernel
theorem dX11_looksAt_8 : decode cX11_looksAt 8 = .ok (.iconst 1, 1) := by decide +kernel
theorem dX11_looksAt_9 : decode cX11_looksAt 9 = .ok (.invokevirtual 170, 3) := by decide +kernel
theorem dX11_looksAt_12 : decode cX11_looksAt 12 = .ok (.ireturn, 1) := by decide +kernel
theorem dX11_looksAt_13 : decode cX11_looksAt 13 = .ok (.aload_n 0, 1) := by decide +kernel
theorem dX11_looksAt_14 : decode cX11_looksAt 14 = .ok (.aload_n 0, 1) := by decide +kernel
theorem dX11_looksAt_15 : decode cX11_looksAt 15 = .ok (.iload_n 1, 1) := by decide +kernel
theorem dX11_looksAt_16 : decode cX11_looksAt 16 = .ok (.iload_n 2, 1) := by decide +kernel
theorem dX11_looksAt_17 : decode cX11_looksAt 17 = .ok (.invokevirtual 191, 3) := by decide +kernel
theorem dX11_looksAt_20 : decode cX11_looksAt 20 = .ok (.putfield 180, 3) := by decide +kernel
theorem dX11_looksAt_23 : decode cX11_looksAt 23 = .ok (.aload_n 0, 1) := by decide +kernel
theorem dX11_looksAt_24 : decode cX11_looksAt 24 = .ok (.getfield 180, 3) := by decide +kernel
theorem dX11_looksAt_27 : decode cX11_looksAt 27 = .ok (.ifCond .ge 11, 3) := by decide +kernel
theorem dX11_looksAt_30 : decode cX11_looksAt 30 = .ok (.aload_n 0, 1) := by decide +kernel
theorem dX11_looksAt_31 : decode cX11_looksAt 31 = .ok (.iconst 3, 1) := by decide +kernel
theorem dX11_looksAt_32 : decode cX11_looksAt 32 = .ok (.invokevirtual 170, 3) := by decide +kernel
theorem dX11_looksAt_35 : decode cX11_looksAt 35 = .ok (.ifCond .eq 7, 3) := by decide +kernel
theorem dX11_looksAt_38 : decode cX11_looksAt 38 = .ok (.iconst 1, 1) := by decide +kernel
theorem dX11_looksAt_39 : decode cX11_looksAt 39 = .ok (.goto 4, 3) := by decide +kernel
theorem dX11_looksAt_42 : decode cX11_looksAt 42 = .ok (.iconst 0, 1) := by decide +kernel
theorem dX11_looksAt_43 : decode cX11_looksAt 43 = .ok (.ireturn, 1) := by decide +kernel
theorem dX11_takesName_0 : decode cX11_takesName 0 = .ok (.aload_n 0, 1) := by decide +kernel
theorem dX11_takesName_1 : decode cX11_takesName 1 = .ok (.iload_n 1, 1) := by decide +kernel
theorem dX11_takesName_2 : decode cX11_takesName 2 = .ok (.iload_n 2, 1) := by decide +kernel
theorem dX11_takesName_3 : decode cX11_takesName 3 = .ok (.invokevirtual 195, 3) := by decide +kernel
theorem dX11_takesName_6 : decode cX11_takesName 6 = .ok (.ifCond .ne 5, 3) := by decide +kernel
theorem dX11_takesName_9 : decode cX11_takesName 9 = .ok (.iconst 0, 1) := by decide +kernel
theorem dX11_takesName_10 : decode cX11_takesName 10 = .ok (.ireturn, 1) := by decide +kernel
theorem dX11_takesName_11 : decode cX11_takesName 11 = .ok (.aload_n 0, 1) := by decide +kernel
theorem dX11_takesName_12 : decode cX11_takesName 12 = .ok (.invokevirtual 173, 3) := by decide +kernel
theorem dX11_takesName_15 : decode cX11_takesName 15 = .ok (.iconst 1, 1) := by decide +kernel
theorem dX11_takesName_16 : decode cX11_takesName 16 = .ok (.ireturn, 1) := by decide +kernel
theorem dX11_readLine_0 : decode cX11_readLine 0 = .ok (.aload_n 0, 1) := by decide +kernel
theorem dX11_readLine_1 : decode cX11_readLine 1 = .ok (.ldc2_w 87, 3) := by decide +kernel
theorem dX11_readLine_4 : decode cX11_readLine 4 = .ok (.invokevirtual 198, 3) := by decide +kernel
theorem dX11_readLine_7 : decode cX11_readLine 7 = .ok (.ifCond .eq 8, 3) := by decide +kernel
theorem dX11_readLine_10 : decode cX11_readLine 10 = .ok (.aload_n 0, 1) := by decide +kernel
theorem dX11_readLine_11 : decode cX11_readLine 11 = .ok (.invokevirtual 202, 3) := by decide +kernel
theorem dX11_readLine_14 : decode cX11_readLine 14 = .ok (.ireturn, 1) := by decide +kernel
theorem dX11_readLine_15 : decode cX11_readLine 15 = .ok (.aload_n 0, 1) := by decide +kernel
theorem dX11_readLine_16 : decode cX11_readLine 16 = .ok (.ldc2_w 89, 3) := by decide +kernel
theorem dX11_readLine_19 : decode cX11_readLine 19 = .ok (.invokevirtual 198, 3) := by decide +kernel
theorem dX11_readLine_22 : decode cX11_readLine 22 = .ok (.ifCond .eq 8, 3) := by decide +kernel
theorem dX11_readLine_25 : decode cX11_readLine 25 = .ok (.aload_n 0, 1) := by decide +kernel
theorem dX11_readLine_26 : decode cX11_readLine 26 = .ok (.invokevirtual 205, 3) := by decide +kernel
theorem dX11_readLine_29 : decode cX11_readLine 29 = .ok (.ireturn, 1) := by decide +kernel
theorem dX11_readLine_30 : decode cX11_readLine 30 = .ok (.aload_n 0, 1) := by decide +kernel
theorem dX11_readLine_31 : decode cX11_readLine 31 = .ok (.ldc2_w 91, 3) := by decide +kernel
theorem dX11_readLine_34 : decode cX11_readLine 34 = .ok (.invokevirtual 198, 3) := by decide +kernel
theorem dX11_readLine_37 : decode cX11_readLine 37 = .ok (.ifCond .eq 8, 3) := by decide +kernel
theorem dX11_readLine_40 : decode cX11_readLine 40 = .ok (.aload_n 0, 1) := by decide +kernel
theorem dX11_readLine_41 : decode cX11_readLine 41 = .ok (.invokevirtual 208, 3) := by decide +kernel
theorem dX11_readLine_44 : decode cX11_readLine 44 = .ok (.ireturn, 1) := by decide +kernel
theorem dX11_readLine_45 : decode cX11_readLine 45 = .ok (.aload_n 0, 1) := by decide +kernel
theorem dX11_readLine_46 : decode cX11_readLine 46 = .ok (.ldc2_w 93, 3) := by decide +kernel
theorem dX11_readLine_49 : decode cX11_readLine 49 = .ok (.invokevirtual 198, 3) := by decide +kernel
theorem dX11_readLine_52 : decode cX11_readLine 52 = .ok (.ifCond .eq 8, 3) := by decide +kernel
theorem dX11_readLine_55 : decode cX11_readLine 55 = .ok (.aload_n 0, 1) := by decide +kernel
theorem dX11_readLine_56 : decode cX11_readLine 56 = .ok (.invokevirtual 211, 3) := by decide +kernel
theorem dX11_readLine_59 : decode cX11_readLine 59 = .ok (.ireturn, 1) := by decide +kernel
theorem dX11_readLine_60 : decode cX11_readLine 60 = .ok (.aload_n 0, 1) := by decide +kernel
theorem dX11_readLine_61 : decode cX11_readLine 61 = .ok (.ldc2_w 95, 3) := by decide +kernel
theorem dX11_readLine_64 : decode cX11_readLine 64 = .ok (.invokevirtual 198, 3) := by decide +kernel
theorem dX11_readLine_67 : decode cX11_readLine 67 = .ok (.ifCond .eq 8, 3) := by decide +kernel
theorem dX11_readLine_70 : decode cX11_readLine 70 = .ok (.aload_n 0, 1) := by decide +kernel
theorem dX11_readLine_71 : decode cX11_readLine 71 = .ok (.invokevirtual 214, 3) := by decide +kernel
theorem dX11_readLine_74 : decode cX11_readLine 74 = .ok (.ireturn, 1) := by decide +kernel
theorem dX11_readLine_75 : decode cX11_readLine 75 = .ok (.aload_n 0, 1) := by decide +kernel
theorem dX11_readLine_76 : decode cX11_readLine 76 = .ok (.ldc2_w 97, 3) := by decide +kernel
theorem dX11_readLine_79 : decode cX11_readLine 79 = .ok (.invokevirtual 198, 3) := by decide +kernel
theorem dX11_readLine_82 : decode cX11_readLine 82 = .ok (.ifCond .ne 9, 3) := by decide +kernel
theorem dX11_readLine_85 : decode cX11_readLine 85 = .ok (.aload_n 0, 1) := by decide +kernel
theorem dX11_readLine_86 : decode cX11_readLine 86 = .ok (.iconst 1, 1) := by decide +kernel
theorem dX11_readLine_87 : decode cX11_readLine 87 = .ok (.invokevirtual 170, 3) := by decide +kernel
theorem dX11_readLine_90 : decode cX11_readLine 90 = .ok (.ireturn, 1) := by decide +kernel
theorem dX11_readLine_91 : decode cX11_readLine 91 = .ok (.aload_n 0, 1) := by decide +kernel
theorem dX11_readLine_92 : decode cX11_readLine 92 = .ok (.getfield 217, 3) := by decide +kernel
theorem dX11_readLine_95 : decode cX11_readLine 95 = .ok (.ifCond .eq 9, 3) := by decide +kernel
theorem dX11_readLine_98 : decode cX11_readLine 98 = .ok (.aload_n 0, 1) := by decide +kernel
theorem dX11_readLine_99 : decode cX11_readLine 99 = .ok (.iconst 3, 1) := by decide +kernel
theorem dX11_readLine_100 : decode cX11_readLine 100 = .ok (.invokevirtual 170, 3) := by decide +kernel
theorem dX11_readLine_103 : decode cX11_readLine 103 = .ok (.ireturn, 1) := by decide +kernel
theorem dX11_readLine_104 : decode cX11_readLine 104 = .ok (.aload_n 0, 1) := by decide +kernel
theorem dX11_readLine_105 : decode cX11_readLine 105 = .ok (.iconst 1, 1) := by decide +kernel
theorem dX11_readLine_106 : decode cX11_readLine 106 = .ok (.putfield 217, 3) := by decide +kernel
theorem dX11_readLine_109 : decode cX11_readLine 109 = .ok (.aload_n 0, 1) := by decide +kernel
theorem dX11_readLine_110 : decode cX11_readLine 110 = .ok (.invokevirtual 173, 3) := by decide +kernel
theorem dX11_readLine_113 : decode cX11_readLine 113 = .ok (.aload_n 0, 1) := by decide +kernel
theorem dX11_readLine_114 : decode cX11_readLine 114 = .ok (.iconst 4, 1) := by decide +kernel
theorem dX11_readLine_115 : decode cX11_readLine 115 = .ok (.iconst 1, 1) := by decide +kernel
theorem dX11_readLine_116 : decode cX11_readLine 116 = .ok (.bipush 20, 2) := by decide +kernel
theorem dX11_readLine_118 : decode cX11_readLine 118 = .ok (.invokevirtual 221, 3) := by decide +kernel
theorem dX11_readLine_121 : decode cX11_readLine 121 = .ok (.ireturn, 1) := by decide +kernel
theorem dX11_readThing_0 : decode cX11_readThing 0 = .ok (.aload_n 0, 1) := by decide +kernel
theorem dX11_readThing_1 : decode cX11_readThing 1 = .ok (.getfield 37, 3) := by decide +kernel
theorem dX11_readThing_4 : decode cX11_readThing 4 = .ok (.iconst 0, 1) := by decide +kernel
theorem dX11_readThing_5 : decode cX11_readThing 5 = .ok (.iaload, 1) := by decide +kernel
theorem dX11_readThing_6 : decode cX11_readThing 6 = .ok (.istore_n 1, 1) := by decide +kernel
theorem dX11_readThing_7 : decode cX11_readThing 7 = .ok (.iload_n 1, 1) := by decide +kernel
theorem dX11_readThing_8 : decode cX11_readThing 8 = .ok (.bipush 8, 2) := by decide +kernel
theorem dX11_readThing_10 : decode cX11_readThing 10 = .ok (.if_icmp .ne 9, 3) := by decide +kernel
theorem dX11_readThing_13 : decode cX11_readThing 13 = .ok (.aload_n 0, 1) := by decide +kernel
theorem dX11_readThing_14 : decode cX11_readThing 14 = .ok (.iconst 4, 1) := by decide +kernel
theorem dX11_readThing_15 : decode cX11_readThing 15 = .ok (.invokevirtual 170, 3) := by decide +kernel
theorem dX11_readThing_18 : decode cX11_readThing 18 = .ok (.ireturn, 1) := by decide +kernel
theorem dX11_readThing_19 : decode cX11_readThing 19 = .ok (.aload_n 0, 1) := by decide +kernel
theorem dX11_readThing_20 : decode cX11_readThing 20 = .ok (.invokevirtual 173, 3) := by decide +kernel
theorem dX11_readThing_23 : decode cX11_readThing 23 = .ok (.aload_n 0, 1) := by decide +kernel
theorem dX11_readThing_24 : decode cX11_readThing 24 = .ok (.bipush 18, 2) := by decide +kernel
theorem dX11_readThing_26 : decode cX11_readThing 26 = .ok (.iload_n 1, 1) := by decide +kernel
theorem dX11_readThing_27 : decode cX11_readThing 27 = .ok (.iadd, 1) := by decide +kernel
theorem dX11_readThing_28 : decode cX11_readThing 28 = .ok (.invokevirtual 224, 3) := by decide +kernel
theorem dX11_readThing_31 : decode cX11_readThing 31 = .ok (.ifCond .eq 30, 3) := by decide +kernel
theorem dX11_readThing_34 : decode cX11_readThing 34 = .ok (.aload_n 0, 1) := by decide +kernel
theorem dX11_readThing_35 : decode cX11_readThing 35 = .ok (.iconst 5, 1) := by decide +kernel
theorem dX11_readThing_36 : decode cX11_readThing 36 = .ok (.iload_n 1, 1) := by decide +kernel
theorem dX11_readThing_37 : decode cX11_readThing 37 = .ok (.iadd, 1) := by decide +kernel
theorem dX11_readThing_38 : decode cX11_readThing 38 = .ok (.iconst 1, 1) := by decide +kernel
theorem dX11_readThing_39 : decode cX11_readThing 39 = .ok (.bipush 9, 2) := by decide +kernel
theorem dX11_readThing_41 : decode cX11_readThing 41 = .ok (.invokevirtual 221, 3) := by decide +kernel
theorem dX11_readThing_44 : decode cX11_readThing 44 = .ok (.ifCond .eq 17, 3) := by decide +kernel
theorem dX11_readThing_47 : decode cX11_readThing 47 = .ok (.aload_n 0, 1) := by decide +kernel
theorem dX11_readThing_48 : decode cX11_readThing 48 = .ok (.bipush 13, 2) := by decide +kernel
theorem dX11_readThing_50 : decode cX11_readThing 50 = .ok (.iload_n 1, 1) := by decide +kernel
theorem dX11_readThing_51 : decode cX11_readThing 51 = .ok (.iadd, 1) := by decide +kernel
theorem dX11_readThing_52 : decode cX11_readThing 52 = .ok (.iconst 0, 1) := by decide +kernel
theorem dX11_readThing_53 : decode cX11_readThing 53 = .ok (.bipush 9, 2) := by decide +kernel
theorem dX11_readThing_55 : decode cX11_readThing 55 = .ok (.invokevirtual 221, 3) := by decide +kernel
theorem dX11_readThing_58 : decode cX11_readThing 58 = .ok (.ifCond .ne 5, 3) := by decide +kernel
theorem dX11_readThing_61 : decode cX11_readThing 61 = .ok (.iconst 0, 1) := by decide +kernel
theorem dX11_readThing_62 : decode cX11_readThing 62 = .ok (.ireturn, 1) := by decide +kernel
theorem dX11_readThing_63 : decode cX11_readThing 63 = .ok (.aload_n 0, 1) := by decide +kernel
theorem dX11_readThing_64 : decode cX11_readThing 64 = .ok (.getfield 37, 3) := by decide +kernel
theorem dX11_readThing_67 : decode cX11_readThing 67 = .ok (.iconst 0, 1) := by decide +kernel
theorem dX11_readThing_68 : decode cX11_readThing 68 = .ok (.dup2, 1) := by decide +kernel
theorem dX11_readThing_69 : decode cX11_readThing 69 = .ok (.iaload, 1) := by decide +kernel
theorem dX11_readThing_70 : decode cX11_readThing 70 = .ok (.iconst 1, 1) := by decide +kernel
theorem dX11_readThing_71 : decode cX11_readThing 71 = .ok (.iadd, 1) := by decide +kernel
theorem dX11_readThing_72 : decode cX11_readThing 72 = .ok (.iastore, 1) := by decide +kernel
theorem dX11_readThing_73 : decode cX11_readThing 73 = .ok (.iconst 1, 1) := by decide +kernel
theorem dX11_readThing_74 : decode cX11_readThing 74 = .ok (.ireturn, 1) := by decide +kernel
theorem dX11_readPerson_0 : decode cX11_readPerson 0 = .ok (.aload_n 0, 1) := by decide +kernel
theorem dX11_readPerson_1 : decode cX11_readPerson 1 = .ok (.getfield 37, 3) := by decide +kernel
theorem dX11_readPerson_4 : decode cX11_readPerson 4 = .ok (.iconst 1, 1) := by decide +kernel
theorem dX11_readPerson_5 : decode cX11_readPerson 5 = .ok (.iaload, 1) := by decide +kernel
theorem dX11_readPerson_6 : decode cX11_readPerson 6 = .ok (.istore_n 1, 1) := by decide +kernel
theorem dX11_readPerson_7 : decode cX11_readPerson 7 = .ok (.iload_n 1, 1) := by decide +kernel
theorem dX11_readPerson_8 : decode cX11_readPerson 8 = .ok (.bipush 6, 2) := by decide +kernel
theorem dX11_readPerson_10 : decode cX11_readPerson 10 = .ok (.if_icmp .ne 9, 3) := by decide +kernel
theorem dX11_readPerson_13 : decode cX11_readPerson 13 = .ok (.aload_n 0, 1) := by decide +kernel
theorem dX11_readPerson_14 : decode cX11_readPerson 14 = .ok (.iconst 4, 1) := by decide +kernel
theorem dX11_readPerson_15 : decode cX11_readPerson 15 = .ok (.invokevirtual 170, 3) := by decide +kernel
theorem dX11_readPerson_18 : decode cX11_readPerson 18 = .ok (.ireturn, 1) := by decide +kernel
theorem dX11_readPerson_19 : decode cX11_readPerson 19 = .ok (.aload_n 0, 1) := by decide +kernel
theorem dX11_readPerson_20 : decode cX11_readPerson 20 = .ok (.invokevirtual 173, 3) := by decide +kernel
theorem dX11_readPerson_23 : decode cX11_readPerson 23 = .ok (.aload_n 0, 1) := by decide +kernel
theorem dX11_readPerson_24 : decode cX11_readPerson 24 = .ok (.bipush 26, 2) := by decide +kernel
theorem dX11_readPerson_26 : decode cX11_readPerson 26 = .ok (.iload_n 1, 1) := by decide +kernel
theorem dX11_readPerson_27 : decode cX11_readPerson 27 = .ok (.iadd, 1) := by decide +kernel
theorem dX11_readPerson_28 : decode cX11_readPerson 28 = .ok (.invokevirtual 224, 3) := by decide +kernel
theorem dX11_readPerson_31 : decode cX11_readPerson 31 = .ok (.ifCond .eq 17, 3) := by decide +kernel
theorem dX11_readPerson_34 : decode cX11_readPerson 34 = .ok (.aload_n 0, 1) := by decide +kernel
theorem dX11_readPerson_35 : decode cX11_readPerson 35 = .ok (.bipush 21, 2) := by decide +kernel
theorem dX11_readPerson_37 : decode cX11_readPerson 37 = .ok (.iload_n 1, 1) := by decide +kernel
theorem dX11_readPerson_38 : decode cX11_readPerson 38 = .ok (.iadd, 1) := by decide +kernel
theorem dX11_readPerson_39 : decode cX11_readPerson 39 = .ok (.iconst 1, 1) := by decide +kernel
theorem dX11_readPerson_40 : decode cX11_readPerson 40 = .ok (.bipush 99, 2) := by decide +kernel
theorem dX11_readPerson_42 : decode cX11_readPerson 42 = .ok (.invokevirtual 221, 3) := by decide +kernel
theorem dX11_readPerson_45 : decode cX11_readPerson 45 = .ok (.ifCond .ne 5, 3) := by decide +kernel
theorem dX11_readPerson_48 : decode cX11_readPerson 48 = .ok (.iconst 0, 1) := by decide +kernel
theorem dX11_readPerson_49 : decode cX11_readPerson 49 = .ok (.ireturn, 1) := by decide +kernel
theorem dX11_readPerson_50 : decode cX11_readPerson 50 = .ok (.aload_n 0, 1) := by decide +kernel
theorem dX11_readPerson_51 : decode cX11_readPerson 51 = .ok (.getfield 37, 3) := by decide +kernel
theorem dX11_readPerson_54 : decode cX11_readPerson 54 = .ok (.iconst 1, 1) := by decide +kernel
theorem dX11_readPerson_55 : decode cX11_readPerson 55 = .ok (.dup2, 1) := by decide +kernel
theorem dX11_readPerson_56 : decode cX11_readPerson 56 = .ok (.iaload, 1) := by decide +kernel
theorem dX11_readPerson_57 : decode cX11_readPerson 57 = .ok (.iconst 1, 1) := by decide +kernel
theorem dX11_readPerson_58 : decode cX11_readPerson 58 = .ok (.iadd, 1) := by decide +kernel
theorem dX11_readPerson_59 : decode cX11_readPerson 59 = .ok (.iastore, 1) := by decide +kernel
theorem dX11_readPerson_60 : decode cX11_readPerson 60 = .ok (.iconst 1, 1) := by decide +kernel
theorem dX11_readPerson_61 : decode cX11_readPerson 61 = .ok (.ireturn, 1) := by decide +kernel
theorem dX11_readCaught_0 : decode cX11_readCaught 0 = .ok (.aload_n 0, 1) := by decide +kernel
theorem dX11_readCaught_1 : decode cX11_readCaught 1 = .ok (.invokevirtual 173, 3) := by decide +kernel
theorem dX11_readCaught_4 : decode cX11_readCaught 4 = .ok (.aload_n 0, 1) := by decide +kernel
theorem dX11_readCaught_5 : decode cX11_readCaught 5 = .ok (.bipush 26, 2) := by decide +kernel
theorem dX11_readCaught_7 : decode cX11_readCaught 7 = .ok (.aload_n 0, 1) := by decide +kernel
theorem dX11_readCaught_8 : decode cX11_readCaught 8 = .ok (.getfield 37, 3) := by decide +kernel
theorem dX11_readCaught_11 : decode cX11_readCaught 11 = .ok (.iconst 1, 1) := by decide +kernel
theorem dX11_readCaught_12 : decode cX11_readCaught 12 = .ok (.iaload, 1) := by decide +kernel
theorem dX11_readCaught_13 : decode cX11_readCaught 13 = .ok (.invokevirtual 195, 3) := by decide +kernel
theorem dX11_readCaught_16 : decode cX11_readCaught 16 = .ok (.ifCond .ne 5, 3) := by decide +kernel
theorem dX11_readCaught_19 : decode cX11_readCaught 19 = .ok (.iconst 0, 1) := by decide +kernel
theorem dX11_readCaught_20 : decode cX11_readCaught 20 = .ok (.ireturn, 1) := by decide +kernel
theorem dX11_readCaught_21 : decode cX11_readCaught 21 = .ok (.aload_n 0, 1) := by decide +kernel
theorem dX11_readCaught_22 : decode cX11_readCaught 22 = .ok (.getfield 180, 3) := by decide +kernel
theorem dX11_readCaught_25 : decode cX11_readCaught 25 = .ok (.istore_n 1, 1) := by decide +kernel
theorem dX11_readCaught_26 : decode cX11_readCaught 26 = .ok (.aload_n 0, 1) := by decide +kernel
theorem dX11_readCaught_27 : decode cX11_readCaught 27 = .ok (.getfield 37, 3) := by decide +kernel
theorem dX11_readCaught_30 : decode cX11_readCaught 30 = .ok (.bipush 27, 2) := by decide +kernel
theorem dX11_readCaught_32 : decode cX11_readCaught 32 = .ok (.iload_n 1, 1) := by decide +kernel
theorem dX11_readCaught_33 : decode cX11_readCaught 33 = .ok (.iadd, 1) := by decide +kernel
theorem dX11_readCaught_34 : decode cX11_readCaught 34 = .ok (.iaload, 1) := by decide +kernel
theorem dX11_readCaught_35 : decode cX11_readCaught 35 = .ok (.bipush 8, 2) := by decide +kernel
theorem dX11_readCaught_37 : decode cX11_readCaught 37 = .ok (.if_icmp .ne 9, 3) := by decide +kernel
theorem dX11_readCaught_40 : decode cX11_readCaught 40 = .ok (.aload_n 0, 1) := by decide +kernel
theorem dX11_readCaught_41 : decode cX11_readCaught 41 = .ok (.iconst 4, 1) := by decide +kernel
theorem dX11_readCaught_42 : decode cX11_readCaught 42 = .ok (.invokevirtual 170, 3) := by decide +kernel
theorem dX11_readCaught_45 : decode cX11_readCaught 45 = .ok (.ireturn, 1) := by decide +kernel
theorem dX11_readCaught_46 : decode cX11_readCaught 46 = .ok (.aload_n 0, 1) := by decide +kernel
theorem dX11_readCaught_47 : decode cX11_readCaught 47 = .ok (.invokevirtual 173, 3) := by decide +kernel
theorem dX11_readCaught_50 : decode cX11_readCaught 50 = .ok (.aload_n 0, 1) := by decide +kernel
theorem dX11_readCaught_51 : decode cX11_readCaught 51 = .ok (.bipush 18, 2) := by decide +kernel
theorem dX11_readCaught_53 : decode cX11_readCaught 53 = .ok (.aload_n 0, 1) := by decide +kernel
theorem dX11_readCaught_54 : decode cX11_readCaught 54 = .ok (.getfield 37, 3) := by decide +kernel
theorem dX11_readCaught_57 : decode cX11_readCaught 57 = .ok (.iconst 0, 1) := by decide +kernel
theorem dX11_readCaught_58 : decode cX11_readCaught 58 = .ok (.iaload, 1) := by decide +kernel
theorem dX11_readCaught_59 : decode cX11_readCaught 59 = .ok (.invokevirtual 227, 3) := by decide +kernel
theorem dX11_readCaught_62 : decode cX11_readCaught 62 = .ok (.ifCond .ne 5, 3) := by decide +kernel
theorem dX11_readCaught_65 : decode cX11_readCaught 65 = .ok (.iconst 0, 1) := by decide +kernel
theorem dX11_readCaught_66 : decode cX11_readCaught 66 = .ok (.ireturn, 1) := by decide +kernel
theorem dX11_readCaught_67 : decode cX11_readCaught 67 = .ok (.aload_n 0, 1) := by decide +kernel
theorem dX11_readCaught_68 : decode cX11_readCaught 68 = .ok (.getfield 37, 3) := by decide +kernel
theorem dX11_readCaught_71 : decode cX11_readCaught 71 = .ok (.bipush 33, 2) := by decide +kernel
theorem dX11_readCaught_73 : decode cX11_readCaught 73 = .ok (.bipush 8, 2) := by decide +kernel
theorem dX11_readCaught_75 : decode cX11_readCaught 75 = .ok (.iload_n 1, 1) := by decide +kernel
theorem dX11_readCaught_76 : decode cX11_readCaught 76 = .ok (.imul, 1) := by decide +kernel
theorem dX11_readCaught_77 : decode cX11_readCaught 77 = .ok (.iadd, 1) := by decide +kernel
theorem dX11_readCaught_78 : decode cX11_readCaught 78 = .ok (.aload_n 0, 1) := by decide +kernel
theorem dX11_readCaught_79 : decode cX11_readCaught 79 = .ok (.getfield 37, 3) := by decide +kernel
theorem dX11_readCaught_82 : decode cX11_readCaught 82 = .ok (.bipush 27, 2) := by decide +kernel
theorem dX11_readCaught_84 : decode cX11_readCaught 84 = .ok (.iload_n 1, 1) := by decide +kernel
theorem dX11_readCaught_85 : decode cX11_readCaught 85 = .ok (.iadd, 1) := by decide +kernel
theorem dX11_readCaught_86 : decode cX11_readCaught 86 = .ok (.iaload, 1) := by decide +kernel
theorem dX11_readCaught_87 : decode cX11_readCaught 87 = .ok (.iadd, 1) := by decide +kernel
theorem dX11_readCaught_88 : decode cX11_readCaught 88 = .ok (.aload_n 0, 1) := by decide +kernel
theorem dX11_readCaught_89 : decode cX11_readCaught 89 = .ok (.getfield 180, 3) := by decide +kernel
theorem dX11_readCaught_92 : decode cX11_readCaught 92 = .ok (.iastore, 1) := by decide +kernel
theorem dX11_readCaught_93 : decode cX11_readCaught 93 = .ok (.aload_n 0, 1) := by decide +kernel
theorem dX11_readCaught_94 : decode cX11_readCaught 94 = .ok (.getfield 37, 3) := by decide +kernel
theorem dX11_readCaught_97 : decode cX11_readCaught 97 = .ok (.bipush 27, 2) := by decide +kernel
theorem dX11_readCaught_99 : decode cX11_readCaught 99 = .ok (.iload_n 1, 1) := by decide +kernel
theorem dX11_readCaught_100 : decode cX11_readCaught 100 = .ok (.iadd, 1) := by decide +kernel
theorem dX11_readCaught_101 : decode cX11_readCaught 101 = .ok (.dup2, 1) := by decide +kernel
theorem dX11_readCaught_102 : decode cX11_readCaught 102 = .ok (.iaload, 1) := by decide +kernel
theorem dX11_readCaught_103 : decode cX11_readCaught 103 = .ok (.iconst 1, 1) := by decide +kernel
theorem dX11_readCaught_104 : decode cX11_readCaught 104 = .ok (.iadd, 1) := by decide +kernel
theorem dX11_readCaught_105 : decode cX11_readCaught 105 = .ok (.iastore, 1) := by decide +kernel
theorem dX11_readCaught_106 : decode cX11_readCaught 106 = .ok (.iconst 1, 1) := by decide +kernel
theorem dX11_readCaught_107 : decode cX11_readCaught 107 = .ok (.ireturn, 1) := by decide +kernel
theorem dX11_readDaily_0 : decode cX11_readDaily 0 = .ok (.aload_n 0, 1) := by decide +kernel
theorem dX11_readDaily_1 : decode cX11_readDaily 1 = .ok (.getfield 37, 3) := by decide +kernel
theorem dX11_readDaily_4 : decode cX11_readDaily 4 = .ok (.iconst 2, 1) := by decide +kernel
theorem dX11_readDaily_5 : decode cX11_readDaily 5 = .ok (.iaload, 1) := by decide +kernel
theorem dX11_readDaily_6 : decode cX11_readDaily 6 = .ok (.istore_n 1, 1) := by decide +kernel
theorem dX11_readDaily_7 : decode cX11_readDaily 7 = .ok (.iload_n 1, 1) := by decide +kernel
theorem dX11_readDaily_8 : decode cX11_readDaily 8 = .ok (.bipush 12, 2) := by decide +kernel
theorem dX11_readDaily_10 : decode cX11_readDaily 10 = .ok (.if_icmp .ne 9, 3) := by decide +kernel
theorem dX11_readDaily_13 : decode cX11_readDaily 13 = .ok (.aload_n 0, 1) := by decide +kernel
theorem dX11_readDaily_14 : decode cX11_readDaily 14 = .ok (.iconst 4, 1) := by decide +kernel
theorem dX11_readDaily_15 : decode cX11_readDaily 15 = .ok (.invokevirtual 170, 3) := by decide +kernel
theorem dX11_readDaily_18 : decode cX11_readDaily 18 = .ok (.ireturn, 1) := by decide +kernel
theorem dX11_readDaily_19 : decode cX11_readDaily 19 = .ok (.aload_n 0, 1) := by decide +kernel
theorem dX11_readDaily_20 : decode cX11_readDaily 20 = .ok (.invokevirtual 173, 3) := by decide +kernel
theorem dX11_readDaily_23 : decode cX11_readDaily 23 = .ok (.aload_n 0, 1) := by decide +kernel
theorem dX11_readDaily_24 : decode cX11_readDaily 24 = .ok (.bipush 26, 2) := by decide +kernel
theorem dX11_readDaily_26 : decode cX11_readDaily 26 = .ok (.aload_n 0, 1) := by decide +kernel
theorem dX11_readDaily_27 : decode cX11_readDaily 27 = .ok (.getfield 37, 3) := by decide +kernel
theorem dX11_readDaily_30 : decode cX11_readDaily 30 = .ok (.iconst 1, 1) := by decide +kernel
theorem dX11_readDaily_31 : decode cX11_readDaily 31 = .ok (.iaload, 1) := by decide +kernel
theorem dX11_readDaily_32 : decode cX11_readDaily 32 = .ok (.invokevirtual 227, 3) := by decide +kernel
theorem dX11_readDaily_35 : decode cX11_readDaily 35 = .ok (.ifCond .ne 5, 3) := by decide +kernel
theorem dX11_readDaily_38 : decode cX11_readDaily 38 = .ok (.iconst 0, 1) := by decide +kernel
theorem dX11_readDaily_39 : decode cX11_readDaily 39 = .ok (.ireturn, 1) := by decide +kernel
theorem dX11_readDaily_40 : decode cX11_readDaily 40 = .ok (.aload_n 0, 1) := by decide +kernel
theorem dX11_readDaily_41 : decode cX11_readDaily 41 = .ok (.getfield 37, 3) := by decide +kernel
theorem dX11_readDaily_44 : decode cX11_readDaily 44 = .ok (.bipush 81, 2) := by decide +kernel
theorem dX11_readDaily_46 : decode cX11_readDaily 46 = .ok (.iload_n 1, 1) := by decide +kernel
theorem dX11_readDaily_47 : decode cX11_readDaily 47 = .ok (.iadd, 1) := by decide +kernel
theorem dX11_readDaily_48 : decode cX11_readDaily 48 = .ok (.aload_n 0, 1) := by decide +kernel
theorem dX11_readDaily_49 : decode cX11_readDaily 49 = .ok (.getfield 180, 3) := by decide +kernel
theorem dX11_readDaily_52 : decode cX11_readDaily 52 = .ok (.iastore, 1) := by decide +kernel
theorem dX11_readDaily_53 : decode cX11_readDaily 53 = .ok (.aload_n 0, 1) := by decide +kernel
theorem dX11_readDaily_54 : decode cX11_readDaily 54 = .ok (.bipush 18, 2) := by decide +kernel
theorem dX11_readDaily_56 : decode cX11_readDaily 56 = .ok (.aload_n 0, 1) := by decide +kernel
theorem dX11_readDaily_57 : decode cX11_readDaily 57 = .ok (.getfield 37, 3) := by decide +kernel
theorem dX11_readDaily_60 : decode cX11_readDaily 60 = .ok (.iconst 0, 1) := by decide +kernel
theorem dX11_readDaily_61 : decode cX11_readDaily 61 = .ok (.iaload, 1) := by decide +kernel
theorem dX11_readDaily_62 : decode cX11_readDaily 62 = .ok (.invokevirtual 227, 3) := by decide +kernel
theorem dX11_readDaily_65 : decode cX11_readDaily 65 = .ok (.ifCond .ne 5, 3) := by decide +kernel
theorem dX11_readDaily_68 : decode cX11_readDaily 68 = .ok (.iconst 0, 1) := by decide +kernel
theorem dX11_readDaily_69 : decode cX11_readDaily 69 = .ok (.ireturn, 1) := by decide +kernel
theorem dX11_readDaily_70 : decode cX11_readDaily 70 = .ok (.aload_n 0, 1) := by decide +kernel
theorem dX11_readDaily_71 : decode cX11_readDaily 71 = .ok (.getfield 37, 3) := by decide +kernel
theorem dX11_readDaily_74 : decode cX11_readDaily 74 = .ok (.bipush 93, 2) := by decide +kernel
theorem dX11_readDaily_76 : decode cX11_readDaily 76 = .ok (.iload_n 1, 1) := by decide +kernel
theorem dX11_readDaily_77 : decode cX11_readDaily 77 = .ok (.iadd, 1) := by decide +kernel
theorem dX11_readDaily_78 : decode cX11_readDaily 78 = .ok (.aload_n 0, 1) := by decide +kernel
theorem dX11_readDaily_79 : decode cX11_readDaily 79 = .ok (.getfield 180, 3) := by decide +kernel
theorem dX11_readDaily_82 : decode cX11_readDaily 82 = .ok (.iastore, 1) := by decide +kernel
theorem dX11_readDaily_83 : decode cX11_readDaily 83 = .ok (.aload_n 0, 1) := by decide +kernel
theorem dX11_readDaily_84 : decode cX11_readDaily 84 = .ok (.bipush 105, 2) := by decide +kernel
theorem dX11_readDaily_86 : decode cX11_readDaily 86 = .ok (.iload_n 1, 1) := by decide +kernel
theorem dX11_readDaily_87 : decode cX11_readDaily 87 = .ok (.iadd, 1) := by decide +kernel
theorem dX11_readDaily_88 : decode cX11_readDaily 88 = .ok (.iconst 1, 1) := by decide +kernel
theorem dX11_readDaily_89 : decode cX11_readDaily 89 = .ok (.bipush 9, 2) := by decide +kernel
theorem dX11_readDaily_91 : decode cX11_readDaily 91 = .ok (.invokevirtual 221, 3) := by decide +kernel
theorem dX11_readDaily_94 : decode cX11_readDaily 94 = .ok (.ifCond .ne 5, 3) := by decide +kernel
theorem dX11_readDaily_97 : decode cX11_readDaily 97 = .ok (.iconst 0, 1) := by decide +kernel
theorem dX11_readDaily_98 : decode cX11_readDaily 98 = .ok (.ireturn, 1) := by decide +kernel
theorem dX11_readDaily_99 : decode cX11_readDaily 99 = .ok (.aload_n 0, 1) := by decide +kernel
theorem dX11_readDaily_100 : decode cX11_readDaily 100 = .ok (.getfield 37, 3) := by decide +kernel
theorem dX11_readDaily_103 : decode cX11_readDaily 103 = .ok (.iconst 2, 1) := by decide +kernel
theorem dX11_readDaily_104 : decode cX11_readDaily 104 = .ok (.dup2, 1) := by decide +kernel
theorem dX11_readDaily_105 : decode cX11_readDaily 105 = .ok (.iaload, 1) := by decide +kernel
theorem dX11_readDaily_106 : decode cX11_readDaily 106 = .ok (.iconst 1, 1) := by decide +kernel
theorem dX11_readDaily_107 : decode cX11_readDaily 107 = .ok (.iadd, 1) := by decide +kernel
theorem dX11_readDaily_108 : decode cX11_readDaily 108 = .ok (.iastore, 1) := by decide +kernel
theorem dX11_readDaily_109 : decode cX11_readDaily 109 = .ok (.iconst 1, 1) := by decide +kernel
theorem dX11_readDaily_110 : decode cX11_readDaily 110 = .ok (.ireturn, 1) := by decide +kernel
theorem dX11_readBed_0 : decode cX11_readBed 0 = .ok (.aload_n 0, 1) := by decide +kernel
theorem dX11_readBed_1 : decode cX11_readBed 1 = .ok (.getfield 37, 3) := by decide +kernel
theorem dX11_readBed_4 : decode cX11_readBed 4 = .ok (.iconst 3, 1) := by decide +kernel
theorem dX11_readBed_5 : decode cX11_readBed 5 = .ok (.iaload, 1) := by decide +kernel
theorem dX11_readBed_6 : decode cX11_readBed 6 = .ok (.istore_n 1, 1) := by decide +kernel
theorem dX11_readBed_7 : decode cX11_readBed 7 = .ok (.iload_n 1, 1) := by decide +kernel
theorem dX11_readBed_8 : decode cX11_readBed 8 = .ok (.iconst 4, 1) := by decide +kernel
theorem dX11_readBed_9 : decode cX11_readBed 9 = .ok (.if_icmp .ne 9, 3) := by decide +kernel
theorem dX11_readBed_12 : decode cX11_readBed 12 = .ok (.aload_n 0, 1) := by decide +kernel
theorem dX11_readBed_13 : decode cX11_readBed 13 = .ok (.iconst 4, 1) := by decide +kernel
theorem dX11_readBed_14 : decode cX11_readBed 14 = .ok (.invokevirtual 170, 3) := by decide +kernel
theorem dX11_readBed_17 : decode cX11_readBed 17 = .ok (.ireturn, 1) := by decide +kernel
theorem dX11_readBed_18 : decode cX11_readBed 18 = .ok (.aload_n 0, 1) := by decide +kernel
theorem dX11_readBed_19 : decode cX11_readBed 19 = .ok (.invokevirtual 173, 3) := by decide +kernel
theorem dX11_readBed_22 : decode cX11_readBed 22 = .ok (.aload_n 0, 1) := by decide +kernel
theorem dX11_readBed_23 : decode cX11_readBed 23 = .ok (.bipush 32, 2) := by decide +kernel
theorem dX11_readBed_25 : decode cX11_readBed 25 = .ok (.iload_n 1, 1) := by decide +kernel
theorem dX11_readBed_26 : decode cX11_readBed 26 = .ok (.iadd, 1) := by decide +kernel
theorem dX11_readBed_27 : decode cX11_readBed 27 = .ok (.invokevirtual 224, 3) := by decide +kernel
theorem dX11_readBed_30 : decode cX11_readBed 30 = .ok (.ifCond .eq 17, 3) := by decide +kernel
theorem dX11_readBed_33 : decode cX11_readBed 33 = .ok (.aload_n 0, 1) := by decide +kernel
theorem dX11_readBed_34 : decode cX11_readBed 34 = .ok (.bipush 117, 2) := by decide +kernel
theorem dX11_readBed_36 : decode cX11_readBed 36 = .ok (.iload_n 1, 1) := by decide +kernel
theorem dX11_readBed_37 : decode cX11_readBed 37 = .ok (.iadd, 1) := by decide +kernel
theorem dX11_readBed_38 : decode cX11_readBed 38 = .ok (.iconst 1, 1) := by decide +kernel
theorem dX11_readBed_39 : decode cX11_readBed 39 = .ok (.bipush 99, 2) := by decide +kernel
theorem dX11_readBed_41 : decode cX11_readBed 41 = .ok (.invokevirtual 221, 3) := by decide +kernel
theorem dX11_readBed_44 : decode cX11_readBed 44 = .ok (.ifCond .ne 5, 3) := by decide +kernel
theorem dX11_readBed_47 : decode cX11_readBed 47 = .ok (.iconst 0, 1) := by decide +kernel
theorem dX11_readBed_48 : decode cX11_readBed 48 = .ok (.ireturn, 1) := by decide +kernel
theorem dX11_readBed_49 : decode cX11_readBed 49 = .ok (.aload_n 0, 1) := by decide +kernel
theorem dX11_readBed_50 : decode cX11_readBed 50 = .ok (.getfield 37, 3) := by decide +kernel
theorem dX11_readBed_53 : decode cX11_readBed 53 = .ok (.iconst 3, 1) := by decide +kernel
theorem dX11_readBed_54 : decode cX11_readBed 54 = .ok (.dup2, 1) := by decide +kernel
theorem dX11_readBed_55 : decode cX11_readBed 55 = .ok (.iaload, 1) := by decide +kernel
theorem dX11_readBed_56 : decode cX11_readBed 56 = .ok (.iconst 1, 1) := by decide +kernel
theorem dX11_readBed_57 : decode cX11_readBed 57 = .ok (.iadd, 1) := by decide +kernel
theorem dX11_readBed_58 : decode cX11_readBed 58 = .ok (.iastore, 1) := by decide +kernel
theorem dX11_readBed_59 : decode cX11_readBed 59 = .ok (.iconst 1, 1) := by decide +kernel
theorem dX11_readBed_60 : decode cX11_readBed 60 = .ok (.ireturn, 1) := by decide +kernel
theorem dX11_quarter_0 : decode cX11_quarter 0 = .ok (.aload_n 0, 1) := by decide +kernel
theorem dX11_quarter_1 : decode cX11_quarter 1 = .ok (.iconst 0, 1) := by decide +kernel
theorem dX11_quarter_2 : decode cX11_quarter 2 = .ok (.putfield 1, 3) := by decide +kernel
theorem dX11_quarter_5 : decode cX11_quarter 5 = .ok (.aload_n 0, 1) := by decide +kernel
theorem dX11_quarter_6 : decode cX11_quarter 6 = .ok (.sipush 900, 3) := by decide +kernel
theorem dX11_quarter_9 : decode cX11_quarter 9 = .ok (.invokevirtual 230, 3) := by decide +kernel
theorem dX11_quarter_12 : decode cX11_quarter 12 = .ok (.aload_n 0, 1) := by decide +kernel
theorem dX11_quarter_13 : decode cX11_quarter 13 = .ok (.iconst 0, 1) := by decide +kernel
theorem dX11_quarter_14 : decode cX11_quarter 14 = .ok (.putfield 161, 3) := by decide +kernel
theorem dX11_quarter_17 : decode cX11_quarter 17 = .ok (.aload_n 0, 1) := by decide +kernel
theorem dX11_quarter_18 : decode cX11_quarter 18 = .ok (.iconst 0, 1) := by decide +kernel
theorem dX11_quarter_19 : decode cX11_quarter 19 = .ok (.putfield 233, 3) := by decide +kernel
theorem dX11_quarter_22 : decode cX11_quarter 22 = .ok (.aload_n 0, 1) := by decide +kernel
theorem dX11_quarter_23 : decode cX11_quarter 23 = .ok (.iconst 0, 1) := by decide +kernel
theorem dX11_quarter_24 : decode cX11_quarter 24 = .ok (.putfield 217, 3) := by decide +kernel
theorem dX11_quarter_27 : decode cX11_quarter 27 = .ok (.aload_n 0, 1) := by decide +kernel
theorem dX11_quarter_28 : decode cX11_quarter 28 = .ok (.invokevirtual 131, 3) := by decide +kernel
theorem dX11_quarter_31 : decode cX11_quarter 31 = .ok (.aload_n 0, 1) := by decide +kernel
theorem dX11_quarter_32 : decode cX11_quarter 32 = .ok (.invokevirtual 173, 3) := by decide +kernel
theorem dX11_quarter_35 : decode cX11_quarter 35 = .ok (.aload_n 0, 1) := by decide +kernel
theorem dX11_quarter_36 : decode cX11_quarter 36 = .ok (.getfield 144, 3) := by decide +kernel
theorem dX11_quarter_39 : decode cX11_quarter 39 = .ok (.ifCond .eq 39, 3) := by decide +kernel
theorem dX11_quarter_42 : decode cX11_quarter 42 = .ok (.aload_n 0, 1) := by decide +kernel
theorem dX11_quarter_43 : decode cX11_quarter 43 = .ok (.invokevirtual 236, 3) := by decide +kernel
theorem dX11_quarter_46 : decode cX11_quarter 46 = .ok (.ifCond .eq 12, 3) := by decide +kernel
theorem dX11_quarter_49 : decode cX11_quarter 49 = .ok (.aload_n 0, 1) := by decide +kernel
theorem dX11_quarter_50 : decode cX11_quarter 50 = .ok (.bipush 59, 2) := by decide +kernel
theorem dX11_quarter_52 : decode cX11_quarter 52 = .ok (.invokevirtual 239, 3) := by decide +kernel
theorem dX11_quarter_55 : decode cX11_quarter 55 = .ok (.ifCond .ne 10, 3) := by decide +kernel
theorem dX11_quarter_58 : decode cX11_quarter 58 = .ok (.iconst (-1), 1) := by decide +kernel
theorem dX11_quarter_59 : decode cX11_quarter 59 = .ok (.aload_n 0, 1) := by decide +kernel
theorem dX11_quarter_60 : decode cX11_quarter 60 = .ok (.getfield 164, 3) := by decide +kernel
theorem dX11_quarter_63 : decode cX11_quarter 63 = .ok (.isub, 1) := by decide +kernel
theorem dX11_quarter_64 : decode cX11_quarter 64 = .ok (.ireturn, 1) := by decide +kernel
theorem dX11_quarter_65 : decode cX11_quarter 65 = .ok (.aload_n 0, 1) := by decide +kernel
theorem dX11_quarter_66 : decode cX11_quarter 66 = .ok (.dup, 1) := by decide +kernel
theorem dX11_quarter_67 : decode cX11_quarter 67 = .ok (.getfield 233, 3) := by decide +kernel
theorem dX11_quarter_70 : decode cX11_quarter 70 = .ok (.iconst 1, 1) := by decide +kernel
theorem dX11_quarter_71 : decode cX11_quarter 71 = .ok (.iadd, 1) := by decide +kernel
theorem dX11_quarter_72 : decode cX11_quarter 72 = .ok (.putfield 233, 3) := by decide +kernel
theorem dX11_quarter_75 : decode cX11_quarter 75 = .ok (.goto (-40), 3) := by decide +kernel
theorem dX11_quarter_78 : decode cX11_quarter 78 = .ok (.iconst 0, 1) := by decide +kernel
theorem dX11_quarter_79 : decode cX11_quarter 79 = .ok (.istore_n 1, 1) := by decide +kernel
theorem dX11_quarter_80 : decode cX11_quarter 80 = .ok (.iload_n 1, 1) := by decide +kernel
theorem dX11_quarter_81 : decode cX11_quarter 81 = .ok (.sipush 390, 3) := by decide +kernel
theorem dX11_quarter_84 : decode cX11_quarter 84 = .ok (.if_icmp .ge 31, 3) := by decide +kernel
theorem dX11_quarter_87 : decode cX11_quarter 87 = .ok (.aload_n 0, 1) := by decide +kernel
theorem dX11_quarter_88 : decode cX11_quarter 88 = .ok (.getfield 33, 3) := by decide +kernel
theorem dX11_quarter_91 : decode cX11_quarter 91 = .ok (.iload_n 1, 1) := by decide +kernel
theorem dX11_quarter_92 : decode cX11_quarter 92 = .ok (.iload_n 1, 1) := by decide +kernel
theorem dX11_quarter_93 : decode cX11_quarter 93 = .ok (.bipush 121, 2) := by decide +kernel
theorem dX11_quarter_95 : decode cX11_quarter 95 = .ok (.if_icmp .ge 12, 3) := by decide +kernel
theorem dX11_quarter_98 : decode cX11_quarter 98 = .ok (.aload_n 0, 1) := by decide +kernel
theorem dX11_quarter_99 : decode cX11_quarter 99 = .ok (.getfield 37, 3) := by decide +kernel
theorem dX11_quarter_102 : decode cX11_quarter 102 = .ok (.iload_n 1, 1) := by decide +kernel
theorem dX11_quarter_103 : decode cX11_quarter 103 = .ok (.iaload, 1) := by decide +kernel
theorem dX11_quarter_104 : decode cX11_quarter 104 = .ok (.goto 4, 3) := by decide +kernel
theorem dX11_quarter_107 : decode cX11_quarter 107 = .ok (.iconst 0, 1) := by decide +kernel
theorem dX11_quarter_108 : decode cX11_quarter 108 = .ok (.iastore, 1) := by decide +kernel
theorem dX11_quarter_109 : decode cX11_quarter 109 = .ok (.iinc 1 1, 3) := by decide +kernel
theorem dX11_quarter_112 : decode cX11_quarter 112 = .ok (.goto (-32), 3) := by decide +kernel
theorem dX11_quarter_115 : decode cX11_quarter 115 = .ok (.iconst 0, 1) := by decide +kernel
theorem dX11_quarter_116 : decode cX11_quarter 116 = .ok (.istore_n 1, 1) := by decide +kernel
theorem dX11_quarter_117 : decode cX11_quarter 117 = .ok (.iload_n 1, 1) := by decide +kernel
theorem dX11_quarter_118 : decode cX11_quarter 118 = .ok (.bipush 18, 2) := by decide +kernel
theorem dX11_quarter_120 : decode cX11_quarter 120 = .ok (.if_icmp .ge 24, 3) := by decide +kernel
theorem dX11_quarter_123 : decode cX11_quarter 123 = .ok (.aload_n 0, 1) := by decide +kernel
theorem dX11_quarter_124 : decode cX11_quarter 124 = .ok (.getfield 43, 3) := by decide +kernel
theorem dX11_quarter_127 : decode cX11_quarter 127 = .ok (.iload_n 1, 1) := by decide +kernel
theorem dX11_quarter_128 : decode cX11_quarter 128 = .ok (.aload_n 0, 1) := by decide +kernel
theorem dX11_quarter_129 : decode cX11_quarter 129 = .ok (.getfield 43, 3) := by decide +kernel
theorem dX11_quarter_132 : decode cX11_quarter 132 = .ok (.bipush 18, 2) := by decide +kernel
theorem dX11_quarter_134 : decode cX11_quarter 134 = .ok (.iload_n 1, 1) := by decide +kernel
theorem dX11_quarter_135 : decode cX11_quarter 135 = .ok (.iadd, 1) := by decide +kernel
theorem dX11_quarter_136 : decode cX11_quarter 136 = .ok (.laload, 1) := by decide +kernel
theorem dX11_quarter_137 : decode cX11_quarter 137 = .ok (.lastore, 1) := by decide +kernel
theorem dX11_quarter_138 : decode cX11_quarter 138 = .ok (.iinc 1 1, 3) := by decide +kernel
theorem dX11_quarter_141 : decode cX11_quarter 141 = .ok (.goto (-24), 3) := by decide +kernel
theorem dX11_quarter_144 : decode cX11_quarter 144 = .ok (.iconst 0, 1) := by decide +kernel
theorem dX11_quarter_145 : decode cX11_quarter 145 = .ok (.istore_n 1, 1) := by decide +kernel
theorem dX11_quarter_146 : decode cX11_quarter 146 = .ok (.iload_n 1, 1) := by decide +kernel
theorem dX11_quarter_147 : decode cX11_quarter 147 = .ok (.bipush 6, 2) := by decide +kernel
theorem dX11_quarter_149 : decode cX11_quarter 149 = .ok (.if_icmp .ge 27, 3) := by decide +kernel
theorem dX11_quarter_152 : decode cX11_quarter 152 = .ok (.aload_n 0, 1) := by decide +kernel
theorem dX11_quarter_153 : decode cX11_quarter 153 = .ok (.getfield 33, 3) := by decide +kernel
theorem dX11_quarter_156 : decode cX11_quarter 156 = .ok (.bipush 125, 2) := by decide +kernel
theorem dX11_quarter_158 : decode cX11_quarter 158 = .ok (.iload_n 1, 1) := by decide +kernel
theorem dX11_quarter_159 : decode cX11_quarter 159 = .ok (.iadd, 1) := by decide +kernel
theorem dX11_quarter_160 : decode cX11_quarter 160 = .ok (.aload_n 0, 1) := by decide +kernel
theorem dX11_quarter_161 : decode cX11_quarter 161 = .ok (.getfield 33, 3) := by decide +kernel
theorem dX11_quarter_164 : decode cX11_quarter 164 = .ok (.bipush 27, 2) := by decide +kernel
theorem dX11_quarter_166 : decode cX11_quarter 166 = .ok (.iload_n 1, 1) := by decide +kernel
theorem dX11_quarter_167 : decode cX11_quarter 167 = .ok (.iadd, 1) := by decide +kernel
theorem dX11_quarter_168 : decode cX11_quarter 168 = .ok (.iaload, 1) := by decide +kernel
theorem dX11_quarter_169 : decode cX11_quarter 169 = .ok (.iastore, 1) := by decide +kernel
theorem dX11_quarter_170 : decode cX11_quarter 170 = .ok (.iinc 1 1, 3) := by decide +kernel
theorem dX11_quarter_173 : decode cX11_quarter 173 = .ok (.goto (-27), 3) := by decide +kernel
theorem dX11_quarter_176 : decode cX11_quarter 176 = .ok (.iconst 0, 1) := by decide +kernel
theorem dX11_quarter_177 : decode cX11_quarter 177 = .ok (.istore_n 1, 1) := by decide +kernel
theorem dX11_quarter_178 : decode cX11_quarter 178 = .ok (.iload_n 1, 1) := by decide +kernel
theorem dX11_quarter_179 : decode cX11_quarter 179 = .ok (.bipush 48, 2) := by decide +kernel
theorem dX11_quarter_181 : decode cX11_quarter 181 = .ok (.if_icmp .ge 28, 3) := by decide +kernel
theorem dX11_quarter_184 : decode cX11_quarter 184 = .ok (.aload_n 0, 1) := by decide +kernel
theorem dX11_quarter_185 : decode cX11_quarter 185 = .ok (.getfield 33, 3) := by decide +kernel
theorem dX11_quarter_188 : decode cX11_quarter 188 = .ok (.sipush 131, 3) := by decide +kernel
theorem dX11_quarter_191 : decode cX11_quarter 191 = .ok (.iload_n 1, 1) := by decide +kernel
theorem dX11_quarter_192 : decode cX11_quarter 192 = .ok (.iadd, 1) := by decide +kernel
theorem dX11_quarter_193 : decode cX11_quarter 193 = .ok (.aload_n 0, 1) := by decide +kernel
theorem dX11_quarter_194 : decode cX11_quarter 194 = .ok (.getfield 33, 3) := by decide +kernel
theorem dX11_quarter_197 : decode cX11_quarter 197 = .ok (.bipush 33, 2) := by decide +kernel
theorem dX11_quarter_199 : decode cX11_quarter 199 = .ok (.iload_n 1, 1) := by decide +kernel
theorem dX11_quarter_200 : decode cX11_quarter 200 = .ok (.iadd, 1) := by decide +kernel
theorem dX11_quarter_201 : decode cX11_quarter 201 = .ok (.iaload, 1) := by decide +kernel
theorem dX11_quarter_202 : decode cX11_quarter 202 = .ok (.iastore, 1) := by decide +kernel
theorem dX11_quarter_203 : decode cX11_quarter 203 = .ok (.iinc 1 1, 3) := by decide +kernel
theorem dX11_quarter_206 : decode cX11_quarter 206 = .ok (.goto (-28), 3) := by decide +kernel
theorem dX11_quarter_209 : decode cX11_quarter 209 = .ok (.aload_n 0, 1) := by decide +kernel
theorem dX11_quarter_210 : decode cX11_quarter 210 = .ok (.iconst 0, 1) := by decide +kernel
theorem dX11_quarter_211 : decode cX11_quarter 211 = .ok (.putfield 242, 3) := by decide +kernel
theorem dX11_quarter_214 : decode cX11_quarter 214 = .ok (.aload_n 0, 1) := by decide +kernel
theorem dX11_quarter_215 : decode cX11_quarter 215 = .ok (.getfield 233, 3) := by decide +kernel
theorem dX11_quarter_218 : decode cX11_quarter 218 = .ok (.ireturn, 1) := by decide +kernel
theorem dX11_fault_0 : decode cX11_fault 0 = .ok (.aload_n 0, 1) := by decide +kernel
theorem dX11_fault_1 : decode cX11_fault 1 = .ok (.iconst 0, 1) := by decide +kernel
theorem dX11_fault_2 : decode cX11_fault 2 = .ok (.putfield 1, 3) := by decide +kernel
theorem dX11_fault_5 : decode cX11_fault 5 = .ok (.aload_n 0, 1) := by decide +kernel
theorem dX11_fault_6 : decode cX11_fault 6 = .ok (.getfield 161, 3) := by decide +kernel
theorem dX11_fault_9 : decode cX11_fault 9 = .ok (.ireturn, 1) := by decide +kernel
theorem dX11_isPerson_0 : decode cX11_isPerson 0 = .ok (.iload_n 1, 1) := by decide +kernel
theorem dX11_isPerson_1 : decode cX11_isPerson 1 = .ok (.iconst 0, 1) := by decide +kernel
theorem dX11_isPerson_2 : decode cX11_isPerson 2 = .ok (.aload_n 0, 1) := by decide +kernel
theorem dX11_isPerson_3 : decode cX11_isPerson 3 = .ok (.getfield 33, 3) := by decide +kernel
theorem dX11_isPerson_6 : decode cX11_isPerson 6 = .ok (.iconst 1, 1) := by decide +kernel
theorem dX11_isPerson_7 : decode cX11_isPerson 7 = .ok (.iaload, 1) := by decide +kernel
theorem dX11_isPerson_8 : decode cX11_isPerson 8 = .ok (.iconst 1, 1) := by decide +kernel
theorem dX11_isPerson_9 : decode cX11_isPerson 9 = .ok (.isub, 1) := by decide +kernel
theorem dX11_isPerson_10 : decode cX11_isPerson 10 = .ok (.invokestatic 176, 3) := by decide +kernel
theorem dX11_isPerson_13 : decode cX11_isPerson 13 = .ok (.ireturn, 1) := by decide +kernel
theorem dX11_isThing_0 : decode cX11_isThing 0 = .ok (.iload_n 1, 1) := by decide +kernel
theorem dX11_isThing_1 : decode cX11_isThing 1 = .ok (.iconst 0, 1) := by decide +kernel
theorem dX11_isThing_2 : decode cX11_isThing 2 = .ok (.aload_n 0, 1) := by decide +kernel
theorem dX11_isThing_3 : decode cX11_isThing 3 = .ok (.getfield 33, 3) := by decide +kernel
theorem dX11_isThing_6 : decode cX11_isThing 6 = .ok (.iconst 0, 1) := by decide +kernel
theorem dX11_isThing_7 : decode cX11_isThing 7 = .ok (.iaload, 1) := by decide +kernel
theorem dX11_isThing_8 : decode cX11_isThing 8 = .ok (.iconst 1, 1) := by decide +kernel
theorem dX11_isThing_9 : decode cX11_isThing 9 = .ok (.isub, 1) := by decide +kernel
theorem dX11_isThing_10 : decode cX11_isThing 10 = .ok (.invokestatic 176, 3) := by decide +kernel
theorem dX11_isThing_13 : decode cX11_isThing 13 = .ok (.ireturn, 1) := by decide +kernel
theorem dX11_isBed_0 : decode cX11_isBed 0 = .ok (.iload_n 1, 1) := by decide +kernel
theorem dX11_isBed_1 : decode cX11_isBed 1 = .ok (.iconst 0, 1) := by decide +kernel
theorem dX11_isBed_2 : decode cX11_isBed 2 = .ok (.aload_n 0, 1) := by decide +kernel
theorem dX11_isBed_3 : decode cX11_isBed 3 = .ok (.getfield 33, 3) := by decide +kernel
theorem dX11_isBed_6 : decode cX11_isBed 6 = .ok (.iconst 3, 1) := by decide +kernel
theorem dX11_isBed_7 : decode cX11_isBed 7 = .ok (.iaload, 1) := by decide +kernel
theorem dX11_isBed_8 : decode cX11_isBed 8 = .ok (.iconst 1, 1) := by decide +kernel
theorem dX11_isBed_9 : decode cX11_isBed 9 = .ok (.isub, 1) := by decide +kernel
theorem dX11_isBed_10 : decode cX11_isBed 10 = .ok (.invokestatic 176, 3) := by decide +kernel
theorem dX11_isBed_13 : decode cX11_isBed 13 = .ok (.ireturn, 1) := by decide +kernel
theorem dX11_fromOutside_0 : decode cX11_fromOutside 0 = .ok (.iload_n 2, 1) := by decide +kernel
theorem dX11_fromOutside_1 : decode cX11_fromOutside 1 = .ok (.aload_n 0, 1) := by decide +kernel
theorem dX11_fromOutside_2 : decode cX11_fromOutside 2 = .ok (.getfield 33, 3) := by decide +kernel
theorem dX11_fromOutside_5 : decode cX11_fromOutside 5 = .ok (.bipush 125, 2) := by decide +kernel
theorem dX11_fromOutside_7 : decode cX11_fromOutside 7 = .ok (.iload_n 1, 1) := by decide +kernel
theorem dX11_fromOutside_8 : decode cX11_fromOutside 8 = .ok (.iadd, 1) := by decide +kernel
theorem dX11_fromOutside_9 : decode cX11_fromOutside 9 = .ok (.iaload, 1) := by decide +kernel
theorem dX11_fromOutside_10 : decode cX11_fromOutside 10 = .ok (.if_icmp .ge 33, 3) := by decide +kernel
theorem dX11_fromOutside_13 : decode cX11_fromOutside 13 = .ok (.aload_n 0, 1) := by decide +kernel
theorem dX11_fromOutside_14 : decode cX11_fromOutside 14 = .ok (.getfield 33, 3) := by decide +kernel
theorem dX11_fromOutside_17 : decode cX11_fromOutside 17 = .ok (.sipush 131, 3) := by decide +kernel
theorem dX11_fromOutside_20 : decode cX11_fromOutside 20 = .ok (.bipush 8, 2) := by decide +kernel
theorem dX11_fromOutside_22 : decode cX11_fromOutside 22 = .ok (.iload_n 1, 1) := by decide +kernel
theorem dX11_fromOutside_23 : decode cX11_fromOutside 23 = .ok (.imul, 1) := by decide +kernel
theorem dX11_fromOutside_24 : decode cX11_fromOutside 24 = .ok (.iadd, 1) := by decide +kernel
theorem dX11_fromOutside_25 : decode cX11_fromOutside 25 = .ok (.aload_n 0, 1) := by decide +kernel
theorem dX11_fromOutside_26 : decode cX11_fromOutside 26 = .ok (.getfield 33, 3) := by decide +kernel
theorem dX11_fromOutside_29 : decode cX11_fromOutside 29 = .ok (.bipush 125, 2) := by decide +kernel
theorem dX11_fromOutside_31 : decode cX11_fromOutside 31 = .ok (.iload_n 1, 1) := by decide +kernel
theorem dX11_fromOutside_32 : decode cX11_fromOutside 32 = .ok (.iadd, 1) := by decide +kernel
theorem dX11_fromOutside_33 : decode cX11_fromOutside 33 = .ok (.iaload, 1) := by decide +kernel
theorem dX11_fromOutside_34 : decode cX11_fromOutside 34 = .ok (.iadd, 1) := by decide +kernel
theorem dX11_fromOutside_35 : decode cX11_fromOutside 35 = .ok (.iconst 1, 1) := by decide +kernel
theorem dX11_fromOutside_36 : decode cX11_fromOutside 36 = .ok (.isub, 1) := by decide +kernel
theorem dX11_fromOutside_37 : decode cX11_fromOutside 37 = .ok (.iload_n 2, 1) := by decide +kernel
theorem dX11_fromOutside_38 : decode cX11_fromOutside 38 = .ok (.isub, 1) := by decide +kernel
theorem dX11_fromOutside_39 : decode cX11_fromOutside 39 = .ok (.iaload, 1) := by decide +kernel
theorem dX11_fromOutside_40 : decode cX11_fromOutside 40 = .ok (.goto 4, 3) := by decide +kernel
theorem dX11_fromOutside_43 : decode cX11_fromOutside 43 = .ok (.iconst (-1), 1) := by decide +kernel
theorem dX11_fromOutside_44 : decode cX11_fromOutside 44 = .ok (.ireturn, 1) := by decide +kernel
theorem dX11_knotAt_0 : decode cX11_knotAt 0 = .ok (.iconst 0, 1) := by decide +kernel
theorem dX11_knotAt_1 : decode cX11_knotAt 1 = .ok (.istore_n 3, 1) := by decide +kernel
theorem dX11_knotAt_2 : decode cX11_knotAt 2 = .ok (.iload_n 2, 1) := by decide +kernel
theorem dX11_knotAt_3 : decode cX11_knotAt 3 = .ok (.iload_n 3, 1) := by decide +kernel
theorem dX11_knotAt_4 : decode cX11_knotAt 4 = .ok (.iadd, 1) := by decide +kernel
theorem dX11_knotAt_5 : decode cX11_knotAt 5 = .ok (.aload_n 0, 1) := by decide +kernel
theorem dX11_knotAt_6 : decode cX11_knotAt 6 = .ok (.getfield 33, 3) := by decide +kernel
theorem dX11_knotAt_9 : decode cX11_knotAt 9 = .ok (.bipush 125, 2) := by decide +kernel
theorem dX11_knotAt_11 : decode cX11_knotAt 11 = .ok (.iload_n 1, 1) := by decide +kernel
theorem dX11_knotAt_12 : decode cX11_knotAt 12 = .ok (.iadd, 1) := by decide +kernel
theorem dX11_knotAt_13 : decode cX11_knotAt 13 = .ok (.iaload, 1) := by decide +kernel
theorem dX11_knotAt_14 : decode cX11_knotAt 14 = .ok (.if_icmp .ge 26, 3) := by decide +kernel
theorem dX11_knotAt_17 : decode cX11_knotAt 17 = .ok (.aload_n 0, 1) := by decide +kernel
theorem dX11_knotAt_18 : decode cX11_knotAt 18 = .ok (.iload_n 1, 1) := by decide +kernel
theorem dX11_knotAt_19 : decode cX11_knotAt 19 = .ok (.iload_n 2, 1) := by decide +kernel
theorem dX11_knotAt_20 : decode cX11_knotAt 20 = .ok (.iload_n 3, 1) := by decide +kernel
theorem dX11_knotAt_21 : decode cX11_knotAt 21 = .ok (.iadd, 1) := by decide +kernel
theorem dX11_knotAt_22 : decode cX11_knotAt 22 = .ok (.invokevirtual 245, 3) := by decide +kernel
theorem dX11_knotAt_25 : decode cX11_knotAt 25 = .ok (.aload_n 0, 1) := by decide +kernel
theorem dX11_knotAt_26 : decode cX11_knotAt 26 = .ok (.iload_n 1, 1) := by decide +kernel
theorem dX11_knotAt_27 : decode cX11_knotAt 27 = .ok (.iload_n 2, 1) := by decide +kernel
theorem dX11_knotAt_28 : decode cX11_knotAt 28 = .ok (.invokevirtual 245, 3) := by decide +kernel
theorem dX11_knotAt_31 : decode cX11_knotAt 31 = .ok (.if_icmp .ne 9, 3) := by decide +kernel
theorem dX11_knotAt_34 : decode cX11_knotAt 34 = .ok (.iinc 3 1, 3) := by decide +kernel
theorem dX11_knotAt_37 : decode cX11_knotAt 37 = .ok (.goto (-35), 3) := by decide +kernel
theorem dX11_knotAt_40 : decode cX11_knotAt 40 = .ok (.iload_n 3, 1) := by decide +kernel
theorem dX11_knotAt_41 : decode cX11_knotAt 41 = .ok (.ireturn, 1) := by decide +kernel
theorem dX11_knotHolds_0 : decode cX11_knotHolds 0 = .ok (.iload_n 2, 1) := by decide +kernel
theorem dX11_knotHolds_1 : decode cX11_knotHolds 1 = .ok (.aload_n 0, 1) := by decide +kernel
theorem dX11_knotHolds_2 : decode cX11_knotHolds 2 = .ok (.getfield 33, 3) := by decide +kernel
theorem dX11_knotHolds_5 : decode cX11_knotHolds 5 = .ok (.bipush 125, 2) := by decide +kernel
theorem dX11_knotHolds_7 : decode cX11_knotHolds 7 = .ok (.iload_n 1, 1) := by decide +kernel
theorem dX11_knotHolds_8 : decode cX11_knotHolds 8 = .ok (.iadd, 1) := by decide +kernel
theorem dX11_knotHolds_9 : decode cX11_knotHolds 9 = .ok (.iaload, 1) := by decide +kernel
theorem dX11_knotHolds_10 : decode cX11_knotHolds 10 = .ok (.if_icmp .ge 26, 3) := by decide +kernel
theorem dX11_knotHolds_13 : decode cX11_knotHolds 13 = .ok (.aload_n 0, 1) := by decide +kernel
theorem dX11_knotHolds_14 : decode cX11_knotHolds 14 = .ok (.iload_n 1, 1) := by decide +kernel
theorem dX11_knotHolds_15 : decode cX11_knotHolds 15 = .ok (.iload_n 2, 1) := by decide +kernel
theorem dX11_knotHolds_16 : decode cX11_knotHolds 16 = .ok (.invokevirtual 248, 3) := by decide +kernel
theorem dX11_knotHolds_19 : decode cX11_knotHolds 19 = .ok (.aload_n 0, 1) := by decide +kernel
theorem dX11_knotHolds_20 : decode cX11_knotHolds 20 = .ok (.getfield 33, 3) := by decide +kernel
theorem dX11_knotHolds_23 : decode cX11_knotHolds 23 = .ok (.iconst 5, 1) := by decide +kernel
theorem dX11_knotHolds_24 : decode cX11_knotHolds 24 = .ok (.aload_n 0, 1) := by decide +kernel
theorem dX11_knotHolds_25 : decode cX11_knotHolds 25 = .ok (.iload_n 1, 1) := by decide +kernel
theorem dX11_knotHolds_26 : decode cX11_knotHolds 26 = .ok (.iload_n 2, 1) := by decide +kernel
theorem dX11_knotHolds_27 : decode cX11_knotHolds 27 = .ok (.invokevirtual 245, 3) := by decide +kernel
theorem dX11_knotHolds_30 : decode cX11_knotHolds 30 = .ok (.iadd, 1) := by decide +kernel
theorem dX11_knotHolds_31 : decode cX11_knotHolds 31 = .ok (.iaload, 1) := by decide +kernel
theorem dX11_knotHolds_32 : decode cX11_knotHolds 32 = .ok (.imul, 1) := by decide +kernel
theorem dX11_knotHolds_33 : decode cX11_knotHolds 33 = .ok (.goto 4, 3) := by decide +kernel
theorem dX11_knotHolds_36 : decode cX11_knotHolds 36 = .ok (.iconst 0, 1) := by decide +kernel
theorem dX11_knotHolds_37 : decode cX11_knotHolds 37 = .ok (.ireturn, 1) := by decide +kernel
theorem dX11_knotsOf_0 : decode cX11_knotsOf 0 = .ok (.iconst 0, 1) := by decide +kernel
theorem dX11_knotsOf_1 : decode cX11_knotsOf 1 = .ok (.istore_n 2, 1) := by decide +kernel
theorem dX11_knotsOf_2 : decode cX11_knotsOf 2 = .ok (.iconst 0, 1) := by decide +kernel
theorem dX11_knotsOf_3 : decode cX11_knotsOf 3 = .ok (.istore_n 3, 1) := by decide +kernel
theorem dX11_knotsOf_4 : decode cX11_knotsOf 4 = .ok (.iload_n 3, 1) := by decide +kernel
theorem dX11_knotsOf_5 : decode cX11_knotsOf 5 = .ok (.aload_n 0, 1) := by decide +kernel
theorem dX11_knotsOf_6 : decode cX11_knotsOf 6 = .ok (.getfield 33, 3) := by decide +kernel
theorem dX11_knotsOf_9 : decode cX11_knotsOf 9 = .ok (.bipush 125, 2) := by decide +kernel
theorem dX11_knotsOf_11 : decode cX11_knotsOf 11 = .ok (.iload_n 1, 1) := by decide +kernel
theorem dX11_knotsOf_12 : decode cX11_knotsOf 12 = .ok (.iadd, 1) := by decide +kernel
theorem dX11_knotsOf_13 : decode cX11_knotsOf 13 = .ok (.iaload, 1) := by decide +kernel
theorem dX11_knotsOf_14 : decode cX11_knotsOf 14 = .ok (.if_icmp .ge 18, 3) := by decide +kernel
theorem dX11_knotsOf_17 : decode cX11_knotsOf 17 = .ok (.iinc 2 1, 3) := by decide +kernel
theorem dX11_knotsOf_20 : decode cX11_knotsOf 20 = .ok (.iload_n 3, 1) := by decide +kernel
theorem dX11_knotsOf_21 : decode cX11_knotsOf 21 = .ok (.aload_n 0, 1) := by decide +kernel
theorem dX11_knotsOf_22 : decode cX11_knotsOf 22 = .ok (.iload_n 1, 1) := by decide +kernel
theorem dX11_knotsOf_23 : decode cX11_knotsOf 23 = .ok (.iload_n 3, 1) := by decide +kernel
theorem dX11_knotsOf_24 : decode cX11_knotsOf 24 = .ok (.invokevirtual 248, 3) := by decide +kernel
theorem dX11_knotsOf_27 : decode cX11_knotsOf 27 = .ok (.iadd, 1) := by decide +kernel
theorem dX11_knotsOf_28 : decode cX11_knotsOf 28 = .ok (.istore_n 3, 1) := by decide +kernel
theorem dX11_knotsOf_29 : decode cX11_knotsOf 29 = .ok (.goto (-25), 3) := by decide +kernel
theorem dX11_knotsOf_32 : decode cX11_knotsOf 32 = .ok (.iload_n 2, 1) := by decide +kernel
theorem dX11_knotsOf_33 : decode cX11_knotsOf 33 = .ok (.ireturn, 1) := by decide +kernel
theorem dX11_holdsOf_0 : decode cX11_holdsOf 0 = .ok (.iconst 0, 1) := by decide +kernel
theorem dX11_holdsOf_1 : decode cX11_holdsOf 1 = .ok (.istore_n 2, 1) := by decide +kernel
theorem dX11_holdsOf_2 : decode cX11_holdsOf 2 = .ok (.iconst 0, 1) := by decide +kernel
theorem dX11_holdsOf_3 : decode cX11_holdsOf 3 = .ok (.istore_n 3, 1) := by decide +kernel
theorem dX11_holdsOf_4 : decode cX11_holdsOf 4 = .ok (.iload_n 3, 1) := by decide +kernel
theorem dX11_holdsOf_5 : decode cX11_holdsOf 5 = .ok (.aload_n 0, 1) := by decide +kernel
theorem dX11_holdsOf_6 : decode cX11_holdsOf 6 = .ok (.getfield 33, 3) := by decide +kernel
theorem dX11_holdsOf_9 : decode cX11_holdsOf 9 = .ok (.bipush 125, 2) := by decide +kernel
theorem dX11_holdsOf_11 : decode cX11_holdsOf 11 = .ok (.iload_n 1, 1) := by decide +kernel
theorem dX11_holdsOf_12 : decode cX11_holdsOf 12 = .ok (.iadd, 1) := by decide +kernel
theorem dX11_holdsOf_13 : decode cX11_holdsOf 13 = .ok (.iaload, 1) := by decide +kernel
theorem dX11_holdsOf_14 : decode cX11_holdsOf 14 = .ok (.if_icmp .ge 25, 3) := by decide +kernel
theorem dX11_holdsOf_17 : decode cX11_holdsOf 17 = .ok (.iload_n 2, 1) := by decide +kernel
theorem dX11_holdsOf_18 : decode cX11_holdsOf 18 = .ok (.aload_n 0, 1) := by decide +kernel
theorem dX11_holdsOf_19 : decode cX11_holdsOf 19 = .ok (.getfield 33, 3) := by decide +kernel
theorem dX11_holdsOf_22 : decode cX11_holdsOf 22 = .ok (.iconst 5, 1) := by decide +kernel
theorem dX11_holdsOf_23 : decode cX11_holdsOf 23 = .ok (.aload_n 0, 1) := by decide +kernel
theorem dX11_holdsOf_24 : decode cX11_holdsOf 24 = .ok (.iload_n 1, 1) := by decide +kernel
theorem dX11_holdsOf_25 : decode cX11_holdsOf 25 = .ok (.iload_n 3, 1) := by decide +kernel
theorem dX11_holdsOf_26 : decode cX11_holdsOf 26 = .ok (.invokevirtual 245, 3) := by decide +kernel
theorem dX11_holdsOf_29 : decode cX11_holdsOf 29 = .ok (.iadd, 1) := by decide +kernel
theorem dX11_holdsOf_30 : decode cX11_holdsOf 30 = .ok (.iaload, 1) := by decide +kernel
theorem dX11_holdsOf_31 : decode cX11_holdsOf 31 = .ok (.iadd, 1) := by decide +kernel
theorem dX11_holdsOf_32 : decode cX11_holdsOf 32 = .ok (.istore_n 2, 1) := by decide +kernel
theorem dX11_holdsOf_33 : decode cX11_holdsOf 33 = .ok (.iinc 3 1, 3) := by decide +kernel
theorem dX11_holdsOf_36 : decode cX11_holdsOf 36 = .ok (.goto (-32), 3) := by decide +kernel
theorem dX11_holdsOf_39 : decode cX11_holdsOf 39 = .ok (.iload_n 2, 1) := by decide +kernel
theorem dX11_holdsOf_40 : decode cX11_holdsOf 40 = .ok (.ireturn, 1) := by decide +kernel
theorem dX11_isNest_0 : decode cX11_isNest 0 = .ok (.aload_n 0, 1) := by decide +kernel
theorem dX11_isNest_1 : decode cX11_isNest 1 = .ok (.getfield 33, 3) := by decide +kernel
theorem dX11_isNest_4 : decode cX11_isNest 4 = .ok (.bipush 125, 2) := by decide +kernel
theorem dX11_isNest_6 : decode cX11_isNest 6 = .ok (.iload_n 1, 1) := by decide +kernel
theorem dX11_isNest_7 : decode cX11_isNest 7 = .ok (.iadd, 1) := by decide +kernel
theorem dX11_isNest_8 : decode cX11_isNest 8 = .ok (.iaload, 1) := by decide +kernel
theorem dX11_isNest_9 : decode cX11_isNest 9 = .ok (.bipush 8, 2) := by decide +kernel
theorem dX11_isNest_11 : decode cX11_isNest 11 = .ok (.if_icmp .ne 7, 3) := by decide +kernel
theorem dX11_isNest_14 : decode cX11_isNest 14 = .ok (.iconst 1, 1) := by decide +kernel
theorem dX11_isNest_15 : decode cX11_isNest 15 = .ok (.goto 4, 3) := by decide +kernel
theorem dX11_isNest_18 : decode cX11_isNest 18 = .ok (.iconst 0, 1) := by decide +kernel
theorem dX11_isNest_19 : decode cX11_isNest 19 = .ok (.ireturn, 1) := by decide +kernel
theorem dX11_hasThing_0 : decode cX11_hasThing 0 = .ok (.iconst 0, 1) := by decide +kernel
theorem dX11_hasThing_1 : decode cX11_hasThing 1 = .ok (.istore_n 3, 1) := by decide +kernel
theorem dX11_hasThing_2 : decode cX11_hasThing 2 = .ok (.iconst 0, 1) := by decide +kernel
theorem dX11_hasThing_3 : decode cX11_hasThing 3 = .ok (.istore 4, 2) := by decide +kernel
theorem dX11_hasThing_5 : decode cX11_hasThing 5 = .ok (.iload 4, 2) := by decide +kernel
theorem dX11_hasThing_7 : decode cX11_hasThing 7 = .ok (.aload_n 0, 1) := by decide +kernel
theorem dX11_hasThing_8 : decode cX11_hasThing 8 = .ok (.getfield 33, 3) := by decide +kernel
theorem dX11_hasThing_11 : decode cX11_hasThing 11 = .ok (.bipush 125, 2) := by decide +kernel
theorem dX11_hasThing_13 : decode cX11_hasThing 13 = .ok (.iload_n 1, 1) := by decide +kernel
theorem dX11_hasThing_14 : decode cX11_hasThing 14 = .ok (.iadd, 1) := by decide +kernel
theorem dX11_hasThing_15 : decode cX11_hasThing 15 = .ok (.iaload, 1) := by decide +kernel
theorem dX11_hasThing_16 : decode cX11_hasThing 16 = .ok (.if_icmp .ge 39, 3) := by decide +kernel
theorem dX11_hasThing_19 : decode cX11_hasThing 19 = .ok (.iload_n 3, 1) := by decide +kernel
theorem dX11_hasThing_20 : decode cX11_hasThing 20 = .ok (.ifCond .ne 23, 3) := by decide +kernel
theorem dX11_hasThing_23 : decode cX11_hasThing 23 = .ok (.aload_n 0, 1) := by decide +kernel
theorem dX11_hasThing_24 : decode cX11_hasThing 24 = .ok (.getfield 33, 3) := by decide +kernel
theorem dX11_hasThing_27 : decode cX11_hasThing 27 = .ok (.sipush 131, 3) := by decide +kernel
theorem dX11_hasThing_30 : decode cX11_hasThing 30 = .ok (.bipush 8, 2) := by decide +kernel
theorem dX11_hasThing_32 : decode cX11_hasThing 32 = .ok (.iload_n 1, 1) := by decide +kernel
theorem dX11_hasThing_33 : decode cX11_hasThing 33 = .ok (.imul, 1) := by decide +kernel
theorem dX11_hasThing_34 : decode cX11_hasThing 34 = .ok (.iadd, 1) := by decide +kernel
theorem dX11_hasThing_35 : decode cX11_hasThing 35 = .ok (.iload 4, 2) := by decide +kernel
theorem dX11_hasThing_37 : decode cX11_hasThing 37 = .ok (.iadd, 1) := by decide +kernel
theorem dX11_hasThing_38 : decode cX11_hasThing 38 = .ok (.iaload, 1) := by decide +kernel
theorem dX11_hasThing_39 : decode cX11_hasThing 39 = .ok (.iload_n 2, 1) := by decide +kernel
theorem dX11_hasThing_40 : decode cX11_hasThing 40 = .ok (.if_icmp .ne 7, 3) := by decide +kernel
theorem dX11_hasThing_43 : decode cX11_hasThing 43 = .ok (.iconst 1, 1) := by decide +kernel
theorem dX11_hasThing_44 : decode cX11_hasThing 44 = .ok (.goto 4, 3) := by decide +kernel
theorem dX11_hasThing_47 : decode cX11_hasThing 47 = .ok (.iconst 0, 1) := by decide +kernel
theorem dX11_hasThing_48 : decode cX11_hasThing 48 = .ok (.istore_n 3, 1) := by decide +kernel
theorem dX11_hasThing_49 : decode cX11_hasThing 49 = .ok (.iinc 4 1, 3) := by decide +kernel
theorem dX11_hasThing_52 : decode cX11_hasThing 52 = .ok (.goto (-47), 3) := by decide +kernel
theorem dX11_hasThing_55 : decode cX11_hasThing 55 = .ok (.iload_n 3, 1) := by decide +kernel
theorem dX11_hasThing_56 : decode cX11_hasThing 56 = .ok (.ireturn, 1) := by decide +kernel
theorem dX11_bagged_0 : decode cX11_bagged 0 = .ok (.iconst 0, 1) := by decide +kernel
theorem dX11_bagged_1 : decode cX11_bagged 1 = .ok (.istore_n 1, 1) := by decide +kernel
theorem dX11_bagged_2 : decode cX11_bagged 2 = .ok (.iconst 0, 1) := by decide +kernel
theorem dX11_bagged_3 : decode cX11_bagged 3 = .ok (.istore_n 2, 1) := by decide +kernel
theorem dX11_bagged_4 : decode cX11_bagged 4 = .ok (.iload_n 2, 1) := by decide +kernel
theorem dX11_bagged_5 : decode cX11_bagged 5 = .ok (.bipush 8, 2) := by decide +kernel
theorem dX11_bagged_7 : decode cX11_bagged 7 = .ok (.if_icmp .ge 22, 3) := by decide +kernel
theorem dX11_bagged_10 : decode cX11_bagged 10 = .ok (.iload_n 1, 1) := by decide +kernel
theorem dX11_bagged_11 : decode cX11_bagged 11 = .ok (.aload_n 0, 1) := by decide +kernel
theorem dX11_bagged_12 : decode cX11_bagged 12 = .ok (.getfield 33, 3) := by decide +kernel
theorem dX11_bagged_15 : decode cX11_bagged 15 = .ok (.sipush 185, 3) := by decide +kernel
theorem dX11_bagged_18 : decode cX11_bagged 18 = .ok (.iload_n 2, 1) := by decide +kernel
theorem dX11_bagged_19 : decode cX11_bagged 19 = .ok (.iadd, 1) := by decide +kernel
theorem dX11_bagged_20 : decode cX11_bagged 20 = .ok (.iaload, 1) := by decide +kernel
theorem dX11_bagged_21 : decode cX11_bagged 21 = .ok (.iadd, 1) := by decide +kernel
theorem dX11_bagged_22 : decode cX11_bagged 22 = .ok (.istore_n 1, 1) := by decide +kernel
theorem dX11_bagged_23 : decode cX11_bagged 23 = .ok (.iinc 2 1, 3) := by decide +kernel
theorem dX11_bagged_26 : decode cX11_bagged 26 = .ok (.goto (-22), 3) := by decide +kernel
theorem dX11_bagged_29 : decode cX11_bagged 29 = .ok (.iload_n 1, 1) := by decide +kernel
theorem dX11_bagged_30 : decode cX11_bagged 30 = .ok (.ireturn, 1) := by decide +kernel
