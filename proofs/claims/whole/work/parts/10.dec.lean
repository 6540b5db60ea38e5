theorem dX6_knotBelow_0 : decode cX6_knotBelow 0 = .ok (.iconst 0, 1) := by decide +kernel
theorem dX6_knotBelow_1 : decode cX6_knotBelow 1 = .ok (.istore_n 3, 1) := by decide +kernel
theorem dX6_knotBelow_2 : decode cX6_knotBelow 2 = .ok (.iload_n 1, 1) := by decide +kernel
theorem dX6_knotBelow_3 : decode cX6_knotBelow 3 = .ok (.bipush 8, 2) := by decide +kernel
theorem dX6_knotBelow_5 : decode cX6_knotBelow 5 = .ok (.imul, 1) := by decide +kernel
theorem dX6_knotBelow_6 : decode cX6_knotBelow 6 = .ok (.iload_n 2, 1) := by decide +kernel
theorem dX6_knotBelow_7 : decode cX6_knotBelow 7 = .ok (.iadd, 1) := by decide +kernel
theorem dX6_knotBelow_8 : decode cX6_knotBelow 8 = .ok (.iconst 1, 1) := by decide +kernel
theorem dX6_knotBelow_9 : decode cX6_knotBelow 9 = .ok (.isub, 1) := by decide +kernel
theorem dX6_knotBelow_10 : decode cX6_knotBelow 10 = .ok (.istore 4, 2) := by decide +kernel
theorem dX6_knotBelow_12 : decode cX6_knotBelow 12 = .ok (.iload_n 3, 1) := by decide +kernel
theorem dX6_knotBelow_13 : decode cX6_knotBelow 13 = .ok (.iload_n 2, 1) := by decide +kernel
theorem dX6_knotBelow_14 : decode cX6_knotBelow 14 = .ok (.if_icmp .ge 38, 3) := by decide +kernel
theorem dX6_knotBelow_17 : decode cX6_knotBelow 17 = .ok (.iload_n 2, 1) := by decide +kernel
theorem dX6_knotBelow_18 : decode cX6_knotBelow 18 = .ok (.aload_n 0, 1) := by decide +kernel
theorem dX6_knotBelow_19 : decode cX6_knotBelow 19 = .ok (.getfield 15, 3) := by decide +kernel
theorem dX6_knotBelow_22 : decode cX6_knotBelow 22 = .ok (.iload_n 1, 1) := by decide +kernel
theorem dX6_knotBelow_23 : decode cX6_knotBelow 23 = .ok (.iaload, 1) := by decide +kernel
theorem dX6_knotBelow_24 : decode cX6_knotBelow 24 = .ok (.if_icmp .gt 28, 3) := by decide +kernel
theorem dX6_knotBelow_27 : decode cX6_knotBelow 27 = .ok (.aload_n 0, 1) := by decide +kernel
theorem dX6_knotBelow_28 : decode cX6_knotBelow 28 = .ok (.getfield 9, 3) := by decide +kernel
theorem dX6_knotBelow_31 : decode cX6_knotBelow 31 = .ok (.iload 4, 2) := by decide +kernel
theorem dX6_knotBelow_33 : decode cX6_knotBelow 33 = .ok (.iload_n 3, 1) := by decide +kernel
theorem dX6_knotBelow_34 : decode cX6_knotBelow 34 = .ok (.isub, 1) := by decide +kernel
theorem dX6_knotBelow_35 : decode cX6_knotBelow 35 = .ok (.iaload, 1) := by decide +kernel
theorem dX6_knotBelow_36 : decode cX6_knotBelow 36 = .ok (.aload_n 0, 1) := by decide +kernel
theorem dX6_knotBelow_37 : decode cX6_knotBelow 37 = .ok (.getfield 9, 3) := by decide +kernel
theorem dX6_knotBelow_40 : decode cX6_knotBelow 40 = .ok (.iload 4, 2) := by decide +kernel
theorem dX6_knotBelow_42 : decode cX6_knotBelow 42 = .ok (.iaload, 1) := by decide +kernel
theorem dX6_knotBelow_43 : decode cX6_knotBelow 43 = .ok (.if_icmp .ne 9, 3) := by decide +kernel
theorem dX6_knotBelow_46 : decode cX6_knotBelow 46 = .ok (.iinc 3 1, 3) := by decide +kernel
theorem dX6_knotBelow_49 : decode cX6_knotBelow 49 = .ok (.goto (-37), 3) := by decide +kernel
theorem dX6_knotBelow_52 : decode cX6_knotBelow 52 = .ok (.iload_n 3, 1) := by decide +kernel
theorem dX6_knotBelow_53 : decode cX6_knotBelow 53 = .ok (.ireturn, 1) := by decide +kernel
theorem dX6_layerAt_0 : decode cX6_layerAt 0 = .ok (.iload_n 2, 1) := by decide +kernel
theorem dX6_layerAt_1 : decode cX6_layerAt 1 = .ok (.ifCond .lt 13, 3) := by decide +kernel
theorem dX6_layerAt_4 : decode cX6_layerAt 4 = .ok (.iload_n 2, 1) := by decide +kernel
theorem dX6_layerAt_5 : decode cX6_layerAt 5 = .ok (.aload_n 0, 1) := by decide +kernel
theorem dX6_layerAt_6 : decode cX6_layerAt 6 = .ok (.getfield 15, 3) := by decide +kernel
theorem dX6_layerAt_9 : decode cX6_layerAt 9 = .ok (.iload_n 1, 1) := by decide +kernel
theorem dX6_layerAt_10 : decode cX6_layerAt 10 = .ok (.iaload, 1) := by decide +kernel
theorem dX6_layerAt_11 : decode cX6_layerAt 11 = .ok (.if_icmp .lt 7, 3) := by decide +kernel
theorem dX6_layerAt_14 : decode cX6_layerAt 14 = .ok (.iconst (-1), 1) := by decide +kernel
theorem dX6_layerAt_15 : decode cX6_layerAt 15 = .ok (.goto 14, 3) := by decide +kernel
theorem dX6_layerAt_18 : decode cX6_layerAt 18 = .ok (.aload_n 0, 1) := by decide +kernel
theorem dX6_layerAt_19 : decode cX6_layerAt 19 = .ok (.getfield 9, 3) := by decide +kernel
theorem dX6_layerAt_22 : decode cX6_layerAt 22 = .ok (.iload_n 1, 1) := by decide +kernel
theorem dX6_layerAt_23 : decode cX6_layerAt 23 = .ok (.bipush 8, 2) := by decide +kernel
theorem dX6_layerAt_25 : decode cX6_layerAt 25 = .ok (.imul, 1) := by decide +kernel
theorem dX6_layerAt_26 : decode cX6_layerAt 26 = .ok (.iload_n 2, 1) := by decide +kernel
theorem dX6_layerAt_27 : decode cX6_layerAt 27 = .ok (.iadd, 1) := by decide +kernel
theorem dX6_layerAt_28 : decode cX6_layerAt 28 = .ok (.iaload, 1) := by decide +kernel
theorem dX6_layerAt_29 : decode cX6_layerAt 29 = .ok (.ireturn, 1) := by decide +kernel
theorem dX6_holdAt_0 : decode cX6_holdAt 0 = .ok (.aload_n 0, 1) := by decide +kernel
theorem dX6_holdAt_1 : decode cX6_holdAt 1 = .ok (.iload_n 2, 1) := by decide +kernel
theorem dX6_holdAt_2 : decode cX6_holdAt 2 = .ok (.iload_n 3, 1) := by decide +kernel
theorem dX6_holdAt_3 : decode cX6_holdAt 3 = .ok (.invokevirtual 55, 3) := by decide +kernel
theorem dX6_holdAt_6 : decode cX6_holdAt 6 = .ok (.istore 4, 2) := by decide +kernel
theorem dX6_holdAt_8 : decode cX6_holdAt 8 = .ok (.iload 4, 2) := by decide +kernel
theorem dX6_holdAt_10 : decode cX6_holdAt 10 = .ok (.ifCond .lt 10, 3) := by decide +kernel
theorem dX6_holdAt_13 : decode cX6_holdAt 13 = .ok (.iload 4, 2) := by decide +kernel
theorem dX6_holdAt_15 : decode cX6_holdAt 15 = .ok (.bipush 8, 2) := by decide +kernel
theorem dX6_holdAt_17 : decode cX6_holdAt 17 = .ok (.if_icmp .lt 7, 3) := by decide +kernel
theorem dX6_holdAt_20 : decode cX6_holdAt 20 = .ok (.iconst 0, 1) := by decide +kernel
theorem dX6_holdAt_21 : decode cX6_holdAt 21 = .ok (.goto 10, 3) := by decide +kernel
theorem dX6_holdAt_24 : decode cX6_holdAt 24 = .ok (.aload_n 1, 1) := by decide +kernel
theorem dX6_holdAt_25 : decode cX6_holdAt 25 = .ok (.getfield 59, 3) := by decide +kernel
theorem dX6_holdAt_28 : decode cX6_holdAt 28 = .ok (.iload 4, 2) := by decide +kernel
theorem dX6_holdAt_30 : decode cX6_holdAt 30 = .ok (.iaload, 1) := by decide +kernel
theorem dX6_holdAt_31 : decode cX6_holdAt 31 = .ok (.ireturn, 1) := by decide +kernel
theorem dX6_outsideHolds_0 : decode cX6_outsideHolds 0 = .ok (.aload_n 0, 1) := by decide +kernel
theorem dX6_outsideHolds_1 : decode cX6_outsideHolds 1 = .ok (.iload_n 2, 1) := by decide +kernel
theorem dX6_outsideHolds_2 : decode cX6_outsideHolds 2 = .ok (.aload_n 0, 1) := by decide +kernel
theorem dX6_outsideHolds_3 : decode cX6_outsideHolds 3 = .ok (.getfield 15, 3) := by decide +kernel
theorem dX6_outsideHolds_6 : decode cX6_outsideHolds 6 = .ok (.iload_n 2, 1) := by decide +kernel
theorem dX6_outsideHolds_7 : decode cX6_outsideHolds 7 = .ok (.iaload, 1) := by decide +kernel
theorem dX6_outsideHolds_8 : decode cX6_outsideHolds 8 = .ok (.invokevirtual 64, 3) := by decide +kernel
theorem dX6_outsideHolds_11 : decode cX6_outsideHolds 11 = .ok (.aload_n 0, 1) := by decide +kernel
theorem dX6_outsideHolds_12 : decode cX6_outsideHolds 12 = .ok (.aload_n 1, 1) := by decide +kernel
theorem dX6_outsideHolds_13 : decode cX6_outsideHolds 13 = .ok (.iload_n 2, 1) := by decide +kernel
theorem dX6_outsideHolds_14 : decode cX6_outsideHolds 14 = .ok (.aload_n 0, 1) := by decide +kernel
theorem dX6_outsideHolds_15 : decode cX6_outsideHolds 15 = .ok (.getfield 15, 3) := by decide +kernel
theorem dX6_outsideHolds_18 : decode cX6_outsideHolds 18 = .ok (.iload_n 2, 1) := by decide +kernel
theorem dX6_outsideHolds_19 : decode cX6_outsideHolds 19 = .ok (.iaload, 1) := by decide +kernel
theorem dX6_outsideHolds_20 : decode cX6_outsideHolds 20 = .ok (.iconst 1, 1) := by decide +kernel
theorem dX6_outsideHolds_21 : decode cX6_outsideHolds 21 = .ok (.isub, 1) := by decide +kernel
theorem dX6_outsideHolds_22 : decode cX6_outsideHolds 22 = .ok (.invokevirtual 67, 3) := by decide +kernel
theorem dX6_outsideHolds_25 : decode cX6_outsideHolds 25 = .ok (.imul, 1) := by decide +kernel
theorem dX6_outsideHolds_26 : decode cX6_outsideHolds 26 = .ok (.ireturn, 1) := by decide +kernel
theorem dX6_layerFromOutside_0 : decode cX6_layerFromOutside 0 = .ok (.aload_n 0, 1) := by decide +kernel
theorem dX6_layerFromOutside_1 : decode cX6_layerFromOutside 1 = .ok (.iload_n 1, 1) := by decide +kernel
theorem dX6_layerFromOutside_2 : decode cX6_layerFromOutside 2 = .ok (.aload_n 0, 1) := by decide +kernel
theorem dX6_layerFromOutside_3 : decode cX6_layerFromOutside 3 = .ok (.getfield 15, 3) := by decide +kernel
theorem dX6_layerFromOutside_6 : decode cX6_layerFromOutside 6 = .ok (.iload_n 1, 1) := by decide +kernel
theorem dX6_layerFromOutside_7 : decode cX6_layerFromOutside 7 = .ok (.iaload, 1) := by decide +kernel
theorem dX6_layerFromOutside_8 : decode cX6_layerFromOutside 8 = .ok (.iconst 1, 1) := by decide +kernel
theorem dX6_layerFromOutside_9 : decode cX6_layerFromOutside 9 = .ok (.isub, 1) := by decide +kernel
theorem dX6_layerFromOutside_10 : decode cX6_layerFromOutside 10 = .ok (.iload_n 2, 1) := by decide +kernel
theorem dX6_layerFromOutside_11 : decode cX6_layerFromOutside 11 = .ok (.isub, 1) := by decide +kernel
theorem dX6_layerFromOutside_12 : decode cX6_layerFromOutside 12 = .ok (.invokevirtual 55, 3) := by decide +kernel
theorem dX6_layerFromOutside_15 : decode cX6_layerFromOutside 15 = .ok (.ireturn, 1) := by decide +kernel
theorem dX6_putOutsideKnotIntoBag_0 : decode cX6_putOutsideKnotIntoBag 0 = .ok (.aload_n 0, 1) := by decide +kernel
theorem dX6_putOutsideKnotIntoBag_1 : decode cX6_putOutsideKnotIntoBag 1 = .ok (.iload_n 1, 1) := by decide +kernel
theorem dX6_putOutsideKnotIntoBag_2 : decode cX6_putOutsideKnotIntoBag 2 = .ok (.aload_n 0, 1) := by decide +kernel
theorem dX6_putOutsideKnotIntoBag_3 : decode cX6_putOutsideKnotIntoBag 3 = .ok (.getfield 15, 3) := by decide +kernel
theorem dX6_putOutsideKnotIntoBag_6 : decode cX6_putOutsideKnotIntoBag 6 = .ok (.iload_n 1, 1) := by decide +kernel
theorem dX6_putOutsideKnotIntoBag_7 : decode cX6_putOutsideKnotIntoBag 7 = .ok (.iaload, 1) := by decide +kernel
theorem dX6_putOutsideKnotIntoBag_8 : decode cX6_putOutsideKnotIntoBag 8 = .ok (.invokevirtual 64, 3) := by decide +kernel
theorem dX6_putOutsideKnotIntoBag_11 : decode cX6_putOutsideKnotIntoBag 11 = .ok (.istore_n 2, 1) := by decide +kernel
theorem dX6_putOutsideKnotIntoBag_12 : decode cX6_putOutsideKnotIntoBag 12 = .ok (.aload_n 0, 1) := by decide +kernel
theorem dX6_putOutsideKnotIntoBag_13 : decode cX6_putOutsideKnotIntoBag 13 = .ok (.iload_n 1, 1) := by decide +kernel
theorem dX6_putOutsideKnotIntoBag_14 : decode cX6_putOutsideKnotIntoBag 14 = .ok (.iconst 0, 1) := by decide +kernel
theorem dX6_putOutsideKnotIntoBag_15 : decode cX6_putOutsideKnotIntoBag 15 = .ok (.invokevirtual 106, 3) := by decide +kernel
theorem dX6_putOutsideKnotIntoBag_18 : decode cX6_putOutsideKnotIntoBag 18 = .ok (.istore_n 3, 1) := by decide +kernel
theorem dX6_putOutsideKnotIntoBag_19 : decode cX6_putOutsideKnotIntoBag 19 = .ok (.iload_n 3, 1) := by decide +kernel
theorem dX6_putOutsideKnotIntoBag_20 : decode cX6_putOutsideKnotIntoBag 20 = .ok (.ifCond .lt 9, 3) := by decide +kernel
theorem dX6_putOutsideKnotIntoBag_23 : decode cX6_putOutsideKnotIntoBag 23 = .ok (.iload_n 3, 1) := by decide +kernel
theorem dX6_putOutsideKnotIntoBag_24 : decode cX6_putOutsideKnotIntoBag 24 = .ok (.bipush 8, 2) := by decide +kernel
theorem dX6_putOutsideKnotIntoBag_26 : decode cX6_putOutsideKnotIntoBag 26 = .ok (.if_icmp .lt 4, 3) := by decide +kernel
theorem dX6_putOutsideKnotIntoBag_29 : decode cX6_putOutsideKnotIntoBag 29 = .ok (.return_, 1) := by decide +kernel
theorem dX6_putOutsideKnotIntoBag_30 : decode cX6_putOutsideKnotIntoBag 30 = .ok (.iload_n 2, 1) := by decide +kernel
theorem dX6_putOutsideKnotIntoBag_31 : decode cX6_putOutsideKnotIntoBag 31 = .ok (.bipush 10, 2) := by decide +kernel
theorem dX6_putOutsideKnotIntoBag_33 : decode cX6_putOutsideKnotIntoBag 33 = .ok (.aload_n 0, 1) := by decide +kernel
theorem dX6_putOutsideKnotIntoBag_34 : decode cX6_putOutsideKnotIntoBag 34 = .ok (.getfield 33, 3) := by decide +kernel
theorem dX6_putOutsideKnotIntoBag_37 : decode cX6_putOutsideKnotIntoBag 37 = .ok (.isub, 1) := by decide +kernel
theorem dX6_putOutsideKnotIntoBag_38 : decode cX6_putOutsideKnotIntoBag 38 = .ok (.invokestatic 109, 3) := by decide +kernel
theorem dX6_putOutsideKnotIntoBag_41 : decode cX6_putOutsideKnotIntoBag 41 = .ok (.istore 4, 2) := by decide +kernel
theorem dX6_putOutsideKnotIntoBag_43 : decode cX6_putOutsideKnotIntoBag 43 = .ok (.aload_n 0, 1) := by decide +kernel
theorem dX6_putOutsideKnotIntoBag_44 : decode cX6_putOutsideKnotIntoBag 44 = .ok (.getfield 21, 3) := by decide +kernel
theorem dX6_putOutsideKnotIntoBag_47 : decode cX6_putOutsideKnotIntoBag 47 = .ok (.iload_n 3, 1) := by decide +kernel
theorem dX6_putOutsideKnotIntoBag_48 : decode cX6_putOutsideKnotIntoBag 48 = .ok (.dup2, 1) := by decide +kernel
theorem dX6_putOutsideKnotIntoBag_49 : decode cX6_putOutsideKnotIntoBag 49 = .ok (.iaload, 1) := by decide +kernel
theorem dX6_putOutsideKnotIntoBag_50 : decode cX6_putOutsideKnotIntoBag 50 = .ok (.iload 4, 2) := by decide +kernel
theorem dX6_putOutsideKnotIntoBag_52 : decode cX6_putOutsideKnotIntoBag 52 = .ok (.iadd, 1) := by decide +kernel
theorem dX6_putOutsideKnotIntoBag_53 : decode cX6_putOutsideKnotIntoBag 53 = .ok (.iastore, 1) := by decide +kernel
theorem dX6_putOutsideKnotIntoBag_54 : decode cX6_putOutsideKnotIntoBag 54 = .ok (.aload_n 0, 1) := by decide +kernel
theorem dX6_putOutsideKnotIntoBag_55 : decode cX6_putOutsideKnotIntoBag 55 = .ok (.dup, 1) := by decide +kernel
theorem dX6_putOutsideKnotIntoBag_56 : decode cX6_putOutsideKnotIntoBag 56 = .ok (.getfield 33, 3) := by decide +kernel
theorem dX6_putOutsideKnotIntoBag_59 : decode cX6_putOutsideKnotIntoBag 59 = .ok (.iload 4, 2) := by decide +kernel
theorem dX6_putOutsideKnotIntoBag_61 : decode cX6_putOutsideKnotIntoBag 61 = .ok (.iadd, 1) := by decide +kernel
theorem dX6_putOutsideKnotIntoBag_62 : decode cX6_putOutsideKnotIntoBag 62 = .ok (.putfield 33, 3) := by decide +kernel
theorem dX6_putOutsideKnotIntoBag_65 : decode cX6_putOutsideKnotIntoBag 65 = .ok (.aload_n 0, 1) := by decide +kernel
theorem dX6_putOutsideKnotIntoBag_66 : decode cX6_putOutsideKnotIntoBag 66 = .ok (.dup, 1) := by decide +kernel
theorem dX6_putOutsideKnotIntoBag_67 : decode cX6_putOutsideKnotIntoBag 67 = .ok (.getfield 46, 3) := by decide +kernel
theorem dX6_putOutsideKnotIntoBag_70 : decode cX6_putOutsideKnotIntoBag 70 = .ok (.iload_n 2, 1) := by decide +kernel
theorem dX6_putOutsideKnotIntoBag_71 : decode cX6_putOutsideKnotIntoBag 71 = .ok (.iload 4, 2) := by decide +kernel
theorem dX6_putOutsideKnotIntoBag_73 : decode cX6_putOutsideKnotIntoBag 73 = .ok (.isub, 1) := by decide +kernel
theorem dX6_putOutsideKnotIntoBag_74 : decode cX6_putOutsideKnotIntoBag 74 = .ok (.iadd, 1) := by decide +kernel
theorem dX6_putOutsideKnotIntoBag_75 : decode cX6_putOutsideKnotIntoBag 75 = .ok (.putfield 46, 3) := by decide +kernel
theorem dX6_putOutsideKnotIntoBag_78 : decode cX6_putOutsideKnotIntoBag 78 = .ok (.aload_n 0, 1) := by decide +kernel
theorem dX6_putOutsideKnotIntoBag_79 : decode cX6_putOutsideKnotIntoBag 79 = .ok (.getfield 15, 3) := by decide +kernel
theorem dX6_putOutsideKnotIntoBag_82 : decode cX6_putOutsideKnotIntoBag 82 = .ok (.iload_n 1, 1) := by decide +kernel
theorem dX6_putOutsideKnotIntoBag_83 : decode cX6_putOutsideKnotIntoBag 83 = .ok (.dup2, 1) := by decide +kernel
theorem dX6_putOutsideKnotIntoBag_84 : decode cX6_putOutsideKnotIntoBag 84 = .ok (.iaload, 1) := by decide +kernel
theorem dX6_putOutsideKnotIntoBag_85 : decode cX6_putOutsideKnotIntoBag 85 = .ok (.iload_n 2, 1) := by decide +kernel
theorem dX6_putOutsideKnotIntoBag_86 : decode cX6_putOutsideKnotIntoBag 86 = .ok (.isub, 1) := by decide +kernel
theorem dX6_putOutsideKnotIntoBag_87 : decode cX6_putOutsideKnotIntoBag 87 = .ok (.iastore, 1) := by decide +kernel
theorem dX6_putOutsideKnotIntoBag_88 : decode cX6_putOutsideKnotIntoBag 88 = .ok (.return_, 1) := by decide +kernel
theorem dX6_comb_0 : decode cX6_comb 0 = .ok (.iload_n 3, 1) := by decide +kernel
theorem dX6_comb_1 : decode cX6_comb 1 = .ok (.istore 4, 2) := by decide +kernel
theorem dX6_comb_3 : decode cX6_comb 3 = .ok (.iconst 0, 1) := by decide +kernel
theorem dX6_comb_4 : decode cX6_comb 4 = .ok (.istore 5, 2) := by decide +kernel
theorem dX6_comb_6 : decode cX6_comb 6 = .ok (.iload 5, 2) := by decide +kernel
theorem dX6_comb_8 : decode cX6_comb 8 = .ok (.bipush 8, 2) := by decide +kernel
theorem dX6_comb_10 : decode cX6_comb 10 = .ok (.if_icmp .ge 45, 3) := by decide +kernel
theorem dX6_comb_13 : decode cX6_comb 13 = .ok (.aload_n 0, 1) := by decide +kernel
theorem dX6_comb_14 : decode cX6_comb 14 = .ok (.getfield 15, 3) := by decide +kernel
theorem dX6_comb_17 : decode cX6_comb 17 = .ok (.iload_n 2, 1) := by decide +kernel
theorem dX6_comb_18 : decode cX6_comb 18 = .ok (.iaload, 1) := by decide +kernel
theorem dX6_comb_19 : decode cX6_comb 19 = .ok (.ifCond .le 36, 3) := by decide +kernel
theorem dX6_comb_22 : decode cX6_comb 22 = .ok (.aload_n 0, 1) := by decide +kernel
theorem dX6_comb_23 : decode cX6_comb 23 = .ok (.aload_n 1, 1) := by decide +kernel
theorem dX6_comb_24 : decode cX6_comb 24 = .ok (.iload_n 2, 1) := by decide +kernel
theorem dX6_comb_25 : decode cX6_comb 25 = .ok (.invokevirtual 92, 3) := by decide +kernel
theorem dX6_comb_28 : decode cX6_comb 28 = .ok (.iload 4, 2) := by decide +kernel
theorem dX6_comb_30 : decode cX6_comb 30 = .ok (.if_icmp .gt 25, 3) := by decide +kernel
theorem dX6_comb_33 : decode cX6_comb 33 = .ok (.iload 4, 2) := by decide +kernel
theorem dX6_comb_35 : decode cX6_comb 35 = .ok (.aload_n 0, 1) := by decide +kernel
theorem dX6_comb_36 : decode cX6_comb 36 = .ok (.aload_n 1, 1) := by decide +kernel
theorem dX6_comb_37 : decode cX6_comb 37 = .ok (.iload_n 2, 1) := by decide +kernel
theorem dX6_comb_38 : decode cX6_comb 38 = .ok (.invokevirtual 92, 3) := by decide +kernel
theorem dX6_comb_41 : decode cX6_comb 41 = .ok (.isub, 1) := by decide +kernel
theorem dX6_comb_42 : decode cX6_comb 42 = .ok (.istore 4, 2) := by decide +kernel
theorem dX6_comb_44 : decode cX6_comb 44 = .ok (.aload_n 0, 1) := by decide +kernel
theorem dX6_comb_45 : decode cX6_comb 45 = .ok (.iload_n 2, 1) := by decide +kernel
theorem dX6_comb_46 : decode cX6_comb 46 = .ok (.invokevirtual 102, 3) := by decide +kernel
theorem dX6_comb_49 : decode cX6_comb 49 = .ok (.iinc 5 1, 3) := by decide +kernel
theorem dX6_comb_52 : decode cX6_comb 52 = .ok (.goto (-46), 3) := by decide +kernel
theorem dX6_comb_55 : decode cX6_comb 55 = .ok (.aload_n 0, 1) := by decide +kernel
theorem dX6_comb_56 : decode cX6_comb 56 = .ok (.getfield 18, 3) := by decide +kernel
theorem dX6_comb_59 : decode cX6_comb 59 = .ok (.iload_n 2, 1) := by decide +kernel
theorem dX6_comb_60 : decode cX6_comb 60 = .ok (.dup2, 1) := by decide +kernel
theorem dX6_comb_61 : decode cX6_comb 61 = .ok (.iaload, 1) := by decide +kernel
theorem dX6_comb_62 : decode cX6_comb 62 = .ok (.iload_n 3, 1) := by decide +kernel
theorem dX6_comb_63 : decode cX6_comb 63 = .ok (.iadd, 1) := by decide +kernel
theorem dX6_comb_64 : decode cX6_comb 64 = .ok (.iastore, 1) := by decide +kernel
theorem dX6_comb_65 : decode cX6_comb 65 = .ok (.aload_n 0, 1) := by decide +kernel
theorem dX6_comb_66 : decode cX6_comb 66 = .ok (.dup, 1) := by decide +kernel
theorem dX6_comb_67 : decode cX6_comb 67 = .ok (.getfield 40, 3) := by decide +kernel
theorem dX6_comb_70 : decode cX6_comb 70 = .ok (.iconst 1, 1) := by decide +kernel
theorem dX6_comb_71 : decode cX6_comb 71 = .ok (.iadd, 1) := by decide +kernel
theorem dX6_comb_72 : decode cX6_comb 72 = .ok (.putfield 40, 3) := by decide +kernel
theorem dX6_comb_75 : decode cX6_comb 75 = .ok (.return_, 1) := by decide +kernel
