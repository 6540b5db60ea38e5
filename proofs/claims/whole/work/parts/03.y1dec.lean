theorem dX6_clear_0 : decode cX6_clear 0 = .ok (.iconst 0, 1) := by decide +kernel
theorem dX6_clear_1 : decode cX6_clear 1 = .ok (.istore_n 1, 1) := by decide +kernel
theorem dX6_clear_2 : decode cX6_clear 2 = .ok (.iload_n 1, 1) := by decide +kernel
theorem dX6_clear_3 : decode cX6_clear 3 = .ok (.bipush 6, 2) := by decide +kernel
theorem dX6_clear_5 : decode cX6_clear 5 = .ok (.if_icmp .ge 23, 3) := by decide +kernel
theorem dX6_clear_8 : decode cX6_clear 8 = .ok (.aload_n 0, 1) := by decide +kernel
theorem dX6_clear_9 : decode cX6_clear 9 = .ok (.getfield 15, 3) := by decide +kernel
theorem dX6_clear_12 : decode cX6_clear 12 = .ok (.iload_n 1, 1) := by decide +kernel
theorem dX6_clear_13 : decode cX6_clear 13 = .ok (.iconst 0, 1) := by decide +kernel
theorem dX6_clear_14 : decode cX6_clear 14 = .ok (.iastore, 1) := by decide +kernel
theorem dX6_clear_15 : decode cX6_clear 15 = .ok (.aload_n 0, 1) := by decide +kernel
theorem dX6_clear_16 : decode cX6_clear 16 = .ok (.getfield 18, 3) := by decide +kernel
theorem dX6_clear_19 : decode cX6_clear 19 = .ok (.iload_n 1, 1) := by decide +kernel
theorem dX6_clear_20 : decode cX6_clear 20 = .ok (.iconst 0, 1) := by decide +kernel
theorem dX6_clear_21 : decode cX6_clear 21 = .ok (.iastore, 1) := by decide +kernel
theorem dX6_clear_22 : decode cX6_clear 22 = .ok (.iinc 1 1, 3) := by decide +kernel
theorem dX6_clear_25 : decode cX6_clear 25 = .ok (.goto (-23), 3) := by decide +kernel
theorem dX6_clear_28 : decode cX6_clear 28 = .ok (.iconst 0, 1) := by decide +kernel
theorem dX6_clear_29 : decode cX6_clear 29 = .ok (.istore_n 1, 1) := by decide +kernel
theorem dX6_clear_30 : decode cX6_clear 30 = .ok (.iload_n 1, 1) := by decide +kernel
theorem dX6_clear_31 : decode cX6_clear 31 = .ok (.bipush 8, 2) := by decide +kernel
theorem dX6_clear_33 : decode cX6_clear 33 = .ok (.if_icmp .ge 23, 3) := by decide +kernel
theorem dX6_clear_36 : decode cX6_clear 36 = .ok (.aload_n 0, 1) := by decide +kernel
theorem dX6_clear_37 : decode cX6_clear 37 = .ok (.getfield 21, 3) := by decide +kernel
theorem dX6_clear_40 : decode cX6_clear 40 = .ok (.iload_n 1, 1) := by decide +kernel
theorem dX6_clear_41 : decode cX6_clear 41 = .ok (.iconst 0, 1) := by decide +kernel
theorem dX6_clear_42 : decode cX6_clear 42 = .ok (.iastore, 1) := by decide +kernel
theorem dX6_clear_43 : decode cX6_clear 43 = .ok (.aload_n 0, 1) := by decide +kernel
theorem dX6_clear_44 : decode cX6_clear 44 = .ok (.getfield 24, 3) := by decide +kernel
theorem dX6_clear_47 : decode cX6_clear 47 = .ok (.iload_n 1, 1) := by decide +kernel
theorem dX6_clear_48 : decode cX6_clear 48 = .ok (.iconst 0, 1) := by decide +kernel
theorem dX6_clear_49 : decode cX6_clear 49 = .ok (.iastore, 1) := by decide +kernel
theorem dX6_clear_50 : decode cX6_clear 50 = .ok (.iinc 1 1, 3) := by decide +kernel
theorem dX6_clear_53 : decode cX6_clear 53 = .ok (.goto (-23), 3) := by decide +kernel
theorem dX6_clear_56 : decode cX6_clear 56 = .ok (.iconst 0, 1) := by decide +kernel
theorem dX6_clear_57 : decode cX6_clear 57 = .ok (.istore_n 1, 1) := by decide +kernel
theorem dX6_clear_58 : decode cX6_clear 58 = .ok (.iload_n 1, 1) := by decide +kernel
theorem dX6_clear_59 : decode cX6_clear 59 = .ok (.iconst 4, 1) := by decide +kernel
theorem dX6_clear_60 : decode cX6_clear 60 = .ok (.if_icmp .ge 23, 3) := by decide +kernel
theorem dX6_clear_63 : decode cX6_clear 63 = .ok (.aload_n 0, 1) := by decide +kernel
theorem dX6_clear_64 : decode cX6_clear 64 = .ok (.getfield 27, 3) := by decide +kernel
theorem dX6_clear_67 : decode cX6_clear 67 = .ok (.iload_n 1, 1) := by decide +kernel
theorem dX6_clear_68 : decode cX6_clear 68 = .ok (.iconst 0, 1) := by decide +kernel
theorem dX6_clear_69 : decode cX6_clear 69 = .ok (.iastore, 1) := by decide +kernel
theorem dX6_clear_70 : decode cX6_clear 70 = .ok (.aload_n 0, 1) := by decide +kernel
theorem dX6_clear_71 : decode cX6_clear 71 = .ok (.getfield 30, 3) := by decide +kernel
theorem dX6_clear_74 : decode cX6_clear 74 = .ok (.iload_n 1, 1) := by decide +kernel
theorem dX6_clear_75 : decode cX6_clear 75 = .ok (.iconst 0, 1) := by decide +kernel
theorem dX6_clear_76 : decode cX6_clear 76 = .ok (.iastore, 1) := by decide +kernel
theorem dX6_clear_77 : decode cX6_clear 77 = .ok (.iinc 1 1, 3) := by decide +kernel
theorem dX6_clear_80 : decode cX6_clear 80 = .ok (.goto (-22), 3) := by decide +kernel
theorem dX6_clear_83 : decode cX6_clear 83 = .ok (.aload_n 0, 1) := by decide +kernel
theorem dX6_clear_84 : decode cX6_clear 84 = .ok (.iconst 0, 1) := by decide +kernel
theorem dX6_clear_85 : decode cX6_clear 85 = .ok (.putfield 33, 3) := by decide +kernel
theorem dX6_clear_88 : decode cX6_clear 88 = .ok (.aload_n 0, 1) := by decide +kernel
theorem dX6_clear_89 : decode cX6_clear 89 = .ok (.iconst 0, 1) := by decide +kernel
theorem dX6_clear_90 : decode cX6_clear 90 = .ok (.putfield 37, 3) := by decide +kernel
theorem dX6_clear_93 : decode cX6_clear 93 = .ok (.aload_n 0, 1) := by decide +kernel
theorem dX6_clear_94 : decode cX6_clear 94 = .ok (.iconst 0, 1) := by decide +kernel
theorem dX6_clear_95 : decode cX6_clear 95 = .ok (.putfield 40, 3) := by decide +kernel
theorem dX6_clear_98 : decode cX6_clear 98 = .ok (.aload_n 0, 1) := by decide +kernel
theorem dX6_clear_99 : decode cX6_clear 99 = .ok (.iconst 0, 1) := by decide +kernel
theorem dX6_clear_100 : decode cX6_clear 100 = .ok (.putfield 43, 3) := by decide +kernel
theorem dX6_clear_103 : decode cX6_clear 103 = .ok (.aload_n 0, 1) := by decide +kernel
theorem dX6_clear_104 : decode cX6_clear 104 = .ok (.iconst 0, 1) := by decide +kernel
theorem dX6_clear_105 : decode cX6_clear 105 = .ok (.putfield 46, 3) := by decide +kernel
theorem dX6_clear_108 : decode cX6_clear 108 = .ok (.return_, 1) := by decide +kernel
theorem dX4_readComb_0 : decode cX4_readComb 0 = .ok (.aload_n 0, 1) := by decide +kernel
theorem dX4_readComb_1 : decode cX4_readComb 1 = .ok (.getfield 65, 3) := by decide +kernel
theorem dX4_readComb_4 : decode cX4_readComb 4 = .ok (.ifCond .eq 9, 3) := by decide +kernel
theorem dX4_readComb_7 : decode cX4_readComb 7 = .ok (.aload_n 1, 1) := by decide +kernel
theorem dX4_readComb_8 : decode cX4_readComb 8 = .ok (.iconst 3, 1) := by decide +kernel
theorem dX4_readComb_9 : decode cX4_readComb 9 = .ok (.invokevirtual 134, 3) := by decide +kernel
theorem dX4_readComb_12 : decode cX4_readComb 12 = .ok (.ireturn, 1) := by decide +kernel
theorem dX4_readComb_13 : decode cX4_readComb 13 = .ok (.aload_n 1, 1) := by decide +kernel
theorem dX4_readComb_14 : decode cX4_readComb 14 = .ok (.invokevirtual 137, 3) := by decide +kernel
theorem dX4_readComb_17 : decode cX4_readComb 17 = .ok (.aload_n 1, 1) := by decide +kernel
theorem dX4_readComb_18 : decode cX4_readComb 18 = .ok (.iconst 1, 1) := by decide +kernel
theorem dX4_readComb_19 : decode cX4_readComb 19 = .ok (.bipush 20, 2) := by decide +kernel
theorem dX4_readComb_21 : decode cX4_readComb 21 = .ok (.invokevirtual 147, 3) := by decide +kernel
theorem dX4_readComb_24 : decode cX4_readComb 24 = .ok (.istore_n 2, 1) := by decide +kernel
theorem dX4_readComb_25 : decode cX4_readComb 25 = .ok (.iload_n 2, 1) := by decide +kernel
theorem dX4_readComb_26 : decode cX4_readComb 26 = .ok (.iconst (-1), 1) := by decide +kernel
theorem dX4_readComb_27 : decode cX4_readComb 27 = .ok (.if_icmp .ne 5, 3) := by decide +kernel
theorem dX4_readComb_30 : decode cX4_readComb 30 = .ok (.iconst 0, 1) := by decide +kernel
theorem dX4_readComb_31 : decode cX4_readComb 31 = .ok (.ireturn, 1) := by decide +kernel
theorem dX4_readComb_32 : decode cX4_readComb 32 = .ok (.aload_n 0, 1) := by decide +kernel
theorem dX4_readComb_33 : decode cX4_readComb 33 = .ok (.iload_n 2, 1) := by decide +kernel
theorem dX4_readComb_34 : decode cX4_readComb 34 = .ok (.putfield 43, 3) := by decide +kernel
theorem dX4_readComb_37 : decode cX4_readComb 37 = .ok (.aload_n 0, 1) := by decide +kernel
theorem dX4_readComb_38 : decode cX4_readComb 38 = .ok (.iconst 1, 1) := by decide +kernel
theorem dX4_readComb_39 : decode cX4_readComb 39 = .ok (.putfield 65, 3) := by decide +kernel
theorem dX4_readComb_42 : decode cX4_readComb 42 = .ok (.iconst 1, 1) := by decide +kernel
theorem dX4_readComb_43 : decode cX4_readComb 43 = .ok (.ireturn, 1) := by decide +kernel
theorem dX4_isNewName_0 : decode cX4_isNewName 0 = .ok (.aload_n 1, 1) := by decide +kernel
theorem dX4_isNewName_1 : decode cX4_isNewName 1 = .ok (.invokevirtual 165, 3) := by decide +kernel
theorem dX4_isNewName_4 : decode cX4_isNewName 4 = .ok (.ifCond .ne 9, 3) := by decide +kernel
theorem dX4_isNewName_7 : decode cX4_isNewName 7 = .ok (.aload_n 1, 1) := by decide +kernel
theorem dX4_isNewName_8 : decode cX4_isNewName 8 = .ok (.iconst 1, 1) := by decide +kernel
theorem dX4_isNewName_9 : decode cX4_isNewName 9 = .ok (.invokevirtual 134, 3) := by decide +kernel
theorem dX4_isNewName_12 : decode cX4_isNewName 12 = .ok (.ireturn, 1) := by decide +kernel
theorem dX4_isNewName_13 : decode cX4_isNewName 13 = .ok (.aload_n 1, 1) := by decide +kernel
theorem dX4_isNewName_14 : decode cX4_isNewName 14 = .ok (.aload_n 0, 1) := by decide +kernel
theorem dX4_isNewName_15 : decode cX4_isNewName 15 = .ok (.getfield 9, 3) := by decide +kernel
theorem dX4_isNewName_18 : decode cX4_isNewName 18 = .ok (.aload_n 0, 1) := by decide +kernel
theorem dX4_isNewName_19 : decode cX4_isNewName 19 = .ok (.getfield 47, 3) := by decide +kernel
theorem dX4_isNewName_22 : decode cX4_isNewName 22 = .ok (.invokevirtual 169, 3) := by decide +kernel
theorem dX4_isNewName_25 : decode cX4_isNewName 25 = .ok (.iconst (-1), 1) := by decide +kernel
theorem dX4_isNewName_26 : decode cX4_isNewName 26 = .ok (.if_icmp .ne 35, 3) := by decide +kernel
theorem dX4_isNewName_29 : decode cX4_isNewName 29 = .ok (.aload_n 1, 1) := by decide +kernel
theorem dX4_isNewName_30 : decode cX4_isNewName 30 = .ok (.aload_n 0, 1) := by decide +kernel
theorem dX4_isNewName_31 : decode cX4_isNewName 31 = .ok (.getfield 22, 3) := by decide +kernel
theorem dX4_isNewName_34 : decode cX4_isNewName 34 = .ok (.aload_n 0, 1) := by decide +kernel
theorem dX4_isNewName_35 : decode cX4_isNewName 35 = .ok (.getfield 56, 3) := by decide +kernel
theorem dX4_isNewName_38 : decode cX4_isNewName 38 = .ok (.invokevirtual 169, 3) := by decide +kernel
theorem dX4_isNewName_41 : decode cX4_isNewName 41 = .ok (.iconst (-1), 1) := by decide +kernel
theorem dX4_isNewName_42 : decode cX4_isNewName 42 = .ok (.if_icmp .ne 19, 3) := by decide +kernel
theorem dX4_isNewName_45 : decode cX4_isNewName 45 = .ok (.aload_n 1, 1) := by decide +kernel
theorem dX4_isNewName_46 : decode cX4_isNewName 46 = .ok (.aload_n 0, 1) := by decide +kernel
theorem dX4_isNewName_47 : decode cX4_isNewName 47 = .ok (.getfield 37, 3) := by decide +kernel
theorem dX4_isNewName_50 : decode cX4_isNewName 50 = .ok (.aload_n 0, 1) := by decide +kernel
theorem dX4_isNewName_51 : decode cX4_isNewName 51 = .ok (.getfield 62, 3) := by decide +kernel
theorem dX4_isNewName_54 : decode cX4_isNewName 54 = .ok (.invokevirtual 169, 3) := by decide +kernel
theorem dX4_isNewName_57 : decode cX4_isNewName 57 = .ok (.iconst (-1), 1) := by decide +kernel
theorem dX4_isNewName_58 : decode cX4_isNewName 58 = .ok (.if_icmp .eq 9, 3) := by decide +kernel
theorem dX4_isNewName_61 : decode cX4_isNewName 61 = .ok (.aload_n 1, 1) := by decide +kernel
theorem dX4_isNewName_62 : decode cX4_isNewName 62 = .ok (.iconst 3, 1) := by decide +kernel
theorem dX4_isNewName_63 : decode cX4_isNewName 63 = .ok (.invokevirtual 134, 3) := by decide +kernel
theorem dX4_isNewName_66 : decode cX4_isNewName 66 = .ok (.ireturn, 1) := by decide +kernel
theorem dX4_isNewName_67 : decode cX4_isNewName 67 = .ok (.iconst 1, 1) := by decide +kernel
theorem dX4_isNewName_68 : decode cX4_isNewName 68 = .ok (.ireturn, 1) := by decide +kernel
theorem dX4_readBed_0 : decode cX4_readBed 0 = .ok (.aload_n 0, 1) := by decide +kernel
theorem dX4_readBed_1 : decode cX4_readBed 1 = .ok (.getfield 62, 3) := by decide +kernel
theorem dX4_readBed_4 : decode cX4_readBed 4 = .ok (.iconst 4, 1) := by decide +kernel
theorem dX4_readBed_5 : decode cX4_readBed 5 = .ok (.if_icmp .lt 9, 3) := by decide +kernel
theorem dX4_readBed_8 : decode cX4_readBed 8 = .ok (.aload_n 1, 1) := by decide +kernel
theorem dX4_readBed_9 : decode cX4_readBed 9 = .ok (.iconst 4, 1) := by decide +kernel
theorem dX4_readBed_10 : decode cX4_readBed 10 = .ok (.invokevirtual 134, 3) := by decide +kernel
theorem dX4_readBed_13 : decode cX4_readBed 13 = .ok (.ireturn, 1) := by decide +kernel
theorem dX4_readBed_14 : decode cX4_readBed 14 = .ok (.aload_n 1, 1) := by decide +kernel
theorem dX4_readBed_15 : decode cX4_readBed 15 = .ok (.invokevirtual 137, 3) := by decide +kernel
theorem dX4_readBed_18 : decode cX4_readBed 18 = .ok (.aload_n 0, 1) := by decide +kernel
theorem dX4_readBed_19 : decode cX4_readBed 19 = .ok (.aload_n 1, 1) := by decide +kernel
theorem dX4_readBed_20 : decode cX4_readBed 20 = .ok (.invokevirtual 140, 3) := by decide +kernel
theorem dX4_readBed_23 : decode cX4_readBed 23 = .ok (.ifCond .ne 5, 3) := by decide +kernel
theorem dX4_readBed_26 : decode cX4_readBed 26 = .ok (.iconst 0, 1) := by decide +kernel
theorem dX4_readBed_27 : decode cX4_readBed 27 = .ok (.ireturn, 1) := by decide +kernel
theorem dX4_readBed_28 : decode cX4_readBed 28 = .ok (.aload_n 0, 1) := by decide +kernel
theorem dX4_readBed_29 : decode cX4_readBed 29 = .ok (.getfield 37, 3) := by decide +kernel
theorem dX4_readBed_32 : decode cX4_readBed 32 = .ok (.aload_n 0, 1) := by decide +kernel
theorem dX4_readBed_33 : decode cX4_readBed 33 = .ok (.getfield 62, 3) := by decide +kernel
theorem dX4_readBed_36 : decode cX4_readBed 36 = .ok (.aload_n 1, 1) := by decide +kernel
theorem dX4_readBed_37 : decode cX4_readBed 37 = .ok (.getfield 143, 3) := by decide +kernel
theorem dX4_readBed_40 : decode cX4_readBed 40 = .ok (.lastore, 1) := by decide +kernel
theorem dX4_readBed_41 : decode cX4_readBed 41 = .ok (.aload_n 1, 1) := by decide +kernel
theorem dX4_readBed_42 : decode cX4_readBed 42 = .ok (.invokevirtual 137, 3) := by decide +kernel
theorem dX4_readBed_45 : decode cX4_readBed 45 = .ok (.aload_n 1, 1) := by decide +kernel
theorem dX4_readBed_46 : decode cX4_readBed 46 = .ok (.iconst 1, 1) := by decide +kernel
theorem dX4_readBed_47 : decode cX4_readBed 47 = .ok (.bipush 99, 2) := by decide +kernel
theorem dX4_readBed_49 : decode cX4_readBed 49 = .ok (.invokevirtual 147, 3) := by decide +kernel
theorem dX4_readBed_52 : decode cX4_readBed 52 = .ok (.istore_n 2, 1) := by decide +kernel
theorem dX4_readBed_53 : decode cX4_readBed 53 = .ok (.iload_n 2, 1) := by decide +kernel
theorem dX4_readBed_54 : decode cX4_readBed 54 = .ok (.iconst (-1), 1) := by decide +kernel
theorem dX4_readBed_55 : decode cX4_readBed 55 = .ok (.if_icmp .ne 5, 3) := by decide +kernel
theorem dX4_readBed_58 : decode cX4_readBed 58 = .ok (.iconst 0, 1) := by decide +kernel
theorem dX4_readBed_59 : decode cX4_readBed 59 = .ok (.ireturn, 1) := by decide +kernel
theorem dX4_readBed_60 : decode cX4_readBed 60 = .ok (.aload_n 0, 1) := by decide +kernel
theorem dX4_readBed_61 : decode cX4_readBed 61 = .ok (.getfield 40, 3) := by decide +kernel
theorem dX4_readBed_64 : decode cX4_readBed 64 = .ok (.aload_n 0, 1) := by decide +kernel
theorem dX4_readBed_65 : decode cX4_readBed 65 = .ok (.getfield 62, 3) := by decide +kernel
theorem dX4_readBed_68 : decode cX4_readBed 68 = .ok (.iload_n 2, 1) := by decide +kernel
theorem dX4_readBed_69 : decode cX4_readBed 69 = .ok (.iastore, 1) := by decide +kernel
theorem dX4_readBed_70 : decode cX4_readBed 70 = .ok (.aload_n 0, 1) := by decide +kernel
theorem dX4_readBed_71 : decode cX4_readBed 71 = .ok (.dup, 1) := by decide +kernel
theorem dX4_readBed_72 : decode cX4_readBed 72 = .ok (.getfield 62, 3) := by decide +kernel
theorem dX4_readBed_75 : decode cX4_readBed 75 = .ok (.iconst 1, 1) := by decide +kernel
theorem dX4_readBed_76 : decode cX4_readBed 76 = .ok (.iadd, 1) := by decide +kernel
theorem dX4_readBed_77 : decode cX4_readBed 77 = .ok (.putfield 62, 3) := by decide +kernel
theorem dX4_readBed_80 : decode cX4_readBed 80 = .ok (.iconst 1, 1) := by decide +kernel
theorem dX4_readBed_81 : decode cX4_readBed 81 = .ok (.ireturn, 1) := by decide +kernel
theorem dX4_readDaily_0 : decode cX4_readDaily 0 = .ok (.aload_n 0, 1) := by decide +kernel
theorem dX4_readDaily_1 : decode cX4_readDaily 1 = .ok (.getfield 59, 3) := by decide +kernel
theorem dX4_readDaily_4 : decode cX4_readDaily 4 = .ok (.bipush 12, 2) := by decide +kernel
theorem dX4_readDaily_6 : decode cX4_readDaily 6 = .ok (.if_icmp .lt 9, 3) := by decide +kernel
theorem dX4_readDaily_9 : decode cX4_readDaily 9 = .ok (.aload_n 1, 1) := by decide +kernel
theorem dX4_readDaily_10 : decode cX4_readDaily 10 = .ok (.iconst 4, 1) := by decide +kernel
theorem dX4_readDaily_11 : decode cX4_readDaily 11 = .ok (.invokevirtual 134, 3) := by decide +kernel
theorem dX4_readDaily_14 : decode cX4_readDaily 14 = .ok (.ireturn, 1) := by decide +kernel
theorem dX4_readDaily_15 : decode cX4_readDaily 15 = .ok (.aload_n 1, 1) := by decide +kernel
theorem dX4_readDaily_16 : decode cX4_readDaily 16 = .ok (.invokevirtual 137, 3) := by decide +kernel
theorem dX4_readDaily_19 : decode cX4_readDaily 19 = .ok (.aload_n 1, 1) := by decide +kernel
theorem dX4_readDaily_20 : decode cX4_readDaily 20 = .ok (.aload_n 0, 1) := by decide +kernel
theorem dX4_readDaily_21 : decode cX4_readDaily 21 = .ok (.getfield 22, 3) := by decide +kernel
theorem dX4_readDaily_24 : decode cX4_readDaily 24 = .ok (.aload_n 0, 1) := by decide +kernel
theorem dX4_readDaily_25 : decode cX4_readDaily 25 = .ok (.getfield 56, 3) := by decide +kernel
theorem dX4_readDaily_28 : decode cX4_readDaily 28 = .ok (.invokevirtual 158, 3) := by decide +kernel
theorem dX4_readDaily_31 : decode cX4_readDaily 31 = .ok (.istore_n 2, 1) := by decide +kernel
theorem dX4_readDaily_32 : decode cX4_readDaily 32 = .ok (.iload_n 2, 1) := by decide +kernel
theorem dX4_readDaily_33 : decode cX4_readDaily 33 = .ok (.iconst (-1), 1) := by decide +kernel
theorem dX4_readDaily_34 : decode cX4_readDaily 34 = .ok (.if_icmp .ne 5, 3) := by decide +kernel
theorem dX4_readDaily_37 : decode cX4_readDaily 37 = .ok (.iconst 0, 1) := by decide +kernel
theorem dX4_readDaily_38 : decode cX4_readDaily 38 = .ok (.ireturn, 1) := by decide +kernel
theorem dX4_readDaily_39 : decode cX4_readDaily 39 = .ok (.aload_n 1, 1) := by decide +kernel
theorem dX4_readDaily_40 : decode cX4_readDaily 40 = .ok (.aload_n 0, 1) := by decide +kernel
theorem dX4_readDaily_41 : decode cX4_readDaily 41 = .ok (.getfield 9, 3) := by decide +kernel
theorem dX4_readDaily_44 : decode cX4_readDaily 44 = .ok (.aload_n 0, 1) := by decide +kernel
theorem dX4_readDaily_45 : decode cX4_readDaily 45 = .ok (.getfield 47, 3) := by decide +kernel
theorem dX4_readDaily_48 : decode cX4_readDaily 48 = .ok (.invokevirtual 158, 3) := by decide +kernel
theorem dX4_readDaily_51 : decode cX4_readDaily 51 = .ok (.istore_n 3, 1) := by decide +kernel
theorem dX4_readDaily_52 : decode cX4_readDaily 52 = .ok (.iload_n 3, 1) := by decide +kernel
theorem dX4_readDaily_53 : decode cX4_readDaily 53 = .ok (.iconst (-1), 1) := by decide +kernel
theorem dX4_readDaily_54 : decode cX4_readDaily 54 = .ok (.if_icmp .ne 5, 3) := by decide +kernel
theorem dX4_readDaily_57 : decode cX4_readDaily 57 = .ok (.iconst 0, 1) := by decide +kernel
theorem dX4_readDaily_58 : decode cX4_readDaily 58 = .ok (.ireturn, 1) := by decide +kernel
theorem dX4_readDaily_59 : decode cX4_readDaily 59 = .ok (.aload_n 1, 1) := by decide +kernel
theorem dX4_readDaily_60 : decode cX4_readDaily 60 = .ok (.iconst 1, 1) := by decide +kernel
theorem dX4_readDaily_61 : decode cX4_readDaily 61 = .ok (.bipush 9, 2) := by decide +kernel
theorem dX4_readDaily_63 : decode cX4_readDaily 63 = .ok (.invokevirtual 147, 3) := by decide +kernel
theorem dX4_readDaily_66 : decode cX4_readDaily 66 = .ok (.istore 4, 2) := by decide +kernel
theorem dX4_readDaily_68 : decode cX4_readDaily 68 = .ok (.iload 4, 2) := by decide +kernel
theorem dX4_readDaily_70 : decode cX4_readDaily 70 = .ok (.iconst (-1), 1) := by decide +kernel
theorem dX4_readDaily_71 : decode cX4_readDaily 71 = .ok (.if_icmp .ne 5, 3) := by decide +kernel
theorem dX4_readDaily_74 : decode cX4_readDaily 74 = .ok (.iconst 0, 1) := by decide +kernel
theorem dX4_readDaily_75 : decode cX4_readDaily 75 = .ok (.ireturn, 1) := by decide +kernel
theorem dX4_readDaily_76 : decode cX4_readDaily 76 = .ok (.aload_n 0, 1) := by decide +kernel
theorem dX4_readDaily_77 : decode cX4_readDaily 77 = .ok (.getfield 28, 3) := by decide +kernel
theorem dX4_readDaily_80 : decode cX4_readDaily 80 = .ok (.aload_n 0, 1) := by decide +kernel
theorem dX4_readDaily_81 : decode cX4_readDaily 81 = .ok (.getfield 59, 3) := by decide +kernel
theorem dX4_readDaily_84 : decode cX4_readDaily 84 = .ok (.iload_n 2, 1) := by decide +kernel
theorem dX4_readDaily_85 : decode cX4_readDaily 85 = .ok (.iastore, 1) := by decide +kernel
theorem dX4_readDaily_86 : decode cX4_readDaily 86 = .ok (.aload_n 0, 1) := by decide +kernel
theorem dX4_readDaily_87 : decode cX4_readDaily 87 = .ok (.getfield 31, 3) := by decide +kernel
theorem dX4_readDaily_90 : decode cX4_readDaily 90 = .ok (.aload_n 0, 1) := by decide +kernel
theorem dX4_readDaily_91 : decode cX4_readDaily 91 = .ok (.getfield 59, 3) := by decide +kernel
theorem dX4_readDaily_94 : decode cX4_readDaily 94 = .ok (.iload_n 3, 1) := by decide +kernel
theorem dX4_readDaily_95 : decode cX4_readDaily 95 = .ok (.iastore, 1) := by decide +kernel
theorem dX4_readDaily_96 : decode cX4_readDaily 96 = .ok (.aload_n 0, 1) := by decide +kernel
theorem dX4_readDaily_97 : decode cX4_readDaily 97 = .ok (.getfield 34, 3) := by decide +kernel
theorem dX4_readDaily_100 : decode cX4_readDaily 100 = .ok (.aload_n 0, 1) := by decide +kernel
theorem dX4_readDaily_101 : decode cX4_readDaily 101 = .ok (.getfield 59, 3) := by decide +kernel
theorem dX4_readDaily_104 : decode cX4_readDaily 104 = .ok (.iload 4, 2) := by decide +kernel
theorem dX4_readDaily_106 : decode cX4_readDaily 106 = .ok (.iastore, 1) := by decide +kernel
theorem dX4_readDaily_107 : decode cX4_readDaily 107 = .ok (.aload_n 0, 1) := by decide +kernel
theorem dX4_readDaily_108 : decode cX4_readDaily 108 = .ok (.dup, 1) := by decide +kernel
theorem dX4_readDaily_109 : decode cX4_readDaily 109 = .ok (.getfield 59, 3) := by decide +kernel
theorem dX4_readDaily_112 : decode cX4_readDaily 112 = .ok (.iconst 1, 1) := by decide +kernel
theorem dX4_readDaily_113 : decode cX4_readDaily 113 = .ok (.iadd, 1) := by decide +kernel
theorem dX4_readDaily_114 : decode cX4_readDaily 114 = .ok (.putfield 59, 3) := by decide +kernel
theorem dX4_readDaily_117 : decode cX4_readDaily 117 = .ok (.iconst 1, 1) := by decide +kernel
theorem dX4_readDaily_118 : decode cX4_readDaily 118 = .ok (.ireturn, 1) := by decide +kernel
theorem dX4_readCaught_0 : decode cX4_readCaught 0 = .ok (.aload_n 1, 1) := by decide +kernel
theorem dX4_readCaught_1 : decode cX4_readCaught 1 = .ok (.invokevirtual 137, 3) := by decide +kernel
theorem dX4_readCaught_4 : decode cX4_readCaught 4 = .ok (.aload_n 1, 1) := by decide +kernel
theorem dX4_readCaught_5 : decode cX4_readCaught 5 = .ok (.aload_n 0, 1) := by decide +kernel
theorem dX4_readCaught_6 : decode cX4_readCaught 6 = .ok (.getfield 22, 3) := by decide +kernel
theorem dX4_readCaught_9 : decode cX4_readCaught 9 = .ok (.aload_n 0, 1) := by decide +kernel
theorem dX4_readCaught_10 : decode cX4_readCaught 10 = .ok (.getfield 56, 3) := by decide +kernel
theorem dX4_readCaught_13 : decode cX4_readCaught 13 = .ok (.invokevirtual 151, 3) := by decide +kernel
theorem dX4_readCaught_16 : decode cX4_readCaught 16 = .ok (.istore_n 3, 1) := by decide +kernel
theorem dX4_readCaught_17 : decode cX4_readCaught 17 = .ok (.iload_n 3, 1) := by decide +kernel
theorem dX4_readCaught_18 : decode cX4_readCaught 18 = .ok (.iconst (-1), 1) := by decide +kernel
theorem dX4_readCaught_19 : decode cX4_readCaught 19 = .ok (.if_icmp .ne 5, 3) := by decide +kernel
theorem dX4_readCaught_22 : decode cX4_readCaught 22 = .ok (.iconst 0, 1) := by decide +kernel
theorem dX4_readCaught_23 : decode cX4_readCaught 23 = .ok (.ireturn, 1) := by decide +kernel
theorem dX4_readCaught_24 : decode cX4_readCaught 24 = .ok (.aload_n 2, 1) := by decide +kernel
theorem dX4_readCaught_25 : decode cX4_readCaught 25 = .ok (.iload_n 3, 1) := by decide +kernel
theorem dX4_readCaught_26 : decode cX4_readCaught 26 = .ok (.invokevirtual 155, 3) := by decide +kernel
theorem dX4_readCaught_29 : decode cX4_readCaught 29 = .ok (.ifCond .eq 9, 3) := by decide +kernel
theorem dX4_readCaught_32 : decode cX4_readCaught 32 = .ok (.aload_n 1, 1) := by decide +kernel
theorem dX4_readCaught_33 : decode cX4_readCaught 33 = .ok (.iconst 4, 1) := by decide +kernel
theorem dX4_readCaught_34 : decode cX4_readCaught 34 = .ok (.invokevirtual 134, 3) := by decide +kernel
theorem dX4_readCaught_37 : decode cX4_readCaught 37 = .ok (.ireturn, 1) := by decide +kernel
theorem dX4_readCaught_38 : decode cX4_readCaught 38 = .ok (.aload_n 1, 1) := by decide +kernel
theorem dX4_readCaught_39 : decode cX4_readCaught 39 = .ok (.invokevirtual 137, 3) := by decide +kernel
theorem dX4_readCaught_42 : decode cX4_readCaught 42 = .ok (.aload_n 1, 1) := by decide +kernel
theorem dX4_readCaught_43 : decode cX4_readCaught 43 = .ok (.aload_n 0, 1) := by decide +kernel
theorem dX4_readCaught_44 : decode cX4_readCaught 44 = .ok (.getfield 9, 3) := by decide +kernel
theorem dX4_readCaught_47 : decode cX4_readCaught 47 = .ok (.aload_n 0, 1) := by decide +kernel
theorem dX4_readCaught_48 : decode cX4_readCaught 48 = .ok (.getfield 47, 3) := by decide +kernel
theorem dX4_readCaught_51 : decode cX4_readCaught 51 = .ok (.invokevirtual 158, 3) := by decide +kernel
theorem dX4_readCaught_54 : decode cX4_readCaught 54 = .ok (.istore 4, 2) := by decide +kernel
theorem dX4_readCaught_56 : decode cX4_readCaught 56 = .ok (.iload 4, 2) := by decide +kernel
theorem dX4_readCaught_58 : decode cX4_readCaught 58 = .ok (.iconst (-1), 1) := by decide +kernel
theorem dX4_readCaught_59 : decode cX4_readCaught 59 = .ok (.if_icmp .ne 5, 3) := by decide +kernel
theorem dX4_readCaught_62 : decode cX4_readCaught 62 = .ok (.iconst 0, 1) := by decide +kernel
theorem dX4_readCaught_63 : decode cX4_readCaught 63 = .ok (.ireturn, 1) := by decide +kernel
theorem dX4_readCaught_64 : decode cX4_readCaught 64 = .ok (.aload_n 2, 1) := by decide +kernel
theorem dX4_readCaught_65 : decode cX4_readCaught 65 = .ok (.iload_n 3, 1) := by decide +kernel
theorem dX4_readCaught_66 : decode cX4_readCaught 66 = .ok (.iload 4, 2) := by decide +kernel
theorem dX4_readCaught_68 : decode cX4_readCaught 68 = .ok (.invokevirtual 161, 3) := by decide +kernel
theorem dX4_readCaught_71 : decode cX4_readCaught 71 = .ok (.iconst 1, 1) := by decide +kernel
theorem dX4_readCaught_72 : decode cX4_readCaught 72 = .ok (.ireturn, 1) := by decide +kernel
theorem dX4_readPerson_0 : decode cX4_readPerson 0 = .ok (.aload_n 0, 1) := by decide +kernel
theorem dX4_readPerson_1 : decode cX4_readPerson 1 = .ok (.getfield 56, 3) := by decide +kernel
theorem dX4_readPerson_4 : decode cX4_readPerson 4 = .ok (.bipush 6, 2) := by decide +kernel
theorem dX4_readPerson_6 : decode cX4_readPerson 6 = .ok (.if_icmp .lt 9, 3) := by decide +kernel
theorem dX4_readPerson_9 : decode cX4_readPerson 9 = .ok (.aload_n 1, 1) := by decide +kernel
theorem dX4_readPerson_10 : decode cX4_readPerson 10 = .ok (.iconst 4, 1) := by decide +kernel
theorem dX4_readPerson_11 : decode cX4_readPerson 11 = .ok (.invokevirtual 134, 3) := by decide +kernel
theorem dX4_readPerson_14 : decode cX4_readPerson 14 = .ok (.ireturn, 1) := by decide +kernel
theorem dX4_readPerson_15 : decode cX4_readPerson 15 = .ok (.aload_n 1, 1) := by decide +kernel
theorem dX4_readPerson_16 : decode cX4_readPerson 16 = .ok (.invokevirtual 137, 3) := by decide +kernel
theorem dX4_readPerson_19 : decode cX4_readPerson 19 = .ok (.aload_n 0, 1) := by decide +kernel
theorem dX4_readPerson_20 : decode cX4_readPerson 20 = .ok (.aload_n 1, 1) := by decide +kernel
theorem dX4_readPerson_21 : decode cX4_readPerson 21 = .ok (.invokevirtual 140, 3) := by decide +kernel
theorem dX4_readPerson_24 : decode cX4_readPerson 24 = .ok (.ifCond .ne 5, 3) := by decide +kernel
theorem dX4_readPerson_27 : decode cX4_readPerson 27 = .ok (.iconst 0, 1) := by decide +kernel
theorem dX4_readPerson_28 : decode cX4_readPerson 28 = .ok (.ireturn, 1) := by decide +kernel
theorem dX4_readPerson_29 : decode cX4_readPerson 29 = .ok (.aload_n 0, 1) := by decide +kernel
theorem dX4_readPerson_30 : decode cX4_readPerson 30 = .ok (.getfield 22, 3) := by decide +kernel
theorem dX4_readPerson_33 : decode cX4_readPerson 33 = .ok (.aload_n 0, 1) := by decide +kernel
theorem dX4_readPerson_34 : decode cX4_readPerson 34 = .ok (.getfield 56, 3) := by decide +kernel
theorem dX4_readPerson_37 : decode cX4_readPerson 37 = .ok (.aload_n 1, 1) := by decide +kernel
theorem dX4_readPerson_38 : decode cX4_readPerson 38 = .ok (.getfield 143, 3) := by decide +kernel
theorem dX4_readPerson_41 : decode cX4_readPerson 41 = .ok (.lastore, 1) := by decide +kernel
theorem dX4_readPerson_42 : decode cX4_readPerson 42 = .ok (.aload_n 1, 1) := by decide +kernel
theorem dX4_readPerson_43 : decode cX4_readPerson 43 = .ok (.invokevirtual 137, 3) := by decide +kernel
theorem dX4_readPerson_46 : decode cX4_readPerson 46 = .ok (.aload_n 1, 1) := by decide +kernel
theorem dX4_readPerson_47 : decode cX4_readPerson 47 = .ok (.iconst 1, 1) := by decide +kernel
theorem dX4_readPerson_48 : decode cX4_readPerson 48 = .ok (.bipush 99, 2) := by decide +kernel
theorem dX4_readPerson_50 : decode cX4_readPerson 50 = .ok (.invokevirtual 147, 3) := by decide +kernel
theorem dX4_readPerson_53 : decode cX4_readPerson 53 = .ok (.istore_n 2, 1) := by decide +kernel
theorem dX4_readPerson_54 : decode cX4_readPerson 54 = .ok (.iload_n 2, 1) := by decide +kernel
theorem dX4_readPerson_55 : decode cX4_readPerson 55 = .ok (.iconst (-1), 1) := by decide +kernel
theorem dX4_readPerson_56 : decode cX4_readPerson 56 = .ok (.if_icmp .ne 5, 3) := by decide +kernel
theorem dX4_readPerson_59 : decode cX4_readPerson 59 = .ok (.iconst 0, 1) := by decide +kernel
theorem dX4_readPerson_60 : decode cX4_readPerson 60 = .ok (.ireturn, 1) := by decide +kernel
theorem dX4_readPerson_61 : decode cX4_readPerson 61 = .ok (.aload_n 0, 1) := by decide +kernel
theorem dX4_readPerson_62 : decode cX4_readPerson 62 = .ok (.getfield 25, 3) := by decide +kernel
theorem dX4_readPerson_65 : decode cX4_readPerson 65 = .ok (.aload_n 0, 1) := by decide +kernel
theorem dX4_readPerson_66 : decode cX4_readPerson 66 = .ok (.getfield 56, 3) := by decide +kernel
theorem dX4_readPerson_69 : decode cX4_readPerson 69 = .ok (.iload_n 2, 1) := by decide +kernel
theorem dX4_readPerson_70 : decode cX4_readPerson 70 = .ok (.iastore, 1) := by decide +kernel
theorem dX4_readPerson_71 : decode cX4_readPerson 71 = .ok (.aload_n 0, 1) := by decide +kernel
theorem dX4_readPerson_72 : decode cX4_readPerson 72 = .ok (.dup, 1) := by decide +kernel
theorem dX4_readPerson_73 : decode cX4_readPerson 73 = .ok (.getfield 56, 3) := by decide +kernel
theorem dX4_readPerson_76 : decode cX4_readPerson 76 = .ok (.iconst 1, 1) := by decide +kernel
theorem dX4_readPerson_77 : decode cX4_readPerson 77 = .ok (.iadd, 1) := by decide +kernel
theorem dX4_readPerson_78 : decode cX4_readPerson 78 = .ok (.putfield 56, 3) := by decide +kernel
theorem dX4_readPerson_81 : decode cX4_readPerson 81 = .ok (.iconst 1, 1) := by decide +kernel
theorem dX4_readPerson_82 : decode cX4_readPerson 82 = .ok (.ireturn, 1) := by decide +kernel
theorem dX4_readThing_0 : decode cX4_readThing 0 = .ok (.aload_n 0, 1) := by decide +kernel
theorem dX4_readThing_1 : decode cX4_readThing 1 = .ok (.getfield 47, 3) := by decide +kernel
theorem dX4_readThing_4 : decode cX4_readThing 4 = .ok (.bipush 8, 2) := by decide +kernel
theorem dX4_readThing_6 : decode cX4_readThing 6 = .ok (.if_icmp .lt 9, 3) := by decide +kernel
theorem dX4_readThing_9 : decode cX4_readThing 9 = .ok (.aload_n 1, 1) := by decide +kernel
theorem dX4_readThing_10 : decode cX4_readThing 10 = .ok (.iconst 4, 1) := by decide +kernel
theorem dX4_readThing_11 : decode cX4_readThing 11 = .ok (.invokevirtual 134, 3) := by decide +kernel
theorem dX4_readThing_14 : decode cX4_readThing 14 = .ok (.ireturn, 1) := by decide +kernel
theorem dX4_readThing_15 : decode cX4_readThing 15 = .ok (.aload_n 1, 1) := by decide +kernel
theorem dX4_readThing_16 : decode cX4_readThing 16 = .ok (.invokevirtual 137, 3) := by decide +kernel
theorem dX4_readThing_19 : decode cX4_readThing 19 = .ok (.aload_n 0, 1) := by decide +kernel
theorem dX4_readThing_20 : decode cX4_readThing 20 = .ok (.aload_n 1, 1) := by decide +kernel
theorem dX4_readThing_21 : decode cX4_readThing 21 = .ok (.invokevirtual 140, 3) := by decide +kernel
theorem dX4_readThing_24 : decode cX4_readThing 24 = .ok (.ifCond .ne 5, 3) := by decide +kernel
theorem dX4_readThing_27 : decode cX4_readThing 27 = .ok (.iconst 0, 1) := by decide +kernel
theorem dX4_readThing_28 : decode cX4_readThing 28 = .ok (.ireturn, 1) := by decide +kernel
theorem dX4_readThing_29 : decode cX4_readThing 29 = .ok (.aload_n 0, 1) := by decide +kernel
theorem dX4_readThing_30 : decode cX4_readThing 30 = .ok (.getfield 9, 3) := by decide +kernel
theorem dX4_readThing_33 : decode cX4_readThing 33 = .ok (.aload_n 0, 1) := by decide +kernel
theorem dX4_readThing_34 : decode cX4_readThing 34 = .ok (.getfield 47, 3) := by decide +kernel
theorem dX4_readThing_37 : decode cX4_readThing 37 = .ok (.aload_n 1, 1) := by decide +kernel
theorem dX4_readThing_38 : decode cX4_readThing 38 = .ok (.getfield 143, 3) := by decide +kernel
theorem dX4_readThing_41 : decode cX4_readThing 41 = .ok (.lastore, 1) := by decide +kernel
theorem dX4_readThing_42 : decode cX4_readThing 42 = .ok (.aload_n 1, 1) := by decide +kernel
theorem dX4_readThing_43 : decode cX4_readThing 43 = .ok (.invokevirtual 137, 3) := by decide +kernel
theorem dX4_readThing_46 : decode cX4_readThing 46 = .ok (.aload_n 1, 1) := by decide +kernel
theorem dX4_readThing_47 : decode cX4_readThing 47 = .ok (.iconst 1, 1) := by decide +kernel
theorem dX4_readThing_48 : decode cX4_readThing 48 = .ok (.bipush 9, 2) := by decide +kernel
theorem dX4_readThing_50 : decode cX4_readThing 50 = .ok (.invokevirtual 147, 3) := by decide +kernel
theorem dX4_readThing_53 : decode cX4_readThing 53 = .ok (.istore_n 2, 1) := by decide +kernel
theorem dX4_readThing_54 : decode cX4_readThing 54 = .ok (.iload_n 2, 1) := by decide +kernel
theorem dX4_readThing_55 : decode cX4_readThing 55 = .ok (.iconst (-1), 1) := by decide +kernel
theorem dX4_readThing_56 : decode cX4_readThing 56 = .ok (.if_icmp .ne 5, 3) := by decide +kernel
theorem dX4_readThing_59 : decode cX4_readThing 59 = .ok (.iconst 0, 1) := by decide +kernel
theorem dX4_readThing_60 : decode cX4_readThing 60 = .ok (.ireturn, 1) := by decide +kernel
theorem dX4_readThing_61 : decode cX4_readThing 61 = .ok (.aload_n 1, 1) := by decide +kernel
theorem dX4_readThing_62 : decode cX4_readThing 62 = .ok (.iconst 0, 1) := by decide +kernel
theorem dX4_readThing_63 : decode cX4_readThing 63 = .ok (.bipush 9, 2) := by decide +kernel
theorem dX4_readThing_65 : decode cX4_readThing 65 = .ok (.invokevirtual 147, 3) := by decide +kernel
theorem dX4_readThing_68 : decode cX4_readThing 68 = .ok (.istore_n 3, 1) := by decide +kernel
theorem dX4_readThing_69 : decode cX4_readThing 69 = .ok (.iload_n 3, 1) := by decide +kernel
theorem dX4_readThing_70 : decode cX4_readThing 70 = .ok (.iconst (-1), 1) := by decide +kernel
theorem dX4_readThing_71 : decode cX4_readThing 71 = .ok (.if_icmp .ne 5, 3) := by decide +kernel
theorem dX4_readThing_74 : decode cX4_readThing 74 = .ok (.iconst 0, 1) := by decide +kernel
theorem dX4_readThing_75 : decode cX4_readThing 75 = .ok (.ireturn, 1) := by decide +kernel
theorem dX4_readThing_76 : decode cX4_readThing 76 = .ok (.aload_n 0, 1) := by decide +kernel
theorem dX4_readThing_77 : decode cX4_readThing 77 = .ok (.getfield 15, 3) := by decide +kernel
theorem dX4_readThing_80 : decode cX4_readThing 80 = .ok (.aload_n 0, 1) := by decide +kernel
theorem dX4_readThing_81 : decode cX4_readThing 81 = .ok (.getfield 47, 3) := by decide +kernel
theorem dX4_readThing_84 : decode cX4_readThing 84 = .ok (.iload_n 2, 1) := by decide +kernel
theorem dX4_readThing_85 : decode cX4_readThing 85 = .ok (.iastore, 1) := by decide +kernel
theorem dX4_readThing_86 : decode cX4_readThing 86 = .ok (.aload_n 0, 1) := by decide +kernel
theorem dX4_readThing_87 : decode cX4_readThing 87 = .ok (.getfield 19, 3) := by decide +kernel
theorem dX4_readThing_90 : decode cX4_readThing 90 = .ok (.aload_n 0, 1) := by decide +kernel
theorem dX4_readThing_91 : decode cX4_readThing 91 = .ok (.getfield 47, 3) := by decide +kernel
theorem dX4_readThing_94 : decode cX4_readThing 94 = .ok (.iload_n 3, 1) := by decide +kernel
theorem dX4_readThing_95 : decode cX4_readThing 95 = .ok (.iastore, 1) := by decide +kernel
theorem dX4_readThing_96 : decode cX4_readThing 96 = .ok (.aload_n 0, 1) := by decide +kernel
theorem dX4_readThing_97 : decode cX4_readThing 97 = .ok (.dup, 1) := by decide +kernel
theorem dX4_readThing_98 : decode cX4_readThing 98 = .ok (.getfield 47, 3) := by decide +kernel
theorem dX4_readThing_101 : decode cX4_readThing 101 = .ok (.iconst 1, 1) := by decide +kernel
theorem dX4_readThing_102 : decode cX4_readThing 102 = .ok (.iadd, 1) := by decide +kernel
theorem dX4_readThing_103 : decode cX4_readThing 103 = .ok (.putfield 47, 3) := by decide +kernel
theorem dX4_readThing_106 : decode cX4_readThing 106 = .ok (.iconst 1, 1) := by decide +kernel
theorem dX4_readThing_107 : decode cX4_readThing 107 = .ok (.ireturn, 1) := by decide +kernel
theorem dX4_readLine_0 : decode cX4_readLine 0 = .ok (.aload_n 1, 1) := by decide +kernel
theorem dX4_readLine_1 : decode cX4_readLine 1 = .ok (.getfield 91, 3) := by decide +kernel
theorem dX4_readLine_4 : decode cX4_readLine 4 = .ok (.getstatic 95, 3) := by decide +kernel
theorem dX4_readLine_7 : decode cX4_readLine 7 = .ok (.if_acmp .ne 9, 3) := by decide +kernel
theorem dX4_readLine_10 : decode cX4_readLine 10 = .ok (.aload_n 0, 1) := by decide +kernel
theorem dX4_readLine_11 : decode cX4_readLine 11 = .ok (.aload_n 1, 1) := by decide +kernel
theorem dX4_readLine_12 : decode cX4_readLine 12 = .ok (.invokevirtual 100, 3) := by decide +kernel
theorem dX4_readLine_15 : decode cX4_readLine 15 = .ok (.ireturn, 1) := by decide +kernel
theorem dX4_readLine_16 : decode cX4_readLine 16 = .ok (.aload_n 1, 1) := by decide +kernel
theorem dX4_readLine_17 : decode cX4_readLine 17 = .ok (.getfield 91, 3) := by decide +kernel
theorem dX4_readLine_20 : decode cX4_readLine 20 = .ok (.getstatic 104, 3) := by decide +kernel
theorem dX4_readLine_23 : decode cX4_readLine 23 = .ok (.if_acmp .ne 9, 3) := by decide +kernel
theorem dX4_readLine_26 : decode cX4_readLine 26 = .ok (.aload_n 0, 1) := by decide +kernel
theorem dX4_readLine_27 : decode cX4_readLine 27 = .ok (.aload_n 1, 1) := by decide +kernel
theorem dX4_readLine_28 : decode cX4_readLine 28 = .ok (.invokevirtual 107, 3) := by decide +kernel
theorem dX4_readLine_31 : decode cX4_readLine 31 = .ok (.ireturn, 1) := by decide +kernel
theorem dX4_readLine_32 : decode cX4_readLine 32 = .ok (.aload_n 1, 1) := by decide +kernel
theorem dX4_readLine_33 : decode cX4_readLine 33 = .ok (.getfield 91, 3) := by decide +kernel
theorem dX4_readLine_36 : decode cX4_readLine 36 = .ok (.getstatic 110, 3) := by decide +kernel
theorem dX4_readLine_39 : decode cX4_readLine 39 = .ok (.if_acmp .ne 10, 3) := by decide +kernel
theorem dX4_readLine_42 : decode cX4_readLine 42 = .ok (.aload_n 0, 1) := by decide +kernel
theorem dX4_readLine_43 : decode cX4_readLine 43 = .ok (.aload_n 1, 1) := by decide +kernel
theorem dX4_readLine_44 : decode cX4_readLine 44 = .ok (.aload_n 2, 1) := by decide +kernel
theorem dX4_readLine_45 : decode cX4_readLine 45 = .ok (.invokevirtual 113, 3) := by decide +kernel
theorem dX4_readLine_48 : decode cX4_readLine 48 = .ok (.ireturn, 1) := by decide +kernel
theorem dX4_readLine_49 : decode cX4_readLine 49 = .ok (.aload_n 1, 1) := by decide +kernel
theorem dX4_readLine_50 : decode cX4_readLine 50 = .ok (.getfield 91, 3) := by decide +kernel
theorem dX4_readLine_53 : decode cX4_readLine 53 = .ok (.getstatic 116, 3) := by decide +kernel
theorem dX4_readLine_56 : decode cX4_readLine 56 = .ok (.if_acmp .ne 9, 3) := by decide +kernel
theorem dX4_readLine_59 : decode cX4_readLine 59 = .ok (.aload_n 0, 1) := by decide +kernel
theorem dX4_readLine_60 : decode cX4_readLine 60 = .ok (.aload_n 1, 1) := by decide +kernel
theorem dX4_readLine_61 : decode cX4_readLine 61 = .ok (.invokevirtual 119, 3) := by decide +kernel
theorem dX4_readLine_64 : decode cX4_readLine 64 = .ok (.ireturn, 1) := by decide +kernel
theorem dX4_readLine_65 : decode cX4_readLine 65 = .ok (.aload_n 1, 1) := by decide +kernel
theorem dX4_readLine_66 : decode cX4_readLine 66 = .ok (.getfield 91, 3) := by decide +kernel
theorem dX4_readLine_69 : decode cX4_readLine 69 = .ok (.getstatic 122, 3) := by decide +kernel
theorem dX4_readLine_72 : decode cX4_readLine 72 = .ok (.if_acmp .ne 9, 3) := by decide +kernel
theorem dX4_readLine_75 : decode cX4_readLine 75 = .ok (.aload_n 0, 1) := by decide +kernel
theorem dX4_readLine_76 : decode cX4_readLine 76 = .ok (.aload_n 1, 1) := by decide +kernel
theorem dX4_readLine_77 : decode cX4_readLine 77 = .ok (.invokevirtual 125, 3) := by decide +kernel
theorem dX4_readLine_80 : decode cX4_readLine 80 = .ok (.ireturn, 1) := by decide +kernel
theorem dX4_readLine_81 : decode cX4_readLine 81 = .ok (.aload_n 1, 1) := by decide +kernel
theorem dX4_readLine_82 : decode cX4_readLine 82 = .ok (.getfield 91, 3) := by decide +kernel
theorem dX4_readLine_85 : decode cX4_readLine 85 = .ok (.getstatic 128, 3) := by decide +kernel
theorem dX4_readLine_88 : decode cX4_readLine 88 = .ok (.if_acmp .ne 11, 3) := by decide +kernel
theorem dX4_readLine_91 : decode cX4_readLine 91 = .ok (.aload_n 0, 1) := by decide +kernel
theorem dX4_readLine_92 : decode cX4_readLine 92 = .ok (.aload_n 1, 1) := by decide +kernel
theorem dX4_readLine_93 : decode cX4_readLine 93 = .ok (.invokevirtual 131, 3) := by decide +kernel
theorem dX4_readLine_96 : decode cX4_readLine 96 = .ok (.goto 8, 3) := by decide +kernel
theorem dX4_readLine_99 : decode cX4_readLine 99 = .ok (.aload_n 1, 1) := by decide +kernel
theorem dX4_readLine_100 : decode cX4_readLine 100 = .ok (.iconst 1, 1) := by decide +kernel
theorem dX4_readLine_101 : decode cX4_readLine 101 = .ok (.invokevirtual 134, 3) := by decide +kernel
theorem dX4_readLine_104 : decode cX4_readLine 104 = .ok (.ireturn, 1) := by decide +kernel
theorem dX4_readFrom_0 : decode cX4_readFrom 0 = .ok (.aload_n 0, 1) := by decide +kernel
theorem dX4_readFrom_1 : decode cX4_readFrom 1 = .ok (.iconst 0, 1) := by decide +kernel
theorem dX4_readFrom_2 : decode cX4_readFrom 2 = .ok (.putfield 47, 3) := by decide +kernel
theorem dX4_readFrom_5 : decode cX4_readFrom 5 = .ok (.aload_n 0, 1) := by decide +kernel
theorem dX4_readFrom_6 : decode cX4_readFrom 6 = .ok (.iconst 0, 1) := by decide +kernel
theorem dX4_readFrom_7 : decode cX4_readFrom 7 = .ok (.putfield 56, 3) := by decide +kernel
theorem dX4_readFrom_10 : decode cX4_readFrom 10 = .ok (.aload_n 0, 1) := by decide +kernel
theorem dX4_readFrom_11 : decode cX4_readFrom 11 = .ok (.iconst 0, 1) := by decide +kernel
theorem dX4_readFrom_12 : decode cX4_readFrom 12 = .ok (.putfield 59, 3) := by decide +kernel
theorem dX4_readFrom_15 : decode cX4_readFrom 15 = .ok (.aload_n 0, 1) := by decide +kernel
theorem dX4_readFrom_16 : decode cX4_readFrom 16 = .ok (.iconst 0, 1) := by decide +kernel
theorem dX4_readFrom_17 : decode cX4_readFrom 17 = .ok (.putfield 62, 3) := by decide +kernel
theorem dX4_readFrom_20 : decode cX4_readFrom 20 = .ok (.aload_n 0, 1) := by decide +kernel
theorem dX4_readFrom_21 : decode cX4_readFrom 21 = .ok (.bipush 9, 2) := by decide +kernel
theorem dX4_readFrom_23 : decode cX4_readFrom 23 = .ok (.putfield 43, 3) := by decide +kernel
theorem dX4_readFrom_26 : decode cX4_readFrom 26 = .ok (.aload_n 0, 1) := by decide +kernel
theorem dX4_readFrom_27 : decode cX4_readFrom 27 = .ok (.iconst 0, 1) := by decide +kernel
theorem dX4_readFrom_28 : decode cX4_readFrom 28 = .ok (.putfield 65, 3) := by decide +kernel
theorem dX4_readFrom_31 : decode cX4_readFrom 31 = .ok (.aload_n 2, 1) := by decide +kernel
theorem dX4_readFrom_32 : decode cX4_readFrom 32 = .ok (.invokevirtual 69, 3) := by decide +kernel
theorem dX4_readFrom_35 : decode cX4_readFrom 35 = .ok (.aload_n 1, 1) := by decide +kernel
theorem dX4_readFrom_36 : decode cX4_readFrom 36 = .ok (.sipush 900, 3) := by decide +kernel
theorem dX4_readFrom_39 : decode cX4_readFrom 39 = .ok (.invokevirtual 74, 3) := by decide +kernel
theorem dX4_readFrom_42 : decode cX4_readFrom 42 = .ok (.iconst 0, 1) := by decide +kernel
theorem dX4_readFrom_43 : decode cX4_readFrom 43 = .ok (.istore_n 3, 1) := by decide +kernel
theorem dX4_readFrom_44 : decode cX4_readFrom 44 = .ok (.aload_n 1, 1) := by decide +kernel
theorem dX4_readFrom_45 : decode cX4_readFrom 45 = .ok (.getfield 80, 3) := by decide +kernel
theorem dX4_readFrom_48 : decode cX4_readFrom 48 = .ok (.ifCond .eq 36, 3) := by decide +kernel
theorem dX4_readFrom_51 : decode cX4_readFrom 51 = .ok (.iload_n 3, 1) := by decide +kernel
theorem dX4_readFrom_52 : decode cX4_readFrom 52 = .ok (.sipush 900, 3) := by decide +kernel
theorem dX4_readFrom_55 : decode cX4_readFrom 55 = .ok (.if_icmp .ge 29, 3) := by decide +kernel
theorem dX4_readFrom_58 : decode cX4_readFrom 58 = .ok (.aload_n 0, 1) := by decide +kernel
theorem dX4_readFrom_59 : decode cX4_readFrom 59 = .ok (.aload_n 1, 1) := by decide +kernel
theorem dX4_readFrom_60 : decode cX4_readFrom 60 = .ok (.aload_n 2, 1) := by decide +kernel
theorem dX4_readFrom_61 : decode cX4_readFrom 61 = .ok (.invokevirtual 83, 3) := by decide +kernel
theorem dX4_readFrom_64 : decode cX4_readFrom 64 = .ok (.ifCond .eq 12, 3) := by decide +kernel
theorem dX4_readFrom_67 : decode cX4_readFrom 67 = .ok (.aload_n 1, 1) := by decide +kernel
theorem dX4_readFrom_68 : decode cX4_readFrom 68 = .ok (.bipush 59, 2) := by decide +kernel
theorem dX4_readFrom_70 : decode cX4_readFrom 70 = .ok (.invokevirtual 87, 3) := by decide +kernel
theorem dX4_readFrom_73 : decode cX4_readFrom 73 = .ok (.ifCond .ne 5, 3) := by decide +kernel
theorem dX4_readFrom_76 : decode cX4_readFrom 76 = .ok (.iconst (-1), 1) := by decide +kernel
theorem dX4_readFrom_77 : decode cX4_readFrom 77 = .ok (.ireturn, 1) := by decide +kernel
theorem dX4_readFrom_78 : decode cX4_readFrom 78 = .ok (.iinc 3 1, 3) := by decide +kernel
theorem dX4_readFrom_81 : decode cX4_readFrom 81 = .ok (.goto (-37), 3) := by decide +kernel
theorem dX4_readFrom_84 : decode cX4_readFrom 84 = .ok (.iload_n 3, 1) := by decide +kernel
theorem dX4_readFrom_85 : decode cX4_readFrom 85 = .ok (.ireturn, 1) := by decide +kernel
theorem dX5_forget_0 : decode cX5_forget 0 = .ok (.aload_n 0, 1) := by decide +kernel
theorem dX5_forget_1 : decode cX5_forget 1 = .ok (.iconst 0, 1) := by decide +kernel
theorem dX5_forget_2 : decode cX5_forget 2 = .ok (.putfield 24, 3) := by decide +kernel
theorem dX5_forget_5 : decode cX5_forget 5 = .ok (.aload_n 0, 1) := by decide +kernel
theorem dX5_forget_6 : decode cX5_forget 6 = .ok (.iconst 0, 1) := by decide +kernel
theorem dX5_forget_7 : decode cX5_forget 7 = .ok (.putfield 28, 3) := by decide +kernel
theorem dX5_forget_10 : decode cX5_forget 10 = .ok (.return_, 1) := by decide +kernel
theorem dX5_isMeasured_0 : decode cX5_isMeasured 0 = .ok (.aload_n 0, 1) := by decide +kernel
theorem dX5_isMeasured_1 : decode cX5_isMeasured 1 = .ok (.getstatic 109, 3) := by decide +kernel
theorem dX5_isMeasured_4 : decode cX5_isMeasured 4 = .ok (.if_acmp .eq 24, 3) := by decide +kernel
theorem dX5_isMeasured_7 : decode cX5_isMeasured 7 = .ok (.aload_n 0, 1) := by decide +kernel
theorem dX5_isMeasured_8 : decode cX5_isMeasured 8 = .ok (.getstatic 112, 3) := by decide +kernel
theorem dX5_isMeasured_11 : decode cX5_isMeasured 11 = .ok (.if_acmp .eq 17, 3) := by decide +kernel
theorem dX5_isMeasured_14 : decode cX5_isMeasured 14 = .ok (.aload_n 0, 1) := by decide +kernel
theorem dX5_isMeasured_15 : decode cX5_isMeasured 15 = .ok (.getstatic 115, 3) := by decide +kernel
theorem dX5_isMeasured_18 : decode cX5_isMeasured 18 = .ok (.if_acmp .eq 10, 3) := by decide +kernel
theorem dX5_isMeasured_21 : decode cX5_isMeasured 21 = .ok (.aload_n 0, 1) := by decide +kernel
theorem dX5_isMeasured_22 : decode cX5_isMeasured 22 = .ok (.getstatic 118, 3) := by decide +kernel
theorem dX5_isMeasured_25 : decode cX5_isMeasured 25 = .ok (.if_acmp .ne 7, 3) := by decide +kernel
theorem dX5_isMeasured_28 : decode cX5_isMeasured 28 = .ok (.iconst 1, 1) := by decide +kernel
theorem dX5_isMeasured_29 : decode cX5_isMeasured 29 = .ok (.goto 4, 3) := by decide +kernel
theorem dX5_isMeasured_32 : decode cX5_isMeasured 32 = .ok (.iconst 0, 1) := by decide +kernel
theorem dX5_isMeasured_33 : decode cX5_isMeasured 33 = .ok (.ireturn, 1) := by decide +kernel
theorem dX5_beginsOne_0 : decode cX5_beginsOne 0 = .ok (.aload_n 0, 1) := by decide +kernel
theorem dX5_beginsOne_1 : decode cX5_beginsOne 1 = .ok (.getstatic 84, 3) := by decide +kernel
theorem dX5_beginsOne_4 : decode cX5_beginsOne 4 = .ok (.if_acmp .eq 45, 3) := by decide +kernel
theorem dX5_beginsOne_7 : decode cX5_beginsOne 7 = .ok (.aload_n 0, 1) := by decide +kernel
theorem dX5_beginsOne_8 : decode cX5_beginsOne 8 = .ok (.getstatic 91, 3) := by decide +kernel
theorem dX5_beginsOne_11 : decode cX5_beginsOne 11 = .ok (.if_acmp .eq 38, 3) := by decide +kernel
theorem dX5_beginsOne_14 : decode cX5_beginsOne 14 = .ok (.aload_n 0, 1) := by decide +kernel
theorem dX5_beginsOne_15 : decode cX5_beginsOne 15 = .ok (.getstatic 94, 3) := by decide +kernel
theorem dX5_beginsOne_18 : decode cX5_beginsOne 18 = .ok (.if_acmp .eq 31, 3) := by decide +kernel
theorem dX5_beginsOne_21 : decode cX5_beginsOne 21 = .ok (.aload_n 0, 1) := by decide +kernel
theorem dX5_beginsOne_22 : decode cX5_beginsOne 22 = .ok (.getstatic 97, 3) := by decide +kernel
theorem dX5_beginsOne_25 : decode cX5_beginsOne 25 = .ok (.if_acmp .eq 24, 3) := by decide +kernel
theorem dX5_beginsOne_28 : decode cX5_beginsOne 28 = .ok (.aload_n 0, 1) := by decide +kernel
theorem dX5_beginsOne_29 : decode cX5_beginsOne 29 = .ok (.getstatic 100, 3) := by decide +kernel
theorem dX5_beginsOne_32 : decode cX5_beginsOne 32 = .ok (.if_acmp .eq 17, 3) := by decide +kernel
theorem dX5_beginsOne_35 : decode cX5_beginsOne 35 = .ok (.aload_n 0, 1) := by decide +kernel
theorem dX5_beginsOne_36 : decode cX5_beginsOne 36 = .ok (.getstatic 103, 3) := by decide +kernel
theorem dX5_beginsOne_39 : decode cX5_beginsOne 39 = .ok (.if_acmp .eq 10, 3) := by decide +kernel
theorem dX5_beginsOne_42 : decode cX5_beginsOne 42 = .ok (.aload_n 0, 1) := by decide +kernel
theorem dX5_beginsOne_43 : decode cX5_beginsOne 43 = .ok (.invokestatic 106, 3) := by decide +kernel
theorem dX5_beginsOne_46 : decode cX5_beginsOne 46 = .ok (.ifCond .eq 7, 3) := by decide +kernel
theorem dX5_beginsOne_49 : decode cX5_beginsOne 49 = .ok (.iconst 1, 1) := by decide +kernel
theorem dX5_beginsOne_50 : decode cX5_beginsOne 50 = .ok (.goto 4, 3) := by decide +kernel
theorem dX5_beginsOne_53 : decode cX5_beginsOne 53 = .ok (.iconst 0, 1) := by decide +kernel
theorem dX5_beginsOne_54 : decode cX5_beginsOne 54 = .ok (.ireturn, 1) := by decide +kernel
theorem dX5_addStep_0 : decode cX5_addStep 0 = .ok (.aload_n 0, 1) := by decide +kernel
theorem dX5_addStep_1 : decode cX5_addStep 1 = .ok (.getfield 24, 3) := by decide +kernel
theorem dX5_addStep_4 : decode cX5_addStep 4 = .ok (.bipush 40, 2) := by decide +kernel
theorem dX5_addStep_6 : decode cX5_addStep 6 = .ok (.if_icmp .ge 43, 3) := by decide +kernel
theorem dX5_addStep_9 : decode cX5_addStep 9 = .ok (.aload_n 0, 1) := by decide +kernel
theorem dX5_addStep_10 : decode cX5_addStep 10 = .ok (.getfield 13, 3) := by decide +kernel
theorem dX5_addStep_13 : decode cX5_addStep 13 = .ok (.aload_n 0, 1) := by decide +kernel
theorem dX5_addStep_14 : decode cX5_addStep 14 = .ok (.getfield 24, 3) := by decide +kernel
theorem dX5_addStep_17 : decode cX5_addStep 17 = .ok (.aload_n 1, 1) := by decide +kernel
theorem dX5_addStep_18 : decode cX5_addStep 18 = .ok (.aastore, 1) := by decide +kernel
theorem dX5_addStep_19 : decode cX5_addStep 19 = .ok (.aload_n 0, 1) := by decide +kernel
theorem dX5_addStep_20 : decode cX5_addStep 20 = .ok (.getfield 17, 3) := by decide +kernel
theorem dX5_addStep_23 : decode cX5_addStep 23 = .ok (.aload_n 0, 1) := by decide +kernel
theorem dX5_addStep_24 : decode cX5_addStep 24 = .ok (.getfield 24, 3) := by decide +kernel
theorem dX5_addStep_27 : decode cX5_addStep 27 = .ok (.iload_n 2, 1) := by decide +kernel
theorem dX5_addStep_28 : decode cX5_addStep 28 = .ok (.iastore, 1) := by decide +kernel
theorem dX5_addStep_29 : decode cX5_addStep 29 = .ok (.aload_n 0, 1) := by decide +kernel
theorem dX5_addStep_30 : decode cX5_addStep 30 = .ok (.getfield 21, 3) := by decide +kernel
theorem dX5_addStep_33 : decode cX5_addStep 33 = .ok (.aload_n 0, 1) := by decide +kernel
theorem dX5_addStep_34 : decode cX5_addStep 34 = .ok (.getfield 24, 3) := by decide +kernel
theorem dX5_addStep_37 : decode cX5_addStep 37 = .ok (.iload_n 3, 1) := by decide +kernel
theorem dX5_addStep_38 : decode cX5_addStep 38 = .ok (.iastore, 1) := by decide +kernel
theorem dX5_addStep_39 : decode cX5_addStep 39 = .ok (.aload_n 0, 1) := by decide +kernel
theorem dX5_addStep_40 : decode cX5_addStep 40 = .ok (.dup, 1) := by decide +kernel
theorem dX5_addStep_41 : decode cX5_addStep 41 = .ok (.getfield 24, 3) := by decide +kernel
theorem dX5_addStep_44 : decode cX5_addStep 44 = .ok (.iconst 1, 1) := by decide +kernel
theorem dX5_addStep_45 : decode cX5_addStep 45 = .ok (.iadd, 1) := by decide +kernel
theorem dX5_addStep_46 : decode cX5_addStep 46 = .ok (.putfield 24, 3) := by decide +kernel
theorem dX5_addStep_49 : decode cX5_addStep 49 = .ok (.return_, 1) := by decide +kernel
theorem dX5_readPlain_0 : decode cX5_readPlain 0 = .ok (.aload_n 3, 1) := by decide +kernel
theorem dX5_readPlain_1 : decode cX5_readPlain 1 = .ok (.getstatic 100, 3) := by decide +kernel
theorem dX5_readPlain_4 : decode cX5_readPlain 4 = .ok (.if_acmp .ne 37, 3) := by decide +kernel
theorem dX5_readPlain_7 : decode cX5_readPlain 7 = .ok (.aload_n 1, 1) := by decide +kernel
theorem dX5_readPlain_8 : decode cX5_readPlain 8 = .ok (.aload_n 2, 1) := by decide +kernel
theorem dX5_readPlain_9 : decode cX5_readPlain 9 = .ok (.getfield 121, 3) := by decide +kernel
theorem dX5_readPlain_12 : decode cX5_readPlain 12 = .ok (.aload_n 2, 1) := by decide +kernel
theorem dX5_readPlain_13 : decode cX5_readPlain 13 = .ok (.getfield 127, 3) := by decide +kernel
theorem dX5_readPlain_16 : decode cX5_readPlain 16 = .ok (.invokevirtual 130, 3) := by decide +kernel
theorem dX5_readPlain_19 : decode cX5_readPlain 19 = .ok (.istore 4, 2) := by decide +kernel
theorem dX5_readPlain_21 : decode cX5_readPlain 21 = .ok (.aload_n 0, 1) := by decide +kernel
theorem dX5_readPlain_22 : decode cX5_readPlain 22 = .ok (.aload_n 3, 1) := by decide +kernel
theorem dX5_readPlain_23 : decode cX5_readPlain 23 = .ok (.iconst 0, 1) := by decide +kernel
theorem dX5_readPlain_24 : decode cX5_readPlain 24 = .ok (.iload 4, 2) := by decide +kernel
theorem dX5_readPlain_26 : decode cX5_readPlain 26 = .ok (.invokevirtual 70, 3) := by decide +kernel
theorem dX5_readPlain_29 : decode cX5_readPlain 29 = .ok (.iload 4, 2) := by decide +kernel
theorem dX5_readPlain_31 : decode cX5_readPlain 31 = .ok (.iconst (-1), 1) := by decide +kernel
theorem dX5_readPlain_32 : decode cX5_readPlain 32 = .ok (.if_icmp .eq 7, 3) := by decide +kernel
theorem dX5_readPlain_35 : decode cX5_readPlain 35 = .ok (.iconst 1, 1) := by decide +kernel
theorem dX5_readPlain_36 : decode cX5_readPlain 36 = .ok (.goto 4, 3) := by decide +kernel
theorem dX5_readPlain_39 : decode cX5_readPlain 39 = .ok (.iconst 0, 1) := by decide +kernel
theorem dX5_readPlain_40 : decode cX5_readPlain 40 = .ok (.ireturn, 1) := by decide +kernel
theorem dX5_readPlain_41 : decode cX5_readPlain 41 = .ok (.aload_n 3, 1) := by decide +kernel
theorem dX5_readPlain_42 : decode cX5_readPlain 42 = .ok (.getstatic 103, 3) := by decide +kernel
theorem dX5_readPlain_45 : decode cX5_readPlain 45 = .ok (.if_acmp .ne 37, 3) := by decide +kernel
theorem dX5_readPlain_48 : decode cX5_readPlain 48 = .ok (.aload_n 1, 1) := by decide +kernel
theorem dX5_readPlain_49 : decode cX5_readPlain 49 = .ok (.aload_n 2, 1) := by decide +kernel
theorem dX5_readPlain_50 : decode cX5_readPlain 50 = .ok (.getfield 134, 3) := by decide +kernel
theorem dX5_readPlain_53 : decode cX5_readPlain 53 = .ok (.aload_n 2, 1) := by decide +kernel
theorem dX5_readPlain_54 : decode cX5_readPlain 54 = .ok (.getfield 137, 3) := by decide +kernel
theorem dX5_readPlain_57 : decode cX5_readPlain 57 = .ok (.invokevirtual 130, 3) := by decide +kernel
theorem dX5_readPlain_60 : decode cX5_readPlain 60 = .ok (.istore 4, 2) := by decide +kernel
theorem dX5_readPlain_62 : decode cX5_readPlain 62 = .ok (.aload_n 0, 1) := by decide +kernel
theorem dX5_readPlain_63 : decode cX5_readPlain 63 = .ok (.aload_n 3, 1) := by decide +kernel
theorem dX5_readPlain_64 : decode cX5_readPlain 64 = .ok (.iconst 0, 1) := by decide +kernel
theorem dX5_readPlain_65 : decode cX5_readPlain 65 = .ok (.iload 4, 2) := by decide +kernel
theorem dX5_readPlain_67 : decode cX5_readPlain 67 = .ok (.invokevirtual 70, 3) := by decide +kernel
theorem dX5_readPlain_70 : decode cX5_readPlain 70 = .ok (.iload 4, 2) := by decide +kernel
theorem dX5_readPlain_72 : decode cX5_readPlain 72 = .ok (.iconst (-1), 1) := by decide +kernel
theorem dX5_readPlain_73 : decode cX5_readPlain 73 = .ok (.if_icmp .eq 7, 3) := by decide +kernel
theorem dX5_readPlain_76 : decode cX5_readPlain 76 = .ok (.iconst 1, 1) := by decide +kernel
theorem dX5_readPlain_77 : decode cX5_readPlain 77 = .ok (.goto 4, 3) := by decide +kernel
theorem dX5_readPlain_80 : decode cX5_readPlain 80 = .ok (.iconst 0, 1) := by decide +kernel
theorem dX5_readPlain_81 : decode cX5_readPlain 81 = .ok (.ireturn, 1) := by decide +kernel
theorem dX5_readPlain_82 : decode cX5_readPlain 82 = .ok (.aload_n 3, 1) := by decide +kernel
theorem dX5_readPlain_83 : decode cX5_readPlain 83 = .ok (.invokestatic 106, 3) := by decide +kernel
theorem dX5_readPlain_86 : decode cX5_readPlain 86 = .ok (.ifCond .ne 12, 3) := by decide +kernel
theorem dX5_readPlain_89 : decode cX5_readPlain 89 = .ok (.aload_n 0, 1) := by decide +kernel
theorem dX5_readPlain_90 : decode cX5_readPlain 90 = .ok (.aload_n 3, 1) := by decide +kernel
theorem dX5_readPlain_91 : decode cX5_readPlain 91 = .ok (.iconst 0, 1) := by decide +kernel
theorem dX5_readPlain_92 : decode cX5_readPlain 92 = .ok (.iconst 0, 1) := by decide +kernel
theorem dX5_readPlain_93 : decode cX5_readPlain 93 = .ok (.invokevirtual 70, 3) := by decide +kernel
theorem dX5_readPlain_96 : decode cX5_readPlain 96 = .ok (.iconst 1, 1) := by decide +kernel
theorem dX5_readPlain_97 : decode cX5_readPlain 97 = .ok (.ireturn, 1) := by decide +kernel
theorem dX5_readPlain_98 : decode cX5_readPlain 98 = .ok (.aload_n 1, 1) := by decide +kernel
theorem dX5_readPlain_99 : decode cX5_readPlain 99 = .ok (.getfield 50, 3) := by decide +kernel
theorem dX5_readPlain_102 : decode cX5_readPlain 102 = .ok (.istore 4, 2) := by decide +kernel
theorem dX5_readPlain_104 : decode cX5_readPlain 104 = .ok (.iload 4, 2) := by decide +kernel
theorem dX5_readPlain_106 : decode cX5_readPlain 106 = .ok (.bipush 60, 2) := by decide +kernel
theorem dX5_readPlain_108 : decode cX5_readPlain 108 = .ok (.if_icmp .eq 23, 3) := by decide +kernel
theorem dX5_readPlain_111 : decode cX5_readPlain 111 = .ok (.iload 4, 2) := by decide +kernel
theorem dX5_readPlain_113 : decode cX5_readPlain 113 = .ok (.bipush 61, 2) := by decide +kernel
theorem dX5_readPlain_115 : decode cX5_readPlain 115 = .ok (.if_icmp .eq 16, 3) := by decide +kernel
theorem dX5_readPlain_118 : decode cX5_readPlain 118 = .ok (.iload 4, 2) := by decide +kernel
theorem dX5_readPlain_120 : decode cX5_readPlain 120 = .ok (.bipush 62, 2) := by decide +kernel
theorem dX5_readPlain_122 : decode cX5_readPlain 122 = .ok (.if_icmp .eq 9, 3) := by decide +kernel
theorem dX5_readPlain_125 : decode cX5_readPlain 125 = .ok (.aload_n 1, 1) := by decide +kernel
theorem dX5_readPlain_126 : decode cX5_readPlain 126 = .ok (.iconst 1, 1) := by decide +kernel
theorem dX5_readPlain_127 : decode cX5_readPlain 127 = .ok (.invokevirtual 53, 3) := by decide +kernel
theorem dX5_readPlain_130 : decode cX5_readPlain 130 = .ok (.ireturn, 1) := by decide +kernel
theorem dX5_readPlain_131 : decode cX5_readPlain 131 = .ok (.aload_n 1, 1) := by decide +kernel
theorem dX5_readPlain_132 : decode cX5_readPlain 132 = .ok (.invokevirtual 74, 3) := by decide +kernel
theorem dX5_readPlain_135 : decode cX5_readPlain 135 = .ok (.aload_n 1, 1) := by decide +kernel
theorem dX5_readPlain_136 : decode cX5_readPlain 136 = .ok (.iconst 0, 1) := by decide +kernel
theorem dX5_readPlain_137 : decode cX5_readPlain 137 = .ok (.sipush 999, 3) := by decide +kernel
theorem dX5_readPlain_140 : decode cX5_readPlain 140 = .ok (.invokevirtual 140, 3) := by decide +kernel
theorem dX5_readPlain_143 : decode cX5_readPlain 143 = .ok (.istore 5, 2) := by decide +kernel
theorem dX5_readPlain_145 : decode cX5_readPlain 145 = .ok (.aload_n 0, 1) := by decide +kernel
theorem dX5_readPlain_146 : decode cX5_readPlain 146 = .ok (.aload_n 3, 1) := by decide +kernel
theorem dX5_readPlain_147 : decode cX5_readPlain 147 = .ok (.iload 4, 2) := by decide +kernel
theorem dX5_readPlain_149 : decode cX5_readPlain 149 = .ok (.iload 5, 2) := by decide +kernel
theorem dX5_readPlain_151 : decode cX5_readPlain 151 = .ok (.invokevirtual 70, 3) := by decide +kernel
theorem dX5_readPlain_154 : decode cX5_readPlain 154 = .ok (.iload 5, 2) := by decide +kernel
theorem dX5_readPlain_156 : decode cX5_readPlain 156 = .ok (.iconst (-1), 1) := by decide +kernel
theorem dX5_readPlain_157 : decode cX5_readPlain 157 = .ok (.if_icmp .eq 7, 3) := by decide +kernel
theorem dX5_readPlain_160 : decode cX5_readPlain 160 = .ok (.iconst 1, 1) := by decide +kernel
theorem dX5_readPlain_161 : decode cX5_readPlain 161 = .ok (.goto 4, 3) := by decide +kernel
theorem dX5_readPlain_164 : decode cX5_readPlain 164 = .ok (.iconst 0, 1) := by decide +kernel
theorem dX5_readPlain_165 : decode cX5_readPlain 165 = .ok (.ireturn, 1) := by decide +kernel
theorem dX6_knotsOf_0 : decode cX6_knotsOf 0 = .ok (.iconst 0, 1) := by decide +kernel
theorem dX6_knotsOf_1 : decode cX6_knotsOf 1 = .ok (.istore_n 2, 1) := by decide +kernel
theorem dX6_knotsOf_2 : decode cX6_knotsOf 2 = .ok (.iconst 0, 1) := by decide +kernel
theorem dX6_knotsOf_3 : decode cX6_knotsOf 3 = .ok (.istore_n 3, 1) := by decide +kernel
theorem dX6_knotsOf_4 : decode cX6_knotsOf 4 = .ok (.iload_n 3, 1) := by decide +kernel
theorem dX6_knotsOf_5 : decode cX6_knotsOf 5 = .ok (.aload_n 0, 1) := by decide +kernel
theorem dX6_knotsOf_6 : decode cX6_knotsOf 6 = .ok (.getfield 15, 3) := by decide +kernel
theorem dX6_knotsOf_9 : decode cX6_knotsOf 9 = .ok (.iload_n 1, 1) := by decide +kernel
theorem dX6_knotsOf_10 : decode cX6_knotsOf 10 = .ok (.iaload, 1) := by decide +kernel
theorem dX6_knotsOf_11 : decode cX6_knotsOf 11 = .ok (.if_icmp .ge 29, 3) := by decide +kernel
theorem dX6_knotsOf_14 : decode cX6_knotsOf 14 = .ok (.aload_n 0, 1) := by decide +kernel
theorem dX6_knotsOf_15 : decode cX6_knotsOf 15 = .ok (.iload_n 1, 1) := by decide +kernel
theorem dX6_knotsOf_16 : decode cX6_knotsOf 16 = .ok (.iload_n 3, 1) := by decide +kernel
theorem dX6_knotsOf_17 : decode cX6_knotsOf 17 = .ok (.invokevirtual 55, 3) := by decide +kernel
theorem dX6_knotsOf_20 : decode cX6_knotsOf 20 = .ok (.aload_n 0, 1) := by decide +kernel
theorem dX6_knotsOf_21 : decode cX6_knotsOf 21 = .ok (.iload_n 1, 1) := by decide +kernel
theorem dX6_knotsOf_22 : decode cX6_knotsOf 22 = .ok (.iload_n 3, 1) := by decide +kernel
theorem dX6_knotsOf_23 : decode cX6_knotsOf 23 = .ok (.iconst 1, 1) := by decide +kernel
theorem dX6_knotsOf_24 : decode cX6_knotsOf 24 = .ok (.isub, 1) := by decide +kernel
theorem dX6_knotsOf_25 : decode cX6_knotsOf 25 = .ok (.invokevirtual 55, 3) := by decide +kernel
theorem dX6_knotsOf_28 : decode cX6_knotsOf 28 = .ok (.if_icmp .eq 6, 3) := by decide +kernel
theorem dX6_knotsOf_31 : decode cX6_knotsOf 31 = .ok (.iinc 2 1, 3) := by decide +kernel
theorem dX6_knotsOf_34 : decode cX6_knotsOf 34 = .ok (.iinc 3 1, 3) := by decide +kernel
theorem dX6_knotsOf_37 : decode cX6_knotsOf 37 = .ok (.goto (-33), 3) := by decide +kernel
theorem dX6_knotsOf_40 : decode cX6_knotsOf 40 = .ok (.iload_n 2, 1) := by decide +kernel
theorem dX6_knotsOf_41 : decode cX6_knotsOf 41 = .ok (.ireturn, 1) := by decide +kernel
theorem dX5_measureOf_0 : decode cX5_measureOf 0 = .ok (.aload_n 0, 1) := by decide +kernel
theorem dX5_measureOf_1 : decode cX5_measureOf 1 = .ok (.getstatic 109, 3) := by decide +kernel
theorem dX5_measureOf_4 : decode cX5_measureOf 4 = .ok (.if_acmp .ne 10, 3) := by decide +kernel
theorem dX5_measureOf_7 : decode cX5_measureOf 7 = .ok (.aload_n 1, 1) := by decide +kernel
theorem dX5_measureOf_8 : decode cX5_measureOf 8 = .ok (.getfield 148, 3) := by decide +kernel
theorem dX5_measureOf_11 : decode cX5_measureOf 11 = .ok (.iload_n 2, 1) := by decide +kernel
theorem dX5_measureOf_12 : decode cX5_measureOf 12 = .ok (.iaload, 1) := by decide +kernel
theorem dX5_measureOf_13 : decode cX5_measureOf 13 = .ok (.ireturn, 1) := by decide +kernel
theorem dX5_measureOf_14 : decode cX5_measureOf 14 = .ok (.aload_n 0, 1) := by decide +kernel
theorem dX5_measureOf_15 : decode cX5_measureOf 15 = .ok (.getstatic 112, 3) := by decide +kernel
theorem dX5_measureOf_18 : decode cX5_measureOf 18 = .ok (.if_acmp .ne 9, 3) := by decide +kernel
theorem dX5_measureOf_21 : decode cX5_measureOf 21 = .ok (.aload_n 1, 1) := by decide +kernel
theorem dX5_measureOf_22 : decode cX5_measureOf 22 = .ok (.iload_n 2, 1) := by decide +kernel
theorem dX5_measureOf_23 : decode cX5_measureOf 23 = .ok (.invokevirtual 173, 3) := by decide +kernel
theorem dX5_measureOf_26 : decode cX5_measureOf 26 = .ok (.ireturn, 1) := by decide +kernel
theorem dX5_measureOf_27 : decode cX5_measureOf 27 = .ok (.aload_n 0, 1) := by decide +kernel
theorem dX5_measureOf_28 : decode cX5_measureOf 28 = .ok (.getstatic 115, 3) := by decide +kernel
theorem dX5_measureOf_31 : decode cX5_measureOf 31 = .ok (.if_acmp .ne 12, 3) := by decide +kernel
theorem dX5_measureOf_34 : decode cX5_measureOf 34 = .ok (.aload_n 1, 1) := by decide +kernel
theorem dX5_measureOf_35 : decode cX5_measureOf 35 = .ok (.getfield 156, 3) := by decide +kernel
theorem dX5_measureOf_38 : decode cX5_measureOf 38 = .ok (.iload_n 2, 1) := by decide +kernel
theorem dX5_measureOf_39 : decode cX5_measureOf 39 = .ok (.iaload, 1) := by decide +kernel
theorem dX5_measureOf_40 : decode cX5_measureOf 40 = .ok (.goto 4, 3) := by decide +kernel
theorem dX5_measureOf_43 : decode cX5_measureOf 43 = .ok (.iload_n 2, 1) := by decide +kernel
theorem dX5_measureOf_44 : decode cX5_measureOf 44 = .ok (.ireturn, 1) := by decide +kernel
theorem dX6_alike_0 : decode cX6_alike 0 = .ok (.aload_n 0, 1) := by decide +kernel
theorem dX6_alike_1 : decode cX6_alike 1 = .ok (.getfield 15, 3) := by decide +kernel
theorem dX6_alike_4 : decode cX6_alike 4 = .ok (.iload_n 1, 1) := by decide +kernel
theorem dX6_alike_5 : decode cX6_alike 5 = .ok (.iaload, 1) := by decide +kernel
theorem dX6_alike_6 : decode cX6_alike 6 = .ok (.aload_n 0, 1) := by decide +kernel
theorem dX6_alike_7 : decode cX6_alike 7 = .ok (.getfield 15, 3) := by decide +kernel
theorem dX6_alike_10 : decode cX6_alike 10 = .ok (.iload_n 2, 1) := by decide +kernel
theorem dX6_alike_11 : decode cX6_alike 11 = .ok (.iaload, 1) := by decide +kernel
theorem dX6_alike_12 : decode cX6_alike 12 = .ok (.if_icmp .eq 5, 3) := by decide +kernel
theorem dX6_alike_15 : decode cX6_alike 15 = .ok (.iconst 0, 1) := by decide +kernel
theorem dX6_alike_16 : decode cX6_alike 16 = .ok (.ireturn, 1) := by decide +kernel
theorem dX6_alike_17 : decode cX6_alike 17 = .ok (.iconst 0, 1) := by decide +kernel
theorem dX6_alike_18 : decode cX6_alike 18 = .ok (.istore_n 3, 1) := by decide +kernel
theorem dX6_alike_19 : decode cX6_alike 19 = .ok (.iload_n 3, 1) := by decide +kernel
theorem dX6_alike_20 : decode cX6_alike 20 = .ok (.aload_n 0, 1) := by decide +kernel
theorem dX6_alike_21 : decode cX6_alike 21 = .ok (.getfield 15, 3) := by decide +kernel
theorem dX6_alike_24 : decode cX6_alike 24 = .ok (.iload_n 1, 1) := by decide +kernel
theorem dX6_alike_25 : decode cX6_alike 25 = .ok (.iaload, 1) := by decide +kernel
theorem dX6_alike_26 : decode cX6_alike 26 = .ok (.if_icmp .ge 26, 3) := by decide +kernel
theorem dX6_alike_29 : decode cX6_alike 29 = .ok (.aload_n 0, 1) := by decide +kernel
theorem dX6_alike_30 : decode cX6_alike 30 = .ok (.iload_n 1, 1) := by decide +kernel
theorem dX6_alike_31 : decode cX6_alike 31 = .ok (.iload_n 3, 1) := by decide +kernel
theorem dX6_alike_32 : decode cX6_alike 32 = .ok (.invokevirtual 55, 3) := by decide +kernel
theorem dX6_alike_35 : decode cX6_alike 35 = .ok (.aload_n 0, 1) := by decide +kernel
theorem dX6_alike_36 : decode cX6_alike 36 = .ok (.iload_n 2, 1) := by decide +kernel
theorem dX6_alike_37 : decode cX6_alike 37 = .ok (.iload_n 3, 1) := by decide +kernel
theorem dX6_alike_38 : decode cX6_alike 38 = .ok (.invokevirtual 55, 3) := by decide +kernel
theorem dX6_alike_41 : decode cX6_alike 41 = .ok (.if_icmp .eq 5, 3) := by decide +kernel
theorem dX6_alike_44 : decode cX6_alike 44 = .ok (.iconst 0, 1) := by decide +kernel
theorem dX6_alike_45 : decode cX6_alike 45 = .ok (.ireturn, 1) := by decide +kernel
theorem dX6_alike_46 : decode cX6_alike 46 = .ok (.iinc 3 1, 3) := by decide +kernel
theorem dX6_alike_49 : decode cX6_alike 49 = .ok (.goto (-30), 3) := by decide +kernel
theorem dX6_alike_52 : decode cX6_alike 52 = .ok (.iconst 1, 1) := by decide +kernel
theorem dX6_alike_53 : decode cX6_alike 53 = .ok (.ireturn, 1) := by decide +kernel
theorem dX6_has_0 : decode cX6_has 0 = .ok (.iconst 0, 1) := by decide +kernel
theorem dX6_has_1 : decode cX6_has 1 = .ok (.istore_n 3, 1) := by decide +kernel
theorem dX6_has_2 : decode cX6_has 2 = .ok (.iload_n 3, 1) := by decide +kernel
theorem dX6_has_3 : decode cX6_has 3 = .ok (.aload_n 0, 1) := by decide +kernel
theorem dX6_has_4 : decode cX6_has 4 = .ok (.getfield 15, 3) := by decide +kernel
theorem dX6_has_7 : decode cX6_has 7 = .ok (.iload_n 1, 1) := by decide +kernel
theorem dX6_has_8 : decode cX6_has 8 = .ok (.iaload, 1) := by decide +kernel
theorem dX6_has_9 : decode cX6_has 9 = .ok (.if_icmp .ge 21, 3) := by decide +kernel
theorem dX6_has_12 : decode cX6_has 12 = .ok (.aload_n 0, 1) := by decide +kernel
theorem dX6_has_13 : decode cX6_has 13 = .ok (.iload_n 1, 1) := by decide +kernel
theorem dX6_has_14 : decode cX6_has 14 = .ok (.iload_n 3, 1) := by decide +kernel
theorem dX6_has_15 : decode cX6_has 15 = .ok (.invokevirtual 55, 3) := by decide +kernel
theorem dX6_has_18 : decode cX6_has 18 = .ok (.iload_n 2, 1) := by decide +kernel
theorem dX6_has_19 : decode cX6_has 19 = .ok (.if_icmp .ne 5, 3) := by decide +kernel
theorem dX6_has_22 : decode cX6_has 22 = .ok (.iconst 1, 1) := by decide +kernel
theorem dX6_has_23 : decode cX6_has 23 = .ok (.ireturn, 1) := by decide +kernel
theorem dX6_has_24 : decode cX6_has 24 = .ok (.iinc 3 1, 3) := by decide +kernel
theorem dX6_has_27 : decode cX6_has 27 = .ok (.goto (-25), 3) := by decide +kernel
theorem dX6_has_30 : decode cX6_has 30 = .ok (.iconst 0, 1) := by decide +kernel
theorem dX6_has_31 : decode cX6_has 31 = .ok (.ireturn, 1) := by decide +kernel
theorem dX5_isPlainTrue_0 : decode cX5_isPlainTrue 0 = .ok (.aload_n 0, 1) := by decide +kernel
theorem dX5_isPlainTrue_1 : decode cX5_isPlainTrue 1 = .ok (.getfield 13, 3) := by decide +kernel
theorem dX5_isPlainTrue_4 : decode cX5_isPlainTrue 4 = .ok (.iload 4, 2) := by decide +kernel
theorem dX5_isPlainTrue_6 : decode cX5_isPlainTrue 6 = .ok (.aaload, 1) := by decide +kernel
theorem dX5_isPlainTrue_7 : decode cX5_isPlainTrue 7 = .ok (.astore 5, 2) := by decide +kernel
theorem dX5_isPlainTrue_9 : decode cX5_isPlainTrue 9 = .ok (.aload 5, 2) := by decide +kernel
theorem dX5_isPlainTrue_11 : decode cX5_isPlainTrue 11 = .ok (.getstatic 91, 3) := by decide +kernel
theorem dX5_isPlainTrue_14 : decode cX5_isPlainTrue 14 = .ok (.if_acmp .ne 18, 3) := by decide +kernel
theorem dX5_isPlainTrue_17 : decode cX5_isPlainTrue 17 = .ok (.aload_n 2, 1) := by decide +kernel
theorem dX5_isPlainTrue_18 : decode cX5_isPlainTrue 18 = .ok (.getfield 148, 3) := by decide +kernel
theorem dX5_isPlainTrue_21 : decode cX5_isPlainTrue 21 = .ok (.iload_n 3, 1) := by decide +kernel
theorem dX5_isPlainTrue_22 : decode cX5_isPlainTrue 22 = .ok (.iaload, 1) := by decide +kernel
theorem dX5_isPlainTrue_23 : decode cX5_isPlainTrue 23 = .ok (.ifCond .ne 7, 3) := by decide +kernel
theorem dX5_isPlainTrue_26 : decode cX5_isPlainTrue 26 = .ok (.iconst 1, 1) := by decide +kernel
theorem dX5_isPlainTrue_27 : decode cX5_isPlainTrue 27 = .ok (.goto 4, 3) := by decide +kernel
theorem dX5_isPlainTrue_30 : decode cX5_isPlainTrue 30 = .ok (.iconst 0, 1) := by decide +kernel
theorem dX5_isPlainTrue_31 : decode cX5_isPlainTrue 31 = .ok (.ireturn, 1) := by decide +kernel
theorem dX5_isPlainTrue_32 : decode cX5_isPlainTrue 32 = .ok (.aload 5, 2) := by decide +kernel
theorem dX5_isPlainTrue_34 : decode cX5_isPlainTrue 34 = .ok (.getstatic 94, 3) := by decide +kernel
theorem dX5_isPlainTrue_37 : decode cX5_isPlainTrue 37 = .ok (.if_acmp .ne 9, 3) := by decide +kernel
theorem dX5_isPlainTrue_40 : decode cX5_isPlainTrue 40 = .ok (.aload_n 2, 1) := by decide +kernel
theorem dX5_isPlainTrue_41 : decode cX5_isPlainTrue 41 = .ok (.iload_n 3, 1) := by decide +kernel
theorem dX5_isPlainTrue_42 : decode cX5_isPlainTrue 42 = .ok (.invokevirtual 153, 3) := by decide +kernel
theorem dX5_isPlainTrue_45 : decode cX5_isPlainTrue 45 = .ok (.ireturn, 1) := by decide +kernel
theorem dX5_isPlainTrue_46 : decode cX5_isPlainTrue 46 = .ok (.aload 5, 2) := by decide +kernel
theorem dX5_isPlainTrue_48 : decode cX5_isPlainTrue 48 = .ok (.getstatic 97, 3) := by decide +kernel
theorem dX5_isPlainTrue_51 : decode cX5_isPlainTrue 51 = .ok (.if_acmp .ne 24, 3) := by decide +kernel
theorem dX5_isPlainTrue_54 : decode cX5_isPlainTrue 54 = .ok (.aload_n 2, 1) := by decide +kernel
theorem dX5_isPlainTrue_55 : decode cX5_isPlainTrue 55 = .ok (.getfield 156, 3) := by decide +kernel
theorem dX5_isPlainTrue_58 : decode cX5_isPlainTrue 58 = .ok (.iload_n 3, 1) := by decide +kernel
theorem dX5_isPlainTrue_59 : decode cX5_isPlainTrue 59 = .ok (.iaload, 1) := by decide +kernel
theorem dX5_isPlainTrue_60 : decode cX5_isPlainTrue 60 = .ok (.aload_n 1, 1) := by decide +kernel
theorem dX5_isPlainTrue_61 : decode cX5_isPlainTrue 61 = .ok (.getfield 159, 3) := by decide +kernel
theorem dX5_isPlainTrue_64 : decode cX5_isPlainTrue 64 = .ok (.iload_n 3, 1) := by decide +kernel
theorem dX5_isPlainTrue_65 : decode cX5_isPlainTrue 65 = .ok (.iaload, 1) := by decide +kernel
theorem dX5_isPlainTrue_66 : decode cX5_isPlainTrue 66 = .ok (.if_icmp .lt 7, 3) := by decide +kernel
theorem dX5_isPlainTrue_69 : decode cX5_isPlainTrue 69 = .ok (.iconst 1, 1) := by decide +kernel
theorem dX5_isPlainTrue_70 : decode cX5_isPlainTrue 70 = .ok (.goto 4, 3) := by decide +kernel
theorem dX5_isPlainTrue_73 : decode cX5_isPlainTrue 73 = .ok (.iconst 0, 1) := by decide +kernel
theorem dX5_isPlainTrue_74 : decode cX5_isPlainTrue 74 = .ok (.ireturn, 1) := by decide +kernel
theorem dX5_isPlainTrue_75 : decode cX5_isPlainTrue 75 = .ok (.aload 5, 2) := by decide +kernel
theorem dX5_isPlainTrue_77 : decode cX5_isPlainTrue 77 = .ok (.getstatic 100, 3) := by decide +kernel
theorem dX5_isPlainTrue_80 : decode cX5_isPlainTrue 80 = .ok (.if_acmp .ne 16, 3) := by decide +kernel
theorem dX5_isPlainTrue_83 : decode cX5_isPlainTrue 83 = .ok (.aload_n 2, 1) := by decide +kernel
theorem dX5_isPlainTrue_84 : decode cX5_isPlainTrue 84 = .ok (.iload_n 3, 1) := by decide +kernel
theorem dX5_isPlainTrue_85 : decode cX5_isPlainTrue 85 = .ok (.aload_n 0, 1) := by decide +kernel
theorem dX5_isPlainTrue_86 : decode cX5_isPlainTrue 86 = .ok (.getfield 21, 3) := by decide +kernel
theorem dX5_isPlainTrue_89 : decode cX5_isPlainTrue 89 = .ok (.iload 4, 2) := by decide +kernel
theorem dX5_isPlainTrue_91 : decode cX5_isPlainTrue 91 = .ok (.iaload, 1) := by decide +kernel
theorem dX5_isPlainTrue_92 : decode cX5_isPlainTrue 92 = .ok (.invokevirtual 162, 3) := by decide +kernel
theorem dX5_isPlainTrue_95 : decode cX5_isPlainTrue 95 = .ok (.ireturn, 1) := by decide +kernel
theorem dX5_isPlainTrue_96 : decode cX5_isPlainTrue 96 = .ok (.aload 5, 2) := by decide +kernel
theorem dX5_isPlainTrue_98 : decode cX5_isPlainTrue 98 = .ok (.getstatic 103, 3) := by decide +kernel
theorem dX5_isPlainTrue_101 : decode cX5_isPlainTrue 101 = .ok (.if_acmp .ne 16, 3) := by decide +kernel
theorem dX5_isPlainTrue_104 : decode cX5_isPlainTrue 104 = .ok (.aload_n 2, 1) := by decide +kernel
theorem dX5_isPlainTrue_105 : decode cX5_isPlainTrue 105 = .ok (.iload_n 3, 1) := by decide +kernel
theorem dX5_isPlainTrue_106 : decode cX5_isPlainTrue 106 = .ok (.aload_n 0, 1) := by decide +kernel
theorem dX5_isPlainTrue_107 : decode cX5_isPlainTrue 107 = .ok (.getfield 21, 3) := by decide +kernel
theorem dX5_isPlainTrue_110 : decode cX5_isPlainTrue 110 = .ok (.iload 4, 2) := by decide +kernel
theorem dX5_isPlainTrue_112 : decode cX5_isPlainTrue 112 = .ok (.iaload, 1) := by decide +kernel
theorem dX5_isPlainTrue_113 : decode cX5_isPlainTrue 113 = .ok (.invokevirtual 166, 3) := by decide +kernel
theorem dX5_isPlainTrue_116 : decode cX5_isPlainTrue 116 = .ok (.ireturn, 1) := by decide +kernel
theorem dX5_isPlainTrue_117 : decode cX5_isPlainTrue 117 = .ok (.aload 5, 2) := by decide +kernel
theorem dX5_isPlainTrue_119 : decode cX5_isPlainTrue 119 = .ok (.aload_n 2, 1) := by decide +kernel
theorem dX5_isPlainTrue_120 : decode cX5_isPlainTrue 120 = .ok (.iload_n 3, 1) := by decide +kernel
theorem dX5_isPlainTrue_121 : decode cX5_isPlainTrue 121 = .ok (.invokestatic 169, 3) := by decide +kernel
theorem dX5_isPlainTrue_124 : decode cX5_isPlainTrue 124 = .ok (.istore 6, 2) := by decide +kernel
theorem dX5_isPlainTrue_126 : decode cX5_isPlainTrue 126 = .ok (.aload_n 0, 1) := by decide +kernel
theorem dX5_isPlainTrue_127 : decode cX5_isPlainTrue 127 = .ok (.getfield 17, 3) := by decide +kernel
theorem dX5_isPlainTrue_130 : decode cX5_isPlainTrue 130 = .ok (.iload 4, 2) := by decide +kernel
theorem dX5_isPlainTrue_132 : decode cX5_isPlainTrue 132 = .ok (.iaload, 1) := by decide +kernel
theorem dX5_isPlainTrue_133 : decode cX5_isPlainTrue 133 = .ok (.bipush 60, 2) := by decide +kernel
theorem dX5_isPlainTrue_135 : decode cX5_isPlainTrue 135 = .ok (.if_icmp .ne 21, 3) := by decide +kernel
theorem dX5_isPlainTrue_138 : decode cX5_isPlainTrue 138 = .ok (.iload 6, 2) := by decide +kernel
theorem dX5_isPlainTrue_140 : decode cX5_isPlainTrue 140 = .ok (.aload_n 0, 1) := by decide +kernel
theorem dX5_isPlainTrue_141 : decode cX5_isPlainTrue 141 = .ok (.getfield 21, 3) := by decide +kernel
theorem dX5_isPlainTrue_144 : decode cX5_isPlainTrue 144 = .ok (.iload 4, 2) := by decide +kernel
theorem dX5_isPlainTrue_146 : decode cX5_isPlainTrue 146 = .ok (.iaload, 1) := by decide +kernel
theorem dX5_isPlainTrue_147 : decode cX5_isPlainTrue 147 = .ok (.if_icmp .ge 7, 3) := by decide +kernel
theorem dX5_isPlainTrue_150 : decode cX5_isPlainTrue 150 = .ok (.iconst 1, 1) := by decide +kernel
theorem dX5_isPlainTrue_151 : decode cX5_isPlainTrue 151 = .ok (.goto 4, 3) := by decide +kernel
theorem dX5_isPlainTrue_154 : decode cX5_isPlainTrue 154 = .ok (.iconst 0, 1) := by decide +kernel
theorem dX5_isPlainTrue_155 : decode cX5_isPlainTrue 155 = .ok (.ireturn, 1) := by decide +kernel
theorem dX5_isPlainTrue_156 : decode cX5_isPlainTrue 156 = .ok (.aload_n 0, 1) := by decide +kernel
theorem dX5_isPlainTrue_157 : decode cX5_isPlainTrue 157 = .ok (.getfield 17, 3) := by decide +kernel
theorem dX5_isPlainTrue_160 : decode cX5_isPlainTrue 160 = .ok (.iload 4, 2) := by decide +kernel
theorem dX5_isPlainTrue_162 : decode cX5_isPlainTrue 162 = .ok (.iaload, 1) := by decide +kernel
theorem dX5_isPlainTrue_163 : decode cX5_isPlainTrue 163 = .ok (.bipush 61, 2) := by decide +kernel
theorem dX5_isPlainTrue_165 : decode cX5_isPlainTrue 165 = .ok (.if_icmp .ne 23, 3) := by decide +kernel
theorem dX5_isPlainTrue_168 : decode cX5_isPlainTrue 168 = .ok (.iload 6, 2) := by decide +kernel
theorem dX5_isPlainTrue_170 : decode cX5_isPlainTrue 170 = .ok (.aload_n 0, 1) := by decide +kernel
theorem dX5_isPlainTrue_171 : decode cX5_isPlainTrue 171 = .ok (.getfield 21, 3) := by decide +kernel
theorem dX5_isPlainTrue_174 : decode cX5_isPlainTrue 174 = .ok (.iload 4, 2) := by decide +kernel
theorem dX5_isPlainTrue_176 : decode cX5_isPlainTrue 176 = .ok (.iaload, 1) := by decide +kernel
theorem dX5_isPlainTrue_177 : decode cX5_isPlainTrue 177 = .ok (.if_icmp .ne 7, 3) := by decide +kernel
theorem dX5_isPlainTrue_180 : decode cX5_isPlainTrue 180 = .ok (.iconst 1, 1) := by decide +kernel
theorem dX5_isPlainTrue_181 : decode cX5_isPlainTrue 181 = .ok (.goto 24, 3) := by decide +kernel
theorem dX5_isPlainTrue_184 : decode cX5_isPlainTrue 184 = .ok (.iconst 0, 1) := by decide +kernel
theorem dX5_isPlainTrue_185 : decode cX5_isPlainTrue 185 = .ok (.goto 20, 3) := by decide +kernel
theorem dX5_isPlainTrue_188 : decode cX5_isPlainTrue 188 = .ok (.iload 6, 2) := by decide +kernel
theorem dX5_isPlainTrue_190 : decode cX5_isPlainTrue 190 = .ok (.aload_n 0, 1) := by decide +kernel
theorem dX5_isPlainTrue_191 : decode cX5_isPlainTrue 191 = .ok (.getfield 21, 3) := by decide +kernel
theorem dX5_isPlainTrue_194 : decode cX5_isPlainTrue 194 = .ok (.iload 4, 2) := by decide +kernel
theorem dX5_isPlainTrue_196 : decode cX5_isPlainTrue 196 = .ok (.iaload, 1) := by decide +kernel
theorem dX5_isPlainTrue_197 : decode cX5_isPlainTrue 197 = .ok (.if_icmp .le 7, 3) := by decide +kernel
theorem dX5_isPlainTrue_200 : decode cX5_isPlainTrue 200 = .ok (.iconst 1, 1) := by decide +kernel
theorem dX5_isPlainTrue_201 : decode cX5_isPlainTrue 201 = .ok (.goto 4, 3) := by decide +kernel
theorem dX5_isPlainTrue_204 : decode cX5_isPlainTrue 204 = .ok (.iconst 0, 1) := by decide +kernel
theorem dX5_isPlainTrue_205 : decode cX5_isPlainTrue 205 = .ok (.ireturn, 1) := by decide +kernel
theorem dX5_isTrueOf_0 : decode cX5_isTrueOf 0 = .ok (.iconst 0, 1) := by decide +kernel
theorem dX5_isTrueOf_1 : decode cX5_isTrueOf 1 = .ok (.istore 4, 2) := by decide +kernel
theorem dX5_isTrueOf_3 : decode cX5_isTrueOf 3 = .ok (.iconst 0, 1) := by decide +kernel
theorem dX5_isTrueOf_4 : decode cX5_isTrueOf 4 = .ok (.istore 5, 2) := by decide +kernel
theorem dX5_isTrueOf_6 : decode cX5_isTrueOf 6 = .ok (.iload 5, 2) := by decide +kernel
theorem dX5_isTrueOf_8 : decode cX5_isTrueOf 8 = .ok (.aload_n 0, 1) := by decide +kernel
theorem dX5_isTrueOf_9 : decode cX5_isTrueOf 9 = .ok (.getfield 24, 3) := by decide +kernel
theorem dX5_isTrueOf_12 : decode cX5_isTrueOf 12 = .ok (.if_icmp .ge 114, 3) := by decide +kernel
theorem dX5_isTrueOf_15 : decode cX5_isTrueOf 15 = .ok (.iload 4, 2) := by decide +kernel
theorem dX5_isTrueOf_17 : decode cX5_isTrueOf 17 = .ok (.iconst 1, 1) := by decide +kernel
theorem dX5_isTrueOf_18 : decode cX5_isTrueOf 18 = .ok (.iand, 1) := by decide +kernel
theorem dX5_isTrueOf_19 : decode cX5_isTrueOf 19 = .ok (.istore 6, 2) := by decide +kernel
theorem dX5_isTrueOf_21 : decode cX5_isTrueOf 21 = .ok (.aload_n 0, 1) := by decide +kernel
theorem dX5_isTrueOf_22 : decode cX5_isTrueOf 22 = .ok (.getfield 13, 3) := by decide +kernel
theorem dX5_isTrueOf_25 : decode cX5_isTrueOf 25 = .ok (.iload 5, 2) := by decide +kernel
theorem dX5_isTrueOf_27 : decode cX5_isTrueOf 27 = .ok (.aaload, 1) := by decide +kernel
theorem dX5_isTrueOf_28 : decode cX5_isTrueOf 28 = .ok (.getstatic 84, 3) := by decide +kernel
theorem dX5_isTrueOf_31 : decode cX5_isTrueOf 31 = .ok (.if_acmp .ne 12, 3) := by decide +kernel
theorem dX5_isTrueOf_34 : decode cX5_isTrueOf 34 = .ok (.iload 4, 2) := by decide +kernel
theorem dX5_isTrueOf_36 : decode cX5_isTrueOf 36 = .ok (.iconst 1, 1) := by decide +kernel
theorem dX5_isTrueOf_37 : decode cX5_isTrueOf 37 = .ok (.ixor, 1) := by decide +kernel
theorem dX5_isTrueOf_38 : decode cX5_isTrueOf 38 = .ok (.istore 4, 2) := by decide +kernel
theorem dX5_isTrueOf_40 : decode cX5_isTrueOf 40 = .ok (.goto 80, 3) := by decide +kernel
theorem dX5_isTrueOf_43 : decode cX5_isTrueOf 43 = .ok (.aload_n 0, 1) := by decide +kernel
theorem dX5_isTrueOf_44 : decode cX5_isTrueOf 44 = .ok (.getfield 13, 3) := by decide +kernel
theorem dX5_isTrueOf_47 : decode cX5_isTrueOf 47 = .ok (.iload 5, 2) := by decide +kernel
theorem dX5_isTrueOf_49 : decode cX5_isTrueOf 49 = .ok (.aaload, 1) := by decide +kernel
theorem dX5_isTrueOf_50 : decode cX5_isTrueOf 50 = .ok (.getstatic 64, 3) := by decide +kernel
theorem dX5_isTrueOf_53 : decode cX5_isTrueOf 53 = .ok (.if_acmp .ne 18, 3) := by decide +kernel
theorem dX5_isTrueOf_56 : decode cX5_isTrueOf 56 = .ok (.iload 4, 2) := by decide +kernel
theorem dX5_isTrueOf_58 : decode cX5_isTrueOf 58 = .ok (.iconst 1, 1) := by decide +kernel
theorem dX5_isTrueOf_59 : decode cX5_isTrueOf 59 = .ok (.ishr, 1) := by decide +kernel
theorem dX5_isTrueOf_60 : decode cX5_isTrueOf 60 = .ok (.iload 6, 2) := by decide +kernel
theorem dX5_isTrueOf_62 : decode cX5_isTrueOf 62 = .ok (.bipush (-2), 2) := by decide +kernel
theorem dX5_isTrueOf_64 : decode cX5_isTrueOf 64 = .ok (.ior, 1) := by decide +kernel
theorem dX5_isTrueOf_65 : decode cX5_isTrueOf 65 = .ok (.iand, 1) := by decide +kernel
theorem dX5_isTrueOf_66 : decode cX5_isTrueOf 66 = .ok (.istore 4, 2) := by decide +kernel
theorem dX5_isTrueOf_68 : decode cX5_isTrueOf 68 = .ok (.goto 52, 3) := by decide +kernel
theorem dX5_isTrueOf_71 : decode cX5_isTrueOf 71 = .ok (.aload_n 0, 1) := by decide +kernel
theorem dX5_isTrueOf_72 : decode cX5_isTrueOf 72 = .ok (.getfield 13, 3) := by decide +kernel
theorem dX5_isTrueOf_75 : decode cX5_isTrueOf 75 = .ok (.iload 5, 2) := by decide +kernel
theorem dX5_isTrueOf_77 : decode cX5_isTrueOf 77 = .ok (.aaload, 1) := by decide +kernel
theorem dX5_isTrueOf_78 : decode cX5_isTrueOf 78 = .ok (.getstatic 67, 3) := by decide +kernel
theorem dX5_isTrueOf_81 : decode cX5_isTrueOf 81 = .ok (.if_acmp .ne 15, 3) := by decide +kernel
theorem dX5_isTrueOf_84 : decode cX5_isTrueOf 84 = .ok (.iload 4, 2) := by decide +kernel
theorem dX5_isTrueOf_86 : decode cX5_isTrueOf 86 = .ok (.iconst 1, 1) := by decide +kernel
theorem dX5_isTrueOf_87 : decode cX5_isTrueOf 87 = .ok (.ishr, 1) := by decide +kernel
theorem dX5_isTrueOf_88 : decode cX5_isTrueOf 88 = .ok (.iload 6, 2) := by decide +kernel
theorem dX5_isTrueOf_90 : decode cX5_isTrueOf 90 = .ok (.ior, 1) := by decide +kernel
theorem dX5_isTrueOf_91 : decode cX5_isTrueOf 91 = .ok (.istore 4, 2) := by decide +kernel
theorem dX5_isTrueOf_93 : decode cX5_isTrueOf 93 = .ok (.goto 27, 3) := by decide +kernel
theorem dX5_isTrueOf_96 : decode cX5_isTrueOf 96 = .ok (.iload 4, 2) := by decide +kernel
theorem dX5_isTrueOf_98 : decode cX5_isTrueOf 98 = .ok (.iconst 1, 1) := by decide +kernel
theorem dX5_isTrueOf_99 : decode cX5_isTrueOf 99 = .ok (.ishl, 1) := by decide +kernel
theorem dX5_isTrueOf_100 : decode cX5_isTrueOf 100 = .ok (.aload_n 0, 1) := by decide +kernel
theorem dX5_isTrueOf_101 : decode cX5_isTrueOf 101 = .ok (.aload_n 1, 1) := by decide +kernel
theorem dX5_isTrueOf_102 : decode cX5_isTrueOf 102 = .ok (.aload_n 2, 1) := by decide +kernel
theorem dX5_isTrueOf_103 : decode cX5_isTrueOf 103 = .ok (.iload_n 3, 1) := by decide +kernel
theorem dX5_isTrueOf_104 : decode cX5_isTrueOf 104 = .ok (.iload 5, 2) := by decide +kernel
theorem dX5_isTrueOf_106 : decode cX5_isTrueOf 106 = .ok (.invokevirtual 144, 3) := by decide +kernel
theorem dX5_isTrueOf_109 : decode cX5_isTrueOf 109 = .ok (.ifCond .eq 7, 3) := by decide +kernel
theorem dX5_isTrueOf_112 : decode cX5_isTrueOf 112 = .ok (.iconst 1, 1) := by decide +kernel
theorem dX5_isTrueOf_113 : decode cX5_isTrueOf 113 = .ok (.goto 4, 3) := by decide +kernel
theorem dX5_isTrueOf_116 : decode cX5_isTrueOf 116 = .ok (.iconst 0, 1) := by decide +kernel
theorem dX5_isTrueOf_117 : decode cX5_isTrueOf 117 = .ok (.ior, 1) := by decide +kernel
theorem dX5_isTrueOf_118 : decode cX5_isTrueOf 118 = .ok (.istore 4, 2) := by decide +kernel
theorem dX5_isTrueOf_120 : decode cX5_isTrueOf 120 = .ok (.iinc 5 1, 3) := by decide +kernel
theorem dX5_isTrueOf_123 : decode cX5_isTrueOf 123 = .ok (.goto (-117), 3) := by decide +kernel
theorem dX5_isTrueOf_126 : decode cX5_isTrueOf 126 = .ok (.iload 4, 2) := by decide +kernel
theorem dX5_isTrueOf_128 : decode cX5_isTrueOf 128 = .ok (.iconst 1, 1) := by decide +kernel
theorem dX5_isTrueOf_129 : decode cX5_isTrueOf 129 = .ok (.iand, 1) := by decide +kernel
theorem dX5_isTrueOf_130 : decode cX5_isTrueOf 130 = .ok (.iconst 1, 1) := by decide +kernel
theorem dX5_isTrueOf_131 : decode cX5_isTrueOf 131 = .ok (.if_icmp .ne 7, 3) := by decide +kernel
theorem dX5_isTrueOf_134 : decode cX5_isTrueOf 134 = .ok (.iconst 1, 1) := by decide +kernel
theorem dX5_isTrueOf_135 : decode cX5_isTrueOf 135 = .ok (.goto 4, 3) := by decide +kernel
theorem dX5_isTrueOf_138 : decode cX5_isTrueOf 138 = .ok (.iconst 0, 1) := by decide +kernel
theorem dX5_isTrueOf_139 : decode cX5_isTrueOf 139 = .ok (.ireturn, 1) := by decide +kernel
theorem dX6_endsWith_0 : decode cX6_endsWith 0 = .ok (.iload_n 3, 1) := by decide +kernel
theorem dX6_endsWith_1 : decode cX6_endsWith 1 = .ok (.aload_n 0, 1) := by decide +kernel
theorem dX6_endsWith_2 : decode cX6_endsWith 2 = .ok (.getfield 15, 3) := by decide +kernel
theorem dX6_endsWith_5 : decode cX6_endsWith 5 = .ok (.iload_n 1, 1) := by decide +kernel
theorem dX6_endsWith_6 : decode cX6_endsWith 6 = .ok (.iaload, 1) := by decide +kernel
theorem dX6_endsWith_7 : decode cX6_endsWith 7 = .ok (.if_icmp .gt 9, 3) := by decide +kernel
theorem dX6_endsWith_10 : decode cX6_endsWith 10 = .ok (.iload_n 3, 1) := by decide +kernel
theorem dX6_endsWith_11 : decode cX6_endsWith 11 = .ok (.aload_n 2, 1) := by decide +kernel
theorem dX6_endsWith_12 : decode cX6_endsWith 12 = .ok (.arraylength, 1) := by decide +kernel
theorem dX6_endsWith_13 : decode cX6_endsWith 13 = .ok (.if_icmp .le 5, 3) := by decide +kernel
theorem dX6_endsWith_16 : decode cX6_endsWith 16 = .ok (.iconst 0, 1) := by decide +kernel
theorem dX6_endsWith_17 : decode cX6_endsWith 17 = .ok (.ireturn, 1) := by decide +kernel
theorem dX6_endsWith_18 : decode cX6_endsWith 18 = .ok (.iconst 0, 1) := by decide +kernel
theorem dX6_endsWith_19 : decode cX6_endsWith 19 = .ok (.istore 4, 2) := by decide +kernel
theorem dX6_endsWith_21 : decode cX6_endsWith 21 = .ok (.iload 4, 2) := by decide +kernel
theorem dX6_endsWith_23 : decode cX6_endsWith 23 = .ok (.iload_n 3, 1) := by decide +kernel
theorem dX6_endsWith_24 : decode cX6_endsWith 24 = .ok (.if_icmp .ge 34, 3) := by decide +kernel
theorem dX6_endsWith_27 : decode cX6_endsWith 27 = .ok (.aload_n 2, 1) := by decide +kernel
theorem dX6_endsWith_28 : decode cX6_endsWith 28 = .ok (.iload 4, 2) := by decide +kernel
theorem dX6_endsWith_30 : decode cX6_endsWith 30 = .ok (.iaload, 1) := by decide +kernel
theorem dX6_endsWith_31 : decode cX6_endsWith 31 = .ok (.aload_n 0, 1) := by decide +kernel
theorem dX6_endsWith_32 : decode cX6_endsWith 32 = .ok (.iload_n 1, 1) := by decide +kernel
theorem dX6_endsWith_33 : decode cX6_endsWith 33 = .ok (.aload_n 0, 1) := by decide +kernel
theorem dX6_endsWith_34 : decode cX6_endsWith 34 = .ok (.getfield 15, 3) := by decide +kernel
theorem dX6_endsWith_37 : decode cX6_endsWith 37 = .ok (.iload_n 1, 1) := by decide +kernel
theorem dX6_endsWith_38 : decode cX6_endsWith 38 = .ok (.iaload, 1) := by decide +kernel
theorem dX6_endsWith_39 : decode cX6_endsWith 39 = .ok (.iload_n 3, 1) := by decide +kernel
theorem dX6_endsWith_40 : decode cX6_endsWith 40 = .ok (.isub, 1) := by decide +kernel
theorem dX6_endsWith_41 : decode cX6_endsWith 41 = .ok (.iload 4, 2) := by decide +kernel
theorem dX6_endsWith_43 : decode cX6_endsWith 43 = .ok (.iadd, 1) := by decide +kernel
theorem dX6_endsWith_44 : decode cX6_endsWith 44 = .ok (.invokevirtual 55, 3) := by decide +kernel
theorem dX6_endsWith_47 : decode cX6_endsWith 47 = .ok (.if_icmp .eq 5, 3) := by decide +kernel
theorem dX6_endsWith_50 : decode cX6_endsWith 50 = .ok (.iconst 0, 1) := by decide +kernel
theorem dX6_endsWith_51 : decode cX6_endsWith 51 = .ok (.ireturn, 1) := by decide +kernel
theorem dX6_endsWith_52 : decode cX6_endsWith 52 = .ok (.iinc 4 1, 3) := by decide +kernel
theorem dX6_endsWith_55 : decode cX6_endsWith 55 = .ok (.goto (-34), 3) := by decide +kernel
theorem dX6_endsWith_58 : decode cX6_endsWith 58 = .ok (.iconst 1, 1) := by decide +kernel
theorem dX6_endsWith_59 : decode cX6_endsWith 59 = .ok (.ireturn, 1) := by decide +kernel
theorem dX6_whoHas_0 : decode cX6_whoHas 0 = .ok (.iconst 0, 1) := by decide +kernel
theorem dX6_whoHas_1 : decode cX6_whoHas 1 = .ok (.istore_n 3, 1) := by decide +kernel
theorem dX6_whoHas_2 : decode cX6_whoHas 2 = .ok (.iconst 0, 1) := by decide +kernel
theorem dX6_whoHas_3 : decode cX6_whoHas 3 = .ok (.istore 4, 2) := by decide +kernel
theorem dX6_whoHas_5 : decode cX6_whoHas 5 = .ok (.iload 4, 2) := by decide +kernel
theorem dX6_whoHas_7 : decode cX6_whoHas 7 = .ok (.aload_n 1, 1) := by decide +kernel
theorem dX6_whoHas_8 : decode cX6_whoHas 8 = .ok (.getfield 71, 3) := by decide +kernel
theorem dX6_whoHas_11 : decode cX6_whoHas 11 = .ok (.if_icmp .ge 26, 3) := by decide +kernel
theorem dX6_whoHas_14 : decode cX6_whoHas 14 = .ok (.aload_n 0, 1) := by decide +kernel
theorem dX6_whoHas_15 : decode cX6_whoHas 15 = .ok (.iload 4, 2) := by decide +kernel
theorem dX6_whoHas_17 : decode cX6_whoHas 17 = .ok (.iload_n 2, 1) := by decide +kernel
theorem dX6_whoHas_18 : decode cX6_whoHas 18 = .ok (.invokevirtual 74, 3) := by decide +kernel
theorem dX6_whoHas_21 : decode cX6_whoHas 21 = .ok (.ifCond .eq 10, 3) := by decide +kernel
theorem dX6_whoHas_24 : decode cX6_whoHas 24 = .ok (.iload_n 3, 1) := by decide +kernel
theorem dX6_whoHas_25 : decode cX6_whoHas 25 = .ok (.iconst 1, 1) := by decide +kernel
theorem dX6_whoHas_26 : decode cX6_whoHas 26 = .ok (.iload 4, 2) := by decide +kernel
theorem dX6_whoHas_28 : decode cX6_whoHas 28 = .ok (.ishl, 1) := by decide +kernel
theorem dX6_whoHas_29 : decode cX6_whoHas 29 = .ok (.ior, 1) := by decide +kernel
theorem dX6_whoHas_30 : decode cX6_whoHas 30 = .ok (.istore_n 3, 1) := by decide +kernel
theorem dX6_whoHas_31 : decode cX6_whoHas 31 = .ok (.iinc 4 1, 3) := by decide +kernel
theorem dX6_whoHas_34 : decode cX6_whoHas 34 = .ok (.goto (-29), 3) := by decide +kernel
theorem dX6_whoHas_37 : decode cX6_whoHas 37 = .ok (.iload_n 3, 1) := by decide +kernel
theorem dX6_whoHas_38 : decode cX6_whoHas 38 = .ok (.ireturn, 1) := by decide +kernel
theorem dX6_stillOf_0 : decode cX6_stillOf 0 = .ok (.aload_n 0, 1) := by decide +kernel
theorem dX6_stillOf_1 : decode cX6_stillOf 1 = .ok (.getfield 21, 3) := by decide +kernel
theorem dX6_stillOf_4 : decode cX6_stillOf 4 = .ok (.iload_n 2, 1) := by decide +kernel
theorem dX6_stillOf_5 : decode cX6_stillOf 5 = .ok (.iaload, 1) := by decide +kernel
theorem dX6_stillOf_6 : decode cX6_stillOf 6 = .ok (.aload_n 0, 1) := by decide +kernel
theorem dX6_stillOf_7 : decode cX6_stillOf 7 = .ok (.getfield 24, 3) := by decide +kernel
theorem dX6_stillOf_10 : decode cX6_stillOf 10 = .ok (.iload_n 2, 1) := by decide +kernel
theorem dX6_stillOf_11 : decode cX6_stillOf 11 = .ok (.iaload, 1) := by decide +kernel
theorem dX6_stillOf_12 : decode cX6_stillOf 12 = .ok (.iadd, 1) := by decide +kernel
theorem dX6_stillOf_13 : decode cX6_stillOf 13 = .ok (.istore_n 3, 1) := by decide +kernel
theorem dX6_stillOf_14 : decode cX6_stillOf 14 = .ok (.iconst 0, 1) := by decide +kernel
theorem dX6_stillOf_15 : decode cX6_stillOf 15 = .ok (.istore 4, 2) := by decide +kernel
theorem dX6_stillOf_17 : decode cX6_stillOf 17 = .ok (.iload 4, 2) := by decide +kernel
theorem dX6_stillOf_19 : decode cX6_stillOf 19 = .ok (.aload_n 1, 1) := by decide +kernel
theorem dX6_stillOf_20 : decode cX6_stillOf 20 = .ok (.getfield 71, 3) := by decide +kernel
theorem dX6_stillOf_23 : decode cX6_stillOf 23 = .ok (.if_icmp .ge 45, 3) := by decide +kernel
theorem dX6_stillOf_26 : decode cX6_stillOf 26 = .ok (.iconst 0, 1) := by decide +kernel
theorem dX6_stillOf_27 : decode cX6_stillOf 27 = .ok (.istore 5, 2) := by decide +kernel
theorem dX6_stillOf_29 : decode cX6_stillOf 29 = .ok (.iload 5, 2) := by decide +kernel
theorem dX6_stillOf_31 : decode cX6_stillOf 31 = .ok (.aload_n 0, 1) := by decide +kernel
theorem dX6_stillOf_32 : decode cX6_stillOf 32 = .ok (.getfield 15, 3) := by decide +kernel
theorem dX6_stillOf_35 : decode cX6_stillOf 35 = .ok (.iload 4, 2) := by decide +kernel
theorem dX6_stillOf_37 : decode cX6_stillOf 37 = .ok (.iaload, 1) := by decide +kernel
theorem dX6_stillOf_38 : decode cX6_stillOf 38 = .ok (.if_icmp .ge 24, 3) := by decide +kernel
theorem dX6_stillOf_41 : decode cX6_stillOf 41 = .ok (.aload_n 0, 1) := by decide +kernel
theorem dX6_stillOf_42 : decode cX6_stillOf 42 = .ok (.iload 4, 2) := by decide +kernel
theorem dX6_stillOf_44 : decode cX6_stillOf 44 = .ok (.iload 5, 2) := by decide +kernel
theorem dX6_stillOf_46 : decode cX6_stillOf 46 = .ok (.invokevirtual 55, 3) := by decide +kernel
theorem dX6_stillOf_49 : decode cX6_stillOf 49 = .ok (.iload_n 2, 1) := by decide +kernel
theorem dX6_stillOf_50 : decode cX6_stillOf 50 = .ok (.if_icmp .ne 6, 3) := by decide +kernel
theorem dX6_stillOf_53 : decode cX6_stillOf 53 = .ok (.iinc 3 1, 3) := by decide +kernel
theorem dX6_stillOf_56 : decode cX6_stillOf 56 = .ok (.iinc 5 1, 3) := by decide +kernel
theorem dX6_stillOf_59 : decode cX6_stillOf 59 = .ok (.goto (-30), 3) := by decide +kernel
theorem dX6_stillOf_62 : decode cX6_stillOf 62 = .ok (.iinc 4 1, 3) := by decide +kernel
theorem dX6_stillOf_65 : decode cX6_stillOf 65 = .ok (.goto (-48), 3) := by decide +kernel
theorem dX6_stillOf_68 : decode cX6_stillOf 68 = .ok (.iload_n 3, 1) := by decide +kernel
theorem dX6_stillOf_69 : decode cX6_stillOf 69 = .ok (.ireturn, 1) := by decide +kernel
theorem dX6_allNests_0 : decode cX6_allNests 0 = .ok (.iconst 0, 1) := by decide +kernel
theorem dX6_allNests_1 : decode cX6_allNests 1 = .ok (.istore_n 2, 1) := by decide +kernel
theorem dX6_allNests_2 : decode cX6_allNests 2 = .ok (.iconst 0, 1) := by decide +kernel
theorem dX6_allNests_3 : decode cX6_allNests 3 = .ok (.istore_n 3, 1) := by decide +kernel
theorem dX6_allNests_4 : decode cX6_allNests 4 = .ok (.iload_n 3, 1) := by decide +kernel
theorem dX6_allNests_5 : decode cX6_allNests 5 = .ok (.aload_n 1, 1) := by decide +kernel
theorem dX6_allNests_6 : decode cX6_allNests 6 = .ok (.getfield 71, 3) := by decide +kernel
theorem dX6_allNests_9 : decode cX6_allNests 9 = .ok (.if_icmp .ge 23, 3) := by decide +kernel
theorem dX6_allNests_12 : decode cX6_allNests 12 = .ok (.aload_n 0, 1) := by decide +kernel
theorem dX6_allNests_13 : decode cX6_allNests 13 = .ok (.iload_n 3, 1) := by decide +kernel
theorem dX6_allNests_14 : decode cX6_allNests 14 = .ok (.invokevirtual 88, 3) := by decide +kernel
theorem dX6_allNests_17 : decode cX6_allNests 17 = .ok (.ifCond .eq 9, 3) := by decide +kernel
theorem dX6_allNests_20 : decode cX6_allNests 20 = .ok (.iload_n 2, 1) := by decide +kernel
theorem dX6_allNests_21 : decode cX6_allNests 21 = .ok (.iconst 1, 1) := by decide +kernel
theorem dX6_allNests_22 : decode cX6_allNests 22 = .ok (.iload_n 3, 1) := by decide +kernel
theorem dX6_allNests_23 : decode cX6_allNests 23 = .ok (.ishl, 1) := by decide +kernel
theorem dX6_allNests_24 : decode cX6_allNests 24 = .ok (.ior, 1) := by decide +kernel
theorem dX6_allNests_25 : decode cX6_allNests 25 = .ok (.istore_n 2, 1) := by decide +kernel
theorem dX6_allNests_26 : decode cX6_allNests 26 = .ok (.iinc 3 1, 3) := by decide +kernel
theorem dX6_allNests_29 : decode cX6_allNests 29 = .ok (.goto (-25), 3) := by decide +kernel
theorem dX6_allNests_32 : decode cX6_allNests 32 = .ok (.iload_n 2, 1) := by decide +kernel
theorem dX6_allNests_33 : decode cX6_allNests 33 = .ok (.ireturn, 1) := by decide +kernel
theorem dX6_draw_0 : decode cX6_draw 0 = .ok (.aload_n 0, 1) := by decide +kernel
theorem dX6_draw_1 : decode cX6_draw 1 = .ok (.aload_n 0, 1) := by decide +kernel
theorem dX6_draw_2 : decode cX6_draw 2 = .ok (.getfield 135, 3) := by decide +kernel
theorem dX6_draw_5 : decode cX6_draw 5 = .ok (.ldc 161, 2) := by decide +kernel
theorem dX6_draw_7 : decode cX6_draw 7 = .ok (.imul, 1) := by decide +kernel
theorem dX6_draw_8 : decode cX6_draw 8 = .ok (.sipush 12345, 3) := by decide +kernel
theorem dX6_draw_11 : decode cX6_draw 11 = .ok (.iadd, 1) := by decide +kernel
theorem dX6_draw_12 : decode cX6_draw 12 = .ok (.putfield 135, 3) := by decide +kernel
theorem dX6_draw_15 : decode cX6_draw 15 = .ok (.iload_n 1, 1) := by decide +kernel
theorem dX6_draw_16 : decode cX6_draw 16 = .ok (.iconst 1, 1) := by decide +kernel
theorem dX6_draw_17 : decode cX6_draw 17 = .ok (.if_icmp .ge 7, 3) := by decide +kernel
theorem dX6_draw_20 : decode cX6_draw 20 = .ok (.iconst 0, 1) := by decide +kernel
theorem dX6_draw_21 : decode cX6_draw 21 = .ok (.goto 12, 3) := by decide +kernel
theorem dX6_draw_24 : decode cX6_draw 24 = .ok (.aload_n 0, 1) := by decide +kernel
theorem dX6_draw_25 : decode cX6_draw 25 = .ok (.getfield 135, 3) := by decide +kernel
theorem dX6_draw_28 : decode cX6_draw 28 = .ok (.bipush 8, 2) := by decide +kernel
theorem dX6_draw_30 : decode cX6_draw 30 = .ok (.iushr, 1) := by decide +kernel
theorem dX6_draw_31 : decode cX6_draw 31 = .ok (.iload_n 1, 1) := by decide +kernel
theorem dX6_draw_32 : decode cX6_draw 32 = .ok (.irem, 1) := by decide +kernel
theorem dX6_draw_33 : decode cX6_draw 33 = .ok (.ireturn, 1) := by decide +kernel
theorem dX6_actAsDrawn_0 : decode cX6_actAsDrawn 0 = .ok (.aload_n 0, 1) := by decide +kernel
theorem dX6_actAsDrawn_1 : decode cX6_actAsDrawn 1 = .ok (.bipush 6, 2) := by decide +kernel
theorem dX6_actAsDrawn_3 : decode cX6_actAsDrawn 3 = .ok (.invokevirtual 142, 3) := by decide +kernel
theorem dX6_actAsDrawn_6 : decode cX6_actAsDrawn 6 = .ok (.istore_n 3, 1) := by decide +kernel
theorem dX6_actAsDrawn_7 : decode cX6_actAsDrawn 7 = .ok (.iload_n 3, 1) := by decide +kernel
theorem dX6_actAsDrawn_8 : decode cX6_actAsDrawn 8 = .ok (.iconst 1, 1) := by decide +kernel
theorem dX6_actAsDrawn_9 : decode cX6_actAsDrawn 9 = .ok (.if_icmp .gt 26, 3) := by decide +kernel
theorem dX6_actAsDrawn_12 : decode cX6_actAsDrawn 12 = .ok (.aload_n 1, 1) := by decide +kernel
theorem dX6_actAsDrawn_13 : decode cX6_actAsDrawn 13 = .ok (.getfield 146, 3) := by decide +kernel
theorem dX6_actAsDrawn_16 : decode cX6_actAsDrawn 16 = .ok (.ifCond .le 74, 3) := by decide +kernel
theorem dX6_actAsDrawn_19 : decode cX6_actAsDrawn 19 = .ok (.aload_n 0, 1) := by decide +kernel
theorem dX6_actAsDrawn_20 : decode cX6_actAsDrawn 20 = .ok (.iload_n 2, 1) := by decide +kernel
theorem dX6_actAsDrawn_21 : decode cX6_actAsDrawn 21 = .ok (.aload_n 0, 1) := by decide +kernel
theorem dX6_actAsDrawn_22 : decode cX6_actAsDrawn 22 = .ok (.aload_n 1, 1) := by decide +kernel
theorem dX6_actAsDrawn_23 : decode cX6_actAsDrawn 23 = .ok (.getfield 146, 3) := by decide +kernel
theorem dX6_actAsDrawn_26 : decode cX6_actAsDrawn 26 = .ok (.invokevirtual 142, 3) := by decide +kernel
theorem dX6_actAsDrawn_29 : decode cX6_actAsDrawn 29 = .ok (.invokevirtual 131, 3) := by decide +kernel
theorem dX6_actAsDrawn_32 : decode cX6_actAsDrawn 32 = .ok (.goto 58, 3) := by decide +kernel
theorem dX6_actAsDrawn_35 : decode cX6_actAsDrawn 35 = .ok (.iload_n 3, 1) := by decide +kernel
theorem dX6_actAsDrawn_36 : decode cX6_actAsDrawn 36 = .ok (.iconst 2, 1) := by decide +kernel
theorem dX6_actAsDrawn_37 : decode cX6_actAsDrawn 37 = .ok (.if_icmp .ne 35, 3) := by decide +kernel
theorem dX6_actAsDrawn_40 : decode cX6_actAsDrawn 40 = .ok (.aload_n 0, 1) := by decide +kernel
theorem dX6_actAsDrawn_41 : decode cX6_actAsDrawn 41 = .ok (.bipush 20, 2) := by decide +kernel
theorem dX6_actAsDrawn_43 : decode cX6_actAsDrawn 43 = .ok (.invokevirtual 142, 3) := by decide +kernel
theorem dX6_actAsDrawn_46 : decode cX6_actAsDrawn 46 = .ok (.iconst 1, 1) := by decide +kernel
theorem dX6_actAsDrawn_47 : decode cX6_actAsDrawn 47 = .ok (.iadd, 1) := by decide +kernel
theorem dX6_actAsDrawn_48 : decode cX6_actAsDrawn 48 = .ok (.istore 4, 2) := by decide +kernel
theorem dX6_actAsDrawn_50 : decode cX6_actAsDrawn 50 = .ok (.aload_n 0, 1) := by decide +kernel
theorem dX6_actAsDrawn_51 : decode cX6_actAsDrawn 51 = .ok (.aload_n 1, 1) := by decide +kernel
theorem dX6_actAsDrawn_52 : decode cX6_actAsDrawn 52 = .ok (.iload_n 2, 1) := by decide +kernel
theorem dX6_actAsDrawn_53 : decode cX6_actAsDrawn 53 = .ok (.iload 4, 2) := by decide +kernel
theorem dX6_actAsDrawn_55 : decode cX6_actAsDrawn 55 = .ok (.invokevirtual 149, 3) := by decide +kernel
theorem dX6_actAsDrawn_58 : decode cX6_actAsDrawn 58 = .ok (.ifCond .ne 11, 3) := by decide +kernel
theorem dX6_actAsDrawn_61 : decode cX6_actAsDrawn 61 = .ok (.aload_n 0, 1) := by decide +kernel
theorem dX6_actAsDrawn_62 : decode cX6_actAsDrawn 62 = .ok (.aload_n 1, 1) := by decide +kernel
theorem dX6_actAsDrawn_63 : decode cX6_actAsDrawn 63 = .ok (.iload_n 2, 1) := by decide +kernel
theorem dX6_actAsDrawn_64 : decode cX6_actAsDrawn 64 = .ok (.iload 4, 2) := by decide +kernel
theorem dX6_actAsDrawn_66 : decode cX6_actAsDrawn 66 = .ok (.invokevirtual 152, 3) := by decide +kernel
theorem dX6_actAsDrawn_69 : decode cX6_actAsDrawn 69 = .ok (.goto 21, 3) := by decide +kernel
theorem dX6_actAsDrawn_72 : decode cX6_actAsDrawn 72 = .ok (.iload_n 3, 1) := by decide +kernel
theorem dX6_actAsDrawn_73 : decode cX6_actAsDrawn 73 = .ok (.iconst 3, 1) := by decide +kernel
theorem dX6_actAsDrawn_74 : decode cX6_actAsDrawn 74 = .ok (.if_icmp .ne 16, 3) := by decide +kernel
theorem dX6_actAsDrawn_77 : decode cX6_actAsDrawn 77 = .ok (.aload_n 0, 1) := by decide +kernel
theorem dX6_actAsDrawn_78 : decode cX6_actAsDrawn 78 = .ok (.iload_n 2, 1) := by decide +kernel
theorem dX6_actAsDrawn_79 : decode cX6_actAsDrawn 79 = .ok (.invokevirtual 155, 3) := by decide +kernel
theorem dX6_actAsDrawn_82 : decode cX6_actAsDrawn 82 = .ok (.ifCond .ne 8, 3) := by decide +kernel
theorem dX6_actAsDrawn_85 : decode cX6_actAsDrawn 85 = .ok (.aload_n 0, 1) := by decide +kernel
theorem dX6_actAsDrawn_86 : decode cX6_actAsDrawn 86 = .ok (.iload_n 2, 1) := by decide +kernel
theorem dX6_actAsDrawn_87 : decode cX6_actAsDrawn 87 = .ok (.invokevirtual 158, 3) := by decide +kernel
theorem dX6_actAsDrawn_90 : decode cX6_actAsDrawn 90 = .ok (.return_, 1) := by decide +kernel
theorem dX6_letDrawnDaysGo_0 : decode cX6_letDrawnDaysGo 0 = .ok (.aload_n 0, 1) := by decide +kernel
theorem dX6_letDrawnDaysGo_1 : decode cX6_letDrawnDaysGo 1 = .ok (.iload_n 3, 1) := by decide +kernel
theorem dX6_letDrawnDaysGo_2 : decode cX6_letDrawnDaysGo 2 = .ok (.putfield 135, 3) := by decide +kernel
theorem dX6_letDrawnDaysGo_5 : decode cX6_letDrawnDaysGo 5 = .ok (.iconst 0, 1) := by decide +kernel
theorem dX6_letDrawnDaysGo_6 : decode cX6_letDrawnDaysGo 6 = .ok (.istore 4, 2) := by decide +kernel
theorem dX6_letDrawnDaysGo_8 : decode cX6_letDrawnDaysGo 8 = .ok (.iload 4, 2) := by decide +kernel
theorem dX6_letDrawnDaysGo_10 : decode cX6_letDrawnDaysGo 10 = .ok (.iload_n 2, 1) := by decide +kernel
theorem dX6_letDrawnDaysGo_11 : decode cX6_letDrawnDaysGo 11 = .ok (.if_icmp .ge 39, 3) := by decide +kernel
theorem dX6_letDrawnDaysGo_14 : decode cX6_letDrawnDaysGo 14 = .ok (.iconst 0, 1) := by decide +kernel
theorem dX6_letDrawnDaysGo_15 : decode cX6_letDrawnDaysGo 15 = .ok (.istore 5, 2) := by decide +kernel
theorem dX6_letDrawnDaysGo_17 : decode cX6_letDrawnDaysGo 17 = .ok (.iload 5, 2) := by decide +kernel
theorem dX6_letDrawnDaysGo_19 : decode cX6_letDrawnDaysGo 19 = .ok (.aload_n 1, 1) := by decide +kernel
theorem dX6_letDrawnDaysGo_20 : decode cX6_letDrawnDaysGo 20 = .ok (.getfield 71, 3) := by decide +kernel
theorem dX6_letDrawnDaysGo_23 : decode cX6_letDrawnDaysGo 23 = .ok (.if_icmp .ge 16, 3) := by decide +kernel
theorem dX6_letDrawnDaysGo_26 : decode cX6_letDrawnDaysGo 26 = .ok (.aload_n 0, 1) := by decide +kernel
theorem dX6_letDrawnDaysGo_27 : decode cX6_letDrawnDaysGo 27 = .ok (.aload_n 1, 1) := by decide +kernel
theorem dX6_letDrawnDaysGo_28 : decode cX6_letDrawnDaysGo 28 = .ok (.iload 5, 2) := by decide +kernel
theorem dX6_letDrawnDaysGo_30 : decode cX6_letDrawnDaysGo 30 = .ok (.invokevirtual 138, 3) := by decide +kernel
theorem dX6_letDrawnDaysGo_33 : decode cX6_letDrawnDaysGo 33 = .ok (.iinc 5 1, 3) := by decide +kernel
theorem dX6_letDrawnDaysGo_36 : decode cX6_letDrawnDaysGo 36 = .ok (.goto (-19), 3) := by decide +kernel
theorem dX6_letDrawnDaysGo_39 : decode cX6_letDrawnDaysGo 39 = .ok (.aload_n 0, 1) := by decide +kernel
theorem dX6_letDrawnDaysGo_40 : decode cX6_letDrawnDaysGo 40 = .ok (.aload_n 1, 1) := by decide +kernel
theorem dX6_letDrawnDaysGo_41 : decode cX6_letDrawnDaysGo 41 = .ok (.invokevirtual 115, 3) := by decide +kernel
theorem dX6_letDrawnDaysGo_44 : decode cX6_letDrawnDaysGo 44 = .ok (.iinc 4 1, 3) := by decide +kernel
theorem dX6_letDrawnDaysGo_47 : decode cX6_letDrawnDaysGo 47 = .ok (.goto (-39), 3) := by decide +kernel
theorem dX6_letDrawnDaysGo_50 : decode cX6_letDrawnDaysGo 50 = .ok (.return_, 1) := by decide +kernel
theorem dX7_put_0 : decode cX7_put 0 = .ok (.aload_n 0, 1) := by decide +kernel
theorem dX7_put_1 : decode cX7_put 1 = .ok (.getfield 17, 3) := by decide +kernel
theorem dX7_put_4 : decode cX7_put 4 = .ok (.bipush 79, 2) := by decide +kernel
theorem dX7_put_6 : decode cX7_put 6 = .ok (.if_icmp .ge 23, 3) := by decide +kernel
theorem dX7_put_9 : decode cX7_put 9 = .ok (.aload_n 0, 1) := by decide +kernel
theorem dX7_put_10 : decode cX7_put 10 = .ok (.getfield 13, 3) := by decide +kernel
theorem dX7_put_13 : decode cX7_put 13 = .ok (.aload_n 0, 1) := by decide +kernel
theorem dX7_put_14 : decode cX7_put 14 = .ok (.getfield 17, 3) := by decide +kernel
theorem dX7_put_17 : decode cX7_put 17 = .ok (.iload_n 1, 1) := by decide +kernel
theorem dX7_put_18 : decode cX7_put 18 = .ok (.iastore, 1) := by decide +kernel
theorem dX7_put_19 : decode cX7_put 19 = .ok (.aload_n 0, 1) := by decide +kernel
theorem dX7_put_20 : decode cX7_put 20 = .ok (.dup, 1) := by decide +kernel
theorem dX7_put_21 : decode cX7_put 21 = .ok (.getfield 17, 3) := by decide +kernel
theorem dX7_put_24 : decode cX7_put 24 = .ok (.iconst 1, 1) := by decide +kernel
theorem dX7_put_25 : decode cX7_put 25 = .ok (.iadd, 1) := by decide +kernel
theorem dX7_put_26 : decode cX7_put 26 = .ok (.putfield 17, 3) := by decide +kernel
theorem dX7_put_29 : decode cX7_put 29 = .ok (.return_, 1) := by decide +kernel
theorem dX7_putName_0 : decode cX7_putName 0 = .ok (.bipush 48, 2) := by decide +kernel
theorem dX7_putName_2 : decode cX7_putName 2 = .ok (.istore_n 3, 1) := by decide +kernel
theorem dX7_putName_3 : decode cX7_putName 3 = .ok (.iload_n 3, 1) := by decide +kernel
theorem dX7_putName_4 : decode cX7_putName 4 = .ok (.ifCond .lt 30, 3) := by decide +kernel
theorem dX7_putName_7 : decode cX7_putName 7 = .ok (.lload_n 1, 1) := by decide +kernel
theorem dX7_putName_8 : decode cX7_putName 8 = .ok (.iload_n 3, 1) := by decide +kernel
theorem dX7_putName_9 : decode cX7_putName 9 = .ok (.lushr, 1) := by decide +kernel
theorem dX7_putName_10 : decode cX7_putName 10 = .ok (.ldc2_w 61, 3) := by decide +kernel
theorem dX7_putName_13 : decode cX7_putName 13 = .ok (.land, 1) := by decide +kernel
theorem dX7_putName_14 : decode cX7_putName 14 = .ok (.l2i, 1) := by decide +kernel
theorem dX7_putName_15 : decode cX7_putName 15 = .ok (.istore 4, 2) := by decide +kernel
theorem dX7_putName_17 : decode cX7_putName 17 = .ok (.iload 4, 2) := by decide +kernel
theorem dX7_putName_19 : decode cX7_putName 19 = .ok (.ifCond .eq 9, 3) := by decide +kernel
theorem dX7_putName_22 : decode cX7_putName 22 = .ok (.aload_n 0, 1) := by decide +kernel
theorem dX7_putName_23 : decode cX7_putName 23 = .ok (.iload 4, 2) := by decide +kernel
theorem dX7_putName_25 : decode cX7_putName 25 = .ok (.invokevirtual 36, 3) := by decide +kernel
theorem dX7_putName_28 : decode cX7_putName 28 = .ok (.iinc 3 (-8), 3) := by decide +kernel
theorem dX7_putName_31 : decode cX7_putName 31 = .ok (.goto (-28), 3) := by decide +kernel
theorem dX7_putName_34 : decode cX7_putName 34 = .ok (.return_, 1) := by decide +kernel
theorem dX7_putKnot_0 : decode cX7_putKnot 0 = .ok (.iload_n 2, 1) := by decide +kernel
theorem dX7_putKnot_1 : decode cX7_putKnot 1 = .ok (.ifCond .lt 9, 3) := by decide +kernel
theorem dX7_putKnot_4 : decode cX7_putKnot 4 = .ok (.iload_n 2, 1) := by decide +kernel
theorem dX7_putKnot_5 : decode cX7_putKnot 5 = .ok (.bipush 8, 2) := by decide +kernel
theorem dX7_putKnot_7 : decode cX7_putKnot 7 = .ok (.if_icmp .lt 4, 3) := by decide +kernel
theorem dX7_putKnot_10 : decode cX7_putKnot 10 = .ok (.return_, 1) := by decide +kernel
theorem dX7_putKnot_11 : decode cX7_putKnot 11 = .ok (.aload_n 0, 1) := by decide +kernel
theorem dX7_putKnot_12 : decode cX7_putKnot 12 = .ok (.bipush 32, 2) := by decide +kernel
theorem dX7_putKnot_14 : decode cX7_putKnot 14 = .ok (.invokevirtual 36, 3) := by decide +kernel
theorem dX7_putKnot_17 : decode cX7_putKnot 17 = .ok (.aload_n 0, 1) := by decide +kernel
theorem dX7_putKnot_18 : decode cX7_putKnot 18 = .ok (.aload_n 1, 1) := by decide +kernel
theorem dX7_putKnot_19 : decode cX7_putKnot 19 = .ok (.getfield 58, 3) := by decide +kernel
theorem dX7_putKnot_22 : decode cX7_putKnot 22 = .ok (.iload_n 2, 1) := by decide +kernel
theorem dX7_putKnot_23 : decode cX7_putKnot 23 = .ok (.laload, 1) := by decide +kernel
theorem dX7_putKnot_24 : decode cX7_putKnot 24 = .ok (.invokevirtual 27, 3) := by decide +kernel
theorem dX7_putKnot_27 : decode cX7_putKnot 27 = .ok (.iload_n 3, 1) := by decide +kernel
theorem dX7_putKnot_28 : decode cX7_putKnot 28 = .ok (.iconst 1, 1) := by decide +kernel
theorem dX7_putKnot_29 : decode cX7_putKnot 29 = .ok (.if_icmp .le 11, 3) := by decide +kernel
theorem dX7_putKnot_32 : decode cX7_putKnot 32 = .ok (.aload_n 0, 1) := by decide +kernel
theorem dX7_putKnot_33 : decode cX7_putKnot 33 = .ok (.bipush 48, 2) := by decide +kernel
theorem dX7_putKnot_35 : decode cX7_putKnot 35 = .ok (.iload_n 3, 1) := by decide +kernel
theorem dX7_putKnot_36 : decode cX7_putKnot 36 = .ok (.iadd, 1) := by decide +kernel
theorem dX7_putKnot_37 : decode cX7_putKnot 37 = .ok (.invokevirtual 36, 3) := by decide +kernel
theorem dX7_putKnot_40 : decode cX7_putKnot 40 = .ok (.return_, 1) := by decide +kernel
theorem dX7_write_0 : decode cX7_write 0 = .ok (.aload_n 0, 1) := by decide +kernel
theorem dX7_write_1 : decode cX7_write 1 = .ok (.iconst 0, 1) := by decide +kernel
theorem dX7_write_2 : decode cX7_write 2 = .ok (.putfield 17, 3) := by decide +kernel
theorem dX7_write_5 : decode cX7_write 5 = .ok (.aload_n 0, 1) := by decide +kernel
theorem dX7_write_6 : decode cX7_write 6 = .ok (.aload_n 1, 1) := by decide +kernel
theorem dX7_write_7 : decode cX7_write 7 = .ok (.getfield 21, 3) := by decide +kernel
theorem dX7_write_10 : decode cX7_write 10 = .ok (.iload_n 3, 1) := by decide +kernel
theorem dX7_write_11 : decode cX7_write 11 = .ok (.laload, 1) := by decide +kernel
theorem dX7_write_12 : decode cX7_write 12 = .ok (.invokevirtual 27, 3) := by decide +kernel
theorem dX7_write_15 : decode cX7_write 15 = .ok (.aload_n 2, 1) := by decide +kernel
theorem dX7_write_16 : decode cX7_write 16 = .ok (.getfield 31, 3) := by decide +kernel
theorem dX7_write_19 : decode cX7_write 19 = .ok (.iload_n 3, 1) := by decide +kernel
theorem dX7_write_20 : decode cX7_write 20 = .ok (.iaload, 1) := by decide +kernel
theorem dX7_write_21 : decode cX7_write 21 = .ok (.ifCond .ne 19, 3) := by decide +kernel
theorem dX7_write_24 : decode cX7_write 24 = .ok (.aload_n 0, 1) := by decide +kernel
theorem dX7_write_25 : decode cX7_write 25 = .ok (.bipush 32, 2) := by decide +kernel
theorem dX7_write_27 : decode cX7_write 27 = .ok (.invokevirtual 36, 3) := by decide +kernel
theorem dX7_write_30 : decode cX7_write 30 = .ok (.aload_n 0, 1) := by decide +kernel
theorem dX7_write_31 : decode cX7_write 31 = .ok (.getstatic 40, 3) := by decide +kernel
theorem dX7_write_34 : decode cX7_write 34 = .ok (.getfield 46, 3) := by decide +kernel
theorem dX7_write_37 : decode cX7_write 37 = .ok (.invokevirtual 27, 3) := by decide +kernel
theorem dX7_write_40 : decode cX7_write 40 = .ok (.iconst 0, 1) := by decide +kernel
theorem dX7_write_41 : decode cX7_write 41 = .ok (.istore 4, 2) := by decide +kernel
theorem dX7_write_43 : decode cX7_write 43 = .ok (.iconst 0, 1) := by decide +kernel
theorem dX7_write_44 : decode cX7_write 44 = .ok (.istore 5, 2) := by decide +kernel
theorem dX7_write_46 : decode cX7_write 46 = .ok (.iload 5, 2) := by decide +kernel
theorem dX7_write_48 : decode cX7_write 48 = .ok (.aload_n 2, 1) := by decide +kernel
theorem dX7_write_49 : decode cX7_write 49 = .ok (.getfield 31, 3) := by decide +kernel
theorem dX7_write_52 : decode cX7_write 52 = .ok (.iload_n 3, 1) := by decide +kernel
theorem dX7_write_53 : decode cX7_write 53 = .ok (.iaload, 1) := by decide +kernel
theorem dX7_write_54 : decode cX7_write 54 = .ok (.if_icmp .ge 47, 3) := by decide +kernel
theorem dX7_write_57 : decode cX7_write 57 = .ok (.aload_n 2, 1) := by decide +kernel
theorem dX7_write_58 : decode cX7_write 58 = .ok (.iload_n 3, 1) := by decide +kernel
theorem dX7_write_59 : decode cX7_write 59 = .ok (.iload 5, 2) := by decide +kernel
theorem dX7_write_61 : decode cX7_write 61 = .ok (.invokevirtual 50, 3) := by decide +kernel
theorem dX7_write_64 : decode cX7_write 64 = .ok (.istore 6, 2) := by decide +kernel
theorem dX7_write_66 : decode cX7_write 66 = .ok (.iinc 4 1, 3) := by decide +kernel
theorem dX7_write_69 : decode cX7_write 69 = .ok (.iload 6, 2) := by decide +kernel
theorem dX7_write_71 : decode cX7_write 71 = .ok (.aload_n 2, 1) := by decide +kernel
theorem dX7_write_72 : decode cX7_write 72 = .ok (.iload_n 3, 1) := by decide +kernel
theorem dX7_write_73 : decode cX7_write 73 = .ok (.iload 5, 2) := by decide +kernel
theorem dX7_write_75 : decode cX7_write 75 = .ok (.iconst 1, 1) := by decide +kernel
theorem dX7_write_76 : decode cX7_write 76 = .ok (.iadd, 1) := by decide +kernel
theorem dX7_write_77 : decode cX7_write 77 = .ok (.invokevirtual 50, 3) := by decide +kernel
theorem dX7_write_80 : decode cX7_write 80 = .ok (.if_icmp .eq 15, 3) := by decide +kernel
theorem dX7_write_83 : decode cX7_write 83 = .ok (.aload_n 0, 1) := by decide +kernel
theorem dX7_write_84 : decode cX7_write 84 = .ok (.aload_n 1, 1) := by decide +kernel
theorem dX7_write_85 : decode cX7_write 85 = .ok (.iload 6, 2) := by decide +kernel
theorem dX7_write_87 : decode cX7_write 87 = .ok (.iload 4, 2) := by decide +kernel
theorem dX7_write_89 : decode cX7_write 89 = .ok (.invokevirtual 54, 3) := by decide +kernel
theorem dX7_write_92 : decode cX7_write 92 = .ok (.iconst 0, 1) := by decide +kernel
theorem dX7_write_93 : decode cX7_write 93 = .ok (.istore 4, 2) := by decide +kernel
theorem dX7_write_95 : decode cX7_write 95 = .ok (.iinc 5 1, 3) := by decide +kernel
theorem dX7_write_98 : decode cX7_write 98 = .ok (.goto (-52), 3) := by decide +kernel
theorem dX7_write_101 : decode cX7_write 101 = .ok (.return_, 1) := by decide +kernel
theorem dX8_putNumber_0 : decode cX8_putNumber 0 = .ok (.bipush 24, 2) := by decide +kernel
theorem dX8_putNumber_2 : decode cX8_putNumber 2 = .ok (.istore_n 2, 1) := by decide +kernel
theorem dX8_putNumber_3 : decode cX8_putNumber 3 = .ok (.iload_n 2, 1) := by decide +kernel
theorem dX8_putNumber_4 : decode cX8_putNumber 4 = .ok (.ifCond .lt 45, 3) := by decide +kernel
theorem dX8_putNumber_7 : decode cX8_putNumber 7 = .ok (.aload_n 0, 1) := by decide +kernel
theorem dX8_putNumber_8 : decode cX8_putNumber 8 = .ok (.getfield 15, 3) := by decide +kernel
theorem dX8_putNumber_11 : decode cX8_putNumber 11 = .ok (.sipush 940, 3) := by decide +kernel
theorem dX8_putNumber_14 : decode cX8_putNumber 14 = .ok (.if_icmp .ge 35, 3) := by decide +kernel
theorem dX8_putNumber_17 : decode cX8_putNumber 17 = .ok (.aload_n 0, 1) := by decide +kernel
theorem dX8_putNumber_18 : decode cX8_putNumber 18 = .ok (.getfield 11, 3) := by decide +kernel
theorem dX8_putNumber_21 : decode cX8_putNumber 21 = .ok (.aload_n 0, 1) := by decide +kernel
theorem dX8_putNumber_22 : decode cX8_putNumber 22 = .ok (.getfield 15, 3) := by decide +kernel
theorem dX8_putNumber_25 : decode cX8_putNumber 25 = .ok (.iload_n 1, 1) := by decide +kernel
theorem dX8_putNumber_26 : decode cX8_putNumber 26 = .ok (.iload_n 2, 1) := by decide +kernel
theorem dX8_putNumber_27 : decode cX8_putNumber 27 = .ok (.iushr, 1) := by decide +kernel
theorem dX8_putNumber_28 : decode cX8_putNumber 28 = .ok (.sipush 255, 3) := by decide +kernel
theorem dX8_putNumber_31 : decode cX8_putNumber 31 = .ok (.iand, 1) := by decide +kernel
theorem dX8_putNumber_32 : decode cX8_putNumber 32 = .ok (.iastore, 1) := by decide +kernel
theorem dX8_putNumber_33 : decode cX8_putNumber 33 = .ok (.aload_n 0, 1) := by decide +kernel
theorem dX8_putNumber_34 : decode cX8_putNumber 34 = .ok (.dup, 1) := by decide +kernel
theorem dX8_putNumber_35 : decode cX8_putNumber 35 = .ok (.getfield 15, 3) := by decide +kernel
theorem dX8_putNumber_38 : decode cX8_putNumber 38 = .ok (.iconst 1, 1) := by decide +kernel
theorem dX8_putNumber_39 : decode cX8_putNumber 39 = .ok (.iadd, 1) := by decide +kernel
theorem dX8_putNumber_40 : decode cX8_putNumber 40 = .ok (.putfield 15, 3) := by decide +kernel
theorem dX8_putNumber_43 : decode cX8_putNumber 43 = .ok (.iinc 2 (-8), 3) := by decide +kernel
theorem dX8_putNumber_46 : decode cX8_putNumber 46 = .ok (.goto (-43), 3) := by decide +kernel
theorem dX8_putNumber_49 : decode cX8_putNumber 49 = .ok (.return_, 1) := by decide +kernel
theorem dX10_feed_0 : decode cX10_feed 0 = .ok (.aload_n 0, 1) := by decide +kernel
theorem dX10_feed_1 : decode cX10_feed 1 = .ok (.getfield 10, 3) := by decide +kernel
theorem dX10_feed_4 : decode cX10_feed 4 = .ok (.getfield 94, 3) := by decide +kernel
theorem dX10_feed_7 : decode cX10_feed 7 = .ok (.bipush 20, 2) := by decide +kernel
theorem dX10_feed_9 : decode cX10_feed 9 = .ok (.iadd, 1) := by decide +kernel
theorem dX10_feed_10 : decode cX10_feed 10 = .ok (.sipush 940, 3) := by decide +kernel
theorem dX10_feed_13 : decode cX10_feed 13 = .ok (.if_icmp .le 5, 3) := by decide +kernel
theorem dX10_feed_16 : decode cX10_feed 16 = .ok (.iconst (-1), 1) := by decide +kernel
theorem dX10_feed_17 : decode cX10_feed 17 = .ok (.ireturn, 1) := by decide +kernel
theorem dX10_feed_18 : decode cX10_feed 18 = .ok (.aload_n 0, 1) := by decide +kernel
theorem dX10_feed_19 : decode cX10_feed 19 = .ok (.getfield 10, 3) := by decide +kernel
theorem dX10_feed_22 : decode cX10_feed 22 = .ok (.iload_n 1, 1) := by decide +kernel
theorem dX10_feed_23 : decode cX10_feed 23 = .ok (.invokevirtual 97, 3) := by decide +kernel
theorem dX10_feed_26 : decode cX10_feed 26 = .ok (.aload_n 0, 1) := by decide +kernel
theorem dX10_feed_27 : decode cX10_feed 27 = .ok (.getfield 10, 3) := by decide +kernel
theorem dX10_feed_30 : decode cX10_feed 30 = .ok (.iload_n 2, 1) := by decide +kernel
theorem dX10_feed_31 : decode cX10_feed 31 = .ok (.invokevirtual 97, 3) := by decide +kernel
theorem dX10_feed_34 : decode cX10_feed 34 = .ok (.aload_n 0, 1) := by decide +kernel
theorem dX10_feed_35 : decode cX10_feed 35 = .ok (.getfield 10, 3) := by decide +kernel
theorem dX10_feed_38 : decode cX10_feed 38 = .ok (.iload_n 3, 1) := by decide +kernel
theorem dX10_feed_39 : decode cX10_feed 39 = .ok (.invokevirtual 97, 3) := by decide +kernel
theorem dX10_feed_42 : decode cX10_feed 42 = .ok (.aload_n 0, 1) := by decide +kernel
theorem dX10_feed_43 : decode cX10_feed 43 = .ok (.getfield 10, 3) := by decide +kernel
theorem dX10_feed_46 : decode cX10_feed 46 = .ok (.iload 4, 2) := by decide +kernel
theorem dX10_feed_48 : decode cX10_feed 48 = .ok (.invokevirtual 97, 3) := by decide +kernel
theorem dX10_feed_51 : decode cX10_feed 51 = .ok (.aload_n 0, 1) := by decide +kernel
theorem dX10_feed_52 : decode cX10_feed 52 = .ok (.getfield 10, 3) := by decide +kernel
theorem dX10_feed_55 : decode cX10_feed 55 = .ok (.iload 5, 2) := by decide +kernel
theorem dX10_feed_57 : decode cX10_feed 57 = .ok (.invokevirtual 97, 3) := by decide +kernel
theorem dX10_feed_60 : decode cX10_feed 60 = .ok (.aload_n 0, 1) := by decide +kernel
theorem dX10_feed_61 : decode cX10_feed 61 = .ok (.getfield 10, 3) := by decide +kernel
theorem dX10_feed_64 : decode cX10_feed 64 = .ok (.getfield 94, 3) := by decide +kernel
theorem dX10_feed_67 : decode cX10_feed 67 = .ok (.ireturn, 1) := by decide +kernel
theorem dX10_end_0 : decode cX10_end 0 = .ok (.iload_n 1, 1) := by decide +kernel
theorem dX10_end_1 : decode cX10_end 1 = .ok (.ifCond .lt 14, 3) := by decide +kernel
theorem dX10_end_4 : decode cX10_end 4 = .ok (.iload_n 1, 1) := by decide +kernel
theorem dX10_end_5 : decode cX10_end 5 = .ok (.aload_n 0, 1) := by decide +kernel
theorem dX10_end_6 : decode cX10_end 6 = .ok (.getfield 10, 3) := by decide +kernel
theorem dX10_end_9 : decode cX10_end 9 = .ok (.getfield 94, 3) := by decide +kernel
theorem dX10_end_12 : decode cX10_end 12 = .ok (.if_icmp .le 5, 3) := by decide +kernel
theorem dX10_end_15 : decode cX10_end 15 = .ok (.iconst 0, 1) := by decide +kernel
theorem dX10_end_16 : decode cX10_end 16 = .ok (.ireturn, 1) := by decide +kernel
theorem dX10_end_17 : decode cX10_end 17 = .ok (.aload_n 0, 1) := by decide +kernel
theorem dX10_end_18 : decode cX10_end 18 = .ok (.getfield 10, 3) := by decide +kernel
theorem dX10_end_21 : decode cX10_end 21 = .ok (.iload_n 1, 1) := by decide +kernel
theorem dX10_end_22 : decode cX10_end 22 = .ok (.putfield 94, 3) := by decide +kernel
theorem dX10_end_25 : decode cX10_end 25 = .ok (.iconst 1, 1) := by decide +kernel
theorem dX10_end_26 : decode cX10_end 26 = .ok (.ireturn, 1) := by decide +kernel
theorem dX10_quarter_0 : decode cX10_quarter 0 = .ok (.aload_n 0, 1) := by decide +kernel
theorem dX10_quarter_1 : decode cX10_quarter 1 = .ok (.getfield 72, 3) := by decide +kernel
theorem dX10_quarter_4 : decode cX10_quarter 4 = .ok (.aload_n 0, 1) := by decide +kernel
theorem dX10_quarter_5 : decode cX10_quarter 5 = .ok (.getfield 10, 3) := by decide +kernel
theorem dX10_quarter_8 : decode cX10_quarter 8 = .ok (.aload_n 0, 1) := by decide +kernel
theorem dX10_quarter_9 : decode cX10_quarter 9 = .ok (.getfield 78, 3) := by decide +kernel
theorem dX10_quarter_12 : decode cX10_quarter 12 = .ok (.invokevirtual 101, 3) := by decide +kernel
theorem dX10_quarter_15 : decode cX10_quarter 15 = .ok (.istore_n 1, 1) := by decide +kernel
theorem dX10_quarter_16 : decode cX10_quarter 16 = .ok (.aload_n 0, 1) := by decide +kernel
theorem dX10_quarter_17 : decode cX10_quarter 17 = .ok (.getfield 10, 3) := by decide +kernel
theorem dX10_quarter_20 : decode cX10_quarter 20 = .ok (.iconst 0, 1) := by decide +kernel
theorem dX10_quarter_21 : decode cX10_quarter 21 = .ok (.putfield 94, 3) := by decide +kernel
theorem dX10_quarter_24 : decode cX10_quarter 24 = .ok (.aload_n 0, 1) := by decide +kernel
theorem dX10_quarter_25 : decode cX10_quarter 25 = .ok (.aload_n 0, 1) := by decide +kernel
theorem dX10_quarter_26 : decode cX10_quarter 26 = .ok (.getfield 10, 3) := by decide +kernel
theorem dX10_quarter_29 : decode cX10_quarter 29 = .ok (.getfield 105, 3) := by decide +kernel
theorem dX10_quarter_32 : decode cX10_quarter 32 = .ok (.putfield 81, 3) := by decide +kernel
theorem dX10_quarter_35 : decode cX10_quarter 35 = .ok (.aload_n 0, 1) := by decide +kernel
theorem dX10_quarter_36 : decode cX10_quarter 36 = .ok (.getfield 81, 3) := by decide +kernel
theorem dX10_quarter_39 : decode cX10_quarter 39 = .ok (.ifCond .eq 13, 3) := by decide +kernel
theorem dX10_quarter_42 : decode cX10_quarter 42 = .ok (.iconst (-1), 1) := by decide +kernel
theorem dX10_quarter_43 : decode cX10_quarter 43 = .ok (.aload_n 0, 1) := by decide +kernel
theorem dX10_quarter_44 : decode cX10_quarter 44 = .ok (.getfield 10, 3) := by decide +kernel
theorem dX10_quarter_47 : decode cX10_quarter 47 = .ok (.getfield 108, 3) := by decide +kernel
theorem dX10_quarter_50 : decode cX10_quarter 50 = .ok (.isub, 1) := by decide +kernel
theorem dX10_quarter_51 : decode cX10_quarter 51 = .ok (.ireturn, 1) := by decide +kernel
theorem dX10_quarter_52 : decode cX10_quarter 52 = .ok (.aload_n 0, 1) := by decide +kernel
theorem dX10_quarter_53 : decode cX10_quarter 53 = .ok (.getfield 19, 3) := by decide +kernel
theorem dX10_quarter_56 : decode cX10_quarter 56 = .ok (.aload_n 0, 1) := by decide +kernel
theorem dX10_quarter_57 : decode cX10_quarter 57 = .ok (.getfield 72, 3) := by decide +kernel
theorem dX10_quarter_60 : decode cX10_quarter 60 = .ok (.invokevirtual 111, 3) := by decide +kernel
theorem dX10_quarter_63 : decode cX10_quarter 63 = .ok (.aload_n 0, 1) := by decide +kernel
theorem dX10_quarter_64 : decode cX10_quarter 64 = .ok (.getfield 26, 3) := by decide +kernel
theorem dX10_quarter_67 : decode cX10_quarter 67 = .ok (.aload_n 0, 1) := by decide +kernel
theorem dX10_quarter_68 : decode cX10_quarter 68 = .ok (.getfield 78, 3) := by decide +kernel
theorem dX10_quarter_71 : decode cX10_quarter 71 = .ok (.invokevirtual 115, 3) := by decide +kernel
theorem dX10_quarter_74 : decode cX10_quarter 74 = .ok (.aload_n 0, 1) := by decide +kernel
theorem dX10_quarter_75 : decode cX10_quarter 75 = .ok (.getfield 33, 3) := by decide +kernel
theorem dX10_quarter_78 : decode cX10_quarter 78 = .ok (.invokevirtual 118, 3) := by decide +kernel
theorem dX10_quarter_81 : decode cX10_quarter 81 = .ok (.aload_n 0, 1) := by decide +kernel
theorem dX10_quarter_82 : decode cX10_quarter 82 = .ok (.getfield 40, 3) := by decide +kernel
theorem dX10_quarter_85 : decode cX10_quarter 85 = .ok (.invokevirtual 121, 3) := by decide +kernel
theorem dX10_quarter_88 : decode cX10_quarter 88 = .ok (.iload_n 1, 1) := by decide +kernel
theorem dX10_quarter_89 : decode cX10_quarter 89 = .ok (.ireturn, 1) := by decide +kernel
theorem dX10_fault_0 : decode cX10_fault 0 = .ok (.aload_n 0, 1) := by decide +kernel
theorem dX10_fault_1 : decode cX10_fault 1 = .ok (.getfield 81, 3) := by decide +kernel
theorem dX10_fault_4 : decode cX10_fault 4 = .ok (.ireturn, 1) := by decide +kernel
theorem dX10_isPerson_0 : decode cX10_isPerson 0 = .ok (.iload_n 1, 1) := by decide +kernel
theorem dX10_isPerson_1 : decode cX10_isPerson 1 = .ok (.ifCond .lt 18, 3) := by decide +kernel
theorem dX10_isPerson_4 : decode cX10_isPerson 4 = .ok (.iload_n 1, 1) := by decide +kernel
theorem dX10_isPerson_5 : decode cX10_isPerson 5 = .ok (.aload_n 0, 1) := by decide +kernel
theorem dX10_isPerson_6 : decode cX10_isPerson 6 = .ok (.getfield 19, 3) := by decide +kernel
theorem dX10_isPerson_9 : decode cX10_isPerson 9 = .ok (.getfield 286, 3) := by decide +kernel
theorem dX10_isPerson_12 : decode cX10_isPerson 12 = .ok (.if_icmp .ge 7, 3) := by decide +kernel
theorem dX10_isPerson_15 : decode cX10_isPerson 15 = .ok (.iconst 1, 1) := by decide +kernel
theorem dX10_isPerson_16 : decode cX10_isPerson 16 = .ok (.goto 4, 3) := by decide +kernel
theorem dX10_isPerson_19 : decode cX10_isPerson 19 = .ok (.iconst 0, 1) := by decide +kernel
theorem dX10_isPerson_20 : decode cX10_isPerson 20 = .ok (.ireturn, 1) := by decide +kernel
theorem dX10_layer_0 : decode cX10_layer 0 = .ok (.aload_n 0, 1) := by decide +kernel
theorem dX10_layer_1 : decode cX10_layer 1 = .ok (.iload_n 1, 1) := by decide +kernel
theorem dX10_layer_2 : decode cX10_layer 2 = .ok (.invokevirtual 122, 3) := by decide +kernel
theorem dX10_layer_5 : decode cX10_layer 5 = .ok (.ifCond .eq 15, 3) := by decide +kernel
theorem dX10_layer_8 : decode cX10_layer 8 = .ok (.aload_n 0, 1) := by decide +kernel
theorem dX10_layer_9 : decode cX10_layer 9 = .ok (.getfield 26, 3) := by decide +kernel
theorem dX10_layer_12 : decode cX10_layer 12 = .ok (.iload_n 1, 1) := by decide +kernel
theorem dX10_layer_13 : decode cX10_layer 13 = .ok (.iload_n 2, 1) := by decide +kernel
theorem dX10_layer_14 : decode cX10_layer 14 = .ok (.invokevirtual 159, 3) := by decide +kernel
theorem dX10_layer_17 : decode cX10_layer 17 = .ok (.goto 4, 3) := by decide +kernel
theorem dX10_layer_20 : decode cX10_layer 20 = .ok (.iconst (-1), 1) := by decide +kernel
theorem dX10_layer_21 : decode cX10_layer 21 = .ok (.ireturn, 1) := by decide +kernel
theorem dX10_isThing_0 : decode cX10_isThing 0 = .ok (.iload_n 1, 1) := by decide +kernel
theorem dX10_isThing_1 : decode cX10_isThing 1 = .ok (.ifCond .lt 18, 3) := by decide +kernel
theorem dX10_isThing_4 : decode cX10_isThing 4 = .ok (.iload_n 1, 1) := by decide +kernel
theorem dX10_isThing_5 : decode cX10_isThing 5 = .ok (.aload_n 0, 1) := by decide +kernel
theorem dX10_isThing_6 : decode cX10_isThing 6 = .ok (.getfield 19, 3) := by decide +kernel
theorem dX10_isThing_9 : decode cX10_isThing 9 = .ok (.getfield 358, 3) := by decide +kernel
theorem dX10_isThing_12 : decode cX10_isThing 12 = .ok (.if_icmp .ge 7, 3) := by decide +kernel
theorem dX10_isThing_15 : decode cX10_isThing 15 = .ok (.iconst 1, 1) := by decide +kernel
theorem dX10_isThing_16 : decode cX10_isThing 16 = .ok (.goto 4, 3) := by decide +kernel
theorem dX10_isThing_19 : decode cX10_isThing 19 = .ok (.iconst 0, 1) := by decide +kernel
theorem dX10_isThing_20 : decode cX10_isThing 20 = .ok (.ireturn, 1) := by decide +kernel
theorem dX10_thing_0 : decode cX10_thing 0 = .ok (.aload_n 0, 1) := by decide +kernel
theorem dX10_thing_1 : decode cX10_thing 1 = .ok (.iload_n 1, 1) := by decide +kernel
theorem dX10_thing_2 : decode cX10_thing 2 = .ok (.invokevirtual 163, 3) := by decide +kernel
theorem dX10_thing_5 : decode cX10_thing 5 = .ok (.ifCond .ne 5, 3) := by decide +kernel
theorem dX10_thing_8 : decode cX10_thing 8 = .ok (.iconst (-1), 1) := by decide +kernel
theorem dX10_thing_9 : decode cX10_thing 9 = .ok (.ireturn, 1) := by decide +kernel
theorem dX10_thing_10 : decode cX10_thing 10 = .ok (.iload_n 2, 1) := by decide +kernel
theorem dX10_thing_11 : decode cX10_thing 11 = .ok (.tableswitch 89 0 4 #[33, 43, 53, 63, 76], 33) := by decide +kernel
theorem dX10_thing_44 : decode cX10_thing 44 = .ok (.aload_n 0, 1) := by decide +kernel
theorem dX10_thing_45 : decode cX10_thing 45 = .ok (.getfield 19, 3) := by decide +kernel
theorem dX10_thing_48 : decode cX10_thing 48 = .ok (.getfield 166, 3) := by decide +kernel
theorem dX10_thing_51 : decode cX10_thing 51 = .ok (.iload_n 1, 1) := by decide +kernel
theorem dX10_thing_52 : decode cX10_thing 52 = .ok (.iaload, 1) := by decide +kernel
theorem dX10_thing_53 : decode cX10_thing 53 = .ok (.ireturn, 1) := by decide +kernel
theorem dX10_thing_54 : decode cX10_thing 54 = .ok (.aload_n 0, 1) := by decide +kernel
theorem dX10_thing_55 : decode cX10_thing 55 = .ok (.getfield 19, 3) := by decide +kernel
theorem dX10_thing_58 : decode cX10_thing 58 = .ok (.getfield 169, 3) := by decide +kernel
theorem dX10_thing_61 : decode cX10_thing 61 = .ok (.iload_n 1, 1) := by decide +kernel
theorem dX10_thing_62 : decode cX10_thing 62 = .ok (.iaload, 1) := by decide +kernel
theorem dX10_thing_63 : decode cX10_thing 63 = .ok (.ireturn, 1) := by decide +kernel
theorem dX10_thing_64 : decode cX10_thing 64 = .ok (.aload_n 0, 1) := by decide +kernel
theorem dX10_thing_65 : decode cX10_thing 65 = .ok (.getfield 26, 3) := by decide +kernel
theorem dX10_thing_68 : decode cX10_thing 68 = .ok (.getfield 172, 3) := by decide +kernel
theorem dX10_thing_71 : decode cX10_thing 71 = .ok (.iload_n 1, 1) := by decide +kernel
theorem dX10_thing_72 : decode cX10_thing 72 = .ok (.iaload, 1) := by decide +kernel
theorem dX10_thing_73 : decode cX10_thing 73 = .ok (.ireturn, 1) := by decide +kernel
theorem dX10_thing_74 : decode cX10_thing 74 = .ok (.aload_n 0, 1) := by decide +kernel
theorem dX10_thing_75 : decode cX10_thing 75 = .ok (.getfield 26, 3) := by decide +kernel
theorem dX10_thing_78 : decode cX10_thing 78 = .ok (.aload_n 0, 1) := by decide +kernel
theorem dX10_thing_79 : decode cX10_thing 79 = .ok (.getfield 19, 3) := by decide +kernel
theorem dX10_thing_82 : decode cX10_thing 82 = .ok (.iload_n 1, 1) := by decide +kernel
theorem dX10_thing_83 : decode cX10_thing 83 = .ok (.invokevirtual 175, 3) := by decide +kernel
theorem dX10_thing_86 : decode cX10_thing 86 = .ok (.ireturn, 1) := by decide +kernel
theorem dX10_thing_87 : decode cX10_thing 87 = .ok (.aload_n 0, 1) := by decide +kernel
theorem dX10_thing_88 : decode cX10_thing 88 = .ok (.getfield 26, 3) := by decide +kernel
theorem dX10_thing_91 : decode cX10_thing 91 = .ok (.aload_n 0, 1) := by decide +kernel
theorem dX10_thing_92 : decode cX10_thing 92 = .ok (.getfield 19, 3) := by decide +kernel
theorem dX10_thing_95 : decode cX10_thing 95 = .ok (.iload_n 1, 1) := by decide +kernel
theorem dX10_thing_96 : decode cX10_thing 96 = .ok (.invokevirtual 178, 3) := by decide +kernel
theorem dX10_thing_99 : decode cX10_thing 99 = .ok (.ireturn, 1) := by decide +kernel
theorem dX10_thing_100 : decode cX10_thing 100 = .ok (.iconst (-1), 1) := by decide +kernel
theorem dX10_thing_101 : decode cX10_thing 101 = .ok (.ireturn, 1) := by decide +kernel
theorem dX10_isBed_0 : decode cX10_isBed 0 = .ok (.iload_n 1, 1) := by decide +kernel
theorem dX10_isBed_1 : decode cX10_isBed 1 = .ok (.ifCond .lt 18, 3) := by decide +kernel
theorem dX10_isBed_4 : decode cX10_isBed 4 = .ok (.iload_n 1, 1) := by decide +kernel
theorem dX10_isBed_5 : decode cX10_isBed 5 = .ok (.aload_n 0, 1) := by decide +kernel
theorem dX10_isBed_6 : decode cX10_isBed 6 = .ok (.getfield 19, 3) := by decide +kernel
theorem dX10_isBed_9 : decode cX10_isBed 9 = .ok (.getfield 364, 3) := by decide +kernel
theorem dX10_isBed_12 : decode cX10_isBed 12 = .ok (.if_icmp .ge 7, 3) := by decide +kernel
theorem dX10_isBed_15 : decode cX10_isBed 15 = .ok (.iconst 1, 1) := by decide +kernel
theorem dX10_isBed_16 : decode cX10_isBed 16 = .ok (.goto 4, 3) := by decide +kernel
theorem dX10_isBed_19 : decode cX10_isBed 19 = .ok (.iconst 0, 1) := by decide +kernel
theorem dX10_isBed_20 : decode cX10_isBed 20 = .ok (.ireturn, 1) := by decide +kernel
theorem dX10_bed_0 : decode cX10_bed 0 = .ok (.aload_n 0, 1) := by decide +kernel
theorem dX10_bed_1 : decode cX10_bed 1 = .ok (.iload_n 1, 1) := by decide +kernel
theorem dX10_bed_2 : decode cX10_bed 2 = .ok (.invokevirtual 181, 3) := by decide +kernel
theorem dX10_bed_5 : decode cX10_bed 5 = .ok (.ifCond .ne 5, 3) := by decide +kernel
theorem dX10_bed_8 : decode cX10_bed 8 = .ok (.iconst (-1), 1) := by decide +kernel
theorem dX10_bed_9 : decode cX10_bed 9 = .ok (.ireturn, 1) := by decide +kernel
theorem dX10_bed_10 : decode cX10_bed 10 = .ok (.iload_n 2, 1) := by decide +kernel
theorem dX10_bed_11 : decode cX10_bed 11 = .ok (.tableswitch 80 0 3 #[29, 39, 49, 70], 29) := by decide +kernel
theorem dX10_bed_40 : decode cX10_bed 40 = .ok (.aload_n 0, 1) := by decide +kernel
theorem dX10_bed_41 : decode cX10_bed 41 = .ok (.getfield 19, 3) := by decide +kernel
theorem dX10_bed_44 : decode cX10_bed 44 = .ok (.getfield 184, 3) := by decide +kernel
theorem dX10_bed_47 : decode cX10_bed 47 = .ok (.iload_n 1, 1) := by decide +kernel
theorem dX10_bed_48 : decode cX10_bed 48 = .ok (.iaload, 1) := by decide +kernel
theorem dX10_bed_49 : decode cX10_bed 49 = .ok (.ireturn, 1) := by decide +kernel
theorem dX10_bed_50 : decode cX10_bed 50 = .ok (.aload_n 0, 1) := by decide +kernel
theorem dX10_bed_51 : decode cX10_bed 51 = .ok (.getfield 26, 3) := by decide +kernel
theorem dX10_bed_54 : decode cX10_bed 54 = .ok (.getfield 187, 3) := by decide +kernel
theorem dX10_bed_57 : decode cX10_bed 57 = .ok (.iload_n 1, 1) := by decide +kernel
theorem dX10_bed_58 : decode cX10_bed 58 = .ok (.iaload, 1) := by decide +kernel
theorem dX10_bed_59 : decode cX10_bed 59 = .ok (.ireturn, 1) := by decide +kernel
theorem dX10_bed_60 : decode cX10_bed 60 = .ok (.aload_n 0, 1) := by decide +kernel
theorem dX10_bed_61 : decode cX10_bed 61 = .ok (.getfield 26, 3) := by decide +kernel
theorem dX10_bed_64 : decode cX10_bed 64 = .ok (.aload_n 0, 1) := by decide +kernel
theorem dX10_bed_65 : decode cX10_bed 65 = .ok (.getfield 19, 3) := by decide +kernel
theorem dX10_bed_68 : decode cX10_bed 68 = .ok (.iload_n 1, 1) := by decide +kernel
theorem dX10_bed_69 : decode cX10_bed 69 = .ok (.invokevirtual 188, 3) := by decide +kernel
theorem dX10_bed_72 : decode cX10_bed 72 = .ok (.ifCond .eq 7, 3) := by decide +kernel
theorem dX10_bed_75 : decode cX10_bed 75 = .ok (.iconst 1, 1) := by decide +kernel
theorem dX10_bed_76 : decode cX10_bed 76 = .ok (.goto 4, 3) := by decide +kernel
theorem dX10_bed_79 : decode cX10_bed 79 = .ok (.iconst 0, 1) := by decide +kernel
theorem dX10_bed_80 : decode cX10_bed 80 = .ok (.ireturn, 1) := by decide +kernel
theorem dX10_bed_81 : decode cX10_bed 81 = .ok (.aload_n 0, 1) := by decide +kernel
theorem dX10_bed_82 : decode cX10_bed 82 = .ok (.getfield 26, 3) := by decide +kernel
theorem dX10_bed_85 : decode cX10_bed 85 = .ok (.getfield 192, 3) := by decide +kernel
theorem dX10_bed_88 : decode cX10_bed 88 = .ok (.iload_n 1, 1) := by decide +kernel
theorem dX10_bed_89 : decode cX10_bed 89 = .ok (.iaload, 1) := by decide +kernel
theorem dX10_bed_90 : decode cX10_bed 90 = .ok (.ireturn, 1) := by decide +kernel
theorem dX10_bed_91 : decode cX10_bed 91 = .ok (.iconst (-1), 1) := by decide +kernel
theorem dX10_bed_92 : decode cX10_bed 92 = .ok (.ireturn, 1) := by decide +kernel
theorem dX10_now_0 : decode cX10_now 0 = .ok (.iload_n 1, 1) := by decide +kernel
theorem dX10_now_1 : decode cX10_now 1 = .ok (.tableswitch 107 0 6 #[43, 51, 59, 71, 83, 91, 99], 43) := by decide +kernel
theorem dX10_now_44 : decode cX10_now 44 = .ok (.aload_n 0, 1) := by decide +kernel
theorem dX10_now_45 : decode cX10_now 45 = .ok (.getfield 26, 3) := by decide +kernel
theorem dX10_now_48 : decode cX10_now 48 = .ok (.getfield 195, 3) := by decide +kernel
theorem dX10_now_51 : decode cX10_now 51 = .ok (.ireturn, 1) := by decide +kernel
theorem dX10_now_52 : decode cX10_now 52 = .ok (.aload_n 0, 1) := by decide +kernel
theorem dX10_now_53 : decode cX10_now 53 = .ok (.getfield 26, 3) := by decide +kernel
theorem dX10_now_56 : decode cX10_now 56 = .ok (.getfield 198, 3) := by decide +kernel
theorem dX10_now_59 : decode cX10_now 59 = .ok (.ireturn, 1) := by decide +kernel
theorem dX10_now_60 : decode cX10_now 60 = .ok (.aload_n 0, 1) := by decide +kernel
theorem dX10_now_61 : decode cX10_now 61 = .ok (.getfield 26, 3) := by decide +kernel
theorem dX10_now_64 : decode cX10_now 64 = .ok (.aload_n 0, 1) := by decide +kernel
theorem dX10_now_65 : decode cX10_now 65 = .ok (.getfield 19, 3) := by decide +kernel
theorem dX10_now_68 : decode cX10_now 68 = .ok (.invokevirtual 201, 3) := by decide +kernel
theorem dX10_now_71 : decode cX10_now 71 = .ok (.ireturn, 1) := by decide +kernel
theorem dX10_now_72 : decode cX10_now 72 = .ok (.aload_n 0, 1) := by decide +kernel
theorem dX10_now_73 : decode cX10_now 73 = .ok (.getfield 26, 3) := by decide +kernel
theorem dX10_now_76 : decode cX10_now 76 = .ok (.aload_n 0, 1) := by decide +kernel
theorem dX10_now_77 : decode cX10_now 77 = .ok (.getfield 19, 3) := by decide +kernel
theorem dX10_now_80 : decode cX10_now 80 = .ok (.invokevirtual 205, 3) := by decide +kernel
theorem dX10_now_83 : decode cX10_now 83 = .ok (.ireturn, 1) := by decide +kernel
theorem dX10_now_84 : decode cX10_now 84 = .ok (.aload_n 0, 1) := by decide +kernel
theorem dX10_now_85 : decode cX10_now 85 = .ok (.getfield 26, 3) := by decide +kernel
theorem dX10_now_88 : decode cX10_now 88 = .ok (.getfield 208, 3) := by decide +kernel
theorem dX10_now_91 : decode cX10_now 91 = .ok (.ireturn, 1) := by decide +kernel
theorem dX10_now_92 : decode cX10_now 92 = .ok (.aload_n 0, 1) := by decide +kernel
theorem dX10_now_93 : decode cX10_now 93 = .ok (.getfield 26, 3) := by decide +kernel
theorem dX10_now_96 : decode cX10_now 96 = .ok (.getfield 211, 3) := by decide +kernel
theorem dX10_now_99 : decode cX10_now 99 = .ok (.ireturn, 1) := by decide +kernel
theorem dX10_now_100 : decode cX10_now 100 = .ok (.aload_n 0, 1) := by decide +kernel
theorem dX10_now_101 : decode cX10_now 101 = .ok (.getfield 26, 3) := by decide +kernel
theorem dX10_now_104 : decode cX10_now 104 = .ok (.getfield 214, 3) := by decide +kernel
theorem dX10_now_107 : decode cX10_now 107 = .ok (.ireturn, 1) := by decide +kernel
theorem dX10_now_108 : decode cX10_now 108 = .ok (.iconst (-1), 1) := by decide +kernel
theorem dX10_now_109 : decode cX10_now 109 = .ok (.ireturn, 1) := by decide +kernel
theorem dX10_stroke_0 : decode cX10_stroke 0 = .ok (.aload_n 0, 1) := by decide +kernel
theorem dX10_stroke_1 : decode cX10_stroke 1 = .ok (.iload_n 1, 1) := by decide +kernel
theorem dX10_stroke_2 : decode cX10_stroke 2 = .ok (.invokevirtual 122, 3) := by decide +kernel
theorem dX10_stroke_5 : decode cX10_stroke 5 = .ok (.ifCond .eq 14, 3) := by decide +kernel
theorem dX10_stroke_8 : decode cX10_stroke 8 = .ok (.iload_n 2, 1) := by decide +kernel
theorem dX10_stroke_9 : decode cX10_stroke 9 = .ok (.iconst 1, 1) := by decide +kernel
theorem dX10_stroke_10 : decode cX10_stroke 10 = .ok (.if_icmp .lt 9, 3) := by decide +kernel
theorem dX10_stroke_13 : decode cX10_stroke 13 = .ok (.iload_n 2, 1) := by decide +kernel
theorem dX10_stroke_14 : decode cX10_stroke 14 = .ok (.bipush 20, 2) := by decide +kernel
theorem dX10_stroke_16 : decode cX10_stroke 16 = .ok (.if_icmp .le 5, 3) := by decide +kernel
theorem dX10_stroke_19 : decode cX10_stroke 19 = .ok (.iconst (-1), 1) := by decide +kernel
theorem dX10_stroke_20 : decode cX10_stroke 20 = .ok (.ireturn, 1) := by decide +kernel
theorem dX10_stroke_21 : decode cX10_stroke 21 = .ok (.aload_n 0, 1) := by decide +kernel
theorem dX10_stroke_22 : decode cX10_stroke 22 = .ok (.getfield 26, 3) := by decide +kernel
theorem dX10_stroke_25 : decode cX10_stroke 25 = .ok (.aload_n 0, 1) := by decide +kernel
theorem dX10_stroke_26 : decode cX10_stroke 26 = .ok (.getfield 19, 3) := by decide +kernel
theorem dX10_stroke_29 : decode cX10_stroke 29 = .ok (.iload_n 1, 1) := by decide +kernel
theorem dX10_stroke_30 : decode cX10_stroke 30 = .ok (.iload_n 2, 1) := by decide +kernel
theorem dX10_stroke_31 : decode cX10_stroke 31 = .ok (.invokevirtual 217, 3) := by decide +kernel
theorem dX10_stroke_34 : decode cX10_stroke 34 = .ok (.istore_n 3, 1) := by decide +kernel
theorem dX10_stroke_35 : decode cX10_stroke 35 = .ok (.iload_n 3, 1) := by decide +kernel
theorem dX10_stroke_36 : decode cX10_stroke 36 = .ok (.ifCond .ne 27, 3) := by decide +kernel
theorem dX10_stroke_39 : decode cX10_stroke 39 = .ok (.aload_n 0, 1) := by decide +kernel
theorem dX10_stroke_40 : decode cX10_stroke 40 = .ok (.getfield 40, 3) := by decide +kernel
theorem dX10_stroke_43 : decode cX10_stroke 43 = .ok (.aload_n 0, 1) := by decide +kernel
theorem dX10_stroke_44 : decode cX10_stroke 44 = .ok (.getfield 26, 3) := by decide +kernel
theorem dX10_stroke_47 : decode cX10_stroke 47 = .ok (.invokevirtual 221, 3) := by decide +kernel
theorem dX10_stroke_50 : decode cX10_stroke 50 = .ok (.aload_n 0, 1) := by decide +kernel
theorem dX10_stroke_51 : decode cX10_stroke 51 = .ok (.getfield 26, 3) := by decide +kernel
theorem dX10_stroke_54 : decode cX10_stroke 54 = .ok (.aload_n 0, 1) := by decide +kernel
theorem dX10_stroke_55 : decode cX10_stroke 55 = .ok (.getfield 19, 3) := by decide +kernel
theorem dX10_stroke_58 : decode cX10_stroke 58 = .ok (.iload_n 1, 1) := by decide +kernel
theorem dX10_stroke_59 : decode cX10_stroke 59 = .ok (.iload_n 2, 1) := by decide +kernel
theorem dX10_stroke_60 : decode cX10_stroke 60 = .ok (.invokevirtual 224, 3) := by decide +kernel
theorem dX10_stroke_63 : decode cX10_stroke 63 = .ok (.iload_n 3, 1) := by decide +kernel
theorem dX10_stroke_64 : decode cX10_stroke 64 = .ok (.ireturn, 1) := by decide +kernel
theorem dX10_cut_0 : decode cX10_cut 0 = .ok (.aload_n 0, 1) := by decide +kernel
theorem dX10_cut_1 : decode cX10_cut 1 = .ok (.iload_n 1, 1) := by decide +kernel
theorem dX10_cut_2 : decode cX10_cut 2 = .ok (.invokevirtual 122, 3) := by decide +kernel
theorem dX10_cut_5 : decode cX10_cut 5 = .ok (.ifCond .ne 5, 3) := by decide +kernel
theorem dX10_cut_8 : decode cX10_cut 8 = .ok (.iconst (-1), 1) := by decide +kernel
theorem dX10_cut_9 : decode cX10_cut 9 = .ok (.ireturn, 1) := by decide +kernel
theorem dX10_cut_10 : decode cX10_cut 10 = .ok (.aload_n 0, 1) := by decide +kernel
theorem dX10_cut_11 : decode cX10_cut 11 = .ok (.getfield 26, 3) := by decide +kernel
theorem dX10_cut_14 : decode cX10_cut 14 = .ok (.iload_n 1, 1) := by decide +kernel
theorem dX10_cut_15 : decode cX10_cut 15 = .ok (.invokevirtual 228, 3) := by decide +kernel
theorem dX10_cut_18 : decode cX10_cut 18 = .ok (.istore_n 2, 1) := by decide +kernel
theorem dX10_cut_19 : decode cX10_cut 19 = .ok (.iload_n 2, 1) := by decide +kernel
theorem dX10_cut_20 : decode cX10_cut 20 = .ok (.ifCond .ne 22, 3) := by decide +kernel
theorem dX10_cut_23 : decode cX10_cut 23 = .ok (.aload_n 0, 1) := by decide +kernel
theorem dX10_cut_24 : decode cX10_cut 24 = .ok (.getfield 40, 3) := by decide +kernel
theorem dX10_cut_27 : decode cX10_cut 27 = .ok (.aload_n 0, 1) := by decide +kernel
theorem dX10_cut_28 : decode cX10_cut 28 = .ok (.getfield 26, 3) := by decide +kernel
theorem dX10_cut_31 : decode cX10_cut 31 = .ok (.invokevirtual 221, 3) := by decide +kernel
theorem dX10_cut_34 : decode cX10_cut 34 = .ok (.aload_n 0, 1) := by decide +kernel
theorem dX10_cut_35 : decode cX10_cut 35 = .ok (.getfield 26, 3) := by decide +kernel
theorem dX10_cut_38 : decode cX10_cut 38 = .ok (.iload_n 1, 1) := by decide +kernel
theorem dX10_cut_39 : decode cX10_cut 39 = .ok (.invokevirtual 231, 3) := by decide +kernel
theorem dX10_cut_42 : decode cX10_cut 42 = .ok (.iload_n 2, 1) := by decide +kernel
theorem dX10_cut_43 : decode cX10_cut 43 = .ok (.ireturn, 1) := by decide +kernel
theorem dX10_snag_0 : decode cX10_snag 0 = .ok (.aload_n 0, 1) := by decide +kernel
theorem dX10_snag_1 : decode cX10_snag 1 = .ok (.iload_n 1, 1) := by decide +kernel
theorem dX10_snag_2 : decode cX10_snag 2 = .ok (.invokevirtual 122, 3) := by decide +kernel
theorem dX10_snag_5 : decode cX10_snag 5 = .ok (.ifCond .eq 11, 3) := by decide +kernel
theorem dX10_snag_8 : decode cX10_snag 8 = .ok (.aload_n 0, 1) := by decide +kernel
theorem dX10_snag_9 : decode cX10_snag 9 = .ok (.iload_n 2, 1) := by decide +kernel
theorem dX10_snag_10 : decode cX10_snag 10 = .ok (.invokevirtual 163, 3) := by decide +kernel
theorem dX10_snag_13 : decode cX10_snag 13 = .ok (.ifCond .ne 5, 3) := by decide +kernel
theorem dX10_snag_16 : decode cX10_snag 16 = .ok (.iconst (-1), 1) := by decide +kernel
theorem dX10_snag_17 : decode cX10_snag 17 = .ok (.ireturn, 1) := by decide +kernel
theorem dX10_snag_18 : decode cX10_snag 18 = .ok (.aload_n 0, 1) := by decide +kernel
theorem dX10_snag_19 : decode cX10_snag 19 = .ok (.getfield 26, 3) := by decide +kernel
theorem dX10_snag_22 : decode cX10_snag 22 = .ok (.iload_n 1, 1) := by decide +kernel
theorem dX10_snag_23 : decode cX10_snag 23 = .ok (.invokevirtual 234, 3) := by decide +kernel
theorem dX10_snag_26 : decode cX10_snag 26 = .ok (.istore_n 3, 1) := by decide +kernel
theorem dX10_snag_27 : decode cX10_snag 27 = .ok (.iload_n 3, 1) := by decide +kernel
theorem dX10_snag_28 : decode cX10_snag 28 = .ok (.ifCond .ne 23, 3) := by decide +kernel
theorem dX10_snag_31 : decode cX10_snag 31 = .ok (.aload_n 0, 1) := by decide +kernel
theorem dX10_snag_32 : decode cX10_snag 32 = .ok (.getfield 40, 3) := by decide +kernel
theorem dX10_snag_35 : decode cX10_snag 35 = .ok (.aload_n 0, 1) := by decide +kernel
theorem dX10_snag_36 : decode cX10_snag 36 = .ok (.getfield 26, 3) := by decide +kernel
theorem dX10_snag_39 : decode cX10_snag 39 = .ok (.invokevirtual 221, 3) := by decide +kernel
theorem dX10_snag_42 : decode cX10_snag 42 = .ok (.aload_n 0, 1) := by decide +kernel
theorem dX10_snag_43 : decode cX10_snag 43 = .ok (.getfield 26, 3) := by decide +kernel
theorem dX10_snag_46 : decode cX10_snag 46 = .ok (.iload_n 1, 1) := by decide +kernel
theorem dX10_snag_47 : decode cX10_snag 47 = .ok (.iload_n 2, 1) := by decide +kernel
theorem dX10_snag_48 : decode cX10_snag 48 = .ok (.invokevirtual 237, 3) := by decide +kernel
theorem dX10_snag_51 : decode cX10_snag 51 = .ok (.iload_n 3, 1) := by decide +kernel
theorem dX10_snag_52 : decode cX10_snag 52 = .ok (.ireturn, 1) := by decide +kernel
theorem dX10_stuff_0 : decode cX10_stuff 0 = .ok (.aload_n 0, 1) := by decide +kernel
theorem dX10_stuff_1 : decode cX10_stuff 1 = .ok (.iload_n 1, 1) := by decide +kernel
theorem dX10_stuff_2 : decode cX10_stuff 2 = .ok (.invokevirtual 181, 3) := by decide +kernel
theorem dX10_stuff_5 : decode cX10_stuff 5 = .ok (.ifCond .eq 11, 3) := by decide +kernel
theorem dX10_stuff_8 : decode cX10_stuff 8 = .ok (.aload_n 0, 1) := by decide +kernel
theorem dX10_stuff_9 : decode cX10_stuff 9 = .ok (.iload_n 2, 1) := by decide +kernel
theorem dX10_stuff_10 : decode cX10_stuff 10 = .ok (.invokevirtual 163, 3) := by decide +kernel
theorem dX10_stuff_13 : decode cX10_stuff 13 = .ok (.ifCond .ne 5, 3) := by decide +kernel
theorem dX10_stuff_16 : decode cX10_stuff 16 = .ok (.iconst (-1), 1) := by decide +kernel
theorem dX10_stuff_17 : decode cX10_stuff 17 = .ok (.ireturn, 1) := by decide +kernel
theorem dX10_stuff_18 : decode cX10_stuff 18 = .ok (.aload_n 0, 1) := by decide +kernel
theorem dX10_stuff_19 : decode cX10_stuff 19 = .ok (.getfield 26, 3) := by decide +kernel
theorem dX10_stuff_22 : decode cX10_stuff 22 = .ok (.iload_n 2, 1) := by decide +kernel
theorem dX10_stuff_23 : decode cX10_stuff 23 = .ok (.invokevirtual 241, 3) := by decide +kernel
theorem dX10_stuff_26 : decode cX10_stuff 26 = .ok (.istore_n 3, 1) := by decide +kernel
theorem dX10_stuff_27 : decode cX10_stuff 27 = .ok (.iload_n 3, 1) := by decide +kernel
theorem dX10_stuff_28 : decode cX10_stuff 28 = .ok (.ifCond .ne 27, 3) := by decide +kernel
theorem dX10_stuff_31 : decode cX10_stuff 31 = .ok (.aload_n 0, 1) := by decide +kernel
theorem dX10_stuff_32 : decode cX10_stuff 32 = .ok (.getfield 40, 3) := by decide +kernel
theorem dX10_stuff_35 : decode cX10_stuff 35 = .ok (.aload_n 0, 1) := by decide +kernel
theorem dX10_stuff_36 : decode cX10_stuff 36 = .ok (.getfield 26, 3) := by decide +kernel
theorem dX10_stuff_39 : decode cX10_stuff 39 = .ok (.invokevirtual 221, 3) := by decide +kernel
theorem dX10_stuff_42 : decode cX10_stuff 42 = .ok (.aload_n 0, 1) := by decide +kernel
theorem dX10_stuff_43 : decode cX10_stuff 43 = .ok (.getfield 26, 3) := by decide +kernel
theorem dX10_stuff_46 : decode cX10_stuff 46 = .ok (.aload_n 0, 1) := by decide +kernel
theorem dX10_stuff_47 : decode cX10_stuff 47 = .ok (.getfield 19, 3) := by decide +kernel
theorem dX10_stuff_50 : decode cX10_stuff 50 = .ok (.iload_n 1, 1) := by decide +kernel
theorem dX10_stuff_51 : decode cX10_stuff 51 = .ok (.iload_n 2, 1) := by decide +kernel
theorem dX10_stuff_52 : decode cX10_stuff 52 = .ok (.invokevirtual 244, 3) := by decide +kernel
theorem dX10_stuff_55 : decode cX10_stuff 55 = .ok (.iload_n 3, 1) := by decide +kernel
theorem dX10_stuff_56 : decode cX10_stuff 56 = .ok (.ireturn, 1) := by decide +kernel
theorem dX10_days_0 : decode cX10_days 0 = .ok (.iload_n 1, 1) := by decide +kernel
theorem dX10_days_1 : decode cX10_days 1 = .ok (.iconst 1, 1) := by decide +kernel
theorem dX10_days_2 : decode cX10_days 2 = .ok (.if_icmp .lt 9, 3) := by decide +kernel
theorem dX10_days_5 : decode cX10_days 5 = .ok (.iload_n 1, 1) := by decide +kernel
theorem dX10_days_6 : decode cX10_days 6 = .ok (.bipush 60, 2) := by decide +kernel
theorem dX10_days_8 : decode cX10_days 8 = .ok (.if_icmp .le 5, 3) := by decide +kernel
theorem dX10_days_11 : decode cX10_days 11 = .ok (.iconst (-1), 1) := by decide +kernel
theorem dX10_days_12 : decode cX10_days 12 = .ok (.ireturn, 1) := by decide +kernel
theorem dX10_days_13 : decode cX10_days 13 = .ok (.iload_n 1, 1) := by decide +kernel
theorem dX10_days_14 : decode cX10_days 14 = .ok (.aload_n 0, 1) := by decide +kernel
theorem dX10_days_15 : decode cX10_days 15 = .ok (.getfield 26, 3) := by decide +kernel
theorem dX10_days_18 : decode cX10_days 18 = .ok (.invokevirtual 247, 3) := by decide +kernel
theorem dX10_days_21 : decode cX10_days 21 = .ok (.invokestatic 251, 3) := by decide +kernel
theorem dX10_days_24 : decode cX10_days 24 = .ok (.istore_n 2, 1) := by decide +kernel
theorem dX10_days_25 : decode cX10_days 25 = .ok (.iload_n 2, 1) := by decide +kernel
theorem dX10_days_26 : decode cX10_days 26 = .ok (.ifCond .le 26, 3) := by decide +kernel
theorem dX10_days_29 : decode cX10_days 29 = .ok (.aload_n 0, 1) := by decide +kernel
theorem dX10_days_30 : decode cX10_days 30 = .ok (.getfield 40, 3) := by decide +kernel
theorem dX10_days_33 : decode cX10_days 33 = .ok (.aload_n 0, 1) := by decide +kernel
theorem dX10_days_34 : decode cX10_days 34 = .ok (.getfield 26, 3) := by decide +kernel
theorem dX10_days_37 : decode cX10_days 37 = .ok (.invokevirtual 221, 3) := by decide +kernel
theorem dX10_days_40 : decode cX10_days 40 = .ok (.aload_n 0, 1) := by decide +kernel
theorem dX10_days_41 : decode cX10_days 41 = .ok (.getfield 26, 3) := by decide +kernel
theorem dX10_days_44 : decode cX10_days 44 = .ok (.aload_n 0, 1) := by decide +kernel
theorem dX10_days_45 : decode cX10_days 45 = .ok (.getfield 19, 3) := by decide +kernel
theorem dX10_days_48 : decode cX10_days 48 = .ok (.iload_n 2, 1) := by decide +kernel
theorem dX10_days_49 : decode cX10_days 49 = .ok (.invokevirtual 256, 3) := by decide +kernel
theorem dX10_days_52 : decode cX10_days 52 = .ok (.iload_n 2, 1) := by decide +kernel
theorem dX10_days_53 : decode cX10_days 53 = .ok (.ireturn, 1) := by decide +kernel
theorem dX10_undo_0 : decode cX10_undo 0 = .ok (.aload_n 0, 1) := by decide +kernel
theorem dX10_undo_1 : decode cX10_undo 1 = .ok (.getfield 40, 3) := by decide +kernel
theorem dX10_undo_4 : decode cX10_undo 4 = .ok (.aload_n 0, 1) := by decide +kernel
theorem dX10_undo_5 : decode cX10_undo 5 = .ok (.getfield 26, 3) := by decide +kernel
theorem dX10_undo_8 : decode cX10_undo 8 = .ok (.invokevirtual 260, 3) := by decide +kernel
theorem dX10_undo_11 : decode cX10_undo 11 = .ok (.ireturn, 1) := by decide +kernel
theorem dX10_ease_0 : decode cX10_ease 0 = .ok (.aload_n 0, 1) := by decide +kernel
theorem dX10_ease_1 : decode cX10_ease 1 = .ok (.iload_n 1, 1) := by decide +kernel
theorem dX10_ease_2 : decode cX10_ease 2 = .ok (.invokevirtual 122, 3) := by decide +kernel
theorem dX10_ease_5 : decode cX10_ease 5 = .ok (.ifCond .eq 22, 3) := by decide +kernel
theorem dX10_ease_8 : decode cX10_ease 8 = .ok (.aload_n 0, 1) := by decide +kernel
theorem dX10_ease_9 : decode cX10_ease 9 = .ok (.getfield 54, 3) := by decide +kernel
theorem dX10_ease_12 : decode cX10_ease 12 = .ok (.aload_n 0, 1) := by decide +kernel
theorem dX10_ease_13 : decode cX10_ease 13 = .ok (.getfield 19, 3) := by decide +kernel
theorem dX10_ease_16 : decode cX10_ease 16 = .ok (.aload_n 0, 1) := by decide +kernel
theorem dX10_ease_17 : decode cX10_ease 17 = .ok (.getfield 26, 3) := by decide +kernel
theorem dX10_ease_20 : decode cX10_ease 20 = .ok (.iload_n 1, 1) := by decide +kernel
theorem dX10_ease_21 : decode cX10_ease 21 = .ok (.invokevirtual 264, 3) := by decide +kernel
theorem dX10_ease_24 : decode cX10_ease 24 = .ok (.goto 4, 3) := by decide +kernel
theorem dX10_ease_27 : decode cX10_ease 27 = .ok (.iconst (-1), 1) := by decide +kernel
theorem dX10_ease_28 : decode cX10_ease 28 = .ok (.ireturn, 1) := by decide +kernel
theorem dX10_nests_0 : decode cX10_nests 0 = .ok (.aload_n 0, 1) := by decide +kernel
theorem dX10_nests_1 : decode cX10_nests 1 = .ok (.iload_n 1, 1) := by decide +kernel
theorem dX10_nests_2 : decode cX10_nests 2 = .ok (.invokevirtual 122, 3) := by decide +kernel
theorem dX10_nests_5 : decode cX10_nests 5 = .ok (.ifCond .eq 22, 3) := by decide +kernel
theorem dX10_nests_8 : decode cX10_nests 8 = .ok (.aload_n 0, 1) := by decide +kernel
theorem dX10_nests_9 : decode cX10_nests 9 = .ok (.getfield 54, 3) := by decide +kernel
theorem dX10_nests_12 : decode cX10_nests 12 = .ok (.aload_n 0, 1) := by decide +kernel
theorem dX10_nests_13 : decode cX10_nests 13 = .ok (.getfield 19, 3) := by decide +kernel
theorem dX10_nests_16 : decode cX10_nests 16 = .ok (.aload_n 0, 1) := by decide +kernel
theorem dX10_nests_17 : decode cX10_nests 17 = .ok (.getfield 26, 3) := by decide +kernel
theorem dX10_nests_20 : decode cX10_nests 20 = .ok (.iload_n 1, 1) := by decide +kernel
theorem dX10_nests_21 : decode cX10_nests 21 = .ok (.invokevirtual 268, 3) := by decide +kernel
theorem dX10_nests_24 : decode cX10_nests 24 = .ok (.goto 4, 3) := by decide +kernel
theorem dX10_nests_27 : decode cX10_nests 27 = .ok (.iconst (-1), 1) := by decide +kernel
theorem dX10_nests_28 : decode cX10_nests 28 = .ok (.ireturn, 1) := by decide +kernel
theorem dX10_round_0 : decode cX10_round 0 = .ok (.iload_n 1, 1) := by decide +kernel
theorem dX10_round_1 : decode cX10_round 1 = .ok (.ifCond .lt 10, 3) := by decide +kernel
theorem dX10_round_4 : decode cX10_round 4 = .ok (.iload_n 1, 1) := by decide +kernel
theorem dX10_round_5 : decode cX10_round 5 = .ok (.sipush 999, 3) := by decide +kernel
theorem dX10_round_8 : decode cX10_round 8 = .ok (.if_icmp .le 5, 3) := by decide +kernel
theorem dX10_round_11 : decode cX10_round 11 = .ok (.iconst (-1), 1) := by decide +kernel
theorem dX10_round_12 : decode cX10_round 12 = .ok (.ireturn, 1) := by decide +kernel
theorem dX10_round_13 : decode cX10_round 13 = .ok (.aload_n 0, 1) := by decide +kernel
theorem dX10_round_14 : decode cX10_round 14 = .ok (.aload_n 0, 1) := by decide +kernel
theorem dX10_round_15 : decode cX10_round 15 = .ok (.getfield 54, 3) := by decide +kernel
theorem dX10_round_18 : decode cX10_round 18 = .ok (.aload_n 0, 1) := by decide +kernel
theorem dX10_round_19 : decode cX10_round 19 = .ok (.getfield 19, 3) := by decide +kernel
theorem dX10_round_22 : decode cX10_round 22 = .ok (.aload_n 0, 1) := by decide +kernel
theorem dX10_round_23 : decode cX10_round 23 = .ok (.getfield 26, 3) := by decide +kernel
theorem dX10_round_26 : decode cX10_round 26 = .ok (.iload_n 1, 1) := by decide +kernel
theorem dX10_round_27 : decode cX10_round 27 = .ok (.invokevirtual 271, 3) := by decide +kernel
theorem dX10_round_30 : decode cX10_round 30 = .ok (.putfield 85, 3) := by decide +kernel
theorem dX10_round_33 : decode cX10_round 33 = .ok (.aload_n 0, 1) := by decide +kernel
theorem dX10_round_34 : decode cX10_round 34 = .ok (.getfield 85, 3) := by decide +kernel
theorem dX10_round_37 : decode cX10_round 37 = .ok (.invokestatic 274, 3) := by decide +kernel
theorem dX10_round_40 : decode cX10_round 40 = .ok (.ireturn, 1) := by decide +kernel
theorem dX10_rounded_0 : decode cX10_rounded 0 = .ok (.aload_n 0, 1) := by decide +kernel
theorem dX10_rounded_1 : decode cX10_rounded 1 = .ok (.getfield 85, 3) := by decide +kernel
theorem dX10_rounded_4 : decode cX10_rounded 4 = .ok (.ireturn, 1) := by decide +kernel
theorem dX10_beds_0 : decode cX10_beds 0 = .ok (.aload_n 0, 1) := by decide +kernel
theorem dX10_beds_1 : decode cX10_beds 1 = .ok (.aload_n 0, 1) := by decide +kernel
theorem dX10_beds_2 : decode cX10_beds 2 = .ok (.getfield 54, 3) := by decide +kernel
theorem dX10_beds_5 : decode cX10_beds 5 = .ok (.aload_n 0, 1) := by decide +kernel
theorem dX10_beds_6 : decode cX10_beds 6 = .ok (.getfield 19, 3) := by decide +kernel
theorem dX10_beds_9 : decode cX10_beds 9 = .ok (.aload_n 0, 1) := by decide +kernel
theorem dX10_beds_10 : decode cX10_beds 10 = .ok (.getfield 26, 3) := by decide +kernel
theorem dX10_beds_13 : decode cX10_beds 13 = .ok (.invokevirtual 279, 3) := by decide +kernel
theorem dX10_beds_16 : decode cX10_beds 16 = .ok (.putfield 88, 3) := by decide +kernel
theorem dX10_beds_19 : decode cX10_beds 19 = .ok (.aload_n 0, 1) := by decide +kernel
theorem dX10_beds_20 : decode cX10_beds 20 = .ok (.getfield 88, 3) := by decide +kernel
theorem dX10_beds_23 : decode cX10_beds 23 = .ok (.invokestatic 274, 3) := by decide +kernel
theorem dX10_beds_26 : decode cX10_beds 26 = .ok (.ireturn, 1) := by decide +kernel
theorem dX10_bedded_0 : decode cX10_bedded 0 = .ok (.aload_n 0, 1) := by decide +kernel
theorem dX10_bedded_1 : decode cX10_bedded 1 = .ok (.getfield 88, 3) := by decide +kernel
theorem dX10_bedded_4 : decode cX10_bedded 4 = .ok (.ireturn, 1) := by decide +kernel
theorem dX10_fits_0 : decode cX10_fits 0 = .ok (.aload_n 0, 1) := by decide +kernel
theorem dX10_fits_1 : decode cX10_fits 1 = .ok (.getfield 10, 3) := by decide +kernel
theorem dX10_fits_4 : decode cX10_fits 4 = .ok (.getfield 94, 3) := by decide +kernel
theorem dX10_fits_7 : decode cX10_fits 7 = .ok (.istore_n 1, 1) := by decide +kernel
theorem dX10_fits_8 : decode cX10_fits 8 = .ok (.aload_n 0, 1) := by decide +kernel
theorem dX10_fits_9 : decode cX10_fits 9 = .ok (.getfield 10, 3) := by decide +kernel
theorem dX10_fits_12 : decode cX10_fits 12 = .ok (.iconst 0, 1) := by decide +kernel
theorem dX10_fits_13 : decode cX10_fits 13 = .ok (.putfield 94, 3) := by decide +kernel
theorem dX10_fits_16 : decode cX10_fits 16 = .ok (.iload_n 1, 1) := by decide +kernel
theorem dX10_fits_17 : decode cX10_fits 17 = .ok (.iconst 1, 1) := by decide +kernel
theorem dX10_fits_18 : decode cX10_fits 18 = .ok (.if_icmp .lt 9, 3) := by decide +kernel
theorem dX10_fits_21 : decode cX10_fits 21 = .ok (.iload_n 1, 1) := by decide +kernel
theorem dX10_fits_22 : decode cX10_fits 22 = .ok (.bipush 8, 2) := by decide +kernel
theorem dX10_fits_24 : decode cX10_fits 24 = .ok (.if_icmp .le 5, 3) := by decide +kernel
theorem dX10_fits_27 : decode cX10_fits 27 = .ok (.iconst (-1), 1) := by decide +kernel
theorem dX10_fits_28 : decode cX10_fits 28 = .ok (.ireturn, 1) := by decide +kernel
theorem dX10_fits_29 : decode cX10_fits 29 = .ok (.iconst 0, 1) := by decide +kernel
theorem dX10_fits_30 : decode cX10_fits 30 = .ok (.istore_n 2, 1) := by decide +kernel
theorem dX10_fits_31 : decode cX10_fits 31 = .ok (.iload_n 2, 1) := by decide +kernel
theorem dX10_fits_32 : decode cX10_fits 32 = .ok (.iload_n 1, 1) := by decide +kernel
theorem dX10_fits_33 : decode cX10_fits 33 = .ok (.if_icmp .ge 27, 3) := by decide +kernel
theorem dX10_fits_36 : decode cX10_fits 36 = .ok (.aload_n 0, 1) := by decide +kernel
theorem dX10_fits_37 : decode cX10_fits 37 = .ok (.aload_n 0, 1) := by decide +kernel
theorem dX10_fits_38 : decode cX10_fits 38 = .ok (.getfield 10, 3) := by decide +kernel
theorem dX10_fits_41 : decode cX10_fits 41 = .ok (.getfield 283, 3) := by decide +kernel
theorem dX10_fits_44 : decode cX10_fits 44 = .ok (.iload_n 2, 1) := by decide +kernel
theorem dX10_fits_45 : decode cX10_fits 45 = .ok (.iaload, 1) := by decide +kernel
theorem dX10_fits_46 : decode cX10_fits 46 = .ok (.invokevirtual 163, 3) := by decide +kernel
theorem dX10_fits_49 : decode cX10_fits 49 = .ok (.ifCond .ne 5, 3) := by decide +kernel
theorem dX10_fits_52 : decode cX10_fits 52 = .ok (.iconst (-1), 1) := by decide +kernel
theorem dX10_fits_53 : decode cX10_fits 53 = .ok (.ireturn, 1) := by decide +kernel
theorem dX10_fits_54 : decode cX10_fits 54 = .ok (.iinc 2 1, 3) := by decide +kernel
theorem dX10_fits_57 : decode cX10_fits 57 = .ok (.goto (-26), 3) := by decide +kernel
theorem dX10_fits_60 : decode cX10_fits 60 = .ok (.iconst 0, 1) := by decide +kernel
theorem dX10_fits_61 : decode cX10_fits 61 = .ok (.istore_n 2, 1) := by decide +kernel
theorem dX10_fits_62 : decode cX10_fits 62 = .ok (.iconst 0, 1) := by decide +kernel
theorem dX10_fits_63 : decode cX10_fits 63 = .ok (.istore_n 3, 1) := by decide +kernel
theorem dX10_fits_64 : decode cX10_fits 64 = .ok (.iload_n 3, 1) := by decide +kernel
theorem dX10_fits_65 : decode cX10_fits 65 = .ok (.aload_n 0, 1) := by decide +kernel
theorem dX10_fits_66 : decode cX10_fits 66 = .ok (.getfield 19, 3) := by decide +kernel
theorem dX10_fits_69 : decode cX10_fits 69 = .ok (.getfield 286, 3) := by decide +kernel
theorem dX10_fits_72 : decode cX10_fits 72 = .ok (.if_icmp .ge 34, 3) := by decide +kernel
theorem dX10_fits_75 : decode cX10_fits 75 = .ok (.aload_n 0, 1) := by decide +kernel
theorem dX10_fits_76 : decode cX10_fits 76 = .ok (.getfield 26, 3) := by decide +kernel
theorem dX10_fits_79 : decode cX10_fits 79 = .ok (.iload_n 3, 1) := by decide +kernel
theorem dX10_fits_80 : decode cX10_fits 80 = .ok (.aload_n 0, 1) := by decide +kernel
theorem dX10_fits_81 : decode cX10_fits 81 = .ok (.getfield 10, 3) := by decide +kernel
theorem dX10_fits_84 : decode cX10_fits 84 = .ok (.getfield 283, 3) := by decide +kernel
theorem dX10_fits_87 : decode cX10_fits 87 = .ok (.iload_n 1, 1) := by decide +kernel
theorem dX10_fits_88 : decode cX10_fits 88 = .ok (.invokevirtual 289, 3) := by decide +kernel
theorem dX10_fits_91 : decode cX10_fits 91 = .ok (.ifCond .eq 9, 3) := by decide +kernel
theorem dX10_fits_94 : decode cX10_fits 94 = .ok (.iload_n 2, 1) := by decide +kernel
theorem dX10_fits_95 : decode cX10_fits 95 = .ok (.iconst 1, 1) := by decide +kernel
theorem dX10_fits_96 : decode cX10_fits 96 = .ok (.iload_n 3, 1) := by decide +kernel
theorem dX10_fits_97 : decode cX10_fits 97 = .ok (.ishl, 1) := by decide +kernel
theorem dX10_fits_98 : decode cX10_fits 98 = .ok (.ior, 1) := by decide +kernel
theorem dX10_fits_99 : decode cX10_fits 99 = .ok (.istore_n 2, 1) := by decide +kernel
theorem dX10_fits_100 : decode cX10_fits 100 = .ok (.iinc 3 1, 3) := by decide +kernel
theorem dX10_fits_103 : decode cX10_fits 103 = .ok (.goto (-39), 3) := by decide +kernel
theorem dX10_fits_106 : decode cX10_fits 106 = .ok (.iload_n 2, 1) := by decide +kernel
theorem dX10_fits_107 : decode cX10_fits 107 = .ok (.ifCond .le 23, 3) := by decide +kernel
theorem dX10_fits_110 : decode cX10_fits 110 = .ok (.aload_n 0, 1) := by decide +kernel
theorem dX10_fits_111 : decode cX10_fits 111 = .ok (.aload_n 0, 1) := by decide +kernel
theorem dX10_fits_112 : decode cX10_fits 112 = .ok (.getfield 54, 3) := by decide +kernel
theorem dX10_fits_115 : decode cX10_fits 115 = .ok (.aload_n 0, 1) := by decide +kernel
theorem dX10_fits_116 : decode cX10_fits 116 = .ok (.getfield 19, 3) := by decide +kernel
theorem dX10_fits_119 : decode cX10_fits 119 = .ok (.aload_n 0, 1) := by decide +kernel
theorem dX10_fits_120 : decode cX10_fits 120 = .ok (.getfield 26, 3) := by decide +kernel
theorem dX10_fits_123 : decode cX10_fits 123 = .ok (.iload_n 2, 1) := by decide +kernel
theorem dX10_fits_124 : decode cX10_fits 124 = .ok (.invokevirtual 293, 3) := by decide +kernel
theorem dX10_fits_127 : decode cX10_fits 127 = .ok (.putfield 91, 3) := by decide +kernel
theorem dX10_fits_130 : decode cX10_fits 130 = .ok (.iload_n 2, 1) := by decide +kernel
theorem dX10_fits_131 : decode cX10_fits 131 = .ok (.ireturn, 1) := by decide +kernel
theorem dX10_ask_0 : decode cX10_ask 0 = .ok (.aload_n 0, 1) := by decide +kernel
theorem dX10_ask_1 : decode cX10_ask 1 = .ok (.getfield 91, 3) := by decide +kernel
theorem dX10_ask_4 : decode cX10_ask 4 = .ok (.ireturn, 1) := by decide +kernel
theorem dX10_like_0 : decode cX10_like 0 = .ok (.aload_n 0, 1) := by decide +kernel
theorem dX10_like_1 : decode cX10_like 1 = .ok (.iload_n 1, 1) := by decide +kernel
theorem dX10_like_2 : decode cX10_like 2 = .ok (.invokevirtual 122, 3) := by decide +kernel
theorem dX10_like_5 : decode cX10_like 5 = .ok (.ifCond .ne 5, 3) := by decide +kernel
theorem dX10_like_8 : decode cX10_like 8 = .ok (.iconst (-1), 1) := by decide +kernel
theorem dX10_like_9 : decode cX10_like 9 = .ok (.ireturn, 1) := by decide +kernel
theorem dX10_like_10 : decode cX10_like 10 = .ok (.iconst 0, 1) := by decide +kernel
theorem dX10_like_11 : decode cX10_like 11 = .ok (.istore_n 2, 1) := by decide +kernel
theorem dX10_like_12 : decode cX10_like 12 = .ok (.iconst 0, 1) := by decide +kernel
theorem dX10_like_13 : decode cX10_like 13 = .ok (.istore_n 3, 1) := by decide +kernel
theorem dX10_like_14 : decode cX10_like 14 = .ok (.iload_n 3, 1) := by decide +kernel
theorem dX10_like_15 : decode cX10_like 15 = .ok (.aload_n 0, 1) := by decide +kernel
theorem dX10_like_16 : decode cX10_like 16 = .ok (.getfield 19, 3) := by decide +kernel
theorem dX10_like_19 : decode cX10_like 19 = .ok (.getfield 286, 3) := by decide +kernel
theorem dX10_like_22 : decode cX10_like 22 = .ok (.if_icmp .ge 32, 3) := by decide +kernel
theorem dX10_like_25 : decode cX10_like 25 = .ok (.iload_n 3, 1) := by decide +kernel
theorem dX10_like_26 : decode cX10_like 26 = .ok (.iload_n 1, 1) := by decide +kernel
theorem dX10_like_27 : decode cX10_like 27 = .ok (.if_icmp .eq 21, 3) := by decide +kernel
theorem dX10_like_30 : decode cX10_like 30 = .ok (.aload_n 0, 1) := by decide +kernel
theorem dX10_like_31 : decode cX10_like 31 = .ok (.getfield 26, 3) := by decide +kernel
theorem dX10_like_34 : decode cX10_like 34 = .ok (.iload_n 1, 1) := by decide +kernel
theorem dX10_like_35 : decode cX10_like 35 = .ok (.iload_n 3, 1) := by decide +kernel
theorem dX10_like_36 : decode cX10_like 36 = .ok (.invokevirtual 296, 3) := by decide +kernel
theorem dX10_like_39 : decode cX10_like 39 = .ok (.ifCond .eq 9, 3) := by decide +kernel
theorem dX10_like_42 : decode cX10_like 42 = .ok (.iload_n 2, 1) := by decide +kernel
theorem dX10_like_43 : decode cX10_like 43 = .ok (.iconst 1, 1) := by decide +kernel
theorem dX10_like_44 : decode cX10_like 44 = .ok (.iload_n 3, 1) := by decide +kernel
theorem dX10_like_45 : decode cX10_like 45 = .ok (.ishl, 1) := by decide +kernel
theorem dX10_like_46 : decode cX10_like 46 = .ok (.ior, 1) := by decide +kernel
theorem dX10_like_47 : decode cX10_like 47 = .ok (.istore_n 2, 1) := by decide +kernel
theorem dX10_like_48 : decode cX10_like 48 = .ok (.iinc 3 1, 3) := by decide +kernel
theorem dX10_like_51 : decode cX10_like 51 = .ok (.goto (-37), 3) := by decide +kernel
theorem dX10_like_54 : decode cX10_like 54 = .ok (.iload_n 2, 1) := by decide +kernel
theorem dX10_like_55 : decode cX10_like 55 = .ok (.ireturn, 1) := by decide +kernel
theorem dX10_hardest_0 : decode cX10_hardest 0 = .ok (.iconst (-1), 1) := by decide +kernel
theorem dX10_hardest_1 : decode cX10_hardest 1 = .ok (.istore_n 1, 1) := by decide +kernel
theorem dX10_hardest_2 : decode cX10_hardest 2 = .ok (.iconst (-1), 1) := by decide +kernel
theorem dX10_hardest_3 : decode cX10_hardest 3 = .ok (.istore_n 2, 1) := by decide +kernel
theorem dX10_hardest_4 : decode cX10_hardest 4 = .ok (.iconst 0, 1) := by decide +kernel
theorem dX10_hardest_5 : decode cX10_hardest 5 = .ok (.istore_n 3, 1) := by decide +kernel
theorem dX10_hardest_6 : decode cX10_hardest 6 = .ok (.iload_n 3, 1) := by decide +kernel
theorem dX10_hardest_7 : decode cX10_hardest 7 = .ok (.aload_n 0, 1) := by decide +kernel
theorem dX10_hardest_8 : decode cX10_hardest 8 = .ok (.getfield 19, 3) := by decide +kernel
theorem dX10_hardest_11 : decode cX10_hardest 11 = .ok (.getfield 286, 3) := by decide +kernel
theorem dX10_hardest_14 : decode cX10_hardest 14 = .ok (.if_icmp .ge 34, 3) := by decide +kernel
theorem dX10_hardest_17 : decode cX10_hardest 17 = .ok (.aload_n 0, 1) := by decide +kernel
theorem dX10_hardest_18 : decode cX10_hardest 18 = .ok (.getfield 26, 3) := by decide +kernel
theorem dX10_hardest_21 : decode cX10_hardest 21 = .ok (.aload_n 0, 1) := by decide +kernel
theorem dX10_hardest_22 : decode cX10_hardest 22 = .ok (.getfield 19, 3) := by decide +kernel
theorem dX10_hardest_25 : decode cX10_hardest 25 = .ok (.iload_n 3, 1) := by decide +kernel
theorem dX10_hardest_26 : decode cX10_hardest 26 = .ok (.invokevirtual 151, 3) := by decide +kernel
theorem dX10_hardest_29 : decode cX10_hardest 29 = .ok (.istore 4, 2) := by decide +kernel
theorem dX10_hardest_31 : decode cX10_hardest 31 = .ok (.iload 4, 2) := by decide +kernel
theorem dX10_hardest_33 : decode cX10_hardest 33 = .ok (.iload_n 2, 1) := by decide +kernel
theorem dX10_hardest_34 : decode cX10_hardest 34 = .ok (.if_icmp .le 8, 3) := by decide +kernel
theorem dX10_hardest_37 : decode cX10_hardest 37 = .ok (.iload 4, 2) := by decide +kernel
theorem dX10_hardest_39 : decode cX10_hardest 39 = .ok (.istore_n 2, 1) := by decide +kernel
theorem dX10_hardest_40 : decode cX10_hardest 40 = .ok (.iload_n 3, 1) := by decide +kernel
theorem dX10_hardest_41 : decode cX10_hardest 41 = .ok (.istore_n 1, 1) := by decide +kernel
theorem dX10_hardest_42 : decode cX10_hardest 42 = .ok (.iinc 3 1, 3) := by decide +kernel
theorem dX10_hardest_45 : decode cX10_hardest 45 = .ok (.goto (-39), 3) := by decide +kernel
theorem dX10_hardest_48 : decode cX10_hardest 48 = .ok (.iload_n 1, 1) := by decide +kernel
theorem dX10_hardest_49 : decode cX10_hardest 49 = .ok (.ireturn, 1) := by decide +kernel
theorem dX10_tag_0 : decode cX10_tag 0 = .ok (.aload_n 0, 1) := by decide +kernel
theorem dX10_tag_1 : decode cX10_tag 1 = .ok (.iload_n 1, 1) := by decide +kernel
theorem dX10_tag_2 : decode cX10_tag 2 = .ok (.invokevirtual 122, 3) := by decide +kernel
theorem dX10_tag_5 : decode cX10_tag 5 = .ok (.ifCond .ne 5, 3) := by decide +kernel
theorem dX10_tag_8 : decode cX10_tag 8 = .ok (.iconst (-1), 1) := by decide +kernel
theorem dX10_tag_9 : decode cX10_tag 9 = .ok (.ireturn, 1) := by decide +kernel
theorem dX10_tag_10 : decode cX10_tag 10 = .ok (.aload_n 0, 1) := by decide +kernel
theorem dX10_tag_11 : decode cX10_tag 11 = .ok (.getfield 68, 3) := by decide +kernel
theorem dX10_tag_14 : decode cX10_tag 14 = .ok (.aload_n 0, 1) := by decide +kernel
theorem dX10_tag_15 : decode cX10_tag 15 = .ok (.getfield 19, 3) := by decide +kernel
theorem dX10_tag_18 : decode cX10_tag 18 = .ok (.aload_n 0, 1) := by decide +kernel
theorem dX10_tag_19 : decode cX10_tag 19 = .ok (.getfield 26, 3) := by decide +kernel
theorem dX10_tag_22 : decode cX10_tag 22 = .ok (.iload_n 1, 1) := by decide +kernel
theorem dX10_tag_23 : decode cX10_tag 23 = .ok (.invokevirtual 304, 3) := by decide +kernel
theorem dX10_tag_26 : decode cX10_tag 26 = .ok (.aload_n 0, 1) := by decide +kernel
theorem dX10_tag_27 : decode cX10_tag 27 = .ok (.getfield 68, 3) := by decide +kernel
theorem dX10_tag_30 : decode cX10_tag 30 = .ok (.getfield 308, 3) := by decide +kernel
theorem dX10_tag_33 : decode cX10_tag 33 = .ok (.ireturn, 1) := by decide +kernel
theorem dX10_byteAt_0 : decode cX10_byteAt 0 = .ok (.iload_n 1, 1) := by decide +kernel
theorem dX10_byteAt_1 : decode cX10_byteAt 1 = .ok (.ifCond .lt 14, 3) := by decide +kernel
theorem dX10_byteAt_4 : decode cX10_byteAt 4 = .ok (.iload_n 1, 1) := by decide +kernel
theorem dX10_byteAt_5 : decode cX10_byteAt 5 = .ok (.aload_n 0, 1) := by decide +kernel
theorem dX10_byteAt_6 : decode cX10_byteAt 6 = .ok (.getfield 68, 3) := by decide +kernel
theorem dX10_byteAt_9 : decode cX10_byteAt 9 = .ok (.getfield 308, 3) := by decide +kernel
theorem dX10_byteAt_12 : decode cX10_byteAt 12 = .ok (.if_icmp .lt 7, 3) := by decide +kernel
theorem dX10_byteAt_15 : decode cX10_byteAt 15 = .ok (.iconst (-1), 1) := by decide +kernel
theorem dX10_byteAt_16 : decode cX10_byteAt 16 = .ok (.goto 12, 3) := by decide +kernel
theorem dX10_byteAt_19 : decode cX10_byteAt 19 = .ok (.aload_n 0, 1) := by decide +kernel
theorem dX10_byteAt_20 : decode cX10_byteAt 20 = .ok (.getfield 68, 3) := by decide +kernel
theorem dX10_byteAt_23 : decode cX10_byteAt 23 = .ok (.getfield 311, 3) := by decide +kernel
theorem dX10_byteAt_26 : decode cX10_byteAt 26 = .ok (.iload_n 1, 1) := by decide +kernel
theorem dX10_byteAt_27 : decode cX10_byteAt 27 = .ok (.iaload, 1) := by decide +kernel
theorem dX10_byteAt_28 : decode cX10_byteAt 28 = .ok (.ireturn, 1) := by decide +kernel
theorem dX10_drawn_0 : decode cX10_drawn 0 = .ok (.iload_n 1, 1) := by decide +kernel
theorem dX10_drawn_1 : decode cX10_drawn 1 = .ok (.iconst 1, 1) := by decide +kernel
theorem dX10_drawn_2 : decode cX10_drawn 2 = .ok (.if_icmp .lt 9, 3) := by decide +kernel
theorem dX10_drawn_5 : decode cX10_drawn 5 = .ok (.iload_n 1, 1) := by decide +kernel
theorem dX10_drawn_6 : decode cX10_drawn 6 = .ok (.bipush 60, 2) := by decide +kernel
theorem dX10_drawn_8 : decode cX10_drawn 8 = .ok (.if_icmp .le 5, 3) := by decide +kernel
theorem dX10_drawn_11 : decode cX10_drawn 11 = .ok (.iconst (-1), 1) := by decide +kernel
theorem dX10_drawn_12 : decode cX10_drawn 12 = .ok (.ireturn, 1) := by decide +kernel
theorem dX10_drawn_13 : decode cX10_drawn 13 = .ok (.iload_n 1, 1) := by decide +kernel
theorem dX10_drawn_14 : decode cX10_drawn 14 = .ok (.aload_n 0, 1) := by decide +kernel
theorem dX10_drawn_15 : decode cX10_drawn 15 = .ok (.getfield 26, 3) := by decide +kernel
theorem dX10_drawn_18 : decode cX10_drawn 18 = .ok (.invokevirtual 247, 3) := by decide +kernel
theorem dX10_drawn_21 : decode cX10_drawn 21 = .ok (.invokestatic 251, 3) := by decide +kernel
theorem dX10_drawn_24 : decode cX10_drawn 24 = .ok (.istore_n 3, 1) := by decide +kernel
theorem dX10_drawn_25 : decode cX10_drawn 25 = .ok (.iload_n 3, 1) := by decide +kernel
theorem dX10_drawn_26 : decode cX10_drawn 26 = .ok (.ifCond .le 27, 3) := by decide +kernel
theorem dX10_drawn_29 : decode cX10_drawn 29 = .ok (.aload_n 0, 1) := by decide +kernel
theorem dX10_drawn_30 : decode cX10_drawn 30 = .ok (.getfield 40, 3) := by decide +kernel
theorem dX10_drawn_33 : decode cX10_drawn 33 = .ok (.aload_n 0, 1) := by decide +kernel
theorem dX10_drawn_34 : decode cX10_drawn 34 = .ok (.getfield 26, 3) := by decide +kernel
theorem dX10_drawn_37 : decode cX10_drawn 37 = .ok (.invokevirtual 221, 3) := by decide +kernel
theorem dX10_drawn_40 : decode cX10_drawn 40 = .ok (.aload_n 0, 1) := by decide +kernel
theorem dX10_drawn_41 : decode cX10_drawn 41 = .ok (.getfield 26, 3) := by decide +kernel
theorem dX10_drawn_44 : decode cX10_drawn 44 = .ok (.aload_n 0, 1) := by decide +kernel
theorem dX10_drawn_45 : decode cX10_drawn 45 = .ok (.getfield 19, 3) := by decide +kernel
theorem dX10_drawn_48 : decode cX10_drawn 48 = .ok (.iload_n 3, 1) := by decide +kernel
theorem dX10_drawn_49 : decode cX10_drawn 49 = .ok (.iload_n 2, 1) := by decide +kernel
theorem dX10_drawn_50 : decode cX10_drawn 50 = .ok (.invokevirtual 312, 3) := by decide +kernel
theorem dX10_drawn_53 : decode cX10_drawn 53 = .ok (.iload_n 3, 1) := by decide +kernel
theorem dX10_drawn_54 : decode cX10_drawn 54 = .ok (.ireturn, 1) := by decide +kernel
theorem dX10_odds_0 : decode cX10_odds 0 = .ok (.aload_n 0, 1) := by decide +kernel
theorem dX10_odds_1 : decode cX10_odds 1 = .ok (.iload_n 1, 1) := by decide +kernel
theorem dX10_odds_2 : decode cX10_odds 2 = .ok (.invokevirtual 122, 3) := by decide +kernel
theorem dX10_odds_5 : decode cX10_odds 5 = .ok (.ifCond .eq 14, 3) := by decide +kernel
theorem dX10_odds_8 : decode cX10_odds 8 = .ok (.iload_n 2, 1) := by decide +kernel
theorem dX10_odds_9 : decode cX10_odds 9 = .ok (.iconst 1, 1) := by decide +kernel
theorem dX10_odds_10 : decode cX10_odds 10 = .ok (.if_icmp .lt 9, 3) := by decide +kernel
theorem dX10_odds_13 : decode cX10_odds 13 = .ok (.iload_n 2, 1) := by decide +kernel
theorem dX10_odds_14 : decode cX10_odds 14 = .ok (.bipush 30, 2) := by decide +kernel
theorem dX10_odds_16 : decode cX10_odds 16 = .ok (.if_icmp .le 5, 3) := by decide +kernel
theorem dX10_odds_19 : decode cX10_odds 19 = .ok (.iconst (-1), 1) := by decide +kernel
theorem dX10_odds_20 : decode cX10_odds 20 = .ok (.ireturn, 1) := by decide +kernel
theorem dX10_odds_21 : decode cX10_odds 21 = .ok (.iconst 0, 1) := by decide +kernel
theorem dX10_odds_22 : decode cX10_odds 22 = .ok (.istore 4, 2) := by decide +kernel
theorem dX10_odds_24 : decode cX10_odds 24 = .ok (.iconst 0, 1) := by decide +kernel
theorem dX10_odds_25 : decode cX10_odds 25 = .ok (.istore 5, 2) := by decide +kernel
theorem dX10_odds_27 : decode cX10_odds 27 = .ok (.iload 5, 2) := by decide +kernel
theorem dX10_odds_29 : decode cX10_odds 29 = .ok (.iload_n 2, 1) := by decide +kernel
theorem dX10_odds_30 : decode cX10_odds 30 = .ok (.if_icmp .ge 61, 3) := by decide +kernel
theorem dX10_odds_33 : decode cX10_odds 33 = .ok (.aload_n 0, 1) := by decide +kernel
theorem dX10_odds_34 : decode cX10_odds 34 = .ok (.getfield 78, 3) := by decide +kernel
theorem dX10_odds_37 : decode cX10_odds 37 = .ok (.aload_n 0, 1) := by decide +kernel
theorem dX10_odds_38 : decode cX10_odds 38 = .ok (.getfield 26, 3) := by decide +kernel
theorem dX10_odds_41 : decode cX10_odds 41 = .ok (.invokevirtual 115, 3) := by decide +kernel
theorem dX10_odds_44 : decode cX10_odds 44 = .ok (.aload_n 0, 1) := by decide +kernel
theorem dX10_odds_45 : decode cX10_odds 45 = .ok (.getfield 78, 3) := by decide +kernel
theorem dX10_odds_48 : decode cX10_odds 48 = .ok (.aload_n 0, 1) := by decide +kernel
theorem dX10_odds_49 : decode cX10_odds 49 = .ok (.getfield 19, 3) := by decide +kernel
theorem dX10_odds_52 : decode cX10_odds 52 = .ok (.bipush 10, 2) := by decide +kernel
theorem dX10_odds_54 : decode cX10_odds 54 = .ok (.aload_n 0, 1) := by decide +kernel
theorem dX10_odds_55 : decode cX10_odds 55 = .ok (.getfield 78, 3) := by decide +kernel
theorem dX10_odds_58 : decode cX10_odds 58 = .ok (.invokevirtual 247, 3) := by decide +kernel
theorem dX10_odds_61 : decode cX10_odds 61 = .ok (.invokestatic 251, 3) := by decide +kernel
theorem dX10_odds_64 : decode cX10_odds 64 = .ok (.iload_n 3, 1) := by decide +kernel
theorem dX10_odds_65 : decode cX10_odds 65 = .ok (.iload 5, 2) := by decide +kernel
theorem dX10_odds_67 : decode cX10_odds 67 = .ok (.iadd, 1) := by decide +kernel
theorem dX10_odds_68 : decode cX10_odds 68 = .ok (.invokevirtual 312, 3) := by decide +kernel
theorem dX10_odds_71 : decode cX10_odds 71 = .ok (.aload_n 0, 1) := by decide +kernel
theorem dX10_odds_72 : decode cX10_odds 72 = .ok (.getfield 78, 3) := by decide +kernel
theorem dX10_odds_75 : decode cX10_odds 75 = .ok (.iload_n 1, 1) := by decide +kernel
theorem dX10_odds_76 : decode cX10_odds 76 = .ok (.invokevirtual 154, 3) := by decide +kernel
theorem dX10_odds_79 : decode cX10_odds 79 = .ok (.ifCond .eq 6, 3) := by decide +kernel
theorem dX10_odds_82 : decode cX10_odds 82 = .ok (.iinc 4 1, 3) := by decide +kernel
theorem dX10_odds_85 : decode cX10_odds 85 = .ok (.iinc 5 1, 3) := by decide +kernel
theorem dX10_odds_88 : decode cX10_odds 88 = .ok (.goto (-61), 3) := by decide +kernel
theorem dX10_odds_91 : decode cX10_odds 91 = .ok (.iload 4, 2) := by decide +kernel
theorem dX10_odds_93 : decode cX10_odds 93 = .ok (.ireturn, 1) := by decide +kernel
theorem dX10_book_0 : decode cX10_book 0 = .ok (.iload_n 1, 1) := by decide +kernel
theorem dX10_book_1 : decode cX10_book 1 = .ok (.ifCond .lt 8, 3) := by decide +kernel
theorem dX10_book_4 : decode cX10_book 4 = .ok (.iload_n 1, 1) := by decide +kernel
theorem dX10_book_5 : decode cX10_book 5 = .ok (.iconst 1, 1) := by decide +kernel
theorem dX10_book_6 : decode cX10_book 6 = .ok (.if_icmp .le 7, 3) := by decide +kernel
theorem dX10_book_9 : decode cX10_book 9 = .ok (.sipush (-1000), 3) := by decide +kernel
theorem dX10_book_12 : decode cX10_book 12 = .ok (.ireturn, 1) := by decide +kernel
theorem dX10_book_13 : decode cX10_book 13 = .ok (.aload_n 0, 1) := by decide +kernel
theorem dX10_book_14 : decode cX10_book 14 = .ok (.getfield 61, 3) := by decide +kernel
theorem dX10_book_17 : decode cX10_book 17 = .ok (.aload_n 0, 1) := by decide +kernel
theorem dX10_book_18 : decode cX10_book 18 = .ok (.getfield 10, 3) := by decide +kernel
theorem dX10_book_21 : decode cX10_book 21 = .ok (.aload_n 0, 1) := by decide +kernel
theorem dX10_book_22 : decode cX10_book 22 = .ok (.getfield 19, 3) := by decide +kernel
theorem dX10_book_25 : decode cX10_book 25 = .ok (.invokevirtual 315, 3) := by decide +kernel
theorem dX10_book_28 : decode cX10_book 28 = .ok (.aload_n 0, 1) := by decide +kernel
theorem dX10_book_29 : decode cX10_book 29 = .ok (.getfield 10, 3) := by decide +kernel
theorem dX10_book_32 : decode cX10_book 32 = .ok (.iconst 0, 1) := by decide +kernel
theorem dX10_book_33 : decode cX10_book 33 = .ok (.putfield 94, 3) := by decide +kernel
theorem dX10_book_36 : decode cX10_book 36 = .ok (.aload_n 0, 1) := by decide +kernel
theorem dX10_book_37 : decode cX10_book 37 = .ok (.aload_n 0, 1) := by decide +kernel
theorem dX10_book_38 : decode cX10_book 38 = .ok (.getfield 10, 3) := by decide +kernel
theorem dX10_book_41 : decode cX10_book 41 = .ok (.getfield 105, 3) := by decide +kernel
theorem dX10_book_44 : decode cX10_book 44 = .ok (.putfield 81, 3) := by decide +kernel
theorem dX10_book_47 : decode cX10_book 47 = .ok (.aload_n 0, 1) := by decide +kernel
theorem dX10_book_48 : decode cX10_book 48 = .ok (.getfield 81, 3) := by decide +kernel
theorem dX10_book_51 : decode cX10_book 51 = .ok (.ifCond .eq 14, 3) := by decide +kernel
theorem dX10_book_54 : decode cX10_book 54 = .ok (.bipush (-2), 2) := by decide +kernel
theorem dX10_book_56 : decode cX10_book 56 = .ok (.aload_n 0, 1) := by decide +kernel
theorem dX10_book_57 : decode cX10_book 57 = .ok (.getfield 10, 3) := by decide +kernel
theorem dX10_book_60 : decode cX10_book 60 = .ok (.getfield 108, 3) := by decide +kernel
theorem dX10_book_63 : decode cX10_book 63 = .ok (.isub, 1) := by decide +kernel
theorem dX10_book_64 : decode cX10_book 64 = .ok (.ireturn, 1) := by decide +kernel
theorem dX10_book_65 : decode cX10_book 65 = .ok (.aload_n 0, 1) := by decide +kernel
theorem dX10_book_66 : decode cX10_book 66 = .ok (.getfield 78, 3) := by decide +kernel
theorem dX10_book_69 : decode cX10_book 69 = .ok (.aload_n 0, 1) := by decide +kernel
theorem dX10_book_70 : decode cX10_book 70 = .ok (.getfield 26, 3) := by decide +kernel
theorem dX10_book_73 : decode cX10_book 73 = .ok (.invokevirtual 115, 3) := by decide +kernel
theorem dX10_book_76 : decode cX10_book 76 = .ok (.aload_n 0, 1) := by decide +kernel
theorem dX10_book_77 : decode cX10_book 77 = .ok (.getfield 61, 3) := by decide +kernel
theorem dX10_book_80 : decode cX10_book 80 = .ok (.aload_n 0, 1) := by decide +kernel
theorem dX10_book_81 : decode cX10_book 81 = .ok (.getfield 19, 3) := by decide +kernel
theorem dX10_book_84 : decode cX10_book 84 = .ok (.aload_n 0, 1) := by decide +kernel
theorem dX10_book_85 : decode cX10_book 85 = .ok (.getfield 78, 3) := by decide +kernel
theorem dX10_book_88 : decode cX10_book 88 = .ok (.invokevirtual 318, 3) := by decide +kernel
theorem dX10_book_91 : decode cX10_book 91 = .ok (.iload_n 1, 1) := by decide +kernel
theorem dX10_book_92 : decode cX10_book 92 = .ok (.iconst 1, 1) := by decide +kernel
theorem dX10_book_93 : decode cX10_book 93 = .ok (.if_icmp .ne 35, 3) := by decide +kernel
theorem dX10_book_96 : decode cX10_book 96 = .ok (.aload_n 0, 1) := by decide +kernel
theorem dX10_book_97 : decode cX10_book 97 = .ok (.getfield 61, 3) := by decide +kernel
theorem dX10_book_100 : decode cX10_book 100 = .ok (.getfield 322, 3) := by decide +kernel
theorem dX10_book_103 : decode cX10_book 103 = .ok (.ifCond .le 25, 3) := by decide +kernel
theorem dX10_book_106 : decode cX10_book 106 = .ok (.aload_n 0, 1) := by decide +kernel
theorem dX10_book_107 : decode cX10_book 107 = .ok (.getfield 40, 3) := by decide +kernel
theorem dX10_book_110 : decode cX10_book 110 = .ok (.aload_n 0, 1) := by decide +kernel
theorem dX10_book_111 : decode cX10_book 111 = .ok (.getfield 26, 3) := by decide +kernel
theorem dX10_book_114 : decode cX10_book 114 = .ok (.invokevirtual 221, 3) := by decide +kernel
theorem dX10_book_117 : decode cX10_book 117 = .ok (.aload_n 0, 1) := by decide +kernel
theorem dX10_book_118 : decode cX10_book 118 = .ok (.getfield 26, 3) := by decide +kernel
theorem dX10_book_121 : decode cX10_book 121 = .ok (.aload_n 0, 1) := by decide +kernel
theorem dX10_book_122 : decode cX10_book 122 = .ok (.getfield 78, 3) := by decide +kernel
theorem dX10_book_125 : decode cX10_book 125 = .ok (.invokevirtual 115, 3) := by decide +kernel
theorem dX10_book_128 : decode cX10_book 128 = .ok (.aload_n 0, 1) := by decide +kernel
theorem dX10_book_129 : decode cX10_book 129 = .ok (.getfield 61, 3) := by decide +kernel
theorem dX10_book_132 : decode cX10_book 132 = .ok (.getfield 325, 3) := by decide +kernel
theorem dX10_book_135 : decode cX10_book 135 = .ok (.ifCond .ne 7, 3) := by decide +kernel
theorem dX10_book_138 : decode cX10_book 138 = .ok (.iconst (-1), 1) := by decide +kernel
theorem dX10_book_139 : decode cX10_book 139 = .ok (.goto 10, 3) := by decide +kernel
theorem dX10_book_142 : decode cX10_book 142 = .ok (.aload_n 0, 1) := by decide +kernel
theorem dX10_book_143 : decode cX10_book 143 = .ok (.getfield 61, 3) := by decide +kernel
theorem dX10_book_146 : decode cX10_book 146 = .ok (.getfield 322, 3) := by decide +kernel
theorem dX10_book_149 : decode cX10_book 149 = .ok (.ireturn, 1) := by decide +kernel
theorem dX10_told_0 : decode cX10_told 0 = .ok (.aload_n 0, 1) := by decide +kernel
theorem dX10_told_1 : decode cX10_told 1 = .ok (.getfield 61, 3) := by decide +kernel
theorem dX10_told_4 : decode cX10_told 4 = .ok (.getfield 328, 3) := by decide +kernel
theorem dX10_told_7 : decode cX10_told 7 = .ok (.ifCond .ne 5, 3) := by decide +kernel
theorem dX10_told_10 : decode cX10_told 10 = .ok (.iconst (-1), 1) := by decide +kernel
theorem dX10_told_11 : decode cX10_told 11 = .ok (.ireturn, 1) := by decide +kernel
theorem dX10_told_12 : decode cX10_told 12 = .ok (.iload_n 1, 1) := by decide +kernel
theorem dX10_told_13 : decode cX10_told 13 = .ok (.tableswitch 63 0 3 #[31, 39, 47, 55], 31) := by decide +kernel
theorem dX10_told_44 : decode cX10_told 44 = .ok (.aload_n 0, 1) := by decide +kernel
theorem dX10_told_45 : decode cX10_told 45 = .ok (.getfield 61, 3) := by decide +kernel
theorem dX10_told_48 : decode cX10_told 48 = .ok (.getfield 325, 3) := by decide +kernel
theorem dX10_told_51 : decode cX10_told 51 = .ok (.ireturn, 1) := by decide +kernel
theorem dX10_told_52 : decode cX10_told 52 = .ok (.aload_n 0, 1) := by decide +kernel
theorem dX10_told_53 : decode cX10_told 53 = .ok (.getfield 61, 3) := by decide +kernel
theorem dX10_told_56 : decode cX10_told 56 = .ok (.getfield 322, 3) := by decide +kernel
theorem dX10_told_59 : decode cX10_told 59 = .ok (.ireturn, 1) := by decide +kernel
theorem dX10_told_60 : decode cX10_told 60 = .ok (.aload_n 0, 1) := by decide +kernel
theorem dX10_told_61 : decode cX10_told 61 = .ok (.getfield 61, 3) := by decide +kernel
theorem dX10_told_64 : decode cX10_told 64 = .ok (.getfield 332, 3) := by decide +kernel
theorem dX10_told_67 : decode cX10_told 67 = .ok (.ireturn, 1) := by decide +kernel
theorem dX10_told_68 : decode cX10_told 68 = .ok (.aload_n 0, 1) := by decide +kernel
theorem dX10_told_69 : decode cX10_told 69 = .ok (.getfield 61, 3) := by decide +kernel
theorem dX10_told_72 : decode cX10_told 72 = .ok (.getfield 335, 3) := by decide +kernel
theorem dX10_told_75 : decode cX10_told 75 = .ok (.ireturn, 1) := by decide +kernel
theorem dX10_told_76 : decode cX10_told 76 = .ok (.iconst (-1), 1) := by decide +kernel
theorem dX10_told_77 : decode cX10_told 77 = .ok (.ireturn, 1) := by decide +kernel
theorem dX10_said_0 : decode cX10_said 0 = .ok (.aload_n 0, 1) := by decide +kernel
theorem dX10_said_1 : decode cX10_said 1 = .ok (.getfield 33, 3) := by decide +kernel
theorem dX10_said_4 : decode cX10_said 4 = .ok (.getfield 342, 3) := by decide +kernel
theorem dX10_said_7 : decode cX10_said 7 = .ok (.ifCond .eq 8, 3) := by decide +kernel
theorem dX10_said_10 : decode cX10_said 10 = .ok (.iload_n 1, 1) := by decide +kernel
theorem dX10_said_11 : decode cX10_said 11 = .ok (.iconst (-1), 1) := by decide +kernel
theorem dX10_said_12 : decode cX10_said 12 = .ok (.if_icmp .ge 5, 3) := by decide +kernel
theorem dX10_said_15 : decode cX10_said 15 = .ok (.iconst (-1), 1) := by decide +kernel
theorem dX10_said_16 : decode cX10_said 16 = .ok (.ireturn, 1) := by decide +kernel
theorem dX10_said_17 : decode cX10_said 17 = .ok (.iconst 0, 1) := by decide +kernel
theorem dX10_said_18 : decode cX10_said 18 = .ok (.istore_n 2, 1) := by decide +kernel
theorem dX10_said_19 : decode cX10_said 19 = .ok (.iconst 0, 1) := by decide +kernel
theorem dX10_said_20 : decode cX10_said 20 = .ok (.istore_n 3, 1) := by decide +kernel
theorem dX10_said_21 : decode cX10_said 21 = .ok (.iload_n 3, 1) := by decide +kernel
theorem dX10_said_22 : decode cX10_said 22 = .ok (.aload_n 0, 1) := by decide +kernel
theorem dX10_said_23 : decode cX10_said 23 = .ok (.getfield 19, 3) := by decide +kernel
theorem dX10_said_26 : decode cX10_said 26 = .ok (.getfield 286, 3) := by decide +kernel
theorem dX10_said_29 : decode cX10_said 29 = .ok (.if_icmp .ge 38, 3) := by decide +kernel
theorem dX10_said_32 : decode cX10_said 32 = .ok (.aload_n 0, 1) := by decide +kernel
theorem dX10_said_33 : decode cX10_said 33 = .ok (.getfield 33, 3) := by decide +kernel
theorem dX10_said_36 : decode cX10_said 36 = .ok (.aload_n 0, 1) := by decide +kernel
theorem dX10_said_37 : decode cX10_said 37 = .ok (.getfield 19, 3) := by decide +kernel
theorem dX10_said_40 : decode cX10_said 40 = .ok (.aload_n 0, 1) := by decide +kernel
theorem dX10_said_41 : decode cX10_said 41 = .ok (.getfield 26, 3) := by decide +kernel
theorem dX10_said_44 : decode cX10_said 44 = .ok (.iload_n 3, 1) := by decide +kernel
theorem dX10_said_45 : decode cX10_said 45 = .ok (.invokevirtual 345, 3) := by decide +kernel
theorem dX10_said_48 : decode cX10_said 48 = .ok (.ifCond .eq 13, 3) := by decide +kernel
theorem dX10_said_51 : decode cX10_said 51 = .ok (.iload_n 2, 1) := by decide +kernel
theorem dX10_said_52 : decode cX10_said 52 = .ok (.iload_n 1, 1) := by decide +kernel
theorem dX10_said_53 : decode cX10_said 53 = .ok (.if_icmp .ne 5, 3) := by decide +kernel
theorem dX10_said_56 : decode cX10_said 56 = .ok (.iload_n 3, 1) := by decide +kernel
theorem dX10_said_57 : decode cX10_said 57 = .ok (.ireturn, 1) := by decide +kernel
theorem dX10_said_58 : decode cX10_said 58 = .ok (.iinc 2 1, 3) := by decide +kernel
theorem dX10_said_61 : decode cX10_said 61 = .ok (.iinc 3 1, 3) := by decide +kernel
theorem dX10_said_64 : decode cX10_said 64 = .ok (.goto (-43), 3) := by decide +kernel
theorem dX10_said_67 : decode cX10_said 67 = .ok (.iload_n 1, 1) := by decide +kernel
theorem dX10_said_68 : decode cX10_said 68 = .ok (.iconst (-1), 1) := by decide +kernel
theorem dX10_said_69 : decode cX10_said 69 = .ok (.if_icmp .ne 7, 3) := by decide +kernel
theorem dX10_said_72 : decode cX10_said 72 = .ok (.iload_n 2, 1) := by decide +kernel
theorem dX10_said_73 : decode cX10_said 73 = .ok (.goto 4, 3) := by decide +kernel
theorem dX10_said_76 : decode cX10_said 76 = .ok (.iconst (-1), 1) := by decide +kernel
theorem dX10_said_77 : decode cX10_said 77 = .ok (.ireturn, 1) := by decide +kernel
