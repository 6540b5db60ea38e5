theorem dX0_init_0 : decode cX0_init 0 = .ok (.aload_n 0, 1) := by decide +kernel
theorem dX0_init_1 : decode cX0_init 1 = .ok (.invokespecial 3, 3) := by decide +kernel
theorem dX0_init_4 : decode cX0_init 4 = .ok (.aload_n 0, 1) := by decide +kernel
theorem dX0_init_5 : decode cX0_init 5 = .ok (.bipush 40, 2) := by decide +kernel
theorem dX0_init_7 : decode cX0_init 7 = .ok (.anewarray 11, 3) := by decide +kernel
theorem dX0_init_10 : decode cX0_init 10 = .ok (.putfield 13, 3) := by decide +kernel
theorem dX0_init_13 : decode cX0_init 13 = .ok (.aload_n 0, 1) := by decide +kernel
theorem dX0_init_14 : decode cX0_init 14 = .ok (.bipush 40, 2) := by decide +kernel
theorem dX0_init_16 : decode cX0_init 16 = .ok (.newarray .int, 2) := by decide +kernel
theorem dX0_init_18 : decode cX0_init 18 = .ok (.putfield 17, 3) := by decide +kernel
theorem dX0_init_21 : decode cX0_init 21 = .ok (.aload_n 0, 1) := by decide +kernel
theorem dX0_init_22 : decode cX0_init 22 = .ok (.bipush 40, 2) := by decide +kernel
theorem dX0_init_24 : decode cX0_init 24 = .ok (.newarray .int, 2) := by decide +kernel
theorem dX0_init_26 : decode cX0_init 26 = .ok (.putfield 21, 3) := by decide +kernel
theorem dX0_init_29 : decode cX0_init 29 = .ok (.return_, 1) := by decide +kernel
theorem dX0_readFrom_0 : decode cX0_readFrom 0 = .ok (.aload_n 0, 1) := by decide +kernel
theorem dX0_readFrom_1 : decode cX0_readFrom 1 = .ok (.iconst 0, 1) := by decide +kernel
theorem dX0_readFrom_2 : decode cX0_readFrom 2 = .ok (.putfield 24, 3) := by decide +kernel
theorem dX0_readFrom_5 : decode cX0_readFrom 5 = .ok (.aload_n 1, 1) := by decide +kernel
theorem dX0_readFrom_6 : decode cX0_readFrom 6 = .ok (.sipush 400, 3) := by decide +kernel
theorem dX0_readFrom_9 : decode cX0_readFrom 9 = .ok (.invokevirtual 28, 3) := by decide +kernel
theorem dX0_readFrom_12 : decode cX0_readFrom 12 = .ok (.iconst 1, 1) := by decide +kernel
theorem dX0_readFrom_13 : decode cX0_readFrom 13 = .ok (.istore_n 3, 1) := by decide +kernel
theorem dX0_readFrom_14 : decode cX0_readFrom 14 = .ok (.iconst 0, 1) := by decide +kernel
theorem dX0_readFrom_15 : decode cX0_readFrom 15 = .ok (.istore 4, 2) := by decide +kernel
theorem dX0_readFrom_17 : decode cX0_readFrom 17 = .ok (.iload 4, 2) := by decide +kernel
theorem dX0_readFrom_19 : decode cX0_readFrom 19 = .ok (.sipush 400, 3) := by decide +kernel
theorem dX0_readFrom_22 : decode cX0_readFrom 22 = .ok (.if_icmp .ge 44, 3) := by decide +kernel
theorem dX0_readFrom_25 : decode cX0_readFrom 25 = .ok (.iload_n 3, 1) := by decide +kernel
theorem dX0_readFrom_26 : decode cX0_readFrom 26 = .ok (.ifCond .eq 40, 3) := by decide +kernel
theorem dX0_readFrom_29 : decode cX0_readFrom 29 = .ok (.aload_n 1, 1) := by decide +kernel
theorem dX0_readFrom_30 : decode cX0_readFrom 30 = .ok (.getfield 34, 3) := by decide +kernel
theorem dX0_readFrom_33 : decode cX0_readFrom 33 = .ok (.ifCond .eq 33, 3) := by decide +kernel
theorem dX0_readFrom_36 : decode cX0_readFrom 36 = .ok (.aload_n 0, 1) := by decide +kernel
theorem dX0_readFrom_37 : decode cX0_readFrom 37 = .ok (.aload_n 1, 1) := by decide +kernel
theorem dX0_readFrom_38 : decode cX0_readFrom 38 = .ok (.aload_n 2, 1) := by decide +kernel
theorem dX0_readFrom_39 : decode cX0_readFrom 39 = .ok (.invokevirtual 37, 3) := by decide +kernel
theorem dX0_readFrom_42 : decode cX0_readFrom 42 = .ok (.ifCond .eq 16, 3) := by decide +kernel
theorem dX0_readFrom_45 : decode cX0_readFrom 45 = .ok (.aload_n 1, 1) := by decide +kernel
theorem dX0_readFrom_46 : decode cX0_readFrom 46 = .ok (.bipush 59, 2) := by decide +kernel
theorem dX0_readFrom_48 : decode cX0_readFrom 48 = .ok (.invokevirtual 41, 3) := by decide +kernel
theorem dX0_readFrom_51 : decode cX0_readFrom 51 = .ok (.ifCond .eq 7, 3) := by decide +kernel
theorem dX0_readFrom_54 : decode cX0_readFrom 54 = .ok (.iconst 1, 1) := by decide +kernel
theorem dX0_readFrom_55 : decode cX0_readFrom 55 = .ok (.goto 4, 3) := by decide +kernel
theorem dX0_readFrom_58 : decode cX0_readFrom 58 = .ok (.iconst 0, 1) := by decide +kernel
theorem dX0_readFrom_59 : decode cX0_readFrom 59 = .ok (.istore_n 3, 1) := by decide +kernel
theorem dX0_readFrom_60 : decode cX0_readFrom 60 = .ok (.iinc 4 1, 3) := by decide +kernel
theorem dX0_readFrom_63 : decode cX0_readFrom 63 = .ok (.goto (-46), 3) := by decide +kernel
theorem dX0_readFrom_66 : decode cX0_readFrom 66 = .ok (.return_, 1) := by decide +kernel
theorem dX0_readLine_0 : decode cX0_readLine 0 = .ok (.aload_n 1, 1) := by decide +kernel
theorem dX0_readLine_1 : decode cX0_readLine 1 = .ok (.getfield 45, 3) := by decide +kernel
theorem dX0_readLine_4 : decode cX0_readLine 4 = .ok (.getstatic 49, 3) := by decide +kernel
theorem dX0_readLine_7 : decode cX0_readLine 7 = .ok (.if_acmp .eq 17, 3) := by decide +kernel
theorem dX0_readLine_10 : decode cX0_readLine 10 = .ok (.aload_n 1, 1) := by decide +kernel
theorem dX0_readLine_11 : decode cX0_readLine 11 = .ok (.getfield 45, 3) := by decide +kernel
theorem dX0_readLine_14 : decode cX0_readLine 14 = .ok (.getstatic 52, 3) := by decide +kernel
theorem dX0_readLine_17 : decode cX0_readLine 17 = .ok (.if_acmp .eq 7, 3) := by decide +kernel
theorem dX0_readLine_20 : decode cX0_readLine 20 = .ok (.iconst 1, 1) := by decide +kernel
theorem dX0_readLine_21 : decode cX0_readLine 21 = .ok (.goto 4, 3) := by decide +kernel
theorem dX0_readLine_24 : decode cX0_readLine 24 = .ok (.iconst 0, 1) := by decide +kernel
theorem dX0_readLine_25 : decode cX0_readLine 25 = .ok (.istore_n 3, 1) := by decide +kernel
theorem dX0_readLine_26 : decode cX0_readLine 26 = .ok (.iload_n 3, 1) := by decide +kernel
theorem dX0_readLine_27 : decode cX0_readLine 27 = .ok (.ifCond .eq 18, 3) := by decide +kernel
theorem dX0_readLine_30 : decode cX0_readLine 30 = .ok (.aload_n 1, 1) := by decide +kernel
theorem dX0_readLine_31 : decode cX0_readLine 31 = .ok (.aload_n 2, 1) := by decide +kernel
theorem dX0_readLine_32 : decode cX0_readLine 32 = .ok (.getfield 55, 3) := by decide +kernel
theorem dX0_readLine_35 : decode cX0_readLine 35 = .ok (.aload_n 2, 1) := by decide +kernel
theorem dX0_readLine_36 : decode cX0_readLine 36 = .ok (.getfield 61, 3) := by decide +kernel
theorem dX0_readLine_39 : decode cX0_readLine 39 = .ok (.invokevirtual 64, 3) := by decide +kernel
theorem dX0_readLine_42 : decode cX0_readLine 42 = .ok (.goto 4, 3) := by decide +kernel
theorem dX0_readLine_45 : decode cX0_readLine 45 = .ok (.iconst 0, 1) := by decide +kernel
theorem dX0_readLine_46 : decode cX0_readLine 46 = .ok (.istore 4, 2) := by decide +kernel
theorem dX0_readLine_48 : decode cX0_readLine 48 = .ok (.iload 4, 2) := by decide +kernel
theorem dX0_readLine_50 : decode cX0_readLine 50 = .ok (.iconst (-1), 1) := by decide +kernel
theorem dX0_readLine_51 : decode cX0_readLine 51 = .ok (.if_icmp .ne 5, 3) := by decide +kernel
theorem dX0_readLine_54 : decode cX0_readLine 54 = .ok (.iconst 0, 1) := by decide +kernel
theorem dX0_readLine_55 : decode cX0_readLine 55 = .ok (.ireturn, 1) := by decide +kernel
theorem dX0_readLine_56 : decode cX0_readLine 56 = .ok (.aload_n 0, 1) := by decide +kernel
theorem dX0_readLine_57 : decode cX0_readLine 57 = .ok (.getfield 24, 3) := by decide +kernel
theorem dX0_readLine_60 : decode cX0_readLine 60 = .ok (.bipush 40, 2) := by decide +kernel
theorem dX0_readLine_62 : decode cX0_readLine 62 = .ok (.if_icmp .lt 9, 3) := by decide +kernel
theorem dX0_readLine_65 : decode cX0_readLine 65 = .ok (.aload_n 1, 1) := by decide +kernel
theorem dX0_readLine_66 : decode cX0_readLine 66 = .ok (.iconst 4, 1) := by decide +kernel
theorem dX0_readLine_67 : decode cX0_readLine 67 = .ok (.invokevirtual 68, 3) := by decide +kernel
theorem dX0_readLine_70 : decode cX0_readLine 70 = .ok (.ireturn, 1) := by decide +kernel
theorem dX0_readLine_71 : decode cX0_readLine 71 = .ok (.aload_n 1, 1) := by decide +kernel
theorem dX0_readLine_72 : decode cX0_readLine 72 = .ok (.getfield 45, 3) := by decide +kernel
theorem dX0_readLine_75 : decode cX0_readLine 75 = .ok (.astore 5, 2) := by decide +kernel
theorem dX0_readLine_77 : decode cX0_readLine 77 = .ok (.aload_n 1, 1) := by decide +kernel
theorem dX0_readLine_78 : decode cX0_readLine 78 = .ok (.invokevirtual 71, 3) := by decide +kernel
theorem dX0_readLine_81 : decode cX0_readLine 81 = .ok (.aload 5, 2) := by decide +kernel
theorem dX0_readLine_83 : decode cX0_readLine 83 = .ok (.getstatic 49, 3) := by decide +kernel
theorem dX0_readLine_86 : decode cX0_readLine 86 = .ok (.if_acmp .ne 10, 3) := by decide +kernel
theorem dX0_readLine_89 : decode cX0_readLine 89 = .ok (.aload_n 0, 1) := by decide +kernel
theorem dX0_readLine_90 : decode cX0_readLine 90 = .ok (.aload_n 1, 1) := by decide +kernel
theorem dX0_readLine_91 : decode cX0_readLine 91 = .ok (.aload_n 2, 1) := by decide +kernel
theorem dX0_readLine_92 : decode cX0_readLine 92 = .ok (.invokevirtual 74, 3) := by decide +kernel
theorem dX0_readLine_95 : decode cX0_readLine 95 = .ok (.ireturn, 1) := by decide +kernel
theorem dX0_readLine_96 : decode cX0_readLine 96 = .ok (.aload 5, 2) := by decide +kernel
theorem dX0_readLine_98 : decode cX0_readLine 98 = .ok (.getstatic 52, 3) := by decide +kernel
theorem dX0_readLine_101 : decode cX0_readLine 101 = .ok (.if_acmp .ne 19, 3) := by decide +kernel
theorem dX0_readLine_104 : decode cX0_readLine 104 = .ok (.aload_n 0, 1) := by decide +kernel
theorem dX0_readLine_105 : decode cX0_readLine 105 = .ok (.getstatic 52, 3) := by decide +kernel
theorem dX0_readLine_108 : decode cX0_readLine 108 = .ok (.iconst 0, 1) := by decide +kernel
theorem dX0_readLine_109 : decode cX0_readLine 109 = .ok (.aload_n 1, 1) := by decide +kernel
theorem dX0_readLine_110 : decode cX0_readLine 110 = .ok (.iconst 1, 1) := by decide +kernel
theorem dX0_readLine_111 : decode cX0_readLine 111 = .ok (.bipush 60, 2) := by decide +kernel
theorem dX0_readLine_113 : decode cX0_readLine 113 = .ok (.invokevirtual 77, 3) := by decide +kernel
theorem dX0_readLine_116 : decode cX0_readLine 116 = .ok (.invokevirtual 81, 3) := by decide +kernel
theorem dX0_readLine_119 : decode cX0_readLine 119 = .ok (.ireturn, 1) := by decide +kernel
theorem dX0_readLine_120 : decode cX0_readLine 120 = .ok (.aload_n 0, 1) := by decide +kernel
theorem dX0_readLine_121 : decode cX0_readLine 121 = .ok (.aload_n 1, 1) := by decide +kernel
theorem dX0_readLine_122 : decode cX0_readLine 122 = .ok (.aload_n 2, 1) := by decide +kernel
theorem dX0_readLine_123 : decode cX0_readLine 123 = .ok (.iload 4, 2) := by decide +kernel
theorem dX0_readLine_125 : decode cX0_readLine 125 = .ok (.invokevirtual 85, 3) := by decide +kernel
theorem dX0_readLine_128 : decode cX0_readLine 128 = .ok (.ireturn, 1) := by decide +kernel
theorem dX0_readStuffing_0 : decode cX0_readStuffing 0 = .ok (.aload_n 1, 1) := by decide +kernel
theorem dX0_readStuffing_1 : decode cX0_readStuffing 1 = .ok (.aload_n 2, 1) := by decide +kernel
theorem dX0_readStuffing_2 : decode cX0_readStuffing 2 = .ok (.getfield 89, 3) := by decide +kernel
theorem dX0_readStuffing_5 : decode cX0_readStuffing 5 = .ok (.aload_n 2, 1) := by decide +kernel
theorem dX0_readStuffing_6 : decode cX0_readStuffing 6 = .ok (.getfield 92, 3) := by decide +kernel
theorem dX0_readStuffing_9 : decode cX0_readStuffing 9 = .ok (.invokevirtual 95, 3) := by decide +kernel
theorem dX0_readStuffing_12 : decode cX0_readStuffing 12 = .ok (.istore_n 3, 1) := by decide +kernel
theorem dX0_readStuffing_13 : decode cX0_readStuffing 13 = .ok (.iload_n 3, 1) := by decide +kernel
theorem dX0_readStuffing_14 : decode cX0_readStuffing 14 = .ok (.iconst (-1), 1) := by decide +kernel
theorem dX0_readStuffing_15 : decode cX0_readStuffing 15 = .ok (.if_icmp .ne 5, 3) := by decide +kernel
theorem dX0_readStuffing_18 : decode cX0_readStuffing 18 = .ok (.iconst 0, 1) := by decide +kernel
theorem dX0_readStuffing_19 : decode cX0_readStuffing 19 = .ok (.ireturn, 1) := by decide +kernel
theorem dX0_readStuffing_20 : decode cX0_readStuffing 20 = .ok (.aload_n 0, 1) := by decide +kernel
theorem dX0_readStuffing_21 : decode cX0_readStuffing 21 = .ok (.getstatic 49, 3) := by decide +kernel
theorem dX0_readStuffing_24 : decode cX0_readStuffing 24 = .ok (.iload_n 3, 1) := by decide +kernel
theorem dX0_readStuffing_25 : decode cX0_readStuffing 25 = .ok (.aload_n 1, 1) := by decide +kernel
theorem dX0_readStuffing_26 : decode cX0_readStuffing 26 = .ok (.aload_n 2, 1) := by decide +kernel
theorem dX0_readStuffing_27 : decode cX0_readStuffing 27 = .ok (.getfield 98, 3) := by decide +kernel
theorem dX0_readStuffing_30 : decode cX0_readStuffing 30 = .ok (.aload_n 2, 1) := by decide +kernel
theorem dX0_readStuffing_31 : decode cX0_readStuffing 31 = .ok (.getfield 101, 3) := by decide +kernel
theorem dX0_readStuffing_34 : decode cX0_readStuffing 34 = .ok (.invokevirtual 95, 3) := by decide +kernel
theorem dX0_readStuffing_37 : decode cX0_readStuffing 37 = .ok (.invokevirtual 81, 3) := by decide +kernel
theorem dX0_readStuffing_40 : decode cX0_readStuffing 40 = .ok (.ireturn, 1) := by decide +kernel
theorem dX0_readOfPerson_0 : decode cX0_readOfPerson 0 = .ok (.aload_n 1, 1) := by decide +kernel
theorem dX0_readOfPerson_1 : decode cX0_readOfPerson 1 = .ok (.getfield 45, 3) := by decide +kernel
theorem dX0_readOfPerson_4 : decode cX0_readOfPerson 4 = .ok (.astore 4, 2) := by decide +kernel
theorem dX0_readOfPerson_6 : decode cX0_readOfPerson 6 = .ok (.aload 4, 2) := by decide +kernel
theorem dX0_readOfPerson_8 : decode cX0_readOfPerson 8 = .ok (.getstatic 104, 3) := by decide +kernel
theorem dX0_readOfPerson_11 : decode cX0_readOfPerson 11 = .ok (.if_acmp .eq 25, 3) := by decide +kernel
theorem dX0_readOfPerson_14 : decode cX0_readOfPerson 14 = .ok (.aload 4, 2) := by decide +kernel
theorem dX0_readOfPerson_16 : decode cX0_readOfPerson 16 = .ok (.getstatic 107, 3) := by decide +kernel
theorem dX0_readOfPerson_19 : decode cX0_readOfPerson 19 = .ok (.if_acmp .eq 17, 3) := by decide +kernel
theorem dX0_readOfPerson_22 : decode cX0_readOfPerson 22 = .ok (.aload 4, 2) := by decide +kernel
theorem dX0_readOfPerson_24 : decode cX0_readOfPerson 24 = .ok (.getstatic 110, 3) := by decide +kernel
theorem dX0_readOfPerson_27 : decode cX0_readOfPerson 27 = .ok (.if_acmp .eq 9, 3) := by decide +kernel
theorem dX0_readOfPerson_30 : decode cX0_readOfPerson 30 = .ok (.aload_n 1, 1) := by decide +kernel
theorem dX0_readOfPerson_31 : decode cX0_readOfPerson 31 = .ok (.iconst 1, 1) := by decide +kernel
theorem dX0_readOfPerson_32 : decode cX0_readOfPerson 32 = .ok (.invokevirtual 68, 3) := by decide +kernel
theorem dX0_readOfPerson_35 : decode cX0_readOfPerson 35 = .ok (.ireturn, 1) := by decide +kernel
theorem dX0_readOfPerson_36 : decode cX0_readOfPerson 36 = .ok (.aload_n 1, 1) := by decide +kernel
theorem dX0_readOfPerson_37 : decode cX0_readOfPerson 37 = .ok (.invokevirtual 71, 3) := by decide +kernel
theorem dX0_readOfPerson_40 : decode cX0_readOfPerson 40 = .ok (.aload 4, 2) := by decide +kernel
theorem dX0_readOfPerson_42 : decode cX0_readOfPerson 42 = .ok (.getstatic 104, 3) := by decide +kernel
theorem dX0_readOfPerson_45 : decode cX0_readOfPerson 45 = .ok (.if_acmp .ne 18, 3) := by decide +kernel
theorem dX0_readOfPerson_48 : decode cX0_readOfPerson 48 = .ok (.aload_n 0, 1) := by decide +kernel
theorem dX0_readOfPerson_49 : decode cX0_readOfPerson 49 = .ok (.aload 4, 2) := by decide +kernel
theorem dX0_readOfPerson_51 : decode cX0_readOfPerson 51 = .ok (.iload_n 3, 1) := by decide +kernel
theorem dX0_readOfPerson_52 : decode cX0_readOfPerson 52 = .ok (.aload_n 1, 1) := by decide +kernel
theorem dX0_readOfPerson_53 : decode cX0_readOfPerson 53 = .ok (.iconst 1, 1) := by decide +kernel
theorem dX0_readOfPerson_54 : decode cX0_readOfPerson 54 = .ok (.bipush 20, 2) := by decide +kernel
theorem dX0_readOfPerson_56 : decode cX0_readOfPerson 56 = .ok (.invokevirtual 77, 3) := by decide +kernel
theorem dX0_readOfPerson_59 : decode cX0_readOfPerson 59 = .ok (.invokevirtual 81, 3) := by decide +kernel
theorem dX0_readOfPerson_62 : decode cX0_readOfPerson 62 = .ok (.ireturn, 1) := by decide +kernel
theorem dX0_readOfPerson_63 : decode cX0_readOfPerson 63 = .ok (.aload_n 0, 1) := by decide +kernel
theorem dX0_readOfPerson_64 : decode cX0_readOfPerson 64 = .ok (.aload 4, 2) := by decide +kernel
theorem dX0_readOfPerson_66 : decode cX0_readOfPerson 66 = .ok (.iload_n 3, 1) := by decide +kernel
theorem dX0_readOfPerson_67 : decode cX0_readOfPerson 67 = .ok (.aload 4, 2) := by decide +kernel
theorem dX0_readOfPerson_69 : decode cX0_readOfPerson 69 = .ok (.getstatic 107, 3) := by decide +kernel
theorem dX0_readOfPerson_72 : decode cX0_readOfPerson 72 = .ok (.if_acmp .ne 7, 3) := by decide +kernel
theorem dX0_readOfPerson_75 : decode cX0_readOfPerson 75 = .ok (.iconst 0, 1) := by decide +kernel
theorem dX0_readOfPerson_76 : decode cX0_readOfPerson 76 = .ok (.goto 15, 3) := by decide +kernel
theorem dX0_readOfPerson_79 : decode cX0_readOfPerson 79 = .ok (.aload_n 1, 1) := by decide +kernel
theorem dX0_readOfPerson_80 : decode cX0_readOfPerson 80 = .ok (.aload_n 2, 1) := by decide +kernel
theorem dX0_readOfPerson_81 : decode cX0_readOfPerson 81 = .ok (.getfield 98, 3) := by decide +kernel
theorem dX0_readOfPerson_84 : decode cX0_readOfPerson 84 = .ok (.aload_n 2, 1) := by decide +kernel
theorem dX0_readOfPerson_85 : decode cX0_readOfPerson 85 = .ok (.getfield 101, 3) := by decide +kernel
theorem dX0_readOfPerson_88 : decode cX0_readOfPerson 88 = .ok (.invokevirtual 95, 3) := by decide +kernel
theorem dX0_readOfPerson_91 : decode cX0_readOfPerson 91 = .ok (.invokevirtual 81, 3) := by decide +kernel
theorem dX0_readOfPerson_94 : decode cX0_readOfPerson 94 = .ok (.ireturn, 1) := by decide +kernel
theorem dX0_addLine_0 : decode cX0_addLine 0 = .ok (.iload_n 3, 1) := by decide +kernel
theorem dX0_addLine_1 : decode cX0_addLine 1 = .ok (.iconst (-1), 1) := by decide +kernel
theorem dX0_addLine_2 : decode cX0_addLine 2 = .ok (.if_icmp .eq 12, 3) := by decide +kernel
theorem dX0_addLine_5 : decode cX0_addLine 5 = .ok (.aload_n 0, 1) := by decide +kernel
theorem dX0_addLine_6 : decode cX0_addLine 6 = .ok (.getfield 24, 3) := by decide +kernel
theorem dX0_addLine_9 : decode cX0_addLine 9 = .ok (.bipush 40, 2) := by decide +kernel
theorem dX0_addLine_11 : decode cX0_addLine 11 = .ok (.if_icmp .lt 5, 3) := by decide +kernel
theorem dX0_addLine_14 : decode cX0_addLine 14 = .ok (.iconst 0, 1) := by decide +kernel
theorem dX0_addLine_15 : decode cX0_addLine 15 = .ok (.ireturn, 1) := by decide +kernel
theorem dX0_addLine_16 : decode cX0_addLine 16 = .ok (.aload_n 0, 1) := by decide +kernel
theorem dX0_addLine_17 : decode cX0_addLine 17 = .ok (.getfield 13, 3) := by decide +kernel
theorem dX0_addLine_20 : decode cX0_addLine 20 = .ok (.aload_n 0, 1) := by decide +kernel
theorem dX0_addLine_21 : decode cX0_addLine 21 = .ok (.getfield 24, 3) := by decide +kernel
theorem dX0_addLine_24 : decode cX0_addLine 24 = .ok (.aload_n 1, 1) := by decide +kernel
theorem dX0_addLine_25 : decode cX0_addLine 25 = .ok (.aastore, 1) := by decide +kernel
theorem dX0_addLine_26 : decode cX0_addLine 26 = .ok (.aload_n 0, 1) := by decide +kernel
theorem dX0_addLine_27 : decode cX0_addLine 27 = .ok (.getfield 17, 3) := by decide +kernel
theorem dX0_addLine_30 : decode cX0_addLine 30 = .ok (.aload_n 0, 1) := by decide +kernel
theorem dX0_addLine_31 : decode cX0_addLine 31 = .ok (.getfield 24, 3) := by decide +kernel
theorem dX0_addLine_34 : decode cX0_addLine 34 = .ok (.iload_n 2, 1) := by decide +kernel
theorem dX0_addLine_35 : decode cX0_addLine 35 = .ok (.iastore, 1) := by decide +kernel
theorem dX0_addLine_36 : decode cX0_addLine 36 = .ok (.aload_n 0, 1) := by decide +kernel
theorem dX0_addLine_37 : decode cX0_addLine 37 = .ok (.getfield 21, 3) := by decide +kernel
theorem dX0_addLine_40 : decode cX0_addLine 40 = .ok (.aload_n 0, 1) := by decide +kernel
theorem dX0_addLine_41 : decode cX0_addLine 41 = .ok (.getfield 24, 3) := by decide +kernel
theorem dX0_addLine_44 : decode cX0_addLine 44 = .ok (.iload_n 3, 1) := by decide +kernel
theorem dX0_addLine_45 : decode cX0_addLine 45 = .ok (.iastore, 1) := by decide +kernel
theorem dX0_addLine_46 : decode cX0_addLine 46 = .ok (.aload_n 0, 1) := by decide +kernel
theorem dX0_addLine_47 : decode cX0_addLine 47 = .ok (.dup, 1) := by decide +kernel
theorem dX0_addLine_48 : decode cX0_addLine 48 = .ok (.getfield 24, 3) := by decide +kernel
theorem dX0_addLine_51 : decode cX0_addLine 51 = .ok (.iconst 1, 1) := by decide +kernel
theorem dX0_addLine_52 : decode cX0_addLine 52 = .ok (.iadd, 1) := by decide +kernel
theorem dX0_addLine_53 : decode cX0_addLine 53 = .ok (.putfield 24, 3) := by decide +kernel
theorem dX0_addLine_56 : decode cX0_addLine 56 = .ok (.iconst 1, 1) := by decide +kernel
theorem dX0_addLine_57 : decode cX0_addLine 57 = .ok (.ireturn, 1) := by decide +kernel
theorem dX0_live_0 : decode cX0_live 0 = .ok (.aload_n 0, 1) := by decide +kernel
theorem dX0_live_1 : decode cX0_live 1 = .ok (.iconst 0, 1) := by decide +kernel
theorem dX0_live_2 : decode cX0_live 2 = .ok (.putfield 113, 3) := by decide +kernel
theorem dX0_live_5 : decode cX0_live 5 = .ok (.aload_n 0, 1) := by decide +kernel
theorem dX0_live_6 : decode cX0_live 6 = .ok (.iconst 0, 1) := by decide +kernel
theorem dX0_live_7 : decode cX0_live 7 = .ok (.putfield 116, 3) := by decide +kernel
theorem dX0_live_10 : decode cX0_live 10 = .ok (.iconst 0, 1) := by decide +kernel
theorem dX0_live_11 : decode cX0_live 11 = .ok (.istore_n 3, 1) := by decide +kernel
theorem dX0_live_12 : decode cX0_live 12 = .ok (.iload_n 3, 1) := by decide +kernel
theorem dX0_live_13 : decode cX0_live 13 = .ok (.aload_n 0, 1) := by decide +kernel
theorem dX0_live_14 : decode cX0_live 14 = .ok (.getfield 24, 3) := by decide +kernel
theorem dX0_live_17 : decode cX0_live 17 = .ok (.if_icmp .ge 44, 3) := by decide +kernel
theorem dX0_live_20 : decode cX0_live 20 = .ok (.aload_n 0, 1) := by decide +kernel
theorem dX0_live_21 : decode cX0_live 21 = .ok (.getfield 113, 3) := by decide +kernel
theorem dX0_live_24 : decode cX0_live 24 = .ok (.ifCond .ne 37, 3) := by decide +kernel
theorem dX0_live_27 : decode cX0_live 27 = .ok (.aload_n 0, 1) := by decide +kernel
theorem dX0_live_28 : decode cX0_live 28 = .ok (.aload_n 0, 1) := by decide +kernel
theorem dX0_live_29 : decode cX0_live 29 = .ok (.aload_n 1, 1) := by decide +kernel
theorem dX0_live_30 : decode cX0_live 30 = .ok (.aload_n 2, 1) := by decide +kernel
theorem dX0_live_31 : decode cX0_live 31 = .ok (.iload_n 3, 1) := by decide +kernel
theorem dX0_live_32 : decode cX0_live 32 = .ok (.invokevirtual 119, 3) := by decide +kernel
theorem dX0_live_35 : decode cX0_live 35 = .ok (.putfield 113, 3) := by decide +kernel
theorem dX0_live_38 : decode cX0_live 38 = .ok (.aload_n 0, 1) := by decide +kernel
theorem dX0_live_39 : decode cX0_live 39 = .ok (.getfield 113, 3) := by decide +kernel
theorem dX0_live_42 : decode cX0_live 42 = .ok (.ifCond .ne 13, 3) := by decide +kernel
theorem dX0_live_45 : decode cX0_live 45 = .ok (.aload_n 0, 1) := by decide +kernel
theorem dX0_live_46 : decode cX0_live 46 = .ok (.dup, 1) := by decide +kernel
theorem dX0_live_47 : decode cX0_live 47 = .ok (.getfield 116, 3) := by decide +kernel
theorem dX0_live_50 : decode cX0_live 50 = .ok (.iconst 1, 1) := by decide +kernel
theorem dX0_live_51 : decode cX0_live 51 = .ok (.iadd, 1) := by decide +kernel
theorem dX0_live_52 : decode cX0_live 52 = .ok (.putfield 116, 3) := by decide +kernel
theorem dX0_live_55 : decode cX0_live 55 = .ok (.iinc 3 1, 3) := by decide +kernel
theorem dX0_live_58 : decode cX0_live 58 = .ok (.goto (-46), 3) := by decide +kernel
theorem dX0_live_61 : decode cX0_live 61 = .ok (.aload_n 0, 1) := by decide +kernel
theorem dX0_live_62 : decode cX0_live 62 = .ok (.aload_n 2, 1) := by decide +kernel
theorem dX0_live_63 : decode cX0_live 63 = .ok (.getfield 123, 3) := by decide +kernel
theorem dX0_live_66 : decode cX0_live 66 = .ok (.putfield 128, 3) := by decide +kernel
theorem dX0_live_69 : decode cX0_live 69 = .ok (.aload_n 0, 1) := by decide +kernel
theorem dX0_live_70 : decode cX0_live 70 = .ok (.aload_n 2, 1) := by decide +kernel
theorem dX0_live_71 : decode cX0_live 71 = .ok (.getfield 131, 3) := by decide +kernel
theorem dX0_live_74 : decode cX0_live 74 = .ok (.putfield 134, 3) := by decide +kernel
theorem dX0_live_77 : decode cX0_live 77 = .ok (.aload_n 0, 1) := by decide +kernel
theorem dX0_live_78 : decode cX0_live 78 = .ok (.iconst 1, 1) := by decide +kernel
theorem dX0_live_79 : decode cX0_live 79 = .ok (.putfield 137, 3) := by decide +kernel
theorem dX0_live_82 : decode cX0_live 82 = .ok (.return_, 1) := by decide +kernel
theorem dX0_liveLine_0 : decode cX0_liveLine 0 = .ok (.aload_n 0, 1) := by decide +kernel
theorem dX0_liveLine_1 : decode cX0_liveLine 1 = .ok (.getfield 17, 3) := by decide +kernel
theorem dX0_liveLine_4 : decode cX0_liveLine 4 = .ok (.iload_n 3, 1) := by decide +kernel
theorem dX0_liveLine_5 : decode cX0_liveLine 5 = .ok (.iaload, 1) := by decide +kernel
theorem dX0_liveLine_6 : decode cX0_liveLine 6 = .ok (.istore 4, 2) := by decide +kernel
theorem dX0_liveLine_8 : decode cX0_liveLine 8 = .ok (.aload_n 0, 1) := by decide +kernel
theorem dX0_liveLine_9 : decode cX0_liveLine 9 = .ok (.getfield 21, 3) := by decide +kernel
theorem dX0_liveLine_12 : decode cX0_liveLine 12 = .ok (.iload_n 3, 1) := by decide +kernel
theorem dX0_liveLine_13 : decode cX0_liveLine 13 = .ok (.iaload, 1) := by decide +kernel
theorem dX0_liveLine_14 : decode cX0_liveLine 14 = .ok (.istore 5, 2) := by decide +kernel
theorem dX0_liveLine_16 : decode cX0_liveLine 16 = .ok (.aload_n 0, 1) := by decide +kernel
theorem dX0_liveLine_17 : decode cX0_liveLine 17 = .ok (.getfield 13, 3) := by decide +kernel
theorem dX0_liveLine_20 : decode cX0_liveLine 20 = .ok (.iload_n 3, 1) := by decide +kernel
theorem dX0_liveLine_21 : decode cX0_liveLine 21 = .ok (.aaload, 1) := by decide +kernel
theorem dX0_liveLine_22 : decode cX0_liveLine 22 = .ok (.getstatic 104, 3) := by decide +kernel
theorem dX0_liveLine_25 : decode cX0_liveLine 25 = .ok (.if_acmp .ne 14, 3) := by decide +kernel
theorem dX0_liveLine_28 : decode cX0_liveLine 28 = .ok (.aload_n 0, 1) := by decide +kernel
theorem dX0_liveLine_29 : decode cX0_liveLine 29 = .ok (.aload_n 1, 1) := by decide +kernel
theorem dX0_liveLine_30 : decode cX0_liveLine 30 = .ok (.aload_n 2, 1) := by decide +kernel
theorem dX0_liveLine_31 : decode cX0_liveLine 31 = .ok (.iload 4, 2) := by decide +kernel
theorem dX0_liveLine_33 : decode cX0_liveLine 33 = .ok (.iload 5, 2) := by decide +kernel
theorem dX0_liveLine_35 : decode cX0_liveLine 35 = .ok (.invokevirtual 141, 3) := by decide +kernel
theorem dX0_liveLine_38 : decode cX0_liveLine 38 = .ok (.ireturn, 1) := by decide +kernel
theorem dX0_liveLine_39 : decode cX0_liveLine 39 = .ok (.aload_n 0, 1) := by decide +kernel
theorem dX0_liveLine_40 : decode cX0_liveLine 40 = .ok (.getfield 13, 3) := by decide +kernel
theorem dX0_liveLine_43 : decode cX0_liveLine 43 = .ok (.iload_n 3, 1) := by decide +kernel
theorem dX0_liveLine_44 : decode cX0_liveLine 44 = .ok (.aaload, 1) := by decide +kernel
theorem dX0_liveLine_45 : decode cX0_liveLine 45 = .ok (.getstatic 107, 3) := by decide +kernel
theorem dX0_liveLine_48 : decode cX0_liveLine 48 = .ok (.if_acmp .ne 11, 3) := by decide +kernel
theorem dX0_liveLine_51 : decode cX0_liveLine 51 = .ok (.aload_n 0, 1) := by decide +kernel
theorem dX0_liveLine_52 : decode cX0_liveLine 52 = .ok (.aload_n 2, 1) := by decide +kernel
theorem dX0_liveLine_53 : decode cX0_liveLine 53 = .ok (.iload 4, 2) := by decide +kernel
theorem dX0_liveLine_55 : decode cX0_liveLine 55 = .ok (.invokevirtual 145, 3) := by decide +kernel
theorem dX0_liveLine_58 : decode cX0_liveLine 58 = .ok (.ireturn, 1) := by decide +kernel
theorem dX0_liveLine_59 : decode cX0_liveLine 59 = .ok (.aload_n 0, 1) := by decide +kernel
theorem dX0_liveLine_60 : decode cX0_liveLine 60 = .ok (.getfield 13, 3) := by decide +kernel
theorem dX0_liveLine_63 : decode cX0_liveLine 63 = .ok (.iload_n 3, 1) := by decide +kernel
theorem dX0_liveLine_64 : decode cX0_liveLine 64 = .ok (.aaload, 1) := by decide +kernel
theorem dX0_liveLine_65 : decode cX0_liveLine 65 = .ok (.getstatic 110, 3) := by decide +kernel
theorem dX0_liveLine_68 : decode cX0_liveLine 68 = .ok (.if_acmp .ne 13, 3) := by decide +kernel
theorem dX0_liveLine_71 : decode cX0_liveLine 71 = .ok (.aload_n 0, 1) := by decide +kernel
theorem dX0_liveLine_72 : decode cX0_liveLine 72 = .ok (.aload_n 2, 1) := by decide +kernel
theorem dX0_liveLine_73 : decode cX0_liveLine 73 = .ok (.iload 4, 2) := by decide +kernel
theorem dX0_liveLine_75 : decode cX0_liveLine 75 = .ok (.iload 5, 2) := by decide +kernel
theorem dX0_liveLine_77 : decode cX0_liveLine 77 = .ok (.invokevirtual 149, 3) := by decide +kernel
theorem dX0_liveLine_80 : decode cX0_liveLine 80 = .ok (.ireturn, 1) := by decide +kernel
theorem dX0_liveLine_81 : decode cX0_liveLine 81 = .ok (.aload_n 0, 1) := by decide +kernel
theorem dX0_liveLine_82 : decode cX0_liveLine 82 = .ok (.getfield 13, 3) := by decide +kernel
theorem dX0_liveLine_85 : decode cX0_liveLine 85 = .ok (.iload_n 3, 1) := by decide +kernel
theorem dX0_liveLine_86 : decode cX0_liveLine 86 = .ok (.aaload, 1) := by decide +kernel
theorem dX0_liveLine_87 : decode cX0_liveLine 87 = .ok (.getstatic 49, 3) := by decide +kernel
theorem dX0_liveLine_90 : decode cX0_liveLine 90 = .ok (.if_acmp .ne 14, 3) := by decide +kernel
theorem dX0_liveLine_93 : decode cX0_liveLine 93 = .ok (.aload_n 0, 1) := by decide +kernel
theorem dX0_liveLine_94 : decode cX0_liveLine 94 = .ok (.aload_n 1, 1) := by decide +kernel
theorem dX0_liveLine_95 : decode cX0_liveLine 95 = .ok (.aload_n 2, 1) := by decide +kernel
theorem dX0_liveLine_96 : decode cX0_liveLine 96 = .ok (.iload 4, 2) := by decide +kernel
theorem dX0_liveLine_98 : decode cX0_liveLine 98 = .ok (.iload 5, 2) := by decide +kernel
theorem dX0_liveLine_100 : decode cX0_liveLine 100 = .ok (.invokevirtual 153, 3) := by decide +kernel
theorem dX0_liveLine_103 : decode cX0_liveLine 103 = .ok (.ireturn, 1) := by decide +kernel
theorem dX0_liveLine_104 : decode cX0_liveLine 104 = .ok (.iload 5, 2) := by decide +kernel
theorem dX0_liveLine_106 : decode cX0_liveLine 106 = .ok (.aload_n 2, 1) := by decide +kernel
theorem dX0_liveLine_107 : decode cX0_liveLine 107 = .ok (.invokevirtual 156, 3) := by decide +kernel
theorem dX0_liveLine_110 : decode cX0_liveLine 110 = .ok (.if_icmp .le 6, 3) := by decide +kernel
theorem dX0_liveLine_113 : decode cX0_liveLine 113 = .ok (.bipush 41, 2) := by decide +kernel
theorem dX0_liveLine_115 : decode cX0_liveLine 115 = .ok (.ireturn, 1) := by decide +kernel
theorem dX0_liveLine_116 : decode cX0_liveLine 116 = .ok (.aload_n 2, 1) := by decide +kernel
theorem dX0_liveLine_117 : decode cX0_liveLine 117 = .ok (.aload_n 1, 1) := by decide +kernel
theorem dX0_liveLine_118 : decode cX0_liveLine 118 = .ok (.iload 5, 2) := by decide +kernel
theorem dX0_liveLine_120 : decode cX0_liveLine 120 = .ok (.invokevirtual 160, 3) := by decide +kernel
theorem dX0_liveLine_123 : decode cX0_liveLine 123 = .ok (.iconst 0, 1) := by decide +kernel
theorem dX0_liveLine_124 : decode cX0_liveLine 124 = .ok (.ireturn, 1) := by decide +kernel
theorem dX0_liveStroke_0 : decode cX0_liveStroke 0 = .ok (.aload_n 2, 1) := by decide +kernel
theorem dX0_liveStroke_1 : decode cX0_liveStroke 1 = .ok (.aload_n 1, 1) := by decide +kernel
theorem dX0_liveStroke_2 : decode cX0_liveStroke 2 = .ok (.iload_n 3, 1) := by decide +kernel
theorem dX0_liveStroke_3 : decode cX0_liveStroke 3 = .ok (.iload 4, 2) := by decide +kernel
theorem dX0_liveStroke_5 : decode cX0_liveStroke 5 = .ok (.invokevirtual 164, 3) := by decide +kernel
theorem dX0_liveStroke_8 : decode cX0_liveStroke 8 = .ok (.istore 5, 2) := by decide +kernel
theorem dX0_liveStroke_10 : decode cX0_liveStroke 10 = .ok (.iload 5, 2) := by decide +kernel
theorem dX0_liveStroke_12 : decode cX0_liveStroke 12 = .ok (.ifCond .ne 11, 3) := by decide +kernel
theorem dX0_liveStroke_15 : decode cX0_liveStroke 15 = .ok (.aload_n 2, 1) := by decide +kernel
theorem dX0_liveStroke_16 : decode cX0_liveStroke 16 = .ok (.aload_n 1, 1) := by decide +kernel
theorem dX0_liveStroke_17 : decode cX0_liveStroke 17 = .ok (.iload_n 3, 1) := by decide +kernel
theorem dX0_liveStroke_18 : decode cX0_liveStroke 18 = .ok (.iload 4, 2) := by decide +kernel
theorem dX0_liveStroke_20 : decode cX0_liveStroke 20 = .ok (.invokevirtual 168, 3) := by decide +kernel
theorem dX0_liveStroke_23 : decode cX0_liveStroke 23 = .ok (.iload 5, 2) := by decide +kernel
theorem dX0_liveStroke_25 : decode cX0_liveStroke 25 = .ok (.ireturn, 1) := by decide +kernel
theorem dX0_liveCut_0 : decode cX0_liveCut 0 = .ok (.aload_n 1, 1) := by decide +kernel
theorem dX0_liveCut_1 : decode cX0_liveCut 1 = .ok (.iload_n 2, 1) := by decide +kernel
theorem dX0_liveCut_2 : decode cX0_liveCut 2 = .ok (.invokevirtual 172, 3) := by decide +kernel
theorem dX0_liveCut_5 : decode cX0_liveCut 5 = .ok (.istore_n 3, 1) := by decide +kernel
theorem dX0_liveCut_6 : decode cX0_liveCut 6 = .ok (.iload_n 3, 1) := by decide +kernel
theorem dX0_liveCut_7 : decode cX0_liveCut 7 = .ok (.ifCond .eq 8, 3) := by decide +kernel
theorem dX0_liveCut_10 : decode cX0_liveCut 10 = .ok (.bipush 10, 2) := by decide +kernel
theorem dX0_liveCut_12 : decode cX0_liveCut 12 = .ok (.iload_n 3, 1) := by decide +kernel
theorem dX0_liveCut_13 : decode cX0_liveCut 13 = .ok (.iadd, 1) := by decide +kernel
theorem dX0_liveCut_14 : decode cX0_liveCut 14 = .ok (.ireturn, 1) := by decide +kernel
theorem dX0_liveCut_15 : decode cX0_liveCut 15 = .ok (.aload_n 1, 1) := by decide +kernel
theorem dX0_liveCut_16 : decode cX0_liveCut 16 = .ok (.iload_n 2, 1) := by decide +kernel
theorem dX0_liveCut_17 : decode cX0_liveCut 17 = .ok (.invokevirtual 176, 3) := by decide +kernel
theorem dX0_liveCut_20 : decode cX0_liveCut 20 = .ok (.iconst 0, 1) := by decide +kernel
theorem dX0_liveCut_21 : decode cX0_liveCut 21 = .ok (.ireturn, 1) := by decide +kernel
theorem dX0_liveCatch_0 : decode cX0_liveCatch 0 = .ok (.aload_n 1, 1) := by decide +kernel
theorem dX0_liveCatch_1 : decode cX0_liveCatch 1 = .ok (.iload_n 2, 1) := by decide +kernel
theorem dX0_liveCatch_2 : decode cX0_liveCatch 2 = .ok (.invokevirtual 179, 3) := by decide +kernel
theorem dX0_liveCatch_5 : decode cX0_liveCatch 5 = .ok (.istore 4, 2) := by decide +kernel
theorem dX0_liveCatch_7 : decode cX0_liveCatch 7 = .ok (.iload 4, 2) := by decide +kernel
theorem dX0_liveCatch_9 : decode cX0_liveCatch 9 = .ok (.ifCond .eq 9, 3) := by decide +kernel
theorem dX0_liveCatch_12 : decode cX0_liveCatch 12 = .ok (.bipush 20, 2) := by decide +kernel
theorem dX0_liveCatch_14 : decode cX0_liveCatch 14 = .ok (.iload 4, 2) := by decide +kernel
theorem dX0_liveCatch_16 : decode cX0_liveCatch 16 = .ok (.iadd, 1) := by decide +kernel
theorem dX0_liveCatch_17 : decode cX0_liveCatch 17 = .ok (.ireturn, 1) := by decide +kernel
theorem dX0_liveCatch_18 : decode cX0_liveCatch 18 = .ok (.aload_n 1, 1) := by decide +kernel
theorem dX0_liveCatch_19 : decode cX0_liveCatch 19 = .ok (.iload_n 2, 1) := by decide +kernel
theorem dX0_liveCatch_20 : decode cX0_liveCatch 20 = .ok (.iload_n 3, 1) := by decide +kernel
theorem dX0_liveCatch_21 : decode cX0_liveCatch 21 = .ok (.invokevirtual 182, 3) := by decide +kernel
theorem dX0_liveCatch_24 : decode cX0_liveCatch 24 = .ok (.iconst 0, 1) := by decide +kernel
theorem dX0_liveCatch_25 : decode cX0_liveCatch 25 = .ok (.ireturn, 1) := by decide +kernel
theorem dX0_liveStuffing_0 : decode cX0_liveStuffing 0 = .ok (.aload_n 2, 1) := by decide +kernel
theorem dX0_liveStuffing_1 : decode cX0_liveStuffing 1 = .ok (.iload 4, 2) := by decide +kernel
theorem dX0_liveStuffing_3 : decode cX0_liveStuffing 3 = .ok (.invokevirtual 186, 3) := by decide +kernel
theorem dX0_liveStuffing_6 : decode cX0_liveStuffing 6 = .ok (.istore 5, 2) := by decide +kernel
theorem dX0_liveStuffing_8 : decode cX0_liveStuffing 8 = .ok (.iload 5, 2) := by decide +kernel
theorem dX0_liveStuffing_10 : decode cX0_liveStuffing 10 = .ok (.ifCond .eq 9, 3) := by decide +kernel
theorem dX0_liveStuffing_13 : decode cX0_liveStuffing 13 = .ok (.bipush 30, 2) := by decide +kernel
theorem dX0_liveStuffing_15 : decode cX0_liveStuffing 15 = .ok (.iload 5, 2) := by decide +kernel
theorem dX0_liveStuffing_17 : decode cX0_liveStuffing 17 = .ok (.iadd, 1) := by decide +kernel
theorem dX0_liveStuffing_18 : decode cX0_liveStuffing 18 = .ok (.ireturn, 1) := by decide +kernel
theorem dX0_liveStuffing_19 : decode cX0_liveStuffing 19 = .ok (.aload_n 2, 1) := by decide +kernel
theorem dX0_liveStuffing_20 : decode cX0_liveStuffing 20 = .ok (.aload_n 1, 1) := by decide +kernel
theorem dX0_liveStuffing_21 : decode cX0_liveStuffing 21 = .ok (.iload_n 3, 1) := by decide +kernel
theorem dX0_liveStuffing_22 : decode cX0_liveStuffing 22 = .ok (.iload 4, 2) := by decide +kernel
theorem dX0_liveStuffing_24 : decode cX0_liveStuffing 24 = .ok (.invokevirtual 189, 3) := by decide +kernel
theorem dX0_liveStuffing_27 : decode cX0_liveStuffing 27 = .ok (.iconst 0, 1) := by decide +kernel
theorem dX0_liveStuffing_28 : decode cX0_liveStuffing 28 = .ok (.ireturn, 1) := by decide +kernel
theorem dX1_init_0 : decode cX1_init 0 = .ok (.aload_n 0, 1) := by decide +kernel
theorem dX1_init_1 : decode cX1_init 1 = .ok (.invokespecial 1, 3) := by decide +kernel
theorem dX1_init_4 : decode cX1_init 4 = .ok (.aload_n 0, 1) := by decide +kernel
theorem dX1_init_5 : decode cX1_init 5 = .ok (.new 7, 3) := by decide +kernel
theorem dX1_init_8 : decode cX1_init 8 = .ok (.dup, 1) := by decide +kernel
theorem dX1_init_9 : decode cX1_init 9 = .ok (.invokespecial 9, 3) := by decide +kernel
theorem dX1_init_12 : decode cX1_init 12 = .ok (.putfield 10, 3) := by decide +kernel
theorem dX1_init_15 : decode cX1_init 15 = .ok (.aload_n 0, 1) := by decide +kernel
theorem dX1_init_16 : decode cX1_init 16 = .ok (.new 16, 3) := by decide +kernel
theorem dX1_init_19 : decode cX1_init 19 = .ok (.dup, 1) := by decide +kernel
theorem dX1_init_20 : decode cX1_init 20 = .ok (.invokespecial 18, 3) := by decide +kernel
theorem dX1_init_23 : decode cX1_init 23 = .ok (.putfield 19, 3) := by decide +kernel
theorem dX1_init_26 : decode cX1_init 26 = .ok (.aload_n 0, 1) := by decide +kernel
theorem dX1_init_27 : decode cX1_init 27 = .ok (.new 23, 3) := by decide +kernel
theorem dX1_init_30 : decode cX1_init 30 = .ok (.dup, 1) := by decide +kernel
theorem dX1_init_31 : decode cX1_init 31 = .ok (.invokespecial 25, 3) := by decide +kernel
theorem dX1_init_34 : decode cX1_init 34 = .ok (.putfield 26, 3) := by decide +kernel
theorem dX1_init_37 : decode cX1_init 37 = .ok (.return_, 1) := by decide +kernel
theorem dX1_keep_0 : decode cX1_keep 0 = .ok (.aload_n 0, 1) := by decide +kernel
theorem dX1_keep_1 : decode cX1_keep 1 = .ok (.getfield 10, 3) := by decide +kernel
theorem dX1_keep_4 : decode cX1_keep 4 = .ok (.aload_n 1, 1) := by decide +kernel
theorem dX1_keep_5 : decode cX1_keep 5 = .ok (.invokevirtual 30, 3) := by decide +kernel
theorem dX1_keep_8 : decode cX1_keep 8 = .ok (.aload_n 0, 1) := by decide +kernel
theorem dX1_keep_9 : decode cX1_keep 9 = .ok (.getfield 19, 3) := by decide +kernel
theorem dX1_keep_12 : decode cX1_keep 12 = .ok (.aload_n 2, 1) := by decide +kernel
theorem dX1_keep_13 : decode cX1_keep 13 = .ok (.invokevirtual 34, 3) := by decide +kernel
theorem dX1_keep_16 : decode cX1_keep 16 = .ok (.aload_n 0, 1) := by decide +kernel
theorem dX1_keep_17 : decode cX1_keep 17 = .ok (.getfield 26, 3) := by decide +kernel
theorem dX1_keep_20 : decode cX1_keep 20 = .ok (.aload_n 3, 1) := by decide +kernel
theorem dX1_keep_21 : decode cX1_keep 21 = .ok (.invokevirtual 37, 3) := by decide +kernel
theorem dX1_keep_24 : decode cX1_keep 24 = .ok (.aload_n 0, 1) := by decide +kernel
theorem dX1_keep_25 : decode cX1_keep 25 = .ok (.iconst 1, 1) := by decide +kernel
theorem dX1_keep_26 : decode cX1_keep 26 = .ok (.putfield 40, 3) := by decide +kernel
theorem dX1_keep_29 : decode cX1_keep 29 = .ok (.return_, 1) := by decide +kernel
theorem dX1_bringBack_0 : decode cX1_bringBack 0 = .ok (.aload_n 1, 1) := by decide +kernel
theorem dX1_bringBack_1 : decode cX1_bringBack 1 = .ok (.aload_n 0, 1) := by decide +kernel
theorem dX1_bringBack_2 : decode cX1_bringBack 2 = .ok (.getfield 10, 3) := by decide +kernel
theorem dX1_bringBack_5 : decode cX1_bringBack 5 = .ok (.invokevirtual 30, 3) := by decide +kernel
theorem dX1_bringBack_8 : decode cX1_bringBack 8 = .ok (.aload_n 2, 1) := by decide +kernel
theorem dX1_bringBack_9 : decode cX1_bringBack 9 = .ok (.aload_n 0, 1) := by decide +kernel
theorem dX1_bringBack_10 : decode cX1_bringBack 10 = .ok (.getfield 19, 3) := by decide +kernel
theorem dX1_bringBack_13 : decode cX1_bringBack 13 = .ok (.invokevirtual 34, 3) := by decide +kernel
theorem dX1_bringBack_16 : decode cX1_bringBack 16 = .ok (.aload_n 3, 1) := by decide +kernel
theorem dX1_bringBack_17 : decode cX1_bringBack 17 = .ok (.aload_n 0, 1) := by decide +kernel
theorem dX1_bringBack_18 : decode cX1_bringBack 18 = .ok (.getfield 26, 3) := by decide +kernel
theorem dX1_bringBack_21 : decode cX1_bringBack 21 = .ok (.invokevirtual 37, 3) := by decide +kernel
theorem dX1_bringBack_24 : decode cX1_bringBack 24 = .ok (.return_, 1) := by decide +kernel
theorem dX2_init_0 : decode cX2_init 0 = .ok (.aload_n 0, 1) := by decide +kernel
theorem dX2_init_1 : decode cX2_init 1 = .ok (.invokespecial 3, 3) := by decide +kernel
theorem dX2_init_4 : decode cX2_init 4 = .ok (.aload_n 0, 1) := by decide +kernel
theorem dX2_init_5 : decode cX2_init 5 = .ok (.bipush 8, 2) := by decide +kernel
theorem dX2_init_7 : decode cX2_init 7 = .ok (.anewarray 11, 3) := by decide +kernel
theorem dX2_init_10 : decode cX2_init 10 = .ok (.putfield 13, 3) := by decide +kernel
theorem dX2_init_13 : decode cX2_init 13 = .ok (.iconst 0, 1) := by decide +kernel
theorem dX2_init_14 : decode cX2_init 14 = .ok (.istore_n 1, 1) := by decide +kernel
theorem dX2_init_15 : decode cX2_init 15 = .ok (.iload_n 1, 1) := by decide +kernel
theorem dX2_init_16 : decode cX2_init 16 = .ok (.bipush 8, 2) := by decide +kernel
theorem dX2_init_18 : decode cX2_init 18 = .ok (.if_icmp .ge 22, 3) := by decide +kernel
theorem dX2_init_21 : decode cX2_init 21 = .ok (.aload_n 0, 1) := by decide +kernel
theorem dX2_init_22 : decode cX2_init 22 = .ok (.getfield 13, 3) := by decide +kernel
theorem dX2_init_25 : decode cX2_init 25 = .ok (.iload_n 1, 1) := by decide +kernel
theorem dX2_init_26 : decode cX2_init 26 = .ok (.new 11, 3) := by decide +kernel
theorem dX2_init_29 : decode cX2_init 29 = .ok (.dup, 1) := by decide +kernel
theorem dX2_init_30 : decode cX2_init 30 = .ok (.invokespecial 17, 3) := by decide +kernel
theorem dX2_init_33 : decode cX2_init 33 = .ok (.aastore, 1) := by decide +kernel
theorem dX2_init_34 : decode cX2_init 34 = .ok (.iinc 1 1, 3) := by decide +kernel
theorem dX2_init_37 : decode cX2_init 37 = .ok (.goto (-22), 3) := by decide +kernel
theorem dX2_init_40 : decode cX2_init 40 = .ok (.return_, 1) := by decide +kernel
theorem dX2_keep_0 : decode cX2_keep 0 = .ok (.aload_n 0, 1) := by decide +kernel
theorem dX2_keep_1 : decode cX2_keep 1 = .ok (.getfield 13, 3) := by decide +kernel
theorem dX2_keep_4 : decode cX2_keep 4 = .ok (.aload_n 0, 1) := by decide +kernel
theorem dX2_keep_5 : decode cX2_keep 5 = .ok (.getfield 18, 3) := by decide +kernel
theorem dX2_keep_8 : decode cX2_keep 8 = .ok (.aaload, 1) := by decide +kernel
theorem dX2_keep_9 : decode cX2_keep 9 = .ok (.ifnonnull 4, 3) := by decide +kernel
theorem dX2_keep_12 : decode cX2_keep 12 = .ok (.return_, 1) := by decide +kernel
theorem dX2_keep_13 : decode cX2_keep 13 = .ok (.aload_n 0, 1) := by decide +kernel
theorem dX2_keep_14 : decode cX2_keep 14 = .ok (.getfield 13, 3) := by decide +kernel
theorem dX2_keep_17 : decode cX2_keep 17 = .ok (.aload_n 0, 1) := by decide +kernel
theorem dX2_keep_18 : decode cX2_keep 18 = .ok (.getfield 18, 3) := by decide +kernel
theorem dX2_keep_21 : decode cX2_keep 21 = .ok (.aaload, 1) := by decide +kernel
theorem dX2_keep_22 : decode cX2_keep 22 = .ok (.aload_n 1, 1) := by decide +kernel
theorem dX2_keep_23 : decode cX2_keep 23 = .ok (.invokevirtual 22, 3) := by decide +kernel
theorem dX2_keep_26 : decode cX2_keep 26 = .ok (.aload_n 0, 1) := by decide +kernel
theorem dX2_keep_27 : decode cX2_keep 27 = .ok (.aload_n 0, 1) := by decide +kernel
theorem dX2_keep_28 : decode cX2_keep 28 = .ok (.getfield 18, 3) := by decide +kernel
theorem dX2_keep_31 : decode cX2_keep 31 = .ok (.iconst 1, 1) := by decide +kernel
theorem dX2_keep_32 : decode cX2_keep 32 = .ok (.iadd, 1) := by decide +kernel
theorem dX2_keep_33 : decode cX2_keep 33 = .ok (.bipush 8, 2) := by decide +kernel
theorem dX2_keep_35 : decode cX2_keep 35 = .ok (.irem, 1) := by decide +kernel
theorem dX2_keep_36 : decode cX2_keep 36 = .ok (.putfield 18, 3) := by decide +kernel
theorem dX2_keep_39 : decode cX2_keep 39 = .ok (.aload_n 0, 1) := by decide +kernel
theorem dX2_keep_40 : decode cX2_keep 40 = .ok (.aload_n 0, 1) := by decide +kernel
theorem dX2_keep_41 : decode cX2_keep 41 = .ok (.getfield 26, 3) := by decide +kernel
theorem dX2_keep_44 : decode cX2_keep 44 = .ok (.iconst 1, 1) := by decide +kernel
theorem dX2_keep_45 : decode cX2_keep 45 = .ok (.iadd, 1) := by decide +kernel
theorem dX2_keep_46 : decode cX2_keep 46 = .ok (.bipush 8, 2) := by decide +kernel
theorem dX2_keep_48 : decode cX2_keep 48 = .ok (.invokestatic 29, 3) := by decide +kernel
theorem dX2_keep_51 : decode cX2_keep 51 = .ok (.putfield 26, 3) := by decide +kernel
theorem dX2_keep_54 : decode cX2_keep 54 = .ok (.return_, 1) := by decide +kernel
theorem dX2_takeBack_0 : decode cX2_takeBack 0 = .ok (.aload_n 0, 1) := by decide +kernel
theorem dX2_takeBack_1 : decode cX2_takeBack 1 = .ok (.getfield 18, 3) := by decide +kernel
theorem dX2_takeBack_4 : decode cX2_takeBack 4 = .ok (.bipush 8, 2) := by decide +kernel
theorem dX2_takeBack_6 : decode cX2_takeBack 6 = .ok (.iadd, 1) := by decide +kernel
theorem dX2_takeBack_7 : decode cX2_takeBack 7 = .ok (.iconst 1, 1) := by decide +kernel
theorem dX2_takeBack_8 : decode cX2_takeBack 8 = .ok (.isub, 1) := by decide +kernel
theorem dX2_takeBack_9 : decode cX2_takeBack 9 = .ok (.bipush 8, 2) := by decide +kernel
theorem dX2_takeBack_11 : decode cX2_takeBack 11 = .ok (.irem, 1) := by decide +kernel
theorem dX2_takeBack_12 : decode cX2_takeBack 12 = .ok (.istore_n 2, 1) := by decide +kernel
theorem dX2_takeBack_13 : decode cX2_takeBack 13 = .ok (.aload_n 0, 1) := by decide +kernel
theorem dX2_takeBack_14 : decode cX2_takeBack 14 = .ok (.getfield 26, 3) := by decide +kernel
theorem dX2_takeBack_17 : decode cX2_takeBack 17 = .ok (.ifCond .eq 12, 3) := by decide +kernel
theorem dX2_takeBack_20 : decode cX2_takeBack 20 = .ok (.aload_n 0, 1) := by decide +kernel
theorem dX2_takeBack_21 : decode cX2_takeBack 21 = .ok (.getfield 13, 3) := by decide +kernel
theorem dX2_takeBack_24 : decode cX2_takeBack 24 = .ok (.iload_n 2, 1) := by decide +kernel
theorem dX2_takeBack_25 : decode cX2_takeBack 25 = .ok (.aaload, 1) := by decide +kernel
theorem dX2_takeBack_26 : decode cX2_takeBack 26 = .ok (.ifnonnull 5, 3) := by decide +kernel
theorem dX2_takeBack_29 : decode cX2_takeBack 29 = .ok (.iconst (-1), 1) := by decide +kernel
theorem dX2_takeBack_30 : decode cX2_takeBack 30 = .ok (.ireturn, 1) := by decide +kernel
theorem dX2_takeBack_31 : decode cX2_takeBack 31 = .ok (.aload_n 1, 1) := by decide +kernel
theorem dX2_takeBack_32 : decode cX2_takeBack 32 = .ok (.aload_n 0, 1) := by decide +kernel
theorem dX2_takeBack_33 : decode cX2_takeBack 33 = .ok (.getfield 13, 3) := by decide +kernel
theorem dX2_takeBack_36 : decode cX2_takeBack 36 = .ok (.iload_n 2, 1) := by decide +kernel
theorem dX2_takeBack_37 : decode cX2_takeBack 37 = .ok (.aaload, 1) := by decide +kernel
theorem dX2_takeBack_38 : decode cX2_takeBack 38 = .ok (.invokevirtual 22, 3) := by decide +kernel
theorem dX2_takeBack_41 : decode cX2_takeBack 41 = .ok (.aload_n 0, 1) := by decide +kernel
theorem dX2_takeBack_42 : decode cX2_takeBack 42 = .ok (.iload_n 2, 1) := by decide +kernel
theorem dX2_takeBack_43 : decode cX2_takeBack 43 = .ok (.putfield 18, 3) := by decide +kernel
theorem dX2_takeBack_46 : decode cX2_takeBack 46 = .ok (.aload_n 0, 1) := by decide +kernel
theorem dX2_takeBack_47 : decode cX2_takeBack 47 = .ok (.dup, 1) := by decide +kernel
theorem dX2_takeBack_48 : decode cX2_takeBack 48 = .ok (.getfield 26, 3) := by decide +kernel
theorem dX2_takeBack_51 : decode cX2_takeBack 51 = .ok (.iconst 1, 1) := by decide +kernel
theorem dX2_takeBack_52 : decode cX2_takeBack 52 = .ok (.isub, 1) := by decide +kernel
theorem dX2_takeBack_53 : decode cX2_takeBack 53 = .ok (.putfield 26, 3) := by decide +kernel
theorem dX2_takeBack_56 : decode cX2_takeBack 56 = .ok (.aload_n 0, 1) := by decide +kernel
theorem dX2_takeBack_57 : decode cX2_takeBack 57 = .ok (.getfield 26, 3) := by decide +kernel
theorem dX2_takeBack_60 : decode cX2_takeBack 60 = .ok (.ireturn, 1) := by decide +kernel
theorem dX2_forget_0 : decode cX2_forget 0 = .ok (.aload_n 0, 1) := by decide +kernel
theorem dX2_forget_1 : decode cX2_forget 1 = .ok (.iconst 0, 1) := by decide +kernel
theorem dX2_forget_2 : decode cX2_forget 2 = .ok (.putfield 26, 3) := by decide +kernel
theorem dX2_forget_5 : decode cX2_forget 5 = .ok (.return_, 1) := by decide +kernel
theorem dX3_init_0 : decode cX3_init 0 = .ok (.aload_n 0, 1) := by decide +kernel
theorem dX3_init_1 : decode cX3_init 1 = .ok (.invokespecial 3, 3) := by decide +kernel
theorem dX3_init_4 : decode cX3_init 4 = .ok (.aload_n 0, 1) := by decide +kernel
theorem dX3_init_5 : decode cX3_init 5 = .ok (.sipush 1024, 3) := by decide +kernel
theorem dX3_init_8 : decode cX3_init 8 = .ok (.newarray .int, 2) := by decide +kernel
theorem dX3_init_10 : decode cX3_init 10 = .ok (.putfield 9, 3) := by decide +kernel
theorem dX3_init_13 : decode cX3_init 13 = .ok (.aload_n 0, 1) := by decide +kernel
theorem dX3_init_14 : decode cX3_init 14 = .ok (.bipush 10, 2) := by decide +kernel
theorem dX3_init_16 : decode cX3_init 16 = .ok (.newarray .int, 2) := by decide +kernel
theorem dX3_init_18 : decode cX3_init 18 = .ok (.putfield 15, 3) := by decide +kernel
theorem dX3_init_21 : decode cX3_init 21 = .ok (.aload_n 0, 1) := by decide +kernel
theorem dX3_init_22 : decode cX3_init 22 = .ok (.iconst 4, 1) := by decide +kernel
theorem dX3_init_23 : decode cX3_init 23 = .ok (.newarray .int, 2) := by decide +kernel
theorem dX3_init_25 : decode cX3_init 25 = .ok (.putfield 18, 3) := by decide +kernel
theorem dX3_init_28 : decode cX3_init 28 = .ok (.aload_n 0, 1) := by decide +kernel
theorem dX3_init_29 : decode cX3_init 29 = .ok (.bipush 6, 2) := by decide +kernel
theorem dX3_init_31 : decode cX3_init 31 = .ok (.newarray .int, 2) := by decide +kernel
theorem dX3_init_33 : decode cX3_init 33 = .ok (.putfield 21, 3) := by decide +kernel
theorem dX3_init_36 : decode cX3_init 36 = .ok (.return_, 1) := by decide +kernel
theorem dX3_fewestStrokes_0 : decode cX3_fewestStrokes 0 = .ok (.aload_n 2, 1) := by decide +kernel
theorem dX3_fewestStrokes_1 : decode cX3_fewestStrokes 1 = .ok (.aload_n 1, 1) := by decide +kernel
theorem dX3_fewestStrokes_2 : decode cX3_fewestStrokes 2 = .ok (.iload_n 3, 1) := by decide +kernel
theorem dX3_fewestStrokes_3 : decode cX3_fewestStrokes 3 = .ok (.invokevirtual 24, 3) := by decide +kernel
theorem dX3_fewestStrokes_6 : decode cX3_fewestStrokes 6 = .ok (.aload_n 1, 1) := by decide +kernel
theorem dX3_fewestStrokes_7 : decode cX3_fewestStrokes 7 = .ok (.getfield 30, 3) := by decide +kernel
theorem dX3_fewestStrokes_10 : decode cX3_fewestStrokes 10 = .ok (.iload_n 3, 1) := by decide +kernel
theorem dX3_fewestStrokes_11 : decode cX3_fewestStrokes 11 = .ok (.iaload, 1) := by decide +kernel
theorem dX3_fewestStrokes_12 : decode cX3_fewestStrokes 12 = .ok (.aload_n 2, 1) := by decide +kernel
theorem dX3_fewestStrokes_13 : decode cX3_fewestStrokes 13 = .ok (.getfield 35, 3) := by decide +kernel
theorem dX3_fewestStrokes_16 : decode cX3_fewestStrokes 16 = .ok (.iload_n 3, 1) := by decide +kernel
theorem dX3_fewestStrokes_17 : decode cX3_fewestStrokes 17 = .ok (.iaload, 1) := by decide +kernel
theorem dX3_fewestStrokes_18 : decode cX3_fewestStrokes 18 = .ok (.isub, 1) := by decide +kernel
theorem dX3_fewestStrokes_19 : decode cX3_fewestStrokes 19 = .ok (.if_icmp .le 5, 3) := by decide +kernel
theorem dX3_fewestStrokes_22 : decode cX3_fewestStrokes 22 = .ok (.iconst (-1), 1) := by decide +kernel
theorem dX3_fewestStrokes_23 : decode cX3_fewestStrokes 23 = .ok (.ireturn, 1) := by decide +kernel
theorem dX3_fewestStrokes_24 : decode cX3_fewestStrokes 24 = .ok (.iconst 0, 1) := by decide +kernel
theorem dX3_fewestStrokes_25 : decode cX3_fewestStrokes 25 = .ok (.istore 4, 2) := by decide +kernel
theorem dX3_fewestStrokes_27 : decode cX3_fewestStrokes 27 = .ok (.iconst 0, 1) := by decide +kernel
theorem dX3_fewestStrokes_28 : decode cX3_fewestStrokes 28 = .ok (.istore 5, 2) := by decide +kernel
theorem dX3_fewestStrokes_30 : decode cX3_fewestStrokes 30 = .ok (.aload_n 2, 1) := by decide +kernel
theorem dX3_fewestStrokes_31 : decode cX3_fewestStrokes 31 = .ok (.getfield 38, 3) := by decide +kernel
theorem dX3_fewestStrokes_34 : decode cX3_fewestStrokes 34 = .ok (.iload_n 3, 1) := by decide +kernel
theorem dX3_fewestStrokes_35 : decode cX3_fewestStrokes 35 = .ok (.iaload, 1) := by decide +kernel
theorem dX3_fewestStrokes_36 : decode cX3_fewestStrokes 36 = .ok (.istore 6, 2) := by decide +kernel
theorem dX3_fewestStrokes_38 : decode cX3_fewestStrokes 38 = .ok (.iconst 0, 1) := by decide +kernel
theorem dX3_fewestStrokes_39 : decode cX3_fewestStrokes 39 = .ok (.istore 7, 2) := by decide +kernel
theorem dX3_fewestStrokes_41 : decode cX3_fewestStrokes 41 = .ok (.iload 7, 2) := by decide +kernel
theorem dX3_fewestStrokes_43 : decode cX3_fewestStrokes 43 = .ok (.bipush 8, 2) := by decide +kernel
theorem dX3_fewestStrokes_45 : decode cX3_fewestStrokes 45 = .ok (.if_icmp .ge 79, 3) := by decide +kernel
theorem dX3_fewestStrokes_48 : decode cX3_fewestStrokes 48 = .ok (.iload 6, 2) := by decide +kernel
theorem dX3_fewestStrokes_50 : decode cX3_fewestStrokes 50 = .ok (.ifCond .le 74, 3) := by decide +kernel
theorem dX3_fewestStrokes_53 : decode cX3_fewestStrokes 53 = .ok (.aload_n 2, 1) := by decide +kernel
theorem dX3_fewestStrokes_54 : decode cX3_fewestStrokes 54 = .ok (.iload_n 3, 1) := by decide +kernel
theorem dX3_fewestStrokes_55 : decode cX3_fewestStrokes 55 = .ok (.iload 6, 2) := by decide +kernel
theorem dX3_fewestStrokes_57 : decode cX3_fewestStrokes 57 = .ok (.invokevirtual 41, 3) := by decide +kernel
theorem dX3_fewestStrokes_60 : decode cX3_fewestStrokes 60 = .ok (.istore 8, 2) := by decide +kernel
theorem dX3_fewestStrokes_62 : decode cX3_fewestStrokes 62 = .ok (.iload 8, 2) := by decide +kernel
theorem dX3_fewestStrokes_64 : decode cX3_fewestStrokes 64 = .ok (.aload_n 2, 1) := by decide +kernel
theorem dX3_fewestStrokes_65 : decode cX3_fewestStrokes 65 = .ok (.aload_n 1, 1) := by decide +kernel
theorem dX3_fewestStrokes_66 : decode cX3_fewestStrokes 66 = .ok (.iload_n 3, 1) := by decide +kernel
theorem dX3_fewestStrokes_67 : decode cX3_fewestStrokes 67 = .ok (.iload 6, 2) := by decide +kernel
theorem dX3_fewestStrokes_69 : decode cX3_fewestStrokes 69 = .ok (.iconst 1, 1) := by decide +kernel
theorem dX3_fewestStrokes_70 : decode cX3_fewestStrokes 70 = .ok (.isub, 1) := by decide +kernel
theorem dX3_fewestStrokes_71 : decode cX3_fewestStrokes 71 = .ok (.invokevirtual 45, 3) := by decide +kernel
theorem dX3_fewestStrokes_74 : decode cX3_fewestStrokes 74 = .ok (.imul, 1) := by decide +kernel
theorem dX3_fewestStrokes_75 : decode cX3_fewestStrokes 75 = .ok (.istore 9, 2) := by decide +kernel
theorem dX3_fewestStrokes_77 : decode cX3_fewestStrokes 77 = .ok (.iload 9, 2) := by decide +kernel
theorem dX3_fewestStrokes_79 : decode cX3_fewestStrokes 79 = .ok (.aload_n 1, 1) := by decide +kernel
theorem dX3_fewestStrokes_80 : decode cX3_fewestStrokes 80 = .ok (.getfield 49, 3) := by decide +kernel
theorem dX3_fewestStrokes_83 : decode cX3_fewestStrokes 83 = .ok (.if_icmp .le 5, 3) := by decide +kernel
theorem dX3_fewestStrokes_86 : decode cX3_fewestStrokes 86 = .ok (.iconst (-1), 1) := by decide +kernel
theorem dX3_fewestStrokes_87 : decode cX3_fewestStrokes 87 = .ok (.ireturn, 1) := by decide +kernel
theorem dX3_fewestStrokes_88 : decode cX3_fewestStrokes 88 = .ok (.iload 9, 2) := by decide +kernel
theorem dX3_fewestStrokes_90 : decode cX3_fewestStrokes 90 = .ok (.iload 5, 2) := by decide +kernel
theorem dX3_fewestStrokes_92 : decode cX3_fewestStrokes 92 = .ok (.if_icmp .le 12, 3) := by decide +kernel
theorem dX3_fewestStrokes_95 : decode cX3_fewestStrokes 95 = .ok (.iinc 4 1, 3) := by decide +kernel
theorem dX3_fewestStrokes_98 : decode cX3_fewestStrokes 98 = .ok (.aload_n 1, 1) := by decide +kernel
theorem dX3_fewestStrokes_99 : decode cX3_fewestStrokes 99 = .ok (.getfield 49, 3) := by decide +kernel
theorem dX3_fewestStrokes_102 : decode cX3_fewestStrokes 102 = .ok (.istore 5, 2) := by decide +kernel
theorem dX3_fewestStrokes_104 : decode cX3_fewestStrokes 104 = .ok (.iload 5, 2) := by decide +kernel
theorem dX3_fewestStrokes_106 : decode cX3_fewestStrokes 106 = .ok (.iload 9, 2) := by decide +kernel
theorem dX3_fewestStrokes_108 : decode cX3_fewestStrokes 108 = .ok (.isub, 1) := by decide +kernel
theorem dX3_fewestStrokes_109 : decode cX3_fewestStrokes 109 = .ok (.istore 5, 2) := by decide +kernel
theorem dX3_fewestStrokes_111 : decode cX3_fewestStrokes 111 = .ok (.iload 6, 2) := by decide +kernel
theorem dX3_fewestStrokes_113 : decode cX3_fewestStrokes 113 = .ok (.iload 8, 2) := by decide +kernel
theorem dX3_fewestStrokes_115 : decode cX3_fewestStrokes 115 = .ok (.isub, 1) := by decide +kernel
theorem dX3_fewestStrokes_116 : decode cX3_fewestStrokes 116 = .ok (.istore 6, 2) := by decide +kernel
theorem dX3_fewestStrokes_118 : decode cX3_fewestStrokes 118 = .ok (.iinc 7 1, 3) := by decide +kernel
theorem dX3_fewestStrokes_121 : decode cX3_fewestStrokes 121 = .ok (.goto (-80), 3) := by decide +kernel
theorem dX3_fewestStrokes_124 : decode cX3_fewestStrokes 124 = .ok (.iload 4, 2) := by decide +kernel
theorem dX3_fewestStrokes_126 : decode cX3_fewestStrokes 126 = .ok (.ireturn, 1) := by decide +kernel
theorem dX3_daysToNest_0 : decode cX3_daysToNest 0 = .ok (.aload_n 2, 1) := by decide +kernel
theorem dX3_daysToNest_1 : decode cX3_daysToNest 1 = .ok (.getfield 38, 3) := by decide +kernel
theorem dX3_daysToNest_4 : decode cX3_daysToNest 4 = .ok (.iload_n 3, 1) := by decide +kernel
theorem dX3_daysToNest_5 : decode cX3_daysToNest 5 = .ok (.iaload, 1) := by decide +kernel
theorem dX3_daysToNest_6 : decode cX3_daysToNest 6 = .ok (.istore 4, 2) := by decide +kernel
theorem dX3_daysToNest_8 : decode cX3_daysToNest 8 = .ok (.iconst 0, 1) := by decide +kernel
theorem dX3_daysToNest_9 : decode cX3_daysToNest 9 = .ok (.istore 5, 2) := by decide +kernel
theorem dX3_daysToNest_11 : decode cX3_daysToNest 11 = .ok (.iload 5, 2) := by decide +kernel
theorem dX3_daysToNest_13 : decode cX3_daysToNest 13 = .ok (.bipush 99, 2) := by decide +kernel
theorem dX3_daysToNest_15 : decode cX3_daysToNest 15 = .ok (.if_icmp .gt 42, 3) := by decide +kernel
theorem dX3_daysToNest_18 : decode cX3_daysToNest 18 = .ok (.iload 5, 2) := by decide +kernel
theorem dX3_daysToNest_20 : decode cX3_daysToNest 20 = .ok (.ifCond .le 21, 3) := by decide +kernel
theorem dX3_daysToNest_23 : decode cX3_daysToNest 23 = .ok (.iload 4, 2) := by decide +kernel
theorem dX3_daysToNest_25 : decode cX3_daysToNest 25 = .ok (.aload_n 0, 1) := by decide +kernel
theorem dX3_daysToNest_26 : decode cX3_daysToNest 26 = .ok (.aload_n 1, 1) := by decide +kernel
theorem dX3_daysToNest_27 : decode cX3_daysToNest 27 = .ok (.iload_n 3, 1) := by decide +kernel
theorem dX3_daysToNest_28 : decode cX3_daysToNest 28 = .ok (.aload_n 2, 1) := by decide +kernel
theorem dX3_daysToNest_29 : decode cX3_daysToNest 29 = .ok (.getfield 53, 3) := by decide +kernel
theorem dX3_daysToNest_32 : decode cX3_daysToNest 32 = .ok (.iload 5, 2) := by decide +kernel
theorem dX3_daysToNest_34 : decode cX3_daysToNest 34 = .ok (.iadd, 1) := by decide +kernel
theorem dX3_daysToNest_35 : decode cX3_daysToNest 35 = .ok (.invokevirtual 56, 3) := by decide +kernel
theorem dX3_daysToNest_38 : decode cX3_daysToNest 38 = .ok (.iadd, 1) := by decide +kernel
theorem dX3_daysToNest_39 : decode cX3_daysToNest 39 = .ok (.istore 4, 2) := by decide +kernel
theorem dX3_daysToNest_41 : decode cX3_daysToNest 41 = .ok (.iload 4, 2) := by decide +kernel
theorem dX3_daysToNest_43 : decode cX3_daysToNest 43 = .ok (.bipush 8, 2) := by decide +kernel
theorem dX3_daysToNest_45 : decode cX3_daysToNest 45 = .ok (.if_icmp .lt 6, 3) := by decide +kernel
theorem dX3_daysToNest_48 : decode cX3_daysToNest 48 = .ok (.iload 5, 2) := by decide +kernel
theorem dX3_daysToNest_50 : decode cX3_daysToNest 50 = .ok (.ireturn, 1) := by decide +kernel
theorem dX3_daysToNest_51 : decode cX3_daysToNest 51 = .ok (.iinc 5 1, 3) := by decide +kernel
theorem dX3_daysToNest_54 : decode cX3_daysToNest 54 = .ok (.goto (-43), 3) := by decide +kernel
theorem dX3_daysToNest_57 : decode cX3_daysToNest 57 = .ok (.iconst (-1), 1) := by decide +kernel
theorem dX3_daysToNest_58 : decode cX3_daysToNest 58 = .ok (.ireturn, 1) := by decide +kernel
theorem dX3_caughtOn_0 : decode cX3_caughtOn 0 = .ok (.iconst 0, 1) := by decide +kernel
theorem dX3_caughtOn_1 : decode cX3_caughtOn 1 = .ok (.istore 4, 2) := by decide +kernel
theorem dX3_caughtOn_3 : decode cX3_caughtOn 3 = .ok (.iconst 0, 1) := by decide +kernel
theorem dX3_caughtOn_4 : decode cX3_caughtOn 4 = .ok (.istore 5, 2) := by decide +kernel
theorem dX3_caughtOn_6 : decode cX3_caughtOn 6 = .ok (.iload 5, 2) := by decide +kernel
theorem dX3_caughtOn_8 : decode cX3_caughtOn 8 = .ok (.aload_n 1, 1) := by decide +kernel
theorem dX3_caughtOn_9 : decode cX3_caughtOn 9 = .ok (.getfield 59, 3) := by decide +kernel
theorem dX3_caughtOn_12 : decode cX3_caughtOn 12 = .ok (.if_icmp .ge 33, 3) := by decide +kernel
theorem dX3_caughtOn_15 : decode cX3_caughtOn 15 = .ok (.aload_n 1, 1) := by decide +kernel
theorem dX3_caughtOn_16 : decode cX3_caughtOn 16 = .ok (.getfield 62, 3) := by decide +kernel
theorem dX3_caughtOn_19 : decode cX3_caughtOn 19 = .ok (.iload 5, 2) := by decide +kernel
theorem dX3_caughtOn_21 : decode cX3_caughtOn 21 = .ok (.iaload, 1) := by decide +kernel
theorem dX3_caughtOn_22 : decode cX3_caughtOn 22 = .ok (.iload_n 2, 1) := by decide +kernel
theorem dX3_caughtOn_23 : decode cX3_caughtOn 23 = .ok (.if_icmp .ne 16, 3) := by decide +kernel
theorem dX3_caughtOn_26 : decode cX3_caughtOn 26 = .ok (.aload_n 1, 1) := by decide +kernel
theorem dX3_caughtOn_27 : decode cX3_caughtOn 27 = .ok (.iload 5, 2) := by decide +kernel
theorem dX3_caughtOn_29 : decode cX3_caughtOn 29 = .ok (.iload_n 3, 1) := by decide +kernel
theorem dX3_caughtOn_30 : decode cX3_caughtOn 30 = .ok (.invokevirtual 65, 3) := by decide +kernel
theorem dX3_caughtOn_33 : decode cX3_caughtOn 33 = .ok (.ifCond .eq 6, 3) := by decide +kernel
theorem dX3_caughtOn_36 : decode cX3_caughtOn 36 = .ok (.iinc 4 1, 3) := by decide +kernel
theorem dX3_caughtOn_39 : decode cX3_caughtOn 39 = .ok (.iinc 5 1, 3) := by decide +kernel
theorem dX3_caughtOn_42 : decode cX3_caughtOn 42 = .ok (.goto (-36), 3) := by decide +kernel
theorem dX3_caughtOn_45 : decode cX3_caughtOn 45 = .ok (.iload 4, 2) := by decide +kernel
theorem dX3_caughtOn_47 : decode cX3_caughtOn 47 = .ok (.ireturn, 1) := by decide +kernel
theorem dX3_bestRound_0 : decode cX3_bestRound 0 = .ok (.iconst 0, 1) := by decide +kernel
theorem dX3_bestRound_1 : decode cX3_bestRound 1 = .ok (.istore 4, 2) := by decide +kernel
theorem dX3_bestRound_3 : decode cX3_bestRound 3 = .ok (.iload 4, 2) := by decide +kernel
theorem dX3_bestRound_5 : decode cX3_bestRound 5 = .ok (.aload_n 1, 1) := by decide +kernel
theorem dX3_bestRound_6 : decode cX3_bestRound 6 = .ok (.getfield 69, 3) := by decide +kernel
theorem dX3_bestRound_9 : decode cX3_bestRound 9 = .ok (.if_icmp .ge 61, 3) := by decide +kernel
theorem dX3_bestRound_12 : decode cX3_bestRound 12 = .ok (.aload_n 2, 1) := by decide +kernel
theorem dX3_bestRound_13 : decode cX3_bestRound 13 = .ok (.getfield 38, 3) := by decide +kernel
theorem dX3_bestRound_16 : decode cX3_bestRound 16 = .ok (.iload 4, 2) := by decide +kernel
theorem dX3_bestRound_18 : decode cX3_bestRound 18 = .ok (.iaload, 1) := by decide +kernel
theorem dX3_bestRound_19 : decode cX3_bestRound 19 = .ok (.ifCond .le 19, 3) := by decide +kernel
theorem dX3_bestRound_22 : decode cX3_bestRound 22 = .ok (.aload_n 0, 1) := by decide +kernel
theorem dX3_bestRound_23 : decode cX3_bestRound 23 = .ok (.aload_n 1, 1) := by decide +kernel
theorem dX3_bestRound_24 : decode cX3_bestRound 24 = .ok (.aload_n 2, 1) := by decide +kernel
theorem dX3_bestRound_25 : decode cX3_bestRound 25 = .ok (.iload 4, 2) := by decide +kernel
theorem dX3_bestRound_27 : decode cX3_bestRound 27 = .ok (.invokevirtual 72, 3) := by decide +kernel
theorem dX3_bestRound_30 : decode cX3_bestRound 30 = .ok (.iconst (-1), 1) := by decide +kernel
theorem dX3_bestRound_31 : decode cX3_bestRound 31 = .ok (.if_icmp .eq 7, 3) := by decide +kernel
theorem dX3_bestRound_34 : decode cX3_bestRound 34 = .ok (.iconst 1, 1) := by decide +kernel
theorem dX3_bestRound_35 : decode cX3_bestRound 35 = .ok (.goto 4, 3) := by decide +kernel
theorem dX3_bestRound_38 : decode cX3_bestRound 38 = .ok (.iconst 0, 1) := by decide +kernel
theorem dX3_bestRound_39 : decode cX3_bestRound 39 = .ok (.istore 5, 2) := by decide +kernel
theorem dX3_bestRound_41 : decode cX3_bestRound 41 = .ok (.aload_n 0, 1) := by decide +kernel
theorem dX3_bestRound_42 : decode cX3_bestRound 42 = .ok (.getfield 21, 3) := by decide +kernel
theorem dX3_bestRound_45 : decode cX3_bestRound 45 = .ok (.iload 4, 2) := by decide +kernel
theorem dX3_bestRound_47 : decode cX3_bestRound 47 = .ok (.iload 5, 2) := by decide +kernel
theorem dX3_bestRound_49 : decode cX3_bestRound 49 = .ok (.ifCond .eq 13, 3) := by decide +kernel
theorem dX3_bestRound_52 : decode cX3_bestRound 52 = .ok (.aload_n 2, 1) := by decide +kernel
theorem dX3_bestRound_53 : decode cX3_bestRound 53 = .ok (.aload_n 1, 1) := by decide +kernel
theorem dX3_bestRound_54 : decode cX3_bestRound 54 = .ok (.iload 4, 2) := by decide +kernel
theorem dX3_bestRound_56 : decode cX3_bestRound 56 = .ok (.invokevirtual 24, 3) := by decide +kernel
theorem dX3_bestRound_59 : decode cX3_bestRound 59 = .ok (.goto 4, 3) := by decide +kernel
theorem dX3_bestRound_62 : decode cX3_bestRound 62 = .ok (.iconst (-1), 1) := by decide +kernel
theorem dX3_bestRound_63 : decode cX3_bestRound 63 = .ok (.iastore, 1) := by decide +kernel
theorem dX3_bestRound_64 : decode cX3_bestRound 64 = .ok (.iinc 4 1, 3) := by decide +kernel
theorem dX3_bestRound_67 : decode cX3_bestRound 67 = .ok (.goto (-64), 3) := by decide +kernel
theorem dX3_bestRound_70 : decode cX3_bestRound 70 = .ok (.iconst 0, 1) := by decide +kernel
theorem dX3_bestRound_71 : decode cX3_bestRound 71 = .ok (.istore 4, 2) := by decide +kernel
theorem dX3_bestRound_73 : decode cX3_bestRound 73 = .ok (.iconst 0, 1) := by decide +kernel
theorem dX3_bestRound_74 : decode cX3_bestRound 74 = .ok (.istore 5, 2) := by decide +kernel
theorem dX3_bestRound_76 : decode cX3_bestRound 76 = .ok (.iconst 1, 1) := by decide +kernel
theorem dX3_bestRound_77 : decode cX3_bestRound 77 = .ok (.istore 6, 2) := by decide +kernel
theorem dX3_bestRound_79 : decode cX3_bestRound 79 = .ok (.iload 6, 2) := by decide +kernel
theorem dX3_bestRound_81 : decode cX3_bestRound 81 = .ok (.iconst 1, 1) := by decide +kernel
theorem dX3_bestRound_82 : decode cX3_bestRound 82 = .ok (.aload_n 1, 1) := by decide +kernel
theorem dX3_bestRound_83 : decode cX3_bestRound 83 = .ok (.getfield 69, 3) := by decide +kernel
theorem dX3_bestRound_86 : decode cX3_bestRound 86 = .ok (.ishl, 1) := by decide +kernel
theorem dX3_bestRound_87 : decode cX3_bestRound 87 = .ok (.if_icmp .ge 68, 3) := by decide +kernel
theorem dX3_bestRound_90 : decode cX3_bestRound 90 = .ok (.aload_n 0, 1) := by decide +kernel
theorem dX3_bestRound_91 : decode cX3_bestRound 91 = .ok (.aload_n 1, 1) := by decide +kernel
theorem dX3_bestRound_92 : decode cX3_bestRound 92 = .ok (.iload 6, 2) := by decide +kernel
theorem dX3_bestRound_94 : decode cX3_bestRound 94 = .ok (.invokevirtual 76, 3) := by decide +kernel
theorem dX3_bestRound_97 : decode cX3_bestRound 97 = .ok (.istore 7, 2) := by decide +kernel
theorem dX3_bestRound_99 : decode cX3_bestRound 99 = .ok (.iload 6, 2) := by decide +kernel
theorem dX3_bestRound_101 : decode cX3_bestRound 101 = .ok (.invokestatic 79, 3) := by decide +kernel
theorem dX3_bestRound_104 : decode cX3_bestRound 104 = .ok (.iload 4, 2) := by decide +kernel
theorem dX3_bestRound_106 : decode cX3_bestRound 106 = .ok (.invokestatic 79, 3) := by decide +kernel
theorem dX3_bestRound_109 : decode cX3_bestRound 109 = .ok (.isub, 1) := by decide +kernel
theorem dX3_bestRound_110 : decode cX3_bestRound 110 = .ok (.istore 8, 2) := by decide +kernel
theorem dX3_bestRound_112 : decode cX3_bestRound 112 = .ok (.iload 7, 2) := by decide +kernel
theorem dX3_bestRound_114 : decode cX3_bestRound 114 = .ok (.iconst (-1), 1) := by decide +kernel
theorem dX3_bestRound_115 : decode cX3_bestRound 115 = .ok (.if_icmp .eq 34, 3) := by decide +kernel
theorem dX3_bestRound_118 : decode cX3_bestRound 118 = .ok (.iload 7, 2) := by decide +kernel
theorem dX3_bestRound_120 : decode cX3_bestRound 120 = .ok (.iload_n 3, 1) := by decide +kernel
theorem dX3_bestRound_121 : decode cX3_bestRound 121 = .ok (.if_icmp .gt 28, 3) := by decide +kernel
theorem dX3_bestRound_124 : decode cX3_bestRound 124 = .ok (.iload 8, 2) := by decide +kernel
theorem dX3_bestRound_126 : decode cX3_bestRound 126 = .ok (.ifCond .gt 15, 3) := by decide +kernel
theorem dX3_bestRound_129 : decode cX3_bestRound 129 = .ok (.iload 8, 2) := by decide +kernel
theorem dX3_bestRound_131 : decode cX3_bestRound 131 = .ok (.ifCond .ne 18, 3) := by decide +kernel
theorem dX3_bestRound_134 : decode cX3_bestRound 134 = .ok (.iload 7, 2) := by decide +kernel
theorem dX3_bestRound_136 : decode cX3_bestRound 136 = .ok (.iload 5, 2) := by decide +kernel
theorem dX3_bestRound_138 : decode cX3_bestRound 138 = .ok (.if_icmp .ge 11, 3) := by decide +kernel
theorem dX3_bestRound_141 : decode cX3_bestRound 141 = .ok (.iload 6, 2) := by decide +kernel
theorem dX3_bestRound_143 : decode cX3_bestRound 143 = .ok (.istore 4, 2) := by decide +kernel
theorem dX3_bestRound_145 : decode cX3_bestRound 145 = .ok (.iload 7, 2) := by decide +kernel
theorem dX3_bestRound_147 : decode cX3_bestRound 147 = .ok (.istore 5, 2) := by decide +kernel
theorem dX3_bestRound_149 : decode cX3_bestRound 149 = .ok (.iinc 6 1, 3) := by decide +kernel
theorem dX3_bestRound_152 : decode cX3_bestRound 152 = .ok (.goto (-73), 3) := by decide +kernel
theorem dX3_bestRound_155 : decode cX3_bestRound 155 = .ok (.iload 4, 2) := by decide +kernel
theorem dX3_bestRound_157 : decode cX3_bestRound 157 = .ok (.ireturn, 1) := by decide +kernel
theorem dX3_roundCost_0 : decode cX3_roundCost 0 = .ok (.iconst 0, 1) := by decide +kernel
theorem dX3_roundCost_1 : decode cX3_roundCost 1 = .ok (.istore_n 3, 1) := by decide +kernel
theorem dX3_roundCost_2 : decode cX3_roundCost 2 = .ok (.iconst 0, 1) := by decide +kernel
theorem dX3_roundCost_3 : decode cX3_roundCost 3 = .ok (.istore 4, 2) := by decide +kernel
theorem dX3_roundCost_5 : decode cX3_roundCost 5 = .ok (.iload 4, 2) := by decide +kernel
theorem dX3_roundCost_7 : decode cX3_roundCost 7 = .ok (.aload_n 1, 1) := by decide +kernel
theorem dX3_roundCost_8 : decode cX3_roundCost 8 = .ok (.getfield 69, 3) := by decide +kernel
theorem dX3_roundCost_11 : decode cX3_roundCost 11 = .ok (.if_icmp .ge 42, 3) := by decide +kernel
theorem dX3_roundCost_14 : decode cX3_roundCost 14 = .ok (.iload_n 2, 1) := by decide +kernel
theorem dX3_roundCost_15 : decode cX3_roundCost 15 = .ok (.iload 4, 2) := by decide +kernel
theorem dX3_roundCost_17 : decode cX3_roundCost 17 = .ok (.ishr, 1) := by decide +kernel
theorem dX3_roundCost_18 : decode cX3_roundCost 18 = .ok (.iconst 1, 1) := by decide +kernel
theorem dX3_roundCost_19 : decode cX3_roundCost 19 = .ok (.iand, 1) := by decide +kernel
theorem dX3_roundCost_20 : decode cX3_roundCost 20 = .ok (.iconst 1, 1) := by decide +kernel
theorem dX3_roundCost_21 : decode cX3_roundCost 21 = .ok (.if_icmp .ne 26, 3) := by decide +kernel
theorem dX3_roundCost_24 : decode cX3_roundCost 24 = .ok (.aload_n 0, 1) := by decide +kernel
theorem dX3_roundCost_25 : decode cX3_roundCost 25 = .ok (.getfield 21, 3) := by decide +kernel
theorem dX3_roundCost_28 : decode cX3_roundCost 28 = .ok (.iload 4, 2) := by decide +kernel
theorem dX3_roundCost_30 : decode cX3_roundCost 30 = .ok (.iaload, 1) := by decide +kernel
theorem dX3_roundCost_31 : decode cX3_roundCost 31 = .ok (.iconst (-1), 1) := by decide +kernel
theorem dX3_roundCost_32 : decode cX3_roundCost 32 = .ok (.if_icmp .ne 5, 3) := by decide +kernel
theorem dX3_roundCost_35 : decode cX3_roundCost 35 = .ok (.iconst (-1), 1) := by decide +kernel
theorem dX3_roundCost_36 : decode cX3_roundCost 36 = .ok (.ireturn, 1) := by decide +kernel
theorem dX3_roundCost_37 : decode cX3_roundCost 37 = .ok (.iload_n 3, 1) := by decide +kernel
theorem dX3_roundCost_38 : decode cX3_roundCost 38 = .ok (.aload_n 0, 1) := by decide +kernel
theorem dX3_roundCost_39 : decode cX3_roundCost 39 = .ok (.getfield 21, 3) := by decide +kernel
theorem dX3_roundCost_42 : decode cX3_roundCost 42 = .ok (.iload 4, 2) := by decide +kernel
theorem dX3_roundCost_44 : decode cX3_roundCost 44 = .ok (.iaload, 1) := by decide +kernel
theorem dX3_roundCost_45 : decode cX3_roundCost 45 = .ok (.iadd, 1) := by decide +kernel
theorem dX3_roundCost_46 : decode cX3_roundCost 46 = .ok (.istore_n 3, 1) := by decide +kernel
theorem dX3_roundCost_47 : decode cX3_roundCost 47 = .ok (.iinc 4 1, 3) := by decide +kernel
theorem dX3_roundCost_50 : decode cX3_roundCost 50 = .ok (.goto (-45), 3) := by decide +kernel
theorem dX3_roundCost_53 : decode cX3_roundCost 53 = .ok (.iload_n 3, 1) := by decide +kernel
theorem dX3_roundCost_54 : decode cX3_roundCost 54 = .ok (.ireturn, 1) := by decide +kernel
theorem dX3_bestBeds_0 : decode cX3_bestBeds 0 = .ok (.aload_n 0, 1) := by decide +kernel
theorem dX3_bestBeds_1 : decode cX3_bestBeds 1 = .ok (.aload_n 1, 1) := by decide +kernel
theorem dX3_bestBeds_2 : decode cX3_bestBeds 2 = .ok (.aload_n 2, 1) := by decide +kernel
theorem dX3_bestBeds_3 : decode cX3_bestBeds 3 = .ok (.invokevirtual 85, 3) := by decide +kernel
theorem dX3_bestBeds_6 : decode cX3_bestBeds 6 = .ok (.aload_n 2, 1) := by decide +kernel
theorem dX3_bestBeds_7 : decode cX3_bestBeds 7 = .ok (.aload_n 1, 1) := by decide +kernel
theorem dX3_bestBeds_8 : decode cX3_bestBeds 8 = .ok (.invokevirtual 89, 3) := by decide +kernel
theorem dX3_bestBeds_11 : decode cX3_bestBeds 11 = .ok (.istore_n 3, 1) := by decide +kernel
theorem dX3_bestBeds_12 : decode cX3_bestBeds 12 = .ok (.iload_n 3, 1) := by decide +kernel
theorem dX3_bestBeds_13 : decode cX3_bestBeds 13 = .ok (.istore 4, 2) := by decide +kernel
theorem dX3_bestBeds_15 : decode cX3_bestBeds 15 = .ok (.iconst 0, 1) := by decide +kernel
theorem dX3_bestBeds_16 : decode cX3_bestBeds 16 = .ok (.istore 5, 2) := by decide +kernel
theorem dX3_bestBeds_18 : decode cX3_bestBeds 18 = .ok (.iload 5, 2) := by decide +kernel
theorem dX3_bestBeds_20 : decode cX3_bestBeds 20 = .ok (.iconst 1, 1) := by decide +kernel
theorem dX3_bestBeds_21 : decode cX3_bestBeds 21 = .ok (.aload_n 1, 1) := by decide +kernel
theorem dX3_bestBeds_22 : decode cX3_bestBeds 22 = .ok (.getfield 93, 3) := by decide +kernel
theorem dX3_bestBeds_25 : decode cX3_bestBeds 25 = .ok (.ishl, 1) := by decide +kernel
theorem dX3_bestBeds_26 : decode cX3_bestBeds 26 = .ok (.if_icmp .ge 57, 3) := by decide +kernel
theorem dX3_bestBeds_29 : decode cX3_bestBeds 29 = .ok (.iload 5, 2) := by decide +kernel
theorem dX3_bestBeds_31 : decode cX3_bestBeds 31 = .ok (.invokestatic 79, 3) := by decide +kernel
theorem dX3_bestBeds_34 : decode cX3_bestBeds 34 = .ok (.iload 4, 2) := by decide +kernel
theorem dX3_bestBeds_36 : decode cX3_bestBeds 36 = .ok (.invokestatic 79, 3) := by decide +kernel
theorem dX3_bestBeds_39 : decode cX3_bestBeds 39 = .ok (.if_icmp .le 7, 3) := by decide +kernel
theorem dX3_bestBeds_42 : decode cX3_bestBeds 42 = .ok (.iconst 1, 1) := by decide +kernel
theorem dX3_bestBeds_43 : decode cX3_bestBeds 43 = .ok (.goto 4, 3) := by decide +kernel
theorem dX3_bestBeds_46 : decode cX3_bestBeds 46 = .ok (.iconst 0, 1) := by decide +kernel
theorem dX3_bestBeds_47 : decode cX3_bestBeds 47 = .ok (.istore 6, 2) := by decide +kernel
theorem dX3_bestBeds_49 : decode cX3_bestBeds 49 = .ok (.iload 6, 2) := by decide +kernel
theorem dX3_bestBeds_51 : decode cX3_bestBeds 51 = .ok (.ifCond .eq 26, 3) := by decide +kernel
theorem dX3_bestBeds_54 : decode cX3_bestBeds 54 = .ok (.iload 5, 2) := by decide +kernel
theorem dX3_bestBeds_56 : decode cX3_bestBeds 56 = .ok (.iload_n 3, 1) := by decide +kernel
theorem dX3_bestBeds_57 : decode cX3_bestBeds 57 = .ok (.iand, 1) := by decide +kernel
theorem dX3_bestBeds_58 : decode cX3_bestBeds 58 = .ok (.iload_n 3, 1) := by decide +kernel
theorem dX3_bestBeds_59 : decode cX3_bestBeds 59 = .ok (.if_icmp .ne 18, 3) := by decide +kernel
theorem dX3_bestBeds_62 : decode cX3_bestBeds 62 = .ok (.aload_n 0, 1) := by decide +kernel
theorem dX3_bestBeds_63 : decode cX3_bestBeds 63 = .ok (.aload_n 1, 1) := by decide +kernel
theorem dX3_bestBeds_64 : decode cX3_bestBeds 64 = .ok (.aload_n 2, 1) := by decide +kernel
theorem dX3_bestBeds_65 : decode cX3_bestBeds 65 = .ok (.iload 5, 2) := by decide +kernel
theorem dX3_bestBeds_67 : decode cX3_bestBeds 67 = .ok (.invokevirtual 96, 3) := by decide +kernel
theorem dX3_bestBeds_70 : decode cX3_bestBeds 70 = .ok (.ifCond .eq 7, 3) := by decide +kernel
theorem dX3_bestBeds_73 : decode cX3_bestBeds 73 = .ok (.iload 5, 2) := by decide +kernel
theorem dX3_bestBeds_75 : decode cX3_bestBeds 75 = .ok (.istore 4, 2) := by decide +kernel
theorem dX3_bestBeds_77 : decode cX3_bestBeds 77 = .ok (.iinc 5 1, 3) := by decide +kernel
theorem dX3_bestBeds_80 : decode cX3_bestBeds 80 = .ok (.goto (-62), 3) := by decide +kernel
theorem dX3_bestBeds_83 : decode cX3_bestBeds 83 = .ok (.iload 4, 2) := by decide +kernel
theorem dX3_bestBeds_85 : decode cX3_bestBeds 85 = .ok (.ireturn, 1) := by decide +kernel
theorem dX3_listBag_0 : decode cX3_listBag 0 = .ok (.aload_n 0, 1) := by decide +kernel
theorem dX3_listBag_1 : decode cX3_listBag 1 = .ok (.iconst 0, 1) := by decide +kernel
theorem dX3_listBag_2 : decode cX3_listBag 2 = .ok (.putfield 100, 3) := by decide +kernel
theorem dX3_listBag_5 : decode cX3_listBag 5 = .ok (.aload_n 0, 1) := by decide +kernel
theorem dX3_listBag_6 : decode cX3_listBag 6 = .ok (.iconst 0, 1) := by decide +kernel
theorem dX3_listBag_7 : decode cX3_listBag 7 = .ok (.putfield 103, 3) := by decide +kernel
theorem dX3_listBag_10 : decode cX3_listBag 10 = .ok (.aload_n 0, 1) := by decide +kernel
theorem dX3_listBag_11 : decode cX3_listBag 11 = .ok (.iconst 0, 1) := by decide +kernel
theorem dX3_listBag_12 : decode cX3_listBag 12 = .ok (.putfield 106, 3) := by decide +kernel
theorem dX3_listBag_15 : decode cX3_listBag 15 = .ok (.iconst 0, 1) := by decide +kernel
theorem dX3_listBag_16 : decode cX3_listBag 16 = .ok (.istore_n 3, 1) := by decide +kernel
theorem dX3_listBag_17 : decode cX3_listBag 17 = .ok (.iload_n 3, 1) := by decide +kernel
theorem dX3_listBag_18 : decode cX3_listBag 18 = .ok (.aload_n 1, 1) := by decide +kernel
theorem dX3_listBag_19 : decode cX3_listBag 19 = .ok (.getfield 109, 3) := by decide +kernel
theorem dX3_listBag_22 : decode cX3_listBag 22 = .ok (.if_icmp .ge 102, 3) := by decide +kernel
theorem dX3_listBag_25 : decode cX3_listBag 25 = .ok (.iconst 0, 1) := by decide +kernel
theorem dX3_listBag_26 : decode cX3_listBag 26 = .ok (.istore 4, 2) := by decide +kernel
theorem dX3_listBag_28 : decode cX3_listBag 28 = .ok (.iload 4, 2) := by decide +kernel
theorem dX3_listBag_30 : decode cX3_listBag 30 = .ok (.aload_n 2, 1) := by decide +kernel
theorem dX3_listBag_31 : decode cX3_listBag 31 = .ok (.getfield 112, 3) := by decide +kernel
theorem dX3_listBag_34 : decode cX3_listBag 34 = .ok (.iload_n 3, 1) := by decide +kernel
theorem dX3_listBag_35 : decode cX3_listBag 35 = .ok (.iaload, 1) := by decide +kernel
theorem dX3_listBag_36 : decode cX3_listBag 36 = .ok (.if_icmp .ge 82, 3) := by decide +kernel
theorem dX3_listBag_39 : decode cX3_listBag 39 = .ok (.aload_n 0, 1) := by decide +kernel
theorem dX3_listBag_40 : decode cX3_listBag 40 = .ok (.getfield 100, 3) := by decide +kernel
theorem dX3_listBag_43 : decode cX3_listBag 43 = .ok (.bipush 10, 2) := by decide +kernel
theorem dX3_listBag_45 : decode cX3_listBag 45 = .ok (.if_icmp .ge 73, 3) := by decide +kernel
theorem dX3_listBag_48 : decode cX3_listBag 48 = .ok (.aload_n 0, 1) := by decide +kernel
theorem dX3_listBag_49 : decode cX3_listBag 49 = .ok (.getfield 15, 3) := by decide +kernel
theorem dX3_listBag_52 : decode cX3_listBag 52 = .ok (.aload_n 0, 1) := by decide +kernel
theorem dX3_listBag_53 : decode cX3_listBag 53 = .ok (.getfield 100, 3) := by decide +kernel
theorem dX3_listBag_56 : decode cX3_listBag 56 = .ok (.aload_n 1, 1) := by decide +kernel
theorem dX3_listBag_57 : decode cX3_listBag 57 = .ok (.getfield 115, 3) := by decide +kernel
theorem dX3_listBag_60 : decode cX3_listBag 60 = .ok (.iload_n 3, 1) := by decide +kernel
theorem dX3_listBag_61 : decode cX3_listBag 61 = .ok (.iaload, 1) := by decide +kernel
theorem dX3_listBag_62 : decode cX3_listBag 62 = .ok (.iastore, 1) := by decide +kernel
theorem dX3_listBag_63 : decode cX3_listBag 63 = .ok (.aload_n 0, 1) := by decide +kernel
theorem dX3_listBag_64 : decode cX3_listBag 64 = .ok (.dup, 1) := by decide +kernel
theorem dX3_listBag_65 : decode cX3_listBag 65 = .ok (.getfield 103, 3) := by decide +kernel
theorem dX3_listBag_68 : decode cX3_listBag 68 = .ok (.aload_n 1, 1) := by decide +kernel
theorem dX3_listBag_69 : decode cX3_listBag 69 = .ok (.getfield 115, 3) := by decide +kernel
theorem dX3_listBag_72 : decode cX3_listBag 72 = .ok (.iload_n 3, 1) := by decide +kernel
theorem dX3_listBag_73 : decode cX3_listBag 73 = .ok (.iaload, 1) := by decide +kernel
theorem dX3_listBag_74 : decode cX3_listBag 74 = .ok (.iadd, 1) := by decide +kernel
theorem dX3_listBag_75 : decode cX3_listBag 75 = .ok (.putfield 103, 3) := by decide +kernel
theorem dX3_listBag_78 : decode cX3_listBag 78 = .ok (.aload_n 0, 1) := by decide +kernel
theorem dX3_listBag_79 : decode cX3_listBag 79 = .ok (.dup, 1) := by decide +kernel
theorem dX3_listBag_80 : decode cX3_listBag 80 = .ok (.getfield 106, 3) := by decide +kernel
theorem dX3_listBag_83 : decode cX3_listBag 83 = .ok (.iload 4, 2) := by decide +kernel
theorem dX3_listBag_85 : decode cX3_listBag 85 = .ok (.ifCond .le 12, 3) := by decide +kernel
theorem dX3_listBag_88 : decode cX3_listBag 88 = .ok (.iconst 1, 1) := by decide +kernel
theorem dX3_listBag_89 : decode cX3_listBag 89 = .ok (.aload_n 0, 1) := by decide +kernel
theorem dX3_listBag_90 : decode cX3_listBag 90 = .ok (.getfield 100, 3) := by decide +kernel
theorem dX3_listBag_93 : decode cX3_listBag 93 = .ok (.ishl, 1) := by decide +kernel
theorem dX3_listBag_94 : decode cX3_listBag 94 = .ok (.goto 4, 3) := by decide +kernel
theorem dX3_listBag_97 : decode cX3_listBag 97 = .ok (.iconst 0, 1) := by decide +kernel
theorem dX3_listBag_98 : decode cX3_listBag 98 = .ok (.ior, 1) := by decide +kernel
theorem dX3_listBag_99 : decode cX3_listBag 99 = .ok (.putfield 106, 3) := by decide +kernel
theorem dX3_listBag_102 : decode cX3_listBag 102 = .ok (.aload_n 0, 1) := by decide +kernel
theorem dX3_listBag_103 : decode cX3_listBag 103 = .ok (.dup, 1) := by decide +kernel
theorem dX3_listBag_104 : decode cX3_listBag 104 = .ok (.getfield 100, 3) := by decide +kernel
theorem dX3_listBag_107 : decode cX3_listBag 107 = .ok (.iconst 1, 1) := by decide +kernel
theorem dX3_listBag_108 : decode cX3_listBag 108 = .ok (.iadd, 1) := by decide +kernel
theorem dX3_listBag_109 : decode cX3_listBag 109 = .ok (.putfield 100, 3) := by decide +kernel
theorem dX3_listBag_112 : decode cX3_listBag 112 = .ok (.iinc 4 1, 3) := by decide +kernel
theorem dX3_listBag_115 : decode cX3_listBag 115 = .ok (.goto (-87), 3) := by decide +kernel
theorem dX3_listBag_118 : decode cX3_listBag 118 = .ok (.iinc 3 1, 3) := by decide +kernel
theorem dX3_listBag_121 : decode cX3_listBag 121 = .ok (.goto (-104), 3) := by decide +kernel
theorem dX3_listBag_124 : decode cX3_listBag 124 = .ok (.return_, 1) := by decide +kernel
theorem dX3_canFill_0 : decode cX3_canFill 0 = .ok (.iconst 0, 1) := by decide +kernel
theorem dX3_canFill_1 : decode cX3_canFill 1 = .ok (.istore 4, 2) := by decide +kernel
theorem dX3_canFill_3 : decode cX3_canFill 3 = .ok (.iconst 0, 1) := by decide +kernel
theorem dX3_canFill_4 : decode cX3_canFill 4 = .ok (.istore 5, 2) := by decide +kernel
theorem dX3_canFill_6 : decode cX3_canFill 6 = .ok (.iconst 0, 1) := by decide +kernel
theorem dX3_canFill_7 : decode cX3_canFill 7 = .ok (.istore 6, 2) := by decide +kernel
theorem dX3_canFill_9 : decode cX3_canFill 9 = .ok (.iload 6, 2) := by decide +kernel
theorem dX3_canFill_11 : decode cX3_canFill 11 = .ok (.aload_n 1, 1) := by decide +kernel
theorem dX3_canFill_12 : decode cX3_canFill 12 = .ok (.getfield 93, 3) := by decide +kernel
theorem dX3_canFill_15 : decode cX3_canFill 15 = .ok (.if_icmp .ge 66, 3) := by decide +kernel
theorem dX3_canFill_18 : decode cX3_canFill 18 = .ok (.iload_n 3, 1) := by decide +kernel
theorem dX3_canFill_19 : decode cX3_canFill 19 = .ok (.iload 6, 2) := by decide +kernel
theorem dX3_canFill_21 : decode cX3_canFill 21 = .ok (.ishr, 1) := by decide +kernel
theorem dX3_canFill_22 : decode cX3_canFill 22 = .ok (.iconst 1, 1) := by decide +kernel
theorem dX3_canFill_23 : decode cX3_canFill 23 = .ok (.iand, 1) := by decide +kernel
theorem dX3_canFill_24 : decode cX3_canFill 24 = .ok (.iconst 1, 1) := by decide +kernel
theorem dX3_canFill_25 : decode cX3_canFill 25 = .ok (.if_icmp .ne 50, 3) := by decide +kernel
theorem dX3_canFill_28 : decode cX3_canFill 28 = .ok (.aload_n 2, 1) := by decide +kernel
theorem dX3_canFill_29 : decode cX3_canFill 29 = .ok (.aload_n 1, 1) := by decide +kernel
theorem dX3_canFill_30 : decode cX3_canFill 30 = .ok (.iload 6, 2) := by decide +kernel
theorem dX3_canFill_32 : decode cX3_canFill 32 = .ok (.invokevirtual 118, 3) := by decide +kernel
theorem dX3_canFill_35 : decode cX3_canFill 35 = .ok (.ifCond .ne 40, 3) := by decide +kernel
theorem dX3_canFill_38 : decode cX3_canFill 38 = .ok (.aload_n 0, 1) := by decide +kernel
theorem dX3_canFill_39 : decode cX3_canFill 39 = .ok (.getfield 18, 3) := by decide +kernel
theorem dX3_canFill_42 : decode cX3_canFill 42 = .ok (.iload 4, 2) := by decide +kernel
theorem dX3_canFill_44 : decode cX3_canFill 44 = .ok (.aload_n 1, 1) := by decide +kernel
theorem dX3_canFill_45 : decode cX3_canFill 45 = .ok (.getfield 122, 3) := by decide +kernel
theorem dX3_canFill_48 : decode cX3_canFill 48 = .ok (.iload 6, 2) := by decide +kernel
theorem dX3_canFill_50 : decode cX3_canFill 50 = .ok (.iaload, 1) := by decide +kernel
theorem dX3_canFill_51 : decode cX3_canFill 51 = .ok (.aload_n 2, 1) := by decide +kernel
theorem dX3_canFill_52 : decode cX3_canFill 52 = .ok (.getfield 125, 3) := by decide +kernel
theorem dX3_canFill_55 : decode cX3_canFill 55 = .ok (.iload 6, 2) := by decide +kernel
theorem dX3_canFill_57 : decode cX3_canFill 57 = .ok (.iaload, 1) := by decide +kernel
theorem dX3_canFill_58 : decode cX3_canFill 58 = .ok (.isub, 1) := by decide +kernel
theorem dX3_canFill_59 : decode cX3_canFill 59 = .ok (.iastore, 1) := by decide +kernel
theorem dX3_canFill_60 : decode cX3_canFill 60 = .ok (.iload 5, 2) := by decide +kernel
theorem dX3_canFill_62 : decode cX3_canFill 62 = .ok (.aload_n 0, 1) := by decide +kernel
theorem dX3_canFill_63 : decode cX3_canFill 63 = .ok (.getfield 18, 3) := by decide +kernel
theorem dX3_canFill_66 : decode cX3_canFill 66 = .ok (.iload 4, 2) := by decide +kernel
theorem dX3_canFill_68 : decode cX3_canFill 68 = .ok (.iaload, 1) := by decide +kernel
theorem dX3_canFill_69 : decode cX3_canFill 69 = .ok (.iadd, 1) := by decide +kernel
theorem dX3_canFill_70 : decode cX3_canFill 70 = .ok (.istore 5, 2) := by decide +kernel
theorem dX3_canFill_72 : decode cX3_canFill 72 = .ok (.iinc 4 1, 3) := by decide +kernel
theorem dX3_canFill_75 : decode cX3_canFill 75 = .ok (.iinc 6 1, 3) := by decide +kernel
theorem dX3_canFill_78 : decode cX3_canFill 78 = .ok (.goto (-69), 3) := by decide +kernel
theorem dX3_canFill_81 : decode cX3_canFill 81 = .ok (.iload 5, 2) := by decide +kernel
theorem dX3_canFill_83 : decode cX3_canFill 83 = .ok (.aload_n 0, 1) := by decide +kernel
theorem dX3_canFill_84 : decode cX3_canFill 84 = .ok (.getfield 103, 3) := by decide +kernel
theorem dX3_canFill_87 : decode cX3_canFill 87 = .ok (.if_icmp .gt 18, 3) := by decide +kernel
theorem dX3_canFill_90 : decode cX3_canFill 90 = .ok (.aload_n 0, 1) := by decide +kernel
theorem dX3_canFill_91 : decode cX3_canFill 91 = .ok (.iload 4, 2) := by decide +kernel
theorem dX3_canFill_93 : decode cX3_canFill 93 = .ok (.invokevirtual 126, 3) := by decide +kernel
theorem dX3_canFill_96 : decode cX3_canFill 96 = .ok (.iload 4, 2) := by decide +kernel
theorem dX3_canFill_98 : decode cX3_canFill 98 = .ok (.if_icmp .lt 7, 3) := by decide +kernel
theorem dX3_canFill_101 : decode cX3_canFill 101 = .ok (.iconst 1, 1) := by decide +kernel
theorem dX3_canFill_102 : decode cX3_canFill 102 = .ok (.goto 4, 3) := by decide +kernel
theorem dX3_canFill_105 : decode cX3_canFill 105 = .ok (.iconst 0, 1) := by decide +kernel
theorem dX3_canFill_106 : decode cX3_canFill 106 = .ok (.ireturn, 1) := by decide +kernel
theorem dX3_mostFilled_0 : decode cX3_mostFilled 0 = .ok (.aload_n 0, 1) := by decide +kernel
theorem dX3_mostFilled_1 : decode cX3_mostFilled 1 = .ok (.getfield 9, 3) := by decide +kernel
theorem dX3_mostFilled_4 : decode cX3_mostFilled 4 = .ok (.iconst 0, 1) := by decide +kernel
theorem dX3_mostFilled_5 : decode cX3_mostFilled 5 = .ok (.iconst 0, 1) := by decide +kernel
theorem dX3_mostFilled_6 : decode cX3_mostFilled 6 = .ok (.iastore, 1) := by decide +kernel
theorem dX3_mostFilled_7 : decode cX3_mostFilled 7 = .ok (.iconst 1, 1) := by decide +kernel
theorem dX3_mostFilled_8 : decode cX3_mostFilled 8 = .ok (.aload_n 0, 1) := by decide +kernel
theorem dX3_mostFilled_9 : decode cX3_mostFilled 9 = .ok (.getfield 100, 3) := by decide +kernel
theorem dX3_mostFilled_12 : decode cX3_mostFilled 12 = .ok (.ishl, 1) := by decide +kernel
theorem dX3_mostFilled_13 : decode cX3_mostFilled 13 = .ok (.iconst 1, 1) := by decide +kernel
theorem dX3_mostFilled_14 : decode cX3_mostFilled 14 = .ok (.isub, 1) := by decide +kernel
theorem dX3_mostFilled_15 : decode cX3_mostFilled 15 = .ok (.istore_n 2, 1) := by decide +kernel
theorem dX3_mostFilled_16 : decode cX3_mostFilled 16 = .ok (.iconst 1, 1) := by decide +kernel
theorem dX3_mostFilled_17 : decode cX3_mostFilled 17 = .ok (.istore_n 3, 1) := by decide +kernel
theorem dX3_mostFilled_18 : decode cX3_mostFilled 18 = .ok (.iload_n 3, 1) := by decide +kernel
theorem dX3_mostFilled_19 : decode cX3_mostFilled 19 = .ok (.iload_n 2, 1) := by decide +kernel
theorem dX3_mostFilled_20 : decode cX3_mostFilled 20 = .ok (.if_icmp .gt 29, 3) := by decide +kernel
theorem dX3_mostFilled_23 : decode cX3_mostFilled 23 = .ok (.aload_n 0, 1) := by decide +kernel
theorem dX3_mostFilled_24 : decode cX3_mostFilled 24 = .ok (.iload_n 3, 1) := by decide +kernel
theorem dX3_mostFilled_25 : decode cX3_mostFilled 25 = .ok (.invokevirtual 129, 3) := by decide +kernel
theorem dX3_mostFilled_28 : decode cX3_mostFilled 28 = .ok (.ifCond .eq 15, 3) := by decide +kernel
theorem dX3_mostFilled_31 : decode cX3_mostFilled 31 = .ok (.aload_n 0, 1) := by decide +kernel
theorem dX3_mostFilled_32 : decode cX3_mostFilled 32 = .ok (.getfield 9, 3) := by decide +kernel
theorem dX3_mostFilled_35 : decode cX3_mostFilled 35 = .ok (.iload_n 3, 1) := by decide +kernel
theorem dX3_mostFilled_36 : decode cX3_mostFilled 36 = .ok (.aload_n 0, 1) := by decide +kernel
theorem dX3_mostFilled_37 : decode cX3_mostFilled 37 = .ok (.iload_n 3, 1) := by decide +kernel
theorem dX3_mostFilled_38 : decode cX3_mostFilled 38 = .ok (.iload_n 1, 1) := by decide +kernel
theorem dX3_mostFilled_39 : decode cX3_mostFilled 39 = .ok (.invokevirtual 133, 3) := by decide +kernel
theorem dX3_mostFilled_42 : decode cX3_mostFilled 42 = .ok (.iastore, 1) := by decide +kernel
theorem dX3_mostFilled_43 : decode cX3_mostFilled 43 = .ok (.iinc 3 1, 3) := by decide +kernel
theorem dX3_mostFilled_46 : decode cX3_mostFilled 46 = .ok (.goto (-28), 3) := by decide +kernel
theorem dX3_mostFilled_49 : decode cX3_mostFilled 49 = .ok (.aload_n 0, 1) := by decide +kernel
theorem dX3_mostFilled_50 : decode cX3_mostFilled 50 = .ok (.getfield 9, 3) := by decide +kernel
theorem dX3_mostFilled_53 : decode cX3_mostFilled 53 = .ok (.iload_n 2, 1) := by decide +kernel
theorem dX3_mostFilled_54 : decode cX3_mostFilled 54 = .ok (.iaload, 1) := by decide +kernel
theorem dX3_mostFilled_55 : decode cX3_mostFilled 55 = .ok (.bipush 7, 2) := by decide +kernel
theorem dX3_mostFilled_57 : decode cX3_mostFilled 57 = .ok (.ishr, 1) := by decide +kernel
theorem dX3_mostFilled_58 : decode cX3_mostFilled 58 = .ok (.ireturn, 1) := by decide +kernel
theorem dX3_takesFirstOfLikeOnes_0 : decode cX3_takesFirstOfLikeOnes 0 = .ok (.iload_n 1, 1) := by decide +kernel
theorem dX3_takesFirstOfLikeOnes_1 : decode cX3_takesFirstOfLikeOnes 1 = .ok (.aload_n 0, 1) := by decide +kernel
theorem dX3_takesFirstOfLikeOnes_2 : decode cX3_takesFirstOfLikeOnes 2 = .ok (.getfield 106, 3) := by decide +kernel
theorem dX3_takesFirstOfLikeOnes_5 : decode cX3_takesFirstOfLikeOnes 5 = .ok (.iand, 1) := by decide +kernel
theorem dX3_takesFirstOfLikeOnes_6 : decode cX3_takesFirstOfLikeOnes 6 = .ok (.iload_n 1, 1) := by decide +kernel
theorem dX3_takesFirstOfLikeOnes_7 : decode cX3_takesFirstOfLikeOnes 7 = .ok (.iconst 1, 1) := by decide +kernel
theorem dX3_takesFirstOfLikeOnes_8 : decode cX3_takesFirstOfLikeOnes 8 = .ok (.ishl, 1) := by decide +kernel
theorem dX3_takesFirstOfLikeOnes_9 : decode cX3_takesFirstOfLikeOnes 9 = .ok (.iconst (-1), 1) := by decide +kernel
theorem dX3_takesFirstOfLikeOnes_10 : decode cX3_takesFirstOfLikeOnes 10 = .ok (.ixor, 1) := by decide +kernel
theorem dX3_takesFirstOfLikeOnes_11 : decode cX3_takesFirstOfLikeOnes 11 = .ok (.iand, 1) := by decide +kernel
theorem dX3_takesFirstOfLikeOnes_12 : decode cX3_takesFirstOfLikeOnes 12 = .ok (.ifCond .ne 7, 3) := by decide +kernel
theorem dX3_takesFirstOfLikeOnes_15 : decode cX3_takesFirstOfLikeOnes 15 = .ok (.iconst 1, 1) := by decide +kernel
theorem dX3_takesFirstOfLikeOnes_16 : decode cX3_takesFirstOfLikeOnes 16 = .ok (.goto 4, 3) := by decide +kernel
theorem dX3_takesFirstOfLikeOnes_19 : decode cX3_takesFirstOfLikeOnes 19 = .ok (.iconst 0, 1) := by decide +kernel
theorem dX3_takesFirstOfLikeOnes_20 : decode cX3_takesFirstOfLikeOnes 20 = .ok (.ireturn, 1) := by decide +kernel
theorem dX3_bestFill_0 : decode cX3_bestFill 0 = .ok (.iconst 0, 1) := by decide +kernel
theorem dX3_bestFill_1 : decode cX3_bestFill 1 = .ok (.istore_n 3, 1) := by decide +kernel
theorem dX3_bestFill_2 : decode cX3_bestFill 2 = .ok (.iconst 0, 1) := by decide +kernel
theorem dX3_bestFill_3 : decode cX3_bestFill 3 = .ok (.istore 4, 2) := by decide +kernel
theorem dX3_bestFill_5 : decode cX3_bestFill 5 = .ok (.iload 4, 2) := by decide +kernel
theorem dX3_bestFill_7 : decode cX3_bestFill 7 = .ok (.aload_n 0, 1) := by decide +kernel
theorem dX3_bestFill_8 : decode cX3_bestFill 8 = .ok (.getfield 100, 3) := by decide +kernel
theorem dX3_bestFill_11 : decode cX3_bestFill 11 = .ok (.if_icmp .ge 58, 3) := by decide +kernel
theorem dX3_bestFill_14 : decode cX3_bestFill 14 = .ok (.iload_n 1, 1) := by decide +kernel
theorem dX3_bestFill_15 : decode cX3_bestFill 15 = .ok (.iconst 1, 1) := by decide +kernel
theorem dX3_bestFill_16 : decode cX3_bestFill 16 = .ok (.iload 4, 2) := by decide +kernel
theorem dX3_bestFill_18 : decode cX3_bestFill 18 = .ok (.ishl, 1) := by decide +kernel
theorem dX3_bestFill_19 : decode cX3_bestFill 19 = .ok (.iconst (-1), 1) := by decide +kernel
theorem dX3_bestFill_20 : decode cX3_bestFill 20 = .ok (.ixor, 1) := by decide +kernel
theorem dX3_bestFill_21 : decode cX3_bestFill 21 = .ok (.iand, 1) := by decide +kernel
theorem dX3_bestFill_22 : decode cX3_bestFill 22 = .ok (.istore 5, 2) := by decide +kernel
theorem dX3_bestFill_24 : decode cX3_bestFill 24 = .ok (.iload 5, 2) := by decide +kernel
theorem dX3_bestFill_26 : decode cX3_bestFill 26 = .ok (.iload_n 1, 1) := by decide +kernel
theorem dX3_bestFill_27 : decode cX3_bestFill 27 = .ok (.if_icmp .eq 36, 3) := by decide +kernel
theorem dX3_bestFill_30 : decode cX3_bestFill 30 = .ok (.aload_n 0, 1) := by decide +kernel
theorem dX3_bestFill_31 : decode cX3_bestFill 31 = .ok (.iload 5, 2) := by decide +kernel
theorem dX3_bestFill_33 : decode cX3_bestFill 33 = .ok (.invokevirtual 129, 3) := by decide +kernel
theorem dX3_bestFill_36 : decode cX3_bestFill 36 = .ok (.ifCond .eq 27, 3) := by decide +kernel
theorem dX3_bestFill_39 : decode cX3_bestFill 39 = .ok (.iload_n 3, 1) := by decide +kernel
theorem dX3_bestFill_40 : decode cX3_bestFill 40 = .ok (.aload_n 0, 1) := by decide +kernel
theorem dX3_bestFill_41 : decode cX3_bestFill 41 = .ok (.aload_n 0, 1) := by decide +kernel
theorem dX3_bestFill_42 : decode cX3_bestFill 42 = .ok (.getfield 9, 3) := by decide +kernel
theorem dX3_bestFill_45 : decode cX3_bestFill 45 = .ok (.iload 5, 2) := by decide +kernel
theorem dX3_bestFill_47 : decode cX3_bestFill 47 = .ok (.iaload, 1) := by decide +kernel
theorem dX3_bestFill_48 : decode cX3_bestFill 48 = .ok (.aload_n 0, 1) := by decide +kernel
theorem dX3_bestFill_49 : decode cX3_bestFill 49 = .ok (.getfield 15, 3) := by decide +kernel
theorem dX3_bestFill_52 : decode cX3_bestFill 52 = .ok (.iload 4, 2) := by decide +kernel
theorem dX3_bestFill_54 : decode cX3_bestFill 54 = .ok (.iaload, 1) := by decide +kernel
theorem dX3_bestFill_55 : decode cX3_bestFill 55 = .ok (.iload_n 2, 1) := by decide +kernel
theorem dX3_bestFill_56 : decode cX3_bestFill 56 = .ok (.invokevirtual 136, 3) := by decide +kernel
theorem dX3_bestFill_59 : decode cX3_bestFill 59 = .ok (.invokestatic 140, 3) := by decide +kernel
theorem dX3_bestFill_62 : decode cX3_bestFill 62 = .ok (.istore_n 3, 1) := by decide +kernel
theorem dX3_bestFill_63 : decode cX3_bestFill 63 = .ok (.iinc 4 1, 3) := by decide +kernel
theorem dX3_bestFill_66 : decode cX3_bestFill 66 = .ok (.goto (-61), 3) := by decide +kernel
theorem dX3_bestFill_69 : decode cX3_bestFill 69 = .ok (.iload_n 3, 1) := by decide +kernel
theorem dX3_bestFill_70 : decode cX3_bestFill 70 = .ok (.ireturn, 1) := by decide +kernel
theorem dX3_fillOn_0 : decode cX3_fillOn 0 = .ok (.iload_n 1, 1) := by decide +kernel
theorem dX3_fillOn_1 : decode cX3_fillOn 1 = .ok (.bipush 7, 2) := by decide +kernel
theorem dX3_fillOn_3 : decode cX3_fillOn 3 = .ok (.ishr, 1) := by decide +kernel
theorem dX3_fillOn_4 : decode cX3_fillOn 4 = .ok (.istore 4, 2) := by decide +kernel
theorem dX3_fillOn_6 : decode cX3_fillOn 6 = .ok (.iload 4, 2) := by decide +kernel
theorem dX3_fillOn_8 : decode cX3_fillOn 8 = .ok (.iload_n 3, 1) := by decide +kernel
theorem dX3_fillOn_9 : decode cX3_fillOn 9 = .ok (.if_icmp .ge 9, 3) := by decide +kernel
theorem dX3_fillOn_12 : decode cX3_fillOn 12 = .ok (.iload 4, 2) := by decide +kernel
theorem dX3_fillOn_14 : decode cX3_fillOn 14 = .ok (.iconst 4, 1) := by decide +kernel
theorem dX3_fillOn_15 : decode cX3_fillOn 15 = .ok (.if_icmp .lt 5, 3) := by decide +kernel
theorem dX3_fillOn_18 : decode cX3_fillOn 18 = .ok (.iload_n 1, 1) := by decide +kernel
theorem dX3_fillOn_19 : decode cX3_fillOn 19 = .ok (.ireturn, 1) := by decide +kernel
theorem dX3_fillOn_20 : decode cX3_fillOn 20 = .ok (.iload_n 1, 1) := by decide +kernel
theorem dX3_fillOn_21 : decode cX3_fillOn 21 = .ok (.bipush 127, 2) := by decide +kernel
theorem dX3_fillOn_23 : decode cX3_fillOn 23 = .ok (.iand, 1) := by decide +kernel
theorem dX3_fillOn_24 : decode cX3_fillOn 24 = .ok (.iload_n 2, 1) := by decide +kernel
theorem dX3_fillOn_25 : decode cX3_fillOn 25 = .ok (.iadd, 1) := by decide +kernel
theorem dX3_fillOn_26 : decode cX3_fillOn 26 = .ok (.istore 5, 2) := by decide +kernel
theorem dX3_fillOn_28 : decode cX3_fillOn 28 = .ok (.iload 5, 2) := by decide +kernel
theorem dX3_fillOn_30 : decode cX3_fillOn 30 = .ok (.aload_n 0, 1) := by decide +kernel
theorem dX3_fillOn_31 : decode cX3_fillOn 31 = .ok (.getfield 18, 3) := by decide +kernel
theorem dX3_fillOn_34 : decode cX3_fillOn 34 = .ok (.iload 4, 2) := by decide +kernel
theorem dX3_fillOn_36 : decode cX3_fillOn 36 = .ok (.iaload, 1) := by decide +kernel
theorem dX3_fillOn_37 : decode cX3_fillOn 37 = .ok (.if_icmp .lt 13, 3) := by decide +kernel
theorem dX3_fillOn_40 : decode cX3_fillOn 40 = .ok (.iload 4, 2) := by decide +kernel
theorem dX3_fillOn_42 : decode cX3_fillOn 42 = .ok (.iconst 1, 1) := by decide +kernel
theorem dX3_fillOn_43 : decode cX3_fillOn 43 = .ok (.iadd, 1) := by decide +kernel
theorem dX3_fillOn_44 : decode cX3_fillOn 44 = .ok (.bipush 7, 2) := by decide +kernel
theorem dX3_fillOn_46 : decode cX3_fillOn 46 = .ok (.ishl, 1) := by decide +kernel
theorem dX3_fillOn_47 : decode cX3_fillOn 47 = .ok (.goto 11, 3) := by decide +kernel
theorem dX3_fillOn_50 : decode cX3_fillOn 50 = .ok (.iload 4, 2) := by decide +kernel
theorem dX3_fillOn_52 : decode cX3_fillOn 52 = .ok (.bipush 7, 2) := by decide +kernel
theorem dX3_fillOn_54 : decode cX3_fillOn 54 = .ok (.ishl, 1) := by decide +kernel
theorem dX3_fillOn_55 : decode cX3_fillOn 55 = .ok (.iload 5, 2) := by decide +kernel
theorem dX3_fillOn_57 : decode cX3_fillOn 57 = .ok (.ior, 1) := by decide +kernel
theorem dX3_fillOn_58 : decode cX3_fillOn 58 = .ok (.ireturn, 1) := by decide +kernel
theorem dX3_bestLayer_0 : decode cX3_bestLayer 0 = .ok (.iconst 0, 1) := by decide +kernel
theorem dX3_bestLayer_1 : decode cX3_bestLayer 1 = .ok (.istore 4, 2) := by decide +kernel
theorem dX3_bestLayer_3 : decode cX3_bestLayer 3 = .ok (.bipush 7, 2) := by decide +kernel
theorem dX3_bestLayer_5 : decode cX3_bestLayer 5 = .ok (.istore 5, 2) := by decide +kernel
theorem dX3_bestLayer_7 : decode cX3_bestLayer 7 = .ok (.iconst 0, 1) := by decide +kernel
theorem dX3_bestLayer_8 : decode cX3_bestLayer 8 = .ok (.istore 6, 2) := by decide +kernel
theorem dX3_bestLayer_10 : decode cX3_bestLayer 10 = .ok (.iload 6, 2) := by decide +kernel
theorem dX3_bestLayer_12 : decode cX3_bestLayer 12 = .ok (.bipush 8, 2) := by decide +kernel
theorem dX3_bestLayer_14 : decode cX3_bestLayer 14 = .ok (.if_icmp .ge 35, 3) := by decide +kernel
theorem dX3_bestLayer_17 : decode cX3_bestLayer 17 = .ok (.aload_n 0, 1) := by decide +kernel
theorem dX3_bestLayer_18 : decode cX3_bestLayer 18 = .ok (.aload_n 1, 1) := by decide +kernel
theorem dX3_bestLayer_19 : decode cX3_bestLayer 19 = .ok (.aload_n 2, 1) := by decide +kernel
theorem dX3_bestLayer_20 : decode cX3_bestLayer 20 = .ok (.iload_n 3, 1) := by decide +kernel
theorem dX3_bestLayer_21 : decode cX3_bestLayer 21 = .ok (.iload 6, 2) := by decide +kernel
theorem dX3_bestLayer_23 : decode cX3_bestLayer 23 = .ok (.invokevirtual 145, 3) := by decide +kernel
theorem dX3_bestLayer_26 : decode cX3_bestLayer 26 = .ok (.istore 7, 2) := by decide +kernel
theorem dX3_bestLayer_28 : decode cX3_bestLayer 28 = .ok (.iload 7, 2) := by decide +kernel
theorem dX3_bestLayer_30 : decode cX3_bestLayer 30 = .ok (.iload 5, 2) := by decide +kernel
theorem dX3_bestLayer_32 : decode cX3_bestLayer 32 = .ok (.if_icmp .ge 11, 3) := by decide +kernel
theorem dX3_bestLayer_35 : decode cX3_bestLayer 35 = .ok (.iload 6, 2) := by decide +kernel
theorem dX3_bestLayer_37 : decode cX3_bestLayer 37 = .ok (.istore 4, 2) := by decide +kernel
theorem dX3_bestLayer_39 : decode cX3_bestLayer 39 = .ok (.iload 7, 2) := by decide +kernel
theorem dX3_bestLayer_41 : decode cX3_bestLayer 41 = .ok (.istore 5, 2) := by decide +kernel
theorem dX3_bestLayer_43 : decode cX3_bestLayer 43 = .ok (.iinc 6 1, 3) := by decide +kernel
theorem dX3_bestLayer_46 : decode cX3_bestLayer 46 = .ok (.goto (-36), 3) := by decide +kernel
theorem dX3_bestLayer_49 : decode cX3_bestLayer 49 = .ok (.iload 4, 2) := by decide +kernel
theorem dX3_bestLayer_51 : decode cX3_bestLayer 51 = .ok (.ireturn, 1) := by decide +kernel
theorem dX3_mostLeft_0 : decode cX3_mostLeft 0 = .ok (.iconst 0, 1) := by decide +kernel
theorem dX3_mostLeft_1 : decode cX3_mostLeft 1 = .ok (.istore 5, 2) := by decide +kernel
theorem dX3_mostLeft_3 : decode cX3_mostLeft 3 = .ok (.iconst 0, 1) := by decide +kernel
theorem dX3_mostLeft_4 : decode cX3_mostLeft 4 = .ok (.istore 6, 2) := by decide +kernel
theorem dX3_mostLeft_6 : decode cX3_mostLeft 6 = .ok (.iload 6, 2) := by decide +kernel
theorem dX3_mostLeft_8 : decode cX3_mostLeft 8 = .ok (.aload_n 1, 1) := by decide +kernel
theorem dX3_mostLeft_9 : decode cX3_mostLeft 9 = .ok (.getfield 69, 3) := by decide +kernel
theorem dX3_mostLeft_12 : decode cX3_mostLeft 12 = .ok (.if_icmp .ge 93, 3) := by decide +kernel
theorem dX3_mostLeft_15 : decode cX3_mostLeft 15 = .ok (.iconst 0, 1) := by decide +kernel
theorem dX3_mostLeft_16 : decode cX3_mostLeft 16 = .ok (.istore 7, 2) := by decide +kernel
theorem dX3_mostLeft_18 : decode cX3_mostLeft 18 = .ok (.iconst 0, 1) := by decide +kernel
theorem dX3_mostLeft_19 : decode cX3_mostLeft 19 = .ok (.istore 8, 2) := by decide +kernel
theorem dX3_mostLeft_21 : decode cX3_mostLeft 21 = .ok (.iload 8, 2) := by decide +kernel
theorem dX3_mostLeft_23 : decode cX3_mostLeft 23 = .ok (.aload_n 1, 1) := by decide +kernel
theorem dX3_mostLeft_24 : decode cX3_mostLeft 24 = .ok (.getfield 69, 3) := by decide +kernel
theorem dX3_mostLeft_27 : decode cX3_mostLeft 27 = .ok (.if_icmp .ge 63, 3) := by decide +kernel
theorem dX3_mostLeft_30 : decode cX3_mostLeft 30 = .ok (.iload_n 3, 1) := by decide +kernel
theorem dX3_mostLeft_31 : decode cX3_mostLeft 31 = .ok (.iload 6, 2) := by decide +kernel
theorem dX3_mostLeft_33 : decode cX3_mostLeft 33 = .ok (.ishr, 1) := by decide +kernel
theorem dX3_mostLeft_34 : decode cX3_mostLeft 34 = .ok (.iconst 1, 1) := by decide +kernel
theorem dX3_mostLeft_35 : decode cX3_mostLeft 35 = .ok (.iand, 1) := by decide +kernel
theorem dX3_mostLeft_36 : decode cX3_mostLeft 36 = .ok (.iconst 1, 1) := by decide +kernel
theorem dX3_mostLeft_37 : decode cX3_mostLeft 37 = .ok (.if_icmp .ne 17, 3) := by decide +kernel
theorem dX3_mostLeft_40 : decode cX3_mostLeft 40 = .ok (.iload_n 3, 1) := by decide +kernel
theorem dX3_mostLeft_41 : decode cX3_mostLeft 41 = .ok (.iload 8, 2) := by decide +kernel
theorem dX3_mostLeft_43 : decode cX3_mostLeft 43 = .ok (.ishr, 1) := by decide +kernel
theorem dX3_mostLeft_44 : decode cX3_mostLeft 44 = .ok (.iconst 1, 1) := by decide +kernel
theorem dX3_mostLeft_45 : decode cX3_mostLeft 45 = .ok (.iand, 1) := by decide +kernel
theorem dX3_mostLeft_46 : decode cX3_mostLeft 46 = .ok (.iconst 1, 1) := by decide +kernel
theorem dX3_mostLeft_47 : decode cX3_mostLeft 47 = .ok (.if_icmp .ne 7, 3) := by decide +kernel
theorem dX3_mostLeft_50 : decode cX3_mostLeft 50 = .ok (.iconst 1, 1) := by decide +kernel
theorem dX3_mostLeft_51 : decode cX3_mostLeft 51 = .ok (.goto 4, 3) := by decide +kernel
theorem dX3_mostLeft_54 : decode cX3_mostLeft 54 = .ok (.iconst 0, 1) := by decide +kernel
theorem dX3_mostLeft_55 : decode cX3_mostLeft 55 = .ok (.istore 9, 2) := by decide +kernel
theorem dX3_mostLeft_57 : decode cX3_mostLeft 57 = .ok (.iload 9, 2) := by decide +kernel
theorem dX3_mostLeft_59 : decode cX3_mostLeft 59 = .ok (.ifCond .eq 25, 3) := by decide +kernel
theorem dX3_mostLeft_62 : decode cX3_mostLeft 62 = .ok (.aload_n 2, 1) := by decide +kernel
theorem dX3_mostLeft_63 : decode cX3_mostLeft 63 = .ok (.iload 6, 2) := by decide +kernel
theorem dX3_mostLeft_65 : decode cX3_mostLeft 65 = .ok (.iload 4, 2) := by decide +kernel
theorem dX3_mostLeft_67 : decode cX3_mostLeft 67 = .ok (.invokevirtual 149, 3) := by decide +kernel
theorem dX3_mostLeft_70 : decode cX3_mostLeft 70 = .ok (.aload_n 2, 1) := by decide +kernel
theorem dX3_mostLeft_71 : decode cX3_mostLeft 71 = .ok (.iload 8, 2) := by decide +kernel
theorem dX3_mostLeft_73 : decode cX3_mostLeft 73 = .ok (.iload 4, 2) := by decide +kernel
theorem dX3_mostLeft_75 : decode cX3_mostLeft 75 = .ok (.invokevirtual 149, 3) := by decide +kernel
theorem dX3_mostLeft_78 : decode cX3_mostLeft 78 = .ok (.if_icmp .ne 6, 3) := by decide +kernel
theorem dX3_mostLeft_81 : decode cX3_mostLeft 81 = .ok (.iinc 7 1, 3) := by decide +kernel
theorem dX3_mostLeft_84 : decode cX3_mostLeft 84 = .ok (.iinc 8 1, 3) := by decide +kernel
theorem dX3_mostLeft_87 : decode cX3_mostLeft 87 = .ok (.goto (-66), 3) := by decide +kernel
theorem dX3_mostLeft_90 : decode cX3_mostLeft 90 = .ok (.iload 5, 2) := by decide +kernel
theorem dX3_mostLeft_92 : decode cX3_mostLeft 92 = .ok (.iload 7, 2) := by decide +kernel
theorem dX3_mostLeft_94 : decode cX3_mostLeft 94 = .ok (.invokestatic 140, 3) := by decide +kernel
theorem dX3_mostLeft_97 : decode cX3_mostLeft 97 = .ok (.istore 5, 2) := by decide +kernel
theorem dX3_mostLeft_99 : decode cX3_mostLeft 99 = .ok (.iinc 6 1, 3) := by decide +kernel
theorem dX3_mostLeft_102 : decode cX3_mostLeft 102 = .ok (.goto (-96), 3) := by decide +kernel
theorem dX3_mostLeft_105 : decode cX3_mostLeft 105 = .ok (.iload 5, 2) := by decide +kernel
theorem dX3_mostLeft_107 : decode cX3_mostLeft 107 = .ok (.ireturn, 1) := by decide +kernel
theorem dX4_init_0 : decode cX4_init 0 = .ok (.aload_n 0, 1) := by decide +kernel
theorem dX4_init_1 : decode cX4_init 1 = .ok (.invokespecial 3, 3) := by decide +kernel
theorem dX4_init_4 : decode cX4_init 4 = .ok (.aload_n 0, 1) := by decide +kernel
theorem dX4_init_5 : decode cX4_init 5 = .ok (.bipush 8, 2) := by decide +kernel
theorem dX4_init_7 : decode cX4_init 7 = .ok (.newarray .long, 2) := by decide +kernel
theorem dX4_init_9 : decode cX4_init 9 = .ok (.putfield 9, 3) := by decide +kernel
theorem dX4_init_12 : decode cX4_init 12 = .ok (.aload_n 0, 1) := by decide +kernel
theorem dX4_init_13 : decode cX4_init 13 = .ok (.bipush 8, 2) := by decide +kernel
theorem dX4_init_15 : decode cX4_init 15 = .ok (.newarray .int, 2) := by decide +kernel
theorem dX4_init_17 : decode cX4_init 17 = .ok (.putfield 15, 3) := by decide +kernel
theorem dX4_init_20 : decode cX4_init 20 = .ok (.aload_n 0, 1) := by decide +kernel
theorem dX4_init_21 : decode cX4_init 21 = .ok (.bipush 8, 2) := by decide +kernel
theorem dX4_init_23 : decode cX4_init 23 = .ok (.newarray .int, 2) := by decide +kernel
theorem dX4_init_25 : decode cX4_init 25 = .ok (.putfield 19, 3) := by decide +kernel
theorem dX4_init_28 : decode cX4_init 28 = .ok (.aload_n 0, 1) := by decide +kernel
theorem dX4_init_29 : decode cX4_init 29 = .ok (.bipush 6, 2) := by decide +kernel
theorem dX4_init_31 : decode cX4_init 31 = .ok (.newarray .long, 2) := by decide +kernel
theorem dX4_init_33 : decode cX4_init 33 = .ok (.putfield 22, 3) := by decide +kernel
theorem dX4_init_36 : decode cX4_init 36 = .ok (.aload_n 0, 1) := by decide +kernel
theorem dX4_init_37 : decode cX4_init 37 = .ok (.bipush 6, 2) := by decide +kernel
theorem dX4_init_39 : decode cX4_init 39 = .ok (.newarray .int, 2) := by decide +kernel
theorem dX4_init_41 : decode cX4_init 41 = .ok (.putfield 25, 3) := by decide +kernel
theorem dX4_init_44 : decode cX4_init 44 = .ok (.aload_n 0, 1) := by decide +kernel
theorem dX4_init_45 : decode cX4_init 45 = .ok (.bipush 12, 2) := by decide +kernel
theorem dX4_init_47 : decode cX4_init 47 = .ok (.newarray .int, 2) := by decide +kernel
theorem dX4_init_49 : decode cX4_init 49 = .ok (.putfield 28, 3) := by decide +kernel
theorem dX4_init_52 : decode cX4_init 52 = .ok (.aload_n 0, 1) := by decide +kernel
theorem dX4_init_53 : decode cX4_init 53 = .ok (.bipush 12, 2) := by decide +kernel
theorem dX4_init_55 : decode cX4_init 55 = .ok (.newarray .int, 2) := by decide +kernel
theorem dX4_init_57 : decode cX4_init 57 = .ok (.putfield 31, 3) := by decide +kernel
theorem dX4_init_60 : decode cX4_init 60 = .ok (.aload_n 0, 1) := by decide +kernel
theorem dX4_init_61 : decode cX4_init 61 = .ok (.bipush 12, 2) := by decide +kernel
theorem dX4_init_63 : decode cX4_init 63 = .ok (.newarray .int, 2) := by decide +kernel
theorem dX4_init_65 : decode cX4_init 65 = .ok (.putfield 34, 3) := by decide +kernel
theorem dX4_init_68 : decode cX4_init 68 = .ok (.aload_n 0, 1) := by decide +kernel
theorem dX4_init_69 : decode cX4_init 69 = .ok (.iconst 4, 1) := by decide +kernel
theorem dX4_init_70 : decode cX4_init 70 = .ok (.newarray .long, 2) := by decide +kernel
theorem dX4_init_72 : decode cX4_init 72 = .ok (.putfield 37, 3) := by decide +kernel
theorem dX4_init_75 : decode cX4_init 75 = .ok (.aload_n 0, 1) := by decide +kernel
theorem dX4_init_76 : decode cX4_init 76 = .ok (.iconst 4, 1) := by decide +kernel
theorem dX4_init_77 : decode cX4_init 77 = .ok (.newarray .int, 2) := by decide +kernel
theorem dX4_init_79 : decode cX4_init 79 = .ok (.putfield 40, 3) := by decide +kernel
theorem dX4_init_82 : decode cX4_init 82 = .ok (.aload_n 0, 1) := by decide +kernel
theorem dX4_init_83 : decode cX4_init 83 = .ok (.bipush 9, 2) := by decide +kernel
theorem dX4_init_85 : decode cX4_init 85 = .ok (.putfield 43, 3) := by decide +kernel
theorem dX4_init_88 : decode cX4_init 88 = .ok (.return_, 1) := by decide +kernel
theorem dX4_copyFrom_0 : decode cX4_copyFrom 0 = .ok (.aload_n 0, 1) := by decide +kernel
theorem dX4_copyFrom_1 : decode cX4_copyFrom 1 = .ok (.aload_n 1, 1) := by decide +kernel
theorem dX4_copyFrom_2 : decode cX4_copyFrom 2 = .ok (.getfield 47, 3) := by decide +kernel
theorem dX4_copyFrom_5 : decode cX4_copyFrom 5 = .ok (.putfield 47, 3) := by decide +kernel
theorem dX4_copyFrom_8 : decode cX4_copyFrom 8 = .ok (.aload_n 1, 1) := by decide +kernel
theorem dX4_copyFrom_9 : decode cX4_copyFrom 9 = .ok (.getfield 9, 3) := by decide +kernel
theorem dX4_copyFrom_12 : decode cX4_copyFrom 12 = .ok (.iconst 0, 1) := by decide +kernel
theorem dX4_copyFrom_13 : decode cX4_copyFrom 13 = .ok (.aload_n 0, 1) := by decide +kernel
theorem dX4_copyFrom_14 : decode cX4_copyFrom 14 = .ok (.getfield 9, 3) := by decide +kernel
theorem dX4_copyFrom_17 : decode cX4_copyFrom 17 = .ok (.iconst 0, 1) := by decide +kernel
theorem dX4_copyFrom_18 : decode cX4_copyFrom 18 = .ok (.bipush 8, 2) := by decide +kernel
theorem dX4_copyFrom_20 : decode cX4_copyFrom 20 = .ok (.invokestatic 50, 3) := by decide +kernel
theorem dX4_copyFrom_23 : decode cX4_copyFrom 23 = .ok (.aload_n 1, 1) := by decide +kernel
theorem dX4_copyFrom_24 : decode cX4_copyFrom 24 = .ok (.getfield 15, 3) := by decide +kernel
theorem dX4_copyFrom_27 : decode cX4_copyFrom 27 = .ok (.iconst 0, 1) := by decide +kernel
theorem dX4_copyFrom_28 : decode cX4_copyFrom 28 = .ok (.aload_n 0, 1) := by decide +kernel
theorem dX4_copyFrom_29 : decode cX4_copyFrom 29 = .ok (.getfield 15, 3) := by decide +kernel
theorem dX4_copyFrom_32 : decode cX4_copyFrom 32 = .ok (.iconst 0, 1) := by decide +kernel
theorem dX4_copyFrom_33 : decode cX4_copyFrom 33 = .ok (.bipush 8, 2) := by decide +kernel
theorem dX4_copyFrom_35 : decode cX4_copyFrom 35 = .ok (.invokestatic 50, 3) := by decide +kernel
theorem dX4_copyFrom_38 : decode cX4_copyFrom 38 = .ok (.aload_n 1, 1) := by decide +kernel
theorem dX4_copyFrom_39 : decode cX4_copyFrom 39 = .ok (.getfield 19, 3) := by decide +kernel
theorem dX4_copyFrom_42 : decode cX4_copyFrom 42 = .ok (.iconst 0, 1) := by decide +kernel
theorem dX4_copyFrom_43 : decode cX4_copyFrom 43 = .ok (.aload_n 0, 1) := by decide +kernel
theorem dX4_copyFrom_44 : decode cX4_copyFrom 44 = .ok (.getfield 19, 3) := by decide +kernel
theorem dX4_copyFrom_47 : decode cX4_copyFrom 47 = .ok (.iconst 0, 1) := by decide +kernel
theorem dX4_copyFrom_48 : decode cX4_copyFrom 48 = .ok (.bipush 8, 2) := by decide +kernel
theorem dX4_copyFrom_50 : decode cX4_copyFrom 50 = .ok (.invokestatic 50, 3) := by decide +kernel
theorem dX4_copyFrom_53 : decode cX4_copyFrom 53 = .ok (.aload_n 0, 1) := by decide +kernel
theorem dX4_copyFrom_54 : decode cX4_copyFrom 54 = .ok (.aload_n 1, 1) := by decide +kernel
theorem dX4_copyFrom_55 : decode cX4_copyFrom 55 = .ok (.getfield 56, 3) := by decide +kernel
theorem dX4_copyFrom_58 : decode cX4_copyFrom 58 = .ok (.putfield 56, 3) := by decide +kernel
theorem dX4_copyFrom_61 : decode cX4_copyFrom 61 = .ok (.aload_n 1, 1) := by decide +kernel
theorem dX4_copyFrom_62 : decode cX4_copyFrom 62 = .ok (.getfield 22, 3) := by decide +kernel
theorem dX4_copyFrom_65 : decode cX4_copyFrom 65 = .ok (.iconst 0, 1) := by decide +kernel
theorem dX4_copyFrom_66 : decode cX4_copyFrom 66 = .ok (.aload_n 0, 1) := by decide +kernel
theorem dX4_copyFrom_67 : decode cX4_copyFrom 67 = .ok (.getfield 22, 3) := by decide +kernel
theorem dX4_copyFrom_70 : decode cX4_copyFrom 70 = .ok (.iconst 0, 1) := by decide +kernel
theorem dX4_copyFrom_71 : decode cX4_copyFrom 71 = .ok (.bipush 6, 2) := by decide +kernel
theorem dX4_copyFrom_73 : decode cX4_copyFrom 73 = .ok (.invokestatic 50, 3) := by decide +kernel
theorem dX4_copyFrom_76 : decode cX4_copyFrom 76 = .ok (.aload_n 1, 1) := by decide +kernel
theorem dX4_copyFrom_77 : decode cX4_copyFrom 77 = .ok (.getfield 25, 3) := by decide +kernel
theorem dX4_copyFrom_80 : decode cX4_copyFrom 80 = .ok (.iconst 0, 1) := by decide +kernel
theorem dX4_copyFrom_81 : decode cX4_copyFrom 81 = .ok (.aload_n 0, 1) := by decide +kernel
theorem dX4_copyFrom_82 : decode cX4_copyFrom 82 = .ok (.getfield 25, 3) := by decide +kernel
theorem dX4_copyFrom_85 : decode cX4_copyFrom 85 = .ok (.iconst 0, 1) := by decide +kernel
theorem dX4_copyFrom_86 : decode cX4_copyFrom 86 = .ok (.bipush 6, 2) := by decide +kernel
theorem dX4_copyFrom_88 : decode cX4_copyFrom 88 = .ok (.invokestatic 50, 3) := by decide +kernel
theorem dX4_copyFrom_91 : decode cX4_copyFrom 91 = .ok (.aload_n 0, 1) := by decide +kernel
theorem dX4_copyFrom_92 : decode cX4_copyFrom 92 = .ok (.aload_n 1, 1) := by decide +kernel
theorem dX4_copyFrom_93 : decode cX4_copyFrom 93 = .ok (.getfield 59, 3) := by decide +kernel
theorem dX4_copyFrom_96 : decode cX4_copyFrom 96 = .ok (.putfield 59, 3) := by decide +kernel
theorem dX4_copyFrom_99 : decode cX4_copyFrom 99 = .ok (.aload_n 1, 1) := by decide +kernel
theorem dX4_copyFrom_100 : decode cX4_copyFrom 100 = .ok (.getfield 28, 3) := by decide +kernel
theorem dX4_copyFrom_103 : decode cX4_copyFrom 103 = .ok (.iconst 0, 1) := by decide +kernel
theorem dX4_copyFrom_104 : decode cX4_copyFrom 104 = .ok (.aload_n 0, 1) := by decide +kernel
theorem dX4_copyFrom_105 : decode cX4_copyFrom 105 = .ok (.getfield 28, 3) := by decide +kernel
theorem dX4_copyFrom_108 : decode cX4_copyFrom 108 = .ok (.iconst 0, 1) := by decide +kernel
theorem dX4_copyFrom_109 : decode cX4_copyFrom 109 = .ok (.bipush 12, 2) := by decide +kernel
theorem dX4_copyFrom_111 : decode cX4_copyFrom 111 = .ok (.invokestatic 50, 3) := by decide +kernel
theorem dX4_copyFrom_114 : decode cX4_copyFrom 114 = .ok (.aload_n 1, 1) := by decide +kernel
theorem dX4_copyFrom_115 : decode cX4_copyFrom 115 = .ok (.getfield 31, 3) := by decide +kernel
theorem dX4_copyFrom_118 : decode cX4_copyFrom 118 = .ok (.iconst 0, 1) := by decide +kernel
theorem dX4_copyFrom_119 : decode cX4_copyFrom 119 = .ok (.aload_n 0, 1) := by decide +kernel
theorem dX4_copyFrom_120 : decode cX4_copyFrom 120 = .ok (.getfield 31, 3) := by decide +kernel
theorem dX4_copyFrom_123 : decode cX4_copyFrom 123 = .ok (.iconst 0, 1) := by decide +kernel
theorem dX4_copyFrom_124 : decode cX4_copyFrom 124 = .ok (.bipush 12, 2) := by decide +kernel
theorem dX4_copyFrom_126 : decode cX4_copyFrom 126 = .ok (.invokestatic 50, 3) := by decide +kernel
theorem dX4_copyFrom_129 : decode cX4_copyFrom 129 = .ok (.aload_n 1, 1) := by decide +kernel
theorem dX4_copyFrom_130 : decode cX4_copyFrom 130 = .ok (.getfield 34, 3) := by decide +kernel
theorem dX4_copyFrom_133 : decode cX4_copyFrom 133 = .ok (.iconst 0, 1) := by decide +kernel
theorem dX4_copyFrom_134 : decode cX4_copyFrom 134 = .ok (.aload_n 0, 1) := by decide +kernel
theorem dX4_copyFrom_135 : decode cX4_copyFrom 135 = .ok (.getfield 34, 3) := by decide +kernel
theorem dX4_copyFrom_138 : decode cX4_copyFrom 138 = .ok (.iconst 0, 1) := by decide +kernel
theorem dX4_copyFrom_139 : decode cX4_copyFrom 139 = .ok (.bipush 12, 2) := by decide +kernel
theorem dX4_copyFrom_141 : decode cX4_copyFrom 141 = .ok (.invokestatic 50, 3) := by decide +kernel
theorem dX4_copyFrom_144 : decode cX4_copyFrom 144 = .ok (.aload_n 0, 1) := by decide +kernel
theorem dX4_copyFrom_145 : decode cX4_copyFrom 145 = .ok (.aload_n 1, 1) := by decide +kernel
theorem dX4_copyFrom_146 : decode cX4_copyFrom 146 = .ok (.getfield 62, 3) := by decide +kernel
theorem dX4_copyFrom_149 : decode cX4_copyFrom 149 = .ok (.putfield 62, 3) := by decide +kernel
theorem dX4_copyFrom_152 : decode cX4_copyFrom 152 = .ok (.aload_n 1, 1) := by decide +kernel
theorem dX4_copyFrom_153 : decode cX4_copyFrom 153 = .ok (.getfield 37, 3) := by decide +kernel
theorem dX4_copyFrom_156 : decode cX4_copyFrom 156 = .ok (.iconst 0, 1) := by decide +kernel
theorem dX4_copyFrom_157 : decode cX4_copyFrom 157 = .ok (.aload_n 0, 1) := by decide +kernel
theorem dX4_copyFrom_158 : decode cX4_copyFrom 158 = .ok (.getfield 37, 3) := by decide +kernel
theorem dX4_copyFrom_161 : decode cX4_copyFrom 161 = .ok (.iconst 0, 1) := by decide +kernel
theorem dX4_copyFrom_162 : decode cX4_copyFrom 162 = .ok (.iconst 4, 1) := by decide +kernel
theorem dX4_copyFrom_163 : decode cX4_copyFrom 163 = .ok (.invokestatic 50, 3) := by decide +kernel
theorem dX4_copyFrom_166 : decode cX4_copyFrom 166 = .ok (.aload_n 1, 1) := by decide +kernel
theorem dX4_copyFrom_167 : decode cX4_copyFrom 167 = .ok (.getfield 40, 3) := by decide +kernel
theorem dX4_copyFrom_170 : decode cX4_copyFrom 170 = .ok (.iconst 0, 1) := by decide +kernel
theorem dX4_copyFrom_171 : decode cX4_copyFrom 171 = .ok (.aload_n 0, 1) := by decide +kernel
theorem dX4_copyFrom_172 : decode cX4_copyFrom 172 = .ok (.getfield 40, 3) := by decide +kernel
theorem dX4_copyFrom_175 : decode cX4_copyFrom 175 = .ok (.iconst 0, 1) := by decide +kernel
theorem dX4_copyFrom_176 : decode cX4_copyFrom 176 = .ok (.iconst 4, 1) := by decide +kernel
theorem dX4_copyFrom_177 : decode cX4_copyFrom 177 = .ok (.invokestatic 50, 3) := by decide +kernel
theorem dX4_copyFrom_180 : decode cX4_copyFrom 180 = .ok (.aload_n 0, 1) := by decide +kernel
theorem dX4_copyFrom_181 : decode cX4_copyFrom 181 = .ok (.aload_n 1, 1) := by decide +kernel
theorem dX4_copyFrom_182 : decode cX4_copyFrom 182 = .ok (.getfield 43, 3) := by decide +kernel
theorem dX4_copyFrom_185 : decode cX4_copyFrom 185 = .ok (.putfield 43, 3) := by decide +kernel
theorem dX4_copyFrom_188 : decode cX4_copyFrom 188 = .ok (.return_, 1) := by decide +kernel
theorem dX4_readFrom_0 : decode cX4_readFrom 0 = .ok (.aload_n 0, 1) := by decide +kernel
theorem dX4_readFrom_1 : decode cX4_readFrom 1 = .ok (.iconst 0, 1) := by decide +kernel
theorem dX4_readFrom_2 : decode cX4_readFrom 2 = .ok (.putfield 47, 3) := by decide +kernel
theorem dX4_readFrom_5 : decode cX4_readFrom 5 = .ok (.aload_n 0, 1) := by decide +kernel
theorem dX4_readFrom_6 : decode cX4_readFrom 6 = .ok (.iconst 0, 1) := by decide +kernel
theorem dX4_readFrom_7 : decode cX4_readFrom 7 = .ok (.putfield 56, 3) := by decide +kernel
theorem dX4_readFrom_10 : decode cX4_readFrom 10 = .ok (.aload_n 0, 1) := by decide +kernel
theorem dX4_readFrom_11 : decode cX4_readFrom 11 = .ok (.iconst 0, 1) := by decide +kernel
theorem dX4_readFrom_12 : decode cX4_readFrom 12 = .ok (.putfield 59, 3) := by decide +kernel
theorem dX4_readFrom_15 : decode cX4_readFrom 15 = .ok (.aload_n 0, 1) := by decide +kernel
theorem dX4_readFrom_16 : decode cX4_readFrom 16 = .ok (.iconst 0, 1) := by decide +kernel
theorem dX4_readFrom_17 : decode cX4_readFrom 17 = .ok (.putfield 62, 3) := by decide +kernel
theorem dX4_readFrom_20 : decode cX4_readFrom 20 = .ok (.aload_n 0, 1) := by decide +kernel
theorem dX4_readFrom_21 : decode cX4_readFrom 21 = .ok (.bipush 9, 2) := by decide +kernel
theorem dX4_readFrom_23 : decode cX4_readFrom 23 = .ok (.putfield 43, 3) := by decide +kernel
theorem dX4_readFrom_26 : decode cX4_readFrom 26 = .ok (.aload_n 0, 1) := by decide +kernel
theorem dX4_readFrom_27 : decode cX4_readFrom 27 = .ok (.iconst 0, 1) := by decide +kernel
theorem dX4_readFrom_28 : decode cX4_readFrom 28 = .ok (.putfield 65, 3) := by decide +kernel
theorem dX4_readFrom_31 : decode cX4_readFrom 31 = .ok (.aload_n 2, 1) := by decide +kernel
theorem dX4_readFrom_32 : decode cX4_readFrom 32 = .ok (.invokevirtual 69, 3) := by decide +kernel
theorem dX4_readFrom_35 : decode cX4_readFrom 35 = .ok (.aload_n 1, 1) := by decide +kernel
theorem dX4_readFrom_36 : decode cX4_readFrom 36 = .ok (.sipush 900, 3) := by decide +kernel
theorem dX4_readFrom_39 : decode cX4_readFrom 39 = .ok (.invokevirtual 74, 3) := by decide +kernel
theorem dX4_readFrom_42 : decode cX4_readFrom 42 = .ok (.iconst 0, 1) := by decide +kernel
theorem dX4_readFrom_43 : decode cX4_readFrom 43 = .ok (.istore_n 3, 1) := by decide +kernel
theorem dX4_readFrom_44 : decode cX4_readFrom 44 = .ok (.aload_n 1, 1) := by decide +kernel
theorem dX4_readFrom_45 : decode cX4_readFrom 45 = .ok (.getfield 80, 3) := by decide +kernel
theorem dX4_readFrom_48 : decode cX4_readFrom 48 = .ok (.ifCond .eq 36, 3) := by decide +kernel
theorem dX4_readFrom_51 : decode cX4_readFrom 51 = .ok (.iload_n 3, 1) := by decide +kernel
theorem dX4_readFrom_52 : decode cX4_readFrom 52 = .ok (.sipush 900, 3) := by decide +kernel
theorem dX4_readFrom_55 : decode cX4_readFrom 55 = .ok (.if_icmp .ge 29, 3) := by decide +kernel
theorem dX4_readFrom_58 : decode cX4_readFrom 58 = .ok (.aload_n 0, 1) := by decide +kernel
theorem dX4_readFrom_59 : decode cX4_readFrom 59 = .ok (.aload_n 1, 1) := by decide +kernel
theorem dX4_readFrom_60 : decode cX4_readFrom 60 = .ok (.aload_n 2, 1) := by decide +kernel
theorem dX4_readFrom_61 : decode cX4_readFrom 61 = .ok (.invokevirtual 83, 3) := by decide +kernel
theorem dX4_readFrom_64 : decode cX4_readFrom 64 = .ok (.ifCond .eq 12, 3) := by decide +kernel
theorem dX4_readFrom_67 : decode cX4_readFrom 67 = .ok (.aload_n 1, 1) := by decide +kernel
theorem dX4_readFrom_68 : decode cX4_readFrom 68 = .ok (.bipush 59, 2) := by decide +kernel
theorem dX4_readFrom_70 : decode cX4_readFrom 70 = .ok (.invokevirtual 87, 3) := by decide +kernel
theorem dX4_readFrom_73 : decode cX4_readFrom 73 = .ok (.ifCond .ne 5, 3) := by decide +kernel
theorem dX4_readFrom_76 : decode cX4_readFrom 76 = .ok (.iconst (-1), 1) := by decide +kernel
theorem dX4_readFrom_77 : decode cX4_readFrom 77 = .ok (.ireturn, 1) := by decide +kernel
theorem dX4_readFrom_78 : decode cX4_readFrom 78 = .ok (.iinc 3 1, 3) := by decide +kernel
theorem dX4_readFrom_81 : decode cX4_readFrom 81 = .ok (.goto (-37), 3) := by decide +kernel
theorem dX4_readFrom_84 : decode cX4_readFrom 84 = .ok (.iload_n 3, 1) := by decide +kernel
theorem dX4_readFrom_85 : decode cX4_readFrom 85 = .ok (.ireturn, 1) := by decide +kernel
theorem dX4_readLine_0 : decode cX4_readLine 0 = .ok (.aload_n 1, 1) := by decide +kernel
theorem dX4_readLine_1 : decode cX4_readLine 1 = .ok (.getfield 91, 3) := by decide +kernel
theorem dX4_readLine_4 : decode cX4_readLine 4 = .ok (.getstatic 95, 3) := by decide +kernel
theorem dX4_readLine_7 : decode cX4_readLine 7 = .ok (.if_acmp .ne 9, 3) := by decide +kernel
theorem dX4_readLine_10 : decode cX4_readLine 10 = .ok (.aload_n 0, 1) := by decide +kernel
theorem dX4_readLine_11 : decode cX4_readLine 11 = .ok (.aload_n 1, 1) := by decide +kernel
theorem dX4_readLine_12 : decode cX4_readLine 12 = .ok (.invokevirtual 100, 3) := by decide +kernel
theorem dX4_readLine_15 : decode cX4_readLine 15 = .ok (.ireturn, 1) := by decide +kernel
theorem dX4_readLine_16 : decode cX4_readLine 16 = .ok (.aload_n 1, 1) := by decide +kernel
theorem dX4_readLine_17 : decode cX4_readLine 17 = .ok (.getfield 91, 3) := by decide +kernel
theorem dX4_readLine_20 : decode cX4_readLine 20 = .ok (.getstatic 104, 3) := by decide +kernel
theorem dX4_readLine_23 : decode cX4_readLine 23 = .ok (.if_acmp .ne 9, 3) := by decide +kernel
theorem dX4_readLine_26 : decode cX4_readLine 26 = .ok (.aload_n 0, 1) := by decide +kernel
theorem dX4_readLine_27 : decode cX4_readLine 27 = .ok (.aload_n 1, 1) := by decide +kernel
theorem dX4_readLine_28 : decode cX4_readLine 28 = .ok (.invokevirtual 107, 3) := by decide +kernel
theorem dX4_readLine_31 : decode cX4_readLine 31 = .ok (.ireturn, 1) := by decide +kernel
theorem dX4_readLine_32 : decode cX4_readLine 32 = .ok (.aload_n 1, 1) := by decide +kernel
theorem dX4_readLine_33 : decode cX4_readLine 33 = .ok (.getfield 91, 3) := by decide +kernel
theorem dX4_readLine_36 : decode cX4_readLine 36 = .ok (.getstatic 110, 3) := by decide +kernel
theorem dX4_readLine_39 : decode cX4_readLine 39 = .ok (.if_acmp .ne 10, 3) := by decide +kernel
theorem dX4_readLine_42 : decode cX4_readLine 42 = .ok (.aload_n 0, 1) := by decide +kernel
theorem dX4_readLine_43 : decode cX4_readLine 43 = .ok (.aload_n 1, 1) := by decide +kernel
theorem dX4_readLine_44 : decode cX4_readLine 44 = .ok (.aload_n 2, 1) := by decide +kernel
theorem dX4_readLine_45 : decode cX4_readLine 45 = .ok (.invokevirtual 113, 3) := by decide +kernel
theorem dX4_readLine_48 : decode cX4_readLine 48 = .ok (.ireturn, 1) := by decide +kernel
theorem dX4_readLine_49 : decode cX4_readLine 49 = .ok (.aload_n 1, 1) := by decide +kernel
theorem dX4_readLine_50 : decode cX4_readLine 50 = .ok (.getfield 91, 3) := by decide +kernel
theorem dX4_readLine_53 : decode cX4_readLine 53 = .ok (.getstatic 116, 3) := by decide +kernel
theorem dX4_readLine_56 : decode cX4_readLine 56 = .ok (.if_acmp .ne 9, 3) := by decide +kernel
theorem dX4_readLine_59 : decode cX4_readLine 59 = .ok (.aload_n 0, 1) := by decide +kernel
theorem dX4_readLine_60 : decode cX4_readLine 60 = .ok (.aload_n 1, 1) := by decide +kernel
theorem dX4_readLine_61 : decode cX4_readLine 61 = .ok (.invokevirtual 119, 3) := by decide +kernel
theorem dX4_readLine_64 : decode cX4_readLine 64 = .ok (.ireturn, 1) := by decide +kernel
theorem dX4_readLine_65 : decode cX4_readLine 65 = .ok (.aload_n 1, 1) := by decide +kernel
theorem dX4_readLine_66 : decode cX4_readLine 66 = .ok (.getfield 91, 3) := by decide +kernel
theorem dX4_readLine_69 : decode cX4_readLine 69 = .ok (.getstatic 122, 3) := by decide +kernel
theorem dX4_readLine_72 : decode cX4_readLine 72 = .ok (.if_acmp .ne 9, 3) := by decide +kernel
theorem dX4_readLine_75 : decode cX4_readLine 75 = .ok (.aload_n 0, 1) := by decide +kernel
theorem dX4_readLine_76 : decode cX4_readLine 76 = .ok (.aload_n 1, 1) := by decide +kernel
theorem dX4_readLine_77 : decode cX4_readLine 77 = .ok (.invokevirtual 125, 3) := by decide +kernel
theorem dX4_readLine_80 : decode cX4_readLine 80 = .ok (.ireturn, 1) := by decide +kernel
theorem dX4_readLine_81 : decode cX4_readLine 81 = .ok (.aload_n 1, 1) := by decide +kernel
theorem dX4_readLine_82 : decode cX4_readLine 82 = .ok (.getfield 91, 3) := by decide +kernel
theorem dX4_readLine_85 : decode cX4_readLine 85 = .ok (.getstatic 128, 3) := by decide +kernel
theorem dX4_readLine_88 : decode cX4_readLine 88 = .ok (.if_acmp .ne 11, 3) := by decide +kernel
theorem dX4_readLine_91 : decode cX4_readLine 91 = .ok (.aload_n 0, 1) := by decide +kernel
theorem dX4_readLine_92 : decode cX4_readLine 92 = .ok (.aload_n 1, 1) := by decide +kernel
theorem dX4_readLine_93 : decode cX4_readLine 93 = .ok (.invokevirtual 131, 3) := by decide +kernel
theorem dX4_readLine_96 : decode cX4_readLine 96 = .ok (.goto 8, 3) := by decide +kernel
theorem dX4_readLine_99 : decode cX4_readLine 99 = .ok (.aload_n 1, 1) := by decide +kernel
theorem dX4_readLine_100 : decode cX4_readLine 100 = .ok (.iconst 1, 1) := by decide +kernel
theorem dX4_readLine_101 : decode cX4_readLine 101 = .ok (.invokevirtual 134, 3) := by decide +kernel
theorem dX4_readLine_104 : decode cX4_readLine 104 = .ok (.ireturn, 1) := by decide +kernel
theorem dX4_readThing_0 : decode cX4_readThing 0 = .ok (.aload_n 0, 1) := by decide +kernel
theorem dX4_readThing_1 : decode cX4_readThing 1 = .ok (.getfield 47, 3) := by decide +kernel
theorem dX4_readThing_4 : decode cX4_readThing 4 = .ok (.bipush 8, 2) := by decide +kernel
theorem dX4_readThing_6 : decode cX4_readThing 6 = .ok (.if_icmp .lt 9, 3) := by decide +kernel
theorem dX4_readThing_9 : decode cX4_readThing 9 = .ok (.aload_n 1, 1) := by decide +kernel
theorem dX4_readThing_10 : decode cX4_readThing 10 = .ok (.iconst 4, 1) := by decide +kernel
theorem dX4_readThing_11 : decode cX4_readThing 11 = .ok (.invokevirtual 134, 3) := by decide +kernel
theorem dX4_readThing_14 : decode cX4_readThing 14 = .ok (.ireturn, 1) := by decide +kernel
theorem dX4_readThing_15 : decode cX4_readThing 15 = .ok (.aload_n 1, 1) := by decide +kernel
theorem dX4_readThing_16 : decode cX4_readThing 16 = .ok (.invokevirtual 137, 3) := by decide +kernel
theorem dX4_readThing_19 : decode cX4_readThing 19 = .ok (.aload_n 0, 1) := by decide +kernel
theorem dX4_readThing_20 : decode cX4_readThing 20 = .ok (.aload_n 1, 1) := by decide +kernel
theorem dX4_readThing_21 : decode cX4_readThing 21 = .ok (.invokevirtual 140, 3) := by decide +kernel
theorem dX4_readThing_24 : decode cX4_readThing 24 = .ok (.ifCond .ne 5, 3) := by decide +kernel
theorem dX4_readThing_27 : decode cX4_readThing 27 = .ok (.iconst 0, 1) := by decide +kernel
theorem dX4_readThing_28 : decode cX4_readThing 28 = .ok (.ireturn, 1) := by decide +kernel
theorem dX4_readThing_29 : decode cX4_readThing 29 = .ok (.aload_n 0, 1) := by decide +kernel
theorem dX4_readThing_30 : decode cX4_readThing 30 = .ok (.getfield 9, 3) := by decide +kernel
theorem dX4_readThing_33 : decode cX4_readThing 33 = .ok (.aload_n 0, 1) := by decide +kernel
theorem dX4_readThing_34 : decode cX4_readThing 34 = .ok (.getfield 47, 3) := by decide +kernel
theorem dX4_readThing_37 : decode cX4_readThing 37 = .ok (.aload_n 1, 1) := by decide +kernel
theorem dX4_readThing_38 : decode cX4_readThing 38 = .ok (.getfield 143, 3) := by decide +kernel
theorem dX4_readThing_41 : decode cX4_readThing 41 = .ok (.lastore, 1) := by decide +kernel
theorem dX4_readThing_42 : decode cX4_readThing 42 = .ok (.aload_n 1, 1) := by decide +kernel
theorem dX4_readThing_43 : decode cX4_readThing 43 = .ok (.invokevirtual 137, 3) := by decide +kernel
theorem dX4_readThing_46 : decode cX4_readThing 46 = .ok (.aload_n 1, 1) := by decide +kernel
theorem dX4_readThing_47 : decode cX4_readThing 47 = .ok (.iconst 1, 1) := by decide +kernel
theorem dX4_readThing_48 : decode cX4_readThing 48 = .ok (.bipush 9, 2) := by decide +kernel
theorem dX4_readThing_50 : decode cX4_readThing 50 = .ok (.invokevirtual 147, 3) := by decide +kernel
theorem dX4_readThing_53 : decode cX4_readThing 53 = .ok (.istore_n 2, 1) := by decide +kernel
theorem dX4_readThing_54 : decode cX4_readThing 54 = .ok (.iload_n 2, 1) := by decide +kernel
theorem dX4_readThing_55 : decode cX4_readThing 55 = .ok (.iconst (-1), 1) := by decide +kernel
theorem dX4_readThing_56 : decode cX4_readThing 56 = .ok (.if_icmp .ne 5, 3) := by decide +kernel
theorem dX4_readThing_59 : decode cX4_readThing 59 = .ok (.iconst 0, 1) := by decide +kernel
theorem dX4_readThing_60 : decode cX4_readThing 60 = .ok (.ireturn, 1) := by decide +kernel
theorem dX4_readThing_61 : decode cX4_readThing 61 = .ok (.aload_n 1, 1) := by decide +kernel
theorem dX4_readThing_62 : decode cX4_readThing 62 = .ok (.iconst 0, 1) := by decide +kernel
theorem dX4_readThing_63 : decode cX4_readThing 63 = .ok (.bipush 9, 2) := by decide +kernel
theorem dX4_readThing_65 : decode cX4_readThing 65 = .ok (.invokevirtual 147, 3) := by decide +kernel
theorem dX4_readThing_68 : decode cX4_readThing 68 = .ok (.istore_n 3, 1) := by decide +kernel
theorem dX4_readThing_69 : decode cX4_readThing 69 = .ok (.iload_n 3, 1) := by decide +kernel
theorem dX4_readThing_70 : decode cX4_readThing 70 = .ok (.iconst (-1), 1) := by decide +kernel
theorem dX4_readThing_71 : decode cX4_readThing 71 = .ok (.if_icmp .ne 5, 3) := by decide +kernel
theorem dX4_readThing_74 : decode cX4_readThing 74 = .ok (.iconst 0, 1) := by decide +kernel
theorem dX4_readThing_75 : decode cX4_readThing 75 = .ok (.ireturn, 1) := by decide +kernel
theorem dX4_readThing_76 : decode cX4_readThing 76 = .ok (.aload_n 0, 1) := by decide +kernel
theorem dX4_readThing_77 : decode cX4_readThing 77 = .ok (.getfield 15, 3) := by decide +kernel
theorem dX4_readThing_80 : decode cX4_readThing 80 = .ok (.aload_n 0, 1) := by decide +kernel
theorem dX4_readThing_81 : decode cX4_readThing 81 = .ok (.getfield 47, 3) := by decide +kernel
theorem dX4_readThing_84 : decode cX4_readThing 84 = .ok (.iload_n 2, 1) := by decide +kernel
theorem dX4_readThing_85 : decode cX4_readThing 85 = .ok (.iastore, 1) := by decide +kernel
theorem dX4_readThing_86 : decode cX4_readThing 86 = .ok (.aload_n 0, 1) := by decide +kernel
theorem dX4_readThing_87 : decode cX4_readThing 87 = .ok (.getfield 19, 3) := by decide +kernel
theorem dX4_readThing_90 : decode cX4_readThing 90 = .ok (.aload_n 0, 1) := by decide +kernel
theorem dX4_readThing_91 : decode cX4_readThing 91 = .ok (.getfield 47, 3) := by decide +kernel
theorem dX4_readThing_94 : decode cX4_readThing 94 = .ok (.iload_n 3, 1) := by decide +kernel
theorem dX4_readThing_95 : decode cX4_readThing 95 = .ok (.iastore, 1) := by decide +kernel
theorem dX4_readThing_96 : decode cX4_readThing 96 = .ok (.aload_n 0, 1) := by decide +kernel
theorem dX4_readThing_97 : decode cX4_readThing 97 = .ok (.dup, 1) := by decide +kernel
theorem dX4_readThing_98 : decode cX4_readThing 98 = .ok (.getfield 47, 3) := by decide +kernel
theorem dX4_readThing_101 : decode cX4_readThing 101 = .ok (.iconst 1, 1) := by decide +kernel
theorem dX4_readThing_102 : decode cX4_readThing 102 = .ok (.iadd, 1) := by decide +kernel
theorem dX4_readThing_103 : decode cX4_readThing 103 = .ok (.putfield 47, 3) := by decide +kernel
theorem dX4_readThing_106 : decode cX4_readThing 106 = .ok (.iconst 1, 1) := by decide +kernel
theorem dX4_readThing_107 : decode cX4_readThing 107 = .ok (.ireturn, 1) := by decide +kernel
theorem dX4_readPerson_0 : decode cX4_readPerson 0 = .ok (.aload_n 0, 1) := by decide +kernel
theorem dX4_readPerson_1 : decode cX4_readPerson 1 = .ok (.getfield 56, 3) := by decide +kernel
theorem dX4_readPerson_4 : decode cX4_readPerson 4 = .ok (.bipush 6, 2) := by decide +kernel
theorem dX4_readPerson_6 : decode cX4_readPerson 6 = .ok (.if_icmp .lt 9, 3) := by decide +kernel
theorem dX4_readPerson_9 : decode cX4_readPerson 9 = .ok (.aload_n 1, 1) := by decide +kernel
theorem dX4_readPerson_10 : decode cX4_readPerson 10 = .ok (.iconst 4, 1) := by decide +kernel
theorem dX4_readPerson_11 : decode cX4_readPerson 11 = .ok (.invokevirtual 134, 3) := by decide +kernel
theorem dX4_readPerson_14 : decode cX4_readPerson 14 = .ok (.ireturn, 1) := by decide +kernel
theorem dX4_readPerson_15 : decode cX4_readPerson 15 = .ok (.aload_n 1, 1) := by decide +kernel
theorem dX4_readPerson_16 : decode cX4_readPerson 16 = .ok (.invokevirtual 137, 3) := by decide +kernel
theorem dX4_readPerson_19 : decode cX4_readPerson 19 = .ok (.aload_n 0, 1) := by decide +kernel
theorem dX4_readPerson_20 : decode cX4_readPerson 20 = .ok (.aload_n 1, 1) := by decide +kernel
theorem dX4_readPerson_21 : decode cX4_readPerson 21 = .ok (.invokevirtual 140, 3) := by decide +kernel
theorem dX4_readPerson_24 : decode cX4_readPerson 24 = .ok (.ifCond .ne 5, 3) := by decide +kernel
theorem dX4_readPerson_27 : decode cX4_readPerson 27 = .ok (.iconst 0, 1) := by decide +kernel
theorem dX4_readPerson_28 : decode cX4_readPerson 28 = .ok (.ireturn, 1) := by decide +kernel
theorem dX4_readPerson_29 : decode cX4_readPerson 29 = .ok (.aload_n 0, 1) := by decide +kernel
theorem dX4_readPerson_30 : decode cX4_readPerson 30 = .ok (.getfield 22, 3) := by decide +kernel
theorem dX4_readPerson_33 : decode cX4_readPerson 33 = .ok (.aload_n 0, 1) := by decide +kernel
theorem dX4_readPerson_34 : decode cX4_readPerson 34 = .ok (.getfield 56, 3) := by decide +kernel
theorem dX4_readPerson_37 : decode cX4_readPerson 37 = .ok (.aload_n 1, 1) := by decide +kernel
theorem dX4_readPerson_38 : decode cX4_readPerson 38 = .ok (.getfield 143, 3) := by decide +kernel
theorem dX4_readPerson_41 : decode cX4_readPerson 41 = .ok (.lastore, 1) := by decide +kernel
theorem dX4_readPerson_42 : decode cX4_readPerson 42 = .ok (.aload_n 1, 1) := by decide +kernel
theorem dX4_readPerson_43 : decode cX4_readPerson 43 = .ok (.invokevirtual 137, 3) := by decide +kernel
theorem dX4_readPerson_46 : decode cX4_readPerson 46 = .ok (.aload_n 1, 1) := by decide +kernel
theorem dX4_readPerson_47 : decode cX4_readPerson 47 = .ok (.iconst 1, 1) := by decide +kernel
theorem dX4_readPerson_48 : decode cX4_readPerson 48 = .ok (.bipush 99, 2) := by decide +kernel
theorem dX4_readPerson_50 : decode cX4_readPerson 50 = .ok (.invokevirtual 147, 3) := by decide +kernel
theorem dX4_readPerson_53 : decode cX4_readPerson 53 = .ok (.istore_n 2, 1) := by decide +kernel
theorem dX4_readPerson_54 : decode cX4_readPerson 54 = .ok (.iload_n 2, 1) := by decide +kernel
theorem dX4_readPerson_55 : decode cX4_readPerson 55 = .ok (.iconst (-1), 1) := by decide +kernel
theorem dX4_readPerson_56 : decode cX4_readPerson 56 = .ok (.if_icmp .ne 5, 3) := by decide +kernel
theorem dX4_readPerson_59 : decode cX4_readPerson 59 = .ok (.iconst 0, 1) := by decide +kernel
theorem dX4_readPerson_60 : decode cX4_readPerson 60 = .ok (.ireturn, 1) := by decide +kernel
theorem dX4_readPerson_61 : decode cX4_readPerson 61 = .ok (.aload_n 0, 1) := by decide +kernel
theorem dX4_readPerson_62 : decode cX4_readPerson 62 = .ok (.getfield 25, 3) := by decide +kernel
theorem dX4_readPerson_65 : decode cX4_readPerson 65 = .ok (.aload_n 0, 1) := by decide +kernel
theorem dX4_readPerson_66 : decode cX4_readPerson 66 = .ok (.getfield 56, 3) := by decide +kernel
theorem dX4_readPerson_69 : decode cX4_readPerson 69 = .ok (.iload_n 2, 1) := by decide +kernel
theorem dX4_readPerson_70 : decode cX4_readPerson 70 = .ok (.iastore, 1) := by decide +kernel
theorem dX4_readPerson_71 : decode cX4_readPerson 71 = .ok (.aload_n 0, 1) := by decide +kernel
theorem dX4_readPerson_72 : decode cX4_readPerson 72 = .ok (.dup, 1) := by decide +kernel
theorem dX4_readPerson_73 : decode cX4_readPerson 73 = .ok (.getfield 56, 3) := by decide +kernel
theorem dX4_readPerson_76 : decode cX4_readPerson 76 = .ok (.iconst 1, 1) := by decide +kernel
theorem dX4_readPerson_77 : decode cX4_readPerson 77 = .ok (.iadd, 1) := by decide +kernel
theorem dX4_readPerson_78 : decode cX4_readPerson 78 = .ok (.putfield 56, 3) := by decide +kernel
theorem dX4_readPerson_81 : decode cX4_readPerson 81 = .ok (.iconst 1, 1) := by decide +kernel
theorem dX4_readPerson_82 : decode cX4_readPerson 82 = .ok (.ireturn, 1) := by decide +kernel
theorem dX4_readCaught_0 : decode cX4_readCaught 0 = .ok (.aload_n 1, 1) := by decide +kernel
theorem dX4_readCaught_1 : decode cX4_readCaught 1 = .ok (.invokevirtual 137, 3) := by decide +kernel
theorem dX4_readCaught_4 : decode cX4_readCaught 4 = .ok (.aload_n 1, 1) := by decide +kernel
theorem dX4_readCaught_5 : decode cX4_readCaught 5 = .ok (.aload_n 0, 1) := by decide +kernel
theorem dX4_readCaught_6 : decode cX4_readCaught 6 = .ok (.getfield 22, 3) := by decide +kernel
theorem dX4_readCaught_9 : decode cX4_readCaught 9 = .ok (.aload_n 0, 1) := by decide +kernel
theorem dX4_readCaught_10 : decode cX4_readCaught 10 = .ok (.getfield 56, 3) := by decide +kernel
theorem dX4_readCaught_13 : decode cX4_readCaught 13 = .ok (.invokevirtual 151, 3) := by decide +kernel
theorem dX4_readCaught_16 : decode cX4_readCaught 16 = .ok (.istore_n 3, 1) := by decide +kernel
theorem dX4_readCaught_17 : decode cX4_readCaught 17 = .ok (.iload_n 3, 1) := by decide +kernel
theorem dX4_readCaught_18 : decode cX4_readCaught 18 = .ok (.iconst (-1), 1) := by decide +kernel
theorem dX4_readCaught_19 : decode cX4_readCaught 19 = .ok (.if_icmp .ne 5, 3) := by decide +kernel
theorem dX4_readCaught_22 : decode cX4_readCaught 22 = .ok (.iconst 0, 1) := by decide +kernel
theorem dX4_readCaught_23 : decode cX4_readCaught 23 = .ok (.ireturn, 1) := by decide +kernel
theorem dX4_readCaught_24 : decode cX4_readCaught 24 = .ok (.aload_n 2, 1) := by decide +kernel
theorem dX4_readCaught_25 : decode cX4_readCaught 25 = .ok (.iload_n 3, 1) := by decide +kernel
theorem dX4_readCaught_26 : decode cX4_readCaught 26 = .ok (.invokevirtual 155, 3) := by decide +kernel
theorem dX4_readCaught_29 : decode cX4_readCaught 29 = .ok (.ifCond .eq 9, 3) := by decide +kernel
theorem dX4_readCaught_32 : decode cX4_readCaught 32 = .ok (.aload_n 1, 1) := by decide +kernel
theorem dX4_readCaught_33 : decode cX4_readCaught 33 = .ok (.iconst 4, 1) := by decide +kernel
theorem dX4_readCaught_34 : decode cX4_readCaught 34 = .ok (.invokevirtual 134, 3) := by decide +kernel
theorem dX4_readCaught_37 : decode cX4_readCaught 37 = .ok (.ireturn, 1) := by decide +kernel
theorem dX4_readCaught_38 : decode cX4_readCaught 38 = .ok (.aload_n 1, 1) := by decide +kernel
theorem dX4_readCaught_39 : decode cX4_readCaught 39 = .ok (.invokevirtual 137, 3) := by decide +kernel
theorem dX4_readCaught_42 : decode cX4_readCaught 42 = .ok (.aload_n 1, 1) := by decide +kernel
theorem dX4_readCaught_43 : decode cX4_readCaught 43 = .ok (.aload_n 0, 1) := by decide +kernel
theorem dX4_readCaught_44 : decode cX4_readCaught 44 = .ok (.getfield 9, 3) := by decide +kernel
theorem dX4_readCaught_47 : decode cX4_readCaught 47 = .ok (.aload_n 0, 1) := by decide +kernel
theorem dX4_readCaught_48 : decode cX4_readCaught 48 = .ok (.getfield 47, 3) := by decide +kernel
theorem dX4_readCaught_51 : decode cX4_readCaught 51 = .ok (.invokevirtual 158, 3) := by decide +kernel
theorem dX4_readCaught_54 : decode cX4_readCaught 54 = .ok (.istore 4, 2) := by decide +kernel
theorem dX4_readCaught_56 : decode cX4_readCaught 56 = .ok (.iload 4, 2) := by decide +kernel
theorem dX4_readCaught_58 : decode cX4_readCaught 58 = .ok (.iconst (-1), 1) := by decide +kernel
theorem dX4_readCaught_59 : decode cX4_readCaught 59 = .ok (.if_icmp .ne 5, 3) := by decide +kernel
theorem dX4_readCaught_62 : decode cX4_readCaught 62 = .ok (.iconst 0, 1) := by decide +kernel
theorem dX4_readCaught_63 : decode cX4_readCaught 63 = .ok (.ireturn, 1) := by decide +kernel
theorem dX4_readCaught_64 : decode cX4_readCaught 64 = .ok (.aload_n 2, 1) := by decide +kernel
theorem dX4_readCaught_65 : decode cX4_readCaught 65 = .ok (.iload_n 3, 1) := by decide +kernel
theorem dX4_readCaught_66 : decode cX4_readCaught 66 = .ok (.iload 4, 2) := by decide +kernel
theorem dX4_readCaught_68 : decode cX4_readCaught 68 = .ok (.invokevirtual 161, 3) := by decide +kernel
theorem dX4_readCaught_71 : decode cX4_readCaught 71 = .ok (.iconst 1, 1) := by decide +kernel
theorem dX4_readCaught_72 : decode cX4_readCaught 72 = .ok (.ireturn, 1) := by decide +kernel
theorem dX4_readDaily_0 : decode cX4_readDaily 0 = .ok (.aload_n 0, 1) := by decide +kernel
theorem dX4_readDaily_1 : decode cX4_readDaily 1 = .ok (.getfield 59, 3) := by decide +kernel
theorem dX4_readDaily_4 : decode cX4_readDaily 4 = .ok (.bipush 12, 2) := by decide +kernel
theorem dX4_readDaily_6 : decode cX4_readDaily 6 = .ok (.if_icmp .lt 9, 3) := by decide +kernel
theorem dX4_readDaily_9 : decode cX4_readDaily 9 = .ok (.aload_n 1, 1) := by decide +kernel
theorem dX4_readDaily_10 : decode cX4_readDaily 10 = .ok (.iconst 4, 1) := by decide +kernel
theorem dX4_readDaily_11 : decode cX4_readDaily 11 = .ok (.invokevirtual 134, 3) := by decide +kernel
theorem dX4_readDaily_14 : decode cX4_readDaily 14 = .ok (.ireturn, 1) := by decide +kernel
theorem dX4_readDaily_15 : decode cX4_readDaily 15 = .ok (.aload_n 1, 1) := by decide +kernel
theorem dX4_readDaily_16 : decode cX4_readDaily 16 = .ok (.invokevirtual 137, 3) := by decide +kernel
theorem dX4_readDaily_19 : decode cX4_readDaily 19 = .ok (.aload_n 1, 1) := by decide +kernel
theorem dX4_readDaily_20 : decode cX4_readDaily 20 = .ok (.aload_n 0, 1) := by decide +kernel
theorem dX4_readDaily_21 : decode cX4_readDaily 21 = .ok (.getfield 22, 3) := by decide +kernel
theorem dX4_readDaily_24 : decode cX4_readDaily 24 = .ok (.aload_n 0, 1) := by decide +kernel
theorem dX4_readDaily_25 : decode cX4_readDaily 25 = .ok (.getfield 56, 3) := by decide +kernel
theorem dX4_readDaily_28 : decode cX4_readDaily 28 = .ok (.invokevirtual 158, 3) := by decide +kernel
theorem dX4_readDaily_31 : decode cX4_readDaily 31 = .ok (.istore_n 2, 1) := by decide +kernel
theorem dX4_readDaily_32 : decode cX4_readDaily 32 = .ok (.iload_n 2, 1) := by decide +kernel
theorem dX4_readDaily_33 : decode cX4_readDaily 33 = .ok (.iconst (-1), 1) := by decide +kernel
theorem dX4_readDaily_34 : decode cX4_readDaily 34 = .ok (.if_icmp .ne 5, 3) := by decide +kernel
theorem dX4_readDaily_37 : decode cX4_readDaily 37 = .ok (.iconst 0, 1) := by decide +kernel
theorem dX4_readDaily_38 : decode cX4_readDaily 38 = .ok (.ireturn, 1) := by decide +kernel
theorem dX4_readDaily_39 : decode cX4_readDaily 39 = .ok (.aload_n 1, 1) := by decide +kernel
theorem dX4_readDaily_40 : decode cX4_readDaily 40 = .ok (.aload_n 0, 1) := by decide +kernel
theorem dX4_readDaily_41 : decode cX4_readDaily 41 = .ok (.getfield 9, 3) := by decide +kernel
theorem dX4_readDaily_44 : decode cX4_readDaily 44 = .ok (.aload_n 0, 1) := by decide +kernel
theorem dX4_readDaily_45 : decode cX4_readDaily 45 = .ok (.getfield 47, 3) := by decide +kernel
theorem dX4_readDaily_48 : decode cX4_readDaily 48 = .ok (.invokevirtual 158, 3) := by decide +kernel
theorem dX4_readDaily_51 : decode cX4_readDaily 51 = .ok (.istore_n 3, 1) := by decide +kernel
theorem dX4_readDaily_52 : decode cX4_readDaily 52 = .ok (.iload_n 3, 1) := by decide +kernel
theorem dX4_readDaily_53 : decode cX4_readDaily 53 = .ok (.iconst (-1), 1) := by decide +kernel
theorem dX4_readDaily_54 : decode cX4_readDaily 54 = .ok (.if_icmp .ne 5, 3) := by decide +kernel
theorem dX4_readDaily_57 : decode cX4_readDaily 57 = .ok (.iconst 0, 1) := by decide +kernel
theorem dX4_readDaily_58 : decode cX4_readDaily 58 = .ok (.ireturn, 1) := by decide +kernel
theorem dX4_readDaily_59 : decode cX4_readDaily 59 = .ok (.aload_n 1, 1) := by decide +kernel
theorem dX4_readDaily_60 : decode cX4_readDaily 60 = .ok (.iconst 1, 1) := by decide +kernel
theorem dX4_readDaily_61 : decode cX4_readDaily 61 = .ok (.bipush 9, 2) := by decide +kernel
theorem dX4_readDaily_63 : decode cX4_readDaily 63 = .ok (.invokevirtual 147, 3) := by decide +kernel
theorem dX4_readDaily_66 : decode cX4_readDaily 66 = .ok (.istore 4, 2) := by decide +kernel
theorem dX4_readDaily_68 : decode cX4_readDaily 68 = .ok (.iload 4, 2) := by decide +kernel
theorem dX4_readDaily_70 : decode cX4_readDaily 70 = .ok (.iconst (-1), 1) := by decide +kernel
theorem dX4_readDaily_71 : decode cX4_readDaily 71 = .ok (.if_icmp .ne 5, 3) := by decide +kernel
theorem dX4_readDaily_74 : decode cX4_readDaily 74 = .ok (.iconst 0, 1) := by decide +kernel
theorem dX4_readDaily_75 : decode cX4_readDaily 75 = .ok (.ireturn, 1) := by decide +kernel
theorem dX4_readDaily_76 : decode cX4_readDaily 76 = .ok (.aload_n 0, 1) := by decide +kernel
theorem dX4_readDaily_77 : decode cX4_readDaily 77 = .ok (.getfield 28, 3) := by decide +kernel
theorem dX4_readDaily_80 : decode cX4_readDaily 80 = .ok (.aload_n 0, 1) := by decide +kernel
theorem dX4_readDaily_81 : decode cX4_readDaily 81 = .ok (.getfield 59, 3) := by decide +kernel
theorem dX4_readDaily_84 : decode cX4_readDaily 84 = .ok (.iload_n 2, 1) := by decide +kernel
theorem dX4_readDaily_85 : decode cX4_readDaily 85 = .ok (.iastore, 1) := by decide +kernel
theorem dX4_readDaily_86 : decode cX4_readDaily 86 = .ok (.aload_n 0, 1) := by decide +kernel
theorem dX4_readDaily_87 : decode cX4_readDaily 87 = .ok (.getfield 31, 3) := by decide +kernel
theorem dX4_readDaily_90 : decode cX4_readDaily 90 = .ok (.aload_n 0, 1) := by decide +kernel
theorem dX4_readDaily_91 : decode cX4_readDaily 91 = .ok (.getfield 59, 3) := by decide +kernel
theorem dX4_readDaily_94 : decode cX4_readDaily 94 = .ok (.iload_n 3, 1) := by decide +kernel
theorem dX4_readDaily_95 : decode cX4_readDaily 95 = .ok (.iastore, 1) := by decide +kernel
theorem dX4_readDaily_96 : decode cX4_readDaily 96 = .ok (.aload_n 0, 1) := by decide +kernel
theorem dX4_readDaily_97 : decode cX4_readDaily 97 = .ok (.getfield 34, 3) := by decide +kernel
theorem dX4_readDaily_100 : decode cX4_readDaily 100 = .ok (.aload_n 0, 1) := by decide +kernel
theorem dX4_readDaily_101 : decode cX4_readDaily 101 = .ok (.getfield 59, 3) := by decide +kernel
theorem dX4_readDaily_104 : decode cX4_readDaily 104 = .ok (.iload 4, 2) := by decide +kernel
theorem dX4_readDaily_106 : decode cX4_readDaily 106 = .ok (.iastore, 1) := by decide +kernel
theorem dX4_readDaily_107 : decode cX4_readDaily 107 = .ok (.aload_n 0, 1) := by decide +kernel
theorem dX4_readDaily_108 : decode cX4_readDaily 108 = .ok (.dup, 1) := by decide +kernel
theorem dX4_readDaily_109 : decode cX4_readDaily 109 = .ok (.getfield 59, 3) := by decide +kernel
theorem dX4_readDaily_112 : decode cX4_readDaily 112 = .ok (.iconst 1, 1) := by decide +kernel
theorem dX4_readDaily_113 : decode cX4_readDaily 113 = .ok (.iadd, 1) := by decide +kernel
theorem dX4_readDaily_114 : decode cX4_readDaily 114 = .ok (.putfield 59, 3) := by decide +kernel
theorem dX4_readDaily_117 : decode cX4_readDaily 117 = .ok (.iconst 1, 1) := by decide +kernel
theorem dX4_readDaily_118 : decode cX4_readDaily 118 = .ok (.ireturn, 1) := by decide +kernel
theorem dX4_readBed_0 : decode cX4_readBed 0 = .ok (.aload_n 0, 1) := by decide +kernel
theorem dX4_readBed_1 : decode cX4_readBed 1 = .ok (.getfield 62, 3) := by decide +kernel
theorem dX4_readBed_4 : decode cX4_readBed 4 = .ok (.iconst 4, 1) := by decide +kernel
theorem dX4_readBed_5 : decode cX4_readBed 5 = .ok (.if_icmp .lt 9, 3) := by decide +kernel
theorem dX4_readBed_8 : decode cX4_readBed 8 = .ok (.aload_n 1, 1) := by decide +kernel
theorem dX4_readBed_9 : decode cX4_readBed 9 = .ok (.iconst 4, 1) := by decide +kernel
theorem dX4_readBed_10 : decode cX4_readBed 10 = .ok (.invokevirtual 134, 3) := by decide +kernel
theorem dX4_readBed_13 : decode cX4_readBed 13 = .ok (.ireturn, 1) := by decide +kernel
theorem dX4_readBed_14 : decode cX4_readBed 14 = .ok (.aload_n 1, 1) := by decide +kernel
theorem dX4_readBed_15 : decode cX4_readBed 15 = .ok (.invokevirtual 137, 3) := by decide +kernel
theorem dX4_readBed_18 : decode cX4_readBed 18 = .ok (.aload_n 0, 1) := by decide +kernel
theorem dX4_readBed_19 : decode cX4_readBed 19 = .ok (.aload_n 1, 1) := by decide +kernel
theorem dX4_readBed_20 : decode cX4_readBed 20 = .ok (.invokevirtual 140, 3) := by decide +kernel
theorem dX4_readBed_23 : decode cX4_readBed 23 = .ok (.ifCond .ne 5, 3) := by decide +kernel
theorem dX4_readBed_26 : decode cX4_readBed 26 = .ok (.iconst 0, 1) := by decide +kernel
theorem dX4_readBed_27 : decode cX4_readBed 27 = .ok (.ireturn, 1) := by decide +kernel
theorem dX4_readBed_28 : decode cX4_readBed 28 = .ok (.aload_n 0, 1) := by decide +kernel
theorem dX4_readBed_29 : decode cX4_readBed 29 = .ok (.getfield 37, 3) := by decide +kernel
theorem dX4_readBed_32 : decode cX4_readBed 32 = .ok (.aload_n 0, 1) := by decide +kernel
theorem dX4_readBed_33 : decode cX4_readBed 33 = .ok (.getfield 62, 3) := by decide +kernel
theorem dX4_readBed_36 : decode cX4_readBed 36 = .ok (.aload_n 1, 1) := by decide +kernel
theorem dX4_readBed_37 : decode cX4_readBed 37 = .ok (.getfield 143, 3) := by decide +kernel
theorem dX4_readBed_40 : decode cX4_readBed 40 = .ok (.lastore, 1) := by decide +kernel
theorem dX4_readBed_41 : decode cX4_readBed 41 = .ok (.aload_n 1, 1) := by decide +kernel
theorem dX4_readBed_42 : decode cX4_readBed 42 = .ok (.invokevirtual 137, 3) := by decide +kernel
theorem dX4_readBed_45 : decode cX4_readBed 45 = .ok (.aload_n 1, 1) := by decide +kernel
theorem dX4_readBed_46 : decode cX4_readBed 46 = .ok (.iconst 1, 1) := by decide +kernel
theorem dX4_readBed_47 : decode cX4_readBed 47 = .ok (.bipush 99, 2) := by decide +kernel
theorem dX4_readBed_49 : decode cX4_readBed 49 = .ok (.invokevirtual 147, 3) := by decide +kernel
theorem dX4_readBed_52 : decode cX4_readBed 52 = .ok (.istore_n 2, 1) := by decide +kernel
theorem dX4_readBed_53 : decode cX4_readBed 53 = .ok (.iload_n 2, 1) := by decide +kernel
theorem dX4_readBed_54 : decode cX4_readBed 54 = .ok (.iconst (-1), 1) := by decide +kernel
theorem dX4_readBed_55 : decode cX4_readBed 55 = .ok (.if_icmp .ne 5, 3) := by decide +kernel
theorem dX4_readBed_58 : decode cX4_readBed 58 = .ok (.iconst 0, 1) := by decide +kernel
theorem dX4_readBed_59 : decode cX4_readBed 59 = .ok (.ireturn, 1) := by decide +kernel
theorem dX4_readBed_60 : decode cX4_readBed 60 = .ok (.aload_n 0, 1) := by decide +kernel
theorem dX4_readBed_61 : decode cX4_readBed 61 = .ok (.getfield 40, 3) := by decide +kernel
theorem dX4_readBed_64 : decode cX4_readBed 64 = .ok (.aload_n 0, 1) := by decide +kernel
theorem dX4_readBed_65 : decode cX4_readBed 65 = .ok (.getfield 62, 3) := by decide +kernel
theorem dX4_readBed_68 : decode cX4_readBed 68 = .ok (.iload_n 2, 1) := by decide +kernel
theorem dX4_readBed_69 : decode cX4_readBed 69 = .ok (.iastore, 1) := by decide +kernel
theorem dX4_readBed_70 : decode cX4_readBed 70 = .ok (.aload_n 0, 1) := by decide +kernel
theorem dX4_readBed_71 : decode cX4_readBed 71 = .ok (.dup, 1) := by decide +kernel
theorem dX4_readBed_72 : decode cX4_readBed 72 = .ok (.getfield 62, 3) := by decide +kernel
theorem dX4_readBed_75 : decode cX4_readBed 75 = .ok (.iconst 1, 1) := by decide +kernel
theorem dX4_readBed_76 : decode cX4_readBed 76 = .ok (.iadd, 1) := by decide +kernel
theorem dX4_readBed_77 : decode cX4_readBed 77 = .ok (.putfield 62, 3) := by decide +kernel
theorem dX4_readBed_80 : decode cX4_readBed 80 = .ok (.iconst 1, 1) := by decide +kernel
theorem dX4_readBed_81 : decode cX4_readBed 81 = .ok (.ireturn, 1) := by decide +kernel
theorem dX4_readComb_0 : decode cX4_readComb 0 = .ok (.aload_n 0, 1) := by decide +kernel
theorem dX4_readComb_1 : decode cX4_readComb 1 = .ok (.getfield 65, 3) := by decide +kernel
theorem dX4_readComb_4 : decode cX4_readComb 4 = .ok (.ifCond .eq 9, 3) := by decide +kernel
theorem dX4_readComb_7 : decode cX4_readComb 7 = .ok (.aload_n 1, 1) := by decide +kernel
theorem dX4_readComb_8 : decode cX4_readComb 8 = .ok (.iconst 3, 1) := by decide +kernel
theorem dX4_readComb_9 : decode cX4_readComb 9 = .ok (.invokevirtual 134, 3) := by decide +kernel
theorem dX4_readComb_12 : decode cX4_readComb 12 = .ok (.ireturn, 1) := by decide +kernel
theorem dX4_readComb_13 : decode cX4_readComb 13 = .ok (.aload_n 1, 1) := by decide +kernel
theorem dX4_readComb_14 : decode cX4_readComb 14 = .ok (.invokevirtual 137, 3) := by decide +kernel
theorem dX4_readComb_17 : decode cX4_readComb 17 = .ok (.aload_n 1, 1) := by decide +kernel
theorem dX4_readComb_18 : decode cX4_readComb 18 = .ok (.iconst 1, 1) := by decide +kernel
theorem dX4_readComb_19 : decode cX4_readComb 19 = .ok (.bipush 20, 2) := by decide +kernel
theorem dX4_readComb_21 : decode cX4_readComb 21 = .ok (.invokevirtual 147, 3) := by decide +kernel
theorem dX4_readComb_24 : decode cX4_readComb 24 = .ok (.istore_n 2, 1) := by decide +kernel
theorem dX4_readComb_25 : decode cX4_readComb 25 = .ok (.iload_n 2, 1) := by decide +kernel
theorem dX4_readComb_26 : decode cX4_readComb 26 = .ok (.iconst (-1), 1) := by decide +kernel
theorem dX4_readComb_27 : decode cX4_readComb 27 = .ok (.if_icmp .ne 5, 3) := by decide +kernel
theorem dX4_readComb_30 : decode cX4_readComb 30 = .ok (.iconst 0, 1) := by decide +kernel
theorem dX4_readComb_31 : decode cX4_readComb 31 = .ok (.ireturn, 1) := by decide +kernel
theorem dX4_readComb_32 : decode cX4_readComb 32 = .ok (.aload_n 0, 1) := by decide +kernel
theorem dX4_readComb_33 : decode cX4_readComb 33 = .ok (.iload_n 2, 1) := by decide +kernel
theorem dX4_readComb_34 : decode cX4_readComb 34 = .ok (.putfield 43, 3) := by decide +kernel
theorem dX4_readComb_37 : decode cX4_readComb 37 = .ok (.aload_n 0, 1) := by decide +kernel
theorem dX4_readComb_38 : decode cX4_readComb 38 = .ok (.iconst 1, 1) := by decide +kernel
theorem dX4_readComb_39 : decode cX4_readComb 39 = .ok (.putfield 65, 3) := by decide +kernel
theorem dX4_readComb_42 : decode cX4_readComb 42 = .ok (.iconst 1, 1) := by decide +kernel
theorem dX4_readComb_43 : decode cX4_readComb 43 = .ok (.ireturn, 1) := by decide +kernel
theorem dX4_isNewName_0 : decode cX4_isNewName 0 = .ok (.aload_n 1, 1) := by decide +kernel
theorem dX4_isNewName_1 : decode cX4_isNewName 1 = .ok (.invokevirtual 165, 3) := by decide +kernel
theorem dX4_isNewName_4 : decode cX4_isNewName 4 = .ok (.ifCond .ne 9, 3) := by decide +kernel
theorem dX4_isNewName_7 : decode cX4_isNewName 7 = .ok (.aload_n 1, 1) := by decide +kernel
theorem dX4_isNewName_8 : decode cX4_isNewName 8 = .ok (.iconst 1, 1) := by decide +kernel
theorem dX4_isNewName_9 : decode cX4_isNewName 9 = .ok (.invokevirtual 134, 3) := by decide +kernel
theorem dX4_isNewName_12 : decode cX4_isNewName 12 = .ok (.ireturn, 1) := by decide +kernel
theorem dX4_isNewName_13 : decode cX4_isNewName 13 = .ok (.aload_n 1, 1) := by decide +kernel
theorem dX4_isNewName_14 : decode cX4_isNewName 14 = .ok (.aload_n 0, 1) := by decide +kernel
theorem dX4_isNewName_15 : decode cX4_isNewName 15 = .ok (.getfield 9, 3) := by decide +kernel
theorem dX4_isNewName_18 : decode cX4_isNewName 18 = .ok (.aload_n 0, 1) := by decide +kernel
theorem dX4_isNewName_19 : decode cX4_isNewName 19 = .ok (.getfield 47, 3) := by decide +kernel
theorem dX4_isNewName_22 : decode cX4_isNewName 22 = .ok (.invokevirtual 169, 3) := by decide +kernel
theorem dX4_isNewName_25 : decode cX4_isNewName 25 = .ok (.iconst (-1), 1) := by decide +kernel
theorem dX4_isNewName_26 : decode cX4_isNewName 26 = .ok (.if_icmp .ne 35, 3) := by decide +kernel
theorem dX4_isNewName_29 : decode cX4_isNewName 29 = .ok (.aload_n 1, 1) := by decide +kernel
theorem dX4_isNewName_30 : decode cX4_isNewName 30 = .ok (.aload_n 0, 1) := by decide +kernel
theorem dX4_isNewName_31 : decode cX4_isNewName 31 = .ok (.getfield 22, 3) := by decide +kernel
theorem dX4_isNewName_34 : decode cX4_isNewName 34 = .ok (.aload_n 0, 1) := by decide +kernel
theorem dX4_isNewName_35 : decode cX4_isNewName 35 = .ok (.getfield 56, 3) := by decide +kernel
theorem dX4_isNewName_38 : decode cX4_isNewName 38 = .ok (.invokevirtual 169, 3) := by decide +kernel
theorem dX4_isNewName_41 : decode cX4_isNewName 41 = .ok (.iconst (-1), 1) := by decide +kernel
theorem dX4_isNewName_42 : decode cX4_isNewName 42 = .ok (.if_icmp .ne 19, 3) := by decide +kernel
theorem dX4_isNewName_45 : decode cX4_isNewName 45 = .ok (.aload_n 1, 1) := by decide +kernel
theorem dX4_isNewName_46 : decode cX4_isNewName 46 = .ok (.aload_n 0, 1) := by decide +kernel
theorem dX4_isNewName_47 : decode cX4_isNewName 47 = .ok (.getfield 37, 3) := by decide +kernel
theorem dX4_isNewName_50 : decode cX4_isNewName 50 = .ok (.aload_n 0, 1) := by decide +kernel
theorem dX4_isNewName_51 : decode cX4_isNewName 51 = .ok (.getfield 62, 3) := by decide +kernel
theorem dX4_isNewName_54 : decode cX4_isNewName 54 = .ok (.invokevirtual 169, 3) := by decide +kernel
theorem dX4_isNewName_57 : decode cX4_isNewName 57 = .ok (.iconst (-1), 1) := by decide +kernel
theorem dX4_isNewName_58 : decode cX4_isNewName 58 = .ok (.if_icmp .eq 9, 3) := by decide +kernel
theorem dX4_isNewName_61 : decode cX4_isNewName 61 = .ok (.aload_n 1, 1) := by decide +kernel
theorem dX4_isNewName_62 : decode cX4_isNewName 62 = .ok (.iconst 3, 1) := by decide +kernel
theorem dX4_isNewName_63 : decode cX4_isNewName 63 = .ok (.invokevirtual 134, 3) := by decide +kernel
theorem dX4_isNewName_66 : decode cX4_isNewName 66 = .ok (.ireturn, 1) := by decide +kernel
theorem dX4_isNewName_67 : decode cX4_isNewName 67 = .ok (.iconst 1, 1) := by decide +kernel
theorem dX4_isNewName_68 : decode cX4_isNewName 68 = .ok (.ireturn, 1) := by decide +kernel
theorem dX4_catchesOn_0 : decode cX4_catchesOn 0 = .ok (.aload_n 0, 1) := by decide +kernel
theorem dX4_catchesOn_1 : decode cX4_catchesOn 1 = .ok (.getfield 34, 3) := by decide +kernel
theorem dX4_catchesOn_4 : decode cX4_catchesOn 4 = .ok (.iload_n 1, 1) := by decide +kernel
theorem dX4_catchesOn_5 : decode cX4_catchesOn 5 = .ok (.iaload, 1) := by decide +kernel
theorem dX4_catchesOn_6 : decode cX4_catchesOn 6 = .ok (.istore_n 3, 1) := by decide +kernel
theorem dX4_catchesOn_7 : decode cX4_catchesOn 7 = .ok (.iload_n 3, 1) := by decide +kernel
theorem dX4_catchesOn_8 : decode cX4_catchesOn 8 = .ok (.ifCond .le 13, 3) := by decide +kernel
theorem dX4_catchesOn_11 : decode cX4_catchesOn 11 = .ok (.iload_n 2, 1) := by decide +kernel
theorem dX4_catchesOn_12 : decode cX4_catchesOn 12 = .ok (.iload_n 3, 1) := by decide +kernel
theorem dX4_catchesOn_13 : decode cX4_catchesOn 13 = .ok (.irem, 1) := by decide +kernel
theorem dX4_catchesOn_14 : decode cX4_catchesOn 14 = .ok (.ifCond .ne 7, 3) := by decide +kernel
theorem dX4_catchesOn_17 : decode cX4_catchesOn 17 = .ok (.iconst 1, 1) := by decide +kernel
theorem dX4_catchesOn_18 : decode cX4_catchesOn 18 = .ok (.goto 4, 3) := by decide +kernel
theorem dX4_catchesOn_21 : decode cX4_catchesOn 21 = .ok (.iconst 0, 1) := by decide +kernel
theorem dX4_catchesOn_22 : decode cX4_catchesOn 22 = .ok (.ireturn, 1) := by decide +kernel
theorem dX5_init_0 : decode cX5_init 0 = .ok (.aload_n 0, 1) := by decide +kernel
theorem dX5_init_1 : decode cX5_init 1 = .ok (.invokespecial 5, 3) := by decide +kernel
theorem dX5_init_4 : decode cX5_init 4 = .ok (.aload_n 0, 1) := by decide +kernel
theorem dX5_init_5 : decode cX5_init 5 = .ok (.bipush 40, 2) := by decide +kernel
theorem dX5_init_7 : decode cX5_init 7 = .ok (.anewarray 11, 3) := by decide +kernel
theorem dX5_init_10 : decode cX5_init 10 = .ok (.putfield 13, 3) := by decide +kernel
theorem dX5_init_13 : decode cX5_init 13 = .ok (.aload_n 0, 1) := by decide +kernel
theorem dX5_init_14 : decode cX5_init 14 = .ok (.bipush 40, 2) := by decide +kernel
theorem dX5_init_16 : decode cX5_init 16 = .ok (.newarray .int, 2) := by decide +kernel
theorem dX5_init_18 : decode cX5_init 18 = .ok (.putfield 17, 3) := by decide +kernel
theorem dX5_init_21 : decode cX5_init 21 = .ok (.aload_n 0, 1) := by decide +kernel
theorem dX5_init_22 : decode cX5_init 22 = .ok (.bipush 40, 2) := by decide +kernel
theorem dX5_init_24 : decode cX5_init 24 = .ok (.newarray .int, 2) := by decide +kernel
theorem dX5_init_26 : decode cX5_init 26 = .ok (.putfield 21, 3) := by decide +kernel
theorem dX5_init_29 : decode cX5_init 29 = .ok (.return_, 1) := by decide +kernel
theorem dX5_forget_0 : decode cX5_forget 0 = .ok (.aload_n 0, 1) := by decide +kernel
theorem dX5_forget_1 : decode cX5_forget 1 = .ok (.iconst 0, 1) := by decide +kernel
theorem dX5_forget_2 : decode cX5_forget 2 = .ok (.putfield 24, 3) := by decide +kernel
theorem dX5_forget_5 : decode cX5_forget 5 = .ok (.aload_n 0, 1) := by decide +kernel
theorem dX5_forget_6 : decode cX5_forget 6 = .ok (.iconst 0, 1) := by decide +kernel
theorem dX5_forget_7 : decode cX5_forget 7 = .ok (.putfield 28, 3) := by decide +kernel
theorem dX5_forget_10 : decode cX5_forget 10 = .ok (.return_, 1) := by decide +kernel
theorem dX5_copyFrom_0 : decode cX5_copyFrom 0 = .ok (.iconst 0, 1) := by decide +kernel
theorem dX5_copyFrom_1 : decode cX5_copyFrom 1 = .ok (.istore_n 2, 1) := by decide +kernel
theorem dX5_copyFrom_2 : decode cX5_copyFrom 2 = .ok (.iload_n 2, 1) := by decide +kernel
theorem dX5_copyFrom_3 : decode cX5_copyFrom 3 = .ok (.bipush 40, 2) := by decide +kernel
theorem dX5_copyFrom_5 : decode cX5_copyFrom 5 = .ok (.if_icmp .ge 21, 3) := by decide +kernel
theorem dX5_copyFrom_8 : decode cX5_copyFrom 8 = .ok (.aload_n 0, 1) := by decide +kernel
theorem dX5_copyFrom_9 : decode cX5_copyFrom 9 = .ok (.getfield 13, 3) := by decide +kernel
theorem dX5_copyFrom_12 : decode cX5_copyFrom 12 = .ok (.iload_n 2, 1) := by decide +kernel
theorem dX5_copyFrom_13 : decode cX5_copyFrom 13 = .ok (.aload_n 1, 1) := by decide +kernel
theorem dX5_copyFrom_14 : decode cX5_copyFrom 14 = .ok (.getfield 13, 3) := by decide +kernel
theorem dX5_copyFrom_17 : decode cX5_copyFrom 17 = .ok (.iload_n 2, 1) := by decide +kernel
theorem dX5_copyFrom_18 : decode cX5_copyFrom 18 = .ok (.aaload, 1) := by decide +kernel
theorem dX5_copyFrom_19 : decode cX5_copyFrom 19 = .ok (.aastore, 1) := by decide +kernel
theorem dX5_copyFrom_20 : decode cX5_copyFrom 20 = .ok (.iinc 2 1, 3) := by decide +kernel
theorem dX5_copyFrom_23 : decode cX5_copyFrom 23 = .ok (.goto (-21), 3) := by decide +kernel
theorem dX5_copyFrom_26 : decode cX5_copyFrom 26 = .ok (.aload_n 1, 1) := by decide +kernel
theorem dX5_copyFrom_27 : decode cX5_copyFrom 27 = .ok (.getfield 17, 3) := by decide +kernel
theorem dX5_copyFrom_30 : decode cX5_copyFrom 30 = .ok (.iconst 0, 1) := by decide +kernel
theorem dX5_copyFrom_31 : decode cX5_copyFrom 31 = .ok (.aload_n 0, 1) := by decide +kernel
theorem dX5_copyFrom_32 : decode cX5_copyFrom 32 = .ok (.getfield 17, 3) := by decide +kernel
theorem dX5_copyFrom_35 : decode cX5_copyFrom 35 = .ok (.iconst 0, 1) := by decide +kernel
theorem dX5_copyFrom_36 : decode cX5_copyFrom 36 = .ok (.bipush 40, 2) := by decide +kernel
theorem dX5_copyFrom_38 : decode cX5_copyFrom 38 = .ok (.invokestatic 31, 3) := by decide +kernel
theorem dX5_copyFrom_41 : decode cX5_copyFrom 41 = .ok (.aload_n 1, 1) := by decide +kernel
theorem dX5_copyFrom_42 : decode cX5_copyFrom 42 = .ok (.getfield 21, 3) := by decide +kernel
theorem dX5_copyFrom_45 : decode cX5_copyFrom 45 = .ok (.iconst 0, 1) := by decide +kernel
theorem dX5_copyFrom_46 : decode cX5_copyFrom 46 = .ok (.aload_n 0, 1) := by decide +kernel
theorem dX5_copyFrom_47 : decode cX5_copyFrom 47 = .ok (.getfield 21, 3) := by decide +kernel
theorem dX5_copyFrom_50 : decode cX5_copyFrom 50 = .ok (.iconst 0, 1) := by decide +kernel
theorem dX5_copyFrom_51 : decode cX5_copyFrom 51 = .ok (.bipush 40, 2) := by decide +kernel
theorem dX5_copyFrom_53 : decode cX5_copyFrom 53 = .ok (.invokestatic 31, 3) := by decide +kernel
theorem dX5_copyFrom_56 : decode cX5_copyFrom 56 = .ok (.aload_n 0, 1) := by decide +kernel
theorem dX5_copyFrom_57 : decode cX5_copyFrom 57 = .ok (.aload_n 1, 1) := by decide +kernel
theorem dX5_copyFrom_58 : decode cX5_copyFrom 58 = .ok (.getfield 24, 3) := by decide +kernel
theorem dX5_copyFrom_61 : decode cX5_copyFrom 61 = .ok (.putfield 24, 3) := by decide +kernel
theorem dX5_copyFrom_64 : decode cX5_copyFrom 64 = .ok (.aload_n 0, 1) := by decide +kernel
theorem dX5_copyFrom_65 : decode cX5_copyFrom 65 = .ok (.aload_n 1, 1) := by decide +kernel
theorem dX5_copyFrom_66 : decode cX5_copyFrom 66 = .ok (.getfield 28, 3) := by decide +kernel
theorem dX5_copyFrom_69 : decode cX5_copyFrom 69 = .ok (.putfield 28, 3) := by decide +kernel
theorem dX5_copyFrom_72 : decode cX5_copyFrom 72 = .ok (.return_, 1) := by decide +kernel
theorem dX5_readFrom_0 : decode cX5_readFrom 0 = .ok (.aload_n 0, 1) := by decide +kernel
theorem dX5_readFrom_1 : decode cX5_readFrom 1 = .ok (.invokevirtual 37, 3) := by decide +kernel
theorem dX5_readFrom_4 : decode cX5_readFrom 4 = .ok (.aload_n 1, 1) := by decide +kernel
theorem dX5_readFrom_5 : decode cX5_readFrom 5 = .ok (.sipush 200, 3) := by decide +kernel
theorem dX5_readFrom_8 : decode cX5_readFrom 8 = .ok (.invokevirtual 40, 3) := by decide +kernel
theorem dX5_readFrom_11 : decode cX5_readFrom 11 = .ok (.aload_n 0, 1) := by decide +kernel
theorem dX5_readFrom_12 : decode cX5_readFrom 12 = .ok (.aload_n 1, 1) := by decide +kernel
theorem dX5_readFrom_13 : decode cX5_readFrom 13 = .ok (.aload_n 2, 1) := by decide +kernel
theorem dX5_readFrom_14 : decode cX5_readFrom 14 = .ok (.iconst 1, 1) := by decide +kernel
theorem dX5_readFrom_15 : decode cX5_readFrom 15 = .ok (.invokevirtual 46, 3) := by decide +kernel
theorem dX5_readFrom_18 : decode cX5_readFrom 18 = .ok (.ifCond .eq 16, 3) := by decide +kernel
theorem dX5_readFrom_21 : decode cX5_readFrom 21 = .ok (.aload_n 1, 1) := by decide +kernel
theorem dX5_readFrom_22 : decode cX5_readFrom 22 = .ok (.getfield 50, 3) := by decide +kernel
theorem dX5_readFrom_25 : decode cX5_readFrom 25 = .ok (.ifCond .eq 9, 3) := by decide +kernel
theorem dX5_readFrom_28 : decode cX5_readFrom 28 = .ok (.aload_n 1, 1) := by decide +kernel
theorem dX5_readFrom_29 : decode cX5_readFrom 29 = .ok (.iconst 1, 1) := by decide +kernel
theorem dX5_readFrom_30 : decode cX5_readFrom 30 = .ok (.invokevirtual 53, 3) := by decide +kernel
theorem dX5_readFrom_33 : decode cX5_readFrom 33 = .ok (.pop, 1) := by decide +kernel
theorem dX5_readFrom_34 : decode cX5_readFrom 34 = .ok (.return_, 1) := by decide +kernel
theorem dX5_readCond_0 : decode cX5_readCond 0 = .ok (.aload_n 0, 1) := by decide +kernel
theorem dX5_readCond_1 : decode cX5_readCond 1 = .ok (.aload_n 1, 1) := by decide +kernel
theorem dX5_readCond_2 : decode cX5_readCond 2 = .ok (.aload_n 2, 1) := by decide +kernel
theorem dX5_readCond_3 : decode cX5_readCond 3 = .ok (.iload_n 3, 1) := by decide +kernel
theorem dX5_readCond_4 : decode cX5_readCond 4 = .ok (.invokevirtual 57, 3) := by decide +kernel
theorem dX5_readCond_7 : decode cX5_readCond 7 = .ok (.istore 4, 2) := by decide +kernel
theorem dX5_readCond_9 : decode cX5_readCond 9 = .ok (.iconst 0, 1) := by decide +kernel
theorem dX5_readCond_10 : decode cX5_readCond 10 = .ok (.istore 5, 2) := by decide +kernel
theorem dX5_readCond_12 : decode cX5_readCond 12 = .ok (.iconst 0, 1) := by decide +kernel
theorem dX5_readCond_13 : decode cX5_readCond 13 = .ok (.istore 6, 2) := by decide +kernel
theorem dX5_readCond_15 : decode cX5_readCond 15 = .ok (.iload 6, 2) := by decide +kernel
theorem dX5_readCond_17 : decode cX5_readCond 17 = .ok (.bipush 20, 2) := by decide +kernel
theorem dX5_readCond_19 : decode cX5_readCond 19 = .ok (.if_icmp .ge 114, 3) := by decide +kernel
theorem dX5_readCond_22 : decode cX5_readCond 22 = .ok (.iload 4, 2) := by decide +kernel
theorem dX5_readCond_24 : decode cX5_readCond 24 = .ok (.ifCond .eq 109, 3) := by decide +kernel
theorem dX5_readCond_27 : decode cX5_readCond 27 = .ok (.aload_n 1, 1) := by decide +kernel
theorem dX5_readCond_28 : decode cX5_readCond 28 = .ok (.getfield 60, 3) := by decide +kernel
theorem dX5_readCond_31 : decode cX5_readCond 31 = .ok (.getstatic 64, 3) := by decide +kernel
theorem dX5_readCond_34 : decode cX5_readCond 34 = .ok (.if_acmp .eq 13, 3) := by decide +kernel
theorem dX5_readCond_37 : decode cX5_readCond 37 = .ok (.aload_n 1, 1) := by decide +kernel
theorem dX5_readCond_38 : decode cX5_readCond 38 = .ok (.getfield 60, 3) := by decide +kernel
theorem dX5_readCond_41 : decode cX5_readCond 41 = .ok (.getstatic 67, 3) := by decide +kernel
theorem dX5_readCond_44 : decode cX5_readCond 44 = .ok (.if_acmp .ne 89, 3) := by decide +kernel
theorem dX5_readCond_47 : decode cX5_readCond 47 = .ok (.aload_n 1, 1) := by decide +kernel
theorem dX5_readCond_48 : decode cX5_readCond 48 = .ok (.getfield 60, 3) := by decide +kernel
theorem dX5_readCond_51 : decode cX5_readCond 51 = .ok (.getstatic 64, 3) := by decide +kernel
theorem dX5_readCond_54 : decode cX5_readCond 54 = .ok (.if_acmp .ne 7, 3) := by decide +kernel
theorem dX5_readCond_57 : decode cX5_readCond 57 = .ok (.iconst 1, 1) := by decide +kernel
theorem dX5_readCond_58 : decode cX5_readCond 58 = .ok (.goto 4, 3) := by decide +kernel
theorem dX5_readCond_61 : decode cX5_readCond 61 = .ok (.iconst 0, 1) := by decide +kernel
theorem dX5_readCond_62 : decode cX5_readCond 62 = .ok (.istore 7, 2) := by decide +kernel
theorem dX5_readCond_64 : decode cX5_readCond 64 = .ok (.iload 7, 2) := by decide +kernel
theorem dX5_readCond_66 : decode cX5_readCond 66 = .ok (.ifCond .ne 17, 3) := by decide +kernel
theorem dX5_readCond_69 : decode cX5_readCond 69 = .ok (.iload 5, 2) := by decide +kernel
theorem dX5_readCond_71 : decode cX5_readCond 71 = .ok (.ifCond .eq 12, 3) := by decide +kernel
theorem dX5_readCond_74 : decode cX5_readCond 74 = .ok (.aload_n 0, 1) := by decide +kernel
theorem dX5_readCond_75 : decode cX5_readCond 75 = .ok (.getstatic 67, 3) := by decide +kernel
theorem dX5_readCond_78 : decode cX5_readCond 78 = .ok (.iconst 0, 1) := by decide +kernel
theorem dX5_readCond_79 : decode cX5_readCond 79 = .ok (.iconst 0, 1) := by decide +kernel
theorem dX5_readCond_80 : decode cX5_readCond 80 = .ok (.invokevirtual 70, 3) := by decide +kernel
theorem dX5_readCond_83 : decode cX5_readCond 83 = .ok (.iload 5, 2) := by decide +kernel
theorem dX5_readCond_85 : decode cX5_readCond 85 = .ok (.ifCond .ne 8, 3) := by decide +kernel
theorem dX5_readCond_88 : decode cX5_readCond 88 = .ok (.iload 7, 2) := by decide +kernel
theorem dX5_readCond_90 : decode cX5_readCond 90 = .ok (.ifCond .ne 7, 3) := by decide +kernel
theorem dX5_readCond_93 : decode cX5_readCond 93 = .ok (.iconst 1, 1) := by decide +kernel
theorem dX5_readCond_94 : decode cX5_readCond 94 = .ok (.goto 4, 3) := by decide +kernel
theorem dX5_readCond_97 : decode cX5_readCond 97 = .ok (.iconst 0, 1) := by decide +kernel
theorem dX5_readCond_98 : decode cX5_readCond 98 = .ok (.istore 5, 2) := by decide +kernel
theorem dX5_readCond_100 : decode cX5_readCond 100 = .ok (.aload_n 1, 1) := by decide +kernel
theorem dX5_readCond_101 : decode cX5_readCond 101 = .ok (.invokevirtual 74, 3) := by decide +kernel
theorem dX5_readCond_104 : decode cX5_readCond 104 = .ok (.aload_n 0, 1) := by decide +kernel
theorem dX5_readCond_105 : decode cX5_readCond 105 = .ok (.aload_n 1, 1) := by decide +kernel
theorem dX5_readCond_106 : decode cX5_readCond 106 = .ok (.aload_n 2, 1) := by decide +kernel
theorem dX5_readCond_107 : decode cX5_readCond 107 = .ok (.iload_n 3, 1) := by decide +kernel
theorem dX5_readCond_108 : decode cX5_readCond 108 = .ok (.invokevirtual 57, 3) := by decide +kernel
theorem dX5_readCond_111 : decode cX5_readCond 111 = .ok (.istore 4, 2) := by decide +kernel
theorem dX5_readCond_113 : decode cX5_readCond 113 = .ok (.iload 7, 2) := by decide +kernel
theorem dX5_readCond_115 : decode cX5_readCond 115 = .ok (.ifCond .eq 12, 3) := by decide +kernel
theorem dX5_readCond_118 : decode cX5_readCond 118 = .ok (.aload_n 0, 1) := by decide +kernel
theorem dX5_readCond_119 : decode cX5_readCond 119 = .ok (.getstatic 64, 3) := by decide +kernel
theorem dX5_readCond_122 : decode cX5_readCond 122 = .ok (.iconst 0, 1) := by decide +kernel
theorem dX5_readCond_123 : decode cX5_readCond 123 = .ok (.iconst 0, 1) := by decide +kernel
theorem dX5_readCond_124 : decode cX5_readCond 124 = .ok (.invokevirtual 70, 3) := by decide +kernel
theorem dX5_readCond_127 : decode cX5_readCond 127 = .ok (.iinc 6 1, 3) := by decide +kernel
theorem dX5_readCond_130 : decode cX5_readCond 130 = .ok (.goto (-115), 3) := by decide +kernel
theorem dX5_readCond_133 : decode cX5_readCond 133 = .ok (.iload 5, 2) := by decide +kernel
theorem dX5_readCond_135 : decode cX5_readCond 135 = .ok (.ifCond .eq 12, 3) := by decide +kernel
theorem dX5_readCond_138 : decode cX5_readCond 138 = .ok (.aload_n 0, 1) := by decide +kernel
theorem dX5_readCond_139 : decode cX5_readCond 139 = .ok (.getstatic 67, 3) := by decide +kernel
theorem dX5_readCond_142 : decode cX5_readCond 142 = .ok (.iconst 0, 1) := by decide +kernel
theorem dX5_readCond_143 : decode cX5_readCond 143 = .ok (.iconst 0, 1) := by decide +kernel
theorem dX5_readCond_144 : decode cX5_readCond 144 = .ok (.invokevirtual 70, 3) := by decide +kernel
theorem dX5_readCond_147 : decode cX5_readCond 147 = .ok (.iload 4, 2) := by decide +kernel
theorem dX5_readCond_149 : decode cX5_readCond 149 = .ok (.ireturn, 1) := by decide +kernel
theorem dX5_readOne_0 : decode cX5_readOne 0 = .ok (.aload_n 1, 1) := by decide +kernel
theorem dX5_readOne_1 : decode cX5_readOne 1 = .ok (.getfield 50, 3) := by decide +kernel
theorem dX5_readOne_4 : decode cX5_readOne 4 = .ok (.bipush 40, 2) := by decide +kernel
theorem dX5_readOne_6 : decode cX5_readOne 6 = .ok (.if_icmp .eq 19, 3) := by decide +kernel
theorem dX5_readOne_9 : decode cX5_readOne 9 = .ok (.aload_n 1, 1) := by decide +kernel
theorem dX5_readOne_10 : decode cX5_readOne 10 = .ok (.getfield 60, 3) := by decide +kernel
theorem dX5_readOne_13 : decode cX5_readOne 13 = .ok (.invokestatic 77, 3) := by decide +kernel
theorem dX5_readOne_16 : decode cX5_readOne 16 = .ok (.ifCond .ne 9, 3) := by decide +kernel
theorem dX5_readOne_19 : decode cX5_readOne 19 = .ok (.aload_n 1, 1) := by decide +kernel
theorem dX5_readOne_20 : decode cX5_readOne 20 = .ok (.iconst 1, 1) := by decide +kernel
theorem dX5_readOne_21 : decode cX5_readOne 21 = .ok (.invokevirtual 53, 3) := by decide +kernel
theorem dX5_readOne_24 : decode cX5_readOne 24 = .ok (.ireturn, 1) := by decide +kernel
theorem dX5_readOne_25 : decode cX5_readOne 25 = .ok (.aload_n 0, 1) := by decide +kernel
theorem dX5_readOne_26 : decode cX5_readOne 26 = .ok (.getfield 28, 3) := by decide +kernel
theorem dX5_readOne_29 : decode cX5_readOne 29 = .ok (.bipush 20, 2) := by decide +kernel
theorem dX5_readOne_31 : decode cX5_readOne 31 = .ok (.if_icmp .ge 9, 3) := by decide +kernel
theorem dX5_readOne_34 : decode cX5_readOne 34 = .ok (.iload_n 3, 1) := by decide +kernel
theorem dX5_readOne_35 : decode cX5_readOne 35 = .ok (.bipush 8, 2) := by decide +kernel
theorem dX5_readOne_37 : decode cX5_readOne 37 = .ok (.if_icmp .le 9, 3) := by decide +kernel
theorem dX5_readOne_40 : decode cX5_readOne 40 = .ok (.aload_n 1, 1) := by decide +kernel
theorem dX5_readOne_41 : decode cX5_readOne 41 = .ok (.iconst 4, 1) := by decide +kernel
theorem dX5_readOne_42 : decode cX5_readOne 42 = .ok (.invokevirtual 53, 3) := by decide +kernel
theorem dX5_readOne_45 : decode cX5_readOne 45 = .ok (.ireturn, 1) := by decide +kernel
theorem dX5_readOne_46 : decode cX5_readOne 46 = .ok (.aload_n 0, 1) := by decide +kernel
theorem dX5_readOne_47 : decode cX5_readOne 47 = .ok (.dup, 1) := by decide +kernel
theorem dX5_readOne_48 : decode cX5_readOne 48 = .ok (.getfield 28, 3) := by decide +kernel
theorem dX5_readOne_51 : decode cX5_readOne 51 = .ok (.iconst 1, 1) := by decide +kernel
theorem dX5_readOne_52 : decode cX5_readOne 52 = .ok (.iadd, 1) := by decide +kernel
theorem dX5_readOne_53 : decode cX5_readOne 53 = .ok (.putfield 28, 3) := by decide +kernel
theorem dX5_readOne_56 : decode cX5_readOne 56 = .ok (.aload_n 1, 1) := by decide +kernel
theorem dX5_readOne_57 : decode cX5_readOne 57 = .ok (.getfield 50, 3) := by decide +kernel
theorem dX5_readOne_60 : decode cX5_readOne 60 = .ok (.bipush 40, 2) := by decide +kernel
theorem dX5_readOne_62 : decode cX5_readOne 62 = .ok (.if_icmp .ne 7, 3) := by decide +kernel
theorem dX5_readOne_65 : decode cX5_readOne 65 = .ok (.iconst 1, 1) := by decide +kernel
theorem dX5_readOne_66 : decode cX5_readOne 66 = .ok (.goto 4, 3) := by decide +kernel
theorem dX5_readOne_69 : decode cX5_readOne 69 = .ok (.iconst 0, 1) := by decide +kernel
theorem dX5_readOne_70 : decode cX5_readOne 70 = .ok (.istore 4, 2) := by decide +kernel
theorem dX5_readOne_72 : decode cX5_readOne 72 = .ok (.aload_n 1, 1) := by decide +kernel
theorem dX5_readOne_73 : decode cX5_readOne 73 = .ok (.getfield 60, 3) := by decide +kernel
theorem dX5_readOne_76 : decode cX5_readOne 76 = .ok (.astore 5, 2) := by decide +kernel
theorem dX5_readOne_78 : decode cX5_readOne 78 = .ok (.aload_n 1, 1) := by decide +kernel
theorem dX5_readOne_79 : decode cX5_readOne 79 = .ok (.invokevirtual 74, 3) := by decide +kernel
theorem dX5_readOne_82 : decode cX5_readOne 82 = .ok (.iload 4, 2) := by decide +kernel
theorem dX5_readOne_84 : decode cX5_readOne 84 = .ok (.ifCond .eq 30, 3) := by decide +kernel
theorem dX5_readOne_87 : decode cX5_readOne 87 = .ok (.aload_n 0, 1) := by decide +kernel
theorem dX5_readOne_88 : decode cX5_readOne 88 = .ok (.aload_n 1, 1) := by decide +kernel
theorem dX5_readOne_89 : decode cX5_readOne 89 = .ok (.aload_n 2, 1) := by decide +kernel
theorem dX5_readOne_90 : decode cX5_readOne 90 = .ok (.iload_n 3, 1) := by decide +kernel
theorem dX5_readOne_91 : decode cX5_readOne 91 = .ok (.iconst 1, 1) := by decide +kernel
theorem dX5_readOne_92 : decode cX5_readOne 92 = .ok (.iadd, 1) := by decide +kernel
theorem dX5_readOne_93 : decode cX5_readOne 93 = .ok (.invokevirtual 46, 3) := by decide +kernel
theorem dX5_readOne_96 : decode cX5_readOne 96 = .ok (.ifCond .eq 16, 3) := by decide +kernel
theorem dX5_readOne_99 : decode cX5_readOne 99 = .ok (.aload_n 1, 1) := by decide +kernel
theorem dX5_readOne_100 : decode cX5_readOne 100 = .ok (.bipush 41, 2) := by decide +kernel
theorem dX5_readOne_102 : decode cX5_readOne 102 = .ok (.invokevirtual 81, 3) := by decide +kernel
theorem dX5_readOne_105 : decode cX5_readOne 105 = .ok (.ifCond .eq 7, 3) := by decide +kernel
theorem dX5_readOne_108 : decode cX5_readOne 108 = .ok (.iconst 1, 1) := by decide +kernel
theorem dX5_readOne_109 : decode cX5_readOne 109 = .ok (.goto 4, 3) := by decide +kernel
theorem dX5_readOne_112 : decode cX5_readOne 112 = .ok (.iconst 0, 1) := by decide +kernel
theorem dX5_readOne_113 : decode cX5_readOne 113 = .ok (.ireturn, 1) := by decide +kernel
theorem dX5_readOne_114 : decode cX5_readOne 114 = .ok (.aload 5, 2) := by decide +kernel
theorem dX5_readOne_116 : decode cX5_readOne 116 = .ok (.getstatic 84, 3) := by decide +kernel
theorem dX5_readOne_119 : decode cX5_readOne 119 = .ok (.if_acmp .ne 26, 3) := by decide +kernel
theorem dX5_readOne_122 : decode cX5_readOne 122 = .ok (.aload_n 0, 1) := by decide +kernel
theorem dX5_readOne_123 : decode cX5_readOne 123 = .ok (.aload_n 1, 1) := by decide +kernel
theorem dX5_readOne_124 : decode cX5_readOne 124 = .ok (.aload_n 2, 1) := by decide +kernel
theorem dX5_readOne_125 : decode cX5_readOne 125 = .ok (.iload_n 3, 1) := by decide +kernel
theorem dX5_readOne_126 : decode cX5_readOne 126 = .ok (.iconst 1, 1) := by decide +kernel
theorem dX5_readOne_127 : decode cX5_readOne 127 = .ok (.iadd, 1) := by decide +kernel
theorem dX5_readOne_128 : decode cX5_readOne 128 = .ok (.invokevirtual 57, 3) := by decide +kernel
theorem dX5_readOne_131 : decode cX5_readOne 131 = .ok (.istore 6, 2) := by decide +kernel
theorem dX5_readOne_133 : decode cX5_readOne 133 = .ok (.aload_n 0, 1) := by decide +kernel
theorem dX5_readOne_134 : decode cX5_readOne 134 = .ok (.getstatic 84, 3) := by decide +kernel
theorem dX5_readOne_137 : decode cX5_readOne 137 = .ok (.iconst 0, 1) := by decide +kernel
theorem dX5_readOne_138 : decode cX5_readOne 138 = .ok (.iconst 0, 1) := by decide +kernel
theorem dX5_readOne_139 : decode cX5_readOne 139 = .ok (.invokevirtual 70, 3) := by decide +kernel
theorem dX5_readOne_142 : decode cX5_readOne 142 = .ok (.iload 6, 2) := by decide +kernel
theorem dX5_readOne_144 : decode cX5_readOne 144 = .ok (.ireturn, 1) := by decide +kernel
theorem dX5_readOne_145 : decode cX5_readOne 145 = .ok (.aload_n 0, 1) := by decide +kernel
theorem dX5_readOne_146 : decode cX5_readOne 146 = .ok (.aload_n 1, 1) := by decide +kernel
theorem dX5_readOne_147 : decode cX5_readOne 147 = .ok (.aload_n 2, 1) := by decide +kernel
theorem dX5_readOne_148 : decode cX5_readOne 148 = .ok (.aload 5, 2) := by decide +kernel
theorem dX5_readOne_150 : decode cX5_readOne 150 = .ok (.invokevirtual 87, 3) := by decide +kernel
theorem dX5_readOne_153 : decode cX5_readOne 153 = .ok (.ireturn, 1) := by decide +kernel
theorem dX5_beginsOne_0 : decode cX5_beginsOne 0 = .ok (.aload_n 0, 1) := by decide +kernel
theorem dX5_beginsOne_1 : decode cX5_beginsOne 1 = .ok (.getstatic 84, 3) := by decide +kernel
theorem dX5_beginsOne_4 : decode cX5_beginsOne 4 = .ok (.if_acmp .eq 45, 3) := by decide +kernel
theorem dX5_beginsOne_7 : decode cX5_beginsOne 7 = .ok (.aload_n 0, 1) := by decide +kernel
theorem dX5_beginsOne_8 : decode cX5_beginsOne 8 = .ok (.getstatic 91, 3) := by decide +kernel
theorem dX5_beginsOne_11 : decode cX5_beginsOne 11 = .ok (.if_acmp .eq 38, 3) := by decide +kernel
theorem dX5_beginsOne_14 : decode cX5_beginsOne 14 = .ok (.aload_n 0, 1) := by decide +kernel
theorem dX5_beginsOne_15 : decode cX5_beginsOne 15 = .ok (.getstatic 94, 3) := by decide +kernel
theorem dX5_beginsOne_18 : decode cX5_beginsOne 18 = .ok (.if_acmp .eq 31, 3) := by decide +kernel
theorem dX5_beginsOne_21 : decode cX5_beginsOne 21 = .ok (.aload_n 0, 1) := by decide +kernel
theorem dX5_beginsOne_22 : decode cX5_beginsOne 22 = .ok (.getstatic 97, 3) := by decide +kernel
theorem dX5_beginsOne_25 : decode cX5_beginsOne 25 = .ok (.if_acmp .eq 24, 3) := by decide +kernel
theorem dX5_beginsOne_28 : decode cX5_beginsOne 28 = .ok (.aload_n 0, 1) := by decide +kernel
theorem dX5_beginsOne_29 : decode cX5_beginsOne 29 = .ok (.getstatic 100, 3) := by decide +kernel
theorem dX5_beginsOne_32 : decode cX5_beginsOne 32 = .ok (.if_acmp .eq 17, 3) := by decide +kernel
theorem dX5_beginsOne_35 : decode cX5_beginsOne 35 = .ok (.aload_n 0, 1) := by decide +kernel
theorem dX5_beginsOne_36 : decode cX5_beginsOne 36 = .ok (.getstatic 103, 3) := by decide +kernel
theorem dX5_beginsOne_39 : decode cX5_beginsOne 39 = .ok (.if_acmp .eq 10, 3) := by decide +kernel
theorem dX5_beginsOne_42 : decode cX5_beginsOne 42 = .ok (.aload_n 0, 1) := by decide +kernel
theorem dX5_beginsOne_43 : decode cX5_beginsOne 43 = .ok (.invokestatic 106, 3) := by decide +kernel
theorem dX5_beginsOne_46 : decode cX5_beginsOne 46 = .ok (.ifCond .eq 7, 3) := by decide +kernel
theorem dX5_beginsOne_49 : decode cX5_beginsOne 49 = .ok (.iconst 1, 1) := by decide +kernel
theorem dX5_beginsOne_50 : decode cX5_beginsOne 50 = .ok (.goto 4, 3) := by decide +kernel
theorem dX5_beginsOne_53 : decode cX5_beginsOne 53 = .ok (.iconst 0, 1) := by decide +kernel
theorem dX5_beginsOne_54 : decode cX5_beginsOne 54 = .ok (.ireturn, 1) := by decide +kernel
theorem dX5_isMeasured_0 : decode cX5_isMeasured 0 = .ok (.aload_n 0, 1) := by decide +kernel
theorem dX5_isMeasured_1 : decode cX5_isMeasured 1 = .ok (.getstatic 109, 3) := by decide +kernel
theorem dX5_isMeasured_4 : decode cX5_isMeasured 4 = .ok (.if_acmp .eq 24, 3) := by decide +kernel
theorem dX5_isMeasured_7 : decode cX5_isMeasured 7 = .ok (.aload_n 0, 1) := by decide +kernel
theorem dX5_isMeasured_8 : decode cX5_isMeasured 8 = .ok (.getstatic 112, 3) := by decide +kernel
theorem dX5_isMeasured_11 : decode cX5_isMeasured 11 = .ok (.if_acmp .eq 17, 3) := by decide +kernel
theorem dX5_isMeasured_14 : decode cX5_isMeasured 14 = .ok (.aload_n 0, 1) := by decide +kernel
theorem dX5_isMeasured_15 : decode cX5_isMeasured 15 = .ok (.getstatic 115, 3) := by decide +kernel
theorem dX5_isMeasured_18 : decode cX5_isMeasured 18 = .ok (.if_acmp .eq 10, 3) := by decide +kernel
theorem dX5_isMeasured_21 : decode cX5_isMeasured 21 = .ok (.aload_n 0, 1) := by decide +kernel
theorem dX5_isMeasured_22 : decode cX5_isMeasured 22 = .ok (.getstatic 118, 3) := by decide +kernel
theorem dX5_isMeasured_25 : decode cX5_isMeasured 25 = .ok (.if_acmp .ne 7, 3) := by decide +kernel
theorem dX5_isMeasured_28 : decode cX5_isMeasured 28 = .ok (.iconst 1, 1) := by decide +kernel
theorem dX5_isMeasured_29 : decode cX5_isMeasured 29 = .ok (.goto 4, 3) := by decide +kernel
theorem dX5_isMeasured_32 : decode cX5_isMeasured 32 = .ok (.iconst 0, 1) := by decide +kernel
theorem dX5_isMeasured_33 : decode cX5_isMeasured 33 = .ok (.ireturn, 1) := by decide +kernel
theorem dX5_readPlain_0 : decode cX5_readPlain 0 = .ok (.aload_n 3, 1) := by decide +kernel
theorem dX5_readPlain_1 : decode cX5_readPlain 1 = .ok (.getstatic 100, 3) := by decide +kernel
theorem dX5_readPlain_4 : decode cX5_readPlain 4 = .ok (.if_acmp .ne 37, 3) := by decide +kernel
theorem dX5_readPlain_7 : decode cX5_readPlain 7 = .ok (.aload_n 1, 1) := by decide +kernel
theorem dX5_readPlain_8 : decode cX5_readPlain 8 = .ok (.aload_n 2, 1) := by decide +kernel
theorem dX5_readPlain_9 : decode cX5_readPlain 9 = .ok (.getfield 121, 3) := by decide +kernel
theorem dX5_readPlain_12 : decode cX5_readPlain 12 = .ok (.aload_n 2, 1) := by decide +kernel
theorem dX5_readPlain_13 : decode cX5_readPlain 13 = .ok (.getfield 127, 3) := by decide +kernel
theorem dX5_readPlain_16 : decode cX5_readPlain 16 = .ok (.invokevirtual 130, 3) := by decide +kernel
theorem dX5_readPlain_19 : decode cX5_readPlain 19 = .ok (.istore 4, 2) := by decide +kernel
theorem dX5_readPlain_21 : decode cX5_readPlain 21 = .ok (.aload_n 0, 1) := by decide +kernel
theorem dX5_readPlain_22 : decode cX5_readPlain 22 = .ok (.aload_n 3, 1) := by decide +kernel
theorem dX5_readPlain_23 : decode cX5_readPlain 23 = .ok (.iconst 0, 1) := by decide +kernel
theorem dX5_readPlain_24 : decode cX5_readPlain 24 = .ok (.iload 4, 2) := by decide +kernel
theorem dX5_readPlain_26 : decode cX5_readPlain 26 = .ok (.invokevirtual 70, 3) := by decide +kernel
theorem dX5_readPlain_29 : decode cX5_readPlain 29 = .ok (.iload 4, 2) := by decide +kernel
theorem dX5_readPlain_31 : decode cX5_readPlain 31 = .ok (.iconst (-1), 1) := by decide +kernel
theorem dX5_readPlain_32 : decode cX5_readPlain 32 = .ok (.if_icmp .eq 7, 3) := by decide +kernel
theorem dX5_readPlain_35 : decode cX5_readPlain 35 = .ok (.iconst 1, 1) := by decide +kernel
theorem dX5_readPlain_36 : decode cX5_readPlain 36 = .ok (.goto 4, 3) := by decide +kernel
theorem dX5_readPlain_39 : decode cX5_readPlain 39 = .ok (.iconst 0, 1) := by decide +kernel
theorem dX5_readPlain_40 : decode cX5_readPlain 40 = .ok (.ireturn, 1) := by decide +kernel
theorem dX5_readPlain_41 : decode cX5_readPlain 41 = .ok (.aload_n 3, 1) := by decide +kernel
theorem dX5_readPlain_42 : decode cX5_readPlain 42 = .ok (.getstatic 103, 3) := by decide +kernel
theorem dX5_readPlain_45 : decode cX5_readPlain 45 = .ok (.if_acmp .ne 37, 3) := by decide +kernel
theorem dX5_readPlain_48 : decode cX5_readPlain 48 = .ok (.aload_n 1, 1) := by decide +kernel
theorem dX5_readPlain_49 : decode cX5_readPlain 49 = .ok (.aload_n 2, 1) := by decide +kernel
theorem dX5_readPlain_50 : decode cX5_readPlain 50 = .ok (.getfield 134, 3) := by decide +kernel
theorem dX5_readPlain_53 : decode cX5_readPlain 53 = .ok (.aload_n 2, 1) := by decide +kernel
theorem dX5_readPlain_54 : decode cX5_readPlain 54 = .ok (.getfield 137, 3) := by decide +kernel
theorem dX5_readPlain_57 : decode cX5_readPlain 57 = .ok (.invokevirtual 130, 3) := by decide +kernel
theorem dX5_readPlain_60 : decode cX5_readPlain 60 = .ok (.istore 4, 2) := by decide +kernel
theorem dX5_readPlain_62 : decode cX5_readPlain 62 = .ok (.aload_n 0, 1) := by decide +kernel
theorem dX5_readPlain_63 : decode cX5_readPlain 63 = .ok (.aload_n 3, 1) := by decide +kernel
theorem dX5_readPlain_64 : decode cX5_readPlain 64 = .ok (.iconst 0, 1) := by decide +kernel
theorem dX5_readPlain_65 : decode cX5_readPlain 65 = .ok (.iload 4, 2) := by decide +kernel
theorem dX5_readPlain_67 : decode cX5_readPlain 67 = .ok (.invokevirtual 70, 3) := by decide +kernel
theorem dX5_readPlain_70 : decode cX5_readPlain 70 = .ok (.iload 4, 2) := by decide +kernel
theorem dX5_readPlain_72 : decode cX5_readPlain 72 = .ok (.iconst (-1), 1) := by decide +kernel
theorem dX5_readPlain_73 : decode cX5_readPlain 73 = .ok (.if_icmp .eq 7, 3) := by decide +kernel
theorem dX5_readPlain_76 : decode cX5_readPlain 76 = .ok (.iconst 1, 1) := by decide +kernel
theorem dX5_readPlain_77 : decode cX5_readPlain 77 = .ok (.goto 4, 3) := by decide +kernel
theorem dX5_readPlain_80 : decode cX5_readPlain 80 = .ok (.iconst 0, 1) := by decide +kernel
theorem dX5_readPlain_81 : decode cX5_readPlain 81 = .ok (.ireturn, 1) := by decide +kernel
theorem dX5_readPlain_82 : decode cX5_readPlain 82 = .ok (.aload_n 3, 1) := by decide +kernel
theorem dX5_readPlain_83 : decode cX5_readPlain 83 = .ok (.invokestatic 106, 3) := by decide +kernel
theorem dX5_readPlain_86 : decode cX5_readPlain 86 = .ok (.ifCond .ne 12, 3) := by decide +kernel
theorem dX5_readPlain_89 : decode cX5_readPlain 89 = .ok (.aload_n 0, 1) := by decide +kernel
theorem dX5_readPlain_90 : decode cX5_readPlain 90 = .ok (.aload_n 3, 1) := by decide +kernel
theorem dX5_readPlain_91 : decode cX5_readPlain 91 = .ok (.iconst 0, 1) := by decide +kernel
theorem dX5_readPlain_92 : decode cX5_readPlain 92 = .ok (.iconst 0, 1) := by decide +kernel
theorem dX5_readPlain_93 : decode cX5_readPlain 93 = .ok (.invokevirtual 70, 3) := by decide +kernel
theorem dX5_readPlain_96 : decode cX5_readPlain 96 = .ok (.iconst 1, 1) := by decide +kernel
theorem dX5_readPlain_97 : decode cX5_readPlain 97 = .ok (.ireturn, 1) := by decide +kernel
theorem dX5_readPlain_98 : decode cX5_readPlain 98 = .ok (.aload_n 1, 1) := by decide +kernel
theorem dX5_readPlain_99 : decode cX5_readPlain 99 = .ok (.getfield 50, 3) := by decide +kernel
theorem dX5_readPlain_102 : decode cX5_readPlain 102 = .ok (.istore 4, 2) := by decide +kernel
theorem dX5_readPlain_104 : decode cX5_readPlain 104 = .ok (.iload 4, 2) := by decide +kernel
theorem dX5_readPlain_106 : decode cX5_readPlain 106 = .ok (.bipush 60, 2) := by decide +kernel
theorem dX5_readPlain_108 : decode cX5_readPlain 108 = .ok (.if_icmp .eq 23, 3) := by decide +kernel
theorem dX5_readPlain_111 : decode cX5_readPlain 111 = .ok (.iload 4, 2) := by decide +kernel
theorem dX5_readPlain_113 : decode cX5_readPlain 113 = .ok (.bipush 61, 2) := by decide +kernel
theorem dX5_readPlain_115 : decode cX5_readPlain 115 = .ok (.if_icmp .eq 16, 3) := by decide +kernel
theorem dX5_readPlain_118 : decode cX5_readPlain 118 = .ok (.iload 4, 2) := by decide +kernel
theorem dX5_readPlain_120 : decode cX5_readPlain 120 = .ok (.bipush 62, 2) := by decide +kernel
theorem dX5_readPlain_122 : decode cX5_readPlain 122 = .ok (.if_icmp .eq 9, 3) := by decide +kernel
theorem dX5_readPlain_125 : decode cX5_readPlain 125 = .ok (.aload_n 1, 1) := by decide +kernel
theorem dX5_readPlain_126 : decode cX5_readPlain 126 = .ok (.iconst 1, 1) := by decide +kernel
theorem dX5_readPlain_127 : decode cX5_readPlain 127 = .ok (.invokevirtual 53, 3) := by decide +kernel
theorem dX5_readPlain_130 : decode cX5_readPlain 130 = .ok (.ireturn, 1) := by decide +kernel
theorem dX5_readPlain_131 : decode cX5_readPlain 131 = .ok (.aload_n 1, 1) := by decide +kernel
theorem dX5_readPlain_132 : decode cX5_readPlain 132 = .ok (.invokevirtual 74, 3) := by decide +kernel
theorem dX5_readPlain_135 : decode cX5_readPlain 135 = .ok (.aload_n 1, 1) := by decide +kernel
theorem dX5_readPlain_136 : decode cX5_readPlain 136 = .ok (.iconst 0, 1) := by decide +kernel
theorem dX5_readPlain_137 : decode cX5_readPlain 137 = .ok (.sipush 999, 3) := by decide +kernel
theorem dX5_readPlain_140 : decode cX5_readPlain 140 = .ok (.invokevirtual 140, 3) := by decide +kernel
theorem dX5_readPlain_143 : decode cX5_readPlain 143 = .ok (.istore 5, 2) := by decide +kernel
theorem dX5_readPlain_145 : decode cX5_readPlain 145 = .ok (.aload_n 0, 1) := by decide +kernel
theorem dX5_readPlain_146 : decode cX5_readPlain 146 = .ok (.aload_n 3, 1) := by decide +kernel
theorem dX5_readPlain_147 : decode cX5_readPlain 147 = .ok (.iload 4, 2) := by decide +kernel
theorem dX5_readPlain_149 : decode cX5_readPlain 149 = .ok (.iload 5, 2) := by decide +kernel
theorem dX5_readPlain_151 : decode cX5_readPlain 151 = .ok (.invokevirtual 70, 3) := by decide +kernel
theorem dX5_readPlain_154 : decode cX5_readPlain 154 = .ok (.iload 5, 2) := by decide +kernel
theorem dX5_readPlain_156 : decode cX5_readPlain 156 = .ok (.iconst (-1), 1) := by decide +kernel
theorem dX5_readPlain_157 : decode cX5_readPlain 157 = .ok (.if_icmp .eq 7, 3) := by decide +kernel
theorem dX5_readPlain_160 : decode cX5_readPlain 160 = .ok (.iconst 1, 1) := by decide +kernel
theorem dX5_readPlain_161 : decode cX5_readPlain 161 = .ok (.goto 4, 3) := by decide +kernel
theorem dX5_readPlain_164 : decode cX5_readPlain 164 = .ok (.iconst 0, 1) := by decide +kernel
theorem dX5_readPlain_165 : decode cX5_readPlain 165 = .ok (.ireturn, 1) := by decide +kernel
theorem dX5_addStep_0 : decode cX5_addStep 0 = .ok (.aload_n 0, 1) := by decide +kernel
theorem dX5_addStep_1 : decode cX5_addStep 1 = .ok (.getfield 24, 3) := by decide +kernel
theorem dX5_addStep_4 : decode cX5_addStep 4 = .ok (.bipush 40, 2) := by decide +kernel
theorem dX5_addStep_6 : decode cX5_addStep 6 = .ok (.if_icmp .ge 43, 3) := by decide +kernel
theorem dX5_addStep_9 : decode cX5_addStep 9 = .ok (.aload_n 0, 1) := by decide +kernel
theorem dX5_addStep_10 : decode cX5_addStep 10 = .ok (.getfield 13, 3) := by decide +kernel
theorem dX5_addStep_13 : decode cX5_addStep 13 = .ok (.aload_n 0, 1) := by decide +kernel
theorem dX5_addStep_14 : decode cX5_addStep 14 = .ok (.getfield 24, 3) := by decide +kernel
theorem dX5_addStep_17 : decode cX5_addStep 17 = .ok (.aload_n 1, 1) := by decide +kernel
theorem dX5_addStep_18 : decode cX5_addStep 18 = .ok (.aastore, 1) := by decide +kernel
theorem dX5_addStep_19 : decode cX5_addStep 19 = .ok (.aload_n 0, 1) := by decide +kernel
theorem dX5_addStep_20 : decode cX5_addStep 20 = .ok (.getfield 17, 3) := by decide +kernel
theorem dX5_addStep_23 : decode cX5_addStep 23 = .ok (.aload_n 0, 1) := by decide +kernel
theorem dX5_addStep_24 : decode cX5_addStep 24 = .ok (.getfield 24, 3) := by decide +kernel
theorem dX5_addStep_27 : decode cX5_addStep 27 = .ok (.iload_n 2, 1) := by decide +kernel
theorem dX5_addStep_28 : decode cX5_addStep 28 = .ok (.iastore, 1) := by decide +kernel
theorem dX5_addStep_29 : decode cX5_addStep 29 = .ok (.aload_n 0, 1) := by decide +kernel
theorem dX5_addStep_30 : decode cX5_addStep 30 = .ok (.getfield 21, 3) := by decide +kernel
theorem dX5_addStep_33 : decode cX5_addStep 33 = .ok (.aload_n 0, 1) := by decide +kernel
theorem dX5_addStep_34 : decode cX5_addStep 34 = .ok (.getfield 24, 3) := by decide +kernel
theorem dX5_addStep_37 : decode cX5_addStep 37 = .ok (.iload_n 3, 1) := by decide +kernel
theorem dX5_addStep_38 : decode cX5_addStep 38 = .ok (.iastore, 1) := by decide +kernel
theorem dX5_addStep_39 : decode cX5_addStep 39 = .ok (.aload_n 0, 1) := by decide +kernel
theorem dX5_addStep_40 : decode cX5_addStep 40 = .ok (.dup, 1) := by decide +kernel
theorem dX5_addStep_41 : decode cX5_addStep 41 = .ok (.getfield 24, 3) := by decide +kernel
theorem dX5_addStep_44 : decode cX5_addStep 44 = .ok (.iconst 1, 1) := by decide +kernel
theorem dX5_addStep_45 : decode cX5_addStep 45 = .ok (.iadd, 1) := by decide +kernel
theorem dX5_addStep_46 : decode cX5_addStep 46 = .ok (.putfield 24, 3) := by decide +kernel
theorem dX5_addStep_49 : decode cX5_addStep 49 = .ok (.return_, 1) := by decide +kernel
