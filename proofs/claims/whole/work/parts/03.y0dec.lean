theorem dX8_scanRun_0 : decode cX8_scanRun 0 = .ok (.iconst 0, 1) := by decide +kernel
theorem dX8_scanRun_1 : decode cX8_scanRun 1 = .ok (.istore_n 1, 1) := by decide +kernel
theorem dX8_scanRun_2 : decode cX8_scanRun 2 = .ok (.iconst 0, 1) := by decide +kernel
theorem dX8_scanRun_3 : decode cX8_scanRun 3 = .ok (.istore_n 2, 1) := by decide +kernel
theorem dX8_scanRun_4 : decode cX8_scanRun 4 = .ok (.aload_n 0, 1) := by decide +kernel
theorem dX8_scanRun_5 : decode cX8_scanRun 5 = .ok (.lconst 0, 1) := by decide +kernel
theorem dX8_scanRun_6 : decode cX8_scanRun 6 = .ok (.putfield 53, 3) := by decide +kernel
theorem dX8_scanRun_9 : decode cX8_scanRun 9 = .ok (.aload_n 0, 1) := by decide +kernel
theorem dX8_scanRun_10 : decode cX8_scanRun 10 = .ok (.iconst 0, 1) := by decide +kernel
theorem dX8_scanRun_11 : decode cX8_scanRun 11 = .ok (.putfield 67, 3) := by decide +kernel
theorem dX8_scanRun_14 : decode cX8_scanRun 14 = .ok (.aload_n 0, 1) := by decide +kernel
theorem dX8_scanRun_15 : decode cX8_scanRun 15 = .ok (.getfield 22, 3) := by decide +kernel
theorem dX8_scanRun_18 : decode cX8_scanRun 18 = .ok (.aload_n 0, 1) := by decide +kernel
theorem dX8_scanRun_19 : decode cX8_scanRun 19 = .ok (.getfield 15, 3) := by decide +kernel
theorem dX8_scanRun_22 : decode cX8_scanRun 22 = .ok (.if_icmp .ge 89, 3) := by decide +kernel
theorem dX8_scanRun_25 : decode cX8_scanRun 25 = .ok (.aload_n 0, 1) := by decide +kernel
theorem dX8_scanRun_26 : decode cX8_scanRun 26 = .ok (.getfield 11, 3) := by decide +kernel
theorem dX8_scanRun_29 : decode cX8_scanRun 29 = .ok (.aload_n 0, 1) := by decide +kernel
theorem dX8_scanRun_30 : decode cX8_scanRun 30 = .ok (.getfield 22, 3) := by decide +kernel
theorem dX8_scanRun_33 : decode cX8_scanRun 33 = .ok (.iaload, 1) := by decide +kernel
theorem dX8_scanRun_34 : decode cX8_scanRun 34 = .ok (.istore_n 3, 1) := by decide +kernel
theorem dX8_scanRun_35 : decode cX8_scanRun 35 = .ok (.iload_n 3, 1) := by decide +kernel
theorem dX8_scanRun_36 : decode cX8_scanRun 36 = .ok (.bipush 97, 2) := by decide +kernel
theorem dX8_scanRun_38 : decode cX8_scanRun 38 = .ok (.if_icmp .lt 29, 3) := by decide +kernel
theorem dX8_scanRun_41 : decode cX8_scanRun 41 = .ok (.iload_n 3, 1) := by decide +kernel
theorem dX8_scanRun_42 : decode cX8_scanRun 42 = .ok (.bipush 122, 2) := by decide +kernel
theorem dX8_scanRun_44 : decode cX8_scanRun 44 = .ok (.if_icmp .gt 23, 3) := by decide +kernel
theorem dX8_scanRun_47 : decode cX8_scanRun 47 = .ok (.iinc 1 1, 3) := by decide +kernel
theorem dX8_scanRun_50 : decode cX8_scanRun 50 = .ok (.aload_n 0, 1) := by decide +kernel
theorem dX8_scanRun_51 : decode cX8_scanRun 51 = .ok (.aload_n 0, 1) := by decide +kernel
theorem dX8_scanRun_52 : decode cX8_scanRun 52 = .ok (.getfield 53, 3) := by decide +kernel
theorem dX8_scanRun_55 : decode cX8_scanRun 55 = .ok (.bipush 8, 2) := by decide +kernel
theorem dX8_scanRun_57 : decode cX8_scanRun 57 = .ok (.lshl, 1) := by decide +kernel
theorem dX8_scanRun_58 : decode cX8_scanRun 58 = .ok (.iload_n 3, 1) := by decide +kernel
theorem dX8_scanRun_59 : decode cX8_scanRun 59 = .ok (.i2l, 1) := by decide +kernel
theorem dX8_scanRun_60 : decode cX8_scanRun 60 = .ok (.lor, 1) := by decide +kernel
theorem dX8_scanRun_61 : decode cX8_scanRun 61 = .ok (.putfield 53, 3) := by decide +kernel
theorem dX8_scanRun_64 : decode cX8_scanRun 64 = .ok (.goto 34, 3) := by decide +kernel
theorem dX8_scanRun_67 : decode cX8_scanRun 67 = .ok (.iload_n 3, 1) := by decide +kernel
theorem dX8_scanRun_68 : decode cX8_scanRun 68 = .ok (.bipush 48, 2) := by decide +kernel
theorem dX8_scanRun_70 : decode cX8_scanRun 70 = .ok (.if_icmp .lt 41, 3) := by decide +kernel
theorem dX8_scanRun_73 : decode cX8_scanRun 73 = .ok (.iload_n 3, 1) := by decide +kernel
theorem dX8_scanRun_74 : decode cX8_scanRun 74 = .ok (.bipush 57, 2) := by decide +kernel
theorem dX8_scanRun_76 : decode cX8_scanRun 76 = .ok (.if_icmp .gt 35, 3) := by decide +kernel
theorem dX8_scanRun_79 : decode cX8_scanRun 79 = .ok (.iinc 2 1, 3) := by decide +kernel
theorem dX8_scanRun_82 : decode cX8_scanRun 82 = .ok (.aload_n 0, 1) := by decide +kernel
theorem dX8_scanRun_83 : decode cX8_scanRun 83 = .ok (.aload_n 0, 1) := by decide +kernel
theorem dX8_scanRun_84 : decode cX8_scanRun 84 = .ok (.getfield 67, 3) := by decide +kernel
theorem dX8_scanRun_87 : decode cX8_scanRun 87 = .ok (.bipush 10, 2) := by decide +kernel
theorem dX8_scanRun_89 : decode cX8_scanRun 89 = .ok (.imul, 1) := by decide +kernel
theorem dX8_scanRun_90 : decode cX8_scanRun 90 = .ok (.iload_n 3, 1) := by decide +kernel
theorem dX8_scanRun_91 : decode cX8_scanRun 91 = .ok (.iadd, 1) := by decide +kernel
theorem dX8_scanRun_92 : decode cX8_scanRun 92 = .ok (.bipush 48, 2) := by decide +kernel
theorem dX8_scanRun_94 : decode cX8_scanRun 94 = .ok (.isub, 1) := by decide +kernel
theorem dX8_scanRun_95 : decode cX8_scanRun 95 = .ok (.putfield 67, 3) := by decide +kernel
theorem dX8_scanRun_98 : decode cX8_scanRun 98 = .ok (.aload_n 0, 1) := by decide +kernel
theorem dX8_scanRun_99 : decode cX8_scanRun 99 = .ok (.dup, 1) := by decide +kernel
theorem dX8_scanRun_100 : decode cX8_scanRun 100 = .ok (.getfield 22, 3) := by decide +kernel
theorem dX8_scanRun_103 : decode cX8_scanRun 103 = .ok (.iconst 1, 1) := by decide +kernel
theorem dX8_scanRun_104 : decode cX8_scanRun 104 = .ok (.iadd, 1) := by decide +kernel
theorem dX8_scanRun_105 : decode cX8_scanRun 105 = .ok (.putfield 22, 3) := by decide +kernel
theorem dX8_scanRun_108 : decode cX8_scanRun 108 = .ok (.goto (-94), 3) := by decide +kernel
theorem dX8_scanRun_111 : decode cX8_scanRun 111 = .ok (.aload_n 0, 1) := by decide +kernel
theorem dX8_scanRun_112 : decode cX8_scanRun 112 = .ok (.iconst 1, 1) := by decide +kernel
theorem dX8_scanRun_113 : decode cX8_scanRun 113 = .ok (.putfield 47, 3) := by decide +kernel
theorem dX8_scanRun_116 : decode cX8_scanRun 116 = .ok (.iload_n 2, 1) := by decide +kernel
theorem dX8_scanRun_117 : decode cX8_scanRun 117 = .ok (.ifCond .ne 22, 3) := by decide +kernel
theorem dX8_scanRun_120 : decode cX8_scanRun 120 = .ok (.iload_n 1, 1) := by decide +kernel
theorem dX8_scanRun_121 : decode cX8_scanRun 121 = .ok (.iconst 1, 1) := by decide +kernel
theorem dX8_scanRun_122 : decode cX8_scanRun 122 = .ok (.if_icmp .lt 17, 3) := by decide +kernel
theorem dX8_scanRun_125 : decode cX8_scanRun 125 = .ok (.iload_n 1, 1) := by decide +kernel
theorem dX8_scanRun_126 : decode cX8_scanRun 126 = .ok (.bipush 7, 2) := by decide +kernel
theorem dX8_scanRun_128 : decode cX8_scanRun 128 = .ok (.if_icmp .gt 11, 3) := by decide +kernel
theorem dX8_scanRun_131 : decode cX8_scanRun 131 = .ok (.aload_n 0, 1) := by decide +kernel
theorem dX8_scanRun_132 : decode cX8_scanRun 132 = .ok (.iconst 2, 1) := by decide +kernel
theorem dX8_scanRun_133 : decode cX8_scanRun 133 = .ok (.putfield 47, 3) := by decide +kernel
theorem dX8_scanRun_136 : decode cX8_scanRun 136 = .ok (.goto 22, 3) := by decide +kernel
theorem dX8_scanRun_139 : decode cX8_scanRun 139 = .ok (.iload_n 1, 1) := by decide +kernel
theorem dX8_scanRun_140 : decode cX8_scanRun 140 = .ok (.ifCond .ne 18, 3) := by decide +kernel
theorem dX8_scanRun_143 : decode cX8_scanRun 143 = .ok (.iload_n 2, 1) := by decide +kernel
theorem dX8_scanRun_144 : decode cX8_scanRun 144 = .ok (.iconst 1, 1) := by decide +kernel
theorem dX8_scanRun_145 : decode cX8_scanRun 145 = .ok (.if_icmp .lt 13, 3) := by decide +kernel
theorem dX8_scanRun_148 : decode cX8_scanRun 148 = .ok (.iload_n 2, 1) := by decide +kernel
theorem dX8_scanRun_149 : decode cX8_scanRun 149 = .ok (.iconst 3, 1) := by decide +kernel
theorem dX8_scanRun_150 : decode cX8_scanRun 150 = .ok (.if_icmp .gt 8, 3) := by decide +kernel
theorem dX8_scanRun_153 : decode cX8_scanRun 153 = .ok (.aload_n 0, 1) := by decide +kernel
theorem dX8_scanRun_154 : decode cX8_scanRun 154 = .ok (.iconst 3, 1) := by decide +kernel
theorem dX8_scanRun_155 : decode cX8_scanRun 155 = .ok (.putfield 47, 3) := by decide +kernel
theorem dX8_scanRun_158 : decode cX8_scanRun 158 = .ok (.return_, 1) := by decide +kernel
theorem dX8_isSign_0 : decode cX8_isSign 0 = .ok (.iload_n 0, 1) := by decide +kernel
theorem dX8_isSign_1 : decode cX8_isSign 1 = .ok (.bipush 59, 2) := by decide +kernel
theorem dX8_isSign_3 : decode cX8_isSign 3 = .ok (.if_icmp .eq 33, 3) := by decide +kernel
theorem dX8_isSign_6 : decode cX8_isSign 6 = .ok (.iload_n 0, 1) := by decide +kernel
theorem dX8_isSign_7 : decode cX8_isSign 7 = .ok (.bipush 60, 2) := by decide +kernel
theorem dX8_isSign_9 : decode cX8_isSign 9 = .ok (.if_icmp .eq 27, 3) := by decide +kernel
theorem dX8_isSign_12 : decode cX8_isSign 12 = .ok (.iload_n 0, 1) := by decide +kernel
theorem dX8_isSign_13 : decode cX8_isSign 13 = .ok (.bipush 61, 2) := by decide +kernel
theorem dX8_isSign_15 : decode cX8_isSign 15 = .ok (.if_icmp .eq 21, 3) := by decide +kernel
theorem dX8_isSign_18 : decode cX8_isSign 18 = .ok (.iload_n 0, 1) := by decide +kernel
theorem dX8_isSign_19 : decode cX8_isSign 19 = .ok (.bipush 62, 2) := by decide +kernel
theorem dX8_isSign_21 : decode cX8_isSign 21 = .ok (.if_icmp .eq 15, 3) := by decide +kernel
theorem dX8_isSign_24 : decode cX8_isSign 24 = .ok (.iload_n 0, 1) := by decide +kernel
theorem dX8_isSign_25 : decode cX8_isSign 25 = .ok (.bipush 40, 2) := by decide +kernel
theorem dX8_isSign_27 : decode cX8_isSign 27 = .ok (.if_icmp .eq 9, 3) := by decide +kernel
theorem dX8_isSign_30 : decode cX8_isSign 30 = .ok (.iload_n 0, 1) := by decide +kernel
theorem dX8_isSign_31 : decode cX8_isSign 31 = .ok (.bipush 41, 2) := by decide +kernel
theorem dX8_isSign_33 : decode cX8_isSign 33 = .ok (.if_icmp .ne 7, 3) := by decide +kernel
theorem dX8_isSign_36 : decode cX8_isSign 36 = .ok (.iconst 1, 1) := by decide +kernel
theorem dX8_isSign_37 : decode cX8_isSign 37 = .ok (.goto 4, 3) := by decide +kernel
theorem dX8_isSign_40 : decode cX8_isSign 40 = .ok (.iconst 0, 1) := by decide +kernel
theorem dX8_isSign_41 : decode cX8_isSign 41 = .ok (.ireturn, 1) := by decide +kernel
theorem dX9_of_0 : decode cX9_of 0 = .ok (.iconst 0, 1) := by decide +kernel
theorem dX9_of_1 : decode cX9_of 1 = .ok (.istore_n 2, 1) := by decide +kernel
theorem dX9_of_2 : decode cX9_of 2 = .ok (.iload_n 2, 1) := by decide +kernel
theorem dX9_of_3 : decode cX9_of 3 = .ok (.getstatic 107, 3) := by decide +kernel
theorem dX9_of_6 : decode cX9_of 6 = .ok (.arraylength, 1) := by decide +kernel
theorem dX9_of_7 : decode cX9_of 7 = .ok (.if_icmp .ge 28, 3) := by decide +kernel
theorem dX9_of_10 : decode cX9_of 10 = .ok (.getstatic 107, 3) := by decide +kernel
theorem dX9_of_13 : decode cX9_of 13 = .ok (.iload_n 2, 1) := by decide +kernel
theorem dX9_of_14 : decode cX9_of 14 = .ok (.aaload, 1) := by decide +kernel
theorem dX9_of_15 : decode cX9_of 15 = .ok (.getfield 93, 3) := by decide +kernel
theorem dX9_of_18 : decode cX9_of 18 = .ok (.lload_n 0, 1) := by decide +kernel
theorem dX9_of_19 : decode cX9_of 19 = .ok (.lcmp, 1) := by decide +kernel
theorem dX9_of_20 : decode cX9_of 20 = .ok (.ifCond .ne 9, 3) := by decide +kernel
theorem dX9_of_23 : decode cX9_of 23 = .ok (.getstatic 107, 3) := by decide +kernel
theorem dX9_of_26 : decode cX9_of 26 = .ok (.iload_n 2, 1) := by decide +kernel
theorem dX9_of_27 : decode cX9_of 27 = .ok (.aaload, 1) := by decide +kernel
theorem dX9_of_28 : decode cX9_of 28 = .ok (.areturn, 1) := by decide +kernel
theorem dX9_of_29 : decode cX9_of 29 = .ok (.iinc 2 1, 3) := by decide +kernel
theorem dX9_of_32 : decode cX9_of 32 = .ok (.goto (-30), 3) := by decide +kernel
theorem dX9_of_35 : decode cX9_of 35 = .ok (.aconst_null, 1) := by decide +kernel
theorem dX9_of_36 : decode cX9_of 36 = .ok (.areturn, 1) := by decide +kernel
theorem dX8_advance_0 : decode cX8_advance 0 = .ok (.aload_n 0, 1) := by decide +kernel
theorem dX8_advance_1 : decode cX8_advance 1 = .ok (.getfield 15, 3) := by decide +kernel
theorem dX8_advance_4 : decode cX8_advance 4 = .ok (.aload_n 0, 1) := by decide +kernel
theorem dX8_advance_5 : decode cX8_advance 5 = .ok (.getfield 19, 3) := by decide +kernel
theorem dX8_advance_8 : decode cX8_advance 8 = .ok (.invokestatic 34, 3) := by decide +kernel
theorem dX8_advance_11 : decode cX8_advance 11 = .ok (.istore_n 1, 1) := by decide +kernel
theorem dX8_advance_12 : decode cX8_advance 12 = .ok (.aload_n 0, 1) := by decide +kernel
theorem dX8_advance_13 : decode cX8_advance 13 = .ok (.getfield 22, 3) := by decide +kernel
theorem dX8_advance_16 : decode cX8_advance 16 = .ok (.iload_n 1, 1) := by decide +kernel
theorem dX8_advance_17 : decode cX8_advance 17 = .ok (.if_icmp .ge 44, 3) := by decide +kernel
theorem dX8_advance_20 : decode cX8_advance 20 = .ok (.aload_n 0, 1) := by decide +kernel
theorem dX8_advance_21 : decode cX8_advance 21 = .ok (.getfield 11, 3) := by decide +kernel
theorem dX8_advance_24 : decode cX8_advance 24 = .ok (.aload_n 0, 1) := by decide +kernel
theorem dX8_advance_25 : decode cX8_advance 25 = .ok (.getfield 22, 3) := by decide +kernel
theorem dX8_advance_28 : decode cX8_advance 28 = .ok (.iaload, 1) := by decide +kernel
theorem dX8_advance_29 : decode cX8_advance 29 = .ok (.bipush 32, 2) := by decide +kernel
theorem dX8_advance_31 : decode cX8_advance 31 = .ok (.if_icmp .eq 17, 3) := by decide +kernel
theorem dX8_advance_34 : decode cX8_advance 34 = .ok (.aload_n 0, 1) := by decide +kernel
theorem dX8_advance_35 : decode cX8_advance 35 = .ok (.getfield 11, 3) := by decide +kernel
theorem dX8_advance_38 : decode cX8_advance 38 = .ok (.aload_n 0, 1) := by decide +kernel
theorem dX8_advance_39 : decode cX8_advance 39 = .ok (.getfield 22, 3) := by decide +kernel
theorem dX8_advance_42 : decode cX8_advance 42 = .ok (.iaload, 1) := by decide +kernel
theorem dX8_advance_43 : decode cX8_advance 43 = .ok (.bipush 10, 2) := by decide +kernel
theorem dX8_advance_45 : decode cX8_advance 45 = .ok (.if_icmp .ne 16, 3) := by decide +kernel
theorem dX8_advance_48 : decode cX8_advance 48 = .ok (.aload_n 0, 1) := by decide +kernel
theorem dX8_advance_49 : decode cX8_advance 49 = .ok (.dup, 1) := by decide +kernel
theorem dX8_advance_50 : decode cX8_advance 50 = .ok (.getfield 22, 3) := by decide +kernel
theorem dX8_advance_53 : decode cX8_advance 53 = .ok (.iconst 1, 1) := by decide +kernel
theorem dX8_advance_54 : decode cX8_advance 54 = .ok (.iadd, 1) := by decide +kernel
theorem dX8_advance_55 : decode cX8_advance 55 = .ok (.putfield 22, 3) := by decide +kernel
theorem dX8_advance_58 : decode cX8_advance 58 = .ok (.goto (-46), 3) := by decide +kernel
theorem dX8_advance_61 : decode cX8_advance 61 = .ok (.aload_n 0, 1) := by decide +kernel
theorem dX8_advance_62 : decode cX8_advance 62 = .ok (.aconst_null, 1) := by decide +kernel
theorem dX8_advance_63 : decode cX8_advance 63 = .ok (.putfield 40, 3) := by decide +kernel
theorem dX8_advance_66 : decode cX8_advance 66 = .ok (.aload_n 0, 1) := by decide +kernel
theorem dX8_advance_67 : decode cX8_advance 67 = .ok (.getfield 22, 3) := by decide +kernel
theorem dX8_advance_70 : decode cX8_advance 70 = .ok (.iload_n 1, 1) := by decide +kernel
theorem dX8_advance_71 : decode cX8_advance 71 = .ok (.if_icmp .lt 29, 3) := by decide +kernel
theorem dX8_advance_74 : decode cX8_advance 74 = .ok (.aload_n 0, 1) := by decide +kernel
theorem dX8_advance_75 : decode cX8_advance 75 = .ok (.iload_n 1, 1) := by decide +kernel
theorem dX8_advance_76 : decode cX8_advance 76 = .ok (.putfield 44, 3) := by decide +kernel
theorem dX8_advance_79 : decode cX8_advance 79 = .ok (.aload_n 0, 1) := by decide +kernel
theorem dX8_advance_80 : decode cX8_advance 80 = .ok (.aload_n 0, 1) := by decide +kernel
theorem dX8_advance_81 : decode cX8_advance 81 = .ok (.getfield 15, 3) := by decide +kernel
theorem dX8_advance_84 : decode cX8_advance 84 = .ok (.aload_n 0, 1) := by decide +kernel
theorem dX8_advance_85 : decode cX8_advance 85 = .ok (.getfield 19, 3) := by decide +kernel
theorem dX8_advance_88 : decode cX8_advance 88 = .ok (.if_icmp .le 7, 3) := by decide +kernel
theorem dX8_advance_91 : decode cX8_advance 91 = .ok (.iconst 1, 1) := by decide +kernel
theorem dX8_advance_92 : decode cX8_advance 92 = .ok (.goto 4, 3) := by decide +kernel
theorem dX8_advance_95 : decode cX8_advance 95 = .ok (.iconst 0, 1) := by decide +kernel
theorem dX8_advance_96 : decode cX8_advance 96 = .ok (.putfield 47, 3) := by decide +kernel
theorem dX8_advance_99 : decode cX8_advance 99 = .ok (.return_, 1) := by decide +kernel
theorem dX8_advance_100 : decode cX8_advance 100 = .ok (.aload_n 0, 1) := by decide +kernel
theorem dX8_advance_101 : decode cX8_advance 101 = .ok (.aload_n 0, 1) := by decide +kernel
theorem dX8_advance_102 : decode cX8_advance 102 = .ok (.getfield 22, 3) := by decide +kernel
theorem dX8_advance_105 : decode cX8_advance 105 = .ok (.putfield 44, 3) := by decide +kernel
theorem dX8_advance_108 : decode cX8_advance 108 = .ok (.aload_n 0, 1) := by decide +kernel
theorem dX8_advance_109 : decode cX8_advance 109 = .ok (.getfield 11, 3) := by decide +kernel
theorem dX8_advance_112 : decode cX8_advance 112 = .ok (.aload_n 0, 1) := by decide +kernel
theorem dX8_advance_113 : decode cX8_advance 113 = .ok (.getfield 22, 3) := by decide +kernel
theorem dX8_advance_116 : decode cX8_advance 116 = .ok (.iaload, 1) := by decide +kernel
theorem dX8_advance_117 : decode cX8_advance 117 = .ok (.istore_n 2, 1) := by decide +kernel
theorem dX8_advance_118 : decode cX8_advance 118 = .ok (.aload_n 0, 1) := by decide +kernel
theorem dX8_advance_119 : decode cX8_advance 119 = .ok (.invokevirtual 50, 3) := by decide +kernel
theorem dX8_advance_122 : decode cX8_advance 122 = .ok (.aload_n 0, 1) := by decide +kernel
theorem dX8_advance_123 : decode cX8_advance 123 = .ok (.getfield 47, 3) := by decide +kernel
theorem dX8_advance_126 : decode cX8_advance 126 = .ok (.iconst 2, 1) := by decide +kernel
theorem dX8_advance_127 : decode cX8_advance 127 = .ok (.if_icmp .ne 17, 3) := by decide +kernel
theorem dX8_advance_130 : decode cX8_advance 130 = .ok (.aload_n 0, 1) := by decide +kernel
theorem dX8_advance_131 : decode cX8_advance 131 = .ok (.aload_n 0, 1) := by decide +kernel
theorem dX8_advance_132 : decode cX8_advance 132 = .ok (.getfield 53, 3) := by decide +kernel
theorem dX8_advance_135 : decode cX8_advance 135 = .ok (.invokestatic 57, 3) := by decide +kernel
theorem dX8_advance_138 : decode cX8_advance 138 = .ok (.putfield 40, 3) := by decide +kernel
theorem dX8_advance_141 : decode cX8_advance 141 = .ok (.goto 40, 3) := by decide +kernel
theorem dX8_advance_144 : decode cX8_advance 144 = .ok (.aload_n 0, 1) := by decide +kernel
theorem dX8_advance_145 : decode cX8_advance 145 = .ok (.getfield 22, 3) := by decide +kernel
theorem dX8_advance_148 : decode cX8_advance 148 = .ok (.aload_n 0, 1) := by decide +kernel
theorem dX8_advance_149 : decode cX8_advance 149 = .ok (.getfield 44, 3) := by decide +kernel
theorem dX8_advance_152 : decode cX8_advance 152 = .ok (.if_icmp .ne 29, 3) := by decide +kernel
theorem dX8_advance_155 : decode cX8_advance 155 = .ok (.aload_n 0, 1) := by decide +kernel
theorem dX8_advance_156 : decode cX8_advance 156 = .ok (.iload_n 2, 1) := by decide +kernel
theorem dX8_advance_157 : decode cX8_advance 157 = .ok (.invokestatic 63, 3) := by decide +kernel
theorem dX8_advance_160 : decode cX8_advance 160 = .ok (.ifCond .eq 7, 3) := by decide +kernel
theorem dX8_advance_163 : decode cX8_advance 163 = .ok (.iload_n 2, 1) := by decide +kernel
theorem dX8_advance_164 : decode cX8_advance 164 = .ok (.goto 4, 3) := by decide +kernel
theorem dX8_advance_167 : decode cX8_advance 167 = .ok (.iconst 1, 1) := by decide +kernel
theorem dX8_advance_168 : decode cX8_advance 168 = .ok (.putfield 47, 3) := by decide +kernel
theorem dX8_advance_171 : decode cX8_advance 171 = .ok (.aload_n 0, 1) := by decide +kernel
theorem dX8_advance_172 : decode cX8_advance 172 = .ok (.dup, 1) := by decide +kernel
theorem dX8_advance_173 : decode cX8_advance 173 = .ok (.getfield 22, 3) := by decide +kernel
theorem dX8_advance_176 : decode cX8_advance 176 = .ok (.iconst 1, 1) := by decide +kernel
theorem dX8_advance_177 : decode cX8_advance 177 = .ok (.iadd, 1) := by decide +kernel
theorem dX8_advance_178 : decode cX8_advance 178 = .ok (.putfield 22, 3) := by decide +kernel
theorem dX8_advance_181 : decode cX8_advance 181 = .ok (.return_, 1) := by decide +kernel
theorem dX8_open_0 : decode cX8_open 0 = .ok (.aload_n 0, 1) := by decide +kernel
theorem dX8_open_1 : decode cX8_open 1 = .ok (.iload_n 1, 1) := by decide +kernel
theorem dX8_open_2 : decode cX8_open 2 = .ok (.putfield 19, 3) := by decide +kernel
theorem dX8_open_5 : decode cX8_open 5 = .ok (.aload_n 0, 1) := by decide +kernel
theorem dX8_open_6 : decode cX8_open 6 = .ok (.iconst 0, 1) := by decide +kernel
theorem dX8_open_7 : decode cX8_open 7 = .ok (.putfield 22, 3) := by decide +kernel
theorem dX8_open_10 : decode cX8_open 10 = .ok (.aload_n 0, 1) := by decide +kernel
theorem dX8_open_11 : decode cX8_open 11 = .ok (.iconst 0, 1) := by decide +kernel
theorem dX8_open_12 : decode cX8_open 12 = .ok (.putfield 25, 3) := by decide +kernel
theorem dX8_open_15 : decode cX8_open 15 = .ok (.aload_n 0, 1) := by decide +kernel
theorem dX8_open_16 : decode cX8_open 16 = .ok (.iconst 0, 1) := by decide +kernel
theorem dX8_open_17 : decode cX8_open 17 = .ok (.putfield 28, 3) := by decide +kernel
theorem dX8_open_20 : decode cX8_open 20 = .ok (.aload_n 0, 1) := by decide +kernel
theorem dX8_open_21 : decode cX8_open 21 = .ok (.invokevirtual 31, 3) := by decide +kernel
theorem dX8_open_24 : decode cX8_open 24 = .ok (.return_, 1) := by decide +kernel
theorem dX8_isName_0 : decode cX8_isName 0 = .ok (.aload_n 0, 1) := by decide +kernel
theorem dX8_isName_1 : decode cX8_isName 1 = .ok (.getfield 47, 3) := by decide +kernel
theorem dX8_isName_4 : decode cX8_isName 4 = .ok (.iconst 2, 1) := by decide +kernel
theorem dX8_isName_5 : decode cX8_isName 5 = .ok (.if_icmp .ne 14, 3) := by decide +kernel
theorem dX8_isName_8 : decode cX8_isName 8 = .ok (.aload_n 0, 1) := by decide +kernel
theorem dX8_isName_9 : decode cX8_isName 9 = .ok (.getfield 40, 3) := by decide +kernel
theorem dX8_isName_12 : decode cX8_isName 12 = .ok (.ifnonnull 7, 3) := by decide +kernel
theorem dX8_isName_15 : decode cX8_isName 15 = .ok (.iconst 1, 1) := by decide +kernel
theorem dX8_isName_16 : decode cX8_isName 16 = .ok (.goto 4, 3) := by decide +kernel
theorem dX8_isName_19 : decode cX8_isName 19 = .ok (.iconst 0, 1) := by decide +kernel
theorem dX8_isName_20 : decode cX8_isName 20 = .ok (.ireturn, 1) := by decide +kernel
theorem dX8_placeIn_0 : decode cX8_placeIn 0 = .ok (.iconst 0, 1) := by decide +kernel
theorem dX8_placeIn_1 : decode cX8_placeIn 1 = .ok (.istore_n 3, 1) := by decide +kernel
theorem dX8_placeIn_2 : decode cX8_placeIn 2 = .ok (.iload_n 3, 1) := by decide +kernel
theorem dX8_placeIn_3 : decode cX8_placeIn 3 = .ok (.iload_n 2, 1) := by decide +kernel
theorem dX8_placeIn_4 : decode cX8_placeIn 4 = .ok (.if_icmp .ge 28, 3) := by decide +kernel
theorem dX8_placeIn_7 : decode cX8_placeIn 7 = .ok (.iload_n 3, 1) := by decide +kernel
theorem dX8_placeIn_8 : decode cX8_placeIn 8 = .ok (.aload_n 1, 1) := by decide +kernel
theorem dX8_placeIn_9 : decode cX8_placeIn 9 = .ok (.arraylength, 1) := by decide +kernel
theorem dX8_placeIn_10 : decode cX8_placeIn 10 = .ok (.if_icmp .ge 22, 3) := by decide +kernel
theorem dX8_placeIn_13 : decode cX8_placeIn 13 = .ok (.aload_n 1, 1) := by decide +kernel
theorem dX8_placeIn_14 : decode cX8_placeIn 14 = .ok (.iload_n 3, 1) := by decide +kernel
theorem dX8_placeIn_15 : decode cX8_placeIn 15 = .ok (.laload, 1) := by decide +kernel
theorem dX8_placeIn_16 : decode cX8_placeIn 16 = .ok (.aload_n 0, 1) := by decide +kernel
theorem dX8_placeIn_17 : decode cX8_placeIn 17 = .ok (.getfield 53, 3) := by decide +kernel
theorem dX8_placeIn_20 : decode cX8_placeIn 20 = .ok (.lcmp, 1) := by decide +kernel
theorem dX8_placeIn_21 : decode cX8_placeIn 21 = .ok (.ifCond .ne 5, 3) := by decide +kernel
theorem dX8_placeIn_24 : decode cX8_placeIn 24 = .ok (.iload_n 3, 1) := by decide +kernel
theorem dX8_placeIn_25 : decode cX8_placeIn 25 = .ok (.ireturn, 1) := by decide +kernel
theorem dX8_placeIn_26 : decode cX8_placeIn 26 = .ok (.iinc 3 1, 3) := by decide +kernel
theorem dX8_placeIn_29 : decode cX8_placeIn 29 = .ok (.goto (-27), 3) := by decide +kernel
theorem dX8_placeIn_32 : decode cX8_placeIn 32 = .ok (.iconst (-1), 1) := by decide +kernel
theorem dX8_placeIn_33 : decode cX8_placeIn 33 = .ok (.ireturn, 1) := by decide +kernel
theorem dX8_refuse_0 : decode cX8_refuse 0 = .ok (.aload_n 0, 1) := by decide +kernel
theorem dX8_refuse_1 : decode cX8_refuse 1 = .ok (.iload_n 1, 1) := by decide +kernel
theorem dX8_refuse_2 : decode cX8_refuse 2 = .ok (.putfield 25, 3) := by decide +kernel
theorem dX8_refuse_5 : decode cX8_refuse 5 = .ok (.aload_n 0, 1) := by decide +kernel
theorem dX8_refuse_6 : decode cX8_refuse 6 = .ok (.aload_n 0, 1) := by decide +kernel
theorem dX8_refuse_7 : decode cX8_refuse 7 = .ok (.getfield 44, 3) := by decide +kernel
theorem dX8_refuse_10 : decode cX8_refuse 10 = .ok (.putfield 28, 3) := by decide +kernel
theorem dX8_refuse_13 : decode cX8_refuse 13 = .ok (.iconst 0, 1) := by decide +kernel
theorem dX8_refuse_14 : decode cX8_refuse 14 = .ok (.ireturn, 1) := by decide +kernel
theorem dX8_findName_0 : decode cX8_findName 0 = .ok (.aload_n 0, 1) := by decide +kernel
theorem dX8_findName_1 : decode cX8_findName 1 = .ok (.invokevirtual 73, 3) := by decide +kernel
theorem dX8_findName_4 : decode cX8_findName 4 = .ok (.ifCond .ne 11, 3) := by decide +kernel
theorem dX8_findName_7 : decode cX8_findName 7 = .ok (.aload_n 0, 1) := by decide +kernel
theorem dX8_findName_8 : decode cX8_findName 8 = .ok (.iconst 1, 1) := by decide +kernel
theorem dX8_findName_9 : decode cX8_findName 9 = .ok (.invokevirtual 70, 3) := by decide +kernel
theorem dX8_findName_12 : decode cX8_findName 12 = .ok (.pop, 1) := by decide +kernel
theorem dX8_findName_13 : decode cX8_findName 13 = .ok (.iconst (-1), 1) := by decide +kernel
theorem dX8_findName_14 : decode cX8_findName 14 = .ok (.ireturn, 1) := by decide +kernel
theorem dX8_findName_15 : decode cX8_findName 15 = .ok (.aload_n 0, 1) := by decide +kernel
theorem dX8_findName_16 : decode cX8_findName 16 = .ok (.aload_n 1, 1) := by decide +kernel
theorem dX8_findName_17 : decode cX8_findName 17 = .ok (.iload_n 2, 1) := by decide +kernel
theorem dX8_findName_18 : decode cX8_findName 18 = .ok (.invokevirtual 77, 3) := by decide +kernel
theorem dX8_findName_21 : decode cX8_findName 21 = .ok (.istore_n 3, 1) := by decide +kernel
theorem dX8_findName_22 : decode cX8_findName 22 = .ok (.iload_n 3, 1) := by decide +kernel
theorem dX8_findName_23 : decode cX8_findName 23 = .ok (.iconst (-1), 1) := by decide +kernel
theorem dX8_findName_24 : decode cX8_findName 24 = .ok (.if_icmp .ne 9, 3) := by decide +kernel
theorem dX8_findName_27 : decode cX8_findName 27 = .ok (.aload_n 0, 1) := by decide +kernel
theorem dX8_findName_28 : decode cX8_findName 28 = .ok (.iconst 3, 1) := by decide +kernel
theorem dX8_findName_29 : decode cX8_findName 29 = .ok (.invokevirtual 70, 3) := by decide +kernel
theorem dX8_findName_32 : decode cX8_findName 32 = .ok (.pop, 1) := by decide +kernel
theorem dX8_findName_33 : decode cX8_findName 33 = .ok (.iload_n 3, 1) := by decide +kernel
theorem dX8_findName_34 : decode cX8_findName 34 = .ok (.ireturn, 1) := by decide +kernel
theorem dX8_takeName_0 : decode cX8_takeName 0 = .ok (.aload_n 0, 1) := by decide +kernel
theorem dX8_takeName_1 : decode cX8_takeName 1 = .ok (.aload_n 1, 1) := by decide +kernel
theorem dX8_takeName_2 : decode cX8_takeName 2 = .ok (.iload_n 2, 1) := by decide +kernel
theorem dX8_takeName_3 : decode cX8_takeName 3 = .ok (.invokevirtual 81, 3) := by decide +kernel
theorem dX8_takeName_6 : decode cX8_takeName 6 = .ok (.istore_n 3, 1) := by decide +kernel
theorem dX8_takeName_7 : decode cX8_takeName 7 = .ok (.iload_n 3, 1) := by decide +kernel
theorem dX8_takeName_8 : decode cX8_takeName 8 = .ok (.iconst (-1), 1) := by decide +kernel
theorem dX8_takeName_9 : decode cX8_takeName 9 = .ok (.if_icmp .eq 7, 3) := by decide +kernel
theorem dX8_takeName_12 : decode cX8_takeName 12 = .ok (.aload_n 0, 1) := by decide +kernel
theorem dX8_takeName_13 : decode cX8_takeName 13 = .ok (.invokevirtual 31, 3) := by decide +kernel
theorem dX8_takeName_16 : decode cX8_takeName 16 = .ok (.iload_n 3, 1) := by decide +kernel
theorem dX8_takeName_17 : decode cX8_takeName 17 = .ok (.ireturn, 1) := by decide +kernel
theorem dX0_addLine_0 : decode cX0_addLine 0 = .ok (.iload_n 3, 1) := by decide +kernel
theorem dX0_addLine_1 : decode cX0_addLine 1 = .ok (.iconst (-1), 1) := by decide +kernel
theorem dX0_addLine_2 : decode cX0_addLine 2 = .ok (.if_icmp .eq 12, 3) := by decide +kernel
theorem dX0_addLine_5 : decode cX0_addLine 5 = .ok (.aload_n 0, 1) := by decide +kernel
theorem dX0_addLine_6 : decode cX0_addLine 6 = .ok (.getfield 24, 3) := by decide +kernel
theorem dX0_addLine_9 : decode cX0_addLine 9 = .ok (.bipush 40, 2) := by decide +kernel
theorem dX0_addLine_11 : decode cX0_addLine 11 = .ok (.if_icmp .lt 5, 3) := by decide +kernel
theorem dX0_addLine_14 : decode cX0_addLine 14 = .ok (.iconst 0, 1) := by decide +kernel
theorem dX0_addLine_15 : decode cX0_addLine 15 = .ok (.ireturn, 1) := by decide +kernel
theorem dX0_addLine_16 : decode cX0_addLine 16 = .ok (.aload_n 0, 1) := by decide +kernel
theorem dX0_addLine_17 : decode cX0_addLine 17 = .ok (.getfield 13, 3) := by decide +kernel
theorem dX0_addLine_20 : decode cX0_addLine 20 = .ok (.aload_n 0, 1) := by decide +kernel
theorem dX0_addLine_21 : decode cX0_addLine 21 = .ok (.getfield 24, 3) := by decide +kernel
theorem dX0_addLine_24 : decode cX0_addLine 24 = .ok (.aload_n 1, 1) := by decide +kernel
theorem dX0_addLine_25 : decode cX0_addLine 25 = .ok (.aastore, 1) := by decide +kernel
theorem dX0_addLine_26 : decode cX0_addLine 26 = .ok (.aload_n 0, 1) := by decide +kernel
theorem dX0_addLine_27 : decode cX0_addLine 27 = .ok (.getfield 17, 3) := by decide +kernel
theorem dX0_addLine_30 : decode cX0_addLine 30 = .ok (.aload_n 0, 1) := by decide +kernel
theorem dX0_addLine_31 : decode cX0_addLine 31 = .ok (.getfield 24, 3) := by decide +kernel
theorem dX0_addLine_34 : decode cX0_addLine 34 = .ok (.iload_n 2, 1) := by decide +kernel
theorem dX0_addLine_35 : decode cX0_addLine 35 = .ok (.iastore, 1) := by decide +kernel
theorem dX0_addLine_36 : decode cX0_addLine 36 = .ok (.aload_n 0, 1) := by decide +kernel
theorem dX0_addLine_37 : decode cX0_addLine 37 = .ok (.getfield 21, 3) := by decide +kernel
theorem dX0_addLine_40 : decode cX0_addLine 40 = .ok (.aload_n 0, 1) := by decide +kernel
theorem dX0_addLine_41 : decode cX0_addLine 41 = .ok (.getfield 24, 3) := by decide +kernel
theorem dX0_addLine_44 : decode cX0_addLine 44 = .ok (.iload_n 3, 1) := by decide +kernel
theorem dX0_addLine_45 : decode cX0_addLine 45 = .ok (.iastore, 1) := by decide +kernel
theorem dX0_addLine_46 : decode cX0_addLine 46 = .ok (.aload_n 0, 1) := by decide +kernel
theorem dX0_addLine_47 : decode cX0_addLine 47 = .ok (.dup, 1) := by decide +kernel
theorem dX0_addLine_48 : decode cX0_addLine 48 = .ok (.getfield 24, 3) := by decide +kernel
theorem dX0_addLine_51 : decode cX0_addLine 51 = .ok (.iconst 1, 1) := by decide +kernel
theorem dX0_addLine_52 : decode cX0_addLine 52 = .ok (.iadd, 1) := by decide +kernel
theorem dX0_addLine_53 : decode cX0_addLine 53 = .ok (.putfield 24, 3) := by decide +kernel
theorem dX0_addLine_56 : decode cX0_addLine 56 = .ok (.iconst 1, 1) := by decide +kernel
theorem dX0_addLine_57 : decode cX0_addLine 57 = .ok (.ireturn, 1) := by decide +kernel
theorem dX8_takeNumber_0 : decode cX8_takeNumber 0 = .ok (.aload_n 0, 1) := by decide +kernel
theorem dX8_takeNumber_1 : decode cX8_takeNumber 1 = .ok (.getfield 47, 3) := by decide +kernel
theorem dX8_takeNumber_4 : decode cX8_takeNumber 4 = .ok (.iconst 3, 1) := by decide +kernel
theorem dX8_takeNumber_5 : decode cX8_takeNumber 5 = .ok (.if_icmp .eq 11, 3) := by decide +kernel
theorem dX8_takeNumber_8 : decode cX8_takeNumber 8 = .ok (.aload_n 0, 1) := by decide +kernel
theorem dX8_takeNumber_9 : decode cX8_takeNumber 9 = .ok (.iconst 1, 1) := by decide +kernel
theorem dX8_takeNumber_10 : decode cX8_takeNumber 10 = .ok (.invokevirtual 70, 3) := by decide +kernel
theorem dX8_takeNumber_13 : decode cX8_takeNumber 13 = .ok (.pop, 1) := by decide +kernel
theorem dX8_takeNumber_14 : decode cX8_takeNumber 14 = .ok (.iconst (-1), 1) := by decide +kernel
theorem dX8_takeNumber_15 : decode cX8_takeNumber 15 = .ok (.ireturn, 1) := by decide +kernel
theorem dX8_takeNumber_16 : decode cX8_takeNumber 16 = .ok (.aload_n 0, 1) := by decide +kernel
theorem dX8_takeNumber_17 : decode cX8_takeNumber 17 = .ok (.getfield 67, 3) := by decide +kernel
theorem dX8_takeNumber_20 : decode cX8_takeNumber 20 = .ok (.istore_n 3, 1) := by decide +kernel
theorem dX8_takeNumber_21 : decode cX8_takeNumber 21 = .ok (.iload_n 3, 1) := by decide +kernel
theorem dX8_takeNumber_22 : decode cX8_takeNumber 22 = .ok (.iload_n 1, 1) := by decide +kernel
theorem dX8_takeNumber_23 : decode cX8_takeNumber 23 = .ok (.if_icmp .lt 8, 3) := by decide +kernel
theorem dX8_takeNumber_26 : decode cX8_takeNumber 26 = .ok (.iload_n 3, 1) := by decide +kernel
theorem dX8_takeNumber_27 : decode cX8_takeNumber 27 = .ok (.iload_n 2, 1) := by decide +kernel
theorem dX8_takeNumber_28 : decode cX8_takeNumber 28 = .ok (.if_icmp .le 11, 3) := by decide +kernel
theorem dX8_takeNumber_31 : decode cX8_takeNumber 31 = .ok (.aload_n 0, 1) := by decide +kernel
theorem dX8_takeNumber_32 : decode cX8_takeNumber 32 = .ok (.iconst 2, 1) := by decide +kernel
theorem dX8_takeNumber_33 : decode cX8_takeNumber 33 = .ok (.invokevirtual 70, 3) := by decide +kernel
theorem dX8_takeNumber_36 : decode cX8_takeNumber 36 = .ok (.pop, 1) := by decide +kernel
theorem dX8_takeNumber_37 : decode cX8_takeNumber 37 = .ok (.iconst (-1), 1) := by decide +kernel
theorem dX8_takeNumber_38 : decode cX8_takeNumber 38 = .ok (.ireturn, 1) := by decide +kernel
theorem dX8_takeNumber_39 : decode cX8_takeNumber 39 = .ok (.aload_n 0, 1) := by decide +kernel
theorem dX8_takeNumber_40 : decode cX8_takeNumber 40 = .ok (.invokevirtual 31, 3) := by decide +kernel
theorem dX8_takeNumber_43 : decode cX8_takeNumber 43 = .ok (.iload_n 3, 1) := by decide +kernel
theorem dX8_takeNumber_44 : decode cX8_takeNumber 44 = .ok (.ireturn, 1) := by decide +kernel
theorem dX0_readOfPerson_0 : decode cX0_readOfPerson 0 = .ok (.aload_n 1, 1) := by decide +kernel
theorem dX0_readOfPerson_1 : decode cX0_readOfPerson 1 = .ok (.getfield 45, 3) := by decide +kernel
theorem dX0_readOfPerson_4 : decode cX0_readOfPerson 4 = .ok (.astore 4, 2) := by decide +kernel
theorem dX0_readOfPerson_6 : decode cX0_readOfPerson 6 = .ok (.aload 4, 2) := by decide +kernel
theorem dX0_readOfPerson_8 : decode cX0_readOfPerson 8 = .ok (.getstatic 104, 3) := by decide +kernel
theorem dX0_readOfPerson_11 : decode cX0_readOfPerson 11 = .ok (.if_acmp .eq 25, 3) := by decide +kernel
theorem dX0_readOfPerson_14 : decode cX0_readOfPerson 14 = .ok (.aload 4, 2) := by decide +kernel
theorem dX0_readOfPerson_16 : decode cX0_readOfPerson 16 = .ok (.getstatic 107, 3) := by decide +kernel
theorem dX0_readOfPerson_19 : decode cX0_readOfPerson 19 = .ok (.if_acmp .eq 17, 3) := by decide +kernel
theorem dX0_readOfPerson_22 : decode cX0_readOfPerson 22 = .ok (.aload 4, 2) := by decide +kernel
theorem dX0_readOfPerson_24 : decode cX0_readOfPerson 24 = .ok (.getstatic 110, 3) := by decide +kernel
theorem dX0_readOfPerson_27 : decode cX0_readOfPerson 27 = .ok (.if_acmp .eq 9, 3) := by decide +kernel
theorem dX0_readOfPerson_30 : decode cX0_readOfPerson 30 = .ok (.aload_n 1, 1) := by decide +kernel
theorem dX0_readOfPerson_31 : decode cX0_readOfPerson 31 = .ok (.iconst 1, 1) := by decide +kernel
theorem dX0_readOfPerson_32 : decode cX0_readOfPerson 32 = .ok (.invokevirtual 68, 3) := by decide +kernel
theorem dX0_readOfPerson_35 : decode cX0_readOfPerson 35 = .ok (.ireturn, 1) := by decide +kernel
theorem dX0_readOfPerson_36 : decode cX0_readOfPerson 36 = .ok (.aload_n 1, 1) := by decide +kernel
theorem dX0_readOfPerson_37 : decode cX0_readOfPerson 37 = .ok (.invokevirtual 71, 3) := by decide +kernel
theorem dX0_readOfPerson_40 : decode cX0_readOfPerson 40 = .ok (.aload 4, 2) := by decide +kernel
theorem dX0_readOfPerson_42 : decode cX0_readOfPerson 42 = .ok (.getstatic 104, 3) := by decide +kernel
theorem dX0_readOfPerson_45 : decode cX0_readOfPerson 45 = .ok (.if_acmp .ne 18, 3) := by decide +kernel
theorem dX0_readOfPerson_48 : decode cX0_readOfPerson 48 = .ok (.aload_n 0, 1) := by decide +kernel
theorem dX0_readOfPerson_49 : decode cX0_readOfPerson 49 = .ok (.aload 4, 2) := by decide +kernel
theorem dX0_readOfPerson_51 : decode cX0_readOfPerson 51 = .ok (.iload_n 3, 1) := by decide +kernel
theorem dX0_readOfPerson_52 : decode cX0_readOfPerson 52 = .ok (.aload_n 1, 1) := by decide +kernel
theorem dX0_readOfPerson_53 : decode cX0_readOfPerson 53 = .ok (.iconst 1, 1) := by decide +kernel
theorem dX0_readOfPerson_54 : decode cX0_readOfPerson 54 = .ok (.bipush 20, 2) := by decide +kernel
theorem dX0_readOfPerson_56 : decode cX0_readOfPerson 56 = .ok (.invokevirtual 77, 3) := by decide +kernel
theorem dX0_readOfPerson_59 : decode cX0_readOfPerson 59 = .ok (.invokevirtual 81, 3) := by decide +kernel
theorem dX0_readOfPerson_62 : decode cX0_readOfPerson 62 = .ok (.ireturn, 1) := by decide +kernel
theorem dX0_readOfPerson_63 : decode cX0_readOfPerson 63 = .ok (.aload_n 0, 1) := by decide +kernel
theorem dX0_readOfPerson_64 : decode cX0_readOfPerson 64 = .ok (.aload 4, 2) := by decide +kernel
theorem dX0_readOfPerson_66 : decode cX0_readOfPerson 66 = .ok (.iload_n 3, 1) := by decide +kernel
theorem dX0_readOfPerson_67 : decode cX0_readOfPerson 67 = .ok (.aload 4, 2) := by decide +kernel
theorem dX0_readOfPerson_69 : decode cX0_readOfPerson 69 = .ok (.getstatic 107, 3) := by decide +kernel
theorem dX0_readOfPerson_72 : decode cX0_readOfPerson 72 = .ok (.if_acmp .ne 7, 3) := by decide +kernel
theorem dX0_readOfPerson_75 : decode cX0_readOfPerson 75 = .ok (.iconst 0, 1) := by decide +kernel
theorem dX0_readOfPerson_76 : decode cX0_readOfPerson 76 = .ok (.goto 15, 3) := by decide +kernel
theorem dX0_readOfPerson_79 : decode cX0_readOfPerson 79 = .ok (.aload_n 1, 1) := by decide +kernel
theorem dX0_readOfPerson_80 : decode cX0_readOfPerson 80 = .ok (.aload_n 2, 1) := by decide +kernel
theorem dX0_readOfPerson_81 : decode cX0_readOfPerson 81 = .ok (.getfield 98, 3) := by decide +kernel
theorem dX0_readOfPerson_84 : decode cX0_readOfPerson 84 = .ok (.aload_n 2, 1) := by decide +kernel
theorem dX0_readOfPerson_85 : decode cX0_readOfPerson 85 = .ok (.getfield 101, 3) := by decide +kernel
theorem dX0_readOfPerson_88 : decode cX0_readOfPerson 88 = .ok (.invokevirtual 95, 3) := by decide +kernel
theorem dX0_readOfPerson_91 : decode cX0_readOfPerson 91 = .ok (.invokevirtual 81, 3) := by decide +kernel
theorem dX0_readOfPerson_94 : decode cX0_readOfPerson 94 = .ok (.ireturn, 1) := by decide +kernel
theorem dX0_readStuffing_0 : decode cX0_readStuffing 0 = .ok (.aload_n 1, 1) := by decide +kernel
theorem dX0_readStuffing_1 : decode cX0_readStuffing 1 = .ok (.aload_n 2, 1) := by decide +kernel
theorem dX0_readStuffing_2 : decode cX0_readStuffing 2 = .ok (.getfield 89, 3) := by decide +kernel
theorem dX0_readStuffing_5 : decode cX0_readStuffing 5 = .ok (.aload_n 2, 1) := by decide +kernel
theorem dX0_readStuffing_6 : decode cX0_readStuffing 6 = .ok (.getfield 92, 3) := by decide +kernel
theorem dX0_readStuffing_9 : decode cX0_readStuffing 9 = .ok (.invokevirtual 95, 3) := by decide +kernel
theorem dX0_readStuffing_12 : decode cX0_readStuffing 12 = .ok (.istore_n 3, 1) := by decide +kernel
theorem dX0_readStuffing_13 : decode cX0_readStuffing 13 = .ok (.iload_n 3, 1) := by decide +kernel
theorem dX0_readStuffing_14 : decode cX0_readStuffing 14 = .ok (.iconst (-1), 1) := by decide +kernel
theorem dX0_readStuffing_15 : decode cX0_readStuffing 15 = .ok (.if_icmp .ne 5, 3) := by decide +kernel
theorem dX0_readStuffing_18 : decode cX0_readStuffing 18 = .ok (.iconst 0, 1) := by decide +kernel
theorem dX0_readStuffing_19 : decode cX0_readStuffing 19 = .ok (.ireturn, 1) := by decide +kernel
theorem dX0_readStuffing_20 : decode cX0_readStuffing 20 = .ok (.aload_n 0, 1) := by decide +kernel
theorem dX0_readStuffing_21 : decode cX0_readStuffing 21 = .ok (.getstatic 49, 3) := by decide +kernel
theorem dX0_readStuffing_24 : decode cX0_readStuffing 24 = .ok (.iload_n 3, 1) := by decide +kernel
theorem dX0_readStuffing_25 : decode cX0_readStuffing 25 = .ok (.aload_n 1, 1) := by decide +kernel
theorem dX0_readStuffing_26 : decode cX0_readStuffing 26 = .ok (.aload_n 2, 1) := by decide +kernel
theorem dX0_readStuffing_27 : decode cX0_readStuffing 27 = .ok (.getfield 98, 3) := by decide +kernel
theorem dX0_readStuffing_30 : decode cX0_readStuffing 30 = .ok (.aload_n 2, 1) := by decide +kernel
theorem dX0_readStuffing_31 : decode cX0_readStuffing 31 = .ok (.getfield 101, 3) := by decide +kernel
theorem dX0_readStuffing_34 : decode cX0_readStuffing 34 = .ok (.invokevirtual 95, 3) := by decide +kernel
theorem dX0_readStuffing_37 : decode cX0_readStuffing 37 = .ok (.invokevirtual 81, 3) := by decide +kernel
theorem dX0_readStuffing_40 : decode cX0_readStuffing 40 = .ok (.ireturn, 1) := by decide +kernel
theorem dX0_readLine_0 : decode cX0_readLine 0 = .ok (.aload_n 1, 1) := by decide +kernel
theorem dX0_readLine_1 : decode cX0_readLine 1 = .ok (.getfield 45, 3) := by decide +kernel
theorem dX0_readLine_4 : decode cX0_readLine 4 = .ok (.getstatic 49, 3) := by decide +kernel
theorem dX0_readLine_7 : decode cX0_readLine 7 = .ok (.if_acmp .eq 17, 3) := by decide +kernel
theorem dX0_readLine_10 : decode cX0_readLine 10 = .ok (.aload_n 1, 1) := by decide +kernel
theorem dX0_readLine_11 : decode cX0_readLine 11 = .ok (.getfield 45, 3) := by decide +kernel
theorem dX0_readLine_14 : decode cX0_readLine 14 = .ok (.getstatic 52, 3) := by decide +kernel
theorem dX0_readLine_17 : decode cX0_readLine 17 = .ok (.if_acmp .eq 7, 3) := by decide +kernel
theorem dX0_readLine_20 : decode cX0_readLine 20 = .ok (.iconst 1, 1) := by decide +kernel
theorem dX0_readLine_21 : decode cX0_readLine 21 = .ok (.goto 4, 3) := by decide +kernel
theorem dX0_readLine_24 : decode cX0_readLine 24 = .ok (.iconst 0, 1) := by decide +kernel
theorem dX0_readLine_25 : decode cX0_readLine 25 = .ok (.istore_n 3, 1) := by decide +kernel
theorem dX0_readLine_26 : decode cX0_readLine 26 = .ok (.iload_n 3, 1) := by decide +kernel
theorem dX0_readLine_27 : decode cX0_readLine 27 = .ok (.ifCond .eq 18, 3) := by decide +kernel
theorem dX0_readLine_30 : decode cX0_readLine 30 = .ok (.aload_n 1, 1) := by decide +kernel
theorem dX0_readLine_31 : decode cX0_readLine 31 = .ok (.aload_n 2, 1) := by decide +kernel
theorem dX0_readLine_32 : decode cX0_readLine 32 = .ok (.getfield 55, 3) := by decide +kernel
theorem dX0_readLine_35 : decode cX0_readLine 35 = .ok (.aload_n 2, 1) := by decide +kernel
theorem dX0_readLine_36 : decode cX0_readLine 36 = .ok (.getfield 61, 3) := by decide +kernel
theorem dX0_readLine_39 : decode cX0_readLine 39 = .ok (.invokevirtual 64, 3) := by decide +kernel
theorem dX0_readLine_42 : decode cX0_readLine 42 = .ok (.goto 4, 3) := by decide +kernel
theorem dX0_readLine_45 : decode cX0_readLine 45 = .ok (.iconst 0, 1) := by decide +kernel
theorem dX0_readLine_46 : decode cX0_readLine 46 = .ok (.istore 4, 2) := by decide +kernel
theorem dX0_readLine_48 : decode cX0_readLine 48 = .ok (.iload 4, 2) := by decide +kernel
theorem dX0_readLine_50 : decode cX0_readLine 50 = .ok (.iconst (-1), 1) := by decide +kernel
theorem dX0_readLine_51 : decode cX0_readLine 51 = .ok (.if_icmp .ne 5, 3) := by decide +kernel
theorem dX0_readLine_54 : decode cX0_readLine 54 = .ok (.iconst 0, 1) := by decide +kernel
theorem dX0_readLine_55 : decode cX0_readLine 55 = .ok (.ireturn, 1) := by decide +kernel
theorem dX0_readLine_56 : decode cX0_readLine 56 = .ok (.aload_n 0, 1) := by decide +kernel
theorem dX0_readLine_57 : decode cX0_readLine 57 = .ok (.getfield 24, 3) := by decide +kernel
theorem dX0_readLine_60 : decode cX0_readLine 60 = .ok (.bipush 40, 2) := by decide +kernel
theorem dX0_readLine_62 : decode cX0_readLine 62 = .ok (.if_icmp .lt 9, 3) := by decide +kernel
theorem dX0_readLine_65 : decode cX0_readLine 65 = .ok (.aload_n 1, 1) := by decide +kernel
theorem dX0_readLine_66 : decode cX0_readLine 66 = .ok (.iconst 4, 1) := by decide +kernel
theorem dX0_readLine_67 : decode cX0_readLine 67 = .ok (.invokevirtual 68, 3) := by decide +kernel
theorem dX0_readLine_70 : decode cX0_readLine 70 = .ok (.ireturn, 1) := by decide +kernel
theorem dX0_readLine_71 : decode cX0_readLine 71 = .ok (.aload_n 1, 1) := by decide +kernel
theorem dX0_readLine_72 : decode cX0_readLine 72 = .ok (.getfield 45, 3) := by decide +kernel
theorem dX0_readLine_75 : decode cX0_readLine 75 = .ok (.astore 5, 2) := by decide +kernel
theorem dX0_readLine_77 : decode cX0_readLine 77 = .ok (.aload_n 1, 1) := by decide +kernel
theorem dX0_readLine_78 : decode cX0_readLine 78 = .ok (.invokevirtual 71, 3) := by decide +kernel
theorem dX0_readLine_81 : decode cX0_readLine 81 = .ok (.aload 5, 2) := by decide +kernel
theorem dX0_readLine_83 : decode cX0_readLine 83 = .ok (.getstatic 49, 3) := by decide +kernel
theorem dX0_readLine_86 : decode cX0_readLine 86 = .ok (.if_acmp .ne 10, 3) := by decide +kernel
theorem dX0_readLine_89 : decode cX0_readLine 89 = .ok (.aload_n 0, 1) := by decide +kernel
theorem dX0_readLine_90 : decode cX0_readLine 90 = .ok (.aload_n 1, 1) := by decide +kernel
theorem dX0_readLine_91 : decode cX0_readLine 91 = .ok (.aload_n 2, 1) := by decide +kernel
theorem dX0_readLine_92 : decode cX0_readLine 92 = .ok (.invokevirtual 74, 3) := by decide +kernel
theorem dX0_readLine_95 : decode cX0_readLine 95 = .ok (.ireturn, 1) := by decide +kernel
theorem dX0_readLine_96 : decode cX0_readLine 96 = .ok (.aload 5, 2) := by decide +kernel
theorem dX0_readLine_98 : decode cX0_readLine 98 = .ok (.getstatic 52, 3) := by decide +kernel
theorem dX0_readLine_101 : decode cX0_readLine 101 = .ok (.if_acmp .ne 19, 3) := by decide +kernel
theorem dX0_readLine_104 : decode cX0_readLine 104 = .ok (.aload_n 0, 1) := by decide +kernel
theorem dX0_readLine_105 : decode cX0_readLine 105 = .ok (.getstatic 52, 3) := by decide +kernel
theorem dX0_readLine_108 : decode cX0_readLine 108 = .ok (.iconst 0, 1) := by decide +kernel
theorem dX0_readLine_109 : decode cX0_readLine 109 = .ok (.aload_n 1, 1) := by decide +kernel
theorem dX0_readLine_110 : decode cX0_readLine 110 = .ok (.iconst 1, 1) := by decide +kernel
theorem dX0_readLine_111 : decode cX0_readLine 111 = .ok (.bipush 60, 2) := by decide +kernel
theorem dX0_readLine_113 : decode cX0_readLine 113 = .ok (.invokevirtual 77, 3) := by decide +kernel
theorem dX0_readLine_116 : decode cX0_readLine 116 = .ok (.invokevirtual 81, 3) := by decide +kernel
theorem dX0_readLine_119 : decode cX0_readLine 119 = .ok (.ireturn, 1) := by decide +kernel
theorem dX0_readLine_120 : decode cX0_readLine 120 = .ok (.aload_n 0, 1) := by decide +kernel
theorem dX0_readLine_121 : decode cX0_readLine 121 = .ok (.aload_n 1, 1) := by decide +kernel
theorem dX0_readLine_122 : decode cX0_readLine 122 = .ok (.aload_n 2, 1) := by decide +kernel
theorem dX0_readLine_123 : decode cX0_readLine 123 = .ok (.iload 4, 2) := by decide +kernel
theorem dX0_readLine_125 : decode cX0_readLine 125 = .ok (.invokevirtual 85, 3) := by decide +kernel
theorem dX0_readLine_128 : decode cX0_readLine 128 = .ok (.ireturn, 1) := by decide +kernel
theorem dX8_takeSign_0 : decode cX8_takeSign 0 = .ok (.aload_n 0, 1) := by decide +kernel
theorem dX8_takeSign_1 : decode cX8_takeSign 1 = .ok (.getfield 47, 3) := by decide +kernel
theorem dX8_takeSign_4 : decode cX8_takeSign 4 = .ok (.iload_n 1, 1) := by decide +kernel
theorem dX8_takeSign_5 : decode cX8_takeSign 5 = .ok (.if_icmp .eq 9, 3) := by decide +kernel
theorem dX8_takeSign_8 : decode cX8_takeSign 8 = .ok (.aload_n 0, 1) := by decide +kernel
theorem dX8_takeSign_9 : decode cX8_takeSign 9 = .ok (.iconst 1, 1) := by decide +kernel
theorem dX8_takeSign_10 : decode cX8_takeSign 10 = .ok (.invokevirtual 70, 3) := by decide +kernel
theorem dX8_takeSign_13 : decode cX8_takeSign 13 = .ok (.ireturn, 1) := by decide +kernel
theorem dX8_takeSign_14 : decode cX8_takeSign 14 = .ok (.aload_n 0, 1) := by decide +kernel
theorem dX8_takeSign_15 : decode cX8_takeSign 15 = .ok (.invokevirtual 31, 3) := by decide +kernel
theorem dX8_takeSign_18 : decode cX8_takeSign 18 = .ok (.iconst 1, 1) := by decide +kernel
theorem dX8_takeSign_19 : decode cX8_takeSign 19 = .ok (.ireturn, 1) := by decide +kernel
theorem dX0_readFrom_0 : decode cX0_readFrom 0 = .ok (.aload_n 0, 1) := by decide +kernel
theorem dX0_readFrom_1 : decode cX0_readFrom 1 = .ok (.iconst 0, 1) := by decide +kernel
theorem dX0_readFrom_2 : decode cX0_readFrom 2 = .ok (.putfield 24, 3) := by decide +kernel
theorem dX0_readFrom_5 : decode cX0_readFrom 5 = .ok (.aload_n 1, 1) := by decide +kernel
theorem dX0_readFrom_6 : decode cX0_readFrom 6 = .ok (.sipush 400, 3) := by decide +kernel
theorem dX0_readFrom_9 : decode cX0_readFrom 9 = .ok (.invokevirtual 28, 3) := by decide +kernel
theorem dX0_readFrom_12 : decode cX0_readFrom 12 = .ok (.iconst 1, 1) := by decide +kernel
theorem dX0_readFrom_13 : decode cX0_readFrom 13 = .ok (.istore_n 3, 1) := by decide +kernel
theorem dX0_readFrom_14 : decode cX0_readFrom 14 = .ok (.iconst 0, 1) := by decide +kernel
theorem dX0_readFrom_15 : decode cX0_readFrom 15 = .ok (.istore 4, 2) := by decide +kernel
theorem dX0_readFrom_17 : decode cX0_readFrom 17 = .ok (.iload 4, 2) := by decide +kernel
theorem dX0_readFrom_19 : decode cX0_readFrom 19 = .ok (.sipush 400, 3) := by decide +kernel
theorem dX0_readFrom_22 : decode cX0_readFrom 22 = .ok (.if_icmp .ge 44, 3) := by decide +kernel
theorem dX0_readFrom_25 : decode cX0_readFrom 25 = .ok (.iload_n 3, 1) := by decide +kernel
theorem dX0_readFrom_26 : decode cX0_readFrom 26 = .ok (.ifCond .eq 40, 3) := by decide +kernel
theorem dX0_readFrom_29 : decode cX0_readFrom 29 = .ok (.aload_n 1, 1) := by decide +kernel
theorem dX0_readFrom_30 : decode cX0_readFrom 30 = .ok (.getfield 34, 3) := by decide +kernel
theorem dX0_readFrom_33 : decode cX0_readFrom 33 = .ok (.ifCond .eq 33, 3) := by decide +kernel
theorem dX0_readFrom_36 : decode cX0_readFrom 36 = .ok (.aload_n 0, 1) := by decide +kernel
theorem dX0_readFrom_37 : decode cX0_readFrom 37 = .ok (.aload_n 1, 1) := by decide +kernel
theorem dX0_readFrom_38 : decode cX0_readFrom 38 = .ok (.aload_n 2, 1) := by decide +kernel
theorem dX0_readFrom_39 : decode cX0_readFrom 39 = .ok (.invokevirtual 37, 3) := by decide +kernel
theorem dX0_readFrom_42 : decode cX0_readFrom 42 = .ok (.ifCond .eq 16, 3) := by decide +kernel
theorem dX0_readFrom_45 : decode cX0_readFrom 45 = .ok (.aload_n 1, 1) := by decide +kernel
theorem dX0_readFrom_46 : decode cX0_readFrom 46 = .ok (.bipush 59, 2) := by decide +kernel
theorem dX0_readFrom_48 : decode cX0_readFrom 48 = .ok (.invokevirtual 41, 3) := by decide +kernel
theorem dX0_readFrom_51 : decode cX0_readFrom 51 = .ok (.ifCond .eq 7, 3) := by decide +kernel
theorem dX0_readFrom_54 : decode cX0_readFrom 54 = .ok (.iconst 1, 1) := by decide +kernel
theorem dX0_readFrom_55 : decode cX0_readFrom 55 = .ok (.goto 4, 3) := by decide +kernel
theorem dX0_readFrom_58 : decode cX0_readFrom 58 = .ok (.iconst 0, 1) := by decide +kernel
theorem dX0_readFrom_59 : decode cX0_readFrom 59 = .ok (.istore_n 3, 1) := by decide +kernel
theorem dX0_readFrom_60 : decode cX0_readFrom 60 = .ok (.iinc 4 1, 3) := by decide +kernel
theorem dX0_readFrom_63 : decode cX0_readFrom 63 = .ok (.goto (-46), 3) := by decide +kernel
theorem dX0_readFrom_66 : decode cX0_readFrom 66 = .ok (.return_, 1) := by decide +kernel
theorem dX6_daysLeft_0 : decode cX6_daysLeft 0 = .ok (.sipush 400, 3) := by decide +kernel
theorem dX6_daysLeft_3 : decode cX6_daysLeft 3 = .ok (.aload_n 0, 1) := by decide +kernel
theorem dX6_daysLeft_4 : decode cX6_daysLeft 4 = .ok (.getfield 37, 3) := by decide +kernel
theorem dX6_daysLeft_7 : decode cX6_daysLeft 7 = .ok (.isub, 1) := by decide +kernel
theorem dX6_daysLeft_8 : decode cX6_daysLeft 8 = .ok (.ireturn, 1) := by decide +kernel
theorem dX4_catchesOn_0 : decode cX4_catchesOn 0 = .ok (.aload_n 0, 1) := by decide +kernel
theorem dX4_catchesOn_1 : decode cX4_catchesOn 1 = .ok (.getfield 34, 3) := by decide +kernel
theorem dX4_catchesOn_4 : decode cX4_catchesOn 4 = .ok (.iload_n 1, 1) := by decide +kernel
theorem dX4_catchesOn_5 : decode cX4_catchesOn 5 = .ok (.iaload, 1) := by decide +kernel
theorem dX4_catchesOn_6 : decode cX4_catchesOn 6 = .ok (.istore_n 3, 1) := by decide +kernel
theorem dX4_catchesOn_7 : decode cX4_catchesOn 7 = .ok (.iload_n 3, 1) := by decide +kernel
theorem dX4_catchesOn_8 : decode cX4_catchesOn 8 = .ok (.ifCond .le 13, 3) := by decide +kernel
theorem dX4_catchesOn_11 : decode cX4_catchesOn 11 = .ok (.iload_n 2, 1) := by decide +kernel
theorem dX4_catchesOn_12 : decode cX4_catchesOn 12 = .ok (.iload_n 3, 1) := by decide +kernel
theorem dX4_catchesOn_13 : decode cX4_catchesOn 13 = .ok (.irem, 1) := by decide +kernel
theorem dX4_catchesOn_14 : decode cX4_catchesOn 14 = .ok (.ifCond .ne 7, 3) := by decide +kernel
theorem dX4_catchesOn_17 : decode cX4_catchesOn 17 = .ok (.iconst 1, 1) := by decide +kernel
theorem dX4_catchesOn_18 : decode cX4_catchesOn 18 = .ok (.goto 4, 3) := by decide +kernel
theorem dX4_catchesOn_21 : decode cX4_catchesOn 21 = .ok (.iconst 0, 1) := by decide +kernel
theorem dX4_catchesOn_22 : decode cX4_catchesOn 22 = .ok (.ireturn, 1) := by decide +kernel
theorem dX6_catchThing_0 : decode cX6_catchThing 0 = .ok (.aload_n 0, 1) := by decide +kernel
theorem dX6_catchThing_1 : decode cX6_catchThing 1 = .ok (.getfield 15, 3) := by decide +kernel
theorem dX6_catchThing_4 : decode cX6_catchThing 4 = .ok (.iload_n 1, 1) := by decide +kernel
theorem dX6_catchThing_5 : decode cX6_catchThing 5 = .ok (.iaload, 1) := by decide +kernel
theorem dX6_catchThing_6 : decode cX6_catchThing 6 = .ok (.bipush 8, 2) := by decide +kernel
theorem dX6_catchThing_8 : decode cX6_catchThing 8 = .ok (.if_icmp .ge 30, 3) := by decide +kernel
theorem dX6_catchThing_11 : decode cX6_catchThing 11 = .ok (.aload_n 0, 1) := by decide +kernel
theorem dX6_catchThing_12 : decode cX6_catchThing 12 = .ok (.getfield 9, 3) := by decide +kernel
theorem dX6_catchThing_15 : decode cX6_catchThing 15 = .ok (.iload_n 1, 1) := by decide +kernel
theorem dX6_catchThing_16 : decode cX6_catchThing 16 = .ok (.bipush 8, 2) := by decide +kernel
theorem dX6_catchThing_18 : decode cX6_catchThing 18 = .ok (.imul, 1) := by decide +kernel
theorem dX6_catchThing_19 : decode cX6_catchThing 19 = .ok (.aload_n 0, 1) := by decide +kernel
theorem dX6_catchThing_20 : decode cX6_catchThing 20 = .ok (.getfield 15, 3) := by decide +kernel
theorem dX6_catchThing_23 : decode cX6_catchThing 23 = .ok (.iload_n 1, 1) := by decide +kernel
theorem dX6_catchThing_24 : decode cX6_catchThing 24 = .ok (.iaload, 1) := by decide +kernel
theorem dX6_catchThing_25 : decode cX6_catchThing 25 = .ok (.iadd, 1) := by decide +kernel
theorem dX6_catchThing_26 : decode cX6_catchThing 26 = .ok (.iload_n 2, 1) := by decide +kernel
theorem dX6_catchThing_27 : decode cX6_catchThing 27 = .ok (.iastore, 1) := by decide +kernel
theorem dX6_catchThing_28 : decode cX6_catchThing 28 = .ok (.aload_n 0, 1) := by decide +kernel
theorem dX6_catchThing_29 : decode cX6_catchThing 29 = .ok (.getfield 15, 3) := by decide +kernel
theorem dX6_catchThing_32 : decode cX6_catchThing 32 = .ok (.iload_n 1, 1) := by decide +kernel
theorem dX6_catchThing_33 : decode cX6_catchThing 33 = .ok (.dup2, 1) := by decide +kernel
theorem dX6_catchThing_34 : decode cX6_catchThing 34 = .ok (.iaload, 1) := by decide +kernel
theorem dX6_catchThing_35 : decode cX6_catchThing 35 = .ok (.iconst 1, 1) := by decide +kernel
theorem dX6_catchThing_36 : decode cX6_catchThing 36 = .ok (.iadd, 1) := by decide +kernel
theorem dX6_catchThing_37 : decode cX6_catchThing 37 = .ok (.iastore, 1) := by decide +kernel
theorem dX6_catchThing_38 : decode cX6_catchThing 38 = .ok (.return_, 1) := by decide +kernel
theorem dX6_letOneDayGo_0 : decode cX6_letOneDayGo 0 = .ok (.iconst 0, 1) := by decide +kernel
theorem dX6_letOneDayGo_1 : decode cX6_letOneDayGo 1 = .ok (.istore_n 2, 1) := by decide +kernel
theorem dX6_letOneDayGo_2 : decode cX6_letOneDayGo 2 = .ok (.iload_n 2, 1) := by decide +kernel
theorem dX6_letOneDayGo_3 : decode cX6_letOneDayGo 3 = .ok (.aload_n 1, 1) := by decide +kernel
theorem dX6_letOneDayGo_4 : decode cX6_letOneDayGo 4 = .ok (.getfield 71, 3) := by decide +kernel
theorem dX6_letOneDayGo_7 : decode cX6_letOneDayGo 7 = .ok (.if_icmp .ge 16, 3) := by decide +kernel
theorem dX6_letOneDayGo_10 : decode cX6_letOneDayGo 10 = .ok (.aload_n 0, 1) := by decide +kernel
theorem dX6_letOneDayGo_11 : decode cX6_letOneDayGo 11 = .ok (.getfield 18, 3) := by decide +kernel
theorem dX6_letOneDayGo_14 : decode cX6_letOneDayGo 14 = .ok (.iload_n 2, 1) := by decide +kernel
theorem dX6_letOneDayGo_15 : decode cX6_letOneDayGo 15 = .ok (.iconst 0, 1) := by decide +kernel
theorem dX6_letOneDayGo_16 : decode cX6_letOneDayGo 16 = .ok (.iastore, 1) := by decide +kernel
theorem dX6_letOneDayGo_17 : decode cX6_letOneDayGo 17 = .ok (.iinc 2 1, 3) := by decide +kernel
theorem dX6_letOneDayGo_20 : decode cX6_letOneDayGo 20 = .ok (.goto (-18), 3) := by decide +kernel
theorem dX6_letOneDayGo_23 : decode cX6_letOneDayGo 23 = .ok (.iconst 0, 1) := by decide +kernel
theorem dX6_letOneDayGo_24 : decode cX6_letOneDayGo 24 = .ok (.istore_n 2, 1) := by decide +kernel
theorem dX6_letOneDayGo_25 : decode cX6_letOneDayGo 25 = .ok (.iload_n 2, 1) := by decide +kernel
theorem dX6_letOneDayGo_26 : decode cX6_letOneDayGo 26 = .ok (.aload_n 1, 1) := by decide +kernel
theorem dX6_letOneDayGo_27 : decode cX6_letOneDayGo 27 = .ok (.getfield 119, 3) := by decide +kernel
theorem dX6_letOneDayGo_30 : decode cX6_letOneDayGo 30 = .ok (.if_icmp .ge 39, 3) := by decide +kernel
theorem dX6_letOneDayGo_33 : decode cX6_letOneDayGo 33 = .ok (.aload_n 1, 1) := by decide +kernel
theorem dX6_letOneDayGo_34 : decode cX6_letOneDayGo 34 = .ok (.iload_n 2, 1) := by decide +kernel
theorem dX6_letOneDayGo_35 : decode cX6_letOneDayGo 35 = .ok (.aload_n 0, 1) := by decide +kernel
theorem dX6_letOneDayGo_36 : decode cX6_letOneDayGo 36 = .ok (.getfield 37, 3) := by decide +kernel
theorem dX6_letOneDayGo_39 : decode cX6_letOneDayGo 39 = .ok (.iconst 1, 1) := by decide +kernel
theorem dX6_letOneDayGo_40 : decode cX6_letOneDayGo 40 = .ok (.iadd, 1) := by decide +kernel
theorem dX6_letOneDayGo_41 : decode cX6_letOneDayGo 41 = .ok (.invokevirtual 122, 3) := by decide +kernel
theorem dX6_letOneDayGo_44 : decode cX6_letOneDayGo 44 = .ok (.ifCond .eq 19, 3) := by decide +kernel
theorem dX6_letOneDayGo_47 : decode cX6_letOneDayGo 47 = .ok (.aload_n 0, 1) := by decide +kernel
theorem dX6_letOneDayGo_48 : decode cX6_letOneDayGo 48 = .ok (.aload_n 1, 1) := by decide +kernel
theorem dX6_letOneDayGo_49 : decode cX6_letOneDayGo 49 = .ok (.getfield 125, 3) := by decide +kernel
theorem dX6_letOneDayGo_52 : decode cX6_letOneDayGo 52 = .ok (.iload_n 2, 1) := by decide +kernel
theorem dX6_letOneDayGo_53 : decode cX6_letOneDayGo 53 = .ok (.iaload, 1) := by decide +kernel
theorem dX6_letOneDayGo_54 : decode cX6_letOneDayGo 54 = .ok (.aload_n 1, 1) := by decide +kernel
theorem dX6_letOneDayGo_55 : decode cX6_letOneDayGo 55 = .ok (.getfield 128, 3) := by decide +kernel
theorem dX6_letOneDayGo_58 : decode cX6_letOneDayGo 58 = .ok (.iload_n 2, 1) := by decide +kernel
theorem dX6_letOneDayGo_59 : decode cX6_letOneDayGo 59 = .ok (.iaload, 1) := by decide +kernel
theorem dX6_letOneDayGo_60 : decode cX6_letOneDayGo 60 = .ok (.invokevirtual 131, 3) := by decide +kernel
theorem dX6_letOneDayGo_63 : decode cX6_letOneDayGo 63 = .ok (.iinc 2 1, 3) := by decide +kernel
theorem dX6_letOneDayGo_66 : decode cX6_letOneDayGo 66 = .ok (.goto (-41), 3) := by decide +kernel
theorem dX6_letOneDayGo_69 : decode cX6_letOneDayGo 69 = .ok (.aload_n 0, 1) := by decide +kernel
theorem dX6_letOneDayGo_70 : decode cX6_letOneDayGo 70 = .ok (.dup, 1) := by decide +kernel
theorem dX6_letOneDayGo_71 : decode cX6_letOneDayGo 71 = .ok (.getfield 37, 3) := by decide +kernel
theorem dX6_letOneDayGo_74 : decode cX6_letOneDayGo 74 = .ok (.iconst 1, 1) := by decide +kernel
theorem dX6_letOneDayGo_75 : decode cX6_letOneDayGo 75 = .ok (.iadd, 1) := by decide +kernel
theorem dX6_letOneDayGo_76 : decode cX6_letOneDayGo 76 = .ok (.putfield 37, 3) := by decide +kernel
theorem dX6_letOneDayGo_79 : decode cX6_letOneDayGo 79 = .ok (.return_, 1) := by decide +kernel
theorem dX6_letDaysGo_0 : decode cX6_letDaysGo 0 = .ok (.iconst 0, 1) := by decide +kernel
theorem dX6_letDaysGo_1 : decode cX6_letDaysGo 1 = .ok (.istore_n 3, 1) := by decide +kernel
theorem dX6_letDaysGo_2 : decode cX6_letDaysGo 2 = .ok (.iload_n 3, 1) := by decide +kernel
theorem dX6_letDaysGo_3 : decode cX6_letDaysGo 3 = .ok (.iload_n 2, 1) := by decide +kernel
theorem dX6_letDaysGo_4 : decode cX6_letDaysGo 4 = .ok (.if_icmp .ge 14, 3) := by decide +kernel
theorem dX6_letDaysGo_7 : decode cX6_letDaysGo 7 = .ok (.aload_n 0, 1) := by decide +kernel
theorem dX6_letDaysGo_8 : decode cX6_letDaysGo 8 = .ok (.aload_n 1, 1) := by decide +kernel
theorem dX6_letDaysGo_9 : decode cX6_letDaysGo 9 = .ok (.invokevirtual 115, 3) := by decide +kernel
theorem dX6_letDaysGo_12 : decode cX6_letDaysGo 12 = .ok (.iinc 3 1, 3) := by decide +kernel
theorem dX6_letDaysGo_15 : decode cX6_letDaysGo 15 = .ok (.goto (-13), 3) := by decide +kernel
theorem dX6_letDaysGo_18 : decode cX6_letDaysGo 18 = .ok (.return_, 1) := by decide +kernel
theorem dX6_whyNoStuffing_0 : decode cX6_whyNoStuffing 0 = .ok (.aload_n 0, 1) := by decide +kernel
theorem dX6_whyNoStuffing_1 : decode cX6_whyNoStuffing 1 = .ok (.getfield 21, 3) := by decide +kernel
theorem dX6_whyNoStuffing_4 : decode cX6_whyNoStuffing 4 = .ok (.iload_n 1, 1) := by decide +kernel
theorem dX6_whyNoStuffing_5 : decode cX6_whyNoStuffing 5 = .ok (.iaload, 1) := by decide +kernel
theorem dX6_whyNoStuffing_6 : decode cX6_whyNoStuffing 6 = .ok (.ifCond .ne 7, 3) := by decide +kernel
theorem dX6_whyNoStuffing_9 : decode cX6_whyNoStuffing 9 = .ok (.iconst 1, 1) := by decide +kernel
theorem dX6_whyNoStuffing_10 : decode cX6_whyNoStuffing 10 = .ok (.goto 4, 3) := by decide +kernel
theorem dX6_whyNoStuffing_13 : decode cX6_whyNoStuffing 13 = .ok (.iconst 0, 1) := by decide +kernel
theorem dX6_whyNoStuffing_14 : decode cX6_whyNoStuffing 14 = .ok (.ireturn, 1) := by decide +kernel
theorem dX6_fillBed_0 : decode cX6_fillBed 0 = .ok (.aload_n 0, 1) := by decide +kernel
theorem dX6_fillBed_1 : decode cX6_fillBed 1 = .ok (.getfield 21, 3) := by decide +kernel
theorem dX6_fillBed_4 : decode cX6_fillBed 4 = .ok (.iload_n 3, 1) := by decide +kernel
theorem dX6_fillBed_5 : decode cX6_fillBed 5 = .ok (.dup2, 1) := by decide +kernel
theorem dX6_fillBed_6 : decode cX6_fillBed 6 = .ok (.iaload, 1) := by decide +kernel
theorem dX6_fillBed_7 : decode cX6_fillBed 7 = .ok (.iconst 1, 1) := by decide +kernel
theorem dX6_fillBed_8 : decode cX6_fillBed 8 = .ok (.isub, 1) := by decide +kernel
theorem dX6_fillBed_9 : decode cX6_fillBed 9 = .ok (.iastore, 1) := by decide +kernel
theorem dX6_fillBed_10 : decode cX6_fillBed 10 = .ok (.aload_n 0, 1) := by decide +kernel
theorem dX6_fillBed_11 : decode cX6_fillBed 11 = .ok (.dup, 1) := by decide +kernel
theorem dX6_fillBed_12 : decode cX6_fillBed 12 = .ok (.getfield 33, 3) := by decide +kernel
theorem dX6_fillBed_15 : decode cX6_fillBed 15 = .ok (.iconst 1, 1) := by decide +kernel
theorem dX6_fillBed_16 : decode cX6_fillBed 16 = .ok (.isub, 1) := by decide +kernel
theorem dX6_fillBed_17 : decode cX6_fillBed 17 = .ok (.putfield 33, 3) := by decide +kernel
theorem dX6_fillBed_20 : decode cX6_fillBed 20 = .ok (.aload_n 0, 1) := by decide +kernel
theorem dX6_fillBed_21 : decode cX6_fillBed 21 = .ok (.getfield 24, 3) := by decide +kernel
theorem dX6_fillBed_24 : decode cX6_fillBed 24 = .ok (.iload_n 3, 1) := by decide +kernel
theorem dX6_fillBed_25 : decode cX6_fillBed 25 = .ok (.dup2, 1) := by decide +kernel
theorem dX6_fillBed_26 : decode cX6_fillBed 26 = .ok (.iaload, 1) := by decide +kernel
theorem dX6_fillBed_27 : decode cX6_fillBed 27 = .ok (.iconst 1, 1) := by decide +kernel
theorem dX6_fillBed_28 : decode cX6_fillBed 28 = .ok (.iadd, 1) := by decide +kernel
theorem dX6_fillBed_29 : decode cX6_fillBed 29 = .ok (.iastore, 1) := by decide +kernel
theorem dX6_fillBed_30 : decode cX6_fillBed 30 = .ok (.aload_n 0, 1) := by decide +kernel
theorem dX6_fillBed_31 : decode cX6_fillBed 31 = .ok (.getfield 27, 3) := by decide +kernel
theorem dX6_fillBed_34 : decode cX6_fillBed 34 = .ok (.iload_n 2, 1) := by decide +kernel
theorem dX6_fillBed_35 : decode cX6_fillBed 35 = .ok (.dup2, 1) := by decide +kernel
theorem dX6_fillBed_36 : decode cX6_fillBed 36 = .ok (.iaload, 1) := by decide +kernel
theorem dX6_fillBed_37 : decode cX6_fillBed 37 = .ok (.aload_n 1, 1) := by decide +kernel
theorem dX6_fillBed_38 : decode cX6_fillBed 38 = .ok (.getfield 114, 3) := by decide +kernel
theorem dX6_fillBed_41 : decode cX6_fillBed 41 = .ok (.iload_n 3, 1) := by decide +kernel
theorem dX6_fillBed_42 : decode cX6_fillBed 42 = .ok (.iaload, 1) := by decide +kernel
theorem dX6_fillBed_43 : decode cX6_fillBed 43 = .ok (.iadd, 1) := by decide +kernel
theorem dX6_fillBed_44 : decode cX6_fillBed 44 = .ok (.iastore, 1) := by decide +kernel
theorem dX6_fillBed_45 : decode cX6_fillBed 45 = .ok (.aload_n 0, 1) := by decide +kernel
theorem dX6_fillBed_46 : decode cX6_fillBed 46 = .ok (.getfield 30, 3) := by decide +kernel
theorem dX6_fillBed_49 : decode cX6_fillBed 49 = .ok (.iload_n 2, 1) := by decide +kernel
theorem dX6_fillBed_50 : decode cX6_fillBed 50 = .ok (.dup2, 1) := by decide +kernel
theorem dX6_fillBed_51 : decode cX6_fillBed 51 = .ok (.iaload, 1) := by decide +kernel
theorem dX6_fillBed_52 : decode cX6_fillBed 52 = .ok (.iconst 1, 1) := by decide +kernel
theorem dX6_fillBed_53 : decode cX6_fillBed 53 = .ok (.iadd, 1) := by decide +kernel
theorem dX6_fillBed_54 : decode cX6_fillBed 54 = .ok (.iastore, 1) := by decide +kernel
theorem dX6_fillBed_55 : decode cX6_fillBed 55 = .ok (.return_, 1) := by decide +kernel
theorem dX0_liveStuffing_0 : decode cX0_liveStuffing 0 = .ok (.aload_n 2, 1) := by decide +kernel
theorem dX0_liveStuffing_1 : decode cX0_liveStuffing 1 = .ok (.iload 4, 2) := by decide +kernel
theorem dX0_liveStuffing_3 : decode cX0_liveStuffing 3 = .ok (.invokevirtual 186, 3) := by decide +kernel
theorem dX0_liveStuffing_6 : decode cX0_liveStuffing 6 = .ok (.istore 5, 2) := by decide +kernel
theorem dX0_liveStuffing_8 : decode cX0_liveStuffing 8 = .ok (.iload 5, 2) := by decide +kernel
theorem dX0_liveStuffing_10 : decode cX0_liveStuffing 10 = .ok (.ifCond .eq 9, 3) := by decide +kernel
theorem dX0_liveStuffing_13 : decode cX0_liveStuffing 13 = .ok (.bipush 30, 2) := by decide +kernel
theorem dX0_liveStuffing_15 : decode cX0_liveStuffing 15 = .ok (.iload 5, 2) := by decide +kernel
theorem dX0_liveStuffing_17 : decode cX0_liveStuffing 17 = .ok (.iadd, 1) := by decide +kernel
theorem dX0_liveStuffing_18 : decode cX0_liveStuffing 18 = .ok (.ireturn, 1) := by decide +kernel
theorem dX0_liveStuffing_19 : decode cX0_liveStuffing 19 = .ok (.aload_n 2, 1) := by decide +kernel
theorem dX0_liveStuffing_20 : decode cX0_liveStuffing 20 = .ok (.aload_n 1, 1) := by decide +kernel
theorem dX0_liveStuffing_21 : decode cX0_liveStuffing 21 = .ok (.iload_n 3, 1) := by decide +kernel
theorem dX0_liveStuffing_22 : decode cX0_liveStuffing 22 = .ok (.iload 4, 2) := by decide +kernel
theorem dX0_liveStuffing_24 : decode cX0_liveStuffing 24 = .ok (.invokevirtual 189, 3) := by decide +kernel
theorem dX0_liveStuffing_27 : decode cX0_liveStuffing 27 = .ok (.iconst 0, 1) := by decide +kernel
theorem dX0_liveStuffing_28 : decode cX0_liveStuffing 28 = .ok (.ireturn, 1) := by decide +kernel
theorem dX6_isNest_0 : decode cX6_isNest 0 = .ok (.aload_n 0, 1) := by decide +kernel
theorem dX6_isNest_1 : decode cX6_isNest 1 = .ok (.getfield 15, 3) := by decide +kernel
theorem dX6_isNest_4 : decode cX6_isNest 4 = .ok (.iload_n 1, 1) := by decide +kernel
theorem dX6_isNest_5 : decode cX6_isNest 5 = .ok (.iaload, 1) := by decide +kernel
theorem dX6_isNest_6 : decode cX6_isNest 6 = .ok (.bipush 8, 2) := by decide +kernel
theorem dX6_isNest_8 : decode cX6_isNest 8 = .ok (.if_icmp .lt 7, 3) := by decide +kernel
theorem dX6_isNest_11 : decode cX6_isNest 11 = .ok (.iconst 1, 1) := by decide +kernel
theorem dX6_isNest_12 : decode cX6_isNest 12 = .ok (.goto 4, 3) := by decide +kernel
theorem dX6_isNest_15 : decode cX6_isNest 15 = .ok (.iconst 0, 1) := by decide +kernel
theorem dX6_isNest_16 : decode cX6_isNest 16 = .ok (.ireturn, 1) := by decide +kernel
theorem dX6_whyNoCatch_0 : decode cX6_whyNoCatch 0 = .ok (.aload_n 0, 1) := by decide +kernel
theorem dX6_whyNoCatch_1 : decode cX6_whyNoCatch 1 = .ok (.iload_n 1, 1) := by decide +kernel
theorem dX6_whyNoCatch_2 : decode cX6_whyNoCatch 2 = .ok (.invokevirtual 88, 3) := by decide +kernel
theorem dX6_whyNoCatch_5 : decode cX6_whyNoCatch 5 = .ok (.ifCond .eq 7, 3) := by decide +kernel
theorem dX6_whyNoCatch_8 : decode cX6_whyNoCatch 8 = .ok (.iconst 1, 1) := by decide +kernel
theorem dX6_whyNoCatch_9 : decode cX6_whyNoCatch 9 = .ok (.goto 4, 3) := by decide +kernel
theorem dX6_whyNoCatch_12 : decode cX6_whyNoCatch 12 = .ok (.iconst 0, 1) := by decide +kernel
theorem dX6_whyNoCatch_13 : decode cX6_whyNoCatch 13 = .ok (.ireturn, 1) := by decide +kernel
theorem dX0_liveCatch_0 : decode cX0_liveCatch 0 = .ok (.aload_n 1, 1) := by decide +kernel
theorem dX0_liveCatch_1 : decode cX0_liveCatch 1 = .ok (.iload_n 2, 1) := by decide +kernel
theorem dX0_liveCatch_2 : decode cX0_liveCatch 2 = .ok (.invokevirtual 179, 3) := by decide +kernel
theorem dX0_liveCatch_5 : decode cX0_liveCatch 5 = .ok (.istore 4, 2) := by decide +kernel
theorem dX0_liveCatch_7 : decode cX0_liveCatch 7 = .ok (.iload 4, 2) := by decide +kernel
theorem dX0_liveCatch_9 : decode cX0_liveCatch 9 = .ok (.ifCond .eq 9, 3) := by decide +kernel
theorem dX0_liveCatch_12 : decode cX0_liveCatch 12 = .ok (.bipush 20, 2) := by decide +kernel
theorem dX0_liveCatch_14 : decode cX0_liveCatch 14 = .ok (.iload 4, 2) := by decide +kernel
theorem dX0_liveCatch_16 : decode cX0_liveCatch 16 = .ok (.iadd, 1) := by decide +kernel
theorem dX0_liveCatch_17 : decode cX0_liveCatch 17 = .ok (.ireturn, 1) := by decide +kernel
theorem dX0_liveCatch_18 : decode cX0_liveCatch 18 = .ok (.aload_n 1, 1) := by decide +kernel
theorem dX0_liveCatch_19 : decode cX0_liveCatch 19 = .ok (.iload_n 2, 1) := by decide +kernel
theorem dX0_liveCatch_20 : decode cX0_liveCatch 20 = .ok (.iload_n 3, 1) := by decide +kernel
theorem dX0_liveCatch_21 : decode cX0_liveCatch 21 = .ok (.invokevirtual 182, 3) := by decide +kernel
theorem dX0_liveCatch_24 : decode cX0_liveCatch 24 = .ok (.iconst 0, 1) := by decide +kernel
theorem dX0_liveCatch_25 : decode cX0_liveCatch 25 = .ok (.ireturn, 1) := by decide +kernel
theorem dX6_whyNoCut_0 : decode cX6_whyNoCut 0 = .ok (.aload_n 0, 1) := by decide +kernel
theorem dX6_whyNoCut_1 : decode cX6_whyNoCut 1 = .ok (.getfield 15, 3) := by decide +kernel
theorem dX6_whyNoCut_4 : decode cX6_whyNoCut 4 = .ok (.iload_n 1, 1) := by decide +kernel
theorem dX6_whyNoCut_5 : decode cX6_whyNoCut 5 = .ok (.iaload, 1) := by decide +kernel
theorem dX6_whyNoCut_6 : decode cX6_whyNoCut 6 = .ok (.ifCond .ne 7, 3) := by decide +kernel
theorem dX6_whyNoCut_9 : decode cX6_whyNoCut 9 = .ok (.iconst 1, 1) := by decide +kernel
theorem dX6_whyNoCut_10 : decode cX6_whyNoCut 10 = .ok (.goto 4, 3) := by decide +kernel
theorem dX6_whyNoCut_13 : decode cX6_whyNoCut 13 = .ok (.iconst 0, 1) := by decide +kernel
theorem dX6_whyNoCut_14 : decode cX6_whyNoCut 14 = .ok (.ireturn, 1) := by decide +kernel
theorem dX6_knotBelow_0 : decode cX6_knotBelow 0 = .ok (.iconst 0, 1) := by decide +kernel
theorem dX6_knotBelow_1 : decode cX6_knotBelow 1 = .ok (.istore_n 3, 1) := by decide +kernel
theorem dX6_knotBelow_2 : decode cX6_knotBelow 2 = .ok (.iload_n 1, 1) := by decide +kernel
theorem dX6_knotBelow_3 : decode cX6_knotBelow 3 = .ok (.bipush 8, 2) := by decide +kernel
theorem dX6_knotBelow_5 : decode cX6_knotBelow 5 = .ok (.imul, 1) := by decide +kernel
theorem dX6_knotBelow_6 : decode cX6_knotBelow 6 = .ok (.iload_n 2, 1) := by decide +kernel
theorem dX6_knotBelow_7 : decode cX6_knotBelow 7 = .ok (.iadd, 1) := by decide +kernel
theorem dX6_knotBelow_8 : decode cX6_knotBelow 8 = .ok (.iconst 1, 1) := by decide +kernel
theorem dX6_knotBelow_9 : decode cX6_knotBelow 9 = .ok (.isub, 1) := by decide +kernel
theorem dX6_knotBelow_10 : decode cX6_knotBelow 10 = .ok (.istore 4, 2) := by decide +kernel
theorem dX6_knotBelow_12 : decode cX6_knotBelow 12 = .ok (.iload_n 3, 1) := by decide +kernel
theorem dX6_knotBelow_13 : decode cX6_knotBelow 13 = .ok (.iload_n 2, 1) := by decide +kernel
theorem dX6_knotBelow_14 : decode cX6_knotBelow 14 = .ok (.if_icmp .ge 38, 3) := by decide +kernel
theorem dX6_knotBelow_17 : decode cX6_knotBelow 17 = .ok (.iload_n 2, 1) := by decide +kernel
theorem dX6_knotBelow_18 : decode cX6_knotBelow 18 = .ok (.aload_n 0, 1) := by decide +kernel
theorem dX6_knotBelow_19 : decode cX6_knotBelow 19 = .ok (.getfield 15, 3) := by decide +kernel
theorem dX6_knotBelow_22 : decode cX6_knotBelow 22 = .ok (.iload_n 1, 1) := by decide +kernel
theorem dX6_knotBelow_23 : decode cX6_knotBelow 23 = .ok (.iaload, 1) := by decide +kernel
theorem dX6_knotBelow_24 : decode cX6_knotBelow 24 = .ok (.if_icmp .gt 28, 3) := by decide +kernel
theorem dX6_knotBelow_27 : decode cX6_knotBelow 27 = .ok (.aload_n 0, 1) := by decide +kernel
theorem dX6_knotBelow_28 : decode cX6_knotBelow 28 = .ok (.getfield 9, 3) := by decide +kernel
theorem dX6_knotBelow_31 : decode cX6_knotBelow 31 = .ok (.iload 4, 2) := by decide +kernel
theorem dX6_knotBelow_33 : decode cX6_knotBelow 33 = .ok (.iload_n 3, 1) := by decide +kernel
theorem dX6_knotBelow_34 : decode cX6_knotBelow 34 = .ok (.isub, 1) := by decide +kernel
theorem dX6_knotBelow_35 : decode cX6_knotBelow 35 = .ok (.iaload, 1) := by decide +kernel
theorem dX6_knotBelow_36 : decode cX6_knotBelow 36 = .ok (.aload_n 0, 1) := by decide +kernel
theorem dX6_knotBelow_37 : decode cX6_knotBelow 37 = .ok (.getfield 9, 3) := by decide +kernel
theorem dX6_knotBelow_40 : decode cX6_knotBelow 40 = .ok (.iload 4, 2) := by decide +kernel
theorem dX6_knotBelow_42 : decode cX6_knotBelow 42 = .ok (.iaload, 1) := by decide +kernel
theorem dX6_knotBelow_43 : decode cX6_knotBelow 43 = .ok (.if_icmp .ne 9, 3) := by decide +kernel
theorem dX6_knotBelow_46 : decode cX6_knotBelow 46 = .ok (.iinc 3 1, 3) := by decide +kernel
theorem dX6_knotBelow_49 : decode cX6_knotBelow 49 = .ok (.goto (-37), 3) := by decide +kernel
theorem dX6_knotBelow_52 : decode cX6_knotBelow 52 = .ok (.iload_n 3, 1) := by decide +kernel
theorem dX6_knotBelow_53 : decode cX6_knotBelow 53 = .ok (.ireturn, 1) := by decide +kernel
theorem dX6_cutOff_0 : decode cX6_cutOff 0 = .ok (.aload_n 0, 1) := by decide +kernel
theorem dX6_cutOff_1 : decode cX6_cutOff 1 = .ok (.iload_n 1, 1) := by decide +kernel
theorem dX6_cutOff_2 : decode cX6_cutOff 2 = .ok (.aload_n 0, 1) := by decide +kernel
theorem dX6_cutOff_3 : decode cX6_cutOff 3 = .ok (.getfield 15, 3) := by decide +kernel
theorem dX6_cutOff_6 : decode cX6_cutOff 6 = .ok (.iload_n 1, 1) := by decide +kernel
theorem dX6_cutOff_7 : decode cX6_cutOff 7 = .ok (.iaload, 1) := by decide +kernel
theorem dX6_cutOff_8 : decode cX6_cutOff 8 = .ok (.invokevirtual 64, 3) := by decide +kernel
theorem dX6_cutOff_11 : decode cX6_cutOff 11 = .ok (.istore_n 2, 1) := by decide +kernel
theorem dX6_cutOff_12 : decode cX6_cutOff 12 = .ok (.aload_n 0, 1) := by decide +kernel
theorem dX6_cutOff_13 : decode cX6_cutOff 13 = .ok (.getfield 15, 3) := by decide +kernel
theorem dX6_cutOff_16 : decode cX6_cutOff 16 = .ok (.iload_n 1, 1) := by decide +kernel
theorem dX6_cutOff_17 : decode cX6_cutOff 17 = .ok (.dup2, 1) := by decide +kernel
theorem dX6_cutOff_18 : decode cX6_cutOff 18 = .ok (.iaload, 1) := by decide +kernel
theorem dX6_cutOff_19 : decode cX6_cutOff 19 = .ok (.iload_n 2, 1) := by decide +kernel
theorem dX6_cutOff_20 : decode cX6_cutOff 20 = .ok (.isub, 1) := by decide +kernel
theorem dX6_cutOff_21 : decode cX6_cutOff 21 = .ok (.iastore, 1) := by decide +kernel
theorem dX6_cutOff_22 : decode cX6_cutOff 22 = .ok (.aload_n 0, 1) := by decide +kernel
theorem dX6_cutOff_23 : decode cX6_cutOff 23 = .ok (.dup, 1) := by decide +kernel
theorem dX6_cutOff_24 : decode cX6_cutOff 24 = .ok (.getfield 46, 3) := by decide +kernel
theorem dX6_cutOff_27 : decode cX6_cutOff 27 = .ok (.iload_n 2, 1) := by decide +kernel
theorem dX6_cutOff_28 : decode cX6_cutOff 28 = .ok (.iadd, 1) := by decide +kernel
theorem dX6_cutOff_29 : decode cX6_cutOff 29 = .ok (.putfield 46, 3) := by decide +kernel
theorem dX6_cutOff_32 : decode cX6_cutOff 32 = .ok (.aload_n 0, 1) := by decide +kernel
theorem dX6_cutOff_33 : decode cX6_cutOff 33 = .ok (.dup, 1) := by decide +kernel
theorem dX6_cutOff_34 : decode cX6_cutOff 34 = .ok (.getfield 43, 3) := by decide +kernel
theorem dX6_cutOff_37 : decode cX6_cutOff 37 = .ok (.iconst 1, 1) := by decide +kernel
theorem dX6_cutOff_38 : decode cX6_cutOff 38 = .ok (.iadd, 1) := by decide +kernel
theorem dX6_cutOff_39 : decode cX6_cutOff 39 = .ok (.putfield 43, 3) := by decide +kernel
theorem dX6_cutOff_42 : decode cX6_cutOff 42 = .ok (.return_, 1) := by decide +kernel
theorem dX0_liveCut_0 : decode cX0_liveCut 0 = .ok (.aload_n 1, 1) := by decide +kernel
theorem dX0_liveCut_1 : decode cX0_liveCut 1 = .ok (.iload_n 2, 1) := by decide +kernel
theorem dX0_liveCut_2 : decode cX0_liveCut 2 = .ok (.invokevirtual 172, 3) := by decide +kernel
theorem dX0_liveCut_5 : decode cX0_liveCut 5 = .ok (.istore_n 3, 1) := by decide +kernel
theorem dX0_liveCut_6 : decode cX0_liveCut 6 = .ok (.iload_n 3, 1) := by decide +kernel
theorem dX0_liveCut_7 : decode cX0_liveCut 7 = .ok (.ifCond .eq 8, 3) := by decide +kernel
theorem dX0_liveCut_10 : decode cX0_liveCut 10 = .ok (.bipush 10, 2) := by decide +kernel
theorem dX0_liveCut_12 : decode cX0_liveCut 12 = .ok (.iload_n 3, 1) := by decide +kernel
theorem dX0_liveCut_13 : decode cX0_liveCut 13 = .ok (.iadd, 1) := by decide +kernel
theorem dX0_liveCut_14 : decode cX0_liveCut 14 = .ok (.ireturn, 1) := by decide +kernel
theorem dX0_liveCut_15 : decode cX0_liveCut 15 = .ok (.aload_n 1, 1) := by decide +kernel
theorem dX0_liveCut_16 : decode cX0_liveCut 16 = .ok (.iload_n 2, 1) := by decide +kernel
theorem dX0_liveCut_17 : decode cX0_liveCut 17 = .ok (.invokevirtual 176, 3) := by decide +kernel
theorem dX0_liveCut_20 : decode cX0_liveCut 20 = .ok (.iconst 0, 1) := by decide +kernel
theorem dX0_liveCut_21 : decode cX0_liveCut 21 = .ok (.ireturn, 1) := by decide +kernel
theorem dX6_layerAt_0 : decode cX6_layerAt 0 = .ok (.iload_n 2, 1) := by decide +kernel
theorem dX6_layerAt_1 : decode cX6_layerAt 1 = .ok (.ifCond .lt 13, 3) := by decide +kernel
theorem dX6_layerAt_4 : decode cX6_layerAt 4 = .ok (.iload_n 2, 1) := by decide +kernel
theorem dX6_layerAt_5 : decode cX6_layerAt 5 = .ok (.aload_n 0, 1) := by decide +kernel
theorem dX6_layerAt_6 : decode cX6_layerAt 6 = .ok (.getfield 15, 3) := by decide +kernel
theorem dX6_layerAt_9 : decode cX6_layerAt 9 = .ok (.iload_n 1, 1) := by decide +kernel
theorem dX6_layerAt_10 : decode cX6_layerAt 10 = .ok (.iaload, 1) := by decide +kernel
theorem dX6_layerAt_11 : decode cX6_layerAt 11 = .ok (.if_icmp .lt 7, 3) := by decide +kernel
theorem dX6_layerAt_14 : decode cX6_layerAt 14 = .ok (.iconst (-1), 1) := by decide +kernel
theorem dX6_layerAt_15 : decode cX6_layerAt 15 = .ok (.goto 14, 3) := by decide +kernel
theorem dX6_layerAt_18 : decode cX6_layerAt 18 = .ok (.aload_n 0, 1) := by decide +kernel
theorem dX6_layerAt_19 : decode cX6_layerAt 19 = .ok (.getfield 9, 3) := by decide +kernel
theorem dX6_layerAt_22 : decode cX6_layerAt 22 = .ok (.iload_n 1, 1) := by decide +kernel
theorem dX6_layerAt_23 : decode cX6_layerAt 23 = .ok (.bipush 8, 2) := by decide +kernel
theorem dX6_layerAt_25 : decode cX6_layerAt 25 = .ok (.imul, 1) := by decide +kernel
theorem dX6_layerAt_26 : decode cX6_layerAt 26 = .ok (.iload_n 2, 1) := by decide +kernel
theorem dX6_layerAt_27 : decode cX6_layerAt 27 = .ok (.iadd, 1) := by decide +kernel
theorem dX6_layerAt_28 : decode cX6_layerAt 28 = .ok (.iaload, 1) := by decide +kernel
theorem dX6_layerAt_29 : decode cX6_layerAt 29 = .ok (.ireturn, 1) := by decide +kernel
theorem dX6_holdAt_0 : decode cX6_holdAt 0 = .ok (.aload_n 0, 1) := by decide +kernel
theorem dX6_holdAt_1 : decode cX6_holdAt 1 = .ok (.iload_n 2, 1) := by decide +kernel
theorem dX6_holdAt_2 : decode cX6_holdAt 2 = .ok (.iload_n 3, 1) := by decide +kernel
theorem dX6_holdAt_3 : decode cX6_holdAt 3 = .ok (.invokevirtual 55, 3) := by decide +kernel
theorem dX6_holdAt_6 : decode cX6_holdAt 6 = .ok (.istore 4, 2) := by decide +kernel
theorem dX6_holdAt_8 : decode cX6_holdAt 8 = .ok (.iload 4, 2) := by decide +kernel
theorem dX6_holdAt_10 : decode cX6_holdAt 10 = .ok (.ifCond .lt 10, 3) := by decide +kernel
theorem dX6_holdAt_13 : decode cX6_holdAt 13 = .ok (.iload 4, 2) := by decide +kernel
theorem dX6_holdAt_15 : decode cX6_holdAt 15 = .ok (.bipush 8, 2) := by decide +kernel
theorem dX6_holdAt_17 : decode cX6_holdAt 17 = .ok (.if_icmp .lt 7, 3) := by decide +kernel
theorem dX6_holdAt_20 : decode cX6_holdAt 20 = .ok (.iconst 0, 1) := by decide +kernel
theorem dX6_holdAt_21 : decode cX6_holdAt 21 = .ok (.goto 10, 3) := by decide +kernel
theorem dX6_holdAt_24 : decode cX6_holdAt 24 = .ok (.aload_n 1, 1) := by decide +kernel
theorem dX6_holdAt_25 : decode cX6_holdAt 25 = .ok (.getfield 59, 3) := by decide +kernel
theorem dX6_holdAt_28 : decode cX6_holdAt 28 = .ok (.iload 4, 2) := by decide +kernel
theorem dX6_holdAt_30 : decode cX6_holdAt 30 = .ok (.iaload, 1) := by decide +kernel
theorem dX6_holdAt_31 : decode cX6_holdAt 31 = .ok (.ireturn, 1) := by decide +kernel
theorem dX6_outsideHolds_0 : decode cX6_outsideHolds 0 = .ok (.aload_n 0, 1) := by decide +kernel
theorem dX6_outsideHolds_1 : decode cX6_outsideHolds 1 = .ok (.iload_n 2, 1) := by decide +kernel
theorem dX6_outsideHolds_2 : decode cX6_outsideHolds 2 = .ok (.aload_n 0, 1) := by decide +kernel
theorem dX6_outsideHolds_3 : decode cX6_outsideHolds 3 = .ok (.getfield 15, 3) := by decide +kernel
theorem dX6_outsideHolds_6 : decode cX6_outsideHolds 6 = .ok (.iload_n 2, 1) := by decide +kernel
theorem dX6_outsideHolds_7 : decode cX6_outsideHolds 7 = .ok (.iaload, 1) := by decide +kernel
theorem dX6_outsideHolds_8 : decode cX6_outsideHolds 8 = .ok (.invokevirtual 64, 3) := by decide +kernel
theorem dX6_outsideHolds_11 : decode cX6_outsideHolds 11 = .ok (.aload_n 0, 1) := by decide +kernel
theorem dX6_outsideHolds_12 : decode cX6_outsideHolds 12 = .ok (.aload_n 1, 1) := by decide +kernel
theorem dX6_outsideHolds_13 : decode cX6_outsideHolds 13 = .ok (.iload_n 2, 1) := by decide +kernel
theorem dX6_outsideHolds_14 : decode cX6_outsideHolds 14 = .ok (.aload_n 0, 1) := by decide +kernel
theorem dX6_outsideHolds_15 : decode cX6_outsideHolds 15 = .ok (.getfield 15, 3) := by decide +kernel
theorem dX6_outsideHolds_18 : decode cX6_outsideHolds 18 = .ok (.iload_n 2, 1) := by decide +kernel
theorem dX6_outsideHolds_19 : decode cX6_outsideHolds 19 = .ok (.iaload, 1) := by decide +kernel
theorem dX6_outsideHolds_20 : decode cX6_outsideHolds 20 = .ok (.iconst 1, 1) := by decide +kernel
theorem dX6_outsideHolds_21 : decode cX6_outsideHolds 21 = .ok (.isub, 1) := by decide +kernel
theorem dX6_outsideHolds_22 : decode cX6_outsideHolds 22 = .ok (.invokevirtual 67, 3) := by decide +kernel
theorem dX6_outsideHolds_25 : decode cX6_outsideHolds 25 = .ok (.imul, 1) := by decide +kernel
theorem dX6_outsideHolds_26 : decode cX6_outsideHolds 26 = .ok (.ireturn, 1) := by decide +kernel
theorem dX6_whyNoStroke_0 : decode cX6_whyNoStroke 0 = .ok (.aload_n 0, 1) := by decide +kernel
theorem dX6_whyNoStroke_1 : decode cX6_whyNoStroke 1 = .ok (.getfield 15, 3) := by decide +kernel
theorem dX6_whyNoStroke_4 : decode cX6_whyNoStroke 4 = .ok (.iload_n 2, 1) := by decide +kernel
theorem dX6_whyNoStroke_5 : decode cX6_whyNoStroke 5 = .ok (.iaload, 1) := by decide +kernel
theorem dX6_whyNoStroke_6 : decode cX6_whyNoStroke 6 = .ok (.ifCond .ne 5, 3) := by decide +kernel
theorem dX6_whyNoStroke_9 : decode cX6_whyNoStroke 9 = .ok (.iconst 1, 1) := by decide +kernel
theorem dX6_whyNoStroke_10 : decode cX6_whyNoStroke 10 = .ok (.ireturn, 1) := by decide +kernel
theorem dX6_whyNoStroke_11 : decode cX6_whyNoStroke 11 = .ok (.aload_n 0, 1) := by decide +kernel
theorem dX6_whyNoStroke_12 : decode cX6_whyNoStroke 12 = .ok (.aload_n 1, 1) := by decide +kernel
theorem dX6_whyNoStroke_13 : decode cX6_whyNoStroke 13 = .ok (.iload_n 2, 1) := by decide +kernel
theorem dX6_whyNoStroke_14 : decode cX6_whyNoStroke 14 = .ok (.invokevirtual 92, 3) := by decide +kernel
theorem dX6_whyNoStroke_17 : decode cX6_whyNoStroke 17 = .ok (.iload_n 3, 1) := by decide +kernel
theorem dX6_whyNoStroke_18 : decode cX6_whyNoStroke 18 = .ok (.if_icmp .le 5, 3) := by decide +kernel
theorem dX6_whyNoStroke_21 : decode cX6_whyNoStroke 21 = .ok (.iconst 2, 1) := by decide +kernel
theorem dX6_whyNoStroke_22 : decode cX6_whyNoStroke 22 = .ok (.ireturn, 1) := by decide +kernel
theorem dX6_whyNoStroke_23 : decode cX6_whyNoStroke 23 = .ok (.iload_n 3, 1) := by decide +kernel
theorem dX6_whyNoStroke_24 : decode cX6_whyNoStroke 24 = .ok (.aload_n 1, 1) := by decide +kernel
theorem dX6_whyNoStroke_25 : decode cX6_whyNoStroke 25 = .ok (.getfield 96, 3) := by decide +kernel
theorem dX6_whyNoStroke_28 : decode cX6_whyNoStroke 28 = .ok (.if_icmp .le 5, 3) := by decide +kernel
theorem dX6_whyNoStroke_31 : decode cX6_whyNoStroke 31 = .ok (.iconst 3, 1) := by decide +kernel
theorem dX6_whyNoStroke_32 : decode cX6_whyNoStroke 32 = .ok (.ireturn, 1) := by decide +kernel
theorem dX6_whyNoStroke_33 : decode cX6_whyNoStroke 33 = .ok (.aload_n 0, 1) := by decide +kernel
theorem dX6_whyNoStroke_34 : decode cX6_whyNoStroke 34 = .ok (.getfield 18, 3) := by decide +kernel
theorem dX6_whyNoStroke_37 : decode cX6_whyNoStroke 37 = .ok (.iload_n 2, 1) := by decide +kernel
theorem dX6_whyNoStroke_38 : decode cX6_whyNoStroke 38 = .ok (.iaload, 1) := by decide +kernel
theorem dX6_whyNoStroke_39 : decode cX6_whyNoStroke 39 = .ok (.iload_n 3, 1) := by decide +kernel
theorem dX6_whyNoStroke_40 : decode cX6_whyNoStroke 40 = .ok (.iadd, 1) := by decide +kernel
theorem dX6_whyNoStroke_41 : decode cX6_whyNoStroke 41 = .ok (.aload_n 1, 1) := by decide +kernel
theorem dX6_whyNoStroke_42 : decode cX6_whyNoStroke 42 = .ok (.getfield 99, 3) := by decide +kernel
theorem dX6_whyNoStroke_45 : decode cX6_whyNoStroke 45 = .ok (.iload_n 2, 1) := by decide +kernel
theorem dX6_whyNoStroke_46 : decode cX6_whyNoStroke 46 = .ok (.iaload, 1) := by decide +kernel
theorem dX6_whyNoStroke_47 : decode cX6_whyNoStroke 47 = .ok (.if_icmp .le 7, 3) := by decide +kernel
theorem dX6_whyNoStroke_50 : decode cX6_whyNoStroke 50 = .ok (.iconst 4, 1) := by decide +kernel
theorem dX6_whyNoStroke_51 : decode cX6_whyNoStroke 51 = .ok (.goto 4, 3) := by decide +kernel
theorem dX6_whyNoStroke_54 : decode cX6_whyNoStroke 54 = .ok (.iconst 0, 1) := by decide +kernel
theorem dX6_whyNoStroke_55 : decode cX6_whyNoStroke 55 = .ok (.ireturn, 1) := by decide +kernel
theorem dX6_layerFromOutside_0 : decode cX6_layerFromOutside 0 = .ok (.aload_n 0, 1) := by decide +kernel
theorem dX6_layerFromOutside_1 : decode cX6_layerFromOutside 1 = .ok (.iload_n 1, 1) := by decide +kernel
theorem dX6_layerFromOutside_2 : decode cX6_layerFromOutside 2 = .ok (.aload_n 0, 1) := by decide +kernel
theorem dX6_layerFromOutside_3 : decode cX6_layerFromOutside 3 = .ok (.getfield 15, 3) := by decide +kernel
theorem dX6_layerFromOutside_6 : decode cX6_layerFromOutside 6 = .ok (.iload_n 1, 1) := by decide +kernel
theorem dX6_layerFromOutside_7 : decode cX6_layerFromOutside 7 = .ok (.iaload, 1) := by decide +kernel
theorem dX6_layerFromOutside_8 : decode cX6_layerFromOutside 8 = .ok (.iconst 1, 1) := by decide +kernel
theorem dX6_layerFromOutside_9 : decode cX6_layerFromOutside 9 = .ok (.isub, 1) := by decide +kernel
theorem dX6_layerFromOutside_10 : decode cX6_layerFromOutside 10 = .ok (.iload_n 2, 1) := by decide +kernel
theorem dX6_layerFromOutside_11 : decode cX6_layerFromOutside 11 = .ok (.isub, 1) := by decide +kernel
theorem dX6_layerFromOutside_12 : decode cX6_layerFromOutside 12 = .ok (.invokevirtual 55, 3) := by decide +kernel
theorem dX6_layerFromOutside_15 : decode cX6_layerFromOutside 15 = .ok (.ireturn, 1) := by decide +kernel
theorem dX6_putOutsideKnotIntoBag_0 : decode cX6_putOutsideKnotIntoBag 0 = .ok (.aload_n 0, 1) := by decide +kernel
theorem dX6_putOutsideKnotIntoBag_1 : decode cX6_putOutsideKnotIntoBag 1 = .ok (.iload_n 1, 1) := by decide +kernel
theorem dX6_putOutsideKnotIntoBag_2 : decode cX6_putOutsideKnotIntoBag 2 = .ok (.aload_n 0, 1) := by decide +kernel
theorem dX6_putOutsideKnotIntoBag_3 : decode cX6_putOutsideKnotIntoBag 3 = .ok (.getfield 15, 3) := by decide +kernel
theorem dX6_putOutsideKnotIntoBag_6 : decode cX6_putOutsideKnotIntoBag 6 = .ok (.iload_n 1, 1) := by decide +kernel
theorem dX6_putOutsideKnotIntoBag_7 : decode cX6_putOutsideKnotIntoBag 7 = .ok (.iaload, 1) := by decide +kernel
theorem dX6_putOutsideKnotIntoBag_8 : decode cX6_putOutsideKnotIntoBag 8 = .ok (.invokevirtual 64, 3) := by decide +kernel
theorem dX6_putOutsideKnotIntoBag_11 : decode cX6_putOutsideKnotIntoBag 11 = .ok (.istore_n 2, 1) := by decide +kernel
theorem dX6_putOutsideKnotIntoBag_12 : decode cX6_putOutsideKnotIntoBag 12 = .ok (.aload_n 0, 1) := by decide +kernel
theorem dX6_putOutsideKnotIntoBag_13 : decode cX6_putOutsideKnotIntoBag 13 = .ok (.iload_n 1, 1) := by decide +kernel
theorem dX6_putOutsideKnotIntoBag_14 : decode cX6_putOutsideKnotIntoBag 14 = .ok (.iconst 0, 1) := by decide +kernel
theorem dX6_putOutsideKnotIntoBag_15 : decode cX6_putOutsideKnotIntoBag 15 = .ok (.invokevirtual 106, 3) := by decide +kernel
theorem dX6_putOutsideKnotIntoBag_18 : decode cX6_putOutsideKnotIntoBag 18 = .ok (.istore_n 3, 1) := by decide +kernel
theorem dX6_putOutsideKnotIntoBag_19 : decode cX6_putOutsideKnotIntoBag 19 = .ok (.iload_n 3, 1) := by decide +kernel
theorem dX6_putOutsideKnotIntoBag_20 : decode cX6_putOutsideKnotIntoBag 20 = .ok (.ifCond .lt 9, 3) := by decide +kernel
theorem dX6_putOutsideKnotIntoBag_23 : decode cX6_putOutsideKnotIntoBag 23 = .ok (.iload_n 3, 1) := by decide +kernel
theorem dX6_putOutsideKnotIntoBag_24 : decode cX6_putOutsideKnotIntoBag 24 = .ok (.bipush 8, 2) := by decide +kernel
theorem dX6_putOutsideKnotIntoBag_26 : decode cX6_putOutsideKnotIntoBag 26 = .ok (.if_icmp .lt 4, 3) := by decide +kernel
theorem dX6_putOutsideKnotIntoBag_29 : decode cX6_putOutsideKnotIntoBag 29 = .ok (.return_, 1) := by decide +kernel
theorem dX6_putOutsideKnotIntoBag_30 : decode cX6_putOutsideKnotIntoBag 30 = .ok (.iload_n 2, 1) := by decide +kernel
theorem dX6_putOutsideKnotIntoBag_31 : decode cX6_putOutsideKnotIntoBag 31 = .ok (.bipush 10, 2) := by decide +kernel
theorem dX6_putOutsideKnotIntoBag_33 : decode cX6_putOutsideKnotIntoBag 33 = .ok (.aload_n 0, 1) := by decide +kernel
theorem dX6_putOutsideKnotIntoBag_34 : decode cX6_putOutsideKnotIntoBag 34 = .ok (.getfield 33, 3) := by decide +kernel
theorem dX6_putOutsideKnotIntoBag_37 : decode cX6_putOutsideKnotIntoBag 37 = .ok (.isub, 1) := by decide +kernel
theorem dX6_putOutsideKnotIntoBag_38 : decode cX6_putOutsideKnotIntoBag 38 = .ok (.invokestatic 109, 3) := by decide +kernel
theorem dX6_putOutsideKnotIntoBag_41 : decode cX6_putOutsideKnotIntoBag 41 = .ok (.istore 4, 2) := by decide +kernel
theorem dX6_putOutsideKnotIntoBag_43 : decode cX6_putOutsideKnotIntoBag 43 = .ok (.aload_n 0, 1) := by decide +kernel
theorem dX6_putOutsideKnotIntoBag_44 : decode cX6_putOutsideKnotIntoBag 44 = .ok (.getfield 21, 3) := by decide +kernel
theorem dX6_putOutsideKnotIntoBag_47 : decode cX6_putOutsideKnotIntoBag 47 = .ok (.iload_n 3, 1) := by decide +kernel
theorem dX6_putOutsideKnotIntoBag_48 : decode cX6_putOutsideKnotIntoBag 48 = .ok (.dup2, 1) := by decide +kernel
theorem dX6_putOutsideKnotIntoBag_49 : decode cX6_putOutsideKnotIntoBag 49 = .ok (.iaload, 1) := by decide +kernel
theorem dX6_putOutsideKnotIntoBag_50 : decode cX6_putOutsideKnotIntoBag 50 = .ok (.iload 4, 2) := by decide +kernel
theorem dX6_putOutsideKnotIntoBag_52 : decode cX6_putOutsideKnotIntoBag 52 = .ok (.iadd, 1) := by decide +kernel
theorem dX6_putOutsideKnotIntoBag_53 : decode cX6_putOutsideKnotIntoBag 53 = .ok (.iastore, 1) := by decide +kernel
theorem dX6_putOutsideKnotIntoBag_54 : decode cX6_putOutsideKnotIntoBag 54 = .ok (.aload_n 0, 1) := by decide +kernel
theorem dX6_putOutsideKnotIntoBag_55 : decode cX6_putOutsideKnotIntoBag 55 = .ok (.dup, 1) := by decide +kernel
theorem dX6_putOutsideKnotIntoBag_56 : decode cX6_putOutsideKnotIntoBag 56 = .ok (.getfield 33, 3) := by decide +kernel
theorem dX6_putOutsideKnotIntoBag_59 : decode cX6_putOutsideKnotIntoBag 59 = .ok (.iload 4, 2) := by decide +kernel
theorem dX6_putOutsideKnotIntoBag_61 : decode cX6_putOutsideKnotIntoBag 61 = .ok (.iadd, 1) := by decide +kernel
theorem dX6_putOutsideKnotIntoBag_62 : decode cX6_putOutsideKnotIntoBag 62 = .ok (.putfield 33, 3) := by decide +kernel
theorem dX6_putOutsideKnotIntoBag_65 : decode cX6_putOutsideKnotIntoBag 65 = .ok (.aload_n 0, 1) := by decide +kernel
theorem dX6_putOutsideKnotIntoBag_66 : decode cX6_putOutsideKnotIntoBag 66 = .ok (.dup, 1) := by decide +kernel
theorem dX6_putOutsideKnotIntoBag_67 : decode cX6_putOutsideKnotIntoBag 67 = .ok (.getfield 46, 3) := by decide +kernel
theorem dX6_putOutsideKnotIntoBag_70 : decode cX6_putOutsideKnotIntoBag 70 = .ok (.iload_n 2, 1) := by decide +kernel
theorem dX6_putOutsideKnotIntoBag_71 : decode cX6_putOutsideKnotIntoBag 71 = .ok (.iload 4, 2) := by decide +kernel
theorem dX6_putOutsideKnotIntoBag_73 : decode cX6_putOutsideKnotIntoBag 73 = .ok (.isub, 1) := by decide +kernel
theorem dX6_putOutsideKnotIntoBag_74 : decode cX6_putOutsideKnotIntoBag 74 = .ok (.iadd, 1) := by decide +kernel
theorem dX6_putOutsideKnotIntoBag_75 : decode cX6_putOutsideKnotIntoBag 75 = .ok (.putfield 46, 3) := by decide +kernel
theorem dX6_putOutsideKnotIntoBag_78 : decode cX6_putOutsideKnotIntoBag 78 = .ok (.aload_n 0, 1) := by decide +kernel
theorem dX6_putOutsideKnotIntoBag_79 : decode cX6_putOutsideKnotIntoBag 79 = .ok (.getfield 15, 3) := by decide +kernel
theorem dX6_putOutsideKnotIntoBag_82 : decode cX6_putOutsideKnotIntoBag 82 = .ok (.iload_n 1, 1) := by decide +kernel
theorem dX6_putOutsideKnotIntoBag_83 : decode cX6_putOutsideKnotIntoBag 83 = .ok (.dup2, 1) := by decide +kernel
theorem dX6_putOutsideKnotIntoBag_84 : decode cX6_putOutsideKnotIntoBag 84 = .ok (.iaload, 1) := by decide +kernel
theorem dX6_putOutsideKnotIntoBag_85 : decode cX6_putOutsideKnotIntoBag 85 = .ok (.iload_n 2, 1) := by decide +kernel
theorem dX6_putOutsideKnotIntoBag_86 : decode cX6_putOutsideKnotIntoBag 86 = .ok (.isub, 1) := by decide +kernel
theorem dX6_putOutsideKnotIntoBag_87 : decode cX6_putOutsideKnotIntoBag 87 = .ok (.iastore, 1) := by decide +kernel
theorem dX6_putOutsideKnotIntoBag_88 : decode cX6_putOutsideKnotIntoBag 88 = .ok (.return_, 1) := by decide +kernel
theorem dX6_comb_0 : decode cX6_comb 0 = .ok (.iload_n 3, 1) := by decide +kernel
theorem dX6_comb_1 : decode cX6_comb 1 = .ok (.istore 4, 2) := by decide +kernel
theorem dX6_comb_3 : decode cX6_comb 3 = .ok (.iconst 0, 1) := by decide +kernel
theorem dX6_comb_4 : decode cX6_comb 4 = .ok (.istore 5, 2) := by decide +kernel
theorem dX6_comb_6 : decode cX6_comb 6 = .ok (.iload 5, 2) := by decide +kernel
theorem dX6_comb_8 : decode cX6_comb 8 = .ok (.bipush 8, 2) := by decide +kernel
theorem dX6_comb_10 : decode cX6_comb 10 = .ok (.if_icmp .ge 45, 3) := by decide +kernel
theorem dX6_comb_13 : decode cX6_comb 13 = .ok (.aload_n 0, 1) := by decide +kernel
theorem dX6_comb_14 : decode cX6_comb 14 = .ok (.getfield 15, 3) := by decide +kernel
theorem dX6_comb_17 : decode cX6_comb 17 = .ok (.iload_n 2, 1) := by decide +kernel
theorem dX6_comb_18 : decode cX6_comb 18 = .ok (.iaload, 1) := by decide +kernel
theorem dX6_comb_19 : decode cX6_comb 19 = .ok (.ifCond .le 36, 3) := by decide +kernel
theorem dX6_comb_22 : decode cX6_comb 22 = .ok (.aload_n 0, 1) := by decide +kernel
theorem dX6_comb_23 : decode cX6_comb 23 = .ok (.aload_n 1, 1) := by decide +kernel
theorem dX6_comb_24 : decode cX6_comb 24 = .ok (.iload_n 2, 1) := by decide +kernel
theorem dX6_comb_25 : decode cX6_comb 25 = .ok (.invokevirtual 92, 3) := by decide +kernel
theorem dX6_comb_28 : decode cX6_comb 28 = .ok (.iload 4, 2) := by decide +kernel
theorem dX6_comb_30 : decode cX6_comb 30 = .ok (.if_icmp .gt 25, 3) := by decide +kernel
theorem dX6_comb_33 : decode cX6_comb 33 = .ok (.iload 4, 2) := by decide +kernel
theorem dX6_comb_35 : decode cX6_comb 35 = .ok (.aload_n 0, 1) := by decide +kernel
theorem dX6_comb_36 : decode cX6_comb 36 = .ok (.aload_n 1, 1) := by decide +kernel
theorem dX6_comb_37 : decode cX6_comb 37 = .ok (.iload_n 2, 1) := by decide +kernel
theorem dX6_comb_38 : decode cX6_comb 38 = .ok (.invokevirtual 92, 3) := by decide +kernel
theorem dX6_comb_41 : decode cX6_comb 41 = .ok (.isub, 1) := by decide +kernel
theorem dX6_comb_42 : decode cX6_comb 42 = .ok (.istore 4, 2) := by decide +kernel
theorem dX6_comb_44 : decode cX6_comb 44 = .ok (.aload_n 0, 1) := by decide +kernel
theorem dX6_comb_45 : decode cX6_comb 45 = .ok (.iload_n 2, 1) := by decide +kernel
theorem dX6_comb_46 : decode cX6_comb 46 = .ok (.invokevirtual 102, 3) := by decide +kernel
theorem dX6_comb_49 : decode cX6_comb 49 = .ok (.iinc 5 1, 3) := by decide +kernel
theorem dX6_comb_52 : decode cX6_comb 52 = .ok (.goto (-46), 3) := by decide +kernel
theorem dX6_comb_55 : decode cX6_comb 55 = .ok (.aload_n 0, 1) := by decide +kernel
theorem dX6_comb_56 : decode cX6_comb 56 = .ok (.getfield 18, 3) := by decide +kernel
theorem dX6_comb_59 : decode cX6_comb 59 = .ok (.iload_n 2, 1) := by decide +kernel
theorem dX6_comb_60 : decode cX6_comb 60 = .ok (.dup2, 1) := by decide +kernel
theorem dX6_comb_61 : decode cX6_comb 61 = .ok (.iaload, 1) := by decide +kernel
theorem dX6_comb_62 : decode cX6_comb 62 = .ok (.iload_n 3, 1) := by decide +kernel
theorem dX6_comb_63 : decode cX6_comb 63 = .ok (.iadd, 1) := by decide +kernel
theorem dX6_comb_64 : decode cX6_comb 64 = .ok (.iastore, 1) := by decide +kernel
theorem dX6_comb_65 : decode cX6_comb 65 = .ok (.aload_n 0, 1) := by decide +kernel
theorem dX6_comb_66 : decode cX6_comb 66 = .ok (.dup, 1) := by decide +kernel
theorem dX6_comb_67 : decode cX6_comb 67 = .ok (.getfield 40, 3) := by decide +kernel
theorem dX6_comb_70 : decode cX6_comb 70 = .ok (.iconst 1, 1) := by decide +kernel
theorem dX6_comb_71 : decode cX6_comb 71 = .ok (.iadd, 1) := by decide +kernel
theorem dX6_comb_72 : decode cX6_comb 72 = .ok (.putfield 40, 3) := by decide +kernel
theorem dX6_comb_75 : decode cX6_comb 75 = .ok (.return_, 1) := by decide +kernel
theorem dX0_liveStroke_0 : decode cX0_liveStroke 0 = .ok (.aload_n 2, 1) := by decide +kernel
theorem dX0_liveStroke_1 : decode cX0_liveStroke 1 = .ok (.aload_n 1, 1) := by decide +kernel
theorem dX0_liveStroke_2 : decode cX0_liveStroke 2 = .ok (.iload_n 3, 1) := by decide +kernel
theorem dX0_liveStroke_3 : decode cX0_liveStroke 3 = .ok (.iload 4, 2) := by decide +kernel
theorem dX0_liveStroke_5 : decode cX0_liveStroke 5 = .ok (.invokevirtual 164, 3) := by decide +kernel
theorem dX0_liveStroke_8 : decode cX0_liveStroke 8 = .ok (.istore 5, 2) := by decide +kernel
theorem dX0_liveStroke_10 : decode cX0_liveStroke 10 = .ok (.iload 5, 2) := by decide +kernel
theorem dX0_liveStroke_12 : decode cX0_liveStroke 12 = .ok (.ifCond .ne 11, 3) := by decide +kernel
theorem dX0_liveStroke_15 : decode cX0_liveStroke 15 = .ok (.aload_n 2, 1) := by decide +kernel
theorem dX0_liveStroke_16 : decode cX0_liveStroke 16 = .ok (.aload_n 1, 1) := by decide +kernel
theorem dX0_liveStroke_17 : decode cX0_liveStroke 17 = .ok (.iload_n 3, 1) := by decide +kernel
theorem dX0_liveStroke_18 : decode cX0_liveStroke 18 = .ok (.iload 4, 2) := by decide +kernel
theorem dX0_liveStroke_20 : decode cX0_liveStroke 20 = .ok (.invokevirtual 168, 3) := by decide +kernel
theorem dX0_liveStroke_23 : decode cX0_liveStroke 23 = .ok (.iload 5, 2) := by decide +kernel
theorem dX0_liveStroke_25 : decode cX0_liveStroke 25 = .ok (.ireturn, 1) := by decide +kernel
theorem dX0_liveLine_0 : decode cX0_liveLine 0 = .ok (.aload_n 0, 1) := by decide +kernel
theorem dX0_liveLine_1 : decode cX0_liveLine 1 = .ok (.getfield 17, 3) := by decide +kernel
theorem dX0_liveLine_4 : decode cX0_liveLine 4 = .ok (.iload_n 3, 1) := by decide +kernel
theorem dX0_liveLine_5 : decode cX0_liveLine 5 = .ok (.iaload, 1) := by decide +kernel
theorem dX0_liveLine_6 : decode cX0_liveLine 6 = .ok (.istore 4, 2) := by decide +kernel
theorem dX0_liveLine_8 : decode cX0_liveLine 8 = .ok (.aload_n 0, 1) := by decide +kernel
theorem dX0_liveLine_9 : decode cX0_liveLine 9 = .ok (.getfield 21, 3) := by decide +kernel
theorem dX0_liveLine_12 : decode cX0_liveLine 12 = .ok (.iload_n 3, 1) := by decide +kernel
theorem dX0_liveLine_13 : decode cX0_liveLine 13 = .ok (.iaload, 1) := by decide +kernel
theorem dX0_liveLine_14 : decode cX0_liveLine 14 = .ok (.istore 5, 2) := by decide +kernel
theorem dX0_liveLine_16 : decode cX0_liveLine 16 = .ok (.aload_n 0, 1) := by decide +kernel
theorem dX0_liveLine_17 : decode cX0_liveLine 17 = .ok (.getfield 13, 3) := by decide +kernel
theorem dX0_liveLine_20 : decode cX0_liveLine 20 = .ok (.iload_n 3, 1) := by decide +kernel
theorem dX0_liveLine_21 : decode cX0_liveLine 21 = .ok (.aaload, 1) := by decide +kernel
theorem dX0_liveLine_22 : decode cX0_liveLine 22 = .ok (.getstatic 104, 3) := by decide +kernel
theorem dX0_liveLine_25 : decode cX0_liveLine 25 = .ok (.if_acmp .ne 14, 3) := by decide +kernel
theorem dX0_liveLine_28 : decode cX0_liveLine 28 = .ok (.aload_n 0, 1) := by decide +kernel
theorem dX0_liveLine_29 : decode cX0_liveLine 29 = .ok (.aload_n 1, 1) := by decide +kernel
theorem dX0_liveLine_30 : decode cX0_liveLine 30 = .ok (.aload_n 2, 1) := by decide +kernel
theorem dX0_liveLine_31 : decode cX0_liveLine 31 = .ok (.iload 4, 2) := by decide +kernel
theorem dX0_liveLine_33 : decode cX0_liveLine 33 = .ok (.iload 5, 2) := by decide +kernel
theorem dX0_liveLine_35 : decode cX0_liveLine 35 = .ok (.invokevirtual 141, 3) := by decide +kernel
theorem dX0_liveLine_38 : decode cX0_liveLine 38 = .ok (.ireturn, 1) := by decide +kernel
theorem dX0_liveLine_39 : decode cX0_liveLine 39 = .ok (.aload_n 0, 1) := by decide +kernel
theorem dX0_liveLine_40 : decode cX0_liveLine 40 = .ok (.getfield 13, 3) := by decide +kernel
theorem dX0_liveLine_43 : decode cX0_liveLine 43 = .ok (.iload_n 3, 1) := by decide +kernel
theorem dX0_liveLine_44 : decode cX0_liveLine 44 = .ok (.aaload, 1) := by decide +kernel
theorem dX0_liveLine_45 : decode cX0_liveLine 45 = .ok (.getstatic 107, 3) := by decide +kernel
theorem dX0_liveLine_48 : decode cX0_liveLine 48 = .ok (.if_acmp .ne 11, 3) := by decide +kernel
theorem dX0_liveLine_51 : decode cX0_liveLine 51 = .ok (.aload_n 0, 1) := by decide +kernel
theorem dX0_liveLine_52 : decode cX0_liveLine 52 = .ok (.aload_n 2, 1) := by decide +kernel
theorem dX0_liveLine_53 : decode cX0_liveLine 53 = .ok (.iload 4, 2) := by decide +kernel
theorem dX0_liveLine_55 : decode cX0_liveLine 55 = .ok (.invokevirtual 145, 3) := by decide +kernel
theorem dX0_liveLine_58 : decode cX0_liveLine 58 = .ok (.ireturn, 1) := by decide +kernel
theorem dX0_liveLine_59 : decode cX0_liveLine 59 = .ok (.aload_n 0, 1) := by decide +kernel
theorem dX0_liveLine_60 : decode cX0_liveLine 60 = .ok (.getfield 13, 3) := by decide +kernel
theorem dX0_liveLine_63 : decode cX0_liveLine 63 = .ok (.iload_n 3, 1) := by decide +kernel
theorem dX0_liveLine_64 : decode cX0_liveLine 64 = .ok (.aaload, 1) := by decide +kernel
theorem dX0_liveLine_65 : decode cX0_liveLine 65 = .ok (.getstatic 110, 3) := by decide +kernel
theorem dX0_liveLine_68 : decode cX0_liveLine 68 = .ok (.if_acmp .ne 13, 3) := by decide +kernel
theorem dX0_liveLine_71 : decode cX0_liveLine 71 = .ok (.aload_n 0, 1) := by decide +kernel
theorem dX0_liveLine_72 : decode cX0_liveLine 72 = .ok (.aload_n 2, 1) := by decide +kernel
theorem dX0_liveLine_73 : decode cX0_liveLine 73 = .ok (.iload 4, 2) := by decide +kernel
theorem dX0_liveLine_75 : decode cX0_liveLine 75 = .ok (.iload 5, 2) := by decide +kernel
theorem dX0_liveLine_77 : decode cX0_liveLine 77 = .ok (.invokevirtual 149, 3) := by decide +kernel
theorem dX0_liveLine_80 : decode cX0_liveLine 80 = .ok (.ireturn, 1) := by decide +kernel
theorem dX0_liveLine_81 : decode cX0_liveLine 81 = .ok (.aload_n 0, 1) := by decide +kernel
theorem dX0_liveLine_82 : decode cX0_liveLine 82 = .ok (.getfield 13, 3) := by decide +kernel
theorem dX0_liveLine_85 : decode cX0_liveLine 85 = .ok (.iload_n 3, 1) := by decide +kernel
theorem dX0_liveLine_86 : decode cX0_liveLine 86 = .ok (.aaload, 1) := by decide +kernel
theorem dX0_liveLine_87 : decode cX0_liveLine 87 = .ok (.getstatic 49, 3) := by decide +kernel
theorem dX0_liveLine_90 : decode cX0_liveLine 90 = .ok (.if_acmp .ne 14, 3) := by decide +kernel
theorem dX0_liveLine_93 : decode cX0_liveLine 93 = .ok (.aload_n 0, 1) := by decide +kernel
theorem dX0_liveLine_94 : decode cX0_liveLine 94 = .ok (.aload_n 1, 1) := by decide +kernel
theorem dX0_liveLine_95 : decode cX0_liveLine 95 = .ok (.aload_n 2, 1) := by decide +kernel
theorem dX0_liveLine_96 : decode cX0_liveLine 96 = .ok (.iload 4, 2) := by decide +kernel
theorem dX0_liveLine_98 : decode cX0_liveLine 98 = .ok (.iload 5, 2) := by decide +kernel
theorem dX0_liveLine_100 : decode cX0_liveLine 100 = .ok (.invokevirtual 153, 3) := by decide +kernel
theorem dX0_liveLine_103 : decode cX0_liveLine 103 = .ok (.ireturn, 1) := by decide +kernel
theorem dX0_liveLine_104 : decode cX0_liveLine 104 = .ok (.iload 5, 2) := by decide +kernel
theorem dX0_liveLine_106 : decode cX0_liveLine 106 = .ok (.aload_n 2, 1) := by decide +kernel
theorem dX0_liveLine_107 : decode cX0_liveLine 107 = .ok (.invokevirtual 156, 3) := by decide +kernel
theorem dX0_liveLine_110 : decode cX0_liveLine 110 = .ok (.if_icmp .le 6, 3) := by decide +kernel
theorem dX0_liveLine_113 : decode cX0_liveLine 113 = .ok (.bipush 41, 2) := by decide +kernel
theorem dX0_liveLine_115 : decode cX0_liveLine 115 = .ok (.ireturn, 1) := by decide +kernel
theorem dX0_liveLine_116 : decode cX0_liveLine 116 = .ok (.aload_n 2, 1) := by decide +kernel
theorem dX0_liveLine_117 : decode cX0_liveLine 117 = .ok (.aload_n 1, 1) := by decide +kernel
theorem dX0_liveLine_118 : decode cX0_liveLine 118 = .ok (.iload 5, 2) := by decide +kernel
theorem dX0_liveLine_120 : decode cX0_liveLine 120 = .ok (.invokevirtual 160, 3) := by decide +kernel
theorem dX0_liveLine_123 : decode cX0_liveLine 123 = .ok (.iconst 0, 1) := by decide +kernel
theorem dX0_liveLine_124 : decode cX0_liveLine 124 = .ok (.ireturn, 1) := by decide +kernel
theorem dX0_live_0 : decode cX0_live 0 = .ok (.aload_n 0, 1) := by decide +kernel
theorem dX0_live_1 : decode cX0_live 1 = .ok (.iconst 0, 1) := by decide +kernel
theorem dX0_live_2 : decode cX0_live 2 = .ok (.putfield 113, 3) := by decide +kernel
theorem dX0_live_5 : decode cX0_live 5 = .ok (.aload_n 0, 1) := by decide +kernel
theorem dX0_live_6 : decode cX0_live 6 = .ok (.iconst 0, 1) := by decide +kernel
theorem dX0_live_7 : decode cX0_live 7 = .ok (.putfield 116, 3) := by decide +kernel
theorem dX0_live_10 : decode cX0_live 10 = .ok (.iconst 0, 1) := by decide +kernel
theorem dX0_live_11 : decode cX0_live 11 = .ok (.istore_n 3, 1) := by decide +kernel
theorem dX0_live_12 : decode cX0_live 12 = .ok (.iload_n 3, 1) := by decide +kernel
theorem dX0_live_13 : decode cX0_live 13 = .ok (.aload_n 0, 1) := by decide +kernel
theorem dX0_live_14 : decode cX0_live 14 = .ok (.getfield 24, 3) := by decide +kernel
theorem dX0_live_17 : decode cX0_live 17 = .ok (.if_icmp .ge 44, 3) := by decide +kernel
theorem dX0_live_20 : decode cX0_live 20 = .ok (.aload_n 0, 1) := by decide +kernel
theorem dX0_live_21 : decode cX0_live 21 = .ok (.getfield 113, 3) := by decide +kernel
theorem dX0_live_24 : decode cX0_live 24 = .ok (.ifCond .ne 37, 3) := by decide +kernel
theorem dX0_live_27 : decode cX0_live 27 = .ok (.aload_n 0, 1) := by decide +kernel
theorem dX0_live_28 : decode cX0_live 28 = .ok (.aload_n 0, 1) := by decide +kernel
theorem dX0_live_29 : decode cX0_live 29 = .ok (.aload_n 1, 1) := by decide +kernel
theorem dX0_live_30 : decode cX0_live 30 = .ok (.aload_n 2, 1) := by decide +kernel
theorem dX0_live_31 : decode cX0_live 31 = .ok (.iload_n 3, 1) := by decide +kernel
theorem dX0_live_32 : decode cX0_live 32 = .ok (.invokevirtual 119, 3) := by decide +kernel
theorem dX0_live_35 : decode cX0_live 35 = .ok (.putfield 113, 3) := by decide +kernel
theorem dX0_live_38 : decode cX0_live 38 = .ok (.aload_n 0, 1) := by decide +kernel
theorem dX0_live_39 : decode cX0_live 39 = .ok (.getfield 113, 3) := by decide +kernel
theorem dX0_live_42 : decode cX0_live 42 = .ok (.ifCond .ne 13, 3) := by decide +kernel
theorem dX0_live_45 : decode cX0_live 45 = .ok (.aload_n 0, 1) := by decide +kernel
theorem dX0_live_46 : decode cX0_live 46 = .ok (.dup, 1) := by decide +kernel
theorem dX0_live_47 : decode cX0_live 47 = .ok (.getfield 116, 3) := by decide +kernel
theorem dX0_live_50 : decode cX0_live 50 = .ok (.iconst 1, 1) := by decide +kernel
theorem dX0_live_51 : decode cX0_live 51 = .ok (.iadd, 1) := by decide +kernel
theorem dX0_live_52 : decode cX0_live 52 = .ok (.putfield 116, 3) := by decide +kernel
theorem dX0_live_55 : decode cX0_live 55 = .ok (.iinc 3 1, 3) := by decide +kernel
theorem dX0_live_58 : decode cX0_live 58 = .ok (.goto (-46), 3) := by decide +kernel
theorem dX0_live_61 : decode cX0_live 61 = .ok (.aload_n 0, 1) := by decide +kernel
theorem dX0_live_62 : decode cX0_live 62 = .ok (.aload_n 2, 1) := by decide +kernel
theorem dX0_live_63 : decode cX0_live 63 = .ok (.getfield 123, 3) := by decide +kernel
theorem dX0_live_66 : decode cX0_live 66 = .ok (.putfield 128, 3) := by decide +kernel
theorem dX0_live_69 : decode cX0_live 69 = .ok (.aload_n 0, 1) := by decide +kernel
theorem dX0_live_70 : decode cX0_live 70 = .ok (.aload_n 2, 1) := by decide +kernel
theorem dX0_live_71 : decode cX0_live 71 = .ok (.getfield 131, 3) := by decide +kernel
theorem dX0_live_74 : decode cX0_live 74 = .ok (.putfield 134, 3) := by decide +kernel
theorem dX0_live_77 : decode cX0_live 77 = .ok (.aload_n 0, 1) := by decide +kernel
theorem dX0_live_78 : decode cX0_live 78 = .ok (.iconst 1, 1) := by decide +kernel
theorem dX0_live_79 : decode cX0_live 79 = .ok (.putfield 137, 3) := by decide +kernel
theorem dX0_live_82 : decode cX0_live 82 = .ok (.return_, 1) := by decide +kernel
theorem dX4_copyFrom_0 : decode cX4_copyFrom 0 = .ok (.aload_n 0, 1) := by decide +kernel
theorem dX4_copyFrom_1 : decode cX4_copyFrom 1 = .ok (.aload_n 1, 1) := by decide +kernel
theorem dX4_copyFrom_2 : decode cX4_copyFrom 2 = .ok (.getfield 47, 3) := by decide +kernel
theorem dX4_copyFrom_5 : decode cX4_copyFrom 5 = .ok (.putfield 47, 3) := by decide +kernel
theorem dX4_copyFrom_8 : decode cX4_copyFrom 8 = .ok (.aload_n 1, 1) := by decide +kernel
theorem dX4_copyFrom_9 : decode cX4_copyFrom 9 = .ok (.getfield 9, 3) := by decide +kernel
theorem dX4_copyFrom_12 : decode cX4_copyFrom 12 = .ok (.iconst 0, 1) := by decide +kernel
theorem dX4_copyFrom_13 : decode cX4_copyFrom 13 = .ok (.aload_n 0, 1) := by decide +kernel
theorem dX4_copyFrom_14 : decode cX4_copyFrom 14 = .ok (.getfield 9, 3) := by decide +kernel
theorem dX4_copyFrom_17 : decode cX4_copyFrom 17 = .ok (.iconst 0, 1) := by decide +kernel
theorem dX4_copyFrom_18 : decode cX4_copyFrom 18 = .ok (.bipush 8, 2) := by decide +kernel
theorem dX4_copyFrom_20 : decode cX4_copyFrom 20 = .ok (.invokestatic 50, 3) := by decide +kernel
theorem dX4_copyFrom_23 : decode cX4_copyFrom 23 = .ok (.aload_n 1, 1) := by decide +kernel
theorem dX4_copyFrom_24 : decode cX4_copyFrom 24 = .ok (.getfield 15, 3) := by decide +kernel
theorem dX4_copyFrom_27 : decode cX4_copyFrom 27 = .ok (.iconst 0, 1) := by decide +kernel
theorem dX4_copyFrom_28 : decode cX4_copyFrom 28 = .ok (.aload_n 0, 1) := by decide +kernel
theorem dX4_copyFrom_29 : decode cX4_copyFrom 29 = .ok (.getfield 15, 3) := by decide +kernel
theorem dX4_copyFrom_32 : decode cX4_copyFrom 32 = .ok (.iconst 0, 1) := by decide +kernel
theorem dX4_copyFrom_33 : decode cX4_copyFrom 33 = .ok (.bipush 8, 2) := by decide +kernel
theorem dX4_copyFrom_35 : decode cX4_copyFrom 35 = .ok (.invokestatic 50, 3) := by decide +kernel
theorem dX4_copyFrom_38 : decode cX4_copyFrom 38 = .ok (.aload_n 1, 1) := by decide +kernel
theorem dX4_copyFrom_39 : decode cX4_copyFrom 39 = .ok (.getfield 19, 3) := by decide +kernel
theorem dX4_copyFrom_42 : decode cX4_copyFrom 42 = .ok (.iconst 0, 1) := by decide +kernel
theorem dX4_copyFrom_43 : decode cX4_copyFrom 43 = .ok (.aload_n 0, 1) := by decide +kernel
theorem dX4_copyFrom_44 : decode cX4_copyFrom 44 = .ok (.getfield 19, 3) := by decide +kernel
theorem dX4_copyFrom_47 : decode cX4_copyFrom 47 = .ok (.iconst 0, 1) := by decide +kernel
theorem dX4_copyFrom_48 : decode cX4_copyFrom 48 = .ok (.bipush 8, 2) := by decide +kernel
theorem dX4_copyFrom_50 : decode cX4_copyFrom 50 = .ok (.invokestatic 50, 3) := by decide +kernel
theorem dX4_copyFrom_53 : decode cX4_copyFrom 53 = .ok (.aload_n 0, 1) := by decide +kernel
theorem dX4_copyFrom_54 : decode cX4_copyFrom 54 = .ok (.aload_n 1, 1) := by decide +kernel
theorem dX4_copyFrom_55 : decode cX4_copyFrom 55 = .ok (.getfield 56, 3) := by decide +kernel
theorem dX4_copyFrom_58 : decode cX4_copyFrom 58 = .ok (.putfield 56, 3) := by decide +kernel
theorem dX4_copyFrom_61 : decode cX4_copyFrom 61 = .ok (.aload_n 1, 1) := by decide +kernel
theorem dX4_copyFrom_62 : decode cX4_copyFrom 62 = .ok (.getfield 22, 3) := by decide +kernel
theorem dX4_copyFrom_65 : decode cX4_copyFrom 65 = .ok (.iconst 0, 1) := by decide +kernel
theorem dX4_copyFrom_66 : decode cX4_copyFrom 66 = .ok (.aload_n 0, 1) := by decide +kernel
theorem dX4_copyFrom_67 : decode cX4_copyFrom 67 = .ok (.getfield 22, 3) := by decide +kernel
theorem dX4_copyFrom_70 : decode cX4_copyFrom 70 = .ok (.iconst 0, 1) := by decide +kernel
theorem dX4_copyFrom_71 : decode cX4_copyFrom 71 = .ok (.bipush 6, 2) := by decide +kernel
theorem dX4_copyFrom_73 : decode cX4_copyFrom 73 = .ok (.invokestatic 50, 3) := by decide +kernel
theorem dX4_copyFrom_76 : decode cX4_copyFrom 76 = .ok (.aload_n 1, 1) := by decide +kernel
theorem dX4_copyFrom_77 : decode cX4_copyFrom 77 = .ok (.getfield 25, 3) := by decide +kernel
theorem dX4_copyFrom_80 : decode cX4_copyFrom 80 = .ok (.iconst 0, 1) := by decide +kernel
theorem dX4_copyFrom_81 : decode cX4_copyFrom 81 = .ok (.aload_n 0, 1) := by decide +kernel
theorem dX4_copyFrom_82 : decode cX4_copyFrom 82 = .ok (.getfield 25, 3) := by decide +kernel
theorem dX4_copyFrom_85 : decode cX4_copyFrom 85 = .ok (.iconst 0, 1) := by decide +kernel
theorem dX4_copyFrom_86 : decode cX4_copyFrom 86 = .ok (.bipush 6, 2) := by decide +kernel
theorem dX4_copyFrom_88 : decode cX4_copyFrom 88 = .ok (.invokestatic 50, 3) := by decide +kernel
theorem dX4_copyFrom_91 : decode cX4_copyFrom 91 = .ok (.aload_n 0, 1) := by decide +kernel
theorem dX4_copyFrom_92 : decode cX4_copyFrom 92 = .ok (.aload_n 1, 1) := by decide +kernel
theorem dX4_copyFrom_93 : decode cX4_copyFrom 93 = .ok (.getfield 59, 3) := by decide +kernel
theorem dX4_copyFrom_96 : decode cX4_copyFrom 96 = .ok (.putfield 59, 3) := by decide +kernel
theorem dX4_copyFrom_99 : decode cX4_copyFrom 99 = .ok (.aload_n 1, 1) := by decide +kernel
theorem dX4_copyFrom_100 : decode cX4_copyFrom 100 = .ok (.getfield 28, 3) := by decide +kernel
theorem dX4_copyFrom_103 : decode cX4_copyFrom 103 = .ok (.iconst 0, 1) := by decide +kernel
theorem dX4_copyFrom_104 : decode cX4_copyFrom 104 = .ok (.aload_n 0, 1) := by decide +kernel
theorem dX4_copyFrom_105 : decode cX4_copyFrom 105 = .ok (.getfield 28, 3) := by decide +kernel
theorem dX4_copyFrom_108 : decode cX4_copyFrom 108 = .ok (.iconst 0, 1) := by decide +kernel
theorem dX4_copyFrom_109 : decode cX4_copyFrom 109 = .ok (.bipush 12, 2) := by decide +kernel
theorem dX4_copyFrom_111 : decode cX4_copyFrom 111 = .ok (.invokestatic 50, 3) := by decide +kernel
theorem dX4_copyFrom_114 : decode cX4_copyFrom 114 = .ok (.aload_n 1, 1) := by decide +kernel
theorem dX4_copyFrom_115 : decode cX4_copyFrom 115 = .ok (.getfield 31, 3) := by decide +kernel
theorem dX4_copyFrom_118 : decode cX4_copyFrom 118 = .ok (.iconst 0, 1) := by decide +kernel
theorem dX4_copyFrom_119 : decode cX4_copyFrom 119 = .ok (.aload_n 0, 1) := by decide +kernel
theorem dX4_copyFrom_120 : decode cX4_copyFrom 120 = .ok (.getfield 31, 3) := by decide +kernel
theorem dX4_copyFrom_123 : decode cX4_copyFrom 123 = .ok (.iconst 0, 1) := by decide +kernel
theorem dX4_copyFrom_124 : decode cX4_copyFrom 124 = .ok (.bipush 12, 2) := by decide +kernel
theorem dX4_copyFrom_126 : decode cX4_copyFrom 126 = .ok (.invokestatic 50, 3) := by decide +kernel
theorem dX4_copyFrom_129 : decode cX4_copyFrom 129 = .ok (.aload_n 1, 1) := by decide +kernel
theorem dX4_copyFrom_130 : decode cX4_copyFrom 130 = .ok (.getfield 34, 3) := by decide +kernel
theorem dX4_copyFrom_133 : decode cX4_copyFrom 133 = .ok (.iconst 0, 1) := by decide +kernel
theorem dX4_copyFrom_134 : decode cX4_copyFrom 134 = .ok (.aload_n 0, 1) := by decide +kernel
theorem dX4_copyFrom_135 : decode cX4_copyFrom 135 = .ok (.getfield 34, 3) := by decide +kernel
theorem dX4_copyFrom_138 : decode cX4_copyFrom 138 = .ok (.iconst 0, 1) := by decide +kernel
theorem dX4_copyFrom_139 : decode cX4_copyFrom 139 = .ok (.bipush 12, 2) := by decide +kernel
theorem dX4_copyFrom_141 : decode cX4_copyFrom 141 = .ok (.invokestatic 50, 3) := by decide +kernel
theorem dX4_copyFrom_144 : decode cX4_copyFrom 144 = .ok (.aload_n 0, 1) := by decide +kernel
theorem dX4_copyFrom_145 : decode cX4_copyFrom 145 = .ok (.aload_n 1, 1) := by decide +kernel
theorem dX4_copyFrom_146 : decode cX4_copyFrom 146 = .ok (.getfield 62, 3) := by decide +kernel
theorem dX4_copyFrom_149 : decode cX4_copyFrom 149 = .ok (.putfield 62, 3) := by decide +kernel
theorem dX4_copyFrom_152 : decode cX4_copyFrom 152 = .ok (.aload_n 1, 1) := by decide +kernel
theorem dX4_copyFrom_153 : decode cX4_copyFrom 153 = .ok (.getfield 37, 3) := by decide +kernel
theorem dX4_copyFrom_156 : decode cX4_copyFrom 156 = .ok (.iconst 0, 1) := by decide +kernel
theorem dX4_copyFrom_157 : decode cX4_copyFrom 157 = .ok (.aload_n 0, 1) := by decide +kernel
theorem dX4_copyFrom_158 : decode cX4_copyFrom 158 = .ok (.getfield 37, 3) := by decide +kernel
theorem dX4_copyFrom_161 : decode cX4_copyFrom 161 = .ok (.iconst 0, 1) := by decide +kernel
theorem dX4_copyFrom_162 : decode cX4_copyFrom 162 = .ok (.iconst 4, 1) := by decide +kernel
theorem dX4_copyFrom_163 : decode cX4_copyFrom 163 = .ok (.invokestatic 50, 3) := by decide +kernel
theorem dX4_copyFrom_166 : decode cX4_copyFrom 166 = .ok (.aload_n 1, 1) := by decide +kernel
theorem dX4_copyFrom_167 : decode cX4_copyFrom 167 = .ok (.getfield 40, 3) := by decide +kernel
theorem dX4_copyFrom_170 : decode cX4_copyFrom 170 = .ok (.iconst 0, 1) := by decide +kernel
theorem dX4_copyFrom_171 : decode cX4_copyFrom 171 = .ok (.aload_n 0, 1) := by decide +kernel
theorem dX4_copyFrom_172 : decode cX4_copyFrom 172 = .ok (.getfield 40, 3) := by decide +kernel
theorem dX4_copyFrom_175 : decode cX4_copyFrom 175 = .ok (.iconst 0, 1) := by decide +kernel
theorem dX4_copyFrom_176 : decode cX4_copyFrom 176 = .ok (.iconst 4, 1) := by decide +kernel
theorem dX4_copyFrom_177 : decode cX4_copyFrom 177 = .ok (.invokestatic 50, 3) := by decide +kernel
theorem dX4_copyFrom_180 : decode cX4_copyFrom 180 = .ok (.aload_n 0, 1) := by decide +kernel
theorem dX4_copyFrom_181 : decode cX4_copyFrom 181 = .ok (.aload_n 1, 1) := by decide +kernel
theorem dX4_copyFrom_182 : decode cX4_copyFrom 182 = .ok (.getfield 43, 3) := by decide +kernel
theorem dX4_copyFrom_185 : decode cX4_copyFrom 185 = .ok (.putfield 43, 3) := by decide +kernel
theorem dX4_copyFrom_188 : decode cX4_copyFrom 188 = .ok (.return_, 1) := by decide +kernel
theorem dX6_copyFrom_0 : decode cX6_copyFrom 0 = .ok (.aload_n 1, 1) := by decide +kernel
theorem dX6_copyFrom_1 : decode cX6_copyFrom 1 = .ok (.getfield 9, 3) := by decide +kernel
theorem dX6_copyFrom_4 : decode cX6_copyFrom 4 = .ok (.iconst 0, 1) := by decide +kernel
theorem dX6_copyFrom_5 : decode cX6_copyFrom 5 = .ok (.aload_n 0, 1) := by decide +kernel
theorem dX6_copyFrom_6 : decode cX6_copyFrom 6 = .ok (.getfield 9, 3) := by decide +kernel
theorem dX6_copyFrom_9 : decode cX6_copyFrom 9 = .ok (.iconst 0, 1) := by decide +kernel
theorem dX6_copyFrom_10 : decode cX6_copyFrom 10 = .ok (.bipush 48, 2) := by decide +kernel
theorem dX6_copyFrom_12 : decode cX6_copyFrom 12 = .ok (.invokestatic 49, 3) := by decide +kernel
theorem dX6_copyFrom_15 : decode cX6_copyFrom 15 = .ok (.aload_n 1, 1) := by decide +kernel
theorem dX6_copyFrom_16 : decode cX6_copyFrom 16 = .ok (.getfield 15, 3) := by decide +kernel
theorem dX6_copyFrom_19 : decode cX6_copyFrom 19 = .ok (.iconst 0, 1) := by decide +kernel
theorem dX6_copyFrom_20 : decode cX6_copyFrom 20 = .ok (.aload_n 0, 1) := by decide +kernel
theorem dX6_copyFrom_21 : decode cX6_copyFrom 21 = .ok (.getfield 15, 3) := by decide +kernel
theorem dX6_copyFrom_24 : decode cX6_copyFrom 24 = .ok (.iconst 0, 1) := by decide +kernel
theorem dX6_copyFrom_25 : decode cX6_copyFrom 25 = .ok (.bipush 6, 2) := by decide +kernel
theorem dX6_copyFrom_27 : decode cX6_copyFrom 27 = .ok (.invokestatic 49, 3) := by decide +kernel
theorem dX6_copyFrom_30 : decode cX6_copyFrom 30 = .ok (.aload_n 1, 1) := by decide +kernel
theorem dX6_copyFrom_31 : decode cX6_copyFrom 31 = .ok (.getfield 18, 3) := by decide +kernel
theorem dX6_copyFrom_34 : decode cX6_copyFrom 34 = .ok (.iconst 0, 1) := by decide +kernel
theorem dX6_copyFrom_35 : decode cX6_copyFrom 35 = .ok (.aload_n 0, 1) := by decide +kernel
theorem dX6_copyFrom_36 : decode cX6_copyFrom 36 = .ok (.getfield 18, 3) := by decide +kernel
theorem dX6_copyFrom_39 : decode cX6_copyFrom 39 = .ok (.iconst 0, 1) := by decide +kernel
theorem dX6_copyFrom_40 : decode cX6_copyFrom 40 = .ok (.bipush 6, 2) := by decide +kernel
theorem dX6_copyFrom_42 : decode cX6_copyFrom 42 = .ok (.invokestatic 49, 3) := by decide +kernel
theorem dX6_copyFrom_45 : decode cX6_copyFrom 45 = .ok (.aload_n 1, 1) := by decide +kernel
theorem dX6_copyFrom_46 : decode cX6_copyFrom 46 = .ok (.getfield 21, 3) := by decide +kernel
theorem dX6_copyFrom_49 : decode cX6_copyFrom 49 = .ok (.iconst 0, 1) := by decide +kernel
theorem dX6_copyFrom_50 : decode cX6_copyFrom 50 = .ok (.aload_n 0, 1) := by decide +kernel
theorem dX6_copyFrom_51 : decode cX6_copyFrom 51 = .ok (.getfield 21, 3) := by decide +kernel
theorem dX6_copyFrom_54 : decode cX6_copyFrom 54 = .ok (.iconst 0, 1) := by decide +kernel
theorem dX6_copyFrom_55 : decode cX6_copyFrom 55 = .ok (.bipush 8, 2) := by decide +kernel
theorem dX6_copyFrom_57 : decode cX6_copyFrom 57 = .ok (.invokestatic 49, 3) := by decide +kernel
theorem dX6_copyFrom_60 : decode cX6_copyFrom 60 = .ok (.aload_n 1, 1) := by decide +kernel
theorem dX6_copyFrom_61 : decode cX6_copyFrom 61 = .ok (.getfield 24, 3) := by decide +kernel
theorem dX6_copyFrom_64 : decode cX6_copyFrom 64 = .ok (.iconst 0, 1) := by decide +kernel
theorem dX6_copyFrom_65 : decode cX6_copyFrom 65 = .ok (.aload_n 0, 1) := by decide +kernel
theorem dX6_copyFrom_66 : decode cX6_copyFrom 66 = .ok (.getfield 24, 3) := by decide +kernel
theorem dX6_copyFrom_69 : decode cX6_copyFrom 69 = .ok (.iconst 0, 1) := by decide +kernel
theorem dX6_copyFrom_70 : decode cX6_copyFrom 70 = .ok (.bipush 8, 2) := by decide +kernel
theorem dX6_copyFrom_72 : decode cX6_copyFrom 72 = .ok (.invokestatic 49, 3) := by decide +kernel
theorem dX6_copyFrom_75 : decode cX6_copyFrom 75 = .ok (.aload_n 1, 1) := by decide +kernel
theorem dX6_copyFrom_76 : decode cX6_copyFrom 76 = .ok (.getfield 27, 3) := by decide +kernel
theorem dX6_copyFrom_79 : decode cX6_copyFrom 79 = .ok (.iconst 0, 1) := by decide +kernel
theorem dX6_copyFrom_80 : decode cX6_copyFrom 80 = .ok (.aload_n 0, 1) := by decide +kernel
theorem dX6_copyFrom_81 : decode cX6_copyFrom 81 = .ok (.getfield 27, 3) := by decide +kernel
theorem dX6_copyFrom_84 : decode cX6_copyFrom 84 = .ok (.iconst 0, 1) := by decide +kernel
theorem dX6_copyFrom_85 : decode cX6_copyFrom 85 = .ok (.iconst 4, 1) := by decide +kernel
theorem dX6_copyFrom_86 : decode cX6_copyFrom 86 = .ok (.invokestatic 49, 3) := by decide +kernel
theorem dX6_copyFrom_89 : decode cX6_copyFrom 89 = .ok (.aload_n 1, 1) := by decide +kernel
theorem dX6_copyFrom_90 : decode cX6_copyFrom 90 = .ok (.getfield 30, 3) := by decide +kernel
theorem dX6_copyFrom_93 : decode cX6_copyFrom 93 = .ok (.iconst 0, 1) := by decide +kernel
theorem dX6_copyFrom_94 : decode cX6_copyFrom 94 = .ok (.aload_n 0, 1) := by decide +kernel
theorem dX6_copyFrom_95 : decode cX6_copyFrom 95 = .ok (.getfield 30, 3) := by decide +kernel
theorem dX6_copyFrom_98 : decode cX6_copyFrom 98 = .ok (.iconst 0, 1) := by decide +kernel
theorem dX6_copyFrom_99 : decode cX6_copyFrom 99 = .ok (.iconst 4, 1) := by decide +kernel
theorem dX6_copyFrom_100 : decode cX6_copyFrom 100 = .ok (.invokestatic 49, 3) := by decide +kernel
theorem dX6_copyFrom_103 : decode cX6_copyFrom 103 = .ok (.aload_n 0, 1) := by decide +kernel
theorem dX6_copyFrom_104 : decode cX6_copyFrom 104 = .ok (.aload_n 1, 1) := by decide +kernel
theorem dX6_copyFrom_105 : decode cX6_copyFrom 105 = .ok (.getfield 33, 3) := by decide +kernel
theorem dX6_copyFrom_108 : decode cX6_copyFrom 108 = .ok (.putfield 33, 3) := by decide +kernel
theorem dX6_copyFrom_111 : decode cX6_copyFrom 111 = .ok (.aload_n 0, 1) := by decide +kernel
theorem dX6_copyFrom_112 : decode cX6_copyFrom 112 = .ok (.aload_n 1, 1) := by decide +kernel
theorem dX6_copyFrom_113 : decode cX6_copyFrom 113 = .ok (.getfield 37, 3) := by decide +kernel
theorem dX6_copyFrom_116 : decode cX6_copyFrom 116 = .ok (.putfield 37, 3) := by decide +kernel
theorem dX6_copyFrom_119 : decode cX6_copyFrom 119 = .ok (.aload_n 0, 1) := by decide +kernel
theorem dX6_copyFrom_120 : decode cX6_copyFrom 120 = .ok (.aload_n 1, 1) := by decide +kernel
theorem dX6_copyFrom_121 : decode cX6_copyFrom 121 = .ok (.getfield 40, 3) := by decide +kernel
theorem dX6_copyFrom_124 : decode cX6_copyFrom 124 = .ok (.putfield 40, 3) := by decide +kernel
theorem dX6_copyFrom_127 : decode cX6_copyFrom 127 = .ok (.aload_n 0, 1) := by decide +kernel
theorem dX6_copyFrom_128 : decode cX6_copyFrom 128 = .ok (.aload_n 1, 1) := by decide +kernel
theorem dX6_copyFrom_129 : decode cX6_copyFrom 129 = .ok (.getfield 43, 3) := by decide +kernel
theorem dX6_copyFrom_132 : decode cX6_copyFrom 132 = .ok (.putfield 43, 3) := by decide +kernel
theorem dX6_copyFrom_135 : decode cX6_copyFrom 135 = .ok (.aload_n 0, 1) := by decide +kernel
theorem dX6_copyFrom_136 : decode cX6_copyFrom 136 = .ok (.aload_n 1, 1) := by decide +kernel
theorem dX6_copyFrom_137 : decode cX6_copyFrom 137 = .ok (.getfield 46, 3) := by decide +kernel
theorem dX6_copyFrom_140 : decode cX6_copyFrom 140 = .ok (.putfield 46, 3) := by decide +kernel
theorem dX6_copyFrom_143 : decode cX6_copyFrom 143 = .ok (.return_, 1) := by decide +kernel
theorem dX5_copyFrom_0 : decode cX5_copyFrom 0 = .ok (.iconst 0, 1) := by decide +kernel
theorem dX5_copyFrom_1 : decode cX5_copyFrom 1 = .ok (.istore_n 2, 1) := by decide +kernel
theorem dX5_copyFrom_2 : decode cX5_copyFrom 2 = .ok (.iload_n 2, 1) := by decide +kernel
theorem dX5_copyFrom_3 : decode cX5_copyFrom 3 = .ok (.bipush 40, 2) := by decide +kernel
theorem dX5_copyFrom_5 : decode cX5_copyFrom 5 = .ok (.if_icmp .ge 21, 3) := by decide +kernel
theorem dX5_copyFrom_8 : decode cX5_copyFrom 8 = .ok (.aload_n 0, 1) := by decide +kernel
theorem dX5_copyFrom_9 : decode cX5_copyFrom 9 = .ok (.getfield 13, 3) := by decide +kernel
theorem dX5_copyFrom_12 : decode cX5_copyFrom 12 = .ok (.iload_n 2, 1) := by decide +kernel
theorem dX5_copyFrom_13 : decode cX5_copyFrom 13 = .ok (.aload_n 1, 1) := by decide +kernel
theorem dX5_copyFrom_14 : decode cX5_copyFrom 14 = .ok (.getfield 13, 3) := by decide +kernel
theorem dX5_copyFrom_17 : decode cX5_copyFrom 17 = .ok (.iload_n 2, 1) := by decide +kernel
theorem dX5_copyFrom_18 : decode cX5_copyFrom 18 = .ok (.aaload, 1) := by decide +kernel
theorem dX5_copyFrom_19 : decode cX5_copyFrom 19 = .ok (.aastore, 1) := by decide +kernel
theorem dX5_copyFrom_20 : decode cX5_copyFrom 20 = .ok (.iinc 2 1, 3) := by decide +kernel
theorem dX5_copyFrom_23 : decode cX5_copyFrom 23 = .ok (.goto (-21), 3) := by decide +kernel
theorem dX5_copyFrom_26 : decode cX5_copyFrom 26 = .ok (.aload_n 1, 1) := by decide +kernel
theorem dX5_copyFrom_27 : decode cX5_copyFrom 27 = .ok (.getfield 17, 3) := by decide +kernel
theorem dX5_copyFrom_30 : decode cX5_copyFrom 30 = .ok (.iconst 0, 1) := by decide +kernel
theorem dX5_copyFrom_31 : decode cX5_copyFrom 31 = .ok (.aload_n 0, 1) := by decide +kernel
theorem dX5_copyFrom_32 : decode cX5_copyFrom 32 = .ok (.getfield 17, 3) := by decide +kernel
theorem dX5_copyFrom_35 : decode cX5_copyFrom 35 = .ok (.iconst 0, 1) := by decide +kernel
theorem dX5_copyFrom_36 : decode cX5_copyFrom 36 = .ok (.bipush 40, 2) := by decide +kernel
theorem dX5_copyFrom_38 : decode cX5_copyFrom 38 = .ok (.invokestatic 31, 3) := by decide +kernel
theorem dX5_copyFrom_41 : decode cX5_copyFrom 41 = .ok (.aload_n 1, 1) := by decide +kernel
theorem dX5_copyFrom_42 : decode cX5_copyFrom 42 = .ok (.getfield 21, 3) := by decide +kernel
theorem dX5_copyFrom_45 : decode cX5_copyFrom 45 = .ok (.iconst 0, 1) := by decide +kernel
theorem dX5_copyFrom_46 : decode cX5_copyFrom 46 = .ok (.aload_n 0, 1) := by decide +kernel
theorem dX5_copyFrom_47 : decode cX5_copyFrom 47 = .ok (.getfield 21, 3) := by decide +kernel
theorem dX5_copyFrom_50 : decode cX5_copyFrom 50 = .ok (.iconst 0, 1) := by decide +kernel
theorem dX5_copyFrom_51 : decode cX5_copyFrom 51 = .ok (.bipush 40, 2) := by decide +kernel
theorem dX5_copyFrom_53 : decode cX5_copyFrom 53 = .ok (.invokestatic 31, 3) := by decide +kernel
theorem dX5_copyFrom_56 : decode cX5_copyFrom 56 = .ok (.aload_n 0, 1) := by decide +kernel
theorem dX5_copyFrom_57 : decode cX5_copyFrom 57 = .ok (.aload_n 1, 1) := by decide +kernel
theorem dX5_copyFrom_58 : decode cX5_copyFrom 58 = .ok (.getfield 24, 3) := by decide +kernel
theorem dX5_copyFrom_61 : decode cX5_copyFrom 61 = .ok (.putfield 24, 3) := by decide +kernel
theorem dX5_copyFrom_64 : decode cX5_copyFrom 64 = .ok (.aload_n 0, 1) := by decide +kernel
theorem dX5_copyFrom_65 : decode cX5_copyFrom 65 = .ok (.aload_n 1, 1) := by decide +kernel
theorem dX5_copyFrom_66 : decode cX5_copyFrom 66 = .ok (.getfield 28, 3) := by decide +kernel
theorem dX5_copyFrom_69 : decode cX5_copyFrom 69 = .ok (.putfield 28, 3) := by decide +kernel
theorem dX5_copyFrom_72 : decode cX5_copyFrom 72 = .ok (.return_, 1) := by decide +kernel
theorem dX1_keep_0 : decode cX1_keep 0 = .ok (.aload_n 0, 1) := by decide +kernel
theorem dX1_keep_1 : decode cX1_keep 1 = .ok (.getfield 10, 3) := by decide +kernel
theorem dX1_keep_4 : decode cX1_keep 4 = .ok (.aload_n 1, 1) := by decide +kernel
theorem dX1_keep_5 : decode cX1_keep 5 = .ok (.invokevirtual 30, 3) := by decide +kernel
theorem dX1_keep_8 : decode cX1_keep 8 = .ok (.aload_n 0, 1) := by decide +kernel
theorem dX1_keep_9 : decode cX1_keep 9 = .ok (.getfield 19, 3) := by decide +kernel
theorem dX1_keep_12 : decode cX1_keep 12 = .ok (.aload_n 2, 1) := by decide +kernel
theorem dX1_keep_13 : decode cX1_keep 13 = .ok (.invokevirtual 34, 3) := by decide +kernel
theorem dX1_keep_16 : decode cX1_keep 16 = .ok (.aload_n 0, 1) := by decide +kernel
theorem dX1_keep_17 : decode cX1_keep 17 = .ok (.getfield 26, 3) := by decide +kernel
theorem dX1_keep_20 : decode cX1_keep 20 = .ok (.aload_n 3, 1) := by decide +kernel
theorem dX1_keep_21 : decode cX1_keep 21 = .ok (.invokevirtual 37, 3) := by decide +kernel
theorem dX1_keep_24 : decode cX1_keep 24 = .ok (.aload_n 0, 1) := by decide +kernel
theorem dX1_keep_25 : decode cX1_keep 25 = .ok (.iconst 1, 1) := by decide +kernel
theorem dX1_keep_26 : decode cX1_keep 26 = .ok (.putfield 40, 3) := by decide +kernel
theorem dX1_keep_29 : decode cX1_keep 29 = .ok (.return_, 1) := by decide +kernel
theorem dX1_bringBack_0 : decode cX1_bringBack 0 = .ok (.aload_n 1, 1) := by decide +kernel
theorem dX1_bringBack_1 : decode cX1_bringBack 1 = .ok (.aload_n 0, 1) := by decide +kernel
theorem dX1_bringBack_2 : decode cX1_bringBack 2 = .ok (.getfield 10, 3) := by decide +kernel
theorem dX1_bringBack_5 : decode cX1_bringBack 5 = .ok (.invokevirtual 30, 3) := by decide +kernel
theorem dX1_bringBack_8 : decode cX1_bringBack 8 = .ok (.aload_n 2, 1) := by decide +kernel
theorem dX1_bringBack_9 : decode cX1_bringBack 9 = .ok (.aload_n 0, 1) := by decide +kernel
theorem dX1_bringBack_10 : decode cX1_bringBack 10 = .ok (.getfield 19, 3) := by decide +kernel
theorem dX1_bringBack_13 : decode cX1_bringBack 13 = .ok (.invokevirtual 34, 3) := by decide +kernel
theorem dX1_bringBack_16 : decode cX1_bringBack 16 = .ok (.aload_n 3, 1) := by decide +kernel
theorem dX1_bringBack_17 : decode cX1_bringBack 17 = .ok (.aload_n 0, 1) := by decide +kernel
theorem dX1_bringBack_18 : decode cX1_bringBack 18 = .ok (.getfield 26, 3) := by decide +kernel
theorem dX1_bringBack_21 : decode cX1_bringBack 21 = .ok (.invokevirtual 37, 3) := by decide +kernel
theorem dX1_bringBack_24 : decode cX1_bringBack 24 = .ok (.return_, 1) := by decide +kernel
theorem dX2_keep_0 : decode cX2_keep 0 = .ok (.aload_n 0, 1) := by decide +kernel
theorem dX2_keep_1 : decode cX2_keep 1 = .ok (.getfield 13, 3) := by decide +kernel
theorem dX2_keep_4 : decode cX2_keep 4 = .ok (.aload_n 0, 1) := by decide +kernel
theorem dX2_keep_5 : decode cX2_keep 5 = .ok (.getfield 18, 3) := by decide +kernel
theorem dX2_keep_8 : decode cX2_keep 8 = .ok (.aaload, 1) := by decide +kernel
theorem dX2_keep_9 : decode cX2_keep 9 = .ok (.ifnonnull 4, 3) := by decide +kernel
theorem dX2_keep_12 : decode cX2_keep 12 = .ok (.return_, 1) := by decide +kernel
theorem dX2_keep_13 : decode cX2_keep 13 = .ok (.aload_n 0, 1) := by decide +kernel
theorem dX2_keep_14 : decode cX2_keep 14 = .ok (.getfield 13, 3) := by decide +kernel
theorem dX2_keep_17 : decode cX2_keep 17 = .ok (.aload_n 0, 1) := by decide +kernel
theorem dX2_keep_18 : decode cX2_keep 18 = .ok (.getfield 18, 3) := by decide +kernel
theorem dX2_keep_21 : decode cX2_keep 21 = .ok (.aaload, 1) := by decide +kernel
theorem dX2_keep_22 : decode cX2_keep 22 = .ok (.aload_n 1, 1) := by decide +kernel
theorem dX2_keep_23 : decode cX2_keep 23 = .ok (.invokevirtual 22, 3) := by decide +kernel
theorem dX2_keep_26 : decode cX2_keep 26 = .ok (.aload_n 0, 1) := by decide +kernel
theorem dX2_keep_27 : decode cX2_keep 27 = .ok (.aload_n 0, 1) := by decide +kernel
theorem dX2_keep_28 : decode cX2_keep 28 = .ok (.getfield 18, 3) := by decide +kernel
theorem dX2_keep_31 : decode cX2_keep 31 = .ok (.iconst 1, 1) := by decide +kernel
theorem dX2_keep_32 : decode cX2_keep 32 = .ok (.iadd, 1) := by decide +kernel
theorem dX2_keep_33 : decode cX2_keep 33 = .ok (.bipush 8, 2) := by decide +kernel
theorem dX2_keep_35 : decode cX2_keep 35 = .ok (.irem, 1) := by decide +kernel
theorem dX2_keep_36 : decode cX2_keep 36 = .ok (.putfield 18, 3) := by decide +kernel
theorem dX2_keep_39 : decode cX2_keep 39 = .ok (.aload_n 0, 1) := by decide +kernel
theorem dX2_keep_40 : decode cX2_keep 40 = .ok (.aload_n 0, 1) := by decide +kernel
theorem dX2_keep_41 : decode cX2_keep 41 = .ok (.getfield 26, 3) := by decide +kernel
theorem dX2_keep_44 : decode cX2_keep 44 = .ok (.iconst 1, 1) := by decide +kernel
theorem dX2_keep_45 : decode cX2_keep 45 = .ok (.iadd, 1) := by decide +kernel
theorem dX2_keep_46 : decode cX2_keep 46 = .ok (.bipush 8, 2) := by decide +kernel
theorem dX2_keep_48 : decode cX2_keep 48 = .ok (.invokestatic 29, 3) := by decide +kernel
theorem dX2_keep_51 : decode cX2_keep 51 = .ok (.putfield 26, 3) := by decide +kernel
theorem dX2_keep_54 : decode cX2_keep 54 = .ok (.return_, 1) := by decide +kernel
theorem dX2_takeBack_0 : decode cX2_takeBack 0 = .ok (.aload_n 0, 1) := by decide +kernel
theorem dX2_takeBack_1 : decode cX2_takeBack 1 = .ok (.getfield 18, 3) := by decide +kernel
theorem dX2_takeBack_4 : decode cX2_takeBack 4 = .ok (.bipush 8, 2) := by decide +kernel
theorem dX2_takeBack_6 : decode cX2_takeBack 6 = .ok (.iadd, 1) := by decide +kernel
theorem dX2_takeBack_7 : decode cX2_takeBack 7 = .ok (.iconst 1, 1) := by decide +kernel
theorem dX2_takeBack_8 : decode cX2_takeBack 8 = .ok (.isub, 1) := by decide +kernel
theorem dX2_takeBack_9 : decode cX2_takeBack 9 = .ok (.bipush 8, 2) := by decide +kernel
theorem dX2_takeBack_11 : decode cX2_takeBack 11 = .ok (.irem, 1) := by decide +kernel
theorem dX2_takeBack_12 : decode cX2_takeBack 12 = .ok (.istore_n 2, 1) := by decide +kernel
theorem dX2_takeBack_13 : decode cX2_takeBack 13 = .ok (.aload_n 0, 1) := by decide +kernel
theorem dX2_takeBack_14 : decode cX2_takeBack 14 = .ok (.getfield 26, 3) := by decide +kernel
theorem dX2_takeBack_17 : decode cX2_takeBack 17 = .ok (.ifCond .eq 12, 3) := by decide +kernel
theorem dX2_takeBack_20 : decode cX2_takeBack 20 = .ok (.aload_n 0, 1) := by decide +kernel
theorem dX2_takeBack_21 : decode cX2_takeBack 21 = .ok (.getfield 13, 3) := by decide +kernel
theorem dX2_takeBack_24 : decode cX2_takeBack 24 = .ok (.iload_n 2, 1) := by decide +kernel
theorem dX2_takeBack_25 : decode cX2_takeBack 25 = .ok (.aaload, 1) := by decide +kernel
theorem dX2_takeBack_26 : decode cX2_takeBack 26 = .ok (.ifnonnull 5, 3) := by decide +kernel
theorem dX2_takeBack_29 : decode cX2_takeBack 29 = .ok (.iconst (-1), 1) := by decide +kernel
theorem dX2_takeBack_30 : decode cX2_takeBack 30 = .ok (.ireturn, 1) := by decide +kernel
theorem dX2_takeBack_31 : decode cX2_takeBack 31 = .ok (.aload_n 1, 1) := by decide +kernel
theorem dX2_takeBack_32 : decode cX2_takeBack 32 = .ok (.aload_n 0, 1) := by decide +kernel
theorem dX2_takeBack_33 : decode cX2_takeBack 33 = .ok (.getfield 13, 3) := by decide +kernel
theorem dX2_takeBack_36 : decode cX2_takeBack 36 = .ok (.iload_n 2, 1) := by decide +kernel
theorem dX2_takeBack_37 : decode cX2_takeBack 37 = .ok (.aaload, 1) := by decide +kernel
theorem dX2_takeBack_38 : decode cX2_takeBack 38 = .ok (.invokevirtual 22, 3) := by decide +kernel
theorem dX2_takeBack_41 : decode cX2_takeBack 41 = .ok (.aload_n 0, 1) := by decide +kernel
theorem dX2_takeBack_42 : decode cX2_takeBack 42 = .ok (.iload_n 2, 1) := by decide +kernel
theorem dX2_takeBack_43 : decode cX2_takeBack 43 = .ok (.putfield 18, 3) := by decide +kernel
theorem dX2_takeBack_46 : decode cX2_takeBack 46 = .ok (.aload_n 0, 1) := by decide +kernel
theorem dX2_takeBack_47 : decode cX2_takeBack 47 = .ok (.dup, 1) := by decide +kernel
theorem dX2_takeBack_48 : decode cX2_takeBack 48 = .ok (.getfield 26, 3) := by decide +kernel
theorem dX2_takeBack_51 : decode cX2_takeBack 51 = .ok (.iconst 1, 1) := by decide +kernel
theorem dX2_takeBack_52 : decode cX2_takeBack 52 = .ok (.isub, 1) := by decide +kernel
theorem dX2_takeBack_53 : decode cX2_takeBack 53 = .ok (.putfield 26, 3) := by decide +kernel
theorem dX2_takeBack_56 : decode cX2_takeBack 56 = .ok (.aload_n 0, 1) := by decide +kernel
theorem dX2_takeBack_57 : decode cX2_takeBack 57 = .ok (.getfield 26, 3) := by decide +kernel
theorem dX2_takeBack_60 : decode cX2_takeBack 60 = .ok (.ireturn, 1) := by decide +kernel
theorem dX2_forget_0 : decode cX2_forget 0 = .ok (.aload_n 0, 1) := by decide +kernel
theorem dX2_forget_1 : decode cX2_forget 1 = .ok (.iconst 0, 1) := by decide +kernel
theorem dX2_forget_2 : decode cX2_forget 2 = .ok (.putfield 26, 3) := by decide +kernel
theorem dX2_forget_5 : decode cX2_forget 5 = .ok (.return_, 1) := by decide +kernel
theorem dX6_allHolds_0 : decode cX6_allHolds 0 = .ok (.iconst 0, 1) := by decide +kernel
theorem dX6_allHolds_1 : decode cX6_allHolds 1 = .ok (.istore_n 3, 1) := by decide +kernel
theorem dX6_allHolds_2 : decode cX6_allHolds 2 = .ok (.iconst 0, 1) := by decide +kernel
theorem dX6_allHolds_3 : decode cX6_allHolds 3 = .ok (.istore 4, 2) := by decide +kernel
theorem dX6_allHolds_5 : decode cX6_allHolds 5 = .ok (.iload 4, 2) := by decide +kernel
theorem dX6_allHolds_7 : decode cX6_allHolds 7 = .ok (.aload_n 0, 1) := by decide +kernel
theorem dX6_allHolds_8 : decode cX6_allHolds 8 = .ok (.getfield 15, 3) := by decide +kernel
theorem dX6_allHolds_11 : decode cX6_allHolds 11 = .ok (.iload_n 2, 1) := by decide +kernel
theorem dX6_allHolds_12 : decode cX6_allHolds 12 = .ok (.iaload, 1) := by decide +kernel
theorem dX6_allHolds_13 : decode cX6_allHolds 13 = .ok (.if_icmp .ge 20, 3) := by decide +kernel
theorem dX6_allHolds_16 : decode cX6_allHolds 16 = .ok (.iload_n 3, 1) := by decide +kernel
theorem dX6_allHolds_17 : decode cX6_allHolds 17 = .ok (.aload_n 0, 1) := by decide +kernel
theorem dX6_allHolds_18 : decode cX6_allHolds 18 = .ok (.aload_n 1, 1) := by decide +kernel
theorem dX6_allHolds_19 : decode cX6_allHolds 19 = .ok (.iload_n 2, 1) := by decide +kernel
theorem dX6_allHolds_20 : decode cX6_allHolds 20 = .ok (.iload 4, 2) := by decide +kernel
theorem dX6_allHolds_22 : decode cX6_allHolds 22 = .ok (.invokevirtual 67, 3) := by decide +kernel
theorem dX6_allHolds_25 : decode cX6_allHolds 25 = .ok (.iadd, 1) := by decide +kernel
theorem dX6_allHolds_26 : decode cX6_allHolds 26 = .ok (.istore_n 3, 1) := by decide +kernel
theorem dX6_allHolds_27 : decode cX6_allHolds 27 = .ok (.iinc 4 1, 3) := by decide +kernel
theorem dX6_allHolds_30 : decode cX6_allHolds 30 = .ok (.goto (-25), 3) := by decide +kernel
theorem dX6_allHolds_33 : decode cX6_allHolds 33 = .ok (.iload_n 3, 1) := by decide +kernel
theorem dX6_allHolds_34 : decode cX6_allHolds 34 = .ok (.ireturn, 1) := by decide +kernel
theorem dX3_fewestStrokes_0 : decode cX3_fewestStrokes 0 = .ok (.aload_n 2, 1) := by decide +kernel
theorem dX3_fewestStrokes_1 : decode cX3_fewestStrokes 1 = .ok (.aload_n 1, 1) := by decide +kernel
theorem dX3_fewestStrokes_2 : decode cX3_fewestStrokes 2 = .ok (.iload_n 3, 1) := by decide +kernel
theorem dX3_fewestStrokes_3 : decode cX3_fewestStrokes 3 = .ok (.invokevirtual 24, 3) := by decide +kernel
theorem dX3_fewestStrokes_6 : decode cX3_fewestStrokes 6 = .ok (.aload_n 1, 1) := by decide +kernel
theorem dX3_fewestStrokes_7 : decode cX3_fewestStrokes 7 = .ok (.getfield 30, 3) := by decide +kernel
theorem dX3_fewestStrokes_10 : decode cX3_fewestStrokes 10 = .ok (.iload_n 3, 1) := by decide +kernel
theorem dX3_fewestStrokes_11 : decode cX3_fewestStrokes 11 = .ok (.iaload, 1) := by decide +kernel
theorem dX3_fewestStrokes_12 : decode cX3_fewestStrokes 12 = .ok (.aload_n 2, 1) := by decide +kernel
theorem dX3_fewestStrokes_13 : decode cX3_fewestStrokes 13 = .ok (.getfield 35, 3) := by decide +kernel
theorem dX3_fewestStrokes_16 : decode cX3_fewestStrokes 16 = .ok (.iload_n 3, 1) := by decide +kernel
theorem dX3_fewestStrokes_17 : decode cX3_fewestStrokes 17 = .ok (.iaload, 1) := by decide +kernel
theorem dX3_fewestStrokes_18 : decode cX3_fewestStrokes 18 = .ok (.isub, 1) := by decide +kernel
theorem dX3_fewestStrokes_19 : decode cX3_fewestStrokes 19 = .ok (.if_icmp .le 5, 3) := by decide +kernel
theorem dX3_fewestStrokes_22 : decode cX3_fewestStrokes 22 = .ok (.iconst (-1), 1) := by decide +kernel
theorem dX3_fewestStrokes_23 : decode cX3_fewestStrokes 23 = .ok (.ireturn, 1) := by decide +kernel
theorem dX3_fewestStrokes_24 : decode cX3_fewestStrokes 24 = .ok (.iconst 0, 1) := by decide +kernel
theorem dX3_fewestStrokes_25 : decode cX3_fewestStrokes 25 = .ok (.istore 4, 2) := by decide +kernel
theorem dX3_fewestStrokes_27 : decode cX3_fewestStrokes 27 = .ok (.iconst 0, 1) := by decide +kernel
theorem dX3_fewestStrokes_28 : decode cX3_fewestStrokes 28 = .ok (.istore 5, 2) := by decide +kernel
theorem dX3_fewestStrokes_30 : decode cX3_fewestStrokes 30 = .ok (.aload_n 2, 1) := by decide +kernel
theorem dX3_fewestStrokes_31 : decode cX3_fewestStrokes 31 = .ok (.getfield 38, 3) := by decide +kernel
theorem dX3_fewestStrokes_34 : decode cX3_fewestStrokes 34 = .ok (.iload_n 3, 1) := by decide +kernel
theorem dX3_fewestStrokes_35 : decode cX3_fewestStrokes 35 = .ok (.iaload, 1) := by decide +kernel
theorem dX3_fewestStrokes_36 : decode cX3_fewestStrokes 36 = .ok (.istore 6, 2) := by decide +kernel
theorem dX3_fewestStrokes_38 : decode cX3_fewestStrokes 38 = .ok (.iconst 0, 1) := by decide +kernel
theorem dX3_fewestStrokes_39 : decode cX3_fewestStrokes 39 = .ok (.istore 7, 2) := by decide +kernel
theorem dX3_fewestStrokes_41 : decode cX3_fewestStrokes 41 = .ok (.iload 7, 2) := by decide +kernel
theorem dX3_fewestStrokes_43 : decode cX3_fewestStrokes 43 = .ok (.bipush 8, 2) := by decide +kernel
theorem dX3_fewestStrokes_45 : decode cX3_fewestStrokes 45 = .ok (.if_icmp .ge 79, 3) := by decide +kernel
theorem dX3_fewestStrokes_48 : decode cX3_fewestStrokes 48 = .ok (.iload 6, 2) := by decide +kernel
theorem dX3_fewestStrokes_50 : decode cX3_fewestStrokes 50 = .ok (.ifCond .le 74, 3) := by decide +kernel
theorem dX3_fewestStrokes_53 : decode cX3_fewestStrokes 53 = .ok (.aload_n 2, 1) := by decide +kernel
theorem dX3_fewestStrokes_54 : decode cX3_fewestStrokes 54 = .ok (.iload_n 3, 1) := by decide +kernel
theorem dX3_fewestStrokes_55 : decode cX3_fewestStrokes 55 = .ok (.iload 6, 2) := by decide +kernel
theorem dX3_fewestStrokes_57 : decode cX3_fewestStrokes 57 = .ok (.invokevirtual 41, 3) := by decide +kernel
theorem dX3_fewestStrokes_60 : decode cX3_fewestStrokes 60 = .ok (.istore 8, 2) := by decide +kernel
theorem dX3_fewestStrokes_62 : decode cX3_fewestStrokes 62 = .ok (.iload 8, 2) := by decide +kernel
theorem dX3_fewestStrokes_64 : decode cX3_fewestStrokes 64 = .ok (.aload_n 2, 1) := by decide +kernel
theorem dX3_fewestStrokes_65 : decode cX3_fewestStrokes 65 = .ok (.aload_n 1, 1) := by decide +kernel
theorem dX3_fewestStrokes_66 : decode cX3_fewestStrokes 66 = .ok (.iload_n 3, 1) := by decide +kernel
theorem dX3_fewestStrokes_67 : decode cX3_fewestStrokes 67 = .ok (.iload 6, 2) := by decide +kernel
theorem dX3_fewestStrokes_69 : decode cX3_fewestStrokes 69 = .ok (.iconst 1, 1) := by decide +kernel
theorem dX3_fewestStrokes_70 : decode cX3_fewestStrokes 70 = .ok (.isub, 1) := by decide +kernel
theorem dX3_fewestStrokes_71 : decode cX3_fewestStrokes 71 = .ok (.invokevirtual 45, 3) := by decide +kernel
theorem dX3_fewestStrokes_74 : decode cX3_fewestStrokes 74 = .ok (.imul, 1) := by decide +kernel
theorem dX3_fewestStrokes_75 : decode cX3_fewestStrokes 75 = .ok (.istore 9, 2) := by decide +kernel
theorem dX3_fewestStrokes_77 : decode cX3_fewestStrokes 77 = .ok (.iload 9, 2) := by decide +kernel
theorem dX3_fewestStrokes_79 : decode cX3_fewestStrokes 79 = .ok (.aload_n 1, 1) := by decide +kernel
theorem dX3_fewestStrokes_80 : decode cX3_fewestStrokes 80 = .ok (.getfield 49, 3) := by decide +kernel
theorem dX3_fewestStrokes_83 : decode cX3_fewestStrokes 83 = .ok (.if_icmp .le 5, 3) := by decide +kernel
theorem dX3_fewestStrokes_86 : decode cX3_fewestStrokes 86 = .ok (.iconst (-1), 1) := by decide +kernel
theorem dX3_fewestStrokes_87 : decode cX3_fewestStrokes 87 = .ok (.ireturn, 1) := by decide +kernel
theorem dX3_fewestStrokes_88 : decode cX3_fewestStrokes 88 = .ok (.iload 9, 2) := by decide +kernel
theorem dX3_fewestStrokes_90 : decode cX3_fewestStrokes 90 = .ok (.iload 5, 2) := by decide +kernel
theorem dX3_fewestStrokes_92 : decode cX3_fewestStrokes 92 = .ok (.if_icmp .le 12, 3) := by decide +kernel
theorem dX3_fewestStrokes_95 : decode cX3_fewestStrokes 95 = .ok (.iinc 4 1, 3) := by decide +kernel
theorem dX3_fewestStrokes_98 : decode cX3_fewestStrokes 98 = .ok (.aload_n 1, 1) := by decide +kernel
theorem dX3_fewestStrokes_99 : decode cX3_fewestStrokes 99 = .ok (.getfield 49, 3) := by decide +kernel
theorem dX3_fewestStrokes_102 : decode cX3_fewestStrokes 102 = .ok (.istore 5, 2) := by decide +kernel
theorem dX3_fewestStrokes_104 : decode cX3_fewestStrokes 104 = .ok (.iload 5, 2) := by decide +kernel
theorem dX3_fewestStrokes_106 : decode cX3_fewestStrokes 106 = .ok (.iload 9, 2) := by decide +kernel
theorem dX3_fewestStrokes_108 : decode cX3_fewestStrokes 108 = .ok (.isub, 1) := by decide +kernel
theorem dX3_fewestStrokes_109 : decode cX3_fewestStrokes 109 = .ok (.istore 5, 2) := by decide +kernel
theorem dX3_fewestStrokes_111 : decode cX3_fewestStrokes 111 = .ok (.iload 6, 2) := by decide +kernel
theorem dX3_fewestStrokes_113 : decode cX3_fewestStrokes 113 = .ok (.iload 8, 2) := by decide +kernel
theorem dX3_fewestStrokes_115 : decode cX3_fewestStrokes 115 = .ok (.isub, 1) := by decide +kernel
theorem dX3_fewestStrokes_116 : decode cX3_fewestStrokes 116 = .ok (.istore 6, 2) := by decide +kernel
theorem dX3_fewestStrokes_118 : decode cX3_fewestStrokes 118 = .ok (.iinc 7 1, 3) := by decide +kernel
theorem dX3_fewestStrokes_121 : decode cX3_fewestStrokes 121 = .ok (.goto (-80), 3) := by decide +kernel
theorem dX3_fewestStrokes_124 : decode cX3_fewestStrokes 124 = .ok (.iload 4, 2) := by decide +kernel
theorem dX3_fewestStrokes_126 : decode cX3_fewestStrokes 126 = .ok (.ireturn, 1) := by decide +kernel
theorem dX3_caughtOn_0 : decode cX3_caughtOn 0 = .ok (.iconst 0, 1) := by decide +kernel
theorem dX3_caughtOn_1 : decode cX3_caughtOn 1 = .ok (.istore 4, 2) := by decide +kernel
theorem dX3_caughtOn_3 : decode cX3_caughtOn 3 = .ok (.iconst 0, 1) := by decide +kernel
theorem dX3_caughtOn_4 : decode cX3_caughtOn 4 = .ok (.istore 5, 2) := by decide +kernel
theorem dX3_caughtOn_6 : decode cX3_caughtOn 6 = .ok (.iload 5, 2) := by decide +kernel
theorem dX3_caughtOn_8 : decode cX3_caughtOn 8 = .ok (.aload_n 1, 1) := by decide +kernel
theorem dX3_caughtOn_9 : decode cX3_caughtOn 9 = .ok (.getfield 59, 3) := by decide +kernel
theorem dX3_caughtOn_12 : decode cX3_caughtOn 12 = .ok (.if_icmp .ge 33, 3) := by decide +kernel
theorem dX3_caughtOn_15 : decode cX3_caughtOn 15 = .ok (.aload_n 1, 1) := by decide +kernel
theorem dX3_caughtOn_16 : decode cX3_caughtOn 16 = .ok (.getfield 62, 3) := by decide +kernel
theorem dX3_caughtOn_19 : decode cX3_caughtOn 19 = .ok (.iload 5, 2) := by decide +kernel
theorem dX3_caughtOn_21 : decode cX3_caughtOn 21 = .ok (.iaload, 1) := by decide +kernel
theorem dX3_caughtOn_22 : decode cX3_caughtOn 22 = .ok (.iload_n 2, 1) := by decide +kernel
theorem dX3_caughtOn_23 : decode cX3_caughtOn 23 = .ok (.if_icmp .ne 16, 3) := by decide +kernel
theorem dX3_caughtOn_26 : decode cX3_caughtOn 26 = .ok (.aload_n 1, 1) := by decide +kernel
theorem dX3_caughtOn_27 : decode cX3_caughtOn 27 = .ok (.iload 5, 2) := by decide +kernel
theorem dX3_caughtOn_29 : decode cX3_caughtOn 29 = .ok (.iload_n 3, 1) := by decide +kernel
theorem dX3_caughtOn_30 : decode cX3_caughtOn 30 = .ok (.invokevirtual 65, 3) := by decide +kernel
theorem dX3_caughtOn_33 : decode cX3_caughtOn 33 = .ok (.ifCond .eq 6, 3) := by decide +kernel
theorem dX3_caughtOn_36 : decode cX3_caughtOn 36 = .ok (.iinc 4 1, 3) := by decide +kernel
theorem dX3_caughtOn_39 : decode cX3_caughtOn 39 = .ok (.iinc 5 1, 3) := by decide +kernel
theorem dX3_caughtOn_42 : decode cX3_caughtOn 42 = .ok (.goto (-36), 3) := by decide +kernel
theorem dX3_caughtOn_45 : decode cX3_caughtOn 45 = .ok (.iload 4, 2) := by decide +kernel
theorem dX3_caughtOn_47 : decode cX3_caughtOn 47 = .ok (.ireturn, 1) := by decide +kernel
theorem dX3_daysToNest_0 : decode cX3_daysToNest 0 = .ok (.aload_n 2, 1) := by decide +kernel
theorem dX3_daysToNest_1 : decode cX3_daysToNest 1 = .ok (.getfield 38, 3) := by decide +kernel
theorem dX3_daysToNest_4 : decode cX3_daysToNest 4 = .ok (.iload_n 3, 1) := by decide +kernel
theorem dX3_daysToNest_5 : decode cX3_daysToNest 5 = .ok (.iaload, 1) := by decide +kernel
theorem dX3_daysToNest_6 : decode cX3_daysToNest 6 = .ok (.istore 4, 2) := by decide +kernel
theorem dX3_daysToNest_8 : decode cX3_daysToNest 8 = .ok (.iconst 0, 1) := by decide +kernel
theorem dX3_daysToNest_9 : decode cX3_daysToNest 9 = .ok (.istore 5, 2) := by decide +kernel
theorem dX3_daysToNest_11 : decode cX3_daysToNest 11 = .ok (.iload 5, 2) := by decide +kernel
theorem dX3_daysToNest_13 : decode cX3_daysToNest 13 = .ok (.bipush 99, 2) := by decide +kernel
theorem dX3_daysToNest_15 : decode cX3_daysToNest 15 = .ok (.if_icmp .gt 42, 3) := by decide +kernel
theorem dX3_daysToNest_18 : decode cX3_daysToNest 18 = .ok (.iload 5, 2) := by decide +kernel
theorem dX3_daysToNest_20 : decode cX3_daysToNest 20 = .ok (.ifCond .le 21, 3) := by decide +kernel
theorem dX3_daysToNest_23 : decode cX3_daysToNest 23 = .ok (.iload 4, 2) := by decide +kernel
theorem dX3_daysToNest_25 : decode cX3_daysToNest 25 = .ok (.aload_n 0, 1) := by decide +kernel
theorem dX3_daysToNest_26 : decode cX3_daysToNest 26 = .ok (.aload_n 1, 1) := by decide +kernel
theorem dX3_daysToNest_27 : decode cX3_daysToNest 27 = .ok (.iload_n 3, 1) := by decide +kernel
theorem dX3_daysToNest_28 : decode cX3_daysToNest 28 = .ok (.aload_n 2, 1) := by decide +kernel
theorem dX3_daysToNest_29 : decode cX3_daysToNest 29 = .ok (.getfield 53, 3) := by decide +kernel
theorem dX3_daysToNest_32 : decode cX3_daysToNest 32 = .ok (.iload 5, 2) := by decide +kernel
theorem dX3_daysToNest_34 : decode cX3_daysToNest 34 = .ok (.iadd, 1) := by decide +kernel
theorem dX3_daysToNest_35 : decode cX3_daysToNest 35 = .ok (.invokevirtual 56, 3) := by decide +kernel
theorem dX3_daysToNest_38 : decode cX3_daysToNest 38 = .ok (.iadd, 1) := by decide +kernel
theorem dX3_daysToNest_39 : decode cX3_daysToNest 39 = .ok (.istore 4, 2) := by decide +kernel
theorem dX3_daysToNest_41 : decode cX3_daysToNest 41 = .ok (.iload 4, 2) := by decide +kernel
theorem dX3_daysToNest_43 : decode cX3_daysToNest 43 = .ok (.bipush 8, 2) := by decide +kernel
theorem dX3_daysToNest_45 : decode cX3_daysToNest 45 = .ok (.if_icmp .lt 6, 3) := by decide +kernel
theorem dX3_daysToNest_48 : decode cX3_daysToNest 48 = .ok (.iload 5, 2) := by decide +kernel
theorem dX3_daysToNest_50 : decode cX3_daysToNest 50 = .ok (.ireturn, 1) := by decide +kernel
theorem dX3_daysToNest_51 : decode cX3_daysToNest 51 = .ok (.iinc 5 1, 3) := by decide +kernel
theorem dX3_daysToNest_54 : decode cX3_daysToNest 54 = .ok (.goto (-43), 3) := by decide +kernel
theorem dX3_daysToNest_57 : decode cX3_daysToNest 57 = .ok (.iconst (-1), 1) := by decide +kernel
theorem dX3_daysToNest_58 : decode cX3_daysToNest 58 = .ok (.ireturn, 1) := by decide +kernel
theorem dX3_roundCost_0 : decode cX3_roundCost 0 = .ok (.iconst 0, 1) := by decide +kernel
theorem dX3_roundCost_1 : decode cX3_roundCost 1 = .ok (.istore_n 3, 1) := by decide +kernel
theorem dX3_roundCost_2 : decode cX3_roundCost 2 = .ok (.iconst 0, 1) := by decide +kernel
theorem dX3_roundCost_3 : decode cX3_roundCost 3 = .ok (.istore 4, 2) := by decide +kernel
theorem dX3_roundCost_5 : decode cX3_roundCost 5 = .ok (.iload 4, 2) := by decide +kernel
theorem dX3_roundCost_7 : decode cX3_roundCost 7 = .ok (.aload_n 1, 1) := by decide +kernel
theorem dX3_roundCost_8 : decode cX3_roundCost 8 = .ok (.getfield 69, 3) := by decide +kernel
theorem dX3_roundCost_11 : decode cX3_roundCost 11 = .ok (.if_icmp .ge 42, 3) := by decide +kernel
theorem dX3_roundCost_14 : decode cX3_roundCost 14 = .ok (.iload_n 2, 1) := by decide +kernel
theorem dX3_roundCost_15 : decode cX3_roundCost 15 = .ok (.iload 4, 2) := by decide +kernel
theorem dX3_roundCost_17 : decode cX3_roundCost 17 = .ok (.ishr, 1) := by decide +kernel
theorem dX3_roundCost_18 : decode cX3_roundCost 18 = .ok (.iconst 1, 1) := by decide +kernel
theorem dX3_roundCost_19 : decode cX3_roundCost 19 = .ok (.iand, 1) := by decide +kernel
theorem dX3_roundCost_20 : decode cX3_roundCost 20 = .ok (.iconst 1, 1) := by decide +kernel
theorem dX3_roundCost_21 : decode cX3_roundCost 21 = .ok (.if_icmp .ne 26, 3) := by decide +kernel
theorem dX3_roundCost_24 : decode cX3_roundCost 24 = .ok (.aload_n 0, 1) := by decide +kernel
theorem dX3_roundCost_25 : decode cX3_roundCost 25 = .ok (.getfield 21, 3) := by decide +kernel
theorem dX3_roundCost_28 : decode cX3_roundCost 28 = .ok (.iload 4, 2) := by decide +kernel
theorem dX3_roundCost_30 : decode cX3_roundCost 30 = .ok (.iaload, 1) := by decide +kernel
theorem dX3_roundCost_31 : decode cX3_roundCost 31 = .ok (.iconst (-1), 1) := by decide +kernel
theorem dX3_roundCost_32 : decode cX3_roundCost 32 = .ok (.if_icmp .ne 5, 3) := by decide +kernel
theorem dX3_roundCost_35 : decode cX3_roundCost 35 = .ok (.iconst (-1), 1) := by decide +kernel
theorem dX3_roundCost_36 : decode cX3_roundCost 36 = .ok (.ireturn, 1) := by decide +kernel
theorem dX3_roundCost_37 : decode cX3_roundCost 37 = .ok (.iload_n 3, 1) := by decide +kernel
theorem dX3_roundCost_38 : decode cX3_roundCost 38 = .ok (.aload_n 0, 1) := by decide +kernel
theorem dX3_roundCost_39 : decode cX3_roundCost 39 = .ok (.getfield 21, 3) := by decide +kernel
theorem dX3_roundCost_42 : decode cX3_roundCost 42 = .ok (.iload 4, 2) := by decide +kernel
theorem dX3_roundCost_44 : decode cX3_roundCost 44 = .ok (.iaload, 1) := by decide +kernel
theorem dX3_roundCost_45 : decode cX3_roundCost 45 = .ok (.iadd, 1) := by decide +kernel
theorem dX3_roundCost_46 : decode cX3_roundCost 46 = .ok (.istore_n 3, 1) := by decide +kernel
theorem dX3_roundCost_47 : decode cX3_roundCost 47 = .ok (.iinc 4 1, 3) := by decide +kernel
theorem dX3_roundCost_50 : decode cX3_roundCost 50 = .ok (.goto (-45), 3) := by decide +kernel
theorem dX3_roundCost_53 : decode cX3_roundCost 53 = .ok (.iload_n 3, 1) := by decide +kernel
theorem dX3_roundCost_54 : decode cX3_roundCost 54 = .ok (.ireturn, 1) := by decide +kernel
theorem dJ6_bitCount_0f7a4_0 : decode cJ6_bitCount_0f7a4 0 = .ok (.iload_n 0, 1) := by decide +kernel
theorem dJ6_bitCount_0f7a4_1 : decode cJ6_bitCount_0f7a4 1 = .ok (.iload_n 0, 1) := by decide +kernel
theorem dJ6_bitCount_0f7a4_2 : decode cJ6_bitCount_0f7a4 2 = .ok (.iconst 1, 1) := by decide +kernel
theorem dJ6_bitCount_0f7a4_3 : decode cJ6_bitCount_0f7a4 3 = .ok (.iushr, 1) := by decide +kernel
theorem dJ6_bitCount_0f7a4_4 : decode cJ6_bitCount_0f7a4 4 = .ok (.ldc_w 265, 3) := by decide +kernel
theorem dJ6_bitCount_0f7a4_7 : decode cJ6_bitCount_0f7a4 7 = .ok (.iand, 1) := by decide +kernel
theorem dJ6_bitCount_0f7a4_8 : decode cJ6_bitCount_0f7a4 8 = .ok (.isub, 1) := by decide +kernel
theorem dJ6_bitCount_0f7a4_9 : decode cJ6_bitCount_0f7a4 9 = .ok (.istore_n 0, 1) := by decide +kernel
theorem dJ6_bitCount_0f7a4_10 : decode cJ6_bitCount_0f7a4 10 = .ok (.iload_n 0, 1) := by decide +kernel
theorem dJ6_bitCount_0f7a4_11 : decode cJ6_bitCount_0f7a4 11 = .ok (.ldc_w 266, 3) := by decide +kernel
theorem dJ6_bitCount_0f7a4_14 : decode cJ6_bitCount_0f7a4 14 = .ok (.iand, 1) := by decide +kernel
theorem dJ6_bitCount_0f7a4_15 : decode cJ6_bitCount_0f7a4 15 = .ok (.iload_n 0, 1) := by decide +kernel
theorem dJ6_bitCount_0f7a4_16 : decode cJ6_bitCount_0f7a4 16 = .ok (.iconst 2, 1) := by decide +kernel
theorem dJ6_bitCount_0f7a4_17 : decode cJ6_bitCount_0f7a4 17 = .ok (.iushr, 1) := by decide +kernel
theorem dJ6_bitCount_0f7a4_18 : decode cJ6_bitCount_0f7a4 18 = .ok (.ldc_w 266, 3) := by decide +kernel
theorem dJ6_bitCount_0f7a4_21 : decode cJ6_bitCount_0f7a4 21 = .ok (.iand, 1) := by decide +kernel
theorem dJ6_bitCount_0f7a4_22 : decode cJ6_bitCount_0f7a4 22 = .ok (.iadd, 1) := by decide +kernel
theorem dJ6_bitCount_0f7a4_23 : decode cJ6_bitCount_0f7a4 23 = .ok (.istore_n 0, 1) := by decide +kernel
theorem dJ6_bitCount_0f7a4_24 : decode cJ6_bitCount_0f7a4 24 = .ok (.iload_n 0, 1) := by decide +kernel
theorem dJ6_bitCount_0f7a4_25 : decode cJ6_bitCount_0f7a4 25 = .ok (.iload_n 0, 1) := by decide +kernel
theorem dJ6_bitCount_0f7a4_26 : decode cJ6_bitCount_0f7a4 26 = .ok (.iconst 4, 1) := by decide +kernel
theorem dJ6_bitCount_0f7a4_27 : decode cJ6_bitCount_0f7a4 27 = .ok (.iushr, 1) := by decide +kernel
theorem dJ6_bitCount_0f7a4_28 : decode cJ6_bitCount_0f7a4 28 = .ok (.iadd, 1) := by decide +kernel
theorem dJ6_bitCount_0f7a4_29 : decode cJ6_bitCount_0f7a4 29 = .ok (.ldc_w 267, 3) := by decide +kernel
theorem dJ6_bitCount_0f7a4_32 : decode cJ6_bitCount_0f7a4 32 = .ok (.iand, 1) := by decide +kernel
theorem dJ6_bitCount_0f7a4_33 : decode cJ6_bitCount_0f7a4 33 = .ok (.istore_n 0, 1) := by decide +kernel
theorem dJ6_bitCount_0f7a4_34 : decode cJ6_bitCount_0f7a4 34 = .ok (.iload_n 0, 1) := by decide +kernel
theorem dJ6_bitCount_0f7a4_35 : decode cJ6_bitCount_0f7a4 35 = .ok (.iload_n 0, 1) := by decide +kernel
theorem dJ6_bitCount_0f7a4_36 : decode cJ6_bitCount_0f7a4 36 = .ok (.bipush 8, 2) := by decide +kernel
theorem dJ6_bitCount_0f7a4_38 : decode cJ6_bitCount_0f7a4 38 = .ok (.iushr, 1) := by decide +kernel
theorem dJ6_bitCount_0f7a4_39 : decode cJ6_bitCount_0f7a4 39 = .ok (.iadd, 1) := by decide +kernel
theorem dJ6_bitCount_0f7a4_40 : decode cJ6_bitCount_0f7a4 40 = .ok (.istore_n 0, 1) := by decide +kernel
theorem dJ6_bitCount_0f7a4_41 : decode cJ6_bitCount_0f7a4 41 = .ok (.iload_n 0, 1) := by decide +kernel
theorem dJ6_bitCount_0f7a4_42 : decode cJ6_bitCount_0f7a4 42 = .ok (.iload_n 0, 1) := by decide +kernel
theorem dJ6_bitCount_0f7a4_43 : decode cJ6_bitCount_0f7a4 43 = .ok (.bipush 16, 2) := by decide +kernel
theorem dJ6_bitCount_0f7a4_45 : decode cJ6_bitCount_0f7a4 45 = .ok (.iushr, 1) := by decide +kernel
theorem dJ6_bitCount_0f7a4_46 : decode cJ6_bitCount_0f7a4 46 = .ok (.iadd, 1) := by decide +kernel
theorem dJ6_bitCount_0f7a4_47 : decode cJ6_bitCount_0f7a4 47 = .ok (.istore_n 0, 1) := by decide +kernel
theorem dJ6_bitCount_0f7a4_48 : decode cJ6_bitCount_0f7a4 48 = .ok (.iload_n 0, 1) := by decide +kernel
theorem dJ6_bitCount_0f7a4_49 : decode cJ6_bitCount_0f7a4 49 = .ok (.bipush 63, 2) := by decide +kernel
theorem dJ6_bitCount_0f7a4_51 : decode cJ6_bitCount_0f7a4 51 = .ok (.iand, 1) := by decide +kernel
theorem dJ6_bitCount_0f7a4_52 : decode cJ6_bitCount_0f7a4 52 = .ok (.ireturn, 1) := by decide +kernel
theorem dX3_bestRound_0 : decode cX3_bestRound 0 = .ok (.iconst 0, 1) := by decide +kernel
theorem dX3_bestRound_1 : decode cX3_bestRound 1 = .ok (.istore 4, 2) := by decide +kernel
theorem dX3_bestRound_3 : decode cX3_bestRound 3 = .ok (.iload 4, 2) := by decide +kernel
theorem dX3_bestRound_5 : decode cX3_bestRound 5 = .ok (.aload_n 1, 1) := by decide +kernel
theorem dX3_bestRound_6 : decode cX3_bestRound 6 = .ok (.getfield 69, 3) := by decide +kernel
theorem dX3_bestRound_9 : decode cX3_bestRound 9 = .ok (.if_icmp .ge 61, 3) := by decide +kernel
theorem dX3_bestRound_12 : decode cX3_bestRound 12 = .ok (.aload_n 2, 1) := by decide +kernel
theorem dX3_bestRound_13 : decode cX3_bestRound 13 = .ok (.getfield 38, 3) := by decide +kernel
theorem dX3_bestRound_16 : decode cX3_bestRound 16 = .ok (.iload 4, 2) := by decide +kernel
theorem dX3_bestRound_18 : decode cX3_bestRound 18 = .ok (.iaload, 1) := by decide +kernel
theorem dX3_bestRound_19 : decode cX3_bestRound 19 = .ok (.ifCond .le 19, 3) := by decide +kernel
theorem dX3_bestRound_22 : decode cX3_bestRound 22 = .ok (.aload_n 0, 1) := by decide +kernel
theorem dX3_bestRound_23 : decode cX3_bestRound 23 = .ok (.aload_n 1, 1) := by decide +kernel
theorem dX3_bestRound_24 : decode cX3_bestRound 24 = .ok (.aload_n 2, 1) := by decide +kernel
theorem dX3_bestRound_25 : decode cX3_bestRound 25 = .ok (.iload 4, 2) := by decide +kernel
theorem dX3_bestRound_27 : decode cX3_bestRound 27 = .ok (.invokevirtual 72, 3) := by decide +kernel
theorem dX3_bestRound_30 : decode cX3_bestRound 30 = .ok (.iconst (-1), 1) := by decide +kernel
theorem dX3_bestRound_31 : decode cX3_bestRound 31 = .ok (.if_icmp .eq 7, 3) := by decide +kernel
theorem dX3_bestRound_34 : decode cX3_bestRound 34 = .ok (.iconst 1, 1) := by decide +kernel
theorem dX3_bestRound_35 : decode cX3_bestRound 35 = .ok (.goto 4, 3) := by decide +kernel
theorem dX3_bestRound_38 : decode cX3_bestRound 38 = .ok (.iconst 0, 1) := by decide +kernel
theorem dX3_bestRound_39 : decode cX3_bestRound 39 = .ok (.istore 5, 2) := by decide +kernel
theorem dX3_bestRound_41 : decode cX3_bestRound 41 = .ok (.aload_n 0, 1) := by decide +kernel
theorem dX3_bestRound_42 : decode cX3_bestRound 42 = .ok (.getfield 21, 3) := by decide +kernel
theorem dX3_bestRound_45 : decode cX3_bestRound 45 = .ok (.iload 4, 2) := by decide +kernel
theorem dX3_bestRound_47 : decode cX3_bestRound 47 = .ok (.iload 5, 2) := by decide +kernel
theorem dX3_bestRound_49 : decode cX3_bestRound 49 = .ok (.ifCond .eq 13, 3) := by decide +kernel
theorem dX3_bestRound_52 : decode cX3_bestRound 52 = .ok (.aload_n 2, 1) := by decide +kernel
theorem dX3_bestRound_53 : decode cX3_bestRound 53 = .ok (.aload_n 1, 1) := by decide +kernel
theorem dX3_bestRound_54 : decode cX3_bestRound 54 = .ok (.iload 4, 2) := by decide +kernel
theorem dX3_bestRound_56 : decode cX3_bestRound 56 = .ok (.invokevirtual 24, 3) := by decide +kernel
theorem dX3_bestRound_59 : decode cX3_bestRound 59 = .ok (.goto 4, 3) := by decide +kernel
theorem dX3_bestRound_62 : decode cX3_bestRound 62 = .ok (.iconst (-1), 1) := by decide +kernel
theorem dX3_bestRound_63 : decode cX3_bestRound 63 = .ok (.iastore, 1) := by decide +kernel
theorem dX3_bestRound_64 : decode cX3_bestRound 64 = .ok (.iinc 4 1, 3) := by decide +kernel
theorem dX3_bestRound_67 : decode cX3_bestRound 67 = .ok (.goto (-64), 3) := by decide +kernel
theorem dX3_bestRound_70 : decode cX3_bestRound 70 = .ok (.iconst 0, 1) := by decide +kernel
theorem dX3_bestRound_71 : decode cX3_bestRound 71 = .ok (.istore 4, 2) := by decide +kernel
theorem dX3_bestRound_73 : decode cX3_bestRound 73 = .ok (.iconst 0, 1) := by decide +kernel
theorem dX3_bestRound_74 : decode cX3_bestRound 74 = .ok (.istore 5, 2) := by decide +kernel
theorem dX3_bestRound_76 : decode cX3_bestRound 76 = .ok (.iconst 1, 1) := by decide +kernel
theorem dX3_bestRound_77 : decode cX3_bestRound 77 = .ok (.istore 6, 2) := by decide +kernel
theorem dX3_bestRound_79 : decode cX3_bestRound 79 = .ok (.iload 6, 2) := by decide +kernel
theorem dX3_bestRound_81 : decode cX3_bestRound 81 = .ok (.iconst 1, 1) := by decide +kernel
theorem dX3_bestRound_82 : decode cX3_bestRound 82 = .ok (.aload_n 1, 1) := by decide +kernel
theorem dX3_bestRound_83 : decode cX3_bestRound 83 = .ok (.getfield 69, 3) := by decide +kernel
theorem dX3_bestRound_86 : decode cX3_bestRound 86 = .ok (.ishl, 1) := by decide +kernel
theorem dX3_bestRound_87 : decode cX3_bestRound 87 = .ok (.if_icmp .ge 68, 3) := by decide +kernel
theorem dX3_bestRound_90 : decode cX3_bestRound 90 = .ok (.aload_n 0, 1) := by decide +kernel
theorem dX3_bestRound_91 : decode cX3_bestRound 91 = .ok (.aload_n 1, 1) := by decide +kernel
theorem dX3_bestRound_92 : decode cX3_bestRound 92 = .ok (.iload 6, 2) := by decide +kernel
theorem dX3_bestRound_94 : decode cX3_bestRound 94 = .ok (.invokevirtual 76, 3) := by decide +kernel
theorem dX3_bestRound_97 : decode cX3_bestRound 97 = .ok (.istore 7, 2) := by decide +kernel
theorem dX3_bestRound_99 : decode cX3_bestRound 99 = .ok (.iload 6, 2) := by decide +kernel
theorem dX3_bestRound_101 : decode cX3_bestRound 101 = .ok (.invokestatic 79, 3) := by decide +kernel
theorem dX3_bestRound_104 : decode cX3_bestRound 104 = .ok (.iload 4, 2) := by decide +kernel
theorem dX3_bestRound_106 : decode cX3_bestRound 106 = .ok (.invokestatic 79, 3) := by decide +kernel
theorem dX3_bestRound_109 : decode cX3_bestRound 109 = .ok (.isub, 1) := by decide +kernel
theorem dX3_bestRound_110 : decode cX3_bestRound 110 = .ok (.istore 8, 2) := by decide +kernel
theorem dX3_bestRound_112 : decode cX3_bestRound 112 = .ok (.iload 7, 2) := by decide +kernel
theorem dX3_bestRound_114 : decode cX3_bestRound 114 = .ok (.iconst (-1), 1) := by decide +kernel
theorem dX3_bestRound_115 : decode cX3_bestRound 115 = .ok (.if_icmp .eq 34, 3) := by decide +kernel
theorem dX3_bestRound_118 : decode cX3_bestRound 118 = .ok (.iload 7, 2) := by decide +kernel
theorem dX3_bestRound_120 : decode cX3_bestRound 120 = .ok (.iload_n 3, 1) := by decide +kernel
theorem dX3_bestRound_121 : decode cX3_bestRound 121 = .ok (.if_icmp .gt 28, 3) := by decide +kernel
theorem dX3_bestRound_124 : decode cX3_bestRound 124 = .ok (.iload 8, 2) := by decide +kernel
theorem dX3_bestRound_126 : decode cX3_bestRound 126 = .ok (.ifCond .gt 15, 3) := by decide +kernel
theorem dX3_bestRound_129 : decode cX3_bestRound 129 = .ok (.iload 8, 2) := by decide +kernel
theorem dX3_bestRound_131 : decode cX3_bestRound 131 = .ok (.ifCond .ne 18, 3) := by decide +kernel
theorem dX3_bestRound_134 : decode cX3_bestRound 134 = .ok (.iload 7, 2) := by decide +kernel
theorem dX3_bestRound_136 : decode cX3_bestRound 136 = .ok (.iload 5, 2) := by decide +kernel
theorem dX3_bestRound_138 : decode cX3_bestRound 138 = .ok (.if_icmp .ge 11, 3) := by decide +kernel
theorem dX3_bestRound_141 : decode cX3_bestRound 141 = .ok (.iload 6, 2) := by decide +kernel
theorem dX3_bestRound_143 : decode cX3_bestRound 143 = .ok (.istore 4, 2) := by decide +kernel
theorem dX3_bestRound_145 : decode cX3_bestRound 145 = .ok (.iload 7, 2) := by decide +kernel
theorem dX3_bestRound_147 : decode cX3_bestRound 147 = .ok (.istore 5, 2) := by decide +kernel
theorem dX3_bestRound_149 : decode cX3_bestRound 149 = .ok (.iinc 6 1, 3) := by decide +kernel
theorem dX3_bestRound_152 : decode cX3_bestRound 152 = .ok (.goto (-73), 3) := by decide +kernel
theorem dX3_bestRound_155 : decode cX3_bestRound 155 = .ok (.iload 4, 2) := by decide +kernel
theorem dX3_bestRound_157 : decode cX3_bestRound 157 = .ok (.ireturn, 1) := by decide +kernel
theorem dX3_listBag_0 : decode cX3_listBag 0 = .ok (.aload_n 0, 1) := by decide +kernel
theorem dX3_listBag_1 : decode cX3_listBag 1 = .ok (.iconst 0, 1) := by decide +kernel
theorem dX3_listBag_2 : decode cX3_listBag 2 = .ok (.putfield 100, 3) := by decide +kernel
theorem dX3_listBag_5 : decode cX3_listBag 5 = .ok (.aload_n 0, 1) := by decide +kernel
theorem dX3_listBag_6 : decode cX3_listBag 6 = .ok (.iconst 0, 1) := by decide +kernel
theorem dX3_listBag_7 : decode cX3_listBag 7 = .ok (.putfield 103, 3) := by decide +kernel
theorem dX3_listBag_10 : decode cX3_listBag 10 = .ok (.iconst 0, 1) := by decide +kernel
theorem dX3_listBag_11 : decode cX3_listBag 11 = .ok (.istore_n 3, 1) := by decide +kernel
theorem dX3_listBag_12 : decode cX3_listBag 12 = .ok (.iload_n 3, 1) := by decide +kernel
theorem dX3_listBag_13 : decode cX3_listBag 13 = .ok (.aload_n 1, 1) := by decide +kernel
theorem dX3_listBag_14 : decode cX3_listBag 14 = .ok (.getfield 106, 3) := by decide +kernel
theorem dX3_listBag_17 : decode cX3_listBag 17 = .ok (.if_icmp .ge 78, 3) := by decide +kernel
theorem dX3_listBag_20 : decode cX3_listBag 20 = .ok (.iconst 0, 1) := by decide +kernel
theorem dX3_listBag_21 : decode cX3_listBag 21 = .ok (.istore 4, 2) := by decide +kernel
theorem dX3_listBag_23 : decode cX3_listBag 23 = .ok (.iload 4, 2) := by decide +kernel
theorem dX3_listBag_25 : decode cX3_listBag 25 = .ok (.aload_n 2, 1) := by decide +kernel
theorem dX3_listBag_26 : decode cX3_listBag 26 = .ok (.getfield 109, 3) := by decide +kernel
theorem dX3_listBag_29 : decode cX3_listBag 29 = .ok (.iload_n 3, 1) := by decide +kernel
theorem dX3_listBag_30 : decode cX3_listBag 30 = .ok (.iaload, 1) := by decide +kernel
theorem dX3_listBag_31 : decode cX3_listBag 31 = .ok (.if_icmp .ge 58, 3) := by decide +kernel
theorem dX3_listBag_34 : decode cX3_listBag 34 = .ok (.aload_n 0, 1) := by decide +kernel
theorem dX3_listBag_35 : decode cX3_listBag 35 = .ok (.getfield 100, 3) := by decide +kernel
theorem dX3_listBag_38 : decode cX3_listBag 38 = .ok (.bipush 10, 2) := by decide +kernel
theorem dX3_listBag_40 : decode cX3_listBag 40 = .ok (.if_icmp .ge 49, 3) := by decide +kernel
theorem dX3_listBag_43 : decode cX3_listBag 43 = .ok (.aload_n 0, 1) := by decide +kernel
theorem dX3_listBag_44 : decode cX3_listBag 44 = .ok (.getfield 15, 3) := by decide +kernel
theorem dX3_listBag_47 : decode cX3_listBag 47 = .ok (.aload_n 0, 1) := by decide +kernel
theorem dX3_listBag_48 : decode cX3_listBag 48 = .ok (.getfield 100, 3) := by decide +kernel
theorem dX3_listBag_51 : decode cX3_listBag 51 = .ok (.aload_n 1, 1) := by decide +kernel
theorem dX3_listBag_52 : decode cX3_listBag 52 = .ok (.getfield 112, 3) := by decide +kernel
theorem dX3_listBag_55 : decode cX3_listBag 55 = .ok (.iload_n 3, 1) := by decide +kernel
theorem dX3_listBag_56 : decode cX3_listBag 56 = .ok (.iaload, 1) := by decide +kernel
theorem dX3_listBag_57 : decode cX3_listBag 57 = .ok (.iastore, 1) := by decide +kernel
theorem dX3_listBag_58 : decode cX3_listBag 58 = .ok (.aload_n 0, 1) := by decide +kernel
theorem dX3_listBag_59 : decode cX3_listBag 59 = .ok (.dup, 1) := by decide +kernel
theorem dX3_listBag_60 : decode cX3_listBag 60 = .ok (.getfield 103, 3) := by decide +kernel
theorem dX3_listBag_63 : decode cX3_listBag 63 = .ok (.aload_n 1, 1) := by decide +kernel
theorem dX3_listBag_64 : decode cX3_listBag 64 = .ok (.getfield 112, 3) := by decide +kernel
theorem dX3_listBag_67 : decode cX3_listBag 67 = .ok (.iload_n 3, 1) := by decide +kernel
theorem dX3_listBag_68 : decode cX3_listBag 68 = .ok (.iaload, 1) := by decide +kernel
theorem dX3_listBag_69 : decode cX3_listBag 69 = .ok (.iadd, 1) := by decide +kernel
theorem dX3_listBag_70 : decode cX3_listBag 70 = .ok (.putfield 103, 3) := by decide +kernel
theorem dX3_listBag_73 : decode cX3_listBag 73 = .ok (.aload_n 0, 1) := by decide +kernel
theorem dX3_listBag_74 : decode cX3_listBag 74 = .ok (.dup, 1) := by decide +kernel
theorem dX3_listBag_75 : decode cX3_listBag 75 = .ok (.getfield 100, 3) := by decide +kernel
theorem dX3_listBag_78 : decode cX3_listBag 78 = .ok (.iconst 1, 1) := by decide +kernel
theorem dX3_listBag_79 : decode cX3_listBag 79 = .ok (.iadd, 1) := by decide +kernel
theorem dX3_listBag_80 : decode cX3_listBag 80 = .ok (.putfield 100, 3) := by decide +kernel
theorem dX3_listBag_83 : decode cX3_listBag 83 = .ok (.iinc 4 1, 3) := by decide +kernel
theorem dX3_listBag_86 : decode cX3_listBag 86 = .ok (.goto (-63), 3) := by decide +kernel
theorem dX3_listBag_89 : decode cX3_listBag 89 = .ok (.iinc 3 1, 3) := by decide +kernel
theorem dX3_listBag_92 : decode cX3_listBag 92 = .ok (.goto (-80), 3) := by decide +kernel
theorem dX3_listBag_95 : decode cX3_listBag 95 = .ok (.return_, 1) := by decide +kernel
theorem dX6_sleeps_0 : decode cX6_sleeps 0 = .ok (.aload_n 0, 1) := by decide +kernel
theorem dX6_sleeps_1 : decode cX6_sleeps 1 = .ok (.getfield 27, 3) := by decide +kernel
theorem dX6_sleeps_4 : decode cX6_sleeps 4 = .ok (.iload_n 2, 1) := by decide +kernel
theorem dX6_sleeps_5 : decode cX6_sleeps 5 = .ok (.iaload, 1) := by decide +kernel
theorem dX6_sleeps_6 : decode cX6_sleeps 6 = .ok (.aload_n 1, 1) := by decide +kernel
theorem dX6_sleeps_7 : decode cX6_sleeps 7 = .ok (.getfield 78, 3) := by decide +kernel
theorem dX6_sleeps_10 : decode cX6_sleeps 10 = .ok (.iload_n 2, 1) := by decide +kernel
theorem dX6_sleeps_11 : decode cX6_sleeps 11 = .ok (.iaload, 1) := by decide +kernel
theorem dX6_sleeps_12 : decode cX6_sleeps 12 = .ok (.if_icmp .lt 7, 3) := by decide +kernel
theorem dX6_sleeps_15 : decode cX6_sleeps 15 = .ok (.iconst 1, 1) := by decide +kernel
theorem dX6_sleeps_16 : decode cX6_sleeps 16 = .ok (.goto 4, 3) := by decide +kernel
theorem dX6_sleeps_19 : decode cX6_sleeps 19 = .ok (.iconst 0, 1) := by decide +kernel
theorem dX6_sleeps_20 : decode cX6_sleeps 20 = .ok (.ireturn, 1) := by decide +kernel
theorem dX6_allSleeping_0 : decode cX6_allSleeping 0 = .ok (.iconst 0, 1) := by decide +kernel
theorem dX6_allSleeping_1 : decode cX6_allSleeping 1 = .ok (.istore_n 2, 1) := by decide +kernel
theorem dX6_allSleeping_2 : decode cX6_allSleeping 2 = .ok (.iconst 0, 1) := by decide +kernel
theorem dX6_allSleeping_3 : decode cX6_allSleeping 3 = .ok (.istore_n 3, 1) := by decide +kernel
theorem dX6_allSleeping_4 : decode cX6_allSleeping 4 = .ok (.iload_n 3, 1) := by decide +kernel
theorem dX6_allSleeping_5 : decode cX6_allSleeping 5 = .ok (.aload_n 1, 1) := by decide +kernel
theorem dX6_allSleeping_6 : decode cX6_allSleeping 6 = .ok (.getfield 81, 3) := by decide +kernel
theorem dX6_allSleeping_9 : decode cX6_allSleeping 9 = .ok (.if_icmp .ge 24, 3) := by decide +kernel
theorem dX6_allSleeping_12 : decode cX6_allSleeping 12 = .ok (.aload_n 0, 1) := by decide +kernel
theorem dX6_allSleeping_13 : decode cX6_allSleeping 13 = .ok (.aload_n 1, 1) := by decide +kernel
theorem dX6_allSleeping_14 : decode cX6_allSleeping 14 = .ok (.iload_n 3, 1) := by decide +kernel
theorem dX6_allSleeping_15 : decode cX6_allSleeping 15 = .ok (.invokevirtual 84, 3) := by decide +kernel
theorem dX6_allSleeping_18 : decode cX6_allSleeping 18 = .ok (.ifCond .eq 9, 3) := by decide +kernel
theorem dX6_allSleeping_21 : decode cX6_allSleeping 21 = .ok (.iload_n 2, 1) := by decide +kernel
theorem dX6_allSleeping_22 : decode cX6_allSleeping 22 = .ok (.iconst 1, 1) := by decide +kernel
theorem dX6_allSleeping_23 : decode cX6_allSleeping 23 = .ok (.iload_n 3, 1) := by decide +kernel
theorem dX6_allSleeping_24 : decode cX6_allSleeping 24 = .ok (.ishl, 1) := by decide +kernel
theorem dX6_allSleeping_25 : decode cX6_allSleeping 25 = .ok (.ior, 1) := by decide +kernel
theorem dX6_allSleeping_26 : decode cX6_allSleeping 26 = .ok (.istore_n 2, 1) := by decide +kernel
theorem dX6_allSleeping_27 : decode cX6_allSleeping 27 = .ok (.iinc 3 1, 3) := by decide +kernel
theorem dX6_allSleeping_30 : decode cX6_allSleeping 30 = .ok (.goto (-26), 3) := by decide +kernel
theorem dX6_allSleeping_33 : decode cX6_allSleeping 33 = .ok (.iload_n 2, 1) := by decide +kernel
theorem dX6_allSleeping_34 : decode cX6_allSleeping 34 = .ok (.ireturn, 1) := by decide +kernel
theorem dX3_fillOn_0 : decode cX3_fillOn 0 = .ok (.iload_n 1, 1) := by decide +kernel
theorem dX3_fillOn_1 : decode cX3_fillOn 1 = .ok (.bipush 7, 2) := by decide +kernel
theorem dX3_fillOn_3 : decode cX3_fillOn 3 = .ok (.ishr, 1) := by decide +kernel
theorem dX3_fillOn_4 : decode cX3_fillOn 4 = .ok (.istore 4, 2) := by decide +kernel
theorem dX3_fillOn_6 : decode cX3_fillOn 6 = .ok (.iload 4, 2) := by decide +kernel
theorem dX3_fillOn_8 : decode cX3_fillOn 8 = .ok (.iload_n 3, 1) := by decide +kernel
theorem dX3_fillOn_9 : decode cX3_fillOn 9 = .ok (.if_icmp .ge 9, 3) := by decide +kernel
theorem dX3_fillOn_12 : decode cX3_fillOn 12 = .ok (.iload 4, 2) := by decide +kernel
theorem dX3_fillOn_14 : decode cX3_fillOn 14 = .ok (.iconst 4, 1) := by decide +kernel
theorem dX3_fillOn_15 : decode cX3_fillOn 15 = .ok (.if_icmp .lt 5, 3) := by decide +kernel
theorem dX3_fillOn_18 : decode cX3_fillOn 18 = .ok (.iload_n 1, 1) := by decide +kernel
theorem dX3_fillOn_19 : decode cX3_fillOn 19 = .ok (.ireturn, 1) := by decide +kernel
theorem dX3_fillOn_20 : decode cX3_fillOn 20 = .ok (.iload_n 1, 1) := by decide +kernel
theorem dX3_fillOn_21 : decode cX3_fillOn 21 = .ok (.bipush 127, 2) := by decide +kernel
theorem dX3_fillOn_23 : decode cX3_fillOn 23 = .ok (.iand, 1) := by decide +kernel
theorem dX3_fillOn_24 : decode cX3_fillOn 24 = .ok (.iload_n 2, 1) := by decide +kernel
theorem dX3_fillOn_25 : decode cX3_fillOn 25 = .ok (.iadd, 1) := by decide +kernel
theorem dX3_fillOn_26 : decode cX3_fillOn 26 = .ok (.istore 5, 2) := by decide +kernel
theorem dX3_fillOn_28 : decode cX3_fillOn 28 = .ok (.iload 5, 2) := by decide +kernel
theorem dX3_fillOn_30 : decode cX3_fillOn 30 = .ok (.aload_n 0, 1) := by decide +kernel
theorem dX3_fillOn_31 : decode cX3_fillOn 31 = .ok (.getfield 18, 3) := by decide +kernel
theorem dX3_fillOn_34 : decode cX3_fillOn 34 = .ok (.iload 4, 2) := by decide +kernel
theorem dX3_fillOn_36 : decode cX3_fillOn 36 = .ok (.iaload, 1) := by decide +kernel
theorem dX3_fillOn_37 : decode cX3_fillOn 37 = .ok (.if_icmp .lt 13, 3) := by decide +kernel
theorem dX3_fillOn_40 : decode cX3_fillOn 40 = .ok (.iload 4, 2) := by decide +kernel
theorem dX3_fillOn_42 : decode cX3_fillOn 42 = .ok (.iconst 1, 1) := by decide +kernel
theorem dX3_fillOn_43 : decode cX3_fillOn 43 = .ok (.iadd, 1) := by decide +kernel
theorem dX3_fillOn_44 : decode cX3_fillOn 44 = .ok (.bipush 7, 2) := by decide +kernel
theorem dX3_fillOn_46 : decode cX3_fillOn 46 = .ok (.ishl, 1) := by decide +kernel
theorem dX3_fillOn_47 : decode cX3_fillOn 47 = .ok (.goto 11, 3) := by decide +kernel
theorem dX3_fillOn_50 : decode cX3_fillOn 50 = .ok (.iload 4, 2) := by decide +kernel
theorem dX3_fillOn_52 : decode cX3_fillOn 52 = .ok (.bipush 7, 2) := by decide +kernel
theorem dX3_fillOn_54 : decode cX3_fillOn 54 = .ok (.ishl, 1) := by decide +kernel
theorem dX3_fillOn_55 : decode cX3_fillOn 55 = .ok (.iload 5, 2) := by decide +kernel
theorem dX3_fillOn_57 : decode cX3_fillOn 57 = .ok (.ior, 1) := by decide +kernel
theorem dX3_fillOn_58 : decode cX3_fillOn 58 = .ok (.ireturn, 1) := by decide +kernel
theorem dX3_mostFilled_0 : decode cX3_mostFilled 0 = .ok (.aload_n 0, 1) := by decide +kernel
theorem dX3_mostFilled_1 : decode cX3_mostFilled 1 = .ok (.getfield 9, 3) := by decide +kernel
theorem dX3_mostFilled_4 : decode cX3_mostFilled 4 = .ok (.iconst 0, 1) := by decide +kernel
theorem dX3_mostFilled_5 : decode cX3_mostFilled 5 = .ok (.iconst 0, 1) := by decide +kernel
theorem dX3_mostFilled_6 : decode cX3_mostFilled 6 = .ok (.iastore, 1) := by decide +kernel
theorem dX3_mostFilled_7 : decode cX3_mostFilled 7 = .ok (.iconst 1, 1) := by decide +kernel
theorem dX3_mostFilled_8 : decode cX3_mostFilled 8 = .ok (.aload_n 0, 1) := by decide +kernel
theorem dX3_mostFilled_9 : decode cX3_mostFilled 9 = .ok (.getfield 100, 3) := by decide +kernel
theorem dX3_mostFilled_12 : decode cX3_mostFilled 12 = .ok (.ishl, 1) := by decide +kernel
theorem dX3_mostFilled_13 : decode cX3_mostFilled 13 = .ok (.iconst 1, 1) := by decide +kernel
theorem dX3_mostFilled_14 : decode cX3_mostFilled 14 = .ok (.isub, 1) := by decide +kernel
theorem dX3_mostFilled_15 : decode cX3_mostFilled 15 = .ok (.istore_n 2, 1) := by decide +kernel
theorem dX3_mostFilled_16 : decode cX3_mostFilled 16 = .ok (.iconst 1, 1) := by decide +kernel
theorem dX3_mostFilled_17 : decode cX3_mostFilled 17 = .ok (.istore_n 3, 1) := by decide +kernel
theorem dX3_mostFilled_18 : decode cX3_mostFilled 18 = .ok (.iload_n 3, 1) := by decide +kernel
theorem dX3_mostFilled_19 : decode cX3_mostFilled 19 = .ok (.iload_n 2, 1) := by decide +kernel
theorem dX3_mostFilled_20 : decode cX3_mostFilled 20 = .ok (.if_icmp .gt 80, 3) := by decide +kernel
theorem dX3_mostFilled_23 : decode cX3_mostFilled 23 = .ok (.iconst 0, 1) := by decide +kernel
theorem dX3_mostFilled_24 : decode cX3_mostFilled 24 = .ok (.istore 4, 2) := by decide +kernel
theorem dX3_mostFilled_26 : decode cX3_mostFilled 26 = .ok (.iconst 0, 1) := by decide +kernel
theorem dX3_mostFilled_27 : decode cX3_mostFilled 27 = .ok (.istore 5, 2) := by decide +kernel
theorem dX3_mostFilled_29 : decode cX3_mostFilled 29 = .ok (.iload 5, 2) := by decide +kernel
theorem dX3_mostFilled_31 : decode cX3_mostFilled 31 = .ok (.aload_n 0, 1) := by decide +kernel
theorem dX3_mostFilled_32 : decode cX3_mostFilled 32 = .ok (.getfield 100, 3) := by decide +kernel
theorem dX3_mostFilled_35 : decode cX3_mostFilled 35 = .ok (.if_icmp .ge 51, 3) := by decide +kernel
theorem dX3_mostFilled_38 : decode cX3_mostFilled 38 = .ok (.iload_n 3, 1) := by decide +kernel
theorem dX3_mostFilled_39 : decode cX3_mostFilled 39 = .ok (.iload 5, 2) := by decide +kernel
theorem dX3_mostFilled_41 : decode cX3_mostFilled 41 = .ok (.ishr, 1) := by decide +kernel
theorem dX3_mostFilled_42 : decode cX3_mostFilled 42 = .ok (.iconst 1, 1) := by decide +kernel
theorem dX3_mostFilled_43 : decode cX3_mostFilled 43 = .ok (.iand, 1) := by decide +kernel
theorem dX3_mostFilled_44 : decode cX3_mostFilled 44 = .ok (.iconst 1, 1) := by decide +kernel
theorem dX3_mostFilled_45 : decode cX3_mostFilled 45 = .ok (.if_icmp .ne 35, 3) := by decide +kernel
theorem dX3_mostFilled_48 : decode cX3_mostFilled 48 = .ok (.iload 4, 2) := by decide +kernel
theorem dX3_mostFilled_50 : decode cX3_mostFilled 50 = .ok (.aload_n 0, 1) := by decide +kernel
theorem dX3_mostFilled_51 : decode cX3_mostFilled 51 = .ok (.aload_n 0, 1) := by decide +kernel
theorem dX3_mostFilled_52 : decode cX3_mostFilled 52 = .ok (.getfield 9, 3) := by decide +kernel
theorem dX3_mostFilled_55 : decode cX3_mostFilled 55 = .ok (.iload_n 3, 1) := by decide +kernel
theorem dX3_mostFilled_56 : decode cX3_mostFilled 56 = .ok (.iconst 1, 1) := by decide +kernel
theorem dX3_mostFilled_57 : decode cX3_mostFilled 57 = .ok (.iload 5, 2) := by decide +kernel
theorem dX3_mostFilled_59 : decode cX3_mostFilled 59 = .ok (.ishl, 1) := by decide +kernel
theorem dX3_mostFilled_60 : decode cX3_mostFilled 60 = .ok (.iconst (-1), 1) := by decide +kernel
theorem dX3_mostFilled_61 : decode cX3_mostFilled 61 = .ok (.ixor, 1) := by decide +kernel
theorem dX3_mostFilled_62 : decode cX3_mostFilled 62 = .ok (.iand, 1) := by decide +kernel
theorem dX3_mostFilled_63 : decode cX3_mostFilled 63 = .ok (.iaload, 1) := by decide +kernel
theorem dX3_mostFilled_64 : decode cX3_mostFilled 64 = .ok (.aload_n 0, 1) := by decide +kernel
theorem dX3_mostFilled_65 : decode cX3_mostFilled 65 = .ok (.getfield 15, 3) := by decide +kernel
theorem dX3_mostFilled_68 : decode cX3_mostFilled 68 = .ok (.iload 5, 2) := by decide +kernel
theorem dX3_mostFilled_70 : decode cX3_mostFilled 70 = .ok (.iaload, 1) := by decide +kernel
theorem dX3_mostFilled_71 : decode cX3_mostFilled 71 = .ok (.iload_n 1, 1) := by decide +kernel
theorem dX3_mostFilled_72 : decode cX3_mostFilled 72 = .ok (.invokevirtual 126, 3) := by decide +kernel
theorem dX3_mostFilled_75 : decode cX3_mostFilled 75 = .ok (.invokestatic 130, 3) := by decide +kernel
theorem dX3_mostFilled_78 : decode cX3_mostFilled 78 = .ok (.istore 4, 2) := by decide +kernel
theorem dX3_mostFilled_80 : decode cX3_mostFilled 80 = .ok (.iinc 5 1, 3) := by decide +kernel
theorem dX3_mostFilled_83 : decode cX3_mostFilled 83 = .ok (.goto (-54), 3) := by decide +kernel
theorem dX3_mostFilled_86 : decode cX3_mostFilled 86 = .ok (.aload_n 0, 1) := by decide +kernel
theorem dX3_mostFilled_87 : decode cX3_mostFilled 87 = .ok (.getfield 9, 3) := by decide +kernel
theorem dX3_mostFilled_90 : decode cX3_mostFilled 90 = .ok (.iload_n 3, 1) := by decide +kernel
theorem dX3_mostFilled_91 : decode cX3_mostFilled 91 = .ok (.iload 4, 2) := by decide +kernel
theorem dX3_mostFilled_93 : decode cX3_mostFilled 93 = .ok (.iastore, 1) := by decide +kernel
theorem dX3_mostFilled_94 : decode cX3_mostFilled 94 = .ok (.iinc 3 1, 3) := by decide +kernel
theorem dX3_mostFilled_97 : decode cX3_mostFilled 97 = .ok (.goto (-79), 3) := by decide +kernel
theorem dX3_mostFilled_100 : decode cX3_mostFilled 100 = .ok (.aload_n 0, 1) := by decide +kernel
theorem dX3_mostFilled_101 : decode cX3_mostFilled 101 = .ok (.getfield 9, 3) := by decide +kernel
theorem dX3_mostFilled_104 : decode cX3_mostFilled 104 = .ok (.iload_n 2, 1) := by decide +kernel
theorem dX3_mostFilled_105 : decode cX3_mostFilled 105 = .ok (.iaload, 1) := by decide +kernel
theorem dX3_mostFilled_106 : decode cX3_mostFilled 106 = .ok (.bipush 7, 2) := by decide +kernel
theorem dX3_mostFilled_108 : decode cX3_mostFilled 108 = .ok (.ishr, 1) := by decide +kernel
theorem dX3_mostFilled_109 : decode cX3_mostFilled 109 = .ok (.ireturn, 1) := by decide +kernel
theorem dX3_canFill_0 : decode cX3_canFill 0 = .ok (.iconst 0, 1) := by decide +kernel
theorem dX3_canFill_1 : decode cX3_canFill 1 = .ok (.istore 4, 2) := by decide +kernel
theorem dX3_canFill_3 : decode cX3_canFill 3 = .ok (.iconst 0, 1) := by decide +kernel
theorem dX3_canFill_4 : decode cX3_canFill 4 = .ok (.istore 5, 2) := by decide +kernel
theorem dX3_canFill_6 : decode cX3_canFill 6 = .ok (.iconst 0, 1) := by decide +kernel
theorem dX3_canFill_7 : decode cX3_canFill 7 = .ok (.istore 6, 2) := by decide +kernel
theorem dX3_canFill_9 : decode cX3_canFill 9 = .ok (.iload 6, 2) := by decide +kernel
theorem dX3_canFill_11 : decode cX3_canFill 11 = .ok (.aload_n 1, 1) := by decide +kernel
theorem dX3_canFill_12 : decode cX3_canFill 12 = .ok (.getfield 93, 3) := by decide +kernel
theorem dX3_canFill_15 : decode cX3_canFill 15 = .ok (.if_icmp .ge 66, 3) := by decide +kernel
theorem dX3_canFill_18 : decode cX3_canFill 18 = .ok (.iload_n 3, 1) := by decide +kernel
theorem dX3_canFill_19 : decode cX3_canFill 19 = .ok (.iload 6, 2) := by decide +kernel
theorem dX3_canFill_21 : decode cX3_canFill 21 = .ok (.ishr, 1) := by decide +kernel
theorem dX3_canFill_22 : decode cX3_canFill 22 = .ok (.iconst 1, 1) := by decide +kernel
theorem dX3_canFill_23 : decode cX3_canFill 23 = .ok (.iand, 1) := by decide +kernel
theorem dX3_canFill_24 : decode cX3_canFill 24 = .ok (.iconst 1, 1) := by decide +kernel
theorem dX3_canFill_25 : decode cX3_canFill 25 = .ok (.if_icmp .ne 50, 3) := by decide +kernel
theorem dX3_canFill_28 : decode cX3_canFill 28 = .ok (.aload_n 2, 1) := by decide +kernel
theorem dX3_canFill_29 : decode cX3_canFill 29 = .ok (.aload_n 1, 1) := by decide +kernel
theorem dX3_canFill_30 : decode cX3_canFill 30 = .ok (.iload 6, 2) := by decide +kernel
theorem dX3_canFill_32 : decode cX3_canFill 32 = .ok (.invokevirtual 115, 3) := by decide +kernel
theorem dX3_canFill_35 : decode cX3_canFill 35 = .ok (.ifCond .ne 40, 3) := by decide +kernel
theorem dX3_canFill_38 : decode cX3_canFill 38 = .ok (.aload_n 0, 1) := by decide +kernel
theorem dX3_canFill_39 : decode cX3_canFill 39 = .ok (.getfield 18, 3) := by decide +kernel
theorem dX3_canFill_42 : decode cX3_canFill 42 = .ok (.iload 4, 2) := by decide +kernel
theorem dX3_canFill_44 : decode cX3_canFill 44 = .ok (.aload_n 1, 1) := by decide +kernel
theorem dX3_canFill_45 : decode cX3_canFill 45 = .ok (.getfield 119, 3) := by decide +kernel
theorem dX3_canFill_48 : decode cX3_canFill 48 = .ok (.iload 6, 2) := by decide +kernel
theorem dX3_canFill_50 : decode cX3_canFill 50 = .ok (.iaload, 1) := by decide +kernel
theorem dX3_canFill_51 : decode cX3_canFill 51 = .ok (.aload_n 2, 1) := by decide +kernel
theorem dX3_canFill_52 : decode cX3_canFill 52 = .ok (.getfield 122, 3) := by decide +kernel
theorem dX3_canFill_55 : decode cX3_canFill 55 = .ok (.iload 6, 2) := by decide +kernel
theorem dX3_canFill_57 : decode cX3_canFill 57 = .ok (.iaload, 1) := by decide +kernel
theorem dX3_canFill_58 : decode cX3_canFill 58 = .ok (.isub, 1) := by decide +kernel
theorem dX3_canFill_59 : decode cX3_canFill 59 = .ok (.iastore, 1) := by decide +kernel
theorem dX3_canFill_60 : decode cX3_canFill 60 = .ok (.iload 5, 2) := by decide +kernel
theorem dX3_canFill_62 : decode cX3_canFill 62 = .ok (.aload_n 0, 1) := by decide +kernel
theorem dX3_canFill_63 : decode cX3_canFill 63 = .ok (.getfield 18, 3) := by decide +kernel
theorem dX3_canFill_66 : decode cX3_canFill 66 = .ok (.iload 4, 2) := by decide +kernel
theorem dX3_canFill_68 : decode cX3_canFill 68 = .ok (.iaload, 1) := by decide +kernel
theorem dX3_canFill_69 : decode cX3_canFill 69 = .ok (.iadd, 1) := by decide +kernel
theorem dX3_canFill_70 : decode cX3_canFill 70 = .ok (.istore 5, 2) := by decide +kernel
theorem dX3_canFill_72 : decode cX3_canFill 72 = .ok (.iinc 4 1, 3) := by decide +kernel
theorem dX3_canFill_75 : decode cX3_canFill 75 = .ok (.iinc 6 1, 3) := by decide +kernel
theorem dX3_canFill_78 : decode cX3_canFill 78 = .ok (.goto (-69), 3) := by decide +kernel
theorem dX3_canFill_81 : decode cX3_canFill 81 = .ok (.iload 5, 2) := by decide +kernel
theorem dX3_canFill_83 : decode cX3_canFill 83 = .ok (.aload_n 0, 1) := by decide +kernel
theorem dX3_canFill_84 : decode cX3_canFill 84 = .ok (.getfield 103, 3) := by decide +kernel
theorem dX3_canFill_87 : decode cX3_canFill 87 = .ok (.if_icmp .gt 18, 3) := by decide +kernel
theorem dX3_canFill_90 : decode cX3_canFill 90 = .ok (.aload_n 0, 1) := by decide +kernel
theorem dX3_canFill_91 : decode cX3_canFill 91 = .ok (.iload 4, 2) := by decide +kernel
theorem dX3_canFill_93 : decode cX3_canFill 93 = .ok (.invokevirtual 123, 3) := by decide +kernel
theorem dX3_canFill_96 : decode cX3_canFill 96 = .ok (.iload 4, 2) := by decide +kernel
theorem dX3_canFill_98 : decode cX3_canFill 98 = .ok (.if_icmp .lt 7, 3) := by decide +kernel
theorem dX3_canFill_101 : decode cX3_canFill 101 = .ok (.iconst 1, 1) := by decide +kernel
theorem dX3_canFill_102 : decode cX3_canFill 102 = .ok (.goto 4, 3) := by decide +kernel
theorem dX3_canFill_105 : decode cX3_canFill 105 = .ok (.iconst 0, 1) := by decide +kernel
theorem dX3_canFill_106 : decode cX3_canFill 106 = .ok (.ireturn, 1) := by decide +kernel
theorem dX3_bestBeds_0 : decode cX3_bestBeds 0 = .ok (.aload_n 0, 1) := by decide +kernel
theorem dX3_bestBeds_1 : decode cX3_bestBeds 1 = .ok (.aload_n 1, 1) := by decide +kernel
theorem dX3_bestBeds_2 : decode cX3_bestBeds 2 = .ok (.aload_n 2, 1) := by decide +kernel
theorem dX3_bestBeds_3 : decode cX3_bestBeds 3 = .ok (.invokevirtual 85, 3) := by decide +kernel
theorem dX3_bestBeds_6 : decode cX3_bestBeds 6 = .ok (.aload_n 2, 1) := by decide +kernel
theorem dX3_bestBeds_7 : decode cX3_bestBeds 7 = .ok (.aload_n 1, 1) := by decide +kernel
theorem dX3_bestBeds_8 : decode cX3_bestBeds 8 = .ok (.invokevirtual 89, 3) := by decide +kernel
theorem dX3_bestBeds_11 : decode cX3_bestBeds 11 = .ok (.istore_n 3, 1) := by decide +kernel
theorem dX3_bestBeds_12 : decode cX3_bestBeds 12 = .ok (.iload_n 3, 1) := by decide +kernel
theorem dX3_bestBeds_13 : decode cX3_bestBeds 13 = .ok (.istore 4, 2) := by decide +kernel
theorem dX3_bestBeds_15 : decode cX3_bestBeds 15 = .ok (.iconst 0, 1) := by decide +kernel
theorem dX3_bestBeds_16 : decode cX3_bestBeds 16 = .ok (.istore 5, 2) := by decide +kernel
theorem dX3_bestBeds_18 : decode cX3_bestBeds 18 = .ok (.iload 5, 2) := by decide +kernel
theorem dX3_bestBeds_20 : decode cX3_bestBeds 20 = .ok (.iconst 1, 1) := by decide +kernel
theorem dX3_bestBeds_21 : decode cX3_bestBeds 21 = .ok (.aload_n 1, 1) := by decide +kernel
theorem dX3_bestBeds_22 : decode cX3_bestBeds 22 = .ok (.getfield 93, 3) := by decide +kernel
theorem dX3_bestBeds_25 : decode cX3_bestBeds 25 = .ok (.ishl, 1) := by decide +kernel
theorem dX3_bestBeds_26 : decode cX3_bestBeds 26 = .ok (.if_icmp .ge 57, 3) := by decide +kernel
theorem dX3_bestBeds_29 : decode cX3_bestBeds 29 = .ok (.iload 5, 2) := by decide +kernel
theorem dX3_bestBeds_31 : decode cX3_bestBeds 31 = .ok (.invokestatic 79, 3) := by decide +kernel
theorem dX3_bestBeds_34 : decode cX3_bestBeds 34 = .ok (.iload 4, 2) := by decide +kernel
theorem dX3_bestBeds_36 : decode cX3_bestBeds 36 = .ok (.invokestatic 79, 3) := by decide +kernel
theorem dX3_bestBeds_39 : decode cX3_bestBeds 39 = .ok (.if_icmp .le 7, 3) := by decide +kernel
theorem dX3_bestBeds_42 : decode cX3_bestBeds 42 = .ok (.iconst 1, 1) := by decide +kernel
theorem dX3_bestBeds_43 : decode cX3_bestBeds 43 = .ok (.goto 4, 3) := by decide +kernel
theorem dX3_bestBeds_46 : decode cX3_bestBeds 46 = .ok (.iconst 0, 1) := by decide +kernel
theorem dX3_bestBeds_47 : decode cX3_bestBeds 47 = .ok (.istore 6, 2) := by decide +kernel
theorem dX3_bestBeds_49 : decode cX3_bestBeds 49 = .ok (.iload 6, 2) := by decide +kernel
theorem dX3_bestBeds_51 : decode cX3_bestBeds 51 = .ok (.ifCond .eq 26, 3) := by decide +kernel
theorem dX3_bestBeds_54 : decode cX3_bestBeds 54 = .ok (.iload 5, 2) := by decide +kernel
theorem dX3_bestBeds_56 : decode cX3_bestBeds 56 = .ok (.iload_n 3, 1) := by decide +kernel
theorem dX3_bestBeds_57 : decode cX3_bestBeds 57 = .ok (.iand, 1) := by decide +kernel
theorem dX3_bestBeds_58 : decode cX3_bestBeds 58 = .ok (.iload_n 3, 1) := by decide +kernel
theorem dX3_bestBeds_59 : decode cX3_bestBeds 59 = .ok (.if_icmp .ne 18, 3) := by decide +kernel
theorem dX3_bestBeds_62 : decode cX3_bestBeds 62 = .ok (.aload_n 0, 1) := by decide +kernel
theorem dX3_bestBeds_63 : decode cX3_bestBeds 63 = .ok (.aload_n 1, 1) := by decide +kernel
theorem dX3_bestBeds_64 : decode cX3_bestBeds 64 = .ok (.aload_n 2, 1) := by decide +kernel
theorem dX3_bestBeds_65 : decode cX3_bestBeds 65 = .ok (.iload 5, 2) := by decide +kernel
theorem dX3_bestBeds_67 : decode cX3_bestBeds 67 = .ok (.invokevirtual 96, 3) := by decide +kernel
theorem dX3_bestBeds_70 : decode cX3_bestBeds 70 = .ok (.ifCond .eq 7, 3) := by decide +kernel
theorem dX3_bestBeds_73 : decode cX3_bestBeds 73 = .ok (.iload 5, 2) := by decide +kernel
theorem dX3_bestBeds_75 : decode cX3_bestBeds 75 = .ok (.istore 4, 2) := by decide +kernel
theorem dX3_bestBeds_77 : decode cX3_bestBeds 77 = .ok (.iinc 5 1, 3) := by decide +kernel
theorem dX3_bestBeds_80 : decode cX3_bestBeds 80 = .ok (.goto (-62), 3) := by decide +kernel
theorem dX3_bestBeds_83 : decode cX3_bestBeds 83 = .ok (.iload 4, 2) := by decide +kernel
theorem dX3_bestBeds_85 : decode cX3_bestBeds 85 = .ok (.ireturn, 1) := by decide +kernel
theorem dX3_mostLeft_0 : decode cX3_mostLeft 0 = .ok (.iconst 0, 1) := by decide +kernel
theorem dX3_mostLeft_1 : decode cX3_mostLeft 1 = .ok (.istore 5, 2) := by decide +kernel
theorem dX3_mostLeft_3 : decode cX3_mostLeft 3 = .ok (.iconst 0, 1) := by decide +kernel
theorem dX3_mostLeft_4 : decode cX3_mostLeft 4 = .ok (.istore 6, 2) := by decide +kernel
theorem dX3_mostLeft_6 : decode cX3_mostLeft 6 = .ok (.iload 6, 2) := by decide +kernel
theorem dX3_mostLeft_8 : decode cX3_mostLeft 8 = .ok (.aload_n 1, 1) := by decide +kernel
theorem dX3_mostLeft_9 : decode cX3_mostLeft 9 = .ok (.getfield 69, 3) := by decide +kernel
theorem dX3_mostLeft_12 : decode cX3_mostLeft 12 = .ok (.if_icmp .ge 93, 3) := by decide +kernel
theorem dX3_mostLeft_15 : decode cX3_mostLeft 15 = .ok (.iconst 0, 1) := by decide +kernel
theorem dX3_mostLeft_16 : decode cX3_mostLeft 16 = .ok (.istore 7, 2) := by decide +kernel
theorem dX3_mostLeft_18 : decode cX3_mostLeft 18 = .ok (.iconst 0, 1) := by decide +kernel
theorem dX3_mostLeft_19 : decode cX3_mostLeft 19 = .ok (.istore 8, 2) := by decide +kernel
theorem dX3_mostLeft_21 : decode cX3_mostLeft 21 = .ok (.iload 8, 2) := by decide +kernel
theorem dX3_mostLeft_23 : decode cX3_mostLeft 23 = .ok (.aload_n 1, 1) := by decide +kernel
theorem dX3_mostLeft_24 : decode cX3_mostLeft 24 = .ok (.getfield 69, 3) := by decide +kernel
theorem dX3_mostLeft_27 : decode cX3_mostLeft 27 = .ok (.if_icmp .ge 63, 3) := by decide +kernel
theorem dX3_mostLeft_30 : decode cX3_mostLeft 30 = .ok (.iload_n 3, 1) := by decide +kernel
theorem dX3_mostLeft_31 : decode cX3_mostLeft 31 = .ok (.iload 6, 2) := by decide +kernel
theorem dX3_mostLeft_33 : decode cX3_mostLeft 33 = .ok (.ishr, 1) := by decide +kernel
theorem dX3_mostLeft_34 : decode cX3_mostLeft 34 = .ok (.iconst 1, 1) := by decide +kernel
theorem dX3_mostLeft_35 : decode cX3_mostLeft 35 = .ok (.iand, 1) := by decide +kernel
theorem dX3_mostLeft_36 : decode cX3_mostLeft 36 = .ok (.iconst 1, 1) := by decide +kernel
theorem dX3_mostLeft_37 : decode cX3_mostLeft 37 = .ok (.if_icmp .ne 17, 3) := by decide +kernel
theorem dX3_mostLeft_40 : decode cX3_mostLeft 40 = .ok (.iload_n 3, 1) := by decide +kernel
theorem dX3_mostLeft_41 : decode cX3_mostLeft 41 = .ok (.iload 8, 2) := by decide +kernel
theorem dX3_mostLeft_43 : decode cX3_mostLeft 43 = .ok (.ishr, 1) := by decide +kernel
theorem dX3_mostLeft_44 : decode cX3_mostLeft 44 = .ok (.iconst 1, 1) := by decide +kernel
theorem dX3_mostLeft_45 : decode cX3_mostLeft 45 = .ok (.iand, 1) := by decide +kernel
theorem dX3_mostLeft_46 : decode cX3_mostLeft 46 = .ok (.iconst 1, 1) := by decide +kernel
theorem dX3_mostLeft_47 : decode cX3_mostLeft 47 = .ok (.if_icmp .ne 7, 3) := by decide +kernel
theorem dX3_mostLeft_50 : decode cX3_mostLeft 50 = .ok (.iconst 1, 1) := by decide +kernel
theorem dX3_mostLeft_51 : decode cX3_mostLeft 51 = .ok (.goto 4, 3) := by decide +kernel
theorem dX3_mostLeft_54 : decode cX3_mostLeft 54 = .ok (.iconst 0, 1) := by decide +kernel
theorem dX3_mostLeft_55 : decode cX3_mostLeft 55 = .ok (.istore 9, 2) := by decide +kernel
theorem dX3_mostLeft_57 : decode cX3_mostLeft 57 = .ok (.iload 9, 2) := by decide +kernel
theorem dX3_mostLeft_59 : decode cX3_mostLeft 59 = .ok (.ifCond .eq 25, 3) := by decide +kernel
theorem dX3_mostLeft_62 : decode cX3_mostLeft 62 = .ok (.aload_n 2, 1) := by decide +kernel
theorem dX3_mostLeft_63 : decode cX3_mostLeft 63 = .ok (.iload 6, 2) := by decide +kernel
theorem dX3_mostLeft_65 : decode cX3_mostLeft 65 = .ok (.iload 4, 2) := by decide +kernel
theorem dX3_mostLeft_67 : decode cX3_mostLeft 67 = .ok (.invokevirtual 139, 3) := by decide +kernel
theorem dX3_mostLeft_70 : decode cX3_mostLeft 70 = .ok (.aload_n 2, 1) := by decide +kernel
theorem dX3_mostLeft_71 : decode cX3_mostLeft 71 = .ok (.iload 8, 2) := by decide +kernel
theorem dX3_mostLeft_73 : decode cX3_mostLeft 73 = .ok (.iload 4, 2) := by decide +kernel
theorem dX3_mostLeft_75 : decode cX3_mostLeft 75 = .ok (.invokevirtual 139, 3) := by decide +kernel
theorem dX3_mostLeft_78 : decode cX3_mostLeft 78 = .ok (.if_icmp .ne 6, 3) := by decide +kernel
theorem dX3_mostLeft_81 : decode cX3_mostLeft 81 = .ok (.iinc 7 1, 3) := by decide +kernel
theorem dX3_mostLeft_84 : decode cX3_mostLeft 84 = .ok (.iinc 8 1, 3) := by decide +kernel
theorem dX3_mostLeft_87 : decode cX3_mostLeft 87 = .ok (.goto (-66), 3) := by decide +kernel
theorem dX3_mostLeft_90 : decode cX3_mostLeft 90 = .ok (.iload 5, 2) := by decide +kernel
theorem dX3_mostLeft_92 : decode cX3_mostLeft 92 = .ok (.iload 7, 2) := by decide +kernel
theorem dX3_mostLeft_94 : decode cX3_mostLeft 94 = .ok (.invokestatic 130, 3) := by decide +kernel
theorem dX3_mostLeft_97 : decode cX3_mostLeft 97 = .ok (.istore 5, 2) := by decide +kernel
theorem dX3_mostLeft_99 : decode cX3_mostLeft 99 = .ok (.iinc 6 1, 3) := by decide +kernel
theorem dX3_mostLeft_102 : decode cX3_mostLeft 102 = .ok (.goto (-96), 3) := by decide +kernel
theorem dX3_mostLeft_105 : decode cX3_mostLeft 105 = .ok (.iload 5, 2) := by decide +kernel
theorem dX3_mostLeft_107 : decode cX3_mostLeft 107 = .ok (.ireturn, 1) := by decide +kernel
theorem dX3_bestLayer_0 : decode cX3_bestLayer 0 = .ok (.iconst 0, 1) := by decide +kernel
theorem dX3_bestLayer_1 : decode cX3_bestLayer 1 = .ok (.istore 4, 2) := by decide +kernel
theorem dX3_bestLayer_3 : decode cX3_bestLayer 3 = .ok (.bipush 7, 2) := by decide +kernel
theorem dX3_bestLayer_5 : decode cX3_bestLayer 5 = .ok (.istore 5, 2) := by decide +kernel
theorem dX3_bestLayer_7 : decode cX3_bestLayer 7 = .ok (.iconst 0, 1) := by decide +kernel
theorem dX3_bestLayer_8 : decode cX3_bestLayer 8 = .ok (.istore 6, 2) := by decide +kernel
theorem dX3_bestLayer_10 : decode cX3_bestLayer 10 = .ok (.iload 6, 2) := by decide +kernel
theorem dX3_bestLayer_12 : decode cX3_bestLayer 12 = .ok (.bipush 8, 2) := by decide +kernel
theorem dX3_bestLayer_14 : decode cX3_bestLayer 14 = .ok (.if_icmp .ge 35, 3) := by decide +kernel
theorem dX3_bestLayer_17 : decode cX3_bestLayer 17 = .ok (.aload_n 0, 1) := by decide +kernel
theorem dX3_bestLayer_18 : decode cX3_bestLayer 18 = .ok (.aload_n 1, 1) := by decide +kernel
theorem dX3_bestLayer_19 : decode cX3_bestLayer 19 = .ok (.aload_n 2, 1) := by decide +kernel
theorem dX3_bestLayer_20 : decode cX3_bestLayer 20 = .ok (.iload_n 3, 1) := by decide +kernel
theorem dX3_bestLayer_21 : decode cX3_bestLayer 21 = .ok (.iload 6, 2) := by decide +kernel
theorem dX3_bestLayer_23 : decode cX3_bestLayer 23 = .ok (.invokevirtual 135, 3) := by decide +kernel
theorem dX3_bestLayer_26 : decode cX3_bestLayer 26 = .ok (.istore 7, 2) := by decide +kernel
theorem dX3_bestLayer_28 : decode cX3_bestLayer 28 = .ok (.iload 7, 2) := by decide +kernel
theorem dX3_bestLayer_30 : decode cX3_bestLayer 30 = .ok (.iload 5, 2) := by decide +kernel
theorem dX3_bestLayer_32 : decode cX3_bestLayer 32 = .ok (.if_icmp .ge 11, 3) := by decide +kernel
theorem dX3_bestLayer_35 : decode cX3_bestLayer 35 = .ok (.iload 6, 2) := by decide +kernel
theorem dX3_bestLayer_37 : decode cX3_bestLayer 37 = .ok (.istore 4, 2) := by decide +kernel
theorem dX3_bestLayer_39 : decode cX3_bestLayer 39 = .ok (.iload 7, 2) := by decide +kernel
theorem dX3_bestLayer_41 : decode cX3_bestLayer 41 = .ok (.istore 5, 2) := by decide +kernel
theorem dX3_bestLayer_43 : decode cX3_bestLayer 43 = .ok (.iinc 6 1, 3) := by decide +kernel
theorem dX3_bestLayer_46 : decode cX3_bestLayer 46 = .ok (.goto (-36), 3) := by decide +kernel
theorem dX3_bestLayer_49 : decode cX3_bestLayer 49 = .ok (.iload 4, 2) := by decide +kernel
theorem dX3_bestLayer_51 : decode cX3_bestLayer 51 = .ok (.ireturn, 1) := by decide +kernel
