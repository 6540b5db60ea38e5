theorem dX5_isTrueOf_0 : decode cX5_isTrueOf 0 = .ok (.iconst 0, 1) := by decide +kernel
theorem dX5_isTrueOf_1 : decode cX5_isTrueOf 1 = .ok (.istore 4, 2) := by decide +kernel
theorem dX5_isTrueOf_3 : decode cX5_isTrueOf 3 = .ok (.iconst 0, 1) := by decide +kernel
theorem dX5_isTrueOf_4 : decode cX5_isTrueOf 4 = .ok (.istore 5, 2) := by decide +kernel
theorem dX5_isTrueOf_6 : decode cX5_isTrueOf 6 = .ok (.iload 5, 2) := by decide +kernel
theorem dX5_isTrueOf_8 : decode cX5_isTrueOf 8 = .ok (.aload_n 0, 1) := by decide +kernel
theorem dX5_isTrueOf_9 : decode cX5_isTrueOf 9 = .ok (.getfield 24, 3) := by decide +kernel
theorem dX5_isTrueOf_12 : decode cX5_isTrueOf 12 = .ok (.if_icmp .ge 114, 3) := by decide +kernel
theorem dX5_isTrueOf_15 : decode cX5_isTrueOf 15 = .ok (.iload 4, 2) := by decide +kernel
theorem dX5_isTrueOf_17 : decode cX5_isTrueOf 17 = .ok (.iconst 1, 1) := by decide +kernel
theorem dX5_isTrueOf_18 : decode cX5_isTrueOf 18 = .ok (.iand, 1) := by decide +kernel
theorem dX5_isTrueOf_19 : decode cX5_isTrueOf 19 = .ok (.istore 6, 2) := by decide +kernel
theorem dX5_isTrueOf_21 : decode cX5_isTrueOf 21 = .ok (.aload_n 0, 1) := by decide +kernel
theorem dX5_isTrueOf_22 : decode cX5_isTrueOf 22 = .ok (.getfield 13, 3) := by decide +kernel
theorem dX5_isTrueOf_25 : decode cX5_isTrueOf 25 = .ok (.iload 5, 2) := by decide +kernel
theorem dX5_isTrueOf_27 : decode cX5_isTrueOf 27 = .ok (.aaload, 1) := by decide +kernel
theorem dX5_isTrueOf_28 : decode cX5_isTrueOf 28 = .ok (.getstatic 84, 3) := by decide +kernel
theorem dX5_isTrueOf_31 : decode cX5_isTrueOf 31 = .ok (.if_acmp .ne 12, 3) := by decide +kernel
theorem dX5_isTrueOf_34 : decode cX5_isTrueOf 34 = .ok (.iload 4, 2) := by decide +kernel
theorem dX5_isTrueOf_36 : decode cX5_isTrueOf 36 = .ok (.iconst 1, 1) := by decide +kernel
theorem dX5_isTrueOf_37 : decode cX5_isTrueOf 37 = .ok (.ixor, 1) := by decide +kernel
theorem dX5_isTrueOf_38 : decode cX5_isTrueOf 38 = .ok (.istore 4, 2) := by decide +kernel
theorem dX5_isTrueOf_40 : decode cX5_isTrueOf 40 = .ok (.goto 80, 3) := by decide +kernel
theorem dX5_isTrueOf_43 : decode cX5_isTrueOf 43 = .ok (.aload_n 0, 1) := by decide +kernel
theorem dX5_isTrueOf_44 : decode cX5_isTrueOf 44 = .ok (.getfield 13, 3) := by decide +kernel
theorem dX5_isTrueOf_47 : decode cX5_isTrueOf 47 = .ok (.iload 5, 2) := by decide +kernel
theorem dX5_isTrueOf_49 : decode cX5_isTrueOf 49 = .ok (.aaload, 1) := by decide +kernel
theorem dX5_isTrueOf_50 : decode cX5_isTrueOf 50 = .ok (.getstatic 64, 3) := by decide +kernel
theorem dX5_isTrueOf_53 : decode cX5_isTrueOf 53 = .ok (.if_acmp .ne 18, 3) := by decide +kernel
theorem dX5_isTrueOf_56 : decode cX5_isTrueOf 56 = .ok (.iload 4, 2) := by decide +kernel
theorem dX5_isTrueOf_58 : decode cX5_isTrueOf 58 = .ok (.iconst 1, 1) := by decide +kernel
theorem dX5_isTrueOf_59 : decode cX5_isTrueOf 59 = .ok (.ishr, 1) := by decide +kernel
theorem dX5_isTrueOf_60 : decode cX5_isTrueOf 60 = .ok (.iload 6, 2) := by decide +kernel
theorem dX5_isTrueOf_62 : decode cX5_isTrueOf 62 = .ok (.bipush (-2), 2) := by decide +kernel
theorem dX5_isTrueOf_64 : decode cX5_isTrueOf 64 = .ok (.ior, 1) := by decide +kernel
theorem dX5_isTrueOf_65 : decode cX5_isTrueOf 65 = .ok (.iand, 1) := by decide +kernel
theorem dX5_isTrueOf_66 : decode cX5_isTrueOf 66 = .ok (.istore 4, 2) := by decide +kernel
theorem dX5_isTrueOf_68 : decode cX5_isTrueOf 68 = .ok (.goto 52, 3) := by decide +kernel
theorem dX5_isTrueOf_71 : decode cX5_isTrueOf 71 = .ok (.aload_n 0, 1) := by decide +kernel
theorem dX5_isTrueOf_72 : decode cX5_isTrueOf 72 = .ok (.getfield 13, 3) := by decide +kernel
theorem dX5_isTrueOf_75 : decode cX5_isTrueOf 75 = .ok (.iload 5, 2) := by decide +kernel
theorem dX5_isTrueOf_77 : decode cX5_isTrueOf 77 = .ok (.aaload, 1) := by decide +kernel
theorem dX5_isTrueOf_78 : decode cX5_isTrueOf 78 = .ok (.getstatic 67, 3) := by decide +kernel
theorem dX5_isTrueOf_81 : decode cX5_isTrueOf 81 = .ok (.if_acmp .ne 15, 3) := by decide +kernel
theorem dX5_isTrueOf_84 : decode cX5_isTrueOf 84 = .ok (.iload 4, 2) := by decide +kernel
theorem dX5_isTrueOf_86 : decode cX5_isTrueOf 86 = .ok (.iconst 1, 1) := by decide +kernel
theorem dX5_isTrueOf_87 : decode cX5_isTrueOf 87 = .ok (.ishr, 1) := by decide +kernel
theorem dX5_isTrueOf_88 : decode cX5_isTrueOf 88 = .ok (.iload 6, 2) := by decide +kernel
theorem dX5_isTrueOf_90 : decode cX5_isTrueOf 90 = .ok (.ior, 1) := by decide +kernel
theorem dX5_isTrueOf_91 : decode cX5_isTrueOf 91 = .ok (.istore 4, 2) := by decide +kernel
theorem dX5_isTrueOf_93 : decode cX5_isTrueOf 93 = .ok (.goto 27, 3) := by decide +kernel
theorem dX5_isTrueOf_96 : decode cX5_isTrueOf 96 = .ok (.iload 4, 2) := by decide +kernel
theorem dX5_isTrueOf_98 : decode cX5_isTrueOf 98 = .ok (.iconst 1, 1) := by decide +kernel
theorem dX5_isTrueOf_99 : decode cX5_isTrueOf 99 = .ok (.ishl, 1) := by decide +kernel
theorem dX5_isTrueOf_100 : decode cX5_isTrueOf 100 = .ok (.aload_n 0, 1) := by decide +kernel
theorem dX5_isTrueOf_101 : decode cX5_isTrueOf 101 = .ok (.aload_n 1, 1) := by decide +kernel
theorem dX5_isTrueOf_102 : decode cX5_isTrueOf 102 = .ok (.aload_n 2, 1) := by decide +kernel
theorem dX5_isTrueOf_103 : decode cX5_isTrueOf 103 = .ok (.iload_n 3, 1) := by decide +kernel
theorem dX5_isTrueOf_104 : decode cX5_isTrueOf 104 = .ok (.iload 5, 2) := by decide +kernel
theorem dX5_isTrueOf_106 : decode cX5_isTrueOf 106 = .ok (.invokevirtual 144, 3) := by decide +kernel
theorem dX5_isTrueOf_109 : decode cX5_isTrueOf 109 = .ok (.ifCond .eq 7, 3) := by decide +kernel
theorem dX5_isTrueOf_112 : decode cX5_isTrueOf 112 = .ok (.iconst 1, 1) := by decide +kernel
theorem dX5_isTrueOf_113 : decode cX5_isTrueOf 113 = .ok (.goto 4, 3) := by decide +kernel
theorem dX5_isTrueOf_116 : decode cX5_isTrueOf 116 = .ok (.iconst 0, 1) := by decide +kernel
theorem dX5_isTrueOf_117 : decode cX5_isTrueOf 117 = .ok (.ior, 1) := by decide +kernel
theorem dX5_isTrueOf_118 : decode cX5_isTrueOf 118 = .ok (.istore 4, 2) := by decide +kernel
theorem dX5_isTrueOf_120 : decode cX5_isTrueOf 120 = .ok (.iinc 5 1, 3) := by decide +kernel
theorem dX5_isTrueOf_123 : decode cX5_isTrueOf 123 = .ok (.goto (-117), 3) := by decide +kernel
theorem dX5_isTrueOf_126 : decode cX5_isTrueOf 126 = .ok (.iload 4, 2) := by decide +kernel
theorem dX5_isTrueOf_128 : decode cX5_isTrueOf 128 = .ok (.iconst 1, 1) := by decide +kernel
theorem dX5_isTrueOf_129 : decode cX5_isTrueOf 129 = .ok (.iand, 1) := by decide +kernel
theorem dX5_isTrueOf_130 : decode cX5_isTrueOf 130 = .ok (.iconst 1, 1) := by decide +kernel
theorem dX5_isTrueOf_131 : decode cX5_isTrueOf 131 = .ok (.if_icmp .ne 7, 3) := by decide +kernel
theorem dX5_isTrueOf_134 : decode cX5_isTrueOf 134 = .ok (.iconst 1, 1) := by decide +kernel
theorem dX5_isTrueOf_135 : decode cX5_isTrueOf 135 = .ok (.goto 4, 3) := by decide +kernel
theorem dX5_isTrueOf_138 : decode cX5_isTrueOf 138 = .ok (.iconst 0, 1) := by decide +kernel
theorem dX5_isTrueOf_139 : decode cX5_isTrueOf 139 = .ok (.ireturn, 1) := by decide +kernel
theorem dX5_isPlainTrue_0 : decode cX5_isPlainTrue 0 = .ok (.aload_n 0, 1) := by decide +kernel
theorem dX5_isPlainTrue_1 : decode cX5_isPlainTrue 1 = .ok (.getfield 13, 3) := by decide +kernel
theorem dX5_isPlainTrue_4 : decode cX5_isPlainTrue 4 = .ok (.iload 4, 2) := by decide +kernel
theorem dX5_isPlainTrue_6 : decode cX5_isPlainTrue 6 = .ok (.aaload, 1) := by decide +kernel
theorem dX5_isPlainTrue_7 : decode cX5_isPlainTrue 7 = .ok (.astore 5, 2) := by decide +kernel
theorem dX5_isPlainTrue_9 : decode cX5_isPlainTrue 9 = .ok (.aload 5, 2) := by decide +kernel
theorem dX5_isPlainTrue_11 : decode cX5_isPlainTrue 11 = .ok (.getstatic 91, 3) := by decide +kernel
theorem dX5_isPlainTrue_14 : decode cX5_isPlainTrue 14 = .ok (.if_acmp .ne 18, 3) := by decide +kernel
theorem dX5_isPlainTrue_17 : decode cX5_isPlainTrue 17 = .ok (.aload_n 2, 1) := by decide +kernel
theorem dX5_isPlainTrue_18 : decode cX5_isPlainTrue 18 = .ok (.getfield 148, 3) := by decide +kernel
theorem dX5_isPlainTrue_21 : decode cX5_isPlainTrue 21 = .ok (.iload_n 3, 1) := by decide +kernel
theorem dX5_isPlainTrue_22 : decode cX5_isPlainTrue 22 = .ok (.iaload, 1) := by decide +kernel
theorem dX5_isPlainTrue_23 : decode cX5_isPlainTrue 23 = .ok (.ifCond .ne 7, 3) := by decide +kernel
theorem dX5_isPlainTrue_26 : decode cX5_isPlainTrue 26 = .ok (.iconst 1, 1) := by decide +kernel
theorem dX5_isPlainTrue_27 : decode cX5_isPlainTrue 27 = .ok (.goto 4, 3) := by decide +kernel
theorem dX5_isPlainTrue_30 : decode cX5_isPlainTrue 30 = .ok (.iconst 0, 1) := by decide +kernel
theorem dX5_isPlainTrue_31 : decode cX5_isPlainTrue 31 = .ok (.ireturn, 1) := by decide +kernel
theorem dX5_isPlainTrue_32 : decode cX5_isPlainTrue 32 = .ok (.aload 5, 2) := by decide +kernel
theorem dX5_isPlainTrue_34 : decode cX5_isPlainTrue 34 = .ok (.getstatic 94, 3) := by decide +kernel
theorem dX5_isPlainTrue_37 : decode cX5_isPlainTrue 37 = .ok (.if_acmp .ne 9, 3) := by decide +kernel
theorem dX5_isPlainTrue_40 : decode cX5_isPlainTrue 40 = .ok (.aload_n 2, 1) := by decide +kernel
theorem dX5_isPlainTrue_41 : decode cX5_isPlainTrue 41 = .ok (.iload_n 3, 1) := by decide +kernel
theorem dX5_isPlainTrue_42 : decode cX5_isPlainTrue 42 = .ok (.invokevirtual 153, 3) := by decide +kernel
theorem dX5_isPlainTrue_45 : decode cX5_isPlainTrue 45 = .ok (.ireturn, 1) := by decide +kernel
theorem dX5_isPlainTrue_46 : decode cX5_isPlainTrue 46 = .ok (.aload 5, 2) := by decide +kernel
theorem dX5_isPlainTrue_48 : decode cX5_isPlainTrue 48 = .ok (.getstatic 97, 3) := by decide +kernel
theorem dX5_isPlainTrue_51 : decode cX5_isPlainTrue 51 = .ok (.if_acmp .ne 24, 3) := by decide +kernel
theorem dX5_isPlainTrue_54 : decode cX5_isPlainTrue 54 = .ok (.aload_n 2, 1) := by decide +kernel
theorem dX5_isPlainTrue_55 : decode cX5_isPlainTrue 55 = .ok (.getfield 156, 3) := by decide +kernel
theorem dX5_isPlainTrue_58 : decode cX5_isPlainTrue 58 = .ok (.iload_n 3, 1) := by decide +kernel
theorem dX5_isPlainTrue_59 : decode cX5_isPlainTrue 59 = .ok (.iaload, 1) := by decide +kernel
theorem dX5_isPlainTrue_60 : decode cX5_isPlainTrue 60 = .ok (.aload_n 1, 1) := by decide +kernel
theorem dX5_isPlainTrue_61 : decode cX5_isPlainTrue 61 = .ok (.getfield 159, 3) := by decide +kernel
theorem dX5_isPlainTrue_64 : decode cX5_isPlainTrue 64 = .ok (.iload_n 3, 1) := by decide +kernel
theorem dX5_isPlainTrue_65 : decode cX5_isPlainTrue 65 = .ok (.iaload, 1) := by decide +kernel
theorem dX5_isPlainTrue_66 : decode cX5_isPlainTrue 66 = .ok (.if_icmp .lt 7, 3) := by decide +kernel
theorem dX5_isPlainTrue_69 : decode cX5_isPlainTrue 69 = .ok (.iconst 1, 1) := by decide +kernel
theorem dX5_isPlainTrue_70 : decode cX5_isPlainTrue 70 = .ok (.goto 4, 3) := by decide +kernel
theorem dX5_isPlainTrue_73 : decode cX5_isPlainTrue 73 = .ok (.iconst 0, 1) := by decide +kernel
theorem dX5_isPlainTrue_74 : decode cX5_isPlainTrue 74 = .ok (.ireturn, 1) := by decide +kernel
theorem dX5_isPlainTrue_75 : decode cX5_isPlainTrue 75 = .ok (.aload 5, 2) := by decide +kernel
theorem dX5_isPlainTrue_77 : decode cX5_isPlainTrue 77 = .ok (.getstatic 100, 3) := by decide +kernel
theorem dX5_isPlainTrue_80 : decode cX5_isPlainTrue 80 = .ok (.if_acmp .ne 16, 3) := by decide +kernel
theorem dX5_isPlainTrue_83 : decode cX5_isPlainTrue 83 = .ok (.aload_n 2, 1) := by decide +kernel
theorem dX5_isPlainTrue_84 : decode cX5_isPlainTrue 84 = .ok (.iload_n 3, 1) := by decide +kernel
theorem dX5_isPlainTrue_85 : decode cX5_isPlainTrue 85 = .ok (.aload_n 0, 1) := by decide +kernel
theorem dX5_isPlainTrue_86 : decode cX5_isPlainTrue 86 = .ok (.getfield 21, 3) := by decide +kernel
theorem dX5_isPlainTrue_89 : decode cX5_isPlainTrue 89 = .ok (.iload 4, 2) := by decide +kernel
theorem dX5_isPlainTrue_91 : decode cX5_isPlainTrue 91 = .ok (.iaload, 1) := by decide +kernel
theorem dX5_isPlainTrue_92 : decode cX5_isPlainTrue 92 = .ok (.invokevirtual 162, 3) := by decide +kernel
theorem dX5_isPlainTrue_95 : decode cX5_isPlainTrue 95 = .ok (.ireturn, 1) := by decide +kernel
theorem dX5_isPlainTrue_96 : decode cX5_isPlainTrue 96 = .ok (.aload 5, 2) := by decide +kernel
theorem dX5_isPlainTrue_98 : decode cX5_isPlainTrue 98 = .ok (.getstatic 103, 3) := by decide +kernel
theorem dX5_isPlainTrue_101 : decode cX5_isPlainTrue 101 = .ok (.if_acmp .ne 16, 3) := by decide +kernel
theorem dX5_isPlainTrue_104 : decode cX5_isPlainTrue 104 = .ok (.aload_n 2, 1) := by decide +kernel
theorem dX5_isPlainTrue_105 : decode cX5_isPlainTrue 105 = .ok (.iload_n 3, 1) := by decide +kernel
theorem dX5_isPlainTrue_106 : decode cX5_isPlainTrue 106 = .ok (.aload_n 0, 1) := by decide +kernel
theorem dX5_isPlainTrue_107 : decode cX5_isPlainTrue 107 = .ok (.getfield 21, 3) := by decide +kernel
theorem dX5_isPlainTrue_110 : decode cX5_isPlainTrue 110 = .ok (.iload 4, 2) := by decide +kernel
theorem dX5_isPlainTrue_112 : decode cX5_isPlainTrue 112 = .ok (.iaload, 1) := by decide +kernel
theorem dX5_isPlainTrue_113 : decode cX5_isPlainTrue 113 = .ok (.invokevirtual 166, 3) := by decide +kernel
theorem dX5_isPlainTrue_116 : decode cX5_isPlainTrue 116 = .ok (.ireturn, 1) := by decide +kernel
theorem dX5_isPlainTrue_117 : decode cX5_isPlainTrue 117 = .ok (.aload 5, 2) := by decide +kernel
theorem dX5_isPlainTrue_119 : decode cX5_isPlainTrue 119 = .ok (.aload_n 2, 1) := by decide +kernel
theorem dX5_isPlainTrue_120 : decode cX5_isPlainTrue 120 = .ok (.iload_n 3, 1) := by decide +kernel
theorem dX5_isPlainTrue_121 : decode cX5_isPlainTrue 121 = .ok (.invokestatic 169, 3) := by decide +kernel
theorem dX5_isPlainTrue_124 : decode cX5_isPlainTrue 124 = .ok (.istore 6, 2) := by decide +kernel
theorem dX5_isPlainTrue_126 : decode cX5_isPlainTrue 126 = .ok (.aload_n 0, 1) := by decide +kernel
theorem dX5_isPlainTrue_127 : decode cX5_isPlainTrue 127 = .ok (.getfield 17, 3) := by decide +kernel
theorem dX5_isPlainTrue_130 : decode cX5_isPlainTrue 130 = .ok (.iload 4, 2) := by decide +kernel
theorem dX5_isPlainTrue_132 : decode cX5_isPlainTrue 132 = .ok (.iaload, 1) := by decide +kernel
theorem dX5_isPlainTrue_133 : decode cX5_isPlainTrue 133 = .ok (.bipush 60, 2) := by decide +kernel
theorem dX5_isPlainTrue_135 : decode cX5_isPlainTrue 135 = .ok (.if_icmp .ne 21, 3) := by decide +kernel
theorem dX5_isPlainTrue_138 : decode cX5_isPlainTrue 138 = .ok (.iload 6, 2) := by decide +kernel
theorem dX5_isPlainTrue_140 : decode cX5_isPlainTrue 140 = .ok (.aload_n 0, 1) := by decide +kernel
theorem dX5_isPlainTrue_141 : decode cX5_isPlainTrue 141 = .ok (.getfield 21, 3) := by decide +kernel
theorem dX5_isPlainTrue_144 : decode cX5_isPlainTrue 144 = .ok (.iload 4, 2) := by decide +kernel
theorem dX5_isPlainTrue_146 : decode cX5_isPlainTrue 146 = .ok (.iaload, 1) := by decide +kernel
theorem dX5_isPlainTrue_147 : decode cX5_isPlainTrue 147 = .ok (.if_icmp .ge 7, 3) := by decide +kernel
theorem dX5_isPlainTrue_150 : decode cX5_isPlainTrue 150 = .ok (.iconst 1, 1) := by decide +kernel
theorem dX5_isPlainTrue_151 : decode cX5_isPlainTrue 151 = .ok (.goto 4, 3) := by decide +kernel
theorem dX5_isPlainTrue_154 : decode cX5_isPlainTrue 154 = .ok (.iconst 0, 1) := by decide +kernel
theorem dX5_isPlainTrue_155 : decode cX5_isPlainTrue 155 = .ok (.ireturn, 1) := by decide +kernel
theorem dX5_isPlainTrue_156 : decode cX5_isPlainTrue 156 = .ok (.aload_n 0, 1) := by decide +kernel
theorem dX5_isPlainTrue_157 : decode cX5_isPlainTrue 157 = .ok (.getfield 17, 3) := by decide +kernel
theorem dX5_isPlainTrue_160 : decode cX5_isPlainTrue 160 = .ok (.iload 4, 2) := by decide +kernel
theorem dX5_isPlainTrue_162 : decode cX5_isPlainTrue 162 = .ok (.iaload, 1) := by decide +kernel
theorem dX5_isPlainTrue_163 : decode cX5_isPlainTrue 163 = .ok (.bipush 61, 2) := by decide +kernel
theorem dX5_isPlainTrue_165 : decode cX5_isPlainTrue 165 = .ok (.if_icmp .ne 23, 3) := by decide +kernel
theorem dX5_isPlainTrue_168 : decode cX5_isPlainTrue 168 = .ok (.iload 6, 2) := by decide +kernel
theorem dX5_isPlainTrue_170 : decode cX5_isPlainTrue 170 = .ok (.aload_n 0, 1) := by decide +kernel
theorem dX5_isPlainTrue_171 : decode cX5_isPlainTrue 171 = .ok (.getfield 21, 3) := by decide +kernel
theorem dX5_isPlainTrue_174 : decode cX5_isPlainTrue 174 = .ok (.iload 4, 2) := by decide +kernel
theorem dX5_isPlainTrue_176 : decode cX5_isPlainTrue 176 = .ok (.iaload, 1) := by decide +kernel
theorem dX5_isPlainTrue_177 : decode cX5_isPlainTrue 177 = .ok (.if_icmp .ne 7, 3) := by decide +kernel
theorem dX5_isPlainTrue_180 : decode cX5_isPlainTrue 180 = .ok (.iconst 1, 1) := by decide +kernel
theorem dX5_isPlainTrue_181 : decode cX5_isPlainTrue 181 = .ok (.goto 24, 3) := by decide +kernel
theorem dX5_isPlainTrue_184 : decode cX5_isPlainTrue 184 = .ok (.iconst 0, 1) := by decide +kernel
theorem dX5_isPlainTrue_185 : decode cX5_isPlainTrue 185 = .ok (.goto 20, 3) := by decide +kernel
theorem dX5_isPlainTrue_188 : decode cX5_isPlainTrue 188 = .ok (.iload 6, 2) := by decide +kernel
theorem dX5_isPlainTrue_190 : decode cX5_isPlainTrue 190 = .ok (.aload_n 0, 1) := by decide +kernel
theorem dX5_isPlainTrue_191 : decode cX5_isPlainTrue 191 = .ok (.getfield 21, 3) := by decide +kernel
theorem dX5_isPlainTrue_194 : decode cX5_isPlainTrue 194 = .ok (.iload 4, 2) := by decide +kernel
theorem dX5_isPlainTrue_196 : decode cX5_isPlainTrue 196 = .ok (.iaload, 1) := by decide +kernel
theorem dX5_isPlainTrue_197 : decode cX5_isPlainTrue 197 = .ok (.if_icmp .le 7, 3) := by decide +kernel
theorem dX5_isPlainTrue_200 : decode cX5_isPlainTrue 200 = .ok (.iconst 1, 1) := by decide +kernel
theorem dX5_isPlainTrue_201 : decode cX5_isPlainTrue 201 = .ok (.goto 4, 3) := by decide +kernel
theorem dX5_isPlainTrue_204 : decode cX5_isPlainTrue 204 = .ok (.iconst 0, 1) := by decide +kernel
theorem dX5_isPlainTrue_205 : decode cX5_isPlainTrue 205 = .ok (.ireturn, 1) := by decide +kernel
theorem dX5_measureOf_0 : decode cX5_measureOf 0 = .ok (.aload_n 0, 1) := by decide +kernel
theorem dX5_measureOf_1 : decode cX5_measureOf 1 = .ok (.getstatic 109, 3) := by decide +kernel
theorem dX5_measureOf_4 : decode cX5_measureOf 4 = .ok (.if_acmp .ne 10, 3) := by decide +kernel
theorem dX5_measureOf_7 : decode cX5_measureOf 7 = .ok (.aload_n 1, 1) := by decide +kernel
theorem dX5_measureOf_8 : decode cX5_measureOf 8 = .ok (.getfield 148, 3) := by decide +kernel
theorem dX5_measureOf_11 : decode cX5_measureOf 11 = .ok (.iload_n 2, 1) := by decide +kernel
theorem dX5_measureOf_12 : decode cX5_measureOf 12 = .ok (.iaload, 1) := by decide +kernel
theorem dX5_measureOf_13 : decode cX5_measureOf 13 = .ok (.ireturn, 1) := by decide +kernel
theorem dX5_measureOf_14 : decode cX5_measureOf 14 = .ok (.aload_n 0, 1) := by decide +kernel
theorem dX5_measureOf_15 : decode cX5_measureOf 15 = .ok (.getstatic 112, 3) := by decide +kernel
theorem dX5_measureOf_18 : decode cX5_measureOf 18 = .ok (.if_acmp .ne 9, 3) := by decide +kernel
theorem dX5_measureOf_21 : decode cX5_measureOf 21 = .ok (.aload_n 1, 1) := by decide +kernel
theorem dX5_measureOf_22 : decode cX5_measureOf 22 = .ok (.iload_n 2, 1) := by decide +kernel
theorem dX5_measureOf_23 : decode cX5_measureOf 23 = .ok (.invokevirtual 173, 3) := by decide +kernel
theorem dX5_measureOf_26 : decode cX5_measureOf 26 = .ok (.ireturn, 1) := by decide +kernel
theorem dX5_measureOf_27 : decode cX5_measureOf 27 = .ok (.aload_n 0, 1) := by decide +kernel
theorem dX5_measureOf_28 : decode cX5_measureOf 28 = .ok (.getstatic 115, 3) := by decide +kernel
theorem dX5_measureOf_31 : decode cX5_measureOf 31 = .ok (.if_acmp .ne 12, 3) := by decide +kernel
theorem dX5_measureOf_34 : decode cX5_measureOf 34 = .ok (.aload_n 1, 1) := by decide +kernel
theorem dX5_measureOf_35 : decode cX5_measureOf 35 = .ok (.getfield 156, 3) := by decide +kernel
theorem dX5_measureOf_38 : decode cX5_measureOf 38 = .ok (.iload_n 2, 1) := by decide +kernel
theorem dX5_measureOf_39 : decode cX5_measureOf 39 = .ok (.iaload, 1) := by decide +kernel
theorem dX5_measureOf_40 : decode cX5_measureOf 40 = .ok (.goto 4, 3) := by decide +kernel
theorem dX5_measureOf_43 : decode cX5_measureOf 43 = .ok (.iload_n 2, 1) := by decide +kernel
theorem dX5_measureOf_44 : decode cX5_measureOf 44 = .ok (.ireturn, 1) := by decide +kernel
theorem dX6_init_0 : decode cX6_init 0 = .ok (.aload_n 0, 1) := by decide +kernel
theorem dX6_init_1 : decode cX6_init 1 = .ok (.invokespecial 3, 3) := by decide +kernel
theorem dX6_init_4 : decode cX6_init 4 = .ok (.aload_n 0, 1) := by decide +kernel
theorem dX6_init_5 : decode cX6_init 5 = .ok (.bipush 48, 2) := by decide +kernel
theorem dX6_init_7 : decode cX6_init 7 = .ok (.newarray .int, 2) := by decide +kernel
theorem dX6_init_9 : decode cX6_init 9 = .ok (.putfield 9, 3) := by decide +kernel
theorem dX6_init_12 : decode cX6_init 12 = .ok (.aload_n 0, 1) := by decide +kernel
theorem dX6_init_13 : decode cX6_init 13 = .ok (.bipush 6, 2) := by decide +kernel
theorem dX6_init_15 : decode cX6_init 15 = .ok (.newarray .int, 2) := by decide +kernel
theorem dX6_init_17 : decode cX6_init 17 = .ok (.putfield 15, 3) := by decide +kernel
theorem dX6_init_20 : decode cX6_init 20 = .ok (.aload_n 0, 1) := by decide +kernel
theorem dX6_init_21 : decode cX6_init 21 = .ok (.bipush 6, 2) := by decide +kernel
theorem dX6_init_23 : decode cX6_init 23 = .ok (.newarray .int, 2) := by decide +kernel
theorem dX6_init_25 : decode cX6_init 25 = .ok (.putfield 18, 3) := by decide +kernel
theorem dX6_init_28 : decode cX6_init 28 = .ok (.aload_n 0, 1) := by decide +kernel
theorem dX6_init_29 : decode cX6_init 29 = .ok (.bipush 8, 2) := by decide +kernel
theorem dX6_init_31 : decode cX6_init 31 = .ok (.newarray .int, 2) := by decide +kernel
theorem dX6_init_33 : decode cX6_init 33 = .ok (.putfield 21, 3) := by decide +kernel
theorem dX6_init_36 : decode cX6_init 36 = .ok (.aload_n 0, 1) := by decide +kernel
theorem dX6_init_37 : decode cX6_init 37 = .ok (.bipush 8, 2) := by decide +kernel
theorem dX6_init_39 : decode cX6_init 39 = .ok (.newarray .int, 2) := by decide +kernel
theorem dX6_init_41 : decode cX6_init 41 = .ok (.putfield 24, 3) := by decide +kernel
theorem dX6_init_44 : decode cX6_init 44 = .ok (.aload_n 0, 1) := by decide +kernel
theorem dX6_init_45 : decode cX6_init 45 = .ok (.iconst 4, 1) := by decide +kernel
theorem dX6_init_46 : decode cX6_init 46 = .ok (.newarray .int, 2) := by decide +kernel
theorem dX6_init_48 : decode cX6_init 48 = .ok (.putfield 27, 3) := by decide +kernel
theorem dX6_init_51 : decode cX6_init 51 = .ok (.aload_n 0, 1) := by decide +kernel
theorem dX6_init_52 : decode cX6_init 52 = .ok (.iconst 4, 1) := by decide +kernel
theorem dX6_init_53 : decode cX6_init 53 = .ok (.newarray .int, 2) := by decide +kernel
theorem dX6_init_55 : decode cX6_init 55 = .ok (.putfield 30, 3) := by decide +kernel
theorem dX6_init_58 : decode cX6_init 58 = .ok (.return_, 1) := by decide +kernel
theorem dX6_clear_0 : decode cX6_clear 0 = .ok (.iconst 0, 1) := by decide +kernel
theorem dX6_clear_1 : decode cX6_clear 1 = .ok (.istore_n 1, 1) := by decide +kernel
theorem dX6_clear_2 : decode cX6_clear 2 = .ok (.iload_n 1, 1) := by decide +kernel
theorem dX6_clear_3 : decode cX6_clear 3 = .ok (.bipush 6, 2) := by decide +kernel
theorem dX6_clear_5 : decode cX6_clear 5 = .ok (.if_icmp .ge 23, 3) := by decide +kernel
theorem dX6_clear_8 : decode cX6_clear 8 = .ok (.aload_n 0, 1) := by decide +kernel
theorem dX6_clear_9 : decode cX6_clear 9 = .ok (.getfield 15, 3) := by decide +kernel
theorem dX6_clear_12 : decode cX6_clear 12 = .ok (.iload_n 1, 1) := by decide +kernel
theorem dX6_clear_13 : decode cX6_clear 13 = .ok (.iconst 0, 1) := by decide +kernel
theorem dX6_clear_14 : decode cX6_clear 14 = .ok (.iastore, 1) := by decide +kernel
theorem dX6_clear_15 : decode cX6_clear 15 = .ok (.aload_n 0, 1) := by decide +kernel
theorem dX6_clear_16 : decode cX6_clear 16 = .ok (.getfield 18, 3) := by decide +kernel
theorem dX6_clear_19 : decode cX6_clear 19 = .ok (.iload_n 1, 1) := by decide +kernel
theorem dX6_clear_20 : decode cX6_clear 20 = .ok (.iconst 0, 1) := by decide +kernel
theorem dX6_clear_21 : decode cX6_clear 21 = .ok (.iastore, 1) := by decide +kernel
theorem dX6_clear_22 : decode cX6_clear 22 = .ok (.iinc 1 1, 3) := by decide +kernel
theorem dX6_clear_25 : decode cX6_clear 25 = .ok (.goto (-23), 3) := by decide +kernel
theorem dX6_clear_28 : decode cX6_clear 28 = .ok (.iconst 0, 1) := by decide +kernel
theorem dX6_clear_29 : decode cX6_clear 29 = .ok (.istore_n 1, 1) := by decide +kernel
theorem dX6_clear_30 : decode cX6_clear 30 = .ok (.iload_n 1, 1) := by decide +kernel
theorem dX6_clear_31 : decode cX6_clear 31 = .ok (.bipush 8, 2) := by decide +kernel
theorem dX6_clear_33 : decode cX6_clear 33 = .ok (.if_icmp .ge 23, 3) := by decide +kernel
theorem dX6_clear_36 : decode cX6_clear 36 = .ok (.aload_n 0, 1) := by decide +kernel
theorem dX6_clear_37 : decode cX6_clear 37 = .ok (.getfield 21, 3) := by decide +kernel
theorem dX6_clear_40 : decode cX6_clear 40 = .ok (.iload_n 1, 1) := by decide +kernel
theorem dX6_clear_41 : decode cX6_clear 41 = .ok (.iconst 0, 1) := by decide +kernel
theorem dX6_clear_42 : decode cX6_clear 42 = .ok (.iastore, 1) := by decide +kernel
theorem dX6_clear_43 : decode cX6_clear 43 = .ok (.aload_n 0, 1) := by decide +kernel
theorem dX6_clear_44 : decode cX6_clear 44 = .ok (.getfield 24, 3) := by decide +kernel
theorem dX6_clear_47 : decode cX6_clear 47 = .ok (.iload_n 1, 1) := by decide +kernel
theorem dX6_clear_48 : decode cX6_clear 48 = .ok (.iconst 0, 1) := by decide +kernel
theorem dX6_clear_49 : decode cX6_clear 49 = .ok (.iastore, 1) := by decide +kernel
theorem dX6_clear_50 : decode cX6_clear 50 = .ok (.iinc 1 1, 3) := by decide +kernel
theorem dX6_clear_53 : decode cX6_clear 53 = .ok (.goto (-23), 3) := by decide +kernel
theorem dX6_clear_56 : decode cX6_clear 56 = .ok (.iconst 0, 1) := by decide +kernel
theorem dX6_clear_57 : decode cX6_clear 57 = .ok (.istore_n 1, 1) := by decide +kernel
theorem dX6_clear_58 : decode cX6_clear 58 = .ok (.iload_n 1, 1) := by decide +kernel
theorem dX6_clear_59 : decode cX6_clear 59 = .ok (.iconst 4, 1) := by decide +kernel
theorem dX6_clear_60 : decode cX6_clear 60 = .ok (.if_icmp .ge 23, 3) := by decide +kernel
theorem dX6_clear_63 : decode cX6_clear 63 = .ok (.aload_n 0, 1) := by decide +kernel
theorem dX6_clear_64 : decode cX6_clear 64 = .ok (.getfield 27, 3) := by decide +kernel
theorem dX6_clear_67 : decode cX6_clear 67 = .ok (.iload_n 1, 1) := by decide +kernel
theorem dX6_clear_68 : decode cX6_clear 68 = .ok (.iconst 0, 1) := by decide +kernel
theorem dX6_clear_69 : decode cX6_clear 69 = .ok (.iastore, 1) := by decide +kernel
theorem dX6_clear_70 : decode cX6_clear 70 = .ok (.aload_n 0, 1) := by decide +kernel
theorem dX6_clear_71 : decode cX6_clear 71 = .ok (.getfield 30, 3) := by decide +kernel
theorem dX6_clear_74 : decode cX6_clear 74 = .ok (.iload_n 1, 1) := by decide +kernel
theorem dX6_clear_75 : decode cX6_clear 75 = .ok (.iconst 0, 1) := by decide +kernel
theorem dX6_clear_76 : decode cX6_clear 76 = .ok (.iastore, 1) := by decide +kernel
theorem dX6_clear_77 : decode cX6_clear 77 = .ok (.iinc 1 1, 3) := by decide +kernel
theorem dX6_clear_80 : decode cX6_clear 80 = .ok (.goto (-22), 3) := by decide +kernel
theorem dX6_clear_83 : decode cX6_clear 83 = .ok (.aload_n 0, 1) := by decide +kernel
theorem dX6_clear_84 : decode cX6_clear 84 = .ok (.iconst 0, 1) := by decide +kernel
theorem dX6_clear_85 : decode cX6_clear 85 = .ok (.putfield 33, 3) := by decide +kernel
theorem dX6_clear_88 : decode cX6_clear 88 = .ok (.aload_n 0, 1) := by decide +kernel
theorem dX6_clear_89 : decode cX6_clear 89 = .ok (.iconst 0, 1) := by decide +kernel
theorem dX6_clear_90 : decode cX6_clear 90 = .ok (.putfield 37, 3) := by decide +kernel
theorem dX6_clear_93 : decode cX6_clear 93 = .ok (.aload_n 0, 1) := by decide +kernel
theorem dX6_clear_94 : decode cX6_clear 94 = .ok (.iconst 0, 1) := by decide +kernel
theorem dX6_clear_95 : decode cX6_clear 95 = .ok (.putfield 40, 3) := by decide +kernel
theorem dX6_clear_98 : decode cX6_clear 98 = .ok (.aload_n 0, 1) := by decide +kernel
theorem dX6_clear_99 : decode cX6_clear 99 = .ok (.iconst 0, 1) := by decide +kernel
theorem dX6_clear_100 : decode cX6_clear 100 = .ok (.putfield 43, 3) := by decide +kernel
theorem dX6_clear_103 : decode cX6_clear 103 = .ok (.aload_n 0, 1) := by decide +kernel
theorem dX6_clear_104 : decode cX6_clear 104 = .ok (.iconst 0, 1) := by decide +kernel
theorem dX6_clear_105 : decode cX6_clear 105 = .ok (.putfield 46, 3) := by decide +kernel
theorem dX6_clear_108 : decode cX6_clear 108 = .ok (.return_, 1) := by decide +kernel
theorem dX6_copyFrom_0 : decode cX6_copyFrom 0 = .ok (.aload_n 1, 1) := by decide +kernel
theorem dX6_copyFrom_1 : decode cX6_copyFrom 1 = .ok (.getfield 9, 3) := by decide +kernel
theorem dX6_copyFrom_4 : decode cX6_copyFrom 4 = .ok (.iconst 0, 1) := by decide +kernel
theorem dX6_copyFrom_5 : decode cX6_copyFrom 5 = .ok (.aload_n 0, 1) := by decide +kernel
theorem dX6_copyFrom_6 : decode cX6_copyFrom 6 = .ok (.getfield 9, 3) := by decide +kernel
theorem dX6_copyFrom_9 : decode cX6_copyFrom 9 = .ok (.iconst 0, 1) := by decide +kernel
theorem dX6_copyFrom_10 : decode cX6_copyFrom 10 = .ok (.bipush 48, 2) := by decide +kernel
theorem dX6_copyFrom_12 : decode cX6_copyFrom 12 = .ok (.invokestatic 49, 3) := by decide +kernel
theorem dX6_copyFrom_15 : decode cX6_copyFrom 15 = .ok (.aload_n 1, 1) := by decide +kernel
theorem dX6_copyFrom_16 : decode cX6_copyFrom 16 = .ok (.getfield 15, 3) := by decide +kernel
theorem dX6_copyFrom_19 : decode cX6_copyFrom 19 = .ok (.iconst 0, 1) := by decide +kernel
theorem dX6_copyFrom_20 : decode cX6_copyFrom 20 = .ok (.aload_n 0, 1) := by decide +kernel
theorem dX6_copyFrom_21 : decode cX6_copyFrom 21 = .ok (.getfield 15, 3) := by decide +kernel
theorem dX6_copyFrom_24 : decode cX6_copyFrom 24 = .ok (.iconst 0, 1) := by decide +kernel
theorem dX6_copyFrom_25 : decode cX6_copyFrom 25 = .ok (.bipush 6, 2) := by decide +kernel
theorem dX6_copyFrom_27 : decode cX6_copyFrom 27 = .ok (.invokestatic 49, 3) := by decide +kernel
theorem dX6_copyFrom_30 : decode cX6_copyFrom 30 = .ok (.aload_n 1, 1) := by decide +kernel
theorem dX6_copyFrom_31 : decode cX6_copyFrom 31 = .ok (.getfield 18, 3) := by decide +kernel
theorem dX6_copyFrom_34 : decode cX6_copyFrom 34 = .ok (.iconst 0, 1) := by decide +kernel
theorem dX6_copyFrom_35 : decode cX6_copyFrom 35 = .ok (.aload_n 0, 1) := by decide +kernel
theorem dX6_copyFrom_36 : decode cX6_copyFrom 36 = .ok (.getfield 18, 3) := by decide +kernel
theorem dX6_copyFrom_39 : decode cX6_copyFrom 39 = .ok (.iconst 0, 1) := by decide +kernel
theorem dX6_copyFrom_40 : decode cX6_copyFrom 40 = .ok (.bipush 6, 2) := by decide +kernel
theorem dX6_copyFrom_42 : decode cX6_copyFrom 42 = .ok (.invokestatic 49, 3) := by decide +kernel
theorem dX6_copyFrom_45 : decode cX6_copyFrom 45 = .ok (.aload_n 1, 1) := by decide +kernel
theorem dX6_copyFrom_46 : decode cX6_copyFrom 46 = .ok (.getfield 21, 3) := by decide +kernel
theorem dX6_copyFrom_49 : decode cX6_copyFrom 49 = .ok (.iconst 0, 1) := by decide +kernel
theorem dX6_copyFrom_50 : decode cX6_copyFrom 50 = .ok (.aload_n 0, 1) := by decide +kernel
theorem dX6_copyFrom_51 : decode cX6_copyFrom 51 = .ok (.getfield 21, 3) := by decide +kernel
theorem dX6_copyFrom_54 : decode cX6_copyFrom 54 = .ok (.iconst 0, 1) := by decide +kernel
theorem dX6_copyFrom_55 : decode cX6_copyFrom 55 = .ok (.bipush 8, 2) := by decide +kernel
theorem dX6_copyFrom_57 : decode cX6_copyFrom 57 = .ok (.invokestatic 49, 3) := by decide +kernel
theorem dX6_copyFrom_60 : decode cX6_copyFrom 60 = .ok (.aload_n 1, 1) := by decide +kernel
theorem dX6_copyFrom_61 : decode cX6_copyFrom 61 = .ok (.getfield 24, 3) := by decide +kernel
theorem dX6_copyFrom_64 : decode cX6_copyFrom 64 = .ok (.iconst 0, 1) := by decide +kernel
theorem dX6_copyFrom_65 : decode cX6_copyFrom 65 = .ok (.aload_n 0, 1) := by decide +kernel
theorem dX6_copyFrom_66 : decode cX6_copyFrom 66 = .ok (.getfield 24, 3) := by decide +kernel
theorem dX6_copyFrom_69 : decode cX6_copyFrom 69 = .ok (.iconst 0, 1) := by decide +kernel
theorem dX6_copyFrom_70 : decode cX6_copyFrom 70 = .ok (.bipush 8, 2) := by decide +kernel
theorem dX6_copyFrom_72 : decode cX6_copyFrom 72 = .ok (.invokestatic 49, 3) := by decide +kernel
theorem dX6_copyFrom_75 : decode cX6_copyFrom 75 = .ok (.aload_n 1, 1) := by decide +kernel
theorem dX6_copyFrom_76 : decode cX6_copyFrom 76 = .ok (.getfield 27, 3) := by decide +kernel
theorem dX6_copyFrom_79 : decode cX6_copyFrom 79 = .ok (.iconst 0, 1) := by decide +kernel
theorem dX6_copyFrom_80 : decode cX6_copyFrom 80 = .ok (.aload_n 0, 1) := by decide +kernel
theorem dX6_copyFrom_81 : decode cX6_copyFrom 81 = .ok (.getfield 27, 3) := by decide +kernel
theorem dX6_copyFrom_84 : decode cX6_copyFrom 84 = .ok (.iconst 0, 1) := by decide +kernel
theorem dX6_copyFrom_85 : decode cX6_copyFrom 85 = .ok (.iconst 4, 1) := by decide +kernel
theorem dX6_copyFrom_86 : decode cX6_copyFrom 86 = .ok (.invokestatic 49, 3) := by decide +kernel
theorem dX6_copyFrom_89 : decode cX6_copyFrom 89 = .ok (.aload_n 1, 1) := by decide +kernel
theorem dX6_copyFrom_90 : decode cX6_copyFrom 90 = .ok (.getfield 30, 3) := by decide +kernel
theorem dX6_copyFrom_93 : decode cX6_copyFrom 93 = .ok (.iconst 0, 1) := by decide +kernel
theorem dX6_copyFrom_94 : decode cX6_copyFrom 94 = .ok (.aload_n 0, 1) := by decide +kernel
theorem dX6_copyFrom_95 : decode cX6_copyFrom 95 = .ok (.getfield 30, 3) := by decide +kernel
theorem dX6_copyFrom_98 : decode cX6_copyFrom 98 = .ok (.iconst 0, 1) := by decide +kernel
theorem dX6_copyFrom_99 : decode cX6_copyFrom 99 = .ok (.iconst 4, 1) := by decide +kernel
theorem dX6_copyFrom_100 : decode cX6_copyFrom 100 = .ok (.invokestatic 49, 3) := by decide +kernel
theorem dX6_copyFrom_103 : decode cX6_copyFrom 103 = .ok (.aload_n 0, 1) := by decide +kernel
theorem dX6_copyFrom_104 : decode cX6_copyFrom 104 = .ok (.aload_n 1, 1) := by decide +kernel
theorem dX6_copyFrom_105 : decode cX6_copyFrom 105 = .ok (.getfield 33, 3) := by decide +kernel
theorem dX6_copyFrom_108 : decode cX6_copyFrom 108 = .ok (.putfield 33, 3) := by decide +kernel
theorem dX6_copyFrom_111 : decode cX6_copyFrom 111 = .ok (.aload_n 0, 1) := by decide +kernel
theorem dX6_copyFrom_112 : decode cX6_copyFrom 112 = .ok (.aload_n 1, 1) := by decide +kernel
theorem dX6_copyFrom_113 : decode cX6_copyFrom 113 = .ok (.getfield 37, 3) := by decide +kernel
theorem dX6_copyFrom_116 : decode cX6_copyFrom 116 = .ok (.putfield 37, 3) := by decide +kernel
theorem dX6_copyFrom_119 : decode cX6_copyFrom 119 = .ok (.aload_n 0, 1) := by decide +kernel
theorem dX6_copyFrom_120 : decode cX6_copyFrom 120 = .ok (.aload_n 1, 1) := by decide +kernel
theorem dX6_copyFrom_121 : decode cX6_copyFrom 121 = .ok (.getfield 40, 3) := by decide +kernel
theorem dX6_copyFrom_124 : decode cX6_copyFrom 124 = .ok (.putfield 40, 3) := by decide +kernel
theorem dX6_copyFrom_127 : decode cX6_copyFrom 127 = .ok (.aload_n 0, 1) := by decide +kernel
theorem dX6_copyFrom_128 : decode cX6_copyFrom 128 = .ok (.aload_n 1, 1) := by decide +kernel
theorem dX6_copyFrom_129 : decode cX6_copyFrom 129 = .ok (.getfield 43, 3) := by decide +kernel
theorem dX6_copyFrom_132 : decode cX6_copyFrom 132 = .ok (.putfield 43, 3) := by decide +kernel
theorem dX6_copyFrom_135 : decode cX6_copyFrom 135 = .ok (.aload_n 0, 1) := by decide +kernel
theorem dX6_copyFrom_136 : decode cX6_copyFrom 136 = .ok (.aload_n 1, 1) := by decide +kernel
theorem dX6_copyFrom_137 : decode cX6_copyFrom 137 = .ok (.getfield 46, 3) := by decide +kernel
theorem dX6_copyFrom_140 : decode cX6_copyFrom 140 = .ok (.putfield 46, 3) := by decide +kernel
theorem dX6_copyFrom_143 : decode cX6_copyFrom 143 = .ok (.return_, 1) := by decide +kernel
theorem dX6_layerAt_0 : decode cX6_layerAt 0 = .ok (.iload_n 2, 1) := by decide +kernel
theorem dX6_layerAt_1 : decode cX6_layerAt 1 = .ok (.ifCond .lt 13, 3) := by decide +kernel
theorem dX6_layerAt_4 : decode cX6_layerAt 4 = .ok (.iload_n 2, 1) := by decide +kernel
theorem dX6_layerAt_5 : decode cX6_layerAt 5 = .ok (.aload_n 0, 1) := by decide +kernel
theorem dX6_layerAt_6 : decode cX6_layerAt 6 = .ok (.getfield 15, 3) := by decide +kernel
theorem dX6_layerAt_9 : decode cX6_layerAt 9 = .ok (.iload_n 1, 1) := by decide +kernel
theorem dX6_layerAt_10 : decode cX6_layerAt 10 = .ok (.iaload, 1) := by decide +kernel
theorem dX6_layerAt_11 : decode cX6_layerAt 11 = .ok (.if_icmp .lt 7, 3) := by decide +kernel
theorem dX6_layerAt_14 : decode cX6_layerAt 14 = .ok (.iconst (-1), 1) := by decide +kernel
theorem dX6_layerAt_15 : decode cX6_layerAt 15 = .ok (.goto 14, 3) := by decide +kernel
theorem dX6_layerAt_18 : decode cX6_layerAt 18 = .ok (.aload_n 0, 1) := by decide +kernel
theorem dX6_layerAt_19 : decode cX6_layerAt 19 = .ok (.getfield 9, 3) := by decide +kernel
theorem dX6_layerAt_22 : decode cX6_layerAt 22 = .ok (.iload_n 1, 1) := by decide +kernel
theorem dX6_layerAt_23 : decode cX6_layerAt 23 = .ok (.bipush 8, 2) := by decide +kernel
theorem dX6_layerAt_25 : decode cX6_layerAt 25 = .ok (.imul, 1) := by decide +kernel
theorem dX6_layerAt_26 : decode cX6_layerAt 26 = .ok (.iload_n 2, 1) := by decide +kernel
theorem dX6_layerAt_27 : decode cX6_layerAt 27 = .ok (.iadd, 1) := by decide +kernel
theorem dX6_layerAt_28 : decode cX6_layerAt 28 = .ok (.iaload, 1) := by decide +kernel
theorem dX6_layerAt_29 : decode cX6_layerAt 29 = .ok (.ireturn, 1) := by decide +kernel
theorem dX6_layerFromOutside_0 : decode cX6_layerFromOutside 0 = .ok (.aload_n 0, 1) := by decide +kernel
theorem dX6_layerFromOutside_1 : decode cX6_layerFromOutside 1 = .ok (.iload_n 1, 1) := by decide +kernel
theorem dX6_layerFromOutside_2 : decode cX6_layerFromOutside 2 = .ok (.aload_n 0, 1) := by decide +kernel
theorem dX6_layerFromOutside_3 : decode cX6_layerFromOutside 3 = .ok (.getfield 15, 3) := by decide +kernel
theorem dX6_layerFromOutside_6 : decode cX6_layerFromOutside 6 = .ok (.iload_n 1, 1) := by decide +kernel
theorem dX6_layerFromOutside_7 : decode cX6_layerFromOutside 7 = .ok (.iaload, 1) := by decide +kernel
theorem dX6_layerFromOutside_8 : decode cX6_layerFromOutside 8 = .ok (.iconst 1, 1) := by decide +kernel
theorem dX6_layerFromOutside_9 : decode cX6_layerFromOutside 9 = .ok (.isub, 1) := by decide +kernel
theorem dX6_layerFromOutside_10 : decode cX6_layerFromOutside 10 = .ok (.iload_n 2, 1) := by decide +kernel
theorem dX6_layerFromOutside_11 : decode cX6_layerFromOutside 11 = .ok (.isub, 1) := by decide +kernel
theorem dX6_layerFromOutside_12 : decode cX6_layerFromOutside 12 = .ok (.invokevirtual 55, 3) := by decide +kernel
theorem dX6_layerFromOutside_15 : decode cX6_layerFromOutside 15 = .ok (.ireturn, 1) := by decide +kernel
theorem dX6_isNest_0 : decode cX6_isNest 0 = .ok (.aload_n 0, 1) := by decide +kernel
theorem dX6_isNest_1 : decode cX6_isNest 1 = .ok (.getfield 15, 3) := by decide +kernel
theorem dX6_isNest_4 : decode cX6_isNest 4 = .ok (.iload_n 1, 1) := by decide +kernel
theorem dX6_isNest_5 : decode cX6_isNest 5 = .ok (.iaload, 1) := by decide +kernel
theorem dX6_isNest_6 : decode cX6_isNest 6 = .ok (.bipush 8, 2) := by decide +kernel
theorem dX6_isNest_8 : decode cX6_isNest 8 = .ok (.if_icmp .lt 7, 3) := by decide +kernel
theorem dX6_isNest_11 : decode cX6_isNest 11 = .ok (.iconst 1, 1) := by decide +kernel
theorem dX6_isNest_12 : decode cX6_isNest 12 = .ok (.goto 4, 3) := by decide +kernel
theorem dX6_isNest_15 : decode cX6_isNest 15 = .ok (.iconst 0, 1) := by decide +kernel
theorem dX6_isNest_16 : decode cX6_isNest 16 = .ok (.ireturn, 1) := by decide +kernel
theorem dX6_knotBelow_0 : decode cX6_knotBelow 0 = .ok (.iconst 0, 1) := by decide +kernel
theorem dX6_knotBelow_1 : decode cX6_knotBelow 1 = .ok (.istore_n 3, 1) := by decide +kernel
theorem dX6_knotBelow_2 : decode cX6_knotBelow 2 = .ok (.iload_n 1, 1) := by decide +kernel
theorem dX6_knotBelow_3 : decode cX6_knotBelow 3 = .ok (.bipush 8, 2) := by decide +kernel
theorem dX6_knotBelow_5 : decode cX6_knotBelow 5 = .ok (.imul, 1) := by decide +kernel
theorem dX6_knotBelow_6 : decode cX6_knotBelow 6 = .ok (.iload_n 2, 1) := by decide +kernel
theorem dX6_knotBelow_7 : decode cX6_knotBelow 7 = .ok (.iadd, 1) := by decide +kernel
theorem dX6_knotBelow_8 : decode cX6_knotBelow 8 = .ok (.iconst 1, 1) := by decide +kernel
theorem dX6_knotBelow_9 : decode cX6_knotBelow 9 = .ok (.isub, 1) := by decide +kernel
theorem dX6_knotBelow_10 : decode cX6_knotBelow 10 = .ok (.istore 4, 2) := by decide +kernel
theorem dX6_knotBelow_12 : decode cX6_knotBelow 12 = .ok (.iload_n 3, 1) := by decide +kernel
theorem dX6_knotBelow_13 : decode cX6_knotBelow 13 = .ok (.iload_n 2, 1) := by decide +kernel
theorem dX6_knotBelow_14 : decode cX6_knotBelow 14 = .ok (.if_icmp .ge 38, 3) := by decide +kernel
theorem dX6_knotBelow_17 : decode cX6_knotBelow 17 = .ok (.iload_n 2, 1) := by decide +kernel
theorem dX6_knotBelow_18 : decode cX6_knotBelow 18 = .ok (.aload_n 0, 1) := by decide +kernel
theorem dX6_knotBelow_19 : decode cX6_knotBelow 19 = .ok (.getfield 15, 3) := by decide +kernel
theorem dX6_knotBelow_22 : decode cX6_knotBelow 22 = .ok (.iload_n 1, 1) := by decide +kernel
theorem dX6_knotBelow_23 : decode cX6_knotBelow 23 = .ok (.iaload, 1) := by decide +kernel
theorem dX6_knotBelow_24 : decode cX6_knotBelow 24 = .ok (.if_icmp .gt 28, 3) := by decide +kernel
theorem dX6_knotBelow_27 : decode cX6_knotBelow 27 = .ok (.aload_n 0, 1) := by decide +kernel
theorem dX6_knotBelow_28 : decode cX6_knotBelow 28 = .ok (.getfield 9, 3) := by decide +kernel
theorem dX6_knotBelow_31 : decode cX6_knotBelow 31 = .ok (.iload 4, 2) := by decide +kernel
theorem dX6_knotBelow_33 : decode cX6_knotBelow 33 = .ok (.iload_n 3, 1) := by decide +kernel
theorem dX6_knotBelow_34 : decode cX6_knotBelow 34 = .ok (.isub, 1) := by decide +kernel
theorem dX6_knotBelow_35 : decode cX6_knotBelow 35 = .ok (.iaload, 1) := by decide +kernel
theorem dX6_knotBelow_36 : decode cX6_knotBelow 36 = .ok (.aload_n 0, 1) := by decide +kernel
theorem dX6_knotBelow_37 : decode cX6_knotBelow 37 = .ok (.getfield 9, 3) := by decide +kernel
theorem dX6_knotBelow_40 : decode cX6_knotBelow 40 = .ok (.iload 4, 2) := by decide +kernel
theorem dX6_knotBelow_42 : decode cX6_knotBelow 42 = .ok (.iaload, 1) := by decide +kernel
theorem dX6_knotBelow_43 : decode cX6_knotBelow 43 = .ok (.if_icmp .ne 9, 3) := by decide +kernel
theorem dX6_knotBelow_46 : decode cX6_knotBelow 46 = .ok (.iinc 3 1, 3) := by decide +kernel
theorem dX6_knotBelow_49 : decode cX6_knotBelow 49 = .ok (.goto (-37), 3) := by decide +kernel
theorem dX6_knotBelow_52 : decode cX6_knotBelow 52 = .ok (.iload_n 3, 1) := by decide +kernel
theorem dX6_knotBelow_53 : decode cX6_knotBelow 53 = .ok (.ireturn, 1) := by decide +kernel
theorem dX6_knotsOf_0 : decode cX6_knotsOf 0 = .ok (.iconst 0, 1) := by decide +kernel
theorem dX6_knotsOf_1 : decode cX6_knotsOf 1 = .ok (.istore_n 2, 1) := by decide +kernel
theorem dX6_knotsOf_2 : decode cX6_knotsOf 2 = .ok (.iconst 0, 1) := by decide +kernel
theorem dX6_knotsOf_3 : decode cX6_knotsOf 3 = .ok (.istore_n 3, 1) := by decide +kernel
theorem dX6_knotsOf_4 : decode cX6_knotsOf 4 = .ok (.iload_n 3, 1) := by decide +kernel
theorem dX6_knotsOf_5 : decode cX6_knotsOf 5 = .ok (.aload_n 0, 1) := by decide +kernel
theorem dX6_knotsOf_6 : decode cX6_knotsOf 6 = .ok (.getfield 15, 3) := by decide +kernel
theorem dX6_knotsOf_9 : decode cX6_knotsOf 9 = .ok (.iload_n 1, 1) := by decide +kernel
theorem dX6_knotsOf_10 : decode cX6_knotsOf 10 = .ok (.iaload, 1) := by decide +kernel
theorem dX6_knotsOf_11 : decode cX6_knotsOf 11 = .ok (.if_icmp .ge 29, 3) := by decide +kernel
theorem dX6_knotsOf_14 : decode cX6_knotsOf 14 = .ok (.aload_n 0, 1) := by decide +kernel
theorem dX6_knotsOf_15 : decode cX6_knotsOf 15 = .ok (.iload_n 1, 1) := by decide +kernel
theorem dX6_knotsOf_16 : decode cX6_knotsOf 16 = .ok (.iload_n 3, 1) := by decide +kernel
theorem dX6_knotsOf_17 : decode cX6_knotsOf 17 = .ok (.invokevirtual 55, 3) := by decide +kernel
theorem dX6_knotsOf_20 : decode cX6_knotsOf 20 = .ok (.aload_n 0, 1) := by decide +kernel
theorem dX6_knotsOf_21 : decode cX6_knotsOf 21 = .ok (.iload_n 1, 1) := by decide +kernel
theorem dX6_knotsOf_22 : decode cX6_knotsOf 22 = .ok (.iload_n 3, 1) := by decide +kernel
theorem dX6_knotsOf_23 : decode cX6_knotsOf 23 = .ok (.iconst 1, 1) := by decide +kernel
theorem dX6_knotsOf_24 : decode cX6_knotsOf 24 = .ok (.isub, 1) := by decide +kernel
theorem dX6_knotsOf_25 : decode cX6_knotsOf 25 = .ok (.invokevirtual 55, 3) := by decide +kernel
theorem dX6_knotsOf_28 : decode cX6_knotsOf 28 = .ok (.if_icmp .eq 6, 3) := by decide +kernel
theorem dX6_knotsOf_31 : decode cX6_knotsOf 31 = .ok (.iinc 2 1, 3) := by decide +kernel
theorem dX6_knotsOf_34 : decode cX6_knotsOf 34 = .ok (.iinc 3 1, 3) := by decide +kernel
theorem dX6_knotsOf_37 : decode cX6_knotsOf 37 = .ok (.goto (-33), 3) := by decide +kernel
theorem dX6_knotsOf_40 : decode cX6_knotsOf 40 = .ok (.iload_n 2, 1) := by decide +kernel
theorem dX6_knotsOf_41 : decode cX6_knotsOf 41 = .ok (.ireturn, 1) := by decide +kernel
theorem dX6_holdAt_0 : decode cX6_holdAt 0 = .ok (.aload_n 0, 1) := by decide +kernel
theorem dX6_holdAt_1 : decode cX6_holdAt 1 = .ok (.iload_n 2, 1) := by decide +kernel
theorem dX6_holdAt_2 : decode cX6_holdAt 2 = .ok (.iload_n 3, 1) := by decide +kernel
theorem dX6_holdAt_3 : decode cX6_holdAt 3 = .ok (.invokevirtual 55, 3) := by decide +kernel
theorem dX6_holdAt_6 : decode cX6_holdAt 6 = .ok (.istore 4, 2) := by decide +kernel
theorem dX6_holdAt_8 : decode cX6_holdAt 8 = .ok (.iload 4, 2) := by decide +kernel
theorem dX6_holdAt_10 : decode cX6_holdAt 10 = .ok (.ifCond .lt 10, 3) := by decide +kernel
theorem dX6_holdAt_13 : decode cX6_holdAt 13 = .ok (.iload 4, 2) := by decide +kernel
theorem dX6_holdAt_15 : decode cX6_holdAt 15 = .ok (.bipush 8, 2) := by decide +kernel
theorem dX6_holdAt_17 : decode cX6_holdAt 17 = .ok (.if_icmp .lt 7, 3) := by decide +kernel
theorem dX6_holdAt_20 : decode cX6_holdAt 20 = .ok (.iconst 0, 1) := by decide +kernel
theorem dX6_holdAt_21 : decode cX6_holdAt 21 = .ok (.goto 10, 3) := by decide +kernel
theorem dX6_holdAt_24 : decode cX6_holdAt 24 = .ok (.aload_n 1, 1) := by decide +kernel
theorem dX6_holdAt_25 : decode cX6_holdAt 25 = .ok (.getfield 59, 3) := by decide +kernel
theorem dX6_holdAt_28 : decode cX6_holdAt 28 = .ok (.iload 4, 2) := by decide +kernel
theorem dX6_holdAt_30 : decode cX6_holdAt 30 = .ok (.iaload, 1) := by decide +kernel
theorem dX6_holdAt_31 : decode cX6_holdAt 31 = .ok (.ireturn, 1) := by decide +kernel
theorem dX6_outsideHolds_0 : decode cX6_outsideHolds 0 = .ok (.aload_n 0, 1) := by decide +kernel
theorem dX6_outsideHolds_1 : decode cX6_outsideHolds 1 = .ok (.iload_n 2, 1) := by decide +kernel
theorem dX6_outsideHolds_2 : decode cX6_outsideHolds 2 = .ok (.aload_n 0, 1) := by decide +kernel
theorem dX6_outsideHolds_3 : decode cX6_outsideHolds 3 = .ok (.getfield 15, 3) := by decide +kernel
theorem dX6_outsideHolds_6 : decode cX6_outsideHolds 6 = .ok (.iload_n 2, 1) := by decide +kernel
theorem dX6_outsideHolds_7 : decode cX6_outsideHolds 7 = .ok (.iaload, 1) := by decide +kernel
theorem dX6_outsideHolds_8 : decode cX6_outsideHolds 8 = .ok (.invokevirtual 64, 3) := by decide +kernel
theorem dX6_outsideHolds_11 : decode cX6_outsideHolds 11 = .ok (.aload_n 0, 1) := by decide +kernel
theorem dX6_outsideHolds_12 : decode cX6_outsideHolds 12 = .ok (.aload_n 1, 1) := by decide +kernel
theorem dX6_outsideHolds_13 : decode cX6_outsideHolds 13 = .ok (.iload_n 2, 1) := by decide +kernel
theorem dX6_outsideHolds_14 : decode cX6_outsideHolds 14 = .ok (.aload_n 0, 1) := by decide +kernel
theorem dX6_outsideHolds_15 : decode cX6_outsideHolds 15 = .ok (.getfield 15, 3) := by decide +kernel
theorem dX6_outsideHolds_18 : decode cX6_outsideHolds 18 = .ok (.iload_n 2, 1) := by decide +kernel
theorem dX6_outsideHolds_19 : decode cX6_outsideHolds 19 = .ok (.iaload, 1) := by decide +kernel
theorem dX6_outsideHolds_20 : decode cX6_outsideHolds 20 = .ok (.iconst 1, 1) := by decide +kernel
theorem dX6_outsideHolds_21 : decode cX6_outsideHolds 21 = .ok (.isub, 1) := by decide +kernel
theorem dX6_outsideHolds_22 : decode cX6_outsideHolds 22 = .ok (.invokevirtual 67, 3) := by decide +kernel
theorem dX6_outsideHolds_25 : decode cX6_outsideHolds 25 = .ok (.imul, 1) := by decide +kernel
theorem dX6_outsideHolds_26 : decode cX6_outsideHolds 26 = .ok (.ireturn, 1) := by decide +kernel
theorem dX6_allHolds_0 : decode cX6_allHolds 0 = .ok (.iconst 0, 1) := by decide +kernel
theorem dX6_allHolds_1 : decode cX6_allHolds 1 = .ok (.istore_n 3, 1) := by decide +kernel
theorem dX6_allHolds_2 : decode cX6_allHolds 2 = .ok (.iconst 0, 1) := by decide +kernel
theorem dX6_allHolds_3 : decode cX6_allHolds 3 = .ok (.istore 4, 2) := by decide +kernel
theorem dX6_allHolds_5 : decode cX6_allHolds 5 = .ok (.iload 4, 2) := by decide +kernel
theorem dX6_allHolds_7 : decode cX6_allHolds 7 = .ok (.aload_n 0, 1) := by decide +kernel
theorem dX6_allHolds_8 : decode cX6_allHolds 8 = .ok (.getfield 15, 3) := by decide +kernel
theorem dX6_allHolds_11 : decode cX6_allHolds 11 = .ok (.iload_n 2, 1) := by decide +kernel
theorem dX6_allHolds_12 : decode cX6_allHolds 12 = .ok (.iaload, 1) := by decide +kernel
theorem dX6_allHolds_13 : decode cX6_allHolds 13 = .ok (.if_icmp .ge 20, 3) := by decide +kernel
theorem dX6_allHolds_16 : decode cX6_allHolds 16 = .ok (.iload_n 3, 1) := by decide +kernel
theorem dX6_allHolds_17 : decode cX6_allHolds 17 = .ok (.aload_n 0, 1) := by decide +kernel
theorem dX6_allHolds_18 : decode cX6_allHolds 18 = .ok (.aload_n 1, 1) := by decide +kernel
theorem dX6_allHolds_19 : decode cX6_allHolds 19 = .ok (.iload_n 2, 1) := by decide +kernel
theorem dX6_allHolds_20 : decode cX6_allHolds 20 = .ok (.iload 4, 2) := by decide +kernel
theorem dX6_allHolds_22 : decode cX6_allHolds 22 = .ok (.invokevirtual 67, 3) := by decide +kernel
theorem dX6_allHolds_25 : decode cX6_allHolds 25 = .ok (.iadd, 1) := by decide +kernel
theorem dX6_allHolds_26 : decode cX6_allHolds 26 = .ok (.istore_n 3, 1) := by decide +kernel
theorem dX6_allHolds_27 : decode cX6_allHolds 27 = .ok (.iinc 4 1, 3) := by decide +kernel
theorem dX6_allHolds_30 : decode cX6_allHolds 30 = .ok (.goto (-25), 3) := by decide +kernel
theorem dX6_allHolds_33 : decode cX6_allHolds 33 = .ok (.iload_n 3, 1) := by decide +kernel
theorem dX6_allHolds_34 : decode cX6_allHolds 34 = .ok (.ireturn, 1) := by decide +kernel
theorem dX6_has_0 : decode cX6_has 0 = .ok (.iconst 0, 1) := by decide +kernel
theorem dX6_has_1 : decode cX6_has 1 = .ok (.istore_n 3, 1) := by decide +kernel
theorem dX6_has_2 : decode cX6_has 2 = .ok (.iload_n 3, 1) := by decide +kernel
theorem dX6_has_3 : decode cX6_has 3 = .ok (.aload_n 0, 1) := by decide +kernel
theorem dX6_has_4 : decode cX6_has 4 = .ok (.getfield 15, 3) := by decide +kernel
theorem dX6_has_7 : decode cX6_has 7 = .ok (.iload_n 1, 1) := by decide +kernel
theorem dX6_has_8 : decode cX6_has 8 = .ok (.iaload, 1) := by decide +kernel
theorem dX6_has_9 : decode cX6_has 9 = .ok (.if_icmp .ge 21, 3) := by decide +kernel
theorem dX6_has_12 : decode cX6_has 12 = .ok (.aload_n 0, 1) := by decide +kernel
theorem dX6_has_13 : decode cX6_has 13 = .ok (.iload_n 1, 1) := by decide +kernel
theorem dX6_has_14 : decode cX6_has 14 = .ok (.iload_n 3, 1) := by decide +kernel
theorem dX6_has_15 : decode cX6_has 15 = .ok (.invokevirtual 55, 3) := by decide +kernel
theorem dX6_has_18 : decode cX6_has 18 = .ok (.iload_n 2, 1) := by decide +kernel
theorem dX6_has_19 : decode cX6_has 19 = .ok (.if_icmp .ne 5, 3) := by decide +kernel
theorem dX6_has_22 : decode cX6_has 22 = .ok (.iconst 1, 1) := by decide +kernel
theorem dX6_has_23 : decode cX6_has 23 = .ok (.ireturn, 1) := by decide +kernel
theorem dX6_has_24 : decode cX6_has 24 = .ok (.iinc 3 1, 3) := by decide +kernel
theorem dX6_has_27 : decode cX6_has 27 = .ok (.goto (-25), 3) := by decide +kernel
theorem dX6_has_30 : decode cX6_has 30 = .ok (.iconst 0, 1) := by decide +kernel
theorem dX6_has_31 : decode cX6_has 31 = .ok (.ireturn, 1) := by decide +kernel
theorem dX6_alike_0 : decode cX6_alike 0 = .ok (.aload_n 0, 1) := by decide +kernel
theorem dX6_alike_1 : decode cX6_alike 1 = .ok (.getfield 15, 3) := by decide +kernel
theorem dX6_alike_4 : decode cX6_alike 4 = .ok (.iload_n 1, 1) := by decide +kernel
theorem dX6_alike_5 : decode cX6_alike 5 = .ok (.iaload, 1) := by decide +kernel
theorem dX6_alike_6 : decode cX6_alike 6 = .ok (.aload_n 0, 1) := by decide +kernel
theorem dX6_alike_7 : decode cX6_alike 7 = .ok (.getfield 15, 3) := by decide +kernel
theorem dX6_alike_10 : decode cX6_alike 10 = .ok (.iload_n 2, 1) := by decide +kernel
theorem dX6_alike_11 : decode cX6_alike 11 = .ok (.iaload, 1) := by decide +kernel
theorem dX6_alike_12 : decode cX6_alike 12 = .ok (.if_icmp .eq 5, 3) := by decide +kernel
theorem dX6_alike_15 : decode cX6_alike 15 = .ok (.iconst 0, 1) := by decide +kernel
theorem dX6_alike_16 : decode cX6_alike 16 = .ok (.ireturn, 1) := by decide +kernel
theorem dX6_alike_17 : decode cX6_alike 17 = .ok (.iconst 0, 1) := by decide +kernel
theorem dX6_alike_18 : decode cX6_alike 18 = .ok (.istore_n 3, 1) := by decide +kernel
theorem dX6_alike_19 : decode cX6_alike 19 = .ok (.iload_n 3, 1) := by decide +kernel
theorem dX6_alike_20 : decode cX6_alike 20 = .ok (.aload_n 0, 1) := by decide +kernel
theorem dX6_alike_21 : decode cX6_alike 21 = .ok (.getfield 15, 3) := by decide +kernel
theorem dX6_alike_24 : decode cX6_alike 24 = .ok (.iload_n 1, 1) := by decide +kernel
theorem dX6_alike_25 : decode cX6_alike 25 = .ok (.iaload, 1) := by decide +kernel
theorem dX6_alike_26 : decode cX6_alike 26 = .ok (.if_icmp .ge 26, 3) := by decide +kernel
theorem dX6_alike_29 : decode cX6_alike 29 = .ok (.aload_n 0, 1) := by decide +kernel
theorem dX6_alike_30 : decode cX6_alike 30 = .ok (.iload_n 1, 1) := by decide +kernel
theorem dX6_alike_31 : decode cX6_alike 31 = .ok (.iload_n 3, 1) := by decide +kernel
theorem dX6_alike_32 : decode cX6_alike 32 = .ok (.invokevirtual 55, 3) := by decide +kernel
theorem dX6_alike_35 : decode cX6_alike 35 = .ok (.aload_n 0, 1) := by decide +kernel
theorem dX6_alike_36 : decode cX6_alike 36 = .ok (.iload_n 2, 1) := by decide +kernel
theorem dX6_alike_37 : decode cX6_alike 37 = .ok (.iload_n 3, 1) := by decide +kernel
theorem dX6_alike_38 : decode cX6_alike 38 = .ok (.invokevirtual 55, 3) := by decide +kernel
theorem dX6_alike_41 : decode cX6_alike 41 = .ok (.if_icmp .eq 5, 3) := by decide +kernel
theorem dX6_alike_44 : decode cX6_alike 44 = .ok (.iconst 0, 1) := by decide +kernel
theorem dX6_alike_45 : decode cX6_alike 45 = .ok (.ireturn, 1) := by decide +kernel
theorem dX6_alike_46 : decode cX6_alike 46 = .ok (.iinc 3 1, 3) := by decide +kernel
theorem dX6_alike_49 : decode cX6_alike 49 = .ok (.goto (-30), 3) := by decide +kernel
theorem dX6_alike_52 : decode cX6_alike 52 = .ok (.iconst 1, 1) := by decide +kernel
theorem dX6_alike_53 : decode cX6_alike 53 = .ok (.ireturn, 1) := by decide +kernel
theorem dX6_endsWith_0 : decode cX6_endsWith 0 = .ok (.iload_n 3, 1) := by decide +kernel
theorem dX6_endsWith_1 : decode cX6_endsWith 1 = .ok (.aload_n 0, 1) := by decide +kernel
theorem dX6_endsWith_2 : decode cX6_endsWith 2 = .ok (.getfield 15, 3) := by decide +kernel
theorem dX6_endsWith_5 : decode cX6_endsWith 5 = .ok (.iload_n 1, 1) := by decide +kernel
theorem dX6_endsWith_6 : decode cX6_endsWith 6 = .ok (.iaload, 1) := by decide +kernel
theorem dX6_endsWith_7 : decode cX6_endsWith 7 = .ok (.if_icmp .gt 9, 3) := by decide +kernel
theorem dX6_endsWith_10 : decode cX6_endsWith 10 = .ok (.iload_n 3, 1) := by decide +kernel
theorem dX6_endsWith_11 : decode cX6_endsWith 11 = .ok (.aload_n 2, 1) := by decide +kernel
theorem dX6_endsWith_12 : decode cX6_endsWith 12 = .ok (.arraylength, 1) := by decide +kernel
theorem dX6_endsWith_13 : decode cX6_endsWith 13 = .ok (.if_icmp .le 5, 3) := by decide +kernel
theorem dX6_endsWith_16 : decode cX6_endsWith 16 = .ok (.iconst 0, 1) := by decide +kernel
theorem dX6_endsWith_17 : decode cX6_endsWith 17 = .ok (.ireturn, 1) := by decide +kernel
theorem dX6_endsWith_18 : decode cX6_endsWith 18 = .ok (.iconst 0, 1) := by decide +kernel
theorem dX6_endsWith_19 : decode cX6_endsWith 19 = .ok (.istore 4, 2) := by decide +kernel
theorem dX6_endsWith_21 : decode cX6_endsWith 21 = .ok (.iload 4, 2) := by decide +kernel
theorem dX6_endsWith_23 : decode cX6_endsWith 23 = .ok (.iload_n 3, 1) := by decide +kernel
theorem dX6_endsWith_24 : decode cX6_endsWith 24 = .ok (.if_icmp .ge 34, 3) := by decide +kernel
theorem dX6_endsWith_27 : decode cX6_endsWith 27 = .ok (.aload_n 2, 1) := by decide +kernel
theorem dX6_endsWith_28 : decode cX6_endsWith 28 = .ok (.iload 4, 2) := by decide +kernel
theorem dX6_endsWith_30 : decode cX6_endsWith 30 = .ok (.iaload, 1) := by decide +kernel
theorem dX6_endsWith_31 : decode cX6_endsWith 31 = .ok (.aload_n 0, 1) := by decide +kernel
theorem dX6_endsWith_32 : decode cX6_endsWith 32 = .ok (.iload_n 1, 1) := by decide +kernel
theorem dX6_endsWith_33 : decode cX6_endsWith 33 = .ok (.aload_n 0, 1) := by decide +kernel
theorem dX6_endsWith_34 : decode cX6_endsWith 34 = .ok (.getfield 15, 3) := by decide +kernel
theorem dX6_endsWith_37 : decode cX6_endsWith 37 = .ok (.iload_n 1, 1) := by decide +kernel
theorem dX6_endsWith_38 : decode cX6_endsWith 38 = .ok (.iaload, 1) := by decide +kernel
theorem dX6_endsWith_39 : decode cX6_endsWith 39 = .ok (.iload_n 3, 1) := by decide +kernel
theorem dX6_endsWith_40 : decode cX6_endsWith 40 = .ok (.isub, 1) := by decide +kernel
theorem dX6_endsWith_41 : decode cX6_endsWith 41 = .ok (.iload 4, 2) := by decide +kernel
theorem dX6_endsWith_43 : decode cX6_endsWith 43 = .ok (.iadd, 1) := by decide +kernel
theorem dX6_endsWith_44 : decode cX6_endsWith 44 = .ok (.invokevirtual 55, 3) := by decide +kernel
theorem dX6_endsWith_47 : decode cX6_endsWith 47 = .ok (.if_icmp .eq 5, 3) := by decide +kernel
theorem dX6_endsWith_50 : decode cX6_endsWith 50 = .ok (.iconst 0, 1) := by decide +kernel
theorem dX6_endsWith_51 : decode cX6_endsWith 51 = .ok (.ireturn, 1) := by decide +kernel
theorem dX6_endsWith_52 : decode cX6_endsWith 52 = .ok (.iinc 4 1, 3) := by decide +kernel
theorem dX6_endsWith_55 : decode cX6_endsWith 55 = .ok (.goto (-34), 3) := by decide +kernel
theorem dX6_endsWith_58 : decode cX6_endsWith 58 = .ok (.iconst 1, 1) := by decide +kernel
theorem dX6_endsWith_59 : decode cX6_endsWith 59 = .ok (.ireturn, 1) := by decide +kernel
theorem dX6_whoHas_0 : decode cX6_whoHas 0 = .ok (.iconst 0, 1) := by decide +kernel
theorem dX6_whoHas_1 : decode cX6_whoHas 1 = .ok (.istore_n 3, 1) := by decide +kernel
theorem dX6_whoHas_2 : decode cX6_whoHas 2 = .ok (.iconst 0, 1) := by decide +kernel
theorem dX6_whoHas_3 : decode cX6_whoHas 3 = .ok (.istore 4, 2) := by decide +kernel
theorem dX6_whoHas_5 : decode cX6_whoHas 5 = .ok (.iload 4, 2) := by decide +kernel
theorem dX6_whoHas_7 : decode cX6_whoHas 7 = .ok (.aload_n 1, 1) := by decide +kernel
theorem dX6_whoHas_8 : decode cX6_whoHas 8 = .ok (.getfield 71, 3) := by decide +kernel
theorem dX6_whoHas_11 : decode cX6_whoHas 11 = .ok (.if_icmp .ge 26, 3) := by decide +kernel
theorem dX6_whoHas_14 : decode cX6_whoHas 14 = .ok (.aload_n 0, 1) := by decide +kernel
theorem dX6_whoHas_15 : decode cX6_whoHas 15 = .ok (.iload 4, 2) := by decide +kernel
theorem dX6_whoHas_17 : decode cX6_whoHas 17 = .ok (.iload_n 2, 1) := by decide +kernel
theorem dX6_whoHas_18 : decode cX6_whoHas 18 = .ok (.invokevirtual 74, 3) := by decide +kernel
theorem dX6_whoHas_21 : decode cX6_whoHas 21 = .ok (.ifCond .eq 10, 3) := by decide +kernel
theorem dX6_whoHas_24 : decode cX6_whoHas 24 = .ok (.iload_n 3, 1) := by decide +kernel
theorem dX6_whoHas_25 : decode cX6_whoHas 25 = .ok (.iconst 1, 1) := by decide +kernel
theorem dX6_whoHas_26 : decode cX6_whoHas 26 = .ok (.iload 4, 2) := by decide +kernel
theorem dX6_whoHas_28 : decode cX6_whoHas 28 = .ok (.ishl, 1) := by decide +kernel
theorem dX6_whoHas_29 : decode cX6_whoHas 29 = .ok (.ior, 1) := by decide +kernel
theorem dX6_whoHas_30 : decode cX6_whoHas 30 = .ok (.istore_n 3, 1) := by decide +kernel
theorem dX6_whoHas_31 : decode cX6_whoHas 31 = .ok (.iinc 4 1, 3) := by decide +kernel
theorem dX6_whoHas_34 : decode cX6_whoHas 34 = .ok (.goto (-29), 3) := by decide +kernel
theorem dX6_whoHas_37 : decode cX6_whoHas 37 = .ok (.iload_n 3, 1) := by decide +kernel
theorem dX6_whoHas_38 : decode cX6_whoHas 38 = .ok (.ireturn, 1) := by decide +kernel
theorem dX6_stillOf_0 : decode cX6_stillOf 0 = .ok (.aload_n 0, 1) := by decide +kernel
theorem dX6_stillOf_1 : decode cX6_stillOf 1 = .ok (.getfield 21, 3) := by decide +kernel
theorem dX6_stillOf_4 : decode cX6_stillOf 4 = .ok (.iload_n 2, 1) := by decide +kernel
theorem dX6_stillOf_5 : decode cX6_stillOf 5 = .ok (.iaload, 1) := by decide +kernel
theorem dX6_stillOf_6 : decode cX6_stillOf 6 = .ok (.aload_n 0, 1) := by decide +kernel
theorem dX6_stillOf_7 : decode cX6_stillOf 7 = .ok (.getfield 24, 3) := by decide +kernel
theorem dX6_stillOf_10 : decode cX6_stillOf 10 = .ok (.iload_n 2, 1) := by decide +kernel
theorem dX6_stillOf_11 : decode cX6_stillOf 11 = .ok (.iaload, 1) := by decide +kernel
theorem dX6_stillOf_12 : decode cX6_stillOf 12 = .ok (.iadd, 1) := by decide +kernel
theorem dX6_stillOf_13 : decode cX6_stillOf 13 = .ok (.istore_n 3, 1) := by decide +kernel
theorem dX6_stillOf_14 : decode cX6_stillOf 14 = .ok (.iconst 0, 1) := by decide +kernel
theorem dX6_stillOf_15 : decode cX6_stillOf 15 = .ok (.istore 4, 2) := by decide +kernel
theorem dX6_stillOf_17 : decode cX6_stillOf 17 = .ok (.iload 4, 2) := by decide +kernel
theorem dX6_stillOf_19 : decode cX6_stillOf 19 = .ok (.aload_n 1, 1) := by decide +kernel
theorem dX6_stillOf_20 : decode cX6_stillOf 20 = .ok (.getfield 71, 3) := by decide +kernel
theorem dX6_stillOf_23 : decode cX6_stillOf 23 = .ok (.if_icmp .ge 45, 3) := by decide +kernel
theorem dX6_stillOf_26 : decode cX6_stillOf 26 = .ok (.iconst 0, 1) := by decide +kernel
theorem dX6_stillOf_27 : decode cX6_stillOf 27 = .ok (.istore 5, 2) := by decide +kernel
theorem dX6_stillOf_29 : decode cX6_stillOf 29 = .ok (.iload 5, 2) := by decide +kernel
theorem dX6_stillOf_31 : decode cX6_stillOf 31 = .ok (.aload_n 0, 1) := by decide +kernel
theorem dX6_stillOf_32 : decode cX6_stillOf 32 = .ok (.getfield 15, 3) := by decide +kernel
theorem dX6_stillOf_35 : decode cX6_stillOf 35 = .ok (.iload 4, 2) := by decide +kernel
theorem dX6_stillOf_37 : decode cX6_stillOf 37 = .ok (.iaload, 1) := by decide +kernel
theorem dX6_stillOf_38 : decode cX6_stillOf 38 = .ok (.if_icmp .ge 24, 3) := by decide +kernel
theorem dX6_stillOf_41 : decode cX6_stillOf 41 = .ok (.aload_n 0, 1) := by decide +kernel
theorem dX6_stillOf_42 : decode cX6_stillOf 42 = .ok (.iload 4, 2) := by decide +kernel
theorem dX6_stillOf_44 : decode cX6_stillOf 44 = .ok (.iload 5, 2) := by decide +kernel
theorem dX6_stillOf_46 : decode cX6_stillOf 46 = .ok (.invokevirtual 55, 3) := by decide +kernel
theorem dX6_stillOf_49 : decode cX6_stillOf 49 = .ok (.iload_n 2, 1) := by decide +kernel
theorem dX6_stillOf_50 : decode cX6_stillOf 50 = .ok (.if_icmp .ne 6, 3) := by decide +kernel
theorem dX6_stillOf_53 : decode cX6_stillOf 53 = .ok (.iinc 3 1, 3) := by decide +kernel
theorem dX6_stillOf_56 : decode cX6_stillOf 56 = .ok (.iinc 5 1, 3) := by decide +kernel
theorem dX6_stillOf_59 : decode cX6_stillOf 59 = .ok (.goto (-30), 3) := by decide +kernel
theorem dX6_stillOf_62 : decode cX6_stillOf 62 = .ok (.iinc 4 1, 3) := by decide +kernel
theorem dX6_stillOf_65 : decode cX6_stillOf 65 = .ok (.goto (-48), 3) := by decide +kernel
theorem dX6_stillOf_68 : decode cX6_stillOf 68 = .ok (.iload_n 3, 1) := by decide +kernel
theorem dX6_stillOf_69 : decode cX6_stillOf 69 = .ok (.ireturn, 1) := by decide +kernel
theorem dX6_sleeps_0 : decode cX6_sleeps 0 = .ok (.aload_n 0, 1) := by decide +kernel
theorem dX6_sleeps_1 : decode cX6_sleeps 1 = .ok (.getfield 27, 3) := by decide +kernel
theorem dX6_sleeps_4 : decode cX6_sleeps 4 = .ok (.iload_n 2, 1) := by decide +kernel
theorem dX6_sleeps_5 : decode cX6_sleeps 5 = .ok (.iaload, 1) := by decide +kernel
theorem dX6_sleeps_6 : decode cX6_sleeps 6 = .ok (.aload_n 1, 1) := by decide +kernel
theorem dX6_sleeps_7 : decode cX6_sleeps 7 = .ok (.getfield 78, 3) := by decide +kernel
theorem dX6_sleeps_10 : decode cX6_sleeps 10 = .ok (.iload_n 2, 1) := by decide +kernel
theorem dX6_sleeps_11 : decode cX6_sleeps 11 = .ok (.iaload, 1) := by decide +kernel
theorem dX6_sleeps_12 : decode cX6_sleeps 12 = .ok (.if_icmp .lt 7, 3) := by decide +kernel
theorem dX6_sleeps_15 : decode cX6_sleeps 15 = .ok (.iconst 1, 1) := by decide +kernel
theorem dX6_sleeps_16 : decode cX6_sleeps 16 = .ok (.goto 4, 3) := by decide +kernel
theorem dX6_sleeps_19 : decode cX6_sleeps 19 = .ok (.iconst 0, 1) := by decide +kernel
theorem dX6_sleeps_20 : decode cX6_sleeps 20 = .ok (.ireturn, 1) := by decide +kernel
theorem dX6_allSleeping_0 : decode cX6_allSleeping 0 = .ok (.iconst 0, 1) := by decide +kernel
theorem dX6_allSleeping_1 : decode cX6_allSleeping 1 = .ok (.istore_n 2, 1) := by decide +kernel
theorem dX6_allSleeping_2 : decode cX6_allSleeping 2 = .ok (.iconst 0, 1) := by decide +kernel
theorem dX6_allSleeping_3 : decode cX6_allSleeping 3 = .ok (.istore_n 3, 1) := by decide +kernel
theorem dX6_allSleeping_4 : decode cX6_allSleeping 4 = .ok (.iload_n 3, 1) := by decide +kernel
theorem dX6_allSleeping_5 : decode cX6_allSleeping 5 = .ok (.aload_n 1, 1) := by decide +kernel
theorem dX6_allSleeping_6 : decode cX6_allSleeping 6 = .ok (.getfield 81, 3) := by decide +kernel
theorem dX6_allSleeping_9 : decode cX6_allSleeping 9 = .ok (.if_icmp .ge 24, 3) := by decide +kernel
theorem dX6_allSleeping_12 : decode cX6_allSleeping 12 = .ok (.aload_n 0, 1) := by decide +kernel
theorem dX6_allSleeping_13 : decode cX6_allSleeping 13 = .ok (.aload_n 1, 1) := by decide +kernel
theorem dX6_allSleeping_14 : decode cX6_allSleeping 14 = .ok (.iload_n 3, 1) := by decide +kernel
theorem dX6_allSleeping_15 : decode cX6_allSleeping 15 = .ok (.invokevirtual 84, 3) := by decide +kernel
theorem dX6_allSleeping_18 : decode cX6_allSleeping 18 = .ok (.ifCond .eq 9, 3) := by decide +kernel
theorem dX6_allSleeping_21 : decode cX6_allSleeping 21 = .ok (.iload_n 2, 1) := by decide +kernel
theorem dX6_allSleeping_22 : decode cX6_allSleeping 22 = .ok (.iconst 1, 1) := by decide +kernel
theorem dX6_allSleeping_23 : decode cX6_allSleeping 23 = .ok (.iload_n 3, 1) := by decide +kernel
theorem dX6_allSleeping_24 : decode cX6_allSleeping 24 = .ok (.ishl, 1) := by decide +kernel
theorem dX6_allSleeping_25 : decode cX6_allSleeping 25 = .ok (.ior, 1) := by decide +kernel
theorem dX6_allSleeping_26 : decode cX6_allSleeping 26 = .ok (.istore_n 2, 1) := by decide +kernel
theorem dX6_allSleeping_27 : decode cX6_allSleeping 27 = .ok (.iinc 3 1, 3) := by decide +kernel
theorem dX6_allSleeping_30 : decode cX6_allSleeping 30 = .ok (.goto (-26), 3) := by decide +kernel
theorem dX6_allSleeping_33 : decode cX6_allSleeping 33 = .ok (.iload_n 2, 1) := by decide +kernel
theorem dX6_allSleeping_34 : decode cX6_allSleeping 34 = .ok (.ireturn, 1) := by decide +kernel
theorem dX6_allNests_0 : decode cX6_allNests 0 = .ok (.iconst 0, 1) := by decide +kernel
theorem dX6_allNests_1 : decode cX6_allNests 1 = .ok (.istore_n 2, 1) := by decide +kernel
theorem dX6_allNests_2 : decode cX6_allNests 2 = .ok (.iconst 0, 1) := by decide +kernel
theorem dX6_allNests_3 : decode cX6_allNests 3 = .ok (.istore_n 3, 1) := by decide +kernel
theorem dX6_allNests_4 : decode cX6_allNests 4 = .ok (.iload_n 3, 1) := by decide +kernel
theorem dX6_allNests_5 : decode cX6_allNests 5 = .ok (.aload_n 1, 1) := by decide +kernel
theorem dX6_allNests_6 : decode cX6_allNests 6 = .ok (.getfield 71, 3) := by decide +kernel
theorem dX6_allNests_9 : decode cX6_allNests 9 = .ok (.if_icmp .ge 23, 3) := by decide +kernel
theorem dX6_allNests_12 : decode cX6_allNests 12 = .ok (.aload_n 0, 1) := by decide +kernel
theorem dX6_allNests_13 : decode cX6_allNests 13 = .ok (.iload_n 3, 1) := by decide +kernel
theorem dX6_allNests_14 : decode cX6_allNests 14 = .ok (.invokevirtual 88, 3) := by decide +kernel
theorem dX6_allNests_17 : decode cX6_allNests 17 = .ok (.ifCond .eq 9, 3) := by decide +kernel
theorem dX6_allNests_20 : decode cX6_allNests 20 = .ok (.iload_n 2, 1) := by decide +kernel
theorem dX6_allNests_21 : decode cX6_allNests 21 = .ok (.iconst 1, 1) := by decide +kernel
theorem dX6_allNests_22 : decode cX6_allNests 22 = .ok (.iload_n 3, 1) := by decide +kernel
theorem dX6_allNests_23 : decode cX6_allNests 23 = .ok (.ishl, 1) := by decide +kernel
theorem dX6_allNests_24 : decode cX6_allNests 24 = .ok (.ior, 1) := by decide +kernel
theorem dX6_allNests_25 : decode cX6_allNests 25 = .ok (.istore_n 2, 1) := by decide +kernel
theorem dX6_allNests_26 : decode cX6_allNests 26 = .ok (.iinc 3 1, 3) := by decide +kernel
theorem dX6_allNests_29 : decode cX6_allNests 29 = .ok (.goto (-25), 3) := by decide +kernel
theorem dX6_allNests_32 : decode cX6_allNests 32 = .ok (.iload_n 2, 1) := by decide +kernel
theorem dX6_allNests_33 : decode cX6_allNests 33 = .ok (.ireturn, 1) := by decide +kernel
theorem dX6_whyNoStroke_0 : decode cX6_whyNoStroke 0 = .ok (.aload_n 0, 1) := by decide +kernel
theorem dX6_whyNoStroke_1 : decode cX6_whyNoStroke 1 = .ok (.getfield 15, 3) := by decide +kernel
theorem dX6_whyNoStroke_4 : decode cX6_whyNoStroke 4 = .ok (.iload_n 2, 1) := by decide +kernel
theorem dX6_whyNoStroke_5 : decode cX6_whyNoStroke 5 = .ok (.iaload, 1) := by decide +kernel
theorem dX6_whyNoStroke_6 : decode cX6_whyNoStroke 6 = .ok (.ifCond .ne 5, 3) := by decide +kernel
theorem dX6_whyNoStroke_9 : decode cX6_whyNoStroke 9 = .ok (.iconst 1, 1) := by decide +kernel
theorem dX6_whyNoStroke_10 : decode cX6_whyNoStroke 10 = .ok (.ireturn, 1) := by decide +kernel
theorem dX6_whyNoStroke_11 : decode cX6_whyNoStroke 11 = .ok (.aload_n 0, 1) := by decide +kernel
theorem dX6_whyNoStroke_12 : decode cX6_whyNoStroke 12 = .ok (.aload_n 1, 1) := by decide +kernel
theorem dX6_whyNoStroke_13 : decode cX6_whyNoStroke 13 = .ok (.iload_n 2, 1) := by decide +kernel
theorem dX6_whyNoStroke_14 : decode cX6_whyNoStroke 14 = .ok (.invokevirtual 92, 3) := by decide +kernel
theorem dX6_whyNoStroke_17 : decode cX6_whyNoStroke 17 = .ok (.iload_n 3, 1) := by decide +kernel
theorem dX6_whyNoStroke_18 : decode cX6_whyNoStroke 18 = .ok (.if_icmp .le 5, 3) := by decide +kernel
theorem dX6_whyNoStroke_21 : decode cX6_whyNoStroke 21 = .ok (.iconst 2, 1) := by decide +kernel
theorem dX6_whyNoStroke_22 : decode cX6_whyNoStroke 22 = .ok (.ireturn, 1) := by decide +kernel
theorem dX6_whyNoStroke_23 : decode cX6_whyNoStroke 23 = .ok (.iload_n 3, 1) := by decide +kernel
theorem dX6_whyNoStroke_24 : decode cX6_whyNoStroke 24 = .ok (.aload_n 1, 1) := by decide +kernel
theorem dX6_whyNoStroke_25 : decode cX6_whyNoStroke 25 = .ok (.getfield 96, 3) := by decide +kernel
theorem dX6_whyNoStroke_28 : decode cX6_whyNoStroke 28 = .ok (.if_icmp .le 5, 3) := by decide +kernel
theorem dX6_whyNoStroke_31 : decode cX6_whyNoStroke 31 = .ok (.iconst 3, 1) := by decide +kernel
theorem dX6_whyNoStroke_32 : decode cX6_whyNoStroke 32 = .ok (.ireturn, 1) := by decide +kernel
theorem dX6_whyNoStroke_33 : decode cX6_whyNoStroke 33 = .ok (.aload_n 0, 1) := by decide +kernel
theorem dX6_whyNoStroke_34 : decode cX6_whyNoStroke 34 = .ok (.getfield 18, 3) := by decide +kernel
theorem dX6_whyNoStroke_37 : decode cX6_whyNoStroke 37 = .ok (.iload_n 2, 1) := by decide +kernel
theorem dX6_whyNoStroke_38 : decode cX6_whyNoStroke 38 = .ok (.iaload, 1) := by decide +kernel
theorem dX6_whyNoStroke_39 : decode cX6_whyNoStroke 39 = .ok (.iload_n 3, 1) := by decide +kernel
theorem dX6_whyNoStroke_40 : decode cX6_whyNoStroke 40 = .ok (.iadd, 1) := by decide +kernel
theorem dX6_whyNoStroke_41 : decode cX6_whyNoStroke 41 = .ok (.aload_n 1, 1) := by decide +kernel
theorem dX6_whyNoStroke_42 : decode cX6_whyNoStroke 42 = .ok (.getfield 99, 3) := by decide +kernel
theorem dX6_whyNoStroke_45 : decode cX6_whyNoStroke 45 = .ok (.iload_n 2, 1) := by decide +kernel
theorem dX6_whyNoStroke_46 : decode cX6_whyNoStroke 46 = .ok (.iaload, 1) := by decide +kernel
theorem dX6_whyNoStroke_47 : decode cX6_whyNoStroke 47 = .ok (.if_icmp .le 7, 3) := by decide +kernel
theorem dX6_whyNoStroke_50 : decode cX6_whyNoStroke 50 = .ok (.iconst 4, 1) := by decide +kernel
theorem dX6_whyNoStroke_51 : decode cX6_whyNoStroke 51 = .ok (.goto 4, 3) := by decide +kernel
theorem dX6_whyNoStroke_54 : decode cX6_whyNoStroke 54 = .ok (.iconst 0, 1) := by decide +kernel
theorem dX6_whyNoStroke_55 : decode cX6_whyNoStroke 55 = .ok (.ireturn, 1) := by decide +kernel
theorem dX6_comb_0 : decode cX6_comb 0 = .ok (.iload_n 3, 1) := by decide +kernel
theorem dX6_comb_1 : decode cX6_comb 1 = .ok (.istore 4, 2) := by decide +kernel
theorem dX6_comb_3 : decode cX6_comb 3 = .ok (.iconst 0, 1) := by decide +kernel
theorem dX6_comb_4 : decode cX6_comb 4 = .ok (.istore 5, 2) := by decide +kernel
theorem dX6_comb_6 : decode cX6_comb 6 = .ok (.iload 5, 2) := by decide +kernel
theorem dX6_comb_8 : decode cX6_comb 8 = .ok (.bipush 8, 2) := by decide +kernel
theorem dX6_comb_10 : decode cX6_comb 10 = .ok (.if_icmp .ge 45, 3) := by decide +kernel
theorem dX6_comb_13 : decode cX6_comb 13 = .ok (.aload_n 0, 1) := by decide +kernel
theorem dX6_comb_14 : decode cX6_comb 14 = .ok (.getfield 15, 3) := by decide +kernel
theorem dX6_comb_17 : decode cX6_comb 17 = .ok (.iload_n 2, 1) := by decide +kernel
theorem dX6_comb_18 : decode cX6_comb 18 = .ok (.iaload, 1) := by decide +kernel
theorem dX6_comb_19 : decode cX6_comb 19 = .ok (.ifCond .le 36, 3) := by decide +kernel
theorem dX6_comb_22 : decode cX6_comb 22 = .ok (.aload_n 0, 1) := by decide +kernel
theorem dX6_comb_23 : decode cX6_comb 23 = .ok (.aload_n 1, 1) := by decide +kernel
theorem dX6_comb_24 : decode cX6_comb 24 = .ok (.iload_n 2, 1) := by decide +kernel
theorem dX6_comb_25 : decode cX6_comb 25 = .ok (.invokevirtual 92, 3) := by decide +kernel
theorem dX6_comb_28 : decode cX6_comb 28 = .ok (.iload 4, 2) := by decide +kernel
theorem dX6_comb_30 : decode cX6_comb 30 = .ok (.if_icmp .gt 25, 3) := by decide +kernel
theorem dX6_comb_33 : decode cX6_comb 33 = .ok (.iload 4, 2) := by decide +kernel
theorem dX6_comb_35 : decode cX6_comb 35 = .ok (.aload_n 0, 1) := by decide +kernel
theorem dX6_comb_36 : decode cX6_comb 36 = .ok (.aload_n 1, 1) := by decide +kernel
theorem dX6_comb_37 : decode cX6_comb 37 = .ok (.iload_n 2, 1) := by decide +kernel
theorem dX6_comb_38 : decode cX6_comb 38 = .ok (.invokevirtual 92, 3) := by decide +kernel
theorem dX6_comb_41 : decode cX6_comb 41 = .ok (.isub, 1) := by decide +kernel
theorem dX6_comb_42 : decode cX6_comb 42 = .ok (.istore 4, 2) := by decide +kernel
theorem dX6_comb_44 : decode cX6_comb 44 = .ok (.aload_n 0, 1) := by decide +kernel
theorem dX6_comb_45 : decode cX6_comb 45 = .ok (.iload_n 2, 1) := by decide +kernel
theorem dX6_comb_46 : decode cX6_comb 46 = .ok (.invokevirtual 102, 3) := by decide +kernel
theorem dX6_comb_49 : decode cX6_comb 49 = .ok (.iinc 5 1, 3) := by decide +kernel
theorem dX6_comb_52 : decode cX6_comb 52 = .ok (.goto (-46), 3) := by decide +kernel
theorem dX6_comb_55 : decode cX6_comb 55 = .ok (.aload_n 0, 1) := by decide +kernel
theorem dX6_comb_56 : decode cX6_comb 56 = .ok (.getfield 18, 3) := by decide +kernel
theorem dX6_comb_59 : decode cX6_comb 59 = .ok (.iload_n 2, 1) := by decide +kernel
theorem dX6_comb_60 : decode cX6_comb 60 = .ok (.dup2, 1) := by decide +kernel
theorem dX6_comb_61 : decode cX6_comb 61 = .ok (.iaload, 1) := by decide +kernel
theorem dX6_comb_62 : decode cX6_comb 62 = .ok (.iload_n 3, 1) := by decide +kernel
theorem dX6_comb_63 : decode cX6_comb 63 = .ok (.iadd, 1) := by decide +kernel
theorem dX6_comb_64 : decode cX6_comb 64 = .ok (.iastore, 1) := by decide +kernel
theorem dX6_comb_65 : decode cX6_comb 65 = .ok (.aload_n 0, 1) := by decide +kernel
theorem dX6_comb_66 : decode cX6_comb 66 = .ok (.dup, 1) := by decide +kernel
theorem dX6_comb_67 : decode cX6_comb 67 = .ok (.getfield 40, 3) := by decide +kernel
theorem dX6_comb_70 : decode cX6_comb 70 = .ok (.iconst 1, 1) := by decide +kernel
theorem dX6_comb_71 : decode cX6_comb 71 = .ok (.iadd, 1) := by decide +kernel
theorem dX6_comb_72 : decode cX6_comb 72 = .ok (.putfield 40, 3) := by decide +kernel
theorem dX6_comb_75 : decode cX6_comb 75 = .ok (.return_, 1) := by decide +kernel
theorem dX6_putOutsideKnotIntoBag_0 : decode cX6_putOutsideKnotIntoBag 0 = .ok (.aload_n 0, 1) := by decide +kernel
theorem dX6_putOutsideKnotIntoBag_1 : decode cX6_putOutsideKnotIntoBag 1 = .ok (.iload_n 1, 1) := by decide +kernel
theorem dX6_putOutsideKnotIntoBag_2 : decode cX6_putOutsideKnotIntoBag 2 = .ok (.aload_n 0, 1) := by decide +kernel
theorem dX6_putOutsideKnotIntoBag_3 : decode cX6_putOutsideKnotIntoBag 3 = .ok (.getfield 15, 3) := by decide +kernel
theorem dX6_putOutsideKnotIntoBag_6 : decode cX6_putOutsideKnotIntoBag 6 = .ok (.iload_n 1, 1) := by decide +kernel
theorem dX6_putOutsideKnotIntoBag_7 : decode cX6_putOutsideKnotIntoBag 7 = .ok (.iaload, 1) := by decide +kernel
theorem dX6_putOutsideKnotIntoBag_8 : decode cX6_putOutsideKnotIntoBag 8 = .ok (.invokevirtual 64, 3) := by decide +kernel
theorem dX6_putOutsideKnotIntoBag_11 : decode cX6_putOutsideKnotIntoBag 11 = .ok (.istore_n 2, 1) := by decide +kernel
theorem dX6_putOutsideKnotIntoBag_12 : decode cX6_putOutsideKnotIntoBag 12 = .ok (.aload_n 0, 1) := by decide +kernel
theorem dX6_putOutsideKnotIntoBag_13 : decode cX6_putOutsideKnotIntoBag 13 = .ok (.iload_n 1, 1) := by decide +kernel
theorem dX6_putOutsideKnotIntoBag_14 : decode cX6_putOutsideKnotIntoBag 14 = .ok (.iconst 0, 1) := by decide +kernel
theorem dX6_putOutsideKnotIntoBag_15 : decode cX6_putOutsideKnotIntoBag 15 = .ok (.invokevirtual 106, 3) := by decide +kernel
theorem dX6_putOutsideKnotIntoBag_18 : decode cX6_putOutsideKnotIntoBag 18 = .ok (.istore_n 3, 1) := by decide +kernel
theorem dX6_putOutsideKnotIntoBag_19 : decode cX6_putOutsideKnotIntoBag 19 = .ok (.iload_n 3, 1) := by decide +kernel
theorem dX6_putOutsideKnotIntoBag_20 : decode cX6_putOutsideKnotIntoBag 20 = .ok (.ifCond .lt 9, 3) := by decide +kernel
theorem dX6_putOutsideKnotIntoBag_23 : decode cX6_putOutsideKnotIntoBag 23 = .ok (.iload_n 3, 1) := by decide +kernel
theorem dX6_putOutsideKnotIntoBag_24 : decode cX6_putOutsideKnotIntoBag 24 = .ok (.bipush 8, 2) := by decide +kernel
theorem dX6_putOutsideKnotIntoBag_26 : decode cX6_putOutsideKnotIntoBag 26 = .ok (.if_icmp .lt 4, 3) := by decide +kernel
theorem dX6_putOutsideKnotIntoBag_29 : decode cX6_putOutsideKnotIntoBag 29 = .ok (.return_, 1) := by decide +kernel
theorem dX6_putOutsideKnotIntoBag_30 : decode cX6_putOutsideKnotIntoBag 30 = .ok (.iload_n 2, 1) := by decide +kernel
theorem dX6_putOutsideKnotIntoBag_31 : decode cX6_putOutsideKnotIntoBag 31 = .ok (.bipush 10, 2) := by decide +kernel
theorem dX6_putOutsideKnotIntoBag_33 : decode cX6_putOutsideKnotIntoBag 33 = .ok (.aload_n 0, 1) := by decide +kernel
theorem dX6_putOutsideKnotIntoBag_34 : decode cX6_putOutsideKnotIntoBag 34 = .ok (.getfield 33, 3) := by decide +kernel
theorem dX6_putOutsideKnotIntoBag_37 : decode cX6_putOutsideKnotIntoBag 37 = .ok (.isub, 1) := by decide +kernel
theorem dX6_putOutsideKnotIntoBag_38 : decode cX6_putOutsideKnotIntoBag 38 = .ok (.invokestatic 109, 3) := by decide +kernel
theorem dX6_putOutsideKnotIntoBag_41 : decode cX6_putOutsideKnotIntoBag 41 = .ok (.istore 4, 2) := by decide +kernel
theorem dX6_putOutsideKnotIntoBag_43 : decode cX6_putOutsideKnotIntoBag 43 = .ok (.aload_n 0, 1) := by decide +kernel
theorem dX6_putOutsideKnotIntoBag_44 : decode cX6_putOutsideKnotIntoBag 44 = .ok (.getfield 21, 3) := by decide +kernel
theorem dX6_putOutsideKnotIntoBag_47 : decode cX6_putOutsideKnotIntoBag 47 = .ok (.iload_n 3, 1) := by decide +kernel
theorem dX6_putOutsideKnotIntoBag_48 : decode cX6_putOutsideKnotIntoBag 48 = .ok (.dup2, 1) := by decide +kernel
theorem dX6_putOutsideKnotIntoBag_49 : decode cX6_putOutsideKnotIntoBag 49 = .ok (.iaload, 1) := by decide +kernel
theorem dX6_putOutsideKnotIntoBag_50 : decode cX6_putOutsideKnotIntoBag 50 = .ok (.iload 4, 2) := by decide +kernel
theorem dX6_putOutsideKnotIntoBag_52 : decode cX6_putOutsideKnotIntoBag 52 = .ok (.iadd, 1) := by decide +kernel
theorem dX6_putOutsideKnotIntoBag_53 : decode cX6_putOutsideKnotIntoBag 53 = .ok (.iastore, 1) := by decide +kernel
theorem dX6_putOutsideKnotIntoBag_54 : decode cX6_putOutsideKnotIntoBag 54 = .ok (.aload_n 0, 1) := by decide +kernel
theorem dX6_putOutsideKnotIntoBag_55 : decode cX6_putOutsideKnotIntoBag 55 = .ok (.dup, 1) := by decide +kernel
theorem dX6_putOutsideKnotIntoBag_56 : decode cX6_putOutsideKnotIntoBag 56 = .ok (.getfield 33, 3) := by decide +kernel
theorem dX6_putOutsideKnotIntoBag_59 : decode cX6_putOutsideKnotIntoBag 59 = .ok (.iload 4, 2) := by decide +kernel
theorem dX6_putOutsideKnotIntoBag_61 : decode cX6_putOutsideKnotIntoBag 61 = .ok (.iadd, 1) := by decide +kernel
theorem dX6_putOutsideKnotIntoBag_62 : decode cX6_putOutsideKnotIntoBag 62 = .ok (.putfield 33, 3) := by decide +kernel
theorem dX6_putOutsideKnotIntoBag_65 : decode cX6_putOutsideKnotIntoBag 65 = .ok (.aload_n 0, 1) := by decide +kernel
theorem dX6_putOutsideKnotIntoBag_66 : decode cX6_putOutsideKnotIntoBag 66 = .ok (.dup, 1) := by decide +kernel
theorem dX6_putOutsideKnotIntoBag_67 : decode cX6_putOutsideKnotIntoBag 67 = .ok (.getfield 46, 3) := by decide +kernel
theorem dX6_putOutsideKnotIntoBag_70 : decode cX6_putOutsideKnotIntoBag 70 = .ok (.iload_n 2, 1) := by decide +kernel
theorem dX6_putOutsideKnotIntoBag_71 : decode cX6_putOutsideKnotIntoBag 71 = .ok (.iload 4, 2) := by decide +kernel
theorem dX6_putOutsideKnotIntoBag_73 : decode cX6_putOutsideKnotIntoBag 73 = .ok (.isub, 1) := by decide +kernel
theorem dX6_putOutsideKnotIntoBag_74 : decode cX6_putOutsideKnotIntoBag 74 = .ok (.iadd, 1) := by decide +kernel
theorem dX6_putOutsideKnotIntoBag_75 : decode cX6_putOutsideKnotIntoBag 75 = .ok (.putfield 46, 3) := by decide +kernel
theorem dX6_putOutsideKnotIntoBag_78 : decode cX6_putOutsideKnotIntoBag 78 = .ok (.aload_n 0, 1) := by decide +kernel
theorem dX6_putOutsideKnotIntoBag_79 : decode cX6_putOutsideKnotIntoBag 79 = .ok (.getfield 15, 3) := by decide +kernel
theorem dX6_putOutsideKnotIntoBag_82 : decode cX6_putOutsideKnotIntoBag 82 = .ok (.iload_n 1, 1) := by decide +kernel
theorem dX6_putOutsideKnotIntoBag_83 : decode cX6_putOutsideKnotIntoBag 83 = .ok (.dup2, 1) := by decide +kernel
theorem dX6_putOutsideKnotIntoBag_84 : decode cX6_putOutsideKnotIntoBag 84 = .ok (.iaload, 1) := by decide +kernel
theorem dX6_putOutsideKnotIntoBag_85 : decode cX6_putOutsideKnotIntoBag 85 = .ok (.iload_n 2, 1) := by decide +kernel
theorem dX6_putOutsideKnotIntoBag_86 : decode cX6_putOutsideKnotIntoBag 86 = .ok (.isub, 1) := by decide +kernel
theorem dX6_putOutsideKnotIntoBag_87 : decode cX6_putOutsideKnotIntoBag 87 = .ok (.iastore, 1) := by decide +kernel
theorem dX6_putOutsideKnotIntoBag_88 : decode cX6_putOutsideKnotIntoBag 88 = .ok (.return_, 1) := by decide +kernel
theorem dX6_whyNoCut_0 : decode cX6_whyNoCut 0 = .ok (.aload_n 0, 1) := by decide +kernel
theorem dX6_whyNoCut_1 : decode cX6_whyNoCut 1 = .ok (.getfield 15, 3) := by decide +kernel
theorem dX6_whyNoCut_4 : decode cX6_whyNoCut 4 = .ok (.iload_n 1, 1) := by decide +kernel
theorem dX6_whyNoCut_5 : decode cX6_whyNoCut 5 = .ok (.iaload, 1) := by decide +kernel
theorem dX6_whyNoCut_6 : decode cX6_whyNoCut 6 = .ok (.ifCond .ne 7, 3) := by decide +kernel
theorem dX6_whyNoCut_9 : decode cX6_whyNoCut 9 = .ok (.iconst 1, 1) := by decide +kernel
theorem dX6_whyNoCut_10 : decode cX6_whyNoCut 10 = .ok (.goto 4, 3) := by decide +kernel
theorem dX6_whyNoCut_13 : decode cX6_whyNoCut 13 = .ok (.iconst 0, 1) := by decide +kernel
theorem dX6_whyNoCut_14 : decode cX6_whyNoCut 14 = .ok (.ireturn, 1) := by decide +kernel
theorem dX6_cutOff_0 : decode cX6_cutOff 0 = .ok (.aload_n 0, 1) := by decide +kernel
theorem dX6_cutOff_1 : decode cX6_cutOff 1 = .ok (.iload_n 1, 1) := by decide +kernel
theorem dX6_cutOff_2 : decode cX6_cutOff 2 = .ok (.aload_n 0, 1) := by decide +kernel
theorem dX6_cutOff_3 : decode cX6_cutOff 3 = .ok (.getfield 15, 3) := by decide +kernel
theorem dX6_cutOff_6 : decode cX6_cutOff 6 = .ok (.iload_n 1, 1) := by decide +kernel
theorem dX6_cutOff_7 : decode cX6_cutOff 7 = .ok (.iaload, 1) := by decide +kernel
theorem dX6_cutOff_8 : decode cX6_cutOff 8 = .ok (.invokevirtual 64, 3) := by decide +kernel
theorem dX6_cutOff_11 : decode cX6_cutOff 11 = .ok (.istore_n 2, 1) := by decide +kernel
theorem dX6_cutOff_12 : decode cX6_cutOff 12 = .ok (.aload_n 0, 1) := by decide +kernel
theorem dX6_cutOff_13 : decode cX6_cutOff 13 = .ok (.getfield 15, 3) := by decide +kernel
theorem dX6_cutOff_16 : decode cX6_cutOff 16 = .ok (.iload_n 1, 1) := by decide +kernel
theorem dX6_cutOff_17 : decode cX6_cutOff 17 = .ok (.dup2, 1) := by decide +kernel
theorem dX6_cutOff_18 : decode cX6_cutOff 18 = .ok (.iaload, 1) := by decide +kernel
theorem dX6_cutOff_19 : decode cX6_cutOff 19 = .ok (.iload_n 2, 1) := by decide +kernel
theorem dX6_cutOff_20 : decode cX6_cutOff 20 = .ok (.isub, 1) := by decide +kernel
theorem dX6_cutOff_21 : decode cX6_cutOff 21 = .ok (.iastore, 1) := by decide +kernel
theorem dX6_cutOff_22 : decode cX6_cutOff 22 = .ok (.aload_n 0, 1) := by decide +kernel
theorem dX6_cutOff_23 : decode cX6_cutOff 23 = .ok (.dup, 1) := by decide +kernel
theorem dX6_cutOff_24 : decode cX6_cutOff 24 = .ok (.getfield 46, 3) := by decide +kernel
theorem dX6_cutOff_27 : decode cX6_cutOff 27 = .ok (.iload_n 2, 1) := by decide +kernel
theorem dX6_cutOff_28 : decode cX6_cutOff 28 = .ok (.iadd, 1) := by decide +kernel
theorem dX6_cutOff_29 : decode cX6_cutOff 29 = .ok (.putfield 46, 3) := by decide +kernel
theorem dX6_cutOff_32 : decode cX6_cutOff 32 = .ok (.aload_n 0, 1) := by decide +kernel
theorem dX6_cutOff_33 : decode cX6_cutOff 33 = .ok (.dup, 1) := by decide +kernel
theorem dX6_cutOff_34 : decode cX6_cutOff 34 = .ok (.getfield 43, 3) := by decide +kernel
theorem dX6_cutOff_37 : decode cX6_cutOff 37 = .ok (.iconst 1, 1) := by decide +kernel
theorem dX6_cutOff_38 : decode cX6_cutOff 38 = .ok (.iadd, 1) := by decide +kernel
theorem dX6_cutOff_39 : decode cX6_cutOff 39 = .ok (.putfield 43, 3) := by decide +kernel
theorem dX6_cutOff_42 : decode cX6_cutOff 42 = .ok (.return_, 1) := by decide +kernel
theorem dX6_whyNoCatch_0 : decode cX6_whyNoCatch 0 = .ok (.aload_n 0, 1) := by decide +kernel
theorem dX6_whyNoCatch_1 : decode cX6_whyNoCatch 1 = .ok (.iload_n 1, 1) := by decide +kernel
theorem dX6_whyNoCatch_2 : decode cX6_whyNoCatch 2 = .ok (.invokevirtual 88, 3) := by decide +kernel
theorem dX6_whyNoCatch_5 : decode cX6_whyNoCatch 5 = .ok (.ifCond .eq 7, 3) := by decide +kernel
theorem dX6_whyNoCatch_8 : decode cX6_whyNoCatch 8 = .ok (.iconst 1, 1) := by decide +kernel
theorem dX6_whyNoCatch_9 : decode cX6_whyNoCatch 9 = .ok (.goto 4, 3) := by decide +kernel
theorem dX6_whyNoCatch_12 : decode cX6_whyNoCatch 12 = .ok (.iconst 0, 1) := by decide +kernel
theorem dX6_whyNoCatch_13 : decode cX6_whyNoCatch 13 = .ok (.ireturn, 1) := by decide +kernel
theorem dX6_catchThing_0 : decode cX6_catchThing 0 = .ok (.aload_n 0, 1) := by decide +kernel
theorem dX6_catchThing_1 : decode cX6_catchThing 1 = .ok (.getfield 15, 3) := by decide +kernel
theorem dX6_catchThing_4 : decode cX6_catchThing 4 = .ok (.iload_n 1, 1) := by decide +kernel
theorem dX6_catchThing_5 : decode cX6_catchThing 5 = .ok (.iaload, 1) := by decide +kernel
theorem dX6_catchThing_6 : decode cX6_catchThing 6 = .ok (.bipush 8, 2) := by decide +kernel
theorem dX6_catchThing_8 : decode cX6_catchThing 8 = .ok (.if_icmp .ge 30, 3) := by decide +kernel
theorem dX6_catchThing_11 : decode cX6_catchThing 11 = .ok (.aload_n 0, 1) := by decide +kernel
theorem dX6_catchThing_12 : decode cX6_catchThing 12 = .ok (.getfield 9, 3) := by decide +kernel
theorem dX6_catchThing_15 : decode cX6_catchThing 15 = .ok (.iload_n 1, 1) := by decide +kernel
theorem dX6_catchThing_16 : decode cX6_catchThing 16 = .ok (.bipush 8, 2) := by decide +kernel
theorem dX6_catchThing_18 : decode cX6_catchThing 18 = .ok (.imul, 1) := by decide +kernel
theorem dX6_catchThing_19 : decode cX6_catchThing 19 = .ok (.aload_n 0, 1) := by decide +kernel
theorem dX6_catchThing_20 : decode cX6_catchThing 20 = .ok (.getfield 15, 3) := by decide +kernel
theorem dX6_catchThing_23 : decode cX6_catchThing 23 = .ok (.iload_n 1, 1) := by decide +kernel
theorem dX6_catchThing_24 : decode cX6_catchThing 24 = .ok (.iaload, 1) := by decide +kernel
theorem dX6_catchThing_25 : decode cX6_catchThing 25 = .ok (.iadd, 1) := by decide +kernel
theorem dX6_catchThing_26 : decode cX6_catchThing 26 = .ok (.iload_n 2, 1) := by decide +kernel
theorem dX6_catchThing_27 : decode cX6_catchThing 27 = .ok (.iastore, 1) := by decide +kernel
theorem dX6_catchThing_28 : decode cX6_catchThing 28 = .ok (.aload_n 0, 1) := by decide +kernel
theorem dX6_catchThing_29 : decode cX6_catchThing 29 = .ok (.getfield 15, 3) := by decide +kernel
theorem dX6_catchThing_32 : decode cX6_catchThing 32 = .ok (.iload_n 1, 1) := by decide +kernel
theorem dX6_catchThing_33 : decode cX6_catchThing 33 = .ok (.dup2, 1) := by decide +kernel
theorem dX6_catchThing_34 : decode cX6_catchThing 34 = .ok (.iaload, 1) := by decide +kernel
theorem dX6_catchThing_35 : decode cX6_catchThing 35 = .ok (.iconst 1, 1) := by decide +kernel
theorem dX6_catchThing_36 : decode cX6_catchThing 36 = .ok (.iadd, 1) := by decide +kernel
theorem dX6_catchThing_37 : decode cX6_catchThing 37 = .ok (.iastore, 1) := by decide +kernel
theorem dX6_catchThing_38 : decode cX6_catchThing 38 = .ok (.return_, 1) := by decide +kernel
theorem dX6_whyNoStuffing_0 : decode cX6_whyNoStuffing 0 = .ok (.aload_n 0, 1) := by decide +kernel
theorem dX6_whyNoStuffing_1 : decode cX6_whyNoStuffing 1 = .ok (.getfield 21, 3) := by decide +kernel
theorem dX6_whyNoStuffing_4 : decode cX6_whyNoStuffing 4 = .ok (.iload_n 1, 1) := by decide +kernel
theorem dX6_whyNoStuffing_5 : decode cX6_whyNoStuffing 5 = .ok (.iaload, 1) := by decide +kernel
theorem dX6_whyNoStuffing_6 : decode cX6_whyNoStuffing 6 = .ok (.ifCond .ne 7, 3) := by decide +kernel
theorem dX6_whyNoStuffing_9 : decode cX6_whyNoStuffing 9 = .ok (.iconst 1, 1) := by decide +kernel
theorem dX6_whyNoStuffing_10 : decode cX6_whyNoStuffing 10 = .ok (.goto 4, 3) := by decide +kernel
theorem dX6_whyNoStuffing_13 : decode cX6_whyNoStuffing 13 = .ok (.iconst 0, 1) := by decide +kernel
theorem dX6_whyNoStuffing_14 : decode cX6_whyNoStuffing 14 = .ok (.ireturn, 1) := by decide +kernel
theorem dX6_fillBed_0 : decode cX6_fillBed 0 = .ok (.aload_n 0, 1) := by decide +kernel
theorem dX6_fillBed_1 : decode cX6_fillBed 1 = .ok (.getfield 21, 3) := by decide +kernel
theorem dX6_fillBed_4 : decode cX6_fillBed 4 = .ok (.iload_n 3, 1) := by decide +kernel
theorem dX6_fillBed_5 : decode cX6_fillBed 5 = .ok (.dup2, 1) := by decide +kernel
theorem dX6_fillBed_6 : decode cX6_fillBed 6 = .ok (.iaload, 1) := by decide +kernel
theorem dX6_fillBed_7 : decode cX6_fillBed 7 = .ok (.iconst 1, 1) := by decide +kernel
theorem dX6_fillBed_8 : decode cX6_fillBed 8 = .ok (.isub, 1) := by decide +kernel
theorem dX6_fillBed_9 : decode cX6_fillBed 9 = .ok (.iastore, 1) := by decide +kernel
theorem dX6_fillBed_10 : decode cX6_fillBed 10 = .ok (.aload_n 0, 1) := by decide +kernel
theorem dX6_fillBed_11 : decode cX6_fillBed 11 = .ok (.dup, 1) := by decide +kernel
theorem dX6_fillBed_12 : decode cX6_fillBed 12 = .ok (.getfield 33, 3) := by decide +kernel
theorem dX6_fillBed_15 : decode cX6_fillBed 15 = .ok (.iconst 1, 1) := by decide +kernel
theorem dX6_fillBed_16 : decode cX6_fillBed 16 = .ok (.isub, 1) := by decide +kernel
theorem dX6_fillBed_17 : decode cX6_fillBed 17 = .ok (.putfield 33, 3) := by decide +kernel
theorem dX6_fillBed_20 : decode cX6_fillBed 20 = .ok (.aload_n 0, 1) := by decide +kernel
theorem dX6_fillBed_21 : decode cX6_fillBed 21 = .ok (.getfield 24, 3) := by decide +kernel
theorem dX6_fillBed_24 : decode cX6_fillBed 24 = .ok (.iload_n 3, 1) := by decide +kernel
theorem dX6_fillBed_25 : decode cX6_fillBed 25 = .ok (.dup2, 1) := by decide +kernel
theorem dX6_fillBed_26 : decode cX6_fillBed 26 = .ok (.iaload, 1) := by decide +kernel
theorem dX6_fillBed_27 : decode cX6_fillBed 27 = .ok (.iconst 1, 1) := by decide +kernel
theorem dX6_fillBed_28 : decode cX6_fillBed 28 = .ok (.iadd, 1) := by decide +kernel
theorem dX6_fillBed_29 : decode cX6_fillBed 29 = .ok (.iastore, 1) := by decide +kernel
theorem dX6_fillBed_30 : decode cX6_fillBed 30 = .ok (.aload_n 0, 1) := by decide +kernel
theorem dX6_fillBed_31 : decode cX6_fillBed 31 = .ok (.getfield 27, 3) := by decide +kernel
theorem dX6_fillBed_34 : decode cX6_fillBed 34 = .ok (.iload_n 2, 1) := by decide +kernel
theorem dX6_fillBed_35 : decode cX6_fillBed 35 = .ok (.dup2, 1) := by decide +kernel
theorem dX6_fillBed_36 : decode cX6_fillBed 36 = .ok (.iaload, 1) := by decide +kernel
theorem dX6_fillBed_37 : decode cX6_fillBed 37 = .ok (.aload_n 1, 1) := by decide +kernel
theorem dX6_fillBed_38 : decode cX6_fillBed 38 = .ok (.getfield 114, 3) := by decide +kernel
theorem dX6_fillBed_41 : decode cX6_fillBed 41 = .ok (.iload_n 3, 1) := by decide +kernel
theorem dX6_fillBed_42 : decode cX6_fillBed 42 = .ok (.iaload, 1) := by decide +kernel
theorem dX6_fillBed_43 : decode cX6_fillBed 43 = .ok (.iadd, 1) := by decide +kernel
theorem dX6_fillBed_44 : decode cX6_fillBed 44 = .ok (.iastore, 1) := by decide +kernel
theorem dX6_fillBed_45 : decode cX6_fillBed 45 = .ok (.aload_n 0, 1) := by decide +kernel
theorem dX6_fillBed_46 : decode cX6_fillBed 46 = .ok (.getfield 30, 3) := by decide +kernel
theorem dX6_fillBed_49 : decode cX6_fillBed 49 = .ok (.iload_n 2, 1) := by decide +kernel
theorem dX6_fillBed_50 : decode cX6_fillBed 50 = .ok (.dup2, 1) := by decide +kernel
theorem dX6_fillBed_51 : decode cX6_fillBed 51 = .ok (.iaload, 1) := by decide +kernel
theorem dX6_fillBed_52 : decode cX6_fillBed 52 = .ok (.iconst 1, 1) := by decide +kernel
theorem dX6_fillBed_53 : decode cX6_fillBed 53 = .ok (.iadd, 1) := by decide +kernel
theorem dX6_fillBed_54 : decode cX6_fillBed 54 = .ok (.iastore, 1) := by decide +kernel
theorem dX6_fillBed_55 : decode cX6_fillBed 55 = .ok (.return_, 1) := by decide +kernel
theorem dX6_daysLeft_0 : decode cX6_daysLeft 0 = .ok (.sipush 400, 3) := by decide +kernel
theorem dX6_daysLeft_3 : decode cX6_daysLeft 3 = .ok (.aload_n 0, 1) := by decide +kernel
theorem dX6_daysLeft_4 : decode cX6_daysLeft 4 = .ok (.getfield 37, 3) := by decide +kernel
theorem dX6_daysLeft_7 : decode cX6_daysLeft 7 = .ok (.isub, 1) := by decide +kernel
theorem dX6_daysLeft_8 : decode cX6_daysLeft 8 = .ok (.ireturn, 1) := by decide +kernel
theorem dX6_letDaysGo_0 : decode cX6_letDaysGo 0 = .ok (.iconst 0, 1) := by decide +kernel
theorem dX6_letDaysGo_1 : decode cX6_letDaysGo 1 = .ok (.istore_n 3, 1) := by decide +kernel
theorem dX6_letDaysGo_2 : decode cX6_letDaysGo 2 = .ok (.iload_n 3, 1) := by decide +kernel
theorem dX6_letDaysGo_3 : decode cX6_letDaysGo 3 = .ok (.iload_n 2, 1) := by decide +kernel
theorem dX6_letDaysGo_4 : decode cX6_letDaysGo 4 = .ok (.if_icmp .ge 14, 3) := by decide +kernel
theorem dX6_letDaysGo_7 : decode cX6_letDaysGo 7 = .ok (.aload_n 0, 1) := by decide +kernel
theorem dX6_letDaysGo_8 : decode cX6_letDaysGo 8 = .ok (.aload_n 1, 1) := by decide +kernel
theorem dX6_letDaysGo_9 : decode cX6_letDaysGo 9 = .ok (.invokevirtual 115, 3) := by decide +kernel
theorem dX6_letDaysGo_12 : decode cX6_letDaysGo 12 = .ok (.iinc 3 1, 3) := by decide +kernel
theorem dX6_letDaysGo_15 : decode cX6_letDaysGo 15 = .ok (.goto (-13), 3) := by decide +kernel
theorem dX6_letDaysGo_18 : decode cX6_letDaysGo 18 = .ok (.return_, 1) := by decide +kernel
theorem dX6_letOneDayGo_0 : decode cX6_letOneDayGo 0 = .ok (.iconst 0, 1) := by decide +kernel
theorem dX6_letOneDayGo_1 : decode cX6_letOneDayGo 1 = .ok (.istore_n 2, 1) := by decide +kernel
theorem dX6_letOneDayGo_2 : decode cX6_letOneDayGo 2 = .ok (.iload_n 2, 1) := by decide +kernel
theorem dX6_letOneDayGo_3 : decode cX6_letOneDayGo 3 = .ok (.aload_n 1, 1) := by decide +kernel
theorem dX6_letOneDayGo_4 : decode cX6_letOneDayGo 4 = .ok (.getfield 71, 3) := by decide +kernel
theorem dX6_letOneDayGo_7 : decode cX6_letOneDayGo 7 = .ok (.if_icmp .ge 16, 3) := by decide +kernel
theorem dX6_letOneDayGo_10 : decode cX6_letOneDayGo 10 = .ok (.aload_n 0, 1) := by decide +kernel
theorem dX6_letOneDayGo_11 : decode cX6_letOneDayGo 11 = .ok (.getfield 18, 3) := by decide +kernel
theorem dX6_letOneDayGo_14 : decode cX6_letOneDayGo 14 = .ok (.iload_n 2, 1) := by decide +kernel
theorem dX6_letOneDayGo_15 : decode cX6_letOneDayGo 15 = .ok (.iconst 0, 1) := by decide +kernel
theorem dX6_letOneDayGo_16 : decode cX6_letOneDayGo 16 = .ok (.iastore, 1) := by decide +kernel
theorem dX6_letOneDayGo_17 : decode cX6_letOneDayGo 17 = .ok (.iinc 2 1, 3) := by decide +kernel
theorem dX6_letOneDayGo_20 : decode cX6_letOneDayGo 20 = .ok (.goto (-18), 3) := by decide +kernel
theorem dX6_letOneDayGo_23 : decode cX6_letOneDayGo 23 = .ok (.iconst 0, 1) := by decide +kernel
theorem dX6_letOneDayGo_24 : decode cX6_letOneDayGo 24 = .ok (.istore_n 2, 1) := by decide +kernel
theorem dX6_letOneDayGo_25 : decode cX6_letOneDayGo 25 = .ok (.iload_n 2, 1) := by decide +kernel
theorem dX6_letOneDayGo_26 : decode cX6_letOneDayGo 26 = .ok (.aload_n 1, 1) := by decide +kernel
theorem dX6_letOneDayGo_27 : decode cX6_letOneDayGo 27 = .ok (.getfield 119, 3) := by decide +kernel
theorem dX6_letOneDayGo_30 : decode cX6_letOneDayGo 30 = .ok (.if_icmp .ge 39, 3) := by decide +kernel
theorem dX6_letOneDayGo_33 : decode cX6_letOneDayGo 33 = .ok (.aload_n 1, 1) := by decide +kernel
theorem dX6_letOneDayGo_34 : decode cX6_letOneDayGo 34 = .ok (.iload_n 2, 1) := by decide +kernel
theorem dX6_letOneDayGo_35 : decode cX6_letOneDayGo 35 = .ok (.aload_n 0, 1) := by decide +kernel
theorem dX6_letOneDayGo_36 : decode cX6_letOneDayGo 36 = .ok (.getfield 37, 3) := by decide +kernel
theorem dX6_letOneDayGo_39 : decode cX6_letOneDayGo 39 = .ok (.iconst 1, 1) := by decide +kernel
theorem dX6_letOneDayGo_40 : decode cX6_letOneDayGo 40 = .ok (.iadd, 1) := by decide +kernel
theorem dX6_letOneDayGo_41 : decode cX6_letOneDayGo 41 = .ok (.invokevirtual 122, 3) := by decide +kernel
theorem dX6_letOneDayGo_44 : decode cX6_letOneDayGo 44 = .ok (.ifCond .eq 19, 3) := by decide +kernel
theorem dX6_letOneDayGo_47 : decode cX6_letOneDayGo 47 = .ok (.aload_n 0, 1) := by decide +kernel
theorem dX6_letOneDayGo_48 : decode cX6_letOneDayGo 48 = .ok (.aload_n 1, 1) := by decide +kernel
theorem dX6_letOneDayGo_49 : decode cX6_letOneDayGo 49 = .ok (.getfield 125, 3) := by decide +kernel
theorem dX6_letOneDayGo_52 : decode cX6_letOneDayGo 52 = .ok (.iload_n 2, 1) := by decide +kernel
theorem dX6_letOneDayGo_53 : decode cX6_letOneDayGo 53 = .ok (.iaload, 1) := by decide +kernel
theorem dX6_letOneDayGo_54 : decode cX6_letOneDayGo 54 = .ok (.aload_n 1, 1) := by decide +kernel
theorem dX6_letOneDayGo_55 : decode cX6_letOneDayGo 55 = .ok (.getfield 128, 3) := by decide +kernel
theorem dX6_letOneDayGo_58 : decode cX6_letOneDayGo 58 = .ok (.iload_n 2, 1) := by decide +kernel
theorem dX6_letOneDayGo_59 : decode cX6_letOneDayGo 59 = .ok (.iaload, 1) := by decide +kernel
theorem dX6_letOneDayGo_60 : decode cX6_letOneDayGo 60 = .ok (.invokevirtual 131, 3) := by decide +kernel
theorem dX6_letOneDayGo_63 : decode cX6_letOneDayGo 63 = .ok (.iinc 2 1, 3) := by decide +kernel
theorem dX6_letOneDayGo_66 : decode cX6_letOneDayGo 66 = .ok (.goto (-41), 3) := by decide +kernel
theorem dX6_letOneDayGo_69 : decode cX6_letOneDayGo 69 = .ok (.aload_n 0, 1) := by decide +kernel
theorem dX6_letOneDayGo_70 : decode cX6_letOneDayGo 70 = .ok (.dup, 1) := by decide +kernel
theorem dX6_letOneDayGo_71 : decode cX6_letOneDayGo 71 = .ok (.getfield 37, 3) := by decide +kernel
theorem dX6_letOneDayGo_74 : decode cX6_letOneDayGo 74 = .ok (.iconst 1, 1) := by decide +kernel
theorem dX6_letOneDayGo_75 : decode cX6_letOneDayGo 75 = .ok (.iadd, 1) := by decide +kernel
theorem dX6_letOneDayGo_76 : decode cX6_letOneDayGo 76 = .ok (.putfield 37, 3) := by decide +kernel
theorem dX6_letOneDayGo_79 : decode cX6_letOneDayGo 79 = .ok (.return_, 1) := by decide +kernel
theorem dX6_letDrawnDaysGo_0 : decode cX6_letDrawnDaysGo 0 = .ok (.aload_n 0, 1) := by decide +kernel
theorem dX6_letDrawnDaysGo_1 : decode cX6_letDrawnDaysGo 1 = .ok (.iload_n 3, 1) := by decide +kernel
theorem dX6_letDrawnDaysGo_2 : decode cX6_letDrawnDaysGo 2 = .ok (.putfield 135, 3) := by decide +kernel
theorem dX6_letDrawnDaysGo_5 : decode cX6_letDrawnDaysGo 5 = .ok (.iconst 0, 1) := by decide +kernel
theorem dX6_letDrawnDaysGo_6 : decode cX6_letDrawnDaysGo 6 = .ok (.istore 4, 2) := by decide +kernel
theorem dX6_letDrawnDaysGo_8 : decode cX6_letDrawnDaysGo 8 = .ok (.iload 4, 2) := by decide +kernel
theorem dX6_letDrawnDaysGo_10 : decode cX6_letDrawnDaysGo 10 = .ok (.iload_n 2, 1) := by decide +kernel
theorem dX6_letDrawnDaysGo_11 : decode cX6_letDrawnDaysGo 11 = .ok (.if_icmp .ge 39, 3) := by decide +kernel
theorem dX6_letDrawnDaysGo_14 : decode cX6_letDrawnDaysGo 14 = .ok (.iconst 0, 1) := by decide +kernel
theorem dX6_letDrawnDaysGo_15 : decode cX6_letDrawnDaysGo 15 = .ok (.istore 5, 2) := by decide +kernel
theorem dX6_letDrawnDaysGo_17 : decode cX6_letDrawnDaysGo 17 = .ok (.iload 5, 2) := by decide +kernel
theorem dX6_letDrawnDaysGo_19 : decode cX6_letDrawnDaysGo 19 = .ok (.aload_n 1, 1) := by decide +kernel
theorem dX6_letDrawnDaysGo_20 : decode cX6_letDrawnDaysGo 20 = .ok (.getfield 71, 3) := by decide +kernel
theorem dX6_letDrawnDaysGo_23 : decode cX6_letDrawnDaysGo 23 = .ok (.if_icmp .ge 16, 3) := by decide +kernel
theorem dX6_letDrawnDaysGo_26 : decode cX6_letDrawnDaysGo 26 = .ok (.aload_n 0, 1) := by decide +kernel
theorem dX6_letDrawnDaysGo_27 : decode cX6_letDrawnDaysGo 27 = .ok (.aload_n 1, 1) := by decide +kernel
theorem dX6_letDrawnDaysGo_28 : decode cX6_letDrawnDaysGo 28 = .ok (.iload 5, 2) := by decide +kernel
theorem dX6_letDrawnDaysGo_30 : decode cX6_letDrawnDaysGo 30 = .ok (.invokevirtual 138, 3) := by decide +kernel
theorem dX6_letDrawnDaysGo_33 : decode cX6_letDrawnDaysGo 33 = .ok (.iinc 5 1, 3) := by decide +kernel
theorem dX6_letDrawnDaysGo_36 : decode cX6_letDrawnDaysGo 36 = .ok (.goto (-19), 3) := by decide +kernel
theorem dX6_letDrawnDaysGo_39 : decode cX6_letDrawnDaysGo 39 = .ok (.aload_n 0, 1) := by decide +kernel
theorem dX6_letDrawnDaysGo_40 : decode cX6_letDrawnDaysGo 40 = .ok (.aload_n 1, 1) := by decide +kernel
theorem dX6_letDrawnDaysGo_41 : decode cX6_letDrawnDaysGo 41 = .ok (.invokevirtual 115, 3) := by decide +kernel
theorem dX6_letDrawnDaysGo_44 : decode cX6_letDrawnDaysGo 44 = .ok (.iinc 4 1, 3) := by decide +kernel
theorem dX6_letDrawnDaysGo_47 : decode cX6_letDrawnDaysGo 47 = .ok (.goto (-39), 3) := by decide +kernel
theorem dX6_letDrawnDaysGo_50 : decode cX6_letDrawnDaysGo 50 = .ok (.return_, 1) := by decide +kernel
theorem dX6_actAsDrawn_0 : decode cX6_actAsDrawn 0 = .ok (.aload_n 0, 1) := by decide +kernel
theorem dX6_actAsDrawn_1 : decode cX6_actAsDrawn 1 = .ok (.bipush 6, 2) := by decide +kernel
theorem dX6_actAsDrawn_3 : decode cX6_actAsDrawn 3 = .ok (.invokevirtual 142, 3) := by decide +kernel
theorem dX6_actAsDrawn_6 : decode cX6_actAsDrawn 6 = .ok (.istore_n 3, 1) := by decide +kernel
theorem dX6_actAsDrawn_7 : decode cX6_actAsDrawn 7 = .ok (.iload_n 3, 1) := by decide +kernel
theorem dX6_actAsDrawn_8 : decode cX6_actAsDrawn 8 = .ok (.iconst 1, 1) := by decide +kernel
theorem dX6_actAsDrawn_9 : decode cX6_actAsDrawn 9 = .ok (.if_icmp .gt 26, 3) := by decide +kernel
theorem dX6_actAsDrawn_12 : decode cX6_actAsDrawn 12 = .ok (.aload_n 1, 1) := by decide +kernel
theorem dX6_actAsDrawn_13 : decode cX6_actAsDrawn 13 = .ok (.getfield 146, 3) := by decide +kernel
theorem dX6_actAsDrawn_16 : decode cX6_actAsDrawn 16 = .ok (.ifCond .le 74, 3) := by decide +kernel
theorem dX6_actAsDrawn_19 : decode cX6_actAsDrawn 19 = .ok (.aload_n 0, 1) := by decide +kernel
theorem dX6_actAsDrawn_20 : decode cX6_actAsDrawn 20 = .ok (.iload_n 2, 1) := by decide +kernel
theorem dX6_actAsDrawn_21 : decode cX6_actAsDrawn 21 = .ok (.aload_n 0, 1) := by decide +kernel
theorem dX6_actAsDrawn_22 : decode cX6_actAsDrawn 22 = .ok (.aload_n 1, 1) := by decide +kernel
theorem dX6_actAsDrawn_23 : decode cX6_actAsDrawn 23 = .ok (.getfield 146, 3) := by decide +kernel
theorem dX6_actAsDrawn_26 : decode cX6_actAsDrawn 26 = .ok (.invokevirtual 142, 3) := by decide +kernel
theorem dX6_actAsDrawn_29 : decode cX6_actAsDrawn 29 = .ok (.invokevirtual 131, 3) := by decide +kernel
theorem dX6_actAsDrawn_32 : decode cX6_actAsDrawn 32 = .ok (.goto 58, 3) := by decide +kernel
theorem dX6_actAsDrawn_35 : decode cX6_actAsDrawn 35 = .ok (.iload_n 3, 1) := by decide +kernel
theorem dX6_actAsDrawn_36 : decode cX6_actAsDrawn 36 = .ok (.iconst 2, 1) := by decide +kernel
theorem dX6_actAsDrawn_37 : decode cX6_actAsDrawn 37 = .ok (.if_icmp .ne 35, 3) := by decide +kernel
theorem dX6_actAsDrawn_40 : decode cX6_actAsDrawn 40 = .ok (.aload_n 0, 1) := by decide +kernel
theorem dX6_actAsDrawn_41 : decode cX6_actAsDrawn 41 = .ok (.bipush 20, 2) := by decide +kernel
theorem dX6_actAsDrawn_43 : decode cX6_actAsDrawn 43 = .ok (.invokevirtual 142, 3) := by decide +kernel
theorem dX6_actAsDrawn_46 : decode cX6_actAsDrawn 46 = .ok (.iconst 1, 1) := by decide +kernel
theorem dX6_actAsDrawn_47 : decode cX6_actAsDrawn 47 = .ok (.iadd, 1) := by decide +kernel
theorem dX6_actAsDrawn_48 : decode cX6_actAsDrawn 48 = .ok (.istore 4, 2) := by decide +kernel
theorem dX6_actAsDrawn_50 : decode cX6_actAsDrawn 50 = .ok (.aload_n 0, 1) := by decide +kernel
theorem dX6_actAsDrawn_51 : decode cX6_actAsDrawn 51 = .ok (.aload_n 1, 1) := by decide +kernel
theorem dX6_actAsDrawn_52 : decode cX6_actAsDrawn 52 = .ok (.iload_n 2, 1) := by decide +kernel
theorem dX6_actAsDrawn_53 : decode cX6_actAsDrawn 53 = .ok (.iload 4, 2) := by decide +kernel
theorem dX6_actAsDrawn_55 : decode cX6_actAsDrawn 55 = .ok (.invokevirtual 149, 3) := by decide +kernel
theorem dX6_actAsDrawn_58 : decode cX6_actAsDrawn 58 = .ok (.ifCond .ne 11, 3) := by decide +kernel
theorem dX6_actAsDrawn_61 : decode cX6_actAsDrawn 61 = .ok (.aload_n 0, 1) := by decide +kernel
theorem dX6_actAsDrawn_62 : decode cX6_actAsDrawn 62 = .ok (.aload_n 1, 1) := by decide +kernel
theorem dX6_actAsDrawn_63 : decode cX6_actAsDrawn 63 = .ok (.iload_n 2, 1) := by decide +kernel
theorem dX6_actAsDrawn_64 : decode cX6_actAsDrawn 64 = .ok (.iload 4, 2) := by decide +kernel
theorem dX6_actAsDrawn_66 : decode cX6_actAsDrawn 66 = .ok (.invokevirtual 152, 3) := by decide +kernel
theorem dX6_actAsDrawn_69 : decode cX6_actAsDrawn 69 = .ok (.goto 21, 3) := by decide +kernel
theorem dX6_actAsDrawn_72 : decode cX6_actAsDrawn 72 = .ok (.iload_n 3, 1) := by decide +kernel
theorem dX6_actAsDrawn_73 : decode cX6_actAsDrawn 73 = .ok (.iconst 3, 1) := by decide +kernel
theorem dX6_actAsDrawn_74 : decode cX6_actAsDrawn 74 = .ok (.if_icmp .ne 16, 3) := by decide +kernel
theorem dX6_actAsDrawn_77 : decode cX6_actAsDrawn 77 = .ok (.aload_n 0, 1) := by decide +kernel
theorem dX6_actAsDrawn_78 : decode cX6_actAsDrawn 78 = .ok (.iload_n 2, 1) := by decide +kernel
theorem dX6_actAsDrawn_79 : decode cX6_actAsDrawn 79 = .ok (.invokevirtual 155, 3) := by decide +kernel
theorem dX6_actAsDrawn_82 : decode cX6_actAsDrawn 82 = .ok (.ifCond .ne 8, 3) := by decide +kernel
theorem dX6_actAsDrawn_85 : decode cX6_actAsDrawn 85 = .ok (.aload_n 0, 1) := by decide +kernel
theorem dX6_actAsDrawn_86 : decode cX6_actAsDrawn 86 = .ok (.iload_n 2, 1) := by decide +kernel
theorem dX6_actAsDrawn_87 : decode cX6_actAsDrawn 87 = .ok (.invokevirtual 158, 3) := by decide +kernel
theorem dX6_actAsDrawn_90 : decode cX6_actAsDrawn 90 = .ok (.return_, 1) := by decide +kernel
theorem dX6_draw_0 : decode cX6_draw 0 = .ok (.aload_n 0, 1) := by decide +kernel
theorem dX6_draw_1 : decode cX6_draw 1 = .ok (.aload_n 0, 1) := by decide +kernel
theorem dX6_draw_2 : decode cX6_draw 2 = .ok (.getfield 135, 3) := by decide +kernel
theorem dX6_draw_5 : decode cX6_draw 5 = .ok (.ldc 161, 2) := by decide +kernel
theorem dX6_draw_7 : decode cX6_draw 7 = .ok (.imul, 1) := by decide +kernel
theorem dX6_draw_8 : decode cX6_draw 8 = .ok (.sipush 12345, 3) := by decide +kernel
theorem dX6_draw_11 : decode cX6_draw 11 = .ok (.iadd, 1) := by decide +kernel
theorem dX6_draw_12 : decode cX6_draw 12 = .ok (.putfield 135, 3) := by decide +kernel
theorem dX6_draw_15 : decode cX6_draw 15 = .ok (.iload_n 1, 1) := by decide +kernel
theorem dX6_draw_16 : decode cX6_draw 16 = .ok (.iconst 1, 1) := by decide +kernel
theorem dX6_draw_17 : decode cX6_draw 17 = .ok (.if_icmp .ge 7, 3) := by decide +kernel
theorem dX6_draw_20 : decode cX6_draw 20 = .ok (.iconst 0, 1) := by decide +kernel
theorem dX6_draw_21 : decode cX6_draw 21 = .ok (.goto 12, 3) := by decide +kernel
theorem dX6_draw_24 : decode cX6_draw 24 = .ok (.aload_n 0, 1) := by decide +kernel
theorem dX6_draw_25 : decode cX6_draw 25 = .ok (.getfield 135, 3) := by decide +kernel
theorem dX6_draw_28 : decode cX6_draw 28 = .ok (.bipush 8, 2) := by decide +kernel
theorem dX6_draw_30 : decode cX6_draw 30 = .ok (.iushr, 1) := by decide +kernel
theorem dX6_draw_31 : decode cX6_draw 31 = .ok (.iload_n 1, 1) := by decide +kernel
theorem dX6_draw_32 : decode cX6_draw 32 = .ok (.irem, 1) := by decide +kernel
theorem dX6_draw_33 : decode cX6_draw 33 = .ok (.ireturn, 1) := by decide +kernel
theorem dX7_init_0 : decode cX7_init 0 = .ok (.aload_n 0, 1) := by decide +kernel
theorem dX7_init_1 : decode cX7_init 1 = .ok (.invokespecial 5, 3) := by decide +kernel
theorem dX7_init_4 : decode cX7_init 4 = .ok (.aload_n 0, 1) := by decide +kernel
theorem dX7_init_5 : decode cX7_init 5 = .ok (.bipush 79, 2) := by decide +kernel
theorem dX7_init_7 : decode cX7_init 7 = .ok (.newarray .int, 2) := by decide +kernel
theorem dX7_init_9 : decode cX7_init 9 = .ok (.putfield 13, 3) := by decide +kernel
theorem dX7_init_12 : decode cX7_init 12 = .ok (.return_, 1) := by decide +kernel
theorem dX7_write_0 : decode cX7_write 0 = .ok (.aload_n 0, 1) := by decide +kernel
theorem dX7_write_1 : decode cX7_write 1 = .ok (.iconst 0, 1) := by decide +kernel
theorem dX7_write_2 : decode cX7_write 2 = .ok (.putfield 17, 3) := by decide +kernel
theorem dX7_write_5 : decode cX7_write 5 = .ok (.aload_n 0, 1) := by decide +kernel
theorem dX7_write_6 : decode cX7_write 6 = .ok (.aload_n 1, 1) := by decide +kernel
theorem dX7_write_7 : decode cX7_write 7 = .ok (.getfield 21, 3) := by decide +kernel
theorem dX7_write_10 : decode cX7_write 10 = .ok (.iload_n 3, 1) := by decide +kernel
theorem dX7_write_11 : decode cX7_write 11 = .ok (.laload, 1) := by decide +kernel
theorem dX7_write_12 : decode cX7_write 12 = .ok (.invokevirtual 27, 3) := by decide +kernel
theorem dX7_write_15 : decode cX7_write 15 = .ok (.aload_n 2, 1) := by decide +kernel
theorem dX7_write_16 : decode cX7_write 16 = .ok (.getfield 31, 3) := by decide +kernel
theorem dX7_write_19 : decode cX7_write 19 = .ok (.iload_n 3, 1) := by decide +kernel
theorem dX7_write_20 : decode cX7_write 20 = .ok (.iaload, 1) := by decide +kernel
theorem dX7_write_21 : decode cX7_write 21 = .ok (.ifCond .ne 19, 3) := by decide +kernel
theorem dX7_write_24 : decode cX7_write 24 = .ok (.aload_n 0, 1) := by decide +kernel
theorem dX7_write_25 : decode cX7_write 25 = .ok (.bipush 32, 2) := by decide +kernel
theorem dX7_write_27 : decode cX7_write 27 = .ok (.invokevirtual 36, 3) := by decide +kernel
theorem dX7_write_30 : decode cX7_write 30 = .ok (.aload_n 0, 1) := by decide +kernel
theorem dX7_write_31 : decode cX7_write 31 = .ok (.getstatic 40, 3) := by decide +kernel
theorem dX7_write_34 : decode cX7_write 34 = .ok (.getfield 46, 3) := by decide +kernel
theorem dX7_write_37 : decode cX7_write 37 = .ok (.invokevirtual 27, 3) := by decide +kernel
theorem dX7_write_40 : decode cX7_write 40 = .ok (.iconst 0, 1) := by decide +kernel
theorem dX7_write_41 : decode cX7_write 41 = .ok (.istore 4, 2) := by decide +kernel
theorem dX7_write_43 : decode cX7_write 43 = .ok (.iconst 0, 1) := by decide +kernel
theorem dX7_write_44 : decode cX7_write 44 = .ok (.istore 5, 2) := by decide +kernel
theorem dX7_write_46 : decode cX7_write 46 = .ok (.iload 5, 2) := by decide +kernel
theorem dX7_write_48 : decode cX7_write 48 = .ok (.aload_n 2, 1) := by decide +kernel
theorem dX7_write_49 : decode cX7_write 49 = .ok (.getfield 31, 3) := by decide +kernel
theorem dX7_write_52 : decode cX7_write 52 = .ok (.iload_n 3, 1) := by decide +kernel
theorem dX7_write_53 : decode cX7_write 53 = .ok (.iaload, 1) := by decide +kernel
theorem dX7_write_54 : decode cX7_write 54 = .ok (.if_icmp .ge 47, 3) := by decide +kernel
theorem dX7_write_57 : decode cX7_write 57 = .ok (.aload_n 2, 1) := by decide +kernel
theorem dX7_write_58 : decode cX7_write 58 = .ok (.iload_n 3, 1) := by decide +kernel
theorem dX7_write_59 : decode cX7_write 59 = .ok (.iload 5, 2) := by decide +kernel
theorem dX7_write_61 : decode cX7_write 61 = .ok (.invokevirtual 50, 3) := by decide +kernel
theorem dX7_write_64 : decode cX7_write 64 = .ok (.istore 6, 2) := by decide +kernel
theorem dX7_write_66 : decode cX7_write 66 = .ok (.iinc 4 1, 3) := by decide +kernel
theorem dX7_write_69 : decode cX7_write 69 = .ok (.iload 6, 2) := by decide +kernel
theorem dX7_write_71 : decode cX7_write 71 = .ok (.aload_n 2, 1) := by decide +kernel
theorem dX7_write_72 : decode cX7_write 72 = .ok (.iload_n 3, 1) := by decide +kernel
theorem dX7_write_73 : decode cX7_write 73 = .ok (.iload 5, 2) := by decide +kernel
theorem dX7_write_75 : decode cX7_write 75 = .ok (.iconst 1, 1) := by decide +kernel
theorem dX7_write_76 : decode cX7_write 76 = .ok (.iadd, 1) := by decide +kernel
theorem dX7_write_77 : decode cX7_write 77 = .ok (.invokevirtual 50, 3) := by decide +kernel
theorem dX7_write_80 : decode cX7_write 80 = .ok (.if_icmp .eq 15, 3) := by decide +kernel
theorem dX7_write_83 : decode cX7_write 83 = .ok (.aload_n 0, 1) := by decide +kernel
theorem dX7_write_84 : decode cX7_write 84 = .ok (.aload_n 1, 1) := by decide +kernel
theorem dX7_write_85 : decode cX7_write 85 = .ok (.iload 6, 2) := by decide +kernel
theorem dX7_write_87 : decode cX7_write 87 = .ok (.iload 4, 2) := by decide +kernel
theorem dX7_write_89 : decode cX7_write 89 = .ok (.invokevirtual 54, 3) := by decide +kernel
theorem dX7_write_92 : decode cX7_write 92 = .ok (.iconst 0, 1) := by decide +kernel
theorem dX7_write_93 : decode cX7_write 93 = .ok (.istore 4, 2) := by decide +kernel
theorem dX7_write_95 : decode cX7_write 95 = .ok (.iinc 5 1, 3) := by decide +kernel
theorem dX7_write_98 : decode cX7_write 98 = .ok (.goto (-52), 3) := by decide +kernel
theorem dX7_write_101 : decode cX7_write 101 = .ok (.return_, 1) := by decide +kernel
theorem dX7_putKnot_0 : decode cX7_putKnot 0 = .ok (.iload_n 2, 1) := by decide +kernel
theorem dX7_putKnot_1 : decode cX7_putKnot 1 = .ok (.ifCond .lt 9, 3) := by decide +kernel
theorem dX7_putKnot_4 : decode cX7_putKnot 4 = .ok (.iload_n 2, 1) := by decide +kernel
theorem dX7_putKnot_5 : decode cX7_putKnot 5 = .ok (.bipush 8, 2) := by decide +kernel
theorem dX7_putKnot_7 : decode cX7_putKnot 7 = .ok (.if_icmp .lt 4, 3) := by decide +kernel
theorem dX7_putKnot_10 : decode cX7_putKnot 10 = .ok (.return_, 1) := by decide +kernel
theorem dX7_putKnot_11 : decode cX7_putKnot 11 = .ok (.aload_n 0, 1) := by decide +kernel
theorem dX7_putKnot_12 : decode cX7_putKnot 12 = .ok (.bipush 32, 2) := by decide +kernel
theorem dX7_putKnot_14 : decode cX7_putKnot 14 = .ok (.invokevirtual 36, 3) := by decide +kernel
theorem dX7_putKnot_17 : decode cX7_putKnot 17 = .ok (.aload_n 0, 1) := by decide +kernel
theorem dX7_putKnot_18 : decode cX7_putKnot 18 = .ok (.aload_n 1, 1) := by decide +kernel
theorem dX7_putKnot_19 : decode cX7_putKnot 19 = .ok (.getfield 58, 3) := by decide +kernel
theorem dX7_putKnot_22 : decode cX7_putKnot 22 = .ok (.iload_n 2, 1) := by decide +kernel
theorem dX7_putKnot_23 : decode cX7_putKnot 23 = .ok (.laload, 1) := by decide +kernel
theorem dX7_putKnot_24 : decode cX7_putKnot 24 = .ok (.invokevirtual 27, 3) := by decide +kernel
theorem dX7_putKnot_27 : decode cX7_putKnot 27 = .ok (.iload_n 3, 1) := by decide +kernel
theorem dX7_putKnot_28 : decode cX7_putKnot 28 = .ok (.iconst 1, 1) := by decide +kernel
theorem dX7_putKnot_29 : decode cX7_putKnot 29 = .ok (.if_icmp .le 11, 3) := by decide +kernel
theorem dX7_putKnot_32 : decode cX7_putKnot 32 = .ok (.aload_n 0, 1) := by decide +kernel
theorem dX7_putKnot_33 : decode cX7_putKnot 33 = .ok (.bipush 48, 2) := by decide +kernel
theorem dX7_putKnot_35 : decode cX7_putKnot 35 = .ok (.iload_n 3, 1) := by decide +kernel
theorem dX7_putKnot_36 : decode cX7_putKnot 36 = .ok (.iadd, 1) := by decide +kernel
theorem dX7_putKnot_37 : decode cX7_putKnot 37 = .ok (.invokevirtual 36, 3) := by decide +kernel
theorem dX7_putKnot_40 : decode cX7_putKnot 40 = .ok (.return_, 1) := by decide +kernel
theorem dX7_putName_0 : decode cX7_putName 0 = .ok (.bipush 48, 2) := by decide +kernel
theorem dX7_putName_2 : decode cX7_putName 2 = .ok (.istore_n 3, 1) := by decide +kernel
theorem dX7_putName_3 : decode cX7_putName 3 = .ok (.iload_n 3, 1) := by decide +kernel
theorem dX7_putName_4 : decode cX7_putName 4 = .ok (.ifCond .lt 30, 3) := by decide +kernel
theorem dX7_putName_7 : decode cX7_putName 7 = .ok (.lload_n 1, 1) := by decide +kernel
theorem dX7_putName_8 : decode cX7_putName 8 = .ok (.iload_n 3, 1) := by decide +kernel
theorem dX7_putName_9 : decode cX7_putName 9 = .ok (.lushr, 1) := by decide +kernel
theorem dX7_putName_10 : decode cX7_putName 10 = .ok (.ldc2_w 61, 3) := by decide +kernel
theorem dX7_putName_13 : decode cX7_putName 13 = .ok (.land, 1) := by decide +kernel
theorem dX7_putName_14 : decode cX7_putName 14 = .ok (.l2i, 1) := by decide +kernel
theorem dX7_putName_15 : decode cX7_putName 15 = .ok (.istore 4, 2) := by decide +kernel
theorem dX7_putName_17 : decode cX7_putName 17 = .ok (.iload 4, 2) := by decide +kernel
theorem dX7_putName_19 : decode cX7_putName 19 = .ok (.ifCond .eq 9, 3) := by decide +kernel
theorem dX7_putName_22 : decode cX7_putName 22 = .ok (.aload_n 0, 1) := by decide +kernel
theorem dX7_putName_23 : decode cX7_putName 23 = .ok (.iload 4, 2) := by decide +kernel
theorem dX7_putName_25 : decode cX7_putName 25 = .ok (.invokevirtual 36, 3) := by decide +kernel
theorem dX7_putName_28 : decode cX7_putName 28 = .ok (.iinc 3 (-8), 3) := by decide +kernel
theorem dX7_putName_31 : decode cX7_putName 31 = .ok (.goto (-28), 3) := by decide +kernel
theorem dX7_putName_34 : decode cX7_putName 34 = .ok (.return_, 1) := by decide +kernel
theorem dX7_put_0 : decode cX7_put 0 = .ok (.aload_n 0, 1) := by decide +kernel
theorem dX7_put_1 : decode cX7_put 1 = .ok (.getfield 17, 3) := by decide +kernel
theorem dX7_put_4 : decode cX7_put 4 = .ok (.bipush 79, 2) := by decide +kernel
theorem dX7_put_6 : decode cX7_put 6 = .ok (.if_icmp .ge 23, 3) := by decide +kernel
theorem dX7_put_9 : decode cX7_put 9 = .ok (.aload_n 0, 1) := by decide +kernel
theorem dX7_put_10 : decode cX7_put 10 = .ok (.getfield 13, 3) := by decide +kernel
theorem dX7_put_13 : decode cX7_put 13 = .ok (.aload_n 0, 1) := by decide +kernel
theorem dX7_put_14 : decode cX7_put 14 = .ok (.getfield 17, 3) := by decide +kernel
theorem dX7_put_17 : decode cX7_put 17 = .ok (.iload_n 1, 1) := by decide +kernel
theorem dX7_put_18 : decode cX7_put 18 = .ok (.iastore, 1) := by decide +kernel
theorem dX7_put_19 : decode cX7_put 19 = .ok (.aload_n 0, 1) := by decide +kernel
theorem dX7_put_20 : decode cX7_put 20 = .ok (.dup, 1) := by decide +kernel
theorem dX7_put_21 : decode cX7_put 21 = .ok (.getfield 17, 3) := by decide +kernel
theorem dX7_put_24 : decode cX7_put 24 = .ok (.iconst 1, 1) := by decide +kernel
theorem dX7_put_25 : decode cX7_put 25 = .ok (.iadd, 1) := by decide +kernel
theorem dX7_put_26 : decode cX7_put 26 = .ok (.putfield 17, 3) := by decide +kernel
theorem dX7_put_29 : decode cX7_put 29 = .ok (.return_, 1) := by decide +kernel
theorem dX8_init_0 : decode cX8_init 0 = .ok (.aload_n 0, 1) := by decide +kernel
theorem dX8_init_1 : decode cX8_init 1 = .ok (.invokespecial 3, 3) := by decide +kernel
theorem dX8_init_4 : decode cX8_init 4 = .ok (.aload_n 0, 1) := by decide +kernel
theorem dX8_init_5 : decode cX8_init 5 = .ok (.sipush 940, 3) := by decide +kernel
theorem dX8_init_8 : decode cX8_init 8 = .ok (.newarray .int, 2) := by decide +kernel
theorem dX8_init_10 : decode cX8_init 10 = .ok (.putfield 11, 3) := by decide +kernel
theorem dX8_init_13 : decode cX8_init 13 = .ok (.return_, 1) := by decide +kernel
theorem dX8_putNumber_0 : decode cX8_putNumber 0 = .ok (.bipush 24, 2) := by decide +kernel
theorem dX8_putNumber_2 : decode cX8_putNumber 2 = .ok (.istore_n 2, 1) := by decide +kernel
theorem dX8_putNumber_3 : decode cX8_putNumber 3 = .ok (.iload_n 2, 1) := by decide +kernel
theorem dX8_putNumber_4 : decode cX8_putNumber 4 = .ok (.ifCond .lt 45, 3) := by decide +kernel
theorem dX8_putNumber_7 : decode cX8_putNumber 7 = .ok (.aload_n 0, 1) := by decide +kernel
theorem dX8_putNumber_8 : decode cX8_putNumber 8 = .ok (.getfield 15, 3) := by decide +kernel
theorem dX8_putNumber_11 : decode cX8_putNumber 11 = .ok (.sipush 940, 3) := by decide +kernel
theorem dX8_putNumber_14 : decode cX8_putNumber 14 = .ok (.if_icmp .ge 35, 3) := by decide +kernel
theorem dX8_putNumber_17 : decode cX8_putNumber 17 = .ok (.aload_n 0, 1) := by decide +kernel
theorem dX8_putNumber_18 : decode cX8_putNumber 18 = .ok (.getfield 11, 3) := by decide +kernel
theorem dX8_putNumber_21 : decode cX8_putNumber 21 = .ok (.aload_n 0, 1) := by decide +kernel
theorem dX8_putNumber_22 : decode cX8_putNumber 22 = .ok (.getfield 15, 3) := by decide +kernel
theorem dX8_putNumber_25 : decode cX8_putNumber 25 = .ok (.iload_n 1, 1) := by decide +kernel
theorem dX8_putNumber_26 : decode cX8_putNumber 26 = .ok (.iload_n 2, 1) := by decide +kernel
theorem dX8_putNumber_27 : decode cX8_putNumber 27 = .ok (.iushr, 1) := by decide +kernel
theorem dX8_putNumber_28 : decode cX8_putNumber 28 = .ok (.sipush 255, 3) := by decide +kernel
theorem dX8_putNumber_31 : decode cX8_putNumber 31 = .ok (.iand, 1) := by decide +kernel
theorem dX8_putNumber_32 : decode cX8_putNumber 32 = .ok (.iastore, 1) := by decide +kernel
theorem dX8_putNumber_33 : decode cX8_putNumber 33 = .ok (.aload_n 0, 1) := by decide +kernel
theorem dX8_putNumber_34 : decode cX8_putNumber 34 = .ok (.dup, 1) := by decide +kernel
theorem dX8_putNumber_35 : decode cX8_putNumber 35 = .ok (.getfield 15, 3) := by decide +kernel
theorem dX8_putNumber_38 : decode cX8_putNumber 38 = .ok (.iconst 1, 1) := by decide +kernel
theorem dX8_putNumber_39 : decode cX8_putNumber 39 = .ok (.iadd, 1) := by decide +kernel
theorem dX8_putNumber_40 : decode cX8_putNumber 40 = .ok (.putfield 15, 3) := by decide +kernel
theorem dX8_putNumber_43 : decode cX8_putNumber 43 = .ok (.iinc 2 (-8), 3) := by decide +kernel
theorem dX8_putNumber_46 : decode cX8_putNumber 46 = .ok (.goto (-43), 3) := by decide +kernel
theorem dX8_putNumber_49 : decode cX8_putNumber 49 = .ok (.return_, 1) := by decide +kernel
theorem dX8_open_0 : decode cX8_open 0 = .ok (.aload_n 0, 1) := by decide +kernel
theorem dX8_open_1 : decode cX8_open 1 = .ok (.iload_n 1, 1) := by decide +kernel
theorem dX8_open_2 : decode cX8_open 2 = .ok (.putfield 19, 3) := by decide +kernel
theorem dX8_open_5 : decode cX8_open 5 = .ok (.aload_n 0, 1) := by decide +kernel
theorem dX8_open_6 : decode cX8_open 6 = .ok (.iconst 0, 1) := by decide +kernel
theorem dX8_open_7 : decode cX8_open 7 = .ok (.putfield 22, 3) := by decide +kernel
theorem dX8_open_10 : decode cX8_open 10 = .ok (.aload_n 0, 1) := by decide +kernel
theorem dX8_open_11 : decode cX8_open 11 = .ok (.iconst 0, 1) := by decide +kernel
theorem dX8_open_12 : decode cX8_open 12 = .ok (.putfield 25, 3) := by decide +kernel
theorem dX8_open_15 : decode cX8_open 15 = .ok (.aload_n 0, 1) := by decide +kernel
theorem dX8_open_16 : decode cX8_open 16 = .ok (.iconst 0, 1) := by decide +kernel
theorem dX8_open_17 : decode cX8_open 17 = .ok (.putfield 28, 3) := by decide +kernel
theorem dX8_open_20 : decode cX8_open 20 = .ok (.aload_n 0, 1) := by decide +kernel
theorem dX8_open_21 : decode cX8_open 21 = .ok (.invokevirtual 31, 3) := by decide +kernel
theorem dX8_open_24 : decode cX8_open 24 = .ok (.return_, 1) := by decide +kernel
theorem dX8_advance_0 : decode cX8_advance 0 = .ok (.aload_n 0, 1) := by decide +kernel
theorem dX8_advance_1 : decode cX8_advance 1 = .ok (.getfield 15, 3) := by decide +kernel
theorem dX8_advance_4 : decode cX8_advance 4 = .ok (.aload_n 0, 1) := by decide +kernel
theorem dX8_advance_5 : decode cX8_advance 5 = .ok (.getfield 19, 3) := by decide +kernel
theorem dX8_advance_8 : decode cX8_advance 8 = .ok (.invokestatic 34, 3) := by decide +kernel
theorem dX8_advance_11 : decode cX8_advance 11 = .ok (.istore_n 1, 1) := by decide +kernel
theorem dX8_advance_12 : decode cX8_advance 12 = .ok (.aload_n 0, 1) := by decide +kernel
theorem dX8_advance_13 : decode cX8_advance 13 = .ok (.getfield 22, 3) := by decide +kernel
theorem dX8_advance_16 : decode cX8_advance 16 = .ok (.iload_n 1, 1) := by decide +kernel
theorem dX8_advance_17 : decode cX8_advance 17 = .ok (.if_icmp .ge 44, 3) := by decide +kernel
theorem dX8_advance_20 : decode cX8_advance 20 = .ok (.aload_n 0, 1) := by decide +kernel
theorem dX8_advance_21 : decode cX8_advance 21 = .ok (.getfield 11, 3) := by decide +kernel
theorem dX8_advance_24 : decode cX8_advance 24 = .ok (.aload_n 0, 1) := by decide +kernel
theorem dX8_advance_25 : decode cX8_advance 25 = .ok (.getfield 22, 3) := by decide +kernel
theorem dX8_advance_28 : decode cX8_advance 28 = .ok (.iaload, 1) := by decide +kernel
theorem dX8_advance_29 : decode cX8_advance 29 = .ok (.bipush 32, 2) := by decide +kernel
theorem dX8_advance_31 : decode cX8_advance 31 = .ok (.if_icmp .eq 17, 3) := by decide +kernel
theorem dX8_advance_34 : decode cX8_advance 34 = .ok (.aload_n 0, 1) := by decide +kernel
theorem dX8_advance_35 : decode cX8_advance 35 = .ok (.getfield 11, 3) := by decide +kernel
theorem dX8_advance_38 : decode cX8_advance 38 = .ok (.aload_n 0, 1) := by decide +kernel
theorem dX8_advance_39 : decode cX8_advance 39 = .ok (.getfield 22, 3) := by decide +kernel
theorem dX8_advance_42 : decode cX8_advance 42 = .ok (.iaload, 1) := by decide +kernel
theorem dX8_advance_43 : decode cX8_advance 43 = .ok (.bipush 10, 2) := by decide +kernel
theorem dX8_advance_45 : decode cX8_advance 45 = .ok (.if_icmp .ne 16, 3) := by decide +kernel
theorem dX8_advance_48 : decode cX8_advance 48 = .ok (.aload_n 0, 1) := by decide +kernel
theorem dX8_advance_49 : decode cX8_advance 49 = .ok (.dup, 1) := by decide +kernel
theorem dX8_advance_50 : decode cX8_advance 50 = .ok (.getfield 22, 3) := by decide +kernel
theorem dX8_advance_53 : decode cX8_advance 53 = .ok (.iconst 1, 1) := by decide +kernel
theorem dX8_advance_54 : decode cX8_advance 54 = .ok (.iadd, 1) := by decide +kernel
theorem dX8_advance_55 : decode cX8_advance 55 = .ok (.putfield 22, 3) := by decide +kernel
theorem dX8_advance_58 : decode cX8_advance 58 = .ok (.goto (-46), 3) := by decide +kernel
theorem dX8_advance_61 : decode cX8_advance 61 = .ok (.aload_n 0, 1) := by decide +kernel
theorem dX8_advance_62 : decode cX8_advance 62 = .ok (.aconst_null, 1) := by decide +kernel
theorem dX8_advance_63 : decode cX8_advance 63 = .ok (.putfield 40, 3) := by decide +kernel
theorem dX8_advance_66 : decode cX8_advance 66 = .ok (.aload_n 0, 1) := by decide +kernel
theorem dX8_advance_67 : decode cX8_advance 67 = .ok (.getfield 22, 3) := by decide +kernel
theorem dX8_advance_70 : decode cX8_advance 70 = .ok (.iload_n 1, 1) := by decide +kernel
theorem dX8_advance_71 : decode cX8_advance 71 = .ok (.if_icmp .lt 29, 3) := by decide +kernel
theorem dX8_advance_74 : decode cX8_advance 74 = .ok (.aload_n 0, 1) := by decide +kernel
theorem dX8_advance_75 : decode cX8_advance 75 = .ok (.iload_n 1, 1) := by decide +kernel
theorem dX8_advance_76 : decode cX8_advance 76 = .ok (.putfield 44, 3) := by decide +kernel
theorem dX8_advance_79 : decode cX8_advance 79 = .ok (.aload_n 0, 1) := by decide +kernel
theorem dX8_advance_80 : decode cX8_advance 80 = .ok (.aload_n 0, 1) := by decide +kernel
theorem dX8_advance_81 : decode cX8_advance 81 = .ok (.getfield 15, 3) := by decide +kernel
theorem dX8_advance_84 : decode cX8_advance 84 = .ok (.aload_n 0, 1) := by decide +kernel
theorem dX8_advance_85 : decode cX8_advance 85 = .ok (.getfield 19, 3) := by decide +kernel
theorem dX8_advance_88 : decode cX8_advance 88 = .ok (.if_icmp .le 7, 3) := by decide +kernel
theorem dX8_advance_91 : decode cX8_advance 91 = .ok (.iconst 1, 1) := by decide +kernel
theorem dX8_advance_92 : decode cX8_advance 92 = .ok (.goto 4, 3) := by decide +kernel
theorem dX8_advance_95 : decode cX8_advance 95 = .ok (.iconst 0, 1) := by decide +kernel
theorem dX8_advance_96 : decode cX8_advance 96 = .ok (.putfield 47, 3) := by decide +kernel
theorem dX8_advance_99 : decode cX8_advance 99 = .ok (.return_, 1) := by decide +kernel
theorem dX8_advance_100 : decode cX8_advance 100 = .ok (.aload_n 0, 1) := by decide +kernel
theorem dX8_advance_101 : decode cX8_advance 101 = .ok (.aload_n 0, 1) := by decide +kernel
theorem dX8_advance_102 : decode cX8_advance 102 = .ok (.getfield 22, 3) := by decide +kernel
theorem dX8_advance_105 : decode cX8_advance 105 = .ok (.putfield 44, 3) := by decide +kernel
theorem dX8_advance_108 : decode cX8_advance 108 = .ok (.aload_n 0, 1) := by decide +kernel
theorem dX8_advance_109 : decode cX8_advance 109 = .ok (.getfield 11, 3) := by decide +kernel
theorem dX8_advance_112 : decode cX8_advance 112 = .ok (.aload_n 0, 1) := by decide +kernel
theorem dX8_advance_113 : decode cX8_advance 113 = .ok (.getfield 22, 3) := by decide +kernel
theorem dX8_advance_116 : decode cX8_advance 116 = .ok (.iaload, 1) := by decide +kernel
theorem dX8_advance_117 : decode cX8_advance 117 = .ok (.istore_n 2, 1) := by decide +kernel
theorem dX8_advance_118 : decode cX8_advance 118 = .ok (.aload_n 0, 1) := by decide +kernel
theorem dX8_advance_119 : decode cX8_advance 119 = .ok (.invokevirtual 50, 3) := by decide +kernel
theorem dX8_advance_122 : decode cX8_advance 122 = .ok (.aload_n 0, 1) := by decide +kernel
theorem dX8_advance_123 : decode cX8_advance 123 = .ok (.getfield 47, 3) := by decide +kernel
theorem dX8_advance_126 : decode cX8_advance 126 = .ok (.iconst 2, 1) := by decide +kernel
theorem dX8_advance_127 : decode cX8_advance 127 = .ok (.if_icmp .ne 17, 3) := by decide +kernel
theorem dX8_advance_130 : decode cX8_advance 130 = .ok (.aload_n 0, 1) := by decide +kernel
theorem dX8_advance_131 : decode cX8_advance 131 = .ok (.aload_n 0, 1) := by decide +kernel
theorem dX8_advance_132 : decode cX8_advance 132 = .ok (.getfield 53, 3) := by decide +kernel
theorem dX8_advance_135 : decode cX8_advance 135 = .ok (.invokestatic 57, 3) := by decide +kernel
theorem dX8_advance_138 : decode cX8_advance 138 = .ok (.putfield 40, 3) := by decide +kernel
theorem dX8_advance_141 : decode cX8_advance 141 = .ok (.goto 40, 3) := by decide +kernel
theorem dX8_advance_144 : decode cX8_advance 144 = .ok (.aload_n 0, 1) := by decide +kernel
theorem dX8_advance_145 : decode cX8_advance 145 = .ok (.getfield 22, 3) := by decide +kernel
theorem dX8_advance_148 : decode cX8_advance 148 = .ok (.aload_n 0, 1) := by decide +kernel
theorem dX8_advance_149 : decode cX8_advance 149 = .ok (.getfield 44, 3) := by decide +kernel
theorem dX8_advance_152 : decode cX8_advance 152 = .ok (.if_icmp .ne 29, 3) := by decide +kernel
theorem dX8_advance_155 : decode cX8_advance 155 = .ok (.aload_n 0, 1) := by decide +kernel
theorem dX8_advance_156 : decode cX8_advance 156 = .ok (.iload_n 2, 1) := by decide +kernel
theorem dX8_advance_157 : decode cX8_advance 157 = .ok (.invokestatic 63, 3) := by decide +kernel
theorem dX8_advance_160 : decode cX8_advance 160 = .ok (.ifCond .eq 7, 3) := by decide +kernel
theorem dX8_advance_163 : decode cX8_advance 163 = .ok (.iload_n 2, 1) := by decide +kernel
theorem dX8_advance_164 : decode cX8_advance 164 = .ok (.goto 4, 3) := by decide +kernel
theorem dX8_advance_167 : decode cX8_advance 167 = .ok (.iconst 1, 1) := by decide +kernel
theorem dX8_advance_168 : decode cX8_advance 168 = .ok (.putfield 47, 3) := by decide +kernel
theorem dX8_advance_171 : decode cX8_advance 171 = .ok (.aload_n 0, 1) := by decide +kernel
theorem dX8_advance_172 : decode cX8_advance 172 = .ok (.dup, 1) := by decide +kernel
theorem dX8_advance_173 : decode cX8_advance 173 = .ok (.getfield 22, 3) := by decide +kernel
theorem dX8_advance_176 : decode cX8_advance 176 = .ok (.iconst 1, 1) := by decide +kernel
theorem dX8_advance_177 : decode cX8_advance 177 = .ok (.iadd, 1) := by decide +kernel
theorem dX8_advance_178 : decode cX8_advance 178 = .ok (.putfield 22, 3) := by decide +kernel
theorem dX8_advance_181 : decode cX8_advance 181 = .ok (.return_, 1) := by decide +kernel
theorem dX8_scanRun_0 : decode cX8_scanRun 0 = .ok (.iconst 0, 1) := by decide +kernel
theorem dX8_scanRun_1 : decode cX8_scanRun 1 = .ok (.istore_n 1, 1) := by decide +kernel
theorem dX8_scanRun_2 : decode cX8_scanRun 2 = .ok (.iconst 0, 1) := by decide +kernel
theorem dX8_scanRun_3 : decode cX8_scanRun 3 = .ok (.istore_n 2, 1) := by decide +kernel
theorem dX8_scanRun_4 : decode cX8_scanRun 4 = .ok (.aload_n 0, 1) := by decide +kernel
theorem dX8_scanRun_5 : decode cX8_scanRun 5 = .ok (.lconst 0, 1) := by decide +kernel
theorem dX8_scanRun_6 : decode cX8_scanRun 6 = .ok (.putfield 53, 3) := by decide +kernel
theorem dX8_scanRun_9 : decode cX8_scanRun 9 = .ok (.aload_n 0, 1) := by decide +kernel
theorem dX8_scanRun_10 : decode cX8_scanRun 10 = .ok (.iconst 0, 1) := by decide +kernel
theorem dX8_scanRun_11 : decode cX8_scanRun 11 = .ok (.putfield 67, 3) := by decide +kernel
theorem dX8_scanRun_14 : decode cX8_scanRun 14 = .ok (.aload_n 0, 1) := by decide +kernel
theorem dX8_scanRun_15 : decode cX8_scanRun 15 = .ok (.getfield 22, 3) := by decide +kernel
theorem dX8_scanRun_18 : decode cX8_scanRun 18 = .ok (.aload_n 0, 1) := by decide +kernel
theorem dX8_scanRun_19 : decode cX8_scanRun 19 = .ok (.getfield 15, 3) := by decide +kernel
theorem dX8_scanRun_22 : decode cX8_scanRun 22 = .ok (.if_icmp .ge 89, 3) := by decide +kernel
theorem dX8_scanRun_25 : decode cX8_scanRun 25 = .ok (.aload_n 0, 1) := by decide +kernel
theorem dX8_scanRun_26 : decode cX8_scanRun 26 = .ok (.getfield 11, 3) := by decide +kernel
theorem dX8_scanRun_29 : decode cX8_scanRun 29 = .ok (.aload_n 0, 1) := by decide +kernel
theorem dX8_scanRun_30 : decode cX8_scanRun 30 = .ok (.getfield 22, 3) := by decide +kernel
theorem dX8_scanRun_33 : decode cX8_scanRun 33 = .ok (.iaload, 1) := by decide +kernel
theorem dX8_scanRun_34 : decode cX8_scanRun 34 = .ok (.istore_n 3, 1) := by decide +kernel
theorem dX8_scanRun_35 : decode cX8_scanRun 35 = .ok (.iload_n 3, 1) := by decide +kernel
theorem dX8_scanRun_36 : decode cX8_scanRun 36 = .ok (.bipush 97, 2) := by decide +kernel
theorem dX8_scanRun_38 : decode cX8_scanRun 38 = .ok (.if_icmp .lt 29, 3) := by decide +kernel
theorem dX8_scanRun_41 : decode cX8_scanRun 41 = .ok (.iload_n 3, 1) := by decide +kernel
theorem dX8_scanRun_42 : decode cX8_scanRun 42 = .ok (.bipush 122, 2) := by decide +kernel
theorem dX8_scanRun_44 : decode cX8_scanRun 44 = .ok (.if_icmp .gt 23, 3) := by decide +kernel
theorem dX8_scanRun_47 : decode cX8_scanRun 47 = .ok (.iinc 1 1, 3) := by decide +kernel
theorem dX8_scanRun_50 : decode cX8_scanRun 50 = .ok (.aload_n 0, 1) := by decide +kernel
theorem dX8_scanRun_51 : decode cX8_scanRun 51 = .ok (.aload_n 0, 1) := by decide +kernel
theorem dX8_scanRun_52 : decode cX8_scanRun 52 = .ok (.getfield 53, 3) := by decide +kernel
theorem dX8_scanRun_55 : decode cX8_scanRun 55 = .ok (.bipush 8, 2) := by decide +kernel
theorem dX8_scanRun_57 : decode cX8_scanRun 57 = .ok (.lshl, 1) := by decide +kernel
theorem dX8_scanRun_58 : decode cX8_scanRun 58 = .ok (.iload_n 3, 1) := by decide +kernel
theorem dX8_scanRun_59 : decode cX8_scanRun 59 = .ok (.i2l, 1) := by decide +kernel
theorem dX8_scanRun_60 : decode cX8_scanRun 60 = .ok (.lor, 1) := by decide +kernel
theorem dX8_scanRun_61 : decode cX8_scanRun 61 = .ok (.putfield 53, 3) := by decide +kernel
theorem dX8_scanRun_64 : decode cX8_scanRun 64 = .ok (.goto 34, 3) := by decide +kernel
theorem dX8_scanRun_67 : decode cX8_scanRun 67 = .ok (.iload_n 3, 1) := by decide +kernel
theorem dX8_scanRun_68 : decode cX8_scanRun 68 = .ok (.bipush 48, 2) := by decide +kernel
theorem dX8_scanRun_70 : decode cX8_scanRun 70 = .ok (.if_icmp .lt 41, 3) := by decide +kernel
theorem dX8_scanRun_73 : decode cX8_scanRun 73 = .ok (.iload_n 3, 1) := by decide +kernel
theorem dX8_scanRun_74 : decode cX8_scanRun 74 = .ok (.bipush 57, 2) := by decide +kernel
theorem dX8_scanRun_76 : decode cX8_scanRun 76 = .ok (.if_icmp .gt 35, 3) := by decide +kernel
theorem dX8_scanRun_79 : decode cX8_scanRun 79 = .ok (.iinc 2 1, 3) := by decide +kernel
theorem dX8_scanRun_82 : decode cX8_scanRun 82 = .ok (.aload_n 0, 1) := by decide +kernel
theorem dX8_scanRun_83 : decode cX8_scanRun 83 = .ok (.aload_n 0, 1) := by decide +kernel
theorem dX8_scanRun_84 : decode cX8_scanRun 84 = .ok (.getfield 67, 3) := by decide +kernel
theorem dX8_scanRun_87 : decode cX8_scanRun 87 = .ok (.bipush 10, 2) := by decide +kernel
theorem dX8_scanRun_89 : decode cX8_scanRun 89 = .ok (.imul, 1) := by decide +kernel
theorem dX8_scanRun_90 : decode cX8_scanRun 90 = .ok (.iload_n 3, 1) := by decide +kernel
theorem dX8_scanRun_91 : decode cX8_scanRun 91 = .ok (.iadd, 1) := by decide +kernel
theorem dX8_scanRun_92 : decode cX8_scanRun 92 = .ok (.bipush 48, 2) := by decide +kernel
theorem dX8_scanRun_94 : decode cX8_scanRun 94 = .ok (.isub, 1) := by decide +kernel
theorem dX8_scanRun_95 : decode cX8_scanRun 95 = .ok (.putfield 67, 3) := by decide +kernel
theorem dX8_scanRun_98 : decode cX8_scanRun 98 = .ok (.aload_n 0, 1) := by decide +kernel
theorem dX8_scanRun_99 : decode cX8_scanRun 99 = .ok (.dup, 1) := by decide +kernel
theorem dX8_scanRun_100 : decode cX8_scanRun 100 = .ok (.getfield 22, 3) := by decide +kernel
theorem dX8_scanRun_103 : decode cX8_scanRun 103 = .ok (.iconst 1, 1) := by decide +kernel
theorem dX8_scanRun_104 : decode cX8_scanRun 104 = .ok (.iadd, 1) := by decide +kernel
theorem dX8_scanRun_105 : decode cX8_scanRun 105 = .ok (.putfield 22, 3) := by decide +kernel
theorem dX8_scanRun_108 : decode cX8_scanRun 108 = .ok (.goto (-94), 3) := by decide +kernel
theorem dX8_scanRun_111 : decode cX8_scanRun 111 = .ok (.aload_n 0, 1) := by decide +kernel
theorem dX8_scanRun_112 : decode cX8_scanRun 112 = .ok (.iconst 1, 1) := by decide +kernel
theorem dX8_scanRun_113 : decode cX8_scanRun 113 = .ok (.putfield 47, 3) := by decide +kernel
theorem dX8_scanRun_116 : decode cX8_scanRun 116 = .ok (.iload_n 2, 1) := by decide +kernel
theorem dX8_scanRun_117 : decode cX8_scanRun 117 = .ok (.ifCond .ne 22, 3) := by decide +kernel
theorem dX8_scanRun_120 : decode cX8_scanRun 120 = .ok (.iload_n 1, 1) := by decide +kernel
theorem dX8_scanRun_121 : decode cX8_scanRun 121 = .ok (.iconst 1, 1) := by decide +kernel
theorem dX8_scanRun_122 : decode cX8_scanRun 122 = .ok (.if_icmp .lt 17, 3) := by decide +kernel
theorem dX8_scanRun_125 : decode cX8_scanRun 125 = .ok (.iload_n 1, 1) := by decide +kernel
theorem dX8_scanRun_126 : decode cX8_scanRun 126 = .ok (.bipush 7, 2) := by decide +kernel
theorem dX8_scanRun_128 : decode cX8_scanRun 128 = .ok (.if_icmp .gt 11, 3) := by decide +kernel
theorem dX8_scanRun_131 : decode cX8_scanRun 131 = .ok (.aload_n 0, 1) := by decide +kernel
theorem dX8_scanRun_132 : decode cX8_scanRun 132 = .ok (.iconst 2, 1) := by decide +kernel
theorem dX8_scanRun_133 : decode cX8_scanRun 133 = .ok (.putfield 47, 3) := by decide +kernel
theorem dX8_scanRun_136 : decode cX8_scanRun 136 = .ok (.goto 22, 3) := by decide +kernel
theorem dX8_scanRun_139 : decode cX8_scanRun 139 = .ok (.iload_n 1, 1) := by decide +kernel
theorem dX8_scanRun_140 : decode cX8_scanRun 140 = .ok (.ifCond .ne 18, 3) := by decide +kernel
theorem dX8_scanRun_143 : decode cX8_scanRun 143 = .ok (.iload_n 2, 1) := by decide +kernel
theorem dX8_scanRun_144 : decode cX8_scanRun 144 = .ok (.iconst 1, 1) := by decide +kernel
theorem dX8_scanRun_145 : decode cX8_scanRun 145 = .ok (.if_icmp .lt 13, 3) := by decide +kernel
theorem dX8_scanRun_148 : decode cX8_scanRun 148 = .ok (.iload_n 2, 1) := by decide +kernel
theorem dX8_scanRun_149 : decode cX8_scanRun 149 = .ok (.iconst 3, 1) := by decide +kernel
theorem dX8_scanRun_150 : decode cX8_scanRun 150 = .ok (.if_icmp .gt 8, 3) := by decide +kernel
theorem dX8_scanRun_153 : decode cX8_scanRun 153 = .ok (.aload_n 0, 1) := by decide +kernel
theorem dX8_scanRun_154 : decode cX8_scanRun 154 = .ok (.iconst 3, 1) := by decide +kernel
theorem dX8_scanRun_155 : decode cX8_scanRun 155 = .ok (.putfield 47, 3) := by decide +kernel
theorem dX8_scanRun_158 : decode cX8_scanRun 158 = .ok (.return_, 1) := by decide +kernel
theorem dX8_isSign_0 : decode cX8_isSign 0 = .ok (.iload_n 0, 1) := by decide +kernel
theorem dX8_isSign_1 : decode cX8_isSign 1 = .ok (.bipush 59, 2) := by decide +kernel
theorem dX8_isSign_3 : decode cX8_isSign 3 = .ok (.if_icmp .eq 33, 3) := by decide +kernel
theorem dX8_isSign_6 : decode cX8_isSign 6 = .ok (.iload_n 0, 1) := by decide +kernel
theorem dX8_isSign_7 : decode cX8_isSign 7 = .ok (.bipush 60, 2) := by decide +kernel
theorem dX8_isSign_9 : decode cX8_isSign 9 = .ok (.if_icmp .eq 27, 3) := by decide +kernel
theorem dX8_isSign_12 : decode cX8_isSign 12 = .ok (.iload_n 0, 1) := by decide +kernel
theorem dX8_isSign_13 : decode cX8_isSign 13 = .ok (.bipush 61, 2) := by decide +kernel
theorem dX8_isSign_15 : decode cX8_isSign 15 = .ok (.if_icmp .eq 21, 3) := by decide +kernel
theorem dX8_isSign_18 : decode cX8_isSign 18 = .ok (.iload_n 0, 1) := by decide +kernel
theorem dX8_isSign_19 : decode cX8_isSign 19 = .ok (.bipush 62, 2) := by decide +kernel
theorem dX8_isSign_21 : decode cX8_isSign 21 = .ok (.if_icmp .eq 15, 3) := by decide +kernel
theorem dX8_isSign_24 : decode cX8_isSign 24 = .ok (.iload_n 0, 1) := by decide +kernel
theorem dX8_isSign_25 : decode cX8_isSign 25 = .ok (.bipush 40, 2) := by decide +kernel
theorem dX8_isSign_27 : decode cX8_isSign 27 = .ok (.if_icmp .eq 9, 3) := by decide +kernel
theorem dX8_isSign_30 : decode cX8_isSign 30 = .ok (.iload_n 0, 1) := by decide +kernel
theorem dX8_isSign_31 : decode cX8_isSign 31 = .ok (.bipush 41, 2) := by decide +kernel
theorem dX8_isSign_33 : decode cX8_isSign 33 = .ok (.if_icmp .ne 7, 3) := by decide +kernel
theorem dX8_isSign_36 : decode cX8_isSign 36 = .ok (.iconst 1, 1) := by decide +kernel
theorem dX8_isSign_37 : decode cX8_isSign 37 = .ok (.goto 4, 3) := by decide +kernel
theorem dX8_isSign_40 : decode cX8_isSign 40 = .ok (.iconst 0, 1) := by decide +kernel
theorem dX8_isSign_41 : decode cX8_isSign 41 = .ok (.ireturn, 1) := by decide +kernel
theorem dX8_isName_0 : decode cX8_isName 0 = .ok (.aload_n 0, 1) := by decide +kernel
theorem dX8_isName_1 : decode cX8_isName 1 = .ok (.getfield 47, 3) := by decide +kernel
theorem dX8_isName_4 : decode cX8_isName 4 = .ok (.iconst 2, 1) := by decide +kernel
theorem dX8_isName_5 : decode cX8_isName 5 = .ok (.if_icmp .ne 14, 3) := by decide +kernel
theorem dX8_isName_8 : decode cX8_isName 8 = .ok (.aload_n 0, 1) := by decide +kernel
theorem dX8_isName_9 : decode cX8_isName 9 = .ok (.getfield 40, 3) := by decide +kernel
theorem dX8_isName_12 : decode cX8_isName 12 = .ok (.ifnonnull 7, 3) := by decide +kernel
theorem dX8_isName_15 : decode cX8_isName 15 = .ok (.iconst 1, 1) := by decide +kernel
theorem dX8_isName_16 : decode cX8_isName 16 = .ok (.goto 4, 3) := by decide +kernel
theorem dX8_isName_19 : decode cX8_isName 19 = .ok (.iconst 0, 1) := by decide +kernel
theorem dX8_isName_20 : decode cX8_isName 20 = .ok (.ireturn, 1) := by decide +kernel
theorem dX8_refuse_0 : decode cX8_refuse 0 = .ok (.aload_n 0, 1) := by decide +kernel
theorem dX8_refuse_1 : decode cX8_refuse 1 = .ok (.iload_n 1, 1) := by decide +kernel
theorem dX8_refuse_2 : decode cX8_refuse 2 = .ok (.putfield 25, 3) := by decide +kernel
theorem dX8_refuse_5 : decode cX8_refuse 5 = .ok (.aload_n 0, 1) := by decide +kernel
theorem dX8_refuse_6 : decode cX8_refuse 6 = .ok (.aload_n 0, 1) := by decide +kernel
theorem dX8_refuse_7 : decode cX8_refuse 7 = .ok (.getfield 44, 3) := by decide +kernel
theorem dX8_refuse_10 : decode cX8_refuse 10 = .ok (.putfield 28, 3) := by decide +kernel
theorem dX8_refuse_13 : decode cX8_refuse 13 = .ok (.iconst 0, 1) := by decide +kernel
theorem dX8_refuse_14 : decode cX8_refuse 14 = .ok (.ireturn, 1) := by decide +kernel
theorem dX8_takeSign_0 : decode cX8_takeSign 0 = .ok (.aload_n 0, 1) := by decide +kernel
theorem dX8_takeSign_1 : decode cX8_takeSign 1 = .ok (.getfield 47, 3) := by decide +kernel
theorem dX8_takeSign_4 : decode cX8_takeSign 4 = .ok (.iload_n 1, 1) := by decide +kernel
theorem dX8_takeSign_5 : decode cX8_takeSign 5 = .ok (.if_icmp .eq 9, 3) := by decide +kernel
theorem dX8_takeSign_8 : decode cX8_takeSign 8 = .ok (.aload_n 0, 1) := by decide +kernel
theorem dX8_takeSign_9 : decode cX8_takeSign 9 = .ok (.iconst 1, 1) := by decide +kernel
theorem dX8_takeSign_10 : decode cX8_takeSign 10 = .ok (.invokevirtual 70, 3) := by decide +kernel
theorem dX8_takeSign_13 : decode cX8_takeSign 13 = .ok (.ireturn, 1) := by decide +kernel
theorem dX8_takeSign_14 : decode cX8_takeSign 14 = .ok (.aload_n 0, 1) := by decide +kernel
theorem dX8_takeSign_15 : decode cX8_takeSign 15 = .ok (.invokevirtual 31, 3) := by decide +kernel
theorem dX8_takeSign_18 : decode cX8_takeSign 18 = .ok (.iconst 1, 1) := by decide +kernel
theorem dX8_takeSign_19 : decode cX8_takeSign 19 = .ok (.ireturn, 1) := by decide +kernel
theorem dX8_takeNumber_0 : decode cX8_takeNumber 0 = .ok (.aload_n 0, 1) := by decide +kernel
theorem dX8_takeNumber_1 : decode cX8_takeNumber 1 = .ok (.getfield 47, 3) := by decide +kernel
theorem dX8_takeNumber_4 : decode cX8_takeNumber 4 = .ok (.iconst 3, 1) := by decide +kernel
theorem dX8_takeNumber_5 : decode cX8_takeNumber 5 = .ok (.if_icmp .eq 11, 3) := by decide +kernel
theorem dX8_takeNumber_8 : decode cX8_takeNumber 8 = .ok (.aload_n 0, 1) := by decide +kernel
theorem dX8_takeNumber_9 : decode cX8_takeNumber 9 = .ok (.iconst 1, 1) := by decide +kernel
theorem dX8_takeNumber_10 : decode cX8_takeNumber 10 = .ok (.invokevirtual 70, 3) := by decide +kernel
theorem dX8_takeNumber_13 : decode cX8_takeNumber 13 = .ok (.pop, 1) := by decide +kernel
theorem dX8_takeNumber_14 : decode cX8_takeNumber 14 = .ok (.iconst (-1), 1) := by decide +kernel
theorem dX8_takeNumber_15 : decode cX8_takeNumber 15 = .ok (.ireturn, 1) := by decide +kernel
theorem dX8_takeNumber_16 : decode cX8_takeNumber 16 = .ok (.aload_n 0, 1) := by decide +kernel
theorem dX8_takeNumber_17 : decode cX8_takeNumber 17 = .ok (.getfield 67, 3) := by decide +kernel
theorem dX8_takeNumber_20 : decode cX8_takeNumber 20 = .ok (.istore_n 3, 1) := by decide +kernel
theorem dX8_takeNumber_21 : decode cX8_takeNumber 21 = .ok (.iload_n 3, 1) := by decide +kernel
theorem dX8_takeNumber_22 : decode cX8_takeNumber 22 = .ok (.iload_n 1, 1) := by decide +kernel
theorem dX8_takeNumber_23 : decode cX8_takeNumber 23 = .ok (.if_icmp .lt 8, 3) := by decide +kernel
theorem dX8_takeNumber_26 : decode cX8_takeNumber 26 = .ok (.iload_n 3, 1) := by decide +kernel
theorem dX8_takeNumber_27 : decode cX8_takeNumber 27 = .ok (.iload_n 2, 1) := by decide +kernel
theorem dX8_takeNumber_28 : decode cX8_takeNumber 28 = .ok (.if_icmp .le 11, 3) := by decide +kernel
theorem dX8_takeNumber_31 : decode cX8_takeNumber 31 = .ok (.aload_n 0, 1) := by decide +kernel
theorem dX8_takeNumber_32 : decode cX8_takeNumber 32 = .ok (.iconst 2, 1) := by decide +kernel
theorem dX8_takeNumber_33 : decode cX8_takeNumber 33 = .ok (.invokevirtual 70, 3) := by decide +kernel
theorem dX8_takeNumber_36 : decode cX8_takeNumber 36 = .ok (.pop, 1) := by decide +kernel
theorem dX8_takeNumber_37 : decode cX8_takeNumber 37 = .ok (.iconst (-1), 1) := by decide +kernel
theorem dX8_takeNumber_38 : decode cX8_takeNumber 38 = .ok (.ireturn, 1) := by decide +kernel
theorem dX8_takeNumber_39 : decode cX8_takeNumber 39 = .ok (.aload_n 0, 1) := by decide +kernel
theorem dX8_takeNumber_40 : decode cX8_takeNumber 40 = .ok (.invokevirtual 31, 3) := by decide +kernel
theorem dX8_takeNumber_43 : decode cX8_takeNumber 43 = .ok (.iload_n 3, 1) := by decide +kernel
theorem dX8_takeNumber_44 : decode cX8_takeNumber 44 = .ok (.ireturn, 1) := by decide +kernel
theorem dX8_findName_0 : decode cX8_findName 0 = .ok (.aload_n 0, 1) := by decide +kernel
theorem dX8_findName_1 : decode cX8_findName 1 = .ok (.invokevirtual 73, 3) := by decide +kernel
theorem dX8_findName_4 : decode cX8_findName 4 = .ok (.ifCond .ne 11, 3) := by decide +kernel
theorem dX8_findName_7 : decode cX8_findName 7 = .ok (.aload_n 0, 1) := by decide +kernel
theorem dX8_findName_8 : decode cX8_findName 8 = .ok (.iconst 1, 1) := by decide +kernel
theorem dX8_findName_9 : decode cX8_findName 9 = .ok (.invokevirtual 70, 3) := by decide +kernel
theorem dX8_findName_12 : decode cX8_findName 12 = .ok (.pop, 1) := by decide +kernel
theorem dX8_findName_13 : decode cX8_findName 13 = .ok (.iconst (-1), 1) := by decide +kernel
theorem dX8_findName_14 : decode cX8_findName 14 = .ok (.ireturn, 1) := by decide +kernel
theorem dX8_findName_15 : decode cX8_findName 15 = .ok (.aload_n 0, 1) := by decide +kernel
theorem dX8_findName_16 : decode cX8_findName 16 = .ok (.aload_n 1, 1) := by decide +kernel
theorem dX8_findName_17 : decode cX8_findName 17 = .ok (.iload_n 2, 1) := by decide +kernel
theorem dX8_findName_18 : decode cX8_findName 18 = .ok (.invokevirtual 77, 3) := by decide +kernel
theorem dX8_findName_21 : decode cX8_findName 21 = .ok (.istore_n 3, 1) := by decide +kernel
theorem dX8_findName_22 : decode cX8_findName 22 = .ok (.iload_n 3, 1) := by decide +kernel
theorem dX8_findName_23 : decode cX8_findName 23 = .ok (.iconst (-1), 1) := by decide +kernel
theorem dX8_findName_24 : decode cX8_findName 24 = .ok (.if_icmp .ne 9, 3) := by decide +kernel
theorem dX8_findName_27 : decode cX8_findName 27 = .ok (.aload_n 0, 1) := by decide +kernel
theorem dX8_findName_28 : decode cX8_findName 28 = .ok (.iconst 3, 1) := by decide +kernel
theorem dX8_findName_29 : decode cX8_findName 29 = .ok (.invokevirtual 70, 3) := by decide +kernel
theorem dX8_findName_32 : decode cX8_findName 32 = .ok (.pop, 1) := by decide +kernel
theorem dX8_findName_33 : decode cX8_findName 33 = .ok (.iload_n 3, 1) := by decide +kernel
theorem dX8_findName_34 : decode cX8_findName 34 = .ok (.ireturn, 1) := by decide +kernel
theorem dX8_placeIn_0 : decode cX8_placeIn 0 = .ok (.iconst 0, 1) := by decide +kernel
theorem dX8_placeIn_1 : decode cX8_placeIn 1 = .ok (.istore_n 3, 1) := by decide +kernel
theorem dX8_placeIn_2 : decode cX8_placeIn 2 = .ok (.iload_n 3, 1) := by decide +kernel
theorem dX8_placeIn_3 : decode cX8_placeIn 3 = .ok (.iload_n 2, 1) := by decide +kernel
theorem dX8_placeIn_4 : decode cX8_placeIn 4 = .ok (.if_icmp .ge 28, 3) := by decide +kernel
theorem dX8_placeIn_7 : decode cX8_placeIn 7 = .ok (.iload_n 3, 1) := by decide +kernel
theorem dX8_placeIn_8 : decode cX8_placeIn 8 = .ok (.aload_n 1, 1) := by decide +kernel
theorem dX8_placeIn_9 : decode cX8_placeIn 9 = .ok (.arraylength, 1) := by decide +kernel
theorem dX8_placeIn_10 : decode cX8_placeIn 10 = .ok (.if_icmp .ge 22, 3) := by decide +kernel
theorem dX8_placeIn_13 : decode cX8_placeIn 13 = .ok (.aload_n 1, 1) := by decide +kernel
theorem dX8_placeIn_14 : decode cX8_placeIn 14 = .ok (.iload_n 3, 1) := by decide +kernel
theorem dX8_placeIn_15 : decode cX8_placeIn 15 = .ok (.laload, 1) := by decide +kernel
theorem dX8_placeIn_16 : decode cX8_placeIn 16 = .ok (.aload_n 0, 1) := by decide +kernel
theorem dX8_placeIn_17 : decode cX8_placeIn 17 = .ok (.getfield 53, 3) := by decide +kernel
theorem dX8_placeIn_20 : decode cX8_placeIn 20 = .ok (.lcmp, 1) := by decide +kernel
theorem dX8_placeIn_21 : decode cX8_placeIn 21 = .ok (.ifCond .ne 5, 3) := by decide +kernel
theorem dX8_placeIn_24 : decode cX8_placeIn 24 = .ok (.iload_n 3, 1) := by decide +kernel
theorem dX8_placeIn_25 : decode cX8_placeIn 25 = .ok (.ireturn, 1) := by decide +kernel
theorem dX8_placeIn_26 : decode cX8_placeIn 26 = .ok (.iinc 3 1, 3) := by decide +kernel
theorem dX8_placeIn_29 : decode cX8_placeIn 29 = .ok (.goto (-27), 3) := by decide +kernel
theorem dX8_placeIn_32 : decode cX8_placeIn 32 = .ok (.iconst (-1), 1) := by decide +kernel
theorem dX8_placeIn_33 : decode cX8_placeIn 33 = .ok (.ireturn, 1) := by decide +kernel
theorem dX8_takeName_0 : decode cX8_takeName 0 = .ok (.aload_n 0, 1) := by decide +kernel
theorem dX8_takeName_1 : decode cX8_takeName 1 = .ok (.aload_n 1, 1) := by decide +kernel
theorem dX8_takeName_2 : decode cX8_takeName 2 = .ok (.iload_n 2, 1) := by decide +kernel
theorem dX8_takeName_3 : decode cX8_takeName 3 = .ok (.invokevirtual 81, 3) := by decide +kernel
theorem dX8_takeName_6 : decode cX8_takeName 6 = .ok (.istore_n 3, 1) := by decide +kernel
theorem dX8_takeName_7 : decode cX8_takeName 7 = .ok (.iload_n 3, 1) := by decide +kernel
theorem dX8_takeName_8 : decode cX8_takeName 8 = .ok (.iconst (-1), 1) := by decide +kernel
theorem dX8_takeName_9 : decode cX8_takeName 9 = .ok (.if_icmp .eq 7, 3) := by decide +kernel
theorem dX8_takeName_12 : decode cX8_takeName 12 = .ok (.aload_n 0, 1) := by decide +kernel
theorem dX8_takeName_13 : decode cX8_takeName 13 = .ok (.invokevirtual 31, 3) := by decide +kernel
theorem dX8_takeName_16 : decode cX8_takeName 16 = .ok (.iload_n 3, 1) := by decide +kernel
theorem dX8_takeName_17 : decode cX8_takeName 17 = .ok (.ireturn, 1) := by decide +kernel
theorem dX9_of_0 : decode cX9_of 0 = .ok (.iconst 0, 1) := by decide +kernel
theorem dX9_of_1 : decode cX9_of 1 = .ok (.istore_n 2, 1) := by decide +kernel
theorem dX9_of_2 : decode cX9_of 2 = .ok (.iload_n 2, 1) := by decide +kernel
theorem dX9_of_3 : decode cX9_of 3 = .ok (.getstatic 107, 3) := by decide +kernel
theorem dX9_of_6 : decode cX9_of 6 = .ok (.arraylength, 1) := by decide +kernel
theorem dX9_of_7 : decode cX9_of 7 = .ok (.if_icmp .ge 28, 3) := by decide +kernel
theorem dX9_of_10 : decode cX9_of 10 = .ok (.getstatic 107, 3) := by decide +kernel
theorem dX9_of_13 : decode cX9_of 13 = .ok (.iload_n 2, 1) := by decide +kernel
theorem dX9_of_14 : decode cX9_of 14 = .ok (.aaload, 1) := by decide +kernel
theorem dX9_of_15 : decode cX9_of 15 = .ok (.getfield 93, 3) := by decide +kernel
theorem dX9_of_18 : decode cX9_of 18 = .ok (.lload_n 0, 1) := by decide +kernel
theorem dX9_of_19 : decode cX9_of 19 = .ok (.lcmp, 1) := by decide +kernel
theorem dX9_of_20 : decode cX9_of 20 = .ok (.ifCond .ne 9, 3) := by decide +kernel
theorem dX9_of_23 : decode cX9_of 23 = .ok (.getstatic 107, 3) := by decide +kernel
theorem dX9_of_26 : decode cX9_of 26 = .ok (.iload_n 2, 1) := by decide +kernel
theorem dX9_of_27 : decode cX9_of 27 = .ok (.aaload, 1) := by decide +kernel
theorem dX9_of_28 : decode cX9_of 28 = .ok (.areturn, 1) := by decide +kernel
theorem dX9_of_29 : decode cX9_of 29 = .ok (.iinc 2 1, 3) := by decide +kernel
theorem dX9_of_32 : decode cX9_of 32 = .ok (.goto (-30), 3) := by decide +kernel
theorem dX9_of_35 : decode cX9_of 35 = .ok (.aconst_null, 1) := by decide +kernel
theorem dX9_of_36 : decode cX9_of 36 = .ok (.areturn, 1) := by decide +kernel
theorem dX10_init_0 : decode cX10_init 0 = .ok (.aload_n 0, 1) := by decide +kernel
theorem dX10_init_1 : decode cX10_init 1 = .ok (.invokespecial 1, 3) := by decide +kernel
theorem dX10_init_4 : decode cX10_init 4 = .ok (.aload_n 0, 1) := by decide +kernel
theorem dX10_init_5 : decode cX10_init 5 = .ok (.new 7, 3) := by decide +kernel
theorem dX10_init_8 : decode cX10_init 8 = .ok (.dup, 1) := by decide +kernel
theorem dX10_init_9 : decode cX10_init 9 = .ok (.invokespecial 9, 3) := by decide +kernel
theorem dX10_init_12 : decode cX10_init 12 = .ok (.putfield 10, 3) := by decide +kernel
theorem dX10_init_15 : decode cX10_init 15 = .ok (.aload_n 0, 1) := by decide +kernel
theorem dX10_init_16 : decode cX10_init 16 = .ok (.new 16, 3) := by decide +kernel
theorem dX10_init_19 : decode cX10_init 19 = .ok (.dup, 1) := by decide +kernel
theorem dX10_init_20 : decode cX10_init 20 = .ok (.invokespecial 18, 3) := by decide +kernel
theorem dX10_init_23 : decode cX10_init 23 = .ok (.putfield 19, 3) := by decide +kernel
theorem dX10_init_26 : decode cX10_init 26 = .ok (.aload_n 0, 1) := by decide +kernel
theorem dX10_init_27 : decode cX10_init 27 = .ok (.new 23, 3) := by decide +kernel
theorem dX10_init_30 : decode cX10_init 30 = .ok (.dup, 1) := by decide +kernel
theorem dX10_init_31 : decode cX10_init 31 = .ok (.invokespecial 25, 3) := by decide +kernel
theorem dX10_init_34 : decode cX10_init 34 = .ok (.putfield 26, 3) := by decide +kernel
theorem dX10_init_37 : decode cX10_init 37 = .ok (.aload_n 0, 1) := by decide +kernel
theorem dX10_init_38 : decode cX10_init 38 = .ok (.new 30, 3) := by decide +kernel
theorem dX10_init_41 : decode cX10_init 41 = .ok (.dup, 1) := by decide +kernel
theorem dX10_init_42 : decode cX10_init 42 = .ok (.invokespecial 32, 3) := by decide +kernel
theorem dX10_init_45 : decode cX10_init 45 = .ok (.putfield 33, 3) := by decide +kernel
theorem dX10_init_48 : decode cX10_init 48 = .ok (.aload_n 0, 1) := by decide +kernel
theorem dX10_init_49 : decode cX10_init 49 = .ok (.new 37, 3) := by decide +kernel
theorem dX10_init_52 : decode cX10_init 52 = .ok (.dup, 1) := by decide +kernel
theorem dX10_init_53 : decode cX10_init 53 = .ok (.invokespecial 39, 3) := by decide +kernel
theorem dX10_init_56 : decode cX10_init 56 = .ok (.putfield 40, 3) := by decide +kernel
theorem dX10_init_59 : decode cX10_init 59 = .ok (.aload_n 0, 1) := by decide +kernel
theorem dX10_init_60 : decode cX10_init 60 = .ok (.iconst 2, 1) := by decide +kernel
theorem dX10_init_61 : decode cX10_init 61 = .ok (.anewarray 44, 3) := by decide +kernel
theorem dX10_init_64 : decode cX10_init 64 = .ok (.putfield 46, 3) := by decide +kernel
theorem dX10_init_67 : decode cX10_init 67 = .ok (.iconst 0, 1) := by decide +kernel
theorem dX10_init_68 : decode cX10_init 68 = .ok (.istore_n 1, 1) := by decide +kernel
theorem dX10_init_69 : decode cX10_init 69 = .ok (.iload_n 1, 1) := by decide +kernel
theorem dX10_init_70 : decode cX10_init 70 = .ok (.iconst 2, 1) := by decide +kernel
theorem dX10_init_71 : decode cX10_init 71 = .ok (.if_icmp .ge 22, 3) := by decide +kernel
theorem dX10_init_74 : decode cX10_init 74 = .ok (.aload_n 0, 1) := by decide +kernel
theorem dX10_init_75 : decode cX10_init 75 = .ok (.getfield 46, 3) := by decide +kernel
theorem dX10_init_78 : decode cX10_init 78 = .ok (.iload_n 1, 1) := by decide +kernel
theorem dX10_init_79 : decode cX10_init 79 = .ok (.new 44, 3) := by decide +kernel
theorem dX10_init_82 : decode cX10_init 82 = .ok (.dup, 1) := by decide +kernel
theorem dX10_init_83 : decode cX10_init 83 = .ok (.invokespecial 50, 3) := by decide +kernel
theorem dX10_init_86 : decode cX10_init 86 = .ok (.aastore, 1) := by decide +kernel
theorem dX10_init_87 : decode cX10_init 87 = .ok (.iinc 1 1, 3) := by decide +kernel
theorem dX10_init_90 : decode cX10_init 90 = .ok (.goto (-21), 3) := by decide +kernel
theorem dX10_init_93 : decode cX10_init 93 = .ok (.aload_n 0, 1) := by decide +kernel
theorem dX10_init_94 : decode cX10_init 94 = .ok (.new 51, 3) := by decide +kernel
theorem dX10_init_97 : decode cX10_init 97 = .ok (.dup, 1) := by decide +kernel
theorem dX10_init_98 : decode cX10_init 98 = .ok (.invokespecial 53, 3) := by decide +kernel
theorem dX10_init_101 : decode cX10_init 101 = .ok (.putfield 54, 3) := by decide +kernel
theorem dX10_init_104 : decode cX10_init 104 = .ok (.aload_n 0, 1) := by decide +kernel
theorem dX10_init_105 : decode cX10_init 105 = .ok (.new 58, 3) := by decide +kernel
theorem dX10_init_108 : decode cX10_init 108 = .ok (.dup, 1) := by decide +kernel
theorem dX10_init_109 : decode cX10_init 109 = .ok (.invokespecial 60, 3) := by decide +kernel
theorem dX10_init_112 : decode cX10_init 112 = .ok (.putfield 61, 3) := by decide +kernel
theorem dX10_init_115 : decode cX10_init 115 = .ok (.aload_n 0, 1) := by decide +kernel
theorem dX10_init_116 : decode cX10_init 116 = .ok (.new 65, 3) := by decide +kernel
theorem dX10_init_119 : decode cX10_init 119 = .ok (.dup, 1) := by decide +kernel
theorem dX10_init_120 : decode cX10_init 120 = .ok (.invokespecial 67, 3) := by decide +kernel
theorem dX10_init_123 : decode cX10_init 123 = .ok (.putfield 68, 3) := by decide +kernel
theorem dX10_init_126 : decode cX10_init 126 = .ok (.aload_n 0, 1) := by decide +kernel
theorem dX10_init_127 : decode cX10_init 127 = .ok (.new 16, 3) := by decide +kernel
theorem dX10_init_130 : decode cX10_init 130 = .ok (.dup, 1) := by decide +kernel
theorem dX10_init_131 : decode cX10_init 131 = .ok (.invokespecial 18, 3) := by decide +kernel
theorem dX10_init_134 : decode cX10_init 134 = .ok (.putfield 72, 3) := by decide +kernel
theorem dX10_init_137 : decode cX10_init 137 = .ok (.aload_n 0, 1) := by decide +kernel
theorem dX10_init_138 : decode cX10_init 138 = .ok (.new 30, 3) := by decide +kernel
theorem dX10_init_141 : decode cX10_init 141 = .ok (.dup, 1) := by decide +kernel
theorem dX10_init_142 : decode cX10_init 142 = .ok (.invokespecial 32, 3) := by decide +kernel
theorem dX10_init_145 : decode cX10_init 145 = .ok (.putfield 75, 3) := by decide +kernel
theorem dX10_init_148 : decode cX10_init 148 = .ok (.aload_n 0, 1) := by decide +kernel
theorem dX10_init_149 : decode cX10_init 149 = .ok (.new 23, 3) := by decide +kernel
theorem dX10_init_152 : decode cX10_init 152 = .ok (.dup, 1) := by decide +kernel
theorem dX10_init_153 : decode cX10_init 153 = .ok (.invokespecial 25, 3) := by decide +kernel
theorem dX10_init_156 : decode cX10_init 156 = .ok (.putfield 78, 3) := by decide +kernel
theorem dX10_init_159 : decode cX10_init 159 = .ok (.aload_n 0, 1) := by decide +kernel
theorem dX10_init_160 : decode cX10_init 160 = .ok (.iconst 0, 1) := by decide +kernel
theorem dX10_init_161 : decode cX10_init 161 = .ok (.putfield 81, 3) := by decide +kernel
theorem dX10_init_164 : decode cX10_init 164 = .ok (.aload_n 0, 1) := by decide +kernel
theorem dX10_init_165 : decode cX10_init 165 = .ok (.iconst (-1), 1) := by decide +kernel
theorem dX10_init_166 : decode cX10_init 166 = .ok (.putfield 85, 3) := by decide +kernel
theorem dX10_init_169 : decode cX10_init 169 = .ok (.aload_n 0, 1) := by decide +kernel
theorem dX10_init_170 : decode cX10_init 170 = .ok (.iconst (-1), 1) := by decide +kernel
theorem dX10_init_171 : decode cX10_init 171 = .ok (.putfield 88, 3) := by decide +kernel
theorem dX10_init_174 : decode cX10_init 174 = .ok (.aload_n 0, 1) := by decide +kernel
theorem dX10_init_175 : decode cX10_init 175 = .ok (.iconst (-1), 1) := by decide +kernel
theorem dX10_init_176 : decode cX10_init 176 = .ok (.putfield 91, 3) := by decide +kernel
theorem dX10_init_179 : decode cX10_init 179 = .ok (.return_, 1) := by decide +kernel
theorem dX10_feed_0 : decode cX10_feed 0 = .ok (.aload_n 0, 1) := by decide +kernel
theorem dX10_feed_1 : decode cX10_feed 1 = .ok (.getfield 10, 3) := by decide +kernel
theorem dX10_feed_4 : decode cX10_feed 4 = .ok (.getfield 94, 3) := by decide +kernel
theorem dX10_feed_7 : decode cX10_feed 7 = .ok (.bipush 20, 2) := by decide +kernel
theorem dX10_feed_9 : decode cX10_feed 9 = .ok (.iadd, 1) := by decide +kernel
theorem dX10_feed_10 : decode cX10_feed 10 = .ok (.sipush 940, 3) := by decide +kernel
theorem dX10_feed_13 : decode cX10_feed 13 = .ok (.if_icmp .le 5, 3) := by decide +kernel
theorem dX10_feed_16 : decode cX10_feed 16 = .ok (.iconst (-1), 1) := by decide +kernel
theorem dX10_feed_17 : decode cX10_feed 17 = .ok (.ireturn, 1) := by decide +kernel
theorem dX10_feed_18 : decode cX10_feed 18 = .ok (.aload_n 0, 1) := by decide +kernel
theorem dX10_feed_19 : decode cX10_feed 19 = .ok (.getfield 10, 3) := by decide +kernel
theorem dX10_feed_22 : decode cX10_feed 22 = .ok (.iload_n 1, 1) := by decide +kernel
theorem dX10_feed_23 : decode cX10_feed 23 = .ok (.invokevirtual 97, 3) := by decide +kernel
theorem dX10_feed_26 : decode cX10_feed 26 = .ok (.aload_n 0, 1) := by decide +kernel
theorem dX10_feed_27 : decode cX10_feed 27 = .ok (.getfield 10, 3) := by decide +kernel
theorem dX10_feed_30 : decode cX10_feed 30 = .ok (.iload_n 2, 1) := by decide +kernel
theorem dX10_feed_31 : decode cX10_feed 31 = .ok (.invokevirtual 97, 3) := by decide +kernel
theorem dX10_feed_34 : decode cX10_feed 34 = .ok (.aload_n 0, 1) := by decide +kernel
theorem dX10_feed_35 : decode cX10_feed 35 = .ok (.getfield 10, 3) := by decide +kernel
theorem dX10_feed_38 : decode cX10_feed 38 = .ok (.iload_n 3, 1) := by decide +kernel
theorem dX10_feed_39 : decode cX10_feed 39 = .ok (.invokevirtual 97, 3) := by decide +kernel
theorem dX10_feed_42 : decode cX10_feed 42 = .ok (.aload_n 0, 1) := by decide +kernel
theorem dX10_feed_43 : decode cX10_feed 43 = .ok (.getfield 10, 3) := by decide +kernel
theorem dX10_feed_46 : decode cX10_feed 46 = .ok (.iload 4, 2) := by decide +kernel
theorem dX10_feed_48 : decode cX10_feed 48 = .ok (.invokevirtual 97, 3) := by decide +kernel
theorem dX10_feed_51 : decode cX10_feed 51 = .ok (.aload_n 0, 1) := by decide +kernel
theorem dX10_feed_52 : decode cX10_feed 52 = .ok (.getfield 10, 3) := by decide +kernel
theorem dX10_feed_55 : decode cX10_feed 55 = .ok (.iload 5, 2) := by decide +kernel
theorem dX10_feed_57 : decode cX10_feed 57 = .ok (.invokevirtual 97, 3) := by decide +kernel
theorem dX10_feed_60 : decode cX10_feed 60 = .ok (.aload_n 0, 1) := by decide +kernel
theorem dX10_feed_61 : decode cX10_feed 61 = .ok (.getfield 10, 3) := by decide +kernel
theorem dX10_feed_64 : decode cX10_feed 64 = .ok (.getfield 94, 3) := by decide +kernel
theorem dX10_feed_67 : decode cX10_feed 67 = .ok (.ireturn, 1) := by decide +kernel
theorem dX10_end_0 : decode cX10_end 0 = .ok (.iload_n 1, 1) := by decide +kernel
theorem dX10_end_1 : decode cX10_end 1 = .ok (.ifCond .lt 14, 3) := by decide +kernel
theorem dX10_end_4 : decode cX10_end 4 = .ok (.iload_n 1, 1) := by decide +kernel
theorem dX10_end_5 : decode cX10_end 5 = .ok (.aload_n 0, 1) := by decide +kernel
theorem dX10_end_6 : decode cX10_end 6 = .ok (.getfield 10, 3) := by decide +kernel
theorem dX10_end_9 : decode cX10_end 9 = .ok (.getfield 94, 3) := by decide +kernel
theorem dX10_end_12 : decode cX10_end 12 = .ok (.if_icmp .le 5, 3) := by decide +kernel
theorem dX10_end_15 : decode cX10_end 15 = .ok (.iconst 0, 1) := by decide +kernel
theorem dX10_end_16 : decode cX10_end 16 = .ok (.ireturn, 1) := by decide +kernel
theorem dX10_end_17 : decode cX10_end 17 = .ok (.aload_n 0, 1) := by decide +kernel
theorem dX10_end_18 : decode cX10_end 18 = .ok (.getfield 10, 3) := by decide +kernel
theorem dX10_end_21 : decode cX10_end 21 = .ok (.iload_n 1, 1) := by decide +kernel
theorem dX10_end_22 : decode cX10_end 22 = .ok (.putfield 94, 3) := by decide +kernel
theorem dX10_end_25 : decode cX10_end 25 = .ok (.iconst 1, 1) := by decide +kernel
theorem dX10_end_26 : decode cX10_end 26 = .ok (.ireturn, 1) := by decide +kernel
theorem dX10_quarter_0 : decode cX10_quarter 0 = .ok (.aload_n 0, 1) := by decide +kernel
theorem dX10_quarter_1 : decode cX10_quarter 1 = .ok (.getfield 72, 3) := by decide +kernel
theorem dX10_quarter_4 : decode cX10_quarter 4 = .ok (.aload_n 0, 1) := by decide +kernel
theorem dX10_quarter_5 : decode cX10_quarter 5 = .ok (.getfield 10, 3) := by decide +kernel
theorem dX10_quarter_8 : decode cX10_quarter 8 = .ok (.aload_n 0, 1) := by decide +kernel
theorem dX10_quarter_9 : decode cX10_quarter 9 = .ok (.getfield 78, 3) := by decide +kernel
theorem dX10_quarter_12 : decode cX10_quarter 12 = .ok (.invokevirtual 101, 3) := by decide +kernel
theorem dX10_quarter_15 : decode cX10_quarter 15 = .ok (.istore_n 1, 1) := by decide +kernel
theorem dX10_quarter_16 : decode cX10_quarter 16 = .ok (.aload_n 0, 1) := by decide +kernel
theorem dX10_quarter_17 : decode cX10_quarter 17 = .ok (.getfield 10, 3) := by decide +kernel
theorem dX10_quarter_20 : decode cX10_quarter 20 = .ok (.iconst 0, 1) := by decide +kernel
theorem dX10_quarter_21 : decode cX10_quarter 21 = .ok (.putfield 94, 3) := by decide +kernel
theorem dX10_quarter_24 : decode cX10_quarter 24 = .ok (.aload_n 0, 1) := by decide +kernel
theorem dX10_quarter_25 : decode cX10_quarter 25 = .ok (.aload_n 0, 1) := by decide +kernel
theorem dX10_quarter_26 : decode cX10_quarter 26 = .ok (.getfield 10, 3) := by decide +kernel
theorem dX10_quarter_29 : decode cX10_quarter 29 = .ok (.getfield 105, 3) := by decide +kernel
theorem dX10_quarter_32 : decode cX10_quarter 32 = .ok (.putfield 81, 3) := by decide +kernel
theorem dX10_quarter_35 : decode cX10_quarter 35 = .ok (.aload_n 0, 1) := by decide +kernel
theorem dX10_quarter_36 : decode cX10_quarter 36 = .ok (.getfield 81, 3) := by decide +kernel
theorem dX10_quarter_39 : decode cX10_quarter 39 = .ok (.ifCond .eq 13, 3) := by decide +kernel
theorem dX10_quarter_42 : decode cX10_quarter 42 = .ok (.iconst (-1), 1) := by decide +kernel
theorem dX10_quarter_43 : decode cX10_quarter 43 = .ok (.aload_n 0, 1) := by decide +kernel
theorem dX10_quarter_44 : decode cX10_quarter 44 = .ok (.getfield 10, 3) := by decide +kernel
theorem dX10_quarter_47 : decode cX10_quarter 47 = .ok (.getfield 108, 3) := by decide +kernel
theorem dX10_quarter_50 : decode cX10_quarter 50 = .ok (.isub, 1) := by decide +kernel
theorem dX10_quarter_51 : decode cX10_quarter 51 = .ok (.ireturn, 1) := by decide +kernel
theorem dX10_quarter_52 : decode cX10_quarter 52 = .ok (.aload_n 0, 1) := by decide +kernel
theorem dX10_quarter_53 : decode cX10_quarter 53 = .ok (.getfield 19, 3) := by decide +kernel
theorem dX10_quarter_56 : decode cX10_quarter 56 = .ok (.aload_n 0, 1) := by decide +kernel
theorem dX10_quarter_57 : decode cX10_quarter 57 = .ok (.getfield 72, 3) := by decide +kernel
theorem dX10_quarter_60 : decode cX10_quarter 60 = .ok (.invokevirtual 111, 3) := by decide +kernel
theorem dX10_quarter_63 : decode cX10_quarter 63 = .ok (.aload_n 0, 1) := by decide +kernel
theorem dX10_quarter_64 : decode cX10_quarter 64 = .ok (.getfield 26, 3) := by decide +kernel
theorem dX10_quarter_67 : decode cX10_quarter 67 = .ok (.aload_n 0, 1) := by decide +kernel
theorem dX10_quarter_68 : decode cX10_quarter 68 = .ok (.getfield 78, 3) := by decide +kernel
theorem dX10_quarter_71 : decode cX10_quarter 71 = .ok (.invokevirtual 115, 3) := by decide +kernel
theorem dX10_quarter_74 : decode cX10_quarter 74 = .ok (.aload_n 0, 1) := by decide +kernel
theorem dX10_quarter_75 : decode cX10_quarter 75 = .ok (.getfield 33, 3) := by decide +kernel
theorem dX10_quarter_78 : decode cX10_quarter 78 = .ok (.invokevirtual 118, 3) := by decide +kernel
theorem dX10_quarter_81 : decode cX10_quarter 81 = .ok (.aload_n 0, 1) := by decide +kernel
theorem dX10_quarter_82 : decode cX10_quarter 82 = .ok (.getfield 40, 3) := by decide +kernel
theorem dX10_quarter_85 : decode cX10_quarter 85 = .ok (.invokevirtual 121, 3) := by decide +kernel
theorem dX10_quarter_88 : decode cX10_quarter 88 = .ok (.iload_n 1, 1) := by decide +kernel
theorem dX10_quarter_89 : decode cX10_quarter 89 = .ok (.ireturn, 1) := by decide +kernel
theorem dX10_fault_0 : decode cX10_fault 0 = .ok (.aload_n 0, 1) := by decide +kernel
theorem dX10_fault_1 : decode cX10_fault 1 = .ok (.getfield 81, 3) := by decide +kernel
theorem dX10_fault_4 : decode cX10_fault 4 = .ok (.ireturn, 1) := by decide +kernel
theorem dX10_person_0 : decode cX10_person 0 = .ok (.aload_n 0, 1) := by decide +kernel
theorem dX10_person_1 : decode cX10_person 1 = .ok (.iload_n 1, 1) := by decide +kernel
theorem dX10_person_2 : decode cX10_person 2 = .ok (.invokevirtual 122, 3) := by decide +kernel
theorem dX10_person_5 : decode cX10_person 5 = .ok (.ifCond .ne 13, 3) := by decide +kernel
theorem dX10_person_8 : decode cX10_person 8 = .ok (.new 126, 3) := by decide +kernel
theorem dX10_person_11 : decode cX10_person 11 = .ok (.dup, 1) := by decide +kernel
theorem dX10_person_12 : decode cX10_person 12 = .ok (.ldc 128, 2) := by decide +kernel
theorem dX10_person_14 : decode cX10_person 14 = .ok (.invokespecial 130, 3) := by decide +kernel
theorem dX10_person_17 : decode cX10_person 17 = .ok (.athrow, 1) := by decide +kernel
theorem dX10_person_18 : decode cX10_person 18 = .ok (.iload_n 2, 1) := by decide +kernel
theorem dX10_person_19 : decode cX10_person 19 = .ok (.tableswitch 123 0 6 #[41, 51, 61, 71, 80, 93, 106], 41) := by decide +kernel
theorem dX10_person_60 : decode cX10_person 60 = .ok (.aload_n 0, 1) := by decide +kernel
theorem dX10_person_61 : decode cX10_person 61 = .ok (.getfield 19, 3) := by decide +kernel
theorem dX10_person_64 : decode cX10_person 64 = .ok (.getfield 133, 3) := by decide +kernel
theorem dX10_person_67 : decode cX10_person 67 = .ok (.iload_n 1, 1) := by decide +kernel
theorem dX10_person_68 : decode cX10_person 68 = .ok (.iaload, 1) := by decide +kernel
theorem dX10_person_69 : decode cX10_person 69 = .ok (.ireturn, 1) := by decide +kernel
theorem dX10_person_70 : decode cX10_person 70 = .ok (.aload_n 0, 1) := by decide +kernel
theorem dX10_person_71 : decode cX10_person 71 = .ok (.getfield 26, 3) := by decide +kernel
theorem dX10_person_74 : decode cX10_person 74 = .ok (.getfield 137, 3) := by decide +kernel
theorem dX10_person_77 : decode cX10_person 77 = .ok (.iload_n 1, 1) := by decide +kernel
theorem dX10_person_78 : decode cX10_person 78 = .ok (.iaload, 1) := by decide +kernel
theorem dX10_person_79 : decode cX10_person 79 = .ok (.ireturn, 1) := by decide +kernel
theorem dX10_person_80 : decode cX10_person 80 = .ok (.aload_n 0, 1) := by decide +kernel
theorem dX10_person_81 : decode cX10_person 81 = .ok (.getfield 26, 3) := by decide +kernel
theorem dX10_person_84 : decode cX10_person 84 = .ok (.getfield 140, 3) := by decide +kernel
theorem dX10_person_87 : decode cX10_person 87 = .ok (.iload_n 1, 1) := by decide +kernel
theorem dX10_person_88 : decode cX10_person 88 = .ok (.iaload, 1) := by decide +kernel
theorem dX10_person_89 : decode cX10_person 89 = .ok (.ireturn, 1) := by decide +kernel
theorem dX10_person_90 : decode cX10_person 90 = .ok (.aload_n 0, 1) := by decide +kernel
theorem dX10_person_91 : decode cX10_person 91 = .ok (.getfield 26, 3) := by decide +kernel
theorem dX10_person_94 : decode cX10_person 94 = .ok (.iload_n 1, 1) := by decide +kernel
theorem dX10_person_95 : decode cX10_person 95 = .ok (.invokevirtual 143, 3) := by decide +kernel
theorem dX10_person_98 : decode cX10_person 98 = .ok (.ireturn, 1) := by decide +kernel
theorem dX10_person_99 : decode cX10_person 99 = .ok (.aload_n 0, 1) := by decide +kernel
theorem dX10_person_100 : decode cX10_person 100 = .ok (.getfield 26, 3) := by decide +kernel
theorem dX10_person_103 : decode cX10_person 103 = .ok (.aload_n 0, 1) := by decide +kernel
theorem dX10_person_104 : decode cX10_person 104 = .ok (.getfield 19, 3) := by decide +kernel
theorem dX10_person_107 : decode cX10_person 107 = .ok (.iload_n 1, 1) := by decide +kernel
theorem dX10_person_108 : decode cX10_person 108 = .ok (.invokevirtual 147, 3) := by decide +kernel
theorem dX10_person_111 : decode cX10_person 111 = .ok (.ireturn, 1) := by decide +kernel
theorem dX10_person_112 : decode cX10_person 112 = .ok (.aload_n 0, 1) := by decide +kernel
theorem dX10_person_113 : decode cX10_person 113 = .ok (.getfield 26, 3) := by decide +kernel
theorem dX10_person_116 : decode cX10_person 116 = .ok (.aload_n 0, 1) := by decide +kernel
theorem dX10_person_117 : decode cX10_person 117 = .ok (.getfield 19, 3) := by decide +kernel
theorem dX10_person_120 : decode cX10_person 120 = .ok (.iload_n 1, 1) := by decide +kernel
theorem dX10_person_121 : decode cX10_person 121 = .ok (.invokevirtual 151, 3) := by decide +kernel
theorem dX10_person_124 : decode cX10_person 124 = .ok (.ireturn, 1) := by decide +kernel
theorem dX10_person_125 : decode cX10_person 125 = .ok (.aload_n 0, 1) := by decide +kernel
theorem dX10_person_126 : decode cX10_person 126 = .ok (.getfield 26, 3) := by decide +kernel
theorem dX10_person_129 : decode cX10_person 129 = .ok (.iload_n 1, 1) := by decide +kernel
theorem dX10_person_130 : decode cX10_person 130 = .ok (.invokevirtual 154, 3) := by decide +kernel
theorem dX10_person_133 : decode cX10_person 133 = .ok (.ifCond .eq 7, 3) := by decide +kernel
theorem dX10_person_136 : decode cX10_person 136 = .ok (.iconst 1, 1) := by decide +kernel
theorem dX10_person_137 : decode cX10_person 137 = .ok (.goto 4, 3) := by decide +kernel
theorem dX10_person_140 : decode cX10_person 140 = .ok (.iconst 0, 1) := by decide +kernel
theorem dX10_person_141 : decode cX10_person 141 = .ok (.ireturn, 1) := by decide +kernel
theorem dX10_person_142 : decode cX10_person 142 = .ok (.new 126, 3) := by decide +kernel
theorem dX10_person_145 : decode cX10_person 145 = .ok (.dup, 1) := by decide +kernel
theorem dX10_person_146 : decode cX10_person 146 = .ok (.ldc 157, 2) := by decide +kernel
theorem dX10_person_148 : decode cX10_person 148 = .ok (.invokespecial 130, 3) := by decide +kernel
theorem dX10_person_151 : decode cX10_person 151 = .ok (.athrow, 1) := by decide +kernel
theorem dX10_layer_0 : decode cX10_layer 0 = .ok (.aload_n 0, 1) := by decide +kernel
theorem dX10_layer_1 : decode cX10_layer 1 = .ok (.iload_n 1, 1) := by decide +kernel
theorem dX10_layer_2 : decode cX10_layer 2 = .ok (.invokevirtual 122, 3) := by decide +kernel
theorem dX10_layer_5 : decode cX10_layer 5 = .ok (.ifCond .eq 15, 3) := by decide +kernel
theorem dX10_layer_8 : decode cX10_layer 8 = .ok (.aload_n 0, 1) := by decide +kernel
theorem dX10_layer_9 : decode cX10_layer 9 = .ok (.getfield 26, 3) := by decide +kernel
theorem dX10_layer_12 : decode cX10_layer 12 = .ok (.iload_n 1, 1) := by decide +kernel
theorem dX10_layer_13 : decode cX10_layer 13 = .ok (.iload_n 2, 1) := by decide +kernel
theorem dX10_layer_14 : decode cX10_layer 14 = .ok (.invokevirtual 159, 3) := by decide +kernel
theorem dX10_layer_17 : decode cX10_layer 17 = .ok (.goto 4, 3) := by decide +kernel
theorem dX10_layer_20 : decode cX10_layer 20 = .ok (.iconst (-1), 1) := by decide +kernel
theorem dX10_layer_21 : decode cX10_layer 21 = .ok (.ireturn, 1) := by decide +kernel
theorem dX10_thing_0 : decode cX10_thing 0 = .ok (.aload_n 0, 1) := by decide +kernel
theorem dX10_thing_1 : decode cX10_thing 1 = .ok (.iload_n 1, 1) := by decide +kernel
theorem dX10_thing_2 : decode cX10_thing 2 = .ok (.invokevirtual 163, 3) := by decide +kernel
theorem dX10_thing_5 : decode cX10_thing 5 = .ok (.ifCond .ne 5, 3) := by decide +kernel
theorem dX10_thing_8 : decode cX10_thing 8 = .ok (.iconst (-1), 1) := by decide +kernel
theorem dX10_thing_9 : decode cX10_thing 9 = .ok (.ireturn, 1) := by decide +kernel
theorem dX10_thing_10 : decode cX10_thing 10 = .ok (.iload_n 2, 1) := by decide +kernel
theorem dX10_thing_11 : decode cX10_thing 11 = .ok (.tableswitch 89 0 4 #[33, 43, 53, 63, 76], 33) := by decide +kernel
theorem dX10_thing_44 : decode cX10_thing 44 = .ok (.aload_n 0, 1) := by decide +kernel
theorem dX10_thing_45 : decode cX10_thing 45 = .ok (.getfield 19, 3) := by decide +kernel
theorem dX10_thing_48 : decode cX10_thing 48 = .ok (.getfield 166, 3) := by decide +kernel
theorem dX10_thing_51 : decode cX10_thing 51 = .ok (.iload_n 1, 1) := by decide +kernel
theorem dX10_thing_52 : decode cX10_thing 52 = .ok (.iaload, 1) := by decide +kernel
theorem dX10_thing_53 : decode cX10_thing 53 = .ok (.ireturn, 1) := by decide +kernel
theorem dX10_thing_54 : decode cX10_thing 54 = .ok (.aload_n 0, 1) := by decide +kernel
theorem dX10_thing_55 : decode cX10_thing 55 = .ok (.getfield 19, 3) := by decide +kernel
theorem dX10_thing_58 : decode cX10_thing 58 = .ok (.getfield 169, 3) := by decide +kernel
theorem dX10_thing_61 : decode cX10_thing 61 = .ok (.iload_n 1, 1) := by decide +kernel
theorem dX10_thing_62 : decode cX10_thing 62 = .ok (.iaload, 1) := by decide +kernel
theorem dX10_thing_63 : decode cX10_thing 63 = .ok (.ireturn, 1) := by decide +kernel
theorem dX10_thing_64 : decode cX10_thing 64 = .ok (.aload_n 0, 1) := by decide +kernel
theorem dX10_thing_65 : decode cX10_thing 65 = .ok (.getfield 26, 3) := by decide +kernel
theorem dX10_thing_68 : decode cX10_thing 68 = .ok (.getfield 172, 3) := by decide +kernel
theorem dX10_thing_71 : decode cX10_thing 71 = .ok (.iload_n 1, 1) := by decide +kernel
theorem dX10_thing_72 : decode cX10_thing 72 = .ok (.iaload, 1) := by decide +kernel
theorem dX10_thing_73 : decode cX10_thing 73 = .ok (.ireturn, 1) := by decide +kernel
theorem dX10_thing_74 : decode cX10_thing 74 = .ok (.aload_n 0, 1) := by decide +kernel
theorem dX10_thing_75 : decode cX10_thing 75 = .ok (.getfield 26, 3) := by decide +kernel
theorem dX10_thing_78 : decode cX10_thing 78 = .ok (.aload_n 0, 1) := by decide +kernel
theorem dX10_thing_79 : decode cX10_thing 79 = .ok (.getfield 19, 3) := by decide +kernel
theorem dX10_thing_82 : decode cX10_thing 82 = .ok (.iload_n 1, 1) := by decide +kernel
theorem dX10_thing_83 : decode cX10_thing 83 = .ok (.invokevirtual 175, 3) := by decide +kernel
theorem dX10_thing_86 : decode cX10_thing 86 = .ok (.ireturn, 1) := by decide +kernel
theorem dX10_thing_87 : decode cX10_thing 87 = .ok (.aload_n 0, 1) := by decide +kernel
theorem dX10_thing_88 : decode cX10_thing 88 = .ok (.getfield 26, 3) := by decide +kernel
theorem dX10_thing_91 : decode cX10_thing 91 = .ok (.aload_n 0, 1) := by decide +kernel
theorem dX10_thing_92 : decode cX10_thing 92 = .ok (.getfield 19, 3) := by decide +kernel
theorem dX10_thing_95 : decode cX10_thing 95 = .ok (.iload_n 1, 1) := by decide +kernel
theorem dX10_thing_96 : decode cX10_thing 96 = .ok (.invokevirtual 178, 3) := by decide +kernel
theorem dX10_thing_99 : decode cX10_thing 99 = .ok (.ireturn, 1) := by decide +kernel
theorem dX10_thing_100 : decode cX10_thing 100 = .ok (.iconst (-1), 1) := by decide +kernel
theorem dX10_thing_101 : decode cX10_thing 101 = .ok (.ireturn, 1) := by decide +kernel
theorem dX10_bed_0 : decode cX10_bed 0 = .ok (.aload_n 0, 1) := by decide +kernel
theorem dX10_bed_1 : decode cX10_bed 1 = .ok (.iload_n 1, 1) := by decide +kernel
theorem dX10_bed_2 : decode cX10_bed 2 = .ok (.invokevirtual 181, 3) := by decide +kernel
theorem dX10_bed_5 : decode cX10_bed 5 = .ok (.ifCond .ne 5, 3) := by decide +kernel
theorem dX10_bed_8 : decode cX10_bed 8 = .ok (.iconst (-1), 1) := by decide +kernel
theorem dX10_bed_9 : decode cX10_bed 9 = .ok (.ireturn, 1) := by decide +kernel
theorem dX10_bed_10 : decode cX10_bed 10 = .ok (.iload_n 2, 1) := by decide +kernel
theorem dX10_bed_11 : decode cX10_bed 11 = .ok (.tableswitch 80 0 3 #[29, 39, 49, 70], 29) := by decide +kernel
theorem dX10_bed_40 : decode cX10_bed 40 = .ok (.aload_n 0, 1) := by decide +kernel
theorem dX10_bed_41 : decode cX10_bed 41 = .ok (.getfield 19, 3) := by decide +kernel
theorem dX10_bed_44 : decode cX10_bed 44 = .ok (.getfield 184, 3) := by decide +kernel
theorem dX10_bed_47 : decode cX10_bed 47 = .ok (.iload_n 1, 1) := by decide +kernel
theorem dX10_bed_48 : decode cX10_bed 48 = .ok (.iaload, 1) := by decide +kernel
theorem dX10_bed_49 : decode cX10_bed 49 = .ok (.ireturn, 1) := by decide +kernel
theorem dX10_bed_50 : decode cX10_bed 50 = .ok (.aload_n 0, 1) := by decide +kernel
theorem dX10_bed_51 : decode cX10_bed 51 = .ok (.getfield 26, 3) := by decide +kernel
theorem dX10_bed_54 : decode cX10_bed 54 = .ok (.getfield 187, 3) := by decide +kernel
theorem dX10_bed_57 : decode cX10_bed 57 = .ok (.iload_n 1, 1) := by decide +kernel
theorem dX10_bed_58 : decode cX10_bed 58 = .ok (.iaload, 1) := by decide +kernel
theorem dX10_bed_59 : decode cX10_bed 59 = .ok (.ireturn, 1) := by decide +kernel
theorem dX10_bed_60 : decode cX10_bed 60 = .ok (.aload_n 0, 1) := by decide +kernel
theorem dX10_bed_61 : decode cX10_bed 61 = .ok (.getfield 26, 3) := by decide +kernel
theorem dX10_bed_64 : decode cX10_bed 64 = .ok (.aload_n 0, 1) := by decide +kernel
theorem dX10_bed_65 : decode cX10_bed 65 = .ok (.getfield 19, 3) := by decide +kernel
theorem dX10_bed_68 : decode cX10_bed 68 = .ok (.iload_n 1, 1) := by decide +kernel
theorem dX10_bed_69 : decode cX10_bed 69 = .ok (.invokevirtual 188, 3) := by decide +kernel
theorem dX10_bed_72 : decode cX10_bed 72 = .ok (.ifCond .eq 7, 3) := by decide +kernel
theorem dX10_bed_75 : decode cX10_bed 75 = .ok (.iconst 1, 1) := by decide +kernel
theorem dX10_bed_76 : decode cX10_bed 76 = .ok (.goto 4, 3) := by decide +kernel
theorem dX10_bed_79 : decode cX10_bed 79 = .ok (.iconst 0, 1) := by decide +kernel
theorem dX10_bed_80 : decode cX10_bed 80 = .ok (.ireturn, 1) := by decide +kernel
theorem dX10_bed_81 : decode cX10_bed 81 = .ok (.aload_n 0, 1) := by decide +kernel
theorem dX10_bed_82 : decode cX10_bed 82 = .ok (.getfield 26, 3) := by decide +kernel
theorem dX10_bed_85 : decode cX10_bed 85 = .ok (.getfield 192, 3) := by decide +kernel
theorem dX10_bed_88 : decode cX10_bed 88 = .ok (.iload_n 1, 1) := by decide +kernel
theorem dX10_bed_89 : decode cX10_bed 89 = .ok (.iaload, 1) := by decide +kernel
theorem dX10_bed_90 : decode cX10_bed 90 = .ok (.ireturn, 1) := by decide +kernel
theorem dX10_bed_91 : decode cX10_bed 91 = .ok (.iconst (-1), 1) := by decide +kernel
theorem dX10_bed_92 : decode cX10_bed 92 = .ok (.ireturn, 1) := by decide +kernel
theorem dX10_now_0 : decode cX10_now 0 = .ok (.iload_n 1, 1) := by decide +kernel
theorem dX10_now_1 : decode cX10_now 1 = .ok (.tableswitch 107 0 6 #[43, 51, 59, 71, 83, 91, 99], 43) := by decide +kernel
theorem dX10_now_44 : decode cX10_now 44 = .ok (.aload_n 0, 1) := by decide +kernel
theorem dX10_now_45 : decode cX10_now 45 = .ok (.getfield 26, 3) := by decide +kernel
theorem dX10_now_48 : decode cX10_now 48 = .ok (.getfield 195, 3) := by decide +kernel
theorem dX10_now_51 : decode cX10_now 51 = .ok (.ireturn, 1) := by decide +kernel
theorem dX10_now_52 : decode cX10_now 52 = .ok (.aload_n 0, 1) := by decide +kernel
theorem dX10_now_53 : decode cX10_now 53 = .ok (.getfield 26, 3) := by decide +kernel
theorem dX10_now_56 : decode cX10_now 56 = .ok (.getfield 198, 3) := by decide +kernel
theorem dX10_now_59 : decode cX10_now 59 = .ok (.ireturn, 1) := by decide +kernel
theorem dX10_now_60 : decode cX10_now 60 = .ok (.aload_n 0, 1) := by decide +kernel
theorem dX10_now_61 : decode cX10_now 61 = .ok (.getfield 26, 3) := by decide +kernel
theorem dX10_now_64 : decode cX10_now 64 = .ok (.aload_n 0, 1) := by decide +kernel
theorem dX10_now_65 : decode cX10_now 65 = .ok (.getfield 19, 3) := by decide +kernel
theorem dX10_now_68 : decode cX10_now 68 = .ok (.invokevirtual 201, 3) := by decide +kernel
theorem dX10_now_71 : decode cX10_now 71 = .ok (.ireturn, 1) := by decide +kernel
theorem dX10_now_72 : decode cX10_now 72 = .ok (.aload_n 0, 1) := by decide +kernel
theorem dX10_now_73 : decode cX10_now 73 = .ok (.getfield 26, 3) := by decide +kernel
theorem dX10_now_76 : decode cX10_now 76 = .ok (.aload_n 0, 1) := by decide +kernel
theorem dX10_now_77 : decode cX10_now 77 = .ok (.getfield 19, 3) := by decide +kernel
theorem dX10_now_80 : decode cX10_now 80 = .ok (.invokevirtual 205, 3) := by decide +kernel
theorem dX10_now_83 : decode cX10_now 83 = .ok (.ireturn, 1) := by decide +kernel
theorem dX10_now_84 : decode cX10_now 84 = .ok (.aload_n 0, 1) := by decide +kernel
theorem dX10_now_85 : decode cX10_now 85 = .ok (.getfield 26, 3) := by decide +kernel
theorem dX10_now_88 : decode cX10_now 88 = .ok (.getfield 208, 3) := by decide +kernel
theorem dX10_now_91 : decode cX10_now 91 = .ok (.ireturn, 1) := by decide +kernel
theorem dX10_now_92 : decode cX10_now 92 = .ok (.aload_n 0, 1) := by decide +kernel
theorem dX10_now_93 : decode cX10_now 93 = .ok (.getfield 26, 3) := by decide +kernel
theorem dX10_now_96 : decode cX10_now 96 = .ok (.getfield 211, 3) := by decide +kernel
theorem dX10_now_99 : decode cX10_now 99 = .ok (.ireturn, 1) := by decide +kernel
theorem dX10_now_100 : decode cX10_now 100 = .ok (.aload_n 0, 1) := by decide +kernel
theorem dX10_now_101 : decode cX10_now 101 = .ok (.getfield 26, 3) := by decide +kernel
theorem dX10_now_104 : decode cX10_now 104 = .ok (.getfield 214, 3) := by decide +kernel
theorem dX10_now_107 : decode cX10_now 107 = .ok (.ireturn, 1) := by decide +kernel
theorem dX10_now_108 : decode cX10_now 108 = .ok (.iconst (-1), 1) := by decide +kernel
theorem dX10_now_109 : decode cX10_now 109 = .ok (.ireturn, 1) := by decide +kernel
theorem dX10_stroke_0 : decode cX10_stroke 0 = .ok (.aload_n 0, 1) := by decide +kernel
theorem dX10_stroke_1 : decode cX10_stroke 1 = .ok (.iload_n 1, 1) := by decide +kernel
theorem dX10_stroke_2 : decode cX10_stroke 2 = .ok (.invokevirtual 122, 3) := by decide +kernel
theorem dX10_stroke_5 : decode cX10_stroke 5 = .ok (.ifCond .eq 14, 3) := by decide +kernel
theorem dX10_stroke_8 : decode cX10_stroke 8 = .ok (.iload_n 2, 1) := by decide +kernel
theorem dX10_stroke_9 : decode cX10_stroke 9 = .ok (.iconst 1, 1) := by decide +kernel
theorem dX10_stroke_10 : decode cX10_stroke 10 = .ok (.if_icmp .lt 9, 3) := by decide +kernel
theorem dX10_stroke_13 : decode cX10_stroke 13 = .ok (.iload_n 2, 1) := by decide +kernel
theorem dX10_stroke_14 : decode cX10_stroke 14 = .ok (.bipush 20, 2) := by decide +kernel
theorem dX10_stroke_16 : decode cX10_stroke 16 = .ok (.if_icmp .le 5, 3) := by decide +kernel
theorem dX10_stroke_19 : decode cX10_stroke 19 = .ok (.iconst (-1), 1) := by decide +kernel
theorem dX10_stroke_20 : decode cX10_stroke 20 = .ok (.ireturn, 1) := by decide +kernel
theorem dX10_stroke_21 : decode cX10_stroke 21 = .ok (.aload_n 0, 1) := by decide +kernel
theorem dX10_stroke_22 : decode cX10_stroke 22 = .ok (.getfield 26, 3) := by decide +kernel
theorem dX10_stroke_25 : decode cX10_stroke 25 = .ok (.aload_n 0, 1) := by decide +kernel
theorem dX10_stroke_26 : decode cX10_stroke 26 = .ok (.getfield 19, 3) := by decide +kernel
theorem dX10_stroke_29 : decode cX10_stroke 29 = .ok (.iload_n 1, 1) := by decide +kernel
theorem dX10_stroke_30 : decode cX10_stroke 30 = .ok (.iload_n 2, 1) := by decide +kernel
theorem dX10_stroke_31 : decode cX10_stroke 31 = .ok (.invokevirtual 217, 3) := by decide +kernel
theorem dX10_stroke_34 : decode cX10_stroke 34 = .ok (.istore_n 3, 1) := by decide +kernel
theorem dX10_stroke_35 : decode cX10_stroke 35 = .ok (.iload_n 3, 1) := by decide +kernel
theorem dX10_stroke_36 : decode cX10_stroke 36 = .ok (.ifCond .ne 27, 3) := by decide +kernel
theorem dX10_stroke_39 : decode cX10_stroke 39 = .ok (.aload_n 0, 1) := by decide +kernel
theorem dX10_stroke_40 : decode cX10_stroke 40 = .ok (.getfield 40, 3) := by decide +kernel
theorem dX10_stroke_43 : decode cX10_stroke 43 = .ok (.aload_n 0, 1) := by decide +kernel
theorem dX10_stroke_44 : decode cX10_stroke 44 = .ok (.getfield 26, 3) := by decide +kernel
theorem dX10_stroke_47 : decode cX10_stroke 47 = .ok (.invokevirtual 221, 3) := by decide +kernel
theorem dX10_stroke_50 : decode cX10_stroke 50 = .ok (.aload_n 0, 1) := by decide +kernel
theorem dX10_stroke_51 : decode cX10_stroke 51 = .ok (.getfield 26, 3) := by decide +kernel
theorem dX10_stroke_54 : decode cX10_stroke 54 = .ok (.aload_n 0, 1) := by decide +kernel
theorem dX10_stroke_55 : decode cX10_stroke 55 = .ok (.getfield 19, 3) := by decide +kernel
theorem dX10_stroke_58 : decode cX10_stroke 58 = .ok (.iload_n 1, 1) := by decide +kernel
theorem dX10_stroke_59 : decode cX10_stroke 59 = .ok (.iload_n 2, 1) := by decide +kernel
theorem dX10_stroke_60 : decode cX10_stroke 60 = .ok (.invokevirtual 224, 3) := by decide +kernel
theorem dX10_stroke_63 : decode cX10_stroke 63 = .ok (.iload_n 3, 1) := by decide +kernel
theorem dX10_stroke_64 : decode cX10_stroke 64 = .ok (.ireturn, 1) := by decide +kernel
theorem dX10_cut_0 : decode cX10_cut 0 = .ok (.aload_n 0, 1) := by decide +kernel
theorem dX10_cut_1 : decode cX10_cut 1 = .ok (.iload_n 1, 1) := by decide +kernel
theorem dX10_cut_2 : decode cX10_cut 2 = .ok (.invokevirtual 122, 3) := by decide +kernel
theorem dX10_cut_5 : decode cX10_cut 5 = .ok (.ifCond .ne 5, 3) := by decide +kernel
theorem dX10_cut_8 : decode cX10_cut 8 = .ok (.iconst (-1), 1) := by decide +kernel
theorem dX10_cut_9 : decode cX10_cut 9 = .ok (.ireturn, 1) := by decide +kernel
theorem dX10_cut_10 : decode cX10_cut 10 = .ok (.aload_n 0, 1) := by decide +kernel
theorem dX10_cut_11 : decode cX10_cut 11 = .ok (.getfield 26, 3) := by decide +kernel
theorem dX10_cut_14 : decode cX10_cut 14 = .ok (.iload_n 1, 1) := by decide +kernel
theorem dX10_cut_15 : decode cX10_cut 15 = .ok (.invokevirtual 228, 3) := by decide +kernel
theorem dX10_cut_18 : decode cX10_cut 18 = .ok (.istore_n 2, 1) := by decide +kernel
theorem dX10_cut_19 : decode cX10_cut 19 = .ok (.iload_n 2, 1) := by decide +kernel
theorem dX10_cut_20 : decode cX10_cut 20 = .ok (.ifCond .ne 22, 3) := by decide +kernel
theorem dX10_cut_23 : decode cX10_cut 23 = .ok (.aload_n 0, 1) := by decide +kernel
theorem dX10_cut_24 : decode cX10_cut 24 = .ok (.getfield 40, 3) := by decide +kernel
theorem dX10_cut_27 : decode cX10_cut 27 = .ok (.aload_n 0, 1) := by decide +kernel
theorem dX10_cut_28 : decode cX10_cut 28 = .ok (.getfield 26, 3) := by decide +kernel
theorem dX10_cut_31 : decode cX10_cut 31 = .ok (.invokevirtual 221, 3) := by decide +kernel
theorem dX10_cut_34 : decode cX10_cut 34 = .ok (.aload_n 0, 1) := by decide +kernel
theorem dX10_cut_35 : decode cX10_cut 35 = .ok (.getfield 26, 3) := by decide +kernel
theorem dX10_cut_38 : decode cX10_cut 38 = .ok (.iload_n 1, 1) := by decide +kernel
theorem dX10_cut_39 : decode cX10_cut 39 = .ok (.invokevirtual 231, 3) := by decide +kernel
theorem dX10_cut_42 : decode cX10_cut 42 = .ok (.iload_n 2, 1) := by decide +kernel
theorem dX10_cut_43 : decode cX10_cut 43 = .ok (.ireturn, 1) := by decide +kernel
theorem dX10_snag_0 : decode cX10_snag 0 = .ok (.aload_n 0, 1) := by decide +kernel
theorem dX10_snag_1 : decode cX10_snag 1 = .ok (.iload_n 1, 1) := by decide +kernel
theorem dX10_snag_2 : decode cX10_snag 2 = .ok (.invokevirtual 122, 3) := by decide +kernel
theorem dX10_snag_5 : decode cX10_snag 5 = .ok (.ifCond .eq 11, 3) := by decide +kernel
theorem dX10_snag_8 : decode cX10_snag 8 = .ok (.aload_n 0, 1) := by decide +kernel
theorem dX10_snag_9 : decode cX10_snag 9 = .ok (.iload_n 2, 1) := by decide +kernel
theorem dX10_snag_10 : decode cX10_snag 10 = .ok (.invokevirtual 163, 3) := by decide +kernel
theorem dX10_snag_13 : decode cX10_snag 13 = .ok (.ifCond .ne 5, 3) := by decide +kernel
theorem dX10_snag_16 : decode cX10_snag 16 = .ok (.iconst (-1), 1) := by decide +kernel
theorem dX10_snag_17 : decode cX10_snag 17 = .ok (.ireturn, 1) := by decide +kernel
theorem dX10_snag_18 : decode cX10_snag 18 = .ok (.aload_n 0, 1) := by decide +kernel
theorem dX10_snag_19 : decode cX10_snag 19 = .ok (.getfield 26, 3) := by decide +kernel
theorem dX10_snag_22 : decode cX10_snag 22 = .ok (.iload_n 1, 1) := by decide +kernel
theorem dX10_snag_23 : decode cX10_snag 23 = .ok (.invokevirtual 234, 3) := by decide +kernel
theorem dX10_snag_26 : decode cX10_snag 26 = .ok (.istore_n 3, 1) := by decide +kernel
theorem dX10_snag_27 : decode cX10_snag 27 = .ok (.iload_n 3, 1) := by decide +kernel
theorem dX10_snag_28 : decode cX10_snag 28 = .ok (.ifCond .ne 23, 3) := by decide +kernel
theorem dX10_snag_31 : decode cX10_snag 31 = .ok (.aload_n 0, 1) := by decide +kernel
theorem dX10_snag_32 : decode cX10_snag 32 = .ok (.getfield 40, 3) := by decide +kernel
theorem dX10_snag_35 : decode cX10_snag 35 = .ok (.aload_n 0, 1) := by decide +kernel
theorem dX10_snag_36 : decode cX10_snag 36 = .ok (.getfield 26, 3) := by decide +kernel
theorem dX10_snag_39 : decode cX10_snag 39 = .ok (.invokevirtual 221, 3) := by decide +kernel
theorem dX10_snag_42 : decode cX10_snag 42 = .ok (.aload_n 0, 1) := by decide +kernel
theorem dX10_snag_43 : decode cX10_snag 43 = .ok (.getfield 26, 3) := by decide +kernel
theorem dX10_snag_46 : decode cX10_snag 46 = .ok (.iload_n 1, 1) := by decide +kernel
theorem dX10_snag_47 : decode cX10_snag 47 = .ok (.iload_n 2, 1) := by decide +kernel
theorem dX10_snag_48 : decode cX10_snag 48 = .ok (.invokevirtual 237, 3) := by decide +kernel
theorem dX10_snag_51 : decode cX10_snag 51 = .ok (.iload_n 3, 1) := by decide +kernel
theorem dX10_snag_52 : decode cX10_snag 52 = .ok (.ireturn, 1) := by decide +kernel
theorem dX10_stuff_0 : decode cX10_stuff 0 = .ok (.aload_n 0, 1) := by decide +kernel
theorem dX10_stuff_1 : decode cX10_stuff 1 = .ok (.iload_n 1, 1) := by decide +kernel
theorem dX10_stuff_2 : decode cX10_stuff 2 = .ok (.invokevirtual 181, 3) := by decide +kernel
theorem dX10_stuff_5 : decode cX10_stuff 5 = .ok (.ifCond .eq 11, 3) := by decide +kernel
theorem dX10_stuff_8 : decode cX10_stuff 8 = .ok (.aload_n 0, 1) := by decide +kernel
theorem dX10_stuff_9 : decode cX10_stuff 9 = .ok (.iload_n 2, 1) := by decide +kernel
theorem dX10_stuff_10 : decode cX10_stuff 10 = .ok (.invokevirtual 163, 3) := by decide +kernel
theorem dX10_stuff_13 : decode cX10_stuff 13 = .ok (.ifCond .ne 5, 3) := by decide +kernel
theorem dX10_stuff_16 : decode cX10_stuff 16 = .ok (.iconst (-1), 1) := by decide +kernel
theorem dX10_stuff_17 : decode cX10_stuff 17 = .ok (.ireturn, 1) := by decide +kernel
theorem dX10_stuff_18 : decode cX10_stuff 18 = .ok (.aload_n 0, 1) := by decide +kernel
theorem dX10_stuff_19 : decode cX10_stuff 19 = .ok (.getfield 26, 3) := by decide +kernel
theorem dX10_stuff_22 : decode cX10_stuff 22 = .ok (.iload_n 2, 1) := by decide +kernel
theorem dX10_stuff_23 : decode cX10_stuff 23 = .ok (.invokevirtual 241, 3) := by decide +kernel
theorem dX10_stuff_26 : decode cX10_stuff 26 = .ok (.istore_n 3, 1) := by decide +kernel
theorem dX10_stuff_27 : decode cX10_stuff 27 = .ok (.iload_n 3, 1) := by decide +kernel
theorem dX10_stuff_28 : decode cX10_stuff 28 = .ok (.ifCond .ne 27, 3) := by decide +kernel
theorem dX10_stuff_31 : decode cX10_stuff 31 = .ok (.aload_n 0, 1) := by decide +kernel
theorem dX10_stuff_32 : decode cX10_stuff 32 = .ok (.getfield 40, 3) := by decide +kernel
theorem dX10_stuff_35 : decode cX10_stuff 35 = .ok (.aload_n 0, 1) := by decide +kernel
theorem dX10_stuff_36 : decode cX10_stuff 36 = .ok (.getfield 26, 3) := by decide +kernel
theorem dX10_stuff_39 : decode cX10_stuff 39 = .ok (.invokevirtual 221, 3) := by decide +kernel
theorem dX10_stuff_42 : decode cX10_stuff 42 = .ok (.aload_n 0, 1) := by decide +kernel
theorem dX10_stuff_43 : decode cX10_stuff 43 = .ok (.getfield 26, 3) := by decide +kernel
theorem dX10_stuff_46 : decode cX10_stuff 46 = .ok (.aload_n 0, 1) := by decide +kernel
theorem dX10_stuff_47 : decode cX10_stuff 47 = .ok (.getfield 19, 3) := by decide +kernel
theorem dX10_stuff_50 : decode cX10_stuff 50 = .ok (.iload_n 1, 1) := by decide +kernel
theorem dX10_stuff_51 : decode cX10_stuff 51 = .ok (.iload_n 2, 1) := by decide +kernel
theorem dX10_stuff_52 : decode cX10_stuff 52 = .ok (.invokevirtual 244, 3) := by decide +kernel
theorem dX10_stuff_55 : decode cX10_stuff 55 = .ok (.iload_n 3, 1) := by decide +kernel
theorem dX10_stuff_56 : decode cX10_stuff 56 = .ok (.ireturn, 1) := by decide +kernel
