theorem dX11_bookLine_0 : decode cX11_bookLine 0 = .ok (.iconst 3, 1) := by decide +kernel
theorem dX11_bookLine_1 : decode cX11_bookLine 1 = .ok (.aload_n 0, 1) := by decide +kernel
theorem dX11_bookLine_2 : decode cX11_bookLine 2 = .ok (.getfield 406, 3) := by decide +kernel
theorem dX11_bookLine_5 : decode cX11_bookLine 5 = .ok (.imul, 1) := by decide +kernel
theorem dX11_bookLine_6 : decode cX11_bookLine 6 = .ok (.istore_n 1, 1) := by decide +kernel
theorem dX11_bookLine_7 : decode cX11_bookLine 7 = .ok (.aload_n 0, 1) := by decide +kernel
theorem dX11_bookLine_8 : decode cX11_bookLine 8 = .ok (.ldc2_w 107, 3) := by decide +kernel
theorem dX11_bookLine_11 : decode cX11_bookLine 11 = .ok (.invokevirtual 198, 3) := by decide +kernel
theorem dX11_bookLine_14 : decode cX11_bookLine 14 = .ok (.istore_n 2, 1) := by decide +kernel
theorem dX11_bookLine_15 : decode cX11_bookLine 15 = .ok (.aload_n 0, 1) := by decide +kernel
theorem dX11_bookLine_16 : decode cX11_bookLine 16 = .ok (.ldc2_w 105, 3) := by decide +kernel
theorem dX11_bookLine_19 : decode cX11_bookLine 19 = .ok (.invokevirtual 198, 3) := by decide +kernel
theorem dX11_bookLine_22 : decode cX11_bookLine 22 = .ok (.istore_n 3, 1) := by decide +kernel
theorem dX11_bookLine_23 : decode cX11_bookLine 23 = .ok (.iload_n 2, 1) := by decide +kernel
theorem dX11_bookLine_24 : decode cX11_bookLine 24 = .ok (.ifCond .ne 24, 3) := by decide +kernel
theorem dX11_bookLine_27 : decode cX11_bookLine 27 = .ok (.iload_n 3, 1) := by decide +kernel
theorem dX11_bookLine_28 : decode cX11_bookLine 28 = .ok (.ifCond .ne 20, 3) := by decide +kernel
theorem dX11_bookLine_31 : decode cX11_bookLine 31 = .ok (.aload_n 0, 1) := by decide +kernel
theorem dX11_bookLine_32 : decode cX11_bookLine 32 = .ok (.bipush 8, 2) := by decide +kernel
theorem dX11_bookLine_34 : decode cX11_bookLine 34 = .ok (.aload_n 0, 1) := by decide +kernel
theorem dX11_bookLine_35 : decode cX11_bookLine 35 = .ok (.getfield 33, 3) := by decide +kernel
theorem dX11_bookLine_38 : decode cX11_bookLine 38 = .ok (.iconst 1, 1) := by decide +kernel
theorem dX11_bookLine_39 : decode cX11_bookLine 39 = .ok (.iaload, 1) := by decide +kernel
theorem dX11_bookLine_40 : decode cX11_bookLine 40 = .ok (.invokevirtual 195, 3) := by decide +kernel
theorem dX11_bookLine_43 : decode cX11_bookLine 43 = .ok (.ifCond .ne 5, 3) := by decide +kernel
theorem dX11_bookLine_46 : decode cX11_bookLine 46 = .ok (.iconst 0, 1) := by decide +kernel
theorem dX11_bookLine_47 : decode cX11_bookLine 47 = .ok (.ireturn, 1) := by decide +kernel
theorem dX11_bookLine_48 : decode cX11_bookLine 48 = .ok (.aload_n 0, 1) := by decide +kernel
theorem dX11_bookLine_49 : decode cX11_bookLine 49 = .ok (.getfield 406, 3) := by decide +kernel
theorem dX11_bookLine_52 : decode cX11_bookLine 52 = .ok (.bipush 40, 2) := by decide +kernel
theorem dX11_bookLine_54 : decode cX11_bookLine 54 = .ok (.if_icmp .ne 9, 3) := by decide +kernel
theorem dX11_bookLine_57 : decode cX11_bookLine 57 = .ok (.aload_n 0, 1) := by decide +kernel
theorem dX11_bookLine_58 : decode cX11_bookLine 58 = .ok (.iconst 4, 1) := by decide +kernel
theorem dX11_bookLine_59 : decode cX11_bookLine 59 = .ok (.invokevirtual 170, 3) := by decide +kernel
theorem dX11_bookLine_62 : decode cX11_bookLine 62 = .ok (.ireturn, 1) := by decide +kernel
theorem dX11_bookLine_63 : decode cX11_bookLine 63 = .ok (.aload_n 0, 1) := by decide +kernel
theorem dX11_bookLine_64 : decode cX11_bookLine 64 = .ok (.getfield 180, 3) := by decide +kernel
theorem dX11_bookLine_67 : decode cX11_bookLine 67 = .ok (.istore 4, 2) := by decide +kernel
theorem dX11_bookLine_69 : decode cX11_bookLine 69 = .ok (.aload_n 0, 1) := by decide +kernel
theorem dX11_bookLine_70 : decode cX11_bookLine 70 = .ok (.invokevirtual 173, 3) := by decide +kernel
theorem dX11_bookLine_73 : decode cX11_bookLine 73 = .ok (.iload_n 2, 1) := by decide +kernel
theorem dX11_bookLine_74 : decode cX11_bookLine 74 = .ok (.ifCond .eq 36, 3) := by decide +kernel
theorem dX11_bookLine_77 : decode cX11_bookLine 77 = .ok (.aload_n 0, 1) := by decide +kernel
theorem dX11_bookLine_78 : decode cX11_bookLine 78 = .ok (.getfield 40, 3) := by decide +kernel
theorem dX11_bookLine_81 : decode cX11_bookLine 81 = .ok (.iload_n 1, 1) := by decide +kernel
theorem dX11_bookLine_82 : decode cX11_bookLine 82 = .ok (.iconst 4, 1) := by decide +kernel
theorem dX11_bookLine_83 : decode cX11_bookLine 83 = .ok (.iastore, 1) := by decide +kernel
theorem dX11_bookLine_84 : decode cX11_bookLine 84 = .ok (.aload_n 0, 1) := by decide +kernel
theorem dX11_bookLine_85 : decode cX11_bookLine 85 = .ok (.iconst 1, 1) := by decide +kernel
theorem dX11_bookLine_86 : decode cX11_bookLine 86 = .ok (.bipush 60, 2) := by decide +kernel
theorem dX11_bookLine_88 : decode cX11_bookLine 88 = .ok (.invokevirtual 183, 3) := by decide +kernel
theorem dX11_bookLine_91 : decode cX11_bookLine 91 = .ok (.ifCond .ne 5, 3) := by decide +kernel
theorem dX11_bookLine_94 : decode cX11_bookLine 94 = .ok (.iconst 0, 1) := by decide +kernel
theorem dX11_bookLine_95 : decode cX11_bookLine 95 = .ok (.ireturn, 1) := by decide +kernel
theorem dX11_bookLine_96 : decode cX11_bookLine 96 = .ok (.aload_n 0, 1) := by decide +kernel
theorem dX11_bookLine_97 : decode cX11_bookLine 97 = .ok (.getfield 40, 3) := by decide +kernel
theorem dX11_bookLine_100 : decode cX11_bookLine 100 = .ok (.iload_n 1, 1) := by decide +kernel
theorem dX11_bookLine_101 : decode cX11_bookLine 101 = .ok (.iconst 1, 1) := by decide +kernel
theorem dX11_bookLine_102 : decode cX11_bookLine 102 = .ok (.iadd, 1) := by decide +kernel
theorem dX11_bookLine_103 : decode cX11_bookLine 103 = .ok (.aload_n 0, 1) := by decide +kernel
theorem dX11_bookLine_104 : decode cX11_bookLine 104 = .ok (.getfield 180, 3) := by decide +kernel
theorem dX11_bookLine_107 : decode cX11_bookLine 107 = .ok (.iastore, 1) := by decide +kernel
theorem dX11_bookLine_108 : decode cX11_bookLine 108 = .ok (.iconst 1, 1) := by decide +kernel
theorem dX11_bookLine_109 : decode cX11_bookLine 109 = .ok (.ireturn, 1) := by decide +kernel
theorem dX11_bookLine_110 : decode cX11_bookLine 110 = .ok (.iload_n 3, 1) := by decide +kernel
theorem dX11_bookLine_111 : decode cX11_bookLine 111 = .ok (.ifCond .eq 69, 3) := by decide +kernel
theorem dX11_bookLine_114 : decode cX11_bookLine 114 = .ok (.aload_n 0, 1) := by decide +kernel
theorem dX11_bookLine_115 : decode cX11_bookLine 115 = .ok (.getfield 40, 3) := by decide +kernel
theorem dX11_bookLine_118 : decode cX11_bookLine 118 = .ok (.iload_n 1, 1) := by decide +kernel
theorem dX11_bookLine_119 : decode cX11_bookLine 119 = .ok (.iconst 3, 1) := by decide +kernel
theorem dX11_bookLine_120 : decode cX11_bookLine 120 = .ok (.iastore, 1) := by decide +kernel
theorem dX11_bookLine_121 : decode cX11_bookLine 121 = .ok (.aload_n 0, 1) := by decide +kernel
theorem dX11_bookLine_122 : decode cX11_bookLine 122 = .ok (.bipush 14, 2) := by decide +kernel
theorem dX11_bookLine_124 : decode cX11_bookLine 124 = .ok (.aload_n 0, 1) := by decide +kernel
theorem dX11_bookLine_125 : decode cX11_bookLine 125 = .ok (.getfield 33, 3) := by decide +kernel
theorem dX11_bookLine_128 : decode cX11_bookLine 128 = .ok (.iconst 3, 1) := by decide +kernel
theorem dX11_bookLine_129 : decode cX11_bookLine 129 = .ok (.iaload, 1) := by decide +kernel
theorem dX11_bookLine_130 : decode cX11_bookLine 130 = .ok (.invokevirtual 227, 3) := by decide +kernel
theorem dX11_bookLine_133 : decode cX11_bookLine 133 = .ok (.ifCond .ne 5, 3) := by decide +kernel
theorem dX11_bookLine_136 : decode cX11_bookLine 136 = .ok (.iconst 0, 1) := by decide +kernel
theorem dX11_bookLine_137 : decode cX11_bookLine 137 = .ok (.ireturn, 1) := by decide +kernel
theorem dX11_bookLine_138 : decode cX11_bookLine 138 = .ok (.aload_n 0, 1) := by decide +kernel
theorem dX11_bookLine_139 : decode cX11_bookLine 139 = .ok (.getfield 40, 3) := by decide +kernel
theorem dX11_bookLine_142 : decode cX11_bookLine 142 = .ok (.iload_n 1, 1) := by decide +kernel
theorem dX11_bookLine_143 : decode cX11_bookLine 143 = .ok (.iconst 1, 1) := by decide +kernel
theorem dX11_bookLine_144 : decode cX11_bookLine 144 = .ok (.iadd, 1) := by decide +kernel
theorem dX11_bookLine_145 : decode cX11_bookLine 145 = .ok (.aload_n 0, 1) := by decide +kernel
theorem dX11_bookLine_146 : decode cX11_bookLine 146 = .ok (.getfield 180, 3) := by decide +kernel
theorem dX11_bookLine_149 : decode cX11_bookLine 149 = .ok (.iastore, 1) := by decide +kernel
theorem dX11_bookLine_150 : decode cX11_bookLine 150 = .ok (.aload_n 0, 1) := by decide +kernel
theorem dX11_bookLine_151 : decode cX11_bookLine 151 = .ok (.iconst 0, 1) := by decide +kernel
theorem dX11_bookLine_152 : decode cX11_bookLine 152 = .ok (.aload_n 0, 1) := by decide +kernel
theorem dX11_bookLine_153 : decode cX11_bookLine 153 = .ok (.getfield 33, 3) := by decide +kernel
theorem dX11_bookLine_156 : decode cX11_bookLine 156 = .ok (.iconst 0, 1) := by decide +kernel
theorem dX11_bookLine_157 : decode cX11_bookLine 157 = .ok (.iaload, 1) := by decide +kernel
theorem dX11_bookLine_158 : decode cX11_bookLine 158 = .ok (.invokevirtual 227, 3) := by decide +kernel
theorem dX11_bookLine_161 : decode cX11_bookLine 161 = .ok (.ifCond .ne 5, 3) := by decide +kernel
theorem dX11_bookLine_164 : decode cX11_bookLine 164 = .ok (.iconst 0, 1) := by decide +kernel
theorem dX11_bookLine_165 : decode cX11_bookLine 165 = .ok (.ireturn, 1) := by decide +kernel
theorem dX11_bookLine_166 : decode cX11_bookLine 166 = .ok (.aload_n 0, 1) := by decide +kernel
theorem dX11_bookLine_167 : decode cX11_bookLine 167 = .ok (.getfield 40, 3) := by decide +kernel
theorem dX11_bookLine_170 : decode cX11_bookLine 170 = .ok (.iload_n 1, 1) := by decide +kernel
theorem dX11_bookLine_171 : decode cX11_bookLine 171 = .ok (.iconst 2, 1) := by decide +kernel
theorem dX11_bookLine_172 : decode cX11_bookLine 172 = .ok (.iadd, 1) := by decide +kernel
theorem dX11_bookLine_173 : decode cX11_bookLine 173 = .ok (.aload_n 0, 1) := by decide +kernel
theorem dX11_bookLine_174 : decode cX11_bookLine 174 = .ok (.getfield 180, 3) := by decide +kernel
theorem dX11_bookLine_177 : decode cX11_bookLine 177 = .ok (.iastore, 1) := by decide +kernel
theorem dX11_bookLine_178 : decode cX11_bookLine 178 = .ok (.iconst 1, 1) := by decide +kernel
theorem dX11_bookLine_179 : decode cX11_bookLine 179 = .ok (.ireturn, 1) := by decide +kernel
theorem dX11_bookLine_180 : decode cX11_bookLine 180 = .ok (.aload_n 0, 1) := by decide +kernel
theorem dX11_bookLine_181 : decode cX11_bookLine 181 = .ok (.ldc2_w 99, 3) := by decide +kernel
theorem dX11_bookLine_184 : decode cX11_bookLine 184 = .ok (.invokevirtual 198, 3) := by decide +kernel
theorem dX11_bookLine_187 : decode cX11_bookLine 187 = .ok (.ifCond .eq 7, 3) := by decide +kernel
theorem dX11_bookLine_190 : decode cX11_bookLine 190 = .ok (.iconst 0, 1) := by decide +kernel
theorem dX11_bookLine_191 : decode cX11_bookLine 191 = .ok (.goto 32, 3) := by decide +kernel
theorem dX11_bookLine_194 : decode cX11_bookLine 194 = .ok (.aload_n 0, 1) := by decide +kernel
theorem dX11_bookLine_195 : decode cX11_bookLine 195 = .ok (.ldc2_w 101, 3) := by decide +kernel
theorem dX11_bookLine_198 : decode cX11_bookLine 198 = .ok (.invokevirtual 198, 3) := by decide +kernel
theorem dX11_bookLine_201 : decode cX11_bookLine 201 = .ok (.ifCond .eq 7, 3) := by decide +kernel
theorem dX11_bookLine_204 : decode cX11_bookLine 204 = .ok (.iconst 1, 1) := by decide +kernel
theorem dX11_bookLine_205 : decode cX11_bookLine 205 = .ok (.goto 18, 3) := by decide +kernel
theorem dX11_bookLine_208 : decode cX11_bookLine 208 = .ok (.aload_n 0, 1) := by decide +kernel
theorem dX11_bookLine_209 : decode cX11_bookLine 209 = .ok (.ldc2_w 103, 3) := by decide +kernel
theorem dX11_bookLine_212 : decode cX11_bookLine 212 = .ok (.invokevirtual 198, 3) := by decide +kernel
theorem dX11_bookLine_215 : decode cX11_bookLine 215 = .ok (.ifCond .eq 7, 3) := by decide +kernel
theorem dX11_bookLine_218 : decode cX11_bookLine 218 = .ok (.iconst 2, 1) := by decide +kernel
theorem dX11_bookLine_219 : decode cX11_bookLine 219 = .ok (.goto 4, 3) := by decide +kernel
theorem dX11_bookLine_222 : decode cX11_bookLine 222 = .ok (.iconst (-1), 1) := by decide +kernel
theorem dX11_bookLine_223 : decode cX11_bookLine 223 = .ok (.istore 5, 2) := by decide +kernel
theorem dX11_bookLine_225 : decode cX11_bookLine 225 = .ok (.iload 5, 2) := by decide +kernel
theorem dX11_bookLine_227 : decode cX11_bookLine 227 = .ok (.ifCond .ge 9, 3) := by decide +kernel
theorem dX11_bookLine_230 : decode cX11_bookLine 230 = .ok (.aload_n 0, 1) := by decide +kernel
theorem dX11_bookLine_231 : decode cX11_bookLine 231 = .ok (.iconst 1, 1) := by decide +kernel
theorem dX11_bookLine_232 : decode cX11_bookLine 232 = .ok (.invokevirtual 170, 3) := by decide +kernel
theorem dX11_bookLine_235 : decode cX11_bookLine 235 = .ok (.ireturn, 1) := by decide +kernel
theorem dX11_bookLine_236 : decode cX11_bookLine 236 = .ok (.aload_n 0, 1) := by decide +kernel
theorem dX11_bookLine_237 : decode cX11_bookLine 237 = .ok (.invokevirtual 173, 3) := by decide +kernel
theorem dX11_bookLine_240 : decode cX11_bookLine 240 = .ok (.aload_n 0, 1) := by decide +kernel
theorem dX11_bookLine_241 : decode cX11_bookLine 241 = .ok (.getfield 40, 3) := by decide +kernel
theorem dX11_bookLine_244 : decode cX11_bookLine 244 = .ok (.iload_n 1, 1) := by decide +kernel
theorem dX11_bookLine_245 : decode cX11_bookLine 245 = .ok (.iload 5, 2) := by decide +kernel
theorem dX11_bookLine_247 : decode cX11_bookLine 247 = .ok (.iastore, 1) := by decide +kernel
theorem dX11_bookLine_248 : decode cX11_bookLine 248 = .ok (.aload_n 0, 1) := by decide +kernel
theorem dX11_bookLine_249 : decode cX11_bookLine 249 = .ok (.getfield 40, 3) := by decide +kernel
theorem dX11_bookLine_252 : decode cX11_bookLine 252 = .ok (.iload_n 1, 1) := by decide +kernel
theorem dX11_bookLine_253 : decode cX11_bookLine 253 = .ok (.iconst 1, 1) := by decide +kernel
theorem dX11_bookLine_254 : decode cX11_bookLine 254 = .ok (.iadd, 1) := by decide +kernel
theorem dX11_bookLine_255 : decode cX11_bookLine 255 = .ok (.iload 4, 2) := by decide +kernel
theorem dX11_bookLine_257 : decode cX11_bookLine 257 = .ok (.iastore, 1) := by decide +kernel
theorem dX11_bookLine_258 : decode cX11_bookLine 258 = .ok (.iload 5, 2) := by decide +kernel
theorem dX11_bookLine_260 : decode cX11_bookLine 260 = .ok (.iconst 1, 1) := by decide +kernel
theorem dX11_bookLine_261 : decode cX11_bookLine 261 = .ok (.if_icmp .ne 5, 3) := by decide +kernel
theorem dX11_bookLine_264 : decode cX11_bookLine 264 = .ok (.iconst 1, 1) := by decide +kernel
theorem dX11_bookLine_265 : decode cX11_bookLine 265 = .ok (.ireturn, 1) := by decide +kernel
theorem dX11_bookLine_266 : decode cX11_bookLine 266 = .ok (.iload 5, 2) := by decide +kernel
theorem dX11_bookLine_268 : decode cX11_bookLine 268 = .ok (.ifCond .ne 13, 3) := by decide +kernel
theorem dX11_bookLine_271 : decode cX11_bookLine 271 = .ok (.aload_n 0, 1) := by decide +kernel
theorem dX11_bookLine_272 : decode cX11_bookLine 272 = .ok (.iconst 1, 1) := by decide +kernel
theorem dX11_bookLine_273 : decode cX11_bookLine 273 = .ok (.bipush 20, 2) := by decide +kernel
theorem dX11_bookLine_275 : decode cX11_bookLine 275 = .ok (.invokevirtual 183, 3) := by decide +kernel
theorem dX11_bookLine_278 : decode cX11_bookLine 278 = .ok (.goto 14, 3) := by decide +kernel
theorem dX11_bookLine_281 : decode cX11_bookLine 281 = .ok (.aload_n 0, 1) := by decide +kernel
theorem dX11_bookLine_282 : decode cX11_bookLine 282 = .ok (.iconst 0, 1) := by decide +kernel
theorem dX11_bookLine_283 : decode cX11_bookLine 283 = .ok (.aload_n 0, 1) := by decide +kernel
theorem dX11_bookLine_284 : decode cX11_bookLine 284 = .ok (.getfield 33, 3) := by decide +kernel
theorem dX11_bookLine_287 : decode cX11_bookLine 287 = .ok (.iconst 0, 1) := by decide +kernel
theorem dX11_bookLine_288 : decode cX11_bookLine 288 = .ok (.iaload, 1) := by decide +kernel
theorem dX11_bookLine_289 : decode cX11_bookLine 289 = .ok (.invokevirtual 227, 3) := by decide +kernel
theorem dX11_bookLine_292 : decode cX11_bookLine 292 = .ok (.istore 6, 2) := by decide +kernel
theorem dX11_bookLine_294 : decode cX11_bookLine 294 = .ok (.aload_n 0, 1) := by decide +kernel
theorem dX11_bookLine_295 : decode cX11_bookLine 295 = .ok (.getfield 40, 3) := by decide +kernel
theorem dX11_bookLine_298 : decode cX11_bookLine 298 = .ok (.iload_n 1, 1) := by decide +kernel
theorem dX11_bookLine_299 : decode cX11_bookLine 299 = .ok (.iconst 2, 1) := by decide +kernel
theorem dX11_bookLine_300 : decode cX11_bookLine 300 = .ok (.iadd, 1) := by decide +kernel
theorem dX11_bookLine_301 : decode cX11_bookLine 301 = .ok (.aload_n 0, 1) := by decide +kernel
theorem dX11_bookLine_302 : decode cX11_bookLine 302 = .ok (.getfield 180, 3) := by decide +kernel
theorem dX11_bookLine_305 : decode cX11_bookLine 305 = .ok (.iastore, 1) := by decide +kernel
theorem dX11_bookLine_306 : decode cX11_bookLine 306 = .ok (.iload 6, 2) := by decide +kernel
theorem dX11_bookLine_308 : decode cX11_bookLine 308 = .ok (.ireturn, 1) := by decide +kernel
theorem dX11_does_0 : decode cX11_does 0 = .ok (.iconst 0, 1) := by decide +kernel
theorem dX11_does_1 : decode cX11_does 1 = .ok (.istore 4, 2) := by decide +kernel
theorem dX11_does_3 : decode cX11_does 3 = .ok (.iload_n 1, 1) := by decide +kernel
theorem dX11_does_4 : decode cX11_does 4 = .ok (.tableswitch 149 0 3 #[32, 54, 86, 115], 32) := by decide +kernel
theorem dX11_does_36 : decode cX11_does 36 = .ok (.aload_n 0, 1) := by decide +kernel
theorem dX11_does_37 : decode cX11_does 37 = .ok (.iload_n 2, 1) := by decide +kernel
theorem dX11_does_38 : decode cX11_does 38 = .ok (.iload_n 3, 1) := by decide +kernel
theorem dX11_does_39 : decode cX11_does 39 = .ok (.invokevirtual 306, 3) := by decide +kernel
theorem dX11_does_42 : decode cX11_does 42 = .ok (.istore 4, 2) := by decide +kernel
theorem dX11_does_44 : decode cX11_does 44 = .ok (.iload 4, 2) := by decide +kernel
theorem dX11_does_46 : decode cX11_does 46 = .ok (.ifCond .ne 140, 3) := by decide +kernel
theorem dX11_does_49 : decode cX11_does 49 = .ok (.aload_n 0, 1) := by decide +kernel
theorem dX11_does_50 : decode cX11_does 50 = .ok (.iload_n 2, 1) := by decide +kernel
theorem dX11_does_51 : decode cX11_does 51 = .ok (.iload_n 3, 1) := by decide +kernel
theorem dX11_does_52 : decode cX11_does 52 = .ok (.invokevirtual 312, 3) := by decide +kernel
theorem dX11_does_55 : decode cX11_does 55 = .ok (.goto 131, 3) := by decide +kernel
theorem dX11_does_58 : decode cX11_does 58 = .ok (.aload_n 0, 1) := by decide +kernel
theorem dX11_does_59 : decode cX11_does 59 = .ok (.getfield 33, 3) := by decide +kernel
theorem dX11_does_62 : decode cX11_does 62 = .ok (.bipush 125, 2) := by decide +kernel
theorem dX11_does_64 : decode cX11_does 64 = .ok (.iload_n 2, 1) := by decide +kernel
theorem dX11_does_65 : decode cX11_does 65 = .ok (.iadd, 1) := by decide +kernel
theorem dX11_does_66 : decode cX11_does 66 = .ok (.iaload, 1) := by decide +kernel
theorem dX11_does_67 : decode cX11_does 67 = .ok (.ifCond .ne 7, 3) := by decide +kernel
theorem dX11_does_70 : decode cX11_does 70 = .ok (.iconst 1, 1) := by decide +kernel
theorem dX11_does_71 : decode cX11_does 71 = .ok (.goto 4, 3) := by decide +kernel
theorem dX11_does_74 : decode cX11_does 74 = .ok (.iconst 0, 1) := by decide +kernel
theorem dX11_does_75 : decode cX11_does 75 = .ok (.istore 4, 2) := by decide +kernel
theorem dX11_does_77 : decode cX11_does 77 = .ok (.iload 4, 2) := by decide +kernel
theorem dX11_does_79 : decode cX11_does 79 = .ok (.ifCond .ne 107, 3) := by decide +kernel
theorem dX11_does_82 : decode cX11_does 82 = .ok (.aload_n 0, 1) := by decide +kernel
theorem dX11_does_83 : decode cX11_does 83 = .ok (.iload_n 2, 1) := by decide +kernel
theorem dX11_does_84 : decode cX11_does 84 = .ok (.invokevirtual 315, 3) := by decide +kernel
theorem dX11_does_87 : decode cX11_does 87 = .ok (.goto 99, 3) := by decide +kernel
theorem dX11_does_90 : decode cX11_does 90 = .ok (.aload_n 0, 1) := by decide +kernel
theorem dX11_does_91 : decode cX11_does 91 = .ok (.iload_n 2, 1) := by decide +kernel
theorem dX11_does_92 : decode cX11_does 92 = .ok (.invokevirtual 271, 3) := by decide +kernel
theorem dX11_does_95 : decode cX11_does 95 = .ok (.ifCond .eq 7, 3) := by decide +kernel
theorem dX11_does_98 : decode cX11_does 98 = .ok (.iconst 1, 1) := by decide +kernel
theorem dX11_does_99 : decode cX11_does 99 = .ok (.goto 4, 3) := by decide +kernel
theorem dX11_does_102 : decode cX11_does 102 = .ok (.iconst 0, 1) := by decide +kernel
theorem dX11_does_103 : decode cX11_does 103 = .ok (.istore 4, 2) := by decide +kernel
theorem dX11_does_105 : decode cX11_does 105 = .ok (.iload 4, 2) := by decide +kernel
theorem dX11_does_107 : decode cX11_does 107 = .ok (.ifCond .ne 79, 3) := by decide +kernel
theorem dX11_does_110 : decode cX11_does 110 = .ok (.aload_n 0, 1) := by decide +kernel
theorem dX11_does_111 : decode cX11_does 111 = .ok (.iload_n 2, 1) := by decide +kernel
theorem dX11_does_112 : decode cX11_does 112 = .ok (.iload_n 3, 1) := by decide +kernel
theorem dX11_does_113 : decode cX11_does 113 = .ok (.invokevirtual 299, 3) := by decide +kernel
theorem dX11_does_116 : decode cX11_does 116 = .ok (.goto 70, 3) := by decide +kernel
theorem dX11_does_119 : decode cX11_does 119 = .ok (.aload_n 0, 1) := by decide +kernel
theorem dX11_does_120 : decode cX11_does 120 = .ok (.getfield 33, 3) := by decide +kernel
theorem dX11_does_123 : decode cX11_does 123 = .ok (.sipush 185, 3) := by decide +kernel
theorem dX11_does_126 : decode cX11_does 126 = .ok (.iload_n 3, 1) := by decide +kernel
theorem dX11_does_127 : decode cX11_does 127 = .ok (.iadd, 1) := by decide +kernel
theorem dX11_does_128 : decode cX11_does 128 = .ok (.iaload, 1) := by decide +kernel
theorem dX11_does_129 : decode cX11_does 129 = .ok (.ifCond .ne 7, 3) := by decide +kernel
theorem dX11_does_132 : decode cX11_does 132 = .ok (.iconst 1, 1) := by decide +kernel
theorem dX11_does_133 : decode cX11_does 133 = .ok (.goto 4, 3) := by decide +kernel
theorem dX11_does_136 : decode cX11_does 136 = .ok (.iconst 0, 1) := by decide +kernel
theorem dX11_does_137 : decode cX11_does 137 = .ok (.istore 4, 2) := by decide +kernel
theorem dX11_does_139 : decode cX11_does 139 = .ok (.iload 4, 2) := by decide +kernel
theorem dX11_does_141 : decode cX11_does 141 = .ok (.ifCond .ne 45, 3) := by decide +kernel
theorem dX11_does_144 : decode cX11_does 144 = .ok (.aload_n 0, 1) := by decide +kernel
theorem dX11_does_145 : decode cX11_does 145 = .ok (.iload_n 2, 1) := by decide +kernel
theorem dX11_does_146 : decode cX11_does 146 = .ok (.iload_n 3, 1) := by decide +kernel
theorem dX11_does_147 : decode cX11_does 147 = .ok (.invokevirtual 318, 3) := by decide +kernel
theorem dX11_does_150 : decode cX11_does 150 = .ok (.goto 36, 3) := by decide +kernel
theorem dX11_does_153 : decode cX11_does 153 = .ok (.aload_n 0, 1) := by decide +kernel
theorem dX11_does_154 : decode cX11_does 154 = .ok (.getfield 33, 3) := by decide +kernel
theorem dX11_does_157 : decode cX11_does 157 = .ok (.bipush 121, 2) := by decide +kernel
theorem dX11_does_159 : decode cX11_does 159 = .ok (.iaload, 1) := by decide +kernel
theorem dX11_does_160 : decode cX11_does 160 = .ok (.iload_n 2, 1) := by decide +kernel
theorem dX11_does_161 : decode cX11_does 161 = .ok (.iadd, 1) := by decide +kernel
theorem dX11_does_162 : decode cX11_does 162 = .ok (.sipush 400, 3) := by decide +kernel
theorem dX11_does_165 : decode cX11_does 165 = .ok (.if_icmp .le 7, 3) := by decide +kernel
theorem dX11_does_168 : decode cX11_does 168 = .ok (.iconst 1, 1) := by decide +kernel
theorem dX11_does_169 : decode cX11_does 169 = .ok (.goto 4, 3) := by decide +kernel
theorem dX11_does_172 : decode cX11_does 172 = .ok (.iconst 0, 1) := by decide +kernel
theorem dX11_does_173 : decode cX11_does 173 = .ok (.istore 4, 2) := by decide +kernel
theorem dX11_does_175 : decode cX11_does 175 = .ok (.iload 4, 2) := by decide +kernel
theorem dX11_does_177 : decode cX11_does 177 = .ok (.ifCond .ne 9, 3) := by decide +kernel
theorem dX11_does_180 : decode cX11_does 180 = .ok (.aload_n 0, 1) := by decide +kernel
theorem dX11_does_181 : decode cX11_does 181 = .ok (.iload_n 2, 1) := by decide +kernel
theorem dX11_does_182 : decode cX11_does 182 = .ok (.invokevirtual 321, 3) := by decide +kernel
theorem dX11_does_185 : decode cX11_does 185 = .ok (.pop, 1) := by decide +kernel
theorem dX11_does_186 : decode cX11_does 186 = .ok (.iload 4, 2) := by decide +kernel
theorem dX11_does_188 : decode cX11_does 188 = .ok (.ifCond .le 13, 3) := by decide +kernel
theorem dX11_does_191 : decode cX11_does 191 = .ok (.bipush 10, 2) := by decide +kernel
theorem dX11_does_193 : decode cX11_does 193 = .ok (.iload_n 1, 1) := by decide +kernel
theorem dX11_does_194 : decode cX11_does 194 = .ok (.imul, 1) := by decide +kernel
theorem dX11_does_195 : decode cX11_does 195 = .ok (.iload 4, 2) := by decide +kernel
theorem dX11_does_197 : decode cX11_does 197 = .ok (.iadd, 1) := by decide +kernel
theorem dX11_does_198 : decode cX11_does 198 = .ok (.goto 4, 3) := by decide +kernel
theorem dX11_does_201 : decode cX11_does 201 = .ok (.iconst 0, 1) := by decide +kernel
theorem dX11_does_202 : decode cX11_does 202 = .ok (.ireturn, 1) := by decide +kernel
theorem dX11_book_0 : decode cX11_book 0 = .ok (.aload_n 0, 1) := by decide +kernel
theorem dX11_book_1 : decode cX11_book 1 = .ok (.iconst 0, 1) := by decide +kernel
theorem dX11_book_2 : decode cX11_book 2 = .ok (.putfield 1, 3) := by decide +kernel
theorem dX11_book_5 : decode cX11_book 5 = .ok (.iload_n 1, 1) := by decide +kernel
theorem dX11_book_6 : decode cX11_book 6 = .ok (.iconst 0, 1) := by decide +kernel
theorem dX11_book_7 : decode cX11_book 7 = .ok (.iconst 1, 1) := by decide +kernel
theorem dX11_book_8 : decode cX11_book 8 = .ok (.invokestatic 176, 3) := by decide +kernel
theorem dX11_book_11 : decode cX11_book 11 = .ok (.ifCond .ne 7, 3) := by decide +kernel
theorem dX11_book_14 : decode cX11_book 14 = .ok (.sipush (-1000), 3) := by decide +kernel
theorem dX11_book_17 : decode cX11_book 17 = .ok (.ireturn, 1) := by decide +kernel
theorem dX11_book_18 : decode cX11_book 18 = .ok (.aload_n 0, 1) := by decide +kernel
theorem dX11_book_19 : decode cX11_book 19 = .ok (.sipush 400, 3) := by decide +kernel
theorem dX11_book_22 : decode cX11_book 22 = .ok (.invokevirtual 230, 3) := by decide +kernel
theorem dX11_book_25 : decode cX11_book 25 = .ok (.aload_n 0, 1) := by decide +kernel
theorem dX11_book_26 : decode cX11_book 26 = .ok (.iconst 0, 1) := by decide +kernel
theorem dX11_book_27 : decode cX11_book 27 = .ok (.putfield 161, 3) := by decide +kernel
theorem dX11_book_30 : decode cX11_book 30 = .ok (.aload_n 0, 1) := by decide +kernel
theorem dX11_book_31 : decode cX11_book 31 = .ok (.iconst 0, 1) := by decide +kernel
theorem dX11_book_32 : decode cX11_book 32 = .ok (.putfield 406, 3) := by decide +kernel
theorem dX11_book_35 : decode cX11_book 35 = .ok (.aload_n 0, 1) := by decide +kernel
theorem dX11_book_36 : decode cX11_book 36 = .ok (.invokevirtual 173, 3) := by decide +kernel
theorem dX11_book_39 : decode cX11_book 39 = .ok (.aload_n 0, 1) := by decide +kernel
theorem dX11_book_40 : decode cX11_book 40 = .ok (.getfield 144, 3) := by decide +kernel
theorem dX11_book_43 : decode cX11_book 43 = .ok (.ifCond .eq 40, 3) := by decide +kernel
theorem dX11_book_46 : decode cX11_book 46 = .ok (.aload_n 0, 1) := by decide +kernel
theorem dX11_book_47 : decode cX11_book 47 = .ok (.invokevirtual 409, 3) := by decide +kernel
theorem dX11_book_50 : decode cX11_book 50 = .ok (.ifCond .eq 12, 3) := by decide +kernel
theorem dX11_book_53 : decode cX11_book 53 = .ok (.aload_n 0, 1) := by decide +kernel
theorem dX11_book_54 : decode cX11_book 54 = .ok (.bipush 59, 2) := by decide +kernel
theorem dX11_book_56 : decode cX11_book 56 = .ok (.invokevirtual 239, 3) := by decide +kernel
theorem dX11_book_59 : decode cX11_book 59 = .ok (.ifCond .ne 11, 3) := by decide +kernel
theorem dX11_book_62 : decode cX11_book 62 = .ok (.bipush (-2), 2) := by decide +kernel
theorem dX11_book_64 : decode cX11_book 64 = .ok (.aload_n 0, 1) := by decide +kernel
theorem dX11_book_65 : decode cX11_book 65 = .ok (.getfield 164, 3) := by decide +kernel
theorem dX11_book_68 : decode cX11_book 68 = .ok (.isub, 1) := by decide +kernel
theorem dX11_book_69 : decode cX11_book 69 = .ok (.ireturn, 1) := by decide +kernel
theorem dX11_book_70 : decode cX11_book 70 = .ok (.aload_n 0, 1) := by decide +kernel
theorem dX11_book_71 : decode cX11_book 71 = .ok (.dup, 1) := by decide +kernel
theorem dX11_book_72 : decode cX11_book 72 = .ok (.getfield 406, 3) := by decide +kernel
theorem dX11_book_75 : decode cX11_book 75 = .ok (.iconst 1, 1) := by decide +kernel
theorem dX11_book_76 : decode cX11_book 76 = .ok (.iadd, 1) := by decide +kernel
theorem dX11_book_77 : decode cX11_book 77 = .ok (.putfield 406, 3) := by decide +kernel
theorem dX11_book_80 : decode cX11_book 80 = .ok (.goto (-41), 3) := by decide +kernel
theorem dX11_book_83 : decode cX11_book 83 = .ok (.aload_n 0, 1) := by decide +kernel
theorem dX11_book_84 : decode cX11_book 84 = .ok (.invokevirtual 327, 3) := by decide +kernel
theorem dX11_book_87 : decode cX11_book 87 = .ok (.iconst 0, 1) := by decide +kernel
theorem dX11_book_88 : decode cX11_book 88 = .ok (.istore_n 2, 1) := by decide +kernel
theorem dX11_book_89 : decode cX11_book 89 = .ok (.iload_n 2, 1) := by decide +kernel
theorem dX11_book_90 : decode cX11_book 90 = .ok (.iconst 4, 1) := by decide +kernel
theorem dX11_book_91 : decode cX11_book 91 = .ok (.if_icmp .ge 16, 3) := by decide +kernel
theorem dX11_book_94 : decode cX11_book 94 = .ok (.aload_n 0, 1) := by decide +kernel
theorem dX11_book_95 : decode cX11_book 95 = .ok (.getfield 69, 3) := by decide +kernel
theorem dX11_book_98 : decode cX11_book 98 = .ok (.iload_n 2, 1) := by decide +kernel
theorem dX11_book_99 : decode cX11_book 99 = .ok (.iconst 0, 1) := by decide +kernel
theorem dX11_book_100 : decode cX11_book 100 = .ok (.iastore, 1) := by decide +kernel
theorem dX11_book_101 : decode cX11_book 101 = .ok (.iinc 2 1, 3) := by decide +kernel
theorem dX11_book_104 : decode cX11_book 104 = .ok (.goto (-15), 3) := by decide +kernel
theorem dX11_book_107 : decode cX11_book 107 = .ok (.iconst (-1), 1) := by decide +kernel
theorem dX11_book_108 : decode cX11_book 108 = .ok (.istore_n 2, 1) := by decide +kernel
theorem dX11_book_109 : decode cX11_book 109 = .ok (.iconst 0, 1) := by decide +kernel
theorem dX11_book_110 : decode cX11_book 110 = .ok (.istore_n 3, 1) := by decide +kernel
theorem dX11_book_111 : decode cX11_book 111 = .ok (.iload_n 3, 1) := by decide +kernel
theorem dX11_book_112 : decode cX11_book 112 = .ok (.aload_n 0, 1) := by decide +kernel
theorem dX11_book_113 : decode cX11_book 113 = .ok (.getfield 406, 3) := by decide +kernel
theorem dX11_book_116 : decode cX11_book 116 = .ok (.if_icmp .ge 75, 3) := by decide +kernel
theorem dX11_book_119 : decode cX11_book 119 = .ok (.iload_n 2, 1) := by decide +kernel
theorem dX11_book_120 : decode cX11_book 120 = .ok (.ifCond .ge 71, 3) := by decide +kernel
theorem dX11_book_123 : decode cX11_book 123 = .ok (.aload_n 0, 1) := by decide +kernel
theorem dX11_book_124 : decode cX11_book 124 = .ok (.getfield 69, 3) := by decide +kernel
theorem dX11_book_127 : decode cX11_book 127 = .ok (.iconst 0, 1) := by decide +kernel
theorem dX11_book_128 : decode cX11_book 128 = .ok (.aload_n 0, 1) := by decide +kernel
theorem dX11_book_129 : decode cX11_book 129 = .ok (.aload_n 0, 1) := by decide +kernel
theorem dX11_book_130 : decode cX11_book 130 = .ok (.getfield 40, 3) := by decide +kernel
theorem dX11_book_133 : decode cX11_book 133 = .ok (.iconst 3, 1) := by decide +kernel
theorem dX11_book_134 : decode cX11_book 134 = .ok (.iload_n 3, 1) := by decide +kernel
theorem dX11_book_135 : decode cX11_book 135 = .ok (.imul, 1) := by decide +kernel
theorem dX11_book_136 : decode cX11_book 136 = .ok (.iaload, 1) := by decide +kernel
theorem dX11_book_137 : decode cX11_book 137 = .ok (.aload_n 0, 1) := by decide +kernel
theorem dX11_book_138 : decode cX11_book 138 = .ok (.getfield 40, 3) := by decide +kernel
theorem dX11_book_141 : decode cX11_book 141 = .ok (.iconst 3, 1) := by decide +kernel
theorem dX11_book_142 : decode cX11_book 142 = .ok (.iload_n 3, 1) := by decide +kernel
theorem dX11_book_143 : decode cX11_book 143 = .ok (.imul, 1) := by decide +kernel
theorem dX11_book_144 : decode cX11_book 144 = .ok (.iconst 1, 1) := by decide +kernel
theorem dX11_book_145 : decode cX11_book 145 = .ok (.iadd, 1) := by decide +kernel
theorem dX11_book_146 : decode cX11_book 146 = .ok (.iaload, 1) := by decide +kernel
theorem dX11_book_147 : decode cX11_book 147 = .ok (.aload_n 0, 1) := by decide +kernel
theorem dX11_book_148 : decode cX11_book 148 = .ok (.getfield 40, 3) := by decide +kernel
theorem dX11_book_151 : decode cX11_book 151 = .ok (.iconst 3, 1) := by decide +kernel
theorem dX11_book_152 : decode cX11_book 152 = .ok (.iload_n 3, 1) := by decide +kernel
theorem dX11_book_153 : decode cX11_book 153 = .ok (.imul, 1) := by decide +kernel
theorem dX11_book_154 : decode cX11_book 154 = .ok (.iconst 2, 1) := by decide +kernel
theorem dX11_book_155 : decode cX11_book 155 = .ok (.iadd, 1) := by decide +kernel
theorem dX11_book_156 : decode cX11_book 156 = .ok (.iaload, 1) := by decide +kernel
theorem dX11_book_157 : decode cX11_book 157 = .ok (.invokevirtual 412, 3) := by decide +kernel
theorem dX11_book_160 : decode cX11_book 160 = .ok (.iastore, 1) := by decide +kernel
theorem dX11_book_161 : decode cX11_book 161 = .ok (.aload_n 0, 1) := by decide +kernel
theorem dX11_book_162 : decode cX11_book 162 = .ok (.getfield 69, 3) := by decide +kernel
theorem dX11_book_165 : decode cX11_book 165 = .ok (.iconst 0, 1) := by decide +kernel
theorem dX11_book_166 : decode cX11_book 166 = .ok (.iaload, 1) := by decide +kernel
theorem dX11_book_167 : decode cX11_book 167 = .ok (.ifCond .le 8, 3) := by decide +kernel
theorem dX11_book_170 : decode cX11_book 170 = .ok (.iload_n 3, 1) := by decide +kernel
theorem dX11_book_171 : decode cX11_book 171 = .ok (.istore_n 2, 1) := by decide +kernel
theorem dX11_book_172 : decode cX11_book 172 = .ok (.goto 13, 3) := by decide +kernel
theorem dX11_book_175 : decode cX11_book 175 = .ok (.aload_n 0, 1) := by decide +kernel
theorem dX11_book_176 : decode cX11_book 176 = .ok (.getfield 69, 3) := by decide +kernel
theorem dX11_book_179 : decode cX11_book 179 = .ok (.iconst 1, 1) := by decide +kernel
theorem dX11_book_180 : decode cX11_book 180 = .ok (.dup2, 1) := by decide +kernel
theorem dX11_book_181 : decode cX11_book 181 = .ok (.iaload, 1) := by decide +kernel
theorem dX11_book_182 : decode cX11_book 182 = .ok (.iconst 1, 1) := by decide +kernel
theorem dX11_book_183 : decode cX11_book 183 = .ok (.iadd, 1) := by decide +kernel
theorem dX11_book_184 : decode cX11_book 184 = .ok (.iastore, 1) := by decide +kernel
theorem dX11_book_185 : decode cX11_book 185 = .ok (.iinc 3 1, 3) := by decide +kernel
theorem dX11_book_188 : decode cX11_book 188 = .ok (.goto (-77), 3) := by decide +kernel
theorem dX11_book_191 : decode cX11_book 191 = .ok (.aload_n 0, 1) := by decide +kernel
theorem dX11_book_192 : decode cX11_book 192 = .ok (.getfield 69, 3) := by decide +kernel
theorem dX11_book_195 : decode cX11_book 195 = .ok (.iconst 2, 1) := by decide +kernel
theorem dX11_book_196 : decode cX11_book 196 = .ok (.aload_n 0, 1) := by decide +kernel
theorem dX11_book_197 : decode cX11_book 197 = .ok (.getfield 33, 3) := by decide +kernel
theorem dX11_book_200 : decode cX11_book 200 = .ok (.bipush 121, 2) := by decide +kernel
theorem dX11_book_202 : decode cX11_book 202 = .ok (.iaload, 1) := by decide +kernel
theorem dX11_book_203 : decode cX11_book 203 = .ok (.iastore, 1) := by decide +kernel
theorem dX11_book_204 : decode cX11_book 204 = .ok (.aload_n 0, 1) := by decide +kernel
theorem dX11_book_205 : decode cX11_book 205 = .ok (.getfield 69, 3) := by decide +kernel
theorem dX11_book_208 : decode cX11_book 208 = .ok (.iconst 3, 1) := by decide +kernel
theorem dX11_book_209 : decode cX11_book 209 = .ok (.aload_n 0, 1) := by decide +kernel
theorem dX11_book_210 : decode cX11_book 210 = .ok (.invokevirtual 286, 3) := by decide +kernel
theorem dX11_book_213 : decode cX11_book 213 = .ok (.iastore, 1) := by decide +kernel
theorem dX11_book_214 : decode cX11_book 214 = .ok (.aload_n 0, 1) := by decide +kernel
theorem dX11_book_215 : decode cX11_book 215 = .ok (.iconst 1, 1) := by decide +kernel
theorem dX11_book_216 : decode cX11_book 216 = .ok (.putfield 416, 3) := by decide +kernel
theorem dX11_book_219 : decode cX11_book 219 = .ok (.iload_n 1, 1) := by decide +kernel
theorem dX11_book_220 : decode cX11_book 220 = .ok (.iconst 1, 1) := by decide +kernel
theorem dX11_book_221 : decode cX11_book 221 = .ok (.if_icmp .ne 52, 3) := by decide +kernel
theorem dX11_book_224 : decode cX11_book 224 = .ok (.aload_n 0, 1) := by decide +kernel
theorem dX11_book_225 : decode cX11_book 225 = .ok (.getfield 69, 3) := by decide +kernel
theorem dX11_book_228 : decode cX11_book 228 = .ok (.iconst 1, 1) := by decide +kernel
theorem dX11_book_229 : decode cX11_book 229 = .ok (.iaload, 1) := by decide +kernel
theorem dX11_book_230 : decode cX11_book 230 = .ok (.ifCond .le 43, 3) := by decide +kernel
theorem dX11_book_233 : decode cX11_book 233 = .ok (.aload_n 0, 1) := by decide +kernel
theorem dX11_book_234 : decode cX11_book 234 = .ok (.invokevirtual 309, 3) := by decide +kernel
theorem dX11_book_237 : decode cX11_book 237 = .ok (.iconst 0, 1) := by decide +kernel
theorem dX11_book_238 : decode cX11_book 238 = .ok (.istore_n 3, 1) := by decide +kernel
theorem dX11_book_239 : decode cX11_book 239 = .ok (.iload_n 3, 1) := by decide +kernel
theorem dX11_book_240 : decode cX11_book 240 = .ok (.bipush 88, 2) := by decide +kernel
theorem dX11_book_242 : decode cX11_book 242 = .ok (.if_icmp .ge 31, 3) := by decide +kernel
theorem dX11_book_245 : decode cX11_book 245 = .ok (.aload_n 0, 1) := by decide +kernel
theorem dX11_book_246 : decode cX11_book 246 = .ok (.getfield 50, 3) := by decide +kernel
theorem dX11_book_249 : decode cX11_book 249 = .ok (.bipush 88, 2) := by decide +kernel
theorem dX11_book_251 : decode cX11_book 251 = .ok (.aload_n 0, 1) := by decide +kernel
theorem dX11_book_252 : decode cX11_book 252 = .ok (.getfield 242, 3) := by decide +kernel
theorem dX11_book_255 : decode cX11_book 255 = .ok (.iconst 1, 1) := by decide +kernel
theorem dX11_book_256 : decode cX11_book 256 = .ok (.isub, 1) := by decide +kernel
theorem dX11_book_257 : decode cX11_book 257 = .ok (.imul, 1) := by decide +kernel
theorem dX11_book_258 : decode cX11_book 258 = .ok (.iload_n 3, 1) := by decide +kernel
theorem dX11_book_259 : decode cX11_book 259 = .ok (.iadd, 1) := by decide +kernel
theorem dX11_book_260 : decode cX11_book 260 = .ok (.aload_n 0, 1) := by decide +kernel
theorem dX11_book_261 : decode cX11_book 261 = .ok (.getfield 53, 3) := by decide +kernel
theorem dX11_book_264 : decode cX11_book 264 = .ok (.iload_n 3, 1) := by decide +kernel
theorem dX11_book_265 : decode cX11_book 265 = .ok (.iaload, 1) := by decide +kernel
theorem dX11_book_266 : decode cX11_book 266 = .ok (.iastore, 1) := by decide +kernel
theorem dX11_book_267 : decode cX11_book 267 = .ok (.iinc 3 1, 3) := by decide +kernel
theorem dX11_book_270 : decode cX11_book 270 = .ok (.goto (-31), 3) := by decide +kernel
theorem dX11_book_273 : decode cX11_book 273 = .ok (.iload_n 1, 1) := by decide +kernel
theorem dX11_book_274 : decode cX11_book 274 = .ok (.ifCond .ne 7, 3) := by decide +kernel
theorem dX11_book_277 : decode cX11_book 277 = .ok (.aload_n 0, 1) := by decide +kernel
theorem dX11_book_278 : decode cX11_book 278 = .ok (.invokevirtual 330, 3) := by decide +kernel
theorem dX11_book_281 : decode cX11_book 281 = .ok (.iload_n 2, 1) := by decide +kernel
theorem dX11_book_282 : decode cX11_book 282 = .ok (.ireturn, 1) := by decide +kernel
theorem dX11_told_0 : decode cX11_told 0 = .ok (.aload_n 0, 1) := by decide +kernel
theorem dX11_told_1 : decode cX11_told 1 = .ok (.iconst 0, 1) := by decide +kernel
theorem dX11_told_2 : decode cX11_told 2 = .ok (.putfield 1, 3) := by decide +kernel
theorem dX11_told_5 : decode cX11_told 5 = .ok (.aload_n 0, 1) := by decide +kernel
theorem dX11_told_6 : decode cX11_told 6 = .ok (.getfield 416, 3) := by decide +kernel
theorem dX11_told_9 : decode cX11_told 9 = .ok (.ifCond .eq 21, 3) := by decide +kernel
theorem dX11_told_12 : decode cX11_told 12 = .ok (.iload_n 1, 1) := by decide +kernel
theorem dX11_told_13 : decode cX11_told 13 = .ok (.iconst 0, 1) := by decide +kernel
theorem dX11_told_14 : decode cX11_told 14 = .ok (.iconst 3, 1) := by decide +kernel
theorem dX11_told_15 : decode cX11_told 15 = .ok (.invokestatic 176, 3) := by decide +kernel
theorem dX11_told_18 : decode cX11_told 18 = .ok (.ifCond .eq 12, 3) := by decide +kernel
theorem dX11_told_21 : decode cX11_told 21 = .ok (.aload_n 0, 1) := by decide +kernel
theorem dX11_told_22 : decode cX11_told 22 = .ok (.getfield 69, 3) := by decide +kernel
theorem dX11_told_25 : decode cX11_told 25 = .ok (.iload_n 1, 1) := by decide +kernel
theorem dX11_told_26 : decode cX11_told 26 = .ok (.iaload, 1) := by decide +kernel
theorem dX11_told_27 : decode cX11_told 27 = .ok (.goto 4, 3) := by decide +kernel
theorem dX11_told_30 : decode cX11_told 30 = .ok (.iconst (-1), 1) := by decide +kernel
theorem dX11_told_31 : decode cX11_told 31 = .ok (.ireturn, 1) := by decide +kernel
theorem dX11_code_0 : decode cX11_code 0 = .ok (.aload_n 0, 1) := by decide +kernel
theorem dX11_code_1 : decode cX11_code 1 = .ok (.getfield 40, 3) := by decide +kernel
theorem dX11_code_4 : decode cX11_code 4 = .ok (.iconst 3, 1) := by decide +kernel
theorem dX11_code_5 : decode cX11_code 5 = .ok (.aload_n 0, 1) := by decide +kernel
theorem dX11_code_6 : decode cX11_code 6 = .ok (.getfield 419, 3) := by decide +kernel
theorem dX11_code_9 : decode cX11_code 9 = .ok (.imul, 1) := by decide +kernel
theorem dX11_code_10 : decode cX11_code 10 = .ok (.iload_n 1, 1) := by decide +kernel
theorem dX11_code_11 : decode cX11_code 11 = .ok (.iastore, 1) := by decide +kernel
theorem dX11_code_12 : decode cX11_code 12 = .ok (.aload_n 0, 1) := by decide +kernel
theorem dX11_code_13 : decode cX11_code 13 = .ok (.getfield 40, 3) := by decide +kernel
theorem dX11_code_16 : decode cX11_code 16 = .ok (.iconst 3, 1) := by decide +kernel
theorem dX11_code_17 : decode cX11_code 17 = .ok (.aload_n 0, 1) := by decide +kernel
theorem dX11_code_18 : decode cX11_code 18 = .ok (.getfield 419, 3) := by decide +kernel
theorem dX11_code_21 : decode cX11_code 21 = .ok (.imul, 1) := by decide +kernel
theorem dX11_code_22 : decode cX11_code 22 = .ok (.iconst 1, 1) := by decide +kernel
theorem dX11_code_23 : decode cX11_code 23 = .ok (.iadd, 1) := by decide +kernel
theorem dX11_code_24 : decode cX11_code 24 = .ok (.iload_n 2, 1) := by decide +kernel
theorem dX11_code_25 : decode cX11_code 25 = .ok (.iastore, 1) := by decide +kernel
theorem dX11_code_26 : decode cX11_code 26 = .ok (.aload_n 0, 1) := by decide +kernel
theorem dX11_code_27 : decode cX11_code 27 = .ok (.getfield 40, 3) := by decide +kernel
theorem dX11_code_30 : decode cX11_code 30 = .ok (.iconst 3, 1) := by decide +kernel
theorem dX11_code_31 : decode cX11_code 31 = .ok (.aload_n 0, 1) := by decide +kernel
theorem dX11_code_32 : decode cX11_code 32 = .ok (.getfield 419, 3) := by decide +kernel
theorem dX11_code_35 : decode cX11_code 35 = .ok (.imul, 1) := by decide +kernel
theorem dX11_code_36 : decode cX11_code 36 = .ok (.iconst 2, 1) := by decide +kernel
theorem dX11_code_37 : decode cX11_code 37 = .ok (.iadd, 1) := by decide +kernel
theorem dX11_code_38 : decode cX11_code 38 = .ok (.iload_n 3, 1) := by decide +kernel
theorem dX11_code_39 : decode cX11_code 39 = .ok (.iastore, 1) := by decide +kernel
theorem dX11_code_40 : decode cX11_code 40 = .ok (.aload_n 0, 1) := by decide +kernel
theorem dX11_code_41 : decode cX11_code 41 = .ok (.dup, 1) := by decide +kernel
theorem dX11_code_42 : decode cX11_code 42 = .ok (.getfield 419, 3) := by decide +kernel
theorem dX11_code_45 : decode cX11_code 45 = .ok (.iconst 1, 1) := by decide +kernel
theorem dX11_code_46 : decode cX11_code 46 = .ok (.iadd, 1) := by decide +kernel
theorem dX11_code_47 : decode cX11_code 47 = .ok (.putfield 419, 3) := by decide +kernel
theorem dX11_code_50 : decode cX11_code 50 = .ok (.return_, 1) := by decide +kernel
theorem dX11_joins_0 : decode cX11_joins 0 = .ok (.aload_n 0, 1) := by decide +kernel
theorem dX11_joins_1 : decode cX11_joins 1 = .ok (.getfield 422, 3) := by decide +kernel
theorem dX11_joins_4 : decode cX11_joins 4 = .ok (.ifCond .le 69, 3) := by decide +kernel
theorem dX11_joins_7 : decode cX11_joins 7 = .ok (.aload_n 0, 1) := by decide +kernel
theorem dX11_joins_8 : decode cX11_joins 8 = .ok (.getfield 72, 3) := by decide +kernel
theorem dX11_joins_11 : decode cX11_joins 11 = .ok (.aload_n 0, 1) := by decide +kernel
theorem dX11_joins_12 : decode cX11_joins 12 = .ok (.getfield 422, 3) := by decide +kernel
theorem dX11_joins_15 : decode cX11_joins 15 = .ok (.iconst 1, 1) := by decide +kernel
theorem dX11_joins_16 : decode cX11_joins 16 = .ok (.isub, 1) := by decide +kernel
theorem dX11_joins_17 : decode cX11_joins 17 = .ok (.iaload, 1) := by decide +kernel
theorem dX11_joins_18 : decode cX11_joins 18 = .ok (.bipush 21, 2) := by decide +kernel
theorem dX11_joins_20 : decode cX11_joins 20 = .ok (.if_icmp .eq 25, 3) := by decide +kernel
theorem dX11_joins_23 : decode cX11_joins 23 = .ok (.aload_n 0, 1) := by decide +kernel
theorem dX11_joins_24 : decode cX11_joins 24 = .ok (.getfield 72, 3) := by decide +kernel
theorem dX11_joins_27 : decode cX11_joins 27 = .ok (.aload_n 0, 1) := by decide +kernel
theorem dX11_joins_28 : decode cX11_joins 28 = .ok (.getfield 422, 3) := by decide +kernel
theorem dX11_joins_31 : decode cX11_joins 31 = .ok (.iconst 1, 1) := by decide +kernel
theorem dX11_joins_32 : decode cX11_joins 32 = .ok (.isub, 1) := by decide +kernel
theorem dX11_joins_33 : decode cX11_joins 33 = .ok (.iaload, 1) := by decide +kernel
theorem dX11_joins_34 : decode cX11_joins 34 = .ok (.bipush 22, 2) := by decide +kernel
theorem dX11_joins_36 : decode cX11_joins 36 = .ok (.if_icmp .ne 37, 3) := by decide +kernel
theorem dX11_joins_39 : decode cX11_joins 39 = .ok (.iload_n 1, 1) := by decide +kernel
theorem dX11_joins_40 : decode cX11_joins 40 = .ok (.bipush 22, 2) := by decide +kernel
theorem dX11_joins_42 : decode cX11_joins 42 = .ok (.if_icmp .ne 31, 3) := by decide +kernel
theorem dX11_joins_45 : decode cX11_joins 45 = .ok (.aload_n 0, 1) := by decide +kernel
theorem dX11_joins_46 : decode cX11_joins 46 = .ok (.dup, 1) := by decide +kernel
theorem dX11_joins_47 : decode cX11_joins 47 = .ok (.getfield 422, 3) := by decide +kernel
theorem dX11_joins_50 : decode cX11_joins 50 = .ok (.iconst 1, 1) := by decide +kernel
theorem dX11_joins_51 : decode cX11_joins 51 = .ok (.isub, 1) := by decide +kernel
theorem dX11_joins_52 : decode cX11_joins 52 = .ok (.putfield 422, 3) := by decide +kernel
theorem dX11_joins_55 : decode cX11_joins 55 = .ok (.aload_n 0, 1) := by decide +kernel
theorem dX11_joins_56 : decode cX11_joins 56 = .ok (.aload_n 0, 1) := by decide +kernel
theorem dX11_joins_57 : decode cX11_joins 57 = .ok (.getfield 72, 3) := by decide +kernel
theorem dX11_joins_60 : decode cX11_joins 60 = .ok (.aload_n 0, 1) := by decide +kernel
theorem dX11_joins_61 : decode cX11_joins 61 = .ok (.getfield 422, 3) := by decide +kernel
theorem dX11_joins_64 : decode cX11_joins 64 = .ok (.iaload, 1) := by decide +kernel
theorem dX11_joins_65 : decode cX11_joins 65 = .ok (.iconst 0, 1) := by decide +kernel
theorem dX11_joins_66 : decode cX11_joins 66 = .ok (.iconst 0, 1) := by decide +kernel
theorem dX11_joins_67 : decode cX11_joins 67 = .ok (.invokevirtual 425, 3) := by decide +kernel
theorem dX11_joins_70 : decode cX11_joins 70 = .ok (.goto (-70), 3) := by decide +kernel
theorem dX11_joins_73 : decode cX11_joins 73 = .ok (.return_, 1) := by decide +kernel
theorem dX11_nots_0 : decode cX11_nots 0 = .ok (.aload_n 0, 1) := by decide +kernel
theorem dX11_nots_1 : decode cX11_nots 1 = .ok (.getfield 422, 3) := by decide +kernel
theorem dX11_nots_4 : decode cX11_nots 4 = .ok (.ifCond .le 50, 3) := by decide +kernel
theorem dX11_nots_7 : decode cX11_nots 7 = .ok (.aload_n 0, 1) := by decide +kernel
theorem dX11_nots_8 : decode cX11_nots 8 = .ok (.getfield 72, 3) := by decide +kernel
theorem dX11_nots_11 : decode cX11_nots 11 = .ok (.aload_n 0, 1) := by decide +kernel
theorem dX11_nots_12 : decode cX11_nots 12 = .ok (.getfield 422, 3) := by decide +kernel
theorem dX11_nots_15 : decode cX11_nots 15 = .ok (.iconst 1, 1) := by decide +kernel
theorem dX11_nots_16 : decode cX11_nots 16 = .ok (.isub, 1) := by decide +kernel
theorem dX11_nots_17 : decode cX11_nots 17 = .ok (.iaload, 1) := by decide +kernel
theorem dX11_nots_18 : decode cX11_nots 18 = .ok (.bipush 20, 2) := by decide +kernel
theorem dX11_nots_20 : decode cX11_nots 20 = .ok (.if_icmp .ne 34, 3) := by decide +kernel
theorem dX11_nots_23 : decode cX11_nots 23 = .ok (.aload_n 0, 1) := by decide +kernel
theorem dX11_nots_24 : decode cX11_nots 24 = .ok (.dup, 1) := by decide +kernel
theorem dX11_nots_25 : decode cX11_nots 25 = .ok (.getfield 422, 3) := by decide +kernel
theorem dX11_nots_28 : decode cX11_nots 28 = .ok (.iconst 1, 1) := by decide +kernel
theorem dX11_nots_29 : decode cX11_nots 29 = .ok (.isub, 1) := by decide +kernel
theorem dX11_nots_30 : decode cX11_nots 30 = .ok (.putfield 422, 3) := by decide +kernel
theorem dX11_nots_33 : decode cX11_nots 33 = .ok (.aload_n 0, 1) := by decide +kernel
theorem dX11_nots_34 : decode cX11_nots 34 = .ok (.dup, 1) := by decide +kernel
theorem dX11_nots_35 : decode cX11_nots 35 = .ok (.getfield 429, 3) := by decide +kernel
theorem dX11_nots_38 : decode cX11_nots 38 = .ok (.iconst 1, 1) := by decide +kernel
theorem dX11_nots_39 : decode cX11_nots 39 = .ok (.isub, 1) := by decide +kernel
theorem dX11_nots_40 : decode cX11_nots 40 = .ok (.putfield 429, 3) := by decide +kernel
theorem dX11_nots_43 : decode cX11_nots 43 = .ok (.aload_n 0, 1) := by decide +kernel
theorem dX11_nots_44 : decode cX11_nots 44 = .ok (.bipush 20, 2) := by decide +kernel
theorem dX11_nots_46 : decode cX11_nots 46 = .ok (.iconst 0, 1) := by decide +kernel
theorem dX11_nots_47 : decode cX11_nots 47 = .ok (.iconst 0, 1) := by decide +kernel
theorem dX11_nots_48 : decode cX11_nots 48 = .ok (.invokevirtual 425, 3) := by decide +kernel
theorem dX11_nots_51 : decode cX11_nots 51 = .ok (.goto (-51), 3) := by decide +kernel
theorem dX11_nots_54 : decode cX11_nots 54 = .ok (.return_, 1) := by decide +kernel
theorem dX11_leafOf_0 : decode cX11_leafOf 0 = .ok (.aload_n 0, 1) := by decide +kernel
theorem dX11_leafOf_1 : decode cX11_leafOf 1 = .ok (.ldc2_w 115, 3) := by decide +kernel
theorem dX11_leafOf_4 : decode cX11_leafOf 4 = .ok (.invokevirtual 198, 3) := by decide +kernel
theorem dX11_leafOf_7 : decode cX11_leafOf 7 = .ok (.ifCond .eq 7, 3) := by decide +kernel
theorem dX11_leafOf_10 : decode cX11_leafOf 10 = .ok (.iconst 0, 1) := by decide +kernel
theorem dX11_leafOf_11 : decode cX11_leafOf 11 = .ok (.goto 119, 3) := by decide +kernel
theorem dX11_leafOf_14 : decode cX11_leafOf 14 = .ok (.aload_n 0, 1) := by decide +kernel
theorem dX11_leafOf_15 : decode cX11_leafOf 15 = .ok (.ldc2_w 117, 3) := by decide +kernel
theorem dX11_leafOf_18 : decode cX11_leafOf 18 = .ok (.invokevirtual 198, 3) := by decide +kernel
theorem dX11_leafOf_21 : decode cX11_leafOf 21 = .ok (.ifCond .eq 7, 3) := by decide +kernel
theorem dX11_leafOf_24 : decode cX11_leafOf 24 = .ok (.iconst 1, 1) := by decide +kernel
theorem dX11_leafOf_25 : decode cX11_leafOf 25 = .ok (.goto 105, 3) := by decide +kernel
theorem dX11_leafOf_28 : decode cX11_leafOf 28 = .ok (.aload_n 0, 1) := by decide +kernel
theorem dX11_leafOf_29 : decode cX11_leafOf 29 = .ok (.ldc2_w 119, 3) := by decide +kernel
theorem dX11_leafOf_32 : decode cX11_leafOf 32 = .ok (.invokevirtual 198, 3) := by decide +kernel
theorem dX11_leafOf_35 : decode cX11_leafOf 35 = .ok (.ifCond .eq 7, 3) := by decide +kernel
theorem dX11_leafOf_38 : decode cX11_leafOf 38 = .ok (.iconst 2, 1) := by decide +kernel
theorem dX11_leafOf_39 : decode cX11_leafOf 39 = .ok (.goto 91, 3) := by decide +kernel
theorem dX11_leafOf_42 : decode cX11_leafOf 42 = .ok (.aload_n 0, 1) := by decide +kernel
theorem dX11_leafOf_43 : decode cX11_leafOf 43 = .ok (.ldc2_w 121, 3) := by decide +kernel
theorem dX11_leafOf_46 : decode cX11_leafOf 46 = .ok (.invokevirtual 198, 3) := by decide +kernel
theorem dX11_leafOf_49 : decode cX11_leafOf 49 = .ok (.ifCond .eq 7, 3) := by decide +kernel
theorem dX11_leafOf_52 : decode cX11_leafOf 52 = .ok (.iconst 3, 1) := by decide +kernel
theorem dX11_leafOf_53 : decode cX11_leafOf 53 = .ok (.goto 77, 3) := by decide +kernel
theorem dX11_leafOf_56 : decode cX11_leafOf 56 = .ok (.aload_n 0, 1) := by decide +kernel
theorem dX11_leafOf_57 : decode cX11_leafOf 57 = .ok (.ldc2_w 123, 3) := by decide +kernel
theorem dX11_leafOf_60 : decode cX11_leafOf 60 = .ok (.invokevirtual 198, 3) := by decide +kernel
theorem dX11_leafOf_63 : decode cX11_leafOf 63 = .ok (.ifCond .eq 7, 3) := by decide +kernel
theorem dX11_leafOf_66 : decode cX11_leafOf 66 = .ok (.iconst 4, 1) := by decide +kernel
theorem dX11_leafOf_67 : decode cX11_leafOf 67 = .ok (.goto 63, 3) := by decide +kernel
theorem dX11_leafOf_70 : decode cX11_leafOf 70 = .ok (.aload_n 0, 1) := by decide +kernel
theorem dX11_leafOf_71 : decode cX11_leafOf 71 = .ok (.ldc2_w 91, 3) := by decide +kernel
theorem dX11_leafOf_74 : decode cX11_leafOf 74 = .ok (.invokevirtual 198, 3) := by decide +kernel
theorem dX11_leafOf_77 : decode cX11_leafOf 77 = .ok (.ifCond .eq 7, 3) := by decide +kernel
theorem dX11_leafOf_80 : decode cX11_leafOf 80 = .ok (.iconst 5, 1) := by decide +kernel
theorem dX11_leafOf_81 : decode cX11_leafOf 81 = .ok (.goto 49, 3) := by decide +kernel
theorem dX11_leafOf_84 : decode cX11_leafOf 84 = .ok (.aload_n 0, 1) := by decide +kernel
theorem dX11_leafOf_85 : decode cX11_leafOf 85 = .ok (.ldc2_w 125, 3) := by decide +kernel
theorem dX11_leafOf_88 : decode cX11_leafOf 88 = .ok (.invokevirtual 198, 3) := by decide +kernel
theorem dX11_leafOf_91 : decode cX11_leafOf 91 = .ok (.ifCond .eq 8, 3) := by decide +kernel
theorem dX11_leafOf_94 : decode cX11_leafOf 94 = .ok (.bipush 6, 2) := by decide +kernel
theorem dX11_leafOf_96 : decode cX11_leafOf 96 = .ok (.goto 34, 3) := by decide +kernel
theorem dX11_leafOf_99 : decode cX11_leafOf 99 = .ok (.aload_n 0, 1) := by decide +kernel
theorem dX11_leafOf_100 : decode cX11_leafOf 100 = .ok (.ldc2_w 127, 3) := by decide +kernel
theorem dX11_leafOf_103 : decode cX11_leafOf 103 = .ok (.invokevirtual 198, 3) := by decide +kernel
theorem dX11_leafOf_106 : decode cX11_leafOf 106 = .ok (.ifCond .eq 8, 3) := by decide +kernel
theorem dX11_leafOf_109 : decode cX11_leafOf 109 = .ok (.bipush 7, 2) := by decide +kernel
theorem dX11_leafOf_111 : decode cX11_leafOf 111 = .ok (.goto 19, 3) := by decide +kernel
theorem dX11_leafOf_114 : decode cX11_leafOf 114 = .ok (.aload_n 0, 1) := by decide +kernel
theorem dX11_leafOf_115 : decode cX11_leafOf 115 = .ok (.ldc2_w 129, 3) := by decide +kernel
theorem dX11_leafOf_118 : decode cX11_leafOf 118 = .ok (.invokevirtual 198, 3) := by decide +kernel
theorem dX11_leafOf_121 : decode cX11_leafOf 121 = .ok (.ifCond .eq 8, 3) := by decide +kernel
theorem dX11_leafOf_124 : decode cX11_leafOf 124 = .ok (.bipush 8, 2) := by decide +kernel
theorem dX11_leafOf_126 : decode cX11_leafOf 126 = .ok (.goto 4, 3) := by decide +kernel
theorem dX11_leafOf_129 : decode cX11_leafOf 129 = .ok (.iconst (-1), 1) := by decide +kernel
theorem dX11_leafOf_130 : decode cX11_leafOf 130 = .ok (.ireturn, 1) := by decide +kernel
theorem dX11_operand_0 : decode cX11_operand 0 = .ok (.aload_n 0, 1) := by decide +kernel
theorem dX11_operand_1 : decode cX11_operand 1 = .ok (.ldc2_w 113, 3) := by decide +kernel
theorem dX11_operand_4 : decode cX11_operand 4 = .ok (.invokevirtual 198, 3) := by decide +kernel
theorem dX11_operand_7 : decode cX11_operand 7 = .ok (.istore_n 1, 1) := by decide +kernel
theorem dX11_operand_8 : decode cX11_operand 8 = .ok (.aload_n 0, 1) := by decide +kernel
theorem dX11_operand_9 : decode cX11_operand 9 = .ok (.bipush 40, 2) := by decide +kernel
theorem dX11_operand_11 : decode cX11_operand 11 = .ok (.invokevirtual 167, 3) := by decide +kernel
theorem dX11_operand_14 : decode cX11_operand 14 = .ok (.istore_n 2, 1) := by decide +kernel
theorem dX11_operand_15 : decode cX11_operand 15 = .ok (.aload_n 0, 1) := by decide +kernel
theorem dX11_operand_16 : decode cX11_operand 16 = .ok (.invokevirtual 432, 3) := by decide +kernel
theorem dX11_operand_19 : decode cX11_operand 19 = .ok (.istore_n 3, 1) := by decide +kernel
theorem dX11_operand_20 : decode cX11_operand 20 = .ok (.iload_n 1, 1) := by decide +kernel
theorem dX11_operand_21 : decode cX11_operand 21 = .ok (.ifCond .ne 17, 3) := by decide +kernel
theorem dX11_operand_24 : decode cX11_operand 24 = .ok (.iload_n 2, 1) := by decide +kernel
theorem dX11_operand_25 : decode cX11_operand 25 = .ok (.ifCond .ne 13, 3) := by decide +kernel
theorem dX11_operand_28 : decode cX11_operand 28 = .ok (.iload_n 3, 1) := by decide +kernel
theorem dX11_operand_29 : decode cX11_operand 29 = .ok (.ifCond .ge 9, 3) := by decide +kernel
theorem dX11_operand_32 : decode cX11_operand 32 = .ok (.aload_n 0, 1) := by decide +kernel
theorem dX11_operand_33 : decode cX11_operand 33 = .ok (.iconst 1, 1) := by decide +kernel
theorem dX11_operand_34 : decode cX11_operand 34 = .ok (.invokevirtual 170, 3) := by decide +kernel
theorem dX11_operand_37 : decode cX11_operand 37 = .ok (.ireturn, 1) := by decide +kernel
theorem dX11_operand_38 : decode cX11_operand 38 = .ok (.aload_n 0, 1) := by decide +kernel
theorem dX11_operand_39 : decode cX11_operand 39 = .ok (.getfield 435, 3) := by decide +kernel
theorem dX11_operand_42 : decode cX11_operand 42 = .ok (.bipush 20, 2) := by decide +kernel
theorem dX11_operand_44 : decode cX11_operand 44 = .ok (.if_icmp .eq 12, 3) := by decide +kernel
theorem dX11_operand_47 : decode cX11_operand 47 = .ok (.aload_n 0, 1) := by decide +kernel
theorem dX11_operand_48 : decode cX11_operand 48 = .ok (.getfield 429, 3) := by decide +kernel
theorem dX11_operand_51 : decode cX11_operand 51 = .ok (.bipush 8, 2) := by decide +kernel
theorem dX11_operand_53 : decode cX11_operand 53 = .ok (.if_icmp .le 9, 3) := by decide +kernel
theorem dX11_operand_56 : decode cX11_operand 56 = .ok (.aload_n 0, 1) := by decide +kernel
theorem dX11_operand_57 : decode cX11_operand 57 = .ok (.iconst 4, 1) := by decide +kernel
theorem dX11_operand_58 : decode cX11_operand 58 = .ok (.invokevirtual 170, 3) := by decide +kernel
theorem dX11_operand_61 : decode cX11_operand 61 = .ok (.ireturn, 1) := by decide +kernel
theorem dX11_operand_62 : decode cX11_operand 62 = .ok (.aload_n 0, 1) := by decide +kernel
theorem dX11_operand_63 : decode cX11_operand 63 = .ok (.dup, 1) := by decide +kernel
theorem dX11_operand_64 : decode cX11_operand 64 = .ok (.getfield 435, 3) := by decide +kernel
theorem dX11_operand_67 : decode cX11_operand 67 = .ok (.iconst 1, 1) := by decide +kernel
theorem dX11_operand_68 : decode cX11_operand 68 = .ok (.iadd, 1) := by decide +kernel
theorem dX11_operand_69 : decode cX11_operand 69 = .ok (.putfield 435, 3) := by decide +kernel
theorem dX11_operand_72 : decode cX11_operand 72 = .ok (.aload_n 0, 1) := by decide +kernel
theorem dX11_operand_73 : decode cX11_operand 73 = .ok (.invokevirtual 173, 3) := by decide +kernel
theorem dX11_operand_76 : decode cX11_operand 76 = .ok (.iload_n 1, 1) := by decide +kernel
theorem dX11_operand_77 : decode cX11_operand 77 = .ok (.ifCond .ne 7, 3) := by decide +kernel
theorem dX11_operand_80 : decode cX11_operand 80 = .ok (.iload_n 2, 1) := by decide +kernel
theorem dX11_operand_81 : decode cX11_operand 81 = .ok (.ifCond .eq 45, 3) := by decide +kernel
theorem dX11_operand_84 : decode cX11_operand 84 = .ok (.aload_n 0, 1) := by decide +kernel
theorem dX11_operand_85 : decode cX11_operand 85 = .ok (.getfield 72, 3) := by decide +kernel
theorem dX11_operand_88 : decode cX11_operand 88 = .ok (.aload_n 0, 1) := by decide +kernel
theorem dX11_operand_89 : decode cX11_operand 89 = .ok (.getfield 422, 3) := by decide +kernel
theorem dX11_operand_92 : decode cX11_operand 92 = .ok (.iload_n 1, 1) := by decide +kernel
theorem dX11_operand_93 : decode cX11_operand 93 = .ok (.ifCond .eq 8, 3) := by decide +kernel
theorem dX11_operand_96 : decode cX11_operand 96 = .ok (.bipush 20, 2) := by decide +kernel
theorem dX11_operand_98 : decode cX11_operand 98 = .ok (.goto 5, 3) := by decide +kernel
theorem dX11_operand_101 : decode cX11_operand 101 = .ok (.bipush 23, 2) := by decide +kernel
theorem dX11_operand_103 : decode cX11_operand 103 = .ok (.iastore, 1) := by decide +kernel
theorem dX11_operand_104 : decode cX11_operand 104 = .ok (.aload_n 0, 1) := by decide +kernel
theorem dX11_operand_105 : decode cX11_operand 105 = .ok (.dup, 1) := by decide +kernel
theorem dX11_operand_106 : decode cX11_operand 106 = .ok (.getfield 422, 3) := by decide +kernel
theorem dX11_operand_109 : decode cX11_operand 109 = .ok (.iconst 1, 1) := by decide +kernel
theorem dX11_operand_110 : decode cX11_operand 110 = .ok (.iadd, 1) := by decide +kernel
theorem dX11_operand_111 : decode cX11_operand 111 = .ok (.putfield 422, 3) := by decide +kernel
theorem dX11_operand_114 : decode cX11_operand 114 = .ok (.aload_n 0, 1) := by decide +kernel
theorem dX11_operand_115 : decode cX11_operand 115 = .ok (.dup, 1) := by decide +kernel
theorem dX11_operand_116 : decode cX11_operand 116 = .ok (.getfield 429, 3) := by decide +kernel
theorem dX11_operand_119 : decode cX11_operand 119 = .ok (.iconst 1, 1) := by decide +kernel
theorem dX11_operand_120 : decode cX11_operand 120 = .ok (.iadd, 1) := by decide +kernel
theorem dX11_operand_121 : decode cX11_operand 121 = .ok (.putfield 429, 3) := by decide +kernel
theorem dX11_operand_124 : decode cX11_operand 124 = .ok (.iconst 1, 1) := by decide +kernel
theorem dX11_operand_125 : decode cX11_operand 125 = .ok (.ireturn, 1) := by decide +kernel
theorem dX11_operand_126 : decode cX11_operand 126 = .ok (.aload_n 0, 1) := by decide +kernel
theorem dX11_operand_127 : decode cX11_operand 127 = .ok (.iconst 1, 1) := by decide +kernel
theorem dX11_operand_128 : decode cX11_operand 128 = .ok (.putfield 438, 3) := by decide +kernel
theorem dX11_operand_131 : decode cX11_operand 131 = .ok (.iload_n 3, 1) := by decide +kernel
theorem dX11_operand_132 : decode cX11_operand 132 = .ok (.iconst 3, 1) := by decide +kernel
theorem dX11_operand_133 : decode cX11_operand 133 = .ok (.if_icmp .ge 12, 3) := by decide +kernel
theorem dX11_operand_136 : decode cX11_operand 136 = .ok (.aload_n 0, 1) := by decide +kernel
theorem dX11_operand_137 : decode cX11_operand 137 = .ok (.iload_n 3, 1) := by decide +kernel
theorem dX11_operand_138 : decode cX11_operand 138 = .ok (.iconst 0, 1) := by decide +kernel
theorem dX11_operand_139 : decode cX11_operand 139 = .ok (.iconst 0, 1) := by decide +kernel
theorem dX11_operand_140 : decode cX11_operand 140 = .ok (.invokevirtual 425, 3) := by decide +kernel
theorem dX11_operand_143 : decode cX11_operand 143 = .ok (.iconst 1, 1) := by decide +kernel
theorem dX11_operand_144 : decode cX11_operand 144 = .ok (.ireturn, 1) := by decide +kernel
theorem dX11_operand_145 : decode cX11_operand 145 = .ok (.iload_n 3, 1) := by decide +kernel
theorem dX11_operand_146 : decode cX11_operand 146 = .ok (.iconst 5, 1) := by decide +kernel
theorem dX11_operand_147 : decode cX11_operand 147 = .ok (.if_icmp .ge 59, 3) := by decide +kernel
theorem dX11_operand_150 : decode cX11_operand 150 = .ok (.iload_n 3, 1) := by decide +kernel
theorem dX11_operand_151 : decode cX11_operand 151 = .ok (.iconst 3, 1) := by decide +kernel
theorem dX11_operand_152 : decode cX11_operand 152 = .ok (.if_icmp .ne 17, 3) := by decide +kernel
theorem dX11_operand_155 : decode cX11_operand 155 = .ok (.aload_n 0, 1) := by decide +kernel
theorem dX11_operand_156 : decode cX11_operand 156 = .ok (.iconst 0, 1) := by decide +kernel
theorem dX11_operand_157 : decode cX11_operand 157 = .ok (.aload_n 0, 1) := by decide +kernel
theorem dX11_operand_158 : decode cX11_operand 158 = .ok (.getfield 33, 3) := by decide +kernel
theorem dX11_operand_161 : decode cX11_operand 161 = .ok (.iconst 0, 1) := by decide +kernel
theorem dX11_operand_162 : decode cX11_operand 162 = .ok (.iaload, 1) := by decide +kernel
theorem dX11_operand_163 : decode cX11_operand 163 = .ok (.invokevirtual 195, 3) := by decide +kernel
theorem dX11_operand_166 : decode cX11_operand 166 = .ok (.goto 15, 3) := by decide +kernel
theorem dX11_operand_169 : decode cX11_operand 169 = .ok (.aload_n 0, 1) := by decide +kernel
theorem dX11_operand_170 : decode cX11_operand 170 = .ok (.bipush 8, 2) := by decide +kernel
theorem dX11_operand_172 : decode cX11_operand 172 = .ok (.aload_n 0, 1) := by decide +kernel
theorem dX11_operand_173 : decode cX11_operand 173 = .ok (.getfield 33, 3) := by decide +kernel
theorem dX11_operand_176 : decode cX11_operand 176 = .ok (.iconst 1, 1) := by decide +kernel
theorem dX11_operand_177 : decode cX11_operand 177 = .ok (.iaload, 1) := by decide +kernel
theorem dX11_operand_178 : decode cX11_operand 178 = .ok (.invokevirtual 195, 3) := by decide +kernel
theorem dX11_operand_181 : decode cX11_operand 181 = .ok (.istore 4, 2) := by decide +kernel
theorem dX11_operand_183 : decode cX11_operand 183 = .ok (.iload 4, 2) := by decide +kernel
theorem dX11_operand_185 : decode cX11_operand 185 = .ok (.ifCond .ne 5, 3) := by decide +kernel
theorem dX11_operand_188 : decode cX11_operand 188 = .ok (.iconst 0, 1) := by decide +kernel
theorem dX11_operand_189 : decode cX11_operand 189 = .ok (.ireturn, 1) := by decide +kernel
theorem dX11_operand_190 : decode cX11_operand 190 = .ok (.aload_n 0, 1) := by decide +kernel
theorem dX11_operand_191 : decode cX11_operand 191 = .ok (.iload_n 3, 1) := by decide +kernel
theorem dX11_operand_192 : decode cX11_operand 192 = .ok (.iconst 0, 1) := by decide +kernel
theorem dX11_operand_193 : decode cX11_operand 193 = .ok (.aload_n 0, 1) := by decide +kernel
theorem dX11_operand_194 : decode cX11_operand 194 = .ok (.getfield 180, 3) := by decide +kernel
theorem dX11_operand_197 : decode cX11_operand 197 = .ok (.invokevirtual 425, 3) := by decide +kernel
theorem dX11_operand_200 : decode cX11_operand 200 = .ok (.aload_n 0, 1) := by decide +kernel
theorem dX11_operand_201 : decode cX11_operand 201 = .ok (.invokevirtual 173, 3) := by decide +kernel
theorem dX11_operand_204 : decode cX11_operand 204 = .ok (.iconst 1, 1) := by decide +kernel
theorem dX11_operand_205 : decode cX11_operand 205 = .ok (.ireturn, 1) := by decide +kernel
theorem dX11_operand_206 : decode cX11_operand 206 = .ok (.aload_n 0, 1) := by decide +kernel
theorem dX11_operand_207 : decode cX11_operand 207 = .ok (.getfield 144, 3) := by decide +kernel
theorem dX11_operand_210 : decode cX11_operand 210 = .ok (.iconst 3, 1) := by decide +kernel
theorem dX11_operand_211 : decode cX11_operand 211 = .ok (.if_icmp .ne 21, 3) := by decide +kernel
theorem dX11_operand_214 : decode cX11_operand 214 = .ok (.aload_n 0, 1) := by decide +kernel
theorem dX11_operand_215 : decode cX11_operand 215 = .ok (.getfield 154, 3) := by decide +kernel
theorem dX11_operand_218 : decode cX11_operand 218 = .ok (.bipush 60, 2) := by decide +kernel
theorem dX11_operand_220 : decode cX11_operand 220 = .ok (.if_icmp .lt 12, 3) := by decide +kernel
theorem dX11_operand_223 : decode cX11_operand 223 = .ok (.aload_n 0, 1) := by decide +kernel
theorem dX11_operand_224 : decode cX11_operand 224 = .ok (.getfield 154, 3) := by decide +kernel
theorem dX11_operand_227 : decode cX11_operand 227 = .ok (.bipush 62, 2) := by decide +kernel
theorem dX11_operand_229 : decode cX11_operand 229 = .ok (.if_icmp .le 9, 3) := by decide +kernel
theorem dX11_operand_232 : decode cX11_operand 232 = .ok (.aload_n 0, 1) := by decide +kernel
theorem dX11_operand_233 : decode cX11_operand 233 = .ok (.iconst 1, 1) := by decide +kernel
theorem dX11_operand_234 : decode cX11_operand 234 = .ok (.invokevirtual 170, 3) := by decide +kernel
theorem dX11_operand_237 : decode cX11_operand 237 = .ok (.ireturn, 1) := by decide +kernel
theorem dX11_operand_238 : decode cX11_operand 238 = .ok (.aload_n 0, 1) := by decide +kernel
theorem dX11_operand_239 : decode cX11_operand 239 = .ok (.getfield 154, 3) := by decide +kernel
theorem dX11_operand_242 : decode cX11_operand 242 = .ok (.istore 4, 2) := by decide +kernel
theorem dX11_operand_244 : decode cX11_operand 244 = .ok (.aload_n 0, 1) := by decide +kernel
theorem dX11_operand_245 : decode cX11_operand 245 = .ok (.invokevirtual 173, 3) := by decide +kernel
theorem dX11_operand_248 : decode cX11_operand 248 = .ok (.aload_n 0, 1) := by decide +kernel
theorem dX11_operand_249 : decode cX11_operand 249 = .ok (.getfield 144, 3) := by decide +kernel
theorem dX11_operand_252 : decode cX11_operand 252 = .ok (.iconst 2, 1) := by decide +kernel
theorem dX11_operand_253 : decode cX11_operand 253 = .ok (.if_icmp .eq 9, 3) := by decide +kernel
theorem dX11_operand_256 : decode cX11_operand 256 = .ok (.aload_n 0, 1) := by decide +kernel
theorem dX11_operand_257 : decode cX11_operand 257 = .ok (.iconst 1, 1) := by decide +kernel
theorem dX11_operand_258 : decode cX11_operand 258 = .ok (.invokevirtual 170, 3) := by decide +kernel
theorem dX11_operand_261 : decode cX11_operand 261 = .ok (.ireturn, 1) := by decide +kernel
theorem dX11_operand_262 : decode cX11_operand 262 = .ok (.aload_n 0, 1) := by decide +kernel
theorem dX11_operand_263 : decode cX11_operand 263 = .ok (.iload_n 3, 1) := by decide +kernel
theorem dX11_operand_264 : decode cX11_operand 264 = .ok (.iload 4, 2) := by decide +kernel
theorem dX11_operand_266 : decode cX11_operand 266 = .ok (.aload_n 0, 1) := by decide +kernel
theorem dX11_operand_267 : decode cX11_operand 267 = .ok (.getfield 154, 3) := by decide +kernel
theorem dX11_operand_270 : decode cX11_operand 270 = .ok (.invokevirtual 425, 3) := by decide +kernel
theorem dX11_operand_273 : decode cX11_operand 273 = .ok (.aload_n 0, 1) := by decide +kernel
theorem dX11_operand_274 : decode cX11_operand 274 = .ok (.invokevirtual 173, 3) := by decide +kernel
theorem dX11_operand_277 : decode cX11_operand 277 = .ok (.iconst 1, 1) := by decide +kernel
theorem dX11_operand_278 : decode cX11_operand 278 = .ok (.ireturn, 1) := by decide +kernel
theorem dX11_behind_0 : decode cX11_behind 0 = .ok (.aload_n 0, 1) := by decide +kernel
theorem dX11_behind_1 : decode cX11_behind 1 = .ok (.invokevirtual 441, 3) := by decide +kernel
theorem dX11_behind_4 : decode cX11_behind 4 = .ok (.aload_n 0, 1) := by decide +kernel
theorem dX11_behind_5 : decode cX11_behind 5 = .ok (.ldc2_w 111, 3) := by decide +kernel
theorem dX11_behind_8 : decode cX11_behind 8 = .ok (.invokevirtual 198, 3) := by decide +kernel
theorem dX11_behind_11 : decode cX11_behind 11 = .ok (.ifCond .ne 13, 3) := by decide +kernel
theorem dX11_behind_14 : decode cX11_behind 14 = .ok (.aload_n 0, 1) := by decide +kernel
theorem dX11_behind_15 : decode cX11_behind 15 = .ok (.ldc2_w 109, 3) := by decide +kernel
theorem dX11_behind_18 : decode cX11_behind 18 = .ok (.invokevirtual 198, 3) := by decide +kernel
theorem dX11_behind_21 : decode cX11_behind 21 = .ok (.ifCond .eq 71, 3) := by decide +kernel
theorem dX11_behind_24 : decode cX11_behind 24 = .ok (.aload_n 0, 1) := by decide +kernel
theorem dX11_behind_25 : decode cX11_behind 25 = .ok (.aload_n 0, 1) := by decide +kernel
theorem dX11_behind_26 : decode cX11_behind 26 = .ok (.ldc2_w 111, 3) := by decide +kernel
theorem dX11_behind_29 : decode cX11_behind 29 = .ok (.invokevirtual 198, 3) := by decide +kernel
theorem dX11_behind_32 : decode cX11_behind 32 = .ok (.ifCond .eq 8, 3) := by decide +kernel
theorem dX11_behind_35 : decode cX11_behind 35 = .ok (.bipush 21, 2) := by decide +kernel
theorem dX11_behind_37 : decode cX11_behind 37 = .ok (.goto 5, 3) := by decide +kernel
theorem dX11_behind_40 : decode cX11_behind 40 = .ok (.bipush 22, 2) := by decide +kernel
theorem dX11_behind_42 : decode cX11_behind 42 = .ok (.invokevirtual 444, 3) := by decide +kernel
theorem dX11_behind_45 : decode cX11_behind 45 = .ok (.aload_n 0, 1) := by decide +kernel
theorem dX11_behind_46 : decode cX11_behind 46 = .ok (.getfield 72, 3) := by decide +kernel
theorem dX11_behind_49 : decode cX11_behind 49 = .ok (.aload_n 0, 1) := by decide +kernel
theorem dX11_behind_50 : decode cX11_behind 50 = .ok (.getfield 422, 3) := by decide +kernel
theorem dX11_behind_53 : decode cX11_behind 53 = .ok (.aload_n 0, 1) := by decide +kernel
theorem dX11_behind_54 : decode cX11_behind 54 = .ok (.ldc2_w 111, 3) := by decide +kernel
theorem dX11_behind_57 : decode cX11_behind 57 = .ok (.invokevirtual 198, 3) := by decide +kernel
theorem dX11_behind_60 : decode cX11_behind 60 = .ok (.ifCond .eq 8, 3) := by decide +kernel
theorem dX11_behind_63 : decode cX11_behind 63 = .ok (.bipush 21, 2) := by decide +kernel
theorem dX11_behind_65 : decode cX11_behind 65 = .ok (.goto 5, 3) := by decide +kernel
theorem dX11_behind_68 : decode cX11_behind 68 = .ok (.bipush 22, 2) := by decide +kernel
theorem dX11_behind_70 : decode cX11_behind 70 = .ok (.iastore, 1) := by decide +kernel
theorem dX11_behind_71 : decode cX11_behind 71 = .ok (.aload_n 0, 1) := by decide +kernel
theorem dX11_behind_72 : decode cX11_behind 72 = .ok (.dup, 1) := by decide +kernel
theorem dX11_behind_73 : decode cX11_behind 73 = .ok (.getfield 422, 3) := by decide +kernel
theorem dX11_behind_76 : decode cX11_behind 76 = .ok (.iconst 1, 1) := by decide +kernel
theorem dX11_behind_77 : decode cX11_behind 77 = .ok (.iadd, 1) := by decide +kernel
theorem dX11_behind_78 : decode cX11_behind 78 = .ok (.putfield 422, 3) := by decide +kernel
theorem dX11_behind_81 : decode cX11_behind 81 = .ok (.aload_n 0, 1) := by decide +kernel
theorem dX11_behind_82 : decode cX11_behind 82 = .ok (.iconst 0, 1) := by decide +kernel
theorem dX11_behind_83 : decode cX11_behind 83 = .ok (.putfield 438, 3) := by decide +kernel
theorem dX11_behind_86 : decode cX11_behind 86 = .ok (.aload_n 0, 1) := by decide +kernel
theorem dX11_behind_87 : decode cX11_behind 87 = .ok (.invokevirtual 173, 3) := by decide +kernel
theorem dX11_behind_90 : decode cX11_behind 90 = .ok (.iconst 1, 1) := by decide +kernel
theorem dX11_behind_91 : decode cX11_behind 91 = .ok (.ireturn, 1) := by decide +kernel
theorem dX11_behind_92 : decode cX11_behind 92 = .ok (.aload_n 0, 1) := by decide +kernel
theorem dX11_behind_93 : decode cX11_behind 93 = .ok (.bipush 22, 2) := by decide +kernel
theorem dX11_behind_95 : decode cX11_behind 95 = .ok (.invokevirtual 444, 3) := by decide +kernel
theorem dX11_behind_98 : decode cX11_behind 98 = .ok (.aload_n 0, 1) := by decide +kernel
theorem dX11_behind_99 : decode cX11_behind 99 = .ok (.bipush 41, 2) := by decide +kernel
theorem dX11_behind_101 : decode cX11_behind 101 = .ok (.invokevirtual 167, 3) := by decide +kernel
theorem dX11_behind_104 : decode cX11_behind 104 = .ok (.ifCond .eq 10, 3) := by decide +kernel
theorem dX11_behind_107 : decode cX11_behind 107 = .ok (.aload_n 0, 1) := by decide +kernel
theorem dX11_behind_108 : decode cX11_behind 108 = .ok (.getfield 422, 3) := by decide +kernel
theorem dX11_behind_111 : decode cX11_behind 111 = .ok (.ifCond .ne 9, 3) := by decide +kernel
theorem dX11_behind_114 : decode cX11_behind 114 = .ok (.aload_n 0, 1) := by decide +kernel
theorem dX11_behind_115 : decode cX11_behind 115 = .ok (.iconst 1, 1) := by decide +kernel
theorem dX11_behind_116 : decode cX11_behind 116 = .ok (.invokevirtual 170, 3) := by decide +kernel
theorem dX11_behind_119 : decode cX11_behind 119 = .ok (.ireturn, 1) := by decide +kernel
theorem dX11_behind_120 : decode cX11_behind 120 = .ok (.aload_n 0, 1) := by decide +kernel
theorem dX11_behind_121 : decode cX11_behind 121 = .ok (.dup, 1) := by decide +kernel
theorem dX11_behind_122 : decode cX11_behind 122 = .ok (.getfield 422, 3) := by decide +kernel
theorem dX11_behind_125 : decode cX11_behind 125 = .ok (.iconst 1, 1) := by decide +kernel
theorem dX11_behind_126 : decode cX11_behind 126 = .ok (.isub, 1) := by decide +kernel
theorem dX11_behind_127 : decode cX11_behind 127 = .ok (.putfield 422, 3) := by decide +kernel
theorem dX11_behind_130 : decode cX11_behind 130 = .ok (.aload_n 0, 1) := by decide +kernel
theorem dX11_behind_131 : decode cX11_behind 131 = .ok (.dup, 1) := by decide +kernel
theorem dX11_behind_132 : decode cX11_behind 132 = .ok (.getfield 429, 3) := by decide +kernel
theorem dX11_behind_135 : decode cX11_behind 135 = .ok (.iconst 1, 1) := by decide +kernel
theorem dX11_behind_136 : decode cX11_behind 136 = .ok (.isub, 1) := by decide +kernel
theorem dX11_behind_137 : decode cX11_behind 137 = .ok (.putfield 429, 3) := by decide +kernel
theorem dX11_behind_140 : decode cX11_behind 140 = .ok (.aload_n 0, 1) := by decide +kernel
theorem dX11_behind_141 : decode cX11_behind 141 = .ok (.invokevirtual 173, 3) := by decide +kernel
theorem dX11_behind_144 : decode cX11_behind 144 = .ok (.iconst 1, 1) := by decide +kernel
theorem dX11_behind_145 : decode cX11_behind 145 = .ok (.ireturn, 1) := by decide +kernel
theorem dX11_sentence_0 : decode cX11_sentence 0 = .ok (.aload_n 0, 1) := by decide +kernel
theorem dX11_sentence_1 : decode cX11_sentence 1 = .ok (.iconst 0, 1) := by decide +kernel
theorem dX11_sentence_2 : decode cX11_sentence 2 = .ok (.putfield 1, 3) := by decide +kernel
theorem dX11_sentence_5 : decode cX11_sentence 5 = .ok (.aload_n 0, 1) := by decide +kernel
theorem dX11_sentence_6 : decode cX11_sentence 6 = .ok (.sipush 200, 3) := by decide +kernel
theorem dX11_sentence_9 : decode cX11_sentence 9 = .ok (.invokevirtual 230, 3) := by decide +kernel
theorem dX11_sentence_12 : decode cX11_sentence 12 = .ok (.aload_n 0, 1) := by decide +kernel
theorem dX11_sentence_13 : decode cX11_sentence 13 = .ok (.iconst 0, 1) := by decide +kernel
theorem dX11_sentence_14 : decode cX11_sentence 14 = .ok (.putfield 161, 3) := by decide +kernel
theorem dX11_sentence_17 : decode cX11_sentence 17 = .ok (.aload_n 0, 1) := by decide +kernel
theorem dX11_sentence_18 : decode cX11_sentence 18 = .ok (.iconst 0, 1) := by decide +kernel
theorem dX11_sentence_19 : decode cX11_sentence 19 = .ok (.putfield 419, 3) := by decide +kernel
theorem dX11_sentence_22 : decode cX11_sentence 22 = .ok (.aload_n 0, 1) := by decide +kernel
theorem dX11_sentence_23 : decode cX11_sentence 23 = .ok (.iconst 0, 1) := by decide +kernel
theorem dX11_sentence_24 : decode cX11_sentence 24 = .ok (.putfield 435, 3) := by decide +kernel
theorem dX11_sentence_27 : decode cX11_sentence 27 = .ok (.aload_n 0, 1) := by decide +kernel
theorem dX11_sentence_28 : decode cX11_sentence 28 = .ok (.iconst 0, 1) := by decide +kernel
theorem dX11_sentence_29 : decode cX11_sentence 29 = .ok (.putfield 422, 3) := by decide +kernel
theorem dX11_sentence_32 : decode cX11_sentence 32 = .ok (.aload_n 0, 1) := by decide +kernel
theorem dX11_sentence_33 : decode cX11_sentence 33 = .ok (.iconst 1, 1) := by decide +kernel
theorem dX11_sentence_34 : decode cX11_sentence 34 = .ok (.putfield 429, 3) := by decide +kernel
theorem dX11_sentence_37 : decode cX11_sentence 37 = .ok (.aload_n 0, 1) := by decide +kernel
theorem dX11_sentence_38 : decode cX11_sentence 38 = .ok (.iconst 0, 1) := by decide +kernel
theorem dX11_sentence_39 : decode cX11_sentence 39 = .ok (.putfield 438, 3) := by decide +kernel
theorem dX11_sentence_42 : decode cX11_sentence 42 = .ok (.aload_n 0, 1) := by decide +kernel
theorem dX11_sentence_43 : decode cX11_sentence 43 = .ok (.invokevirtual 173, 3) := by decide +kernel
theorem dX11_sentence_46 : decode cX11_sentence 46 = .ok (.iconst 1, 1) := by decide +kernel
theorem dX11_sentence_47 : decode cX11_sentence 47 = .ok (.istore_n 1, 1) := by decide +kernel
theorem dX11_sentence_48 : decode cX11_sentence 48 = .ok (.iload_n 1, 1) := by decide +kernel
theorem dX11_sentence_49 : decode cX11_sentence 49 = .ok (.ifCond .eq 83, 3) := by decide +kernel
theorem dX11_sentence_52 : decode cX11_sentence 52 = .ok (.aload_n 0, 1) := by decide +kernel
theorem dX11_sentence_53 : decode cX11_sentence 53 = .ok (.getfield 438, 3) := by decide +kernel
theorem dX11_sentence_56 : decode cX11_sentence 56 = .ok (.ifCond .eq 45, 3) := by decide +kernel
theorem dX11_sentence_59 : decode cX11_sentence 59 = .ok (.aload_n 0, 1) := by decide +kernel
theorem dX11_sentence_60 : decode cX11_sentence 60 = .ok (.getfield 144, 3) := by decide +kernel
theorem dX11_sentence_63 : decode cX11_sentence 63 = .ok (.ifCond .ne 38, 3) := by decide +kernel
theorem dX11_sentence_66 : decode cX11_sentence 66 = .ok (.aload_n 0, 1) := by decide +kernel
theorem dX11_sentence_67 : decode cX11_sentence 67 = .ok (.invokevirtual 441, 3) := by decide +kernel
theorem dX11_sentence_70 : decode cX11_sentence 70 = .ok (.aload_n 0, 1) := by decide +kernel
theorem dX11_sentence_71 : decode cX11_sentence 71 = .ok (.bipush 22, 2) := by decide +kernel
theorem dX11_sentence_73 : decode cX11_sentence 73 = .ok (.invokevirtual 444, 3) := by decide +kernel
theorem dX11_sentence_76 : decode cX11_sentence 76 = .ok (.aload_n 0, 1) := by decide +kernel
theorem dX11_sentence_77 : decode cX11_sentence 77 = .ok (.getfield 422, 3) := by decide +kernel
theorem dX11_sentence_80 : decode cX11_sentence 80 = .ok (.ifCond .le 16, 3) := by decide +kernel
theorem dX11_sentence_83 : decode cX11_sentence 83 = .ok (.aload_n 0, 1) := by decide +kernel
theorem dX11_sentence_84 : decode cX11_sentence 84 = .ok (.iconst 1, 1) := by decide +kernel
theorem dX11_sentence_85 : decode cX11_sentence 85 = .ok (.invokevirtual 170, 3) := by decide +kernel
theorem dX11_sentence_88 : decode cX11_sentence 88 = .ok (.pop, 1) := by decide +kernel
theorem dX11_sentence_89 : decode cX11_sentence 89 = .ok (.iconst (-1), 1) := by decide +kernel
theorem dX11_sentence_90 : decode cX11_sentence 90 = .ok (.aload_n 0, 1) := by decide +kernel
theorem dX11_sentence_91 : decode cX11_sentence 91 = .ok (.getfield 164, 3) := by decide +kernel
theorem dX11_sentence_94 : decode cX11_sentence 94 = .ok (.isub, 1) := by decide +kernel
theorem dX11_sentence_95 : decode cX11_sentence 95 = .ok (.ireturn, 1) := by decide +kernel
theorem dX11_sentence_96 : decode cX11_sentence 96 = .ok (.iconst 0, 1) := by decide +kernel
theorem dX11_sentence_97 : decode cX11_sentence 97 = .ok (.istore_n 1, 1) := by decide +kernel
theorem dX11_sentence_98 : decode cX11_sentence 98 = .ok (.goto (-50), 3) := by decide +kernel
theorem dX11_sentence_101 : decode cX11_sentence 101 = .ok (.aload_n 0, 1) := by decide +kernel
theorem dX11_sentence_102 : decode cX11_sentence 102 = .ok (.getfield 438, 3) := by decide +kernel
theorem dX11_sentence_105 : decode cX11_sentence 105 = .ok (.ifCond .eq 13, 3) := by decide +kernel
theorem dX11_sentence_108 : decode cX11_sentence 108 = .ok (.aload_n 0, 1) := by decide +kernel
theorem dX11_sentence_109 : decode cX11_sentence 109 = .ok (.invokevirtual 447, 3) := by decide +kernel
theorem dX11_sentence_112 : decode cX11_sentence 112 = .ok (.ifCond .ne (-64), 3) := by decide +kernel
theorem dX11_sentence_115 : decode cX11_sentence 115 = .ok (.goto 10, 3) := by decide +kernel
theorem dX11_sentence_118 : decode cX11_sentence 118 = .ok (.aload_n 0, 1) := by decide +kernel
theorem dX11_sentence_119 : decode cX11_sentence 119 = .ok (.invokevirtual 450, 3) := by decide +kernel
theorem dX11_sentence_122 : decode cX11_sentence 122 = .ok (.ifCond .ne (-74), 3) := by decide +kernel
theorem dX11_sentence_125 : decode cX11_sentence 125 = .ok (.iconst (-1), 1) := by decide +kernel
theorem dX11_sentence_126 : decode cX11_sentence 126 = .ok (.aload_n 0, 1) := by decide +kernel
theorem dX11_sentence_127 : decode cX11_sentence 127 = .ok (.getfield 164, 3) := by decide +kernel
theorem dX11_sentence_130 : decode cX11_sentence 130 = .ok (.isub, 1) := by decide +kernel
theorem dX11_sentence_131 : decode cX11_sentence 131 = .ok (.ireturn, 1) := by decide +kernel
theorem dX11_sentence_132 : decode cX11_sentence 132 = .ok (.aload_n 0, 1) := by decide +kernel
theorem dX11_sentence_133 : decode cX11_sentence 133 = .ok (.getfield 33, 3) := by decide +kernel
theorem dX11_sentence_136 : decode cX11_sentence 136 = .ok (.sipush 209, 3) := by decide +kernel
theorem dX11_sentence_139 : decode cX11_sentence 139 = .ok (.aload_n 0, 1) := by decide +kernel
theorem dX11_sentence_140 : decode cX11_sentence 140 = .ok (.getfield 419, 3) := by decide +kernel
theorem dX11_sentence_143 : decode cX11_sentence 143 = .ok (.iastore, 1) := by decide +kernel
theorem dX11_sentence_144 : decode cX11_sentence 144 = .ok (.iconst 0, 1) := by decide +kernel
theorem dX11_sentence_145 : decode cX11_sentence 145 = .ok (.istore_n 2, 1) := by decide +kernel
theorem dX11_sentence_146 : decode cX11_sentence 146 = .ok (.iload_n 2, 1) := by decide +kernel
theorem dX11_sentence_147 : decode cX11_sentence 147 = .ok (.iconst 3, 1) := by decide +kernel
theorem dX11_sentence_148 : decode cX11_sentence 148 = .ok (.aload_n 0, 1) := by decide +kernel
theorem dX11_sentence_149 : decode cX11_sentence 149 = .ok (.getfield 419, 3) := by decide +kernel
theorem dX11_sentence_152 : decode cX11_sentence 152 = .ok (.imul, 1) := by decide +kernel
theorem dX11_sentence_153 : decode cX11_sentence 153 = .ok (.if_icmp .ge 25, 3) := by decide +kernel
theorem dX11_sentence_156 : decode cX11_sentence 156 = .ok (.aload_n 0, 1) := by decide +kernel
theorem dX11_sentence_157 : decode cX11_sentence 157 = .ok (.getfield 33, 3) := by decide +kernel
theorem dX11_sentence_160 : decode cX11_sentence 160 = .ok (.sipush 210, 3) := by decide +kernel
theorem dX11_sentence_163 : decode cX11_sentence 163 = .ok (.iload_n 2, 1) := by decide +kernel
theorem dX11_sentence_164 : decode cX11_sentence 164 = .ok (.iadd, 1) := by decide +kernel
theorem dX11_sentence_165 : decode cX11_sentence 165 = .ok (.aload_n 0, 1) := by decide +kernel
theorem dX11_sentence_166 : decode cX11_sentence 166 = .ok (.getfield 40, 3) := by decide +kernel
theorem dX11_sentence_169 : decode cX11_sentence 169 = .ok (.iload_n 2, 1) := by decide +kernel
theorem dX11_sentence_170 : decode cX11_sentence 170 = .ok (.iaload, 1) := by decide +kernel
theorem dX11_sentence_171 : decode cX11_sentence 171 = .ok (.iastore, 1) := by decide +kernel
theorem dX11_sentence_172 : decode cX11_sentence 172 = .ok (.iinc 2 1, 3) := by decide +kernel
theorem dX11_sentence_175 : decode cX11_sentence 175 = .ok (.goto (-29), 3) := by decide +kernel
theorem dX11_sentence_178 : decode cX11_sentence 178 = .ok (.aload_n 0, 1) := by decide +kernel
theorem dX11_sentence_179 : decode cX11_sentence 179 = .ok (.getfield 435, 3) := by decide +kernel
theorem dX11_sentence_182 : decode cX11_sentence 182 = .ok (.ireturn, 1) := by decide +kernel
theorem dX11_isLeaf_0 : decode cX11_isLeaf 0 = .ok (.iload_n 2, 1) := by decide +kernel
theorem dX11_isLeaf_1 : decode cX11_isLeaf 1 = .ok (.tableswitch 103 0 4 #[35, 53, 59, 87, 95], 35) := by decide +kernel
theorem dX11_isLeaf_36 : decode cX11_isLeaf 36 = .ok (.aload_n 0, 1) := by decide +kernel
theorem dX11_isLeaf_37 : decode cX11_isLeaf 37 = .ok (.getfield 33, 3) := by decide +kernel
theorem dX11_isLeaf_40 : decode cX11_isLeaf 40 = .ok (.bipush 125, 2) := by decide +kernel
theorem dX11_isLeaf_42 : decode cX11_isLeaf 42 = .ok (.iload_n 1, 1) := by decide +kernel
theorem dX11_isLeaf_43 : decode cX11_isLeaf 43 = .ok (.iadd, 1) := by decide +kernel
theorem dX11_isLeaf_44 : decode cX11_isLeaf 44 = .ok (.iaload, 1) := by decide +kernel
theorem dX11_isLeaf_45 : decode cX11_isLeaf 45 = .ok (.ifCond .ne 7, 3) := by decide +kernel
theorem dX11_isLeaf_48 : decode cX11_isLeaf 48 = .ok (.iconst 1, 1) := by decide +kernel
theorem dX11_isLeaf_49 : decode cX11_isLeaf 49 = .ok (.goto 4, 3) := by decide +kernel
theorem dX11_isLeaf_52 : decode cX11_isLeaf 52 = .ok (.iconst 0, 1) := by decide +kernel
theorem dX11_isLeaf_53 : decode cX11_isLeaf 53 = .ok (.ireturn, 1) := by decide +kernel
theorem dX11_isLeaf_54 : decode cX11_isLeaf 54 = .ok (.aload_n 0, 1) := by decide +kernel
theorem dX11_isLeaf_55 : decode cX11_isLeaf 55 = .ok (.iload_n 1, 1) := by decide +kernel
theorem dX11_isLeaf_56 : decode cX11_isLeaf 56 = .ok (.invokevirtual 271, 3) := by decide +kernel
theorem dX11_isLeaf_59 : decode cX11_isLeaf 59 = .ok (.ireturn, 1) := by decide +kernel
theorem dX11_isLeaf_60 : decode cX11_isLeaf 60 = .ok (.aload_n 0, 1) := by decide +kernel
theorem dX11_isLeaf_61 : decode cX11_isLeaf 61 = .ok (.getfield 33, 3) := by decide +kernel
theorem dX11_isLeaf_64 : decode cX11_isLeaf 64 = .ok (.sipush 179, 3) := by decide +kernel
theorem dX11_isLeaf_67 : decode cX11_isLeaf 67 = .ok (.iload_n 1, 1) := by decide +kernel
theorem dX11_isLeaf_68 : decode cX11_isLeaf 68 = .ok (.iadd, 1) := by decide +kernel
theorem dX11_isLeaf_69 : decode cX11_isLeaf 69 = .ok (.iaload, 1) := by decide +kernel
theorem dX11_isLeaf_70 : decode cX11_isLeaf 70 = .ok (.aload_n 0, 1) := by decide +kernel
theorem dX11_isLeaf_71 : decode cX11_isLeaf 71 = .ok (.getfield 33, 3) := by decide +kernel
theorem dX11_isLeaf_74 : decode cX11_isLeaf 74 = .ok (.bipush 21, 2) := by decide +kernel
theorem dX11_isLeaf_76 : decode cX11_isLeaf 76 = .ok (.iload_n 1, 1) := by decide +kernel
theorem dX11_isLeaf_77 : decode cX11_isLeaf 77 = .ok (.iadd, 1) := by decide +kernel
theorem dX11_isLeaf_78 : decode cX11_isLeaf 78 = .ok (.iaload, 1) := by decide +kernel
theorem dX11_isLeaf_79 : decode cX11_isLeaf 79 = .ok (.if_icmp .lt 7, 3) := by decide +kernel
theorem dX11_isLeaf_82 : decode cX11_isLeaf 82 = .ok (.iconst 1, 1) := by decide +kernel
theorem dX11_isLeaf_83 : decode cX11_isLeaf 83 = .ok (.goto 4, 3) := by decide +kernel
theorem dX11_isLeaf_86 : decode cX11_isLeaf 86 = .ok (.iconst 0, 1) := by decide +kernel
theorem dX11_isLeaf_87 : decode cX11_isLeaf 87 = .ok (.ireturn, 1) := by decide +kernel
theorem dX11_isLeaf_88 : decode cX11_isLeaf 88 = .ok (.aload_n 0, 1) := by decide +kernel
theorem dX11_isLeaf_89 : decode cX11_isLeaf 89 = .ok (.iload_n 1, 1) := by decide +kernel
theorem dX11_isLeaf_90 : decode cX11_isLeaf 90 = .ok (.iload 4, 2) := by decide +kernel
theorem dX11_isLeaf_92 : decode cX11_isLeaf 92 = .ok (.invokevirtual 277, 3) := by decide +kernel
theorem dX11_isLeaf_95 : decode cX11_isLeaf 95 = .ok (.ireturn, 1) := by decide +kernel
theorem dX11_isLeaf_96 : decode cX11_isLeaf 96 = .ok (.aload_n 0, 1) := by decide +kernel
theorem dX11_isLeaf_97 : decode cX11_isLeaf 97 = .ok (.iload_n 1, 1) := by decide +kernel
theorem dX11_isLeaf_98 : decode cX11_isLeaf 98 = .ok (.iload 4, 2) := by decide +kernel
theorem dX11_isLeaf_100 : decode cX11_isLeaf 100 = .ok (.invokevirtual 375, 3) := by decide +kernel
theorem dX11_isLeaf_103 : decode cX11_isLeaf 103 = .ok (.ireturn, 1) := by decide +kernel
theorem dX11_isLeaf_104 : decode cX11_isLeaf 104 = .ok (.iload_n 2, 1) := by decide +kernel
theorem dX11_isLeaf_105 : decode cX11_isLeaf 105 = .ok (.iconst 5, 1) := by decide +kernel
theorem dX11_isLeaf_106 : decode cX11_isLeaf 106 = .ok (.if_icmp .ne 15, 3) := by decide +kernel
theorem dX11_isLeaf_109 : decode cX11_isLeaf 109 = .ok (.aload_n 0, 1) := by decide +kernel
theorem dX11_isLeaf_110 : decode cX11_isLeaf 110 = .ok (.getfield 33, 3) := by decide +kernel
theorem dX11_isLeaf_113 : decode cX11_isLeaf 113 = .ok (.bipush 125, 2) := by decide +kernel
theorem dX11_isLeaf_115 : decode cX11_isLeaf 115 = .ok (.iload_n 1, 1) := by decide +kernel
theorem dX11_isLeaf_116 : decode cX11_isLeaf 116 = .ok (.iadd, 1) := by decide +kernel
theorem dX11_isLeaf_117 : decode cX11_isLeaf 117 = .ok (.iaload, 1) := by decide +kernel
theorem dX11_isLeaf_118 : decode cX11_isLeaf 118 = .ok (.goto 37, 3) := by decide +kernel
theorem dX11_isLeaf_121 : decode cX11_isLeaf 121 = .ok (.iload_n 2, 1) := by decide +kernel
theorem dX11_isLeaf_122 : decode cX11_isLeaf 122 = .ok (.bipush 6, 2) := by decide +kernel
theorem dX11_isLeaf_124 : decode cX11_isLeaf 124 = .ok (.if_icmp .ne 11, 3) := by decide +kernel
theorem dX11_isLeaf_127 : decode cX11_isLeaf 127 = .ok (.aload_n 0, 1) := by decide +kernel
theorem dX11_isLeaf_128 : decode cX11_isLeaf 128 = .ok (.iload_n 1, 1) := by decide +kernel
theorem dX11_isLeaf_129 : decode cX11_isLeaf 129 = .ok (.invokevirtual 261, 3) := by decide +kernel
theorem dX11_isLeaf_132 : decode cX11_isLeaf 132 = .ok (.goto 23, 3) := by decide +kernel
theorem dX11_isLeaf_135 : decode cX11_isLeaf 135 = .ok (.iload_n 2, 1) := by decide +kernel
theorem dX11_isLeaf_136 : decode cX11_isLeaf 136 = .ok (.bipush 7, 2) := by decide +kernel
theorem dX11_isLeaf_138 : decode cX11_isLeaf 138 = .ok (.if_icmp .ne 16, 3) := by decide +kernel
theorem dX11_isLeaf_141 : decode cX11_isLeaf 141 = .ok (.aload_n 0, 1) := by decide +kernel
theorem dX11_isLeaf_142 : decode cX11_isLeaf 142 = .ok (.getfield 33, 3) := by decide +kernel
theorem dX11_isLeaf_145 : decode cX11_isLeaf 145 = .ok (.sipush 179, 3) := by decide +kernel
theorem dX11_isLeaf_148 : decode cX11_isLeaf 148 = .ok (.iload_n 1, 1) := by decide +kernel
theorem dX11_isLeaf_149 : decode cX11_isLeaf 149 = .ok (.iadd, 1) := by decide +kernel
theorem dX11_isLeaf_150 : decode cX11_isLeaf 150 = .ok (.iaload, 1) := by decide +kernel
theorem dX11_isLeaf_151 : decode cX11_isLeaf 151 = .ok (.goto 4, 3) := by decide +kernel
theorem dX11_isLeaf_154 : decode cX11_isLeaf 154 = .ok (.iload_n 1, 1) := by decide +kernel
theorem dX11_isLeaf_155 : decode cX11_isLeaf 155 = .ok (.istore 5, 2) := by decide +kernel
theorem dX11_isLeaf_157 : decode cX11_isLeaf 157 = .ok (.iload_n 3, 1) := by decide +kernel
theorem dX11_isLeaf_158 : decode cX11_isLeaf 158 = .ok (.bipush 60, 2) := by decide +kernel
theorem dX11_isLeaf_160 : decode cX11_isLeaf 160 = .ok (.if_icmp .ne 18, 3) := by decide +kernel
theorem dX11_isLeaf_163 : decode cX11_isLeaf 163 = .ok (.iload 5, 2) := by decide +kernel
theorem dX11_isLeaf_165 : decode cX11_isLeaf 165 = .ok (.iload 4, 2) := by decide +kernel
theorem dX11_isLeaf_167 : decode cX11_isLeaf 167 = .ok (.if_icmp .ge 7, 3) := by decide +kernel
theorem dX11_isLeaf_170 : decode cX11_isLeaf 170 = .ok (.iconst 1, 1) := by decide +kernel
theorem dX11_isLeaf_171 : decode cX11_isLeaf 171 = .ok (.goto 40, 3) := by decide +kernel
theorem dX11_isLeaf_174 : decode cX11_isLeaf 174 = .ok (.iconst 0, 1) := by decide +kernel
theorem dX11_isLeaf_175 : decode cX11_isLeaf 175 = .ok (.goto 36, 3) := by decide +kernel
theorem dX11_isLeaf_178 : decode cX11_isLeaf 178 = .ok (.iload_n 3, 1) := by decide +kernel
theorem dX11_isLeaf_179 : decode cX11_isLeaf 179 = .ok (.bipush 61, 2) := by decide +kernel
theorem dX11_isLeaf_181 : decode cX11_isLeaf 181 = .ok (.if_icmp .ne 18, 3) := by decide +kernel
theorem dX11_isLeaf_184 : decode cX11_isLeaf 184 = .ok (.iload 5, 2) := by decide +kernel
theorem dX11_isLeaf_186 : decode cX11_isLeaf 186 = .ok (.iload 4, 2) := by decide +kernel
theorem dX11_isLeaf_188 : decode cX11_isLeaf 188 = .ok (.if_icmp .ne 7, 3) := by decide +kernel
theorem dX11_isLeaf_191 : decode cX11_isLeaf 191 = .ok (.iconst 1, 1) := by decide +kernel
theorem dX11_isLeaf_192 : decode cX11_isLeaf 192 = .ok (.goto 19, 3) := by decide +kernel
theorem dX11_isLeaf_195 : decode cX11_isLeaf 195 = .ok (.iconst 0, 1) := by decide +kernel
theorem dX11_isLeaf_196 : decode cX11_isLeaf 196 = .ok (.goto 15, 3) := by decide +kernel
theorem dX11_isLeaf_199 : decode cX11_isLeaf 199 = .ok (.iload 5, 2) := by decide +kernel
theorem dX11_isLeaf_201 : decode cX11_isLeaf 201 = .ok (.iload 4, 2) := by decide +kernel
theorem dX11_isLeaf_203 : decode cX11_isLeaf 203 = .ok (.if_icmp .le 7, 3) := by decide +kernel
theorem dX11_isLeaf_206 : decode cX11_isLeaf 206 = .ok (.iconst 1, 1) := by decide +kernel
theorem dX11_isLeaf_207 : decode cX11_isLeaf 207 = .ok (.goto 4, 3) := by decide +kernel
theorem dX11_isLeaf_210 : decode cX11_isLeaf 210 = .ok (.iconst 0, 1) := by decide +kernel
theorem dX11_isLeaf_211 : decode cX11_isLeaf 211 = .ok (.ireturn, 1) := by decide +kernel
theorem dX11_isSaid_0 : decode cX11_isSaid 0 = .ok (.iconst 0, 1) := by decide +kernel
theorem dX11_isSaid_1 : decode cX11_isSaid 1 = .ok (.istore_n 2, 1) := by decide +kernel
theorem dX11_isSaid_2 : decode cX11_isSaid 2 = .ok (.iconst 0, 1) := by decide +kernel
theorem dX11_isSaid_3 : decode cX11_isSaid 3 = .ok (.istore_n 3, 1) := by decide +kernel
theorem dX11_isSaid_4 : decode cX11_isSaid 4 = .ok (.iload_n 3, 1) := by decide +kernel
theorem dX11_isSaid_5 : decode cX11_isSaid 5 = .ok (.aload_n 0, 1) := by decide +kernel
theorem dX11_isSaid_6 : decode cX11_isSaid 6 = .ok (.getfield 33, 3) := by decide +kernel
theorem dX11_isSaid_9 : decode cX11_isSaid 9 = .ok (.sipush 209, 3) := by decide +kernel
theorem dX11_isSaid_12 : decode cX11_isSaid 12 = .ok (.iaload, 1) := by decide +kernel
theorem dX11_isSaid_13 : decode cX11_isSaid 13 = .ok (.if_icmp .ge 199, 3) := by decide +kernel
theorem dX11_isSaid_16 : decode cX11_isSaid 16 = .ok (.sipush 210, 3) := by decide +kernel
theorem dX11_isSaid_19 : decode cX11_isSaid 19 = .ok (.iconst 3, 1) := by decide +kernel
theorem dX11_isSaid_20 : decode cX11_isSaid 20 = .ok (.iload_n 3, 1) := by decide +kernel
theorem dX11_isSaid_21 : decode cX11_isSaid 21 = .ok (.imul, 1) := by decide +kernel
theorem dX11_isSaid_22 : decode cX11_isSaid 22 = .ok (.iadd, 1) := by decide +kernel
theorem dX11_isSaid_23 : decode cX11_isSaid 23 = .ok (.istore 4, 2) := by decide +kernel
theorem dX11_isSaid_25 : decode cX11_isSaid 25 = .ok (.aload_n 0, 1) := by decide +kernel
theorem dX11_isSaid_26 : decode cX11_isSaid 26 = .ok (.getfield 33, 3) := by decide +kernel
theorem dX11_isSaid_29 : decode cX11_isSaid 29 = .ok (.iload 4, 2) := by decide +kernel
theorem dX11_isSaid_31 : decode cX11_isSaid 31 = .ok (.iaload, 1) := by decide +kernel
theorem dX11_isSaid_32 : decode cX11_isSaid 32 = .ok (.bipush 20, 2) := by decide +kernel
theorem dX11_isSaid_34 : decode cX11_isSaid 34 = .ok (.if_icmp .ne 30, 3) := by decide +kernel
theorem dX11_isSaid_37 : decode cX11_isSaid 37 = .ok (.aload_n 0, 1) := by decide +kernel
theorem dX11_isSaid_38 : decode cX11_isSaid 38 = .ok (.getfield 75, 3) := by decide +kernel
theorem dX11_isSaid_41 : decode cX11_isSaid 41 = .ok (.iload_n 2, 1) := by decide +kernel
theorem dX11_isSaid_42 : decode cX11_isSaid 42 = .ok (.iconst 1, 1) := by decide +kernel
theorem dX11_isSaid_43 : decode cX11_isSaid 43 = .ok (.isub, 1) := by decide +kernel
theorem dX11_isSaid_44 : decode cX11_isSaid 44 = .ok (.aload_n 0, 1) := by decide +kernel
theorem dX11_isSaid_45 : decode cX11_isSaid 45 = .ok (.getfield 75, 3) := by decide +kernel
theorem dX11_isSaid_48 : decode cX11_isSaid 48 = .ok (.iload_n 2, 1) := by decide +kernel
theorem dX11_isSaid_49 : decode cX11_isSaid 49 = .ok (.iconst 1, 1) := by decide +kernel
theorem dX11_isSaid_50 : decode cX11_isSaid 50 = .ok (.isub, 1) := by decide +kernel
theorem dX11_isSaid_51 : decode cX11_isSaid 51 = .ok (.baload, 1) := by decide +kernel
theorem dX11_isSaid_52 : decode cX11_isSaid 52 = .ok (.ifCond .ne 7, 3) := by decide +kernel
theorem dX11_isSaid_55 : decode cX11_isSaid 55 = .ok (.iconst 1, 1) := by decide +kernel
theorem dX11_isSaid_56 : decode cX11_isSaid 56 = .ok (.goto 4, 3) := by decide +kernel
theorem dX11_isSaid_59 : decode cX11_isSaid 59 = .ok (.iconst 0, 1) := by decide +kernel
theorem dX11_isSaid_60 : decode cX11_isSaid 60 = .ok (.bastore, 1) := by decide +kernel
theorem dX11_isSaid_61 : decode cX11_isSaid 61 = .ok (.goto 145, 3) := by decide +kernel
theorem dX11_isSaid_64 : decode cX11_isSaid 64 = .ok (.aload_n 0, 1) := by decide +kernel
theorem dX11_isSaid_65 : decode cX11_isSaid 65 = .ok (.getfield 33, 3) := by decide +kernel
theorem dX11_isSaid_68 : decode cX11_isSaid 68 = .ok (.iload 4, 2) := by decide +kernel
theorem dX11_isSaid_70 : decode cX11_isSaid 70 = .ok (.iaload, 1) := by decide +kernel
theorem dX11_isSaid_71 : decode cX11_isSaid 71 = .ok (.bipush 21, 2) := by decide +kernel
theorem dX11_isSaid_73 : decode cX11_isSaid 73 = .ok (.if_icmp .eq 15, 3) := by decide +kernel
theorem dX11_isSaid_76 : decode cX11_isSaid 76 = .ok (.aload_n 0, 1) := by decide +kernel
theorem dX11_isSaid_77 : decode cX11_isSaid 77 = .ok (.getfield 33, 3) := by decide +kernel
theorem dX11_isSaid_80 : decode cX11_isSaid 80 = .ok (.iload 4, 2) := by decide +kernel
theorem dX11_isSaid_82 : decode cX11_isSaid 82 = .ok (.iaload, 1) := by decide +kernel
theorem dX11_isSaid_83 : decode cX11_isSaid 83 = .ok (.bipush 22, 2) := by decide +kernel
theorem dX11_isSaid_85 : decode cX11_isSaid 85 = .ok (.if_icmp .ne 82, 3) := by decide +kernel
theorem dX11_isSaid_88 : decode cX11_isSaid 88 = .ok (.iinc 2 (-1), 3) := by decide +kernel
theorem dX11_isSaid_91 : decode cX11_isSaid 91 = .ok (.aload_n 0, 1) := by decide +kernel
theorem dX11_isSaid_92 : decode cX11_isSaid 92 = .ok (.getfield 75, 3) := by decide +kernel
theorem dX11_isSaid_95 : decode cX11_isSaid 95 = .ok (.iload_n 2, 1) := by decide +kernel
theorem dX11_isSaid_96 : decode cX11_isSaid 96 = .ok (.iconst 1, 1) := by decide +kernel
theorem dX11_isSaid_97 : decode cX11_isSaid 97 = .ok (.isub, 1) := by decide +kernel
theorem dX11_isSaid_98 : decode cX11_isSaid 98 = .ok (.aload_n 0, 1) := by decide +kernel
theorem dX11_isSaid_99 : decode cX11_isSaid 99 = .ok (.getfield 33, 3) := by decide +kernel
theorem dX11_isSaid_102 : decode cX11_isSaid 102 = .ok (.iload 4, 2) := by decide +kernel
theorem dX11_isSaid_104 : decode cX11_isSaid 104 = .ok (.iaload, 1) := by decide +kernel
theorem dX11_isSaid_105 : decode cX11_isSaid 105 = .ok (.bipush 21, 2) := by decide +kernel
theorem dX11_isSaid_107 : decode cX11_isSaid 107 = .ok (.if_icmp .ne 31, 3) := by decide +kernel
theorem dX11_isSaid_110 : decode cX11_isSaid 110 = .ok (.aload_n 0, 1) := by decide +kernel
theorem dX11_isSaid_111 : decode cX11_isSaid 111 = .ok (.getfield 75, 3) := by decide +kernel
theorem dX11_isSaid_114 : decode cX11_isSaid 114 = .ok (.iload_n 2, 1) := by decide +kernel
theorem dX11_isSaid_115 : decode cX11_isSaid 115 = .ok (.iconst 1, 1) := by decide +kernel
theorem dX11_isSaid_116 : decode cX11_isSaid 116 = .ok (.isub, 1) := by decide +kernel
theorem dX11_isSaid_117 : decode cX11_isSaid 117 = .ok (.baload, 1) := by decide +kernel
theorem dX11_isSaid_118 : decode cX11_isSaid 118 = .ok (.ifCond .eq 16, 3) := by decide +kernel
theorem dX11_isSaid_121 : decode cX11_isSaid 121 = .ok (.aload_n 0, 1) := by decide +kernel
theorem dX11_isSaid_122 : decode cX11_isSaid 122 = .ok (.getfield 75, 3) := by decide +kernel
theorem dX11_isSaid_125 : decode cX11_isSaid 125 = .ok (.iload_n 2, 1) := by decide +kernel
theorem dX11_isSaid_126 : decode cX11_isSaid 126 = .ok (.baload, 1) := by decide +kernel
theorem dX11_isSaid_127 : decode cX11_isSaid 127 = .ok (.ifCond .eq 7, 3) := by decide +kernel
theorem dX11_isSaid_130 : decode cX11_isSaid 130 = .ok (.iconst 1, 1) := by decide +kernel
theorem dX11_isSaid_131 : decode cX11_isSaid 131 = .ok (.goto 32, 3) := by decide +kernel
theorem dX11_isSaid_134 : decode cX11_isSaid 134 = .ok (.iconst 0, 1) := by decide +kernel
theorem dX11_isSaid_135 : decode cX11_isSaid 135 = .ok (.goto 28, 3) := by decide +kernel
theorem dX11_isSaid_138 : decode cX11_isSaid 138 = .ok (.aload_n 0, 1) := by decide +kernel
theorem dX11_isSaid_139 : decode cX11_isSaid 139 = .ok (.getfield 75, 3) := by decide +kernel
theorem dX11_isSaid_142 : decode cX11_isSaid 142 = .ok (.iload_n 2, 1) := by decide +kernel
theorem dX11_isSaid_143 : decode cX11_isSaid 143 = .ok (.iconst 1, 1) := by decide +kernel
theorem dX11_isSaid_144 : decode cX11_isSaid 144 = .ok (.isub, 1) := by decide +kernel
theorem dX11_isSaid_145 : decode cX11_isSaid 145 = .ok (.baload, 1) := by decide +kernel
theorem dX11_isSaid_146 : decode cX11_isSaid 146 = .ok (.ifCond .ne 12, 3) := by decide +kernel
theorem dX11_isSaid_149 : decode cX11_isSaid 149 = .ok (.aload_n 0, 1) := by decide +kernel
theorem dX11_isSaid_150 : decode cX11_isSaid 150 = .ok (.getfield 75, 3) := by decide +kernel
theorem dX11_isSaid_153 : decode cX11_isSaid 153 = .ok (.iload_n 2, 1) := by decide +kernel
theorem dX11_isSaid_154 : decode cX11_isSaid 154 = .ok (.baload, 1) := by decide +kernel
theorem dX11_isSaid_155 : decode cX11_isSaid 155 = .ok (.ifCond .eq 7, 3) := by decide +kernel
theorem dX11_isSaid_158 : decode cX11_isSaid 158 = .ok (.iconst 1, 1) := by decide +kernel
theorem dX11_isSaid_159 : decode cX11_isSaid 159 = .ok (.goto 4, 3) := by decide +kernel
theorem dX11_isSaid_162 : decode cX11_isSaid 162 = .ok (.iconst 0, 1) := by decide +kernel
theorem dX11_isSaid_163 : decode cX11_isSaid 163 = .ok (.bastore, 1) := by decide +kernel
theorem dX11_isSaid_164 : decode cX11_isSaid 164 = .ok (.goto 42, 3) := by decide +kernel
theorem dX11_isSaid_167 : decode cX11_isSaid 167 = .ok (.aload_n 0, 1) := by decide +kernel
theorem dX11_isSaid_168 : decode cX11_isSaid 168 = .ok (.getfield 75, 3) := by decide +kernel
theorem dX11_isSaid_171 : decode cX11_isSaid 171 = .ok (.iload_n 2, 1) := by decide +kernel
theorem dX11_isSaid_172 : decode cX11_isSaid 172 = .ok (.aload_n 0, 1) := by decide +kernel
theorem dX11_isSaid_173 : decode cX11_isSaid 173 = .ok (.iload_n 1, 1) := by decide +kernel
theorem dX11_isSaid_174 : decode cX11_isSaid 174 = .ok (.aload_n 0, 1) := by decide +kernel
theorem dX11_isSaid_175 : decode cX11_isSaid 175 = .ok (.getfield 33, 3) := by decide +kernel
theorem dX11_isSaid_178 : decode cX11_isSaid 178 = .ok (.iload 4, 2) := by decide +kernel
theorem dX11_isSaid_180 : decode cX11_isSaid 180 = .ok (.iaload, 1) := by decide +kernel
theorem dX11_isSaid_181 : decode cX11_isSaid 181 = .ok (.aload_n 0, 1) := by decide +kernel
theorem dX11_isSaid_182 : decode cX11_isSaid 182 = .ok (.getfield 33, 3) := by decide +kernel
theorem dX11_isSaid_185 : decode cX11_isSaid 185 = .ok (.iload 4, 2) := by decide +kernel
theorem dX11_isSaid_187 : decode cX11_isSaid 187 = .ok (.iconst 1, 1) := by decide +kernel
theorem dX11_isSaid_188 : decode cX11_isSaid 188 = .ok (.iadd, 1) := by decide +kernel
theorem dX11_isSaid_189 : decode cX11_isSaid 189 = .ok (.iaload, 1) := by decide +kernel
theorem dX11_isSaid_190 : decode cX11_isSaid 190 = .ok (.aload_n 0, 1) := by decide +kernel
theorem dX11_isSaid_191 : decode cX11_isSaid 191 = .ok (.getfield 33, 3) := by decide +kernel
theorem dX11_isSaid_194 : decode cX11_isSaid 194 = .ok (.iload 4, 2) := by decide +kernel
theorem dX11_isSaid_196 : decode cX11_isSaid 196 = .ok (.iconst 2, 1) := by decide +kernel
theorem dX11_isSaid_197 : decode cX11_isSaid 197 = .ok (.iadd, 1) := by decide +kernel
theorem dX11_isSaid_198 : decode cX11_isSaid 198 = .ok (.iaload, 1) := by decide +kernel
theorem dX11_isSaid_199 : decode cX11_isSaid 199 = .ok (.invokevirtual 453, 3) := by decide +kernel
theorem dX11_isSaid_202 : decode cX11_isSaid 202 = .ok (.bastore, 1) := by decide +kernel
theorem dX11_isSaid_203 : decode cX11_isSaid 203 = .ok (.iinc 2 1, 3) := by decide +kernel
theorem dX11_isSaid_206 : decode cX11_isSaid 206 = .ok (.iinc 3 1, 3) := by decide +kernel
theorem dX11_isSaid_209 : decode cX11_isSaid 209 = .ok (.goto (-205), 3) := by decide +kernel
theorem dX11_isSaid_212 : decode cX11_isSaid 212 = .ok (.aload_n 0, 1) := by decide +kernel
theorem dX11_isSaid_213 : decode cX11_isSaid 213 = .ok (.getfield 75, 3) := by decide +kernel
theorem dX11_isSaid_216 : decode cX11_isSaid 216 = .ok (.iconst 0, 1) := by decide +kernel
theorem dX11_isSaid_217 : decode cX11_isSaid 217 = .ok (.baload, 1) := by decide +kernel
theorem dX11_isSaid_218 : decode cX11_isSaid 218 = .ok (.ireturn, 1) := by decide +kernel
theorem dX11_said_0 : decode cX11_said 0 = .ok (.aload_n 0, 1) := by decide +kernel
theorem dX11_said_1 : decode cX11_said 1 = .ok (.iconst 0, 1) := by decide +kernel
theorem dX11_said_2 : decode cX11_said 2 = .ok (.putfield 1, 3) := by decide +kernel
theorem dX11_said_5 : decode cX11_said 5 = .ok (.aload_n 0, 1) := by decide +kernel
theorem dX11_said_6 : decode cX11_said 6 = .ok (.getfield 33, 3) := by decide +kernel
theorem dX11_said_9 : decode cX11_said 9 = .ok (.sipush 209, 3) := by decide +kernel
theorem dX11_said_12 : decode cX11_said 12 = .ok (.iaload, 1) := by decide +kernel
theorem dX11_said_13 : decode cX11_said 13 = .ok (.ifCond .eq 8, 3) := by decide +kernel
theorem dX11_said_16 : decode cX11_said 16 = .ok (.iload_n 1, 1) := by decide +kernel
theorem dX11_said_17 : decode cX11_said 17 = .ok (.iconst (-1), 1) := by decide +kernel
theorem dX11_said_18 : decode cX11_said 18 = .ok (.if_icmp .ge 5, 3) := by decide +kernel
theorem dX11_said_21 : decode cX11_said 21 = .ok (.iconst (-1), 1) := by decide +kernel
theorem dX11_said_22 : decode cX11_said 22 = .ok (.ireturn, 1) := by decide +kernel
theorem dX11_said_23 : decode cX11_said 23 = .ok (.iconst 0, 1) := by decide +kernel
theorem dX11_said_24 : decode cX11_said 24 = .ok (.istore_n 2, 1) := by decide +kernel
theorem dX11_said_25 : decode cX11_said 25 = .ok (.iconst 0, 1) := by decide +kernel
theorem dX11_said_26 : decode cX11_said 26 = .ok (.istore_n 3, 1) := by decide +kernel
theorem dX11_said_27 : decode cX11_said 27 = .ok (.iload_n 3, 1) := by decide +kernel
theorem dX11_said_28 : decode cX11_said 28 = .ok (.aload_n 0, 1) := by decide +kernel
theorem dX11_said_29 : decode cX11_said 29 = .ok (.getfield 33, 3) := by decide +kernel
theorem dX11_said_32 : decode cX11_said 32 = .ok (.iconst 1, 1) := by decide +kernel
theorem dX11_said_33 : decode cX11_said 33 = .ok (.iaload, 1) := by decide +kernel
theorem dX11_said_34 : decode cX11_said 34 = .ok (.if_icmp .ge 30, 3) := by decide +kernel
theorem dX11_said_37 : decode cX11_said 37 = .ok (.aload_n 0, 1) := by decide +kernel
theorem dX11_said_38 : decode cX11_said 38 = .ok (.iload_n 3, 1) := by decide +kernel
theorem dX11_said_39 : decode cX11_said 39 = .ok (.invokevirtual 457, 3) := by decide +kernel
theorem dX11_said_42 : decode cX11_said 42 = .ok (.ifCond .ne 6, 3) := by decide +kernel
theorem dX11_said_45 : decode cX11_said 45 = .ok (.goto 13, 3) := by decide +kernel
theorem dX11_said_48 : decode cX11_said 48 = .ok (.iload_n 2, 1) := by decide +kernel
theorem dX11_said_49 : decode cX11_said 49 = .ok (.iload_n 1, 1) := by decide +kernel
theorem dX11_said_50 : decode cX11_said 50 = .ok (.if_icmp .ne 5, 3) := by decide +kernel
theorem dX11_said_53 : decode cX11_said 53 = .ok (.iload_n 3, 1) := by decide +kernel
theorem dX11_said_54 : decode cX11_said 54 = .ok (.ireturn, 1) := by decide +kernel
theorem dX11_said_55 : decode cX11_said 55 = .ok (.iinc 2 1, 3) := by decide +kernel
theorem dX11_said_58 : decode cX11_said 58 = .ok (.iinc 3 1, 3) := by decide +kernel
theorem dX11_said_61 : decode cX11_said 61 = .ok (.goto (-34), 3) := by decide +kernel
theorem dX11_said_64 : decode cX11_said 64 = .ok (.iload_n 1, 1) := by decide +kernel
theorem dX11_said_65 : decode cX11_said 65 = .ok (.iconst (-1), 1) := by decide +kernel
theorem dX11_said_66 : decode cX11_said 66 = .ok (.if_icmp .ne 7, 3) := by decide +kernel
theorem dX11_said_69 : decode cX11_said 69 = .ok (.iload_n 2, 1) := by decide +kernel
theorem dX11_said_70 : decode cX11_said 70 = .ok (.goto 4, 3) := by decide +kernel
theorem dX11_said_73 : decode cX11_said 73 = .ok (.iconst (-1), 1) := by decide +kernel
theorem dX11_said_74 : decode cX11_said 74 = .ok (.ireturn, 1) := by decide +kernel
theorem dX11_image_0 : decode cX11_image 0 = .ok (.aload_n 0, 1) := by decide +kernel
theorem dX11_image_1 : decode cX11_image 1 = .ok (.iconst 0, 1) := by decide +kernel
theorem dX11_image_2 : decode cX11_image 2 = .ok (.putfield 1, 3) := by decide +kernel
theorem dX11_image_5 : decode cX11_image 5 = .ok (.iload_n 1, 1) := by decide +kernel
theorem dX11_image_6 : decode cX11_image 6 = .ok (.iconst 0, 1) := by decide +kernel
theorem dX11_image_7 : decode cX11_image 7 = .ok (.iconst 1, 1) := by decide +kernel
theorem dX11_image_8 : decode cX11_image 8 = .ok (.invokestatic 176, 3) := by decide +kernel
theorem dX11_image_11 : decode cX11_image 11 = .ok (.ifCond .ne 5, 3) := by decide +kernel
theorem dX11_image_14 : decode cX11_image 14 = .ok (.iconst 0, 1) := by decide +kernel
theorem dX11_image_15 : decode cX11_image 15 = .ok (.ireturn, 1) := by decide +kernel
theorem dX11_image_16 : decode cX11_image 16 = .ok (.iconst 0, 1) := by decide +kernel
theorem dX11_image_17 : decode cX11_image 17 = .ok (.istore_n 2, 1) := by decide +kernel
theorem dX11_image_18 : decode cX11_image 18 = .ok (.iload_n 2, 1) := by decide +kernel
theorem dX11_image_19 : decode cX11_image 19 = .ok (.sipush 390, 3) := by decide +kernel
theorem dX11_image_22 : decode cX11_image 22 = .ok (.if_icmp .ge 27, 3) := by decide +kernel
theorem dX11_image_25 : decode cX11_image 25 = .ok (.aload_n 0, 1) := by decide +kernel
theorem dX11_image_26 : decode cX11_image 26 = .ok (.getfield 78, 3) := by decide +kernel
theorem dX11_image_29 : decode cX11_image 29 = .ok (.sipush 390, 3) := by decide +kernel
theorem dX11_image_32 : decode cX11_image 32 = .ok (.iload_n 1, 1) := by decide +kernel
theorem dX11_image_33 : decode cX11_image 33 = .ok (.imul, 1) := by decide +kernel
theorem dX11_image_34 : decode cX11_image 34 = .ok (.iload_n 2, 1) := by decide +kernel
theorem dX11_image_35 : decode cX11_image 35 = .ok (.iadd, 1) := by decide +kernel
theorem dX11_image_36 : decode cX11_image 36 = .ok (.aload_n 0, 1) := by decide +kernel
theorem dX11_image_37 : decode cX11_image 37 = .ok (.getfield 33, 3) := by decide +kernel
theorem dX11_image_40 : decode cX11_image 40 = .ok (.iload_n 2, 1) := by decide +kernel
theorem dX11_image_41 : decode cX11_image 41 = .ok (.iaload, 1) := by decide +kernel
theorem dX11_image_42 : decode cX11_image 42 = .ok (.iastore, 1) := by decide +kernel
theorem dX11_image_43 : decode cX11_image 43 = .ok (.iinc 2 1, 3) := by decide +kernel
theorem dX11_image_46 : decode cX11_image 46 = .ok (.goto (-28), 3) := by decide +kernel
theorem dX11_image_49 : decode cX11_image 49 = .ok (.iconst 0, 1) := by decide +kernel
theorem dX11_image_50 : decode cX11_image 50 = .ok (.istore_n 2, 1) := by decide +kernel
theorem dX11_image_51 : decode cX11_image 51 = .ok (.iload_n 2, 1) := by decide +kernel
theorem dX11_image_52 : decode cX11_image 52 = .ok (.bipush 18, 2) := by decide +kernel
theorem dX11_image_54 : decode cX11_image 54 = .ok (.if_icmp .ge 26, 3) := by decide +kernel
theorem dX11_image_57 : decode cX11_image 57 = .ok (.aload_n 0, 1) := by decide +kernel
theorem dX11_image_58 : decode cX11_image 58 = .ok (.getfield 81, 3) := by decide +kernel
theorem dX11_image_61 : decode cX11_image 61 = .ok (.bipush 18, 2) := by decide +kernel
theorem dX11_image_63 : decode cX11_image 63 = .ok (.iload_n 1, 1) := by decide +kernel
theorem dX11_image_64 : decode cX11_image 64 = .ok (.imul, 1) := by decide +kernel
theorem dX11_image_65 : decode cX11_image 65 = .ok (.iload_n 2, 1) := by decide +kernel
theorem dX11_image_66 : decode cX11_image 66 = .ok (.iadd, 1) := by decide +kernel
theorem dX11_image_67 : decode cX11_image 67 = .ok (.aload_n 0, 1) := by decide +kernel
theorem dX11_image_68 : decode cX11_image 68 = .ok (.getfield 43, 3) := by decide +kernel
theorem dX11_image_71 : decode cX11_image 71 = .ok (.iload_n 2, 1) := by decide +kernel
theorem dX11_image_72 : decode cX11_image 72 = .ok (.laload, 1) := by decide +kernel
theorem dX11_image_73 : decode cX11_image 73 = .ok (.lastore, 1) := by decide +kernel
theorem dX11_image_74 : decode cX11_image 74 = .ok (.iinc 2 1, 3) := by decide +kernel
theorem dX11_image_77 : decode cX11_image 77 = .ok (.goto (-26), 3) := by decide +kernel
theorem dX11_image_80 : decode cX11_image 80 = .ok (.aload_n 0, 1) := by decide +kernel
theorem dX11_image_81 : decode cX11_image 81 = .ok (.getfield 84, 3) := by decide +kernel
theorem dX11_image_84 : decode cX11_image 84 = .ok (.iload_n 1, 1) := by decide +kernel
theorem dX11_image_85 : decode cX11_image 85 = .ok (.iconst 1, 1) := by decide +kernel
theorem dX11_image_86 : decode cX11_image 86 = .ok (.bastore, 1) := by decide +kernel
theorem dX11_image_87 : decode cX11_image 87 = .ok (.iconst 1, 1) := by decide +kernel
theorem dX11_image_88 : decode cX11_image 88 = .ok (.ireturn, 1) := by decide +kernel
theorem dX11_restore_0 : decode cX11_restore 0 = .ok (.aload_n 0, 1) := by decide +kernel
theorem dX11_restore_1 : decode cX11_restore 1 = .ok (.iconst 0, 1) := by decide +kernel
theorem dX11_restore_2 : decode cX11_restore 2 = .ok (.putfield 1, 3) := by decide +kernel
theorem dX11_restore_5 : decode cX11_restore 5 = .ok (.iload_n 1, 1) := by decide +kernel
theorem dX11_restore_6 : decode cX11_restore 6 = .ok (.iconst 0, 1) := by decide +kernel
theorem dX11_restore_7 : decode cX11_restore 7 = .ok (.iconst 1, 1) := by decide +kernel
theorem dX11_restore_8 : decode cX11_restore 8 = .ok (.invokestatic 176, 3) := by decide +kernel
theorem dX11_restore_11 : decode cX11_restore 11 = .ok (.ifCond .eq 12, 3) := by decide +kernel
theorem dX11_restore_14 : decode cX11_restore 14 = .ok (.aload_n 0, 1) := by decide +kernel
theorem dX11_restore_15 : decode cX11_restore 15 = .ok (.getfield 84, 3) := by decide +kernel
theorem dX11_restore_18 : decode cX11_restore 18 = .ok (.iload_n 1, 1) := by decide +kernel
theorem dX11_restore_19 : decode cX11_restore 19 = .ok (.baload, 1) := by decide +kernel
theorem dX11_restore_20 : decode cX11_restore 20 = .ok (.ifCond .ne 5, 3) := by decide +kernel
theorem dX11_restore_23 : decode cX11_restore 23 = .ok (.iconst 0, 1) := by decide +kernel
theorem dX11_restore_24 : decode cX11_restore 24 = .ok (.ireturn, 1) := by decide +kernel
theorem dX11_restore_25 : decode cX11_restore 25 = .ok (.iconst 0, 1) := by decide +kernel
theorem dX11_restore_26 : decode cX11_restore 26 = .ok (.istore_n 2, 1) := by decide +kernel
theorem dX11_restore_27 : decode cX11_restore 27 = .ok (.iload_n 2, 1) := by decide +kernel
theorem dX11_restore_28 : decode cX11_restore 28 = .ok (.sipush 390, 3) := by decide +kernel
theorem dX11_restore_31 : decode cX11_restore 31 = .ok (.if_icmp .ge 27, 3) := by decide +kernel
theorem dX11_restore_34 : decode cX11_restore 34 = .ok (.aload_n 0, 1) := by decide +kernel
theorem dX11_restore_35 : decode cX11_restore 35 = .ok (.getfield 33, 3) := by decide +kernel
theorem dX11_restore_38 : decode cX11_restore 38 = .ok (.iload_n 2, 1) := by decide +kernel
theorem dX11_restore_39 : decode cX11_restore 39 = .ok (.aload_n 0, 1) := by decide +kernel
theorem dX11_restore_40 : decode cX11_restore 40 = .ok (.getfield 78, 3) := by decide +kernel
theorem dX11_restore_43 : decode cX11_restore 43 = .ok (.sipush 390, 3) := by decide +kernel
theorem dX11_restore_46 : decode cX11_restore 46 = .ok (.iload_n 1, 1) := by decide +kernel
theorem dX11_restore_47 : decode cX11_restore 47 = .ok (.imul, 1) := by decide +kernel
theorem dX11_restore_48 : decode cX11_restore 48 = .ok (.iload_n 2, 1) := by decide +kernel
theorem dX11_restore_49 : decode cX11_restore 49 = .ok (.iadd, 1) := by decide +kernel
theorem dX11_restore_50 : decode cX11_restore 50 = .ok (.iaload, 1) := by decide +kernel
theorem dX11_restore_51 : decode cX11_restore 51 = .ok (.iastore, 1) := by decide +kernel
theorem dX11_restore_52 : decode cX11_restore 52 = .ok (.iinc 2 1, 3) := by decide +kernel
theorem dX11_restore_55 : decode cX11_restore 55 = .ok (.goto (-28), 3) := by decide +kernel
theorem dX11_restore_58 : decode cX11_restore 58 = .ok (.iconst 0, 1) := by decide +kernel
theorem dX11_restore_59 : decode cX11_restore 59 = .ok (.istore_n 2, 1) := by decide +kernel
theorem dX11_restore_60 : decode cX11_restore 60 = .ok (.iload_n 2, 1) := by decide +kernel
theorem dX11_restore_61 : decode cX11_restore 61 = .ok (.bipush 18, 2) := by decide +kernel
theorem dX11_restore_63 : decode cX11_restore 63 = .ok (.if_icmp .ge 26, 3) := by decide +kernel
theorem dX11_restore_66 : decode cX11_restore 66 = .ok (.aload_n 0, 1) := by decide +kernel
theorem dX11_restore_67 : decode cX11_restore 67 = .ok (.getfield 43, 3) := by decide +kernel
theorem dX11_restore_70 : decode cX11_restore 70 = .ok (.iload_n 2, 1) := by decide +kernel
theorem dX11_restore_71 : decode cX11_restore 71 = .ok (.aload_n 0, 1) := by decide +kernel
theorem dX11_restore_72 : decode cX11_restore 72 = .ok (.getfield 81, 3) := by decide +kernel
theorem dX11_restore_75 : decode cX11_restore 75 = .ok (.bipush 18, 2) := by decide +kernel
theorem dX11_restore_77 : decode cX11_restore 77 = .ok (.iload_n 1, 1) := by decide +kernel
theorem dX11_restore_78 : decode cX11_restore 78 = .ok (.imul, 1) := by decide +kernel
theorem dX11_restore_79 : decode cX11_restore 79 = .ok (.iload_n 2, 1) := by decide +kernel
theorem dX11_restore_80 : decode cX11_restore 80 = .ok (.iadd, 1) := by decide +kernel
theorem dX11_restore_81 : decode cX11_restore 81 = .ok (.laload, 1) := by decide +kernel
theorem dX11_restore_82 : decode cX11_restore 82 = .ok (.lastore, 1) := by decide +kernel
theorem dX11_restore_83 : decode cX11_restore 83 = .ok (.iinc 2 1, 3) := by decide +kernel
theorem dX11_restore_86 : decode cX11_restore 86 = .ok (.goto (-26), 3) := by decide +kernel
theorem dX11_restore_89 : decode cX11_restore 89 = .ok (.aload_n 0, 1) := by decide +kernel
theorem dX11_restore_90 : decode cX11_restore 90 = .ok (.iconst 0, 1) := by decide +kernel
theorem dX11_restore_91 : decode cX11_restore 91 = .ok (.putfield 242, 3) := by decide +kernel
theorem dX11_restore_94 : decode cX11_restore 94 = .ok (.iconst 1, 1) := by decide +kernel
theorem dX11_restore_95 : decode cX11_restore 95 = .ok (.ireturn, 1) := by decide +kernel
theorem dX11_count_0 : decode cX11_count 0 = .ok (.aload_n 0, 1) := by decide +kernel
theorem dX11_count_1 : decode cX11_count 1 = .ok (.iconst 0, 1) := by decide +kernel
theorem dX11_count_2 : decode cX11_count 2 = .ok (.putfield 1, 3) := by decide +kernel
theorem dX11_count_5 : decode cX11_count 5 = .ok (.iload_n 1, 1) := by decide +kernel
theorem dX11_count_6 : decode cX11_count 6 = .ok (.iconst 5, 1) := by decide +kernel
theorem dX11_count_7 : decode cX11_count 7 = .ok (.if_icmp .ne 10, 3) := by decide +kernel
theorem dX11_count_10 : decode cX11_count 10 = .ok (.aload_n 0, 1) := by decide +kernel
theorem dX11_count_11 : decode cX11_count 11 = .ok (.getfield 7, 3) := by decide +kernel
theorem dX11_count_14 : decode cX11_count 14 = .ok (.goto 22, 3) := by decide +kernel
theorem dX11_count_17 : decode cX11_count 17 = .ok (.iload_n 1, 1) := by decide +kernel
theorem dX11_count_18 : decode cX11_count 18 = .ok (.iconst 0, 1) := by decide +kernel
theorem dX11_count_19 : decode cX11_count 19 = .ok (.iconst 4, 1) := by decide +kernel
theorem dX11_count_20 : decode cX11_count 20 = .ok (.invokestatic 176, 3) := by decide +kernel
theorem dX11_count_23 : decode cX11_count 23 = .ok (.ifCond .eq 12, 3) := by decide +kernel
theorem dX11_count_26 : decode cX11_count 26 = .ok (.aload_n 0, 1) := by decide +kernel
theorem dX11_count_27 : decode cX11_count 27 = .ok (.getfield 33, 3) := by decide +kernel
theorem dX11_count_30 : decode cX11_count 30 = .ok (.iload_n 1, 1) := by decide +kernel
theorem dX11_count_31 : decode cX11_count 31 = .ok (.iaload, 1) := by decide +kernel
theorem dX11_count_32 : decode cX11_count 32 = .ok (.goto 4, 3) := by decide +kernel
theorem dX11_count_35 : decode cX11_count 35 = .ok (.iconst (-1), 1) := by decide +kernel
theorem dX11_count_36 : decode cX11_count 36 = .ok (.ireturn, 1) := by decide +kernel
theorem dJ6_bitCount_0f7a4_0 : decode cJ6_bitCount_0f7a4 0 = .ok (.iload_n 0, 1) := by decide +kernel
theorem dJ6_bitCount_0f7a4_1 : decode cJ6_bitCount_0f7a4 1 = .ok (.iload_n 0, 1) := by decide +kernel
theorem dJ6_bitCount_0f7a4_2 : decode cJ6_bitCount_0f7a4 2 = .ok (.iconst 1, 1) := by decide +kernel
theorem dJ6_bitCount_0f7a4_3 : decode cJ6_bitCount_0f7a4 3 = .ok (.iushr, 1) := by decide +kernel
theorem dJ6_bitCount_0f7a4_4 : decode cJ6_bitCount_0f7a4 4 = .ok (.ldc_w 265, 3) := by decide +kernel
theorem dJ6_bitCount_0f7a4_7 : decode cJ6_bitCount_0f7a4 7 = .ok (.iand, 1) := by decide +kernel
theorem dJ6_bitCount_0f7a4_8 : decode cJ6_bitCount_0f7a4 8 = .ok (.isub, 1) := by decide +kernel
theorem dJ6_bitCount_0f7a4_9 : decode cJ6_bitCount_0f7a4 9 = .ok (.istore_n 0, 1) := by decide +kernel
theorem dJ6_bitCount_0f7a4_10 : decode cJ6_bitCount_0f7a4 10 = .ok (.iload_n 0, 1) := by decide +kernel
theorem dJ6_bitCount_0f7a4_11 : decode cJ6_bitCount_0f7a4 11 = .ok (.ldc_w 266, 3) := by decide +kernel
theorem dJ6_bitCount_0f7a4_14 : decode cJ6_bitCount_0f7a4 14 = .ok (.iand, 1) := by decide +kernel
theorem dJ6_bitCount_0f7a4_15 : decode cJ6_bitCount_0f7a4 15 = .ok (.iload_n 0, 1) := by decide +kernel
theorem dJ6_bitCount_0f7a4_16 : decode cJ6_bitCount_0f7a4 16 = .ok (.iconst 2, 1) := by decide +kernel
theorem dJ6_bitCount_0f7a4_17 : decode cJ6_bitCount_0f7a4 17 = .ok (.iushr, 1) := by decide +kernel
theorem dJ6_bitCount_0f7a4_18 : decode cJ6_bitCount_0f7a4 18 = .ok (.ldc_w 266, 3) := by decide +kernel
theorem dJ6_bitCount_0f7a4_21 : decode cJ6_bitCount_0f7a4 21 = .ok (.iand, 1) := by decide +kernel
theorem dJ6_bitCount_0f7a4_22 : decode cJ6_bitCount_0f7a4 22 = .ok (.iadd, 1) := by decide +kernel
theorem dJ6_bitCount_0f7a4_23 : decode cJ6_bitCount_0f7a4 23 = .ok (.istore_n 0, 1) := by decide +kernel
theorem dJ6_bitCount_0f7a4_24 : decode cJ6_bitCount_0f7a4 24 = .ok (.iload_n 0, 1) := by decide +kernel
theorem dJ6_bitCount_0f7a4_25 : decode cJ6_bitCount_0f7a4 25 = .ok (.iload_n 0, 1) := by decide +kernel
theorem dJ6_bitCount_0f7a4_26 : decode cJ6_bitCount_0f7a4 26 = .ok (.iconst 4, 1) := by decide +kernel
theorem dJ6_bitCount_0f7a4_27 : decode cJ6_bitCount_0f7a4 27 = .ok (.iushr, 1) := by decide +kernel
theorem dJ6_bitCount_0f7a4_28 : decode cJ6_bitCount_0f7a4 28 = .ok (.iadd, 1) := by decide +kernel
theorem dJ6_bitCount_0f7a4_29 : decode cJ6_bitCount_0f7a4 29 = .ok (.ldc_w 267, 3) := by decide +kernel
theorem dJ6_bitCount_0f7a4_32 : decode cJ6_bitCount_0f7a4 32 = .ok (.iand, 1) := by decide +kernel
theorem dJ6_bitCount_0f7a4_33 : decode cJ6_bitCount_0f7a4 33 = .ok (.istore_n 0, 1) := by decide +kernel
theorem dJ6_bitCount_0f7a4_34 : decode cJ6_bitCount_0f7a4 34 = .ok (.iload_n 0, 1) := by decide +kernel
theorem dJ6_bitCount_0f7a4_35 : decode cJ6_bitCount_0f7a4 35 = .ok (.iload_n 0, 1) := by decide +kernel
theorem dJ6_bitCount_0f7a4_36 : decode cJ6_bitCount_0f7a4 36 = .ok (.bipush 8, 2) := by decide +kernel
theorem dJ6_bitCount_0f7a4_38 : decode cJ6_bitCount_0f7a4 38 = .ok (.iushr, 1) := by decide +kernel
theorem dJ6_bitCount_0f7a4_39 : decode cJ6_bitCount_0f7a4 39 = .ok (.iadd, 1) := by decide +kernel
theorem dJ6_bitCount_0f7a4_40 : decode cJ6_bitCount_0f7a4 40 = .ok (.istore_n 0, 1) := by decide +kernel
theorem dJ6_bitCount_0f7a4_41 : decode cJ6_bitCount_0f7a4 41 = .ok (.iload_n 0, 1) := by decide +kernel
theorem dJ6_bitCount_0f7a4_42 : decode cJ6_bitCount_0f7a4 42 = .ok (.iload_n 0, 1) := by decide +kernel
theorem dJ6_bitCount_0f7a4_43 : decode cJ6_bitCount_0f7a4 43 = .ok (.bipush 16, 2) := by decide +kernel
theorem dJ6_bitCount_0f7a4_45 : decode cJ6_bitCount_0f7a4 45 = .ok (.iushr, 1) := by decide +kernel
theorem dJ6_bitCount_0f7a4_46 : decode cJ6_bitCount_0f7a4 46 = .ok (.iadd, 1) := by decide +kernel
theorem dJ6_bitCount_0f7a4_47 : decode cJ6_bitCount_0f7a4 47 = .ok (.istore_n 0, 1) := by decide +kernel
theorem dJ6_bitCount_0f7a4_48 : decode cJ6_bitCount_0f7a4 48 = .ok (.iload_n 0, 1) := by decide +kernel
theorem dJ6_bitCount_0f7a4_49 : decode cJ6_bitCount_0f7a4 49 = .ok (.bipush 63, 2) := by decide +kernel
theorem dJ6_bitCount_0f7a4_51 : decode cJ6_bitCount_0f7a4 51 = .ok (.iand, 1) := by decide +kernel
theorem dJ6_bitCount_0f7a4_52 : decode cJ6_bitCount_0f7a4 52 = .ok (.ireturn, 1) := by decide +kernel
theorem dL_person_0 : decode cL_person 0 = .ok (.aload_n 3, 1) := by decide +kernel
theorem dL_person_1 : decode cL_person 1 = .ok (.iconst 0, 1) := by decide +kernel
theorem dL_person_2 : decode cL_person 2 = .ok (.aload_n 0, 1) := by decide +kernel
theorem dL_person_3 : decode cL_person 3 = .ok (.iload_n 1, 1) := by decide +kernel
theorem dL_person_4 : decode cL_person 4 = .ok (.iload_n 2, 1) := by decide +kernel
theorem dL_person_5 : decode cL_person 5 = .ok (.invokevirtual 7, 3) := by decide +kernel
theorem dL_person_8 : decode cL_person 8 = .ok (.i2l, 1) := by decide +kernel
theorem dL_person_9 : decode cL_person 9 = .ok (.lastore, 1) := by decide +kernel
theorem dL_person_10 : decode cL_person 10 = .ok (.goto 7, 3) := by decide +kernel
theorem dL_person_13 : decode cL_person 13 = .ok (.astore 4, 2) := by decide +kernel
theorem dL_person_15 : decode cL_person 15 = .ok (.iconst 1, 1) := by decide +kernel
theorem dL_person_16 : decode cL_person 16 = .ok (.ireturn, 1) := by decide +kernel
theorem dL_person_17 : decode cL_person 17 = .ok (.iconst 0, 1) := by decide +kernel
theorem dL_person_18 : decode cL_person 18 = .ok (.ireturn, 1) := by decide +kernel
theorem dL_mean_0 : decode cL_mean 0 = .ok (.aload_n 3, 1) := by decide +kernel
theorem dL_mean_1 : decode cL_mean 1 = .ok (.iconst 0, 1) := by decide +kernel
theorem dL_mean_2 : decode cL_mean 2 = .ok (.aload_n 0, 1) := by decide +kernel
theorem dL_mean_3 : decode cL_mean 3 = .ok (.iload_n 1, 1) := by decide +kernel
theorem dL_mean_4 : decode cL_mean 4 = .ok (.iload_n 2, 1) := by decide +kernel
theorem dL_mean_5 : decode cL_mean 5 = .ok (.invokevirtual 15, 3) := by decide +kernel
theorem dL_mean_8 : decode cL_mean 8 = .ok (.i2l, 1) := by decide +kernel
theorem dL_mean_9 : decode cL_mean 9 = .ok (.lastore, 1) := by decide +kernel
theorem dL_mean_10 : decode cL_mean 10 = .ok (.goto 7, 3) := by decide +kernel
theorem dL_mean_13 : decode cL_mean 13 = .ok (.astore 4, 2) := by decide +kernel
theorem dL_mean_15 : decode cL_mean 15 = .ok (.iconst 1, 1) := by decide +kernel
theorem dL_mean_16 : decode cL_mean 16 = .ok (.ireturn, 1) := by decide +kernel
theorem dL_mean_17 : decode cL_mean 17 = .ok (.iconst 0, 1) := by decide +kernel
theorem dL_mean_18 : decode cL_mean 18 = .ok (.ireturn, 1) := by decide +kernel
theorem dL_law_0 : decode cL_law 0 = .ok (.new 8, 3) := by decide +kernel
theorem dL_law_3 : decode cL_law 3 = .ok (.dup, 1) := by decide +kernel
theorem dL_law_4 : decode cL_law 4 = .ok (.invokespecial 18, 3) := by decide +kernel
theorem dL_law_7 : decode cL_law 7 = .ok (.astore_n 1, 1) := by decide +kernel
theorem dL_law_8 : decode cL_law 8 = .ok (.new 19, 3) := by decide +kernel
theorem dL_law_11 : decode cL_law 11 = .ok (.dup, 1) := by decide +kernel
theorem dL_law_12 : decode cL_law 12 = .ok (.invokespecial 21, 3) := by decide +kernel
theorem dL_law_15 : decode cL_law 15 = .ok (.astore_n 2, 1) := by decide +kernel
theorem dL_law_16 : decode cL_law 16 = .ok (.iconst 1, 1) := by decide +kernel
theorem dL_law_17 : decode cL_law 17 = .ok (.newarray .long, 2) := by decide +kernel
theorem dL_law_19 : decode cL_law 19 = .ok (.astore_n 3, 1) := by decide +kernel
theorem dL_law_20 : decode cL_law 20 = .ok (.iconst 0, 1) := by decide +kernel
theorem dL_law_21 : decode cL_law 21 = .ok (.istore 4, 2) := by decide +kernel
theorem dL_law_23 : decode cL_law 23 = .ok (.iload 4, 2) := by decide +kernel
theorem dL_law_25 : decode cL_law 25 = .ok (.aload_n 0, 1) := by decide +kernel
theorem dL_law_26 : decode cL_law 26 = .ok (.arraylength, 1) := by decide +kernel
theorem dL_law_27 : decode cL_law 27 = .ok (.bipush 6, 2) := by decide +kernel
theorem dL_law_29 : decode cL_law 29 = .ok (.isub, 1) := by decide +kernel
theorem dL_law_30 : decode cL_law 30 = .ok (.if_icmp .gt 1227, 3) := by decide +kernel
theorem dL_law_33 : decode cL_law 33 = .ok (.aload_n 0, 1) := by decide +kernel
theorem dL_law_34 : decode cL_law 34 = .ok (.iload 4, 2) := by decide +kernel
theorem dL_law_36 : decode cL_law 36 = .ok (.iaload, 1) := by decide +kernel
theorem dL_law_37 : decode cL_law 37 = .ok (.bipush 63, 2) := by decide +kernel
theorem dL_law_39 : decode cL_law 39 = .ok (.iand, 1) := by decide +kernel
theorem dL_law_40 : decode cL_law 40 = .ok (.tableswitch 1211 0 36 #[164, 237, 262, 275, 288, 356, 393, 430, 467, 492, 529, 554, 591, 628, 653, 666, 691, 716, 741, 754, 767, 780, 793, 806, 831, 844, 912, 937, 962, 999, 1048, 1073, 1098, 1111, 1136, 1161, 1186], 164) := by decide +kernel
theorem dL_law_204 : decode cL_law 204 = .ok (.aload_n 1, 1) := by decide +kernel
theorem dL_law_205 : decode cL_law 205 = .ok (.aload_n 0, 1) := by decide +kernel
theorem dL_law_206 : decode cL_law 206 = .ok (.iload 4, 2) := by decide +kernel
theorem dL_law_208 : decode cL_law 208 = .ok (.iconst 1, 1) := by decide +kernel
theorem dL_law_209 : decode cL_law 209 = .ok (.iadd, 1) := by decide +kernel
theorem dL_law_210 : decode cL_law 210 = .ok (.iaload, 1) := by decide +kernel
theorem dL_law_211 : decode cL_law 211 = .ok (.aload_n 0, 1) := by decide +kernel
theorem dL_law_212 : decode cL_law 212 = .ok (.iload 4, 2) := by decide +kernel
theorem dL_law_214 : decode cL_law 214 = .ok (.iconst 2, 1) := by decide +kernel
theorem dL_law_215 : decode cL_law 215 = .ok (.iadd, 1) := by decide +kernel
theorem dL_law_216 : decode cL_law 216 = .ok (.iaload, 1) := by decide +kernel
theorem dL_law_217 : decode cL_law 217 = .ok (.aload_n 0, 1) := by decide +kernel
theorem dL_law_218 : decode cL_law 218 = .ok (.iload 4, 2) := by decide +kernel
theorem dL_law_220 : decode cL_law 220 = .ok (.iconst 3, 1) := by decide +kernel
theorem dL_law_221 : decode cL_law 221 = .ok (.iadd, 1) := by decide +kernel
theorem dL_law_222 : decode cL_law 222 = .ok (.iaload, 1) := by decide +kernel
theorem dL_law_223 : decode cL_law 223 = .ok (.aload_n 0, 1) := by decide +kernel
theorem dL_law_224 : decode cL_law 224 = .ok (.iload 4, 2) := by decide +kernel
theorem dL_law_226 : decode cL_law 226 = .ok (.iconst 4, 1) := by decide +kernel
theorem dL_law_227 : decode cL_law 227 = .ok (.iadd, 1) := by decide +kernel
theorem dL_law_228 : decode cL_law 228 = .ok (.iaload, 1) := by decide +kernel
theorem dL_law_229 : decode cL_law 229 = .ok (.aload_n 0, 1) := by decide +kernel
theorem dL_law_230 : decode cL_law 230 = .ok (.iload 4, 2) := by decide +kernel
theorem dL_law_232 : decode cL_law 232 = .ok (.iconst 5, 1) := by decide +kernel
theorem dL_law_233 : decode cL_law 233 = .ok (.iadd, 1) := by decide +kernel
theorem dL_law_234 : decode cL_law 234 = .ok (.iaload, 1) := by decide +kernel
theorem dL_law_235 : decode cL_law 235 = .ok (.invokevirtual 22, 3) := by decide +kernel
theorem dL_law_238 : decode cL_law 238 = .ok (.aload_n 2, 1) := by decide +kernel
theorem dL_law_239 : decode cL_law 239 = .ok (.aload_n 0, 1) := by decide +kernel
theorem dL_law_240 : decode cL_law 240 = .ok (.iload 4, 2) := by decide +kernel
theorem dL_law_242 : decode cL_law 242 = .ok (.iconst 1, 1) := by decide +kernel
theorem dL_law_243 : decode cL_law 243 = .ok (.iadd, 1) := by decide +kernel
theorem dL_law_244 : decode cL_law 244 = .ok (.iaload, 1) := by decide +kernel
theorem dL_law_245 : decode cL_law 245 = .ok (.aload_n 0, 1) := by decide +kernel
theorem dL_law_246 : decode cL_law 246 = .ok (.iload 4, 2) := by decide +kernel
theorem dL_law_248 : decode cL_law 248 = .ok (.iconst 2, 1) := by decide +kernel
theorem dL_law_249 : decode cL_law 249 = .ok (.iadd, 1) := by decide +kernel
theorem dL_law_250 : decode cL_law 250 = .ok (.iaload, 1) := by decide +kernel
theorem dL_law_251 : decode cL_law 251 = .ok (.aload_n 0, 1) := by decide +kernel
theorem dL_law_252 : decode cL_law 252 = .ok (.iload 4, 2) := by decide +kernel
theorem dL_law_254 : decode cL_law 254 = .ok (.iconst 3, 1) := by decide +kernel
theorem dL_law_255 : decode cL_law 255 = .ok (.iadd, 1) := by decide +kernel
theorem dL_law_256 : decode cL_law 256 = .ok (.iaload, 1) := by decide +kernel
theorem dL_law_257 : decode cL_law 257 = .ok (.aload_n 0, 1) := by decide +kernel
theorem dL_law_258 : decode cL_law 258 = .ok (.iload 4, 2) := by decide +kernel
theorem dL_law_260 : decode cL_law 260 = .ok (.iconst 4, 1) := by decide +kernel
theorem dL_law_261 : decode cL_law 261 = .ok (.iadd, 1) := by decide +kernel
theorem dL_law_262 : decode cL_law 262 = .ok (.iaload, 1) := by decide +kernel
theorem dL_law_263 : decode cL_law 263 = .ok (.aload_n 0, 1) := by decide +kernel
theorem dL_law_264 : decode cL_law 264 = .ok (.iload 4, 2) := by decide +kernel
theorem dL_law_266 : decode cL_law 266 = .ok (.iconst 5, 1) := by decide +kernel
theorem dL_law_267 : decode cL_law 267 = .ok (.iadd, 1) := by decide +kernel
theorem dL_law_268 : decode cL_law 268 = .ok (.iaload, 1) := by decide +kernel
theorem dL_law_269 : decode cL_law 269 = .ok (.invokevirtual 26, 3) := by decide +kernel
theorem dL_law_272 : decode cL_law 272 = .ok (.if_icmp .eq 979, 3) := by decide +kernel
theorem dL_law_275 : decode cL_law 275 = .ok (.iconst 0, 1) := by decide +kernel
theorem dL_law_276 : decode cL_law 276 = .ok (.ireturn, 1) := by decide +kernel
theorem dL_law_277 : decode cL_law 277 = .ok (.aload_n 1, 1) := by decide +kernel
theorem dL_law_278 : decode cL_law 278 = .ok (.aload_n 0, 1) := by decide +kernel
theorem dL_law_279 : decode cL_law 279 = .ok (.iload 4, 2) := by decide +kernel
theorem dL_law_281 : decode cL_law 281 = .ok (.iconst 1, 1) := by decide +kernel
theorem dL_law_282 : decode cL_law 282 = .ok (.iadd, 1) := by decide +kernel
theorem dL_law_283 : decode cL_law 283 = .ok (.iaload, 1) := by decide +kernel
theorem dL_law_284 : decode cL_law 284 = .ok (.invokevirtual 27, 3) := by decide +kernel
theorem dL_law_287 : decode cL_law 287 = .ok (.aload_n 2, 1) := by decide +kernel
theorem dL_law_288 : decode cL_law 288 = .ok (.aload_n 0, 1) := by decide +kernel
theorem dL_law_289 : decode cL_law 289 = .ok (.iload 4, 2) := by decide +kernel
theorem dL_law_291 : decode cL_law 291 = .ok (.iconst 1, 1) := by decide +kernel
theorem dL_law_292 : decode cL_law 292 = .ok (.iadd, 1) := by decide +kernel
theorem dL_law_293 : decode cL_law 293 = .ok (.iaload, 1) := by decide +kernel
theorem dL_law_294 : decode cL_law 294 = .ok (.invokevirtual 31, 3) := by decide +kernel
theorem dL_law_297 : decode cL_law 297 = .ok (.if_icmp .eq 954, 3) := by decide +kernel
theorem dL_law_300 : decode cL_law 300 = .ok (.iconst 0, 1) := by decide +kernel
theorem dL_law_301 : decode cL_law 301 = .ok (.ireturn, 1) := by decide +kernel
theorem dL_law_302 : decode cL_law 302 = .ok (.aload_n 1, 1) := by decide +kernel
theorem dL_law_303 : decode cL_law 303 = .ok (.invokevirtual 32, 3) := by decide +kernel
theorem dL_law_306 : decode cL_law 306 = .ok (.aload_n 2, 1) := by decide +kernel
theorem dL_law_307 : decode cL_law 307 = .ok (.invokevirtual 36, 3) := by decide +kernel
theorem dL_law_310 : decode cL_law 310 = .ok (.if_icmp .eq 941, 3) := by decide +kernel
theorem dL_law_313 : decode cL_law 313 = .ok (.iconst 0, 1) := by decide +kernel
theorem dL_law_314 : decode cL_law 314 = .ok (.ireturn, 1) := by decide +kernel
theorem dL_law_315 : decode cL_law 315 = .ok (.aload_n 1, 1) := by decide +kernel
theorem dL_law_316 : decode cL_law 316 = .ok (.invokevirtual 37, 3) := by decide +kernel
theorem dL_law_319 : decode cL_law 319 = .ok (.aload_n 2, 1) := by decide +kernel
theorem dL_law_320 : decode cL_law 320 = .ok (.invokevirtual 40, 3) := by decide +kernel
theorem dL_law_323 : decode cL_law 323 = .ok (.if_icmp .eq 928, 3) := by decide +kernel
theorem dL_law_326 : decode cL_law 326 = .ok (.iconst 0, 1) := by decide +kernel
theorem dL_law_327 : decode cL_law 327 = .ok (.ireturn, 1) := by decide +kernel
theorem dL_law_328 : decode cL_law 328 = .ok (.aload_n 1, 1) := by decide +kernel
theorem dL_law_329 : decode cL_law 329 = .ok (.aload_n 0, 1) := by decide +kernel
theorem dL_law_330 : decode cL_law 330 = .ok (.iload 4, 2) := by decide +kernel
theorem dL_law_332 : decode cL_law 332 = .ok (.iconst 1, 1) := by decide +kernel
theorem dL_law_333 : decode cL_law 333 = .ok (.iadd, 1) := by decide +kernel
theorem dL_law_334 : decode cL_law 334 = .ok (.iaload, 1) := by decide +kernel
theorem dL_law_335 : decode cL_law 335 = .ok (.aload_n 0, 1) := by decide +kernel
theorem dL_law_336 : decode cL_law 336 = .ok (.iload 4, 2) := by decide +kernel
theorem dL_law_338 : decode cL_law 338 = .ok (.iconst 2, 1) := by decide +kernel
theorem dL_law_339 : decode cL_law 339 = .ok (.iadd, 1) := by decide +kernel
theorem dL_law_340 : decode cL_law 340 = .ok (.iaload, 1) := by decide +kernel
theorem dL_law_341 : decode cL_law 341 = .ok (.aload_n 3, 1) := by decide +kernel
theorem dL_law_342 : decode cL_law 342 = .ok (.invokestatic 41, 3) := by decide +kernel
theorem dL_law_345 : decode cL_law 345 = .ok (.istore 5, 2) := by decide +kernel
theorem dL_law_347 : decode cL_law 347 = .ok (.aload_n 2, 1) := by decide +kernel
theorem dL_law_348 : decode cL_law 348 = .ok (.aload_n 0, 1) := by decide +kernel
theorem dL_law_349 : decode cL_law 349 = .ok (.iload 4, 2) := by decide +kernel
theorem dL_law_351 : decode cL_law 351 = .ok (.iconst 1, 1) := by decide +kernel
theorem dL_law_352 : decode cL_law 352 = .ok (.iadd, 1) := by decide +kernel
theorem dL_law_353 : decode cL_law 353 = .ok (.iaload, 1) := by decide +kernel
theorem dL_law_354 : decode cL_law 354 = .ok (.aload_n 0, 1) := by decide +kernel
theorem dL_law_355 : decode cL_law 355 = .ok (.iload 4, 2) := by decide +kernel
theorem dL_law_357 : decode cL_law 357 = .ok (.iconst 2, 1) := by decide +kernel
theorem dL_law_358 : decode cL_law 358 = .ok (.iadd, 1) := by decide +kernel
theorem dL_law_359 : decode cL_law 359 = .ok (.iaload, 1) := by decide +kernel
theorem dL_law_360 : decode cL_law 360 = .ok (.invokevirtual 46, 3) := by decide +kernel
theorem dL_law_363 : decode cL_law 363 = .ok (.istore 6, 2) := by decide +kernel
theorem dL_law_365 : decode cL_law 365 = .ok (.aload_n 2, 1) := by decide +kernel
theorem dL_law_366 : decode cL_law 366 = .ok (.invokevirtual 47, 3) := by decide +kernel
theorem dL_law_369 : decode cL_law 369 = .ok (.iload 5, 2) := by decide +kernel
theorem dL_law_371 : decode cL_law 371 = .ok (.if_icmp .eq 5, 3) := by decide +kernel
theorem dL_law_374 : decode cL_law 374 = .ok (.iconst 0, 1) := by decide +kernel
theorem dL_law_375 : decode cL_law 375 = .ok (.ireturn, 1) := by decide +kernel
theorem dL_law_376 : decode cL_law 376 = .ok (.iload 5, 2) := by decide +kernel
theorem dL_law_378 : decode cL_law 378 = .ok (.ifCond .ne 15, 3) := by decide +kernel
theorem dL_law_381 : decode cL_law 381 = .ok (.aload_n 3, 1) := by decide +kernel
theorem dL_law_382 : decode cL_law 382 = .ok (.iconst 0, 1) := by decide +kernel
theorem dL_law_383 : decode cL_law 383 = .ok (.laload, 1) := by decide +kernel
theorem dL_law_384 : decode cL_law 384 = .ok (.iload 6, 2) := by decide +kernel
theorem dL_law_386 : decode cL_law 386 = .ok (.i2l, 1) := by decide +kernel
theorem dL_law_387 : decode cL_law 387 = .ok (.lcmp, 1) := by decide +kernel
theorem dL_law_388 : decode cL_law 388 = .ok (.ifCond .eq 5, 3) := by decide +kernel
theorem dL_law_391 : decode cL_law 391 = .ok (.iconst 0, 1) := by decide +kernel
theorem dL_law_392 : decode cL_law 392 = .ok (.ireturn, 1) := by decide +kernel
theorem dL_law_393 : decode cL_law 393 = .ok (.goto 858, 3) := by decide +kernel
theorem dL_law_396 : decode cL_law 396 = .ok (.aload_n 1, 1) := by decide +kernel
theorem dL_law_397 : decode cL_law 397 = .ok (.aload_n 0, 1) := by decide +kernel
theorem dL_law_398 : decode cL_law 398 = .ok (.iload 4, 2) := by decide +kernel
theorem dL_law_400 : decode cL_law 400 = .ok (.iconst 1, 1) := by decide +kernel
theorem dL_law_401 : decode cL_law 401 = .ok (.iadd, 1) := by decide +kernel
theorem dL_law_402 : decode cL_law 402 = .ok (.iaload, 1) := by decide +kernel
theorem dL_law_403 : decode cL_law 403 = .ok (.aload_n 0, 1) := by decide +kernel
theorem dL_law_404 : decode cL_law 404 = .ok (.iload 4, 2) := by decide +kernel
theorem dL_law_406 : decode cL_law 406 = .ok (.iconst 2, 1) := by decide +kernel
theorem dL_law_407 : decode cL_law 407 = .ok (.iadd, 1) := by decide +kernel
theorem dL_law_408 : decode cL_law 408 = .ok (.iaload, 1) := by decide +kernel
theorem dL_law_409 : decode cL_law 409 = .ok (.invokevirtual 50, 3) := by decide +kernel
theorem dL_law_412 : decode cL_law 412 = .ok (.aload_n 2, 1) := by decide +kernel
theorem dL_law_413 : decode cL_law 413 = .ok (.aload_n 0, 1) := by decide +kernel
theorem dL_law_414 : decode cL_law 414 = .ok (.iload 4, 2) := by decide +kernel
theorem dL_law_416 : decode cL_law 416 = .ok (.iconst 1, 1) := by decide +kernel
theorem dL_law_417 : decode cL_law 417 = .ok (.iadd, 1) := by decide +kernel
theorem dL_law_418 : decode cL_law 418 = .ok (.iaload, 1) := by decide +kernel
theorem dL_law_419 : decode cL_law 419 = .ok (.aload_n 0, 1) := by decide +kernel
theorem dL_law_420 : decode cL_law 420 = .ok (.iload 4, 2) := by decide +kernel
theorem dL_law_422 : decode cL_law 422 = .ok (.iconst 2, 1) := by decide +kernel
theorem dL_law_423 : decode cL_law 423 = .ok (.iadd, 1) := by decide +kernel
theorem dL_law_424 : decode cL_law 424 = .ok (.iaload, 1) := by decide +kernel
theorem dL_law_425 : decode cL_law 425 = .ok (.invokevirtual 53, 3) := by decide +kernel
theorem dL_law_428 : decode cL_law 428 = .ok (.if_icmp .eq 823, 3) := by decide +kernel
theorem dL_law_431 : decode cL_law 431 = .ok (.iconst 0, 1) := by decide +kernel
theorem dL_law_432 : decode cL_law 432 = .ok (.ireturn, 1) := by decide +kernel
theorem dL_law_433 : decode cL_law 433 = .ok (.aload_n 1, 1) := by decide +kernel
theorem dL_law_434 : decode cL_law 434 = .ok (.aload_n 0, 1) := by decide +kernel
theorem dL_law_435 : decode cL_law 435 = .ok (.iload 4, 2) := by decide +kernel
theorem dL_law_437 : decode cL_law 437 = .ok (.iconst 1, 1) := by decide +kernel
theorem dL_law_438 : decode cL_law 438 = .ok (.iadd, 1) := by decide +kernel
theorem dL_law_439 : decode cL_law 439 = .ok (.iaload, 1) := by decide +kernel
theorem dL_law_440 : decode cL_law 440 = .ok (.aload_n 0, 1) := by decide +kernel
theorem dL_law_441 : decode cL_law 441 = .ok (.iload 4, 2) := by decide +kernel
theorem dL_law_443 : decode cL_law 443 = .ok (.iconst 2, 1) := by decide +kernel
theorem dL_law_444 : decode cL_law 444 = .ok (.iadd, 1) := by decide +kernel
theorem dL_law_445 : decode cL_law 445 = .ok (.iaload, 1) := by decide +kernel
theorem dL_law_446 : decode cL_law 446 = .ok (.invokevirtual 54, 3) := by decide +kernel
theorem dL_law_449 : decode cL_law 449 = .ok (.aload_n 2, 1) := by decide +kernel
theorem dL_law_450 : decode cL_law 450 = .ok (.aload_n 0, 1) := by decide +kernel
theorem dL_law_451 : decode cL_law 451 = .ok (.iload 4, 2) := by decide +kernel
theorem dL_law_453 : decode cL_law 453 = .ok (.iconst 1, 1) := by decide +kernel
theorem dL_law_454 : decode cL_law 454 = .ok (.iadd, 1) := by decide +kernel
theorem dL_law_455 : decode cL_law 455 = .ok (.iaload, 1) := by decide +kernel
theorem dL_law_456 : decode cL_law 456 = .ok (.aload_n 0, 1) := by decide +kernel
theorem dL_law_457 : decode cL_law 457 = .ok (.iload 4, 2) := by decide +kernel
theorem dL_law_459 : decode cL_law 459 = .ok (.iconst 2, 1) := by decide +kernel
theorem dL_law_460 : decode cL_law 460 = .ok (.iadd, 1) := by decide +kernel
theorem dL_law_461 : decode cL_law 461 = .ok (.iaload, 1) := by decide +kernel
theorem dL_law_462 : decode cL_law 462 = .ok (.invokevirtual 57, 3) := by decide +kernel
theorem dL_law_465 : decode cL_law 465 = .ok (.if_icmp .eq 786, 3) := by decide +kernel
theorem dL_law_468 : decode cL_law 468 = .ok (.iconst 0, 1) := by decide +kernel
theorem dL_law_469 : decode cL_law 469 = .ok (.ireturn, 1) := by decide +kernel
theorem dL_law_470 : decode cL_law 470 = .ok (.aload_n 1, 1) := by decide +kernel
theorem dL_law_471 : decode cL_law 471 = .ok (.aload_n 0, 1) := by decide +kernel
theorem dL_law_472 : decode cL_law 472 = .ok (.iload 4, 2) := by decide +kernel
theorem dL_law_474 : decode cL_law 474 = .ok (.iconst 1, 1) := by decide +kernel
theorem dL_law_475 : decode cL_law 475 = .ok (.iadd, 1) := by decide +kernel
theorem dL_law_476 : decode cL_law 476 = .ok (.iaload, 1) := by decide +kernel
theorem dL_law_477 : decode cL_law 477 = .ok (.aload_n 0, 1) := by decide +kernel
theorem dL_law_478 : decode cL_law 478 = .ok (.iload 4, 2) := by decide +kernel
theorem dL_law_480 : decode cL_law 480 = .ok (.iconst 2, 1) := by decide +kernel
theorem dL_law_481 : decode cL_law 481 = .ok (.iadd, 1) := by decide +kernel
theorem dL_law_482 : decode cL_law 482 = .ok (.iaload, 1) := by decide +kernel
theorem dL_law_483 : decode cL_law 483 = .ok (.invokevirtual 58, 3) := by decide +kernel
theorem dL_law_486 : decode cL_law 486 = .ok (.aload_n 2, 1) := by decide +kernel
theorem dL_law_487 : decode cL_law 487 = .ok (.aload_n 0, 1) := by decide +kernel
theorem dL_law_488 : decode cL_law 488 = .ok (.iload 4, 2) := by decide +kernel
theorem dL_law_490 : decode cL_law 490 = .ok (.iconst 1, 1) := by decide +kernel
theorem dL_law_491 : decode cL_law 491 = .ok (.iadd, 1) := by decide +kernel
theorem dL_law_492 : decode cL_law 492 = .ok (.iaload, 1) := by decide +kernel
theorem dL_law_493 : decode cL_law 493 = .ok (.aload_n 0, 1) := by decide +kernel
theorem dL_law_494 : decode cL_law 494 = .ok (.iload 4, 2) := by decide +kernel
theorem dL_law_496 : decode cL_law 496 = .ok (.iconst 2, 1) := by decide +kernel
theorem dL_law_497 : decode cL_law 497 = .ok (.iadd, 1) := by decide +kernel
theorem dL_law_498 : decode cL_law 498 = .ok (.iaload, 1) := by decide +kernel
theorem dL_law_499 : decode cL_law 499 = .ok (.invokevirtual 61, 3) := by decide +kernel
theorem dL_law_502 : decode cL_law 502 = .ok (.if_icmp .eq 749, 3) := by decide +kernel
theorem dL_law_505 : decode cL_law 505 = .ok (.iconst 0, 1) := by decide +kernel
theorem dL_law_506 : decode cL_law 506 = .ok (.ireturn, 1) := by decide +kernel
theorem dL_law_507 : decode cL_law 507 = .ok (.aload_n 1, 1) := by decide +kernel
theorem dL_law_508 : decode cL_law 508 = .ok (.aload_n 0, 1) := by decide +kernel
theorem dL_law_509 : decode cL_law 509 = .ok (.iload 4, 2) := by decide +kernel
theorem dL_law_511 : decode cL_law 511 = .ok (.iconst 1, 1) := by decide +kernel
theorem dL_law_512 : decode cL_law 512 = .ok (.iadd, 1) := by decide +kernel
theorem dL_law_513 : decode cL_law 513 = .ok (.iaload, 1) := by decide +kernel
theorem dL_law_514 : decode cL_law 514 = .ok (.invokevirtual 62, 3) := by decide +kernel
theorem dL_law_517 : decode cL_law 517 = .ok (.aload_n 2, 1) := by decide +kernel
theorem dL_law_518 : decode cL_law 518 = .ok (.aload_n 0, 1) := by decide +kernel
theorem dL_law_519 : decode cL_law 519 = .ok (.iload 4, 2) := by decide +kernel
theorem dL_law_521 : decode cL_law 521 = .ok (.iconst 1, 1) := by decide +kernel
theorem dL_law_522 : decode cL_law 522 = .ok (.iadd, 1) := by decide +kernel
theorem dL_law_523 : decode cL_law 523 = .ok (.iaload, 1) := by decide +kernel
theorem dL_law_524 : decode cL_law 524 = .ok (.invokevirtual 66, 3) := by decide +kernel
theorem dL_law_527 : decode cL_law 527 = .ok (.if_icmp .eq 724, 3) := by decide +kernel
theorem dL_law_530 : decode cL_law 530 = .ok (.iconst 0, 1) := by decide +kernel
theorem dL_law_531 : decode cL_law 531 = .ok (.ireturn, 1) := by decide +kernel
theorem dL_law_532 : decode cL_law 532 = .ok (.aload_n 1, 1) := by decide +kernel
theorem dL_law_533 : decode cL_law 533 = .ok (.aload_n 0, 1) := by decide +kernel
theorem dL_law_534 : decode cL_law 534 = .ok (.iload 4, 2) := by decide +kernel
theorem dL_law_536 : decode cL_law 536 = .ok (.iconst 1, 1) := by decide +kernel
theorem dL_law_537 : decode cL_law 537 = .ok (.iadd, 1) := by decide +kernel
theorem dL_law_538 : decode cL_law 538 = .ok (.iaload, 1) := by decide +kernel
theorem dL_law_539 : decode cL_law 539 = .ok (.aload_n 0, 1) := by decide +kernel
theorem dL_law_540 : decode cL_law 540 = .ok (.iload 4, 2) := by decide +kernel
theorem dL_law_542 : decode cL_law 542 = .ok (.iconst 2, 1) := by decide +kernel
theorem dL_law_543 : decode cL_law 543 = .ok (.iadd, 1) := by decide +kernel
theorem dL_law_544 : decode cL_law 544 = .ok (.iaload, 1) := by decide +kernel
theorem dL_law_545 : decode cL_law 545 = .ok (.invokevirtual 67, 3) := by decide +kernel
theorem dL_law_548 : decode cL_law 548 = .ok (.aload_n 2, 1) := by decide +kernel
theorem dL_law_549 : decode cL_law 549 = .ok (.aload_n 0, 1) := by decide +kernel
theorem dL_law_550 : decode cL_law 550 = .ok (.iload 4, 2) := by decide +kernel
theorem dL_law_552 : decode cL_law 552 = .ok (.iconst 1, 1) := by decide +kernel
theorem dL_law_553 : decode cL_law 553 = .ok (.iadd, 1) := by decide +kernel
theorem dL_law_554 : decode cL_law 554 = .ok (.iaload, 1) := by decide +kernel
theorem dL_law_555 : decode cL_law 555 = .ok (.aload_n 0, 1) := by decide +kernel
theorem dL_law_556 : decode cL_law 556 = .ok (.iload 4, 2) := by decide +kernel
theorem dL_law_558 : decode cL_law 558 = .ok (.iconst 2, 1) := by decide +kernel
theorem dL_law_559 : decode cL_law 559 = .ok (.iadd, 1) := by decide +kernel
theorem dL_law_560 : decode cL_law 560 = .ok (.iaload, 1) := by decide +kernel
theorem dL_law_561 : decode cL_law 561 = .ok (.invokevirtual 70, 3) := by decide +kernel
theorem dL_law_564 : decode cL_law 564 = .ok (.if_icmp .eq 687, 3) := by decide +kernel
theorem dL_law_567 : decode cL_law 567 = .ok (.iconst 0, 1) := by decide +kernel
theorem dL_law_568 : decode cL_law 568 = .ok (.ireturn, 1) := by decide +kernel
theorem dL_law_569 : decode cL_law 569 = .ok (.aload_n 1, 1) := by decide +kernel
theorem dL_law_570 : decode cL_law 570 = .ok (.aload_n 0, 1) := by decide +kernel
theorem dL_law_571 : decode cL_law 571 = .ok (.iload 4, 2) := by decide +kernel
theorem dL_law_573 : decode cL_law 573 = .ok (.iconst 1, 1) := by decide +kernel
theorem dL_law_574 : decode cL_law 574 = .ok (.iadd, 1) := by decide +kernel
theorem dL_law_575 : decode cL_law 575 = .ok (.iaload, 1) := by decide +kernel
theorem dL_law_576 : decode cL_law 576 = .ok (.invokevirtual 71, 3) := by decide +kernel
theorem dL_law_579 : decode cL_law 579 = .ok (.aload_n 2, 1) := by decide +kernel
theorem dL_law_580 : decode cL_law 580 = .ok (.aload_n 0, 1) := by decide +kernel
theorem dL_law_581 : decode cL_law 581 = .ok (.iload 4, 2) := by decide +kernel
theorem dL_law_583 : decode cL_law 583 = .ok (.iconst 1, 1) := by decide +kernel
theorem dL_law_584 : decode cL_law 584 = .ok (.iadd, 1) := by decide +kernel
theorem dL_law_585 : decode cL_law 585 = .ok (.iaload, 1) := by decide +kernel
theorem dL_law_586 : decode cL_law 586 = .ok (.invokevirtual 74, 3) := by decide +kernel
theorem dL_law_589 : decode cL_law 589 = .ok (.if_icmp .eq 662, 3) := by decide +kernel
theorem dL_law_592 : decode cL_law 592 = .ok (.iconst 0, 1) := by decide +kernel
theorem dL_law_593 : decode cL_law 593 = .ok (.ireturn, 1) := by decide +kernel
theorem dL_law_594 : decode cL_law 594 = .ok (.aload_n 1, 1) := by decide +kernel
theorem dL_law_595 : decode cL_law 595 = .ok (.aload_n 0, 1) := by decide +kernel
theorem dL_law_596 : decode cL_law 596 = .ok (.iload 4, 2) := by decide +kernel
theorem dL_law_598 : decode cL_law 598 = .ok (.iconst 1, 1) := by decide +kernel
theorem dL_law_599 : decode cL_law 599 = .ok (.iadd, 1) := by decide +kernel
theorem dL_law_600 : decode cL_law 600 = .ok (.iaload, 1) := by decide +kernel
theorem dL_law_601 : decode cL_law 601 = .ok (.aload_n 0, 1) := by decide +kernel
theorem dL_law_602 : decode cL_law 602 = .ok (.iload 4, 2) := by decide +kernel
theorem dL_law_604 : decode cL_law 604 = .ok (.iconst 2, 1) := by decide +kernel
theorem dL_law_605 : decode cL_law 605 = .ok (.iadd, 1) := by decide +kernel
theorem dL_law_606 : decode cL_law 606 = .ok (.iaload, 1) := by decide +kernel
theorem dL_law_607 : decode cL_law 607 = .ok (.invokevirtual 75, 3) := by decide +kernel
theorem dL_law_610 : decode cL_law 610 = .ok (.aload_n 2, 1) := by decide +kernel
theorem dL_law_611 : decode cL_law 611 = .ok (.aload_n 0, 1) := by decide +kernel
theorem dL_law_612 : decode cL_law 612 = .ok (.iload 4, 2) := by decide +kernel
theorem dL_law_614 : decode cL_law 614 = .ok (.iconst 1, 1) := by decide +kernel
theorem dL_law_615 : decode cL_law 615 = .ok (.iadd, 1) := by decide +kernel
theorem dL_law_616 : decode cL_law 616 = .ok (.iaload, 1) := by decide +kernel
theorem dL_law_617 : decode cL_law 617 = .ok (.aload_n 0, 1) := by decide +kernel
theorem dL_law_618 : decode cL_law 618 = .ok (.iload 4, 2) := by decide +kernel
theorem dL_law_620 : decode cL_law 620 = .ok (.iconst 2, 1) := by decide +kernel
theorem dL_law_621 : decode cL_law 621 = .ok (.iadd, 1) := by decide +kernel
theorem dL_law_622 : decode cL_law 622 = .ok (.iaload, 1) := by decide +kernel
theorem dL_law_623 : decode cL_law 623 = .ok (.invokevirtual 78, 3) := by decide +kernel
theorem dL_law_626 : decode cL_law 626 = .ok (.if_icmp .eq 625, 3) := by decide +kernel
theorem dL_law_629 : decode cL_law 629 = .ok (.iconst 0, 1) := by decide +kernel
theorem dL_law_630 : decode cL_law 630 = .ok (.ireturn, 1) := by decide +kernel
theorem dL_law_631 : decode cL_law 631 = .ok (.aload_n 1, 1) := by decide +kernel
theorem dL_law_632 : decode cL_law 632 = .ok (.aload_n 0, 1) := by decide +kernel
theorem dL_law_633 : decode cL_law 633 = .ok (.iload 4, 2) := by decide +kernel
theorem dL_law_635 : decode cL_law 635 = .ok (.iconst 1, 1) := by decide +kernel
theorem dL_law_636 : decode cL_law 636 = .ok (.iadd, 1) := by decide +kernel
theorem dL_law_637 : decode cL_law 637 = .ok (.iaload, 1) := by decide +kernel
theorem dL_law_638 : decode cL_law 638 = .ok (.aload_n 0, 1) := by decide +kernel
theorem dL_law_639 : decode cL_law 639 = .ok (.iload 4, 2) := by decide +kernel
theorem dL_law_641 : decode cL_law 641 = .ok (.iconst 2, 1) := by decide +kernel
theorem dL_law_642 : decode cL_law 642 = .ok (.iadd, 1) := by decide +kernel
theorem dL_law_643 : decode cL_law 643 = .ok (.iaload, 1) := by decide +kernel
theorem dL_law_644 : decode cL_law 644 = .ok (.invokevirtual 79, 3) := by decide +kernel
theorem dL_law_647 : decode cL_law 647 = .ok (.aload_n 2, 1) := by decide +kernel
theorem dL_law_648 : decode cL_law 648 = .ok (.aload_n 0, 1) := by decide +kernel
theorem dL_law_649 : decode cL_law 649 = .ok (.iload 4, 2) := by decide +kernel
theorem dL_law_651 : decode cL_law 651 = .ok (.iconst 1, 1) := by decide +kernel
theorem dL_law_652 : decode cL_law 652 = .ok (.iadd, 1) := by decide +kernel
theorem dL_law_653 : decode cL_law 653 = .ok (.iaload, 1) := by decide +kernel
theorem dL_law_654 : decode cL_law 654 = .ok (.aload_n 0, 1) := by decide +kernel
theorem dL_law_655 : decode cL_law 655 = .ok (.iload 4, 2) := by decide +kernel
theorem dL_law_657 : decode cL_law 657 = .ok (.iconst 2, 1) := by decide +kernel
theorem dL_law_658 : decode cL_law 658 = .ok (.iadd, 1) := by decide +kernel
theorem dL_law_659 : decode cL_law 659 = .ok (.iaload, 1) := by decide +kernel
theorem dL_law_660 : decode cL_law 660 = .ok (.invokevirtual 82, 3) := by decide +kernel
theorem dL_law_663 : decode cL_law 663 = .ok (.if_icmp .eq 588, 3) := by decide +kernel
theorem dL_law_666 : decode cL_law 666 = .ok (.iconst 0, 1) := by decide +kernel
theorem dL_law_667 : decode cL_law 667 = .ok (.ireturn, 1) := by decide +kernel
theorem dL_law_668 : decode cL_law 668 = .ok (.aload_n 1, 1) := by decide +kernel
theorem dL_law_669 : decode cL_law 669 = .ok (.aload_n 0, 1) := by decide +kernel
theorem dL_law_670 : decode cL_law 670 = .ok (.iload 4, 2) := by decide +kernel
theorem dL_law_672 : decode cL_law 672 = .ok (.iconst 1, 1) := by decide +kernel
theorem dL_law_673 : decode cL_law 673 = .ok (.iadd, 1) := by decide +kernel
theorem dL_law_674 : decode cL_law 674 = .ok (.iaload, 1) := by decide +kernel
theorem dL_law_675 : decode cL_law 675 = .ok (.invokevirtual 83, 3) := by decide +kernel
theorem dL_law_678 : decode cL_law 678 = .ok (.aload_n 2, 1) := by decide +kernel
theorem dL_law_679 : decode cL_law 679 = .ok (.aload_n 0, 1) := by decide +kernel
theorem dL_law_680 : decode cL_law 680 = .ok (.iload 4, 2) := by decide +kernel
theorem dL_law_682 : decode cL_law 682 = .ok (.iconst 1, 1) := by decide +kernel
theorem dL_law_683 : decode cL_law 683 = .ok (.iadd, 1) := by decide +kernel
theorem dL_law_684 : decode cL_law 684 = .ok (.iaload, 1) := by decide +kernel
theorem dL_law_685 : decode cL_law 685 = .ok (.invokevirtual 86, 3) := by decide +kernel
theorem dL_law_688 : decode cL_law 688 = .ok (.if_icmp .eq 563, 3) := by decide +kernel
theorem dL_law_691 : decode cL_law 691 = .ok (.iconst 0, 1) := by decide +kernel
theorem dL_law_692 : decode cL_law 692 = .ok (.ireturn, 1) := by decide +kernel
theorem dL_law_693 : decode cL_law 693 = .ok (.aload_n 1, 1) := by decide +kernel
theorem dL_law_694 : decode cL_law 694 = .ok (.invokevirtual 87, 3) := by decide +kernel
theorem dL_law_697 : decode cL_law 697 = .ok (.aload_n 2, 1) := by decide +kernel
theorem dL_law_698 : decode cL_law 698 = .ok (.invokevirtual 90, 3) := by decide +kernel
theorem dL_law_701 : decode cL_law 701 = .ok (.if_icmp .eq 550, 3) := by decide +kernel
theorem dL_law_704 : decode cL_law 704 = .ok (.iconst 0, 1) := by decide +kernel
theorem dL_law_705 : decode cL_law 705 = .ok (.ireturn, 1) := by decide +kernel
theorem dL_law_706 : decode cL_law 706 = .ok (.aload_n 1, 1) := by decide +kernel
theorem dL_law_707 : decode cL_law 707 = .ok (.aload_n 0, 1) := by decide +kernel
theorem dL_law_708 : decode cL_law 708 = .ok (.iload 4, 2) := by decide +kernel
theorem dL_law_710 : decode cL_law 710 = .ok (.iconst 1, 1) := by decide +kernel
theorem dL_law_711 : decode cL_law 711 = .ok (.iadd, 1) := by decide +kernel
theorem dL_law_712 : decode cL_law 712 = .ok (.iaload, 1) := by decide +kernel
theorem dL_law_713 : decode cL_law 713 = .ok (.invokevirtual 91, 3) := by decide +kernel
theorem dL_law_716 : decode cL_law 716 = .ok (.aload_n 2, 1) := by decide +kernel
theorem dL_law_717 : decode cL_law 717 = .ok (.aload_n 0, 1) := by decide +kernel
theorem dL_law_718 : decode cL_law 718 = .ok (.iload 4, 2) := by decide +kernel
theorem dL_law_720 : decode cL_law 720 = .ok (.iconst 1, 1) := by decide +kernel
theorem dL_law_721 : decode cL_law 721 = .ok (.iadd, 1) := by decide +kernel
theorem dL_law_722 : decode cL_law 722 = .ok (.iaload, 1) := by decide +kernel
theorem dL_law_723 : decode cL_law 723 = .ok (.invokevirtual 94, 3) := by decide +kernel
theorem dL_law_726 : decode cL_law 726 = .ok (.if_icmp .eq 525, 3) := by decide +kernel
theorem dL_law_729 : decode cL_law 729 = .ok (.iconst 0, 1) := by decide +kernel
theorem dL_law_730 : decode cL_law 730 = .ok (.ireturn, 1) := by decide +kernel
theorem dL_law_731 : decode cL_law 731 = .ok (.aload_n 1, 1) := by decide +kernel
theorem dL_law_732 : decode cL_law 732 = .ok (.aload_n 0, 1) := by decide +kernel
theorem dL_law_733 : decode cL_law 733 = .ok (.iload 4, 2) := by decide +kernel
theorem dL_law_735 : decode cL_law 735 = .ok (.iconst 1, 1) := by decide +kernel
theorem dL_law_736 : decode cL_law 736 = .ok (.iadd, 1) := by decide +kernel
theorem dL_law_737 : decode cL_law 737 = .ok (.iaload, 1) := by decide +kernel
theorem dL_law_738 : decode cL_law 738 = .ok (.invokevirtual 95, 3) := by decide +kernel
theorem dL_law_741 : decode cL_law 741 = .ok (.aload_n 2, 1) := by decide +kernel
theorem dL_law_742 : decode cL_law 742 = .ok (.aload_n 0, 1) := by decide +kernel
theorem dL_law_743 : decode cL_law 743 = .ok (.iload 4, 2) := by decide +kernel
theorem dL_law_745 : decode cL_law 745 = .ok (.iconst 1, 1) := by decide +kernel
theorem dL_law_746 : decode cL_law 746 = .ok (.iadd, 1) := by decide +kernel
theorem dL_law_747 : decode cL_law 747 = .ok (.iaload, 1) := by decide +kernel
theorem dL_law_748 : decode cL_law 748 = .ok (.invokevirtual 98, 3) := by decide +kernel
theorem dL_law_751 : decode cL_law 751 = .ok (.if_icmp .eq 500, 3) := by decide +kernel
theorem dL_law_754 : decode cL_law 754 = .ok (.iconst 0, 1) := by decide +kernel
theorem dL_law_755 : decode cL_law 755 = .ok (.ireturn, 1) := by decide +kernel
theorem dL_law_756 : decode cL_law 756 = .ok (.aload_n 1, 1) := by decide +kernel
theorem dL_law_757 : decode cL_law 757 = .ok (.aload_n 0, 1) := by decide +kernel
theorem dL_law_758 : decode cL_law 758 = .ok (.iload 4, 2) := by decide +kernel
theorem dL_law_760 : decode cL_law 760 = .ok (.iconst 1, 1) := by decide +kernel
theorem dL_law_761 : decode cL_law 761 = .ok (.iadd, 1) := by decide +kernel
theorem dL_law_762 : decode cL_law 762 = .ok (.iaload, 1) := by decide +kernel
theorem dL_law_763 : decode cL_law 763 = .ok (.invokevirtual 99, 3) := by decide +kernel
theorem dL_law_766 : decode cL_law 766 = .ok (.aload_n 2, 1) := by decide +kernel
theorem dL_law_767 : decode cL_law 767 = .ok (.aload_n 0, 1) := by decide +kernel
theorem dL_law_768 : decode cL_law 768 = .ok (.iload 4, 2) := by decide +kernel
theorem dL_law_770 : decode cL_law 770 = .ok (.iconst 1, 1) := by decide +kernel
theorem dL_law_771 : decode cL_law 771 = .ok (.iadd, 1) := by decide +kernel
theorem dL_law_772 : decode cL_law 772 = .ok (.iaload, 1) := by decide +kernel
theorem dL_law_773 : decode cL_law 773 = .ok (.invokevirtual 102, 3) := by decide +kernel
theorem dL_law_776 : decode cL_law 776 = .ok (.if_icmp .eq 475, 3) := by decide +kernel
theorem dL_law_779 : decode cL_law 779 = .ok (.iconst 0, 1) := by decide +kernel
theorem dL_law_780 : decode cL_law 780 = .ok (.ireturn, 1) := by decide +kernel
theorem dL_law_781 : decode cL_law 781 = .ok (.aload_n 1, 1) := by decide +kernel
theorem dL_law_782 : decode cL_law 782 = .ok (.invokevirtual 103, 3) := by decide +kernel
theorem dL_law_785 : decode cL_law 785 = .ok (.aload_n 2, 1) := by decide +kernel
theorem dL_law_786 : decode cL_law 786 = .ok (.invokevirtual 106, 3) := by decide +kernel
theorem dL_law_789 : decode cL_law 789 = .ok (.if_icmp .eq 462, 3) := by decide +kernel
theorem dL_law_792 : decode cL_law 792 = .ok (.iconst 0, 1) := by decide +kernel
theorem dL_law_793 : decode cL_law 793 = .ok (.ireturn, 1) := by decide +kernel
theorem dL_law_794 : decode cL_law 794 = .ok (.aload_n 1, 1) := by decide +kernel
theorem dL_law_795 : decode cL_law 795 = .ok (.invokevirtual 107, 3) := by decide +kernel
theorem dL_law_798 : decode cL_law 798 = .ok (.aload_n 2, 1) := by decide +kernel
theorem dL_law_799 : decode cL_law 799 = .ok (.invokevirtual 110, 3) := by decide +kernel
theorem dL_law_802 : decode cL_law 802 = .ok (.if_icmp .eq 449, 3) := by decide +kernel
theorem dL_law_805 : decode cL_law 805 = .ok (.iconst 0, 1) := by decide +kernel
theorem dL_law_806 : decode cL_law 806 = .ok (.ireturn, 1) := by decide +kernel
theorem dL_law_807 : decode cL_law 807 = .ok (.aload_n 1, 1) := by decide +kernel
theorem dL_law_808 : decode cL_law 808 = .ok (.invokevirtual 111, 3) := by decide +kernel
theorem dL_law_811 : decode cL_law 811 = .ok (.aload_n 2, 1) := by decide +kernel
theorem dL_law_812 : decode cL_law 812 = .ok (.invokevirtual 114, 3) := by decide +kernel
theorem dL_law_815 : decode cL_law 815 = .ok (.if_icmp .eq 436, 3) := by decide +kernel
theorem dL_law_818 : decode cL_law 818 = .ok (.iconst 0, 1) := by decide +kernel
theorem dL_law_819 : decode cL_law 819 = .ok (.ireturn, 1) := by decide +kernel
theorem dL_law_820 : decode cL_law 820 = .ok (.aload_n 1, 1) := by decide +kernel
theorem dL_law_821 : decode cL_law 821 = .ok (.invokevirtual 115, 3) := by decide +kernel
theorem dL_law_824 : decode cL_law 824 = .ok (.aload_n 2, 1) := by decide +kernel
theorem dL_law_825 : decode cL_law 825 = .ok (.invokevirtual 118, 3) := by decide +kernel
theorem dL_law_828 : decode cL_law 828 = .ok (.if_icmp .eq 423, 3) := by decide +kernel
theorem dL_law_831 : decode cL_law 831 = .ok (.iconst 0, 1) := by decide +kernel
theorem dL_law_832 : decode cL_law 832 = .ok (.ireturn, 1) := by decide +kernel
theorem dL_law_833 : decode cL_law 833 = .ok (.aload_n 1, 1) := by decide +kernel
theorem dL_law_834 : decode cL_law 834 = .ok (.invokevirtual 119, 3) := by decide +kernel
theorem dL_law_837 : decode cL_law 837 = .ok (.aload_n 2, 1) := by decide +kernel
theorem dL_law_838 : decode cL_law 838 = .ok (.invokevirtual 122, 3) := by decide +kernel
theorem dL_law_841 : decode cL_law 841 = .ok (.if_icmp .eq 410, 3) := by decide +kernel
theorem dL_law_844 : decode cL_law 844 = .ok (.iconst 0, 1) := by decide +kernel
theorem dL_law_845 : decode cL_law 845 = .ok (.ireturn, 1) := by decide +kernel
theorem dL_law_846 : decode cL_law 846 = .ok (.aload_n 1, 1) := by decide +kernel
theorem dL_law_847 : decode cL_law 847 = .ok (.aload_n 0, 1) := by decide +kernel
theorem dL_law_848 : decode cL_law 848 = .ok (.iload 4, 2) := by decide +kernel
theorem dL_law_850 : decode cL_law 850 = .ok (.iconst 1, 1) := by decide +kernel
theorem dL_law_851 : decode cL_law 851 = .ok (.iadd, 1) := by decide +kernel
theorem dL_law_852 : decode cL_law 852 = .ok (.iaload, 1) := by decide +kernel
theorem dL_law_853 : decode cL_law 853 = .ok (.invokevirtual 123, 3) := by decide +kernel
theorem dL_law_856 : decode cL_law 856 = .ok (.aload_n 2, 1) := by decide +kernel
theorem dL_law_857 : decode cL_law 857 = .ok (.aload_n 0, 1) := by decide +kernel
theorem dL_law_858 : decode cL_law 858 = .ok (.iload 4, 2) := by decide +kernel
theorem dL_law_860 : decode cL_law 860 = .ok (.iconst 1, 1) := by decide +kernel
theorem dL_law_861 : decode cL_law 861 = .ok (.iadd, 1) := by decide +kernel
theorem dL_law_862 : decode cL_law 862 = .ok (.iaload, 1) := by decide +kernel
theorem dL_law_863 : decode cL_law 863 = .ok (.invokevirtual 126, 3) := by decide +kernel
theorem dL_law_866 : decode cL_law 866 = .ok (.if_icmp .eq 385, 3) := by decide +kernel
theorem dL_law_869 : decode cL_law 869 = .ok (.iconst 0, 1) := by decide +kernel
theorem dL_law_870 : decode cL_law 870 = .ok (.ireturn, 1) := by decide +kernel
theorem dL_law_871 : decode cL_law 871 = .ok (.aload_n 1, 1) := by decide +kernel
theorem dL_law_872 : decode cL_law 872 = .ok (.invokevirtual 127, 3) := by decide +kernel
theorem dL_law_875 : decode cL_law 875 = .ok (.aload_n 2, 1) := by decide +kernel
theorem dL_law_876 : decode cL_law 876 = .ok (.invokevirtual 130, 3) := by decide +kernel
theorem dL_law_879 : decode cL_law 879 = .ok (.if_icmp .eq 372, 3) := by decide +kernel
theorem dL_law_882 : decode cL_law 882 = .ok (.iconst 0, 1) := by decide +kernel
theorem dL_law_883 : decode cL_law 883 = .ok (.ireturn, 1) := by decide +kernel
theorem dL_law_884 : decode cL_law 884 = .ok (.aload_n 1, 1) := by decide +kernel
theorem dL_law_885 : decode cL_law 885 = .ok (.aload_n 0, 1) := by decide +kernel
theorem dL_law_886 : decode cL_law 886 = .ok (.iload 4, 2) := by decide +kernel
theorem dL_law_888 : decode cL_law 888 = .ok (.iconst 1, 1) := by decide +kernel
theorem dL_law_889 : decode cL_law 889 = .ok (.iadd, 1) := by decide +kernel
theorem dL_law_890 : decode cL_law 890 = .ok (.iaload, 1) := by decide +kernel
theorem dL_law_891 : decode cL_law 891 = .ok (.aload_n 0, 1) := by decide +kernel
theorem dL_law_892 : decode cL_law 892 = .ok (.iload 4, 2) := by decide +kernel
theorem dL_law_894 : decode cL_law 894 = .ok (.iconst 2, 1) := by decide +kernel
theorem dL_law_895 : decode cL_law 895 = .ok (.iadd, 1) := by decide +kernel
theorem dL_law_896 : decode cL_law 896 = .ok (.iaload, 1) := by decide +kernel
theorem dL_law_897 : decode cL_law 897 = .ok (.aload_n 3, 1) := by decide +kernel
theorem dL_law_898 : decode cL_law 898 = .ok (.invokestatic 131, 3) := by decide +kernel
theorem dL_law_901 : decode cL_law 901 = .ok (.istore 5, 2) := by decide +kernel
theorem dL_law_903 : decode cL_law 903 = .ok (.aload_n 2, 1) := by decide +kernel
theorem dL_law_904 : decode cL_law 904 = .ok (.aload_n 0, 1) := by decide +kernel
theorem dL_law_905 : decode cL_law 905 = .ok (.iload 4, 2) := by decide +kernel
theorem dL_law_907 : decode cL_law 907 = .ok (.iconst 1, 1) := by decide +kernel
theorem dL_law_908 : decode cL_law 908 = .ok (.iadd, 1) := by decide +kernel
theorem dL_law_909 : decode cL_law 909 = .ok (.iaload, 1) := by decide +kernel
theorem dL_law_910 : decode cL_law 910 = .ok (.aload_n 0, 1) := by decide +kernel
theorem dL_law_911 : decode cL_law 911 = .ok (.iload 4, 2) := by decide +kernel
theorem dL_law_913 : decode cL_law 913 = .ok (.iconst 2, 1) := by decide +kernel
theorem dL_law_914 : decode cL_law 914 = .ok (.iadd, 1) := by decide +kernel
theorem dL_law_915 : decode cL_law 915 = .ok (.iaload, 1) := by decide +kernel
theorem dL_law_916 : decode cL_law 916 = .ok (.invokevirtual 133, 3) := by decide +kernel
theorem dL_law_919 : decode cL_law 919 = .ok (.istore 6, 2) := by decide +kernel
theorem dL_law_921 : decode cL_law 921 = .ok (.aload_n 2, 1) := by decide +kernel
theorem dL_law_922 : decode cL_law 922 = .ok (.invokevirtual 47, 3) := by decide +kernel
theorem dL_law_925 : decode cL_law 925 = .ok (.iload 5, 2) := by decide +kernel
theorem dL_law_927 : decode cL_law 927 = .ok (.if_icmp .eq 5, 3) := by decide +kernel
theorem dL_law_930 : decode cL_law 930 = .ok (.iconst 0, 1) := by decide +kernel
theorem dL_law_931 : decode cL_law 931 = .ok (.ireturn, 1) := by decide +kernel
theorem dL_law_932 : decode cL_law 932 = .ok (.iload 5, 2) := by decide +kernel
theorem dL_law_934 : decode cL_law 934 = .ok (.ifCond .ne 15, 3) := by decide +kernel
theorem dL_law_937 : decode cL_law 937 = .ok (.aload_n 3, 1) := by decide +kernel
theorem dL_law_938 : decode cL_law 938 = .ok (.iconst 0, 1) := by decide +kernel
theorem dL_law_939 : decode cL_law 939 = .ok (.laload, 1) := by decide +kernel
theorem dL_law_940 : decode cL_law 940 = .ok (.iload 6, 2) := by decide +kernel
theorem dL_law_942 : decode cL_law 942 = .ok (.i2l, 1) := by decide +kernel
theorem dL_law_943 : decode cL_law 943 = .ok (.lcmp, 1) := by decide +kernel
theorem dL_law_944 : decode cL_law 944 = .ok (.ifCond .eq 5, 3) := by decide +kernel
theorem dL_law_947 : decode cL_law 947 = .ok (.iconst 0, 1) := by decide +kernel
theorem dL_law_948 : decode cL_law 948 = .ok (.ireturn, 1) := by decide +kernel
theorem dL_law_949 : decode cL_law 949 = .ok (.goto 302, 3) := by decide +kernel
theorem dL_law_952 : decode cL_law 952 = .ok (.aload_n 1, 1) := by decide +kernel
theorem dL_law_953 : decode cL_law 953 = .ok (.aload_n 0, 1) := by decide +kernel
theorem dL_law_954 : decode cL_law 954 = .ok (.iload 4, 2) := by decide +kernel
theorem dL_law_956 : decode cL_law 956 = .ok (.iconst 1, 1) := by decide +kernel
theorem dL_law_957 : decode cL_law 957 = .ok (.iadd, 1) := by decide +kernel
theorem dL_law_958 : decode cL_law 958 = .ok (.iaload, 1) := by decide +kernel
theorem dL_law_959 : decode cL_law 959 = .ok (.invokevirtual 134, 3) := by decide +kernel
theorem dL_law_962 : decode cL_law 962 = .ok (.aload_n 2, 1) := by decide +kernel
theorem dL_law_963 : decode cL_law 963 = .ok (.aload_n 0, 1) := by decide +kernel
theorem dL_law_964 : decode cL_law 964 = .ok (.iload 4, 2) := by decide +kernel
theorem dL_law_966 : decode cL_law 966 = .ok (.iconst 1, 1) := by decide +kernel
theorem dL_law_967 : decode cL_law 967 = .ok (.iadd, 1) := by decide +kernel
theorem dL_law_968 : decode cL_law 968 = .ok (.iaload, 1) := by decide +kernel
theorem dL_law_969 : decode cL_law 969 = .ok (.invokevirtual 137, 3) := by decide +kernel
theorem dL_law_972 : decode cL_law 972 = .ok (.if_icmp .eq 279, 3) := by decide +kernel
theorem dL_law_975 : decode cL_law 975 = .ok (.iconst 0, 1) := by decide +kernel
theorem dL_law_976 : decode cL_law 976 = .ok (.ireturn, 1) := by decide +kernel
theorem dL_law_977 : decode cL_law 977 = .ok (.aload_n 1, 1) := by decide +kernel
theorem dL_law_978 : decode cL_law 978 = .ok (.aload_n 0, 1) := by decide +kernel
theorem dL_law_979 : decode cL_law 979 = .ok (.iload 4, 2) := by decide +kernel
theorem dL_law_981 : decode cL_law 981 = .ok (.iconst 1, 1) := by decide +kernel
theorem dL_law_982 : decode cL_law 982 = .ok (.iadd, 1) := by decide +kernel
theorem dL_law_983 : decode cL_law 983 = .ok (.iaload, 1) := by decide +kernel
theorem dL_law_984 : decode cL_law 984 = .ok (.invokevirtual 138, 3) := by decide +kernel
theorem dL_law_987 : decode cL_law 987 = .ok (.aload_n 2, 1) := by decide +kernel
theorem dL_law_988 : decode cL_law 988 = .ok (.aload_n 0, 1) := by decide +kernel
theorem dL_law_989 : decode cL_law 989 = .ok (.iload 4, 2) := by decide +kernel
theorem dL_law_991 : decode cL_law 991 = .ok (.iconst 1, 1) := by decide +kernel
theorem dL_law_992 : decode cL_law 992 = .ok (.iadd, 1) := by decide +kernel
theorem dL_law_993 : decode cL_law 993 = .ok (.iaload, 1) := by decide +kernel
theorem dL_law_994 : decode cL_law 994 = .ok (.invokevirtual 141, 3) := by decide +kernel
theorem dL_law_997 : decode cL_law 997 = .ok (.if_icmp .eq 254, 3) := by decide +kernel
theorem dL_law_1000 : decode cL_law 1000 = .ok (.iconst 0, 1) := by decide +kernel
theorem dL_law_1001 : decode cL_law 1001 = .ok (.ireturn, 1) := by decide +kernel
theorem dL_law_1002 : decode cL_law 1002 = .ok (.aload_n 1, 1) := by decide +kernel
theorem dL_law_1003 : decode cL_law 1003 = .ok (.aload_n 0, 1) := by decide +kernel
theorem dL_law_1004 : decode cL_law 1004 = .ok (.iload 4, 2) := by decide +kernel
theorem dL_law_1006 : decode cL_law 1006 = .ok (.iconst 1, 1) := by decide +kernel
theorem dL_law_1007 : decode cL_law 1007 = .ok (.iadd, 1) := by decide +kernel
theorem dL_law_1008 : decode cL_law 1008 = .ok (.iaload, 1) := by decide +kernel
theorem dL_law_1009 : decode cL_law 1009 = .ok (.aload_n 0, 1) := by decide +kernel
theorem dL_law_1010 : decode cL_law 1010 = .ok (.iload 4, 2) := by decide +kernel
theorem dL_law_1012 : decode cL_law 1012 = .ok (.iconst 2, 1) := by decide +kernel
theorem dL_law_1013 : decode cL_law 1013 = .ok (.iadd, 1) := by decide +kernel
theorem dL_law_1014 : decode cL_law 1014 = .ok (.iaload, 1) := by decide +kernel
theorem dL_law_1015 : decode cL_law 1015 = .ok (.invokevirtual 142, 3) := by decide +kernel
theorem dL_law_1018 : decode cL_law 1018 = .ok (.aload_n 2, 1) := by decide +kernel
theorem dL_law_1019 : decode cL_law 1019 = .ok (.aload_n 0, 1) := by decide +kernel
theorem dL_law_1020 : decode cL_law 1020 = .ok (.iload 4, 2) := by decide +kernel
theorem dL_law_1022 : decode cL_law 1022 = .ok (.iconst 1, 1) := by decide +kernel
theorem dL_law_1023 : decode cL_law 1023 = .ok (.iadd, 1) := by decide +kernel
theorem dL_law_1024 : decode cL_law 1024 = .ok (.iaload, 1) := by decide +kernel
theorem dL_law_1025 : decode cL_law 1025 = .ok (.aload_n 0, 1) := by decide +kernel
theorem dL_law_1026 : decode cL_law 1026 = .ok (.iload 4, 2) := by decide +kernel
theorem dL_law_1028 : decode cL_law 1028 = .ok (.iconst 2, 1) := by decide +kernel
theorem dL_law_1029 : decode cL_law 1029 = .ok (.iadd, 1) := by decide +kernel
theorem dL_law_1030 : decode cL_law 1030 = .ok (.iaload, 1) := by decide +kernel
theorem dL_law_1031 : decode cL_law 1031 = .ok (.invokevirtual 145, 3) := by decide +kernel
theorem dL_law_1034 : decode cL_law 1034 = .ok (.if_icmp .eq 217, 3) := by decide +kernel
theorem dL_law_1037 : decode cL_law 1037 = .ok (.iconst 0, 1) := by decide +kernel
theorem dL_law_1038 : decode cL_law 1038 = .ok (.ireturn, 1) := by decide +kernel
theorem dL_law_1039 : decode cL_law 1039 = .ok (.aload_n 1, 1) := by decide +kernel
theorem dL_law_1040 : decode cL_law 1040 = .ok (.aload_n 0, 1) := by decide +kernel
theorem dL_law_1041 : decode cL_law 1041 = .ok (.iload 4, 2) := by decide +kernel
theorem dL_law_1043 : decode cL_law 1043 = .ok (.iconst 1, 1) := by decide +kernel
theorem dL_law_1044 : decode cL_law 1044 = .ok (.iadd, 1) := by decide +kernel
theorem dL_law_1045 : decode cL_law 1045 = .ok (.iaload, 1) := by decide +kernel
theorem dL_law_1046 : decode cL_law 1046 = .ok (.aload_n 0, 1) := by decide +kernel
theorem dL_law_1047 : decode cL_law 1047 = .ok (.iload 4, 2) := by decide +kernel
theorem dL_law_1049 : decode cL_law 1049 = .ok (.iconst 2, 1) := by decide +kernel
theorem dL_law_1050 : decode cL_law 1050 = .ok (.iadd, 1) := by decide +kernel
theorem dL_law_1051 : decode cL_law 1051 = .ok (.iaload, 1) := by decide +kernel
theorem dL_law_1052 : decode cL_law 1052 = .ok (.aload_n 0, 1) := by decide +kernel
theorem dL_law_1053 : decode cL_law 1053 = .ok (.iload 4, 2) := by decide +kernel
theorem dL_law_1055 : decode cL_law 1055 = .ok (.iconst 3, 1) := by decide +kernel
theorem dL_law_1056 : decode cL_law 1056 = .ok (.iadd, 1) := by decide +kernel
theorem dL_law_1057 : decode cL_law 1057 = .ok (.iaload, 1) := by decide +kernel
theorem dL_law_1058 : decode cL_law 1058 = .ok (.invokevirtual 146, 3) := by decide +kernel
theorem dL_law_1061 : decode cL_law 1061 = .ok (.aload_n 2, 1) := by decide +kernel
theorem dL_law_1062 : decode cL_law 1062 = .ok (.aload_n 0, 1) := by decide +kernel
theorem dL_law_1063 : decode cL_law 1063 = .ok (.iload 4, 2) := by decide +kernel
theorem dL_law_1065 : decode cL_law 1065 = .ok (.iconst 1, 1) := by decide +kernel
theorem dL_law_1066 : decode cL_law 1066 = .ok (.iadd, 1) := by decide +kernel
theorem dL_law_1067 : decode cL_law 1067 = .ok (.iaload, 1) := by decide +kernel
theorem dL_law_1068 : decode cL_law 1068 = .ok (.aload_n 0, 1) := by decide +kernel
theorem dL_law_1069 : decode cL_law 1069 = .ok (.iload 4, 2) := by decide +kernel
theorem dL_law_1071 : decode cL_law 1071 = .ok (.iconst 2, 1) := by decide +kernel
theorem dL_law_1072 : decode cL_law 1072 = .ok (.iadd, 1) := by decide +kernel
theorem dL_law_1073 : decode cL_law 1073 = .ok (.iaload, 1) := by decide +kernel
theorem dL_law_1074 : decode cL_law 1074 = .ok (.aload_n 0, 1) := by decide +kernel
theorem dL_law_1075 : decode cL_law 1075 = .ok (.iload 4, 2) := by decide +kernel
theorem dL_law_1077 : decode cL_law 1077 = .ok (.iconst 3, 1) := by decide +kernel
theorem dL_law_1078 : decode cL_law 1078 = .ok (.iadd, 1) := by decide +kernel
theorem dL_law_1079 : decode cL_law 1079 = .ok (.iaload, 1) := by decide +kernel
theorem dL_law_1080 : decode cL_law 1080 = .ok (.invokevirtual 150, 3) := by decide +kernel
theorem dL_law_1083 : decode cL_law 1083 = .ok (.if_icmp .eq 168, 3) := by decide +kernel
theorem dL_law_1086 : decode cL_law 1086 = .ok (.iconst 0, 1) := by decide +kernel
theorem dL_law_1087 : decode cL_law 1087 = .ok (.ireturn, 1) := by decide +kernel
theorem dL_law_1088 : decode cL_law 1088 = .ok (.aload_n 1, 1) := by decide +kernel
theorem dL_law_1089 : decode cL_law 1089 = .ok (.aload_n 0, 1) := by decide +kernel
theorem dL_law_1090 : decode cL_law 1090 = .ok (.iload 4, 2) := by decide +kernel
theorem dL_law_1092 : decode cL_law 1092 = .ok (.iconst 1, 1) := by decide +kernel
theorem dL_law_1093 : decode cL_law 1093 = .ok (.iadd, 1) := by decide +kernel
theorem dL_law_1094 : decode cL_law 1094 = .ok (.iaload, 1) := by decide +kernel
theorem dL_law_1095 : decode cL_law 1095 = .ok (.invokevirtual 151, 3) := by decide +kernel
theorem dL_law_1098 : decode cL_law 1098 = .ok (.aload_n 2, 1) := by decide +kernel
theorem dL_law_1099 : decode cL_law 1099 = .ok (.aload_n 0, 1) := by decide +kernel
theorem dL_law_1100 : decode cL_law 1100 = .ok (.iload 4, 2) := by decide +kernel
theorem dL_law_1102 : decode cL_law 1102 = .ok (.iconst 1, 1) := by decide +kernel
theorem dL_law_1103 : decode cL_law 1103 = .ok (.iadd, 1) := by decide +kernel
theorem dL_law_1104 : decode cL_law 1104 = .ok (.iaload, 1) := by decide +kernel
theorem dL_law_1105 : decode cL_law 1105 = .ok (.invokevirtual 154, 3) := by decide +kernel
theorem dL_law_1108 : decode cL_law 1108 = .ok (.if_icmp .eq 143, 3) := by decide +kernel
theorem dL_law_1111 : decode cL_law 1111 = .ok (.iconst 0, 1) := by decide +kernel
theorem dL_law_1112 : decode cL_law 1112 = .ok (.ireturn, 1) := by decide +kernel
theorem dL_law_1113 : decode cL_law 1113 = .ok (.aload_n 1, 1) := by decide +kernel
theorem dL_law_1114 : decode cL_law 1114 = .ok (.aload_n 0, 1) := by decide +kernel
theorem dL_law_1115 : decode cL_law 1115 = .ok (.iload 4, 2) := by decide +kernel
theorem dL_law_1117 : decode cL_law 1117 = .ok (.iconst 1, 1) := by decide +kernel
theorem dL_law_1118 : decode cL_law 1118 = .ok (.iadd, 1) := by decide +kernel
theorem dL_law_1119 : decode cL_law 1119 = .ok (.iaload, 1) := by decide +kernel
theorem dL_law_1120 : decode cL_law 1120 = .ok (.invokevirtual 155, 3) := by decide +kernel
theorem dL_law_1123 : decode cL_law 1123 = .ok (.aload_n 2, 1) := by decide +kernel
theorem dL_law_1124 : decode cL_law 1124 = .ok (.aload_n 0, 1) := by decide +kernel
theorem dL_law_1125 : decode cL_law 1125 = .ok (.iload 4, 2) := by decide +kernel
theorem dL_law_1127 : decode cL_law 1127 = .ok (.iconst 1, 1) := by decide +kernel
theorem dL_law_1128 : decode cL_law 1128 = .ok (.iadd, 1) := by decide +kernel
theorem dL_law_1129 : decode cL_law 1129 = .ok (.iaload, 1) := by decide +kernel
theorem dL_law_1130 : decode cL_law 1130 = .ok (.invokevirtual 158, 3) := by decide +kernel
theorem dL_law_1133 : decode cL_law 1133 = .ok (.if_icmp .eq 118, 3) := by decide +kernel
theorem dL_law_1136 : decode cL_law 1136 = .ok (.iconst 0, 1) := by decide +kernel
theorem dL_law_1137 : decode cL_law 1137 = .ok (.ireturn, 1) := by decide +kernel
theorem dL_law_1138 : decode cL_law 1138 = .ok (.aload_n 1, 1) := by decide +kernel
theorem dL_law_1139 : decode cL_law 1139 = .ok (.invokevirtual 159, 3) := by decide +kernel
theorem dL_law_1142 : decode cL_law 1142 = .ok (.aload_n 2, 1) := by decide +kernel
theorem dL_law_1143 : decode cL_law 1143 = .ok (.invokevirtual 162, 3) := by decide +kernel
theorem dL_law_1146 : decode cL_law 1146 = .ok (.if_icmp .eq 105, 3) := by decide +kernel
theorem dL_law_1149 : decode cL_law 1149 = .ok (.iconst 0, 1) := by decide +kernel
theorem dL_law_1150 : decode cL_law 1150 = .ok (.ireturn, 1) := by decide +kernel
theorem dL_law_1151 : decode cL_law 1151 = .ok (.aload_n 1, 1) := by decide +kernel
theorem dL_law_1152 : decode cL_law 1152 = .ok (.aload_n 0, 1) := by decide +kernel
theorem dL_law_1153 : decode cL_law 1153 = .ok (.iload 4, 2) := by decide +kernel
theorem dL_law_1155 : decode cL_law 1155 = .ok (.iconst 1, 1) := by decide +kernel
theorem dL_law_1156 : decode cL_law 1156 = .ok (.iadd, 1) := by decide +kernel
theorem dL_law_1157 : decode cL_law 1157 = .ok (.iaload, 1) := by decide +kernel
theorem dL_law_1158 : decode cL_law 1158 = .ok (.invokevirtual 163, 3) := by decide +kernel
theorem dL_law_1161 : decode cL_law 1161 = .ok (.aload_n 2, 1) := by decide +kernel
theorem dL_law_1162 : decode cL_law 1162 = .ok (.aload_n 0, 1) := by decide +kernel
theorem dL_law_1163 : decode cL_law 1163 = .ok (.iload 4, 2) := by decide +kernel
theorem dL_law_1165 : decode cL_law 1165 = .ok (.iconst 1, 1) := by decide +kernel
theorem dL_law_1166 : decode cL_law 1166 = .ok (.iadd, 1) := by decide +kernel
theorem dL_law_1167 : decode cL_law 1167 = .ok (.iaload, 1) := by decide +kernel
theorem dL_law_1168 : decode cL_law 1168 = .ok (.invokevirtual 166, 3) := by decide +kernel
theorem dL_law_1171 : decode cL_law 1171 = .ok (.if_icmp .eq 80, 3) := by decide +kernel
theorem dL_law_1174 : decode cL_law 1174 = .ok (.iconst 0, 1) := by decide +kernel
theorem dL_law_1175 : decode cL_law 1175 = .ok (.ireturn, 1) := by decide +kernel
theorem dL_law_1176 : decode cL_law 1176 = .ok (.aload_n 1, 1) := by decide +kernel
theorem dL_law_1177 : decode cL_law 1177 = .ok (.aload_n 0, 1) := by decide +kernel
theorem dL_law_1178 : decode cL_law 1178 = .ok (.iload 4, 2) := by decide +kernel
theorem dL_law_1180 : decode cL_law 1180 = .ok (.iconst 1, 1) := by decide +kernel
theorem dL_law_1181 : decode cL_law 1181 = .ok (.iadd, 1) := by decide +kernel
theorem dL_law_1182 : decode cL_law 1182 = .ok (.iaload, 1) := by decide +kernel
theorem dL_law_1183 : decode cL_law 1183 = .ok (.invokevirtual 167, 3) := by decide +kernel
theorem dL_law_1186 : decode cL_law 1186 = .ok (.aload_n 2, 1) := by decide +kernel
theorem dL_law_1187 : decode cL_law 1187 = .ok (.aload_n 0, 1) := by decide +kernel
theorem dL_law_1188 : decode cL_law 1188 = .ok (.iload 4, 2) := by decide +kernel
theorem dL_law_1190 : decode cL_law 1190 = .ok (.iconst 1, 1) := by decide +kernel
theorem dL_law_1191 : decode cL_law 1191 = .ok (.iadd, 1) := by decide +kernel
theorem dL_law_1192 : decode cL_law 1192 = .ok (.iaload, 1) := by decide +kernel
theorem dL_law_1193 : decode cL_law 1193 = .ok (.invokevirtual 170, 3) := by decide +kernel
theorem dL_law_1196 : decode cL_law 1196 = .ok (.if_icmp .eq 55, 3) := by decide +kernel
theorem dL_law_1199 : decode cL_law 1199 = .ok (.iconst 0, 1) := by decide +kernel
theorem dL_law_1200 : decode cL_law 1200 = .ok (.ireturn, 1) := by decide +kernel
theorem dL_law_1201 : decode cL_law 1201 = .ok (.aload_n 1, 1) := by decide +kernel
theorem dL_law_1202 : decode cL_law 1202 = .ok (.aload_n 0, 1) := by decide +kernel
theorem dL_law_1203 : decode cL_law 1203 = .ok (.iload 4, 2) := by decide +kernel
theorem dL_law_1205 : decode cL_law 1205 = .ok (.iconst 1, 1) := by decide +kernel
theorem dL_law_1206 : decode cL_law 1206 = .ok (.iadd, 1) := by decide +kernel
theorem dL_law_1207 : decode cL_law 1207 = .ok (.iaload, 1) := by decide +kernel
theorem dL_law_1208 : decode cL_law 1208 = .ok (.invokevirtual 171, 3) := by decide +kernel
theorem dL_law_1211 : decode cL_law 1211 = .ok (.aload_n 2, 1) := by decide +kernel
theorem dL_law_1212 : decode cL_law 1212 = .ok (.aload_n 0, 1) := by decide +kernel
theorem dL_law_1213 : decode cL_law 1213 = .ok (.iload 4, 2) := by decide +kernel
theorem dL_law_1215 : decode cL_law 1215 = .ok (.iconst 1, 1) := by decide +kernel
theorem dL_law_1216 : decode cL_law 1216 = .ok (.iadd, 1) := by decide +kernel
theorem dL_law_1217 : decode cL_law 1217 = .ok (.iaload, 1) := by decide +kernel
theorem dL_law_1218 : decode cL_law 1218 = .ok (.invokevirtual 174, 3) := by decide +kernel
theorem dL_law_1221 : decode cL_law 1221 = .ok (.if_icmp .eq 30, 3) := by decide +kernel
theorem dL_law_1224 : decode cL_law 1224 = .ok (.iconst 0, 1) := by decide +kernel
theorem dL_law_1225 : decode cL_law 1225 = .ok (.ireturn, 1) := by decide +kernel
theorem dL_law_1226 : decode cL_law 1226 = .ok (.aload_n 1, 1) := by decide +kernel
theorem dL_law_1227 : decode cL_law 1227 = .ok (.aload_n 0, 1) := by decide +kernel
theorem dL_law_1228 : decode cL_law 1228 = .ok (.iload 4, 2) := by decide +kernel
theorem dL_law_1230 : decode cL_law 1230 = .ok (.iconst 1, 1) := by decide +kernel
theorem dL_law_1231 : decode cL_law 1231 = .ok (.iadd, 1) := by decide +kernel
theorem dL_law_1232 : decode cL_law 1232 = .ok (.iaload, 1) := by decide +kernel
theorem dL_law_1233 : decode cL_law 1233 = .ok (.invokevirtual 175, 3) := by decide +kernel
theorem dL_law_1236 : decode cL_law 1236 = .ok (.aload_n 2, 1) := by decide +kernel
theorem dL_law_1237 : decode cL_law 1237 = .ok (.aload_n 0, 1) := by decide +kernel
theorem dL_law_1238 : decode cL_law 1238 = .ok (.iload 4, 2) := by decide +kernel
theorem dL_law_1240 : decode cL_law 1240 = .ok (.iconst 1, 1) := by decide +kernel
theorem dL_law_1241 : decode cL_law 1241 = .ok (.iadd, 1) := by decide +kernel
theorem dL_law_1242 : decode cL_law 1242 = .ok (.iaload, 1) := by decide +kernel
theorem dL_law_1243 : decode cL_law 1243 = .ok (.invokevirtual 178, 3) := by decide +kernel
theorem dL_law_1246 : decode cL_law 1246 = .ok (.if_icmp .eq 5, 3) := by decide +kernel
theorem dL_law_1249 : decode cL_law 1249 = .ok (.iconst 0, 1) := by decide +kernel
theorem dL_law_1250 : decode cL_law 1250 = .ok (.ireturn, 1) := by decide +kernel
theorem dL_law_1251 : decode cL_law 1251 = .ok (.iinc 4 6, 3) := by decide +kernel
theorem dL_law_1254 : decode cL_law 1254 = .ok (.goto (-1231), 3) := by decide +kernel
theorem dL_law_1257 : decode cL_law 1257 = .ok (.iconst 1, 1) := by decide +kernel
theorem dL_law_1258 : decode cL_law 1258 = .ok (.ireturn, 1) := by decide +kernel
