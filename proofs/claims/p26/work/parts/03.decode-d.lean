theorem dL_lot_0 : decode cL_lot 0 = .ok (.iload_n 1, 1) := by decide +kernel
theorem dL_lot_1 : decode cL_lot 1 = .ok (.aload_n 0, 1) := by decide +kernel
theorem dL_lot_2 : decode cL_lot 2 = .ok (.arraylength, 1) := by decide +kernel
theorem dL_lot_3 : decode cL_lot 3 = .ok (.if_icmp .ge 9, 3) := by decide +kernel
theorem dL_lot_6 : decode cL_lot 6 = .ok (.aload_n 0, 1) := by decide +kernel
theorem dL_lot_7 : decode cL_lot 7 = .ok (.iload_n 1, 1) := by decide +kernel
theorem dL_lot_8 : decode cL_lot 8 = .ok (.iaload, 1) := by decide +kernel
theorem dL_lot_9 : decode cL_lot 9 = .ok (.goto 15, 3) := by decide +kernel
theorem dL_lot_12 : decode cL_lot 12 = .ok (.ldc 7, 2) := by decide +kernel
theorem dL_lot_14 : decode cL_lot 14 = .ok (.iload_n 1, 1) := by decide +kernel
theorem dL_lot_15 : decode cL_lot 15 = .ok (.sipush 2161, 3) := by decide +kernel
theorem dL_lot_18 : decode cL_lot 18 = .ok (.iadd, 1) := by decide +kernel
theorem dL_lot_19 : decode cL_lot 19 = .ok (.imul, 1) := by decide +kernel
theorem dL_lot_20 : decode cL_lot 20 = .ok (.sipush 1993, 3) := by decide +kernel
theorem dL_lot_23 : decode cL_lot 23 = .ok (.iadd, 1) := by decide +kernel
theorem dL_lot_24 : decode cL_lot 24 = .ok (.ireturn, 1) := by decide +kernel
theorem dL_low_0 : decode cL_low 0 = .ok (.iload_n 0, 1) := by decide +kernel
theorem dL_low_1 : decode cL_low 1 = .ok (.ldc 8, 2) := by decide +kernel
theorem dL_low_3 : decode cL_low 3 = .ok (.iand, 1) := by decide +kernel
theorem dL_low_4 : decode cL_low 4 = .ok (.iload_n 1, 1) := by decide +kernel
theorem dL_low_5 : decode cL_low 5 = .ok (.irem, 1) := by decide +kernel
theorem dL_low_6 : decode cL_low 6 = .ok (.ireturn, 1) := by decide +kernel
theorem dL_year_0 : decode cL_year 0 = .ok (.aload_n 0, 1) := by decide +kernel
theorem dL_year_1 : decode cL_year 1 = .ok (.iconst 0, 1) := by decide +kernel
theorem dL_year_2 : decode cL_year 2 = .ok (.invokevirtual 9, 3) := by decide +kernel
theorem dL_year_5 : decode cL_year 5 = .ok (.istore_n 1, 1) := by decide +kernel
theorem dL_year_6 : decode cL_year 6 = .ok (.bipush 10, 2) := by decide +kernel
theorem dL_year_8 : decode cL_year 8 = .ok (.newarray .int, 2) := by decide +kernel
theorem dL_year_10 : decode cL_year 10 = .ok (.astore_n 2, 1) := by decide +kernel
theorem dL_year_11 : decode cL_year 11 = .ok (.bipush 10, 2) := by decide +kernel
theorem dL_year_13 : decode cL_year 13 = .ok (.newarray .int, 2) := by decide +kernel
theorem dL_year_15 : decode cL_year 15 = .ok (.astore_n 3, 1) := by decide +kernel
theorem dL_year_16 : decode cL_year 16 = .ok (.bipush 10, 2) := by decide +kernel
theorem dL_year_18 : decode cL_year 18 = .ok (.newarray .int, 2) := by decide +kernel
theorem dL_year_20 : decode cL_year 20 = .ok (.astore 4, 2) := by decide +kernel
theorem dL_year_22 : decode cL_year 22 = .ok (.iconst 0, 1) := by decide +kernel
theorem dL_year_23 : decode cL_year 23 = .ok (.istore 5, 2) := by decide +kernel
theorem dL_year_25 : decode cL_year 25 = .ok (.iload 5, 2) := by decide +kernel
theorem dL_year_27 : decode cL_year 27 = .ok (.iload_n 1, 1) := by decide +kernel
theorem dL_year_28 : decode cL_year 28 = .ok (.if_icmp .ge 45, 3) := by decide +kernel
theorem dL_year_31 : decode cL_year 31 = .ok (.aload_n 2, 1) := by decide +kernel
theorem dL_year_32 : decode cL_year 32 = .ok (.iload 5, 2) := by decide +kernel
theorem dL_year_34 : decode cL_year 34 = .ok (.aload_n 0, 1) := by decide +kernel
theorem dL_year_35 : decode cL_year 35 = .ok (.iload 5, 2) := by decide +kernel
theorem dL_year_37 : decode cL_year 37 = .ok (.iconst 3, 1) := by decide +kernel
theorem dL_year_38 : decode cL_year 38 = .ok (.invokevirtual 21, 3) := by decide +kernel
theorem dL_year_41 : decode cL_year 41 = .ok (.iastore, 1) := by decide +kernel
theorem dL_year_42 : decode cL_year 42 = .ok (.aload_n 3, 1) := by decide +kernel
theorem dL_year_43 : decode cL_year 43 = .ok (.iload 5, 2) := by decide +kernel
theorem dL_year_45 : decode cL_year 45 = .ok (.aload_n 0, 1) := by decide +kernel
theorem dL_year_46 : decode cL_year 46 = .ok (.iload 5, 2) := by decide +kernel
theorem dL_year_48 : decode cL_year 48 = .ok (.bipush 7, 2) := by decide +kernel
theorem dL_year_50 : decode cL_year 50 = .ok (.invokevirtual 21, 3) := by decide +kernel
theorem dL_year_53 : decode cL_year 53 = .ok (.iastore, 1) := by decide +kernel
theorem dL_year_54 : decode cL_year 54 = .ok (.aload 4, 2) := by decide +kernel
theorem dL_year_56 : decode cL_year 56 = .ok (.iload 5, 2) := by decide +kernel
theorem dL_year_58 : decode cL_year 58 = .ok (.aload_n 0, 1) := by decide +kernel
theorem dL_year_59 : decode cL_year 59 = .ok (.iload 5, 2) := by decide +kernel
theorem dL_year_61 : decode cL_year 61 = .ok (.bipush 8, 2) := by decide +kernel
theorem dL_year_63 : decode cL_year 63 = .ok (.invokevirtual 21, 3) := by decide +kernel
theorem dL_year_66 : decode cL_year 66 = .ok (.iastore, 1) := by decide +kernel
theorem dL_year_67 : decode cL_year 67 = .ok (.iinc 5 1, 3) := by decide +kernel
theorem dL_year_70 : decode cL_year 70 = .ok (.goto (-45), 3) := by decide +kernel
theorem dL_year_73 : decode cL_year 73 = .ok (.aload_n 0, 1) := by decide +kernel
theorem dL_year_74 : decode cL_year 74 = .ok (.iconst 0, 1) := by decide +kernel
theorem dL_year_75 : decode cL_year 75 = .ok (.invokevirtual 15, 3) := by decide +kernel
theorem dL_year_78 : decode cL_year 78 = .ok (.istore 5, 2) := by decide +kernel
theorem dL_year_80 : decode cL_year 80 = .ok (.aload_n 0, 1) := by decide +kernel
theorem dL_year_81 : decode cL_year 81 = .ok (.iconst 1, 1) := by decide +kernel
theorem dL_year_82 : decode cL_year 82 = .ok (.invokevirtual 15, 3) := by decide +kernel
theorem dL_year_85 : decode cL_year 85 = .ok (.istore 6, 2) := by decide +kernel
theorem dL_year_87 : decode cL_year 87 = .ok (.aload_n 0, 1) := by decide +kernel
theorem dL_year_88 : decode cL_year 88 = .ok (.iconst 2, 1) := by decide +kernel
theorem dL_year_89 : decode cL_year 89 = .ok (.invokevirtual 15, 3) := by decide +kernel
theorem dL_year_92 : decode cL_year 92 = .ok (.istore 7, 2) := by decide +kernel
theorem dL_year_94 : decode cL_year 94 = .ok (.aload_n 0, 1) := by decide +kernel
theorem dL_year_95 : decode cL_year 95 = .ok (.iconst 1, 1) := by decide +kernel
theorem dL_year_96 : decode cL_year 96 = .ok (.invokevirtual 38, 3) := by decide +kernel
theorem dL_year_99 : decode cL_year 99 = .ok (.lstore 8, 2) := by decide +kernel
theorem dL_year_101 : decode cL_year 101 = .ok (.aload_n 0, 1) := by decide +kernel
theorem dL_year_102 : decode cL_year 102 = .ok (.iconst 2, 1) := by decide +kernel
theorem dL_year_103 : decode cL_year 103 = .ok (.invokevirtual 38, 3) := by decide +kernel
theorem dL_year_106 : decode cL_year 106 = .ok (.lstore 10, 2) := by decide +kernel
theorem dL_year_108 : decode cL_year 108 = .ok (.aload_n 0, 1) := by decide +kernel
theorem dL_year_109 : decode cL_year 109 = .ok (.iconst 1, 1) := by decide +kernel
theorem dL_year_110 : decode cL_year 110 = .ok (.invokevirtual 9, 3) := by decide +kernel
theorem dL_year_113 : decode cL_year 113 = .ok (.istore 12, 2) := by decide +kernel
theorem dL_year_115 : decode cL_year 115 = .ok (.aload_n 0, 1) := by decide +kernel
theorem dL_year_116 : decode cL_year 116 = .ok (.iconst 1, 1) := by decide +kernel
theorem dL_year_117 : decode cL_year 117 = .ok (.invokevirtual 46, 3) := by decide +kernel
theorem dL_year_120 : decode cL_year 120 = .ok (.istore 13, 2) := by decide +kernel
theorem dL_year_122 : decode cL_year 122 = .ok (.iload 13, 2) := by decide +kernel
theorem dL_year_124 : decode cL_year 124 = .ok (.ifCond .lt 50, 3) := by decide +kernel
theorem dL_year_127 : decode cL_year 127 = .ok (.aload_n 0, 1) := by decide +kernel
theorem dL_year_128 : decode cL_year 128 = .ok (.iconst 1, 1) := by decide +kernel
theorem dL_year_129 : decode cL_year 129 = .ok (.invokevirtual 9, 3) := by decide +kernel
theorem dL_year_132 : decode cL_year 132 = .ok (.iload 12, 2) := by decide +kernel
theorem dL_year_134 : decode cL_year 134 = .ok (.iconst 1, 1) := by decide +kernel
theorem dL_year_135 : decode cL_year 135 = .ok (.iadd, 1) := by decide +kernel
theorem dL_year_136 : decode cL_year 136 = .ok (.if_icmp .ne 38, 3) := by decide +kernel
theorem dL_year_139 : decode cL_year 139 = .ok (.aload_n 0, 1) := by decide +kernel
theorem dL_year_140 : decode cL_year 140 = .ok (.iconst 2, 1) := by decide +kernel
theorem dL_year_141 : decode cL_year 141 = .ok (.invokevirtual 15, 3) := by decide +kernel
theorem dL_year_144 : decode cL_year 144 = .ok (.iload 7, 2) := by decide +kernel
theorem dL_year_146 : decode cL_year 146 = .ok (.iload 13, 2) := by decide +kernel
theorem dL_year_148 : decode cL_year 148 = .ok (.iadd, 1) := by decide +kernel
theorem dL_year_149 : decode cL_year 149 = .ok (.if_icmp .ne 25, 3) := by decide +kernel
theorem dL_year_152 : decode cL_year 152 = .ok (.iload 6, 2) := by decide +kernel
theorem dL_year_154 : decode cL_year 154 = .ok (.ifCond .le 22, 3) := by decide +kernel
theorem dL_year_157 : decode cL_year 157 = .ok (.iload 13, 2) := by decide +kernel
theorem dL_year_159 : decode cL_year 159 = .ok (.ifCond .ne 15, 3) := by decide +kernel
theorem dL_year_162 : decode cL_year 162 = .ok (.aload_n 0, 1) := by decide +kernel
theorem dL_year_163 : decode cL_year 163 = .ok (.iconst 1, 1) := by decide +kernel
theorem dL_year_164 : decode cL_year 164 = .ok (.invokevirtual 15, 3) := by decide +kernel
theorem dL_year_167 : decode cL_year 167 = .ok (.iload 6, 2) := by decide +kernel
theorem dL_year_169 : decode cL_year 169 = .ok (.iconst 1, 1) := by decide +kernel
theorem dL_year_170 : decode cL_year 170 = .ok (.isub, 1) := by decide +kernel
theorem dL_year_171 : decode cL_year 171 = .ok (.if_icmp .eq 5, 3) := by decide +kernel
theorem dL_year_174 : decode cL_year 174 = .ok (.iconst 0, 1) := by decide +kernel
theorem dL_year_175 : decode cL_year 175 = .ok (.ireturn, 1) := by decide +kernel
theorem dL_year_176 : decode cL_year 176 = .ok (.iconst 0, 1) := by decide +kernel
theorem dL_year_177 : decode cL_year 177 = .ok (.istore 14, 2) := by decide +kernel
theorem dL_year_179 : decode cL_year 179 = .ok (.iconst 0, 1) := by decide +kernel
theorem dL_year_180 : decode cL_year 180 = .ok (.istore 15, 2) := by decide +kernel
theorem dL_year_182 : decode cL_year 182 = .ok (.iload 15, 2) := by decide +kernel
theorem dL_year_184 : decode cL_year 184 = .ok (.iload_n 1, 1) := by decide +kernel
theorem dL_year_185 : decode cL_year 185 = .ok (.if_icmp .ge 159, 3) := by decide +kernel
theorem dL_year_188 : decode cL_year 188 = .ok (.aload_n 0, 1) := by decide +kernel
theorem dL_year_189 : decode cL_year 189 = .ok (.iload 15, 2) := by decide +kernel
theorem dL_year_191 : decode cL_year 191 = .ok (.bipush 9, 2) := by decide +kernel
theorem dL_year_193 : decode cL_year 193 = .ok (.invokevirtual 21, 3) := by decide +kernel
theorem dL_year_196 : decode cL_year 196 = .ok (.istore 16, 2) := by decide +kernel
theorem dL_year_198 : decode cL_year 198 = .ok (.aload_n 2, 1) := by decide +kernel
theorem dL_year_199 : decode cL_year 199 = .ok (.iload 15, 2) := by decide +kernel
theorem dL_year_201 : decode cL_year 201 = .ok (.iaload, 1) := by decide +kernel
theorem dL_year_202 : decode cL_year 202 = .ok (.aload_n 3, 1) := by decide +kernel
theorem dL_year_203 : decode cL_year 203 = .ok (.iload 15, 2) := by decide +kernel
theorem dL_year_205 : decode cL_year 205 = .ok (.iaload, 1) := by decide +kernel
theorem dL_year_206 : decode cL_year 206 = .ok (.iadd, 1) := by decide +kernel
theorem dL_year_207 : decode cL_year 207 = .ok (.iload 16, 2) := by decide +kernel
theorem dL_year_209 : decode cL_year 209 = .ok (.isub, 1) := by decide +kernel
theorem dL_year_210 : decode cL_year 210 = .ok (.istore 17, 2) := by decide +kernel
theorem dL_year_212 : decode cL_year 212 = .ok (.aload_n 0, 1) := by decide +kernel
theorem dL_year_213 : decode cL_year 213 = .ok (.iload 15, 2) := by decide +kernel
theorem dL_year_215 : decode cL_year 215 = .ok (.bipush 10, 2) := by decide +kernel
theorem dL_year_217 : decode cL_year 217 = .ok (.invokevirtual 21, 3) := by decide +kernel
theorem dL_year_220 : decode cL_year 220 = .ok (.istore 18, 2) := by decide +kernel
theorem dL_year_222 : decode cL_year 222 = .ok (.iload 16, 2) := by decide +kernel
theorem dL_year_224 : decode cL_year 224 = .ok (.aload 4, 2) := by decide +kernel
theorem dL_year_226 : decode cL_year 226 = .ok (.iload 15, 2) := by decide +kernel
theorem dL_year_228 : decode cL_year 228 = .ok (.iaload, 1) := by decide +kernel
theorem dL_year_229 : decode cL_year 229 = .ok (.aload_n 2, 1) := by decide +kernel
theorem dL_year_230 : decode cL_year 230 = .ok (.iload 15, 2) := by decide +kernel
theorem dL_year_232 : decode cL_year 232 = .ok (.iaload, 1) := by decide +kernel
theorem dL_year_233 : decode cL_year 233 = .ok (.aload_n 3, 1) := by decide +kernel
theorem dL_year_234 : decode cL_year 234 = .ok (.iload 15, 2) := by decide +kernel
theorem dL_year_236 : decode cL_year 236 = .ok (.iaload, 1) := by decide +kernel
theorem dL_year_237 : decode cL_year 237 = .ok (.iadd, 1) := by decide +kernel
theorem dL_year_238 : decode cL_year 238 = .ok (.if_icmp .ge 11, 3) := by decide +kernel
theorem dL_year_241 : decode cL_year 241 = .ok (.aload 4, 2) := by decide +kernel
theorem dL_year_243 : decode cL_year 243 = .ok (.iload 15, 2) := by decide +kernel
theorem dL_year_245 : decode cL_year 245 = .ok (.iaload, 1) := by decide +kernel
theorem dL_year_246 : decode cL_year 246 = .ok (.goto 12, 3) := by decide +kernel
theorem dL_year_249 : decode cL_year 249 = .ok (.aload_n 2, 1) := by decide +kernel
theorem dL_year_250 : decode cL_year 250 = .ok (.iload 15, 2) := by decide +kernel
theorem dL_year_252 : decode cL_year 252 = .ok (.iaload, 1) := by decide +kernel
theorem dL_year_253 : decode cL_year 253 = .ok (.aload_n 3, 1) := by decide +kernel
theorem dL_year_254 : decode cL_year 254 = .ok (.iload 15, 2) := by decide +kernel
theorem dL_year_256 : decode cL_year 256 = .ok (.iaload, 1) := by decide +kernel
theorem dL_year_257 : decode cL_year 257 = .ok (.iadd, 1) := by decide +kernel
theorem dL_year_258 : decode cL_year 258 = .ok (.if_icmp .ne 56, 3) := by decide +kernel
theorem dL_year_261 : decode cL_year 261 = .ok (.iload 18, 2) := by decide +kernel
theorem dL_year_263 : decode cL_year 263 = .ok (.iload 17, 2) := by decide +kernel
theorem dL_year_265 : decode cL_year 265 = .ok (.i2l, 1) := by decide +kernel
theorem dL_year_266 : decode cL_year 266 = .ok (.aload_n 0, 1) := by decide +kernel
theorem dL_year_267 : decode cL_year 267 = .ok (.iload 15, 2) := by decide +kernel
theorem dL_year_269 : decode cL_year 269 = .ok (.iconst 2, 1) := by decide +kernel
theorem dL_year_270 : decode cL_year 270 = .ok (.invokevirtual 21, 3) := by decide +kernel
theorem dL_year_273 : decode cL_year 273 = .ok (.i2l, 1) := by decide +kernel
theorem dL_year_274 : decode cL_year 274 = .ok (.lmul, 1) := by decide +kernel
theorem dL_year_275 : decode cL_year 275 = .ok (.ldc2_w 49, 3) := by decide +kernel
theorem dL_year_278 : decode cL_year 278 = .ok (.ldiv, 1) := by decide +kernel
theorem dL_year_279 : decode cL_year 279 = .ok (.l2i, 1) := by decide +kernel
theorem dL_year_280 : decode cL_year 280 = .ok (.if_icmp .ne 34, 3) := by decide +kernel
theorem dL_year_283 : decode cL_year 283 = .ok (.aload_n 0, 1) := by decide +kernel
theorem dL_year_284 : decode cL_year 284 = .ok (.iload 15, 2) := by decide +kernel
theorem dL_year_286 : decode cL_year 286 = .ok (.bipush 11, 2) := by decide +kernel
theorem dL_year_288 : decode cL_year 288 = .ok (.invokevirtual 21, 3) := by decide +kernel
theorem dL_year_291 : decode cL_year 291 = .ok (.iload 14, 2) := by decide +kernel
theorem dL_year_293 : decode cL_year 293 = .ok (.if_icmp .ne 21, 3) := by decide +kernel
theorem dL_year_296 : decode cL_year 296 = .ok (.aload_n 0, 1) := by decide +kernel
theorem dL_year_297 : decode cL_year 297 = .ok (.iload 15, 2) := by decide +kernel
theorem dL_year_299 : decode cL_year 299 = .ok (.iconst 3, 1) := by decide +kernel
theorem dL_year_300 : decode cL_year 300 = .ok (.invokevirtual 21, 3) := by decide +kernel
theorem dL_year_303 : decode cL_year 303 = .ok (.iload 17, 2) := by decide +kernel
theorem dL_year_305 : decode cL_year 305 = .ok (.iload 18, 2) := by decide +kernel
theorem dL_year_307 : decode cL_year 307 = .ok (.isub, 1) := by decide +kernel
theorem dL_year_308 : decode cL_year 308 = .ok (.iload 14, 2) := by decide +kernel
theorem dL_year_310 : decode cL_year 310 = .ok (.iadd, 1) := by decide +kernel
theorem dL_year_311 : decode cL_year 311 = .ok (.if_icmp .eq 5, 3) := by decide +kernel
theorem dL_year_314 : decode cL_year 314 = .ok (.iconst 0, 1) := by decide +kernel
theorem dL_year_315 : decode cL_year 315 = .ok (.ireturn, 1) := by decide +kernel
theorem dL_year_316 : decode cL_year 316 = .ok (.lload 8, 2) := by decide +kernel
theorem dL_year_318 : decode cL_year 318 = .ok (.aload_n 3, 1) := by decide +kernel
theorem dL_year_319 : decode cL_year 319 = .ok (.iload 15, 2) := by decide +kernel
theorem dL_year_321 : decode cL_year 321 = .ok (.iaload, 1) := by decide +kernel
theorem dL_year_322 : decode cL_year 322 = .ok (.i2l, 1) := by decide +kernel
theorem dL_year_323 : decode cL_year 323 = .ok (.ladd, 1) := by decide +kernel
theorem dL_year_324 : decode cL_year 324 = .ok (.lstore 8, 2) := by decide +kernel
theorem dL_year_326 : decode cL_year 326 = .ok (.lload 10, 2) := by decide +kernel
theorem dL_year_328 : decode cL_year 328 = .ok (.iload 16, 2) := by decide +kernel
theorem dL_year_330 : decode cL_year 330 = .ok (.i2l, 1) := by decide +kernel
theorem dL_year_331 : decode cL_year 331 = .ok (.ladd, 1) := by decide +kernel
theorem dL_year_332 : decode cL_year 332 = .ok (.lstore 10, 2) := by decide +kernel
theorem dL_year_334 : decode cL_year 334 = .ok (.iload 18, 2) := by decide +kernel
theorem dL_year_336 : decode cL_year 336 = .ok (.istore 14, 2) := by decide +kernel
theorem dL_year_338 : decode cL_year 338 = .ok (.iinc 15 1, 3) := by decide +kernel
theorem dL_year_341 : decode cL_year 341 = .ok (.goto (-159), 3) := by decide +kernel
theorem dL_year_344 : decode cL_year 344 = .ok (.aload_n 0, 1) := by decide +kernel
theorem dL_year_345 : decode cL_year 345 = .ok (.bipush 11, 2) := by decide +kernel
theorem dL_year_347 : decode cL_year 347 = .ok (.invokevirtual 9, 3) := by decide +kernel
theorem dL_year_350 : decode cL_year 350 = .ok (.istore 15, 2) := by decide +kernel
theorem dL_year_352 : decode cL_year 352 = .ok (.iload 5, 2) := by decide +kernel
theorem dL_year_354 : decode cL_year 354 = .ok (.iload 14, 2) := by decide +kernel
theorem dL_year_356 : decode cL_year 356 = .ok (.iadd, 1) := by decide +kernel
theorem dL_year_357 : decode cL_year 357 = .ok (.istore 5, 2) := by decide +kernel
theorem dL_year_359 : decode cL_year 359 = .ok (.iload 6, 2) := by decide +kernel
theorem dL_year_361 : decode cL_year 361 = .ok (.ifCond .le 7, 3) := by decide +kernel
theorem dL_year_364 : decode cL_year 364 = .ok (.iconst 0, 1) := by decide +kernel
theorem dL_year_365 : decode cL_year 365 = .ok (.goto 8, 3) := by decide +kernel
theorem dL_year_368 : decode cL_year 368 = .ok (.iload 5, 2) := by decide +kernel
theorem dL_year_370 : decode cL_year 370 = .ok (.iload 15, 2) := by decide +kernel
theorem dL_year_372 : decode cL_year 372 = .ok (.idiv, 1) := by decide +kernel
theorem dL_year_373 : decode cL_year 373 = .ok (.istore 16, 2) := by decide +kernel
theorem dL_year_375 : decode cL_year 375 = .ok (.aload_n 0, 1) := by decide +kernel
theorem dL_year_376 : decode cL_year 376 = .ok (.iconst 1, 1) := by decide +kernel
theorem dL_year_377 : decode cL_year 377 = .ok (.invokevirtual 38, 3) := by decide +kernel
theorem dL_year_380 : decode cL_year 380 = .ok (.lload 8, 2) := by decide +kernel
theorem dL_year_382 : decode cL_year 382 = .ok (.lcmp, 1) := by decide +kernel
theorem dL_year_383 : decode cL_year 383 = .ok (.ifCond .ne 105, 3) := by decide +kernel
theorem dL_year_386 : decode cL_year 386 = .ok (.aload_n 0, 1) := by decide +kernel
theorem dL_year_387 : decode cL_year 387 = .ok (.iconst 2, 1) := by decide +kernel
theorem dL_year_388 : decode cL_year 388 = .ok (.invokevirtual 38, 3) := by decide +kernel
theorem dL_year_391 : decode cL_year 391 = .ok (.lload 10, 2) := by decide +kernel
theorem dL_year_393 : decode cL_year 393 = .ok (.lcmp, 1) := by decide +kernel
theorem dL_year_394 : decode cL_year 394 = .ok (.ifCond .ne 94, 3) := by decide +kernel
theorem dL_year_397 : decode cL_year 397 = .ok (.iload 13, 2) := by decide +kernel
theorem dL_year_399 : decode cL_year 399 = .ok (.iload 16, 2) := by decide +kernel
theorem dL_year_401 : decode cL_year 401 = .ok (.if_icmp .ne 87, 3) := by decide +kernel
theorem dL_year_404 : decode cL_year 404 = .ok (.aload_n 0, 1) := by decide +kernel
theorem dL_year_405 : decode cL_year 405 = .ok (.iconst 0, 1) := by decide +kernel
theorem dL_year_406 : decode cL_year 406 = .ok (.invokevirtual 15, 3) := by decide +kernel
theorem dL_year_409 : decode cL_year 409 = .ok (.iload 5, 2) := by decide +kernel
theorem dL_year_411 : decode cL_year 411 = .ok (.iload 16, 2) := by decide +kernel
theorem dL_year_413 : decode cL_year 413 = .ok (.iload 15, 2) := by decide +kernel
theorem dL_year_415 : decode cL_year 415 = .ok (.imul, 1) := by decide +kernel
theorem dL_year_416 : decode cL_year 416 = .ok (.isub, 1) := by decide +kernel
theorem dL_year_417 : decode cL_year 417 = .ok (.if_icmp .ne 71, 3) := by decide +kernel
theorem dL_year_420 : decode cL_year 420 = .ok (.iload 16, 2) := by decide +kernel
theorem dL_year_422 : decode cL_year 422 = .ok (.ifCond .eq 29, 3) := by decide +kernel
theorem dL_year_425 : decode cL_year 425 = .ok (.aload_n 0, 1) := by decide +kernel
theorem dL_year_426 : decode cL_year 426 = .ok (.iconst 1, 1) := by decide +kernel
theorem dL_year_427 : decode cL_year 427 = .ok (.invokevirtual 15, 3) := by decide +kernel
theorem dL_year_430 : decode cL_year 430 = .ok (.aload_n 0, 1) := by decide +kernel
theorem dL_year_431 : decode cL_year 431 = .ok (.bipush 12, 2) := by decide +kernel
theorem dL_year_433 : decode cL_year 433 = .ok (.invokevirtual 9, 3) := by decide +kernel
theorem dL_year_436 : decode cL_year 436 = .ok (.if_icmp .ne 52, 3) := by decide +kernel
theorem dL_year_439 : decode cL_year 439 = .ok (.aload_n 0, 1) := by decide +kernel
theorem dL_year_440 : decode cL_year 440 = .ok (.iconst 3, 1) := by decide +kernel
theorem dL_year_441 : decode cL_year 441 = .ok (.invokevirtual 15, 3) := by decide +kernel
theorem dL_year_444 : decode cL_year 444 = .ok (.iload 12, 2) := by decide +kernel
theorem dL_year_446 : decode cL_year 446 = .ok (.iconst 1, 1) := by decide +kernel
theorem dL_year_447 : decode cL_year 447 = .ok (.iadd, 1) := by decide +kernel
theorem dL_year_448 : decode cL_year 448 = .ok (.if_icmp .ne 40, 3) := by decide +kernel
theorem dL_year_451 : decode cL_year 451 = .ok (.iload 6, 2) := by decide +kernel
theorem dL_year_453 : decode cL_year 453 = .ok (.ifCond .gt 13, 3) := by decide +kernel
theorem dL_year_456 : decode cL_year 456 = .ok (.aload_n 0, 1) := by decide +kernel
theorem dL_year_457 : decode cL_year 457 = .ok (.iconst 0, 1) := by decide +kernel
theorem dL_year_458 : decode cL_year 458 = .ok (.invokevirtual 15, 3) := by decide +kernel
theorem dL_year_461 : decode cL_year 461 = .ok (.iload 15, 2) := by decide +kernel
theorem dL_year_463 : decode cL_year 463 = .ok (.if_icmp .ge 25, 3) := by decide +kernel
theorem dL_year_466 : decode cL_year 466 = .ok (.iload 6, 2) := by decide +kernel
theorem dL_year_468 : decode cL_year 468 = .ok (.ifCond .gt 16, 3) := by decide +kernel
theorem dL_year_471 : decode cL_year 471 = .ok (.iload 16, 2) := by decide +kernel
theorem dL_year_473 : decode cL_year 473 = .ok (.ifCond .gt 11, 3) := by decide +kernel
theorem dL_year_476 : decode cL_year 476 = .ok (.aload_n 0, 1) := by decide +kernel
theorem dL_year_477 : decode cL_year 477 = .ok (.iconst 1, 1) := by decide +kernel
theorem dL_year_478 : decode cL_year 478 = .ok (.invokevirtual 15, 3) := by decide +kernel
theorem dL_year_481 : decode cL_year 481 = .ok (.ifCond .ne 7, 3) := by decide +kernel
theorem dL_year_484 : decode cL_year 484 = .ok (.iconst 1, 1) := by decide +kernel
theorem dL_year_485 : decode cL_year 485 = .ok (.goto 4, 3) := by decide +kernel
theorem dL_year_488 : decode cL_year 488 = .ok (.iconst 0, 1) := by decide +kernel
theorem dL_year_489 : decode cL_year 489 = .ok (.ireturn, 1) := by decide +kernel
