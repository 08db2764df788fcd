theorem dL_sound_0 : decode cL_sound 0 = .ok (.aload_n 0, 1) := by decide +kernel
theorem dL_sound_1 : decode cL_sound 1 = .ok (.iconst 0, 1) := by decide +kernel
theorem dL_sound_2 : decode cL_sound 2 = .ok (.invokevirtual 9, 3) := by decide +kernel
theorem dL_sound_5 : decode cL_sound 5 = .ok (.istore_n 1, 1) := by decide +kernel
theorem dL_sound_6 : decode cL_sound 6 = .ok (.aload_n 0, 1) := by decide +kernel
theorem dL_sound_7 : decode cL_sound 7 = .ok (.iconst 1, 1) := by decide +kernel
theorem dL_sound_8 : decode cL_sound 8 = .ok (.invokevirtual 9, 3) := by decide +kernel
theorem dL_sound_11 : decode cL_sound 11 = .ok (.istore_n 2, 1) := by decide +kernel
theorem dL_sound_12 : decode cL_sound 12 = .ok (.aload_n 0, 1) := by decide +kernel
theorem dL_sound_13 : decode cL_sound 13 = .ok (.iconst 0, 1) := by decide +kernel
theorem dL_sound_14 : decode cL_sound 14 = .ok (.invokevirtual 15, 3) := by decide +kernel
theorem dL_sound_17 : decode cL_sound 17 = .ok (.i2l, 1) := by decide +kernel
theorem dL_sound_18 : decode cL_sound 18 = .ok (.lstore_n 3, 1) := by decide +kernel
theorem dL_sound_19 : decode cL_sound 19 = .ok (.iconst 0, 1) := by decide +kernel
theorem dL_sound_20 : decode cL_sound 20 = .ok (.istore 5, 2) := by decide +kernel
theorem dL_sound_22 : decode cL_sound 22 = .ok (.iconst 0, 1) := by decide +kernel
theorem dL_sound_23 : decode cL_sound 23 = .ok (.istore 6, 2) := by decide +kernel
theorem dL_sound_25 : decode cL_sound 25 = .ok (.ldc 20, 2) := by decide +kernel
theorem dL_sound_27 : decode cL_sound 27 = .ok (.istore 7, 2) := by decide +kernel
theorem dL_sound_29 : decode cL_sound 29 = .ok (.iconst 0, 1) := by decide +kernel
theorem dL_sound_30 : decode cL_sound 30 = .ok (.istore 8, 2) := by decide +kernel
theorem dL_sound_32 : decode cL_sound 32 = .ok (.iload 8, 2) := by decide +kernel
theorem dL_sound_34 : decode cL_sound 34 = .ok (.iload_n 1, 1) := by decide +kernel
theorem dL_sound_35 : decode cL_sound 35 = .ok (.if_icmp .ge 354, 3) := by decide +kernel
theorem dL_sound_38 : decode cL_sound 38 = .ok (.aload_n 0, 1) := by decide +kernel
theorem dL_sound_39 : decode cL_sound 39 = .ok (.iload 8, 2) := by decide +kernel
theorem dL_sound_41 : decode cL_sound 41 = .ok (.iconst 4, 1) := by decide +kernel
theorem dL_sound_42 : decode cL_sound 42 = .ok (.invokevirtual 21, 3) := by decide +kernel
theorem dL_sound_45 : decode cL_sound 45 = .ok (.istore 9, 2) := by decide +kernel
theorem dL_sound_47 : decode cL_sound 47 = .ok (.iconst 0, 1) := by decide +kernel
theorem dL_sound_48 : decode cL_sound 48 = .ok (.istore 10, 2) := by decide +kernel
theorem dL_sound_50 : decode cL_sound 50 = .ok (.iconst (-1), 1) := by decide +kernel
theorem dL_sound_51 : decode cL_sound 51 = .ok (.istore 11, 2) := by decide +kernel
theorem dL_sound_53 : decode cL_sound 53 = .ok (.iconst 0, 1) := by decide +kernel
theorem dL_sound_54 : decode cL_sound 54 = .ok (.istore 12, 2) := by decide +kernel
theorem dL_sound_56 : decode cL_sound 56 = .ok (.iload 12, 2) := by decide +kernel
theorem dL_sound_58 : decode cL_sound 58 = .ok (.iload 9, 2) := by decide +kernel
theorem dL_sound_60 : decode cL_sound 60 = .ok (.if_icmp .ge 76, 3) := by decide +kernel
theorem dL_sound_63 : decode cL_sound 63 = .ok (.aload_n 0, 1) := by decide +kernel
theorem dL_sound_64 : decode cL_sound 64 = .ok (.iload 8, 2) := by decide +kernel
theorem dL_sound_66 : decode cL_sound 66 = .ok (.iload 12, 2) := by decide +kernel
theorem dL_sound_68 : decode cL_sound 68 = .ok (.iconst 0, 1) := by decide +kernel
theorem dL_sound_69 : decode cL_sound 69 = .ok (.invokevirtual 25, 3) := by decide +kernel
theorem dL_sound_72 : decode cL_sound 72 = .ok (.iload 11, 2) := by decide +kernel
theorem dL_sound_74 : decode cL_sound 74 = .ok (.if_icmp .le 29, 3) := by decide +kernel
theorem dL_sound_77 : decode cL_sound 77 = .ok (.aload_n 0, 1) := by decide +kernel
theorem dL_sound_78 : decode cL_sound 78 = .ok (.iload 8, 2) := by decide +kernel
theorem dL_sound_80 : decode cL_sound 80 = .ok (.iload 12, 2) := by decide +kernel
theorem dL_sound_82 : decode cL_sound 82 = .ok (.iconst 1, 1) := by decide +kernel
theorem dL_sound_83 : decode cL_sound 83 = .ok (.invokevirtual 25, 3) := by decide +kernel
theorem dL_sound_86 : decode cL_sound 86 = .ok (.iconst 1, 1) := by decide +kernel
theorem dL_sound_87 : decode cL_sound 87 = .ok (.if_icmp .lt 16, 3) := by decide +kernel
theorem dL_sound_90 : decode cL_sound 90 = .ok (.aload_n 0, 1) := by decide +kernel
theorem dL_sound_91 : decode cL_sound 91 = .ok (.iload 8, 2) := by decide +kernel
theorem dL_sound_93 : decode cL_sound 93 = .ok (.iload 12, 2) := by decide +kernel
theorem dL_sound_95 : decode cL_sound 95 = .ok (.iconst 0, 1) := by decide +kernel
theorem dL_sound_96 : decode cL_sound 96 = .ok (.invokevirtual 25, 3) := by decide +kernel
theorem dL_sound_99 : decode cL_sound 99 = .ok (.iload_n 2, 1) := by decide +kernel
theorem dL_sound_100 : decode cL_sound 100 = .ok (.if_icmp .le 5, 3) := by decide +kernel
theorem dL_sound_103 : decode cL_sound 103 = .ok (.iconst 0, 1) := by decide +kernel
theorem dL_sound_104 : decode cL_sound 104 = .ok (.ireturn, 1) := by decide +kernel
theorem dL_sound_105 : decode cL_sound 105 = .ok (.aload_n 0, 1) := by decide +kernel
theorem dL_sound_106 : decode cL_sound 106 = .ok (.iload 8, 2) := by decide +kernel
theorem dL_sound_108 : decode cL_sound 108 = .ok (.iload 12, 2) := by decide +kernel
theorem dL_sound_110 : decode cL_sound 110 = .ok (.iconst 0, 1) := by decide +kernel
theorem dL_sound_111 : decode cL_sound 111 = .ok (.invokevirtual 25, 3) := by decide +kernel
theorem dL_sound_114 : decode cL_sound 114 = .ok (.istore 11, 2) := by decide +kernel
theorem dL_sound_116 : decode cL_sound 116 = .ok (.iload 10, 2) := by decide +kernel
theorem dL_sound_118 : decode cL_sound 118 = .ok (.aload_n 0, 1) := by decide +kernel
theorem dL_sound_119 : decode cL_sound 119 = .ok (.iload 8, 2) := by decide +kernel
theorem dL_sound_121 : decode cL_sound 121 = .ok (.iload 12, 2) := by decide +kernel
theorem dL_sound_123 : decode cL_sound 123 = .ok (.iconst 1, 1) := by decide +kernel
theorem dL_sound_124 : decode cL_sound 124 = .ok (.invokevirtual 25, 3) := by decide +kernel
theorem dL_sound_127 : decode cL_sound 127 = .ok (.iadd, 1) := by decide +kernel
theorem dL_sound_128 : decode cL_sound 128 = .ok (.istore 10, 2) := by decide +kernel
theorem dL_sound_130 : decode cL_sound 130 = .ok (.iinc 12 1, 3) := by decide +kernel
theorem dL_sound_133 : decode cL_sound 133 = .ok (.goto (-77), 3) := by decide +kernel
theorem dL_sound_136 : decode cL_sound 136 = .ok (.aload_n 0, 1) := by decide +kernel
theorem dL_sound_137 : decode cL_sound 137 = .ok (.iload 8, 2) := by decide +kernel
theorem dL_sound_139 : decode cL_sound 139 = .ok (.invokevirtual 29, 3) := by decide +kernel
theorem dL_sound_142 : decode cL_sound 142 = .ok (.istore 12, 2) := by decide +kernel
theorem dL_sound_144 : decode cL_sound 144 = .ok (.aload_n 0, 1) := by decide +kernel
theorem dL_sound_145 : decode cL_sound 145 = .ok (.iload 8, 2) := by decide +kernel
theorem dL_sound_147 : decode cL_sound 147 = .ok (.bipush 7, 2) := by decide +kernel
theorem dL_sound_149 : decode cL_sound 149 = .ok (.invokevirtual 21, 3) := by decide +kernel
theorem dL_sound_152 : decode cL_sound 152 = .ok (.aload_n 0, 1) := by decide +kernel
theorem dL_sound_153 : decode cL_sound 153 = .ok (.iload 8, 2) := by decide +kernel
theorem dL_sound_155 : decode cL_sound 155 = .ok (.bipush 8, 2) := by decide +kernel
theorem dL_sound_157 : decode cL_sound 157 = .ok (.invokevirtual 21, 3) := by decide +kernel
theorem dL_sound_160 : decode cL_sound 160 = .ok (.if_icmp .lt 8, 3) := by decide +kernel
theorem dL_sound_163 : decode cL_sound 163 = .ok (.iload 8, 2) := by decide +kernel
theorem dL_sound_165 : decode cL_sound 165 = .ok (.goto 5, 3) := by decide +kernel
theorem dL_sound_168 : decode cL_sound 168 = .ok (.iload 7, 2) := by decide +kernel
theorem dL_sound_170 : decode cL_sound 170 = .ok (.istore 7, 2) := by decide +kernel
theorem dL_sound_172 : decode cL_sound 172 = .ok (.iload 10, 2) := by decide +kernel
theorem dL_sound_174 : decode cL_sound 174 = .ok (.aload_n 0, 1) := by decide +kernel
theorem dL_sound_175 : decode cL_sound 175 = .ok (.iload 8, 2) := by decide +kernel
theorem dL_sound_177 : decode cL_sound 177 = .ok (.iconst 3, 1) := by decide +kernel
theorem dL_sound_178 : decode cL_sound 178 = .ok (.invokevirtual 21, 3) := by decide +kernel
theorem dL_sound_181 : decode cL_sound 181 = .ok (.if_icmp .ne 180, 3) := by decide +kernel
theorem dL_sound_184 : decode cL_sound 184 = .ok (.aload_n 0, 1) := by decide +kernel
theorem dL_sound_185 : decode cL_sound 185 = .ok (.iload 8, 2) := by decide +kernel
theorem dL_sound_187 : decode cL_sound 187 = .ok (.iload 9, 2) := by decide +kernel
theorem dL_sound_189 : decode cL_sound 189 = .ok (.iconst 0, 1) := by decide +kernel
theorem dL_sound_190 : decode cL_sound 190 = .ok (.invokevirtual 25, 3) := by decide +kernel
theorem dL_sound_193 : decode cL_sound 193 = .ok (.ldc 20, 2) := by decide +kernel
theorem dL_sound_195 : decode cL_sound 195 = .ok (.if_icmp .ne 166, 3) := by decide +kernel
theorem dL_sound_198 : decode cL_sound 198 = .ok (.iload 9, 2) := by decide +kernel
theorem dL_sound_200 : decode cL_sound 200 = .ok (.ifCond .ne 7, 3) := by decide +kernel
theorem dL_sound_203 : decode cL_sound 203 = .ok (.iconst 1, 1) := by decide +kernel
theorem dL_sound_204 : decode cL_sound 204 = .ok (.goto 4, 3) := by decide +kernel
theorem dL_sound_207 : decode cL_sound 207 = .ok (.iconst 0, 1) := by decide +kernel
theorem dL_sound_208 : decode cL_sound 208 = .ok (.aload_n 0, 1) := by decide +kernel
theorem dL_sound_209 : decode cL_sound 209 = .ok (.iload 8, 2) := by decide +kernel
theorem dL_sound_211 : decode cL_sound 211 = .ok (.iconst 5, 1) := by decide +kernel
theorem dL_sound_212 : decode cL_sound 212 = .ok (.invokevirtual 21, 3) := by decide +kernel
theorem dL_sound_215 : decode cL_sound 215 = .ok (.ldc 20, 2) := by decide +kernel
theorem dL_sound_217 : decode cL_sound 217 = .ok (.if_icmp .ne 7, 3) := by decide +kernel
theorem dL_sound_220 : decode cL_sound 220 = .ok (.iconst 1, 1) := by decide +kernel
theorem dL_sound_221 : decode cL_sound 221 = .ok (.goto 4, 3) := by decide +kernel
theorem dL_sound_224 : decode cL_sound 224 = .ok (.iconst 0, 1) := by decide +kernel
theorem dL_sound_225 : decode cL_sound 225 = .ok (.if_icmp .ne 136, 3) := by decide +kernel
theorem dL_sound_228 : decode cL_sound 228 = .ok (.iload 9, 2) := by decide +kernel
theorem dL_sound_230 : decode cL_sound 230 = .ok (.ifCond .le 34, 3) := by decide +kernel
theorem dL_sound_233 : decode cL_sound 233 = .ok (.aload_n 0, 1) := by decide +kernel
theorem dL_sound_234 : decode cL_sound 234 = .ok (.iload 8, 2) := by decide +kernel
theorem dL_sound_236 : decode cL_sound 236 = .ok (.iconst 5, 1) := by decide +kernel
theorem dL_sound_237 : decode cL_sound 237 = .ok (.invokevirtual 21, 3) := by decide +kernel
theorem dL_sound_240 : decode cL_sound 240 = .ok (.aload_n 0, 1) := by decide +kernel
theorem dL_sound_241 : decode cL_sound 241 = .ok (.iload 8, 2) := by decide +kernel
theorem dL_sound_243 : decode cL_sound 243 = .ok (.iconst 0, 1) := by decide +kernel
theorem dL_sound_244 : decode cL_sound 244 = .ok (.iconst 0, 1) := by decide +kernel
theorem dL_sound_245 : decode cL_sound 245 = .ok (.invokevirtual 25, 3) := by decide +kernel
theorem dL_sound_248 : decode cL_sound 248 = .ok (.if_icmp .ne 113, 3) := by decide +kernel
theorem dL_sound_251 : decode cL_sound 251 = .ok (.aload_n 0, 1) := by decide +kernel
theorem dL_sound_252 : decode cL_sound 252 = .ok (.iload 8, 2) := by decide +kernel
theorem dL_sound_254 : decode cL_sound 254 = .ok (.bipush 6, 2) := by decide +kernel
theorem dL_sound_256 : decode cL_sound 256 = .ok (.invokevirtual 21, 3) := by decide +kernel
theorem dL_sound_259 : decode cL_sound 259 = .ok (.iload 11, 2) := by decide +kernel
theorem dL_sound_261 : decode cL_sound 261 = .ok (.if_icmp .ne 100, 3) := by decide +kernel
theorem dL_sound_264 : decode cL_sound 264 = .ok (.iload 12, 2) := by decide +kernel
theorem dL_sound_266 : decode cL_sound 266 = .ok (.iload 6, 2) := by decide +kernel
theorem dL_sound_268 : decode cL_sound 268 = .ok (.iand, 1) := by decide +kernel
theorem dL_sound_269 : decode cL_sound 269 = .ok (.ifCond .ne 92, 3) := by decide +kernel
theorem dL_sound_272 : decode cL_sound 272 = .ok (.aload_n 0, 1) := by decide +kernel
theorem dL_sound_273 : decode cL_sound 273 = .ok (.iload 8, 2) := by decide +kernel
theorem dL_sound_275 : decode cL_sound 275 = .ok (.bipush 7, 2) := by decide +kernel
theorem dL_sound_277 : decode cL_sound 277 = .ok (.invokevirtual 21, 3) := by decide +kernel
theorem dL_sound_280 : decode cL_sound 280 = .ok (.ifCond .lt 81, 3) := by decide +kernel
theorem dL_sound_283 : decode cL_sound 283 = .ok (.aload_n 0, 1) := by decide +kernel
theorem dL_sound_284 : decode cL_sound 284 = .ok (.iload 8, 2) := by decide +kernel
theorem dL_sound_286 : decode cL_sound 286 = .ok (.bipush 8, 2) := by decide +kernel
theorem dL_sound_288 : decode cL_sound 288 = .ok (.invokevirtual 21, 3) := by decide +kernel
theorem dL_sound_291 : decode cL_sound 291 = .ok (.ifCond .lt 70, 3) := by decide +kernel
theorem dL_sound_294 : decode cL_sound 294 = .ok (.aload_n 0, 1) := by decide +kernel
theorem dL_sound_295 : decode cL_sound 295 = .ok (.iload 8, 2) := by decide +kernel
theorem dL_sound_297 : decode cL_sound 297 = .ok (.bipush 9, 2) := by decide +kernel
theorem dL_sound_299 : decode cL_sound 299 = .ok (.invokevirtual 21, 3) := by decide +kernel
theorem dL_sound_302 : decode cL_sound 302 = .ok (.ifCond .lt 59, 3) := by decide +kernel
theorem dL_sound_305 : decode cL_sound 305 = .ok (.iload 8, 2) := by decide +kernel
theorem dL_sound_307 : decode cL_sound 307 = .ok (.ifCond .le 56, 3) := by decide +kernel
theorem dL_sound_310 : decode cL_sound 310 = .ok (.aload_n 0, 1) := by decide +kernel
theorem dL_sound_311 : decode cL_sound 311 = .ok (.iload 8, 2) := by decide +kernel
theorem dL_sound_313 : decode cL_sound 313 = .ok (.iconst 0, 1) := by decide +kernel
theorem dL_sound_314 : decode cL_sound 314 = .ok (.invokevirtual 21, 3) := by decide +kernel
theorem dL_sound_317 : decode cL_sound 317 = .ok (.aload_n 0, 1) := by decide +kernel
theorem dL_sound_318 : decode cL_sound 318 = .ok (.iload 8, 2) := by decide +kernel
theorem dL_sound_320 : decode cL_sound 320 = .ok (.iconst 1, 1) := by decide +kernel
theorem dL_sound_321 : decode cL_sound 321 = .ok (.isub, 1) := by decide +kernel
theorem dL_sound_322 : decode cL_sound 322 = .ok (.iconst 0, 1) := by decide +kernel
theorem dL_sound_323 : decode cL_sound 323 = .ok (.invokevirtual 21, 3) := by decide +kernel
theorem dL_sound_326 : decode cL_sound 326 = .ok (.if_icmp .ge 35, 3) := by decide +kernel
theorem dL_sound_329 : decode cL_sound 329 = .ok (.aload_n 0, 1) := by decide +kernel
theorem dL_sound_330 : decode cL_sound 330 = .ok (.iload 8, 2) := by decide +kernel
theorem dL_sound_332 : decode cL_sound 332 = .ok (.bipush 11, 2) := by decide +kernel
theorem dL_sound_334 : decode cL_sound 334 = .ok (.invokevirtual 21, 3) := by decide +kernel
theorem dL_sound_337 : decode cL_sound 337 = .ok (.aload_n 0, 1) := by decide +kernel
theorem dL_sound_338 : decode cL_sound 338 = .ok (.iload 8, 2) := by decide +kernel
theorem dL_sound_340 : decode cL_sound 340 = .ok (.iconst 1, 1) := by decide +kernel
theorem dL_sound_341 : decode cL_sound 341 = .ok (.isub, 1) := by decide +kernel
theorem dL_sound_342 : decode cL_sound 342 = .ok (.bipush 10, 2) := by decide +kernel
theorem dL_sound_344 : decode cL_sound 344 = .ok (.invokevirtual 21, 3) := by decide +kernel
theorem dL_sound_347 : decode cL_sound 347 = .ok (.if_icmp .eq 16, 3) := by decide +kernel
theorem dL_sound_350 : decode cL_sound 350 = .ok (.aload_n 0, 1) := by decide +kernel
theorem dL_sound_351 : decode cL_sound 351 = .ok (.iload 8, 2) := by decide +kernel
theorem dL_sound_353 : decode cL_sound 353 = .ok (.bipush 11, 2) := by decide +kernel
theorem dL_sound_355 : decode cL_sound 355 = .ok (.invokevirtual 21, 3) := by decide +kernel
theorem dL_sound_358 : decode cL_sound 358 = .ok (.ifCond .eq 5, 3) := by decide +kernel
theorem dL_sound_361 : decode cL_sound 361 = .ok (.iconst 0, 1) := by decide +kernel
theorem dL_sound_362 : decode cL_sound 362 = .ok (.ireturn, 1) := by decide +kernel
theorem dL_sound_363 : decode cL_sound 363 = .ok (.iload 6, 2) := by decide +kernel
theorem dL_sound_365 : decode cL_sound 365 = .ok (.iload 12, 2) := by decide +kernel
theorem dL_sound_367 : decode cL_sound 367 = .ok (.ior, 1) := by decide +kernel
theorem dL_sound_368 : decode cL_sound 368 = .ok (.istore 6, 2) := by decide +kernel
theorem dL_sound_370 : decode cL_sound 370 = .ok (.iload 5, 2) := by decide +kernel
theorem dL_sound_372 : decode cL_sound 372 = .ok (.iload 9, 2) := by decide +kernel
theorem dL_sound_374 : decode cL_sound 374 = .ok (.iadd, 1) := by decide +kernel
theorem dL_sound_375 : decode cL_sound 375 = .ok (.istore 5, 2) := by decide +kernel
theorem dL_sound_377 : decode cL_sound 377 = .ok (.lload_n 3, 1) := by decide +kernel
theorem dL_sound_378 : decode cL_sound 378 = .ok (.iload 10, 2) := by decide +kernel
theorem dL_sound_380 : decode cL_sound 380 = .ok (.i2l, 1) := by decide +kernel
theorem dL_sound_381 : decode cL_sound 381 = .ok (.ladd, 1) := by decide +kernel
theorem dL_sound_382 : decode cL_sound 382 = .ok (.lstore_n 3, 1) := by decide +kernel
theorem dL_sound_383 : decode cL_sound 383 = .ok (.iinc 8 1, 3) := by decide +kernel
theorem dL_sound_386 : decode cL_sound 386 = .ok (.goto (-354), 3) := by decide +kernel
theorem dL_sound_389 : decode cL_sound 389 = .ok (.iconst 0, 1) := by decide +kernel
theorem dL_sound_390 : decode cL_sound 390 = .ok (.istore 8, 2) := by decide +kernel
theorem dL_sound_392 : decode cL_sound 392 = .ok (.aload_n 0, 1) := by decide +kernel
theorem dL_sound_393 : decode cL_sound 393 = .ok (.iconst 0, 1) := by decide +kernel
theorem dL_sound_394 : decode cL_sound 394 = .ok (.invokevirtual 15, 3) := by decide +kernel
theorem dL_sound_397 : decode cL_sound 397 = .ok (.i2l, 1) := by decide +kernel
theorem dL_sound_398 : decode cL_sound 398 = .ok (.lstore 9, 2) := by decide +kernel
theorem dL_sound_400 : decode cL_sound 400 = .ok (.iconst 0, 1) := by decide +kernel
theorem dL_sound_401 : decode cL_sound 401 = .ok (.istore 11, 2) := by decide +kernel
theorem dL_sound_403 : decode cL_sound 403 = .ok (.iload 11, 2) := by decide +kernel
theorem dL_sound_405 : decode cL_sound 405 = .ok (.iload_n 2, 1) := by decide +kernel
theorem dL_sound_406 : decode cL_sound 406 = .ok (.if_icmp .gt 40, 3) := by decide +kernel
theorem dL_sound_409 : decode cL_sound 409 = .ok (.iload 8, 2) := by decide +kernel
theorem dL_sound_411 : decode cL_sound 411 = .ok (.aload_n 0, 1) := by decide +kernel
theorem dL_sound_412 : decode cL_sound 412 = .ok (.iload 11, 2) := by decide +kernel
theorem dL_sound_414 : decode cL_sound 414 = .ok (.invokevirtual 32, 3) := by decide +kernel
theorem dL_sound_417 : decode cL_sound 417 = .ok (.ifCond .le 7, 3) := by decide +kernel
theorem dL_sound_420 : decode cL_sound 420 = .ok (.iconst 1, 1) := by decide +kernel
theorem dL_sound_421 : decode cL_sound 421 = .ok (.goto 4, 3) := by decide +kernel
theorem dL_sound_424 : decode cL_sound 424 = .ok (.iconst 0, 1) := by decide +kernel
theorem dL_sound_425 : decode cL_sound 425 = .ok (.iadd, 1) := by decide +kernel
theorem dL_sound_426 : decode cL_sound 426 = .ok (.istore 8, 2) := by decide +kernel
theorem dL_sound_428 : decode cL_sound 428 = .ok (.lload 9, 2) := by decide +kernel
theorem dL_sound_430 : decode cL_sound 430 = .ok (.aload_n 0, 1) := by decide +kernel
theorem dL_sound_431 : decode cL_sound 431 = .ok (.iload 11, 2) := by decide +kernel
theorem dL_sound_433 : decode cL_sound 433 = .ok (.invokevirtual 32, 3) := by decide +kernel
theorem dL_sound_436 : decode cL_sound 436 = .ok (.i2l, 1) := by decide +kernel
theorem dL_sound_437 : decode cL_sound 437 = .ok (.ladd, 1) := by decide +kernel
theorem dL_sound_438 : decode cL_sound 438 = .ok (.lstore 9, 2) := by decide +kernel
theorem dL_sound_440 : decode cL_sound 440 = .ok (.iinc 11 1, 3) := by decide +kernel
theorem dL_sound_443 : decode cL_sound 443 = .ok (.goto (-40), 3) := by decide +kernel
theorem dL_sound_446 : decode cL_sound 446 = .ok (.iconst 0, 1) := by decide +kernel
theorem dL_sound_447 : decode cL_sound 447 = .ok (.istore 11, 2) := by decide +kernel
theorem dL_sound_449 : decode cL_sound 449 = .ok (.iconst 0, 1) := by decide +kernel
theorem dL_sound_450 : decode cL_sound 450 = .ok (.istore 12, 2) := by decide +kernel
theorem dL_sound_452 : decode cL_sound 452 = .ok (.iload 12, 2) := by decide +kernel
theorem dL_sound_454 : decode cL_sound 454 = .ok (.aload_n 0, 1) := by decide +kernel
theorem dL_sound_455 : decode cL_sound 455 = .ok (.iconst 2, 1) := by decide +kernel
theorem dL_sound_456 : decode cL_sound 456 = .ok (.invokevirtual 9, 3) := by decide +kernel
theorem dL_sound_459 : decode cL_sound 459 = .ok (.if_icmp .ge 183, 3) := by decide +kernel
theorem dL_sound_462 : decode cL_sound 462 = .ok (.aload_n 0, 1) := by decide +kernel
theorem dL_sound_463 : decode cL_sound 463 = .ok (.iload 12, 2) := by decide +kernel
theorem dL_sound_465 : decode cL_sound 465 = .ok (.iconst 4, 1) := by decide +kernel
theorem dL_sound_466 : decode cL_sound 466 = .ok (.invokevirtual 35, 3) := by decide +kernel
theorem dL_sound_469 : decode cL_sound 469 = .ok (.ifCond .ne 7, 3) := by decide +kernel
theorem dL_sound_472 : decode cL_sound 472 = .ok (.iconst 1, 1) := by decide +kernel
theorem dL_sound_473 : decode cL_sound 473 = .ok (.goto 4, 3) := by decide +kernel
theorem dL_sound_476 : decode cL_sound 476 = .ok (.iconst 0, 1) := by decide +kernel
theorem dL_sound_477 : decode cL_sound 477 = .ok (.istore 13, 2) := by decide +kernel
theorem dL_sound_479 : decode cL_sound 479 = .ok (.iload 11, 2) := by decide +kernel
theorem dL_sound_481 : decode cL_sound 481 = .ok (.iload 13, 2) := by decide +kernel
theorem dL_sound_483 : decode cL_sound 483 = .ok (.ifCond .eq 7, 3) := by decide +kernel
theorem dL_sound_486 : decode cL_sound 486 = .ok (.iconst 1, 1) := by decide +kernel
theorem dL_sound_487 : decode cL_sound 487 = .ok (.goto 4, 3) := by decide +kernel
theorem dL_sound_490 : decode cL_sound 490 = .ok (.iconst 0, 1) := by decide +kernel
theorem dL_sound_491 : decode cL_sound 491 = .ok (.iadd, 1) := by decide +kernel
theorem dL_sound_492 : decode cL_sound 492 = .ok (.istore 11, 2) := by decide +kernel
theorem dL_sound_494 : decode cL_sound 494 = .ok (.iload 13, 2) := by decide +kernel
theorem dL_sound_496 : decode cL_sound 496 = .ok (.iload 6, 2) := by decide +kernel
theorem dL_sound_498 : decode cL_sound 498 = .ok (.iload 12, 2) := by decide +kernel
theorem dL_sound_500 : decode cL_sound 500 = .ok (.ishr, 1) := by decide +kernel
theorem dL_sound_501 : decode cL_sound 501 = .ok (.iconst 1, 1) := by decide +kernel
theorem dL_sound_502 : decode cL_sound 502 = .ok (.iand, 1) := by decide +kernel
theorem dL_sound_503 : decode cL_sound 503 = .ok (.iconst 1, 1) := by decide +kernel
theorem dL_sound_504 : decode cL_sound 504 = .ok (.if_icmp .ne 7, 3) := by decide +kernel
theorem dL_sound_507 : decode cL_sound 507 = .ok (.iconst 1, 1) := by decide +kernel
theorem dL_sound_508 : decode cL_sound 508 = .ok (.goto 4, 3) := by decide +kernel
theorem dL_sound_511 : decode cL_sound 511 = .ok (.iconst 0, 1) := by decide +kernel
theorem dL_sound_512 : decode cL_sound 512 = .ok (.if_icmp .ne 122, 3) := by decide +kernel
theorem dL_sound_515 : decode cL_sound 515 = .ok (.aload_n 0, 1) := by decide +kernel
theorem dL_sound_516 : decode cL_sound 516 = .ok (.iload 12, 2) := by decide +kernel
theorem dL_sound_518 : decode cL_sound 518 = .ok (.iconst 1, 1) := by decide +kernel
theorem dL_sound_519 : decode cL_sound 519 = .ok (.invokevirtual 35, 3) := by decide +kernel
theorem dL_sound_522 : decode cL_sound 522 = .ok (.ifCond .lt 112, 3) := by decide +kernel
theorem dL_sound_525 : decode cL_sound 525 = .ok (.aload_n 0, 1) := by decide +kernel
theorem dL_sound_526 : decode cL_sound 526 = .ok (.iload 12, 2) := by decide +kernel
theorem dL_sound_528 : decode cL_sound 528 = .ok (.iconst 1, 1) := by decide +kernel
theorem dL_sound_529 : decode cL_sound 529 = .ok (.invokevirtual 35, 3) := by decide +kernel
theorem dL_sound_532 : decode cL_sound 532 = .ok (.aload_n 0, 1) := by decide +kernel
theorem dL_sound_533 : decode cL_sound 533 = .ok (.aload_n 0, 1) := by decide +kernel
theorem dL_sound_534 : decode cL_sound 534 = .ok (.iload 12, 2) := by decide +kernel
theorem dL_sound_536 : decode cL_sound 536 = .ok (.iconst 0, 1) := by decide +kernel
theorem dL_sound_537 : decode cL_sound 537 = .ok (.invokevirtual 35, 3) := by decide +kernel
theorem dL_sound_540 : decode cL_sound 540 = .ok (.iconst 1, 1) := by decide +kernel
theorem dL_sound_541 : decode cL_sound 541 = .ok (.invokevirtual 21, 3) := by decide +kernel
theorem dL_sound_544 : decode cL_sound 544 = .ok (.if_icmp .ge 90, 3) := by decide +kernel
theorem dL_sound_547 : decode cL_sound 547 = .ok (.iload 13, 2) := by decide +kernel
theorem dL_sound_549 : decode cL_sound 549 = .ok (.ifCond .eq 22, 3) := by decide +kernel
theorem dL_sound_552 : decode cL_sound 552 = .ok (.aload_n 0, 1) := by decide +kernel
theorem dL_sound_553 : decode cL_sound 553 = .ok (.aload_n 0, 1) := by decide +kernel
theorem dL_sound_554 : decode cL_sound 554 = .ok (.iload 12, 2) := by decide +kernel
theorem dL_sound_556 : decode cL_sound 556 = .ok (.iconst 0, 1) := by decide +kernel
theorem dL_sound_557 : decode cL_sound 557 = .ok (.invokevirtual 35, 3) := by decide +kernel
theorem dL_sound_560 : decode cL_sound 560 = .ok (.invokevirtual 29, 3) := by decide +kernel
theorem dL_sound_563 : decode cL_sound 563 = .ok (.iload 12, 2) := by decide +kernel
theorem dL_sound_565 : decode cL_sound 565 = .ok (.ishr, 1) := by decide +kernel
theorem dL_sound_566 : decode cL_sound 566 = .ok (.iconst 1, 1) := by decide +kernel
theorem dL_sound_567 : decode cL_sound 567 = .ok (.iand, 1) := by decide +kernel
theorem dL_sound_568 : decode cL_sound 568 = .ok (.ifCond .eq 66, 3) := by decide +kernel
theorem dL_sound_571 : decode cL_sound 571 = .ok (.iload 13, 2) := by decide +kernel
theorem dL_sound_573 : decode cL_sound 573 = .ok (.ifCond .eq 21, 3) := by decide +kernel
theorem dL_sound_576 : decode cL_sound 576 = .ok (.aload_n 0, 1) := by decide +kernel
theorem dL_sound_577 : decode cL_sound 577 = .ok (.iload 12, 2) := by decide +kernel
theorem dL_sound_579 : decode cL_sound 579 = .ok (.iconst 3, 1) := by decide +kernel
theorem dL_sound_580 : decode cL_sound 580 = .ok (.invokevirtual 35, 3) := by decide +kernel
theorem dL_sound_583 : decode cL_sound 583 = .ok (.aload_n 0, 1) := by decide +kernel
theorem dL_sound_584 : decode cL_sound 584 = .ok (.iload 12, 2) := by decide +kernel
theorem dL_sound_586 : decode cL_sound 586 = .ok (.iconst 2, 1) := by decide +kernel
theorem dL_sound_587 : decode cL_sound 587 = .ok (.invokevirtual 35, 3) := by decide +kernel
theorem dL_sound_590 : decode cL_sound 590 = .ok (.ineg, 1) := by decide +kernel
theorem dL_sound_591 : decode cL_sound 591 = .ok (.if_icmp .lt 43, 3) := by decide +kernel
theorem dL_sound_594 : decode cL_sound 594 = .ok (.aload_n 0, 1) := by decide +kernel
theorem dL_sound_595 : decode cL_sound 595 = .ok (.iload 12, 2) := by decide +kernel
theorem dL_sound_597 : decode cL_sound 597 = .ok (.iconst 4, 1) := by decide +kernel
theorem dL_sound_598 : decode cL_sound 598 = .ok (.invokevirtual 35, 3) := by decide +kernel
theorem dL_sound_601 : decode cL_sound 601 = .ok (.iconst 1, 1) := by decide +kernel
theorem dL_sound_602 : decode cL_sound 602 = .ok (.if_icmp .ne 21, 3) := by decide +kernel
theorem dL_sound_605 : decode cL_sound 605 = .ok (.aload_n 0, 1) := by decide +kernel
theorem dL_sound_606 : decode cL_sound 606 = .ok (.iload 12, 2) := by decide +kernel
theorem dL_sound_608 : decode cL_sound 608 = .ok (.iconst 3, 1) := by decide +kernel
theorem dL_sound_609 : decode cL_sound 609 = .ok (.invokevirtual 35, 3) := by decide +kernel
theorem dL_sound_612 : decode cL_sound 612 = .ok (.aload_n 0, 1) := by decide +kernel
theorem dL_sound_613 : decode cL_sound 613 = .ok (.iload 12, 2) := by decide +kernel
theorem dL_sound_615 : decode cL_sound 615 = .ok (.iconst 2, 1) := by decide +kernel
theorem dL_sound_616 : decode cL_sound 616 = .ok (.invokevirtual 35, 3) := by decide +kernel
theorem dL_sound_619 : decode cL_sound 619 = .ok (.ineg, 1) := by decide +kernel
theorem dL_sound_620 : decode cL_sound 620 = .ok (.if_icmp .ge 14, 3) := by decide +kernel
theorem dL_sound_623 : decode cL_sound 623 = .ok (.aload_n 0, 1) := by decide +kernel
theorem dL_sound_624 : decode cL_sound 624 = .ok (.iload 12, 2) := by decide +kernel
theorem dL_sound_626 : decode cL_sound 626 = .ok (.iconst 5, 1) := by decide +kernel
theorem dL_sound_627 : decode cL_sound 627 = .ok (.invokevirtual 35, 3) := by decide +kernel
theorem dL_sound_630 : decode cL_sound 630 = .ok (.iload_n 2, 1) := by decide +kernel
theorem dL_sound_631 : decode cL_sound 631 = .ok (.if_icmp .le 5, 3) := by decide +kernel
theorem dL_sound_634 : decode cL_sound 634 = .ok (.iconst 0, 1) := by decide +kernel
theorem dL_sound_635 : decode cL_sound 635 = .ok (.ireturn, 1) := by decide +kernel
theorem dL_sound_636 : decode cL_sound 636 = .ok (.iinc 12 1, 3) := by decide +kernel
theorem dL_sound_639 : decode cL_sound 639 = .ok (.goto (-187), 3) := by decide +kernel
theorem dL_sound_642 : decode cL_sound 642 = .ok (.aload_n 0, 1) := by decide +kernel
theorem dL_sound_643 : decode cL_sound 643 = .ok (.iconst 4, 1) := by decide +kernel
theorem dL_sound_644 : decode cL_sound 644 = .ok (.invokevirtual 38, 3) := by decide +kernel
theorem dL_sound_647 : decode cL_sound 647 = .ok (.lload_n 3, 1) := by decide +kernel
theorem dL_sound_648 : decode cL_sound 648 = .ok (.lcmp, 1) := by decide +kernel
theorem dL_sound_649 : decode cL_sound 649 = .ok (.ifCond .ne 139, 3) := by decide +kernel
theorem dL_sound_652 : decode cL_sound 652 = .ok (.aload_n 0, 1) := by decide +kernel
theorem dL_sound_653 : decode cL_sound 653 = .ok (.iconst 5, 1) := by decide +kernel
theorem dL_sound_654 : decode cL_sound 654 = .ok (.invokevirtual 38, 3) := by decide +kernel
theorem dL_sound_657 : decode cL_sound 657 = .ok (.lload 9, 2) := by decide +kernel
theorem dL_sound_659 : decode cL_sound 659 = .ok (.lcmp, 1) := by decide +kernel
theorem dL_sound_660 : decode cL_sound 660 = .ok (.ifCond .ne 128, 3) := by decide +kernel
theorem dL_sound_663 : decode cL_sound 663 = .ok (.lload_n 3, 1) := by decide +kernel
theorem dL_sound_664 : decode cL_sound 664 = .ok (.lload 9, 2) := by decide +kernel
theorem dL_sound_666 : decode cL_sound 666 = .ok (.lcmp, 1) := by decide +kernel
theorem dL_sound_667 : decode cL_sound 667 = .ok (.ifCond .ne 121, 3) := by decide +kernel
theorem dL_sound_670 : decode cL_sound 670 = .ok (.lload_n 3, 1) := by decide +kernel
theorem dL_sound_671 : decode cL_sound 671 = .ok (.aload_n 0, 1) := by decide +kernel
theorem dL_sound_672 : decode cL_sound 672 = .ok (.iconst 0, 1) := by decide +kernel
theorem dL_sound_673 : decode cL_sound 673 = .ok (.invokevirtual 38, 3) := by decide +kernel
theorem dL_sound_676 : decode cL_sound 676 = .ok (.aload_n 0, 1) := by decide +kernel
theorem dL_sound_677 : decode cL_sound 677 = .ok (.iconst 1, 1) := by decide +kernel
theorem dL_sound_678 : decode cL_sound 678 = .ok (.invokevirtual 38, 3) := by decide +kernel
theorem dL_sound_681 : decode cL_sound 681 = .ok (.ladd, 1) := by decide +kernel
theorem dL_sound_682 : decode cL_sound 682 = .ok (.aload_n 0, 1) := by decide +kernel
theorem dL_sound_683 : decode cL_sound 683 = .ok (.iconst 2, 1) := by decide +kernel
theorem dL_sound_684 : decode cL_sound 684 = .ok (.invokevirtual 38, 3) := by decide +kernel
theorem dL_sound_687 : decode cL_sound 687 = .ok (.lsub, 1) := by decide +kernel
theorem dL_sound_688 : decode cL_sound 688 = .ok (.aload_n 0, 1) := by decide +kernel
theorem dL_sound_689 : decode cL_sound 689 = .ok (.iconst 3, 1) := by decide +kernel
theorem dL_sound_690 : decode cL_sound 690 = .ok (.invokevirtual 38, 3) := by decide +kernel
theorem dL_sound_693 : decode cL_sound 693 = .ok (.lsub, 1) := by decide +kernel
theorem dL_sound_694 : decode cL_sound 694 = .ok (.lcmp, 1) := by decide +kernel
theorem dL_sound_695 : decode cL_sound 695 = .ok (.ifCond .ne 93, 3) := by decide +kernel
theorem dL_sound_698 : decode cL_sound 698 = .ok (.aload_n 0, 1) := by decide +kernel
theorem dL_sound_699 : decode cL_sound 699 = .ok (.iconst 3, 1) := by decide +kernel
theorem dL_sound_700 : decode cL_sound 700 = .ok (.invokevirtual 9, 3) := by decide +kernel
theorem dL_sound_703 : decode cL_sound 703 = .ok (.iload 11, 2) := by decide +kernel
theorem dL_sound_705 : decode cL_sound 705 = .ok (.if_icmp .ne 83, 3) := by decide +kernel
theorem dL_sound_708 : decode cL_sound 708 = .ok (.aload_n 0, 1) := by decide +kernel
theorem dL_sound_709 : decode cL_sound 709 = .ok (.iconst 4, 1) := by decide +kernel
theorem dL_sound_710 : decode cL_sound 710 = .ok (.invokevirtual 9, 3) := by decide +kernel
theorem dL_sound_713 : decode cL_sound 713 = .ok (.iload 5, 2) := by decide +kernel
theorem dL_sound_715 : decode cL_sound 715 = .ok (.if_icmp .ne 73, 3) := by decide +kernel
theorem dL_sound_718 : decode cL_sound 718 = .ok (.aload_n 0, 1) := by decide +kernel
theorem dL_sound_719 : decode cL_sound 719 = .ok (.iconst 5, 1) := by decide +kernel
theorem dL_sound_720 : decode cL_sound 720 = .ok (.invokevirtual 9, 3) := by decide +kernel
theorem dL_sound_723 : decode cL_sound 723 = .ok (.iload 8, 2) := by decide +kernel
theorem dL_sound_725 : decode cL_sound 725 = .ok (.if_icmp .ne 63, 3) := by decide +kernel
theorem dL_sound_728 : decode cL_sound 728 = .ok (.aload_n 0, 1) := by decide +kernel
theorem dL_sound_729 : decode cL_sound 729 = .ok (.invokevirtual 42, 3) := by decide +kernel
theorem dL_sound_732 : decode cL_sound 732 = .ok (.iload 7, 2) := by decide +kernel
theorem dL_sound_734 : decode cL_sound 734 = .ok (.if_icmp .ne 54, 3) := by decide +kernel
theorem dL_sound_737 : decode cL_sound 737 = .ok (.aload_n 0, 1) := by decide +kernel
theorem dL_sound_738 : decode cL_sound 738 = .ok (.iconst 0, 1) := by decide +kernel
theorem dL_sound_739 : decode cL_sound 739 = .ok (.invokevirtual 15, 3) := by decide +kernel
theorem dL_sound_742 : decode cL_sound 742 = .ok (.ifCond .lt 46, 3) := by decide +kernel
theorem dL_sound_745 : decode cL_sound 745 = .ok (.aload_n 0, 1) := by decide +kernel
theorem dL_sound_746 : decode cL_sound 746 = .ok (.iconst 1, 1) := by decide +kernel
theorem dL_sound_747 : decode cL_sound 747 = .ok (.invokevirtual 15, 3) := by decide +kernel
theorem dL_sound_750 : decode cL_sound 750 = .ok (.ifCond .lt 38, 3) := by decide +kernel
theorem dL_sound_753 : decode cL_sound 753 = .ok (.aload_n 0, 1) := by decide +kernel
theorem dL_sound_754 : decode cL_sound 754 = .ok (.iconst 3, 1) := by decide +kernel
theorem dL_sound_755 : decode cL_sound 755 = .ok (.invokevirtual 15, 3) := by decide +kernel
theorem dL_sound_758 : decode cL_sound 758 = .ok (.ldc 20, 2) := by decide +kernel
theorem dL_sound_760 : decode cL_sound 760 = .ok (.if_icmp .ne 7, 3) := by decide +kernel
theorem dL_sound_763 : decode cL_sound 763 = .ok (.iconst 1, 1) := by decide +kernel
theorem dL_sound_764 : decode cL_sound 764 = .ok (.goto 4, 3) := by decide +kernel
theorem dL_sound_767 : decode cL_sound 767 = .ok (.iconst 0, 1) := by decide +kernel
theorem dL_sound_768 : decode cL_sound 768 = .ok (.aload_n 0, 1) := by decide +kernel
theorem dL_sound_769 : decode cL_sound 769 = .ok (.iconst 2, 1) := by decide +kernel
theorem dL_sound_770 : decode cL_sound 770 = .ok (.invokevirtual 15, 3) := by decide +kernel
theorem dL_sound_773 : decode cL_sound 773 = .ok (.ifCond .ne 7, 3) := by decide +kernel
theorem dL_sound_776 : decode cL_sound 776 = .ok (.iconst 1, 1) := by decide +kernel
theorem dL_sound_777 : decode cL_sound 777 = .ok (.goto 4, 3) := by decide +kernel
theorem dL_sound_780 : decode cL_sound 780 = .ok (.iconst 0, 1) := by decide +kernel
theorem dL_sound_781 : decode cL_sound 781 = .ok (.if_icmp .ne 7, 3) := by decide +kernel
theorem dL_sound_784 : decode cL_sound 784 = .ok (.iconst 1, 1) := by decide +kernel
theorem dL_sound_785 : decode cL_sound 785 = .ok (.goto 4, 3) := by decide +kernel
theorem dL_sound_788 : decode cL_sound 788 = .ok (.iconst 0, 1) := by decide +kernel
theorem dL_sound_789 : decode cL_sound 789 = .ok (.ireturn, 1) := by decide +kernel
