theorem dL_thoughts_0 : decode cL_thoughts 0 = .ok (.iconst 1, 1) := by decide +kernel
theorem dL_thoughts_1 : decode cL_thoughts 1 = .ok (.iload_n 1, 1) := by decide +kernel
theorem dL_thoughts_2 : decode cL_thoughts 2 = .ok (.bipush 40, 2) := by decide +kernel
theorem dL_thoughts_4 : decode cL_thoughts 4 = .ok (.invokestatic 51, 3) := by decide +kernel
theorem dL_thoughts_7 : decode cL_thoughts 7 = .ok (.iadd, 1) := by decide +kernel
theorem dL_thoughts_8 : decode cL_thoughts 8 = .ok (.istore_n 2, 1) := by decide +kernel
theorem dL_thoughts_9 : decode cL_thoughts 9 = .ok (.aload_n 0, 1) := by decide +kernel
theorem dL_thoughts_10 : decode cL_thoughts 10 = .ok (.iload_n 2, 1) := by decide +kernel
theorem dL_thoughts_11 : decode cL_thoughts 11 = .ok (.iconst 1, 1) := by decide +kernel
theorem dL_thoughts_12 : decode cL_thoughts 12 = .ok (.invokevirtual 54, 3) := by decide +kernel
theorem dL_thoughts_15 : decode cL_thoughts 15 = .ok (.istore_n 3, 1) := by decide +kernel
theorem dL_thoughts_16 : decode cL_thoughts 16 = .ok (.aload_n 0, 1) := by decide +kernel
theorem dL_thoughts_17 : decode cL_thoughts 17 = .ok (.iload_n 2, 1) := by decide +kernel
theorem dL_thoughts_18 : decode cL_thoughts 18 = .ok (.iconst 0, 1) := by decide +kernel
theorem dL_thoughts_19 : decode cL_thoughts 19 = .ok (.invokevirtual 54, 3) := by decide +kernel
theorem dL_thoughts_22 : decode cL_thoughts 22 = .ok (.istore 4, 2) := by decide +kernel
theorem dL_thoughts_24 : decode cL_thoughts 24 = .ok (.aload_n 0, 1) := by decide +kernel
theorem dL_thoughts_25 : decode cL_thoughts 25 = .ok (.iconst 0, 1) := by decide +kernel
theorem dL_thoughts_26 : decode cL_thoughts 26 = .ok (.invokevirtual 57, 3) := by decide +kernel
theorem dL_thoughts_29 : decode cL_thoughts 29 = .ok (.istore 5, 2) := by decide +kernel
theorem dL_thoughts_31 : decode cL_thoughts 31 = .ok (.aload_n 0, 1) := by decide +kernel
theorem dL_thoughts_32 : decode cL_thoughts 32 = .ok (.iconst 1, 1) := by decide +kernel
theorem dL_thoughts_33 : decode cL_thoughts 33 = .ok (.invokevirtual 9, 3) := by decide +kernel
theorem dL_thoughts_36 : decode cL_thoughts 36 = .ok (.istore 6, 2) := by decide +kernel
theorem dL_thoughts_38 : decode cL_thoughts 38 = .ok (.aload_n 0, 1) := by decide +kernel
theorem dL_thoughts_39 : decode cL_thoughts 39 = .ok (.iconst 4, 1) := by decide +kernel
theorem dL_thoughts_40 : decode cL_thoughts 40 = .ok (.invokevirtual 38, 3) := by decide +kernel
theorem dL_thoughts_43 : decode cL_thoughts 43 = .ok (.lstore 7, 2) := by decide +kernel
theorem dL_thoughts_45 : decode cL_thoughts 45 = .ok (.iload 6, 2) := by decide +kernel
theorem dL_thoughts_47 : decode cL_thoughts 47 = .ok (.iload_n 2, 1) := by decide +kernel
theorem dL_thoughts_48 : decode cL_thoughts 48 = .ok (.iadd, 1) := by decide +kernel
theorem dL_thoughts_49 : decode cL_thoughts 49 = .ok (.sipush 500, 3) := by decide +kernel
theorem dL_thoughts_52 : decode cL_thoughts 52 = .ok (.if_icmp .le 30, 3) := by decide +kernel
theorem dL_thoughts_55 : decode cL_thoughts 55 = .ok (.aload_n 0, 1) := by decide +kernel
theorem dL_thoughts_56 : decode cL_thoughts 56 = .ok (.iload_n 2, 1) := by decide +kernel
theorem dL_thoughts_57 : decode cL_thoughts 57 = .ok (.invokevirtual 46, 3) := by decide +kernel
theorem dL_thoughts_60 : decode cL_thoughts 60 = .ok (.ldc 60, 2) := by decide +kernel
theorem dL_thoughts_62 : decode cL_thoughts 62 = .ok (.if_icmp .ne 18, 3) := by decide +kernel
theorem dL_thoughts_65 : decode cL_thoughts 65 = .ok (.aload_n 0, 1) := by decide +kernel
theorem dL_thoughts_66 : decode cL_thoughts 66 = .ok (.iconst 4, 1) := by decide +kernel
theorem dL_thoughts_67 : decode cL_thoughts 67 = .ok (.invokevirtual 38, 3) := by decide +kernel
theorem dL_thoughts_70 : decode cL_thoughts 70 = .ok (.lload 7, 2) := by decide +kernel
theorem dL_thoughts_72 : decode cL_thoughts 72 = .ok (.lcmp, 1) := by decide +kernel
theorem dL_thoughts_73 : decode cL_thoughts 73 = .ok (.ifCond .ne 7, 3) := by decide +kernel
theorem dL_thoughts_76 : decode cL_thoughts 76 = .ok (.iconst 1, 1) := by decide +kernel
theorem dL_thoughts_77 : decode cL_thoughts 77 = .ok (.goto 4, 3) := by decide +kernel
theorem dL_thoughts_80 : decode cL_thoughts 80 = .ok (.iconst 0, 1) := by decide +kernel
theorem dL_thoughts_81 : decode cL_thoughts 81 = .ok (.ireturn, 1) := by decide +kernel
theorem dL_thoughts_82 : decode cL_thoughts 82 = .ok (.aload_n 0, 1) := by decide +kernel
theorem dL_thoughts_83 : decode cL_thoughts 83 = .ok (.iload_n 2, 1) := by decide +kernel
theorem dL_thoughts_84 : decode cL_thoughts 84 = .ok (.invokevirtual 46, 3) := by decide +kernel
theorem dL_thoughts_87 : decode cL_thoughts 87 = .ok (.istore 9, 2) := by decide +kernel
theorem dL_thoughts_89 : decode cL_thoughts 89 = .ok (.iload 9, 2) := by decide +kernel
theorem dL_thoughts_91 : decode cL_thoughts 91 = .ok (.iload_n 3, 1) := by decide +kernel
theorem dL_thoughts_92 : decode cL_thoughts 92 = .ok (.if_icmp .ne 73, 3) := by decide +kernel
theorem dL_thoughts_95 : decode cL_thoughts 95 = .ok (.aload_n 0, 1) := by decide +kernel
theorem dL_thoughts_96 : decode cL_thoughts 96 = .ok (.iconst 4, 1) := by decide +kernel
theorem dL_thoughts_97 : decode cL_thoughts 97 = .ok (.invokevirtual 38, 3) := by decide +kernel
theorem dL_thoughts_100 : decode cL_thoughts 100 = .ok (.iload 4, 2) := by decide +kernel
theorem dL_thoughts_102 : decode cL_thoughts 102 = .ok (.i2l, 1) := by decide +kernel
theorem dL_thoughts_103 : decode cL_thoughts 103 = .ok (.lcmp, 1) := by decide +kernel
theorem dL_thoughts_104 : decode cL_thoughts 104 = .ok (.ifCond .ne 61, 3) := by decide +kernel
theorem dL_thoughts_107 : decode cL_thoughts 107 = .ok (.iload 5, 2) := by decide +kernel
theorem dL_thoughts_109 : decode cL_thoughts 109 = .ok (.ldc 20, 2) := by decide +kernel
theorem dL_thoughts_111 : decode cL_thoughts 111 = .ok (.if_icmp .eq 13, 3) := by decide +kernel
theorem dL_thoughts_114 : decode cL_thoughts 114 = .ok (.iload 5, 2) := by decide +kernel
theorem dL_thoughts_116 : decode cL_thoughts 116 = .ok (.iload_n 2, 1) := by decide +kernel
theorem dL_thoughts_117 : decode cL_thoughts 117 = .ok (.if_icmp .gt 7, 3) := by decide +kernel
theorem dL_thoughts_120 : decode cL_thoughts 120 = .ok (.iconst 1, 1) := by decide +kernel
theorem dL_thoughts_121 : decode cL_thoughts 121 = .ok (.goto 4, 3) := by decide +kernel
theorem dL_thoughts_124 : decode cL_thoughts 124 = .ok (.iconst 0, 1) := by decide +kernel
theorem dL_thoughts_125 : decode cL_thoughts 125 = .ok (.iload_n 3, 1) := by decide +kernel
theorem dL_thoughts_126 : decode cL_thoughts 126 = .ok (.ifCond .le 7, 3) := by decide +kernel
theorem dL_thoughts_129 : decode cL_thoughts 129 = .ok (.iconst 1, 1) := by decide +kernel
theorem dL_thoughts_130 : decode cL_thoughts 130 = .ok (.goto 4, 3) := by decide +kernel
theorem dL_thoughts_133 : decode cL_thoughts 133 = .ok (.iconst 0, 1) := by decide +kernel
theorem dL_thoughts_134 : decode cL_thoughts 134 = .ok (.if_icmp .ne 31, 3) := by decide +kernel
theorem dL_thoughts_137 : decode cL_thoughts 137 = .ok (.aload_n 0, 1) := by decide +kernel
theorem dL_thoughts_138 : decode cL_thoughts 138 = .ok (.invokevirtual 61, 3) := by decide +kernel
theorem dL_thoughts_141 : decode cL_thoughts 141 = .ok (.ifCond .lt 24, 3) := by decide +kernel
theorem dL_thoughts_144 : decode cL_thoughts 144 = .ok (.aload_n 0, 1) := by decide +kernel
theorem dL_thoughts_145 : decode cL_thoughts 145 = .ok (.iconst 1, 1) := by decide +kernel
theorem dL_thoughts_146 : decode cL_thoughts 146 = .ok (.invokevirtual 9, 3) := by decide +kernel
theorem dL_thoughts_149 : decode cL_thoughts 149 = .ok (.iload 6, 2) := by decide +kernel
theorem dL_thoughts_151 : decode cL_thoughts 151 = .ok (.if_icmp .ne 14, 3) := by decide +kernel
theorem dL_thoughts_154 : decode cL_thoughts 154 = .ok (.aload_n 0, 1) := by decide +kernel
theorem dL_thoughts_155 : decode cL_thoughts 155 = .ok (.iconst 4, 1) := by decide +kernel
theorem dL_thoughts_156 : decode cL_thoughts 156 = .ok (.invokevirtual 38, 3) := by decide +kernel
theorem dL_thoughts_159 : decode cL_thoughts 159 = .ok (.lload 7, 2) := by decide +kernel
theorem dL_thoughts_161 : decode cL_thoughts 161 = .ok (.lcmp, 1) := by decide +kernel
theorem dL_thoughts_162 : decode cL_thoughts 162 = .ok (.ifCond .eq 5, 3) := by decide +kernel
theorem dL_thoughts_165 : decode cL_thoughts 165 = .ok (.iconst 0, 1) := by decide +kernel
theorem dL_thoughts_166 : decode cL_thoughts 166 = .ok (.ireturn, 1) := by decide +kernel
theorem dL_thoughts_167 : decode cL_thoughts 167 = .ok (.aload_n 0, 1) := by decide +kernel
theorem dL_thoughts_168 : decode cL_thoughts 168 = .ok (.invokevirtual 64, 3) := by decide +kernel
theorem dL_thoughts_171 : decode cL_thoughts 171 = .ok (.istore 10, 2) := by decide +kernel
theorem dL_thoughts_173 : decode cL_thoughts 173 = .ok (.aload_n 0, 1) := by decide +kernel
theorem dL_thoughts_174 : decode cL_thoughts 174 = .ok (.bipush 8, 2) := by decide +kernel
theorem dL_thoughts_176 : decode cL_thoughts 176 = .ok (.invokevirtual 9, 3) := by decide +kernel
theorem dL_thoughts_179 : decode cL_thoughts 179 = .ok (.istore 11, 2) := by decide +kernel
theorem dL_thoughts_181 : decode cL_thoughts 181 = .ok (.iload 10, 2) := by decide +kernel
theorem dL_thoughts_183 : decode cL_thoughts 183 = .ok (.ldc 20, 2) := by decide +kernel
theorem dL_thoughts_185 : decode cL_thoughts 185 = .ok (.if_icmp .ne 14, 3) := by decide +kernel
theorem dL_thoughts_188 : decode cL_thoughts 188 = .ok (.iload 11, 2) := by decide +kernel
theorem dL_thoughts_190 : decode cL_thoughts 190 = .ok (.ifCond .lt 7, 3) := by decide +kernel
theorem dL_thoughts_193 : decode cL_thoughts 193 = .ok (.iconst 1, 1) := by decide +kernel
theorem dL_thoughts_194 : decode cL_thoughts 194 = .ok (.goto 4, 3) := by decide +kernel
theorem dL_thoughts_197 : decode cL_thoughts 197 = .ok (.iconst 0, 1) := by decide +kernel
theorem dL_thoughts_198 : decode cL_thoughts 198 = .ok (.ireturn, 1) := by decide +kernel
theorem dL_thoughts_199 : decode cL_thoughts 199 = .ok (.lconst 0, 1) := by decide +kernel
theorem dL_thoughts_200 : decode cL_thoughts 200 = .ok (.lstore 12, 2) := by decide +kernel
theorem dL_thoughts_202 : decode cL_thoughts 202 = .ok (.aload_n 0, 1) := by decide +kernel
theorem dL_thoughts_203 : decode cL_thoughts 203 = .ok (.iconst 2, 1) := by decide +kernel
theorem dL_thoughts_204 : decode cL_thoughts 204 = .ok (.iload 10, 2) := by decide +kernel
theorem dL_thoughts_206 : decode cL_thoughts 206 = .ok (.invokevirtual 67, 3) := by decide +kernel
theorem dL_thoughts_209 : decode cL_thoughts 209 = .ok (.iload 11, 2) := by decide +kernel
theorem dL_thoughts_211 : decode cL_thoughts 211 = .ok (.if_icmp .eq 5, 3) := by decide +kernel
theorem dL_thoughts_214 : decode cL_thoughts 214 = .ok (.iconst 0, 1) := by decide +kernel
theorem dL_thoughts_215 : decode cL_thoughts 215 = .ok (.ireturn, 1) := by decide +kernel
theorem dL_thoughts_216 : decode cL_thoughts 216 = .ok (.iconst 0, 1) := by decide +kernel
theorem dL_thoughts_217 : decode cL_thoughts 217 = .ok (.istore 14, 2) := by decide +kernel
theorem dL_thoughts_219 : decode cL_thoughts 219 = .ok (.iload 14, 2) := by decide +kernel
theorem dL_thoughts_221 : decode cL_thoughts 221 = .ok (.aload_n 0, 1) := by decide +kernel
theorem dL_thoughts_222 : decode cL_thoughts 222 = .ok (.iconst 0, 1) := by decide +kernel
theorem dL_thoughts_223 : decode cL_thoughts 223 = .ok (.invokevirtual 9, 3) := by decide +kernel
theorem dL_thoughts_226 : decode cL_thoughts 226 = .ok (.if_icmp .ge 32, 3) := by decide +kernel
theorem dL_thoughts_229 : decode cL_thoughts 229 = .ok (.lload 12, 2) := by decide +kernel
theorem dL_thoughts_231 : decode cL_thoughts 231 = .ok (.aload_n 0, 1) := by decide +kernel
theorem dL_thoughts_232 : decode cL_thoughts 232 = .ok (.iload 14, 2) := by decide +kernel
theorem dL_thoughts_234 : decode cL_thoughts 234 = .ok (.bipush 7, 2) := by decide +kernel
theorem dL_thoughts_236 : decode cL_thoughts 236 = .ok (.invokevirtual 21, 3) := by decide +kernel
theorem dL_thoughts_239 : decode cL_thoughts 239 = .ok (.aload_n 0, 1) := by decide +kernel
theorem dL_thoughts_240 : decode cL_thoughts 240 = .ok (.iload 14, 2) := by decide +kernel
theorem dL_thoughts_242 : decode cL_thoughts 242 = .ok (.bipush 8, 2) := by decide +kernel
theorem dL_thoughts_244 : decode cL_thoughts 244 = .ok (.invokevirtual 21, 3) := by decide +kernel
theorem dL_thoughts_247 : decode cL_thoughts 247 = .ok (.isub, 1) := by decide +kernel
theorem dL_thoughts_248 : decode cL_thoughts 248 = .ok (.i2l, 1) := by decide +kernel
theorem dL_thoughts_249 : decode cL_thoughts 249 = .ok (.ladd, 1) := by decide +kernel
theorem dL_thoughts_250 : decode cL_thoughts 250 = .ok (.lstore 12, 2) := by decide +kernel
theorem dL_thoughts_252 : decode cL_thoughts 252 = .ok (.iinc 14 1, 3) := by decide +kernel
theorem dL_thoughts_255 : decode cL_thoughts 255 = .ok (.goto (-36), 3) := by decide +kernel
theorem dL_thoughts_258 : decode cL_thoughts 258 = .ok (.lload 12, 2) := by decide +kernel
theorem dL_thoughts_260 : decode cL_thoughts 260 = .ok (.lconst 0, 1) := by decide +kernel
theorem dL_thoughts_261 : decode cL_thoughts 261 = .ok (.lcmp, 1) := by decide +kernel
theorem dL_thoughts_262 : decode cL_thoughts 262 = .ok (.ifCond .lt 34, 3) := by decide +kernel
theorem dL_thoughts_265 : decode cL_thoughts 265 = .ok (.aload_n 0, 1) := by decide +kernel
theorem dL_thoughts_266 : decode cL_thoughts 266 = .ok (.invokevirtual 64, 3) := by decide +kernel
theorem dL_thoughts_269 : decode cL_thoughts 269 = .ok (.iload 10, 2) := by decide +kernel
theorem dL_thoughts_271 : decode cL_thoughts 271 = .ok (.if_icmp .ne 25, 3) := by decide +kernel
theorem dL_thoughts_274 : decode cL_thoughts 274 = .ok (.aload_n 0, 1) := by decide +kernel
theorem dL_thoughts_275 : decode cL_thoughts 275 = .ok (.invokevirtual 61, 3) := by decide +kernel
theorem dL_thoughts_278 : decode cL_thoughts 278 = .ok (.ifCond .lt 18, 3) := by decide +kernel
theorem dL_thoughts_281 : decode cL_thoughts 281 = .ok (.aload_n 0, 1) := by decide +kernel
theorem dL_thoughts_282 : decode cL_thoughts 282 = .ok (.bipush 8, 2) := by decide +kernel
theorem dL_thoughts_284 : decode cL_thoughts 284 = .ok (.invokevirtual 9, 3) := by decide +kernel
theorem dL_thoughts_287 : decode cL_thoughts 287 = .ok (.iload 11, 2) := by decide +kernel
theorem dL_thoughts_289 : decode cL_thoughts 289 = .ok (.if_icmp .ne 7, 3) := by decide +kernel
theorem dL_thoughts_292 : decode cL_thoughts 292 = .ok (.iconst 1, 1) := by decide +kernel
theorem dL_thoughts_293 : decode cL_thoughts 293 = .ok (.goto 4, 3) := by decide +kernel
theorem dL_thoughts_296 : decode cL_thoughts 296 = .ok (.iconst 0, 1) := by decide +kernel
theorem dL_thoughts_297 : decode cL_thoughts 297 = .ok (.ireturn, 1) := by decide +kernel
theorem dL_refuses_0 : decode cL_refuses 0 = .ok (.aload_n 0, 1) := by decide +kernel
theorem dL_refuses_1 : decode cL_refuses 1 = .ok (.bipush 13, 2) := by decide +kernel
theorem dL_refuses_3 : decode cL_refuses 3 = .ok (.invokevirtual 9, 3) := by decide +kernel
theorem dL_refuses_6 : decode cL_refuses 6 = .ok (.istore_n 1, 1) := by decide +kernel
theorem dL_refuses_7 : decode cL_refuses 7 = .ok (.aload_n 0, 1) := by decide +kernel
theorem dL_refuses_8 : decode cL_refuses 8 = .ok (.iconst 0, 1) := by decide +kernel
theorem dL_refuses_9 : decode cL_refuses 9 = .ok (.invokevirtual 9, 3) := by decide +kernel
theorem dL_refuses_12 : decode cL_refuses 12 = .ok (.istore_n 2, 1) := by decide +kernel
theorem dL_refuses_13 : decode cL_refuses 13 = .ok (.aload_n 0, 1) := by decide +kernel
theorem dL_refuses_14 : decode cL_refuses 14 = .ok (.iconst 2, 1) := by decide +kernel
theorem dL_refuses_15 : decode cL_refuses 15 = .ok (.invokevirtual 9, 3) := by decide +kernel
theorem dL_refuses_18 : decode cL_refuses 18 = .ok (.istore_n 3, 1) := by decide +kernel
theorem dL_refuses_19 : decode cL_refuses 19 = .ok (.aload_n 0, 1) := by decide +kernel
theorem dL_refuses_20 : decode cL_refuses 20 = .ok (.bipush 7, 2) := by decide +kernel
theorem dL_refuses_22 : decode cL_refuses 22 = .ok (.iconst 0, 1) := by decide +kernel
theorem dL_refuses_23 : decode cL_refuses 23 = .ok (.invokevirtual 67, 3) := by decide +kernel
theorem dL_refuses_26 : decode cL_refuses 26 = .ok (.ldc 70, 2) := by decide +kernel
theorem dL_refuses_28 : decode cL_refuses 28 = .ok (.if_icmp .ne 210, 3) := by decide +kernel
theorem dL_refuses_31 : decode cL_refuses 31 = .ok (.aload_n 0, 1) := by decide +kernel
theorem dL_refuses_32 : decode cL_refuses 32 = .ok (.iconst 0, 1) := by decide +kernel
theorem dL_refuses_33 : decode cL_refuses 33 = .ok (.sipush 5001, 3) := by decide +kernel
theorem dL_refuses_36 : decode cL_refuses 36 = .ok (.invokevirtual 67, 3) := by decide +kernel
theorem dL_refuses_39 : decode cL_refuses 39 = .ok (.ldc 70, 2) := by decide +kernel
theorem dL_refuses_41 : decode cL_refuses 41 = .ok (.if_icmp .ne 197, 3) := by decide +kernel
theorem dL_refuses_44 : decode cL_refuses 44 = .ok (.aload_n 0, 1) := by decide +kernel
theorem dL_refuses_45 : decode cL_refuses 45 = .ok (.iconst 1, 1) := by decide +kernel
theorem dL_refuses_46 : decode cL_refuses 46 = .ok (.sipush 501, 3) := by decide +kernel
theorem dL_refuses_49 : decode cL_refuses 49 = .ok (.invokevirtual 67, 3) := by decide +kernel
theorem dL_refuses_52 : decode cL_refuses 52 = .ok (.ldc 70, 2) := by decide +kernel
theorem dL_refuses_54 : decode cL_refuses 54 = .ok (.if_icmp .ne 184, 3) := by decide +kernel
theorem dL_refuses_57 : decode cL_refuses 57 = .ok (.aload_n 0, 1) := by decide +kernel
theorem dL_refuses_58 : decode cL_refuses 58 = .ok (.iconst 2, 1) := by decide +kernel
theorem dL_refuses_59 : decode cL_refuses 59 = .ok (.sipush 9001, 3) := by decide +kernel
theorem dL_refuses_62 : decode cL_refuses 62 = .ok (.invokevirtual 67, 3) := by decide +kernel
theorem dL_refuses_65 : decode cL_refuses 65 = .ok (.ldc 70, 2) := by decide +kernel
theorem dL_refuses_67 : decode cL_refuses 67 = .ok (.if_icmp .ne 171, 3) := by decide +kernel
theorem dL_refuses_70 : decode cL_refuses 70 = .ok (.aload_n 0, 1) := by decide +kernel
theorem dL_refuses_71 : decode cL_refuses 71 = .ok (.iconst 5, 1) := by decide +kernel
theorem dL_refuses_72 : decode cL_refuses 72 = .ok (.iconst 0, 1) := by decide +kernel
theorem dL_refuses_73 : decode cL_refuses 73 = .ok (.invokevirtual 67, 3) := by decide +kernel
theorem dL_refuses_76 : decode cL_refuses 76 = .ok (.ldc 70, 2) := by decide +kernel
theorem dL_refuses_78 : decode cL_refuses 78 = .ok (.if_icmp .ne 160, 3) := by decide +kernel
theorem dL_refuses_81 : decode cL_refuses 81 = .ok (.aload_n 0, 1) := by decide +kernel
theorem dL_refuses_82 : decode cL_refuses 82 = .ok (.bipush 6, 2) := by decide +kernel
theorem dL_refuses_84 : decode cL_refuses 84 = .ok (.iconst (-1), 1) := by decide +kernel
theorem dL_refuses_85 : decode cL_refuses 85 = .ok (.invokevirtual 67, 3) := by decide +kernel
theorem dL_refuses_88 : decode cL_refuses 88 = .ok (.ldc 70, 2) := by decide +kernel
theorem dL_refuses_90 : decode cL_refuses 90 = .ok (.if_icmp .ne 148, 3) := by decide +kernel
theorem dL_refuses_93 : decode cL_refuses 93 = .ok (.aload_n 0, 1) := by decide +kernel
theorem dL_refuses_94 : decode cL_refuses 94 = .ok (.sipush 5001, 3) := by decide +kernel
theorem dL_refuses_97 : decode cL_refuses 97 = .ok (.bipush 100, 2) := by decide +kernel
theorem dL_refuses_99 : decode cL_refuses 99 = .ok (.iconst 0, 1) := by decide +kernel
theorem dL_refuses_100 : decode cL_refuses 100 = .ok (.iconst 0, 1) := by decide +kernel
theorem dL_refuses_101 : decode cL_refuses 101 = .ok (.invokevirtual 71, 3) := by decide +kernel
theorem dL_refuses_104 : decode cL_refuses 104 = .ok (.ldc 70, 2) := by decide +kernel
theorem dL_refuses_106 : decode cL_refuses 106 = .ok (.if_icmp .ne 132, 3) := by decide +kernel
theorem dL_refuses_109 : decode cL_refuses 109 = .ok (.aload_n 0, 1) := by decide +kernel
theorem dL_refuses_110 : decode cL_refuses 110 = .ok (.iconst 0, 1) := by decide +kernel
theorem dL_refuses_111 : decode cL_refuses 111 = .ok (.bipush 99, 2) := by decide +kernel
theorem dL_refuses_113 : decode cL_refuses 113 = .ok (.iconst 0, 1) := by decide +kernel
theorem dL_refuses_114 : decode cL_refuses 114 = .ok (.iconst 0, 1) := by decide +kernel
theorem dL_refuses_115 : decode cL_refuses 115 = .ok (.invokevirtual 71, 3) := by decide +kernel
theorem dL_refuses_118 : decode cL_refuses 118 = .ok (.ldc 70, 2) := by decide +kernel
theorem dL_refuses_120 : decode cL_refuses 120 = .ok (.if_icmp .ne 118, 3) := by decide +kernel
theorem dL_refuses_123 : decode cL_refuses 123 = .ok (.aload_n 0, 1) := by decide +kernel
theorem dL_refuses_124 : decode cL_refuses 124 = .ok (.iconst 0, 1) := by decide +kernel
theorem dL_refuses_125 : decode cL_refuses 125 = .ok (.bipush 100, 2) := by decide +kernel
theorem dL_refuses_127 : decode cL_refuses 127 = .ok (.sipush 501, 3) := by decide +kernel
theorem dL_refuses_130 : decode cL_refuses 130 = .ok (.iconst 0, 1) := by decide +kernel
theorem dL_refuses_131 : decode cL_refuses 131 = .ok (.invokevirtual 71, 3) := by decide +kernel
theorem dL_refuses_134 : decode cL_refuses 134 = .ok (.ldc 70, 2) := by decide +kernel
theorem dL_refuses_136 : decode cL_refuses 136 = .ok (.if_icmp .ne 102, 3) := by decide +kernel
theorem dL_refuses_139 : decode cL_refuses 139 = .ok (.aload_n 0, 1) := by decide +kernel
theorem dL_refuses_140 : decode cL_refuses 140 = .ok (.iconst 0, 1) := by decide +kernel
theorem dL_refuses_141 : decode cL_refuses 141 = .ok (.bipush 100, 2) := by decide +kernel
theorem dL_refuses_143 : decode cL_refuses 143 = .ok (.iconst 0, 1) := by decide +kernel
theorem dL_refuses_144 : decode cL_refuses 144 = .ok (.ldc 75, 2) := by decide +kernel
theorem dL_refuses_146 : decode cL_refuses 146 = .ok (.invokevirtual 71, 3) := by decide +kernel
theorem dL_refuses_149 : decode cL_refuses 149 = .ok (.ldc 70, 2) := by decide +kernel
theorem dL_refuses_151 : decode cL_refuses 151 = .ok (.if_icmp .ne 87, 3) := by decide +kernel
theorem dL_refuses_154 : decode cL_refuses 154 = .ok (.aload_n 0, 1) := by decide +kernel
theorem dL_refuses_155 : decode cL_refuses 155 = .ok (.iload_n 2, 1) := by decide +kernel
theorem dL_refuses_156 : decode cL_refuses 156 = .ok (.iconst 0, 1) := by decide +kernel
theorem dL_refuses_157 : decode cL_refuses 157 = .ok (.invokevirtual 76, 3) := by decide +kernel
theorem dL_refuses_160 : decode cL_refuses 160 = .ok (.ldc 70, 2) := by decide +kernel
theorem dL_refuses_162 : decode cL_refuses 162 = .ok (.if_icmp .ne 76, 3) := by decide +kernel
theorem dL_refuses_165 : decode cL_refuses 165 = .ok (.aload_n 0, 1) := by decide +kernel
theorem dL_refuses_166 : decode cL_refuses 166 = .ok (.iload_n 2, 1) := by decide +kernel
theorem dL_refuses_167 : decode cL_refuses 167 = .ok (.iconst 0, 1) := by decide +kernel
theorem dL_refuses_168 : decode cL_refuses 168 = .ok (.invokevirtual 21, 3) := by decide +kernel
theorem dL_refuses_171 : decode cL_refuses 171 = .ok (.ldc 70, 2) := by decide +kernel
theorem dL_refuses_173 : decode cL_refuses 173 = .ok (.if_icmp .ne 65, 3) := by decide +kernel
theorem dL_refuses_176 : decode cL_refuses 176 = .ok (.aload_n 0, 1) := by decide +kernel
theorem dL_refuses_177 : decode cL_refuses 177 = .ok (.iload_n 2, 1) := by decide +kernel
theorem dL_refuses_178 : decode cL_refuses 178 = .ok (.iconst 0, 1) := by decide +kernel
theorem dL_refuses_179 : decode cL_refuses 179 = .ok (.iconst 0, 1) := by decide +kernel
theorem dL_refuses_180 : decode cL_refuses 180 = .ok (.invokevirtual 25, 3) := by decide +kernel
theorem dL_refuses_183 : decode cL_refuses 183 = .ok (.ldc 70, 2) := by decide +kernel
theorem dL_refuses_185 : decode cL_refuses 185 = .ok (.if_icmp .ne 53, 3) := by decide +kernel
theorem dL_refuses_188 : decode cL_refuses 188 = .ok (.aload_n 0, 1) := by decide +kernel
theorem dL_refuses_189 : decode cL_refuses 189 = .ok (.sipush 501, 3) := by decide +kernel
theorem dL_refuses_192 : decode cL_refuses 192 = .ok (.invokevirtual 32, 3) := by decide +kernel
theorem dL_refuses_195 : decode cL_refuses 195 = .ok (.ldc 70, 2) := by decide +kernel
theorem dL_refuses_197 : decode cL_refuses 197 = .ok (.if_icmp .ne 41, 3) := by decide +kernel
theorem dL_refuses_200 : decode cL_refuses 200 = .ok (.aload_n 0, 1) := by decide +kernel
theorem dL_refuses_201 : decode cL_refuses 201 = .ok (.iconst 4, 1) := by decide +kernel
theorem dL_refuses_202 : decode cL_refuses 202 = .ok (.invokevirtual 15, 3) := by decide +kernel
theorem dL_refuses_205 : decode cL_refuses 205 = .ok (.ldc 70, 2) := by decide +kernel
theorem dL_refuses_207 : decode cL_refuses 207 = .ok (.if_icmp .ne 31, 3) := by decide +kernel
theorem dL_refuses_210 : decode cL_refuses 210 = .ok (.aload_n 0, 1) := by decide +kernel
theorem dL_refuses_211 : decode cL_refuses 211 = .ok (.bipush 6, 2) := by decide +kernel
theorem dL_refuses_213 : decode cL_refuses 213 = .ok (.invokevirtual 38, 3) := by decide +kernel
theorem dL_refuses_216 : decode cL_refuses 216 = .ok (.ldc2_w 79, 3) := by decide +kernel
theorem dL_refuses_219 : decode cL_refuses 219 = .ok (.lcmp, 1) := by decide +kernel
theorem dL_refuses_220 : decode cL_refuses 220 = .ok (.ifCond .ne 18, 3) := by decide +kernel
theorem dL_refuses_223 : decode cL_refuses 223 = .ok (.aload_n 0, 1) := by decide +kernel
theorem dL_refuses_224 : decode cL_refuses 224 = .ok (.bipush 15, 2) := by decide +kernel
theorem dL_refuses_226 : decode cL_refuses 226 = .ok (.invokevirtual 9, 3) := by decide +kernel
theorem dL_refuses_229 : decode cL_refuses 229 = .ok (.ldc 70, 2) := by decide +kernel
theorem dL_refuses_231 : decode cL_refuses 231 = .ok (.if_icmp .ne 7, 3) := by decide +kernel
theorem dL_refuses_234 : decode cL_refuses 234 = .ok (.iconst 1, 1) := by decide +kernel
theorem dL_refuses_235 : decode cL_refuses 235 = .ok (.goto 4, 3) := by decide +kernel
theorem dL_refuses_238 : decode cL_refuses 238 = .ok (.iconst 0, 1) := by decide +kernel
theorem dL_refuses_239 : decode cL_refuses 239 = .ok (.istore 4, 2) := by decide +kernel
theorem dL_refuses_241 : decode cL_refuses 241 = .ok (.iload 4, 2) := by decide +kernel
theorem dL_refuses_243 : decode cL_refuses 243 = .ok (.ifCond .eq 124, 3) := by decide +kernel
theorem dL_refuses_246 : decode cL_refuses 246 = .ok (.aload_n 0, 1) := by decide +kernel
theorem dL_refuses_247 : decode cL_refuses 247 = .ok (.iload_n 2, 1) := by decide +kernel
theorem dL_refuses_248 : decode cL_refuses 248 = .ok (.iconst 0, 1) := by decide +kernel
theorem dL_refuses_249 : decode cL_refuses 249 = .ok (.iconst 1, 1) := by decide +kernel
theorem dL_refuses_250 : decode cL_refuses 250 = .ok (.invokevirtual 81, 3) := by decide +kernel
theorem dL_refuses_253 : decode cL_refuses 253 = .ok (.ldc 70, 2) := by decide +kernel
theorem dL_refuses_255 : decode cL_refuses 255 = .ok (.if_icmp .ne 112, 3) := by decide +kernel
theorem dL_refuses_258 : decode cL_refuses 258 = .ok (.aload_n 0, 1) := by decide +kernel
theorem dL_refuses_259 : decode cL_refuses 259 = .ok (.iload_n 3, 1) := by decide +kernel
theorem dL_refuses_260 : decode cL_refuses 260 = .ok (.invokevirtual 84, 3) := by decide +kernel
theorem dL_refuses_263 : decode cL_refuses 263 = .ok (.ldc 70, 2) := by decide +kernel
theorem dL_refuses_265 : decode cL_refuses 265 = .ok (.if_icmp .ne 102, 3) := by decide +kernel
theorem dL_refuses_268 : decode cL_refuses 268 = .ok (.aload_n 0, 1) := by decide +kernel
theorem dL_refuses_269 : decode cL_refuses 269 = .ok (.iload_n 3, 1) := by decide +kernel
theorem dL_refuses_270 : decode cL_refuses 270 = .ok (.iconst 0, 1) := by decide +kernel
theorem dL_refuses_271 : decode cL_refuses 271 = .ok (.invokevirtual 35, 3) := by decide +kernel
theorem dL_refuses_274 : decode cL_refuses 274 = .ok (.ldc 70, 2) := by decide +kernel
theorem dL_refuses_276 : decode cL_refuses 276 = .ok (.if_icmp .ne 91, 3) := by decide +kernel
theorem dL_refuses_279 : decode cL_refuses 279 = .ok (.aload_n 0, 1) := by decide +kernel
theorem dL_refuses_280 : decode cL_refuses 280 = .ok (.iconst (-1), 1) := by decide +kernel
theorem dL_refuses_281 : decode cL_refuses 281 = .ok (.invokevirtual 29, 3) := by decide +kernel
theorem dL_refuses_284 : decode cL_refuses 284 = .ok (.ldc 70, 2) := by decide +kernel
theorem dL_refuses_286 : decode cL_refuses 286 = .ok (.if_icmp .ne 81, 3) := by decide +kernel
theorem dL_refuses_289 : decode cL_refuses 289 = .ok (.aload_n 0, 1) := by decide +kernel
theorem dL_refuses_290 : decode cL_refuses 290 = .ok (.iconst 0, 1) := by decide +kernel
theorem dL_refuses_291 : decode cL_refuses 291 = .ok (.invokevirtual 46, 3) := by decide +kernel
theorem dL_refuses_294 : decode cL_refuses 294 = .ok (.ldc 70, 2) := by decide +kernel
theorem dL_refuses_296 : decode cL_refuses 296 = .ok (.if_icmp .ne 71, 3) := by decide +kernel
theorem dL_refuses_299 : decode cL_refuses 299 = .ok (.aload_n 0, 1) := by decide +kernel
theorem dL_refuses_300 : decode cL_refuses 300 = .ok (.bipush 101, 2) := by decide +kernel
theorem dL_refuses_302 : decode cL_refuses 302 = .ok (.invokevirtual 46, 3) := by decide +kernel
theorem dL_refuses_305 : decode cL_refuses 305 = .ok (.ldc 70, 2) := by decide +kernel
theorem dL_refuses_307 : decode cL_refuses 307 = .ok (.if_icmp .ne 60, 3) := by decide +kernel
theorem dL_refuses_310 : decode cL_refuses 310 = .ok (.aload_n 0, 1) := by decide +kernel
theorem dL_refuses_311 : decode cL_refuses 311 = .ok (.iconst 0, 1) := by decide +kernel
theorem dL_refuses_312 : decode cL_refuses 312 = .ok (.iconst 0, 1) := by decide +kernel
theorem dL_refuses_313 : decode cL_refuses 313 = .ok (.invokevirtual 54, 3) := by decide +kernel
theorem dL_refuses_316 : decode cL_refuses 316 = .ok (.ldc 70, 2) := by decide +kernel
theorem dL_refuses_318 : decode cL_refuses 318 = .ok (.if_icmp .ne 49, 3) := by decide +kernel
theorem dL_refuses_321 : decode cL_refuses 321 = .ok (.aload_n 0, 1) := by decide +kernel
theorem dL_refuses_322 : decode cL_refuses 322 = .ok (.iconst 1, 1) := by decide +kernel
theorem dL_refuses_323 : decode cL_refuses 323 = .ok (.iconst 5, 1) := by decide +kernel
theorem dL_refuses_324 : decode cL_refuses 324 = .ok (.invokevirtual 54, 3) := by decide +kernel
theorem dL_refuses_327 : decode cL_refuses 327 = .ok (.ldc 70, 2) := by decide +kernel
theorem dL_refuses_329 : decode cL_refuses 329 = .ok (.if_icmp .ne 38, 3) := by decide +kernel
theorem dL_refuses_332 : decode cL_refuses 332 = .ok (.aload_n 0, 1) := by decide +kernel
theorem dL_refuses_333 : decode cL_refuses 333 = .ok (.iconst 3, 1) := by decide +kernel
theorem dL_refuses_334 : decode cL_refuses 334 = .ok (.invokevirtual 57, 3) := by decide +kernel
theorem dL_refuses_337 : decode cL_refuses 337 = .ok (.ldc 70, 2) := by decide +kernel
theorem dL_refuses_339 : decode cL_refuses 339 = .ok (.if_icmp .ne 28, 3) := by decide +kernel
theorem dL_refuses_342 : decode cL_refuses 342 = .ok (.aload_n 0, 1) := by decide +kernel
theorem dL_refuses_343 : decode cL_refuses 343 = .ok (.bipush 31, 2) := by decide +kernel
theorem dL_refuses_345 : decode cL_refuses 345 = .ok (.invokevirtual 87, 3) := by decide +kernel
theorem dL_refuses_348 : decode cL_refuses 348 = .ok (.ldc 70, 2) := by decide +kernel
theorem dL_refuses_350 : decode cL_refuses 350 = .ok (.if_icmp .ne 17, 3) := by decide +kernel
theorem dL_refuses_353 : decode cL_refuses 353 = .ok (.aload_n 0, 1) := by decide +kernel
theorem dL_refuses_354 : decode cL_refuses 354 = .ok (.iconst 2, 1) := by decide +kernel
theorem dL_refuses_355 : decode cL_refuses 355 = .ok (.invokevirtual 90, 3) := by decide +kernel
theorem dL_refuses_358 : decode cL_refuses 358 = .ok (.ldc 70, 2) := by decide +kernel
theorem dL_refuses_360 : decode cL_refuses 360 = .ok (.if_icmp .ne 7, 3) := by decide +kernel
theorem dL_refuses_363 : decode cL_refuses 363 = .ok (.iconst 1, 1) := by decide +kernel
theorem dL_refuses_364 : decode cL_refuses 364 = .ok (.goto 4, 3) := by decide +kernel
theorem dL_refuses_367 : decode cL_refuses 367 = .ok (.iconst 0, 1) := by decide +kernel
theorem dL_refuses_368 : decode cL_refuses 368 = .ok (.istore 4, 2) := by decide +kernel
theorem dL_refuses_370 : decode cL_refuses 370 = .ok (.iload 4, 2) := by decide +kernel
theorem dL_refuses_372 : decode cL_refuses 372 = .ok (.ifCond .eq 35, 3) := by decide +kernel
theorem dL_refuses_375 : decode cL_refuses 375 = .ok (.aload_n 0, 1) := by decide +kernel
theorem dL_refuses_376 : decode cL_refuses 376 = .ok (.bipush 13, 2) := by decide +kernel
theorem dL_refuses_378 : decode cL_refuses 378 = .ok (.invokevirtual 9, 3) := by decide +kernel
theorem dL_refuses_381 : decode cL_refuses 381 = .ok (.iload_n 1, 1) := by decide +kernel
theorem dL_refuses_382 : decode cL_refuses 382 = .ok (.if_icmp .ne 25, 3) := by decide +kernel
theorem dL_refuses_385 : decode cL_refuses 385 = .ok (.aload_n 0, 1) := by decide +kernel
theorem dL_refuses_386 : decode cL_refuses 386 = .ok (.iconst 0, 1) := by decide +kernel
theorem dL_refuses_387 : decode cL_refuses 387 = .ok (.invokevirtual 9, 3) := by decide +kernel
theorem dL_refuses_390 : decode cL_refuses 390 = .ok (.iload_n 2, 1) := by decide +kernel
theorem dL_refuses_391 : decode cL_refuses 391 = .ok (.if_icmp .ne 16, 3) := by decide +kernel
theorem dL_refuses_394 : decode cL_refuses 394 = .ok (.aload_n 0, 1) := by decide +kernel
theorem dL_refuses_395 : decode cL_refuses 395 = .ok (.iconst 2, 1) := by decide +kernel
theorem dL_refuses_396 : decode cL_refuses 396 = .ok (.invokevirtual 9, 3) := by decide +kernel
theorem dL_refuses_399 : decode cL_refuses 399 = .ok (.iload_n 3, 1) := by decide +kernel
theorem dL_refuses_400 : decode cL_refuses 400 = .ok (.if_icmp .ne 7, 3) := by decide +kernel
theorem dL_refuses_403 : decode cL_refuses 403 = .ok (.iconst 1, 1) := by decide +kernel
theorem dL_refuses_404 : decode cL_refuses 404 = .ok (.goto 4, 3) := by decide +kernel
theorem dL_refuses_407 : decode cL_refuses 407 = .ok (.iconst 0, 1) := by decide +kernel
theorem dL_refuses_408 : decode cL_refuses 408 = .ok (.ireturn, 1) := by decide +kernel
