theorem dL_areKept_0 : decode cL_areKept 0 = .ok (.lconst 0, 1) := by decide +kernel
theorem dL_areKept_1 : decode cL_areKept 1 = .ok (.lstore 4, 2) := by decide +kernel
theorem dL_areKept_3 : decode cL_areKept 3 = .ok (.lconst 0, 1) := by decide +kernel
theorem dL_areKept_4 : decode cL_areKept 4 = .ok (.lstore 6, 2) := by decide +kernel
theorem dL_areKept_6 : decode cL_areKept 6 = .ok (.lconst 0, 1) := by decide +kernel
theorem dL_areKept_7 : decode cL_areKept 7 = .ok (.lstore 8, 2) := by decide +kernel
theorem dL_areKept_9 : decode cL_areKept 9 = .ok (.iconst 0, 1) := by decide +kernel
theorem dL_areKept_10 : decode cL_areKept 10 = .ok (.istore 10, 2) := by decide +kernel
theorem dL_areKept_12 : decode cL_areKept 12 = .ok (.iconst 1, 1) := by decide +kernel
theorem dL_areKept_13 : decode cL_areKept 13 = .ok (.istore 11, 2) := by decide +kernel
theorem dL_areKept_15 : decode cL_areKept 15 = .ok (.iconst 0, 1) := by decide +kernel
theorem dL_areKept_16 : decode cL_areKept 16 = .ok (.istore 12, 2) := by decide +kernel
theorem dL_areKept_18 : decode cL_areKept 18 = .ok (.iload 12, 2) := by decide +kernel
theorem dL_areKept_20 : decode cL_areKept 20 = .ok (.bipush 6, 2) := by decide +kernel
theorem dL_areKept_22 : decode cL_areKept 22 = .ok (.if_icmp .ge 94, 3) := by decide +kernel
theorem dL_areKept_25 : decode cL_areKept 25 = .ok (.lload 4, 2) := by decide +kernel
theorem dL_areKept_27 : decode cL_areKept 27 = .ok (.aload_n 0, 1) := by decide +kernel
theorem dL_areKept_28 : decode cL_areKept 28 = .ok (.iload 12, 2) := by decide +kernel
theorem dL_areKept_30 : decode cL_areKept 30 = .ok (.iconst 0, 1) := by decide +kernel
theorem dL_areKept_31 : decode cL_areKept 31 = .ok (.invokevirtual 24, 3) := by decide +kernel
theorem dL_areKept_34 : decode cL_areKept 34 = .ok (.i2l, 1) := by decide +kernel
theorem dL_areKept_35 : decode cL_areKept 35 = .ok (.ladd, 1) := by decide +kernel
theorem dL_areKept_36 : decode cL_areKept 36 = .ok (.lstore 4, 2) := by decide +kernel
theorem dL_areKept_38 : decode cL_areKept 38 = .ok (.iload 10, 2) := by decide +kernel
theorem dL_areKept_40 : decode cL_areKept 40 = .ok (.aload_n 0, 1) := by decide +kernel
theorem dL_areKept_41 : decode cL_areKept 41 = .ok (.iload 12, 2) := by decide +kernel
theorem dL_areKept_43 : decode cL_areKept 43 = .ok (.iconst 1, 1) := by decide +kernel
theorem dL_areKept_44 : decode cL_areKept 44 = .ok (.invokevirtual 24, 3) := by decide +kernel
theorem dL_areKept_47 : decode cL_areKept 47 = .ok (.iadd, 1) := by decide +kernel
theorem dL_areKept_48 : decode cL_areKept 48 = .ok (.istore 10, 2) := by decide +kernel
theorem dL_areKept_50 : decode cL_areKept 50 = .ok (.lload 6, 2) := by decide +kernel
theorem dL_areKept_52 : decode cL_areKept 52 = .ok (.aload_n 0, 1) := by decide +kernel
theorem dL_areKept_53 : decode cL_areKept 53 = .ok (.iload 12, 2) := by decide +kernel
theorem dL_areKept_55 : decode cL_areKept 55 = .ok (.iconst 2, 1) := by decide +kernel
theorem dL_areKept_56 : decode cL_areKept 56 = .ok (.invokevirtual 24, 3) := by decide +kernel
theorem dL_areKept_59 : decode cL_areKept 59 = .ok (.i2l, 1) := by decide +kernel
theorem dL_areKept_60 : decode cL_areKept 60 = .ok (.ladd, 1) := by decide +kernel
theorem dL_areKept_61 : decode cL_areKept 61 = .ok (.lstore 6, 2) := by decide +kernel
theorem dL_areKept_63 : decode cL_areKept 63 = .ok (.lload 8, 2) := by decide +kernel
theorem dL_areKept_65 : decode cL_areKept 65 = .ok (.aload_n 0, 1) := by decide +kernel
theorem dL_areKept_66 : decode cL_areKept 66 = .ok (.iload 12, 2) := by decide +kernel
theorem dL_areKept_68 : decode cL_areKept 68 = .ok (.iconst 3, 1) := by decide +kernel
theorem dL_areKept_69 : decode cL_areKept 69 = .ok (.invokevirtual 24, 3) := by decide +kernel
theorem dL_areKept_72 : decode cL_areKept 72 = .ok (.i2l, 1) := by decide +kernel
theorem dL_areKept_73 : decode cL_areKept 73 = .ok (.ladd, 1) := by decide +kernel
theorem dL_areKept_74 : decode cL_areKept 74 = .ok (.lstore 8, 2) := by decide +kernel
theorem dL_areKept_76 : decode cL_areKept 76 = .ok (.iload 11, 2) := by decide +kernel
theorem dL_areKept_78 : decode cL_areKept 78 = .ok (.ifCond .eq 29, 3) := by decide +kernel
theorem dL_areKept_81 : decode cL_areKept 81 = .ok (.aload_n 0, 1) := by decide +kernel
theorem dL_areKept_82 : decode cL_areKept 82 = .ok (.iload 12, 2) := by decide +kernel
theorem dL_areKept_84 : decode cL_areKept 84 = .ok (.iconst 0, 1) := by decide +kernel
theorem dL_areKept_85 : decode cL_areKept 85 = .ok (.invokevirtual 24, 3) := by decide +kernel
theorem dL_areKept_88 : decode cL_areKept 88 = .ok (.ifCond .lt 19, 3) := by decide +kernel
theorem dL_areKept_91 : decode cL_areKept 91 = .ok (.aload_n 0, 1) := by decide +kernel
theorem dL_areKept_92 : decode cL_areKept 92 = .ok (.iload 12, 2) := by decide +kernel
theorem dL_areKept_94 : decode cL_areKept 94 = .ok (.bipush 6, 2) := by decide +kernel
theorem dL_areKept_96 : decode cL_areKept 96 = .ok (.invokevirtual 24, 3) := by decide +kernel
theorem dL_areKept_99 : decode cL_areKept 99 = .ok (.iload_n 3, 1) := by decide +kernel
theorem dL_areKept_100 : decode cL_areKept 100 = .ok (.if_icmp .gt 7, 3) := by decide +kernel
theorem dL_areKept_103 : decode cL_areKept 103 = .ok (.iconst 1, 1) := by decide +kernel
theorem dL_areKept_104 : decode cL_areKept 104 = .ok (.goto 4, 3) := by decide +kernel
theorem dL_areKept_107 : decode cL_areKept 107 = .ok (.iconst 0, 1) := by decide +kernel
theorem dL_areKept_108 : decode cL_areKept 108 = .ok (.istore 11, 2) := by decide +kernel
theorem dL_areKept_110 : decode cL_areKept 110 = .ok (.iinc 12 1, 3) := by decide +kernel
theorem dL_areKept_113 : decode cL_areKept 113 = .ok (.goto (-95), 3) := by decide +kernel
theorem dL_areKept_116 : decode cL_areKept 116 = .ok (.iconst 0, 1) := by decide +kernel
theorem dL_areKept_117 : decode cL_areKept 117 = .ok (.istore 12, 2) := by decide +kernel
theorem dL_areKept_119 : decode cL_areKept 119 = .ok (.bipush 12, 2) := by decide +kernel
theorem dL_areKept_121 : decode cL_areKept 121 = .ok (.newarray .int, 2) := by decide +kernel
theorem dL_areKept_123 : decode cL_areKept 123 = .ok (.astore 13, 2) := by decide +kernel
theorem dL_areKept_125 : decode cL_areKept 125 = .ok (.bipush 12, 2) := by decide +kernel
theorem dL_areKept_127 : decode cL_areKept 127 = .ok (.newarray .int, 2) := by decide +kernel
theorem dL_areKept_129 : decode cL_areKept 129 = .ok (.astore 14, 2) := by decide +kernel
theorem dL_areKept_131 : decode cL_areKept 131 = .ok (.iconst 0, 1) := by decide +kernel
theorem dL_areKept_132 : decode cL_areKept 132 = .ok (.istore 15, 2) := by decide +kernel
theorem dL_areKept_134 : decode cL_areKept 134 = .ok (.aload_n 0, 1) := by decide +kernel
theorem dL_areKept_135 : decode cL_areKept 135 = .ok (.bipush 28, 2) := by decide +kernel
theorem dL_areKept_137 : decode cL_areKept 137 = .ok (.iload 15, 2) := by decide +kernel
theorem dL_areKept_139 : decode cL_areKept 139 = .ok (.iconst 0, 1) := by decide +kernel
theorem dL_areKept_140 : decode cL_areKept 140 = .ok (.iconst 0, 1) := by decide +kernel
theorem dL_areKept_141 : decode cL_areKept 141 = .ok (.iconst 0, 1) := by decide +kernel
theorem dL_areKept_142 : decode cL_areKept 142 = .ok (.invokestatic 155, 3) := by decide +kernel
theorem dL_areKept_145 : decode cL_areKept 145 = .ok (.ifCond .lt 227, 3) := by decide +kernel
theorem dL_areKept_148 : decode cL_areKept 148 = .ok (.iload 11, 2) := by decide +kernel
theorem dL_areKept_150 : decode cL_areKept 150 = .ok (.ifCond .eq 222, 3) := by decide +kernel
theorem dL_areKept_153 : decode cL_areKept 153 = .ok (.aload_n 0, 1) := by decide +kernel
theorem dL_areKept_154 : decode cL_areKept 154 = .ok (.iload 15, 2) := by decide +kernel
theorem dL_areKept_156 : decode cL_areKept 156 = .ok (.iconst 0, 1) := by decide +kernel
theorem dL_areKept_157 : decode cL_areKept 157 = .ok (.invokevirtual 30, 3) := by decide +kernel
theorem dL_areKept_160 : decode cL_areKept 160 = .ok (.istore 16, 2) := by decide +kernel
theorem dL_areKept_162 : decode cL_areKept 162 = .ok (.aload_n 0, 1) := by decide +kernel
theorem dL_areKept_163 : decode cL_areKept 163 = .ok (.iload 15, 2) := by decide +kernel
theorem dL_areKept_165 : decode cL_areKept 165 = .ok (.iconst 2, 1) := by decide +kernel
theorem dL_areKept_166 : decode cL_areKept 166 = .ok (.invokevirtual 30, 3) := by decide +kernel
theorem dL_areKept_169 : decode cL_areKept 169 = .ok (.istore 17, 2) := by decide +kernel
theorem dL_areKept_171 : decode cL_areKept 171 = .ok (.aload 13, 2) := by decide +kernel
theorem dL_areKept_173 : decode cL_areKept 173 = .ok (.iload 16, 2) := by decide +kernel
theorem dL_areKept_175 : decode cL_areKept 175 = .ok (.dup2, 1) := by decide +kernel
theorem dL_areKept_176 : decode cL_areKept 176 = .ok (.iaload, 1) := by decide +kernel
theorem dL_areKept_177 : decode cL_areKept 177 = .ok (.iload 17, 2) := by decide +kernel
theorem dL_areKept_179 : decode cL_areKept 179 = .ok (.iadd, 1) := by decide +kernel
theorem dL_areKept_180 : decode cL_areKept 180 = .ok (.iastore, 1) := by decide +kernel
theorem dL_areKept_181 : decode cL_areKept 181 = .ok (.aload 14, 2) := by decide +kernel
theorem dL_areKept_183 : decode cL_areKept 183 = .ok (.iload 16, 2) := by decide +kernel
theorem dL_areKept_185 : decode cL_areKept 185 = .ok (.dup2, 1) := by decide +kernel
theorem dL_areKept_186 : decode cL_areKept 186 = .ok (.iaload, 1) := by decide +kernel
theorem dL_areKept_187 : decode cL_areKept 187 = .ok (.iload 17, 2) := by decide +kernel
theorem dL_areKept_189 : decode cL_areKept 189 = .ok (.ifCond .le 7, 3) := by decide +kernel
theorem dL_areKept_192 : decode cL_areKept 192 = .ok (.iconst 1, 1) := by decide +kernel
theorem dL_areKept_193 : decode cL_areKept 193 = .ok (.goto 4, 3) := by decide +kernel
theorem dL_areKept_196 : decode cL_areKept 196 = .ok (.iconst 0, 1) := by decide +kernel
theorem dL_areKept_197 : decode cL_areKept 197 = .ok (.iadd, 1) := by decide +kernel
theorem dL_areKept_198 : decode cL_areKept 198 = .ok (.iastore, 1) := by decide +kernel
theorem dL_areKept_199 : decode cL_areKept 199 = .ok (.iload 12, 2) := by decide +kernel
theorem dL_areKept_201 : decode cL_areKept 201 = .ok (.iload 17, 2) := by decide +kernel
theorem dL_areKept_203 : decode cL_areKept 203 = .ok (.iadd, 1) := by decide +kernel
theorem dL_areKept_204 : decode cL_areKept 204 = .ok (.istore 12, 2) := by decide +kernel
theorem dL_areKept_206 : decode cL_areKept 206 = .ok (.aload_n 0, 1) := by decide +kernel
theorem dL_areKept_207 : decode cL_areKept 207 = .ok (.iload 15, 2) := by decide +kernel
theorem dL_areKept_209 : decode cL_areKept 209 = .ok (.iconst 3, 1) := by decide +kernel
theorem dL_areKept_210 : decode cL_areKept 210 = .ok (.invokevirtual 30, 3) := by decide +kernel
theorem dL_areKept_213 : decode cL_areKept 213 = .ok (.istore 18, 2) := by decide +kernel
theorem dL_areKept_215 : decode cL_areKept 215 = .ok (.aload_n 0, 1) := by decide +kernel
theorem dL_areKept_216 : decode cL_areKept 216 = .ok (.iload 15, 2) := by decide +kernel
theorem dL_areKept_218 : decode cL_areKept 218 = .ok (.bipush 6, 2) := by decide +kernel
theorem dL_areKept_220 : decode cL_areKept 220 = .ok (.invokevirtual 30, 3) := by decide +kernel
theorem dL_areKept_223 : decode cL_areKept 223 = .ok (.istore 19, 2) := by decide +kernel
theorem dL_areKept_225 : decode cL_areKept 225 = .ok (.aload_n 0, 1) := by decide +kernel
theorem dL_areKept_226 : decode cL_areKept 226 = .ok (.iload 15, 2) := by decide +kernel
theorem dL_areKept_228 : decode cL_areKept 228 = .ok (.bipush 8, 2) := by decide +kernel
theorem dL_areKept_230 : decode cL_areKept 230 = .ok (.invokevirtual 30, 3) := by decide +kernel
theorem dL_areKept_233 : decode cL_areKept 233 = .ok (.istore 20, 2) := by decide +kernel
theorem dL_areKept_235 : decode cL_areKept 235 = .ok (.iload 17, 2) := by decide +kernel
theorem dL_areKept_237 : decode cL_areKept 237 = .ok (.ifCond .lt 126, 3) := by decide +kernel
theorem dL_areKept_240 : decode cL_areKept 240 = .ok (.aload_n 0, 1) := by decide +kernel
theorem dL_areKept_241 : decode cL_areKept 241 = .ok (.iload 15, 2) := by decide +kernel
theorem dL_areKept_243 : decode cL_areKept 243 = .ok (.iconst 5, 1) := by decide +kernel
theorem dL_areKept_244 : decode cL_areKept 244 = .ok (.invokevirtual 30, 3) := by decide +kernel
theorem dL_areKept_247 : decode cL_areKept 247 = .ok (.iload 15, 2) := by decide +kernel
theorem dL_areKept_249 : decode cL_areKept 249 = .ok (.if_icmp .ge 114, 3) := by decide +kernel
theorem dL_areKept_252 : decode cL_areKept 252 = .ok (.iload 19, 2) := by decide +kernel
theorem dL_areKept_254 : decode cL_areKept 254 = .ok (.ifCond .lt 7, 3) := by decide +kernel
theorem dL_areKept_257 : decode cL_areKept 257 = .ok (.iconst 1, 1) := by decide +kernel
theorem dL_areKept_258 : decode cL_areKept 258 = .ok (.goto 4, 3) := by decide +kernel
theorem dL_areKept_261 : decode cL_areKept 261 = .ok (.iconst 0, 1) := by decide +kernel
theorem dL_areKept_262 : decode cL_areKept 262 = .ok (.iload 20, 2) := by decide +kernel
theorem dL_areKept_264 : decode cL_areKept 264 = .ok (.ifCond .le 7, 3) := by decide +kernel
theorem dL_areKept_267 : decode cL_areKept 267 = .ok (.iconst 1, 1) := by decide +kernel
theorem dL_areKept_268 : decode cL_areKept 268 = .ok (.goto 4, 3) := by decide +kernel
theorem dL_areKept_271 : decode cL_areKept 271 = .ok (.iconst 0, 1) := by decide +kernel
theorem dL_areKept_272 : decode cL_areKept 272 = .ok (.if_icmp .ne 91, 3) := by decide +kernel
theorem dL_areKept_275 : decode cL_areKept 275 = .ok (.iload 20, 2) := by decide +kernel
theorem dL_areKept_277 : decode cL_areKept 277 = .ok (.iconst 2, 1) := by decide +kernel
theorem dL_areKept_278 : decode cL_areKept 278 = .ok (.if_icmp .lt 23, 3) := by decide +kernel
theorem dL_areKept_281 : decode cL_areKept 281 = .ok (.aload_n 0, 1) := by decide +kernel
theorem dL_areKept_282 : decode cL_areKept 282 = .ok (.aload_n 0, 1) := by decide +kernel
theorem dL_areKept_283 : decode cL_areKept 283 = .ok (.iload 15, 2) := by decide +kernel
theorem dL_areKept_285 : decode cL_areKept 285 = .ok (.iconst 5, 1) := by decide +kernel
theorem dL_areKept_286 : decode cL_areKept 286 = .ok (.invokevirtual 30, 3) := by decide +kernel
theorem dL_areKept_289 : decode cL_areKept 289 = .ok (.bipush 8, 2) := by decide +kernel
theorem dL_areKept_291 : decode cL_areKept 291 = .ok (.invokevirtual 30, 3) := by decide +kernel
theorem dL_areKept_294 : decode cL_areKept 294 = .ok (.iload 20, 2) := by decide +kernel
theorem dL_areKept_296 : decode cL_areKept 296 = .ok (.iconst 1, 1) := by decide +kernel
theorem dL_areKept_297 : decode cL_areKept 297 = .ok (.isub, 1) := by decide +kernel
theorem dL_areKept_298 : decode cL_areKept 298 = .ok (.if_icmp .ne 65, 3) := by decide +kernel
theorem dL_areKept_301 : decode cL_areKept 301 = .ok (.iload 18, 2) := by decide +kernel
theorem dL_areKept_303 : decode cL_areKept 303 = .ok (.ifCond .lt 13, 3) := by decide +kernel
theorem dL_areKept_306 : decode cL_areKept 306 = .ok (.aload_n 0, 1) := by decide +kernel
theorem dL_areKept_307 : decode cL_areKept 307 = .ok (.iload 18, 2) := by decide +kernel
theorem dL_areKept_309 : decode cL_areKept 309 = .ok (.iconst 5, 1) := by decide +kernel
theorem dL_areKept_310 : decode cL_areKept 310 = .ok (.invokevirtual 33, 3) := by decide +kernel
theorem dL_areKept_313 : decode cL_areKept 313 = .ok (.ifCond .ne 50, 3) := by decide +kernel
theorem dL_areKept_316 : decode cL_areKept 316 = .ok (.aload_n 0, 1) := by decide +kernel
theorem dL_areKept_317 : decode cL_areKept 317 = .ok (.iload 15, 2) := by decide +kernel
theorem dL_areKept_319 : decode cL_areKept 319 = .ok (.iconst 4, 1) := by decide +kernel
theorem dL_areKept_320 : decode cL_areKept 320 = .ok (.invokevirtual 30, 3) := by decide +kernel
theorem dL_areKept_323 : decode cL_areKept 323 = .ok (.ifCond .lt 25, 3) := by decide +kernel
theorem dL_areKept_326 : decode cL_areKept 326 = .ok (.iload 17, 2) := by decide +kernel
theorem dL_areKept_328 : decode cL_areKept 328 = .ok (.ifCond .le 35, 3) := by decide +kernel
theorem dL_areKept_331 : decode cL_areKept 331 = .ok (.aload_n 0, 1) := by decide +kernel
theorem dL_areKept_332 : decode cL_areKept 332 = .ok (.iload 15, 2) := by decide +kernel
theorem dL_areKept_334 : decode cL_areKept 334 = .ok (.iconst 4, 1) := by decide +kernel
theorem dL_areKept_335 : decode cL_areKept 335 = .ok (.invokevirtual 30, 3) := by decide +kernel
theorem dL_areKept_338 : decode cL_areKept 338 = .ok (.aload_n 0, 1) := by decide +kernel
theorem dL_areKept_339 : decode cL_areKept 339 = .ok (.iload 15, 2) := by decide +kernel
theorem dL_areKept_341 : decode cL_areKept 341 = .ok (.iconst 1, 1) := by decide +kernel
theorem dL_areKept_342 : decode cL_areKept 342 = .ok (.invokevirtual 30, 3) := by decide +kernel
theorem dL_areKept_345 : decode cL_areKept 345 = .ok (.if_icmp .eq 18, 3) := by decide +kernel
theorem dL_areKept_348 : decode cL_areKept 348 = .ok (.aload_n 0, 1) := by decide +kernel
theorem dL_areKept_349 : decode cL_areKept 349 = .ok (.iload 15, 2) := by decide +kernel
theorem dL_areKept_351 : decode cL_areKept 351 = .ok (.bipush 7, 2) := by decide +kernel
theorem dL_areKept_353 : decode cL_areKept 353 = .ok (.invokevirtual 30, 3) := by decide +kernel
theorem dL_areKept_356 : decode cL_areKept 356 = .ok (.ifCond .lt 7, 3) := by decide +kernel
theorem dL_areKept_359 : decode cL_areKept 359 = .ok (.iconst 1, 1) := by decide +kernel
theorem dL_areKept_360 : decode cL_areKept 360 = .ok (.goto 4, 3) := by decide +kernel
theorem dL_areKept_363 : decode cL_areKept 363 = .ok (.iconst 0, 1) := by decide +kernel
theorem dL_areKept_364 : decode cL_areKept 364 = .ok (.istore 11, 2) := by decide +kernel
theorem dL_areKept_366 : decode cL_areKept 366 = .ok (.iinc 15 1, 3) := by decide +kernel
theorem dL_areKept_369 : decode cL_areKept 369 = .ok (.goto (-235), 3) := by decide +kernel
theorem dL_areKept_372 : decode cL_areKept 372 = .ok (.iconst 0, 1) := by decide +kernel
theorem dL_areKept_373 : decode cL_areKept 373 = .ok (.istore 15, 2) := by decide +kernel
theorem dL_areKept_375 : decode cL_areKept 375 = .ok (.iload 15, 2) := by decide +kernel
theorem dL_areKept_377 : decode cL_areKept 377 = .ok (.iload_n 3, 1) := by decide +kernel
theorem dL_areKept_378 : decode cL_areKept 378 = .ok (.if_icmp .ge 76, 3) := by decide +kernel
theorem dL_areKept_381 : decode cL_areKept 381 = .ok (.iload 11, 2) := by decide +kernel
theorem dL_areKept_383 : decode cL_areKept 383 = .ok (.ifCond .eq 71, 3) := by decide +kernel
theorem dL_areKept_386 : decode cL_areKept 386 = .ok (.aload 13, 2) := by decide +kernel
theorem dL_areKept_388 : decode cL_areKept 388 = .ok (.iload 15, 2) := by decide +kernel
theorem dL_areKept_390 : decode cL_areKept 390 = .ok (.iaload, 1) := by decide +kernel
theorem dL_areKept_391 : decode cL_areKept 391 = .ok (.bipush 60, 2) := by decide +kernel
theorem dL_areKept_393 : decode cL_areKept 393 = .ok (.if_icmp .ne 52, 3) := by decide +kernel
theorem dL_areKept_396 : decode cL_areKept 396 = .ok (.aload 14, 2) := by decide +kernel
theorem dL_areKept_398 : decode cL_areKept 398 = .ok (.iload 15, 2) := by decide +kernel
theorem dL_areKept_400 : decode cL_areKept 400 = .ok (.iaload, 1) := by decide +kernel
theorem dL_areKept_401 : decode cL_areKept 401 = .ok (.aload_n 0, 1) := by decide +kernel
theorem dL_areKept_402 : decode cL_areKept 402 = .ok (.iload 15, 2) := by decide +kernel
theorem dL_areKept_404 : decode cL_areKept 404 = .ok (.iconst 5, 1) := by decide +kernel
theorem dL_areKept_405 : decode cL_areKept 405 = .ok (.invokevirtual 27, 3) := by decide +kernel
theorem dL_areKept_408 : decode cL_areKept 408 = .ok (.if_icmp .ne 37, 3) := by decide +kernel
theorem dL_areKept_411 : decode cL_areKept 411 = .ok (.aload_n 0, 1) := by decide +kernel
theorem dL_areKept_412 : decode cL_areKept 412 = .ok (.iload 15, 2) := by decide +kernel
theorem dL_areKept_414 : decode cL_areKept 414 = .ok (.iconst 4, 1) := by decide +kernel
theorem dL_areKept_415 : decode cL_areKept 415 = .ok (.invokevirtual 27, 3) := by decide +kernel
theorem dL_areKept_418 : decode cL_areKept 418 = .ok (.ifCond .lt 13, 3) := by decide +kernel
theorem dL_areKept_421 : decode cL_areKept 421 = .ok (.aload_n 0, 1) := by decide +kernel
theorem dL_areKept_422 : decode cL_areKept 422 = .ok (.iload 15, 2) := by decide +kernel
theorem dL_areKept_424 : decode cL_areKept 424 = .ok (.iconst 4, 1) := by decide +kernel
theorem dL_areKept_425 : decode cL_areKept 425 = .ok (.invokevirtual 27, 3) := by decide +kernel
theorem dL_areKept_428 : decode cL_areKept 428 = .ok (.ifCond .lt 17, 3) := by decide +kernel
theorem dL_areKept_431 : decode cL_areKept 431 = .ok (.aload_n 0, 1) := by decide +kernel
theorem dL_areKept_432 : decode cL_areKept 432 = .ok (.iload 15, 2) := by decide +kernel
theorem dL_areKept_434 : decode cL_areKept 434 = .ok (.iconst 3, 1) := by decide +kernel
theorem dL_areKept_435 : decode cL_areKept 435 = .ok (.invokevirtual 27, 3) := by decide +kernel
theorem dL_areKept_438 : decode cL_areKept 438 = .ok (.ifCond .lt 7, 3) := by decide +kernel
theorem dL_areKept_441 : decode cL_areKept 441 = .ok (.iconst 1, 1) := by decide +kernel
theorem dL_areKept_442 : decode cL_areKept 442 = .ok (.goto 4, 3) := by decide +kernel
theorem dL_areKept_445 : decode cL_areKept 445 = .ok (.iconst 0, 1) := by decide +kernel
theorem dL_areKept_446 : decode cL_areKept 446 = .ok (.istore 11, 2) := by decide +kernel
theorem dL_areKept_448 : decode cL_areKept 448 = .ok (.iinc 15 1, 3) := by decide +kernel
theorem dL_areKept_451 : decode cL_areKept 451 = .ok (.goto (-76), 3) := by decide +kernel
theorem dL_areKept_454 : decode cL_areKept 454 = .ok (.iload 11, 2) := by decide +kernel
theorem dL_areKept_456 : decode cL_areKept 456 = .ok (.ifCond .eq 38, 3) := by decide +kernel
theorem dL_areKept_459 : decode cL_areKept 459 = .ok (.lload 4, 2) := by decide +kernel
theorem dL_areKept_461 : decode cL_areKept 461 = .ok (.lload_n 1, 1) := by decide +kernel
theorem dL_areKept_462 : decode cL_areKept 462 = .ok (.lcmp, 1) := by decide +kernel
theorem dL_areKept_463 : decode cL_areKept 463 = .ok (.ifCond .ne 31, 3) := by decide +kernel
theorem dL_areKept_466 : decode cL_areKept 466 = .ok (.lload 6, 2) := by decide +kernel
theorem dL_areKept_468 : decode cL_areKept 468 = .ok (.lload 8, 2) := by decide +kernel
theorem dL_areKept_470 : decode cL_areKept 470 = .ok (.lcmp, 1) := by decide +kernel
theorem dL_areKept_471 : decode cL_areKept 471 = .ok (.ifCond .ne 23, 3) := by decide +kernel
theorem dL_areKept_474 : decode cL_areKept 474 = .ok (.iload 10, 2) := by decide +kernel
theorem dL_areKept_476 : decode cL_areKept 476 = .ok (.iload 12, 2) := by decide +kernel
theorem dL_areKept_478 : decode cL_areKept 478 = .ok (.if_icmp .ne 16, 3) := by decide +kernel
theorem dL_areKept_481 : decode cL_areKept 481 = .ok (.iload 12, 2) := by decide +kernel
theorem dL_areKept_483 : decode cL_areKept 483 = .ok (.bipush 60, 2) := by decide +kernel
theorem dL_areKept_485 : decode cL_areKept 485 = .ok (.iload_n 3, 1) := by decide +kernel
theorem dL_areKept_486 : decode cL_areKept 486 = .ok (.imul, 1) := by decide +kernel
theorem dL_areKept_487 : decode cL_areKept 487 = .ok (.if_icmp .ne 7, 3) := by decide +kernel
theorem dL_areKept_490 : decode cL_areKept 490 = .ok (.iconst 1, 1) := by decide +kernel
theorem dL_areKept_491 : decode cL_areKept 491 = .ok (.goto 4, 3) := by decide +kernel
theorem dL_areKept_494 : decode cL_areKept 494 = .ok (.iconst 0, 1) := by decide +kernel
theorem dL_areKept_495 : decode cL_areKept 495 = .ok (.ireturn, 1) := by decide +kernel
theorem dL_isBarred_0 : decode cL_isBarred 0 = .ok (.iload_n 2, 1) := by decide +kernel
theorem dL_isBarred_1 : decode cL_isBarred 1 = .ok (.bipush 14, 2) := by decide +kernel
theorem dL_isBarred_3 : decode cL_isBarred 3 = .ok (.invokestatic 149, 3) := by decide +kernel
theorem dL_isBarred_6 : decode cL_isBarred 6 = .ok (.istore_n 3, 1) := by decide +kernel
theorem dL_isBarred_7 : decode cL_isBarred 7 = .ok (.iload_n 2, 1) := by decide +kernel
theorem dL_isBarred_8 : decode cL_isBarred 8 = .ok (.iconst 3, 1) := by decide +kernel
theorem dL_isBarred_9 : decode cL_isBarred 9 = .ok (.ishr, 1) := by decide +kernel
theorem dL_isBarred_10 : decode cL_isBarred 10 = .ok (.bipush 6, 2) := by decide +kernel
theorem dL_isBarred_12 : decode cL_isBarred 12 = .ok (.invokestatic 149, 3) := by decide +kernel
theorem dL_isBarred_15 : decode cL_isBarred 15 = .ok (.istore 4, 2) := by decide +kernel
theorem dL_isBarred_17 : decode cL_isBarred 17 = .ok (.iconst 1, 1) := by decide +kernel
theorem dL_isBarred_18 : decode cL_isBarred 18 = .ok (.iload_n 2, 1) := by decide +kernel
theorem dL_isBarred_19 : decode cL_isBarred 19 = .ok (.iconst 2, 1) := by decide +kernel
theorem dL_isBarred_20 : decode cL_isBarred 20 = .ok (.ishr, 1) := by decide +kernel
theorem dL_isBarred_21 : decode cL_isBarred 21 = .ok (.bipush 20, 2) := by decide +kernel
theorem dL_isBarred_23 : decode cL_isBarred 23 = .ok (.invokestatic 149, 3) := by decide +kernel
theorem dL_isBarred_26 : decode cL_isBarred 26 = .ok (.iadd, 1) := by decide +kernel
theorem dL_isBarred_27 : decode cL_isBarred 27 = .ok (.istore 5, 2) := by decide +kernel
theorem dL_isBarred_29 : decode cL_isBarred 29 = .ok (.iload_n 2, 1) := by decide +kernel
theorem dL_isBarred_30 : decode cL_isBarred 30 = .ok (.iconst 3, 1) := by decide +kernel
theorem dL_isBarred_31 : decode cL_isBarred 31 = .ok (.iand, 1) := by decide +kernel
theorem dL_isBarred_32 : decode cL_isBarred 32 = .ok (.ifCond .ne 12, 3) := by decide +kernel
theorem dL_isBarred_35 : decode cL_isBarred 35 = .ok (.iload_n 2, 1) := by decide +kernel
theorem dL_isBarred_36 : decode cL_isBarred 36 = .ok (.ldc 163, 2) := by decide +kernel
theorem dL_isBarred_38 : decode cL_isBarred 38 = .ok (.invokestatic 149, 3) := by decide +kernel
theorem dL_isBarred_41 : decode cL_isBarred 41 = .ok (.goto 10, 3) := by decide +kernel
theorem dL_isBarred_44 : decode cL_isBarred 44 = .ok (.iload_n 2, 1) := by decide +kernel
theorem dL_isBarred_45 : decode cL_isBarred 45 = .ok (.sipush 300, 3) := by decide +kernel
theorem dL_isBarred_48 : decode cL_isBarred 48 = .ok (.invokestatic 149, 3) := by decide +kernel
theorem dL_isBarred_51 : decode cL_isBarred 51 = .ok (.istore 6, 2) := by decide +kernel
theorem dL_isBarred_53 : decode cL_isBarred 53 = .ok (.aload_n 0, 1) := by decide +kernel
theorem dL_isBarred_54 : decode cL_isBarred 54 = .ok (.bipush 23, 2) := by decide +kernel
theorem dL_isBarred_56 : decode cL_isBarred 56 = .ok (.iload_n 3, 1) := by decide +kernel
theorem dL_isBarred_57 : decode cL_isBarred 57 = .ok (.iload 5, 2) := by decide +kernel
theorem dL_isBarred_59 : decode cL_isBarred 59 = .ok (.iload 4, 2) := by decide +kernel
theorem dL_isBarred_61 : decode cL_isBarred 61 = .ok (.iload 6, 2) := by decide +kernel
theorem dL_isBarred_63 : decode cL_isBarred 63 = .ok (.invokestatic 155, 3) := by decide +kernel
theorem dL_isBarred_66 : decode cL_isBarred 66 = .ok (.istore 7, 2) := by decide +kernel
theorem dL_isBarred_68 : decode cL_isBarred 68 = .ok (.aload_n 0, 1) := by decide +kernel
theorem dL_isBarred_69 : decode cL_isBarred 69 = .ok (.bipush 24, 2) := by decide +kernel
theorem dL_isBarred_71 : decode cL_isBarred 71 = .ok (.iload_n 3, 1) := by decide +kernel
theorem dL_isBarred_72 : decode cL_isBarred 72 = .ok (.iload 5, 2) := by decide +kernel
theorem dL_isBarred_74 : decode cL_isBarred 74 = .ok (.iload 4, 2) := by decide +kernel
theorem dL_isBarred_76 : decode cL_isBarred 76 = .ok (.iload 6, 2) := by decide +kernel
theorem dL_isBarred_78 : decode cL_isBarred 78 = .ok (.invokestatic 155, 3) := by decide +kernel
theorem dL_isBarred_81 : decode cL_isBarred 81 = .ok (.istore 8, 2) := by decide +kernel
theorem dL_isBarred_83 : decode cL_isBarred 83 = .ok (.aload_n 0, 1) := by decide +kernel
theorem dL_isBarred_84 : decode cL_isBarred 84 = .ok (.bipush 26, 2) := by decide +kernel
theorem dL_isBarred_86 : decode cL_isBarred 86 = .ok (.iload 4, 2) := by decide +kernel
theorem dL_isBarred_88 : decode cL_isBarred 88 = .ok (.iconst 0, 1) := by decide +kernel
theorem dL_isBarred_89 : decode cL_isBarred 89 = .ok (.iconst 0, 1) := by decide +kernel
theorem dL_isBarred_90 : decode cL_isBarred 90 = .ok (.iconst 0, 1) := by decide +kernel
theorem dL_isBarred_91 : decode cL_isBarred 91 = .ok (.invokestatic 155, 3) := by decide +kernel
theorem dL_isBarred_94 : decode cL_isBarred 94 = .ok (.istore 9, 2) := by decide +kernel
theorem dL_isBarred_96 : decode cL_isBarred 96 = .ok (.aload_n 0, 1) := by decide +kernel
theorem dL_isBarred_97 : decode cL_isBarred 97 = .ok (.bipush 13, 2) := by decide +kernel
theorem dL_isBarred_99 : decode cL_isBarred 99 = .ok (.iload_n 3, 1) := by decide +kernel
theorem dL_isBarred_100 : decode cL_isBarred 100 = .ok (.iload 5, 2) := by decide +kernel
theorem dL_isBarred_102 : decode cL_isBarred 102 = .ok (.iload 4, 2) := by decide +kernel
theorem dL_isBarred_104 : decode cL_isBarred 104 = .ok (.iload 6, 2) := by decide +kernel
theorem dL_isBarred_106 : decode cL_isBarred 106 = .ok (.invokestatic 155, 3) := by decide +kernel
theorem dL_isBarred_109 : decode cL_isBarred 109 = .ok (.istore 10, 2) := by decide +kernel
theorem dL_isBarred_111 : decode cL_isBarred 111 = .ok (.aload_n 1, 1) := by decide +kernel
theorem dL_isBarred_112 : decode cL_isBarred 112 = .ok (.bipush 13, 2) := by decide +kernel
theorem dL_isBarred_114 : decode cL_isBarred 114 = .ok (.iload_n 3, 1) := by decide +kernel
theorem dL_isBarred_115 : decode cL_isBarred 115 = .ok (.iload 5, 2) := by decide +kernel
theorem dL_isBarred_117 : decode cL_isBarred 117 = .ok (.iload 4, 2) := by decide +kernel
theorem dL_isBarred_119 : decode cL_isBarred 119 = .ok (.iload 6, 2) := by decide +kernel
theorem dL_isBarred_121 : decode cL_isBarred 121 = .ok (.invokestatic 155, 3) := by decide +kernel
theorem dL_isBarred_124 : decode cL_isBarred 124 = .ok (.iload 10, 2) := by decide +kernel
theorem dL_isBarred_126 : decode cL_isBarred 126 = .ok (.if_icmp .ne 58, 3) := by decide +kernel
theorem dL_isBarred_129 : decode cL_isBarred 129 = .ok (.iload 7, 2) := by decide +kernel
theorem dL_isBarred_131 : decode cL_isBarred 131 = .ok (.ifCond .ne 7, 3) := by decide +kernel
theorem dL_isBarred_134 : decode cL_isBarred 134 = .ok (.iconst 1, 1) := by decide +kernel
theorem dL_isBarred_135 : decode cL_isBarred 135 = .ok (.goto 4, 3) := by decide +kernel
theorem dL_isBarred_138 : decode cL_isBarred 138 = .ok (.iconst 0, 1) := by decide +kernel
theorem dL_isBarred_139 : decode cL_isBarred 139 = .ok (.iload 10, 2) := by decide +kernel
theorem dL_isBarred_141 : decode cL_isBarred 141 = .ok (.ifCond .lt 7, 3) := by decide +kernel
theorem dL_isBarred_144 : decode cL_isBarred 144 = .ok (.iconst 1, 1) := by decide +kernel
theorem dL_isBarred_145 : decode cL_isBarred 145 = .ok (.goto 4, 3) := by decide +kernel
theorem dL_isBarred_148 : decode cL_isBarred 148 = .ok (.iconst 0, 1) := by decide +kernel
theorem dL_isBarred_149 : decode cL_isBarred 149 = .ok (.if_icmp .ne 35, 3) := by decide +kernel
theorem dL_isBarred_152 : decode cL_isBarred 152 = .ok (.iload 7, 2) := by decide +kernel
theorem dL_isBarred_154 : decode cL_isBarred 154 = .ok (.ifCond .le 15, 3) := by decide +kernel
theorem dL_isBarred_157 : decode cL_isBarred 157 = .ok (.iload 7, 2) := by decide +kernel
theorem dL_isBarred_159 : decode cL_isBarred 159 = .ok (.bipush 8, 2) := by decide +kernel
theorem dL_isBarred_161 : decode cL_isBarred 161 = .ok (.if_icmp .ge 23, 3) := by decide +kernel
theorem dL_isBarred_164 : decode cL_isBarred 164 = .ok (.iload 8, 2) := by decide +kernel
theorem dL_isBarred_166 : decode cL_isBarred 166 = .ok (.ifCond .lt 18, 3) := by decide +kernel
theorem dL_isBarred_169 : decode cL_isBarred 169 = .ok (.iload 7, 2) := by decide +kernel
theorem dL_isBarred_171 : decode cL_isBarred 171 = .ok (.ifCond .ne 9, 3) := by decide +kernel
theorem dL_isBarred_174 : decode cL_isBarred 174 = .ok (.iload 8, 2) := by decide +kernel
theorem dL_isBarred_176 : decode cL_isBarred 176 = .ok (.iconst (-1), 1) := by decide +kernel
theorem dL_isBarred_177 : decode cL_isBarred 177 = .ok (.if_icmp .ne 7, 3) := by decide +kernel
theorem dL_isBarred_180 : decode cL_isBarred 180 = .ok (.iconst 1, 1) := by decide +kernel
theorem dL_isBarred_181 : decode cL_isBarred 181 = .ok (.goto 4, 3) := by decide +kernel
theorem dL_isBarred_184 : decode cL_isBarred 184 = .ok (.iconst 0, 1) := by decide +kernel
theorem dL_isBarred_185 : decode cL_isBarred 185 = .ok (.istore 11, 2) := by decide +kernel
theorem dL_isBarred_187 : decode cL_isBarred 187 = .ok (.iload 10, 2) := by decide +kernel
theorem dL_isBarred_189 : decode cL_isBarred 189 = .ok (.ifCond .lt 8, 3) := by decide +kernel
theorem dL_isBarred_192 : decode cL_isBarred 192 = .ok (.iload 11, 2) := by decide +kernel
theorem dL_isBarred_194 : decode cL_isBarred 194 = .ok (.ifCond .ne 30, 3) := by decide +kernel
theorem dL_isBarred_197 : decode cL_isBarred 197 = .ok (.iload 11, 2) := by decide +kernel
theorem dL_isBarred_199 : decode cL_isBarred 199 = .ok (.ifCond .eq 23, 3) := by decide +kernel
theorem dL_isBarred_202 : decode cL_isBarred 202 = .ok (.aload_n 0, 1) := by decide +kernel
theorem dL_isBarred_203 : decode cL_isBarred 203 = .ok (.bipush 26, 2) := by decide +kernel
theorem dL_isBarred_205 : decode cL_isBarred 205 = .ok (.iload 4, 2) := by decide +kernel
theorem dL_isBarred_207 : decode cL_isBarred 207 = .ok (.iconst 0, 1) := by decide +kernel
theorem dL_isBarred_208 : decode cL_isBarred 208 = .ok (.iconst 0, 1) := by decide +kernel
theorem dL_isBarred_209 : decode cL_isBarred 209 = .ok (.iconst 0, 1) := by decide +kernel
theorem dL_isBarred_210 : decode cL_isBarred 210 = .ok (.invokestatic 155, 3) := by decide +kernel
theorem dL_isBarred_213 : decode cL_isBarred 213 = .ok (.iload 9, 2) := by decide +kernel
theorem dL_isBarred_215 : decode cL_isBarred 215 = .ok (.if_icmp .ne 7, 3) := by decide +kernel
theorem dL_isBarred_218 : decode cL_isBarred 218 = .ok (.iconst 1, 1) := by decide +kernel
theorem dL_isBarred_219 : decode cL_isBarred 219 = .ok (.goto 4, 3) := by decide +kernel
theorem dL_isBarred_222 : decode cL_isBarred 222 = .ok (.iconst 0, 1) := by decide +kernel
theorem dL_isBarred_223 : decode cL_isBarred 223 = .ok (.ireturn, 1) := by decide +kernel
theorem dL_isBarred_224 : decode cL_isBarred 224 = .ok (.aload_n 0, 1) := by decide +kernel
theorem dL_isBarred_225 : decode cL_isBarred 225 = .ok (.iload 10, 2) := by decide +kernel
theorem dL_isBarred_227 : decode cL_isBarred 227 = .ok (.iconst 1, 1) := by decide +kernel
theorem dL_isBarred_228 : decode cL_isBarred 228 = .ok (.invokevirtual 30, 3) := by decide +kernel
theorem dL_isBarred_231 : decode cL_isBarred 231 = .ok (.iload 4, 2) := by decide +kernel
theorem dL_isBarred_233 : decode cL_isBarred 233 = .ok (.if_icmp .ne 81, 3) := by decide +kernel
theorem dL_isBarred_236 : decode cL_isBarred 236 = .ok (.aload_n 0, 1) := by decide +kernel
theorem dL_isBarred_237 : decode cL_isBarred 237 = .ok (.iload 10, 2) := by decide +kernel
theorem dL_isBarred_239 : decode cL_isBarred 239 = .ok (.iconst 2, 1) := by decide +kernel
theorem dL_isBarred_240 : decode cL_isBarred 240 = .ok (.invokevirtual 30, 3) := by decide +kernel
theorem dL_isBarred_243 : decode cL_isBarred 243 = .ok (.iload 5, 2) := by decide +kernel
theorem dL_isBarred_245 : decode cL_isBarred 245 = .ok (.if_icmp .ne 69, 3) := by decide +kernel
theorem dL_isBarred_248 : decode cL_isBarred 248 = .ok (.aload_n 0, 1) := by decide +kernel
theorem dL_isBarred_249 : decode cL_isBarred 249 = .ok (.iload 10, 2) := by decide +kernel
theorem dL_isBarred_251 : decode cL_isBarred 251 = .ok (.iconst 5, 1) := by decide +kernel
theorem dL_isBarred_252 : decode cL_isBarred 252 = .ok (.invokevirtual 30, 3) := by decide +kernel
theorem dL_isBarred_255 : decode cL_isBarred 255 = .ok (.iload_n 3, 1) := by decide +kernel
theorem dL_isBarred_256 : decode cL_isBarred 256 = .ok (.if_icmp .ne 58, 3) := by decide +kernel
theorem dL_isBarred_259 : decode cL_isBarred 259 = .ok (.aload_n 0, 1) := by decide +kernel
theorem dL_isBarred_260 : decode cL_isBarred 260 = .ok (.iload 10, 2) := by decide +kernel
theorem dL_isBarred_262 : decode cL_isBarred 262 = .ok (.iload 4, 2) := by decide +kernel
theorem dL_isBarred_264 : decode cL_isBarred 264 = .ok (.invokevirtual 18, 3) := by decide +kernel
theorem dL_isBarred_267 : decode cL_isBarred 267 = .ok (.iload 6, 2) := by decide +kernel
theorem dL_isBarred_269 : decode cL_isBarred 269 = .ok (.if_icmp .ne 45, 3) := by decide +kernel
theorem dL_isBarred_272 : decode cL_isBarred 272 = .ok (.aload_n 0, 1) := by decide +kernel
theorem dL_isBarred_273 : decode cL_isBarred 273 = .ok (.iload 10, 2) := by decide +kernel
theorem dL_isBarred_275 : decode cL_isBarred 275 = .ok (.iconst 3, 1) := by decide +kernel
theorem dL_isBarred_276 : decode cL_isBarred 276 = .ok (.invokevirtual 30, 3) := by decide +kernel
theorem dL_isBarred_279 : decode cL_isBarred 279 = .ok (.aload_n 0, 1) := by decide +kernel
theorem dL_isBarred_280 : decode cL_isBarred 280 = .ok (.iload_n 3, 1) := by decide +kernel
theorem dL_isBarred_281 : decode cL_isBarred 281 = .ok (.iconst 3, 1) := by decide +kernel
theorem dL_isBarred_282 : decode cL_isBarred 282 = .ok (.invokevirtual 30, 3) := by decide +kernel
theorem dL_isBarred_285 : decode cL_isBarred 285 = .ok (.if_icmp .ne 29, 3) := by decide +kernel
theorem dL_isBarred_288 : decode cL_isBarred 288 = .ok (.aload_n 0, 1) := by decide +kernel
theorem dL_isBarred_289 : decode cL_isBarred 289 = .ok (.iload 10, 2) := by decide +kernel
theorem dL_isBarred_291 : decode cL_isBarred 291 = .ok (.iconst 4, 1) := by decide +kernel
theorem dL_isBarred_292 : decode cL_isBarred 292 = .ok (.invokevirtual 30, 3) := by decide +kernel
theorem dL_isBarred_295 : decode cL_isBarred 295 = .ok (.iconst (-1), 1) := by decide +kernel
theorem dL_isBarred_296 : decode cL_isBarred 296 = .ok (.if_icmp .ne 18, 3) := by decide +kernel
theorem dL_isBarred_299 : decode cL_isBarred 299 = .ok (.aload_n 0, 1) := by decide +kernel
theorem dL_isBarred_300 : decode cL_isBarred 300 = .ok (.iload 10, 2) := by decide +kernel
theorem dL_isBarred_302 : decode cL_isBarred 302 = .ok (.bipush 8, 2) := by decide +kernel
theorem dL_isBarred_304 : decode cL_isBarred 304 = .ok (.invokevirtual 30, 3) := by decide +kernel
theorem dL_isBarred_307 : decode cL_isBarred 307 = .ok (.ifCond .le 7, 3) := by decide +kernel
theorem dL_isBarred_310 : decode cL_isBarred 310 = .ok (.iconst 1, 1) := by decide +kernel
theorem dL_isBarred_311 : decode cL_isBarred 311 = .ok (.goto 4, 3) := by decide +kernel
theorem dL_isBarred_314 : decode cL_isBarred 314 = .ok (.iconst 0, 1) := by decide +kernel
theorem dL_isBarred_315 : decode cL_isBarred 315 = .ok (.ireturn, 1) := by decide +kernel
theorem dL_law_0 : decode cL_law 0 = .ok (.new 19, 3) := by decide +kernel
theorem dL_law_3 : decode cL_law 3 = .ok (.dup, 1) := by decide +kernel
theorem dL_law_4 : decode cL_law 4 = .ok (.invokespecial 164, 3) := by decide +kernel
theorem dL_law_7 : decode cL_law 7 = .ok (.astore_n 1, 1) := by decide +kernel
theorem dL_law_8 : decode cL_law 8 = .ok (.new 19, 3) := by decide +kernel
theorem dL_law_11 : decode cL_law 11 = .ok (.dup, 1) := by decide +kernel
theorem dL_law_12 : decode cL_law 12 = .ok (.invokespecial 164, 3) := by decide +kernel
theorem dL_law_15 : decode cL_law 15 = .ok (.astore_n 2, 1) := by decide +kernel
theorem dL_law_16 : decode cL_law 16 = .ok (.iconst 1, 1) := by decide +kernel
theorem dL_law_17 : decode cL_law 17 = .ok (.istore_n 3, 1) := by decide +kernel
theorem dL_law_18 : decode cL_law 18 = .ok (.lconst 0, 1) := by decide +kernel
theorem dL_law_19 : decode cL_law 19 = .ok (.lstore 4, 2) := by decide +kernel
theorem dL_law_21 : decode cL_law 21 = .ok (.iconst 0, 1) := by decide +kernel
theorem dL_law_22 : decode cL_law 22 = .ok (.istore 6, 2) := by decide +kernel
theorem dL_law_24 : decode cL_law 24 = .ok (.iload 6, 2) := by decide +kernel
theorem dL_law_26 : decode cL_law 26 = .ok (.bipush 6, 2) := by decide +kernel
theorem dL_law_28 : decode cL_law 28 = .ok (.if_icmp .ge 109, 3) := by decide +kernel
theorem dL_law_31 : decode cL_law 31 = .ok (.iload_n 3, 1) := by decide +kernel
theorem dL_law_32 : decode cL_law 32 = .ok (.ifCond .eq 105, 3) := by decide +kernel
theorem dL_law_35 : decode cL_law 35 = .ok (.aload_n 0, 1) := by decide +kernel
theorem dL_law_36 : decode cL_law 36 = .ok (.iload 6, 2) := by decide +kernel
theorem dL_law_38 : decode cL_law 38 = .ok (.invokestatic 165, 3) := by decide +kernel
theorem dL_law_41 : decode cL_law 41 = .ok (.istore 7, 2) := by decide +kernel
theorem dL_law_43 : decode cL_law 43 = .ok (.iload 7, 2) := by decide +kernel
theorem dL_law_45 : decode cL_law 45 = .ok (.bipush 6, 2) := by decide +kernel
theorem dL_law_47 : decode cL_law 47 = .ok (.ishr, 1) := by decide +kernel
theorem dL_law_48 : decode cL_law 48 = .ok (.iconst 3, 1) := by decide +kernel
theorem dL_law_49 : decode cL_law 49 = .ok (.iand, 1) := by decide +kernel
theorem dL_law_50 : decode cL_law 50 = .ok (.ifCond .ne 16, 3) := by decide +kernel
theorem dL_law_53 : decode cL_law 53 = .ok (.iload 7, 2) := by decide +kernel
theorem dL_law_55 : decode cL_law 55 = .ok (.iconst 2, 1) := by decide +kernel
theorem dL_law_56 : decode cL_law 56 = .ok (.ishr, 1) := by decide +kernel
theorem dL_law_57 : decode cL_law 57 = .ok (.sipush 2000, 3) := by decide +kernel
theorem dL_law_60 : decode cL_law 60 = .ok (.invokestatic 149, 3) := by decide +kernel
theorem dL_law_63 : decode cL_law 63 = .ok (.goto 12, 3) := by decide +kernel
theorem dL_law_66 : decode cL_law 66 = .ok (.iload 7, 2) := by decide +kernel
theorem dL_law_68 : decode cL_law 68 = .ok (.iconst 2, 1) := by decide +kernel
theorem dL_law_69 : decode cL_law 69 = .ok (.ishr, 1) := by decide +kernel
theorem dL_law_70 : decode cL_law 70 = .ok (.ldc 154, 2) := by decide +kernel
theorem dL_law_72 : decode cL_law 72 = .ok (.invokestatic 149, 3) := by decide +kernel
theorem dL_law_75 : decode cL_law 75 = .ok (.istore 8, 2) := by decide +kernel
theorem dL_law_77 : decode cL_law 77 = .ok (.lload 4, 2) := by decide +kernel
theorem dL_law_79 : decode cL_law 79 = .ok (.iload 8, 2) := by decide +kernel
theorem dL_law_81 : decode cL_law 81 = .ok (.i2l, 1) := by decide +kernel
theorem dL_law_82 : decode cL_law 82 = .ok (.ladd, 1) := by decide +kernel
theorem dL_law_83 : decode cL_law 83 = .ok (.lstore 4, 2) := by decide +kernel
theorem dL_law_85 : decode cL_law 85 = .ok (.aload_n 1, 1) := by decide +kernel
theorem dL_law_86 : decode cL_law 86 = .ok (.iconst 0, 1) := by decide +kernel
theorem dL_law_87 : decode cL_law 87 = .ok (.iload 8, 2) := by decide +kernel
theorem dL_law_89 : decode cL_law 89 = .ok (.iload 7, 2) := by decide +kernel
theorem dL_law_91 : decode cL_law 91 = .ok (.iconst 4, 1) := by decide +kernel
theorem dL_law_92 : decode cL_law 92 = .ok (.invokestatic 149, 3) := by decide +kernel
theorem dL_law_95 : decode cL_law 95 = .ok (.iconst 0, 1) := by decide +kernel
theorem dL_law_96 : decode cL_law 96 = .ok (.iconst 0, 1) := by decide +kernel
theorem dL_law_97 : decode cL_law 97 = .ok (.invokestatic 155, 3) := by decide +kernel
theorem dL_law_100 : decode cL_law 100 = .ok (.iload 6, 2) := by decide +kernel
theorem dL_law_102 : decode cL_law 102 = .ok (.if_icmp .ne 27, 3) := by decide +kernel
theorem dL_law_105 : decode cL_law 105 = .ok (.aload_n 2, 1) := by decide +kernel
theorem dL_law_106 : decode cL_law 106 = .ok (.iconst 0, 1) := by decide +kernel
theorem dL_law_107 : decode cL_law 107 = .ok (.iload 8, 2) := by decide +kernel
theorem dL_law_109 : decode cL_law 109 = .ok (.iload 7, 2) := by decide +kernel
theorem dL_law_111 : decode cL_law 111 = .ok (.iconst 4, 1) := by decide +kernel
theorem dL_law_112 : decode cL_law 112 = .ok (.invokestatic 149, 3) := by decide +kernel
theorem dL_law_115 : decode cL_law 115 = .ok (.iconst 0, 1) := by decide +kernel
theorem dL_law_116 : decode cL_law 116 = .ok (.iconst 0, 1) := by decide +kernel
theorem dL_law_117 : decode cL_law 117 = .ok (.invokestatic 155, 3) := by decide +kernel
theorem dL_law_120 : decode cL_law 120 = .ok (.iload 6, 2) := by decide +kernel
theorem dL_law_122 : decode cL_law 122 = .ok (.if_icmp .ne 7, 3) := by decide +kernel
theorem dL_law_125 : decode cL_law 125 = .ok (.iconst 1, 1) := by decide +kernel
theorem dL_law_126 : decode cL_law 126 = .ok (.goto 4, 3) := by decide +kernel
theorem dL_law_129 : decode cL_law 129 = .ok (.iconst 0, 1) := by decide +kernel
theorem dL_law_130 : decode cL_law 130 = .ok (.istore_n 3, 1) := by decide +kernel
theorem dL_law_131 : decode cL_law 131 = .ok (.iinc 6 1, 3) := by decide +kernel
theorem dL_law_134 : decode cL_law 134 = .ok (.goto (-110), 3) := by decide +kernel
theorem dL_law_137 : decode cL_law 137 = .ok (.iconst 0, 1) := by decide +kernel
theorem dL_law_138 : decode cL_law 138 = .ok (.istore 6, 2) := by decide +kernel
theorem dL_law_140 : decode cL_law 140 = .ok (.iload 6, 2) := by decide +kernel
theorem dL_law_142 : decode cL_law 142 = .ok (.iconst 4, 1) := by decide +kernel
theorem dL_law_143 : decode cL_law 143 = .ok (.if_icmp .ge 86, 3) := by decide +kernel
theorem dL_law_146 : decode cL_law 146 = .ok (.iload_n 3, 1) := by decide +kernel
theorem dL_law_147 : decode cL_law 147 = .ok (.ifCond .eq 82, 3) := by decide +kernel
theorem dL_law_150 : decode cL_law 150 = .ok (.aload_n 0, 1) := by decide +kernel
theorem dL_law_151 : decode cL_law 151 = .ok (.bipush 6, 2) := by decide +kernel
theorem dL_law_153 : decode cL_law 153 = .ok (.iload 6, 2) := by decide +kernel
theorem dL_law_155 : decode cL_law 155 = .ok (.iadd, 1) := by decide +kernel
theorem dL_law_156 : decode cL_law 156 = .ok (.invokestatic 165, 3) := by decide +kernel
theorem dL_law_159 : decode cL_law 159 = .ok (.istore 7, 2) := by decide +kernel
theorem dL_law_161 : decode cL_law 161 = .ok (.aload_n 1, 1) := by decide +kernel
theorem dL_law_162 : decode cL_law 162 = .ok (.iconst 1, 1) := by decide +kernel
theorem dL_law_163 : decode cL_law 163 = .ok (.iload 7, 2) := by decide +kernel
theorem dL_law_165 : decode cL_law 165 = .ok (.bipush 6, 2) := by decide +kernel
theorem dL_law_167 : decode cL_law 167 = .ok (.invokestatic 149, 3) := by decide +kernel
theorem dL_law_170 : decode cL_law 170 = .ok (.iload 7, 2) := by decide +kernel
theorem dL_law_172 : decode cL_law 172 = .ok (.iconst 3, 1) := by decide +kernel
theorem dL_law_173 : decode cL_law 173 = .ok (.ishr, 1) := by decide +kernel
theorem dL_law_174 : decode cL_law 174 = .ok (.ldc 154, 2) := by decide +kernel
theorem dL_law_176 : decode cL_law 176 = .ok (.invokestatic 149, 3) := by decide +kernel
theorem dL_law_179 : decode cL_law 179 = .ok (.iconst 0, 1) := by decide +kernel
theorem dL_law_180 : decode cL_law 180 = .ok (.iconst 0, 1) := by decide +kernel
theorem dL_law_181 : decode cL_law 181 = .ok (.invokestatic 155, 3) := by decide +kernel
theorem dL_law_184 : decode cL_law 184 = .ok (.iload 6, 2) := by decide +kernel
theorem dL_law_186 : decode cL_law 186 = .ok (.if_icmp .ne 35, 3) := by decide +kernel
theorem dL_law_189 : decode cL_law 189 = .ok (.aload_n 2, 1) := by decide +kernel
theorem dL_law_190 : decode cL_law 190 = .ok (.iconst 1, 1) := by decide +kernel
theorem dL_law_191 : decode cL_law 191 = .ok (.iload 7, 2) := by decide +kernel
theorem dL_law_193 : decode cL_law 193 = .ok (.bipush 6, 2) := by decide +kernel
theorem dL_law_195 : decode cL_law 195 = .ok (.invokestatic 149, 3) := by decide +kernel
theorem dL_law_198 : decode cL_law 198 = .ok (.iload 7, 2) := by decide +kernel
theorem dL_law_200 : decode cL_law 200 = .ok (.iconst 3, 1) := by decide +kernel
theorem dL_law_201 : decode cL_law 201 = .ok (.ishr, 1) := by decide +kernel
theorem dL_law_202 : decode cL_law 202 = .ok (.ldc 154, 2) := by decide +kernel
theorem dL_law_204 : decode cL_law 204 = .ok (.invokestatic 149, 3) := by decide +kernel
theorem dL_law_207 : decode cL_law 207 = .ok (.iconst 0, 1) := by decide +kernel
theorem dL_law_208 : decode cL_law 208 = .ok (.iconst 0, 1) := by decide +kernel
theorem dL_law_209 : decode cL_law 209 = .ok (.invokestatic 155, 3) := by decide +kernel
theorem dL_law_212 : decode cL_law 212 = .ok (.iload 6, 2) := by decide +kernel
theorem dL_law_214 : decode cL_law 214 = .ok (.if_icmp .ne 7, 3) := by decide +kernel
theorem dL_law_217 : decode cL_law 217 = .ok (.iconst 1, 1) := by decide +kernel
theorem dL_law_218 : decode cL_law 218 = .ok (.goto 4, 3) := by decide +kernel
theorem dL_law_221 : decode cL_law 221 = .ok (.iconst 0, 1) := by decide +kernel
theorem dL_law_222 : decode cL_law 222 = .ok (.istore_n 3, 1) := by decide +kernel
theorem dL_law_223 : decode cL_law 223 = .ok (.iinc 6 1, 3) := by decide +kernel
theorem dL_law_226 : decode cL_law 226 = .ok (.goto (-86), 3) := by decide +kernel
theorem dL_law_229 : decode cL_law 229 = .ok (.iconst 0, 1) := by decide +kernel
theorem dL_law_230 : decode cL_law 230 = .ok (.istore 6, 2) := by decide +kernel
theorem dL_law_232 : decode cL_law 232 = .ok (.iload 6, 2) := by decide +kernel
theorem dL_law_234 : decode cL_law 234 = .ok (.sipush 150, 3) := by decide +kernel
theorem dL_law_237 : decode cL_law 237 = .ok (.if_icmp .ge 147, 3) := by decide +kernel
theorem dL_law_240 : decode cL_law 240 = .ok (.iload_n 3, 1) := by decide +kernel
theorem dL_law_241 : decode cL_law 241 = .ok (.ifCond .eq 143, 3) := by decide +kernel
theorem dL_law_244 : decode cL_law 244 = .ok (.aload_n 0, 1) := by decide +kernel
theorem dL_law_245 : decode cL_law 245 = .ok (.bipush 10, 2) := by decide +kernel
theorem dL_law_247 : decode cL_law 247 = .ok (.iload 6, 2) := by decide +kernel
theorem dL_law_249 : decode cL_law 249 = .ok (.bipush 51, 2) := by decide +kernel
theorem dL_law_251 : decode cL_law 251 = .ok (.irem, 1) := by decide +kernel
theorem dL_law_252 : decode cL_law 252 = .ok (.iadd, 1) := by decide +kernel
theorem dL_law_253 : decode cL_law 253 = .ok (.invokestatic 165, 3) := by decide +kernel
theorem dL_law_256 : decode cL_law 256 = .ok (.sipush 2243, 3) := by decide +kernel
theorem dL_law_259 : decode cL_law 259 = .ok (.iload 6, 2) := by decide +kernel
theorem dL_law_261 : decode cL_law 261 = .ok (.bipush 51, 2) := by decide +kernel
theorem dL_law_263 : decode cL_law 263 = .ok (.idiv, 1) := by decide +kernel
theorem dL_law_264 : decode cL_law 264 = .ok (.imul, 1) := by decide +kernel
theorem dL_law_265 : decode cL_law 265 = .ok (.iadd, 1) := by decide +kernel
theorem dL_law_266 : decode cL_law 266 = .ok (.istore 7, 2) := by decide +kernel
theorem dL_law_268 : decode cL_law 268 = .ok (.aload_n 1, 1) := by decide +kernel
theorem dL_law_269 : decode cL_law 269 = .ok (.iload 7, 2) := by decide +kernel
theorem dL_law_271 : decode cL_law 271 = .ok (.invokestatic 169, 3) := by decide +kernel
theorem dL_law_274 : decode cL_law 274 = .ok (.istore 8, 2) := by decide +kernel
theorem dL_law_276 : decode cL_law 276 = .ok (.iload 8, 2) := by decide +kernel
theorem dL_law_278 : decode cL_law 278 = .ok (.ldc 45, 2) := by decide +kernel
theorem dL_law_280 : decode cL_law 280 = .ok (.if_icmp .eq 14, 3) := by decide +kernel
theorem dL_law_283 : decode cL_law 283 = .ok (.aload_n 2, 1) := by decide +kernel
theorem dL_law_284 : decode cL_law 284 = .ok (.iload 7, 2) := by decide +kernel
theorem dL_law_286 : decode cL_law 286 = .ok (.invokestatic 169, 3) := by decide +kernel
theorem dL_law_289 : decode cL_law 289 = .ok (.iload 8, 2) := by decide +kernel
theorem dL_law_291 : decode cL_law 291 = .ok (.if_icmp .ne 7, 3) := by decide +kernel
theorem dL_law_294 : decode cL_law 294 = .ok (.iconst 1, 1) := by decide +kernel
theorem dL_law_295 : decode cL_law 295 = .ok (.goto 4, 3) := by decide +kernel
theorem dL_law_298 : decode cL_law 298 = .ok (.iconst 0, 1) := by decide +kernel
theorem dL_law_299 : decode cL_law 299 = .ok (.istore_n 3, 1) := by decide +kernel
theorem dL_law_300 : decode cL_law 300 = .ok (.iload_n 3, 1) := by decide +kernel
theorem dL_law_301 : decode cL_law 301 = .ok (.ifCond .eq 75, 3) := by decide +kernel
theorem dL_law_304 : decode cL_law 304 = .ok (.iload 6, 2) := by decide +kernel
theorem dL_law_306 : decode cL_law 306 = .ok (.bipush 20, 2) := by decide +kernel
theorem dL_law_308 : decode cL_law 308 = .ok (.irem, 1) := by decide +kernel
theorem dL_law_309 : decode cL_law 309 = .ok (.bipush 19, 2) := by decide +kernel
theorem dL_law_311 : decode cL_law 311 = .ok (.if_icmp .ne 18, 3) := by decide +kernel
theorem dL_law_314 : decode cL_law 314 = .ok (.aload_n 1, 1) := by decide +kernel
theorem dL_law_315 : decode cL_law 315 = .ok (.aload_n 2, 1) := by decide +kernel
theorem dL_law_316 : decode cL_law 316 = .ok (.iload 7, 2) := by decide +kernel
theorem dL_law_318 : decode cL_law 318 = .ok (.iconst 3, 1) := by decide +kernel
theorem dL_law_319 : decode cL_law 319 = .ok (.ishr, 1) := by decide +kernel
theorem dL_law_320 : decode cL_law 320 = .ok (.ldc 172, 2) := by decide +kernel
theorem dL_law_322 : decode cL_law 322 = .ok (.iand, 1) := by decide +kernel
theorem dL_law_323 : decode cL_law 323 = .ok (.invokestatic 173, 3) := by decide +kernel
theorem dL_law_326 : decode cL_law 326 = .ok (.ifCond .eq 50, 3) := by decide +kernel
theorem dL_law_329 : decode cL_law 329 = .ok (.iload 6, 2) := by decide +kernel
theorem dL_law_331 : decode cL_law 331 = .ok (.bipush 6, 2) := by decide +kernel
theorem dL_law_333 : decode cL_law 333 = .ok (.irem, 1) := by decide +kernel
theorem dL_law_334 : decode cL_law 334 = .ok (.iconst 3, 1) := by decide +kernel
theorem dL_law_335 : decode cL_law 335 = .ok (.if_icmp .ne 13, 3) := by decide +kernel
theorem dL_law_338 : decode cL_law 338 = .ok (.aload_n 1, 1) := by decide +kernel
theorem dL_law_339 : decode cL_law 339 = .ok (.lload 4, 2) := by decide +kernel
theorem dL_law_341 : decode cL_law 341 = .ok (.iconst 4, 1) := by decide +kernel
theorem dL_law_342 : decode cL_law 342 = .ok (.invokestatic 177, 3) := by decide +kernel
theorem dL_law_345 : decode cL_law 345 = .ok (.ifCond .eq 31, 3) := by decide +kernel
theorem dL_law_348 : decode cL_law 348 = .ok (.iload 6, 2) := by decide +kernel
theorem dL_law_350 : decode cL_law 350 = .ok (.bipush 9, 2) := by decide +kernel
theorem dL_law_352 : decode cL_law 352 = .ok (.irem, 1) := by decide +kernel
theorem dL_law_353 : decode cL_law 353 = .ok (.iconst 5, 1) := by decide +kernel
theorem dL_law_354 : decode cL_law 354 = .ok (.if_icmp .ne 18, 3) := by decide +kernel
theorem dL_law_357 : decode cL_law 357 = .ok (.aload_n 1, 1) := by decide +kernel
theorem dL_law_358 : decode cL_law 358 = .ok (.aload_n 2, 1) := by decide +kernel
theorem dL_law_359 : decode cL_law 359 = .ok (.iload 7, 2) := by decide +kernel
theorem dL_law_361 : decode cL_law 361 = .ok (.iconst 4, 1) := by decide +kernel
theorem dL_law_362 : decode cL_law 362 = .ok (.ishr, 1) := by decide +kernel
theorem dL_law_363 : decode cL_law 363 = .ok (.ldc 172, 2) := by decide +kernel
theorem dL_law_365 : decode cL_law 365 = .ok (.iand, 1) := by decide +kernel
theorem dL_law_366 : decode cL_law 366 = .ok (.invokestatic 181, 3) := by decide +kernel
theorem dL_law_369 : decode cL_law 369 = .ok (.ifCond .eq 7, 3) := by decide +kernel
theorem dL_law_372 : decode cL_law 372 = .ok (.iconst 1, 1) := by decide +kernel
theorem dL_law_373 : decode cL_law 373 = .ok (.goto 4, 3) := by decide +kernel
theorem dL_law_376 : decode cL_law 376 = .ok (.iconst 0, 1) := by decide +kernel
theorem dL_law_377 : decode cL_law 377 = .ok (.istore_n 3, 1) := by decide +kernel
theorem dL_law_378 : decode cL_law 378 = .ok (.iinc 6 1, 3) := by decide +kernel
theorem dL_law_381 : decode cL_law 381 = .ok (.goto (-149), 3) := by decide +kernel
theorem dL_law_384 : decode cL_law 384 = .ok (.iload_n 3, 1) := by decide +kernel
theorem dL_law_385 : decode cL_law 385 = .ok (.ifCond .eq 27, 3) := by decide +kernel
theorem dL_law_388 : decode cL_law 388 = .ok (.aload_n 1, 1) := by decide +kernel
theorem dL_law_389 : decode cL_law 389 = .ok (.aload_n 2, 1) := by decide +kernel
theorem dL_law_390 : decode cL_law 390 = .ok (.bipush 7, 2) := by decide +kernel
theorem dL_law_392 : decode cL_law 392 = .ok (.invokestatic 173, 3) := by decide +kernel
theorem dL_law_395 : decode cL_law 395 = .ok (.ifCond .eq 17, 3) := by decide +kernel
theorem dL_law_398 : decode cL_law 398 = .ok (.aload_n 2, 1) := by decide +kernel
theorem dL_law_399 : decode cL_law 399 = .ok (.lload 4, 2) := by decide +kernel
theorem dL_law_401 : decode cL_law 401 = .ok (.iconst 4, 1) := by decide +kernel
theorem dL_law_402 : decode cL_law 402 = .ok (.invokestatic 177, 3) := by decide +kernel
theorem dL_law_405 : decode cL_law 405 = .ok (.ifCond .eq 7, 3) := by decide +kernel
theorem dL_law_408 : decode cL_law 408 = .ok (.iconst 1, 1) := by decide +kernel
theorem dL_law_409 : decode cL_law 409 = .ok (.goto 4, 3) := by decide +kernel
theorem dL_law_412 : decode cL_law 412 = .ok (.iconst 0, 1) := by decide +kernel
theorem dL_law_413 : decode cL_law 413 = .ok (.ireturn, 1) := by decide +kernel
