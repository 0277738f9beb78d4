theorem dL_act_0 : decode cL_act 0 = .ok (.iload_n 1, 1) := by decide +kernel
theorem dL_act_1 : decode cL_act 1 = .ok (.bipush 18, 2) := by decide +kernel
theorem dL_act_3 : decode cL_act 3 = .ok (.ishr, 1) := by decide +kernel
theorem dL_act_4 : decode cL_act 4 = .ok (.bipush 7, 2) := by decide +kernel
theorem dL_act_6 : decode cL_act 6 = .ok (.iand, 1) := by decide +kernel
theorem dL_act_7 : decode cL_act 7 = .ok (.bipush 7, 2) := by decide +kernel
theorem dL_act_9 : decode cL_act 9 = .ok (.if_icmp .ne 7, 3) := by decide +kernel
theorem dL_act_12 : decode cL_act 12 = .ok (.iconst 1, 1) := by decide +kernel
theorem dL_act_13 : decode cL_act 13 = .ok (.goto 4, 3) := by decide +kernel
theorem dL_act_16 : decode cL_act 16 = .ok (.iconst 0, 1) := by decide +kernel
theorem dL_act_17 : decode cL_act 17 = .ok (.istore_n 2, 1) := by decide +kernel
theorem dL_act_18 : decode cL_act 18 = .ok (.iload_n 1, 1) := by decide +kernel
theorem dL_act_19 : decode cL_act 19 = .ok (.bipush 84, 2) := by decide +kernel
theorem dL_act_21 : decode cL_act 21 = .ok (.invokestatic 149, 3) := by decide +kernel
theorem dL_act_24 : decode cL_act 24 = .ok (.istore_n 3, 1) := by decide +kernel
theorem dL_act_25 : decode cL_act 25 = .ok (.iload_n 1, 1) := by decide +kernel
theorem dL_act_26 : decode cL_act 26 = .ok (.bipush 7, 2) := by decide +kernel
theorem dL_act_28 : decode cL_act 28 = .ok (.ishr, 1) := by decide +kernel
theorem dL_act_29 : decode cL_act 29 = .ok (.istore 4, 2) := by decide +kernel
theorem dL_act_31 : decode cL_act 31 = .ok (.iload_n 2, 1) := by decide +kernel
theorem dL_act_32 : decode cL_act 32 = .ok (.ifCond .eq 15, 3) := by decide +kernel
theorem dL_act_35 : decode cL_act 35 = .ok (.iload 4, 2) := by decide +kernel
theorem dL_act_37 : decode cL_act 37 = .ok (.bipush 12, 2) := by decide +kernel
theorem dL_act_39 : decode cL_act 39 = .ok (.invokestatic 149, 3) := by decide +kernel
theorem dL_act_42 : decode cL_act 42 = .ok (.iconst 1, 1) := by decide +kernel
theorem dL_act_43 : decode cL_act 43 = .ok (.isub, 1) := by decide +kernel
theorem dL_act_44 : decode cL_act 44 = .ok (.goto 10, 3) := by decide +kernel
theorem dL_act_47 : decode cL_act 47 = .ok (.iload 4, 2) := by decide +kernel
theorem dL_act_49 : decode cL_act 49 = .ok (.bipush 6, 2) := by decide +kernel
theorem dL_act_51 : decode cL_act 51 = .ok (.invokestatic 149, 3) := by decide +kernel
theorem dL_act_54 : decode cL_act 54 = .ok (.istore 5, 2) := by decide +kernel
theorem dL_act_56 : decode cL_act 56 = .ok (.iload_n 2, 1) := by decide +kernel
theorem dL_act_57 : decode cL_act 57 = .ok (.ifCond .eq 17, 3) := by decide +kernel
theorem dL_act_60 : decode cL_act 60 = .ok (.iload 4, 2) := by decide +kernel
theorem dL_act_62 : decode cL_act 62 = .ok (.iconst 4, 1) := by decide +kernel
theorem dL_act_63 : decode cL_act 63 = .ok (.ishr, 1) := by decide +kernel
theorem dL_act_64 : decode cL_act 64 = .ok (.bipush 12, 2) := by decide +kernel
theorem dL_act_66 : decode cL_act 66 = .ok (.invokestatic 149, 3) := by decide +kernel
theorem dL_act_69 : decode cL_act 69 = .ok (.iconst 1, 1) := by decide +kernel
theorem dL_act_70 : decode cL_act 70 = .ok (.isub, 1) := by decide +kernel
theorem dL_act_71 : decode cL_act 71 = .ok (.goto 12, 3) := by decide +kernel
theorem dL_act_74 : decode cL_act 74 = .ok (.iload 4, 2) := by decide +kernel
theorem dL_act_76 : decode cL_act 76 = .ok (.iconst 4, 1) := by decide +kernel
theorem dL_act_77 : decode cL_act 77 = .ok (.ishr, 1) := by decide +kernel
theorem dL_act_78 : decode cL_act 78 = .ok (.bipush 6, 2) := by decide +kernel
theorem dL_act_80 : decode cL_act 80 = .ok (.invokestatic 149, 3) := by decide +kernel
theorem dL_act_83 : decode cL_act 83 = .ok (.istore 6, 2) := by decide +kernel
theorem dL_act_85 : decode cL_act 85 = .ok (.iload_n 2, 1) := by decide +kernel
theorem dL_act_86 : decode cL_act 86 = .ok (.ifCond .eq 17, 3) := by decide +kernel
theorem dL_act_89 : decode cL_act 89 = .ok (.iload 4, 2) := by decide +kernel
theorem dL_act_91 : decode cL_act 91 = .ok (.iconst 3, 1) := by decide +kernel
theorem dL_act_92 : decode cL_act 92 = .ok (.ishr, 1) := by decide +kernel
theorem dL_act_93 : decode cL_act 93 = .ok (.bipush 14, 2) := by decide +kernel
theorem dL_act_95 : decode cL_act 95 = .ok (.invokestatic 149, 3) := by decide +kernel
theorem dL_act_98 : decode cL_act 98 = .ok (.iconst 1, 1) := by decide +kernel
theorem dL_act_99 : decode cL_act 99 = .ok (.isub, 1) := by decide +kernel
theorem dL_act_100 : decode cL_act 100 = .ok (.goto 11, 3) := by decide +kernel
theorem dL_act_103 : decode cL_act 103 = .ok (.iload 4, 2) := by decide +kernel
theorem dL_act_105 : decode cL_act 105 = .ok (.iconst 3, 1) := by decide +kernel
theorem dL_act_106 : decode cL_act 106 = .ok (.ishr, 1) := by decide +kernel
theorem dL_act_107 : decode cL_act 107 = .ok (.iconst 4, 1) := by decide +kernel
theorem dL_act_108 : decode cL_act 108 = .ok (.invokestatic 149, 3) := by decide +kernel
theorem dL_act_111 : decode cL_act 111 = .ok (.istore 7, 2) := by decide +kernel
theorem dL_act_113 : decode cL_act 113 = .ok (.iload_n 2, 1) := by decide +kernel
theorem dL_act_114 : decode cL_act 114 = .ok (.ifCond .eq 17, 3) := by decide +kernel
theorem dL_act_117 : decode cL_act 117 = .ok (.iload 4, 2) := by decide +kernel
theorem dL_act_119 : decode cL_act 119 = .ok (.iconst 2, 1) := by decide +kernel
theorem dL_act_120 : decode cL_act 120 = .ok (.ishr, 1) := by decide +kernel
theorem dL_act_121 : decode cL_act 121 = .ok (.bipush 63, 2) := by decide +kernel
theorem dL_act_123 : decode cL_act 123 = .ok (.invokestatic 149, 3) := by decide +kernel
theorem dL_act_126 : decode cL_act 126 = .ok (.iconst 1, 1) := by decide +kernel
theorem dL_act_127 : decode cL_act 127 = .ok (.isub, 1) := by decide +kernel
theorem dL_act_128 : decode cL_act 128 = .ok (.goto 12, 3) := by decide +kernel
theorem dL_act_131 : decode cL_act 131 = .ok (.iload 4, 2) := by decide +kernel
theorem dL_act_133 : decode cL_act 133 = .ok (.iconst 2, 1) := by decide +kernel
theorem dL_act_134 : decode cL_act 134 = .ok (.ishr, 1) := by decide +kernel
theorem dL_act_135 : decode cL_act 135 = .ok (.bipush 14, 2) := by decide +kernel
theorem dL_act_137 : decode cL_act 137 = .ok (.invokestatic 149, 3) := by decide +kernel
theorem dL_act_140 : decode cL_act 140 = .ok (.istore 8, 2) := by decide +kernel
theorem dL_act_142 : decode cL_act 142 = .ok (.iload_n 2, 1) := by decide +kernel
theorem dL_act_143 : decode cL_act 143 = .ok (.ifCond .eq 18, 3) := by decide +kernel
theorem dL_act_146 : decode cL_act 146 = .ok (.iload 4, 2) := by decide +kernel
theorem dL_act_148 : decode cL_act 148 = .ok (.iconst 2, 1) := by decide +kernel
theorem dL_act_149 : decode cL_act 149 = .ok (.ishr, 1) := by decide +kernel
theorem dL_act_150 : decode cL_act 150 = .ok (.ldc 152, 2) := by decide +kernel
theorem dL_act_152 : decode cL_act 152 = .ok (.invokestatic 149, 3) := by decide +kernel
theorem dL_act_155 : decode cL_act 155 = .ok (.ldc 153, 2) := by decide +kernel
theorem dL_act_157 : decode cL_act 157 = .ok (.isub, 1) := by decide +kernel
theorem dL_act_158 : decode cL_act 158 = .ok (.goto 55, 3) := by decide +kernel
theorem dL_act_161 : decode cL_act 161 = .ok (.iload 4, 2) := by decide +kernel
theorem dL_act_163 : decode cL_act 163 = .ok (.iconst 5, 1) := by decide +kernel
theorem dL_act_164 : decode cL_act 164 = .ok (.ishr, 1) := by decide +kernel
theorem dL_act_165 : decode cL_act 165 = .ok (.iconst 3, 1) := by decide +kernel
theorem dL_act_166 : decode cL_act 166 = .ok (.iand, 1) := by decide +kernel
theorem dL_act_167 : decode cL_act 167 = .ok (.ifCond .ne 15, 3) := by decide +kernel
theorem dL_act_170 : decode cL_act 170 = .ok (.iload 4, 2) := by decide +kernel
theorem dL_act_172 : decode cL_act 172 = .ok (.iconst 2, 1) := by decide +kernel
theorem dL_act_173 : decode cL_act 173 = .ok (.ishr, 1) := by decide +kernel
theorem dL_act_174 : decode cL_act 174 = .ok (.ldc 154, 2) := by decide +kernel
theorem dL_act_176 : decode cL_act 176 = .ok (.invokestatic 149, 3) := by decide +kernel
theorem dL_act_179 : decode cL_act 179 = .ok (.goto 34, 3) := by decide +kernel
theorem dL_act_182 : decode cL_act 182 = .ok (.iload 4, 2) := by decide +kernel
theorem dL_act_184 : decode cL_act 184 = .ok (.iconst 5, 1) := by decide +kernel
theorem dL_act_185 : decode cL_act 185 = .ok (.ishr, 1) := by decide +kernel
theorem dL_act_186 : decode cL_act 186 = .ok (.iconst 3, 1) := by decide +kernel
theorem dL_act_187 : decode cL_act 187 = .ok (.iand, 1) := by decide +kernel
theorem dL_act_188 : decode cL_act 188 = .ok (.iconst 1, 1) := by decide +kernel
theorem dL_act_189 : decode cL_act 189 = .ok (.if_icmp .ne 14, 3) := by decide +kernel
theorem dL_act_192 : decode cL_act 192 = .ok (.iload 4, 2) := by decide +kernel
theorem dL_act_194 : decode cL_act 194 = .ok (.iconst 2, 1) := by decide +kernel
theorem dL_act_195 : decode cL_act 195 = .ok (.ishr, 1) := by decide +kernel
theorem dL_act_196 : decode cL_act 196 = .ok (.iconst 3, 1) := by decide +kernel
theorem dL_act_197 : decode cL_act 197 = .ok (.invokestatic 149, 3) := by decide +kernel
theorem dL_act_200 : decode cL_act 200 = .ok (.goto 13, 3) := by decide +kernel
theorem dL_act_203 : decode cL_act 203 = .ok (.iload 4, 2) := by decide +kernel
theorem dL_act_205 : decode cL_act 205 = .ok (.iconst 2, 1) := by decide +kernel
theorem dL_act_206 : decode cL_act 206 = .ok (.ishr, 1) := by decide +kernel
theorem dL_act_207 : decode cL_act 207 = .ok (.sipush 20000, 3) := by decide +kernel
theorem dL_act_210 : decode cL_act 210 = .ok (.invokestatic 149, 3) := by decide +kernel
theorem dL_act_213 : decode cL_act 213 = .ok (.istore 9, 2) := by decide +kernel
theorem dL_act_215 : decode cL_act 215 = .ok (.iload_n 3, 1) := by decide +kernel
theorem dL_act_216 : decode cL_act 216 = .ok (.bipush 16, 2) := by decide +kernel
theorem dL_act_218 : decode cL_act 218 = .ok (.if_icmp .ge 342, 3) := by decide +kernel
theorem dL_act_221 : decode cL_act 221 = .ok (.iload_n 3, 1) := by decide +kernel
theorem dL_act_222 : decode cL_act 222 = .ok (.iconst 2, 1) := by decide +kernel
theorem dL_act_223 : decode cL_act 223 = .ok (.if_icmp .ge 33, 3) := by decide +kernel
theorem dL_act_226 : decode cL_act 226 = .ok (.aload_n 0, 1) := by decide +kernel
theorem dL_act_227 : decode cL_act 227 = .ok (.iconst 2, 1) := by decide +kernel
theorem dL_act_228 : decode cL_act 228 = .ok (.iload 7, 2) := by decide +kernel
theorem dL_act_230 : decode cL_act 230 = .ok (.iload_n 2, 1) := by decide +kernel
theorem dL_act_231 : decode cL_act 231 = .ok (.ifCond .eq 8, 3) := by decide +kernel
theorem dL_act_234 : decode cL_act 234 = .ok (.iload 9, 2) := by decide +kernel
theorem dL_act_236 : decode cL_act 236 = .ok (.goto 12, 3) := by decide +kernel
theorem dL_act_239 : decode cL_act 239 = .ok (.iload 4, 2) := by decide +kernel
theorem dL_act_241 : decode cL_act 241 = .ok (.iconst 2, 1) := by decide +kernel
theorem dL_act_242 : decode cL_act 242 = .ok (.ishr, 1) := by decide +kernel
theorem dL_act_243 : decode cL_act 243 = .ok (.ldc 154, 2) := by decide +kernel
theorem dL_act_245 : decode cL_act 245 = .ok (.invokestatic 149, 3) := by decide +kernel
theorem dL_act_248 : decode cL_act 248 = .ok (.iconst 0, 1) := by decide +kernel
theorem dL_act_249 : decode cL_act 249 = .ok (.iconst 0, 1) := by decide +kernel
theorem dL_act_250 : decode cL_act 250 = .ok (.invokestatic 155, 3) := by decide +kernel
theorem dL_act_253 : decode cL_act 253 = .ok (.goto 306, 3) := by decide +kernel
theorem dL_act_256 : decode cL_act 256 = .ok (.iload_n 3, 1) := by decide +kernel
theorem dL_act_257 : decode cL_act 257 = .ok (.iconst 4, 1) := by decide +kernel
theorem dL_act_258 : decode cL_act 258 = .ok (.if_icmp .ge 33, 3) := by decide +kernel
theorem dL_act_261 : decode cL_act 261 = .ok (.aload_n 0, 1) := by decide +kernel
theorem dL_act_262 : decode cL_act 262 = .ok (.iconst 4, 1) := by decide +kernel
theorem dL_act_263 : decode cL_act 263 = .ok (.iload 5, 2) := by decide +kernel
theorem dL_act_265 : decode cL_act 265 = .ok (.iload 4, 2) := by decide +kernel
theorem dL_act_267 : decode cL_act 267 = .ok (.iconst 5, 1) := by decide +kernel
theorem dL_act_268 : decode cL_act 268 = .ok (.ishr, 1) := by decide +kernel
theorem dL_act_269 : decode cL_act 269 = .ok (.iload_n 2, 1) := by decide +kernel
theorem dL_act_270 : decode cL_act 270 = .ok (.ifCond .eq 8, 3) := by decide +kernel
theorem dL_act_273 : decode cL_act 273 = .ok (.bipush 14, 2) := by decide +kernel
theorem dL_act_275 : decode cL_act 275 = .ok (.goto 5, 3) := by decide +kernel
theorem dL_act_278 : decode cL_act 278 = .ok (.bipush 10, 2) := by decide +kernel
theorem dL_act_280 : decode cL_act 280 = .ok (.invokestatic 149, 3) := by decide +kernel
theorem dL_act_283 : decode cL_act 283 = .ok (.iconst 0, 1) := by decide +kernel
theorem dL_act_284 : decode cL_act 284 = .ok (.iconst 0, 1) := by decide +kernel
theorem dL_act_285 : decode cL_act 285 = .ok (.invokestatic 155, 3) := by decide +kernel
theorem dL_act_288 : decode cL_act 288 = .ok (.goto 271, 3) := by decide +kernel
theorem dL_act_291 : decode cL_act 291 = .ok (.iload_n 3, 1) := by decide +kernel
theorem dL_act_292 : decode cL_act 292 = .ok (.bipush 7, 2) := by decide +kernel
theorem dL_act_294 : decode cL_act 294 = .ok (.if_icmp .ge 23, 3) := by decide +kernel
theorem dL_act_297 : decode cL_act 297 = .ok (.aload_n 0, 1) := by decide +kernel
theorem dL_act_298 : decode cL_act 298 = .ok (.iconst 5, 1) := by decide +kernel
theorem dL_act_299 : decode cL_act 299 = .ok (.iload 5, 2) := by decide +kernel
theorem dL_act_301 : decode cL_act 301 = .ok (.iload 7, 2) := by decide +kernel
theorem dL_act_303 : decode cL_act 303 = .ok (.iload 4, 2) := by decide +kernel
theorem dL_act_305 : decode cL_act 305 = .ok (.bipush 7, 2) := by decide +kernel
theorem dL_act_307 : decode cL_act 307 = .ok (.ishr, 1) := by decide +kernel
theorem dL_act_308 : decode cL_act 308 = .ok (.iconst 1, 1) := by decide +kernel
theorem dL_act_309 : decode cL_act 309 = .ok (.iand, 1) := by decide +kernel
theorem dL_act_310 : decode cL_act 310 = .ok (.iconst 0, 1) := by decide +kernel
theorem dL_act_311 : decode cL_act 311 = .ok (.invokestatic 155, 3) := by decide +kernel
theorem dL_act_314 : decode cL_act 314 = .ok (.goto 245, 3) := by decide +kernel
theorem dL_act_317 : decode cL_act 317 = .ok (.iload_n 3, 1) := by decide +kernel
theorem dL_act_318 : decode cL_act 318 = .ok (.bipush 7, 2) := by decide +kernel
theorem dL_act_320 : decode cL_act 320 = .ok (.if_icmp .ne 60, 3) := by decide +kernel
theorem dL_act_323 : decode cL_act 323 = .ok (.aload_n 0, 1) := by decide +kernel
theorem dL_act_324 : decode cL_act 324 = .ok (.bipush 6, 2) := by decide +kernel
theorem dL_act_326 : decode cL_act 326 = .ok (.iload 7, 2) := by decide +kernel
theorem dL_act_328 : decode cL_act 328 = .ok (.sipush 1900, 3) := by decide +kernel
theorem dL_act_331 : decode cL_act 331 = .ok (.iload 4, 2) := by decide +kernel
theorem dL_act_333 : decode cL_act 333 = .ok (.bipush 80, 2) := by decide +kernel
theorem dL_act_335 : decode cL_act 335 = .ok (.invokestatic 149, 3) := by decide +kernel
theorem dL_act_338 : decode cL_act 338 = .ok (.iadd, 1) := by decide +kernel
theorem dL_act_339 : decode cL_act 339 = .ok (.iload_n 2, 1) := by decide +kernel
theorem dL_act_340 : decode cL_act 340 = .ok (.ifCond .eq 20, 3) := by decide +kernel
theorem dL_act_343 : decode cL_act 343 = .ok (.sipush 1890, 3) := by decide +kernel
theorem dL_act_346 : decode cL_act 346 = .ok (.iload 4, 2) := by decide +kernel
theorem dL_act_348 : decode cL_act 348 = .ok (.iconst 2, 1) := by decide +kernel
theorem dL_act_349 : decode cL_act 349 = .ok (.ishr, 1) := by decide +kernel
theorem dL_act_350 : decode cL_act 350 = .ok (.sipush 130, 3) := by decide +kernel
theorem dL_act_353 : decode cL_act 353 = .ok (.invokestatic 149, 3) := by decide +kernel
theorem dL_act_356 : decode cL_act 356 = .ok (.iadd, 1) := by decide +kernel
theorem dL_act_357 : decode cL_act 357 = .ok (.goto 16, 3) := by decide +kernel
theorem dL_act_360 : decode cL_act 360 = .ok (.sipush 1980, 3) := by decide +kernel
theorem dL_act_363 : decode cL_act 363 = .ok (.iload 4, 2) := by decide +kernel
theorem dL_act_365 : decode cL_act 365 = .ok (.iconst 2, 1) := by decide +kernel
theorem dL_act_366 : decode cL_act 366 = .ok (.ishr, 1) := by decide +kernel
theorem dL_act_367 : decode cL_act 367 = .ok (.bipush 20, 2) := by decide +kernel
theorem dL_act_369 : decode cL_act 369 = .ok (.invokestatic 149, 3) := by decide +kernel
theorem dL_act_372 : decode cL_act 372 = .ok (.iadd, 1) := by decide +kernel
theorem dL_act_373 : decode cL_act 373 = .ok (.iconst 0, 1) := by decide +kernel
theorem dL_act_374 : decode cL_act 374 = .ok (.invokestatic 155, 3) := by decide +kernel
theorem dL_act_377 : decode cL_act 377 = .ok (.goto 182, 3) := by decide +kernel
theorem dL_act_380 : decode cL_act 380 = .ok (.iload_n 3, 1) := by decide +kernel
theorem dL_act_381 : decode cL_act 381 = .ok (.bipush 8, 2) := by decide +kernel
theorem dL_act_383 : decode cL_act 383 = .ok (.if_icmp .ne 47, 3) := by decide +kernel
theorem dL_act_386 : decode cL_act 386 = .ok (.aload_n 0, 1) := by decide +kernel
theorem dL_act_387 : decode cL_act 387 = .ok (.bipush 7, 2) := by decide +kernel
theorem dL_act_389 : decode cL_act 389 = .ok (.iload 4, 2) := by decide +kernel
theorem dL_act_391 : decode cL_act 391 = .ok (.iload_n 2, 1) := by decide +kernel
theorem dL_act_392 : decode cL_act 392 = .ok (.ifCond .eq 8, 3) := by decide +kernel
theorem dL_act_395 : decode cL_act 395 = .ok (.bipush 6, 2) := by decide +kernel
theorem dL_act_397 : decode cL_act 397 = .ok (.goto 4, 3) := by decide +kernel
theorem dL_act_400 : decode cL_act 400 = .ok (.iconst 4, 1) := by decide +kernel
theorem dL_act_401 : decode cL_act 401 = .ok (.invokestatic 149, 3) := by decide +kernel
theorem dL_act_404 : decode cL_act 404 = .ok (.iload 4, 2) := by decide +kernel
theorem dL_act_406 : decode cL_act 406 = .ok (.iconst 4, 1) := by decide +kernel
theorem dL_act_407 : decode cL_act 407 = .ok (.ishr, 1) := by decide +kernel
theorem dL_act_408 : decode cL_act 408 = .ok (.iload_n 2, 1) := by decide +kernel
theorem dL_act_409 : decode cL_act 409 = .ok (.ifCond .eq 8, 3) := by decide +kernel
theorem dL_act_412 : decode cL_act 412 = .ok (.bipush 30, 2) := by decide +kernel
theorem dL_act_414 : decode cL_act 414 = .ok (.goto 5, 3) := by decide +kernel
theorem dL_act_417 : decode cL_act 417 = .ok (.bipush 21, 2) := by decide +kernel
theorem dL_act_419 : decode cL_act 419 = .ok (.invokestatic 149, 3) := by decide +kernel
theorem dL_act_422 : decode cL_act 422 = .ok (.iconst 0, 1) := by decide +kernel
theorem dL_act_423 : decode cL_act 423 = .ok (.iconst 0, 1) := by decide +kernel
theorem dL_act_424 : decode cL_act 424 = .ok (.invokestatic 155, 3) := by decide +kernel
theorem dL_act_427 : decode cL_act 427 = .ok (.goto 132, 3) := by decide +kernel
theorem dL_act_430 : decode cL_act 430 = .ok (.iload_n 3, 1) := by decide +kernel
theorem dL_act_431 : decode cL_act 431 = .ok (.bipush 9, 2) := by decide +kernel
theorem dL_act_433 : decode cL_act 433 = .ok (.if_icmp .ne 23, 3) := by decide +kernel
theorem dL_act_436 : decode cL_act 436 = .ok (.aload_n 0, 1) := by decide +kernel
theorem dL_act_437 : decode cL_act 437 = .ok (.bipush 8, 2) := by decide +kernel
theorem dL_act_439 : decode cL_act 439 = .ok (.iload 7, 2) := by decide +kernel
theorem dL_act_441 : decode cL_act 441 = .ok (.iload 4, 2) := by decide +kernel
theorem dL_act_443 : decode cL_act 443 = .ok (.bipush 30, 2) := by decide +kernel
theorem dL_act_445 : decode cL_act 445 = .ok (.invokestatic 149, 3) := by decide +kernel
theorem dL_act_448 : decode cL_act 448 = .ok (.iconst 0, 1) := by decide +kernel
theorem dL_act_449 : decode cL_act 449 = .ok (.iconst 0, 1) := by decide +kernel
theorem dL_act_450 : decode cL_act 450 = .ok (.invokestatic 155, 3) := by decide +kernel
theorem dL_act_453 : decode cL_act 453 = .ok (.goto 106, 3) := by decide +kernel
theorem dL_act_456 : decode cL_act 456 = .ok (.iload_n 3, 1) := by decide +kernel
theorem dL_act_457 : decode cL_act 457 = .ok (.bipush 10, 2) := by decide +kernel
theorem dL_act_459 : decode cL_act 459 = .ok (.if_icmp .ne 20, 3) := by decide +kernel
theorem dL_act_462 : decode cL_act 462 = .ok (.aload_n 0, 1) := by decide +kernel
theorem dL_act_463 : decode cL_act 463 = .ok (.bipush 9, 2) := by decide +kernel
theorem dL_act_465 : decode cL_act 465 = .ok (.iload 7, 2) := by decide +kernel
theorem dL_act_467 : decode cL_act 467 = .ok (.iload 4, 2) := by decide +kernel
theorem dL_act_469 : decode cL_act 469 = .ok (.iconst 1, 1) := by decide +kernel
theorem dL_act_470 : decode cL_act 470 = .ok (.iand, 1) := by decide +kernel
theorem dL_act_471 : decode cL_act 471 = .ok (.iconst 0, 1) := by decide +kernel
theorem dL_act_472 : decode cL_act 472 = .ok (.iconst 0, 1) := by decide +kernel
theorem dL_act_473 : decode cL_act 473 = .ok (.invokestatic 155, 3) := by decide +kernel
theorem dL_act_476 : decode cL_act 476 = .ok (.goto 83, 3) := by decide +kernel
theorem dL_act_479 : decode cL_act 479 = .ok (.iload_n 3, 1) := by decide +kernel
theorem dL_act_480 : decode cL_act 480 = .ok (.bipush 14, 2) := by decide +kernel
theorem dL_act_482 : decode cL_act 482 = .ok (.if_icmp .ge 31, 3) := by decide +kernel
theorem dL_act_485 : decode cL_act 485 = .ok (.aload_n 0, 1) := by decide +kernel
theorem dL_act_486 : decode cL_act 486 = .ok (.bipush 10, 2) := by decide +kernel
theorem dL_act_488 : decode cL_act 488 = .ok (.iload 7, 2) := by decide +kernel
theorem dL_act_490 : decode cL_act 490 = .ok (.iload 4, 2) := by decide +kernel
theorem dL_act_492 : decode cL_act 492 = .ok (.iload_n 2, 1) := by decide +kernel
theorem dL_act_493 : decode cL_act 493 = .ok (.ifCond .eq 8, 3) := by decide +kernel
theorem dL_act_496 : decode cL_act 496 = .ok (.bipush 6, 2) := by decide +kernel
theorem dL_act_498 : decode cL_act 498 = .ok (.goto 4, 3) := by decide +kernel
theorem dL_act_501 : decode cL_act 501 = .ok (.iconst 4, 1) := by decide +kernel
theorem dL_act_502 : decode cL_act 502 = .ok (.invokestatic 149, 3) := by decide +kernel
theorem dL_act_505 : decode cL_act 505 = .ok (.iconst 0, 1) := by decide +kernel
theorem dL_act_506 : decode cL_act 506 = .ok (.iconst 0, 1) := by decide +kernel
theorem dL_act_507 : decode cL_act 507 = .ok (.invokestatic 155, 3) := by decide +kernel
theorem dL_act_510 : decode cL_act 510 = .ok (.goto 49, 3) := by decide +kernel
theorem dL_act_513 : decode cL_act 513 = .ok (.iload_n 3, 1) := by decide +kernel
theorem dL_act_514 : decode cL_act 514 = .ok (.bipush 14, 2) := by decide +kernel
theorem dL_act_516 : decode cL_act 516 = .ok (.if_icmp .ne 17, 3) := by decide +kernel
theorem dL_act_519 : decode cL_act 519 = .ok (.aload_n 0, 1) := by decide +kernel
theorem dL_act_520 : decode cL_act 520 = .ok (.bipush 11, 2) := by decide +kernel
theorem dL_act_522 : decode cL_act 522 = .ok (.iload 7, 2) := by decide +kernel
theorem dL_act_524 : decode cL_act 524 = .ok (.iconst 0, 1) := by decide +kernel
theorem dL_act_525 : decode cL_act 525 = .ok (.iconst 0, 1) := by decide +kernel
theorem dL_act_526 : decode cL_act 526 = .ok (.iconst 0, 1) := by decide +kernel
theorem dL_act_527 : decode cL_act 527 = .ok (.invokestatic 155, 3) := by decide +kernel
theorem dL_act_530 : decode cL_act 530 = .ok (.goto 29, 3) := by decide +kernel
theorem dL_act_533 : decode cL_act 533 = .ok (.iload 4, 2) := by decide +kernel
theorem dL_act_535 : decode cL_act 535 = .ok (.bipush 8, 2) := by decide +kernel
theorem dL_act_537 : decode cL_act 537 = .ok (.ishr, 1) := by decide +kernel
theorem dL_act_538 : decode cL_act 538 = .ok (.iconst 3, 1) := by decide +kernel
theorem dL_act_539 : decode cL_act 539 = .ok (.iand, 1) := by decide +kernel
theorem dL_act_540 : decode cL_act 540 = .ok (.ifCond .ne 17, 3) := by decide +kernel
theorem dL_act_543 : decode cL_act 543 = .ok (.aload_n 0, 1) := by decide +kernel
theorem dL_act_544 : decode cL_act 544 = .ok (.bipush 12, 2) := by decide +kernel
theorem dL_act_546 : decode cL_act 546 = .ok (.iload 5, 2) := by decide +kernel
theorem dL_act_548 : decode cL_act 548 = .ok (.iconst 0, 1) := by decide +kernel
theorem dL_act_549 : decode cL_act 549 = .ok (.iconst 0, 1) := by decide +kernel
theorem dL_act_550 : decode cL_act 550 = .ok (.iconst 0, 1) := by decide +kernel
theorem dL_act_551 : decode cL_act 551 = .ok (.invokestatic 155, 3) := by decide +kernel
theorem dL_act_554 : decode cL_act 554 = .ok (.goto 5, 3) := by decide +kernel
theorem dL_act_557 : decode cL_act 557 = .ok (.ldc 45, 2) := by decide +kernel
theorem dL_act_559 : decode cL_act 559 = .ok (.ireturn, 1) := by decide +kernel
theorem dL_act_560 : decode cL_act 560 = .ok (.iload_n 3, 1) := by decide +kernel
theorem dL_act_561 : decode cL_act 561 = .ok (.bipush 54, 2) := by decide +kernel
theorem dL_act_563 : decode cL_act 563 = .ok (.if_icmp .ge 216, 3) := by decide +kernel
theorem dL_act_566 : decode cL_act 566 = .ok (.iload_n 2, 1) := by decide +kernel
theorem dL_act_567 : decode cL_act 567 = .ok (.ifCond .eq 7, 3) := by decide +kernel
theorem dL_act_570 : decode cL_act 570 = .ok (.iconst 0, 1) := by decide +kernel
theorem dL_act_571 : decode cL_act 571 = .ok (.goto 4, 3) := by decide +kernel
theorem dL_act_574 : decode cL_act 574 = .ok (.iconst 1, 1) := by decide +kernel
theorem dL_act_575 : decode cL_act 575 = .ok (.iload 4, 2) := by decide +kernel
theorem dL_act_577 : decode cL_act 577 = .ok (.iconst 5, 1) := by decide +kernel
theorem dL_act_578 : decode cL_act 578 = .ok (.ishr, 1) := by decide +kernel
theorem dL_act_579 : decode cL_act 579 = .ok (.iload 4, 2) := by decide +kernel
theorem dL_act_581 : decode cL_act 581 = .ok (.bipush 8, 2) := by decide +kernel
theorem dL_act_583 : decode cL_act 583 = .ok (.ishr, 1) := by decide +kernel
theorem dL_act_584 : decode cL_act 584 = .ok (.iconst 1, 1) := by decide +kernel
theorem dL_act_585 : decode cL_act 585 = .ok (.iand, 1) := by decide +kernel
theorem dL_act_586 : decode cL_act 586 = .ok (.ifCond .ne 17, 3) := by decide +kernel
theorem dL_act_589 : decode cL_act 589 = .ok (.iload_n 2, 1) := by decide +kernel
theorem dL_act_590 : decode cL_act 590 = .ok (.ifCond .eq 8, 3) := by decide +kernel
theorem dL_act_593 : decode cL_act 593 = .ok (.bipush 70, 2) := by decide +kernel
theorem dL_act_595 : decode cL_act 595 = .ok (.goto 10, 3) := by decide +kernel
theorem dL_act_598 : decode cL_act 598 = .ok (.bipush 60, 2) := by decide +kernel
theorem dL_act_600 : decode cL_act 600 = .ok (.goto 5, 3) := by decide +kernel
theorem dL_act_603 : decode cL_act 603 = .ok (.bipush 9, 2) := by decide +kernel
theorem dL_act_605 : decode cL_act 605 = .ok (.invokestatic 149, 3) := by decide +kernel
theorem dL_act_608 : decode cL_act 608 = .ok (.iadd, 1) := by decide +kernel
theorem dL_act_609 : decode cL_act 609 = .ok (.istore 10, 2) := by decide +kernel
theorem dL_act_611 : decode cL_act 611 = .ok (.iload_n 3, 1) := by decide +kernel
theorem dL_act_612 : decode cL_act 612 = .ok (.bipush 30, 2) := by decide +kernel
theorem dL_act_614 : decode cL_act 614 = .ok (.if_icmp .ge 20, 3) := by decide +kernel
theorem dL_act_617 : decode cL_act 617 = .ok (.aload_n 0, 1) := by decide +kernel
theorem dL_act_618 : decode cL_act 618 = .ok (.bipush 13, 2) := by decide +kernel
theorem dL_act_620 : decode cL_act 620 = .ok (.iload 8, 2) := by decide +kernel
theorem dL_act_622 : decode cL_act 622 = .ok (.iload 10, 2) := by decide +kernel
theorem dL_act_624 : decode cL_act 624 = .ok (.iload 5, 2) := by decide +kernel
theorem dL_act_626 : decode cL_act 626 = .ok (.iload 9, 2) := by decide +kernel
theorem dL_act_628 : decode cL_act 628 = .ok (.invokestatic 155, 3) := by decide +kernel
theorem dL_act_631 : decode cL_act 631 = .ok (.goto 147, 3) := by decide +kernel
theorem dL_act_634 : decode cL_act 634 = .ok (.iload_n 3, 1) := by decide +kernel
theorem dL_act_635 : decode cL_act 635 = .ok (.bipush 37, 2) := by decide +kernel
theorem dL_act_637 : decode cL_act 637 = .ok (.if_icmp .ge 65, 3) := by decide +kernel
theorem dL_act_640 : decode cL_act 640 = .ok (.aload_n 0, 1) := by decide +kernel
theorem dL_act_641 : decode cL_act 641 = .ok (.bipush 14, 2) := by decide +kernel
theorem dL_act_643 : decode cL_act 643 = .ok (.iload 8, 2) := by decide +kernel
theorem dL_act_645 : decode cL_act 645 = .ok (.iload 5, 2) := by decide +kernel
theorem dL_act_647 : decode cL_act 647 = .ok (.iload 4, 2) := by decide +kernel
theorem dL_act_649 : decode cL_act 649 = .ok (.sipush 3000, 3) := by decide +kernel
theorem dL_act_652 : decode cL_act 652 = .ok (.invokestatic 149, 3) := by decide +kernel
theorem dL_act_655 : decode cL_act 655 = .ok (.iload 4, 2) := by decide +kernel
theorem dL_act_657 : decode cL_act 657 = .ok (.iconst 4, 1) := by decide +kernel
theorem dL_act_658 : decode cL_act 658 = .ok (.ishr, 1) := by decide +kernel
theorem dL_act_659 : decode cL_act 659 = .ok (.iload_n 2, 1) := by decide +kernel
theorem dL_act_660 : decode cL_act 660 = .ok (.ifCond .eq 8, 3) := by decide +kernel
theorem dL_act_663 : decode cL_act 663 = .ok (.bipush 60, 2) := by decide +kernel
theorem dL_act_665 : decode cL_act 665 = .ok (.goto 5, 3) := by decide +kernel
theorem dL_act_668 : decode cL_act 668 = .ok (.bipush 51, 2) := by decide +kernel
theorem dL_act_670 : decode cL_act 670 = .ok (.invokestatic 149, 3) := by decide +kernel
theorem dL_act_673 : decode cL_act 673 = .ok (.bipush 100, 2) := by decide +kernel
theorem dL_act_675 : decode cL_act 675 = .ok (.iload 4, 2) := by decide +kernel
theorem dL_act_677 : decode cL_act 677 = .ok (.iconst 5, 1) := by decide +kernel
theorem dL_act_678 : decode cL_act 678 = .ok (.ishr, 1) := by decide +kernel
theorem dL_act_679 : decode cL_act 679 = .ok (.iload_n 2, 1) := by decide +kernel
theorem dL_act_680 : decode cL_act 680 = .ok (.ifCond .eq 9, 3) := by decide +kernel
theorem dL_act_683 : decode cL_act 683 = .ok (.sipush 1100, 3) := by decide +kernel
theorem dL_act_686 : decode cL_act 686 = .ok (.goto 5, 3) := by decide +kernel
theorem dL_act_689 : decode cL_act 689 = .ok (.bipush 40, 2) := by decide +kernel
theorem dL_act_691 : decode cL_act 691 = .ok (.invokestatic 149, 3) := by decide +kernel
theorem dL_act_694 : decode cL_act 694 = .ok (.imul, 1) := by decide +kernel
theorem dL_act_695 : decode cL_act 695 = .ok (.iadd, 1) := by decide +kernel
theorem dL_act_696 : decode cL_act 696 = .ok (.invokestatic 155, 3) := by decide +kernel
theorem dL_act_699 : decode cL_act 699 = .ok (.goto 79, 3) := by decide +kernel
theorem dL_act_702 : decode cL_act 702 = .ok (.iload_n 3, 1) := by decide +kernel
theorem dL_act_703 : decode cL_act 703 = .ok (.bipush 39, 2) := by decide +kernel
theorem dL_act_705 : decode cL_act 705 = .ok (.if_icmp .ge 17, 3) := by decide +kernel
theorem dL_act_708 : decode cL_act 708 = .ok (.aload_n 0, 1) := by decide +kernel
theorem dL_act_709 : decode cL_act 709 = .ok (.bipush 15, 2) := by decide +kernel
theorem dL_act_711 : decode cL_act 711 = .ok (.iload 8, 2) := by decide +kernel
theorem dL_act_713 : decode cL_act 713 = .ok (.iconst 0, 1) := by decide +kernel
theorem dL_act_714 : decode cL_act 714 = .ok (.iconst 0, 1) := by decide +kernel
theorem dL_act_715 : decode cL_act 715 = .ok (.iconst 0, 1) := by decide +kernel
theorem dL_act_716 : decode cL_act 716 = .ok (.invokestatic 155, 3) := by decide +kernel
theorem dL_act_719 : decode cL_act 719 = .ok (.goto 59, 3) := by decide +kernel
theorem dL_act_722 : decode cL_act 722 = .ok (.iload_n 3, 1) := by decide +kernel
theorem dL_act_723 : decode cL_act 723 = .ok (.bipush 48, 2) := by decide +kernel
theorem dL_act_725 : decode cL_act 725 = .ok (.if_icmp .ge 19, 3) := by decide +kernel
theorem dL_act_728 : decode cL_act 728 = .ok (.aload_n 0, 1) := by decide +kernel
theorem dL_act_729 : decode cL_act 729 = .ok (.bipush 16, 2) := by decide +kernel
theorem dL_act_731 : decode cL_act 731 = .ok (.iload 8, 2) := by decide +kernel
theorem dL_act_733 : decode cL_act 733 = .ok (.iload 5, 2) := by decide +kernel
theorem dL_act_735 : decode cL_act 735 = .ok (.iload 9, 2) := by decide +kernel
theorem dL_act_737 : decode cL_act 737 = .ok (.iconst 0, 1) := by decide +kernel
theorem dL_act_738 : decode cL_act 738 = .ok (.invokestatic 155, 3) := by decide +kernel
theorem dL_act_741 : decode cL_act 741 = .ok (.goto 37, 3) := by decide +kernel
theorem dL_act_744 : decode cL_act 744 = .ok (.iload_n 3, 1) := by decide +kernel
theorem dL_act_745 : decode cL_act 745 = .ok (.bipush 51, 2) := by decide +kernel
theorem dL_act_747 : decode cL_act 747 = .ok (.if_icmp .ge 19, 3) := by decide +kernel
theorem dL_act_750 : decode cL_act 750 = .ok (.aload_n 0, 1) := by decide +kernel
theorem dL_act_751 : decode cL_act 751 = .ok (.bipush 17, 2) := by decide +kernel
theorem dL_act_753 : decode cL_act 753 = .ok (.iload 8, 2) := by decide +kernel
theorem dL_act_755 : decode cL_act 755 = .ok (.iload 5, 2) := by decide +kernel
theorem dL_act_757 : decode cL_act 757 = .ok (.iload 6, 2) := by decide +kernel
theorem dL_act_759 : decode cL_act 759 = .ok (.iconst 0, 1) := by decide +kernel
theorem dL_act_760 : decode cL_act 760 = .ok (.invokestatic 155, 3) := by decide +kernel
theorem dL_act_763 : decode cL_act 763 = .ok (.goto 15, 3) := by decide +kernel
theorem dL_act_766 : decode cL_act 766 = .ok (.aload_n 0, 1) := by decide +kernel
theorem dL_act_767 : decode cL_act 767 = .ok (.bipush 18, 2) := by decide +kernel
theorem dL_act_769 : decode cL_act 769 = .ok (.iload 8, 2) := by decide +kernel
theorem dL_act_771 : decode cL_act 771 = .ok (.iload 5, 2) := by decide +kernel
theorem dL_act_773 : decode cL_act 773 = .ok (.iconst 0, 1) := by decide +kernel
theorem dL_act_774 : decode cL_act 774 = .ok (.iconst 0, 1) := by decide +kernel
theorem dL_act_775 : decode cL_act 775 = .ok (.invokestatic 155, 3) := by decide +kernel
theorem dL_act_778 : decode cL_act 778 = .ok (.ireturn, 1) := by decide +kernel
theorem dL_act_779 : decode cL_act 779 = .ok (.iload_n 3, 1) := by decide +kernel
theorem dL_act_780 : decode cL_act 780 = .ok (.bipush 72, 2) := by decide +kernel
theorem dL_act_782 : decode cL_act 782 = .ok (.if_icmp .ge 203, 3) := by decide +kernel
theorem dL_act_785 : decode cL_act 785 = .ok (.iload_n 3, 1) := by decide +kernel
theorem dL_act_786 : decode cL_act 786 = .ok (.bipush 62, 2) := by decide +kernel
theorem dL_act_788 : decode cL_act 788 = .ok (.if_icmp .ge 93, 3) := by decide +kernel
theorem dL_act_791 : decode cL_act 791 = .ok (.aload_n 0, 1) := by decide +kernel
theorem dL_act_792 : decode cL_act 792 = .ok (.bipush 19, 2) := by decide +kernel
theorem dL_act_794 : decode cL_act 794 = .ok (.iload 8, 2) := by decide +kernel
theorem dL_act_796 : decode cL_act 796 = .ok (.iload 5, 2) := by decide +kernel
theorem dL_act_798 : decode cL_act 798 = .ok (.iload_n 2, 1) := by decide +kernel
theorem dL_act_799 : decode cL_act 799 = .ok (.ifCond .eq 7, 3) := by decide +kernel
theorem dL_act_802 : decode cL_act 802 = .ok (.iconst 0, 1) := by decide +kernel
theorem dL_act_803 : decode cL_act 803 = .ok (.goto 4, 3) := by decide +kernel
theorem dL_act_806 : decode cL_act 806 = .ok (.iconst 1, 1) := by decide +kernel
theorem dL_act_807 : decode cL_act 807 = .ok (.iload 4, 2) := by decide +kernel
theorem dL_act_809 : decode cL_act 809 = .ok (.iconst 3, 1) := by decide +kernel
theorem dL_act_810 : decode cL_act 810 = .ok (.ishr, 1) := by decide +kernel
theorem dL_act_811 : decode cL_act 811 = .ok (.iload 4, 2) := by decide +kernel
theorem dL_act_813 : decode cL_act 813 = .ok (.bipush 7, 2) := by decide +kernel
theorem dL_act_815 : decode cL_act 815 = .ok (.ishr, 1) := by decide +kernel
theorem dL_act_816 : decode cL_act 816 = .ok (.iconst 1, 1) := by decide +kernel
theorem dL_act_817 : decode cL_act 817 = .ok (.iand, 1) := by decide +kernel
theorem dL_act_818 : decode cL_act 818 = .ok (.ifCond .ne 9, 3) := by decide +kernel
theorem dL_act_821 : decode cL_act 821 = .ok (.sipush 2000, 3) := by decide +kernel
theorem dL_act_824 : decode cL_act 824 = .ok (.goto 5, 3) := by decide +kernel
theorem dL_act_827 : decode cL_act 827 = .ok (.ldc 158, 2) := by decide +kernel
theorem dL_act_829 : decode cL_act 829 = .ok (.invokestatic 149, 3) := by decide +kernel
theorem dL_act_832 : decode cL_act 832 = .ok (.iadd, 1) := by decide +kernel
theorem dL_act_833 : decode cL_act 833 = .ok (.iload 4, 2) := by decide +kernel
theorem dL_act_835 : decode cL_act 835 = .ok (.iconst 4, 1) := by decide +kernel
theorem dL_act_836 : decode cL_act 836 = .ok (.ishr, 1) := by decide +kernel
theorem dL_act_837 : decode cL_act 837 = .ok (.iload_n 2, 1) := by decide +kernel
theorem dL_act_838 : decode cL_act 838 = .ok (.ifCond .eq 8, 3) := by decide +kernel
theorem dL_act_841 : decode cL_act 841 = .ok (.bipush 120, 2) := by decide +kernel
theorem dL_act_843 : decode cL_act 843 = .ok (.goto 5, 3) := by decide +kernel
theorem dL_act_846 : decode cL_act 846 = .ok (.bipush 101, 2) := by decide +kernel
theorem dL_act_848 : decode cL_act 848 = .ok (.invokestatic 149, 3) := by decide +kernel
theorem dL_act_851 : decode cL_act 851 = .ok (.sipush 1000, 3) := by decide +kernel
theorem dL_act_854 : decode cL_act 854 = .ok (.iload_n 2, 1) := by decide +kernel
theorem dL_act_855 : decode cL_act 855 = .ok (.ifCond .eq 7, 3) := by decide +kernel
theorem dL_act_858 : decode cL_act 858 = .ok (.iconst 0, 1) := by decide +kernel
theorem dL_act_859 : decode cL_act 859 = .ok (.goto 4, 3) := by decide +kernel
theorem dL_act_862 : decode cL_act 862 = .ok (.iconst 1, 1) := by decide +kernel
theorem dL_act_863 : decode cL_act 863 = .ok (.iload 4, 2) := by decide +kernel
theorem dL_act_865 : decode cL_act 865 = .ok (.iconst 5, 1) := by decide +kernel
theorem dL_act_866 : decode cL_act 866 = .ok (.ishr, 1) := by decide +kernel
theorem dL_act_867 : decode cL_act 867 = .ok (.bipush 60, 2) := by decide +kernel
theorem dL_act_869 : decode cL_act 869 = .ok (.invokestatic 149, 3) := by decide +kernel
theorem dL_act_872 : decode cL_act 872 = .ok (.iadd, 1) := by decide +kernel
theorem dL_act_873 : decode cL_act 873 = .ok (.imul, 1) := by decide +kernel
theorem dL_act_874 : decode cL_act 874 = .ok (.iadd, 1) := by decide +kernel
theorem dL_act_875 : decode cL_act 875 = .ok (.invokestatic 155, 3) := by decide +kernel
theorem dL_act_878 : decode cL_act 878 = .ok (.goto 106, 3) := by decide +kernel
theorem dL_act_881 : decode cL_act 881 = .ok (.iload_n 3, 1) := by decide +kernel
theorem dL_act_882 : decode cL_act 882 = .ok (.bipush 65, 2) := by decide +kernel
theorem dL_act_884 : decode cL_act 884 = .ok (.if_icmp .ge 31, 3) := by decide +kernel
theorem dL_act_887 : decode cL_act 887 = .ok (.aload_n 0, 1) := by decide +kernel
theorem dL_act_888 : decode cL_act 888 = .ok (.bipush 20, 2) := by decide +kernel
theorem dL_act_890 : decode cL_act 890 = .ok (.iload 4, 2) := by decide +kernel
theorem dL_act_892 : decode cL_act 892 = .ok (.iload_n 2, 1) := by decide +kernel
theorem dL_act_893 : decode cL_act 893 = .ok (.ifCond .eq 8, 3) := by decide +kernel
theorem dL_act_896 : decode cL_act 896 = .ok (.bipush 23, 2) := by decide +kernel
theorem dL_act_898 : decode cL_act 898 = .ok (.goto 5, 3) := by decide +kernel
theorem dL_act_901 : decode cL_act 901 = .ok (.bipush 8, 2) := by decide +kernel
theorem dL_act_903 : decode cL_act 903 = .ok (.invokestatic 149, 3) := by decide +kernel
theorem dL_act_906 : decode cL_act 906 = .ok (.iconst 0, 1) := by decide +kernel
theorem dL_act_907 : decode cL_act 907 = .ok (.iconst 0, 1) := by decide +kernel
theorem dL_act_908 : decode cL_act 908 = .ok (.iconst 0, 1) := by decide +kernel
theorem dL_act_909 : decode cL_act 909 = .ok (.invokestatic 155, 3) := by decide +kernel
theorem dL_act_912 : decode cL_act 912 = .ok (.goto 72, 3) := by decide +kernel
theorem dL_act_915 : decode cL_act 915 = .ok (.iload_n 3, 1) := by decide +kernel
theorem dL_act_916 : decode cL_act 916 = .ok (.bipush 69, 2) := by decide +kernel
theorem dL_act_918 : decode cL_act 918 = .ok (.if_icmp .ge 31, 3) := by decide +kernel
theorem dL_act_921 : decode cL_act 921 = .ok (.aload_n 0, 1) := by decide +kernel
theorem dL_act_922 : decode cL_act 922 = .ok (.bipush 21, 2) := by decide +kernel
theorem dL_act_924 : decode cL_act 924 = .ok (.iload 4, 2) := by decide +kernel
theorem dL_act_926 : decode cL_act 926 = .ok (.iload_n 2, 1) := by decide +kernel
theorem dL_act_927 : decode cL_act 927 = .ok (.ifCond .eq 8, 3) := by decide +kernel
theorem dL_act_930 : decode cL_act 930 = .ok (.bipush 23, 2) := by decide +kernel
theorem dL_act_932 : decode cL_act 932 = .ok (.goto 5, 3) := by decide +kernel
theorem dL_act_935 : decode cL_act 935 = .ok (.bipush 8, 2) := by decide +kernel
theorem dL_act_937 : decode cL_act 937 = .ok (.invokestatic 149, 3) := by decide +kernel
theorem dL_act_940 : decode cL_act 940 = .ok (.iconst 0, 1) := by decide +kernel
theorem dL_act_941 : decode cL_act 941 = .ok (.iconst 0, 1) := by decide +kernel
theorem dL_act_942 : decode cL_act 942 = .ok (.iconst 0, 1) := by decide +kernel
theorem dL_act_943 : decode cL_act 943 = .ok (.invokestatic 155, 3) := by decide +kernel
theorem dL_act_946 : decode cL_act 946 = .ok (.goto 38, 3) := by decide +kernel
theorem dL_act_949 : decode cL_act 949 = .ok (.aload_n 0, 1) := by decide +kernel
theorem dL_act_950 : decode cL_act 950 = .ok (.bipush 22, 2) := by decide +kernel
theorem dL_act_952 : decode cL_act 952 = .ok (.iload 4, 2) := by decide +kernel
theorem dL_act_954 : decode cL_act 954 = .ok (.iconst 2, 1) := by decide +kernel
theorem dL_act_955 : decode cL_act 955 = .ok (.ishr, 1) := by decide +kernel
theorem dL_act_956 : decode cL_act 956 = .ok (.bipush 8, 2) := by decide +kernel
theorem dL_act_958 : decode cL_act 958 = .ok (.invokestatic 149, 3) := by decide +kernel
theorem dL_act_961 : decode cL_act 961 = .ok (.iload 5, 2) := by decide +kernel
theorem dL_act_963 : decode cL_act 963 = .ok (.iload_n 2, 1) := by decide +kernel
theorem dL_act_964 : decode cL_act 964 = .ok (.ifCond .eq 8, 3) := by decide +kernel
theorem dL_act_967 : decode cL_act 967 = .ok (.iload 9, 2) := by decide +kernel
theorem dL_act_969 : decode cL_act 969 = .ok (.goto 11, 3) := by decide +kernel
theorem dL_act_972 : decode cL_act 972 = .ok (.iload 4, 2) := by decide +kernel
theorem dL_act_974 : decode cL_act 974 = .ok (.sipush 5000, 3) := by decide +kernel
theorem dL_act_977 : decode cL_act 977 = .ok (.invokestatic 149, 3) := by decide +kernel
theorem dL_act_980 : decode cL_act 980 = .ok (.iconst 0, 1) := by decide +kernel
theorem dL_act_981 : decode cL_act 981 = .ok (.invokestatic 155, 3) := by decide +kernel
theorem dL_act_984 : decode cL_act 984 = .ok (.ireturn, 1) := by decide +kernel
theorem dL_act_985 : decode cL_act 985 = .ok (.aload_n 0, 1) := by decide +kernel
theorem dL_act_986 : decode cL_act 986 = .ok (.iconst 3, 1) := by decide +kernel
theorem dL_act_987 : decode cL_act 987 = .ok (.iload_n 2, 1) := by decide +kernel
theorem dL_act_988 : decode cL_act 988 = .ok (.ifCond .eq 17, 3) := by decide +kernel
theorem dL_act_991 : decode cL_act 991 = .ok (.iload 4, 2) := by decide +kernel
theorem dL_act_993 : decode cL_act 993 = .ok (.sipush 1100, 3) := by decide +kernel
theorem dL_act_996 : decode cL_act 996 = .ok (.invokestatic 149, 3) := by decide +kernel
theorem dL_act_999 : decode cL_act 999 = .ok (.bipush 30, 2) := by decide +kernel
theorem dL_act_1001 : decode cL_act 1001 = .ok (.isub, 1) := by decide +kernel
theorem dL_act_1002 : decode cL_act 1002 = .ok (.goto 28, 3) := by decide +kernel
theorem dL_act_1005 : decode cL_act 1005 = .ok (.iconst 1, 1) := by decide +kernel
theorem dL_act_1006 : decode cL_act 1006 = .ok (.iload 4, 2) := by decide +kernel
theorem dL_act_1008 : decode cL_act 1008 = .ok (.iload 4, 2) := by decide +kernel
theorem dL_act_1010 : decode cL_act 1010 = .ok (.bipush 7, 2) := by decide +kernel
theorem dL_act_1012 : decode cL_act 1012 = .ok (.ishr, 1) := by decide +kernel
theorem dL_act_1013 : decode cL_act 1013 = .ok (.iconst 3, 1) := by decide +kernel
theorem dL_act_1014 : decode cL_act 1014 = .ok (.iand, 1) := by decide +kernel
theorem dL_act_1015 : decode cL_act 1015 = .ok (.ifCond .ne 9, 3) := by decide +kernel
theorem dL_act_1018 : decode cL_act 1018 = .ok (.sipush 300, 3) := by decide +kernel
theorem dL_act_1021 : decode cL_act 1021 = .ok (.goto 5, 3) := by decide +kernel
theorem dL_act_1024 : decode cL_act 1024 = .ok (.bipush 12, 2) := by decide +kernel
theorem dL_act_1026 : decode cL_act 1026 = .ok (.invokestatic 149, 3) := by decide +kernel
theorem dL_act_1029 : decode cL_act 1029 = .ok (.iadd, 1) := by decide +kernel
theorem dL_act_1030 : decode cL_act 1030 = .ok (.iconst 0, 1) := by decide +kernel
theorem dL_act_1031 : decode cL_act 1031 = .ok (.iconst 0, 1) := by decide +kernel
theorem dL_act_1032 : decode cL_act 1032 = .ok (.iconst 0, 1) := by decide +kernel
theorem dL_act_1033 : decode cL_act 1033 = .ok (.invokestatic 155, 3) := by decide +kernel
theorem dL_act_1036 : decode cL_act 1036 = .ok (.ireturn, 1) := by decide +kernel
theorem dL_areAlike_0 : decode cL_areAlike 0 = .ok (.aload_n 0, 1) := by decide +kernel
theorem dL_areAlike_1 : decode cL_areAlike 1 = .ok (.invokevirtual 159, 3) := by decide +kernel
theorem dL_areAlike_4 : decode cL_areAlike 4 = .ok (.aload_n 1, 1) := by decide +kernel
theorem dL_areAlike_5 : decode cL_areAlike 5 = .ok (.invokevirtual 159, 3) := by decide +kernel
theorem dL_areAlike_8 : decode cL_areAlike 8 = .ok (.lcmp, 1) := by decide +kernel
theorem dL_areAlike_9 : decode cL_areAlike 9 = .ok (.ifCond .ne 7, 3) := by decide +kernel
theorem dL_areAlike_12 : decode cL_areAlike 12 = .ok (.iconst 1, 1) := by decide +kernel
theorem dL_areAlike_13 : decode cL_areAlike 13 = .ok (.goto 4, 3) := by decide +kernel
theorem dL_areAlike_16 : decode cL_areAlike 16 = .ok (.iconst 0, 1) := by decide +kernel
theorem dL_areAlike_17 : decode cL_areAlike 17 = .ok (.istore_n 3, 1) := by decide +kernel
theorem dL_areAlike_18 : decode cL_areAlike 18 = .ok (.iload_n 2, 1) := by decide +kernel
theorem dL_areAlike_19 : decode cL_areAlike 19 = .ok (.bipush 6, 2) := by decide +kernel
theorem dL_areAlike_21 : decode cL_areAlike 21 = .ok (.invokestatic 149, 3) := by decide +kernel
theorem dL_areAlike_24 : decode cL_areAlike 24 = .ok (.istore 4, 2) := by decide +kernel
theorem dL_areAlike_26 : decode cL_areAlike 26 = .ok (.iconst 0, 1) := by decide +kernel
theorem dL_areAlike_27 : decode cL_areAlike 27 = .ok (.istore 5, 2) := by decide +kernel
theorem dL_areAlike_29 : decode cL_areAlike 29 = .ok (.iload 5, 2) := by decide +kernel
theorem dL_areAlike_31 : decode cL_areAlike 31 = .ok (.bipush 60, 2) := by decide +kernel
theorem dL_areAlike_33 : decode cL_areAlike 33 = .ok (.if_icmp .ge 255, 3) := by decide +kernel
theorem dL_areAlike_36 : decode cL_areAlike 36 = .ok (.iload_n 3, 1) := by decide +kernel
theorem dL_areAlike_37 : decode cL_areAlike 37 = .ok (.ifCond .eq 251, 3) := by decide +kernel
theorem dL_areAlike_40 : decode cL_areAlike 40 = .ok (.aload_n 0, 1) := by decide +kernel
theorem dL_areAlike_41 : decode cL_areAlike 41 = .ok (.bipush 25, 2) := by decide +kernel
theorem dL_areAlike_43 : decode cL_areAlike 43 = .ok (.iload 5, 2) := by decide +kernel
theorem dL_areAlike_45 : decode cL_areAlike 45 = .ok (.iload 4, 2) := by decide +kernel
theorem dL_areAlike_47 : decode cL_areAlike 47 = .ok (.iconst 0, 1) := by decide +kernel
theorem dL_areAlike_48 : decode cL_areAlike 48 = .ok (.iconst 0, 1) := by decide +kernel
theorem dL_areAlike_49 : decode cL_areAlike 49 = .ok (.invokestatic 155, 3) := by decide +kernel
theorem dL_areAlike_52 : decode cL_areAlike 52 = .ok (.aload_n 1, 1) := by decide +kernel
theorem dL_areAlike_53 : decode cL_areAlike 53 = .ok (.bipush 25, 2) := by decide +kernel
theorem dL_areAlike_55 : decode cL_areAlike 55 = .ok (.iload 5, 2) := by decide +kernel
theorem dL_areAlike_57 : decode cL_areAlike 57 = .ok (.iload 4, 2) := by decide +kernel
theorem dL_areAlike_59 : decode cL_areAlike 59 = .ok (.iconst 0, 1) := by decide +kernel
theorem dL_areAlike_60 : decode cL_areAlike 60 = .ok (.iconst 0, 1) := by decide +kernel
theorem dL_areAlike_61 : decode cL_areAlike 61 = .ok (.invokestatic 155, 3) := by decide +kernel
theorem dL_areAlike_64 : decode cL_areAlike 64 = .ok (.if_icmp .ne 62, 3) := by decide +kernel
theorem dL_areAlike_67 : decode cL_areAlike 67 = .ok (.aload_n 0, 1) := by decide +kernel
theorem dL_areAlike_68 : decode cL_areAlike 68 = .ok (.bipush 24, 2) := by decide +kernel
theorem dL_areAlike_70 : decode cL_areAlike 70 = .ok (.iload 5, 2) := by decide +kernel
theorem dL_areAlike_72 : decode cL_areAlike 72 = .ok (.iconst 1, 1) := by decide +kernel
theorem dL_areAlike_73 : decode cL_areAlike 73 = .ok (.iload 5, 2) := by decide +kernel
theorem dL_areAlike_75 : decode cL_areAlike 75 = .ok (.bipush 9, 2) := by decide +kernel
theorem dL_areAlike_77 : decode cL_areAlike 77 = .ok (.irem, 1) := by decide +kernel
theorem dL_areAlike_78 : decode cL_areAlike 78 = .ok (.iadd, 1) := by decide +kernel
theorem dL_areAlike_79 : decode cL_areAlike 79 = .ok (.iload 4, 2) := by decide +kernel
theorem dL_areAlike_81 : decode cL_areAlike 81 = .ok (.iload_n 2, 1) := by decide +kernel
theorem dL_areAlike_82 : decode cL_areAlike 82 = .ok (.iconst 2, 1) := by decide +kernel
theorem dL_areAlike_83 : decode cL_areAlike 83 = .ok (.ishr, 1) := by decide +kernel
theorem dL_areAlike_84 : decode cL_areAlike 84 = .ok (.sipush 3000, 3) := by decide +kernel
theorem dL_areAlike_87 : decode cL_areAlike 87 = .ok (.invokestatic 149, 3) := by decide +kernel
theorem dL_areAlike_90 : decode cL_areAlike 90 = .ok (.invokestatic 155, 3) := by decide +kernel
theorem dL_areAlike_93 : decode cL_areAlike 93 = .ok (.aload_n 1, 1) := by decide +kernel
theorem dL_areAlike_94 : decode cL_areAlike 94 = .ok (.bipush 24, 2) := by decide +kernel
theorem dL_areAlike_96 : decode cL_areAlike 96 = .ok (.iload 5, 2) := by decide +kernel
theorem dL_areAlike_98 : decode cL_areAlike 98 = .ok (.iconst 1, 1) := by decide +kernel
theorem dL_areAlike_99 : decode cL_areAlike 99 = .ok (.iload 5, 2) := by decide +kernel
theorem dL_areAlike_101 : decode cL_areAlike 101 = .ok (.bipush 9, 2) := by decide +kernel
theorem dL_areAlike_103 : decode cL_areAlike 103 = .ok (.irem, 1) := by decide +kernel
theorem dL_areAlike_104 : decode cL_areAlike 104 = .ok (.iadd, 1) := by decide +kernel
theorem dL_areAlike_105 : decode cL_areAlike 105 = .ok (.iload 4, 2) := by decide +kernel
theorem dL_areAlike_107 : decode cL_areAlike 107 = .ok (.iload_n 2, 1) := by decide +kernel
theorem dL_areAlike_108 : decode cL_areAlike 108 = .ok (.iconst 2, 1) := by decide +kernel
theorem dL_areAlike_109 : decode cL_areAlike 109 = .ok (.ishr, 1) := by decide +kernel
theorem dL_areAlike_110 : decode cL_areAlike 110 = .ok (.sipush 3000, 3) := by decide +kernel
theorem dL_areAlike_113 : decode cL_areAlike 113 = .ok (.invokestatic 149, 3) := by decide +kernel
theorem dL_areAlike_116 : decode cL_areAlike 116 = .ok (.invokestatic 155, 3) := by decide +kernel
theorem dL_areAlike_119 : decode cL_areAlike 119 = .ok (.if_icmp .ne 7, 3) := by decide +kernel
theorem dL_areAlike_122 : decode cL_areAlike 122 = .ok (.iconst 1, 1) := by decide +kernel
theorem dL_areAlike_123 : decode cL_areAlike 123 = .ok (.goto 4, 3) := by decide +kernel
theorem dL_areAlike_126 : decode cL_areAlike 126 = .ok (.iconst 0, 1) := by decide +kernel
theorem dL_areAlike_127 : decode cL_areAlike 127 = .ok (.istore_n 3, 1) := by decide +kernel
theorem dL_areAlike_128 : decode cL_areAlike 128 = .ok (.iconst 0, 1) := by decide +kernel
theorem dL_areAlike_129 : decode cL_areAlike 129 = .ok (.istore 6, 2) := by decide +kernel
theorem dL_areAlike_131 : decode cL_areAlike 131 = .ok (.iload 6, 2) := by decide +kernel
theorem dL_areAlike_133 : decode cL_areAlike 133 = .ok (.bipush 9, 2) := by decide +kernel
theorem dL_areAlike_135 : decode cL_areAlike 135 = .ok (.if_icmp .ge 147, 3) := by decide +kernel
theorem dL_areAlike_138 : decode cL_areAlike 138 = .ok (.iload_n 3, 1) := by decide +kernel
theorem dL_areAlike_139 : decode cL_areAlike 139 = .ok (.ifCond .eq 143, 3) := by decide +kernel
theorem dL_areAlike_142 : decode cL_areAlike 142 = .ok (.aload_n 0, 1) := by decide +kernel
theorem dL_areAlike_143 : decode cL_areAlike 143 = .ok (.bipush 28, 2) := by decide +kernel
theorem dL_areAlike_145 : decode cL_areAlike 145 = .ok (.iload 5, 2) := by decide +kernel
theorem dL_areAlike_147 : decode cL_areAlike 147 = .ok (.iload 6, 2) := by decide +kernel
theorem dL_areAlike_149 : decode cL_areAlike 149 = .ok (.iconst 0, 1) := by decide +kernel
theorem dL_areAlike_150 : decode cL_areAlike 150 = .ok (.iconst 0, 1) := by decide +kernel
theorem dL_areAlike_151 : decode cL_areAlike 151 = .ok (.invokestatic 155, 3) := by decide +kernel
theorem dL_areAlike_154 : decode cL_areAlike 154 = .ok (.aload_n 1, 1) := by decide +kernel
theorem dL_areAlike_155 : decode cL_areAlike 155 = .ok (.bipush 28, 2) := by decide +kernel
theorem dL_areAlike_157 : decode cL_areAlike 157 = .ok (.iload 5, 2) := by decide +kernel
theorem dL_areAlike_159 : decode cL_areAlike 159 = .ok (.iload 6, 2) := by decide +kernel
theorem dL_areAlike_161 : decode cL_areAlike 161 = .ok (.iconst 0, 1) := by decide +kernel
theorem dL_areAlike_162 : decode cL_areAlike 162 = .ok (.iconst 0, 1) := by decide +kernel
theorem dL_areAlike_163 : decode cL_areAlike 163 = .ok (.invokestatic 155, 3) := by decide +kernel
theorem dL_areAlike_166 : decode cL_areAlike 166 = .ok (.if_icmp .ne 108, 3) := by decide +kernel
theorem dL_areAlike_169 : decode cL_areAlike 169 = .ok (.iload 5, 2) := by decide +kernel
theorem dL_areAlike_171 : decode cL_areAlike 171 = .ok (.bipush 9, 2) := by decide +kernel
theorem dL_areAlike_173 : decode cL_areAlike 173 = .ok (.if_icmp .gt 30, 3) := by decide +kernel
theorem dL_areAlike_176 : decode cL_areAlike 176 = .ok (.aload_n 0, 1) := by decide +kernel
theorem dL_areAlike_177 : decode cL_areAlike 177 = .ok (.bipush 26, 2) := by decide +kernel
theorem dL_areAlike_179 : decode cL_areAlike 179 = .ok (.iload 5, 2) := by decide +kernel
theorem dL_areAlike_181 : decode cL_areAlike 181 = .ok (.iload 6, 2) := by decide +kernel
theorem dL_areAlike_183 : decode cL_areAlike 183 = .ok (.iconst 0, 1) := by decide +kernel
theorem dL_areAlike_184 : decode cL_areAlike 184 = .ok (.iconst 0, 1) := by decide +kernel
theorem dL_areAlike_185 : decode cL_areAlike 185 = .ok (.invokestatic 155, 3) := by decide +kernel
theorem dL_areAlike_188 : decode cL_areAlike 188 = .ok (.aload_n 1, 1) := by decide +kernel
theorem dL_areAlike_189 : decode cL_areAlike 189 = .ok (.bipush 26, 2) := by decide +kernel
theorem dL_areAlike_191 : decode cL_areAlike 191 = .ok (.iload 5, 2) := by decide +kernel
theorem dL_areAlike_193 : decode cL_areAlike 193 = .ok (.iload 6, 2) := by decide +kernel
theorem dL_areAlike_195 : decode cL_areAlike 195 = .ok (.iconst 0, 1) := by decide +kernel
theorem dL_areAlike_196 : decode cL_areAlike 196 = .ok (.iconst 0, 1) := by decide +kernel
theorem dL_areAlike_197 : decode cL_areAlike 197 = .ok (.invokestatic 155, 3) := by decide +kernel
theorem dL_areAlike_200 : decode cL_areAlike 200 = .ok (.if_icmp .ne 74, 3) := by decide +kernel
theorem dL_areAlike_203 : decode cL_areAlike 203 = .ok (.iload 5, 2) := by decide +kernel
theorem dL_areAlike_205 : decode cL_areAlike 205 = .ok (.bipush 19, 2) := by decide +kernel
theorem dL_areAlike_207 : decode cL_areAlike 207 = .ok (.if_icmp .gt 30, 3) := by decide +kernel
theorem dL_areAlike_210 : decode cL_areAlike 210 = .ok (.aload_n 0, 1) := by decide +kernel
theorem dL_areAlike_211 : decode cL_areAlike 211 = .ok (.bipush 29, 2) := by decide +kernel
theorem dL_areAlike_213 : decode cL_areAlike 213 = .ok (.iload 5, 2) := by decide +kernel
theorem dL_areAlike_215 : decode cL_areAlike 215 = .ok (.iload 6, 2) := by decide +kernel
theorem dL_areAlike_217 : decode cL_areAlike 217 = .ok (.iconst 0, 1) := by decide +kernel
theorem dL_areAlike_218 : decode cL_areAlike 218 = .ok (.iconst 0, 1) := by decide +kernel
theorem dL_areAlike_219 : decode cL_areAlike 219 = .ok (.invokestatic 155, 3) := by decide +kernel
theorem dL_areAlike_222 : decode cL_areAlike 222 = .ok (.aload_n 1, 1) := by decide +kernel
theorem dL_areAlike_223 : decode cL_areAlike 223 = .ok (.bipush 29, 2) := by decide +kernel
theorem dL_areAlike_225 : decode cL_areAlike 225 = .ok (.iload 5, 2) := by decide +kernel
theorem dL_areAlike_227 : decode cL_areAlike 227 = .ok (.iload 6, 2) := by decide +kernel
theorem dL_areAlike_229 : decode cL_areAlike 229 = .ok (.iconst 0, 1) := by decide +kernel
theorem dL_areAlike_230 : decode cL_areAlike 230 = .ok (.iconst 0, 1) := by decide +kernel
theorem dL_areAlike_231 : decode cL_areAlike 231 = .ok (.invokestatic 155, 3) := by decide +kernel
theorem dL_areAlike_234 : decode cL_areAlike 234 = .ok (.if_icmp .ne 40, 3) := by decide +kernel
theorem dL_areAlike_237 : decode cL_areAlike 237 = .ok (.iload 5, 2) := by decide +kernel
theorem dL_areAlike_239 : decode cL_areAlike 239 = .ok (.iconst 4, 1) := by decide +kernel
theorem dL_areAlike_240 : decode cL_areAlike 240 = .ok (.if_icmp .gt 30, 3) := by decide +kernel
theorem dL_areAlike_243 : decode cL_areAlike 243 = .ok (.aload_n 0, 1) := by decide +kernel
theorem dL_areAlike_244 : decode cL_areAlike 244 = .ok (.bipush 27, 2) := by decide +kernel
theorem dL_areAlike_246 : decode cL_areAlike 246 = .ok (.iload 5, 2) := by decide +kernel
theorem dL_areAlike_248 : decode cL_areAlike 248 = .ok (.iload 6, 2) := by decide +kernel
theorem dL_areAlike_250 : decode cL_areAlike 250 = .ok (.iconst 0, 1) := by decide +kernel
theorem dL_areAlike_251 : decode cL_areAlike 251 = .ok (.iconst 0, 1) := by decide +kernel
theorem dL_areAlike_252 : decode cL_areAlike 252 = .ok (.invokestatic 155, 3) := by decide +kernel
theorem dL_areAlike_255 : decode cL_areAlike 255 = .ok (.aload_n 1, 1) := by decide +kernel
theorem dL_areAlike_256 : decode cL_areAlike 256 = .ok (.bipush 27, 2) := by decide +kernel
theorem dL_areAlike_258 : decode cL_areAlike 258 = .ok (.iload 5, 2) := by decide +kernel
theorem dL_areAlike_260 : decode cL_areAlike 260 = .ok (.iload 6, 2) := by decide +kernel
theorem dL_areAlike_262 : decode cL_areAlike 262 = .ok (.iconst 0, 1) := by decide +kernel
theorem dL_areAlike_263 : decode cL_areAlike 263 = .ok (.iconst 0, 1) := by decide +kernel
theorem dL_areAlike_264 : decode cL_areAlike 264 = .ok (.invokestatic 155, 3) := by decide +kernel
theorem dL_areAlike_267 : decode cL_areAlike 267 = .ok (.if_icmp .ne 7, 3) := by decide +kernel
theorem dL_areAlike_270 : decode cL_areAlike 270 = .ok (.iconst 1, 1) := by decide +kernel
theorem dL_areAlike_271 : decode cL_areAlike 271 = .ok (.goto 4, 3) := by decide +kernel
theorem dL_areAlike_274 : decode cL_areAlike 274 = .ok (.iconst 0, 1) := by decide +kernel
theorem dL_areAlike_275 : decode cL_areAlike 275 = .ok (.istore_n 3, 1) := by decide +kernel
theorem dL_areAlike_276 : decode cL_areAlike 276 = .ok (.iinc 6 1, 3) := by decide +kernel
theorem dL_areAlike_279 : decode cL_areAlike 279 = .ok (.goto (-148), 3) := by decide +kernel
theorem dL_areAlike_282 : decode cL_areAlike 282 = .ok (.iinc 5 1, 3) := by decide +kernel
theorem dL_areAlike_285 : decode cL_areAlike 285 = .ok (.goto (-256), 3) := by decide +kernel
theorem dL_areAlike_288 : decode cL_areAlike 288 = .ok (.iload_n 3, 1) := by decide +kernel
theorem dL_areAlike_289 : decode cL_areAlike 289 = .ok (.ireturn, 1) := by decide +kernel
