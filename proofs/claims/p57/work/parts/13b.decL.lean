/-! ===== instructions, one after another ===== -/
theorem dL_law_0 : decode cL_law 0 = .ok (.new 14, 3) := by decide +kernel
theorem dL_law_3 : decode cL_law 3 = .ok (.dup, 1) := by decide +kernel
theorem dL_law_4 : decode cL_law 4 = .ok (.invokespecial 118, 3) := by decide +kernel
theorem dL_law_7 : decode cL_law 7 = .ok (.astore_n 1, 1) := by decide +kernel
theorem dL_law_8 : decode cL_law 8 = .ok (.aload_n 1, 1) := by decide +kernel
theorem dL_law_9 : decode cL_law 9 = .ok (.aload_n 0, 1) := by decide +kernel
theorem dL_law_10 : decode cL_law 10 = .ok (.invokestatic 119, 3) := by decide +kernel
theorem dL_law_13 : decode cL_law 13 = .ok (.iconst 0, 1) := by decide +kernel
theorem dL_law_14 : decode cL_law 14 = .ok (.istore_n 2, 1) := by decide +kernel
theorem dL_law_15 : decode cL_law 15 = .ok (.iload_n 2, 1) := by decide +kernel
theorem dL_law_16 : decode cL_law 16 = .ok (.iconst 4, 1) := by decide +kernel
theorem dL_law_17 : decode cL_law 17 = .ok (.if_icmp .ge 994, 3) := by decide +kernel
theorem dL_law_20 : decode cL_law 20 = .ok (.aload_n 1, 1) := by decide +kernel
theorem dL_law_21 : decode cL_law 21 = .ok (.invokevirtual 90, 3) := by decide +kernel
theorem dL_law_24 : decode cL_law 24 = .ok (.istore_n 3, 1) := by decide +kernel
theorem dL_law_25 : decode cL_law 25 = .ok (.aload_n 1, 1) := by decide +kernel
theorem dL_law_26 : decode cL_law 26 = .ok (.invokevirtual 123, 3) := by decide +kernel
theorem dL_law_29 : decode cL_law 29 = .ok (.istore 4, 2) := by decide +kernel
theorem dL_law_31 : decode cL_law 31 = .ok (.iconst 0, 1) := by decide +kernel
theorem dL_law_32 : decode cL_law 32 = .ok (.istore 5, 2) := by decide +kernel
theorem dL_law_34 : decode cL_law 34 = .ok (.iconst 0, 1) := by decide +kernel
theorem dL_law_35 : decode cL_law 35 = .ok (.istore 6, 2) := by decide +kernel
theorem dL_law_37 : decode cL_law 37 = .ok (.iconst 0, 1) := by decide +kernel
theorem dL_law_38 : decode cL_law 38 = .ok (.istore 7, 2) := by decide +kernel
theorem dL_law_40 : decode cL_law 40 = .ok (.iconst 0, 1) := by decide +kernel
theorem dL_law_41 : decode cL_law 41 = .ok (.istore 8, 2) := by decide +kernel
theorem dL_law_43 : decode cL_law 43 = .ok (.iconst 0, 1) := by decide +kernel
theorem dL_law_44 : decode cL_law 44 = .ok (.istore 9, 2) := by decide +kernel
theorem dL_law_46 : decode cL_law 46 = .ok (.iconst 0, 1) := by decide +kernel
theorem dL_law_47 : decode cL_law 47 = .ok (.istore 10, 2) := by decide +kernel
theorem dL_law_49 : decode cL_law 49 = .ok (.aload_n 1, 1) := by decide +kernel
theorem dL_law_50 : decode cL_law 50 = .ok (.invokevirtual 126, 3) := by decide +kernel
theorem dL_law_53 : decode cL_law 53 = .ok (.istore 11, 2) := by decide +kernel
theorem dL_law_55 : decode cL_law 55 = .ok (.lconst 0, 1) := by decide +kernel
theorem dL_law_56 : decode cL_law 56 = .ok (.lstore 12, 2) := by decide +kernel
theorem dL_law_58 : decode cL_law 58 = .ok (.iload_n 3, 1) := by decide +kernel
theorem dL_law_59 : decode cL_law 59 = .ok (.newarray .int, 2) := by decide +kernel
theorem dL_law_61 : decode cL_law 61 = .ok (.astore 14, 2) := by decide +kernel
theorem dL_law_63 : decode cL_law 63 = .ok (.iconst 0, 1) := by decide +kernel
theorem dL_law_64 : decode cL_law 64 = .ok (.istore 15, 2) := by decide +kernel
theorem dL_law_66 : decode cL_law 66 = .ok (.iload 15, 2) := by decide +kernel
theorem dL_law_68 : decode cL_law 68 = .ok (.iload_n 3, 1) := by decide +kernel
theorem dL_law_69 : decode cL_law 69 = .ok (.if_icmp .ge 16, 3) := by decide +kernel
theorem dL_law_72 : decode cL_law 72 = .ok (.aload 14, 2) := by decide +kernel
theorem dL_law_74 : decode cL_law 74 = .ok (.iload 15, 2) := by decide +kernel
theorem dL_law_76 : decode cL_law 76 = .ok (.iload 15, 2) := by decide +kernel
theorem dL_law_78 : decode cL_law 78 = .ok (.iastore, 1) := by decide +kernel
theorem dL_law_79 : decode cL_law 79 = .ok (.iinc 15 1, 3) := by decide +kernel
theorem dL_law_82 : decode cL_law 82 = .ok (.goto (-16), 3) := by decide +kernel
theorem dL_law_85 : decode cL_law 85 = .ok (.iconst 0, 1) := by decide +kernel
theorem dL_law_86 : decode cL_law 86 = .ok (.istore 15, 2) := by decide +kernel
theorem dL_law_88 : decode cL_law 88 = .ok (.iload 15, 2) := by decide +kernel
theorem dL_law_90 : decode cL_law 90 = .ok (.iload_n 3, 1) := by decide +kernel
theorem dL_law_91 : decode cL_law 91 = .ok (.if_icmp .ge 70, 3) := by decide +kernel
theorem dL_law_94 : decode cL_law 94 = .ok (.iconst 0, 1) := by decide +kernel
theorem dL_law_95 : decode cL_law 95 = .ok (.istore 16, 2) := by decide +kernel
theorem dL_law_97 : decode cL_law 97 = .ok (.iload 16, 2) := by decide +kernel
theorem dL_law_99 : decode cL_law 99 = .ok (.iload_n 3, 1) := by decide +kernel
theorem dL_law_100 : decode cL_law 100 = .ok (.if_icmp .ge 55, 3) := by decide +kernel
theorem dL_law_103 : decode cL_law 103 = .ok (.iconst 0, 1) := by decide +kernel
theorem dL_law_104 : decode cL_law 104 = .ok (.istore 17, 2) := by decide +kernel
theorem dL_law_106 : decode cL_law 106 = .ok (.iload 17, 2) := by decide +kernel
theorem dL_law_108 : decode cL_law 108 = .ok (.iload_n 3, 1) := by decide +kernel
theorem dL_law_109 : decode cL_law 109 = .ok (.if_icmp .ge 40, 3) := by decide +kernel
theorem dL_law_112 : decode cL_law 112 = .ok (.aload_n 1, 1) := by decide +kernel
theorem dL_law_113 : decode cL_law 113 = .ok (.iload 16, 2) := by decide +kernel
theorem dL_law_115 : decode cL_law 115 = .ok (.iload 17, 2) := by decide +kernel
theorem dL_law_117 : decode cL_law 117 = .ok (.invokevirtual 129, 3) := by decide +kernel
theorem dL_law_120 : decode cL_law 120 = .ok (.iload 11, 2) := by decide +kernel
theorem dL_law_122 : decode cL_law 122 = .ok (.if_icmp .gt 21, 3) := by decide +kernel
theorem dL_law_125 : decode cL_law 125 = .ok (.aload 14, 2) := by decide +kernel
theorem dL_law_127 : decode cL_law 127 = .ok (.iload 16, 2) := by decide +kernel
theorem dL_law_129 : decode cL_law 129 = .ok (.aload 14, 2) := by decide +kernel
theorem dL_law_131 : decode cL_law 131 = .ok (.iload 16, 2) := by decide +kernel
theorem dL_law_133 : decode cL_law 133 = .ok (.iaload, 1) := by decide +kernel
theorem dL_law_134 : decode cL_law 134 = .ok (.aload 14, 2) := by decide +kernel
theorem dL_law_136 : decode cL_law 136 = .ok (.iload 17, 2) := by decide +kernel
theorem dL_law_138 : decode cL_law 138 = .ok (.iaload, 1) := by decide +kernel
theorem dL_law_139 : decode cL_law 139 = .ok (.invokestatic 132, 3) := by decide +kernel
theorem dL_law_142 : decode cL_law 142 = .ok (.iastore, 1) := by decide +kernel
theorem dL_law_143 : decode cL_law 143 = .ok (.iinc 17 1, 3) := by decide +kernel
theorem dL_law_146 : decode cL_law 146 = .ok (.goto (-40), 3) := by decide +kernel
theorem dL_law_149 : decode cL_law 149 = .ok (.iinc 16 1, 3) := by decide +kernel
theorem dL_law_152 : decode cL_law 152 = .ok (.goto (-55), 3) := by decide +kernel
theorem dL_law_155 : decode cL_law 155 = .ok (.iinc 15 1, 3) := by decide +kernel
theorem dL_law_158 : decode cL_law 158 = .ok (.goto (-70), 3) := by decide +kernel
theorem dL_law_161 : decode cL_law 161 = .ok (.iconst 0, 1) := by decide +kernel
theorem dL_law_162 : decode cL_law 162 = .ok (.istore 15, 2) := by decide +kernel
theorem dL_law_164 : decode cL_law 164 = .ok (.iload 15, 2) := by decide +kernel
theorem dL_law_166 : decode cL_law 166 = .ok (.iload_n 3, 1) := by decide +kernel
theorem dL_law_167 : decode cL_law 167 = .ok (.if_icmp .ge 417, 3) := by decide +kernel
theorem dL_law_170 : decode cL_law 170 = .ok (.sipush (-30000), 3) := by decide +kernel
theorem dL_law_173 : decode cL_law 173 = .ok (.istore 16, 2) := by decide +kernel
theorem dL_law_175 : decode cL_law 175 = .ok (.iconst 0, 1) := by decide +kernel
theorem dL_law_176 : decode cL_law 176 = .ok (.istore 17, 2) := by decide +kernel
theorem dL_law_178 : decode cL_law 178 = .ok (.iconst 0, 1) := by decide +kernel
theorem dL_law_179 : decode cL_law 179 = .ok (.istore 18, 2) := by decide +kernel
theorem dL_law_181 : decode cL_law 181 = .ok (.iconst 0, 1) := by decide +kernel
theorem dL_law_182 : decode cL_law 182 = .ok (.istore 19, 2) := by decide +kernel
theorem dL_law_184 : decode cL_law 184 = .ok (.iload 19, 2) := by decide +kernel
theorem dL_law_186 : decode cL_law 186 = .ok (.iload_n 3, 1) := by decide +kernel
theorem dL_law_187 : decode cL_law 187 = .ok (.if_icmp .ge 250, 3) := by decide +kernel
theorem dL_law_190 : decode cL_law 190 = .ok (.aload_n 1, 1) := by decide +kernel
theorem dL_law_191 : decode cL_law 191 = .ok (.iload 15, 2) := by decide +kernel
theorem dL_law_193 : decode cL_law 193 = .ok (.invokevirtual 137, 3) := by decide +kernel
theorem dL_law_196 : decode cL_law 196 = .ok (.aload_n 1, 1) := by decide +kernel
theorem dL_law_197 : decode cL_law 197 = .ok (.iload 19, 2) := by decide +kernel
theorem dL_law_199 : decode cL_law 199 = .ok (.invokevirtual 137, 3) := by decide +kernel
theorem dL_law_202 : decode cL_law 202 = .ok (.isub, 1) := by decide +kernel
theorem dL_law_203 : decode cL_law 203 = .ok (.invokestatic 140, 3) := by decide +kernel
theorem dL_law_206 : decode cL_law 206 = .ok (.aload_n 1, 1) := by decide +kernel
theorem dL_law_207 : decode cL_law 207 = .ok (.iload 15, 2) := by decide +kernel
theorem dL_law_209 : decode cL_law 209 = .ok (.invokevirtual 143, 3) := by decide +kernel
theorem dL_law_212 : decode cL_law 212 = .ok (.aload_n 1, 1) := by decide +kernel
theorem dL_law_213 : decode cL_law 213 = .ok (.iload 19, 2) := by decide +kernel
theorem dL_law_215 : decode cL_law 215 = .ok (.invokevirtual 143, 3) := by decide +kernel
theorem dL_law_218 : decode cL_law 218 = .ok (.isub, 1) := by decide +kernel
theorem dL_law_219 : decode cL_law 219 = .ok (.invokestatic 140, 3) := by decide +kernel
theorem dL_law_222 : decode cL_law 222 = .ok (.iadd, 1) := by decide +kernel
theorem dL_law_223 : decode cL_law 223 = .ok (.istore 20, 2) := by decide +kernel
theorem dL_law_225 : decode cL_law 225 = .ok (.aload_n 1, 1) := by decide +kernel
theorem dL_law_226 : decode cL_law 226 = .ok (.iload 15, 2) := by decide +kernel
theorem dL_law_228 : decode cL_law 228 = .ok (.iload 19, 2) := by decide +kernel
theorem dL_law_230 : decode cL_law 230 = .ok (.invokevirtual 129, 3) := by decide +kernel
theorem dL_law_233 : decode cL_law 233 = .ok (.iload 20, 2) := by decide +kernel
theorem dL_law_235 : decode cL_law 235 = .ok (.if_icmp .ne 16, 3) := by decide +kernel
theorem dL_law_238 : decode cL_law 238 = .ok (.iload 19, 2) := by decide +kernel
theorem dL_law_240 : decode cL_law 240 = .ok (.iload 15, 2) := by decide +kernel
theorem dL_law_242 : decode cL_law 242 = .ok (.if_icmp .eq 11, 3) := by decide +kernel
theorem dL_law_245 : decode cL_law 245 = .ok (.iload 20, 2) := by decide +kernel
theorem dL_law_247 : decode cL_law 247 = .ok (.iconst 2, 1) := by decide +kernel
theorem dL_law_248 : decode cL_law 248 = .ok (.if_icmp .ge 5, 3) := by decide +kernel
theorem dL_law_251 : decode cL_law 251 = .ok (.iconst 0, 1) := by decide +kernel
theorem dL_law_252 : decode cL_law 252 = .ok (.ireturn, 1) := by decide +kernel
theorem dL_law_253 : decode cL_law 253 = .ok (.iload 19, 2) := by decide +kernel
theorem dL_law_255 : decode cL_law 255 = .ok (.iload 15, 2) := by decide +kernel
theorem dL_law_257 : decode cL_law 257 = .ok (.if_icmp .eq 29, 3) := by decide +kernel
theorem dL_law_260 : decode cL_law 260 = .ok (.iload 16, 2) := by decide +kernel
theorem dL_law_262 : decode cL_law 262 = .ok (.sipush (-30000), 3) := by decide +kernel
theorem dL_law_265 : decode cL_law 265 = .ok (.if_icmp .eq 16, 3) := by decide +kernel
theorem dL_law_268 : decode cL_law 268 = .ok (.iload 20, 2) := by decide +kernel
theorem dL_law_270 : decode cL_law 270 = .ok (.aload_n 1, 1) := by decide +kernel
theorem dL_law_271 : decode cL_law 271 = .ok (.iload 15, 2) := by decide +kernel
theorem dL_law_273 : decode cL_law 273 = .ok (.iload 16, 2) := by decide +kernel
theorem dL_law_275 : decode cL_law 275 = .ok (.invokevirtual 129, 3) := by decide +kernel
theorem dL_law_278 : decode cL_law 278 = .ok (.if_icmp .ge 8, 3) := by decide +kernel
theorem dL_law_281 : decode cL_law 281 = .ok (.iload 19, 2) := by decide +kernel
theorem dL_law_283 : decode cL_law 283 = .ok (.goto 5, 3) := by decide +kernel
theorem dL_law_286 : decode cL_law 286 = .ok (.iload 16, 2) := by decide +kernel
theorem dL_law_288 : decode cL_law 288 = .ok (.istore 16, 2) := by decide +kernel
theorem dL_law_290 : decode cL_law 290 = .ok (.iload 6, 2) := by decide +kernel
theorem dL_law_292 : decode cL_law 292 = .ok (.iload 19, 2) := by decide +kernel
theorem dL_law_294 : decode cL_law 294 = .ok (.iload 15, 2) := by decide +kernel
theorem dL_law_296 : decode cL_law 296 = .ok (.if_icmp .ge 14, 3) := by decide +kernel
theorem dL_law_299 : decode cL_law 299 = .ok (.iload 20, 2) := by decide +kernel
theorem dL_law_301 : decode cL_law 301 = .ok (.iload 11, 2) := by decide +kernel
theorem dL_law_303 : decode cL_law 303 = .ok (.if_icmp .gt 7, 3) := by decide +kernel
theorem dL_law_306 : decode cL_law 306 = .ok (.iconst 1, 1) := by decide +kernel
theorem dL_law_307 : decode cL_law 307 = .ok (.goto 4, 3) := by decide +kernel
theorem dL_law_310 : decode cL_law 310 = .ok (.iconst 0, 1) := by decide +kernel
theorem dL_law_311 : decode cL_law 311 = .ok (.iadd, 1) := by decide +kernel
theorem dL_law_312 : decode cL_law 312 = .ok (.istore 6, 2) := by decide +kernel
theorem dL_law_314 : decode cL_law 314 = .ok (.iload 7, 2) := by decide +kernel
theorem dL_law_316 : decode cL_law 316 = .ok (.iload 19, 2) := by decide +kernel
theorem dL_law_318 : decode cL_law 318 = .ok (.iload 15, 2) := by decide +kernel
theorem dL_law_320 : decode cL_law 320 = .ok (.if_icmp .ge 29, 3) := by decide +kernel
theorem dL_law_323 : decode cL_law 323 = .ok (.iload 20, 2) := by decide +kernel
theorem dL_law_325 : decode cL_law 325 = .ok (.iload 11, 2) := by decide +kernel
theorem dL_law_327 : decode cL_law 327 = .ok (.if_icmp .gt 22, 3) := by decide +kernel
theorem dL_law_330 : decode cL_law 330 = .ok (.aload_n 1, 1) := by decide +kernel
theorem dL_law_331 : decode cL_law 331 = .ok (.iload 19, 2) := by decide +kernel
theorem dL_law_333 : decode cL_law 333 = .ok (.invokevirtual 146, 3) := by decide +kernel
theorem dL_law_336 : decode cL_law 336 = .ok (.aload_n 1, 1) := by decide +kernel
theorem dL_law_337 : decode cL_law 337 = .ok (.iload 15, 2) := by decide +kernel
theorem dL_law_339 : decode cL_law 339 = .ok (.invokevirtual 146, 3) := by decide +kernel
theorem dL_law_342 : decode cL_law 342 = .ok (.if_icmp .eq 7, 3) := by decide +kernel
theorem dL_law_345 : decode cL_law 345 = .ok (.iconst 1, 1) := by decide +kernel
theorem dL_law_346 : decode cL_law 346 = .ok (.goto 4, 3) := by decide +kernel
theorem dL_law_349 : decode cL_law 349 = .ok (.iconst 0, 1) := by decide +kernel
theorem dL_law_350 : decode cL_law 350 = .ok (.iadd, 1) := by decide +kernel
theorem dL_law_351 : decode cL_law 351 = .ok (.istore 7, 2) := by decide +kernel
theorem dL_law_353 : decode cL_law 353 = .ok (.iload 17, 2) := by decide +kernel
theorem dL_law_355 : decode cL_law 355 = .ok (.aload 14, 2) := by decide +kernel
theorem dL_law_357 : decode cL_law 357 = .ok (.iload 19, 2) := by decide +kernel
theorem dL_law_359 : decode cL_law 359 = .ok (.iaload, 1) := by decide +kernel
theorem dL_law_360 : decode cL_law 360 = .ok (.aload 14, 2) := by decide +kernel
theorem dL_law_362 : decode cL_law 362 = .ok (.iload 15, 2) := by decide +kernel
theorem dL_law_364 : decode cL_law 364 = .ok (.iaload, 1) := by decide +kernel
theorem dL_law_365 : decode cL_law 365 = .ok (.if_icmp .ne 7, 3) := by decide +kernel
theorem dL_law_368 : decode cL_law 368 = .ok (.iconst 1, 1) := by decide +kernel
theorem dL_law_369 : decode cL_law 369 = .ok (.goto 4, 3) := by decide +kernel
theorem dL_law_372 : decode cL_law 372 = .ok (.iconst 0, 1) := by decide +kernel
theorem dL_law_373 : decode cL_law 373 = .ok (.iadd, 1) := by decide +kernel
theorem dL_law_374 : decode cL_law 374 = .ok (.istore 17, 2) := by decide +kernel
theorem dL_law_376 : decode cL_law 376 = .ok (.iload 18, 2) := by decide +kernel
theorem dL_law_378 : decode cL_law 378 = .ok (.aload_n 1, 1) := by decide +kernel
theorem dL_law_379 : decode cL_law 379 = .ok (.iload 19, 2) := by decide +kernel
theorem dL_law_381 : decode cL_law 381 = .ok (.iload 4, 2) := by decide +kernel
theorem dL_law_383 : decode cL_law 383 = .ok (.invokevirtual 129, 3) := by decide +kernel
theorem dL_law_386 : decode cL_law 386 = .ok (.aload_n 1, 1) := by decide +kernel
theorem dL_law_387 : decode cL_law 387 = .ok (.iload 15, 2) := by decide +kernel
theorem dL_law_389 : decode cL_law 389 = .ok (.iload 4, 2) := by decide +kernel
theorem dL_law_391 : decode cL_law 391 = .ok (.invokevirtual 129, 3) := by decide +kernel
theorem dL_law_394 : decode cL_law 394 = .ok (.if_icmp .lt 29, 3) := by decide +kernel
theorem dL_law_397 : decode cL_law 397 = .ok (.aload_n 1, 1) := by decide +kernel
theorem dL_law_398 : decode cL_law 398 = .ok (.iload 19, 2) := by decide +kernel
theorem dL_law_400 : decode cL_law 400 = .ok (.iload 4, 2) := by decide +kernel
theorem dL_law_402 : decode cL_law 402 = .ok (.invokevirtual 129, 3) := by decide +kernel
theorem dL_law_405 : decode cL_law 405 = .ok (.aload_n 1, 1) := by decide +kernel
theorem dL_law_406 : decode cL_law 406 = .ok (.iload 15, 2) := by decide +kernel
theorem dL_law_408 : decode cL_law 408 = .ok (.iload 4, 2) := by decide +kernel
theorem dL_law_410 : decode cL_law 410 = .ok (.invokevirtual 129, 3) := by decide +kernel
theorem dL_law_413 : decode cL_law 413 = .ok (.if_icmp .ne 14, 3) := by decide +kernel
theorem dL_law_416 : decode cL_law 416 = .ok (.iload 19, 2) := by decide +kernel
theorem dL_law_418 : decode cL_law 418 = .ok (.iload 15, 2) := by decide +kernel
theorem dL_law_420 : decode cL_law 420 = .ok (.if_icmp .ge 7, 3) := by decide +kernel
theorem dL_law_423 : decode cL_law 423 = .ok (.iconst 1, 1) := by decide +kernel
theorem dL_law_424 : decode cL_law 424 = .ok (.goto 4, 3) := by decide +kernel
theorem dL_law_427 : decode cL_law 427 = .ok (.iconst 0, 1) := by decide +kernel
theorem dL_law_428 : decode cL_law 428 = .ok (.iadd, 1) := by decide +kernel
theorem dL_law_429 : decode cL_law 429 = .ok (.istore 18, 2) := by decide +kernel
theorem dL_law_431 : decode cL_law 431 = .ok (.iinc 19 1, 3) := by decide +kernel
theorem dL_law_434 : decode cL_law 434 = .ok (.goto (-250), 3) := by decide +kernel
theorem dL_law_437 : decode cL_law 437 = .ok (.aload_n 1, 1) := by decide +kernel
theorem dL_law_438 : decode cL_law 438 = .ok (.iload 15, 2) := by decide +kernel
theorem dL_law_440 : decode cL_law 440 = .ok (.invokestatic 149, 3) := by decide +kernel
theorem dL_law_443 : decode cL_law 443 = .ok (.iload 16, 2) := by decide +kernel
theorem dL_law_445 : decode cL_law 445 = .ok (.if_icmp .ne 77, 3) := by decide +kernel
theorem dL_law_448 : decode cL_law 448 = .ok (.aload_n 1, 1) := by decide +kernel
theorem dL_law_449 : decode cL_law 449 = .ok (.iload 15, 2) := by decide +kernel
theorem dL_law_451 : decode cL_law 451 = .ok (.invokevirtual 151, 3) := by decide +kernel
theorem dL_law_454 : decode cL_law 454 = .ok (.aload 14, 2) := by decide +kernel
theorem dL_law_456 : decode cL_law 456 = .ok (.iload 15, 2) := by decide +kernel
theorem dL_law_458 : decode cL_law 458 = .ok (.iaload, 1) := by decide +kernel
theorem dL_law_459 : decode cL_law 459 = .ok (.if_icmp .ne 63, 3) := by decide +kernel
theorem dL_law_462 : decode cL_law 462 = .ok (.aload_n 1, 1) := by decide +kernel
theorem dL_law_463 : decode cL_law 463 = .ok (.iload 18, 2) := by decide +kernel
theorem dL_law_465 : decode cL_law 465 = .ok (.invokevirtual 71, 3) := by decide +kernel
theorem dL_law_468 : decode cL_law 468 = .ok (.iload 15, 2) := by decide +kernel
theorem dL_law_470 : decode cL_law 470 = .ok (.if_icmp .ne 52, 3) := by decide +kernel
theorem dL_law_473 : decode cL_law 473 = .ok (.aload_n 1, 1) := by decide +kernel
theorem dL_law_474 : decode cL_law 474 = .ok (.aload_n 1, 1) := by decide +kernel
theorem dL_law_475 : decode cL_law 475 = .ok (.iload 15, 2) := by decide +kernel
theorem dL_law_477 : decode cL_law 477 = .ok (.invokevirtual 137, 3) := by decide +kernel
theorem dL_law_480 : decode cL_law 480 = .ok (.aload_n 1, 1) := by decide +kernel
theorem dL_law_481 : decode cL_law 481 = .ok (.iload 15, 2) := by decide +kernel
theorem dL_law_483 : decode cL_law 483 = .ok (.invokevirtual 143, 3) := by decide +kernel
theorem dL_law_486 : decode cL_law 486 = .ok (.invokevirtual 154, 3) := by decide +kernel
theorem dL_law_489 : decode cL_law 489 = .ok (.ifCond .ne 33, 3) := by decide +kernel
theorem dL_law_492 : decode cL_law 492 = .ok (.aload_n 1, 1) := by decide +kernel
theorem dL_law_493 : decode cL_law 493 = .ok (.aload_n 1, 1) := by decide +kernel
theorem dL_law_494 : decode cL_law 494 = .ok (.iload 15, 2) := by decide +kernel
theorem dL_law_496 : decode cL_law 496 = .ok (.invokevirtual 137, 3) := by decide +kernel
theorem dL_law_499 : decode cL_law 499 = .ok (.aload_n 1, 1) := by decide +kernel
theorem dL_law_500 : decode cL_law 500 = .ok (.iload 15, 2) := by decide +kernel
theorem dL_law_502 : decode cL_law 502 = .ok (.invokevirtual 143, 3) := by decide +kernel
theorem dL_law_505 : decode cL_law 505 = .ok (.invokevirtual 34, 3) := by decide +kernel
theorem dL_law_508 : decode cL_law 508 = .ok (.iload 15, 2) := by decide +kernel
theorem dL_law_510 : decode cL_law 510 = .ok (.if_icmp .ne 12, 3) := by decide +kernel
theorem dL_law_513 : decode cL_law 513 = .ok (.aload_n 1, 1) := by decide +kernel
theorem dL_law_514 : decode cL_law 514 = .ok (.iload 15, 2) := by decide +kernel
theorem dL_law_516 : decode cL_law 516 = .ok (.invokevirtual 158, 3) := by decide +kernel
theorem dL_law_519 : decode cL_law 519 = .ok (.ifCond .ge 5, 3) := by decide +kernel
theorem dL_law_522 : decode cL_law 522 = .ok (.iconst 0, 1) := by decide +kernel
theorem dL_law_523 : decode cL_law 523 = .ok (.ireturn, 1) := by decide +kernel
theorem dL_law_524 : decode cL_law 524 = .ok (.iload 8, 2) := by decide +kernel
theorem dL_law_526 : decode cL_law 526 = .ok (.aload 14, 2) := by decide +kernel
theorem dL_law_528 : decode cL_law 528 = .ok (.iload 15, 2) := by decide +kernel
theorem dL_law_530 : decode cL_law 530 = .ok (.iaload, 1) := by decide +kernel
theorem dL_law_531 : decode cL_law 531 = .ok (.iload 15, 2) := by decide +kernel
theorem dL_law_533 : decode cL_law 533 = .ok (.if_icmp .ne 7, 3) := by decide +kernel
theorem dL_law_536 : decode cL_law 536 = .ok (.iconst 1, 1) := by decide +kernel
theorem dL_law_537 : decode cL_law 537 = .ok (.goto 4, 3) := by decide +kernel
theorem dL_law_540 : decode cL_law 540 = .ok (.iconst 0, 1) := by decide +kernel
theorem dL_law_541 : decode cL_law 541 = .ok (.iadd, 1) := by decide +kernel
theorem dL_law_542 : decode cL_law 542 = .ok (.istore 8, 2) := by decide +kernel
theorem dL_law_544 : decode cL_law 544 = .ok (.iload 9, 2) := by decide +kernel
theorem dL_law_546 : decode cL_law 546 = .ok (.iload 17, 2) := by decide +kernel
theorem dL_law_548 : decode cL_law 548 = .ok (.invokestatic 161, 3) := by decide +kernel
theorem dL_law_551 : decode cL_law 551 = .ok (.istore 9, 2) := by decide +kernel
theorem dL_law_553 : decode cL_law 553 = .ok (.iload 5, 2) := by decide +kernel
theorem dL_law_555 : decode cL_law 555 = .ok (.aload_n 1, 1) := by decide +kernel
theorem dL_law_556 : decode cL_law 556 = .ok (.iload 15, 2) := by decide +kernel
theorem dL_law_558 : decode cL_law 558 = .ok (.iload 4, 2) := by decide +kernel
theorem dL_law_560 : decode cL_law 560 = .ok (.invokevirtual 129, 3) := by decide +kernel
theorem dL_law_563 : decode cL_law 563 = .ok (.iadd, 1) := by decide +kernel
theorem dL_law_564 : decode cL_law 564 = .ok (.istore 5, 2) := by decide +kernel
theorem dL_law_566 : decode cL_law 566 = .ok (.lload 12, 2) := by decide +kernel
theorem dL_law_568 : decode cL_law 568 = .ok (.aload_n 1, 1) := by decide +kernel
theorem dL_law_569 : decode cL_law 569 = .ok (.iload 15, 2) := by decide +kernel
theorem dL_law_571 : decode cL_law 571 = .ok (.invokevirtual 158, 3) := by decide +kernel
theorem dL_law_574 : decode cL_law 574 = .ok (.i2l, 1) := by decide +kernel
theorem dL_law_575 : decode cL_law 575 = .ok (.ladd, 1) := by decide +kernel
theorem dL_law_576 : decode cL_law 576 = .ok (.lstore 12, 2) := by decide +kernel
theorem dL_law_578 : decode cL_law 578 = .ok (.iinc 15 1, 3) := by decide +kernel
theorem dL_law_581 : decode cL_law 581 = .ok (.goto (-417), 3) := by decide +kernel
theorem dL_law_584 : decode cL_law 584 = .ok (.iconst 0, 1) := by decide +kernel
theorem dL_law_585 : decode cL_law 585 = .ok (.istore 15, 2) := by decide +kernel
theorem dL_law_587 : decode cL_law 587 = .ok (.iload 15, 2) := by decide +kernel
theorem dL_law_589 : decode cL_law 589 = .ok (.bipush 12, 2) := by decide +kernel
theorem dL_law_591 : decode cL_law 591 = .ok (.if_icmp .ge 146, 3) := by decide +kernel
theorem dL_law_594 : decode cL_law 594 = .ok (.ldc 164, 2) := by decide +kernel
theorem dL_law_596 : decode cL_law 596 = .ok (.astore 16, 2) := by decide +kernel
theorem dL_law_598 : decode cL_law 598 = .ok (.iconst 0, 1) := by decide +kernel
theorem dL_law_599 : decode cL_law 599 = .ok (.istore 17, 2) := by decide +kernel
theorem dL_law_601 : decode cL_law 601 = .ok (.iload 17, 2) := by decide +kernel
theorem dL_law_603 : decode cL_law 603 = .ok (.bipush 12, 2) := by decide +kernel
theorem dL_law_605 : decode cL_law 605 = .ok (.if_icmp .ge 109, 3) := by decide +kernel
theorem dL_law_608 : decode cL_law 608 = .ok (.aload_n 1, 1) := by decide +kernel
theorem dL_law_609 : decode cL_law 609 = .ok (.iload 17, 2) := by decide +kernel
theorem dL_law_611 : decode cL_law 611 = .ok (.iload 15, 2) := by decide +kernel
theorem dL_law_613 : decode cL_law 613 = .ok (.invokestatic 166, 3) := by decide +kernel
theorem dL_law_616 : decode cL_law 616 = .ok (.istore 18, 2) := by decide +kernel
theorem dL_law_618 : decode cL_law 618 = .ok (.new 168, 3) := by decide +kernel
theorem dL_law_621 : decode cL_law 621 = .ok (.dup, 1) := by decide +kernel
theorem dL_law_622 : decode cL_law 622 = .ok (.invokespecial 170, 3) := by decide +kernel
theorem dL_law_625 : decode cL_law 625 = .ok (.aload 16, 2) := by decide +kernel
theorem dL_law_627 : decode cL_law 627 = .ok (.invokevirtual 171, 3) := by decide +kernel
theorem dL_law_630 : decode cL_law 630 = .ok (.iload 18, 2) := by decide +kernel
theorem dL_law_632 : decode cL_law 632 = .ok (.sipush (-30000), 3) := by decide +kernel
theorem dL_law_635 : decode cL_law 635 = .ok (.if_icmp .eq 26, 3) := by decide +kernel
theorem dL_law_638 : decode cL_law 638 = .ok (.new 168, 3) := by decide +kernel
theorem dL_law_641 : decode cL_law 641 = .ok (.dup, 1) := by decide +kernel
theorem dL_law_642 : decode cL_law 642 = .ok (.invokespecial 170, 3) := by decide +kernel
theorem dL_law_645 : decode cL_law 645 = .ok (.ldc 164, 2) := by decide +kernel
theorem dL_law_647 : decode cL_law 647 = .ok (.invokevirtual 171, 3) := by decide +kernel
theorem dL_law_650 : decode cL_law 650 = .ok (.iload 18, 2) := by decide +kernel
theorem dL_law_652 : decode cL_law 652 = .ok (.invokevirtual 175, 3) := by decide +kernel
theorem dL_law_655 : decode cL_law 655 = .ok (.invokevirtual 178, 3) := by decide +kernel
theorem dL_law_658 : decode cL_law 658 = .ok (.goto 21, 3) := by decide +kernel
theorem dL_law_661 : decode cL_law 661 = .ok (.aload_n 1, 1) := by decide +kernel
theorem dL_law_662 : decode cL_law 662 = .ok (.iload 17, 2) := by decide +kernel
theorem dL_law_664 : decode cL_law 664 = .ok (.iload 15, 2) := by decide +kernel
theorem dL_law_666 : decode cL_law 666 = .ok (.invokevirtual 154, 3) := by decide +kernel
theorem dL_law_669 : decode cL_law 669 = .ok (.ifCond .eq 8, 3) := by decide +kernel
theorem dL_law_672 : decode cL_law 672 = .ok (.ldc 182, 2) := by decide +kernel
theorem dL_law_674 : decode cL_law 674 = .ok (.goto 5, 3) := by decide +kernel
theorem dL_law_677 : decode cL_law 677 = .ok (.ldc 184, 2) := by decide +kernel
theorem dL_law_679 : decode cL_law 679 = .ok (.invokevirtual 171, 3) := by decide +kernel
theorem dL_law_682 : decode cL_law 682 = .ok (.invokevirtual 178, 3) := by decide +kernel
theorem dL_law_685 : decode cL_law 685 = .ok (.astore 16, 2) := by decide +kernel
theorem dL_law_687 : decode cL_law 687 = .ok (.iload 10, 2) := by decide +kernel
theorem dL_law_689 : decode cL_law 689 = .ok (.aload_n 1, 1) := by decide +kernel
theorem dL_law_690 : decode cL_law 690 = .ok (.iload 17, 2) := by decide +kernel
theorem dL_law_692 : decode cL_law 692 = .ok (.iload 15, 2) := by decide +kernel
theorem dL_law_694 : decode cL_law 694 = .ok (.invokevirtual 154, 3) := by decide +kernel
theorem dL_law_697 : decode cL_law 697 = .ok (.ifCond .eq 7, 3) := by decide +kernel
theorem dL_law_700 : decode cL_law 700 = .ok (.iconst 1, 1) := by decide +kernel
theorem dL_law_701 : decode cL_law 701 = .ok (.goto 4, 3) := by decide +kernel
theorem dL_law_704 : decode cL_law 704 = .ok (.iconst 0, 1) := by decide +kernel
theorem dL_law_705 : decode cL_law 705 = .ok (.iadd, 1) := by decide +kernel
theorem dL_law_706 : decode cL_law 706 = .ok (.istore 10, 2) := by decide +kernel
theorem dL_law_708 : decode cL_law 708 = .ok (.iinc 17 1, 3) := by decide +kernel
theorem dL_law_711 : decode cL_law 711 = .ok (.goto (-110), 3) := by decide +kernel
theorem dL_law_714 : decode cL_law 714 = .ok (.aload_n 1, 1) := by decide +kernel
theorem dL_law_715 : decode cL_law 715 = .ok (.aload_n 1, 1) := by decide +kernel
theorem dL_law_716 : decode cL_law 716 = .ok (.iload 15, 2) := by decide +kernel
theorem dL_law_718 : decode cL_law 718 = .ok (.invokevirtual 186, 3) := by decide +kernel
theorem dL_law_721 : decode cL_law 721 = .ok (.aload 16, 2) := by decide +kernel
theorem dL_law_723 : decode cL_law 723 = .ok (.invokestatic 189, 3) := by decide +kernel
theorem dL_law_726 : decode cL_law 726 = .ok (.ifCond .ne 5, 3) := by decide +kernel
theorem dL_law_729 : decode cL_law 729 = .ok (.iconst 0, 1) := by decide +kernel
theorem dL_law_730 : decode cL_law 730 = .ok (.ireturn, 1) := by decide +kernel
theorem dL_law_731 : decode cL_law 731 = .ok (.iinc 15 1, 3) := by decide +kernel
theorem dL_law_734 : decode cL_law 734 = .ok (.goto (-147), 3) := by decide +kernel
theorem dL_law_737 : decode cL_law 737 = .ok (.iconst 0, 1) := by decide +kernel
theorem dL_law_738 : decode cL_law 738 = .ok (.istore 15, 2) := by decide +kernel
theorem dL_law_740 : decode cL_law 740 = .ok (.iload 15, 2) := by decide +kernel
theorem dL_law_742 : decode cL_law 742 = .ok (.bipush 100, 2) := by decide +kernel
theorem dL_law_744 : decode cL_law 744 = .ok (.if_icmp .ge 45, 3) := by decide +kernel
theorem dL_law_747 : decode cL_law 747 = .ok (.aload_n 1, 1) := by decide +kernel
theorem dL_law_748 : decode cL_law 748 = .ok (.iload 15, 2) := by decide +kernel
theorem dL_law_750 : decode cL_law 750 = .ok (.invokestatic 193, 3) := by decide +kernel
theorem dL_law_753 : decode cL_law 753 = .ok (.aload_n 1, 1) := by decide +kernel
theorem dL_law_754 : decode cL_law 754 = .ok (.iload 15, 2) := by decide +kernel
theorem dL_law_756 : decode cL_law 756 = .ok (.invokestatic 195, 3) := by decide +kernel
theorem dL_law_759 : decode cL_law 759 = .ok (.if_icmp .ne 22, 3) := by decide +kernel
theorem dL_law_762 : decode cL_law 762 = .ok (.aload_n 1, 1) := by decide +kernel
theorem dL_law_763 : decode cL_law 763 = .ok (.iload 15, 2) := by decide +kernel
theorem dL_law_765 : decode cL_law 765 = .ok (.invokestatic 193, 3) := by decide +kernel
theorem dL_law_768 : decode cL_law 768 = .ok (.ifCond .lt 13, 3) := by decide +kernel
theorem dL_law_771 : decode cL_law 771 = .ok (.aload_n 1, 1) := by decide +kernel
theorem dL_law_772 : decode cL_law 772 = .ok (.iload 15, 2) := by decide +kernel
theorem dL_law_774 : decode cL_law 774 = .ok (.invokestatic 193, 3) := by decide +kernel
theorem dL_law_777 : decode cL_law 777 = .ok (.iload_n 3, 1) := by decide +kernel
theorem dL_law_778 : decode cL_law 778 = .ok (.if_icmp .lt 5, 3) := by decide +kernel
theorem dL_law_781 : decode cL_law 781 = .ok (.iconst 0, 1) := by decide +kernel
theorem dL_law_782 : decode cL_law 782 = .ok (.ireturn, 1) := by decide +kernel
theorem dL_law_783 : decode cL_law 783 = .ok (.iinc 15 7, 3) := by decide +kernel
theorem dL_law_786 : decode cL_law 786 = .ok (.goto (-46), 3) := by decide +kernel
theorem dL_law_789 : decode cL_law 789 = .ok (.aload_n 1, 1) := by decide +kernel
theorem dL_law_790 : decode cL_law 790 = .ok (.invokestatic 197, 3) := by decide +kernel
theorem dL_law_793 : decode cL_law 793 = .ok (.istore 15, 2) := by decide +kernel
theorem dL_law_795 : decode cL_law 795 = .ok (.aload_n 1, 1) := by decide +kernel
theorem dL_law_796 : decode cL_law 796 = .ok (.invokevirtual 200, 3) := by decide +kernel
theorem dL_law_799 : decode cL_law 799 = .ok (.istore 16, 2) := by decide +kernel
theorem dL_law_801 : decode cL_law 801 = .ok (.aload_n 1, 1) := by decide +kernel
theorem dL_law_802 : decode cL_law 802 = .ok (.iconst 0, 1) := by decide +kernel
theorem dL_law_803 : decode cL_law 803 = .ok (.invokestatic 193, 3) := by decide +kernel
theorem dL_law_806 : decode cL_law 806 = .ok (.iload 4, 2) := by decide +kernel
theorem dL_law_808 : decode cL_law 808 = .ok (.if_icmp .ne 141, 3) := by decide +kernel
theorem dL_law_811 : decode cL_law 811 = .ok (.aload_n 1, 1) := by decide +kernel
theorem dL_law_812 : decode cL_law 812 = .ok (.invokevirtual 203, 3) := by decide +kernel
theorem dL_law_815 : decode cL_law 815 = .ok (.iload 10, 2) := by decide +kernel
theorem dL_law_817 : decode cL_law 817 = .ok (.if_icmp .ne 132, 3) := by decide +kernel
theorem dL_law_820 : decode cL_law 820 = .ok (.aload_n 1, 1) := by decide +kernel
theorem dL_law_821 : decode cL_law 821 = .ok (.invokevirtual 206, 3) := by decide +kernel
theorem dL_law_824 : decode cL_law 824 = .ok (.iload 8, 2) := by decide +kernel
theorem dL_law_826 : decode cL_law 826 = .ok (.if_icmp .ne 123, 3) := by decide +kernel
theorem dL_law_829 : decode cL_law 829 = .ok (.aload_n 1, 1) := by decide +kernel
theorem dL_law_830 : decode cL_law 830 = .ok (.invokevirtual 209, 3) := by decide +kernel
theorem dL_law_833 : decode cL_law 833 = .ok (.iload 8, 2) := by decide +kernel
theorem dL_law_835 : decode cL_law 835 = .ok (.if_icmp .ne 114, 3) := by decide +kernel
theorem dL_law_838 : decode cL_law 838 = .ok (.aload_n 1, 1) := by decide +kernel
theorem dL_law_839 : decode cL_law 839 = .ok (.invokevirtual 212, 3) := by decide +kernel
theorem dL_law_842 : decode cL_law 842 = .ok (.iload 9, 2) := by decide +kernel
theorem dL_law_844 : decode cL_law 844 = .ok (.if_icmp .ne 105, 3) := by decide +kernel
theorem dL_law_847 : decode cL_law 847 = .ok (.aload_n 1, 1) := by decide +kernel
theorem dL_law_848 : decode cL_law 848 = .ok (.invokevirtual 215, 3) := by decide +kernel
theorem dL_law_851 : decode cL_law 851 = .ok (.iload 7, 2) := by decide +kernel
theorem dL_law_853 : decode cL_law 853 = .ok (.if_icmp .ne 96, 3) := by decide +kernel
theorem dL_law_856 : decode cL_law 856 = .ok (.aload_n 1, 1) := by decide +kernel
theorem dL_law_857 : decode cL_law 857 = .ok (.invokevirtual 218, 3) := by decide +kernel
theorem dL_law_860 : decode cL_law 860 = .ok (.iload 7, 2) := by decide +kernel
theorem dL_law_862 : decode cL_law 862 = .ok (.if_icmp .ne 87, 3) := by decide +kernel
theorem dL_law_865 : decode cL_law 865 = .ok (.aload_n 1, 1) := by decide +kernel
theorem dL_law_866 : decode cL_law 866 = .ok (.invokevirtual 221, 3) := by decide +kernel
theorem dL_law_869 : decode cL_law 869 = .ok (.lload 12, 2) := by decide +kernel
theorem dL_law_871 : decode cL_law 871 = .ok (.lcmp, 1) := by decide +kernel
theorem dL_law_872 : decode cL_law 872 = .ok (.ifCond .ne 77, 3) := by decide +kernel
theorem dL_law_875 : decode cL_law 875 = .ok (.iload 16, 2) := by decide +kernel
theorem dL_law_877 : decode cL_law 877 = .ok (.bipush 16, 2) := by decide +kernel
theorem dL_law_879 : decode cL_law 879 = .ok (.aload_n 1, 1) := by decide +kernel
theorem dL_law_880 : decode cL_law 880 = .ok (.invokevirtual 225, 3) := by decide +kernel
theorem dL_law_883 : decode cL_law 883 = .ok (.invokestatic 132, 3) := by decide +kernel
theorem dL_law_886 : decode cL_law 886 = .ok (.if_icmp .ne 63, 3) := by decide +kernel
theorem dL_law_889 : decode cL_law 889 = .ok (.aload_n 1, 1) := by decide +kernel
theorem dL_law_890 : decode cL_law 890 = .ok (.invokevirtual 228, 3) := by decide +kernel
theorem dL_law_893 : decode cL_law 893 = .ok (.iload 16, 2) := by decide +kernel
theorem dL_law_895 : decode cL_law 895 = .ok (.if_icmp .gt 54, 3) := by decide +kernel
theorem dL_law_898 : decode cL_law 898 = .ok (.iload 16, 2) := by decide +kernel
theorem dL_law_900 : decode cL_law 900 = .ok (.ifCond .le 11, 3) := by decide +kernel
theorem dL_law_903 : decode cL_law 903 = .ok (.aload_n 1, 1) := by decide +kernel
theorem dL_law_904 : decode cL_law 904 = .ok (.invokevirtual 228, 3) := by decide +kernel
theorem dL_law_907 : decode cL_law 907 = .ok (.iconst 1, 1) := by decide +kernel
theorem dL_law_908 : decode cL_law 908 = .ok (.if_icmp .lt 41, 3) := by decide +kernel
theorem dL_law_911 : decode cL_law 911 = .ok (.iload 15, 2) := by decide +kernel
theorem dL_law_913 : decode cL_law 913 = .ok (.sipush (-30000), 3) := by decide +kernel
theorem dL_law_916 : decode cL_law 916 = .ok (.if_icmp .eq 15, 3) := by decide +kernel
theorem dL_law_919 : decode cL_law 919 = .ok (.iload 15, 2) := by decide +kernel
theorem dL_law_921 : decode cL_law 921 = .ok (.ifCond .lt 28, 3) := by decide +kernel
theorem dL_law_924 : decode cL_law 924 = .ok (.iload 15, 2) := by decide +kernel
theorem dL_law_926 : decode cL_law 926 = .ok (.iload 16, 2) := by decide +kernel
theorem dL_law_928 : decode cL_law 928 = .ok (.if_icmp .ge 21, 3) := by decide +kernel
theorem dL_law_931 : decode cL_law 931 = .ok (.aload_n 1, 1) := by decide +kernel
theorem dL_law_932 : decode cL_law 932 = .ok (.iload_n 3, 1) := by decide +kernel
theorem dL_law_933 : decode cL_law 933 = .ok (.invokestatic 231, 3) := by decide +kernel
theorem dL_law_936 : decode cL_law 936 = .ok (.sipush (-30000), 3) := by decide +kernel
theorem dL_law_939 : decode cL_law 939 = .ok (.if_icmp .ne 10, 3) := by decide +kernel
theorem dL_law_942 : decode cL_law 942 = .ok (.aload_n 1, 1) := by decide +kernel
theorem dL_law_943 : decode cL_law 943 = .ok (.invokevirtual 233, 3) := by decide +kernel
theorem dL_law_946 : decode cL_law 946 = .ok (.ifCond .ne 5, 3) := by decide +kernel
theorem dL_law_949 : decode cL_law 949 = .ok (.iconst 0, 1) := by decide +kernel
theorem dL_law_950 : decode cL_law 950 = .ok (.ireturn, 1) := by decide +kernel
theorem dL_law_951 : decode cL_law 951 = .ok (.iload_n 3, 1) := by decide +kernel
theorem dL_law_952 : decode cL_law 952 = .ok (.iconst 1, 1) := by decide +kernel
theorem dL_law_953 : decode cL_law 953 = .ok (.if_icmp .le 19, 3) := by decide +kernel
theorem dL_law_956 : decode cL_law 956 = .ok (.aload_n 1, 1) := by decide +kernel
theorem dL_law_957 : decode cL_law 957 = .ok (.invokevirtual 237, 3) := by decide +kernel
theorem dL_law_960 : decode cL_law 960 = .ok (.iload 5, 2) := by decide +kernel
theorem dL_law_962 : decode cL_law 962 = .ok (.i2d, 1) := by decide +kernel
theorem dL_law_963 : decode cL_law 963 = .ok (.iload_n 3, 1) := by decide +kernel
theorem dL_law_964 : decode cL_law 964 = .ok (.iconst 1, 1) := by decide +kernel
theorem dL_law_965 : decode cL_law 965 = .ok (.isub, 1) := by decide +kernel
theorem dL_law_966 : decode cL_law 966 = .ok (.i2d, 1) := by decide +kernel
theorem dL_law_967 : decode cL_law 967 = .ok (.ddiv, 1) := by decide +kernel
theorem dL_law_968 : decode cL_law 968 = .ok (.dcmp .l, 1) := by decide +kernel
theorem dL_law_969 : decode cL_law 969 = .ok (.ifCond .ne 23, 3) := by decide +kernel
theorem dL_law_972 : decode cL_law 972 = .ok (.iload 6, 2) := by decide +kernel
theorem dL_law_974 : decode cL_law 974 = .ok (.ifCond .le 20, 3) := by decide +kernel
theorem dL_law_977 : decode cL_law 977 = .ok (.aload_n 1, 1) := by decide +kernel
theorem dL_law_978 : decode cL_law 978 = .ok (.invokevirtual 241, 3) := by decide +kernel
theorem dL_law_981 : decode cL_law 981 = .ok (.iload 7, 2) := by decide +kernel
theorem dL_law_983 : decode cL_law 983 = .ok (.i2f, 1) := by decide +kernel
theorem dL_law_984 : decode cL_law 984 = .ok (.iload 6, 2) := by decide +kernel
theorem dL_law_986 : decode cL_law 986 = .ok (.i2f, 1) := by decide +kernel
theorem dL_law_987 : decode cL_law 987 = .ok (.fdiv, 1) := by decide +kernel
theorem dL_law_988 : decode cL_law 988 = .ok (.fcmp .l, 1) := by decide +kernel
theorem dL_law_989 : decode cL_law 989 = .ok (.ifCond .eq 5, 3) := by decide +kernel
theorem dL_law_992 : decode cL_law 992 = .ok (.iconst 0, 1) := by decide +kernel
theorem dL_law_993 : decode cL_law 993 = .ok (.ireturn, 1) := by decide +kernel
theorem dL_law_994 : decode cL_law 994 = .ok (.aload_n 1, 1) := by decide +kernel
theorem dL_law_995 : decode cL_law 995 = .ok (.aload_n 0, 1) := by decide +kernel
theorem dL_law_996 : decode cL_law 996 = .ok (.bipush 90, 2) := by decide +kernel
theorem dL_law_998 : decode cL_law 998 = .ok (.iconst 4, 1) := by decide +kernel
theorem dL_law_999 : decode cL_law 999 = .ok (.iload_n 2, 1) := by decide +kernel
theorem dL_law_1000 : decode cL_law 1000 = .ok (.imul, 1) := by decide +kernel
theorem dL_law_1001 : decode cL_law 1001 = .ok (.iadd, 1) := by decide +kernel
theorem dL_law_1002 : decode cL_law 1002 = .ok (.invokestatic 86, 3) := by decide +kernel
theorem dL_law_1005 : decode cL_law 1005 = .ok (.iinc 2 1, 3) := by decide +kernel
theorem dL_law_1008 : decode cL_law 1008 = .ok (.goto (-993), 3) := by decide +kernel
theorem dL_law_1011 : decode cL_law 1011 = .ok (.iconst 1, 1) := by decide +kernel
theorem dL_law_1012 : decode cL_law 1012 = .ok (.ireturn, 1) := by decide +kernel
