theorem dL_law_0 : decode cL_law 0 = .ok (.new 14, 3) := by decide +kernel
theorem dL_law_3 : decode cL_law 3 = .ok (.dup, 1) := by decide +kernel
theorem dL_law_4 : decode cL_law 4 = .ok (.invokespecial 147, 3) := by decide +kernel
theorem dL_law_7 : decode cL_law 7 = .ok (.astore_n 1, 1) := by decide +kernel
theorem dL_law_8 : decode cL_law 8 = .ok (.iconst 1, 1) := by decide +kernel
theorem dL_law_9 : decode cL_law 9 = .ok (.aload_n 0, 1) := by decide +kernel
theorem dL_law_10 : decode cL_law 10 = .ok (.iconst 0, 1) := by decide +kernel
theorem dL_law_11 : decode cL_law 11 = .ok (.iconst 3, 1) := by decide +kernel
theorem dL_law_12 : decode cL_law 12 = .ok (.invokestatic 148, 3) := by decide +kernel
theorem dL_law_15 : decode cL_law 15 = .ok (.iadd, 1) := by decide +kernel
theorem dL_law_16 : decode cL_law 16 = .ok (.istore_n 2, 1) := by decide +kernel
theorem dL_law_17 : decode cL_law 17 = .ok (.iconst 0, 1) := by decide +kernel
theorem dL_law_18 : decode cL_law 18 = .ok (.istore_n 3, 1) := by decide +kernel
theorem dL_law_19 : decode cL_law 19 = .ok (.bipush 24, 2) := by decide +kernel
theorem dL_law_21 : decode cL_law 21 = .ok (.istore 4, 2) := by decide +kernel
theorem dL_law_23 : decode cL_law 23 = .ok (.iconst 0, 1) := by decide +kernel
theorem dL_law_24 : decode cL_law 24 = .ok (.istore 5, 2) := by decide +kernel
theorem dL_law_26 : decode cL_law 26 = .ok (.bipush 17, 2) := by decide +kernel
theorem dL_law_28 : decode cL_law 28 = .ok (.newarray .int, 2) := by decide +kernel
theorem dL_law_30 : decode cL_law 30 = .ok (.astore 6, 2) := by decide +kernel
theorem dL_law_32 : decode cL_law 32 = .ok (.bipush 17, 2) := by decide +kernel
theorem dL_law_34 : decode cL_law 34 = .ok (.newarray .int, 2) := by decide +kernel
theorem dL_law_36 : decode cL_law 36 = .ok (.astore 7, 2) := by decide +kernel
theorem dL_law_38 : decode cL_law 38 = .ok (.bipush 17, 2) := by decide +kernel
theorem dL_law_40 : decode cL_law 40 = .ok (.newarray .int, 2) := by decide +kernel
theorem dL_law_42 : decode cL_law 42 = .ok (.astore 8, 2) := by decide +kernel
theorem dL_law_44 : decode cL_law 44 = .ok (.bipush 17, 2) := by decide +kernel
theorem dL_law_46 : decode cL_law 46 = .ok (.newarray .int, 2) := by decide +kernel
theorem dL_law_48 : decode cL_law 48 = .ok (.astore 9, 2) := by decide +kernel
theorem dL_law_50 : decode cL_law 50 = .ok (.bipush 17, 2) := by decide +kernel
theorem dL_law_52 : decode cL_law 52 = .ok (.newarray .int, 2) := by decide +kernel
theorem dL_law_54 : decode cL_law 54 = .ok (.astore 10, 2) := by decide +kernel
theorem dL_law_56 : decode cL_law 56 = .ok (.bipush 17, 2) := by decide +kernel
theorem dL_law_58 : decode cL_law 58 = .ok (.newarray .boolean, 2) := by decide +kernel
theorem dL_law_60 : decode cL_law 60 = .ok (.astore 11, 2) := by decide +kernel
theorem dL_law_62 : decode cL_law 62 = .ok (.bipush 17, 2) := by decide +kernel
theorem dL_law_64 : decode cL_law 64 = .ok (.newarray .boolean, 2) := by decide +kernel
theorem dL_law_66 : decode cL_law 66 = .ok (.astore 12, 2) := by decide +kernel
theorem dL_law_68 : decode cL_law 68 = .ok (.iconst 0, 1) := by decide +kernel
theorem dL_law_69 : decode cL_law 69 = .ok (.istore 13, 2) := by decide +kernel
theorem dL_law_71 : decode cL_law 71 = .ok (.iload 13, 2) := by decide +kernel
theorem dL_law_73 : decode cL_law 73 = .ok (.iload_n 2, 1) := by decide +kernel
theorem dL_law_74 : decode cL_law 74 = .ok (.if_icmp .ge 20, 3) := by decide +kernel
theorem dL_law_77 : decode cL_law 77 = .ok (.aload_n 1, 1) := by decide +kernel
theorem dL_law_78 : decode cL_law 78 = .ok (.invokestatic 152, 3) := by decide +kernel
theorem dL_law_81 : decode cL_law 81 = .ok (.iload 13, 2) := by decide +kernel
theorem dL_law_83 : decode cL_law 83 = .ok (.if_icmp .eq 5, 3) := by decide +kernel
theorem dL_law_86 : decode cL_law 86 = .ok (.iconst 0, 1) := by decide +kernel
theorem dL_law_87 : decode cL_law 87 = .ok (.ireturn, 1) := by decide +kernel
theorem dL_law_88 : decode cL_law 88 = .ok (.iinc 13 1, 3) := by decide +kernel
theorem dL_law_91 : decode cL_law 91 = .ok (.goto (-20), 3) := by decide +kernel
theorem dL_law_94 : decode cL_law 94 = .ok (.iconst 0, 1) := by decide +kernel
theorem dL_law_95 : decode cL_law 95 = .ok (.istore 13, 2) := by decide +kernel
theorem dL_law_97 : decode cL_law 97 = .ok (.iload 13, 2) := by decide +kernel
theorem dL_law_99 : decode cL_law 99 = .ok (.bipush 28, 2) := by decide +kernel
theorem dL_law_101 : decode cL_law 101 = .ok (.if_icmp .ge 1282, 3) := by decide +kernel
theorem dL_law_104 : decode cL_law 104 = .ok (.aload_n 0, 1) := by decide +kernel
theorem dL_law_105 : decode cL_law 105 = .ok (.iconst 1, 1) := by decide +kernel
theorem dL_law_106 : decode cL_law 106 = .ok (.iconst 3, 1) := by decide +kernel
theorem dL_law_107 : decode cL_law 107 = .ok (.iload 13, 2) := by decide +kernel
theorem dL_law_109 : decode cL_law 109 = .ok (.imul, 1) := by decide +kernel
theorem dL_law_110 : decode cL_law 110 = .ok (.iadd, 1) := by decide +kernel
theorem dL_law_111 : decode cL_law 111 = .ok (.ldc 155, 2) := by decide +kernel
theorem dL_law_113 : decode cL_law 113 = .ok (.invokestatic 148, 3) := by decide +kernel
theorem dL_law_116 : decode cL_law 116 = .ok (.istore 14, 2) := by decide +kernel
theorem dL_law_118 : decode cL_law 118 = .ok (.aload_n 0, 1) := by decide +kernel
theorem dL_law_119 : decode cL_law 119 = .ok (.iconst 2, 1) := by decide +kernel
theorem dL_law_120 : decode cL_law 120 = .ok (.iconst 3, 1) := by decide +kernel
theorem dL_law_121 : decode cL_law 121 = .ok (.iload 13, 2) := by decide +kernel
theorem dL_law_123 : decode cL_law 123 = .ok (.imul, 1) := by decide +kernel
theorem dL_law_124 : decode cL_law 124 = .ok (.iadd, 1) := by decide +kernel
theorem dL_law_125 : decode cL_law 125 = .ok (.sipush 9000, 3) := by decide +kernel
theorem dL_law_128 : decode cL_law 128 = .ok (.invokestatic 148, 3) := by decide +kernel
theorem dL_law_131 : decode cL_law 131 = .ok (.istore 15, 2) := by decide +kernel
theorem dL_law_133 : decode cL_law 133 = .ok (.iload 14, 2) := by decide +kernel
theorem dL_law_135 : decode cL_law 135 = .ok (.iload_n 2, 1) := by decide +kernel
theorem dL_law_136 : decode cL_law 136 = .ok (.irem, 1) := by decide +kernel
theorem dL_law_137 : decode cL_law 137 = .ok (.istore 16, 2) := by decide +kernel
theorem dL_law_139 : decode cL_law 139 = .ok (.iload 14, 2) := by decide +kernel
theorem dL_law_141 : decode cL_law 141 = .ok (.iconst 3, 1) := by decide +kernel
theorem dL_law_142 : decode cL_law 142 = .ok (.idiv, 1) := by decide +kernel
theorem dL_law_143 : decode cL_law 143 = .ok (.iconst 3, 1) := by decide +kernel
theorem dL_law_144 : decode cL_law 144 = .ok (.irem, 1) := by decide +kernel
theorem dL_law_145 : decode cL_law 145 = .ok (.istore 17, 2) := by decide +kernel
theorem dL_law_147 : decode cL_law 147 = .ok (.iload 14, 2) := by decide +kernel
theorem dL_law_149 : decode cL_law 149 = .ok (.bipush 9, 2) := by decide +kernel
theorem dL_law_151 : decode cL_law 151 = .ok (.idiv, 1) := by decide +kernel
theorem dL_law_152 : decode cL_law 152 = .ok (.iconst 3, 1) := by decide +kernel
theorem dL_law_153 : decode cL_law 153 = .ok (.irem, 1) := by decide +kernel
theorem dL_law_154 : decode cL_law 154 = .ok (.istore 18, 2) := by decide +kernel
theorem dL_law_156 : decode cL_law 156 = .ok (.aload_n 1, 1) := by decide +kernel
theorem dL_law_157 : decode cL_law 157 = .ok (.iload 16, 2) := by decide +kernel
theorem dL_law_159 : decode cL_law 159 = .ok (.invokevirtual 32, 3) := by decide +kernel
theorem dL_law_162 : decode cL_law 162 = .ok (.istore 19, 2) := by decide +kernel
theorem dL_law_164 : decode cL_law 164 = .ok (.iload 14, 2) := by decide +kernel
theorem dL_law_166 : decode cL_law 166 = .ok (.bipush 27, 2) := by decide +kernel
theorem dL_law_168 : decode cL_law 168 = .ok (.idiv, 1) := by decide +kernel
theorem dL_law_169 : decode cL_law 169 = .ok (.iconst 2, 1) := by decide +kernel
theorem dL_law_170 : decode cL_law 170 = .ok (.irem, 1) := by decide +kernel
theorem dL_law_171 : decode cL_law 171 = .ok (.ifCond .ne 7, 3) := by decide +kernel
theorem dL_law_174 : decode cL_law 174 = .ok (.iconst 1, 1) := by decide +kernel
theorem dL_law_175 : decode cL_law 175 = .ok (.goto 4, 3) := by decide +kernel
theorem dL_law_178 : decode cL_law 178 = .ok (.iconst 0, 1) := by decide +kernel
theorem dL_law_179 : decode cL_law 179 = .ok (.istore 20, 2) := by decide +kernel
theorem dL_law_181 : decode cL_law 181 = .ok (.aload_n 0, 1) := by decide +kernel
theorem dL_law_182 : decode cL_law 182 = .ok (.iconst 3, 1) := by decide +kernel
theorem dL_law_183 : decode cL_law 183 = .ok (.iconst 3, 1) := by decide +kernel
theorem dL_law_184 : decode cL_law 184 = .ok (.iload 13, 2) := by decide +kernel
theorem dL_law_186 : decode cL_law 186 = .ok (.imul, 1) := by decide +kernel
theorem dL_law_187 : decode cL_law 187 = .ok (.iadd, 1) := by decide +kernel
theorem dL_law_188 : decode cL_law 188 = .ok (.bipush 14, 2) := by decide +kernel
theorem dL_law_190 : decode cL_law 190 = .ok (.invokestatic 148, 3) := by decide +kernel
theorem dL_law_193 : decode cL_law 193 = .ok (.tableswitch 854 0 12 #[67, 67, 200, 200, 200, 310, 310, 368, 368, 570, 596, 596, 747], 67) := by decide +kernel
theorem dL_law_260 : decode cL_law 260 = .ok (.aload_n 1, 1) := by decide +kernel
theorem dL_law_261 : decode cL_law 261 = .ok (.iload 16, 2) := by decide +kernel
theorem dL_law_263 : decode cL_law 263 = .ok (.invokevirtual 132, 3) := by decide +kernel
theorem dL_law_266 : decode cL_law 266 = .ok (.iload 17, 2) := by decide +kernel
theorem dL_law_268 : decode cL_law 268 = .ok (.if_icmp .ne 7, 3) := by decide +kernel
theorem dL_law_271 : decode cL_law 271 = .ok (.iconst 0, 1) := by decide +kernel
theorem dL_law_272 : decode cL_law 272 = .ok (.goto 4, 3) := by decide +kernel
theorem dL_law_275 : decode cL_law 275 = .ok (.iconst 1, 1) := by decide +kernel
theorem dL_law_276 : decode cL_law 276 = .ok (.aload_n 1, 1) := by decide +kernel
theorem dL_law_277 : decode cL_law 277 = .ok (.iload 16, 2) := by decide +kernel
theorem dL_law_279 : decode cL_law 279 = .ok (.invokevirtual 135, 3) := by decide +kernel
theorem dL_law_282 : decode cL_law 282 = .ok (.iload 18, 2) := by decide +kernel
theorem dL_law_284 : decode cL_law 284 = .ok (.if_icmp .ne 7, 3) := by decide +kernel
theorem dL_law_287 : decode cL_law 287 = .ok (.iconst 0, 1) := by decide +kernel
theorem dL_law_288 : decode cL_law 288 = .ok (.goto 4, 3) := by decide +kernel
theorem dL_law_291 : decode cL_law 291 = .ok (.iconst 1, 1) := by decide +kernel
theorem dL_law_292 : decode cL_law 292 = .ok (.iadd, 1) := by decide +kernel
theorem dL_law_293 : decode cL_law 293 = .ok (.aload_n 1, 1) := by decide +kernel
theorem dL_law_294 : decode cL_law 294 = .ok (.iload 16, 2) := by decide +kernel
theorem dL_law_296 : decode cL_law 296 = .ok (.invokevirtual 156, 3) := by decide +kernel
theorem dL_law_299 : decode cL_law 299 = .ok (.iload 20, 2) := by decide +kernel
theorem dL_law_301 : decode cL_law 301 = .ok (.if_icmp .ne 7, 3) := by decide +kernel
theorem dL_law_304 : decode cL_law 304 = .ok (.iconst 0, 1) := by decide +kernel
theorem dL_law_305 : decode cL_law 305 = .ok (.goto 4, 3) := by decide +kernel
theorem dL_law_308 : decode cL_law 308 = .ok (.iconst 1, 1) := by decide +kernel
theorem dL_law_309 : decode cL_law 309 = .ok (.iadd, 1) := by decide +kernel
theorem dL_law_310 : decode cL_law 310 = .ok (.istore 21, 2) := by decide +kernel
theorem dL_law_312 : decode cL_law 312 = .ok (.aload_n 1, 1) := by decide +kernel
theorem dL_law_313 : decode cL_law 313 = .ok (.iload 16, 2) := by decide +kernel
theorem dL_law_315 : decode cL_law 315 = .ok (.iload 17, 2) := by decide +kernel
theorem dL_law_317 : decode cL_law 317 = .ok (.iload 18, 2) := by decide +kernel
theorem dL_law_319 : decode cL_law 319 = .ok (.iload 20, 2) := by decide +kernel
theorem dL_law_321 : decode cL_law 321 = .ok (.invokestatic 159, 3) := by decide +kernel
theorem dL_law_324 : decode cL_law 324 = .ok (.iload 21, 2) := by decide +kernel
theorem dL_law_326 : decode cL_law 326 = .ok (.if_icmp .ne 65, 3) := by decide +kernel
theorem dL_law_329 : decode cL_law 329 = .ok (.aload_n 1, 1) := by decide +kernel
theorem dL_law_330 : decode cL_law 330 = .ok (.iload 16, 2) := by decide +kernel
theorem dL_law_332 : decode cL_law 332 = .ok (.invokevirtual 32, 3) := by decide +kernel
theorem dL_law_335 : decode cL_law 335 = .ok (.iload 19, 2) := by decide +kernel
theorem dL_law_337 : decode cL_law 337 = .ok (.iload 21, 2) := by decide +kernel
theorem dL_law_339 : decode cL_law 339 = .ok (.iadd, 1) := by decide +kernel
theorem dL_law_340 : decode cL_law 340 = .ok (.if_icmp .ne 51, 3) := by decide +kernel
theorem dL_law_343 : decode cL_law 343 = .ok (.aload_n 1, 1) := by decide +kernel
theorem dL_law_344 : decode cL_law 344 = .ok (.iload 16, 2) := by decide +kernel
theorem dL_law_346 : decode cL_law 346 = .ok (.invokevirtual 132, 3) := by decide +kernel
theorem dL_law_349 : decode cL_law 349 = .ok (.iload 17, 2) := by decide +kernel
theorem dL_law_351 : decode cL_law 351 = .ok (.if_icmp .ne 40, 3) := by decide +kernel
theorem dL_law_354 : decode cL_law 354 = .ok (.aload_n 1, 1) := by decide +kernel
theorem dL_law_355 : decode cL_law 355 = .ok (.iload 16, 2) := by decide +kernel
theorem dL_law_357 : decode cL_law 357 = .ok (.invokevirtual 135, 3) := by decide +kernel
theorem dL_law_360 : decode cL_law 360 = .ok (.iload 18, 2) := by decide +kernel
theorem dL_law_362 : decode cL_law 362 = .ok (.if_icmp .ne 29, 3) := by decide +kernel
theorem dL_law_365 : decode cL_law 365 = .ok (.aload_n 1, 1) := by decide +kernel
theorem dL_law_366 : decode cL_law 366 = .ok (.iload 16, 2) := by decide +kernel
theorem dL_law_368 : decode cL_law 368 = .ok (.invokevirtual 156, 3) := by decide +kernel
theorem dL_law_371 : decode cL_law 371 = .ok (.iload 20, 2) := by decide +kernel
theorem dL_law_373 : decode cL_law 373 = .ok (.if_icmp .ne 18, 3) := by decide +kernel
theorem dL_law_376 : decode cL_law 376 = .ok (.aload_n 1, 1) := by decide +kernel
theorem dL_law_377 : decode cL_law 377 = .ok (.iload 16, 2) := by decide +kernel
theorem dL_law_379 : decode cL_law 379 = .ok (.iload 17, 2) := by decide +kernel
theorem dL_law_381 : decode cL_law 381 = .ok (.iload 18, 2) := by decide +kernel
theorem dL_law_383 : decode cL_law 383 = .ok (.iload 20, 2) := by decide +kernel
theorem dL_law_385 : decode cL_law 385 = .ok (.invokestatic 159, 3) := by decide +kernel
theorem dL_law_388 : decode cL_law 388 = .ok (.ifCond .eq 797, 3) := by decide +kernel
theorem dL_law_391 : decode cL_law 391 = .ok (.iconst 0, 1) := by decide +kernel
theorem dL_law_392 : decode cL_law 392 = .ok (.ireturn, 1) := by decide +kernel
theorem dL_law_393 : decode cL_law 393 = .ok (.aload_n 1, 1) := by decide +kernel
theorem dL_law_394 : decode cL_law 394 = .ok (.invokevirtual 111, 3) := by decide +kernel
theorem dL_law_397 : decode cL_law 397 = .ok (.istore 21, 2) := by decide +kernel
theorem dL_law_399 : decode cL_law 399 = .ok (.aload_n 1, 1) := by decide +kernel
theorem dL_law_400 : decode cL_law 400 = .ok (.iload 16, 2) := by decide +kernel
theorem dL_law_402 : decode cL_law 402 = .ok (.iload 15, 2) := by decide +kernel
theorem dL_law_404 : decode cL_law 404 = .ok (.iconst 3, 1) := by decide +kernel
theorem dL_law_405 : decode cL_law 405 = .ok (.irem, 1) := by decide +kernel
theorem dL_law_406 : decode cL_law 406 = .ok (.iload 15, 2) := by decide +kernel
theorem dL_law_408 : decode cL_law 408 = .ok (.iconst 3, 1) := by decide +kernel
theorem dL_law_409 : decode cL_law 409 = .ok (.idiv, 1) := by decide +kernel
theorem dL_law_410 : decode cL_law 410 = .ok (.iconst 2, 1) := by decide +kernel
theorem dL_law_411 : decode cL_law 411 = .ok (.irem, 1) := by decide +kernel
theorem dL_law_412 : decode cL_law 412 = .ok (.iconst 2, 1) := by decide +kernel
theorem dL_law_413 : decode cL_law 413 = .ok (.imul, 1) := by decide +kernel
theorem dL_law_414 : decode cL_law 414 = .ok (.iconst 1, 1) := by decide +kernel
theorem dL_law_415 : decode cL_law 415 = .ok (.isub, 1) := by decide +kernel
theorem dL_law_416 : decode cL_law 416 = .ok (.iload 14, 2) := by decide +kernel
theorem dL_law_418 : decode cL_law 418 = .ok (.bipush 19, 2) := by decide +kernel
theorem dL_law_420 : decode cL_law 420 = .ok (.irem, 1) := by decide +kernel
theorem dL_law_421 : decode cL_law 421 = .ok (.bipush 9, 2) := by decide +kernel
theorem dL_law_423 : decode cL_law 423 = .ok (.isub, 1) := by decide +kernel
theorem dL_law_424 : decode cL_law 424 = .ok (.iload 14, 2) := by decide +kernel
theorem dL_law_426 : decode cL_law 426 = .ok (.bipush 19, 2) := by decide +kernel
theorem dL_law_428 : decode cL_law 428 = .ok (.idiv, 1) := by decide +kernel
theorem dL_law_429 : decode cL_law 429 = .ok (.bipush 19, 2) := by decide +kernel
theorem dL_law_431 : decode cL_law 431 = .ok (.irem, 1) := by decide +kernel
theorem dL_law_432 : decode cL_law 432 = .ok (.bipush 9, 2) := by decide +kernel
theorem dL_law_434 : decode cL_law 434 = .ok (.isub, 1) := by decide +kernel
theorem dL_law_435 : decode cL_law 435 = .ok (.iload 14, 2) := by decide +kernel
theorem dL_law_437 : decode cL_law 437 = .ok (.sipush 361, 3) := by decide +kernel
theorem dL_law_440 : decode cL_law 440 = .ok (.idiv, 1) := by decide +kernel
theorem dL_law_441 : decode cL_law 441 = .ok (.bipush 19, 2) := by decide +kernel
theorem dL_law_443 : decode cL_law 443 = .ok (.irem, 1) := by decide +kernel
theorem dL_law_444 : decode cL_law 444 = .ok (.bipush 9, 2) := by decide +kernel
theorem dL_law_446 : decode cL_law 446 = .ok (.isub, 1) := by decide +kernel
theorem dL_law_447 : decode cL_law 447 = .ok (.invokestatic 162, 3) := by decide +kernel
theorem dL_law_450 : decode cL_law 450 = .ok (.istore 22, 2) := by decide +kernel
theorem dL_law_452 : decode cL_law 452 = .ok (.iload 22, 2) := by decide +kernel
theorem dL_law_454 : decode cL_law 454 = .ok (.iload 21, 2) := by decide +kernel
theorem dL_law_456 : decode cL_law 456 = .ok (.if_icmp .ne 45, 3) := by decide +kernel
theorem dL_law_459 : decode cL_law 459 = .ok (.aload_n 1, 1) := by decide +kernel
theorem dL_law_460 : decode cL_law 460 = .ok (.iload 22, 2) := by decide +kernel
theorem dL_law_462 : decode cL_law 462 = .ok (.invokevirtual 47, 3) := by decide +kernel
theorem dL_law_465 : decode cL_law 465 = .ok (.ifCond .ne 36, 3) := by decide +kernel
theorem dL_law_468 : decode cL_law 468 = .ok (.aload_n 1, 1) := by decide +kernel
theorem dL_law_469 : decode cL_law 469 = .ok (.iload 16, 2) := by decide +kernel
theorem dL_law_471 : decode cL_law 471 = .ok (.iload 15, 2) := by decide +kernel
theorem dL_law_473 : decode cL_law 473 = .ok (.iconst 3, 1) := by decide +kernel
theorem dL_law_474 : decode cL_law 474 = .ok (.irem, 1) := by decide +kernel
theorem dL_law_475 : decode cL_law 475 = .ok (.aload_n 1, 1) := by decide +kernel
theorem dL_law_476 : decode cL_law 476 = .ok (.iload 16, 2) := by decide +kernel
theorem dL_law_478 : decode cL_law 478 = .ok (.invokevirtual 132, 3) := by decide +kernel
theorem dL_law_481 : decode cL_law 481 = .ok (.aload_n 1, 1) := by decide +kernel
theorem dL_law_482 : decode cL_law 482 = .ok (.iload 16, 2) := by decide +kernel
theorem dL_law_484 : decode cL_law 484 = .ok (.invokevirtual 135, 3) := by decide +kernel
theorem dL_law_487 : decode cL_law 487 = .ok (.aload_n 1, 1) := by decide +kernel
theorem dL_law_488 : decode cL_law 488 = .ok (.iload 16, 2) := by decide +kernel
theorem dL_law_490 : decode cL_law 490 = .ok (.invokevirtual 156, 3) := by decide +kernel
theorem dL_law_493 : decode cL_law 493 = .ok (.invokestatic 165, 3) := by decide +kernel
theorem dL_law_496 : decode cL_law 496 = .ok (.iload 22, 2) := by decide +kernel
theorem dL_law_498 : decode cL_law 498 = .ok (.if_icmp .eq 687, 3) := by decide +kernel
theorem dL_law_501 : decode cL_law 501 = .ok (.iconst 0, 1) := by decide +kernel
theorem dL_law_502 : decode cL_law 502 = .ok (.ireturn, 1) := by decide +kernel
theorem dL_law_503 : decode cL_law 503 = .ok (.aload_n 1, 1) := by decide +kernel
theorem dL_law_504 : decode cL_law 504 = .ok (.invokevirtual 111, 3) := by decide +kernel
theorem dL_law_507 : decode cL_law 507 = .ok (.ifCond .ne 6, 3) := by decide +kernel
theorem dL_law_510 : decode cL_law 510 = .ok (.goto 675, 3) := by decide +kernel
theorem dL_law_513 : decode cL_law 513 = .ok (.aload_n 1, 1) := by decide +kernel
theorem dL_law_514 : decode cL_law 514 = .ok (.iload 15, 2) := by decide +kernel
theorem dL_law_516 : decode cL_law 516 = .ok (.aload_n 1, 1) := by decide +kernel
theorem dL_law_517 : decode cL_law 517 = .ok (.invokevirtual 111, 3) := by decide +kernel
theorem dL_law_520 : decode cL_law 520 = .ok (.irem, 1) := by decide +kernel
theorem dL_law_521 : decode cL_law 521 = .ok (.invokestatic 168, 3) := by decide +kernel
theorem dL_law_524 : decode cL_law 524 = .ok (.istore 21, 2) := by decide +kernel
theorem dL_law_526 : decode cL_law 526 = .ok (.iload 21, 2) := by decide +kernel
theorem dL_law_528 : decode cL_law 528 = .ok (.iload_n 3, 1) := by decide +kernel
theorem dL_law_529 : decode cL_law 529 = .ok (.bipush 20, 2) := by decide +kernel
theorem dL_law_531 : decode cL_law 531 = .ok (.if_icmp .ne 8, 3) := by decide +kernel
theorem dL_law_534 : decode cL_law 534 = .ok (.ldc 21, 2) := by decide +kernel
theorem dL_law_536 : decode cL_law 536 = .ok (.goto 4, 3) := by decide +kernel
theorem dL_law_539 : decode cL_law 539 = .ok (.iload_n 3, 1) := by decide +kernel
theorem dL_law_540 : decode cL_law 540 = .ok (.if_icmp .eq 5, 3) := by decide +kernel
theorem dL_law_543 : decode cL_law 543 = .ok (.iconst 0, 1) := by decide +kernel
theorem dL_law_544 : decode cL_law 544 = .ok (.ireturn, 1) := by decide +kernel
theorem dL_law_545 : decode cL_law 545 = .ok (.iload_n 3, 1) := by decide +kernel
theorem dL_law_546 : decode cL_law 546 = .ok (.iload 21, 2) := by decide +kernel
theorem dL_law_548 : decode cL_law 548 = .ok (.ifCond .lt 7, 3) := by decide +kernel
theorem dL_law_551 : decode cL_law 551 = .ok (.iconst 1, 1) := by decide +kernel
theorem dL_law_552 : decode cL_law 552 = .ok (.goto 4, 3) := by decide +kernel
theorem dL_law_555 : decode cL_law 555 = .ok (.iconst 0, 1) := by decide +kernel
theorem dL_law_556 : decode cL_law 556 = .ok (.iadd, 1) := by decide +kernel
theorem dL_law_557 : decode cL_law 557 = .ok (.istore_n 3, 1) := by decide +kernel
theorem dL_law_558 : decode cL_law 558 = .ok (.goto 627, 3) := by decide +kernel
theorem dL_law_561 : decode cL_law 561 = .ok (.iload_n 3, 1) := by decide +kernel
theorem dL_law_562 : decode cL_law 562 = .ok (.ifCond .ne 6, 3) := by decide +kernel
theorem dL_law_565 : decode cL_law 565 = .ok (.goto 620, 3) := by decide +kernel
theorem dL_law_568 : decode cL_law 568 = .ok (.iload 15, 2) := by decide +kernel
theorem dL_law_570 : decode cL_law 570 = .ok (.iload_n 3, 1) := by decide +kernel
theorem dL_law_571 : decode cL_law 571 = .ok (.irem, 1) := by decide +kernel
theorem dL_law_572 : decode cL_law 572 = .ok (.istore 21, 2) := by decide +kernel
theorem dL_law_574 : decode cL_law 574 = .ok (.aload_n 1, 1) := by decide +kernel
theorem dL_law_575 : decode cL_law 575 = .ok (.iload 21, 2) := by decide +kernel
theorem dL_law_577 : decode cL_law 577 = .ok (.invokevirtual 81, 3) := by decide +kernel
theorem dL_law_580 : decode cL_law 580 = .ok (.istore 22, 2) := by decide +kernel
theorem dL_law_582 : decode cL_law 582 = .ok (.iload 14, 2) := by decide +kernel
theorem dL_law_584 : decode cL_law 584 = .ok (.sipush 1999, 3) := by decide +kernel
theorem dL_law_587 : decode cL_law 587 = .ok (.irem, 1) := by decide +kernel
theorem dL_law_588 : decode cL_law 588 = .ok (.sipush 999, 3) := by decide +kernel
theorem dL_law_591 : decode cL_law 591 = .ok (.isub, 1) := by decide +kernel
theorem dL_law_592 : decode cL_law 592 = .ok (.istore 23, 2) := by decide +kernel
theorem dL_law_594 : decode cL_law 594 = .ok (.aload_n 1, 1) := by decide +kernel
theorem dL_law_595 : decode cL_law 595 = .ok (.iload 21, 2) := by decide +kernel
theorem dL_law_597 : decode cL_law 597 = .ok (.invokestatic 125, 3) := by decide +kernel
theorem dL_law_600 : decode cL_law 600 = .ok (.istore 24, 2) := by decide +kernel
theorem dL_law_602 : decode cL_law 602 = .ok (.aload_n 1, 1) := by decide +kernel
theorem dL_law_603 : decode cL_law 603 = .ok (.iload 21, 2) := by decide +kernel
theorem dL_law_605 : decode cL_law 605 = .ok (.iload 23, 2) := by decide +kernel
theorem dL_law_607 : decode cL_law 607 = .ok (.invokestatic 170, 3) := by decide +kernel
theorem dL_law_610 : decode cL_law 610 = .ok (.lstore 25, 2) := by decide +kernel
theorem dL_law_612 : decode cL_law 612 = .ok (.iload 24, 2) := by decide +kernel
theorem dL_law_614 : decode cL_law 614 = .ok (.bipush 45, 2) := by decide +kernel
theorem dL_law_616 : decode cL_law 616 = .ok (.if_icmp .ne 41, 3) := by decide +kernel
theorem dL_law_619 : decode cL_law 619 = .ok (.aload_n 1, 1) := by decide +kernel
theorem dL_law_620 : decode cL_law 620 = .ok (.iload 21, 2) := by decide +kernel
theorem dL_law_622 : decode cL_law 622 = .ok (.invokevirtual 81, 3) := by decide +kernel
theorem dL_law_625 : decode cL_law 625 = .ok (.iload 22, 2) := by decide +kernel
theorem dL_law_627 : decode cL_law 627 = .ok (.iconst 1, 1) := by decide +kernel
theorem dL_law_628 : decode cL_law 628 = .ok (.iadd, 1) := by decide +kernel
theorem dL_law_629 : decode cL_law 629 = .ok (.if_icmp .ne 48, 3) := by decide +kernel
theorem dL_law_632 : decode cL_law 632 = .ok (.iload 22, 2) := by decide +kernel
theorem dL_law_634 : decode cL_law 634 = .ok (.ifCond .ne 45, 3) := by decide +kernel
theorem dL_law_637 : decode cL_law 637 = .ok (.lload 25, 2) := by decide +kernel
theorem dL_law_639 : decode cL_law 639 = .ok (.iload 23, 2) := by decide +kernel
theorem dL_law_641 : decode cL_law 641 = .ok (.i2l, 1) := by decide +kernel
theorem dL_law_642 : decode cL_law 642 = .ok (.aload_n 1, 1) := by decide +kernel
theorem dL_law_643 : decode cL_law 643 = .ok (.iload 21, 2) := by decide +kernel
theorem dL_law_645 : decode cL_law 645 = .ok (.iconst 0, 1) := by decide +kernel
theorem dL_law_646 : decode cL_law 646 = .ok (.invokevirtual 60, 3) := by decide +kernel
theorem dL_law_649 : decode cL_law 649 = .ok (.lmul, 1) := by decide +kernel
theorem dL_law_650 : decode cL_law 650 = .ok (.lcmp, 1) := by decide +kernel
theorem dL_law_651 : decode cL_law 651 = .ok (.ifCond .eq 28, 3) := by decide +kernel
theorem dL_law_654 : decode cL_law 654 = .ok (.goto 23, 3) := by decide +kernel
theorem dL_law_657 : decode cL_law 657 = .ok (.lload 25, 2) := by decide +kernel
theorem dL_law_659 : decode cL_law 659 = .ok (.ldc2_w 79, 3) := by decide +kernel
theorem dL_law_662 : decode cL_law 662 = .ok (.lcmp, 1) := by decide +kernel
theorem dL_law_663 : decode cL_law 663 = .ok (.ifCond .ne 14, 3) := by decide +kernel
theorem dL_law_666 : decode cL_law 666 = .ok (.aload_n 1, 1) := by decide +kernel
theorem dL_law_667 : decode cL_law 667 = .ok (.iload 21, 2) := by decide +kernel
theorem dL_law_669 : decode cL_law 669 = .ok (.invokevirtual 81, 3) := by decide +kernel
theorem dL_law_672 : decode cL_law 672 = .ok (.iload 22, 2) := by decide +kernel
