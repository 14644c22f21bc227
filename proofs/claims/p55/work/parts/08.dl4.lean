theorem dL_lines_225 : decode cL_lines 225 = .ok (.iconst 0, 1) := by decide +kernel
theorem dL_lines_226 : decode cL_lines 226 = .ok (.invokestatic 337, 3) := by decide +kernel
theorem dL_lines_229 : decode cL_lines 229 = .ok (.bipush (-15), 2) := by decide +kernel
theorem dL_lines_231 : decode cL_lines 231 = .ok (.if_icmp .ne 14, 3) := by decide +kernel
theorem dL_lines_234 : decode cL_lines 234 = .ok (.aload_n 0, 1) := by decide +kernel
theorem dL_lines_235 : decode cL_lines 235 = .ok (.iload_n 2, 1) := by decide +kernel
theorem dL_lines_236 : decode cL_lines 236 = .ok (.iconst 0, 1) := by decide +kernel
theorem dL_lines_237 : decode cL_lines 237 = .ok (.invokestatic 339, 3) := by decide +kernel
theorem dL_lines_240 : decode cL_lines 240 = .ok (.bipush (-15), 2) := by decide +kernel
theorem dL_lines_242 : decode cL_lines 242 = .ok (.if_icmp .eq 5, 3) := by decide +kernel
theorem dL_lines_245 : decode cL_lines 245 = .ok (.iconst 0, 1) := by decide +kernel
theorem dL_lines_246 : decode cL_lines 246 = .ok (.ireturn, 1) := by decide +kernel
theorem dL_lines_247 : decode cL_lines 247 = .ok (.iload 5, 2) := by decide +kernel
theorem dL_lines_249 : decode cL_lines 249 = .ok (.ifCond .le 53, 3) := by decide +kernel
theorem dL_lines_252 : decode cL_lines 252 = .ok (.aload_n 0, 1) := by decide +kernel
theorem dL_lines_253 : decode cL_lines 253 = .ok (.iload_n 2, 1) := by decide +kernel
theorem dL_lines_254 : decode cL_lines 254 = .ok (.invokestatic 332, 3) := by decide +kernel
theorem dL_lines_257 : decode cL_lines 257 = .ok (.iload 5, 2) := by decide +kernel
theorem dL_lines_259 : decode cL_lines 259 = .ok (.if_icmp .ne 41, 3) := by decide +kernel
theorem dL_lines_262 : decode cL_lines 262 = .ok (.aload_n 0, 1) := by decide +kernel
theorem dL_lines_263 : decode cL_lines 263 = .ok (.iload_n 2, 1) := by decide +kernel
theorem dL_lines_264 : decode cL_lines 264 = .ok (.invokestatic 334, 3) := by decide +kernel
theorem dL_lines_267 : decode cL_lines 267 = .ok (.aload 4, 2) := by decide +kernel
theorem dL_lines_269 : decode cL_lines 269 = .ok (.bipush 45, 2) := by decide +kernel
theorem dL_lines_271 : decode cL_lines 271 = .ok (.invokestatic 314, 3) := by decide +kernel
theorem dL_lines_274 : decode cL_lines 274 = .ok (.if_icmp .ne 26, 3) := by decide +kernel
theorem dL_lines_277 : decode cL_lines 277 = .ok (.aload_n 0, 1) := by decide +kernel
theorem dL_lines_278 : decode cL_lines 278 = .ok (.iload_n 2, 1) := by decide +kernel
theorem dL_lines_279 : decode cL_lines 279 = .ok (.iload 5, 2) := by decide +kernel
theorem dL_lines_281 : decode cL_lines 281 = .ok (.invokestatic 337, 3) := by decide +kernel
theorem dL_lines_284 : decode cL_lines 284 = .ok (.bipush (-11), 2) := by decide +kernel
theorem dL_lines_286 : decode cL_lines 286 = .ok (.if_icmp .ne 14, 3) := by decide +kernel
theorem dL_lines_289 : decode cL_lines 289 = .ok (.aload_n 0, 1) := by decide +kernel
theorem dL_lines_290 : decode cL_lines 290 = .ok (.iload_n 2, 1) := by decide +kernel
theorem dL_lines_291 : decode cL_lines 291 = .ok (.iconst (-1), 1) := by decide +kernel
theorem dL_lines_292 : decode cL_lines 292 = .ok (.invokestatic 339, 3) := by decide +kernel
theorem dL_lines_295 : decode cL_lines 295 = .ok (.bipush (-11), 2) := by decide +kernel
theorem dL_lines_297 : decode cL_lines 297 = .ok (.if_icmp .eq 5, 3) := by decide +kernel
theorem dL_lines_300 : decode cL_lines 300 = .ok (.iconst 0, 1) := by decide +kernel
theorem dL_lines_301 : decode cL_lines 301 = .ok (.ireturn, 1) := by decide +kernel
theorem dL_lines_302 : decode cL_lines 302 = .ok (.iconst 0, 1) := by decide +kernel
theorem dL_lines_303 : decode cL_lines 303 = .ok (.istore 9, 2) := by decide +kernel
theorem dL_lines_305 : decode cL_lines 305 = .ok (.iload 9, 2) := by decide +kernel
theorem dL_lines_307 : decode cL_lines 307 = .ok (.iload 5, 2) := by decide +kernel
theorem dL_lines_309 : decode cL_lines 309 = .ok (.if_icmp .ge 83, 3) := by decide +kernel
theorem dL_lines_312 : decode cL_lines 312 = .ok (.aload 4, 2) := by decide +kernel
theorem dL_lines_314 : decode cL_lines 314 = .ok (.iconst 0, 1) := by decide +kernel
theorem dL_lines_315 : decode cL_lines 315 = .ok (.aload 4, 2) := by decide +kernel
theorem dL_lines_317 : decode cL_lines 317 = .ok (.bipush 59, 2) := by decide +kernel
theorem dL_lines_319 : decode cL_lines 319 = .ok (.invokevirtual 219, 3) := by decide +kernel
theorem dL_lines_322 : decode cL_lines 322 = .ok (.invokevirtual 233, 3) := by decide +kernel
theorem dL_lines_325 : decode cL_lines 325 = .ok (.astore 10, 2) := by decide +kernel
theorem dL_lines_327 : decode cL_lines 327 = .ok (.aload 4, 2) := by decide +kernel
theorem dL_lines_329 : decode cL_lines 329 = .ok (.aload 10, 2) := by decide +kernel
theorem dL_lines_331 : decode cL_lines 331 = .ok (.invokevirtual 138, 3) := by decide +kernel
theorem dL_lines_334 : decode cL_lines 334 = .ok (.iconst 1, 1) := by decide +kernel
theorem dL_lines_335 : decode cL_lines 335 = .ok (.iadd, 1) := by decide +kernel
theorem dL_lines_336 : decode cL_lines 336 = .ok (.invokevirtual 230, 3) := by decide +kernel
theorem dL_lines_339 : decode cL_lines 339 = .ok (.astore 4, 2) := by decide +kernel
theorem dL_lines_341 : decode cL_lines 341 = .ok (.aload_n 0, 1) := by decide +kernel
theorem dL_lines_342 : decode cL_lines 342 = .ok (.iload_n 2, 1) := by decide +kernel
theorem dL_lines_343 : decode cL_lines 343 = .ok (.iload 9, 2) := by decide +kernel
theorem dL_lines_345 : decode cL_lines 345 = .ok (.invokestatic 337, 3) := by decide +kernel
theorem dL_lines_348 : decode cL_lines 348 = .ok (.aload 10, 2) := by decide +kernel
theorem dL_lines_350 : decode cL_lines 350 = .ok (.invokevirtual 138, 3) := by decide +kernel
theorem dL_lines_353 : decode cL_lines 353 = .ok (.if_icmp .ne 31, 3) := by decide +kernel
theorem dL_lines_356 : decode cL_lines 356 = .ok (.aload 10, 2) := by decide +kernel
theorem dL_lines_358 : decode cL_lines 358 = .ok (.invokevirtual 138, 3) := by decide +kernel
theorem dL_lines_361 : decode cL_lines 361 = .ok (.aload_n 0, 1) := by decide +kernel
theorem dL_lines_362 : decode cL_lines 362 = .ok (.invokevirtual 307, 3) := by decide +kernel
theorem dL_lines_365 : decode cL_lines 365 = .ok (.if_icmp .gt 19, 3) := by decide +kernel
theorem dL_lines_368 : decode cL_lines 368 = .ok (.aload_n 0, 1) := by decide +kernel
theorem dL_lines_369 : decode cL_lines 369 = .ok (.aload_n 0, 1) := by decide +kernel
theorem dL_lines_370 : decode cL_lines 370 = .ok (.iload_n 2, 1) := by decide +kernel
theorem dL_lines_371 : decode cL_lines 371 = .ok (.iload 9, 2) := by decide +kernel
theorem dL_lines_373 : decode cL_lines 373 = .ok (.invokestatic 339, 3) := by decide +kernel
theorem dL_lines_376 : decode cL_lines 376 = .ok (.aload 10, 2) := by decide +kernel
theorem dL_lines_378 : decode cL_lines 378 = .ok (.invokestatic 287, 3) := by decide +kernel
theorem dL_lines_381 : decode cL_lines 381 = .ok (.ifCond .ne 5, 3) := by decide +kernel
theorem dL_lines_384 : decode cL_lines 384 = .ok (.iconst 0, 1) := by decide +kernel
theorem dL_lines_385 : decode cL_lines 385 = .ok (.ireturn, 1) := by decide +kernel
theorem dL_lines_386 : decode cL_lines 386 = .ok (.iinc 9 1, 3) := by decide +kernel
theorem dL_lines_389 : decode cL_lines 389 = .ok (.goto (-84), 3) := by decide +kernel
theorem dL_lines_392 : decode cL_lines 392 = .ok (.iinc 1 1, 3) := by decide +kernel
theorem dL_lines_395 : decode cL_lines 395 = .ok (.goto (-393), 3) := by decide +kernel
theorem dL_lines_398 : decode cL_lines 398 = .ok (.aload_n 0, 1) := by decide +kernel
theorem dL_lines_399 : decode cL_lines 399 = .ok (.invokevirtual 341, 3) := by decide +kernel
theorem dL_lines_402 : decode cL_lines 402 = .ok (.ifCond .eq 96, 3) := by decide +kernel
theorem dL_lines_405 : decode cL_lines 405 = .ok (.aload_n 0, 1) := by decide +kernel
theorem dL_lines_406 : decode cL_lines 406 = .ok (.bipush 99, 2) := by decide +kernel
theorem dL_lines_408 : decode cL_lines 408 = .ok (.invokestatic 327, 3) := by decide +kernel
theorem dL_lines_411 : decode cL_lines 411 = .ok (.bipush (-13), 2) := by decide +kernel
theorem dL_lines_413 : decode cL_lines 413 = .ok (.if_icmp .ne 85, 3) := by decide +kernel
theorem dL_lines_416 : decode cL_lines 416 = .ok (.aload_n 0, 1) := by decide +kernel
theorem dL_lines_417 : decode cL_lines 417 = .ok (.bipush 99, 2) := by decide +kernel
theorem dL_lines_419 : decode cL_lines 419 = .ok (.invokestatic 332, 3) := by decide +kernel
theorem dL_lines_422 : decode cL_lines 422 = .ok (.bipush (-13), 2) := by decide +kernel
theorem dL_lines_424 : decode cL_lines 424 = .ok (.if_icmp .ne 74, 3) := by decide +kernel
theorem dL_lines_427 : decode cL_lines 427 = .ok (.aload_n 0, 1) := by decide +kernel
theorem dL_lines_428 : decode cL_lines 428 = .ok (.bipush 99, 2) := by decide +kernel
theorem dL_lines_430 : decode cL_lines 430 = .ok (.iconst 0, 1) := by decide +kernel
theorem dL_lines_431 : decode cL_lines 431 = .ok (.invokestatic 337, 3) := by decide +kernel
theorem dL_lines_434 : decode cL_lines 434 = .ok (.bipush (-13), 2) := by decide +kernel
theorem dL_lines_436 : decode cL_lines 436 = .ok (.if_icmp .ne 62, 3) := by decide +kernel
theorem dL_lines_439 : decode cL_lines 439 = .ok (.aload_n 0, 1) := by decide +kernel
theorem dL_lines_440 : decode cL_lines 440 = .ok (.bipush 99, 2) := by decide +kernel
theorem dL_lines_442 : decode cL_lines 442 = .ok (.invokestatic 334, 3) := by decide +kernel
theorem dL_lines_445 : decode cL_lines 445 = .ok (.bipush (-13), 2) := by decide +kernel
theorem dL_lines_447 : decode cL_lines 447 = .ok (.if_icmp .ne 51, 3) := by decide +kernel
theorem dL_lines_450 : decode cL_lines 450 = .ok (.aload_n 0, 1) := by decide +kernel
theorem dL_lines_451 : decode cL_lines 451 = .ok (.bipush 99, 2) := by decide +kernel
theorem dL_lines_453 : decode cL_lines 453 = .ok (.iconst 0, 1) := by decide +kernel
theorem dL_lines_454 : decode cL_lines 454 = .ok (.invokestatic 339, 3) := by decide +kernel
theorem dL_lines_457 : decode cL_lines 457 = .ok (.bipush (-13), 2) := by decide +kernel
theorem dL_lines_459 : decode cL_lines 459 = .ok (.if_icmp .ne 39, 3) := by decide +kernel
theorem dL_lines_462 : decode cL_lines 462 = .ok (.aload_n 0, 1) := by decide +kernel
theorem dL_lines_463 : decode cL_lines 463 = .ok (.bipush 99, 2) := by decide +kernel
theorem dL_lines_465 : decode cL_lines 465 = .ok (.invokestatic 324, 3) := by decide +kernel
theorem dL_lines_468 : decode cL_lines 468 = .ok (.bipush (-13), 2) := by decide +kernel
theorem dL_lines_470 : decode cL_lines 470 = .ok (.if_icmp .ne 28, 3) := by decide +kernel
theorem dL_lines_473 : decode cL_lines 473 = .ok (.aload_n 0, 1) := by decide +kernel
theorem dL_lines_474 : decode cL_lines 474 = .ok (.bipush 99, 2) := by decide +kernel
theorem dL_lines_476 : decode cL_lines 476 = .ok (.invokestatic 321, 3) := by decide +kernel
theorem dL_lines_479 : decode cL_lines 479 = .ok (.bipush (-13), 2) := by decide +kernel
theorem dL_lines_481 : decode cL_lines 481 = .ok (.if_icmp .ne 17, 3) := by decide +kernel
theorem dL_lines_484 : decode cL_lines 484 = .ok (.aload_n 0, 1) := by decide +kernel
theorem dL_lines_485 : decode cL_lines 485 = .ok (.iconst (-1), 1) := by decide +kernel
theorem dL_lines_486 : decode cL_lines 486 = .ok (.invokestatic 329, 3) := by decide +kernel
theorem dL_lines_489 : decode cL_lines 489 = .ok (.bipush (-13), 2) := by decide +kernel
theorem dL_lines_491 : decode cL_lines 491 = .ok (.if_icmp .ne 7, 3) := by decide +kernel
theorem dL_lines_494 : decode cL_lines 494 = .ok (.iconst 1, 1) := by decide +kernel
theorem dL_lines_495 : decode cL_lines 495 = .ok (.goto 4, 3) := by decide +kernel
theorem dL_lines_498 : decode cL_lines 498 = .ok (.iconst 0, 1) := by decide +kernel
theorem dL_lines_499 : decode cL_lines 499 = .ok (.ireturn, 1) := by decide +kernel
theorem dL_issues_0 : decode cL_issues 0 = .ok (.iconst 0, 1) := by decide +kernel
theorem dL_issues_1 : decode cL_issues 1 = .ok (.istore_n 1, 1) := by decide +kernel
theorem dL_issues_2 : decode cL_issues 2 = .ok (.fconst 0, 1) := by decide +kernel
theorem dL_issues_3 : decode cL_issues 3 = .ok (.fstore_n 2, 1) := by decide +kernel
theorem dL_issues_4 : decode cL_issues 4 = .ok (.iconst 0, 1) := by decide +kernel
theorem dL_issues_5 : decode cL_issues 5 = .ok (.istore_n 3, 1) := by decide +kernel
theorem dL_issues_6 : decode cL_issues 6 = .ok (.iload_n 3, 1) := by decide +kernel
theorem dL_issues_7 : decode cL_issues 7 = .ok (.bipush 20, 2) := by decide +kernel
theorem dL_issues_9 : decode cL_issues 9 = .ok (.if_icmp .ge 303, 3) := by decide +kernel
theorem dL_issues_12 : decode cL_issues 12 = .ok (.aload_n 0, 1) := by decide +kernel
theorem dL_issues_13 : decode cL_issues 13 = .ok (.iload_n 3, 1) := by decide +kernel
theorem dL_issues_14 : decode cL_issues 14 = .ok (.invokevirtual 345, 3) := by decide +kernel
theorem dL_issues_17 : decode cL_issues 17 = .ok (.istore 4, 2) := by decide +kernel
theorem dL_issues_19 : decode cL_issues 19 = .ok (.iload 4, 2) := by decide +kernel
theorem dL_issues_21 : decode cL_issues 21 = .ok (.aload_n 0, 1) := by decide +kernel
theorem dL_issues_22 : decode cL_issues 22 = .ok (.iload_n 3, 1) := by decide +kernel
theorem dL_issues_23 : decode cL_issues 23 = .ok (.invokestatic 348, 3) := by decide +kernel
theorem dL_issues_26 : decode cL_issues 26 = .ok (.ifCond .lt 7, 3) := by decide +kernel
theorem dL_issues_29 : decode cL_issues 29 = .ok (.iconst 1, 1) := by decide +kernel
theorem dL_issues_30 : decode cL_issues 30 = .ok (.goto 4, 3) := by decide +kernel
theorem dL_issues_33 : decode cL_issues 33 = .ok (.iconst 0, 1) := by decide +kernel
theorem dL_issues_34 : decode cL_issues 34 = .ok (.if_icmp .ne 57, 3) := by decide +kernel
theorem dL_issues_37 : decode cL_issues 37 = .ok (.iload 4, 2) := by decide +kernel
theorem dL_issues_39 : decode cL_issues 39 = .ok (.aload_n 0, 1) := by decide +kernel
theorem dL_issues_40 : decode cL_issues 40 = .ok (.iload_n 3, 1) := by decide +kernel
theorem dL_issues_41 : decode cL_issues 41 = .ok (.invokestatic 350, 3) := by decide +kernel
theorem dL_issues_44 : decode cL_issues 44 = .ok (.ifCond .lt 7, 3) := by decide +kernel
theorem dL_issues_47 : decode cL_issues 47 = .ok (.iconst 1, 1) := by decide +kernel
theorem dL_issues_48 : decode cL_issues 48 = .ok (.goto 4, 3) := by decide +kernel
theorem dL_issues_51 : decode cL_issues 51 = .ok (.iconst 0, 1) := by decide +kernel
theorem dL_issues_52 : decode cL_issues 52 = .ok (.if_icmp .ne 39, 3) := by decide +kernel
theorem dL_issues_55 : decode cL_issues 55 = .ok (.iload 4, 2) := by decide +kernel
theorem dL_issues_57 : decode cL_issues 57 = .ok (.aload_n 0, 1) := by decide +kernel
theorem dL_issues_58 : decode cL_issues 58 = .ok (.iload_n 3, 1) := by decide +kernel
theorem dL_issues_59 : decode cL_issues 59 = .ok (.invokestatic 352, 3) := by decide +kernel
theorem dL_issues_62 : decode cL_issues 62 = .ok (.ifCond .lt 7, 3) := by decide +kernel
theorem dL_issues_65 : decode cL_issues 65 = .ok (.iconst 1, 1) := by decide +kernel
theorem dL_issues_66 : decode cL_issues 66 = .ok (.goto 4, 3) := by decide +kernel
theorem dL_issues_69 : decode cL_issues 69 = .ok (.iconst 0, 1) := by decide +kernel
theorem dL_issues_70 : decode cL_issues 70 = .ok (.if_icmp .ne 21, 3) := by decide +kernel
theorem dL_issues_73 : decode cL_issues 73 = .ok (.iload 4, 2) := by decide +kernel
theorem dL_issues_75 : decode cL_issues 75 = .ok (.aload_n 0, 1) := by decide +kernel
theorem dL_issues_76 : decode cL_issues 76 = .ok (.iload_n 3, 1) := by decide +kernel
theorem dL_issues_77 : decode cL_issues 77 = .ok (.invokestatic 354, 3) := by decide +kernel
theorem dL_issues_80 : decode cL_issues 80 = .ok (.ifCond .lt 7, 3) := by decide +kernel
theorem dL_issues_83 : decode cL_issues 83 = .ok (.iconst 1, 1) := by decide +kernel
theorem dL_issues_84 : decode cL_issues 84 = .ok (.goto 4, 3) := by decide +kernel
theorem dL_issues_87 : decode cL_issues 87 = .ok (.iconst 0, 1) := by decide +kernel
theorem dL_issues_88 : decode cL_issues 88 = .ok (.if_icmp .eq 5, 3) := by decide +kernel
theorem dL_issues_91 : decode cL_issues 91 = .ok (.iconst 0, 1) := by decide +kernel
theorem dL_issues_92 : decode cL_issues 92 = .ok (.ireturn, 1) := by decide +kernel
theorem dL_issues_93 : decode cL_issues 93 = .ok (.iload 4, 2) := by decide +kernel
theorem dL_issues_95 : decode cL_issues 95 = .ok (.ifCond .eq 211, 3) := by decide +kernel
theorem dL_issues_98 : decode cL_issues 98 = .ok (.aload_n 0, 1) := by decide +kernel
theorem dL_issues_99 : decode cL_issues 99 = .ok (.iload_n 3, 1) := by decide +kernel
theorem dL_issues_100 : decode cL_issues 100 = .ok (.invokevirtual 357, 3) := by decide +kernel
theorem dL_issues_103 : decode cL_issues 103 = .ok (.fstore 5, 2) := by decide +kernel
theorem dL_issues_105 : decode cL_issues 105 = .ok (.iconst 0, 1) := by decide +kernel
theorem dL_issues_106 : decode cL_issues 106 = .ok (.istore 6, 2) := by decide +kernel
theorem dL_issues_108 : decode cL_issues 108 = .ok (.fload 5, 2) := by decide +kernel
theorem dL_issues_110 : decode cL_issues 110 = .ok (.fstore 7, 2) := by decide +kernel
theorem dL_issues_112 : decode cL_issues 112 = .ok (.fload 7, 2) := by decide +kernel
theorem dL_issues_114 : decode cL_issues 114 = .ok (.ldc_w 361, 3) := by decide +kernel
theorem dL_issues_117 : decode cL_issues 117 = .ok (.fcmp .l, 1) := by decide +kernel
theorem dL_issues_118 : decode cL_issues 118 = .ok (.ifCond .lt 17, 3) := by decide +kernel
theorem dL_issues_121 : decode cL_issues 121 = .ok (.iinc 6 1, 3) := by decide +kernel
theorem dL_issues_124 : decode cL_issues 124 = .ok (.fload 7, 2) := by decide +kernel
theorem dL_issues_126 : decode cL_issues 126 = .ok (.ldc_w 362, 3) := by decide +kernel
theorem dL_issues_129 : decode cL_issues 129 = .ok (.fmul, 1) := by decide +kernel
theorem dL_issues_130 : decode cL_issues 130 = .ok (.fstore 7, 2) := by decide +kernel
theorem dL_issues_132 : decode cL_issues 132 = .ok (.goto (-20), 3) := by decide +kernel
theorem dL_issues_135 : decode cL_issues 135 = .ok (.iconst 0, 1) := by decide +kernel
theorem dL_issues_136 : decode cL_issues 136 = .ok (.istore 7, 2) := by decide +kernel
theorem dL_issues_138 : decode cL_issues 138 = .ok (.iconst 0, 1) := by decide +kernel
theorem dL_issues_139 : decode cL_issues 139 = .ok (.istore 8, 2) := by decide +kernel
theorem dL_issues_141 : decode cL_issues 141 = .ok (.iload 8, 2) := by decide +kernel
theorem dL_issues_143 : decode cL_issues 143 = .ok (.bipush 9, 2) := by decide +kernel
theorem dL_issues_145 : decode cL_issues 145 = .ok (.if_icmp .ge 64, 3) := by decide +kernel
theorem dL_issues_148 : decode cL_issues 148 = .ok (.iload 7, 2) := by decide +kernel
theorem dL_issues_150 : decode cL_issues 150 = .ok (.aload_n 0, 1) := by decide +kernel
theorem dL_issues_151 : decode cL_issues 151 = .ok (.iload_n 3, 1) := by decide +kernel
theorem dL_issues_152 : decode cL_issues 152 = .ok (.iload 8, 2) := by decide +kernel
theorem dL_issues_154 : decode cL_issues 154 = .ok (.invokestatic 363, 3) := by decide +kernel
theorem dL_issues_157 : decode cL_issues 157 = .ok (.ifCond .lt 7, 3) := by decide +kernel
theorem dL_issues_160 : decode cL_issues 160 = .ok (.iconst 1, 1) := by decide +kernel
theorem dL_issues_161 : decode cL_issues 161 = .ok (.goto 4, 3) := by decide +kernel
theorem dL_issues_164 : decode cL_issues 164 = .ok (.iconst 0, 1) := by decide +kernel
theorem dL_issues_165 : decode cL_issues 165 = .ok (.iadd, 1) := by decide +kernel
theorem dL_issues_166 : decode cL_issues 166 = .ok (.istore 7, 2) := by decide +kernel
theorem dL_issues_168 : decode cL_issues 168 = .ok (.aload_n 0, 1) := by decide +kernel
theorem dL_issues_169 : decode cL_issues 169 = .ok (.iload_n 3, 1) := by decide +kernel
theorem dL_issues_170 : decode cL_issues 170 = .ok (.iload 8, 2) := by decide +kernel
theorem dL_issues_172 : decode cL_issues 172 = .ok (.invokestatic 363, 3) := by decide +kernel
theorem dL_issues_175 : decode cL_issues 175 = .ok (.ifCond .lt 7, 3) := by decide +kernel
theorem dL_issues_178 : decode cL_issues 178 = .ok (.iconst 1, 1) := by decide +kernel
theorem dL_issues_179 : decode cL_issues 179 = .ok (.goto 4, 3) := by decide +kernel
theorem dL_issues_182 : decode cL_issues 182 = .ok (.iconst 0, 1) := by decide +kernel
theorem dL_issues_183 : decode cL_issues 183 = .ok (.aload_n 0, 1) := by decide +kernel
theorem dL_issues_184 : decode cL_issues 184 = .ok (.iload_n 3, 1) := by decide +kernel
theorem dL_issues_185 : decode cL_issues 185 = .ok (.iload 8, 2) := by decide +kernel
theorem dL_issues_187 : decode cL_issues 187 = .ok (.invokestatic 365, 3) := by decide +kernel
theorem dL_issues_190 : decode cL_issues 190 = .ok (.ifCond .lt 7, 3) := by decide +kernel
theorem dL_issues_193 : decode cL_issues 193 = .ok (.iconst 1, 1) := by decide +kernel
theorem dL_issues_194 : decode cL_issues 194 = .ok (.goto 4, 3) := by decide +kernel
theorem dL_issues_197 : decode cL_issues 197 = .ok (.iconst 0, 1) := by decide +kernel
theorem dL_issues_198 : decode cL_issues 198 = .ok (.if_icmp .eq 5, 3) := by decide +kernel
theorem dL_issues_201 : decode cL_issues 201 = .ok (.iconst 0, 1) := by decide +kernel
theorem dL_issues_202 : decode cL_issues 202 = .ok (.ireturn, 1) := by decide +kernel
theorem dL_issues_203 : decode cL_issues 203 = .ok (.iinc 8 1, 3) := by decide +kernel
theorem dL_issues_206 : decode cL_issues 206 = .ok (.goto (-65), 3) := by decide +kernel
theorem dL_issues_209 : decode cL_issues 209 = .ok (.aload_n 0, 1) := by decide +kernel
theorem dL_issues_210 : decode cL_issues 210 = .ok (.iload_n 3, 1) := by decide +kernel
theorem dL_issues_211 : decode cL_issues 211 = .ok (.invokestatic 367, 3) := by decide +kernel
theorem dL_issues_214 : decode cL_issues 214 = .ok (.iload 6, 2) := by decide +kernel
theorem dL_issues_216 : decode cL_issues 216 = .ok (.if_icmp .ne 42, 3) := by decide +kernel
theorem dL_issues_219 : decode cL_issues 219 = .ok (.aload_n 0, 1) := by decide +kernel
theorem dL_issues_220 : decode cL_issues 220 = .ok (.iload_n 3, 1) := by decide +kernel
theorem dL_issues_221 : decode cL_issues 221 = .ok (.invokestatic 352, 3) := by decide +kernel
theorem dL_issues_224 : decode cL_issues 224 = .ok (.fload 5, 2) := by decide +kernel
theorem dL_issues_226 : decode cL_issues 226 = .ok (.ldc_w 361, 3) := by decide +kernel
theorem dL_issues_229 : decode cL_issues 229 = .ok (.fcmp .l, 1) := by decide +kernel
theorem dL_issues_230 : decode cL_issues 230 = .ok (.ifCond .lt 7, 3) := by decide +kernel
theorem dL_issues_233 : decode cL_issues 233 = .ok (.iconst 1, 1) := by decide +kernel
theorem dL_issues_234 : decode cL_issues 234 = .ok (.goto 4, 3) := by decide +kernel
theorem dL_issues_237 : decode cL_issues 237 = .ok (.iconst 0, 1) := by decide +kernel
theorem dL_issues_238 : decode cL_issues 238 = .ok (.if_icmp .ne 20, 3) := by decide +kernel
theorem dL_issues_241 : decode cL_issues 241 = .ok (.aload_n 0, 1) := by decide +kernel
theorem dL_issues_242 : decode cL_issues 242 = .ok (.iload_n 3, 1) := by decide +kernel
theorem dL_issues_243 : decode cL_issues 243 = .ok (.invokestatic 354, 3) := by decide +kernel
theorem dL_issues_246 : decode cL_issues 246 = .ok (.fload 5, 2) := by decide +kernel
theorem dL_issues_248 : decode cL_issues 248 = .ok (.invokestatic 370, 3) := by decide +kernel
theorem dL_issues_251 : decode cL_issues 251 = .ok (.if_icmp .ne 7, 3) := by decide +kernel
theorem dL_issues_254 : decode cL_issues 254 = .ok (.iconst 1, 1) := by decide +kernel
theorem dL_issues_255 : decode cL_issues 255 = .ok (.goto 4, 3) := by decide +kernel
theorem dL_issues_258 : decode cL_issues 258 = .ok (.iconst 0, 1) := by decide +kernel
theorem dL_issues_259 : decode cL_issues 259 = .ok (.istore 8, 2) := by decide +kernel
theorem dL_issues_261 : decode cL_issues 261 = .ok (.iload 8, 2) := by decide +kernel
theorem dL_issues_263 : decode cL_issues 263 = .ok (.ifCond .eq 33, 3) := by decide +kernel
theorem dL_issues_266 : decode cL_issues 266 = .ok (.aload_n 0, 1) := by decide +kernel
theorem dL_issues_267 : decode cL_issues 267 = .ok (.iload_n 3, 1) := by decide +kernel
theorem dL_issues_268 : decode cL_issues 268 = .ok (.invokestatic 348, 3) := by decide +kernel
theorem dL_issues_271 : decode cL_issues 271 = .ok (.iload 7, 2) := by decide +kernel
theorem dL_issues_273 : decode cL_issues 273 = .ok (.if_icmp .ne 23, 3) := by decide +kernel
theorem dL_issues_276 : decode cL_issues 276 = .ok (.aload_n 0, 1) := by decide +kernel
theorem dL_issues_277 : decode cL_issues 277 = .ok (.iload_n 3, 1) := by decide +kernel
theorem dL_issues_278 : decode cL_issues 278 = .ok (.invokevirtual 376, 3) := by decide +kernel
theorem dL_issues_281 : decode cL_issues 281 = .ok (.fconst 1, 1) := by decide +kernel
theorem dL_issues_282 : decode cL_issues 282 = .ok (.fcmp .l, 1) := by decide +kernel
theorem dL_issues_283 : decode cL_issues 283 = .ok (.ifCond .gt 13, 3) := by decide +kernel
theorem dL_issues_286 : decode cL_issues 286 = .ok (.aload_n 0, 1) := by decide +kernel
theorem dL_issues_287 : decode cL_issues 287 = .ok (.iload_n 3, 1) := by decide +kernel
theorem dL_issues_288 : decode cL_issues 288 = .ok (.invokestatic 350, 3) := by decide +kernel
theorem dL_issues_291 : decode cL_issues 291 = .ok (.bipush 80, 2) := by decide +kernel
theorem dL_issues_293 : decode cL_issues 293 = .ok (.if_icmp .le 5, 3) := by decide +kernel
theorem dL_issues_296 : decode cL_issues 296 = .ok (.iconst 0, 1) := by decide +kernel
theorem dL_issues_297 : decode cL_issues 297 = .ok (.ireturn, 1) := by decide +kernel
theorem dL_issues_298 : decode cL_issues 298 = .ok (.fload_n 2, 1) := by decide +kernel
theorem dL_issues_299 : decode cL_issues 299 = .ok (.fload 5, 2) := by decide +kernel
theorem dL_issues_301 : decode cL_issues 301 = .ok (.fadd, 1) := by decide +kernel
theorem dL_issues_302 : decode cL_issues 302 = .ok (.fstore_n 2, 1) := by decide +kernel
theorem dL_issues_303 : decode cL_issues 303 = .ok (.iinc 1 1, 3) := by decide +kernel
theorem dL_issues_306 : decode cL_issues 306 = .ok (.iinc 3 1, 3) := by decide +kernel
theorem dL_issues_309 : decode cL_issues 309 = .ok (.goto (-303), 3) := by decide +kernel
theorem dL_issues_312 : decode cL_issues 312 = .ok (.iload_n 1, 1) := by decide +kernel
theorem dL_issues_313 : decode cL_issues 313 = .ok (.ifCond .eq 15, 3) := by decide +kernel
theorem dL_issues_316 : decode cL_issues 316 = .ok (.aload_n 0, 1) := by decide +kernel
theorem dL_issues_317 : decode cL_issues 317 = .ok (.invokevirtual 379, 3) := by decide +kernel
theorem dL_issues_320 : decode cL_issues 320 = .ok (.fload_n 2, 1) := by decide +kernel
theorem dL_issues_321 : decode cL_issues 321 = .ok (.iload_n 1, 1) := by decide +kernel
theorem dL_issues_322 : decode cL_issues 322 = .ok (.i2f, 1) := by decide +kernel
theorem dL_issues_323 : decode cL_issues 323 = .ok (.fdiv, 1) := by decide +kernel
theorem dL_issues_324 : decode cL_issues 324 = .ok (.fcmp .l, 1) := by decide +kernel
theorem dL_issues_325 : decode cL_issues 325 = .ok (.ifCond .ne 7, 3) := by decide +kernel
theorem dL_issues_328 : decode cL_issues 328 = .ok (.iconst 1, 1) := by decide +kernel
theorem dL_issues_329 : decode cL_issues 329 = .ok (.goto 4, 3) := by decide +kernel
theorem dL_issues_332 : decode cL_issues 332 = .ok (.iconst 0, 1) := by decide +kernel
theorem dL_issues_333 : decode cL_issues 333 = .ok (.istore_n 3, 1) := by decide +kernel
theorem dL_issues_334 : decode cL_issues 334 = .ok (.iload_n 3, 1) := by decide +kernel
theorem dL_issues_335 : decode cL_issues 335 = .ok (.ifCond .eq 98, 3) := by decide +kernel
theorem dL_issues_338 : decode cL_issues 338 = .ok (.aload_n 0, 1) := by decide +kernel
theorem dL_issues_339 : decode cL_issues 339 = .ok (.invokevirtual 383, 3) := by decide +kernel
theorem dL_issues_342 : decode cL_issues 342 = .ok (.iload_n 1, 1) := by decide +kernel
theorem dL_issues_343 : decode cL_issues 343 = .ok (.if_icmp .ne 90, 3) := by decide +kernel
theorem dL_issues_346 : decode cL_issues 346 = .ok (.iload_n 1, 1) := by decide +kernel
theorem dL_issues_347 : decode cL_issues 347 = .ok (.iconst 4, 1) := by decide +kernel
theorem dL_issues_348 : decode cL_issues 348 = .ok (.if_icmp .gt 85, 3) := by decide +kernel
theorem dL_issues_351 : decode cL_issues 351 = .ok (.aload_n 0, 1) := by decide +kernel
theorem dL_issues_352 : decode cL_issues 352 = .ok (.bipush 99, 2) := by decide +kernel
theorem dL_issues_354 : decode cL_issues 354 = .ok (.invokestatic 348, 3) := by decide +kernel
theorem dL_issues_357 : decode cL_issues 357 = .ok (.bipush (-13), 2) := by decide +kernel
theorem dL_issues_359 : decode cL_issues 359 = .ok (.if_icmp .ne 74, 3) := by decide +kernel
theorem dL_issues_362 : decode cL_issues 362 = .ok (.aload_n 0, 1) := by decide +kernel
theorem dL_issues_363 : decode cL_issues 363 = .ok (.iconst (-1), 1) := by decide +kernel
theorem dL_issues_364 : decode cL_issues 364 = .ok (.invokestatic 350, 3) := by decide +kernel
theorem dL_issues_367 : decode cL_issues 367 = .ok (.bipush (-13), 2) := by decide +kernel
theorem dL_issues_369 : decode cL_issues 369 = .ok (.if_icmp .ne 64, 3) := by decide +kernel
theorem dL_issues_372 : decode cL_issues 372 = .ok (.aload_n 0, 1) := by decide +kernel
theorem dL_issues_373 : decode cL_issues 373 = .ok (.bipush 99, 2) := by decide +kernel
theorem dL_issues_375 : decode cL_issues 375 = .ok (.iconst 0, 1) := by decide +kernel
theorem dL_issues_376 : decode cL_issues 376 = .ok (.invokestatic 363, 3) := by decide +kernel
theorem dL_issues_379 : decode cL_issues 379 = .ok (.bipush (-13), 2) := by decide +kernel
theorem dL_issues_381 : decode cL_issues 381 = .ok (.if_icmp .ne 52, 3) := by decide +kernel
theorem dL_issues_384 : decode cL_issues 384 = .ok (.aload_n 0, 1) := by decide +kernel
theorem dL_issues_385 : decode cL_issues 385 = .ok (.bipush 99, 2) := by decide +kernel
theorem dL_issues_387 : decode cL_issues 387 = .ok (.iconst 0, 1) := by decide +kernel
theorem dL_issues_388 : decode cL_issues 388 = .ok (.invokestatic 365, 3) := by decide +kernel
theorem dL_issues_391 : decode cL_issues 391 = .ok (.bipush (-13), 2) := by decide +kernel
theorem dL_issues_393 : decode cL_issues 393 = .ok (.if_icmp .ne 40, 3) := by decide +kernel
theorem dL_issues_396 : decode cL_issues 396 = .ok (.aload_n 0, 1) := by decide +kernel
