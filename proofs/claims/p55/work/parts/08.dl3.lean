theorem dL_articles_166 : decode cL_articles 166 = .ok (.aaload, 1) := by decide +kernel
theorem dL_articles_167 : decode cL_articles 167 = .ok (.invokevirtual 138, 3) := by decide +kernel
theorem dL_articles_170 : decode cL_articles 170 = .ok (.if_icmp .ne 16, 3) := by decide +kernel
theorem dL_articles_173 : decode cL_articles 173 = .ok (.aload_n 0, 1) := by decide +kernel
theorem dL_articles_174 : decode cL_articles 174 = .ok (.iload 5, 2) := by decide +kernel
theorem dL_articles_176 : decode cL_articles 176 = .ok (.iload 8, 2) := by decide +kernel
theorem dL_articles_178 : decode cL_articles 178 = .ok (.invokestatic 280, 3) := by decide +kernel
theorem dL_articles_181 : decode cL_articles 181 = .ok (.iload 9, 2) := by decide +kernel
theorem dL_articles_183 : decode cL_articles 183 = .ok (.if_icmp .eq 5, 3) := by decide +kernel
theorem dL_articles_186 : decode cL_articles 186 = .ok (.iconst 0, 1) := by decide +kernel
theorem dL_articles_187 : decode cL_articles 187 = .ok (.ireturn, 1) := by decide +kernel
theorem dL_articles_188 : decode cL_articles 188 = .ok (.new 162, 3) := by decide +kernel
theorem dL_articles_191 : decode cL_articles 191 = .ok (.dup, 1) := by decide +kernel
theorem dL_articles_192 : decode cL_articles 192 = .ok (.invokespecial 164, 3) := by decide +kernel
theorem dL_articles_195 : decode cL_articles 195 = .ok (.aload 7, 2) := by decide +kernel
theorem dL_articles_197 : decode cL_articles 197 = .ok (.invokevirtual 165, 3) := by decide +kernel
theorem dL_articles_200 : decode cL_articles 200 = .ok (.iload 8, 2) := by decide +kernel
theorem dL_articles_202 : decode cL_articles 202 = .ok (.ifCond .ne 8, 3) := by decide +kernel
theorem dL_articles_205 : decode cL_articles 205 = .ok (.ldc 160, 2) := by decide +kernel
theorem dL_articles_207 : decode cL_articles 207 = .ok (.goto 5, 3) := by decide +kernel
theorem dL_articles_210 : decode cL_articles 210 = .ok (.ldc 182, 2) := by decide +kernel
theorem dL_articles_212 : decode cL_articles 212 = .ok (.invokevirtual 165, 3) := by decide +kernel
theorem dL_articles_215 : decode cL_articles 215 = .ok (.aload 6, 2) := by decide +kernel
theorem dL_articles_217 : decode cL_articles 217 = .ok (.iload 8, 2) := by decide +kernel
theorem dL_articles_219 : decode cL_articles 219 = .ok (.aaload, 1) := by decide +kernel
theorem dL_articles_220 : decode cL_articles 220 = .ok (.invokevirtual 165, 3) := by decide +kernel
theorem dL_articles_223 : decode cL_articles 223 = .ok (.invokevirtual 174, 3) := by decide +kernel
theorem dL_articles_226 : decode cL_articles 226 = .ok (.astore 7, 2) := by decide +kernel
theorem dL_articles_228 : decode cL_articles 228 = .ok (.iload_n 3, 1) := by decide +kernel
theorem dL_articles_229 : decode cL_articles 229 = .ok (.aload 6, 2) := by decide +kernel
theorem dL_articles_231 : decode cL_articles 231 = .ok (.iload 8, 2) := by decide +kernel
theorem dL_articles_233 : decode cL_articles 233 = .ok (.aaload, 1) := by decide +kernel
theorem dL_articles_234 : decode cL_articles 234 = .ok (.invokevirtual 138, 3) := by decide +kernel
theorem dL_articles_237 : decode cL_articles 237 = .ok (.iadd, 1) := by decide +kernel
theorem dL_articles_238 : decode cL_articles 238 = .ok (.istore_n 3, 1) := by decide +kernel
theorem dL_articles_239 : decode cL_articles 239 = .ok (.iinc 2 1, 3) := by decide +kernel
theorem dL_articles_242 : decode cL_articles 242 = .ok (.iinc 8 1, 3) := by decide +kernel
theorem dL_articles_245 : decode cL_articles 245 = .ok (.goto (-170), 3) := by decide +kernel
theorem dL_articles_248 : decode cL_articles 248 = .ok (.aload_n 0, 1) := by decide +kernel
theorem dL_articles_249 : decode cL_articles 249 = .ok (.iload 4, 2) := by decide +kernel
theorem dL_articles_251 : decode cL_articles 251 = .ok (.invokestatic 282, 3) := by decide +kernel
theorem dL_articles_254 : decode cL_articles 254 = .ok (.istore 8, 2) := by decide +kernel
theorem dL_articles_256 : decode cL_articles 256 = .ok (.iload 4, 2) := by decide +kernel
theorem dL_articles_258 : decode cL_articles 258 = .ok (.ifCond .ne 7, 3) := by decide +kernel
theorem dL_articles_261 : decode cL_articles 261 = .ok (.iconst (-1), 1) := by decide +kernel
theorem dL_articles_262 : decode cL_articles 262 = .ok (.goto 11, 3) := by decide +kernel
theorem dL_articles_265 : decode cL_articles 265 = .ok (.aload_n 0, 1) := by decide +kernel
theorem dL_articles_266 : decode cL_articles 266 = .ok (.iload 4, 2) := by decide +kernel
theorem dL_articles_268 : decode cL_articles 268 = .ok (.iconst 1, 1) := by decide +kernel
theorem dL_articles_269 : decode cL_articles 269 = .ok (.isub, 1) := by decide +kernel
theorem dL_articles_270 : decode cL_articles 270 = .ok (.invokestatic 282, 3) := by decide +kernel
theorem dL_articles_273 : decode cL_articles 273 = .ok (.istore 9, 2) := by decide +kernel
theorem dL_articles_275 : decode cL_articles 275 = .ok (.iload 4, 2) := by decide +kernel
theorem dL_articles_277 : decode cL_articles 277 = .ok (.ifCond .ne 7, 3) := by decide +kernel
theorem dL_articles_280 : decode cL_articles 280 = .ok (.iconst 1, 1) := by decide +kernel
theorem dL_articles_281 : decode cL_articles 281 = .ok (.goto 16, 3) := by decide +kernel
theorem dL_articles_284 : decode cL_articles 284 = .ok (.aload_n 0, 1) := by decide +kernel
theorem dL_articles_285 : decode cL_articles 285 = .ok (.iload 9, 2) := by decide +kernel
theorem dL_articles_287 : decode cL_articles 287 = .ok (.invokestatic 285, 3) := by decide +kernel
theorem dL_articles_290 : decode cL_articles 290 = .ok (.aload_n 0, 1) := by decide +kernel
theorem dL_articles_291 : decode cL_articles 291 = .ok (.iload 8, 2) := by decide +kernel
theorem dL_articles_293 : decode cL_articles 293 = .ok (.invokestatic 285, 3) := by decide +kernel
theorem dL_articles_296 : decode cL_articles 296 = .ok (.isub, 1) := by decide +kernel
theorem dL_articles_297 : decode cL_articles 297 = .ok (.istore 10, 2) := by decide +kernel
theorem dL_articles_299 : decode cL_articles 299 = .ok (.aload_n 0, 1) := by decide +kernel
theorem dL_articles_300 : decode cL_articles 300 = .ok (.aload_n 0, 1) := by decide +kernel
theorem dL_articles_301 : decode cL_articles 301 = .ok (.iload 5, 2) := by decide +kernel
theorem dL_articles_303 : decode cL_articles 303 = .ok (.invokestatic 215, 3) := by decide +kernel
theorem dL_articles_306 : decode cL_articles 306 = .ok (.aload 7, 2) := by decide +kernel
theorem dL_articles_308 : decode cL_articles 308 = .ok (.invokestatic 287, 3) := by decide +kernel
theorem dL_articles_311 : decode cL_articles 311 = .ok (.ifCond .eq 83, 3) := by decide +kernel
theorem dL_articles_314 : decode cL_articles 314 = .ok (.iload 8, 2) := by decide +kernel
theorem dL_articles_316 : decode cL_articles 316 = .ok (.ifCond .lt 78, 3) := by decide +kernel
theorem dL_articles_319 : decode cL_articles 319 = .ok (.iload 10, 2) := by decide +kernel
theorem dL_articles_321 : decode cL_articles 321 = .ok (.ifCond .lt 73, 3) := by decide +kernel
theorem dL_articles_324 : decode cL_articles 324 = .ok (.iload 10, 2) := by decide +kernel
theorem dL_articles_326 : decode cL_articles 326 = .ok (.ifCond .ne 10, 3) := by decide +kernel
theorem dL_articles_329 : decode cL_articles 329 = .ok (.iload 9, 2) := by decide +kernel
theorem dL_articles_331 : decode cL_articles 331 = .ok (.iload 8, 2) := by decide +kernel
theorem dL_articles_333 : decode cL_articles 333 = .ok (.if_icmp .gt 61, 3) := by decide +kernel
theorem dL_articles_336 : decode cL_articles 336 = .ok (.iload 4, 2) := by decide +kernel
theorem dL_articles_338 : decode cL_articles 338 = .ok (.ifCond .le 16, 3) := by decide +kernel
theorem dL_articles_341 : decode cL_articles 341 = .ok (.aload_n 0, 1) := by decide +kernel
theorem dL_articles_342 : decode cL_articles 342 = .ok (.iload 4, 2) := by decide +kernel
theorem dL_articles_344 : decode cL_articles 344 = .ok (.iconst 1, 1) := by decide +kernel
theorem dL_articles_345 : decode cL_articles 345 = .ok (.isub, 1) := by decide +kernel
theorem dL_articles_346 : decode cL_articles 346 = .ok (.invokestatic 261, 3) := by decide +kernel
theorem dL_articles_349 : decode cL_articles 349 = .ok (.iload 5, 2) := by decide +kernel
theorem dL_articles_351 : decode cL_articles 351 = .ok (.if_icmp .ge 43, 3) := by decide +kernel
theorem dL_articles_354 : decode cL_articles 354 = .ok (.aload_n 0, 1) := by decide +kernel
theorem dL_articles_355 : decode cL_articles 355 = .ok (.iload 5, 2) := by decide +kernel
theorem dL_articles_357 : decode cL_articles 357 = .ok (.aload 6, 2) := by decide +kernel
theorem dL_articles_359 : decode cL_articles 359 = .ok (.arraylength, 1) := by decide +kernel
theorem dL_articles_360 : decode cL_articles 360 = .ok (.invokestatic 278, 3) := by decide +kernel
theorem dL_articles_363 : decode cL_articles 363 = .ok (.bipush (-11), 2) := by decide +kernel
theorem dL_articles_365 : decode cL_articles 365 = .ok (.if_icmp .ne 29, 3) := by decide +kernel
theorem dL_articles_368 : decode cL_articles 368 = .ok (.aload_n 0, 1) := by decide +kernel
theorem dL_articles_369 : decode cL_articles 369 = .ok (.iload 5, 2) := by decide +kernel
theorem dL_articles_371 : decode cL_articles 371 = .ok (.iconst (-1), 1) := by decide +kernel
theorem dL_articles_372 : decode cL_articles 372 = .ok (.invokestatic 280, 3) := by decide +kernel
theorem dL_articles_375 : decode cL_articles 375 = .ok (.bipush (-11), 2) := by decide +kernel
theorem dL_articles_377 : decode cL_articles 377 = .ok (.if_icmp .ne 17, 3) := by decide +kernel
theorem dL_articles_380 : decode cL_articles 380 = .ok (.aload_n 0, 1) := by decide +kernel
theorem dL_articles_381 : decode cL_articles 381 = .ok (.iload 5, 2) := by decide +kernel
theorem dL_articles_383 : decode cL_articles 383 = .ok (.bipush 99, 2) := by decide +kernel
theorem dL_articles_385 : decode cL_articles 385 = .ok (.iconst 2, 1) := by decide +kernel
theorem dL_articles_386 : decode cL_articles 386 = .ok (.invokestatic 275, 3) := by decide +kernel
theorem dL_articles_389 : decode cL_articles 389 = .ok (.bipush (-11), 2) := by decide +kernel
theorem dL_articles_391 : decode cL_articles 391 = .ok (.if_icmp .eq 5, 3) := by decide +kernel
theorem dL_articles_394 : decode cL_articles 394 = .ok (.iconst 0, 1) := by decide +kernel
theorem dL_articles_395 : decode cL_articles 395 = .ok (.ireturn, 1) := by decide +kernel
theorem dL_articles_396 : decode cL_articles 396 = .ok (.iinc 4 1, 3) := by decide +kernel
theorem dL_articles_399 : decode cL_articles 399 = .ok (.goto (-387), 3) := by decide +kernel
theorem dL_articles_402 : decode cL_articles 402 = .ok (.aload_n 0, 1) := by decide +kernel
theorem dL_articles_403 : decode cL_articles 403 = .ok (.invokevirtual 291, 3) := by decide +kernel
theorem dL_articles_406 : decode cL_articles 406 = .ok (.iload_n 3, 1) := by decide +kernel
theorem dL_articles_407 : decode cL_articles 407 = .ok (.i2d, 1) := by decide +kernel
theorem dL_articles_408 : decode cL_articles 408 = .ok (.iload_n 2, 1) := by decide +kernel
theorem dL_articles_409 : decode cL_articles 409 = .ok (.i2d, 1) := by decide +kernel
theorem dL_articles_410 : decode cL_articles 410 = .ok (.ddiv, 1) := by decide +kernel
theorem dL_articles_411 : decode cL_articles 411 = .ok (.dcmp .l, 1) := by decide +kernel
theorem dL_articles_412 : decode cL_articles 412 = .ok (.ifCond .ne 106, 3) := by decide +kernel
theorem dL_articles_415 : decode cL_articles 415 = .ok (.aload_n 0, 1) := by decide +kernel
theorem dL_articles_416 : decode cL_articles 416 = .ok (.iload_n 1, 1) := by decide +kernel
theorem dL_articles_417 : decode cL_articles 417 = .ok (.invokestatic 261, 3) := by decide +kernel
theorem dL_articles_420 : decode cL_articles 420 = .ok (.bipush (-11), 2) := by decide +kernel
theorem dL_articles_422 : decode cL_articles 422 = .ok (.if_icmp .ne 96, 3) := by decide +kernel
theorem dL_articles_425 : decode cL_articles 425 = .ok (.aload_n 0, 1) := by decide +kernel
theorem dL_articles_426 : decode cL_articles 426 = .ok (.iload_n 1, 1) := by decide +kernel
theorem dL_articles_427 : decode cL_articles 427 = .ok (.invokestatic 282, 3) := by decide +kernel
theorem dL_articles_430 : decode cL_articles 430 = .ok (.bipush (-11), 2) := by decide +kernel
theorem dL_articles_432 : decode cL_articles 432 = .ok (.if_icmp .ne 86, 3) := by decide +kernel
theorem dL_articles_435 : decode cL_articles 435 = .ok (.aload_n 0, 1) := by decide +kernel
theorem dL_articles_436 : decode cL_articles 436 = .ok (.iconst (-1), 1) := by decide +kernel
theorem dL_articles_437 : decode cL_articles 437 = .ok (.invokestatic 282, 3) := by decide +kernel
theorem dL_articles_440 : decode cL_articles 440 = .ok (.bipush (-11), 2) := by decide +kernel
theorem dL_articles_442 : decode cL_articles 442 = .ok (.if_icmp .ne 76, 3) := by decide +kernel
theorem dL_articles_445 : decode cL_articles 445 = .ok (.aload_n 0, 1) := by decide +kernel
theorem dL_articles_446 : decode cL_articles 446 = .ok (.bipush 99, 2) := by decide +kernel
theorem dL_articles_448 : decode cL_articles 448 = .ok (.invokestatic 285, 3) := by decide +kernel
theorem dL_articles_451 : decode cL_articles 451 = .ok (.bipush (-13), 2) := by decide +kernel
theorem dL_articles_453 : decode cL_articles 453 = .ok (.if_icmp .ne 65, 3) := by decide +kernel
theorem dL_articles_456 : decode cL_articles 456 = .ok (.aload_n 0, 1) := by decide +kernel
theorem dL_articles_457 : decode cL_articles 457 = .ok (.bipush 99, 2) := by decide +kernel
theorem dL_articles_459 : decode cL_articles 459 = .ok (.invokestatic 295, 3) := by decide +kernel
theorem dL_articles_462 : decode cL_articles 462 = .ok (.bipush (-13), 2) := by decide +kernel
theorem dL_articles_464 : decode cL_articles 464 = .ok (.if_icmp .ne 54, 3) := by decide +kernel
theorem dL_articles_467 : decode cL_articles 467 = .ok (.aload_n 0, 1) := by decide +kernel
theorem dL_articles_468 : decode cL_articles 468 = .ok (.bipush 99, 2) := by decide +kernel
theorem dL_articles_470 : decode cL_articles 470 = .ok (.iconst 0, 1) := by decide +kernel
theorem dL_articles_471 : decode cL_articles 471 = .ok (.invokestatic 278, 3) := by decide +kernel
theorem dL_articles_474 : decode cL_articles 474 = .ok (.bipush (-13), 2) := by decide +kernel
theorem dL_articles_476 : decode cL_articles 476 = .ok (.if_icmp .ne 42, 3) := by decide +kernel
theorem dL_articles_479 : decode cL_articles 479 = .ok (.aload_n 0, 1) := by decide +kernel
theorem dL_articles_480 : decode cL_articles 480 = .ok (.iconst (-1), 1) := by decide +kernel
theorem dL_articles_481 : decode cL_articles 481 = .ok (.iconst 0, 1) := by decide +kernel
theorem dL_articles_482 : decode cL_articles 482 = .ok (.invokestatic 280, 3) := by decide +kernel
theorem dL_articles_485 : decode cL_articles 485 = .ok (.bipush (-13), 2) := by decide +kernel
theorem dL_articles_487 : decode cL_articles 487 = .ok (.if_icmp .ne 31, 3) := by decide +kernel
theorem dL_articles_490 : decode cL_articles 490 = .ok (.aload_n 0, 1) := by decide +kernel
theorem dL_articles_491 : decode cL_articles 491 = .ok (.bipush 99, 2) := by decide +kernel
theorem dL_articles_493 : decode cL_articles 493 = .ok (.iconst 0, 1) := by decide +kernel
theorem dL_articles_494 : decode cL_articles 494 = .ok (.iconst 2, 1) := by decide +kernel
theorem dL_articles_495 : decode cL_articles 495 = .ok (.invokestatic 275, 3) := by decide +kernel
theorem dL_articles_498 : decode cL_articles 498 = .ok (.bipush (-13), 2) := by decide +kernel
theorem dL_articles_500 : decode cL_articles 500 = .ok (.if_icmp .ne 18, 3) := by decide +kernel
theorem dL_articles_503 : decode cL_articles 503 = .ok (.aload_n 0, 1) := by decide +kernel
theorem dL_articles_504 : decode cL_articles 504 = .ok (.bipush 99, 2) := by decide +kernel
theorem dL_articles_506 : decode cL_articles 506 = .ok (.invokestatic 215, 3) := by decide +kernel
theorem dL_articles_509 : decode cL_articles 509 = .ok (.bipush (-13), 2) := by decide +kernel
theorem dL_articles_511 : decode cL_articles 511 = .ok (.if_icmp .ne 7, 3) := by decide +kernel
theorem dL_articles_514 : decode cL_articles 514 = .ok (.iconst 1, 1) := by decide +kernel
theorem dL_articles_515 : decode cL_articles 515 = .ok (.goto 4, 3) := by decide +kernel
theorem dL_articles_518 : decode cL_articles 518 = .ok (.iconst 0, 1) := by decide +kernel
theorem dL_articles_519 : decode cL_articles 519 = .ok (.ireturn, 1) := by decide +kernel
theorem dL_leastOf_0 : decode cL_leastOf 0 = .ok (.ldc_w 297, 3) := by decide +kernel
theorem dL_leastOf_3 : decode cL_leastOf 3 = .ok (.istore_n 3, 1) := by decide +kernel
theorem dL_leastOf_4 : decode cL_leastOf 4 = .ok (.iconst (-1), 1) := by decide +kernel
theorem dL_leastOf_5 : decode cL_leastOf 5 = .ok (.istore 4, 2) := by decide +kernel
theorem dL_leastOf_7 : decode cL_leastOf 7 = .ok (.iload_n 2, 1) := by decide +kernel
theorem dL_leastOf_8 : decode cL_leastOf 8 = .ok (.istore 5, 2) := by decide +kernel
theorem dL_leastOf_10 : decode cL_leastOf 10 = .ok (.iload 5, 2) := by decide +kernel
theorem dL_leastOf_12 : decode cL_leastOf 12 = .ok (.aload_n 0, 1) := by decide +kernel
theorem dL_leastOf_13 : decode cL_leastOf 13 = .ok (.arraylength, 1) := by decide +kernel
theorem dL_leastOf_14 : decode cL_leastOf 14 = .ok (.if_icmp .ge 70, 3) := by decide +kernel
theorem dL_leastOf_17 : decode cL_leastOf 17 = .ok (.iload 4, 2) := by decide +kernel
theorem dL_leastOf_19 : decode cL_leastOf 19 = .ok (.aload_n 0, 1) := by decide +kernel
theorem dL_leastOf_20 : decode cL_leastOf 20 = .ok (.iload 5, 2) := by decide +kernel
theorem dL_leastOf_22 : decode cL_leastOf 22 = .ok (.aaload, 1) := by decide +kernel
theorem dL_leastOf_23 : decode cL_leastOf 23 = .ok (.invokevirtual 138, 3) := by decide +kernel
theorem dL_leastOf_26 : decode cL_leastOf 26 = .ok (.iconst 1, 1) := by decide +kernel
theorem dL_leastOf_27 : decode cL_leastOf 27 = .ok (.iadd, 1) := by decide +kernel
theorem dL_leastOf_28 : decode cL_leastOf 28 = .ok (.iadd, 1) := by decide +kernel
theorem dL_leastOf_29 : decode cL_leastOf 29 = .ok (.istore 4, 2) := by decide +kernel
theorem dL_leastOf_31 : decode cL_leastOf 31 = .ok (.iload 4, 2) := by decide +kernel
theorem dL_leastOf_33 : decode cL_leastOf 33 = .ok (.iload_n 1, 1) := by decide +kernel
theorem dL_leastOf_34 : decode cL_leastOf 34 = .ok (.if_icmp .gt 44, 3) := by decide +kernel
theorem dL_leastOf_37 : decode cL_leastOf 37 = .ok (.iload 5, 2) := by decide +kernel
theorem dL_leastOf_39 : decode cL_leastOf 39 = .ok (.aload_n 0, 1) := by decide +kernel
theorem dL_leastOf_40 : decode cL_leastOf 40 = .ok (.arraylength, 1) := by decide +kernel
theorem dL_leastOf_41 : decode cL_leastOf 41 = .ok (.iconst 1, 1) := by decide +kernel
theorem dL_leastOf_42 : decode cL_leastOf 42 = .ok (.isub, 1) := by decide +kernel
theorem dL_leastOf_43 : decode cL_leastOf 43 = .ok (.if_icmp .ne 7, 3) := by decide +kernel
theorem dL_leastOf_46 : decode cL_leastOf 46 = .ok (.iconst 0, 1) := by decide +kernel
theorem dL_leastOf_47 : decode cL_leastOf 47 = .ok (.goto 22, 3) := by decide +kernel
theorem dL_leastOf_50 : decode cL_leastOf 50 = .ok (.iload_n 1, 1) := by decide +kernel
theorem dL_leastOf_51 : decode cL_leastOf 51 = .ok (.iload 4, 2) := by decide +kernel
theorem dL_leastOf_53 : decode cL_leastOf 53 = .ok (.isub, 1) := by decide +kernel
theorem dL_leastOf_54 : decode cL_leastOf 54 = .ok (.iload_n 1, 1) := by decide +kernel
theorem dL_leastOf_55 : decode cL_leastOf 55 = .ok (.iload 4, 2) := by decide +kernel
theorem dL_leastOf_57 : decode cL_leastOf 57 = .ok (.isub, 1) := by decide +kernel
theorem dL_leastOf_58 : decode cL_leastOf 58 = .ok (.imul, 1) := by decide +kernel
theorem dL_leastOf_59 : decode cL_leastOf 59 = .ok (.aload_n 0, 1) := by decide +kernel
theorem dL_leastOf_60 : decode cL_leastOf 60 = .ok (.iload_n 1, 1) := by decide +kernel
theorem dL_leastOf_61 : decode cL_leastOf 61 = .ok (.iload 5, 2) := by decide +kernel
theorem dL_leastOf_63 : decode cL_leastOf 63 = .ok (.iconst 1, 1) := by decide +kernel
theorem dL_leastOf_64 : decode cL_leastOf 64 = .ok (.iadd, 1) := by decide +kernel
theorem dL_leastOf_65 : decode cL_leastOf 65 = .ok (.invokestatic 298, 3) := by decide +kernel
theorem dL_leastOf_68 : decode cL_leastOf 68 = .ok (.iadd, 1) := by decide +kernel
theorem dL_leastOf_69 : decode cL_leastOf 69 = .ok (.istore 6, 2) := by decide +kernel
theorem dL_leastOf_71 : decode cL_leastOf 71 = .ok (.iload_n 3, 1) := by decide +kernel
theorem dL_leastOf_72 : decode cL_leastOf 72 = .ok (.iload 6, 2) := by decide +kernel
theorem dL_leastOf_74 : decode cL_leastOf 74 = .ok (.invokestatic 302, 3) := by decide +kernel
theorem dL_leastOf_77 : decode cL_leastOf 77 = .ok (.istore_n 3, 1) := by decide +kernel
theorem dL_leastOf_78 : decode cL_leastOf 78 = .ok (.iinc 5 1, 3) := by decide +kernel
theorem dL_leastOf_81 : decode cL_leastOf 81 = .ok (.goto (-71), 3) := by decide +kernel
theorem dL_leastOf_84 : decode cL_leastOf 84 = .ok (.iload_n 3, 1) := by decide +kernel
theorem dL_leastOf_85 : decode cL_leastOf 85 = .ok (.ireturn, 1) := by decide +kernel
theorem dL_lines_0 : decode cL_lines 0 = .ok (.iconst 0, 1) := by decide +kernel
theorem dL_lines_1 : decode cL_lines 1 = .ok (.istore_n 1, 1) := by decide +kernel
theorem dL_lines_2 : decode cL_lines 2 = .ok (.iload_n 1, 1) := by decide +kernel
theorem dL_lines_3 : decode cL_lines 3 = .ok (.aload_n 0, 1) := by decide +kernel
theorem dL_lines_4 : decode cL_lines 4 = .ok (.invokevirtual 258, 3) := by decide +kernel
theorem dL_lines_7 : decode cL_lines 7 = .ok (.if_icmp .ge 391, 3) := by decide +kernel
theorem dL_lines_10 : decode cL_lines 10 = .ok (.aload_n 0, 1) := by decide +kernel
theorem dL_lines_11 : decode cL_lines 11 = .ok (.iload_n 1, 1) := by decide +kernel
theorem dL_lines_12 : decode cL_lines 12 = .ok (.invokevirtual 35, 3) := by decide +kernel
theorem dL_lines_15 : decode cL_lines 15 = .ok (.istore_n 2, 1) := by decide +kernel
theorem dL_lines_16 : decode cL_lines 16 = .ok (.aload_n 0, 1) := by decide +kernel
theorem dL_lines_17 : decode cL_lines 17 = .ok (.iload_n 2, 1) := by decide +kernel
theorem dL_lines_18 : decode cL_lines 18 = .ok (.invokestatic 264, 3) := by decide +kernel
theorem dL_lines_21 : decode cL_lines 21 = .ok (.astore_n 3, 1) := by decide +kernel
theorem dL_lines_22 : decode cL_lines 22 = .ok (.aload_n 3, 1) := by decide +kernel
theorem dL_lines_23 : decode cL_lines 23 = .ok (.aload_n 0, 1) := by decide +kernel
theorem dL_lines_24 : decode cL_lines 24 = .ok (.invokevirtual 307, 3) := by decide +kernel
theorem dL_lines_27 : decode cL_lines 27 = .ok (.invokestatic 310, 3) := by decide +kernel
theorem dL_lines_30 : decode cL_lines 30 = .ok (.astore 4, 2) := by decide +kernel
theorem dL_lines_32 : decode cL_lines 32 = .ok (.aload 4, 2) := by decide +kernel
theorem dL_lines_34 : decode cL_lines 34 = .ok (.bipush 59, 2) := by decide +kernel
theorem dL_lines_36 : decode cL_lines 36 = .ok (.invokestatic 314, 3) := by decide +kernel
theorem dL_lines_39 : decode cL_lines 39 = .ok (.istore 5, 2) := by decide +kernel
theorem dL_lines_41 : decode cL_lines 41 = .ok (.iconst 4, 1) := by decide +kernel
theorem dL_lines_42 : decode cL_lines 42 = .ok (.istore 6, 2) := by decide +kernel
theorem dL_lines_44 : decode cL_lines 44 = .ok (.aload_n 3, 1) := by decide +kernel
theorem dL_lines_45 : decode cL_lines 45 = .ok (.iload 6, 2) := by decide +kernel
theorem dL_lines_47 : decode cL_lines 47 = .ok (.invokestatic 310, 3) := by decide +kernel
theorem dL_lines_50 : decode cL_lines 50 = .ok (.invokevirtual 138, 3) := by decide +kernel
theorem dL_lines_53 : decode cL_lines 53 = .ok (.ifCond .ne 9, 3) := by decide +kernel
theorem dL_lines_56 : decode cL_lines 56 = .ok (.iinc 6 1, 3) := by decide +kernel
theorem dL_lines_59 : decode cL_lines 59 = .ok (.goto (-15), 3) := by decide +kernel
theorem dL_lines_62 : decode cL_lines 62 = .ok (.iconst 0, 1) := by decide +kernel
theorem dL_lines_63 : decode cL_lines 63 = .ok (.istore 7, 2) := by decide +kernel
theorem dL_lines_65 : decode cL_lines 65 = .ok (.aload_n 3, 1) := by decide +kernel
theorem dL_lines_66 : decode cL_lines 66 = .ok (.astore 8, 2) := by decide +kernel
theorem dL_lines_68 : decode cL_lines 68 = .ok (.aload 8, 2) := by decide +kernel
theorem dL_lines_70 : decode cL_lines 70 = .ok (.arraylength, 1) := by decide +kernel
theorem dL_lines_71 : decode cL_lines 71 = .ok (.istore 9, 2) := by decide +kernel
theorem dL_lines_73 : decode cL_lines 73 = .ok (.iconst 0, 1) := by decide +kernel
theorem dL_lines_74 : decode cL_lines 74 = .ok (.istore 10, 2) := by decide +kernel
theorem dL_lines_76 : decode cL_lines 76 = .ok (.iload 10, 2) := by decide +kernel
theorem dL_lines_78 : decode cL_lines 78 = .ok (.iload 9, 2) := by decide +kernel
theorem dL_lines_80 : decode cL_lines 80 = .ok (.if_icmp .ge 28, 3) := by decide +kernel
theorem dL_lines_83 : decode cL_lines 83 = .ok (.aload 8, 2) := by decide +kernel
theorem dL_lines_85 : decode cL_lines 85 = .ok (.iload 10, 2) := by decide +kernel
theorem dL_lines_87 : decode cL_lines 87 = .ok (.aaload, 1) := by decide +kernel
theorem dL_lines_88 : decode cL_lines 88 = .ok (.astore 11, 2) := by decide +kernel
theorem dL_lines_90 : decode cL_lines 90 = .ok (.iload 7, 2) := by decide +kernel
theorem dL_lines_92 : decode cL_lines 92 = .ok (.aload 11, 2) := by decide +kernel
theorem dL_lines_94 : decode cL_lines 94 = .ok (.invokevirtual 138, 3) := by decide +kernel
theorem dL_lines_97 : decode cL_lines 97 = .ok (.invokestatic 318, 3) := by decide +kernel
theorem dL_lines_100 : decode cL_lines 100 = .ok (.istore 7, 2) := by decide +kernel
theorem dL_lines_102 : decode cL_lines 102 = .ok (.iinc 10 1, 3) := by decide +kernel
theorem dL_lines_105 : decode cL_lines 105 = .ok (.goto (-29), 3) := by decide +kernel
theorem dL_lines_108 : decode cL_lines 108 = .ok (.iload 7, 2) := by decide +kernel
theorem dL_lines_110 : decode cL_lines 110 = .ok (.aload_n 0, 1) := by decide +kernel
theorem dL_lines_111 : decode cL_lines 111 = .ok (.invokevirtual 307, 3) := by decide +kernel
theorem dL_lines_114 : decode cL_lines 114 = .ok (.if_icmp .le 8, 3) := by decide +kernel
theorem dL_lines_117 : decode cL_lines 117 = .ok (.bipush (-15), 2) := by decide +kernel
theorem dL_lines_119 : decode cL_lines 119 = .ok (.goto 27, 3) := by decide +kernel
theorem dL_lines_122 : decode cL_lines 122 = .ok (.aload_n 3, 1) := by decide +kernel
theorem dL_lines_123 : decode cL_lines 123 = .ok (.arraylength, 1) := by decide +kernel
theorem dL_lines_124 : decode cL_lines 124 = .ok (.bipush 12, 2) := by decide +kernel
theorem dL_lines_126 : decode cL_lines 126 = .ok (.if_icmp .le 11, 3) := by decide +kernel
theorem dL_lines_129 : decode cL_lines 129 = .ok (.aload_n 0, 1) := by decide +kernel
theorem dL_lines_130 : decode cL_lines 130 = .ok (.iload_n 2, 1) := by decide +kernel
theorem dL_lines_131 : decode cL_lines 131 = .ok (.invokestatic 321, 3) := by decide +kernel
theorem dL_lines_134 : decode cL_lines 134 = .ok (.goto 12, 3) := by decide +kernel
theorem dL_lines_137 : decode cL_lines 137 = .ok (.aload_n 3, 1) := by decide +kernel
theorem dL_lines_138 : decode cL_lines 138 = .ok (.aload_n 0, 1) := by decide +kernel
theorem dL_lines_139 : decode cL_lines 139 = .ok (.invokevirtual 307, 3) := by decide +kernel
theorem dL_lines_142 : decode cL_lines 142 = .ok (.iconst 0, 1) := by decide +kernel
theorem dL_lines_143 : decode cL_lines 143 = .ok (.invokestatic 298, 3) := by decide +kernel
theorem dL_lines_146 : decode cL_lines 146 = .ok (.istore 8, 2) := by decide +kernel
theorem dL_lines_148 : decode cL_lines 148 = .ok (.aload_n 0, 1) := by decide +kernel
theorem dL_lines_149 : decode cL_lines 149 = .ok (.iload_n 2, 1) := by decide +kernel
theorem dL_lines_150 : decode cL_lines 150 = .ok (.invokestatic 324, 3) := by decide +kernel
theorem dL_lines_153 : decode cL_lines 153 = .ok (.iload 6, 2) := by decide +kernel
theorem dL_lines_155 : decode cL_lines 155 = .ok (.if_icmp .ne 41, 3) := by decide +kernel
theorem dL_lines_158 : decode cL_lines 158 = .ok (.aload_n 0, 1) := by decide +kernel
theorem dL_lines_159 : decode cL_lines 159 = .ok (.iload_n 2, 1) := by decide +kernel
theorem dL_lines_160 : decode cL_lines 160 = .ok (.invokestatic 327, 3) := by decide +kernel
theorem dL_lines_163 : decode cL_lines 163 = .ok (.iload 5, 2) := by decide +kernel
theorem dL_lines_165 : decode cL_lines 165 = .ok (.ifCond .le 7, 3) := by decide +kernel
theorem dL_lines_168 : decode cL_lines 168 = .ok (.iconst 1, 1) := by decide +kernel
theorem dL_lines_169 : decode cL_lines 169 = .ok (.goto 4, 3) := by decide +kernel
theorem dL_lines_172 : decode cL_lines 172 = .ok (.iconst 0, 1) := by decide +kernel
theorem dL_lines_173 : decode cL_lines 173 = .ok (.if_icmp .ne 23, 3) := by decide +kernel
theorem dL_lines_176 : decode cL_lines 176 = .ok (.aload_n 0, 1) := by decide +kernel
theorem dL_lines_177 : decode cL_lines 177 = .ok (.iload_n 2, 1) := by decide +kernel
theorem dL_lines_178 : decode cL_lines 178 = .ok (.invokestatic 321, 3) := by decide +kernel
theorem dL_lines_181 : decode cL_lines 181 = .ok (.iload 8, 2) := by decide +kernel
theorem dL_lines_183 : decode cL_lines 183 = .ok (.if_icmp .ne 13, 3) := by decide +kernel
theorem dL_lines_186 : decode cL_lines 186 = .ok (.aload_n 0, 1) := by decide +kernel
theorem dL_lines_187 : decode cL_lines 187 = .ok (.iload_n 2, 1) := by decide +kernel
theorem dL_lines_188 : decode cL_lines 188 = .ok (.invokestatic 329, 3) := by decide +kernel
theorem dL_lines_191 : decode cL_lines 191 = .ok (.iload 8, 2) := by decide +kernel
theorem dL_lines_193 : decode cL_lines 193 = .ok (.if_icmp .eq 5, 3) := by decide +kernel
theorem dL_lines_196 : decode cL_lines 196 = .ok (.iconst 0, 1) := by decide +kernel
theorem dL_lines_197 : decode cL_lines 197 = .ok (.ireturn, 1) := by decide +kernel
theorem dL_lines_198 : decode cL_lines 198 = .ok (.iload 5, 2) := by decide +kernel
theorem dL_lines_200 : decode cL_lines 200 = .ok (.ifCond .ne 47, 3) := by decide +kernel
theorem dL_lines_203 : decode cL_lines 203 = .ok (.aload_n 0, 1) := by decide +kernel
theorem dL_lines_204 : decode cL_lines 204 = .ok (.iload_n 2, 1) := by decide +kernel
theorem dL_lines_205 : decode cL_lines 205 = .ok (.invokestatic 332, 3) := by decide +kernel
theorem dL_lines_208 : decode cL_lines 208 = .ok (.bipush (-15), 2) := by decide +kernel
theorem dL_lines_210 : decode cL_lines 210 = .ok (.if_icmp .ne 35, 3) := by decide +kernel
theorem dL_lines_213 : decode cL_lines 213 = .ok (.aload_n 0, 1) := by decide +kernel
theorem dL_lines_214 : decode cL_lines 214 = .ok (.iload_n 2, 1) := by decide +kernel
theorem dL_lines_215 : decode cL_lines 215 = .ok (.invokestatic 334, 3) := by decide +kernel
theorem dL_lines_218 : decode cL_lines 218 = .ok (.bipush (-15), 2) := by decide +kernel
theorem dL_lines_220 : decode cL_lines 220 = .ok (.if_icmp .ne 25, 3) := by decide +kernel
theorem dL_lines_223 : decode cL_lines 223 = .ok (.aload_n 0, 1) := by decide +kernel
theorem dL_lines_224 : decode cL_lines 224 = .ok (.iload_n 2, 1) := by decide +kernel
