theorem d_Mod_cut_0 : decode prog_14_method_63_code 0 = .ok (.iconst 0, 1) := by decide +kernel
theorem d_Mod_cut_1 : decode prog_14_method_63_code 1 = .ok (.istore_n 1, 1) := by decide +kernel
theorem d_Mod_cut_2 : decode prog_14_method_63_code 2 = .ok (.iload_n 1, 1) := by decide +kernel
theorem d_Mod_cut_3 : decode prog_14_method_63_code 3 = .ok (.aload_n 0, 1) := by decide +kernel
theorem d_Mod_cut_4 : decode prog_14_method_63_code 4 = .ok (.getfield 319, 3) := by decide +kernel
theorem d_Mod_cut_7 : decode prog_14_method_63_code 7 = .ok (.if_icmp .ge 20, 3) := by decide +kernel
theorem d_Mod_cut_10 : decode prog_14_method_63_code 10 = .ok (.aload_n 0, 1) := by decide +kernel
theorem d_Mod_cut_11 : decode prog_14_method_63_code 11 = .ok (.getfield 130, 3) := by decide +kernel
theorem d_Mod_cut_14 : decode prog_14_method_63_code 14 = .ok (.iload_n 1, 1) := by decide +kernel
theorem d_Mod_cut_15 : decode prog_14_method_63_code 15 = .ok (.iaload, 1) := by decide +kernel
theorem d_Mod_cut_16 : decode prog_14_method_63_code 16 = .ok (.bipush 10, 2) := by decide +kernel
theorem d_Mod_cut_18 : decode prog_14_method_63_code 18 = .ok (.if_icmp .eq 9, 3) := by decide +kernel
theorem d_Mod_cut_21 : decode prog_14_method_63_code 21 = .ok (.iinc 1 1, 3) := by decide +kernel
theorem d_Mod_cut_24 : decode prog_14_method_63_code 24 = .ok (.goto (-22), 3) := by decide +kernel
theorem d_Mod_cut_27 : decode prog_14_method_63_code 27 = .ok (.iload_n 1, 1) := by decide +kernel
theorem d_Mod_cut_28 : decode prog_14_method_63_code 28 = .ok (.aload_n 0, 1) := by decide +kernel
theorem d_Mod_cut_29 : decode prog_14_method_63_code 29 = .ok (.getfield 319, 3) := by decide +kernel
theorem d_Mod_cut_32 : decode prog_14_method_63_code 32 = .ok (.if_icmp .ne 9, 3) := by decide +kernel
theorem d_Mod_cut_35 : decode prog_14_method_63_code 35 = .ok (.aload_n 0, 1) := by decide +kernel
theorem d_Mod_cut_36 : decode prog_14_method_63_code 36 = .ok (.iconst 0, 1) := by decide +kernel
theorem d_Mod_cut_37 : decode prog_14_method_63_code 37 = .ok (.invokevirtual 390, 3) := by decide +kernel
theorem d_Mod_cut_40 : decode prog_14_method_63_code 40 = .ok (.ireturn, 1) := by decide +kernel
theorem d_Mod_cut_41 : decode prog_14_method_63_code 41 = .ok (.aload_n 0, 1) := by decide +kernel
theorem d_Mod_cut_42 : decode prog_14_method_63_code 42 = .ok (.invokevirtual 381, 3) := by decide +kernel
theorem d_Mod_cut_45 : decode prog_14_method_63_code 45 = .ok (.istore_n 2, 1) := by decide +kernel
theorem d_Mod_cut_46 : decode prog_14_method_63_code 46 = .ok (.iload_n 2, 1) := by decide +kernel
theorem d_Mod_cut_47 : decode prog_14_method_63_code 47 = .ok (.ifCond .ne 5, 3) := by decide +kernel
theorem d_Mod_cut_50 : decode prog_14_method_63_code 50 = .ok (.iconst 0, 1) := by decide +kernel
theorem d_Mod_cut_51 : decode prog_14_method_63_code 51 = .ok (.ireturn, 1) := by decide +kernel
theorem d_Mod_cut_52 : decode prog_14_method_63_code 52 = .ok (.iload_n 1, 1) := by decide +kernel
theorem d_Mod_cut_53 : decode prog_14_method_63_code 53 = .ok (.iconst 1, 1) := by decide +kernel
theorem d_Mod_cut_54 : decode prog_14_method_63_code 54 = .ok (.iadd, 1) := by decide +kernel
theorem d_Mod_cut_55 : decode prog_14_method_63_code 55 = .ok (.istore_n 3, 1) := by decide +kernel
theorem d_Mod_cut_56 : decode prog_14_method_63_code 56 = .ok (.iload_n 3, 1) := by decide +kernel
theorem d_Mod_cut_57 : decode prog_14_method_63_code 57 = .ok (.aload_n 0, 1) := by decide +kernel
theorem d_Mod_cut_58 : decode prog_14_method_63_code 58 = .ok (.getfield 319, 3) := by decide +kernel
theorem d_Mod_cut_61 : decode prog_14_method_63_code 61 = .ok (.if_icmp .ge 25, 3) := by decide +kernel
theorem d_Mod_cut_64 : decode prog_14_method_63_code 64 = .ok (.aload_n 0, 1) := by decide +kernel
theorem d_Mod_cut_65 : decode prog_14_method_63_code 65 = .ok (.getfield 130, 3) := by decide +kernel
theorem d_Mod_cut_68 : decode prog_14_method_63_code 68 = .ok (.iload_n 3, 1) := by decide +kernel
theorem d_Mod_cut_69 : decode prog_14_method_63_code 69 = .ok (.iload_n 1, 1) := by decide +kernel
theorem d_Mod_cut_70 : decode prog_14_method_63_code 70 = .ok (.isub, 1) := by decide +kernel
theorem d_Mod_cut_71 : decode prog_14_method_63_code 71 = .ok (.iconst 1, 1) := by decide +kernel
theorem d_Mod_cut_72 : decode prog_14_method_63_code 72 = .ok (.isub, 1) := by decide +kernel
theorem d_Mod_cut_73 : decode prog_14_method_63_code 73 = .ok (.aload_n 0, 1) := by decide +kernel
theorem d_Mod_cut_74 : decode prog_14_method_63_code 74 = .ok (.getfield 130, 3) := by decide +kernel
theorem d_Mod_cut_77 : decode prog_14_method_63_code 77 = .ok (.iload_n 3, 1) := by decide +kernel
theorem d_Mod_cut_78 : decode prog_14_method_63_code 78 = .ok (.iaload, 1) := by decide +kernel
theorem d_Mod_cut_79 : decode prog_14_method_63_code 79 = .ok (.iastore, 1) := by decide +kernel
theorem d_Mod_cut_80 : decode prog_14_method_63_code 80 = .ok (.iinc 3 1, 3) := by decide +kernel
theorem d_Mod_cut_83 : decode prog_14_method_63_code 83 = .ok (.goto (-27), 3) := by decide +kernel
theorem d_Mod_cut_86 : decode prog_14_method_63_code 86 = .ok (.aload_n 0, 1) := by decide +kernel
theorem d_Mod_cut_87 : decode prog_14_method_63_code 87 = .ok (.dup, 1) := by decide +kernel
theorem d_Mod_cut_88 : decode prog_14_method_63_code 88 = .ok (.getfield 319, 3) := by decide +kernel
theorem d_Mod_cut_91 : decode prog_14_method_63_code 91 = .ok (.iload_n 1, 1) := by decide +kernel
theorem d_Mod_cut_92 : decode prog_14_method_63_code 92 = .ok (.iconst 1, 1) := by decide +kernel
theorem d_Mod_cut_93 : decode prog_14_method_63_code 93 = .ok (.iadd, 1) := by decide +kernel
theorem d_Mod_cut_94 : decode prog_14_method_63_code 94 = .ok (.isub, 1) := by decide +kernel
theorem d_Mod_cut_95 : decode prog_14_method_63_code 95 = .ok (.putfield 319, 3) := by decide +kernel
theorem d_Mod_cut_98 : decode prog_14_method_63_code 98 = .ok (.aload_n 0, 1) := by decide +kernel
theorem d_Mod_cut_99 : decode prog_14_method_63_code 99 = .ok (.dup, 1) := by decide +kernel
theorem d_Mod_cut_100 : decode prog_14_method_63_code 100 = .ok (.getfield 387, 3) := by decide +kernel
theorem d_Mod_cut_103 : decode prog_14_method_63_code 103 = .ok (.iconst 1, 1) := by decide +kernel
theorem d_Mod_cut_104 : decode prog_14_method_63_code 104 = .ok (.iadd, 1) := by decide +kernel
theorem d_Mod_cut_105 : decode prog_14_method_63_code 105 = .ok (.putfield 387, 3) := by decide +kernel
theorem d_Mod_cut_108 : decode prog_14_method_63_code 108 = .ok (.aload_n 0, 1) := by decide +kernel
theorem d_Mod_cut_109 : decode prog_14_method_63_code 109 = .ok (.iconst 0, 1) := by decide +kernel
theorem d_Mod_cut_110 : decode prog_14_method_63_code 110 = .ok (.putfield 371, 3) := by decide +kernel
theorem d_Mod_cut_113 : decode prog_14_method_63_code 113 = .ok (.iconst 0, 1) := by decide +kernel
theorem d_Mod_cut_114 : decode prog_14_method_63_code 114 = .ok (.ireturn, 1) := by decide +kernel
theorem d_Mod_perform_0 : decode prog_14_method_64_code 0 = .ok (.aload_n 0, 1) := by decide +kernel
theorem d_Mod_perform_1 : decode prog_14_method_64_code 1 = .ok (.getfield 23, 3) := by decide +kernel
theorem d_Mod_perform_4 : decode prog_14_method_64_code 4 = .ok (.iload_n 1, 1) := by decide +kernel
theorem d_Mod_perform_5 : decode prog_14_method_64_code 5 = .ok (.iaload, 1) := by decide +kernel
theorem d_Mod_perform_6 : decode prog_14_method_64_code 6 = .ok (.tableswitch 514 61 121 #[456, 514, 514, 514, 514, 514, 514, 426, 514, 514, 500, 500, 514, 514, 514, 514, 514, 449, 514, 440, 514, 514, 514, 514, 514, 514, 514, 514, 514, 514, 514, 514, 514, 514, 514, 514, 349, 258, 367, 420, 514, 514, 500, 500, 358, 514, 514, 514, 514, 449, 514, 431, 464, 514, 332, 287, 514, 514, 514, 500, 341], 258) := by decide +kernel
theorem d_Mod_perform_264 : decode prog_14_method_64_code 264 = .ok (.aload_n 0, 1) := by decide +kernel
theorem d_Mod_perform_265 : decode prog_14_method_64_code 265 = .ok (.getfield 50, 3) := by decide +kernel
theorem d_Mod_perform_268 : decode prog_14_method_64_code 268 = .ok (.iload_n 1, 1) := by decide +kernel
theorem d_Mod_perform_269 : decode prog_14_method_64_code 269 = .ok (.iaload, 1) := by decide +kernel
theorem d_Mod_perform_270 : decode prog_14_method_64_code 270 = .ok (.iconst (-1), 1) := by decide +kernel
theorem d_Mod_perform_271 : decode prog_14_method_64_code 271 = .ok (.if_icmp .ne 15, 3) := by decide +kernel
theorem d_Mod_perform_274 : decode prog_14_method_64_code 274 = .ok (.aload_n 0, 1) := by decide +kernel
theorem d_Mod_perform_275 : decode prog_14_method_64_code 275 = .ok (.getfield 69, 3) := by decide +kernel
theorem d_Mod_perform_278 : decode prog_14_method_64_code 278 = .ok (.aload_n 0, 1) := by decide +kernel
theorem d_Mod_perform_279 : decode prog_14_method_64_code 279 = .ok (.getfield 284, 3) := by decide +kernel
theorem d_Mod_perform_282 : decode prog_14_method_64_code 282 = .ok (.iaload, 1) := by decide +kernel
theorem d_Mod_perform_283 : decode prog_14_method_64_code 283 = .ok (.goto 9, 3) := by decide +kernel
theorem d_Mod_perform_286 : decode prog_14_method_64_code 286 = .ok (.aload_n 0, 1) := by decide +kernel
theorem d_Mod_perform_287 : decode prog_14_method_64_code 287 = .ok (.getfield 50, 3) := by decide +kernel
theorem d_Mod_perform_290 : decode prog_14_method_64_code 290 = .ok (.iload_n 1, 1) := by decide +kernel
theorem d_Mod_perform_291 : decode prog_14_method_64_code 291 = .ok (.iaload, 1) := by decide +kernel
theorem d_Mod_perform_292 : decode prog_14_method_64_code 292 = .ok (.ireturn, 1) := by decide +kernel
theorem d_Mod_perform_293 : decode prog_14_method_64_code 293 = .ok (.aload_n 0, 1) := by decide +kernel
theorem d_Mod_perform_294 : decode prog_14_method_64_code 294 = .ok (.getfield 371, 3) := by decide +kernel
theorem d_Mod_perform_297 : decode prog_14_method_64_code 297 = .ok (.ifCond .ne 7, 3) := by decide +kernel
theorem d_Mod_perform_300 : decode prog_14_method_64_code 300 = .ok (.iload_n 2, 1) := by decide +kernel
theorem d_Mod_perform_301 : decode prog_14_method_64_code 301 = .ok (.iconst 1, 1) := by decide +kernel
theorem d_Mod_perform_302 : decode prog_14_method_64_code 302 = .ok (.iadd, 1) := by decide +kernel
theorem d_Mod_perform_303 : decode prog_14_method_64_code 303 = .ok (.ireturn, 1) := by decide +kernel
theorem d_Mod_perform_304 : decode prog_14_method_64_code 304 = .ok (.aload_n 0, 1) := by decide +kernel
theorem d_Mod_perform_305 : decode prog_14_method_64_code 305 = .ok (.iconst 0, 1) := by decide +kernel
theorem d_Mod_perform_306 : decode prog_14_method_64_code 306 = .ok (.putfield 371, 3) := by decide +kernel
theorem d_Mod_perform_309 : decode prog_14_method_64_code 309 = .ok (.aload_n 0, 1) := by decide +kernel
theorem d_Mod_perform_310 : decode prog_14_method_64_code 310 = .ok (.getfield 50, 3) := by decide +kernel
theorem d_Mod_perform_313 : decode prog_14_method_64_code 313 = .ok (.iload_n 1, 1) := by decide +kernel
theorem d_Mod_perform_314 : decode prog_14_method_64_code 314 = .ok (.iaload, 1) := by decide +kernel
theorem d_Mod_perform_315 : decode prog_14_method_64_code 315 = .ok (.iconst (-1), 1) := by decide +kernel
theorem d_Mod_perform_316 : decode prog_14_method_64_code 316 = .ok (.if_icmp .ne 15, 3) := by decide +kernel
theorem d_Mod_perform_319 : decode prog_14_method_64_code 319 = .ok (.aload_n 0, 1) := by decide +kernel
theorem d_Mod_perform_320 : decode prog_14_method_64_code 320 = .ok (.getfield 69, 3) := by decide +kernel
theorem d_Mod_perform_323 : decode prog_14_method_64_code 323 = .ok (.aload_n 0, 1) := by decide +kernel
theorem d_Mod_perform_324 : decode prog_14_method_64_code 324 = .ok (.getfield 284, 3) := by decide +kernel
theorem d_Mod_perform_327 : decode prog_14_method_64_code 327 = .ok (.iaload, 1) := by decide +kernel
theorem d_Mod_perform_328 : decode prog_14_method_64_code 328 = .ok (.goto 9, 3) := by decide +kernel
theorem d_Mod_perform_331 : decode prog_14_method_64_code 331 = .ok (.aload_n 0, 1) := by decide +kernel
theorem d_Mod_perform_332 : decode prog_14_method_64_code 332 = .ok (.getfield 50, 3) := by decide +kernel
theorem d_Mod_perform_335 : decode prog_14_method_64_code 335 = .ok (.iload_n 1, 1) := by decide +kernel
theorem d_Mod_perform_336 : decode prog_14_method_64_code 336 = .ok (.iaload, 1) := by decide +kernel
theorem d_Mod_perform_337 : decode prog_14_method_64_code 337 = .ok (.ireturn, 1) := by decide +kernel
theorem d_Mod_perform_338 : decode prog_14_method_64_code 338 = .ok (.aload_n 0, 1) := by decide +kernel
theorem d_Mod_perform_339 : decode prog_14_method_64_code 339 = .ok (.iload_n 1, 1) := by decide +kernel
theorem d_Mod_perform_340 : decode prog_14_method_64_code 340 = .ok (.invokevirtual 394, 3) := by decide +kernel
theorem d_Mod_perform_343 : decode prog_14_method_64_code 343 = .ok (.pop, 1) := by decide +kernel
theorem d_Mod_perform_344 : decode prog_14_method_64_code 344 = .ok (.goto 176, 3) := by decide +kernel
theorem d_Mod_perform_347 : decode prog_14_method_64_code 347 = .ok (.aload_n 0, 1) := by decide +kernel
theorem d_Mod_perform_348 : decode prog_14_method_64_code 348 = .ok (.iload_n 1, 1) := by decide +kernel
theorem d_Mod_perform_349 : decode prog_14_method_64_code 349 = .ok (.invokevirtual 397, 3) := by decide +kernel
theorem d_Mod_perform_352 : decode prog_14_method_64_code 352 = .ok (.goto 168, 3) := by decide +kernel
theorem d_Mod_perform_355 : decode prog_14_method_64_code 355 = .ok (.aload_n 0, 1) := by decide +kernel
theorem d_Mod_perform_356 : decode prog_14_method_64_code 356 = .ok (.iload_n 1, 1) := by decide +kernel
theorem d_Mod_perform_357 : decode prog_14_method_64_code 357 = .ok (.invokevirtual 400, 3) := by decide +kernel
theorem d_Mod_perform_360 : decode prog_14_method_64_code 360 = .ok (.pop, 1) := by decide +kernel
theorem d_Mod_perform_361 : decode prog_14_method_64_code 361 = .ok (.goto 159, 3) := by decide +kernel
theorem d_Mod_perform_364 : decode prog_14_method_64_code 364 = .ok (.aload_n 0, 1) := by decide +kernel
theorem d_Mod_perform_365 : decode prog_14_method_64_code 365 = .ok (.iload_n 1, 1) := by decide +kernel
theorem d_Mod_perform_366 : decode prog_14_method_64_code 366 = .ok (.invokevirtual 403, 3) := by decide +kernel
theorem d_Mod_perform_369 : decode prog_14_method_64_code 369 = .ok (.pop, 1) := by decide +kernel
theorem d_Mod_perform_370 : decode prog_14_method_64_code 370 = .ok (.goto 150, 3) := by decide +kernel
theorem d_Mod_perform_373 : decode prog_14_method_64_code 373 = .ok (.aload_n 0, 1) := by decide +kernel
theorem d_Mod_perform_374 : decode prog_14_method_64_code 374 = .ok (.iconst 0, 1) := by decide +kernel
theorem d_Mod_perform_375 : decode prog_14_method_64_code 375 = .ok (.putfield 319, 3) := by decide +kernel
theorem d_Mod_perform_378 : decode prog_14_method_64_code 378 = .ok (.aload_n 0, 1) := by decide +kernel
theorem d_Mod_perform_379 : decode prog_14_method_64_code 379 = .ok (.getfield 32, 3) := by decide +kernel
theorem d_Mod_perform_382 : decode prog_14_method_64_code 382 = .ok (.iload_n 1, 1) := by decide +kernel
theorem d_Mod_perform_383 : decode prog_14_method_64_code 383 = .ok (.iaload, 1) := by decide +kernel
theorem d_Mod_perform_384 : decode prog_14_method_64_code 384 = .ok (.ifCond .eq 19, 3) := by decide +kernel
theorem d_Mod_perform_387 : decode prog_14_method_64_code 387 = .ok (.aload_n 0, 1) := by decide +kernel
theorem d_Mod_perform_388 : decode prog_14_method_64_code 388 = .ok (.getfield 59, 3) := by decide +kernel
theorem d_Mod_perform_391 : decode prog_14_method_64_code 391 = .ok (.iload_n 1, 1) := by decide +kernel
theorem d_Mod_perform_392 : decode prog_14_method_64_code 392 = .ok (.baload, 1) := by decide +kernel
theorem d_Mod_perform_393 : decode prog_14_method_64_code 393 = .ok (.ifCond .ne 10, 3) := by decide +kernel
theorem d_Mod_perform_396 : decode prog_14_method_64_code 396 = .ok (.aload_n 0, 1) := by decide +kernel
theorem d_Mod_perform_397 : decode prog_14_method_64_code 397 = .ok (.getfield 352, 3) := by decide +kernel
theorem d_Mod_perform_400 : decode prog_14_method_64_code 400 = .ok (.ifCond .eq 9, 3) := by decide +kernel
theorem d_Mod_perform_403 : decode prog_14_method_64_code 403 = .ok (.aload_n 0, 1) := by decide +kernel
theorem d_Mod_perform_404 : decode prog_14_method_64_code 404 = .ok (.iload_n 1, 1) := by decide +kernel
theorem d_Mod_perform_405 : decode prog_14_method_64_code 405 = .ok (.invokevirtual 403, 3) := by decide +kernel
theorem d_Mod_perform_408 : decode prog_14_method_64_code 408 = .ok (.pop, 1) := by decide +kernel
theorem d_Mod_perform_409 : decode prog_14_method_64_code 409 = .ok (.aload_n 0, 1) := by decide +kernel
theorem d_Mod_perform_410 : decode prog_14_method_64_code 410 = .ok (.getfield 328, 3) := by decide +kernel
theorem d_Mod_perform_413 : decode prog_14_method_64_code 413 = .ok (.ifCond .eq 7, 3) := by decide +kernel
theorem d_Mod_perform_416 : decode prog_14_method_64_code 416 = .ok (.iconst 0, 1) := by decide +kernel
theorem d_Mod_perform_417 : decode prog_14_method_64_code 417 = .ok (.goto 8, 3) := by decide +kernel
theorem d_Mod_perform_420 : decode prog_14_method_64_code 420 = .ok (.aload_n 0, 1) := by decide +kernel
theorem d_Mod_perform_421 : decode prog_14_method_64_code 421 = .ok (.iconst 0, 1) := by decide +kernel
theorem d_Mod_perform_422 : decode prog_14_method_64_code 422 = .ok (.invokevirtual 390, 3) := by decide +kernel
theorem d_Mod_perform_425 : decode prog_14_method_64_code 425 = .ok (.ireturn, 1) := by decide +kernel
theorem d_Mod_perform_426 : decode prog_14_method_64_code 426 = .ok (.aload_n 0, 1) := by decide +kernel
theorem d_Mod_perform_427 : decode prog_14_method_64_code 427 = .ok (.iconst 0, 1) := by decide +kernel
theorem d_Mod_perform_428 : decode prog_14_method_64_code 428 = .ok (.invokevirtual 390, 3) := by decide +kernel
theorem d_Mod_perform_431 : decode prog_14_method_64_code 431 = .ok (.ireturn, 1) := by decide +kernel
theorem d_Mod_perform_432 : decode prog_14_method_64_code 432 = .ok (.aload_n 0, 1) := by decide +kernel
theorem d_Mod_perform_433 : decode prog_14_method_64_code 433 = .ok (.invokevirtual 406, 3) := by decide +kernel
theorem d_Mod_perform_436 : decode prog_14_method_64_code 436 = .ok (.ireturn, 1) := by decide +kernel
theorem d_Mod_perform_437 : decode prog_14_method_64_code 437 = .ok (.aload_n 0, 1) := by decide +kernel
theorem d_Mod_perform_438 : decode prog_14_method_64_code 438 = .ok (.iconst 0, 1) := by decide +kernel
theorem d_Mod_perform_439 : decode prog_14_method_64_code 439 = .ok (.invokevirtual 374, 3) := by decide +kernel
theorem d_Mod_perform_442 : decode prog_14_method_64_code 442 = .ok (.pop, 1) := by decide +kernel
theorem d_Mod_perform_443 : decode prog_14_method_64_code 443 = .ok (.goto 77, 3) := by decide +kernel
theorem d_Mod_perform_446 : decode prog_14_method_64_code 446 = .ok (.aload_n 0, 1) := by decide +kernel
theorem d_Mod_perform_447 : decode prog_14_method_64_code 447 = .ok (.iconst 1, 1) := by decide +kernel
theorem d_Mod_perform_448 : decode prog_14_method_64_code 448 = .ok (.invokevirtual 374, 3) := by decide +kernel
theorem d_Mod_perform_451 : decode prog_14_method_64_code 451 = .ok (.pop, 1) := by decide +kernel
theorem d_Mod_perform_452 : decode prog_14_method_64_code 452 = .ok (.goto 68, 3) := by decide +kernel
theorem d_Mod_perform_455 : decode prog_14_method_64_code 455 = .ok (.aload_n 0, 1) := by decide +kernel
theorem d_Mod_perform_456 : decode prog_14_method_64_code 456 = .ok (.iload_n 1, 1) := by decide +kernel
theorem d_Mod_perform_457 : decode prog_14_method_64_code 457 = .ok (.iload_n 2, 1) := by decide +kernel
theorem d_Mod_perform_458 : decode prog_14_method_64_code 458 = .ok (.invokevirtual 409, 3) := by decide +kernel
theorem d_Mod_perform_461 : decode prog_14_method_64_code 461 = .ok (.ireturn, 1) := by decide +kernel
theorem d_Mod_perform_462 : decode prog_14_method_64_code 462 = .ok (.aload_n 0, 1) := by decide +kernel
theorem d_Mod_perform_463 : decode prog_14_method_64_code 463 = .ok (.invokevirtual 413, 3) := by decide +kernel
theorem d_Mod_perform_466 : decode prog_14_method_64_code 466 = .ok (.pop, 1) := by decide +kernel
theorem d_Mod_perform_467 : decode prog_14_method_64_code 467 = .ok (.goto 53, 3) := by decide +kernel
theorem d_Mod_perform_470 : decode prog_14_method_64_code 470 = .ok (.aload_n 0, 1) := by decide +kernel
theorem d_Mod_perform_471 : decode prog_14_method_64_code 471 = .ok (.iconst 0, 1) := by decide +kernel
theorem d_Mod_perform_472 : decode prog_14_method_64_code 472 = .ok (.invokevirtual 374, 3) := by decide +kernel
theorem d_Mod_perform_475 : decode prog_14_method_64_code 475 = .ok (.ifCond .eq 14, 3) := by decide +kernel
theorem d_Mod_perform_478 : decode prog_14_method_64_code 478 = .ok (.aload_n 0, 1) := by decide +kernel
theorem d_Mod_perform_479 : decode prog_14_method_64_code 479 = .ok (.invokevirtual 381, 3) := by decide +kernel
theorem d_Mod_perform_482 : decode prog_14_method_64_code 482 = .ok (.ifCond .eq 7, 3) := by decide +kernel
theorem d_Mod_perform_485 : decode prog_14_method_64_code 485 = .ok (.iconst 1, 1) := by decide +kernel
theorem d_Mod_perform_486 : decode prog_14_method_64_code 486 = .ok (.goto 4, 3) := by decide +kernel
theorem d_Mod_perform_489 : decode prog_14_method_64_code 489 = .ok (.iconst 0, 1) := by decide +kernel
theorem d_Mod_perform_490 : decode prog_14_method_64_code 490 = .ok (.istore_n 3, 1) := by decide +kernel
theorem d_Mod_perform_491 : decode prog_14_method_64_code 491 = .ok (.aload_n 0, 1) := by decide +kernel
theorem d_Mod_perform_492 : decode prog_14_method_64_code 492 = .ok (.iconst 1, 1) := by decide +kernel
theorem d_Mod_perform_493 : decode prog_14_method_64_code 493 = .ok (.putfield 328, 3) := by decide +kernel
theorem d_Mod_perform_496 : decode prog_14_method_64_code 496 = .ok (.iload_n 3, 1) := by decide +kernel
theorem d_Mod_perform_497 : decode prog_14_method_64_code 497 = .ok (.ifCond .eq 7, 3) := by decide +kernel
theorem d_Mod_perform_500 : decode prog_14_method_64_code 500 = .ok (.iconst 0, 1) := by decide +kernel
theorem d_Mod_perform_501 : decode prog_14_method_64_code 501 = .ok (.goto 4, 3) := by decide +kernel
theorem d_Mod_perform_504 : decode prog_14_method_64_code 504 = .ok (.iconst 0, 1) := by decide +kernel
theorem d_Mod_perform_505 : decode prog_14_method_64_code 505 = .ok (.ireturn, 1) := by decide +kernel
theorem d_Mod_perform_506 : decode prog_14_method_64_code 506 = .ok (.aload_n 0, 1) := by decide +kernel
theorem d_Mod_perform_507 : decode prog_14_method_64_code 507 = .ok (.aload_n 0, 1) := by decide +kernel
theorem d_Mod_perform_508 : decode prog_14_method_64_code 508 = .ok (.getfield 23, 3) := by decide +kernel
theorem d_Mod_perform_511 : decode prog_14_method_64_code 511 = .ok (.iload_n 1, 1) := by decide +kernel
theorem d_Mod_perform_512 : decode prog_14_method_64_code 512 = .ok (.iaload, 1) := by decide +kernel
theorem d_Mod_perform_513 : decode prog_14_method_64_code 513 = .ok (.invokevirtual 416, 3) := by decide +kernel
theorem d_Mod_perform_516 : decode prog_14_method_64_code 516 = .ok (.pop, 1) := by decide +kernel
theorem d_Mod_perform_517 : decode prog_14_method_64_code 517 = .ok (.goto 3, 3) := by decide +kernel
theorem d_Mod_perform_520 : decode prog_14_method_64_code 520 = .ok (.iload_n 2, 1) := by decide +kernel
theorem d_Mod_perform_521 : decode prog_14_method_64_code 521 = .ok (.iconst 1, 1) := by decide +kernel
theorem d_Mod_perform_522 : decode prog_14_method_64_code 522 = .ok (.iadd, 1) := by decide +kernel
theorem d_Mod_perform_523 : decode prog_14_method_64_code 523 = .ok (.ireturn, 1) := by decide +kernel
theorem d_Mod_run_0 : decode prog_14_method_65_code 0 = .ok (.aload_n 0, 1) := by decide +kernel
theorem d_Mod_run_1 : decode prog_14_method_65_code 1 = .ok (.getfield 293, 3) := by decide +kernel
theorem d_Mod_run_4 : decode prog_14_method_65_code 4 = .ok (.ifCond .ne 9, 3) := by decide +kernel
theorem d_Mod_run_7 : decode prog_14_method_65_code 7 = .ok (.aload_n 0, 1) := by decide +kernel
theorem d_Mod_run_8 : decode prog_14_method_65_code 8 = .ok (.iconst 1, 1) := by decide +kernel
theorem d_Mod_run_9 : decode prog_14_method_65_code 9 = .ok (.invokevirtual 162, 3) := by decide +kernel
theorem d_Mod_run_12 : decode prog_14_method_65_code 12 = .ok (.ireturn, 1) := by decide +kernel
theorem d_Mod_run_13 : decode prog_14_method_65_code 13 = .ok (.aload_n 0, 1) := by decide +kernel
theorem d_Mod_run_14 : decode prog_14_method_65_code 14 = .ok (.iconst 0, 1) := by decide +kernel
theorem d_Mod_run_15 : decode prog_14_method_65_code 15 = .ok (.putfield 151, 3) := by decide +kernel
theorem d_Mod_run_18 : decode prog_14_method_65_code 18 = .ok (.aload_n 0, 1) := by decide +kernel
theorem d_Mod_run_19 : decode prog_14_method_65_code 19 = .ok (.iconst 0, 1) := by decide +kernel
theorem d_Mod_run_20 : decode prog_14_method_65_code 20 = .ok (.putfield 319, 3) := by decide +kernel
theorem d_Mod_run_23 : decode prog_14_method_65_code 23 = .ok (.aload_n 0, 1) := by decide +kernel
theorem d_Mod_run_24 : decode prog_14_method_65_code 24 = .ok (.iconst 0, 1) := by decide +kernel
theorem d_Mod_run_25 : decode prog_14_method_65_code 25 = .ok (.putfield 378, 3) := by decide +kernel
theorem d_Mod_run_28 : decode prog_14_method_65_code 28 = .ok (.aload_n 0, 1) := by decide +kernel
theorem d_Mod_run_29 : decode prog_14_method_65_code 29 = .ok (.iconst 0, 1) := by decide +kernel
theorem d_Mod_run_30 : decode prog_14_method_65_code 30 = .ok (.putfield 343, 3) := by decide +kernel
theorem d_Mod_run_33 : decode prog_14_method_65_code 33 = .ok (.aload_n 0, 1) := by decide +kernel
theorem d_Mod_run_34 : decode prog_14_method_65_code 34 = .ok (.iconst 0, 1) := by decide +kernel
theorem d_Mod_run_35 : decode prog_14_method_65_code 35 = .ok (.putfield 331, 3) := by decide +kernel
theorem d_Mod_run_38 : decode prog_14_method_65_code 38 = .ok (.aload_n 0, 1) := by decide +kernel
theorem d_Mod_run_39 : decode prog_14_method_65_code 39 = .ok (.iconst 0, 1) := by decide +kernel
theorem d_Mod_run_40 : decode prog_14_method_65_code 40 = .ok (.putfield 346, 3) := by decide +kernel
theorem d_Mod_run_43 : decode prog_14_method_65_code 43 = .ok (.aload_n 0, 1) := by decide +kernel
theorem d_Mod_run_44 : decode prog_14_method_65_code 44 = .ok (.iconst 0, 1) := by decide +kernel
theorem d_Mod_run_45 : decode prog_14_method_65_code 45 = .ok (.putfield 419, 3) := by decide +kernel
theorem d_Mod_run_48 : decode prog_14_method_65_code 48 = .ok (.aload_n 0, 1) := by decide +kernel
theorem d_Mod_run_49 : decode prog_14_method_65_code 49 = .ok (.iconst 0, 1) := by decide +kernel
theorem d_Mod_run_50 : decode prog_14_method_65_code 50 = .ok (.putfield 387, 3) := by decide +kernel
theorem d_Mod_run_53 : decode prog_14_method_65_code 53 = .ok (.aload_n 0, 1) := by decide +kernel
theorem d_Mod_run_54 : decode prog_14_method_65_code 54 = .ok (.iconst 0, 1) := by decide +kernel
theorem d_Mod_run_55 : decode prog_14_method_65_code 55 = .ok (.putfield 368, 3) := by decide +kernel
theorem d_Mod_run_58 : decode prog_14_method_65_code 58 = .ok (.aload_n 0, 1) := by decide +kernel
theorem d_Mod_run_59 : decode prog_14_method_65_code 59 = .ok (.iconst 0, 1) := by decide +kernel
theorem d_Mod_run_60 : decode prog_14_method_65_code 60 = .ok (.putfield 371, 3) := by decide +kernel
theorem d_Mod_run_63 : decode prog_14_method_65_code 63 = .ok (.aload_n 0, 1) := by decide +kernel
theorem d_Mod_run_64 : decode prog_14_method_65_code 64 = .ok (.aload_n 0, 1) := by decide +kernel
theorem d_Mod_run_65 : decode prog_14_method_65_code 65 = .ok (.getfield 169, 3) := by decide +kernel
theorem d_Mod_run_68 : decode prog_14_method_65_code 68 = .ok (.ifCond .ne 7, 3) := by decide +kernel
theorem d_Mod_run_71 : decode prog_14_method_65_code 71 = .ok (.iconst 1, 1) := by decide +kernel
theorem d_Mod_run_72 : decode prog_14_method_65_code 72 = .ok (.goto 4, 3) := by decide +kernel
theorem d_Mod_run_75 : decode prog_14_method_65_code 75 = .ok (.iconst 0, 1) := by decide +kernel
theorem d_Mod_run_76 : decode prog_14_method_65_code 76 = .ok (.putfield 328, 3) := by decide +kernel
theorem d_Mod_run_79 : decode prog_14_method_65_code 79 = .ok (.iconst 0, 1) := by decide +kernel
theorem d_Mod_run_80 : decode prog_14_method_65_code 80 = .ok (.istore_n 1, 1) := by decide +kernel
theorem d_Mod_run_81 : decode prog_14_method_65_code 81 = .ok (.iload_n 1, 1) := by decide +kernel
theorem d_Mod_run_82 : decode prog_14_method_65_code 82 = .ok (.bipush 40, 2) := by decide +kernel
theorem d_Mod_run_84 : decode prog_14_method_65_code 84 = .ok (.if_icmp .ge 16, 3) := by decide +kernel
theorem d_Mod_run_87 : decode prog_14_method_65_code 87 = .ok (.aload_n 0, 1) := by decide +kernel
theorem d_Mod_run_88 : decode prog_14_method_65_code 88 = .ok (.getfield 148, 3) := by decide +kernel
theorem d_Mod_run_91 : decode prog_14_method_65_code 91 = .ok (.iload_n 1, 1) := by decide +kernel
theorem d_Mod_run_92 : decode prog_14_method_65_code 92 = .ok (.iconst 0, 1) := by decide +kernel
theorem d_Mod_run_93 : decode prog_14_method_65_code 93 = .ok (.bastore, 1) := by decide +kernel
theorem d_Mod_run_94 : decode prog_14_method_65_code 94 = .ok (.iinc 1 1, 3) := by decide +kernel
theorem d_Mod_run_97 : decode prog_14_method_65_code 97 = .ok (.goto (-16), 3) := by decide +kernel
theorem d_Mod_run_100 : decode prog_14_method_65_code 100 = .ok (.aload_n 0, 1) := by decide +kernel
theorem d_Mod_run_101 : decode prog_14_method_65_code 101 = .ok (.getfield 328, 3) := by decide +kernel
theorem d_Mod_run_104 : decode prog_14_method_65_code 104 = .ok (.ifCond .ne 12, 3) := by decide +kernel
theorem d_Mod_run_107 : decode prog_14_method_65_code 107 = .ok (.aload_n 0, 1) := by decide +kernel
theorem d_Mod_run_108 : decode prog_14_method_65_code 108 = .ok (.invokevirtual 384, 3) := by decide +kernel
theorem d_Mod_run_111 : decode prog_14_method_65_code 111 = .ok (.aload_n 0, 1) := by decide +kernel
theorem d_Mod_run_112 : decode prog_14_method_65_code 112 = .ok (.iconst 1, 1) := by decide +kernel
theorem d_Mod_run_113 : decode prog_14_method_65_code 113 = .ok (.putfield 387, 3) := by decide +kernel
theorem d_Mod_run_116 : decode prog_14_method_65_code 116 = .ok (.iconst 0, 1) := by decide +kernel
theorem d_Mod_run_117 : decode prog_14_method_65_code 117 = .ok (.istore_n 1, 1) := by decide +kernel
theorem d_Mod_run_118 : decode prog_14_method_65_code 118 = .ok (.aload_n 0, 1) := by decide +kernel
theorem d_Mod_run_119 : decode prog_14_method_65_code 119 = .ok (.getfield 328, 3) := by decide +kernel
theorem d_Mod_run_122 : decode prog_14_method_65_code 122 = .ok (.ifCond .ne 118, 3) := by decide +kernel
theorem d_Mod_run_125 : decode prog_14_method_65_code 125 = .ok (.iload_n 1, 1) := by decide +kernel
theorem d_Mod_run_126 : decode prog_14_method_65_code 126 = .ok (.aload_n 0, 1) := by decide +kernel
theorem d_Mod_run_127 : decode prog_14_method_65_code 127 = .ok (.getfield 69, 3) := by decide +kernel
theorem d_Mod_run_130 : decode prog_14_method_65_code 130 = .ok (.aload_n 0, 1) := by decide +kernel
theorem d_Mod_run_131 : decode prog_14_method_65_code 131 = .ok (.getfield 284, 3) := by decide +kernel
theorem d_Mod_run_134 : decode prog_14_method_65_code 134 = .ok (.iaload, 1) := by decide +kernel
theorem d_Mod_run_135 : decode prog_14_method_65_code 135 = .ok (.if_icmp .lt 12, 3) := by decide +kernel
theorem d_Mod_run_138 : decode prog_14_method_65_code 138 = .ok (.aload_n 0, 1) := by decide +kernel
theorem d_Mod_run_139 : decode prog_14_method_65_code 139 = .ok (.iconst 1, 1) := by decide +kernel
theorem d_Mod_run_140 : decode prog_14_method_65_code 140 = .ok (.invokevirtual 390, 3) := by decide +kernel
theorem d_Mod_run_143 : decode prog_14_method_65_code 143 = .ok (.istore_n 1, 1) := by decide +kernel
theorem d_Mod_run_144 : decode prog_14_method_65_code 144 = .ok (.goto (-26), 3) := by decide +kernel
theorem d_Mod_run_147 : decode prog_14_method_65_code 147 = .ok (.aload_n 0, 1) := by decide +kernel
theorem d_Mod_run_148 : decode prog_14_method_65_code 148 = .ok (.getfield 419, 3) := by decide +kernel
theorem d_Mod_run_151 : decode prog_14_method_65_code 151 = .ok (.sipush 200, 3) := by decide +kernel
theorem d_Mod_run_154 : decode prog_14_method_65_code 154 = .ok (.if_icmp .ne 9, 3) := by decide +kernel
theorem d_Mod_run_157 : decode prog_14_method_65_code 157 = .ok (.aload_n 0, 1) := by decide +kernel
theorem d_Mod_run_158 : decode prog_14_method_65_code 158 = .ok (.iconst 3, 1) := by decide +kernel
theorem d_Mod_run_159 : decode prog_14_method_65_code 159 = .ok (.invokevirtual 162, 3) := by decide +kernel
theorem d_Mod_run_162 : decode prog_14_method_65_code 162 = .ok (.ireturn, 1) := by decide +kernel
theorem d_Mod_run_163 : decode prog_14_method_65_code 163 = .ok (.aload_n 0, 1) := by decide +kernel
theorem d_Mod_run_164 : decode prog_14_method_65_code 164 = .ok (.dup, 1) := by decide +kernel
theorem d_Mod_run_165 : decode prog_14_method_65_code 165 = .ok (.getfield 419, 3) := by decide +kernel
theorem d_Mod_run_168 : decode prog_14_method_65_code 168 = .ok (.iconst 1, 1) := by decide +kernel
theorem d_Mod_run_169 : decode prog_14_method_65_code 169 = .ok (.iadd, 1) := by decide +kernel
theorem d_Mod_run_170 : decode prog_14_method_65_code 170 = .ok (.putfield 419, 3) := by decide +kernel
theorem d_Mod_run_173 : decode prog_14_method_65_code 173 = .ok (.bipush 40, 2) := by decide +kernel
theorem d_Mod_run_175 : decode prog_14_method_65_code 175 = .ok (.aload_n 0, 1) := by decide +kernel
theorem d_Mod_run_176 : decode prog_14_method_65_code 176 = .ok (.getfield 284, 3) := by decide +kernel
theorem d_Mod_run_179 : decode prog_14_method_65_code 179 = .ok (.imul, 1) := by decide +kernel
theorem d_Mod_run_180 : decode prog_14_method_65_code 180 = .ok (.iload_n 1, 1) := by decide +kernel
theorem d_Mod_run_181 : decode prog_14_method_65_code 181 = .ok (.iadd, 1) := by decide +kernel
theorem d_Mod_run_182 : decode prog_14_method_65_code 182 = .ok (.istore_n 2, 1) := by decide +kernel
theorem d_Mod_run_183 : decode prog_14_method_65_code 183 = .ok (.aload_n 0, 1) := by decide +kernel
theorem d_Mod_run_184 : decode prog_14_method_65_code 184 = .ok (.iload_n 2, 1) := by decide +kernel
theorem d_Mod_run_185 : decode prog_14_method_65_code 185 = .ok (.invokevirtual 422, 3) := by decide +kernel
theorem d_Mod_run_188 : decode prog_14_method_65_code 188 = .ok (.istore_n 3, 1) := by decide +kernel
theorem d_Mod_run_189 : decode prog_14_method_65_code 189 = .ok (.aload_n 0, 1) := by decide +kernel
theorem d_Mod_run_190 : decode prog_14_method_65_code 190 = .ok (.getfield 23, 3) := by decide +kernel
theorem d_Mod_run_193 : decode prog_14_method_65_code 193 = .ok (.iload_n 2, 1) := by decide +kernel
theorem d_Mod_run_194 : decode prog_14_method_65_code 194 = .ok (.iaload, 1) := by decide +kernel
theorem d_Mod_run_195 : decode prog_14_method_65_code 195 = .ok (.bipush 123, 2) := by decide +kernel
theorem d_Mod_run_197 : decode prog_14_method_65_code 197 = .ok (.if_icmp .ne 23, 3) := by decide +kernel
theorem d_Mod_run_200 : decode prog_14_method_65_code 200 = .ok (.iload_n 3, 1) := by decide +kernel
theorem d_Mod_run_201 : decode prog_14_method_65_code 201 = .ok (.ifCond .eq 9, 3) := by decide +kernel
theorem d_Mod_run_204 : decode prog_14_method_65_code 204 = .ok (.iload_n 1, 1) := by decide +kernel
theorem d_Mod_run_205 : decode prog_14_method_65_code 205 = .ok (.iconst 1, 1) := by decide +kernel
theorem d_Mod_run_206 : decode prog_14_method_65_code 206 = .ok (.iadd, 1) := by decide +kernel
theorem d_Mod_run_207 : decode prog_14_method_65_code 207 = .ok (.goto 9, 3) := by decide +kernel
theorem d_Mod_run_210 : decode prog_14_method_65_code 210 = .ok (.aload_n 0, 1) := by decide +kernel
theorem d_Mod_run_211 : decode prog_14_method_65_code 211 = .ok (.getfield 50, 3) := by decide +kernel
theorem d_Mod_run_214 : decode prog_14_method_65_code 214 = .ok (.iload_n 2, 1) := by decide +kernel
theorem d_Mod_run_215 : decode prog_14_method_65_code 215 = .ok (.iaload, 1) := by decide +kernel
theorem d_Mod_run_216 : decode prog_14_method_65_code 216 = .ok (.istore_n 1, 1) := by decide +kernel
theorem d_Mod_run_217 : decode prog_14_method_65_code 217 = .ok (.goto 20, 3) := by decide +kernel
theorem d_Mod_run_220 : decode prog_14_method_65_code 220 = .ok (.iload_n 3, 1) := by decide +kernel
theorem d_Mod_run_221 : decode prog_14_method_65_code 221 = .ok (.ifCond .eq 12, 3) := by decide +kernel
theorem d_Mod_run_224 : decode prog_14_method_65_code 224 = .ok (.aload_n 0, 1) := by decide +kernel
theorem d_Mod_run_225 : decode prog_14_method_65_code 225 = .ok (.iload_n 2, 1) := by decide +kernel
theorem d_Mod_run_226 : decode prog_14_method_65_code 226 = .ok (.iload_n 1, 1) := by decide +kernel
theorem d_Mod_run_227 : decode prog_14_method_65_code 227 = .ok (.invokevirtual 425, 3) := by decide +kernel
theorem d_Mod_run_230 : decode prog_14_method_65_code 230 = .ok (.goto 6, 3) := by decide +kernel
theorem d_Mod_run_233 : decode prog_14_method_65_code 233 = .ok (.iload_n 1, 1) := by decide +kernel
theorem d_Mod_run_234 : decode prog_14_method_65_code 234 = .ok (.iconst 1, 1) := by decide +kernel
theorem d_Mod_run_235 : decode prog_14_method_65_code 235 = .ok (.iadd, 1) := by decide +kernel
theorem d_Mod_run_236 : decode prog_14_method_65_code 236 = .ok (.istore_n 1, 1) := by decide +kernel
theorem d_Mod_run_237 : decode prog_14_method_65_code 237 = .ok (.goto (-119), 3) := by decide +kernel
theorem d_Mod_run_240 : decode prog_14_method_65_code 240 = .ok (.aload_n 0, 1) := by decide +kernel
theorem d_Mod_run_241 : decode prog_14_method_65_code 241 = .ok (.getfield 331, 3) := by decide +kernel
theorem d_Mod_run_244 : decode prog_14_method_65_code 244 = .ok (.ireturn, 1) := by decide +kernel
theorem d_Mod_out_0 : decode prog_14_method_66_code 0 = .ok (.aload_n 0, 1) := by decide +kernel
theorem d_Mod_out_1 : decode prog_14_method_66_code 1 = .ok (.iload_n 1, 1) := by decide +kernel
theorem d_Mod_out_2 : decode prog_14_method_66_code 2 = .ok (.iconst 0, 1) := by decide +kernel
theorem d_Mod_out_3 : decode prog_14_method_66_code 3 = .ok (.aload_n 0, 1) := by decide +kernel
theorem d_Mod_out_4 : decode prog_14_method_66_code 4 = .ok (.getfield 331, 3) := by decide +kernel
theorem d_Mod_out_7 : decode prog_14_method_66_code 7 = .ok (.iconst 1, 1) := by decide +kernel
theorem d_Mod_out_8 : decode prog_14_method_66_code 8 = .ok (.isub, 1) := by decide +kernel
theorem d_Mod_out_9 : decode prog_14_method_66_code 9 = .ok (.invokestatic 154, 3) := by decide +kernel
theorem d_Mod_out_12 : decode prog_14_method_66_code 12 = .ok (.ifCond .eq 7, 3) := by decide +kernel
theorem d_Mod_out_15 : decode prog_14_method_66_code 15 = .ok (.iconst 0, 1) := by decide +kernel
theorem d_Mod_out_16 : decode prog_14_method_66_code 16 = .ok (.goto 4, 3) := by decide +kernel
theorem d_Mod_out_19 : decode prog_14_method_66_code 19 = .ok (.iconst 1, 1) := by decide +kernel
theorem d_Mod_out_20 : decode prog_14_method_66_code 20 = .ok (.putfield 151, 3) := by decide +kernel
theorem d_Mod_out_23 : decode prog_14_method_66_code 23 = .ok (.aload_n 0, 1) := by decide +kernel
theorem d_Mod_out_24 : decode prog_14_method_66_code 24 = .ok (.getfield 151, 3) := by decide +kernel
theorem d_Mod_out_27 : decode prog_14_method_66_code 27 = .ok (.ifCond .le 7, 3) := by decide +kernel
theorem d_Mod_out_30 : decode prog_14_method_66_code 30 = .ok (.iconst 0, 1) := by decide +kernel
theorem d_Mod_out_31 : decode prog_14_method_66_code 31 = .ok (.goto 9, 3) := by decide +kernel
theorem d_Mod_out_34 : decode prog_14_method_66_code 34 = .ok (.aload_n 0, 1) := by decide +kernel
theorem d_Mod_out_35 : decode prog_14_method_66_code 35 = .ok (.getfield 142, 3) := by decide +kernel
theorem d_Mod_out_38 : decode prog_14_method_66_code 38 = .ok (.iload_n 1, 1) := by decide +kernel
theorem d_Mod_out_39 : decode prog_14_method_66_code 39 = .ok (.iaload, 1) := by decide +kernel
theorem d_Mod_out_40 : decode prog_14_method_66_code 40 = .ok (.ireturn, 1) := by decide +kernel
theorem d_Mod_ran_0 : decode prog_14_method_67_code 0 = .ok (.iload_n 1, 1) := by decide +kernel
theorem d_Mod_ran_1 : decode prog_14_method_67_code 1 = .ok (.iconst 0, 1) := by decide +kernel
theorem d_Mod_ran_2 : decode prog_14_method_67_code 2 = .ok (.iconst 4, 1) := by decide +kernel
theorem d_Mod_ran_3 : decode prog_14_method_67_code 3 = .ok (.invokestatic 154, 3) := by decide +kernel
theorem d_Mod_ran_6 : decode prog_14_method_67_code 6 = .ok (.ifCond .ne 32, 3) := by decide +kernel
theorem d_Mod_ran_9 : decode prog_14_method_67_code 9 = .ok (.iload_n 1, 1) := by decide +kernel
theorem d_Mod_ran_10 : decode prog_14_method_67_code 10 = .ok (.bipush 10, 2) := by decide +kernel
theorem d_Mod_ran_12 : decode prog_14_method_67_code 12 = .ok (.bipush 69, 2) := by decide +kernel
theorem d_Mod_ran_14 : decode prog_14_method_67_code 14 = .ok (.invokestatic 154, 3) := by decide +kernel
theorem d_Mod_ran_17 : decode prog_14_method_67_code 17 = .ok (.ifCond .ne 21, 3) := by decide +kernel
theorem d_Mod_ran_20 : decode prog_14_method_67_code 20 = .ok (.iload_n 1, 1) := by decide +kernel
theorem d_Mod_ran_21 : decode prog_14_method_67_code 21 = .ok (.bipush 100, 2) := by decide +kernel
theorem d_Mod_ran_23 : decode prog_14_method_67_code 23 = .ok (.sipush 159, 3) := by decide +kernel
theorem d_Mod_ran_26 : decode prog_14_method_67_code 26 = .ok (.invokestatic 154, 3) := by decide +kernel
theorem d_Mod_ran_29 : decode prog_14_method_67_code 29 = .ok (.ifCond .ne 9, 3) := by decide +kernel
theorem d_Mod_ran_32 : decode prog_14_method_67_code 32 = .ok (.aload_n 0, 1) := by decide +kernel
theorem d_Mod_ran_33 : decode prog_14_method_67_code 33 = .ok (.iconst 1, 1) := by decide +kernel
theorem d_Mod_ran_34 : decode prog_14_method_67_code 34 = .ok (.invokevirtual 162, 3) := by decide +kernel
theorem d_Mod_ran_37 : decode prog_14_method_67_code 37 = .ok (.ireturn, 1) := by decide +kernel
theorem d_Mod_ran_38 : decode prog_14_method_67_code 38 = .ok (.aload_n 0, 1) := by decide +kernel
theorem d_Mod_ran_39 : decode prog_14_method_67_code 39 = .ok (.iconst 0, 1) := by decide +kernel
theorem d_Mod_ran_40 : decode prog_14_method_67_code 40 = .ok (.putfield 151, 3) := by decide +kernel
theorem d_Mod_ran_43 : decode prog_14_method_67_code 43 = .ok (.iload_n 1, 1) := by decide +kernel
theorem d_Mod_ran_44 : decode prog_14_method_67_code 44 = .ok (.iconst 5, 1) := by decide +kernel
theorem d_Mod_ran_45 : decode prog_14_method_67_code 45 = .ok (.if_icmp .ge 55, 3) := by decide +kernel
theorem d_Mod_ran_48 : decode prog_14_method_67_code 48 = .ok (.iload_n 1, 1) := by decide +kernel
theorem d_Mod_ran_49 : decode prog_14_method_67_code 49 = .ok (.ifCond .ne 10, 3) := by decide +kernel
theorem d_Mod_ran_52 : decode prog_14_method_67_code 52 = .ok (.aload_n 0, 1) := by decide +kernel
theorem d_Mod_ran_53 : decode prog_14_method_67_code 53 = .ok (.getfield 331, 3) := by decide +kernel
theorem d_Mod_ran_56 : decode prog_14_method_67_code 56 = .ok (.goto 43, 3) := by decide +kernel
theorem d_Mod_ran_59 : decode prog_14_method_67_code 59 = .ok (.iload_n 1, 1) := by decide +kernel
theorem d_Mod_ran_60 : decode prog_14_method_67_code 60 = .ok (.iconst 1, 1) := by decide +kernel
theorem d_Mod_ran_61 : decode prog_14_method_67_code 61 = .ok (.if_icmp .ne 10, 3) := by decide +kernel
theorem d_Mod_ran_64 : decode prog_14_method_67_code 64 = .ok (.aload_n 0, 1) := by decide +kernel
theorem d_Mod_ran_65 : decode prog_14_method_67_code 65 = .ok (.getfield 346, 3) := by decide +kernel
theorem d_Mod_ran_68 : decode prog_14_method_67_code 68 = .ok (.goto 31, 3) := by decide +kernel
theorem d_Mod_ran_71 : decode prog_14_method_67_code 71 = .ok (.iload_n 1, 1) := by decide +kernel
theorem d_Mod_ran_72 : decode prog_14_method_67_code 72 = .ok (.iconst 2, 1) := by decide +kernel
theorem d_Mod_ran_73 : decode prog_14_method_67_code 73 = .ok (.if_icmp .ne 10, 3) := by decide +kernel
theorem d_Mod_ran_76 : decode prog_14_method_67_code 76 = .ok (.aload_n 0, 1) := by decide +kernel
theorem d_Mod_ran_77 : decode prog_14_method_67_code 77 = .ok (.getfield 419, 3) := by decide +kernel
theorem d_Mod_ran_80 : decode prog_14_method_67_code 80 = .ok (.goto 19, 3) := by decide +kernel
theorem d_Mod_ran_83 : decode prog_14_method_67_code 83 = .ok (.iload_n 1, 1) := by decide +kernel
theorem d_Mod_ran_84 : decode prog_14_method_67_code 84 = .ok (.iconst 3, 1) := by decide +kernel
theorem d_Mod_ran_85 : decode prog_14_method_67_code 85 = .ok (.if_icmp .ne 10, 3) := by decide +kernel
theorem d_Mod_ran_88 : decode prog_14_method_67_code 88 = .ok (.aload_n 0, 1) := by decide +kernel
theorem d_Mod_ran_89 : decode prog_14_method_67_code 89 = .ok (.getfield 387, 3) := by decide +kernel
theorem d_Mod_ran_92 : decode prog_14_method_67_code 92 = .ok (.goto 7, 3) := by decide +kernel
theorem d_Mod_ran_95 : decode prog_14_method_67_code 95 = .ok (.aload_n 0, 1) := by decide +kernel
theorem d_Mod_ran_96 : decode prog_14_method_67_code 96 = .ok (.getfield 368, 3) := by decide +kernel
theorem d_Mod_ran_99 : decode prog_14_method_67_code 99 = .ok (.ireturn, 1) := by decide +kernel
theorem d_Mod_ran_100 : decode prog_14_method_67_code 100 = .ok (.iload_n 1, 1) := by decide +kernel
theorem d_Mod_ran_101 : decode prog_14_method_67_code 101 = .ok (.bipush 100, 2) := by decide +kernel
theorem d_Mod_ran_103 : decode prog_14_method_67_code 103 = .ok (.if_icmp .ge 28, 3) := by decide +kernel
theorem d_Mod_ran_106 : decode prog_14_method_67_code 106 = .ok (.iload_n 1, 1) := by decide +kernel
theorem d_Mod_ran_107 : decode prog_14_method_67_code 107 = .ok (.bipush 10, 2) := by decide +kernel
theorem d_Mod_ran_109 : decode prog_14_method_67_code 109 = .ok (.isub, 1) := by decide +kernel
theorem d_Mod_ran_110 : decode prog_14_method_67_code 110 = .ok (.aload_n 0, 1) := by decide +kernel
theorem d_Mod_ran_111 : decode prog_14_method_67_code 111 = .ok (.getfield 319, 3) := by decide +kernel
theorem d_Mod_ran_114 : decode prog_14_method_67_code 114 = .ok (.if_icmp .ge 15, 3) := by decide +kernel
theorem d_Mod_ran_117 : decode prog_14_method_67_code 117 = .ok (.aload_n 0, 1) := by decide +kernel
theorem d_Mod_ran_118 : decode prog_14_method_67_code 118 = .ok (.getfield 130, 3) := by decide +kernel
theorem d_Mod_ran_121 : decode prog_14_method_67_code 121 = .ok (.iload_n 1, 1) := by decide +kernel
theorem d_Mod_ran_122 : decode prog_14_method_67_code 122 = .ok (.bipush 10, 2) := by decide +kernel
theorem d_Mod_ran_124 : decode prog_14_method_67_code 124 = .ok (.isub, 1) := by decide +kernel
theorem d_Mod_ran_125 : decode prog_14_method_67_code 125 = .ok (.iaload, 1) := by decide +kernel
theorem d_Mod_ran_126 : decode prog_14_method_67_code 126 = .ok (.goto 4, 3) := by decide +kernel
theorem d_Mod_ran_129 : decode prog_14_method_67_code 129 = .ok (.iconst (-1), 1) := by decide +kernel
theorem d_Mod_ran_130 : decode prog_14_method_67_code 130 = .ok (.ireturn, 1) := by decide +kernel
theorem d_Mod_ran_131 : decode prog_14_method_67_code 131 = .ok (.iload_n 1, 1) := by decide +kernel
theorem d_Mod_ran_132 : decode prog_14_method_67_code 132 = .ok (.bipush 100, 2) := by decide +kernel
theorem d_Mod_ran_134 : decode prog_14_method_67_code 134 = .ok (.isub, 1) := by decide +kernel
theorem d_Mod_ran_135 : decode prog_14_method_67_code 135 = .ok (.aload_n 0, 1) := by decide +kernel
theorem d_Mod_ran_136 : decode prog_14_method_67_code 136 = .ok (.getfield 378, 3) := by decide +kernel
theorem d_Mod_ran_139 : decode prog_14_method_67_code 139 = .ok (.if_icmp .ge 15, 3) := by decide +kernel
theorem d_Mod_ran_142 : decode prog_14_method_67_code 142 = .ok (.aload_n 0, 1) := by decide +kernel
theorem d_Mod_ran_143 : decode prog_14_method_67_code 143 = .ok (.getfield 133, 3) := by decide +kernel
theorem d_Mod_ran_146 : decode prog_14_method_67_code 146 = .ok (.iload_n 1, 1) := by decide +kernel
theorem d_Mod_ran_147 : decode prog_14_method_67_code 147 = .ok (.bipush 100, 2) := by decide +kernel
theorem d_Mod_ran_149 : decode prog_14_method_67_code 149 = .ok (.isub, 1) := by decide +kernel
theorem d_Mod_ran_150 : decode prog_14_method_67_code 150 = .ok (.iaload, 1) := by decide +kernel
theorem d_Mod_ran_151 : decode prog_14_method_67_code 151 = .ok (.goto 4, 3) := by decide +kernel
theorem d_Mod_ran_154 : decode prog_14_method_67_code 154 = .ok (.iconst (-1), 1) := by decide +kernel
theorem d_Mod_ran_155 : decode prog_14_method_67_code 155 = .ok (.ireturn, 1) := by decide +kernel
theorem d_Mod_count_0 : decode prog_14_method_68_code 0 = .ok (.iload_n 1, 1) := by decide +kernel
theorem d_Mod_count_1 : decode prog_14_method_68_code 1 = .ok (.iconst 0, 1) := by decide +kernel
theorem d_Mod_count_2 : decode prog_14_method_68_code 2 = .ok (.iconst 2, 1) := by decide +kernel
theorem d_Mod_count_3 : decode prog_14_method_68_code 3 = .ok (.invokestatic 154, 3) := by decide +kernel
theorem d_Mod_count_6 : decode prog_14_method_68_code 6 = .ok (.ifCond .ne 20, 3) := by decide +kernel
theorem d_Mod_count_9 : decode prog_14_method_68_code 9 = .ok (.iload_n 1, 1) := by decide +kernel
theorem d_Mod_count_10 : decode prog_14_method_68_code 10 = .ok (.bipush 10, 2) := by decide +kernel
theorem d_Mod_count_12 : decode prog_14_method_68_code 12 = .ok (.bipush 21, 2) := by decide +kernel
theorem d_Mod_count_14 : decode prog_14_method_68_code 14 = .ok (.invokestatic 154, 3) := by decide +kernel
theorem d_Mod_count_17 : decode prog_14_method_68_code 17 = .ok (.ifCond .ne 9, 3) := by decide +kernel
theorem d_Mod_count_20 : decode prog_14_method_68_code 20 = .ok (.aload_n 0, 1) := by decide +kernel
theorem d_Mod_count_21 : decode prog_14_method_68_code 21 = .ok (.iconst 1, 1) := by decide +kernel
theorem d_Mod_count_22 : decode prog_14_method_68_code 22 = .ok (.invokevirtual 162, 3) := by decide +kernel
theorem d_Mod_count_25 : decode prog_14_method_68_code 25 = .ok (.ireturn, 1) := by decide +kernel
theorem d_Mod_count_26 : decode prog_14_method_68_code 26 = .ok (.aload_n 0, 1) := by decide +kernel
theorem d_Mod_count_27 : decode prog_14_method_68_code 27 = .ok (.iconst 0, 1) := by decide +kernel
theorem d_Mod_count_28 : decode prog_14_method_68_code 28 = .ok (.putfield 151, 3) := by decide +kernel
theorem d_Mod_count_31 : decode prog_14_method_68_code 31 = .ok (.iload_n 1, 1) := by decide +kernel
theorem d_Mod_count_32 : decode prog_14_method_68_code 32 = .ok (.iconst 2, 1) := by decide +kernel
theorem d_Mod_count_33 : decode prog_14_method_68_code 33 = .ok (.if_icmp .le 28, 3) := by decide +kernel
theorem d_Mod_count_36 : decode prog_14_method_68_code 36 = .ok (.iload_n 1, 1) := by decide +kernel
theorem d_Mod_count_37 : decode prog_14_method_68_code 37 = .ok (.bipush 10, 2) := by decide +kernel
theorem d_Mod_count_39 : decode prog_14_method_68_code 39 = .ok (.isub, 1) := by decide +kernel
theorem d_Mod_count_40 : decode prog_14_method_68_code 40 = .ok (.aload_n 0, 1) := by decide +kernel
theorem d_Mod_count_41 : decode prog_14_method_68_code 41 = .ok (.getfield 169, 3) := by decide +kernel
theorem d_Mod_count_44 : decode prog_14_method_68_code 44 = .ok (.if_icmp .ge 15, 3) := by decide +kernel
theorem d_Mod_count_47 : decode prog_14_method_68_code 47 = .ok (.aload_n 0, 1) := by decide +kernel
theorem d_Mod_count_48 : decode prog_14_method_68_code 48 = .ok (.getfield 13, 3) := by decide +kernel
theorem d_Mod_count_51 : decode prog_14_method_68_code 51 = .ok (.iload_n 1, 1) := by decide +kernel
theorem d_Mod_count_52 : decode prog_14_method_68_code 52 = .ok (.bipush 10, 2) := by decide +kernel
theorem d_Mod_count_54 : decode prog_14_method_68_code 54 = .ok (.isub, 1) := by decide +kernel
theorem d_Mod_count_55 : decode prog_14_method_68_code 55 = .ok (.iaload, 1) := by decide +kernel
theorem d_Mod_count_56 : decode prog_14_method_68_code 56 = .ok (.goto 4, 3) := by decide +kernel
theorem d_Mod_count_59 : decode prog_14_method_68_code 59 = .ok (.iconst 0, 1) := by decide +kernel
theorem d_Mod_count_60 : decode prog_14_method_68_code 60 = .ok (.ireturn, 1) := by decide +kernel
theorem d_Mod_count_61 : decode prog_14_method_68_code 61 = .ok (.iload_n 1, 1) := by decide +kernel
theorem d_Mod_count_62 : decode prog_14_method_68_code 62 = .ok (.ifCond .ne 10, 3) := by decide +kernel
theorem d_Mod_count_65 : decode prog_14_method_68_code 65 = .ok (.aload_n 0, 1) := by decide +kernel
theorem d_Mod_count_66 : decode prog_14_method_68_code 66 = .ok (.getfield 166, 3) := by decide +kernel
theorem d_Mod_count_69 : decode prog_14_method_68_code 69 = .ok (.goto 35, 3) := by decide +kernel
theorem d_Mod_count_72 : decode prog_14_method_68_code 72 = .ok (.iload_n 1, 1) := by decide +kernel
theorem d_Mod_count_73 : decode prog_14_method_68_code 73 = .ok (.iconst 1, 1) := by decide +kernel
theorem d_Mod_count_74 : decode prog_14_method_68_code 74 = .ok (.if_icmp .ne 10, 3) := by decide +kernel
theorem d_Mod_count_77 : decode prog_14_method_68_code 77 = .ok (.aload_n 0, 1) := by decide +kernel
theorem d_Mod_count_78 : decode prog_14_method_68_code 78 = .ok (.getfield 169, 3) := by decide +kernel
theorem d_Mod_count_81 : decode prog_14_method_68_code 81 = .ok (.goto 23, 3) := by decide +kernel
theorem d_Mod_count_84 : decode prog_14_method_68_code 84 = .ok (.aload_n 0, 1) := by decide +kernel
theorem d_Mod_count_85 : decode prog_14_method_68_code 85 = .ok (.getfield 293, 3) := by decide +kernel
theorem d_Mod_count_88 : decode prog_14_method_68_code 88 = .ok (.ifCond .eq 15, 3) := by decide +kernel
theorem d_Mod_count_91 : decode prog_14_method_68_code 91 = .ok (.aload_n 0, 1) := by decide +kernel
theorem d_Mod_count_92 : decode prog_14_method_68_code 92 = .ok (.getfield 69, 3) := by decide +kernel
theorem d_Mod_count_95 : decode prog_14_method_68_code 95 = .ok (.aload_n 0, 1) := by decide +kernel
theorem d_Mod_count_96 : decode prog_14_method_68_code 96 = .ok (.getfield 284, 3) := by decide +kernel
theorem d_Mod_count_99 : decode prog_14_method_68_code 99 = .ok (.iaload, 1) := by decide +kernel
theorem d_Mod_count_100 : decode prog_14_method_68_code 100 = .ok (.goto 4, 3) := by decide +kernel
theorem d_Mod_count_103 : decode prog_14_method_68_code 103 = .ok (.iconst 0, 1) := by decide +kernel
theorem d_Mod_count_104 : decode prog_14_method_68_code 104 = .ok (.ireturn, 1) := by decide +kernel
