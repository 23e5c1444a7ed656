theorem dL_refusesAny_284 : decode cL_refusesAny 284 = .ok (.sipush 1000, 3) := by decide +kernel
theorem dL_refusesAny_287 : decode cL_refusesAny 287 = .ok (.isub, 1) := by decide +kernel
theorem dL_refusesAny_288 : decode cL_refusesAny 288 = .ok (.invokevirtual 50, 3) := by decide +kernel
theorem dL_refusesAny_291 : decode cL_refusesAny 291 = .ok (.bipush (-5), 2) := by decide +kernel
theorem dL_refusesAny_293 : decode cL_refusesAny 293 = .ok (.if_icmp .eq 5, 3) := by decide +kernel
theorem dL_refusesAny_296 : decode cL_refusesAny 296 = .ok (.iconst 0, 1) := by decide +kernel
theorem dL_refusesAny_297 : decode cL_refusesAny 297 = .ok (.ireturn, 1) := by decide +kernel
theorem dL_refusesAny_298 : decode cL_refusesAny 298 = .ok (.iinc 3 1, 3) := by decide +kernel
theorem dL_refusesAny_301 : decode cL_refusesAny 301 = .ok (.goto (-166), 3) := by decide +kernel
theorem dL_refusesAny_304 : decode cL_refusesAny 304 = .ok (.aload_n 0, 1) := by decide +kernel
theorem dL_refusesAny_305 : decode cL_refusesAny 305 = .ok (.iload_n 1, 1) := by decide +kernel
theorem dL_refusesAny_306 : decode cL_refusesAny 306 = .ok (.ifCond .ne 7, 3) := by decide +kernel
theorem dL_refusesAny_309 : decode cL_refusesAny 309 = .ok (.iconst (-1), 1) := by decide +kernel
theorem dL_refusesAny_310 : decode cL_refusesAny 310 = .ok (.goto 8, 3) := by decide +kernel
theorem dL_refusesAny_313 : decode cL_refusesAny 313 = .ok (.aload_n 0, 1) := by decide +kernel
theorem dL_refusesAny_314 : decode cL_refusesAny 314 = .ok (.iconst 1, 1) := by decide +kernel
theorem dL_refusesAny_315 : decode cL_refusesAny 315 = .ok (.invokevirtual 19, 3) := by decide +kernel
theorem dL_refusesAny_318 : decode cL_refusesAny 318 = .ok (.bipush 99, 2) := by decide +kernel
theorem dL_refusesAny_320 : decode cL_refusesAny 320 = .ok (.invokevirtual 13, 3) := by decide +kernel
theorem dL_refusesAny_323 : decode cL_refusesAny 323 = .ok (.iconst (-1), 1) := by decide +kernel
theorem dL_refusesAny_324 : decode cL_refusesAny 324 = .ok (.if_icmp .ne 109, 3) := by decide +kernel
theorem dL_refusesAny_327 : decode cL_refusesAny 327 = .ok (.aload_n 0, 1) := by decide +kernel
theorem dL_refusesAny_328 : decode cL_refusesAny 328 = .ok (.iconst 0, 1) := by decide +kernel
theorem dL_refusesAny_329 : decode cL_refusesAny 329 = .ok (.iload_n 2, 1) := by decide +kernel
theorem dL_refusesAny_330 : decode cL_refusesAny 330 = .ok (.invokevirtual 13, 3) := by decide +kernel
theorem dL_refusesAny_333 : decode cL_refusesAny 333 = .ok (.bipush (-2), 2) := by decide +kernel
theorem dL_refusesAny_335 : decode cL_refusesAny 335 = .ok (.if_icmp .ne 98, 3) := by decide +kernel
theorem dL_refusesAny_338 : decode cL_refusesAny 338 = .ok (.aload_n 0, 1) := by decide +kernel
theorem dL_refusesAny_339 : decode cL_refusesAny 339 = .ok (.iload_n 2, 1) := by decide +kernel
theorem dL_refusesAny_340 : decode cL_refusesAny 340 = .ok (.invokevirtual 29, 3) := by decide +kernel
theorem dL_refusesAny_343 : decode cL_refusesAny 343 = .ok (.iconst (-1), 1) := by decide +kernel
theorem dL_refusesAny_344 : decode cL_refusesAny 344 = .ok (.if_icmp .ne 89, 3) := by decide +kernel
theorem dL_refusesAny_347 : decode cL_refusesAny 347 = .ok (.aload_n 0, 1) := by decide +kernel
theorem dL_refusesAny_348 : decode cL_refusesAny 348 = .ok (.iload_n 1, 1) := by decide +kernel
theorem dL_refusesAny_349 : decode cL_refusesAny 349 = .ok (.ifCond .ne 7, 3) := by decide +kernel
theorem dL_refusesAny_352 : decode cL_refusesAny 352 = .ok (.iconst (-1), 1) := by decide +kernel
theorem dL_refusesAny_353 : decode cL_refusesAny 353 = .ok (.goto 8, 3) := by decide +kernel
theorem dL_refusesAny_356 : decode cL_refusesAny 356 = .ok (.aload_n 0, 1) := by decide +kernel
theorem dL_refusesAny_357 : decode cL_refusesAny 357 = .ok (.iconst 2, 1) := by decide +kernel
theorem dL_refusesAny_358 : decode cL_refusesAny 358 = .ok (.invokevirtual 19, 3) := by decide +kernel
theorem dL_refusesAny_361 : decode cL_refusesAny 361 = .ok (.bipush 99, 2) := by decide +kernel
theorem dL_refusesAny_363 : decode cL_refusesAny 363 = .ok (.invokevirtual 26, 3) := by decide +kernel
theorem dL_refusesAny_366 : decode cL_refusesAny 366 = .ok (.iconst (-1), 1) := by decide +kernel
theorem dL_refusesAny_367 : decode cL_refusesAny 367 = .ok (.if_icmp .ne 66, 3) := by decide +kernel
theorem dL_refusesAny_370 : decode cL_refusesAny 370 = .ok (.aload_n 0, 1) := by decide +kernel
theorem dL_refusesAny_371 : decode cL_refusesAny 371 = .ok (.iload_n 1, 1) := by decide +kernel
theorem dL_refusesAny_372 : decode cL_refusesAny 372 = .ok (.ifCond .ne 7, 3) := by decide +kernel
theorem dL_refusesAny_375 : decode cL_refusesAny 375 = .ok (.iconst (-1), 1) := by decide +kernel
theorem dL_refusesAny_376 : decode cL_refusesAny 376 = .ok (.goto 6, 3) := by decide +kernel
theorem dL_refusesAny_379 : decode cL_refusesAny 379 = .ok (.sipush 2001, 3) := by decide +kernel
theorem dL_refusesAny_382 : decode cL_refusesAny 382 = .ok (.invokevirtual 56, 3) := by decide +kernel
theorem dL_refusesAny_385 : decode cL_refusesAny 385 = .ok (.bipush (-2), 2) := by decide +kernel
theorem dL_refusesAny_387 : decode cL_refusesAny 387 = .ok (.if_icmp .ne 46, 3) := by decide +kernel
theorem dL_refusesAny_390 : decode cL_refusesAny 390 = .ok (.aload_n 0, 1) := by decide +kernel
theorem dL_refusesAny_391 : decode cL_refusesAny 391 = .ok (.iload_n 1, 1) := by decide +kernel
theorem dL_refusesAny_392 : decode cL_refusesAny 392 = .ok (.ifCond .ne 7, 3) := by decide +kernel
theorem dL_refusesAny_395 : decode cL_refusesAny 395 = .ok (.iconst (-1), 1) := by decide +kernel
theorem dL_refusesAny_396 : decode cL_refusesAny 396 = .ok (.goto 8, 3) := by decide +kernel
theorem dL_refusesAny_399 : decode cL_refusesAny 399 = .ok (.aload_n 0, 1) := by decide +kernel
theorem dL_refusesAny_400 : decode cL_refusesAny 400 = .ok (.iconst 1, 1) := by decide +kernel
theorem dL_refusesAny_401 : decode cL_refusesAny 401 = .ok (.invokevirtual 19, 3) := by decide +kernel
theorem dL_refusesAny_404 : decode cL_refusesAny 404 = .ok (.iconst (-1), 1) := by decide +kernel
theorem dL_refusesAny_405 : decode cL_refusesAny 405 = .ok (.invokevirtual 59, 3) := by decide +kernel
theorem dL_refusesAny_408 : decode cL_refusesAny 408 = .ok (.iconst (-1), 1) := by decide +kernel
theorem dL_refusesAny_409 : decode cL_refusesAny 409 = .ok (.if_icmp .ne 24, 3) := by decide +kernel
theorem dL_refusesAny_412 : decode cL_refusesAny 412 = .ok (.aload_n 0, 1) := by decide +kernel
theorem dL_refusesAny_413 : decode cL_refusesAny 413 = .ok (.iconst 0, 1) := by decide +kernel
theorem dL_refusesAny_414 : decode cL_refusesAny 414 = .ok (.iload_n 1, 1) := by decide +kernel
theorem dL_refusesAny_415 : decode cL_refusesAny 415 = .ok (.ifCond .ne 7, 3) := by decide +kernel
theorem dL_refusesAny_418 : decode cL_refusesAny 418 = .ok (.iconst (-1), 1) := by decide +kernel
theorem dL_refusesAny_419 : decode cL_refusesAny 419 = .ok (.goto 6, 3) := by decide +kernel
theorem dL_refusesAny_422 : decode cL_refusesAny 422 = .ok (.sipush 201, 3) := by decide +kernel
theorem dL_refusesAny_425 : decode cL_refusesAny 425 = .ok (.invokevirtual 59, 3) := by decide +kernel
theorem dL_refusesAny_428 : decode cL_refusesAny 428 = .ok (.bipush (-2), 2) := by decide +kernel
theorem dL_refusesAny_430 : decode cL_refusesAny 430 = .ok (.if_icmp .eq 5, 3) := by decide +kernel
theorem dL_refusesAny_433 : decode cL_refusesAny 433 = .ok (.iconst 0, 1) := by decide +kernel
theorem dL_refusesAny_434 : decode cL_refusesAny 434 = .ok (.ireturn, 1) := by decide +kernel
theorem dL_refusesAny_435 : decode cL_refusesAny 435 = .ok (.aload_n 0, 1) := by decide +kernel
theorem dL_refusesAny_436 : decode cL_refusesAny 436 = .ok (.iload_n 1, 1) := by decide +kernel
theorem dL_refusesAny_437 : decode cL_refusesAny 437 = .ok (.ifCond .ne 7, 3) := by decide +kernel
theorem dL_refusesAny_440 : decode cL_refusesAny 440 = .ok (.iconst (-1), 1) := by decide +kernel
theorem dL_refusesAny_441 : decode cL_refusesAny 441 = .ok (.goto 4, 3) := by decide +kernel
theorem dL_refusesAny_444 : decode cL_refusesAny 444 = .ok (.iconst 0, 1) := by decide +kernel
theorem dL_refusesAny_445 : decode cL_refusesAny 445 = .ok (.iload_n 1, 1) := by decide +kernel
theorem dL_refusesAny_446 : decode cL_refusesAny 446 = .ok (.ifCond .ne 7, 3) := by decide +kernel
theorem dL_refusesAny_449 : decode cL_refusesAny 449 = .ok (.iconst 0, 1) := by decide +kernel
theorem dL_refusesAny_450 : decode cL_refusesAny 450 = .ok (.goto 4, 3) := by decide +kernel
theorem dL_refusesAny_453 : decode cL_refusesAny 453 = .ok (.iconst 3, 1) := by decide +kernel
theorem dL_refusesAny_454 : decode cL_refusesAny 454 = .ok (.invokevirtual 23, 3) := by decide +kernel
theorem dL_refusesAny_457 : decode cL_refusesAny 457 = .ok (.bipush (-2), 2) := by decide +kernel
theorem dL_refusesAny_459 : decode cL_refusesAny 459 = .ok (.if_icmp .ne 104, 3) := by decide +kernel
theorem dL_refusesAny_462 : decode cL_refusesAny 462 = .ok (.aload_n 0, 1) := by decide +kernel
theorem dL_refusesAny_463 : decode cL_refusesAny 463 = .ok (.bipush 10, 2) := by decide +kernel
theorem dL_refusesAny_465 : decode cL_refusesAny 465 = .ok (.iconst 0, 1) := by decide +kernel
theorem dL_refusesAny_466 : decode cL_refusesAny 466 = .ok (.invokevirtual 23, 3) := by decide +kernel
theorem dL_refusesAny_469 : decode cL_refusesAny 469 = .ok (.bipush (-5), 2) := by decide +kernel
theorem dL_refusesAny_471 : decode cL_refusesAny 471 = .ok (.if_icmp .ne 92, 3) := by decide +kernel
theorem dL_refusesAny_474 : decode cL_refusesAny 474 = .ok (.aload_n 0, 1) := by decide +kernel
theorem dL_refusesAny_475 : decode cL_refusesAny 475 = .ok (.iload_n 1, 1) := by decide +kernel
theorem dL_refusesAny_476 : decode cL_refusesAny 476 = .ok (.ifCond .ne 7, 3) := by decide +kernel
theorem dL_refusesAny_479 : decode cL_refusesAny 479 = .ok (.iconst (-1), 1) := by decide +kernel
theorem dL_refusesAny_480 : decode cL_refusesAny 480 = .ok (.goto 5, 3) := by decide +kernel
theorem dL_refusesAny_483 : decode cL_refusesAny 483 = .ok (.bipush 14, 2) := by decide +kernel
theorem dL_refusesAny_485 : decode cL_refusesAny 485 = .ok (.invokevirtual 19, 3) := by decide +kernel
theorem dL_refusesAny_488 : decode cL_refusesAny 488 = .ok (.bipush (-2), 2) := by decide +kernel
theorem dL_refusesAny_490 : decode cL_refusesAny 490 = .ok (.if_icmp .ne 73, 3) := by decide +kernel
theorem dL_refusesAny_493 : decode cL_refusesAny 493 = .ok (.aload_n 0, 1) := by decide +kernel
theorem dL_refusesAny_494 : decode cL_refusesAny 494 = .ok (.iconst 3, 1) := by decide +kernel
theorem dL_refusesAny_495 : decode cL_refusesAny 495 = .ok (.invokevirtual 19, 3) := by decide +kernel
theorem dL_refusesAny_498 : decode cL_refusesAny 498 = .ok (.iconst 1, 1) := by decide +kernel
theorem dL_refusesAny_499 : decode cL_refusesAny 499 = .ok (.if_icmp .eq 12, 3) := by decide +kernel
theorem dL_refusesAny_502 : decode cL_refusesAny 502 = .ok (.aload_n 0, 1) := by decide +kernel
theorem dL_refusesAny_503 : decode cL_refusesAny 503 = .ok (.invokevirtual 62, 3) := by decide +kernel
theorem dL_refusesAny_506 : decode cL_refusesAny 506 = .ok (.bipush (-4), 2) := by decide +kernel
theorem dL_refusesAny_508 : decode cL_refusesAny 508 = .ok (.if_icmp .ne 55, 3) := by decide +kernel
theorem dL_refusesAny_511 : decode cL_refusesAny 511 = .ok (.aload_n 0, 1) := by decide +kernel
theorem dL_refusesAny_512 : decode cL_refusesAny 512 = .ok (.iconst 3, 1) := by decide +kernel
theorem dL_refusesAny_513 : decode cL_refusesAny 513 = .ok (.invokevirtual 19, 3) := by decide +kernel
theorem dL_refusesAny_516 : decode cL_refusesAny 516 = .ok (.iconst 1, 1) := by decide +kernel
theorem dL_refusesAny_517 : decode cL_refusesAny 517 = .ok (.if_icmp .ne 25, 3) := by decide +kernel
theorem dL_refusesAny_520 : decode cL_refusesAny 520 = .ok (.aload_n 0, 1) := by decide +kernel
theorem dL_refusesAny_521 : decode cL_refusesAny 521 = .ok (.invokevirtual 65, 3) := by decide +kernel
theorem dL_refusesAny_524 : decode cL_refusesAny 524 = .ok (.bipush (-4), 2) := by decide +kernel
theorem dL_refusesAny_526 : decode cL_refusesAny 526 = .ok (.if_icmp .ne 37, 3) := by decide +kernel
theorem dL_refusesAny_529 : decode cL_refusesAny 529 = .ok (.aload_n 0, 1) := by decide +kernel
theorem dL_refusesAny_530 : decode cL_refusesAny 530 = .ok (.iconst 1, 1) := by decide +kernel
theorem dL_refusesAny_531 : decode cL_refusesAny 531 = .ok (.invokevirtual 47, 3) := by decide +kernel
theorem dL_refusesAny_534 : decode cL_refusesAny 534 = .ok (.bipush (-4), 2) := by decide +kernel
theorem dL_refusesAny_536 : decode cL_refusesAny 536 = .ok (.if_icmp .ne 27, 3) := by decide +kernel
theorem dL_refusesAny_539 : decode cL_refusesAny 539 = .ok (.goto 20, 3) := by decide +kernel
theorem dL_refusesAny_542 : decode cL_refusesAny 542 = .ok (.aload_n 0, 1) := by decide +kernel
theorem dL_refusesAny_543 : decode cL_refusesAny 543 = .ok (.iconst 3, 1) := by decide +kernel
theorem dL_refusesAny_544 : decode cL_refusesAny 544 = .ok (.invokevirtual 19, 3) := by decide +kernel
theorem dL_refusesAny_547 : decode cL_refusesAny 547 = .ok (.ifCond .ne 12, 3) := by decide +kernel
theorem dL_refusesAny_550 : decode cL_refusesAny 550 = .ok (.aload_n 0, 1) := by decide +kernel
theorem dL_refusesAny_551 : decode cL_refusesAny 551 = .ok (.invokevirtual 68, 3) := by decide +kernel
theorem dL_refusesAny_554 : decode cL_refusesAny 554 = .ok (.bipush (-5), 2) := by decide +kernel
theorem dL_refusesAny_556 : decode cL_refusesAny 556 = .ok (.if_icmp .ne 7, 3) := by decide +kernel
theorem dL_refusesAny_559 : decode cL_refusesAny 559 = .ok (.iconst 1, 1) := by decide +kernel
theorem dL_refusesAny_560 : decode cL_refusesAny 560 = .ok (.goto 4, 3) := by decide +kernel
theorem dL_refusesAny_563 : decode cL_refusesAny 563 = .ok (.iconst 0, 1) := by decide +kernel
theorem dL_refusesAny_564 : decode cL_refusesAny 564 = .ok (.ireturn, 1) := by decide +kernel
set_option maxRecDepth 20000 in
theorem gpL_refused_L_seen_p0 : GoodIn wsL_refused [.code yL_seen cL_seen 4 (some .long)] := goodIn_r _ [4] rfl (by decide +kernel)
set_option maxRecDepth 20000 in
theorem gpL_refused_L_seen_p1 : GoodIn wsL_refused wsL_seen_r1 := goodIn_r _ [5, 6, 7, 8, 9, 10, 11, 12, 13, 14, 15, 16, 17, 18, 19, 20, 21, 22, 23, 24, 25, 26, 27, 28] rfl (by decide +kernel)
set_option maxRecDepth 20000 in
theorem gpL_refused_L_seen_p2 : GoodIn wsL_refused wsL_seen_r2 := goodIn_r _ [29, 30, 31, 32, 33, 34, 35, 36, 37, 38, 39, 40, 41, 42, 43, 44, 45, 46, 47, 48, 49, 50, 51, 52] rfl (by decide +kernel)
set_option maxRecDepth 20000 in
theorem gpL_refused_L_seen_p3 : GoodIn wsL_refused wsL_seen_r3 := goodIn_r _ [53, 54, 55, 56, 57, 58, 59, 60, 61, 62, 63, 64, 65, 66, 67, 68, 69, 70, 71, 72, 73, 74, 75, 76] rfl (by decide +kernel)
set_option maxRecDepth 20000 in
theorem gpL_refused_L_seen_p4 : GoodIn wsL_refused wsL_seen_r4 := goodIn_r _ [77, 78, 79, 80, 81, 82, 83, 84, 85, 86, 87, 88, 89, 90, 91, 92, 93, 94, 95, 96, 97, 98, 99, 100] rfl (by decide +kernel)
set_option maxRecDepth 20000 in
theorem gpL_refused_L_seen_p5 : GoodIn wsL_refused wsL_seen_r5 := goodIn_r _ [101, 102, 103, 104, 105, 106, 107, 108, 109, 110, 111, 112, 113, 114, 115, 116, 117, 118, 119, 120, 121, 122, 123, 124] rfl (by decide +kernel)
set_option maxRecDepth 20000 in
theorem gpL_refused_L_seen_p6 : GoodIn wsL_refused wsL_seen_r6 := goodIn_r _ [125, 126, 127, 128, 129, 130, 131, 132, 133, 134, 135, 136, 137, 138, 139, 140, 141, 142, 143, 144, 145, 146, 147, 148] rfl (by decide +kernel)
set_option maxRecDepth 20000 in
theorem gpL_refused_L_seen_p7 : GoodIn wsL_refused wsL_seen_r7 := goodIn_r _ [149, 150, 151, 152, 153, 154, 155, 156, 157, 158, 159, 160, 161, 162, 163, 164, 165, 166, 167, 168, 169, 170, 171, 172] rfl (by decide +kernel)
set_option maxRecDepth 20000 in
theorem gpL_refused_L_seen_p8 : GoodIn wsL_refused wsL_seen_r8 := goodIn_r _ [173, 174, 175, 176, 177, 178, 179, 180, 181, 182, 183, 184, 185, 186, 187, 188, 189, 190, 191, 192, 193, 194, 195, 196] rfl (by decide +kernel)
set_option maxRecDepth 20000 in
theorem gpL_refused_L_seen_p9 : GoodIn wsL_refused wsL_seen_r9 := goodIn_r _ [197, 198, 199, 200, 201, 202, 203, 204, 205, 206, 207, 208, 209, 210, 211, 212, 213, 214, 215, 216, 217, 218, 219, 220] rfl (by decide +kernel)
set_option maxRecDepth 20000 in
theorem gpL_refused_L_seen_p10 : GoodIn wsL_refused wsL_seen_r10 := goodIn_r _ [221, 222, 223, 224, 225, 226, 227, 228, 229, 230, 231, 232, 233, 234, 235, 236, 237, 238, 239, 240, 241, 242, 243, 244] rfl (by decide +kernel)
set_option maxRecDepth 20000 in
theorem gpL_refused_L_seen_p11 : GoodIn wsL_refused wsL_seen_r11 := goodIn_r _ [245] rfl (by decide +kernel)
set_option maxRecDepth 20000 in
theorem gpL_refused_L_seen_p12 : GoodIn wsL_refused wsX60 := goodIn_r _ [325, 326, 327, 328, 329, 330, 331] rfl (by decide +kernel)
set_option maxRecDepth 20000 in
theorem gpL_refused_L_seen_p13 : GoodIn wsL_refused wsX40 := goodIn_r _ [332, 333, 334, 335, 336, 337, 338, 339, 340, 341, 342, 343] rfl (by decide +kernel)
set_option maxRecDepth 20000 in
theorem gpL_refused_L_seen_p14 : GoodIn wsL_refused wsX00 := goodIn_r _ [344, 345, 346, 347, 348, 349, 350, 351] rfl (by decide +kernel)
set_option maxRecDepth 20000 in
theorem gpL_refused_L_seen_p15 : GoodIn wsL_refused wsX30 := goodIn_r _ [352, 353, 354, 355, 356] rfl (by decide +kernel)
set_option maxRecDepth 20000 in
theorem gpL_refused_L_seen_p16 : GoodIn wsL_refused wsX10 := goodIn_r _ [357, 358] rfl (by decide +kernel)
set_option maxRecDepth 20000 in
theorem gpL_refused_L_seen_p17 : GoodIn wsL_refused wsX50 := goodIn_r _ [359, 360, 361] rfl (by decide +kernel)
set_option maxRecDepth 20000 in
theorem gpL_refused_L_seen_p18 : GoodIn wsL_refused wsX20 := goodIn_r _ [362, 363, 364, 365, 366] rfl (by decide +kernel)
set_option maxRecDepth 20000 in
theorem ggL_refused_L_seen : GoodIn wsL_refused wsL_seen := (goodIn_app (a := [.code yL_seen cL_seen 4 (some .long)]) gpL_refused_L_seen_p0 (goodIn_app (goodIn_app (goodIn_app (goodIn_app (goodIn_app (goodIn_app (goodIn_app (goodIn_app gpL_refused_L_seen_p1 (goodIn_app gpL_refused_L_seen_p2 (goodIn_app gpL_refused_L_seen_p3 (goodIn_app gpL_refused_L_seen_p4 (goodIn_app gpL_refused_L_seen_p5 (goodIn_app gpL_refused_L_seen_p6 (goodIn_app gpL_refused_L_seen_p7 (goodIn_app gpL_refused_L_seen_p8 (goodIn_app gpL_refused_L_seen_p9 (goodIn_app gpL_refused_L_seen_p10 gpL_refused_L_seen_p11)))))))))) gpL_refused_L_seen_p12) gpL_refused_L_seen_p13) gpL_refused_L_seen_p14) gpL_refused_L_seen_p15) gpL_refused_L_seen_p16) gpL_refused_L_seen_p17) gpL_refused_L_seen_p18))
set_option maxRecDepth 20000 in
theorem gL_refused_L_seen : GoodIn wsL_refused (va_wsS RL 71 yL_seen wsL_seen) := goodIn_app (goodIn_of _ (by decide +kernel)) ggL_refused_L_seen
set_option maxRecDepth 20000 in
theorem ggL_refused_X6_count : GoodIn wsL_refused wsX6_count := goodIn_r _ [34, 12, 35, 13, 36, 37, 38, 39, 40, 41, 42, 43, 44, 45, 46, 47, 48, 49, 50, 51, 25, 52, 53, 27, 54, 55, 56, 57, 58, 59, 60, 61, 62, 63, 64, 65, 66, 67, 68, 69, 70, 71, 72, 10, 73, 325, 326, 327, 328, 329, 330, 331, 332, 333, 334, 335, 336, 337, 338, 339, 340, 341, 342, 343, 344, 345, 346, 347, 348, 349, 350, 351, 352, 353, 354, 355, 356, 357, 358, 359, 360, 361] rfl (by decide +kernel)
set_option maxRecDepth 20000 in
theorem gL_refused_X6_count : GoodIn wsL_refused (wsV RL 19 RX6 yX6_count wsX6_count) := goodIn_app (goodIn_of _ (by decide +kernel)) ggL_refused_X6_count
set_option maxRecDepth 20000 in
theorem gpL_refused_L_refusesAny_p0 : GoodIn wsL_refused [.code yL_refusesAny cL_refusesAny 6 (some .boolean)] := goodIn_r _ [248] rfl (by decide +kernel)
set_option maxRecDepth 20000 in
theorem gpL_refused_L_refusesAny_p1 : GoodIn wsL_refused wsL_refusesAny_r1 := goodIn_r _ [249, 250, 251, 10, 252, 12, 13, 36, 45, 39, 253, 254, 255, 256, 257, 258, 259, 260, 261, 262, 263, 264, 158, 159] rfl (by decide +kernel)
set_option maxRecDepth 20000 in
theorem gpL_refused_L_refusesAny_p2 : GoodIn wsL_refused wsL_refusesAny_r2 := goodIn_r _ [68, 160, 71, 161, 162, 163, 164, 145, 111, 165, 70, 135, 166, 167, 168, 169, 170, 171, 172, 173, 174, 25, 175, 27] rfl (by decide +kernel)
set_option maxRecDepth 20000 in
theorem gpL_refused_L_refusesAny_p3 : GoodIn wsL_refused wsL_refusesAny_r3 := goodIn_r _ [53, 176, 177, 178, 179, 180, 181, 182, 183, 184, 185, 104, 186, 106, 116, 187, 117, 118, 188, 189, 190, 191, 86, 192] rfl (by decide +kernel)
set_option maxRecDepth 20000 in
theorem gpL_refused_L_refusesAny_p4 : GoodIn wsL_refused wsL_refusesAny_r4 := goodIn_r _ [193, 88, 194, 195, 196, 197, 265, 266, 267, 268, 54, 55, 56, 57, 62, 63, 64, 31, 32, 33, 34, 35, 37, 38] rfl (by decide +kernel)
set_option maxRecDepth 20000 in
theorem gpL_refused_L_refusesAny_p5 : GoodIn wsL_refused wsL_refusesAny_r5 := goodIn_r _ [40, 41, 42, 43, 44, 46, 47, 48, 49, 50, 51, 52, 58, 59, 60, 61, 65, 66, 67, 69, 72, 73, 269, 270] rfl (by decide +kernel)
set_option maxRecDepth 20000 in
theorem gpL_refused_L_refusesAny_p6 : GoodIn wsL_refused wsL_refusesAny_r6 := goodIn_r _ [271, 272, 15, 14, 16, 22, 23, 24, 26, 119, 120, 121, 122, 123, 124, 125, 273, 274, 275, 276, 277, 278, 279, 280] rfl (by decide +kernel)
set_option maxRecDepth 20000 in
theorem gpL_refused_L_refusesAny_p7 : GoodIn wsL_refused wsL_refusesAny_r7 := goodIn_r _ [281, 282, 283, 284, 285, 286, 287, 288, 289, 290, 146, 291, 292, 293, 294, 295, 296, 297, 298, 299, 203, 204, 205, 206] rfl (by decide +kernel)
set_option maxRecDepth 20000 in
theorem gpL_refused_L_refusesAny_p8 : GoodIn wsL_refused wsL_refusesAny_r8 := goodIn_r _ [202, 207, 208, 209, 210, 211, 212, 213, 214, 215, 216, 217, 218, 219, 132, 133, 134, 136, 137, 138, 139, 102, 103, 105] rfl (by decide +kernel)
set_option maxRecDepth 20000 in
theorem gpL_refused_L_refusesAny_p9 : GoodIn wsL_refused wsL_refusesAny_r9 := goodIn_r _ [140, 108, 109, 110, 112, 113, 114, 115, 141, 142, 143, 144, 29, 30, 147, 148, 149, 150, 151, 220, 221, 222, 223, 224] rfl (by decide +kernel)
set_option maxRecDepth 20000 in
theorem gpL_refused_L_refusesAny_p10 : GoodIn wsL_refused wsL_refusesAny_r10 := goodIn_r _ [225, 226, 227, 228, 229, 230, 231, 232, 233, 234, 235, 236, 237, 238, 239, 240, 241, 242, 243, 244, 245, 7, 8, 9] rfl (by decide +kernel)
set_option maxRecDepth 20000 in
theorem gpL_refused_L_refusesAny_p11 : GoodIn wsL_refused wsL_refusesAny_r11 := goodIn_r _ [11, 17, 18, 19, 20, 21, 28, 93, 94, 95, 96, 97, 98, 99, 100, 101, 107, 300, 301, 302, 303, 304, 305, 306] rfl (by decide +kernel)
set_option maxRecDepth 20000 in
theorem gpL_refused_L_refusesAny_p12 : GoodIn wsL_refused wsL_refusesAny_r12 := goodIn_r _ [307, 308, 156, 157, 74, 75, 76, 77, 78, 79, 80, 81, 82, 83, 84, 85, 87, 89, 90, 91, 92, 309, 310, 311] rfl (by decide +kernel)
set_option maxRecDepth 20000 in
theorem gpL_refused_L_refusesAny_p13 : GoodIn wsL_refused wsL_refusesAny_r13 := goodIn_r _ [312, 198, 199, 200, 201, 313, 314, 315, 316, 317, 318, 319, 320, 321, 322, 323, 324] rfl (by decide +kernel)
set_option maxRecDepth 20000 in
theorem gpL_refused_L_refusesAny_p14 : GoodIn wsL_refused wsX60 := goodIn_r _ [325, 326, 327, 328, 329, 330, 331] rfl (by decide +kernel)
set_option maxRecDepth 20000 in
theorem gpL_refused_L_refusesAny_p15 : GoodIn wsL_refused wsX40 := goodIn_r _ [332, 333, 334, 335, 336, 337, 338, 339, 340, 341, 342, 343] rfl (by decide +kernel)
set_option maxRecDepth 20000 in
theorem gpL_refused_L_refusesAny_p16 : GoodIn wsL_refused wsX00 := goodIn_r _ [344, 345, 346, 347, 348, 349, 350, 351] rfl (by decide +kernel)
set_option maxRecDepth 20000 in
theorem gpL_refused_L_refusesAny_p17 : GoodIn wsL_refused wsX10 := goodIn_r _ [357, 358] rfl (by decide +kernel)
set_option maxRecDepth 20000 in
theorem gpL_refused_L_refusesAny_p18 : GoodIn wsL_refused wsX30 := goodIn_r _ [352, 353, 354, 355, 356] rfl (by decide +kernel)
set_option maxRecDepth 20000 in
theorem gpL_refused_L_refusesAny_p19 : GoodIn wsL_refused wsX20 := goodIn_r _ [362, 363, 364, 365, 366] rfl (by decide +kernel)
set_option maxRecDepth 20000 in
theorem gpL_refused_L_refusesAny_p20 : GoodIn wsL_refused wsX50 := goodIn_r _ [359, 360, 361] rfl (by decide +kernel)
set_option maxRecDepth 20000 in
theorem ggL_refused_L_refusesAny : GoodIn wsL_refused wsL_refusesAny := (goodIn_app (a := [.code yL_refusesAny cL_refusesAny 6 (some .boolean)]) gpL_refused_L_refusesAny_p0 (goodIn_app (goodIn_app (goodIn_app (goodIn_app (goodIn_app (goodIn_app (goodIn_app (goodIn_app gpL_refused_L_refusesAny_p1 (goodIn_app gpL_refused_L_refusesAny_p2 (goodIn_app gpL_refused_L_refusesAny_p3 (goodIn_app gpL_refused_L_refusesAny_p4 (goodIn_app gpL_refused_L_refusesAny_p5 (goodIn_app gpL_refused_L_refusesAny_p6 (goodIn_app gpL_refused_L_refusesAny_p7 (goodIn_app gpL_refused_L_refusesAny_p8 (goodIn_app gpL_refused_L_refusesAny_p9 (goodIn_app gpL_refused_L_refusesAny_p10 (goodIn_app gpL_refused_L_refusesAny_p11 (goodIn_app gpL_refused_L_refusesAny_p12 gpL_refused_L_refusesAny_p13)))))))))))) gpL_refused_L_refusesAny_p14) gpL_refused_L_refusesAny_p15) gpL_refused_L_refusesAny_p16) gpL_refused_L_refusesAny_p17) gpL_refused_L_refusesAny_p18) gpL_refused_L_refusesAny_p19) gpL_refused_L_refusesAny_p20))
set_option maxRecDepth 20000 in
theorem gL_refused_L_refusesAny : GoodIn wsL_refused (va_wsS RL 75 yL_refusesAny wsL_refusesAny) := goodIn_app (goodIn_of _ (by decide +kernel)) ggL_refused_L_refusesAny
theorem dL_refused_0 : decode cL_refused 0 = .ok (.aload_n 0, 1) := by decide +kernel
theorem dL_refused_1 : decode cL_refused 1 = .ok (.invokestatic 71, 3) := by decide +kernel
theorem dL_refused_4 : decode cL_refused 4 = .ok (.lstore_n 1, 1) := by decide +kernel
theorem dL_refused_5 : decode cL_refused 5 = .ok (.aload_n 0, 1) := by decide +kernel
theorem dL_refused_6 : decode cL_refused 6 = .ok (.bipush 12, 2) := by decide +kernel
theorem dL_refused_8 : decode cL_refused 8 = .ok (.invokevirtual 19, 3) := by decide +kernel
theorem dL_refused_11 : decode cL_refused 11 = .ok (.istore_n 3, 1) := by decide +kernel
theorem dL_refused_12 : decode cL_refused 12 = .ok (.aload_n 0, 1) := by decide +kernel
theorem dL_refused_13 : decode cL_refused 13 = .ok (.bipush 13, 2) := by decide +kernel
theorem dL_refused_15 : decode cL_refused 15 = .ok (.invokevirtual 19, 3) := by decide +kernel
theorem dL_refused_18 : decode cL_refused 18 = .ok (.istore 4, 2) := by decide +kernel
theorem dL_refused_20 : decode cL_refused 20 = .ok (.aload_n 0, 1) := by decide +kernel
theorem dL_refused_21 : decode cL_refused 21 = .ok (.iconst 0, 1) := by decide +kernel
theorem dL_refused_22 : decode cL_refused 22 = .ok (.invokestatic 75, 3) := by decide +kernel
theorem dL_refused_25 : decode cL_refused 25 = .ok (.ifCond .eq 45, 3) := by decide +kernel
theorem dL_refused_28 : decode cL_refused 28 = .ok (.aload_n 0, 1) := by decide +kernel
theorem dL_refused_29 : decode cL_refused 29 = .ok (.iconst 1, 1) := by decide +kernel
theorem dL_refused_30 : decode cL_refused 30 = .ok (.invokestatic 75, 3) := by decide +kernel
theorem dL_refused_33 : decode cL_refused 33 = .ok (.ifCond .eq 37, 3) := by decide +kernel
theorem dL_refused_36 : decode cL_refused 36 = .ok (.aload_n 0, 1) := by decide +kernel
theorem dL_refused_37 : decode cL_refused 37 = .ok (.invokestatic 71, 3) := by decide +kernel
theorem dL_refused_40 : decode cL_refused 40 = .ok (.lload_n 1, 1) := by decide +kernel
theorem dL_refused_41 : decode cL_refused 41 = .ok (.lcmp, 1) := by decide +kernel
theorem dL_refused_42 : decode cL_refused 42 = .ok (.ifCond .ne 28, 3) := by decide +kernel
theorem dL_refused_45 : decode cL_refused 45 = .ok (.aload_n 0, 1) := by decide +kernel
theorem dL_refused_46 : decode cL_refused 46 = .ok (.bipush 12, 2) := by decide +kernel
theorem dL_refused_48 : decode cL_refused 48 = .ok (.invokevirtual 19, 3) := by decide +kernel
theorem dL_refused_51 : decode cL_refused 51 = .ok (.iload_n 3, 1) := by decide +kernel
theorem dL_refused_52 : decode cL_refused 52 = .ok (.if_icmp .ne 18, 3) := by decide +kernel
theorem dL_refused_55 : decode cL_refused 55 = .ok (.aload_n 0, 1) := by decide +kernel
theorem dL_refused_56 : decode cL_refused 56 = .ok (.bipush 13, 2) := by decide +kernel
theorem dL_refused_58 : decode cL_refused 58 = .ok (.invokevirtual 19, 3) := by decide +kernel
theorem dL_refused_61 : decode cL_refused 61 = .ok (.iload 4, 2) := by decide +kernel
theorem dL_refused_63 : decode cL_refused 63 = .ok (.if_icmp .ne 7, 3) := by decide +kernel
theorem dL_refused_66 : decode cL_refused 66 = .ok (.iconst 1, 1) := by decide +kernel
theorem dL_refused_67 : decode cL_refused 67 = .ok (.goto 4, 3) := by decide +kernel
theorem dL_refused_70 : decode cL_refused 70 = .ok (.iconst 0, 1) := by decide +kernel
theorem dL_refused_71 : decode cL_refused 71 = .ok (.ireturn, 1) := by decide +kernel
set_option maxRecDepth 20000 in
theorem ggL_puts_X6_type : GoodIn wsL_puts wsX6_type := goodIn_r _ [6, 7, 8, 9, 10, 11, 12, 13, 14, 15, 16, 17, 18, 19, 20, 21, 22, 23, 24, 25] rfl (by decide +kernel)
set_option maxRecDepth 20000 in
theorem gL_puts_X6_type : GoodIn wsL_puts (wsV RL 81 RX6 yX6_type wsX6_type) := goodIn_app (goodIn_of _ (by decide +kernel)) ggL_puts_X6_type
theorem dL_puts_0 : decode cL_puts 0 = .ok (.iconst 1, 1) := by decide +kernel
theorem dL_puts_1 : decode cL_puts 1 = .ok (.istore_n 3, 1) := by decide +kernel
theorem dL_puts_2 : decode cL_puts 2 = .ok (.bipush 56, 2) := by decide +kernel
theorem dL_puts_4 : decode cL_puts 4 = .ok (.istore 4, 2) := by decide +kernel
theorem dL_puts_6 : decode cL_puts 6 = .ok (.iload 4, 2) := by decide +kernel
theorem dL_puts_8 : decode cL_puts 8 = .ok (.ifCond .lt 45, 3) := by decide +kernel
theorem dL_puts_11 : decode cL_puts 11 = .ok (.lload_n 1, 1) := by decide +kernel
theorem dL_puts_12 : decode cL_puts 12 = .ok (.iload 4, 2) := by decide +kernel
theorem dL_puts_14 : decode cL_puts 14 = .ok (.lshr, 1) := by decide +kernel
theorem dL_puts_15 : decode cL_puts 15 = .ok (.ldc2_w 79, 3) := by decide +kernel
theorem dL_puts_18 : decode cL_puts 18 = .ok (.land, 1) := by decide +kernel
theorem dL_puts_19 : decode cL_puts 19 = .ok (.l2i, 1) := by decide +kernel
theorem dL_puts_20 : decode cL_puts 20 = .ok (.istore 5, 2) := by decide +kernel
theorem dL_puts_22 : decode cL_puts 22 = .ok (.iload 5, 2) := by decide +kernel
theorem dL_puts_24 : decode cL_puts 24 = .ok (.ifCond .le 23, 3) := by decide +kernel
theorem dL_puts_27 : decode cL_puts 27 = .ok (.iload_n 3, 1) := by decide +kernel
theorem dL_puts_28 : decode cL_puts 28 = .ok (.ifCond .eq 17, 3) := by decide +kernel
theorem dL_puts_31 : decode cL_puts 31 = .ok (.aload_n 0, 1) := by decide +kernel
theorem dL_puts_32 : decode cL_puts 32 = .ok (.iload 5, 2) := by decide +kernel
theorem dL_puts_34 : decode cL_puts 34 = .ok (.i2c, 1) := by decide +kernel
theorem dL_puts_35 : decode cL_puts 35 = .ok (.invokevirtual 81, 3) := by decide +kernel
theorem dL_puts_38 : decode cL_puts 38 = .ok (.ifCond .le 7, 3) := by decide +kernel
theorem dL_puts_41 : decode cL_puts 41 = .ok (.iconst 1, 1) := by decide +kernel
theorem dL_puts_42 : decode cL_puts 42 = .ok (.goto 4, 3) := by decide +kernel
