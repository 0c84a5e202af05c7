theorem dL_changes_272 : decode cL_changes 272 = .ok (.idiv, 1) := by decide +kernel
theorem dL_changes_273 : decode cL_changes 273 = .ok (.iadd, 1) := by decide +kernel
theorem dL_changes_274 : decode cL_changes 274 = .ok (.istore 9, 2) := by decide +kernel
theorem dL_changes_276 : decode cL_changes 276 = .ok (.iload 7, 2) := by decide +kernel
theorem dL_changes_278 : decode cL_changes 278 = .ok (.iload 9, 2) := by decide +kernel
theorem dL_changes_280 : decode cL_changes 280 = .ok (.aload_n 1, 1) := by decide +kernel
theorem dL_changes_281 : decode cL_changes 281 = .ok (.iload 8, 2) := by decide +kernel
theorem dL_changes_283 : decode cL_changes 283 = .ok (.iaload, 1) := by decide +kernel
theorem dL_changes_284 : decode cL_changes 284 = .ok (.if_icmp .ne 7, 3) := by decide +kernel
theorem dL_changes_287 : decode cL_changes 287 = .ok (.iconst 0, 1) := by decide +kernel
theorem dL_changes_288 : decode cL_changes 288 = .ok (.goto 4, 3) := by decide +kernel
theorem dL_changes_291 : decode cL_changes 291 = .ok (.iconst 1, 1) := by decide +kernel
theorem dL_changes_292 : decode cL_changes 292 = .ok (.iadd, 1) := by decide +kernel
theorem dL_changes_293 : decode cL_changes 293 = .ok (.istore 7, 2) := by decide +kernel
theorem dL_changes_295 : decode cL_changes 295 = .ok (.aload_n 1, 1) := by decide +kernel
theorem dL_changes_296 : decode cL_changes 296 = .ok (.iload 8, 2) := by decide +kernel
theorem dL_changes_298 : decode cL_changes 298 = .ok (.iload 9, 2) := by decide +kernel
theorem dL_changes_300 : decode cL_changes 300 = .ok (.iastore, 1) := by decide +kernel
theorem dL_changes_301 : decode cL_changes 301 = .ok (.iinc 8 1, 3) := by decide +kernel
theorem dL_changes_304 : decode cL_changes 304 = .ok (.goto (-63), 3) := by decide +kernel
theorem dL_changes_307 : decode cL_changes 307 = .ok (.aload_n 0, 1) := by decide +kernel
theorem dL_changes_308 : decode cL_changes 308 = .ok (.iload 4, 2) := by decide +kernel
theorem dL_changes_310 : decode cL_changes 310 = .ok (.iload 5, 2) := by decide +kernel
theorem dL_changes_312 : decode cL_changes 312 = .ok (.invokevirtual 80, 3) := by decide +kernel
theorem dL_changes_315 : decode cL_changes 315 = .ok (.iload 7, 2) := by decide +kernel
theorem dL_changes_317 : decode cL_changes 317 = .ok (.if_icmp .ne 7, 3) := by decide +kernel
theorem dL_changes_320 : decode cL_changes 320 = .ok (.iconst 1, 1) := by decide +kernel
theorem dL_changes_321 : decode cL_changes 321 = .ok (.goto 4, 3) := by decide +kernel
theorem dL_changes_324 : decode cL_changes 324 = .ok (.iconst 0, 1) := by decide +kernel
theorem dL_changes_325 : decode cL_changes 325 = .ok (.ireturn, 1) := by decide +kernel
theorem dL_changes_326 : decode cL_changes 326 = .ok (.iconst 0, 1) := by decide +kernel
theorem dL_changes_327 : decode cL_changes 327 = .ok (.istore 7, 2) := by decide +kernel
theorem dL_changes_329 : decode cL_changes 329 = .ok (.iconst 0, 1) := by decide +kernel
theorem dL_changes_330 : decode cL_changes 330 = .ok (.istore 8, 2) := by decide +kernel
theorem dL_changes_332 : decode cL_changes 332 = .ok (.iload 8, 2) := by decide +kernel
theorem dL_changes_334 : decode cL_changes 334 = .ok (.aload_n 1, 1) := by decide +kernel
theorem dL_changes_335 : decode cL_changes 335 = .ok (.bipush 16, 2) := by decide +kernel
theorem dL_changes_337 : decode cL_changes 337 = .ok (.iaload, 1) := by decide +kernel
theorem dL_changes_338 : decode cL_changes 338 = .ok (.iconst 2, 1) := by decide +kernel
theorem dL_changes_339 : decode cL_changes 339 = .ok (.idiv, 1) := by decide +kernel
theorem dL_changes_340 : decode cL_changes 340 = .ok (.if_icmp .ge 110, 3) := by decide +kernel
theorem dL_changes_343 : decode cL_changes 343 = .ok (.aload_n 1, 1) := by decide +kernel
theorem dL_changes_344 : decode cL_changes 344 = .ok (.bipush 16, 2) := by decide +kernel
theorem dL_changes_346 : decode cL_changes 346 = .ok (.iaload, 1) := by decide +kernel
theorem dL_changes_347 : decode cL_changes 347 = .ok (.iconst 1, 1) := by decide +kernel
theorem dL_changes_348 : decode cL_changes 348 = .ok (.isub, 1) := by decide +kernel
theorem dL_changes_349 : decode cL_changes 349 = .ok (.iload 8, 2) := by decide +kernel
theorem dL_changes_351 : decode cL_changes 351 = .ok (.isub, 1) := by decide +kernel
theorem dL_changes_352 : decode cL_changes 352 = .ok (.istore 9, 2) := by decide +kernel
theorem dL_changes_354 : decode cL_changes 354 = .ok (.iload 7, 2) := by decide +kernel
theorem dL_changes_356 : decode cL_changes 356 = .ok (.aload_n 1, 1) := by decide +kernel
theorem dL_changes_357 : decode cL_changes 357 = .ok (.iload 8, 2) := by decide +kernel
theorem dL_changes_359 : decode cL_changes 359 = .ok (.iaload, 1) := by decide +kernel
theorem dL_changes_360 : decode cL_changes 360 = .ok (.aload_n 1, 1) := by decide +kernel
theorem dL_changes_361 : decode cL_changes 361 = .ok (.iload 9, 2) := by decide +kernel
theorem dL_changes_363 : decode cL_changes 363 = .ok (.iaload, 1) := by decide +kernel
theorem dL_changes_364 : decode cL_changes 364 = .ok (.if_icmp .ne 24, 3) := by decide +kernel
theorem dL_changes_367 : decode cL_changes 367 = .ok (.aload_n 1, 1) := by decide +kernel
theorem dL_changes_368 : decode cL_changes 368 = .ok (.bipush 8, 2) := by decide +kernel
theorem dL_changes_370 : decode cL_changes 370 = .ok (.iload 8, 2) := by decide +kernel
theorem dL_changes_372 : decode cL_changes 372 = .ok (.iadd, 1) := by decide +kernel
theorem dL_changes_373 : decode cL_changes 373 = .ok (.iaload, 1) := by decide +kernel
theorem dL_changes_374 : decode cL_changes 374 = .ok (.aload_n 1, 1) := by decide +kernel
theorem dL_changes_375 : decode cL_changes 375 = .ok (.bipush 8, 2) := by decide +kernel
theorem dL_changes_377 : decode cL_changes 377 = .ok (.iload 9, 2) := by decide +kernel
theorem dL_changes_379 : decode cL_changes 379 = .ok (.iadd, 1) := by decide +kernel
theorem dL_changes_380 : decode cL_changes 380 = .ok (.iaload, 1) := by decide +kernel
theorem dL_changes_381 : decode cL_changes 381 = .ok (.if_icmp .ne 7, 3) := by decide +kernel
theorem dL_changes_384 : decode cL_changes 384 = .ok (.iconst 0, 1) := by decide +kernel
theorem dL_changes_385 : decode cL_changes 385 = .ok (.goto 4, 3) := by decide +kernel
theorem dL_changes_388 : decode cL_changes 388 = .ok (.iconst 2, 1) := by decide +kernel
theorem dL_changes_389 : decode cL_changes 389 = .ok (.iadd, 1) := by decide +kernel
theorem dL_changes_390 : decode cL_changes 390 = .ok (.istore 7, 2) := by decide +kernel
theorem dL_changes_392 : decode cL_changes 392 = .ok (.aload_n 1, 1) := by decide +kernel
theorem dL_changes_393 : decode cL_changes 393 = .ok (.iload 8, 2) := by decide +kernel
theorem dL_changes_395 : decode cL_changes 395 = .ok (.iaload, 1) := by decide +kernel
theorem dL_changes_396 : decode cL_changes 396 = .ok (.istore 10, 2) := by decide +kernel
theorem dL_changes_398 : decode cL_changes 398 = .ok (.aload_n 1, 1) := by decide +kernel
theorem dL_changes_399 : decode cL_changes 399 = .ok (.bipush 8, 2) := by decide +kernel
theorem dL_changes_401 : decode cL_changes 401 = .ok (.iload 8, 2) := by decide +kernel
theorem dL_changes_403 : decode cL_changes 403 = .ok (.iadd, 1) := by decide +kernel
theorem dL_changes_404 : decode cL_changes 404 = .ok (.iaload, 1) := by decide +kernel
theorem dL_changes_405 : decode cL_changes 405 = .ok (.istore 11, 2) := by decide +kernel
theorem dL_changes_407 : decode cL_changes 407 = .ok (.aload_n 1, 1) := by decide +kernel
theorem dL_changes_408 : decode cL_changes 408 = .ok (.iload 8, 2) := by decide +kernel
theorem dL_changes_410 : decode cL_changes 410 = .ok (.aload_n 1, 1) := by decide +kernel
theorem dL_changes_411 : decode cL_changes 411 = .ok (.iload 9, 2) := by decide +kernel
theorem dL_changes_413 : decode cL_changes 413 = .ok (.iaload, 1) := by decide +kernel
theorem dL_changes_414 : decode cL_changes 414 = .ok (.iastore, 1) := by decide +kernel
theorem dL_changes_415 : decode cL_changes 415 = .ok (.aload_n 1, 1) := by decide +kernel
theorem dL_changes_416 : decode cL_changes 416 = .ok (.bipush 8, 2) := by decide +kernel
theorem dL_changes_418 : decode cL_changes 418 = .ok (.iload 8, 2) := by decide +kernel
theorem dL_changes_420 : decode cL_changes 420 = .ok (.iadd, 1) := by decide +kernel
theorem dL_changes_421 : decode cL_changes 421 = .ok (.aload_n 1, 1) := by decide +kernel
theorem dL_changes_422 : decode cL_changes 422 = .ok (.bipush 8, 2) := by decide +kernel
theorem dL_changes_424 : decode cL_changes 424 = .ok (.iload 9, 2) := by decide +kernel
theorem dL_changes_426 : decode cL_changes 426 = .ok (.iadd, 1) := by decide +kernel
theorem dL_changes_427 : decode cL_changes 427 = .ok (.iaload, 1) := by decide +kernel
theorem dL_changes_428 : decode cL_changes 428 = .ok (.iastore, 1) := by decide +kernel
theorem dL_changes_429 : decode cL_changes 429 = .ok (.aload_n 1, 1) := by decide +kernel
theorem dL_changes_430 : decode cL_changes 430 = .ok (.iload 9, 2) := by decide +kernel
theorem dL_changes_432 : decode cL_changes 432 = .ok (.iload 10, 2) := by decide +kernel
theorem dL_changes_434 : decode cL_changes 434 = .ok (.iastore, 1) := by decide +kernel
theorem dL_changes_435 : decode cL_changes 435 = .ok (.aload_n 1, 1) := by decide +kernel
theorem dL_changes_436 : decode cL_changes 436 = .ok (.bipush 8, 2) := by decide +kernel
theorem dL_changes_438 : decode cL_changes 438 = .ok (.iload 9, 2) := by decide +kernel
theorem dL_changes_440 : decode cL_changes 440 = .ok (.iadd, 1) := by decide +kernel
theorem dL_changes_441 : decode cL_changes 441 = .ok (.iload 11, 2) := by decide +kernel
theorem dL_changes_443 : decode cL_changes 443 = .ok (.iastore, 1) := by decide +kernel
theorem dL_changes_444 : decode cL_changes 444 = .ok (.iinc 8 1, 3) := by decide +kernel
theorem dL_changes_447 : decode cL_changes 447 = .ok (.goto (-115), 3) := by decide +kernel
theorem dL_changes_450 : decode cL_changes 450 = .ok (.aload_n 0, 1) := by decide +kernel
theorem dL_changes_451 : decode cL_changes 451 = .ok (.invokevirtual 83, 3) := by decide +kernel
theorem dL_changes_454 : decode cL_changes 454 = .ok (.iload 7, 2) := by decide +kernel
theorem dL_changes_456 : decode cL_changes 456 = .ok (.if_icmp .ne 7, 3) := by decide +kernel
theorem dL_changes_459 : decode cL_changes 459 = .ok (.iconst 1, 1) := by decide +kernel
theorem dL_changes_460 : decode cL_changes 460 = .ok (.goto 4, 3) := by decide +kernel
theorem dL_changes_463 : decode cL_changes 463 = .ok (.iconst 0, 1) := by decide +kernel
theorem dL_changes_464 : decode cL_changes 464 = .ok (.ireturn, 1) := by decide +kernel
theorem dL_changes_465 : decode cL_changes 465 = .ok (.aload_n 1, 1) := by decide +kernel
theorem dL_changes_466 : decode cL_changes 466 = .ok (.bipush 17, 2) := by decide +kernel
theorem dL_changes_468 : decode cL_changes 468 = .ok (.iaload, 1) := by decide +kernel
theorem dL_changes_469 : decode cL_changes 469 = .ok (.istore 6, 2) := by decide +kernel
theorem dL_changes_471 : decode cL_changes 471 = .ok (.aload_n 1, 1) := by decide +kernel
theorem dL_changes_472 : decode cL_changes 472 = .ok (.bipush 17, 2) := by decide +kernel
theorem dL_changes_474 : decode cL_changes 474 = .ok (.iconst 1, 1) := by decide +kernel
theorem dL_changes_475 : decode cL_changes 475 = .ok (.iload_n 3, 1) := by decide +kernel
theorem dL_changes_476 : decode cL_changes 476 = .ok (.bipush 19, 2) := by decide +kernel
theorem dL_changes_478 : decode cL_changes 478 = .ok (.invokestatic 26, 3) := by decide +kernel
theorem dL_changes_481 : decode cL_changes 481 = .ok (.iadd, 1) := by decide +kernel
theorem dL_changes_482 : decode cL_changes 482 = .ok (.iastore, 1) := by decide +kernel
theorem dL_changes_483 : decode cL_changes 483 = .ok (.aload_n 0, 1) := by decide +kernel
theorem dL_changes_484 : decode cL_changes 484 = .ok (.aload_n 1, 1) := by decide +kernel
theorem dL_changes_485 : decode cL_changes 485 = .ok (.bipush 17, 2) := by decide +kernel
theorem dL_changes_487 : decode cL_changes 487 = .ok (.iaload, 1) := by decide +kernel
theorem dL_changes_488 : decode cL_changes 488 = .ok (.invokevirtual 35, 3) := by decide +kernel
theorem dL_changes_491 : decode cL_changes 491 = .ok (.iload 6, 2) := by decide +kernel
theorem dL_changes_493 : decode cL_changes 493 = .ok (.if_icmp .ne 18, 3) := by decide +kernel
theorem dL_changes_496 : decode cL_changes 496 = .ok (.aload_n 0, 1) := by decide +kernel
theorem dL_changes_497 : decode cL_changes 497 = .ok (.bipush 20, 2) := by decide +kernel
theorem dL_changes_499 : decode cL_changes 499 = .ok (.invokevirtual 35, 3) := by decide +kernel
theorem dL_changes_502 : decode cL_changes 502 = .ok (.bipush (-2), 2) := by decide +kernel
theorem dL_changes_504 : decode cL_changes 504 = .ok (.if_icmp .ne 7, 3) := by decide +kernel
theorem dL_changes_507 : decode cL_changes 507 = .ok (.iconst 1, 1) := by decide +kernel
theorem dL_changes_508 : decode cL_changes 508 = .ok (.goto 4, 3) := by decide +kernel
theorem dL_changes_511 : decode cL_changes 511 = .ok (.iconst 0, 1) := by decide +kernel
theorem dL_changes_512 : decode cL_changes 512 = .ok (.ireturn, 1) := by decide +kernel
theorem dL_changes_513 : decode cL_changes 513 = .ok (.aload_n 1, 1) := by decide +kernel
theorem dL_changes_514 : decode cL_changes 514 = .ok (.bipush 18, 2) := by decide +kernel
theorem dL_changes_516 : decode cL_changes 516 = .ok (.iaload, 1) := by decide +kernel
theorem dL_changes_517 : decode cL_changes 517 = .ok (.istore 6, 2) := by decide +kernel
theorem dL_changes_519 : decode cL_changes 519 = .ok (.aload_n 1, 1) := by decide +kernel
theorem dL_changes_520 : decode cL_changes 520 = .ok (.bipush 18, 2) := by decide +kernel
theorem dL_changes_522 : decode cL_changes 522 = .ok (.iload_n 3, 1) := by decide +kernel
theorem dL_changes_523 : decode cL_changes 523 = .ok (.bipush 10, 2) := by decide +kernel
theorem dL_changes_525 : decode cL_changes 525 = .ok (.invokestatic 26, 3) := by decide +kernel
theorem dL_changes_528 : decode cL_changes 528 = .ok (.iastore, 1) := by decide +kernel
theorem dL_changes_529 : decode cL_changes 529 = .ok (.aload_n 0, 1) := by decide +kernel
theorem dL_changes_530 : decode cL_changes 530 = .ok (.aload_n 1, 1) := by decide +kernel
theorem dL_changes_531 : decode cL_changes 531 = .ok (.bipush 18, 2) := by decide +kernel
theorem dL_changes_533 : decode cL_changes 533 = .ok (.iaload, 1) := by decide +kernel
theorem dL_changes_534 : decode cL_changes 534 = .ok (.invokevirtual 39, 3) := by decide +kernel
theorem dL_changes_537 : decode cL_changes 537 = .ok (.iload 6, 2) := by decide +kernel
theorem dL_changes_539 : decode cL_changes 539 = .ok (.if_icmp .ne 18, 3) := by decide +kernel
theorem dL_changes_542 : decode cL_changes 542 = .ok (.aload_n 0, 1) := by decide +kernel
theorem dL_changes_543 : decode cL_changes 543 = .ok (.bipush 10, 2) := by decide +kernel
theorem dL_changes_545 : decode cL_changes 545 = .ok (.invokevirtual 39, 3) := by decide +kernel
theorem dL_changes_548 : decode cL_changes 548 = .ok (.bipush (-2), 2) := by decide +kernel
theorem dL_changes_550 : decode cL_changes 550 = .ok (.if_icmp .ne 7, 3) := by decide +kernel
theorem dL_changes_553 : decode cL_changes 553 = .ok (.iconst 1, 1) := by decide +kernel
theorem dL_changes_554 : decode cL_changes 554 = .ok (.goto 4, 3) := by decide +kernel
theorem dL_changes_557 : decode cL_changes 557 = .ok (.iconst 0, 1) := by decide +kernel
theorem dL_changes_558 : decode cL_changes 558 = .ok (.ireturn, 1) := by decide +kernel
theorem dL_law_0 : decode cL_law 0 = .ok (.new 31, 3) := by decide +kernel
theorem dL_law_3 : decode cL_law 3 = .ok (.dup, 1) := by decide +kernel
theorem dL_law_4 : decode cL_law 4 = .ok (.invokespecial 86, 3) := by decide +kernel
theorem dL_law_7 : decode cL_law 7 = .ok (.astore_n 1, 1) := by decide +kernel
theorem dL_law_8 : decode cL_law 8 = .ok (.bipush 20, 2) := by decide +kernel
theorem dL_law_10 : decode cL_law 10 = .ok (.newarray .int, 2) := by decide +kernel
theorem dL_law_12 : decode cL_law 12 = .ok (.astore_n 2, 1) := by decide +kernel
theorem dL_law_13 : decode cL_law 13 = .ok (.aload_n 1, 1) := by decide +kernel
theorem dL_law_14 : decode cL_law 14 = .ok (.iconst 0, 1) := by decide +kernel
theorem dL_law_15 : decode cL_law 15 = .ok (.invokevirtual 48, 3) := by decide +kernel
theorem dL_law_18 : decode cL_law 18 = .ok (.iconst 2, 1) := by decide +kernel
theorem dL_law_19 : decode cL_law 19 = .ok (.if_icmp .ne 64, 3) := by decide +kernel
theorem dL_law_22 : decode cL_law 22 = .ok (.aload_n 1, 1) := by decide +kernel
theorem dL_law_23 : decode cL_law 23 = .ok (.iconst 0, 1) := by decide +kernel
theorem dL_law_24 : decode cL_law 24 = .ok (.iconst 1, 1) := by decide +kernel
theorem dL_law_25 : decode cL_law 25 = .ok (.invokevirtual 55, 3) := by decide +kernel
theorem dL_law_28 : decode cL_law 28 = .ok (.iconst 1, 1) := by decide +kernel
theorem dL_law_29 : decode cL_law 29 = .ok (.if_icmp .ne 54, 3) := by decide +kernel
theorem dL_law_32 : decode cL_law 32 = .ok (.aload_n 1, 1) := by decide +kernel
theorem dL_law_33 : decode cL_law 33 = .ok (.invokevirtual 77, 3) := by decide +kernel
theorem dL_law_36 : decode cL_law 36 = .ok (.iconst 1, 1) := by decide +kernel
theorem dL_law_37 : decode cL_law 37 = .ok (.if_icmp .ne 46, 3) := by decide +kernel
theorem dL_law_40 : decode cL_law 40 = .ok (.aload_n 1, 1) := by decide +kernel
theorem dL_law_41 : decode cL_law 41 = .ok (.invokevirtual 73, 3) := by decide +kernel
theorem dL_law_44 : decode cL_law 44 = .ok (.iconst 1, 1) := by decide +kernel
theorem dL_law_45 : decode cL_law 45 = .ok (.if_icmp .ne 38, 3) := by decide +kernel
theorem dL_law_48 : decode cL_law 48 = .ok (.aload_n 1, 1) := by decide +kernel
theorem dL_law_49 : decode cL_law 49 = .ok (.iconst 1, 1) := by decide +kernel
theorem dL_law_50 : decode cL_law 50 = .ok (.iconst 0, 1) := by decide +kernel
theorem dL_law_51 : decode cL_law 51 = .ok (.invokevirtual 30, 3) := by decide +kernel
theorem dL_law_54 : decode cL_law 54 = .ok (.bipush (-2), 2) := by decide +kernel
theorem dL_law_56 : decode cL_law 56 = .ok (.if_icmp .ne 27, 3) := by decide +kernel
theorem dL_law_59 : decode cL_law 59 = .ok (.aload_n 1, 1) := by decide +kernel
theorem dL_law_60 : decode cL_law 60 = .ok (.bipush 21, 2) := by decide +kernel
theorem dL_law_62 : decode cL_law 62 = .ok (.iconst 0, 1) := by decide +kernel
theorem dL_law_63 : decode cL_law 63 = .ok (.invokevirtual 30, 3) := by decide +kernel
theorem dL_law_66 : decode cL_law 66 = .ok (.bipush (-2), 2) := by decide +kernel
theorem dL_law_68 : decode cL_law 68 = .ok (.if_icmp .ne 15, 3) := by decide +kernel
theorem dL_law_71 : decode cL_law 71 = .ok (.aload_n 1, 1) := by decide +kernel
theorem dL_law_72 : decode cL_law 72 = .ok (.aload_n 2, 1) := by decide +kernel
theorem dL_law_73 : decode cL_law 73 = .ok (.aload_n 0, 1) := by decide +kernel
theorem dL_law_74 : decode cL_law 74 = .ok (.iconst 0, 1) := by decide +kernel
theorem dL_law_75 : decode cL_law 75 = .ok (.bipush 8, 2) := by decide +kernel
theorem dL_law_77 : decode cL_law 77 = .ok (.invokestatic 87, 3) := by decide +kernel
theorem dL_law_80 : decode cL_law 80 = .ok (.ifCond .ne 5, 3) := by decide +kernel
theorem dL_law_83 : decode cL_law 83 = .ok (.iconst 0, 1) := by decide +kernel
theorem dL_law_84 : decode cL_law 84 = .ok (.ireturn, 1) := by decide +kernel
theorem dL_law_85 : decode cL_law 85 = .ok (.iconst 0, 1) := by decide +kernel
theorem dL_law_86 : decode cL_law 86 = .ok (.istore_n 3, 1) := by decide +kernel
theorem dL_law_87 : decode cL_law 87 = .ok (.iload_n 3, 1) := by decide +kernel
theorem dL_law_88 : decode cL_law 88 = .ok (.bipush 8, 2) := by decide +kernel
theorem dL_law_90 : decode cL_law 90 = .ok (.if_icmp .ge 83, 3) := by decide +kernel
theorem dL_law_93 : decode cL_law 93 = .ok (.aload_n 0, 1) := by decide +kernel
theorem dL_law_94 : decode cL_law 94 = .ok (.bipush 9, 2) := by decide +kernel
theorem dL_law_96 : decode cL_law 96 = .ok (.iconst 2, 1) := by decide +kernel
theorem dL_law_97 : decode cL_law 97 = .ok (.iload_n 3, 1) := by decide +kernel
theorem dL_law_98 : decode cL_law 98 = .ok (.imul, 1) := by decide +kernel
theorem dL_law_99 : decode cL_law 99 = .ok (.iadd, 1) := by decide +kernel
theorem dL_law_100 : decode cL_law 100 = .ok (.invokestatic 23, 3) := by decide +kernel
theorem dL_law_103 : decode cL_law 103 = .ok (.istore 4, 2) := by decide +kernel
theorem dL_law_105 : decode cL_law 105 = .ok (.aload_n 1, 1) := by decide +kernel
theorem dL_law_106 : decode cL_law 106 = .ok (.aload_n 2, 1) := by decide +kernel
theorem dL_law_107 : decode cL_law 107 = .ok (.invokestatic 91, 3) := by decide +kernel
theorem dL_law_110 : decode cL_law 110 = .ok (.ifCond .eq 55, 3) := by decide +kernel
theorem dL_law_113 : decode cL_law 113 = .ok (.aload_n 1, 1) := by decide +kernel
theorem dL_law_114 : decode cL_law 114 = .ok (.aload_n 2, 1) := by decide +kernel
theorem dL_law_115 : decode cL_law 115 = .ok (.iload 4, 2) := by decide +kernel
theorem dL_law_117 : decode cL_law 117 = .ok (.bipush 8, 2) := by decide +kernel
theorem dL_law_119 : decode cL_law 119 = .ok (.ishr, 1) := by decide +kernel
theorem dL_law_120 : decode cL_law 120 = .ok (.aload_n 2, 1) := by decide +kernel
theorem dL_law_121 : decode cL_law 121 = .ok (.bipush 16, 2) := by decide +kernel
theorem dL_law_123 : decode cL_law 123 = .ok (.iaload, 1) := by decide +kernel
theorem dL_law_124 : decode cL_law 124 = .ok (.invokestatic 26, 3) := by decide +kernel
theorem dL_law_127 : decode cL_law 127 = .ok (.iload 4, 2) := by decide +kernel
theorem dL_law_129 : decode cL_law 129 = .ok (.bipush 12, 2) := by decide +kernel
theorem dL_law_131 : decode cL_law 131 = .ok (.ishr, 1) := by decide +kernel
theorem dL_law_132 : decode cL_law 132 = .ok (.aload_n 2, 1) := by decide +kernel
theorem dL_law_133 : decode cL_law 133 = .ok (.bipush 16, 2) := by decide +kernel
theorem dL_law_135 : decode cL_law 135 = .ok (.iaload, 1) := by decide +kernel
theorem dL_law_136 : decode cL_law 136 = .ok (.invokestatic 26, 3) := by decide +kernel
theorem dL_law_139 : decode cL_law 139 = .ok (.invokestatic 95, 3) := by decide +kernel
theorem dL_law_142 : decode cL_law 142 = .ok (.ifCond .eq 23, 3) := by decide +kernel
theorem dL_law_145 : decode cL_law 145 = .ok (.aload_n 1, 1) := by decide +kernel
theorem dL_law_146 : decode cL_law 146 = .ok (.aload_n 2, 1) := by decide +kernel
theorem dL_law_147 : decode cL_law 147 = .ok (.iload 4, 2) := by decide +kernel
theorem dL_law_149 : decode cL_law 149 = .ok (.aload_n 0, 1) := by decide +kernel
theorem dL_law_150 : decode cL_law 150 = .ok (.bipush 10, 2) := by decide +kernel
theorem dL_law_152 : decode cL_law 152 = .ok (.iconst 2, 1) := by decide +kernel
theorem dL_law_153 : decode cL_law 153 = .ok (.iload_n 3, 1) := by decide +kernel
theorem dL_law_154 : decode cL_law 154 = .ok (.imul, 1) := by decide +kernel
theorem dL_law_155 : decode cL_law 155 = .ok (.iadd, 1) := by decide +kernel
theorem dL_law_156 : decode cL_law 156 = .ok (.invokestatic 23, 3) := by decide +kernel
theorem dL_law_159 : decode cL_law 159 = .ok (.invokestatic 99, 3) := by decide +kernel
theorem dL_law_162 : decode cL_law 162 = .ok (.ifCond .ne 5, 3) := by decide +kernel
theorem dL_law_165 : decode cL_law 165 = .ok (.iconst 0, 1) := by decide +kernel
theorem dL_law_166 : decode cL_law 166 = .ok (.ireturn, 1) := by decide +kernel
theorem dL_law_167 : decode cL_law 167 = .ok (.iinc 3 1, 3) := by decide +kernel
theorem dL_law_170 : decode cL_law 170 = .ok (.goto (-83), 3) := by decide +kernel
theorem dL_law_173 : decode cL_law 173 = .ok (.aload_n 1, 1) := by decide +kernel
theorem dL_law_174 : decode cL_law 174 = .ok (.aload_n 2, 1) := by decide +kernel
theorem dL_law_175 : decode cL_law 175 = .ok (.invokestatic 91, 3) := by decide +kernel
theorem dL_law_178 : decode cL_law 178 = .ok (.ireturn, 1) := by decide +kernel
