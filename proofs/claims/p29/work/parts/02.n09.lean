theorem dL_law_314 : decode cL_law 314 = .ok (.iconst 2, 1) := by decide +kernel
theorem dL_law_315 : decode cL_law 315 = .ok (.irem, 1) := by decide +kernel
theorem dL_law_316 : decode cL_law 316 = .ok (.ifCond .ne 97, 3) := by decide +kernel
theorem dL_law_319 : decode cL_law 319 = .ok (.aload_n 3, 1) := by decide +kernel
theorem dL_law_320 : decode cL_law 320 = .ok (.getfield 14, 3) := by decide +kernel
theorem dL_law_323 : decode cL_law 323 = .ok (.iload 6, 2) := by decide +kernel
theorem dL_law_325 : decode cL_law 325 = .ok (.iload 14, 2) := by decide +kernel
theorem dL_law_327 : decode cL_law 327 = .ok (.invokevirtual 64, 3) := by decide +kernel
theorem dL_law_330 : decode cL_law 330 = .ok (.pop, 1) := by decide +kernel
theorem dL_law_331 : decode cL_law 331 = .ok (.aload_n 3, 1) := by decide +kernel
theorem dL_law_332 : decode cL_law 332 = .ok (.getfield 14, 3) := by decide +kernel
theorem dL_law_335 : decode cL_law 335 = .ok (.iload 8, 2) := by decide +kernel
theorem dL_law_337 : decode cL_law 337 = .ok (.invokevirtual 44, 3) := by decide +kernel
theorem dL_law_340 : decode cL_law 340 = .ok (.istore 15, 2) := by decide +kernel
theorem dL_law_342 : decode cL_law 342 = .ok (.aload_n 3, 1) := by decide +kernel
theorem dL_law_343 : decode cL_law 343 = .ok (.getfield 14, 3) := by decide +kernel
theorem dL_law_346 : decode cL_law 346 = .ok (.iload 6, 2) := by decide +kernel
theorem dL_law_348 : decode cL_law 348 = .ok (.iload 9, 2) := by decide +kernel
theorem dL_law_350 : decode cL_law 350 = .ok (.invokevirtual 64, 3) := by decide +kernel
theorem dL_law_353 : decode cL_law 353 = .ok (.pop, 1) := by decide +kernel
theorem dL_law_354 : decode cL_law 354 = .ok (.aload_n 3, 1) := by decide +kernel
theorem dL_law_355 : decode cL_law 355 = .ok (.getfield 14, 3) := by decide +kernel
theorem dL_law_358 : decode cL_law 358 = .ok (.iload 8, 2) := by decide +kernel
theorem dL_law_360 : decode cL_law 360 = .ok (.invokevirtual 44, 3) := by decide +kernel
theorem dL_law_363 : decode cL_law 363 = .ok (.istore 16, 2) := by decide +kernel
theorem dL_law_365 : decode cL_law 365 = .ok (.aload_n 3, 1) := by decide +kernel
theorem dL_law_366 : decode cL_law 366 = .ok (.getfield 14, 3) := by decide +kernel
theorem dL_law_369 : decode cL_law 369 = .ok (.iload 6, 2) := by decide +kernel
theorem dL_law_371 : decode cL_law 371 = .ok (.aload 4, 2) := by decide +kernel
theorem dL_law_373 : decode cL_law 373 = .ok (.iload 6, 2) := by decide +kernel
theorem dL_law_375 : decode cL_law 375 = .ok (.iconst 2, 1) := by decide +kernel
theorem dL_law_376 : decode cL_law 376 = .ok (.invokevirtual 47, 3) := by decide +kernel
theorem dL_law_379 : decode cL_law 379 = .ok (.invokevirtual 64, 3) := by decide +kernel
theorem dL_law_382 : decode cL_law 382 = .ok (.pop, 1) := by decide +kernel
theorem dL_law_383 : decode cL_law 383 = .ok (.iload 15, 2) := by decide +kernel
theorem dL_law_385 : decode cL_law 385 = .ok (.iload 13, 2) := by decide +kernel
theorem dL_law_387 : decode cL_law 387 = .ok (.if_icmp .lt 24, 3) := by decide +kernel
theorem dL_law_390 : decode cL_law 390 = .ok (.iload 16, 2) := by decide +kernel
theorem dL_law_392 : decode cL_law 392 = .ok (.iload 15, 2) := by decide +kernel
theorem dL_law_394 : decode cL_law 394 = .ok (.if_icmp .gt 17, 3) := by decide +kernel
theorem dL_law_397 : decode cL_law 397 = .ok (.iload 16, 2) := by decide +kernel
theorem dL_law_399 : decode cL_law 399 = .ok (.iload 15, 2) := by decide +kernel
theorem dL_law_401 : decode cL_law 401 = .ok (.if_icmp .ne 12, 3) := by decide +kernel
theorem dL_law_404 : decode cL_law 404 = .ok (.iload 9, 2) := by decide +kernel
theorem dL_law_406 : decode cL_law 406 = .ok (.iload 14, 2) := by decide +kernel
theorem dL_law_408 : decode cL_law 408 = .ok (.if_icmp .ge 5, 3) := by decide +kernel
theorem dL_law_411 : decode cL_law 411 = .ok (.iconst 0, 1) := by decide +kernel
theorem dL_law_412 : decode cL_law 412 = .ok (.ireturn, 1) := by decide +kernel
theorem dL_law_413 : decode cL_law 413 = .ok (.aload_n 3, 1) := by decide +kernel
theorem dL_law_414 : decode cL_law 414 = .ok (.getfield 14, 3) := by decide +kernel
theorem dL_law_417 : decode cL_law 417 = .ok (.iload 7, 2) := by decide +kernel
theorem dL_law_419 : decode cL_law 419 = .ok (.iconst 1, 1) := by decide +kernel
theorem dL_law_420 : decode cL_law 420 = .ok (.iconst 0, 1) := by decide +kernel
theorem dL_law_421 : decode cL_law 421 = .ok (.invokevirtual 67, 3) := by decide +kernel
theorem dL_law_424 : decode cL_law 424 = .ok (.istore 15, 2) := by decide +kernel
theorem dL_law_426 : decode cL_law 426 = .ok (.aload_n 3, 1) := by decide +kernel
theorem dL_law_427 : decode cL_law 427 = .ok (.getfield 14, 3) := by decide +kernel
theorem dL_law_430 : decode cL_law 430 = .ok (.iload 8, 2) := by decide +kernel
theorem dL_law_432 : decode cL_law 432 = .ok (.invokevirtual 44, 3) := by decide +kernel
theorem dL_law_435 : decode cL_law 435 = .ok (.iload 13, 2) := by decide +kernel
theorem dL_law_437 : decode cL_law 437 = .ok (.iload 12, 2) := by decide +kernel
theorem dL_law_439 : decode cL_law 439 = .ok (.iadd, 1) := by decide +kernel
theorem dL_law_440 : decode cL_law 440 = .ok (.if_icmp .ne 13, 3) := by decide +kernel
theorem dL_law_443 : decode cL_law 443 = .ok (.iload 15, 2) := by decide +kernel
theorem dL_law_445 : decode cL_law 445 = .ok (.ifCond .ne 10, 3) := by decide +kernel
theorem dL_law_448 : decode cL_law 448 = .ok (.iload 12, 2) := by decide +kernel
theorem dL_law_450 : decode cL_law 450 = .ok (.ifCond .eq 5, 3) := by decide +kernel
theorem dL_law_453 : decode cL_law 453 = .ok (.iconst 0, 1) := by decide +kernel
theorem dL_law_454 : decode cL_law 454 = .ok (.ireturn, 1) := by decide +kernel
theorem dL_law_455 : decode cL_law 455 = .ok (.aload_n 3, 1) := by decide +kernel
theorem dL_law_456 : decode cL_law 456 = .ok (.getfield 14, 3) := by decide +kernel
theorem dL_law_459 : decode cL_law 459 = .ok (.iload 7, 2) := by decide +kernel
theorem dL_law_461 : decode cL_law 461 = .ok (.iconst 1, 1) := by decide +kernel
theorem dL_law_462 : decode cL_law 462 = .ok (.iload 15, 2) := by decide +kernel
theorem dL_law_464 : decode cL_law 464 = .ok (.invokevirtual 67, 3) := by decide +kernel
theorem dL_law_467 : decode cL_law 467 = .ok (.pop, 1) := by decide +kernel
theorem dL_law_468 : decode cL_law 468 = .ok (.aload 4, 2) := by decide +kernel
theorem dL_law_470 : decode cL_law 470 = .ok (.iload 8, 2) := by decide +kernel
theorem dL_law_472 : decode cL_law 472 = .ok (.invokevirtual 71, 3) := by decide +kernel
theorem dL_law_475 : decode cL_law 475 = .ok (.iload 13, 2) := by decide +kernel
theorem dL_law_477 : decode cL_law 477 = .ok (.if_icmp .ne 33, 3) := by decide +kernel
theorem dL_law_480 : decode cL_law 480 = .ok (.aload_n 3, 1) := by decide +kernel
theorem dL_law_481 : decode cL_law 481 = .ok (.getfield 14, 3) := by decide +kernel
theorem dL_law_484 : decode cL_law 484 = .ok (.iload 8, 2) := by decide +kernel
theorem dL_law_486 : decode cL_law 486 = .ok (.invokevirtual 71, 3) := by decide +kernel
theorem dL_law_489 : decode cL_law 489 = .ok (.iload 13, 2) := by decide +kernel
theorem dL_law_491 : decode cL_law 491 = .ok (.if_icmp .ne 19, 3) := by decide +kernel
theorem dL_law_494 : decode cL_law 494 = .ok (.aload 4, 2) := by decide +kernel
theorem dL_law_496 : decode cL_law 496 = .ok (.invokevirtual 34, 3) := by decide +kernel
theorem dL_law_499 : decode cL_law 499 = .ok (.aload_n 3, 1) := by decide +kernel
theorem dL_law_500 : decode cL_law 500 = .ok (.getfield 14, 3) := by decide +kernel
theorem dL_law_503 : decode cL_law 503 = .ok (.invokevirtual 34, 3) := by decide +kernel
theorem dL_law_506 : decode cL_law 506 = .ok (.lcmp, 1) := by decide +kernel
theorem dL_law_507 : decode cL_law 507 = .ok (.ifCond .eq 5, 3) := by decide +kernel
theorem dL_law_510 : decode cL_law 510 = .ok (.iconst 0, 1) := by decide +kernel
theorem dL_law_511 : decode cL_law 511 = .ok (.ireturn, 1) := by decide +kernel
theorem dL_law_512 : decode cL_law 512 = .ok (.iconst 0, 1) := by decide +kernel
theorem dL_law_513 : decode cL_law 513 = .ok (.istore 16, 2) := by decide +kernel
theorem dL_law_515 : decode cL_law 515 = .ok (.iload 16, 2) := by decide +kernel
theorem dL_law_517 : decode cL_law 517 = .ok (.iconst 3, 1) := by decide +kernel
theorem dL_law_518 : decode cL_law 518 = .ok (.if_icmp .ge 31, 3) := by decide +kernel
theorem dL_law_521 : decode cL_law 521 = .ok (.aload_n 2, 1) := by decide +kernel
theorem dL_law_522 : decode cL_law 522 = .ok (.getfield 74, 3) := by decide +kernel
theorem dL_law_525 : decode cL_law 525 = .ok (.iload 16, 2) := by decide +kernel
theorem dL_law_527 : decode cL_law 527 = .ok (.aaload, 1) := by decide +kernel
theorem dL_law_528 : decode cL_law 528 = .ok (.bipush 13, 2) := by decide +kernel
theorem dL_law_530 : decode cL_law 530 = .ok (.aload_n 3, 1) := by decide +kernel
theorem dL_law_531 : decode cL_law 531 = .ok (.getfield 74, 3) := by decide +kernel
theorem dL_law_534 : decode cL_law 534 = .ok (.iload 16, 2) := by decide +kernel
theorem dL_law_536 : decode cL_law 536 = .ok (.aaload, 1) := by decide +kernel
theorem dL_law_537 : decode cL_law 537 = .ok (.bipush 13, 2) := by decide +kernel
theorem dL_law_539 : decode cL_law 539 = .ok (.iconst 0, 1) := by decide +kernel
theorem dL_law_540 : decode cL_law 540 = .ok (.dup_x2, 1) := by decide +kernel
theorem dL_law_541 : decode cL_law 541 = .ok (.iastore, 1) := by decide +kernel
theorem dL_law_542 : decode cL_law 542 = .ok (.iastore, 1) := by decide +kernel
theorem dL_law_543 : decode cL_law 543 = .ok (.iinc 16 1, 3) := by decide +kernel
theorem dL_law_546 : decode cL_law 546 = .ok (.goto (-31), 3) := by decide +kernel
theorem dL_law_549 : decode cL_law 549 = .ok (.iinc 5 1, 3) := by decide +kernel
theorem dL_law_552 : decode cL_law 552 = .ok (.goto (-486), 3) := by decide +kernel
theorem dL_law_555 : decode cL_law 555 = .ok (.iinc 1 1, 3) := by decide +kernel
theorem dL_law_558 : decode cL_law 558 = .ok (.goto (-556), 3) := by decide +kernel
theorem dL_law_561 : decode cL_law 561 = .ok (.iconst 1, 1) := by decide +kernel
theorem dL_law_562 : decode cL_law 562 = .ok (.ireturn, 1) := by decide +kernel
abbrev vwCl : List vw_C := [(RX0, TX0, 8), (RX1, TX1, 4), (RX2, TX2, 12), (RX3, TX3, 4), (RX4, TX4, 5), (RX5, TX5, 5), (RX6, TX6, 11), (RX7, TX7, 13)]

