/-! instructions -/
theorem dd_La_law_333 : decode bb_La_law 333 = .ok (.lcmp, 1) := by decide +kernel
theorem dd_La_law_334 : decode bb_La_law 334 = .ok (.ifCond .eq 5, 3) := by decide +kernel
theorem dd_La_law_337 : decode bb_La_law 337 = .ok (.iconst 0, 1) := by decide +kernel
theorem dd_La_law_338 : decode bb_La_law 338 = .ok (.ireturn, 1) := by decide +kernel
theorem dd_La_law_339 : decode bb_La_law 339 = .ok (.goto 284, 3) := by decide +kernel
theorem dd_La_law_342 : decode bb_La_law 342 = .ok (.aload_n 1, 1) := by decide +kernel
theorem dd_La_law_343 : decode bb_La_law 343 = .ok (.invokevirtual 73, 3) := by decide +kernel
theorem dd_La_law_346 : decode bb_La_law 346 = .ok (.aload_n 2, 1) := by decide +kernel
theorem dd_La_law_347 : decode bb_La_law 347 = .ok (.invokevirtual 76, 3) := by decide +kernel
theorem dd_La_law_350 : decode bb_La_law 350 = .ok (.if_icmp .eq 273, 3) := by decide +kernel
theorem dd_La_law_353 : decode bb_La_law 353 = .ok (.iconst 0, 1) := by decide +kernel
theorem dd_La_law_354 : decode bb_La_law 354 = .ok (.ireturn, 1) := by decide +kernel
theorem dd_La_law_355 : decode bb_La_law 355 = .ok (.aload_n 1, 1) := by decide +kernel
theorem dd_La_law_356 : decode bb_La_law 356 = .ok (.aload_n 0, 1) := by decide +kernel
theorem dd_La_law_357 : decode bb_La_law 357 = .ok (.iload 4, 2) := by decide +kernel
theorem dd_La_law_359 : decode bb_La_law 359 = .ok (.iconst 1, 1) := by decide +kernel
theorem dd_La_law_360 : decode bb_La_law 360 = .ok (.iadd, 1) := by decide +kernel
theorem dd_La_law_361 : decode bb_La_law 361 = .ok (.iaload, 1) := by decide +kernel
theorem dd_La_law_362 : decode bb_La_law 362 = .ok (.aload_n 3, 1) := by decide +kernel
theorem dd_La_law_363 : decode bb_La_law 363 = .ok (.invokestatic 77, 3) := by decide +kernel
theorem dd_La_law_366 : decode bb_La_law 366 = .ok (.istore 5, 2) := by decide +kernel
theorem dd_La_law_368 : decode bb_La_law 368 = .ok (.aload_n 2, 1) := by decide +kernel
theorem dd_La_law_369 : decode bb_La_law 369 = .ok (.aload_n 0, 1) := by decide +kernel
theorem dd_La_law_370 : decode bb_La_law 370 = .ok (.iload 4, 2) := by decide +kernel
theorem dd_La_law_372 : decode bb_La_law 372 = .ok (.iconst 1, 1) := by decide +kernel
theorem dd_La_law_373 : decode bb_La_law 373 = .ok (.iadd, 1) := by decide +kernel
theorem dd_La_law_374 : decode bb_La_law 374 = .ok (.iaload, 1) := by decide +kernel
theorem dd_La_law_375 : decode bb_La_law 375 = .ok (.invokevirtual 79, 3) := by decide +kernel
theorem dd_La_law_378 : decode bb_La_law 378 = .ok (.lstore 6, 2) := by decide +kernel
theorem dd_La_law_380 : decode bb_La_law 380 = .ok (.aload_n 2, 1) := by decide +kernel
theorem dd_La_law_381 : decode bb_La_law 381 = .ok (.invokevirtual 58, 3) := by decide +kernel
theorem dd_La_law_384 : decode bb_La_law 384 = .ok (.iload 5, 2) := by decide +kernel
theorem dd_La_law_386 : decode bb_La_law 386 = .ok (.if_icmp .eq 5, 3) := by decide +kernel
theorem dd_La_law_389 : decode bb_La_law 389 = .ok (.iconst 0, 1) := by decide +kernel
theorem dd_La_law_390 : decode bb_La_law 390 = .ok (.ireturn, 1) := by decide +kernel
theorem dd_La_law_391 : decode bb_La_law 391 = .ok (.iload 5, 2) := by decide +kernel
theorem dd_La_law_393 : decode bb_La_law 393 = .ok (.ifCond .ne 14, 3) := by decide +kernel
theorem dd_La_law_396 : decode bb_La_law 396 = .ok (.aload_n 3, 1) := by decide +kernel
theorem dd_La_law_397 : decode bb_La_law 397 = .ok (.iconst 0, 1) := by decide +kernel
theorem dd_La_law_398 : decode bb_La_law 398 = .ok (.laload, 1) := by decide +kernel
theorem dd_La_law_399 : decode bb_La_law 399 = .ok (.lload 6, 2) := by decide +kernel
theorem dd_La_law_401 : decode bb_La_law 401 = .ok (.lcmp, 1) := by decide +kernel
theorem dd_La_law_402 : decode bb_La_law 402 = .ok (.ifCond .eq 5, 3) := by decide +kernel
theorem dd_La_law_405 : decode bb_La_law 405 = .ok (.iconst 0, 1) := by decide +kernel
theorem dd_La_law_406 : decode bb_La_law 406 = .ok (.ireturn, 1) := by decide +kernel
theorem dd_La_law_407 : decode bb_La_law 407 = .ok (.goto 216, 3) := by decide +kernel
theorem dd_La_law_410 : decode bb_La_law 410 = .ok (.aload_n 1, 1) := by decide +kernel
theorem dd_La_law_411 : decode bb_La_law 411 = .ok (.aload_n 0, 1) := by decide +kernel
theorem dd_La_law_412 : decode bb_La_law 412 = .ok (.iload 4, 2) := by decide +kernel
theorem dd_La_law_414 : decode bb_La_law 414 = .ok (.iconst 1, 1) := by decide +kernel
theorem dd_La_law_415 : decode bb_La_law 415 = .ok (.iadd, 1) := by decide +kernel
theorem dd_La_law_416 : decode bb_La_law 416 = .ok (.iaload, 1) := by decide +kernel
theorem dd_La_law_417 : decode bb_La_law 417 = .ok (.i2l, 1) := by decide +kernel
theorem dd_La_law_418 : decode bb_La_law 418 = .ok (.bipush 32, 2) := by decide +kernel
theorem dd_La_law_420 : decode bb_La_law 420 = .ok (.lshl, 1) := by decide +kernel
theorem dd_La_law_421 : decode bb_La_law 421 = .ok (.aload_n 0, 1) := by decide +kernel
theorem dd_La_law_422 : decode bb_La_law 422 = .ok (.iload 4, 2) := by decide +kernel
theorem dd_La_law_424 : decode bb_La_law 424 = .ok (.iconst 2, 1) := by decide +kernel
theorem dd_La_law_425 : decode bb_La_law 425 = .ok (.iadd, 1) := by decide +kernel
theorem dd_La_law_426 : decode bb_La_law 426 = .ok (.iaload, 1) := by decide +kernel
theorem dd_La_law_427 : decode bb_La_law 427 = .ok (.i2l, 1) := by decide +kernel
theorem dd_La_law_428 : decode bb_La_law 428 = .ok (.ldc2_w 50, 3) := by decide +kernel
theorem dd_La_law_431 : decode bb_La_law 431 = .ok (.land, 1) := by decide +kernel
theorem dd_La_law_432 : decode bb_La_law 432 = .ok (.lor, 1) := by decide +kernel
theorem dd_La_law_433 : decode bb_La_law 433 = .ok (.aload_n 0, 1) := by decide +kernel
theorem dd_La_law_434 : decode bb_La_law 434 = .ok (.iload 4, 2) := by decide +kernel
theorem dd_La_law_436 : decode bb_La_law 436 = .ok (.iconst 3, 1) := by decide +kernel
theorem dd_La_law_437 : decode bb_La_law 437 = .ok (.iadd, 1) := by decide +kernel
theorem dd_La_law_438 : decode bb_La_law 438 = .ok (.iaload, 1) := by decide +kernel
theorem dd_La_law_439 : decode bb_La_law 439 = .ok (.aload_n 3, 1) := by decide +kernel
theorem dd_La_law_440 : decode bb_La_law 440 = .ok (.invokestatic 80, 3) := by decide +kernel
theorem dd_La_law_443 : decode bb_La_law 443 = .ok (.istore 5, 2) := by decide +kernel
theorem dd_La_law_445 : decode bb_La_law 445 = .ok (.aload_n 2, 1) := by decide +kernel
theorem dd_La_law_446 : decode bb_La_law 446 = .ok (.aload_n 0, 1) := by decide +kernel
theorem dd_La_law_447 : decode bb_La_law 447 = .ok (.iload 4, 2) := by decide +kernel
theorem dd_La_law_449 : decode bb_La_law 449 = .ok (.iconst 1, 1) := by decide +kernel
theorem dd_La_law_450 : decode bb_La_law 450 = .ok (.iadd, 1) := by decide +kernel
theorem dd_La_law_451 : decode bb_La_law 451 = .ok (.iaload, 1) := by decide +kernel
theorem dd_La_law_452 : decode bb_La_law 452 = .ok (.i2l, 1) := by decide +kernel
theorem dd_La_law_453 : decode bb_La_law 453 = .ok (.bipush 32, 2) := by decide +kernel
theorem dd_La_law_455 : decode bb_La_law 455 = .ok (.lshl, 1) := by decide +kernel
theorem dd_La_law_456 : decode bb_La_law 456 = .ok (.aload_n 0, 1) := by decide +kernel
theorem dd_La_law_457 : decode bb_La_law 457 = .ok (.iload 4, 2) := by decide +kernel
theorem dd_La_law_459 : decode bb_La_law 459 = .ok (.iconst 2, 1) := by decide +kernel
theorem dd_La_law_460 : decode bb_La_law 460 = .ok (.iadd, 1) := by decide +kernel
theorem dd_La_law_461 : decode bb_La_law 461 = .ok (.iaload, 1) := by decide +kernel
theorem dd_La_law_462 : decode bb_La_law 462 = .ok (.i2l, 1) := by decide +kernel
theorem dd_La_law_463 : decode bb_La_law 463 = .ok (.ldc2_w 50, 3) := by decide +kernel
theorem dd_La_law_466 : decode bb_La_law 466 = .ok (.land, 1) := by decide +kernel
theorem dd_La_law_467 : decode bb_La_law 467 = .ok (.lor, 1) := by decide +kernel
theorem dd_La_law_468 : decode bb_La_law 468 = .ok (.aload_n 0, 1) := by decide +kernel
theorem dd_La_law_469 : decode bb_La_law 469 = .ok (.iload 4, 2) := by decide +kernel
theorem dd_La_law_471 : decode bb_La_law 471 = .ok (.iconst 3, 1) := by decide +kernel
theorem dd_La_law_472 : decode bb_La_law 472 = .ok (.iadd, 1) := by decide +kernel
theorem dd_La_law_473 : decode bb_La_law 473 = .ok (.iaload, 1) := by decide +kernel
theorem dd_La_law_474 : decode bb_La_law 474 = .ok (.invokevirtual 83, 3) := by decide +kernel
theorem dd_La_law_477 : decode bb_La_law 477 = .ok (.istore 6, 2) := by decide +kernel
theorem dd_La_law_479 : decode bb_La_law 479 = .ok (.aload_n 2, 1) := by decide +kernel
theorem dd_La_law_480 : decode bb_La_law 480 = .ok (.invokevirtual 58, 3) := by decide +kernel
theorem dd_La_law_483 : decode bb_La_law 483 = .ok (.iload 5, 2) := by decide +kernel
theorem dd_La_law_485 : decode bb_La_law 485 = .ok (.if_icmp .eq 5, 3) := by decide +kernel
theorem dd_La_law_488 : decode bb_La_law 488 = .ok (.iconst 0, 1) := by decide +kernel
theorem dd_La_law_489 : decode bb_La_law 489 = .ok (.ireturn, 1) := by decide +kernel
theorem dd_La_law_490 : decode bb_La_law 490 = .ok (.iload 5, 2) := by decide +kernel
theorem dd_La_law_492 : decode bb_La_law 492 = .ok (.ifCond .ne 15, 3) := by decide +kernel
theorem dd_La_law_495 : decode bb_La_law 495 = .ok (.aload_n 3, 1) := by decide +kernel
theorem dd_La_law_496 : decode bb_La_law 496 = .ok (.iconst 0, 1) := by decide +kernel
theorem dd_La_law_497 : decode bb_La_law 497 = .ok (.laload, 1) := by decide +kernel
theorem dd_La_law_498 : decode bb_La_law 498 = .ok (.iload 6, 2) := by decide +kernel
theorem dd_La_law_500 : decode bb_La_law 500 = .ok (.i2l, 1) := by decide +kernel
theorem dd_La_law_501 : decode bb_La_law 501 = .ok (.lcmp, 1) := by decide +kernel
theorem dd_La_law_502 : decode bb_La_law 502 = .ok (.ifCond .eq 5, 3) := by decide +kernel
theorem dd_La_law_505 : decode bb_La_law 505 = .ok (.iconst 0, 1) := by decide +kernel
theorem dd_La_law_506 : decode bb_La_law 506 = .ok (.ireturn, 1) := by decide +kernel
theorem dd_La_law_507 : decode bb_La_law 507 = .ok (.goto 116, 3) := by decide +kernel
theorem dd_La_law_510 : decode bb_La_law 510 = .ok (.aload_n 1, 1) := by decide +kernel
theorem dd_La_law_511 : decode bb_La_law 511 = .ok (.aload_n 3, 1) := by decide +kernel
theorem dd_La_law_512 : decode bb_La_law 512 = .ok (.invokestatic 84, 3) := by decide +kernel
theorem dd_La_law_515 : decode bb_La_law 515 = .ok (.istore 5, 2) := by decide +kernel
theorem dd_La_law_517 : decode bb_La_law 517 = .ok (.aload_n 2, 1) := by decide +kernel
theorem dd_La_law_518 : decode bb_La_law 518 = .ok (.invokevirtual 87, 3) := by decide +kernel
theorem dd_La_law_521 : decode bb_La_law 521 = .ok (.istore 6, 2) := by decide +kernel
theorem dd_La_law_523 : decode bb_La_law 523 = .ok (.aload_n 2, 1) := by decide +kernel
theorem dd_La_law_524 : decode bb_La_law 524 = .ok (.invokevirtual 58, 3) := by decide +kernel
theorem dd_La_law_527 : decode bb_La_law 527 = .ok (.iload 5, 2) := by decide +kernel
theorem dd_La_law_529 : decode bb_La_law 529 = .ok (.if_icmp .eq 5, 3) := by decide +kernel
theorem dd_La_law_532 : decode bb_La_law 532 = .ok (.iconst 0, 1) := by decide +kernel
theorem dd_La_law_533 : decode bb_La_law 533 = .ok (.ireturn, 1) := by decide +kernel
theorem dd_La_law_534 : decode bb_La_law 534 = .ok (.iload 5, 2) := by decide +kernel
theorem dd_La_law_536 : decode bb_La_law 536 = .ok (.ifCond .ne 15, 3) := by decide +kernel
theorem dd_La_law_539 : decode bb_La_law 539 = .ok (.aload_n 3, 1) := by decide +kernel
theorem dd_La_law_540 : decode bb_La_law 540 = .ok (.iconst 0, 1) := by decide +kernel
theorem dd_La_law_541 : decode bb_La_law 541 = .ok (.laload, 1) := by decide +kernel
theorem dd_La_law_542 : decode bb_La_law 542 = .ok (.iload 6, 2) := by decide +kernel
theorem dd_La_law_544 : decode bb_La_law 544 = .ok (.i2l, 1) := by decide +kernel
theorem dd_La_law_545 : decode bb_La_law 545 = .ok (.lcmp, 1) := by decide +kernel
theorem dd_La_law_546 : decode bb_La_law 546 = .ok (.ifCond .eq 5, 3) := by decide +kernel
theorem dd_La_law_549 : decode bb_La_law 549 = .ok (.iconst 0, 1) := by decide +kernel
theorem dd_La_law_550 : decode bb_La_law 550 = .ok (.ireturn, 1) := by decide +kernel
theorem dd_La_law_551 : decode bb_La_law 551 = .ok (.goto 72, 3) := by decide +kernel
theorem dd_La_law_554 : decode bb_La_law 554 = .ok (.aload_n 1, 1) := by decide +kernel
theorem dd_La_law_555 : decode bb_La_law 555 = .ok (.invokevirtual 88, 3) := by decide +kernel
theorem dd_La_law_558 : decode bb_La_law 558 = .ok (.aload_n 2, 1) := by decide +kernel
theorem dd_La_law_559 : decode bb_La_law 559 = .ok (.invokevirtual 91, 3) := by decide +kernel
theorem dd_La_law_562 : decode bb_La_law 562 = .ok (.if_icmp .eq 61, 3) := by decide +kernel
theorem dd_La_law_565 : decode bb_La_law 565 = .ok (.iconst 0, 1) := by decide +kernel
theorem dd_La_law_566 : decode bb_La_law 566 = .ok (.ireturn, 1) := by decide +kernel
theorem dd_La_law_567 : decode bb_La_law 567 = .ok (.aload_n 1, 1) := by decide +kernel
theorem dd_La_law_568 : decode bb_La_law 568 = .ok (.aload_n 0, 1) := by decide +kernel
theorem dd_La_law_569 : decode bb_La_law 569 = .ok (.iload 4, 2) := by decide +kernel
theorem dd_La_law_571 : decode bb_La_law 571 = .ok (.iconst 1, 1) := by decide +kernel
theorem dd_La_law_572 : decode bb_La_law 572 = .ok (.iadd, 1) := by decide +kernel
theorem dd_La_law_573 : decode bb_La_law 573 = .ok (.iaload, 1) := by decide +kernel
theorem dd_La_law_574 : decode bb_La_law 574 = .ok (.aload_n 3, 1) := by decide +kernel
theorem dd_La_law_575 : decode bb_La_law 575 = .ok (.invokestatic 92, 3) := by decide +kernel
theorem dd_La_law_578 : decode bb_La_law 578 = .ok (.istore 5, 2) := by decide +kernel
theorem dd_La_law_580 : decode bb_La_law 580 = .ok (.aload_n 2, 1) := by decide +kernel
theorem dd_La_law_581 : decode bb_La_law 581 = .ok (.aload_n 0, 1) := by decide +kernel
theorem dd_La_law_582 : decode bb_La_law 582 = .ok (.iload 4, 2) := by decide +kernel
theorem dd_La_law_584 : decode bb_La_law 584 = .ok (.iconst 1, 1) := by decide +kernel
theorem dd_La_law_585 : decode bb_La_law 585 = .ok (.iadd, 1) := by decide +kernel
theorem dd_La_law_586 : decode bb_La_law 586 = .ok (.iaload, 1) := by decide +kernel
theorem dd_La_law_587 : decode bb_La_law 587 = .ok (.invokevirtual 94, 3) := by decide +kernel
theorem dd_La_law_590 : decode bb_La_law 590 = .ok (.istore 6, 2) := by decide +kernel
theorem dd_La_law_592 : decode bb_La_law 592 = .ok (.aload_n 2, 1) := by decide +kernel
theorem dd_La_law_593 : decode bb_La_law 593 = .ok (.invokevirtual 58, 3) := by decide +kernel
theorem dd_La_law_596 : decode bb_La_law 596 = .ok (.iload 5, 2) := by decide +kernel
theorem dd_La_law_598 : decode bb_La_law 598 = .ok (.if_icmp .eq 5, 3) := by decide +kernel
theorem dd_La_law_601 : decode bb_La_law 601 = .ok (.iconst 0, 1) := by decide +kernel
theorem dd_La_law_602 : decode bb_La_law 602 = .ok (.ireturn, 1) := by decide +kernel
theorem dd_La_law_603 : decode bb_La_law 603 = .ok (.iload 5, 2) := by decide +kernel
theorem dd_La_law_605 : decode bb_La_law 605 = .ok (.ifCond .ne 15, 3) := by decide +kernel
theorem dd_La_law_608 : decode bb_La_law 608 = .ok (.aload_n 3, 1) := by decide +kernel
theorem dd_La_law_609 : decode bb_La_law 609 = .ok (.iconst 0, 1) := by decide +kernel
theorem dd_La_law_610 : decode bb_La_law 610 = .ok (.laload, 1) := by decide +kernel
theorem dd_La_law_611 : decode bb_La_law 611 = .ok (.iload 6, 2) := by decide +kernel
theorem dd_La_law_613 : decode bb_La_law 613 = .ok (.i2l, 1) := by decide +kernel
theorem dd_La_law_614 : decode bb_La_law 614 = .ok (.lcmp, 1) := by decide +kernel
theorem dd_La_law_615 : decode bb_La_law 615 = .ok (.ifCond .eq 5, 3) := by decide +kernel
theorem dd_La_law_618 : decode bb_La_law 618 = .ok (.iconst 0, 1) := by decide +kernel
theorem dd_La_law_619 : decode bb_La_law 619 = .ok (.ireturn, 1) := by decide +kernel
theorem dd_La_law_620 : decode bb_La_law 620 = .ok (.goto 3, 3) := by decide +kernel
theorem dd_La_law_623 : decode bb_La_law 623 = .ok (.iinc 4 4, 3) := by decide +kernel
theorem dd_La_law_626 : decode bb_La_law 626 = .ok (.goto (-603), 3) := by decide +kernel
theorem dd_La_law_629 : decode bb_La_law 629 = .ok (.iconst 1, 1) := by decide +kernel
theorem dd_La_law_630 : decode bb_La_law 630 = .ok (.ireturn, 1) := by decide +kernel
