theorem dL_law_466 : decode code 466 = .ok (.invokevirtual 51, 3) := by decide +kernel
theorem dL_law_469 : decode code 469 = .ok (.pop, 1) := by decide +kernel
theorem dL_law_470 : decode code 470 = .ok (.aload_n 2, 1) := by decide +kernel
theorem dL_law_471 : decode code 471 = .ok (.aload_n 0, 1) := by decide +kernel
theorem dL_law_472 : decode code 472 = .ok (.iload_n 3, 1) := by decide +kernel
theorem dL_law_473 : decode code 473 = .ok (.iconst 1, 1) := by decide +kernel
theorem dL_law_474 : decode code 474 = .ok (.iadd, 1) := by decide +kernel
theorem dL_law_475 : decode code 475 = .ok (.iaload, 1) := by decide +kernel
theorem dL_law_476 : decode code 476 = .ok (.invokevirtual 54, 3) := by decide +kernel
theorem dL_law_479 : decode code 479 = .ok (.pop, 1) := by decide +kernel
theorem dL_law_480 : decode code 480 = .ok (.goto 556, 3) := by decide +kernel
theorem dL_law_483 : decode code 483 = .ok (.aload_n 1, 1) := by decide +kernel
theorem dL_law_484 : decode code 484 = .ok (.aload_n 0, 1) := by decide +kernel
theorem dL_law_485 : decode code 485 = .ok (.iload_n 3, 1) := by decide +kernel
theorem dL_law_486 : decode code 486 = .ok (.iconst 1, 1) := by decide +kernel
theorem dL_law_487 : decode code 487 = .ok (.iadd, 1) := by decide +kernel
theorem dL_law_488 : decode code 488 = .ok (.iaload, 1) := by decide +kernel
theorem dL_law_489 : decode code 489 = .ok (.aload_n 0, 1) := by decide +kernel
theorem dL_law_490 : decode code 490 = .ok (.iload_n 3, 1) := by decide +kernel
theorem dL_law_491 : decode code 491 = .ok (.iconst 2, 1) := by decide +kernel
theorem dL_law_492 : decode code 492 = .ok (.iadd, 1) := by decide +kernel
theorem dL_law_493 : decode code 493 = .ok (.iaload, 1) := by decide +kernel
theorem dL_law_494 : decode code 494 = .ok (.invokevirtual 55, 3) := by decide +kernel
theorem dL_law_497 : decode code 497 = .ok (.pop, 1) := by decide +kernel
theorem dL_law_498 : decode code 498 = .ok (.aload_n 2, 1) := by decide +kernel
theorem dL_law_499 : decode code 499 = .ok (.aload_n 0, 1) := by decide +kernel
theorem dL_law_500 : decode code 500 = .ok (.iload_n 3, 1) := by decide +kernel
theorem dL_law_501 : decode code 501 = .ok (.iconst 1, 1) := by decide +kernel
theorem dL_law_502 : decode code 502 = .ok (.iadd, 1) := by decide +kernel
theorem dL_law_503 : decode code 503 = .ok (.iaload, 1) := by decide +kernel
theorem dL_law_504 : decode code 504 = .ok (.aload_n 0, 1) := by decide +kernel
theorem dL_law_505 : decode code 505 = .ok (.iload_n 3, 1) := by decide +kernel
theorem dL_law_506 : decode code 506 = .ok (.iconst 2, 1) := by decide +kernel
theorem dL_law_507 : decode code 507 = .ok (.iadd, 1) := by decide +kernel
theorem dL_law_508 : decode code 508 = .ok (.iaload, 1) := by decide +kernel
theorem dL_law_509 : decode code 509 = .ok (.invokevirtual 59, 3) := by decide +kernel
theorem dL_law_512 : decode code 512 = .ok (.pop, 1) := by decide +kernel
theorem dL_law_513 : decode code 513 = .ok (.goto 523, 3) := by decide +kernel
theorem dL_law_516 : decode code 516 = .ok (.aload_n 1, 1) := by decide +kernel
theorem dL_law_517 : decode code 517 = .ok (.aload_n 0, 1) := by decide +kernel
theorem dL_law_518 : decode code 518 = .ok (.iload_n 3, 1) := by decide +kernel
theorem dL_law_519 : decode code 519 = .ok (.iconst 1, 1) := by decide +kernel
theorem dL_law_520 : decode code 520 = .ok (.iadd, 1) := by decide +kernel
theorem dL_law_521 : decode code 521 = .ok (.iaload, 1) := by decide +kernel
theorem dL_law_522 : decode code 522 = .ok (.aload_n 0, 1) := by decide +kernel
theorem dL_law_523 : decode code 523 = .ok (.iload_n 3, 1) := by decide +kernel
theorem dL_law_524 : decode code 524 = .ok (.iconst 2, 1) := by decide +kernel
theorem dL_law_525 : decode code 525 = .ok (.iadd, 1) := by decide +kernel
theorem dL_law_526 : decode code 526 = .ok (.iaload, 1) := by decide +kernel
theorem dL_law_527 : decode code 527 = .ok (.invokevirtual 60, 3) := by decide +kernel
theorem dL_law_530 : decode code 530 = .ok (.pop, 1) := by decide +kernel
theorem dL_law_531 : decode code 531 = .ok (.aload_n 2, 1) := by decide +kernel
theorem dL_law_532 : decode code 532 = .ok (.aload_n 0, 1) := by decide +kernel
theorem dL_law_533 : decode code 533 = .ok (.iload_n 3, 1) := by decide +kernel
theorem dL_law_534 : decode code 534 = .ok (.iconst 1, 1) := by decide +kernel
theorem dL_law_535 : decode code 535 = .ok (.iadd, 1) := by decide +kernel
theorem dL_law_536 : decode code 536 = .ok (.iaload, 1) := by decide +kernel
theorem dL_law_537 : decode code 537 = .ok (.aload_n 0, 1) := by decide +kernel
theorem dL_law_538 : decode code 538 = .ok (.iload_n 3, 1) := by decide +kernel
theorem dL_law_539 : decode code 539 = .ok (.iconst 2, 1) := by decide +kernel
theorem dL_law_540 : decode code 540 = .ok (.iadd, 1) := by decide +kernel
theorem dL_law_541 : decode code 541 = .ok (.iaload, 1) := by decide +kernel
theorem dL_law_542 : decode code 542 = .ok (.invokevirtual 63, 3) := by decide +kernel
theorem dL_law_545 : decode code 545 = .ok (.pop, 1) := by decide +kernel
theorem dL_law_546 : decode code 546 = .ok (.goto 490, 3) := by decide +kernel
theorem dL_law_549 : decode code 549 = .ok (.aload_n 1, 1) := by decide +kernel
theorem dL_law_550 : decode code 550 = .ok (.aload_n 0, 1) := by decide +kernel
theorem dL_law_551 : decode code 551 = .ok (.iload_n 3, 1) := by decide +kernel
theorem dL_law_552 : decode code 552 = .ok (.iconst 1, 1) := by decide +kernel
theorem dL_law_553 : decode code 553 = .ok (.iadd, 1) := by decide +kernel
theorem dL_law_554 : decode code 554 = .ok (.iaload, 1) := by decide +kernel
theorem dL_law_555 : decode code 555 = .ok (.aload_n 0, 1) := by decide +kernel
theorem dL_law_556 : decode code 556 = .ok (.iload_n 3, 1) := by decide +kernel
theorem dL_law_557 : decode code 557 = .ok (.iconst 2, 1) := by decide +kernel
theorem dL_law_558 : decode code 558 = .ok (.iadd, 1) := by decide +kernel
theorem dL_law_559 : decode code 559 = .ok (.iaload, 1) := by decide +kernel
theorem dL_law_560 : decode code 560 = .ok (.invokevirtual 64, 3) := by decide +kernel
theorem dL_law_563 : decode code 563 = .ok (.pop, 1) := by decide +kernel
theorem dL_law_564 : decode code 564 = .ok (.aload_n 2, 1) := by decide +kernel
theorem dL_law_565 : decode code 565 = .ok (.aload_n 0, 1) := by decide +kernel
theorem dL_law_566 : decode code 566 = .ok (.iload_n 3, 1) := by decide +kernel
theorem dL_law_567 : decode code 567 = .ok (.iconst 1, 1) := by decide +kernel
theorem dL_law_568 : decode code 568 = .ok (.iadd, 1) := by decide +kernel
theorem dL_law_569 : decode code 569 = .ok (.iaload, 1) := by decide +kernel
theorem dL_law_570 : decode code 570 = .ok (.aload_n 0, 1) := by decide +kernel
theorem dL_law_571 : decode code 571 = .ok (.iload_n 3, 1) := by decide +kernel
theorem dL_law_572 : decode code 572 = .ok (.iconst 2, 1) := by decide +kernel
theorem dL_law_573 : decode code 573 = .ok (.iadd, 1) := by decide +kernel
theorem dL_law_574 : decode code 574 = .ok (.iaload, 1) := by decide +kernel
theorem dL_law_575 : decode code 575 = .ok (.invokevirtual 67, 3) := by decide +kernel
