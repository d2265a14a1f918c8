theorem dL_law_450 : decode jL_law.2.1 450 = .ok (.iaload, 1) := by decide +kernel
theorem dL_law_451 : decode jL_law.2.1 451 = .ok (.aload_n 3, 1) := by decide +kernel
theorem dL_law_452 : decode jL_law.2.1 452 = .ok (.invokestatic 97, 3) := by decide +kernel
theorem dL_law_455 : decode jL_law.2.1 455 = .ok (.istore 5, 2) := by decide +kernel
theorem dL_law_457 : decode jL_law.2.1 457 = .ok (.aload_n 2, 1) := by decide +kernel
theorem dL_law_458 : decode jL_law.2.1 458 = .ok (.aload_n 0, 1) := by decide +kernel
theorem dL_law_459 : decode jL_law.2.1 459 = .ok (.iload 4, 2) := by decide +kernel
theorem dL_law_461 : decode jL_law.2.1 461 = .ok (.iconst 1, 1) := by decide +kernel
theorem dL_law_462 : decode jL_law.2.1 462 = .ok (.iadd, 1) := by decide +kernel
theorem dL_law_463 : decode jL_law.2.1 463 = .ok (.iaload, 1) := by decide +kernel
theorem dL_law_464 : decode jL_law.2.1 464 = .ok (.aload_n 0, 1) := by decide +kernel
theorem dL_law_465 : decode jL_law.2.1 465 = .ok (.iload 4, 2) := by decide +kernel
theorem dL_law_467 : decode jL_law.2.1 467 = .ok (.iconst 2, 1) := by decide +kernel
theorem dL_law_468 : decode jL_law.2.1 468 = .ok (.iadd, 1) := by decide +kernel
theorem dL_law_469 : decode jL_law.2.1 469 = .ok (.iaload, 1) := by decide +kernel
theorem dL_law_470 : decode jL_law.2.1 470 = .ok (.invokevirtual 100, 3) := by decide +kernel
theorem dL_law_473 : decode jL_law.2.1 473 = .ok (.istore 6, 2) := by decide +kernel
theorem dL_law_475 : decode jL_law.2.1 475 = .ok (.aload_n 2, 1) := by decide +kernel
theorem dL_law_476 : decode jL_law.2.1 476 = .ok (.invokevirtual 87, 3) := by decide +kernel
theorem dL_law_479 : decode jL_law.2.1 479 = .ok (.iload 5, 2) := by decide +kernel
theorem dL_law_481 : decode jL_law.2.1 481 = .ok (.if_icmp .eq 5, 3) := by decide +kernel
theorem dL_law_484 : decode jL_law.2.1 484 = .ok (.iconst 0, 1) := by decide +kernel
theorem dL_law_485 : decode jL_law.2.1 485 = .ok (.ireturn, 1) := by decide +kernel
theorem dL_law_486 : decode jL_law.2.1 486 = .ok (.iload 5, 2) := by decide +kernel
theorem dL_law_488 : decode jL_law.2.1 488 = .ok (.ifCond .ne 15, 3) := by decide +kernel
theorem dL_law_491 : decode jL_law.2.1 491 = .ok (.aload_n 3, 1) := by decide +kernel
theorem dL_law_492 : decode jL_law.2.1 492 = .ok (.iconst 0, 1) := by decide +kernel
theorem dL_law_493 : decode jL_law.2.1 493 = .ok (.laload, 1) := by decide +kernel
theorem dL_law_494 : decode jL_law.2.1 494 = .ok (.iload 6, 2) := by decide +kernel
theorem dL_law_496 : decode jL_law.2.1 496 = .ok (.i2l, 1) := by decide +kernel
theorem dL_law_497 : decode jL_law.2.1 497 = .ok (.lcmp, 1) := by decide +kernel
theorem dL_law_498 : decode jL_law.2.1 498 = .ok (.ifCond .eq 5, 3) := by decide +kernel
theorem dL_law_501 : decode jL_law.2.1 501 = .ok (.iconst 0, 1) := by decide +kernel
theorem dL_law_502 : decode jL_law.2.1 502 = .ok (.ireturn, 1) := by decide +kernel
theorem dL_law_503 : decode jL_law.2.1 503 = .ok (.goto 1010, 3) := by decide +kernel
theorem dL_law_506 : decode jL_law.2.1 506 = .ok (.aload_n 1, 1) := by decide +kernel
theorem dL_law_507 : decode jL_law.2.1 507 = .ok (.aload_n 0, 1) := by decide +kernel
theorem dL_law_508 : decode jL_law.2.1 508 = .ok (.iload 4, 2) := by decide +kernel
theorem dL_law_510 : decode jL_law.2.1 510 = .ok (.iconst 1, 1) := by decide +kernel
theorem dL_law_511 : decode jL_law.2.1 511 = .ok (.iadd, 1) := by decide +kernel
theorem dL_law_512 : decode jL_law.2.1 512 = .ok (.iaload, 1) := by decide +kernel
theorem dL_law_513 : decode jL_law.2.1 513 = .ok (.aload_n 0, 1) := by decide +kernel
theorem dL_law_514 : decode jL_law.2.1 514 = .ok (.iload 4, 2) := by decide +kernel
theorem dL_law_516 : decode jL_law.2.1 516 = .ok (.iconst 2, 1) := by decide +kernel
theorem dL_law_517 : decode jL_law.2.1 517 = .ok (.iadd, 1) := by decide +kernel
theorem dL_law_518 : decode jL_law.2.1 518 = .ok (.iaload, 1) := by decide +kernel
theorem dL_law_519 : decode jL_law.2.1 519 = .ok (.aload_n 0, 1) := by decide +kernel
theorem dL_law_520 : decode jL_law.2.1 520 = .ok (.iload 4, 2) := by decide +kernel
theorem dL_law_522 : decode jL_law.2.1 522 = .ok (.iconst 3, 1) := by decide +kernel
theorem dL_law_523 : decode jL_law.2.1 523 = .ok (.iadd, 1) := by decide +kernel
theorem dL_law_524 : decode jL_law.2.1 524 = .ok (.iaload, 1) := by decide +kernel
theorem dL_law_525 : decode jL_law.2.1 525 = .ok (.i2l, 1) := by decide +kernel
theorem dL_law_526 : decode jL_law.2.1 526 = .ok (.bipush 32, 2) := by decide +kernel
theorem dL_law_528 : decode jL_law.2.1 528 = .ok (.lshl, 1) := by decide +kernel
theorem dL_law_529 : decode jL_law.2.1 529 = .ok (.aload_n 0, 1) := by decide +kernel
theorem dL_law_530 : decode jL_law.2.1 530 = .ok (.iload 4, 2) := by decide +kernel
theorem dL_law_532 : decode jL_law.2.1 532 = .ok (.iconst 4, 1) := by decide +kernel
theorem dL_law_533 : decode jL_law.2.1 533 = .ok (.iadd, 1) := by decide +kernel
theorem dL_law_534 : decode jL_law.2.1 534 = .ok (.iaload, 1) := by decide +kernel
theorem dL_law_535 : decode jL_law.2.1 535 = .ok (.i2l, 1) := by decide +kernel
theorem dL_law_536 : decode jL_law.2.1 536 = .ok (.ldc2_w 79, 3) := by decide +kernel
theorem dL_law_539 : decode jL_law.2.1 539 = .ok (.land, 1) := by decide +kernel
theorem dL_law_540 : decode jL_law.2.1 540 = .ok (.lor, 1) := by decide +kernel
theorem dL_law_541 : decode jL_law.2.1 541 = .ok (.aload_n 3, 1) := by decide +kernel
theorem dL_law_542 : decode jL_law.2.1 542 = .ok (.invokestatic 101, 3) := by decide +kernel
theorem dL_law_545 : decode jL_law.2.1 545 = .ok (.istore 5, 2) := by decide +kernel
theorem dL_law_547 : decode jL_law.2.1 547 = .ok (.aload_n 2, 1) := by decide +kernel
theorem dL_law_548 : decode jL_law.2.1 548 = .ok (.aload_n 0, 1) := by decide +kernel
theorem dL_law_549 : decode jL_law.2.1 549 = .ok (.iload 4, 2) := by decide +kernel
theorem dL_law_551 : decode jL_law.2.1 551 = .ok (.iconst 1, 1) := by decide +kernel
theorem dL_law_552 : decode jL_law.2.1 552 = .ok (.iadd, 1) := by decide +kernel
theorem dL_law_553 : decode jL_law.2.1 553 = .ok (.iaload, 1) := by decide +kernel
theorem dL_law_554 : decode jL_law.2.1 554 = .ok (.aload_n 0, 1) := by decide +kernel
theorem dL_law_555 : decode jL_law.2.1 555 = .ok (.iload 4, 2) := by decide +kernel
theorem dL_law_557 : decode jL_law.2.1 557 = .ok (.iconst 2, 1) := by decide +kernel
theorem dL_law_558 : decode jL_law.2.1 558 = .ok (.iadd, 1) := by decide +kernel
theorem dL_law_559 : decode jL_law.2.1 559 = .ok (.iaload, 1) := by decide +kernel
theorem dL_law_560 : decode jL_law.2.1 560 = .ok (.aload_n 0, 1) := by decide +kernel
theorem dL_law_561 : decode jL_law.2.1 561 = .ok (.iload 4, 2) := by decide +kernel
theorem dL_law_563 : decode jL_law.2.1 563 = .ok (.iconst 3, 1) := by decide +kernel
theorem dL_law_564 : decode jL_law.2.1 564 = .ok (.iadd, 1) := by decide +kernel
theorem dL_law_565 : decode jL_law.2.1 565 = .ok (.iaload, 1) := by decide +kernel
theorem dL_law_566 : decode jL_law.2.1 566 = .ok (.i2l, 1) := by decide +kernel
theorem dL_law_567 : decode jL_law.2.1 567 = .ok (.bipush 32, 2) := by decide +kernel
theorem dL_law_569 : decode jL_law.2.1 569 = .ok (.lshl, 1) := by decide +kernel
theorem dL_law_570 : decode jL_law.2.1 570 = .ok (.aload_n 0, 1) := by decide +kernel
theorem dL_law_571 : decode jL_law.2.1 571 = .ok (.iload 4, 2) := by decide +kernel
theorem dL_law_573 : decode jL_law.2.1 573 = .ok (.iconst 4, 1) := by decide +kernel
theorem dL_law_574 : decode jL_law.2.1 574 = .ok (.iadd, 1) := by decide +kernel
theorem dL_law_575 : decode jL_law.2.1 575 = .ok (.iaload, 1) := by decide +kernel
theorem dL_law_576 : decode jL_law.2.1 576 = .ok (.i2l, 1) := by decide +kernel
theorem dL_law_577 : decode jL_law.2.1 577 = .ok (.ldc2_w 79, 3) := by decide +kernel
theorem dL_law_580 : decode jL_law.2.1 580 = .ok (.land, 1) := by decide +kernel
theorem dL_law_581 : decode jL_law.2.1 581 = .ok (.lor, 1) := by decide +kernel
theorem dL_law_582 : decode jL_law.2.1 582 = .ok (.invokevirtual 104, 3) := by decide +kernel
theorem dL_law_585 : decode jL_law.2.1 585 = .ok (.istore 6, 2) := by decide +kernel
theorem dL_law_587 : decode jL_law.2.1 587 = .ok (.aload_n 2, 1) := by decide +kernel
theorem dL_law_588 : decode jL_law.2.1 588 = .ok (.invokevirtual 87, 3) := by decide +kernel
theorem dL_law_591 : decode jL_law.2.1 591 = .ok (.iload 5, 2) := by decide +kernel
theorem dL_law_593 : decode jL_law.2.1 593 = .ok (.if_icmp .eq 5, 3) := by decide +kernel
theorem dL_law_596 : decode jL_law.2.1 596 = .ok (.iconst 0, 1) := by decide +kernel
theorem dL_law_597 : decode jL_law.2.1 597 = .ok (.ireturn, 1) := by decide +kernel
theorem dL_law_598 : decode jL_law.2.1 598 = .ok (.iload 5, 2) := by decide +kernel
theorem dL_law_600 : decode jL_law.2.1 600 = .ok (.ifCond .ne 15, 3) := by decide +kernel
theorem dL_law_603 : decode jL_law.2.1 603 = .ok (.aload_n 3, 1) := by decide +kernel
theorem dL_law_604 : decode jL_law.2.1 604 = .ok (.iconst 0, 1) := by decide +kernel
theorem dL_law_605 : decode jL_law.2.1 605 = .ok (.laload, 1) := by decide +kernel
theorem dL_law_606 : decode jL_law.2.1 606 = .ok (.iload 6, 2) := by decide +kernel
theorem dL_law_608 : decode jL_law.2.1 608 = .ok (.i2l, 1) := by decide +kernel
theorem dL_law_609 : decode jL_law.2.1 609 = .ok (.lcmp, 1) := by decide +kernel
theorem dL_law_610 : decode jL_law.2.1 610 = .ok (.ifCond .eq 5, 3) := by decide +kernel
theorem dL_law_613 : decode jL_law.2.1 613 = .ok (.iconst 0, 1) := by decide +kernel
theorem dL_law_614 : decode jL_law.2.1 614 = .ok (.ireturn, 1) := by decide +kernel
theorem dL_law_615 : decode jL_law.2.1 615 = .ok (.goto 898, 3) := by decide +kernel
theorem dL_law_618 : decode jL_law.2.1 618 = .ok (.aload_n 1, 1) := by decide +kernel
theorem dL_law_619 : decode jL_law.2.1 619 = .ok (.aload_n 0, 1) := by decide +kernel
theorem dL_law_620 : decode jL_law.2.1 620 = .ok (.iload 4, 2) := by decide +kernel
theorem dL_law_622 : decode jL_law.2.1 622 = .ok (.iconst 1, 1) := by decide +kernel
theorem dL_law_623 : decode jL_law.2.1 623 = .ok (.iadd, 1) := by decide +kernel
theorem dL_law_624 : decode jL_law.2.1 624 = .ok (.iaload, 1) := by decide +kernel
