theorem d_Law_law_487 : decode b_Law_law 487 = .ok (.aload_n 1, 1) := by decide +kernel
theorem d_Law_law_488 : decode b_Law_law 488 = .ok (.aload_n 0, 1) := by decide +kernel
theorem d_Law_law_489 : decode b_Law_law 489 = .ok (.iload 4, 2) := by decide +kernel
theorem d_Law_law_491 : decode b_Law_law 491 = .ok (.iconst 1, 1) := by decide +kernel
theorem d_Law_law_492 : decode b_Law_law 492 = .ok (.iadd, 1) := by decide +kernel
theorem d_Law_law_493 : decode b_Law_law 493 = .ok (.iaload, 1) := by decide +kernel
theorem d_Law_law_494 : decode b_Law_law 494 = .ok (.invokevirtual 68, 3) := by decide +kernel
theorem d_Law_law_497 : decode b_Law_law 497 = .ok (.aload_n 2, 1) := by decide +kernel
theorem d_Law_law_498 : decode b_Law_law 498 = .ok (.aload_n 0, 1) := by decide +kernel
theorem d_Law_law_499 : decode b_Law_law 499 = .ok (.iload 4, 2) := by decide +kernel
theorem d_Law_law_501 : decode b_Law_law 501 = .ok (.iconst 1, 1) := by decide +kernel
theorem d_Law_law_502 : decode b_Law_law 502 = .ok (.iadd, 1) := by decide +kernel
theorem d_Law_law_503 : decode b_Law_law 503 = .ok (.iaload, 1) := by decide +kernel
theorem d_Law_law_504 : decode b_Law_law 504 = .ok (.invokevirtual 71, 3) := by decide +kernel
theorem d_Law_law_507 : decode b_Law_law 507 = .ok (.if_icmp .eq 146, 3) := by decide +kernel
theorem d_Law_law_512 : decode b_Law_law 512 = .ok (.aload_n 1, 1) := by decide +kernel
theorem d_Law_law_513 : decode b_Law_law 513 = .ok (.aload_n 0, 1) := by decide +kernel
theorem d_Law_law_514 : decode b_Law_law 514 = .ok (.iload 4, 2) := by decide +kernel
theorem d_Law_law_516 : decode b_Law_law 516 = .ok (.iconst 1, 1) := by decide +kernel
theorem d_Law_law_517 : decode b_Law_law 517 = .ok (.iadd, 1) := by decide +kernel
theorem d_Law_law_518 : decode b_Law_law 518 = .ok (.iaload, 1) := by decide +kernel
theorem d_Law_law_519 : decode b_Law_law 519 = .ok (.invokevirtual 72, 3) := by decide +kernel
theorem d_Law_law_522 : decode b_Law_law 522 = .ok (.aload_n 2, 1) := by decide +kernel
theorem d_Law_law_523 : decode b_Law_law 523 = .ok (.aload_n 0, 1) := by decide +kernel
theorem d_Law_law_524 : decode b_Law_law 524 = .ok (.iload 4, 2) := by decide +kernel
theorem d_Law_law_526 : decode b_Law_law 526 = .ok (.iconst 1, 1) := by decide +kernel
theorem d_Law_law_527 : decode b_Law_law 527 = .ok (.iadd, 1) := by decide +kernel
theorem d_Law_law_528 : decode b_Law_law 528 = .ok (.iaload, 1) := by decide +kernel
theorem d_Law_law_529 : decode b_Law_law 529 = .ok (.invokevirtual 75, 3) := by decide +kernel
theorem d_Law_law_532 : decode b_Law_law 532 = .ok (.if_icmp .eq 121, 3) := by decide +kernel
theorem d_Law_law_537 : decode b_Law_law 537 = .ok (.aload_n 1, 1) := by decide +kernel
theorem d_Law_law_538 : decode b_Law_law 538 = .ok (.aload_n 0, 1) := by decide +kernel
theorem d_Law_law_539 : decode b_Law_law 539 = .ok (.iload 4, 2) := by decide +kernel
theorem d_Law_law_541 : decode b_Law_law 541 = .ok (.iconst 1, 1) := by decide +kernel
theorem d_Law_law_542 : decode b_Law_law 542 = .ok (.iadd, 1) := by decide +kernel
theorem d_Law_law_543 : decode b_Law_law 543 = .ok (.iaload, 1) := by decide +kernel
theorem d_Law_law_544 : decode b_Law_law 544 = .ok (.ifCond .eq 7, 3) := by decide +kernel
theorem d_Law_law_551 : decode b_Law_law 551 = .ok (.iconst 0, 1) := by decide +kernel
theorem d_Law_law_552 : decode b_Law_law 552 = .ok (.invokevirtual 76, 3) := by decide +kernel
theorem d_Law_law_555 : decode b_Law_law 555 = .ok (.aload_n 2, 1) := by decide +kernel
theorem d_Law_law_556 : decode b_Law_law 556 = .ok (.aload_n 0, 1) := by decide +kernel
theorem d_Law_law_557 : decode b_Law_law 557 = .ok (.iload 4, 2) := by decide +kernel
theorem d_Law_law_559 : decode b_Law_law 559 = .ok (.iconst 1, 1) := by decide +kernel
theorem d_Law_law_560 : decode b_Law_law 560 = .ok (.iadd, 1) := by decide +kernel
theorem d_Law_law_561 : decode b_Law_law 561 = .ok (.iaload, 1) := by decide +kernel
theorem d_Law_law_562 : decode b_Law_law 562 = .ok (.ifCond .eq 7, 3) := by decide +kernel
theorem d_Law_law_569 : decode b_Law_law 569 = .ok (.iconst 0, 1) := by decide +kernel
theorem d_Law_law_570 : decode b_Law_law 570 = .ok (.invokevirtual 80, 3) := by decide +kernel
theorem d_Law_law_573 : decode b_Law_law 573 = .ok (.if_icmp .eq 80, 3) := by decide +kernel
theorem d_Law_law_565 : decode b_Law_law 565 = .ok (.iconst 1, 1) := by decide +kernel
theorem d_Law_law_566 : decode b_Law_law 566 = .ok (.goto 4, 3) := by decide +kernel
theorem d_Law_law_547 : decode b_Law_law 547 = .ok (.iconst 1, 1) := by decide +kernel
theorem d_Law_law_548 : decode b_Law_law 548 = .ok (.goto 4, 3) := by decide +kernel
theorem d_Law_law_578 : decode b_Law_law 578 = .ok (.aload_n 1, 1) := by decide +kernel
theorem d_Law_law_579 : decode b_Law_law 579 = .ok (.aload_n 0, 1) := by decide +kernel
theorem d_Law_law_580 : decode b_Law_law 580 = .ok (.iload 4, 2) := by decide +kernel
theorem d_Law_law_582 : decode b_Law_law 582 = .ok (.iconst 1, 1) := by decide +kernel
theorem d_Law_law_583 : decode b_Law_law 583 = .ok (.iadd, 1) := by decide +kernel
theorem d_Law_law_584 : decode b_Law_law 584 = .ok (.iaload, 1) := by decide +kernel
theorem d_Law_law_585 : decode b_Law_law 585 = .ok (.invokevirtual 81, 3) := by decide +kernel
theorem d_Law_law_588 : decode b_Law_law 588 = .ok (.aload_n 2, 1) := by decide +kernel
theorem d_Law_law_589 : decode b_Law_law 589 = .ok (.aload_n 0, 1) := by decide +kernel
theorem d_Law_law_590 : decode b_Law_law 590 = .ok (.iload 4, 2) := by decide +kernel
theorem d_Law_law_592 : decode b_Law_law 592 = .ok (.iconst 1, 1) := by decide +kernel
theorem d_Law_law_593 : decode b_Law_law 593 = .ok (.iadd, 1) := by decide +kernel
theorem d_Law_law_594 : decode b_Law_law 594 = .ok (.iaload, 1) := by decide +kernel
theorem d_Law_law_595 : decode b_Law_law 595 = .ok (.invokevirtual 84, 3) := by decide +kernel
theorem d_Law_law_598 : decode b_Law_law 598 = .ok (.if_icmp .eq 55, 3) := by decide +kernel
theorem d_Law_law_603 : decode b_Law_law 603 = .ok (.aload_n 1, 1) := by decide +kernel
theorem d_Law_law_604 : decode b_Law_law 604 = .ok (.aload_n 0, 1) := by decide +kernel
theorem d_Law_law_605 : decode b_Law_law 605 = .ok (.iload 4, 2) := by decide +kernel
theorem d_Law_law_607 : decode b_Law_law 607 = .ok (.iconst 1, 1) := by decide +kernel
theorem d_Law_law_608 : decode b_Law_law 608 = .ok (.iadd, 1) := by decide +kernel
theorem d_Law_law_609 : decode b_Law_law 609 = .ok (.iaload, 1) := by decide +kernel
theorem d_Law_law_610 : decode b_Law_law 610 = .ok (.invokevirtual 85, 3) := by decide +kernel
theorem d_Law_law_613 : decode b_Law_law 613 = .ok (.aload_n 2, 1) := by decide +kernel
theorem d_Law_law_614 : decode b_Law_law 614 = .ok (.aload_n 0, 1) := by decide +kernel
theorem d_Law_law_615 : decode b_Law_law 615 = .ok (.iload 4, 2) := by decide +kernel
theorem d_Law_law_617 : decode b_Law_law 617 = .ok (.iconst 1, 1) := by decide +kernel
theorem d_Law_law_618 : decode b_Law_law 618 = .ok (.iadd, 1) := by decide +kernel
theorem d_Law_law_619 : decode b_Law_law 619 = .ok (.iaload, 1) := by decide +kernel
theorem d_Law_law_620 : decode b_Law_law 620 = .ok (.invokevirtual 88, 3) := by decide +kernel
theorem d_Law_law_623 : decode b_Law_law 623 = .ok (.if_icmp .eq 30, 3) := by decide +kernel
theorem d_Law_law_628 : decode b_Law_law 628 = .ok (.aload_n 1, 1) := by decide +kernel
theorem d_Law_law_629 : decode b_Law_law 629 = .ok (.aload_n 0, 1) := by decide +kernel
theorem d_Law_law_630 : decode b_Law_law 630 = .ok (.iload 4, 2) := by decide +kernel
theorem d_Law_law_632 : decode b_Law_law 632 = .ok (.iconst 1, 1) := by decide +kernel
theorem d_Law_law_633 : decode b_Law_law 633 = .ok (.iadd, 1) := by decide +kernel
theorem d_Law_law_634 : decode b_Law_law 634 = .ok (.iaload, 1) := by decide +kernel
theorem d_Law_law_635 : decode b_Law_law 635 = .ok (.invokevirtual 89, 3) := by decide +kernel
theorem d_Law_law_638 : decode b_Law_law 638 = .ok (.aload_n 2, 1) := by decide +kernel
theorem d_Law_law_639 : decode b_Law_law 639 = .ok (.aload_n 0, 1) := by decide +kernel
theorem d_Law_law_640 : decode b_Law_law 640 = .ok (.iload 4, 2) := by decide +kernel
theorem d_Law_law_642 : decode b_Law_law 642 = .ok (.iconst 1, 1) := by decide +kernel
theorem d_Law_law_643 : decode b_Law_law 643 = .ok (.iadd, 1) := by decide +kernel
theorem d_Law_law_644 : decode b_Law_law 644 = .ok (.iaload, 1) := by decide +kernel
theorem d_Law_law_645 : decode b_Law_law 645 = .ok (.invokevirtual 92, 3) := by decide +kernel
theorem d_Law_law_648 : decode b_Law_law 648 = .ok (.if_icmp .eq 5, 3) := by decide +kernel
