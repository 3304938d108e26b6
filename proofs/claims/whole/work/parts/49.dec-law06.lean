theorem dLa_law_524 : decode cLa_law 524 = .ok (.iload 6, 2) := by decide +kernel
theorem dLa_law_526 : decode cLa_law 526 = .ok (.i2l, 1) := by decide +kernel
theorem dLa_law_527 : decode cLa_law 527 = .ok (.lcmp, 1) := by decide +kernel
theorem dLa_law_528 : decode cLa_law 528 = .ok (.ifCond .eq 5, 3) := by decide +kernel
theorem dLa_law_531 : decode cLa_law 531 = .ok (.iconst 0, 1) := by decide +kernel
theorem dLa_law_532 : decode cLa_law 532 = .ok (.ireturn, 1) := by decide +kernel
theorem dLa_law_533 : decode cLa_law 533 = .ok (.goto 447, 3) := by decide +kernel
theorem dLa_law_536 : decode cLa_law 536 = .ok (.aload_n 1, 1) := by decide +kernel
theorem dLa_law_537 : decode cLa_law 537 = .ok (.aload_n 0, 1) := by decide +kernel
theorem dLa_law_538 : decode cLa_law 538 = .ok (.iload 4, 2) := by decide +kernel
theorem dLa_law_540 : decode cLa_law 540 = .ok (.iconst 1, 1) := by decide +kernel
theorem dLa_law_541 : decode cLa_law 541 = .ok (.iadd, 1) := by decide +kernel
theorem dLa_law_542 : decode cLa_law 542 = .ok (.iaload, 1) := by decide +kernel
theorem dLa_law_543 : decode cLa_law 543 = .ok (.aload_n 0, 1) := by decide +kernel
theorem dLa_law_544 : decode cLa_law 544 = .ok (.iload 4, 2) := by decide +kernel
theorem dLa_law_546 : decode cLa_law 546 = .ok (.iconst 2, 1) := by decide +kernel
theorem dLa_law_547 : decode cLa_law 547 = .ok (.iadd, 1) := by decide +kernel
theorem dLa_law_548 : decode cLa_law 548 = .ok (.iaload, 1) := by decide +kernel
theorem dLa_law_549 : decode cLa_law 549 = .ok (.aload_n 3, 1) := by decide +kernel
theorem dLa_law_550 : decode cLa_law 550 = .ok (.invokestatic 92, 3) := by decide +kernel
theorem dLa_law_553 : decode cLa_law 553 = .ok (.istore 5, 2) := by decide +kernel
theorem dLa_law_555 : decode cLa_law 555 = .ok (.aload_n 2, 1) := by decide +kernel
theorem dLa_law_556 : decode cLa_law 556 = .ok (.aload_n 0, 1) := by decide +kernel
theorem dLa_law_557 : decode cLa_law 557 = .ok (.iload 4, 2) := by decide +kernel
theorem dLa_law_559 : decode cLa_law 559 = .ok (.iconst 1, 1) := by decide +kernel
theorem dLa_law_560 : decode cLa_law 560 = .ok (.iadd, 1) := by decide +kernel
theorem dLa_law_561 : decode cLa_law 561 = .ok (.iaload, 1) := by decide +kernel
theorem dLa_law_562 : decode cLa_law 562 = .ok (.aload_n 0, 1) := by decide +kernel
theorem dLa_law_563 : decode cLa_law 563 = .ok (.iload 4, 2) := by decide +kernel
theorem dLa_law_565 : decode cLa_law 565 = .ok (.iconst 2, 1) := by decide +kernel
theorem dLa_law_566 : decode cLa_law 566 = .ok (.iadd, 1) := by decide +kernel
theorem dLa_law_567 : decode cLa_law 567 = .ok (.iaload, 1) := by decide +kernel
theorem dLa_law_568 : decode cLa_law 568 = .ok (.invokevirtual 94, 3) := by decide +kernel
theorem dLa_law_571 : decode cLa_law 571 = .ok (.istore 6, 2) := by decide +kernel
theorem dLa_law_573 : decode cLa_law 573 = .ok (.aload_n 2, 1) := by decide +kernel
theorem dLa_law_574 : decode cLa_law 574 = .ok (.invokevirtual 68, 3) := by decide +kernel
theorem dLa_law_577 : decode cLa_law 577 = .ok (.iload 5, 2) := by decide +kernel
theorem dLa_law_579 : decode cLa_law 579 = .ok (.if_icmp .eq 5, 3) := by decide +kernel
theorem dLa_law_582 : decode cLa_law 582 = .ok (.iconst 0, 1) := by decide +kernel
theorem dLa_law_583 : decode cLa_law 583 = .ok (.ireturn, 1) := by decide +kernel
theorem dLa_law_584 : decode cLa_law 584 = .ok (.iload 5, 2) := by decide +kernel
theorem dLa_law_586 : decode cLa_law 586 = .ok (.ifCond .ne 15, 3) := by decide +kernel
theorem dLa_law_589 : decode cLa_law 589 = .ok (.aload_n 3, 1) := by decide +kernel
theorem dLa_law_590 : decode cLa_law 590 = .ok (.iconst 0, 1) := by decide +kernel
theorem dLa_law_591 : decode cLa_law 591 = .ok (.laload, 1) := by decide +kernel
theorem dLa_law_592 : decode cLa_law 592 = .ok (.iload 6, 2) := by decide +kernel
theorem dLa_law_594 : decode cLa_law 594 = .ok (.i2l, 1) := by decide +kernel
theorem dLa_law_595 : decode cLa_law 595 = .ok (.lcmp, 1) := by decide +kernel
theorem dLa_law_596 : decode cLa_law 596 = .ok (.ifCond .eq 5, 3) := by decide +kernel
theorem dLa_law_599 : decode cLa_law 599 = .ok (.iconst 0, 1) := by decide +kernel
theorem dLa_law_600 : decode cLa_law 600 = .ok (.ireturn, 1) := by decide +kernel
theorem dLa_law_601 : decode cLa_law 601 = .ok (.goto 379, 3) := by decide +kernel
theorem dLa_law_604 : decode cLa_law 604 = .ok (.aload_n 1, 1) := by decide +kernel
theorem dLa_law_605 : decode cLa_law 605 = .ok (.aload_n 0, 1) := by decide +kernel
theorem dLa_law_606 : decode cLa_law 606 = .ok (.iload 4, 2) := by decide +kernel
theorem dLa_law_608 : decode cLa_law 608 = .ok (.iconst 1, 1) := by decide +kernel
theorem dLa_law_609 : decode cLa_law 609 = .ok (.iadd, 1) := by decide +kernel
theorem dLa_law_610 : decode cLa_law 610 = .ok (.iaload, 1) := by decide +kernel
theorem dLa_law_611 : decode cLa_law 611 = .ok (.aload_n 0, 1) := by decide +kernel
theorem dLa_law_612 : decode cLa_law 612 = .ok (.iload 4, 2) := by decide +kernel
