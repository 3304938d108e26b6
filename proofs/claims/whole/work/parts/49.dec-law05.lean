theorem dLa_law_430 : decode cLa_law 430 = .ok (.iadd, 1) := by decide +kernel
theorem dLa_law_431 : decode cLa_law 431 = .ok (.iaload, 1) := by decide +kernel
theorem dLa_law_432 : decode cLa_law 432 = .ok (.invokevirtual 88, 3) := by decide +kernel
theorem dLa_law_435 : decode cLa_law 435 = .ok (.istore 6, 2) := by decide +kernel
theorem dLa_law_437 : decode cLa_law 437 = .ok (.aload_n 2, 1) := by decide +kernel
theorem dLa_law_438 : decode cLa_law 438 = .ok (.invokevirtual 68, 3) := by decide +kernel
theorem dLa_law_441 : decode cLa_law 441 = .ok (.iload 5, 2) := by decide +kernel
theorem dLa_law_443 : decode cLa_law 443 = .ok (.if_icmp .eq 5, 3) := by decide +kernel
theorem dLa_law_446 : decode cLa_law 446 = .ok (.iconst 0, 1) := by decide +kernel
theorem dLa_law_447 : decode cLa_law 447 = .ok (.ireturn, 1) := by decide +kernel
theorem dLa_law_448 : decode cLa_law 448 = .ok (.iload 5, 2) := by decide +kernel
theorem dLa_law_450 : decode cLa_law 450 = .ok (.ifCond .ne 15, 3) := by decide +kernel
theorem dLa_law_453 : decode cLa_law 453 = .ok (.aload_n 3, 1) := by decide +kernel
theorem dLa_law_454 : decode cLa_law 454 = .ok (.iconst 0, 1) := by decide +kernel
theorem dLa_law_455 : decode cLa_law 455 = .ok (.laload, 1) := by decide +kernel
theorem dLa_law_456 : decode cLa_law 456 = .ok (.iload 6, 2) := by decide +kernel
theorem dLa_law_458 : decode cLa_law 458 = .ok (.i2l, 1) := by decide +kernel
theorem dLa_law_459 : decode cLa_law 459 = .ok (.lcmp, 1) := by decide +kernel
theorem dLa_law_460 : decode cLa_law 460 = .ok (.ifCond .eq 5, 3) := by decide +kernel
theorem dLa_law_463 : decode cLa_law 463 = .ok (.iconst 0, 1) := by decide +kernel
theorem dLa_law_464 : decode cLa_law 464 = .ok (.ireturn, 1) := by decide +kernel
theorem dLa_law_465 : decode cLa_law 465 = .ok (.goto 515, 3) := by decide +kernel
theorem dLa_law_468 : decode cLa_law 468 = .ok (.aload_n 1, 1) := by decide +kernel
theorem dLa_law_469 : decode cLa_law 469 = .ok (.aload_n 0, 1) := by decide +kernel
theorem dLa_law_470 : decode cLa_law 470 = .ok (.iload 4, 2) := by decide +kernel
theorem dLa_law_472 : decode cLa_law 472 = .ok (.iconst 1, 1) := by decide +kernel
theorem dLa_law_473 : decode cLa_law 473 = .ok (.iadd, 1) := by decide +kernel
theorem dLa_law_474 : decode cLa_law 474 = .ok (.iaload, 1) := by decide +kernel
theorem dLa_law_475 : decode cLa_law 475 = .ok (.aload_n 0, 1) := by decide +kernel
theorem dLa_law_476 : decode cLa_law 476 = .ok (.iload 4, 2) := by decide +kernel
theorem dLa_law_478 : decode cLa_law 478 = .ok (.iconst 2, 1) := by decide +kernel
theorem dLa_law_479 : decode cLa_law 479 = .ok (.iadd, 1) := by decide +kernel
theorem dLa_law_480 : decode cLa_law 480 = .ok (.iaload, 1) := by decide +kernel
theorem dLa_law_481 : decode cLa_law 481 = .ok (.aload_n 3, 1) := by decide +kernel
theorem dLa_law_482 : decode cLa_law 482 = .ok (.invokestatic 89, 3) := by decide +kernel
theorem dLa_law_485 : decode cLa_law 485 = .ok (.istore 5, 2) := by decide +kernel
theorem dLa_law_487 : decode cLa_law 487 = .ok (.aload_n 2, 1) := by decide +kernel
theorem dLa_law_488 : decode cLa_law 488 = .ok (.aload_n 0, 1) := by decide +kernel
theorem dLa_law_489 : decode cLa_law 489 = .ok (.iload 4, 2) := by decide +kernel
theorem dLa_law_491 : decode cLa_law 491 = .ok (.iconst 1, 1) := by decide +kernel
theorem dLa_law_492 : decode cLa_law 492 = .ok (.iadd, 1) := by decide +kernel
theorem dLa_law_493 : decode cLa_law 493 = .ok (.iaload, 1) := by decide +kernel
theorem dLa_law_494 : decode cLa_law 494 = .ok (.aload_n 0, 1) := by decide +kernel
theorem dLa_law_495 : decode cLa_law 495 = .ok (.iload 4, 2) := by decide +kernel
theorem dLa_law_497 : decode cLa_law 497 = .ok (.iconst 2, 1) := by decide +kernel
theorem dLa_law_498 : decode cLa_law 498 = .ok (.iadd, 1) := by decide +kernel
theorem dLa_law_499 : decode cLa_law 499 = .ok (.iaload, 1) := by decide +kernel
theorem dLa_law_500 : decode cLa_law 500 = .ok (.invokevirtual 91, 3) := by decide +kernel
theorem dLa_law_503 : decode cLa_law 503 = .ok (.istore 6, 2) := by decide +kernel
theorem dLa_law_505 : decode cLa_law 505 = .ok (.aload_n 2, 1) := by decide +kernel
theorem dLa_law_506 : decode cLa_law 506 = .ok (.invokevirtual 68, 3) := by decide +kernel
theorem dLa_law_509 : decode cLa_law 509 = .ok (.iload 5, 2) := by decide +kernel
theorem dLa_law_511 : decode cLa_law 511 = .ok (.if_icmp .eq 5, 3) := by decide +kernel
theorem dLa_law_514 : decode cLa_law 514 = .ok (.iconst 0, 1) := by decide +kernel
theorem dLa_law_515 : decode cLa_law 515 = .ok (.ireturn, 1) := by decide +kernel
theorem dLa_law_516 : decode cLa_law 516 = .ok (.iload 5, 2) := by decide +kernel
theorem dLa_law_518 : decode cLa_law 518 = .ok (.ifCond .ne 15, 3) := by decide +kernel
theorem dLa_law_521 : decode cLa_law 521 = .ok (.aload_n 3, 1) := by decide +kernel
theorem dLa_law_522 : decode cLa_law 522 = .ok (.iconst 0, 1) := by decide +kernel
theorem dLa_law_523 : decode cLa_law 523 = .ok (.laload, 1) := by decide +kernel
