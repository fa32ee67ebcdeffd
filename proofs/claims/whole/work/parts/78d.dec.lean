theorem d_Lw_law_484 : decode code 484 = .ok (.iload 4, 2) := by decide +kernel
theorem d_Lw_law_486 : decode code 486 = .ok (.iconst 1, 1) := by decide +kernel
theorem d_Lw_law_487 : decode code 487 = .ok (.iadd, 1) := by decide +kernel
theorem d_Lw_law_488 : decode code 488 = .ok (.iaload, 1) := by decide +kernel
theorem d_Lw_law_489 : decode code 489 = .ok (.aload_n 3, 1) := by decide +kernel
theorem d_Lw_law_490 : decode code 490 = .ok (.invokestatic 73, 3) := by decide +kernel
theorem d_Lw_law_493 : decode code 493 = .ok (.istore 5, 2) := by decide +kernel
theorem d_Lw_law_495 : decode code 495 = .ok (.aload_n 2, 1) := by decide +kernel
theorem d_Lw_law_496 : decode code 496 = .ok (.aload_n 0, 1) := by decide +kernel
theorem d_Lw_law_497 : decode code 497 = .ok (.iload 4, 2) := by decide +kernel
theorem d_Lw_law_499 : decode code 499 = .ok (.iconst 1, 1) := by decide +kernel
theorem d_Lw_law_500 : decode code 500 = .ok (.iadd, 1) := by decide +kernel
theorem d_Lw_law_501 : decode code 501 = .ok (.iaload, 1) := by decide +kernel
theorem d_Lw_law_502 : decode code 502 = .ok (.invokevirtual 76, 3) := by decide +kernel
theorem d_Lw_law_505 : decode code 505 = .ok (.istore 6, 2) := by decide +kernel
theorem d_Lw_law_507 : decode code 507 = .ok (.aload_n 2, 1) := by decide +kernel
theorem d_Lw_law_508 : decode code 508 = .ok (.invokevirtual 58, 3) := by decide +kernel
theorem d_Lw_law_511 : decode code 511 = .ok (.iload 5, 2) := by decide +kernel
theorem d_Lw_law_513 : decode code 513 = .ok (.if_icmp .eq 5, 3) := by decide +kernel
theorem d_Lw_law_516 : decode code 516 = .ok (.iconst 0, 1) := by decide +kernel
theorem d_Lw_law_517 : decode code 517 = .ok (.ireturn, 1) := by decide +kernel
theorem d_Lw_law_518 : decode code 518 = .ok (.iload 5, 2) := by decide +kernel
theorem d_Lw_law_520 : decode code 520 = .ok (.ifCond .ne 15, 3) := by decide +kernel
theorem d_Lw_law_523 : decode code 523 = .ok (.aload_n 3, 1) := by decide +kernel
theorem d_Lw_law_524 : decode code 524 = .ok (.iconst 0, 1) := by decide +kernel
theorem d_Lw_law_525 : decode code 525 = .ok (.laload, 1) := by decide +kernel
theorem d_Lw_law_526 : decode code 526 = .ok (.iload 6, 2) := by decide +kernel
theorem d_Lw_law_528 : decode code 528 = .ok (.i2l, 1) := by decide +kernel
theorem d_Lw_law_529 : decode code 529 = .ok (.lcmp, 1) := by decide +kernel
theorem d_Lw_law_530 : decode code 530 = .ok (.ifCond .eq 5, 3) := by decide +kernel
theorem d_Lw_law_533 : decode code 533 = .ok (.iconst 0, 1) := by decide +kernel
theorem d_Lw_law_534 : decode code 534 = .ok (.ireturn, 1) := by decide +kernel
theorem d_Lw_law_535 : decode code 535 = .ok (.goto 210, 3) := by decide +kernel
theorem d_Lw_law_538 : decode code 538 = .ok (.aload_n 1, 1) := by decide +kernel
theorem d_Lw_law_539 : decode code 539 = .ok (.aload_n 0, 1) := by decide +kernel
theorem d_Lw_law_540 : decode code 540 = .ok (.iload 4, 2) := by decide +kernel
theorem d_Lw_law_542 : decode code 542 = .ok (.iconst 1, 1) := by decide +kernel
theorem d_Lw_law_543 : decode code 543 = .ok (.iadd, 1) := by decide +kernel
theorem d_Lw_law_544 : decode code 544 = .ok (.iaload, 1) := by decide +kernel
theorem d_Lw_law_545 : decode code 545 = .ok (.aload_n 3, 1) := by decide +kernel
theorem d_Lw_law_546 : decode code 546 = .ok (.invokestatic 77, 3) := by decide +kernel
theorem d_Lw_law_549 : decode code 549 = .ok (.istore 5, 2) := by decide +kernel
theorem d_Lw_law_551 : decode code 551 = .ok (.aload_n 2, 1) := by decide +kernel
theorem d_Lw_law_552 : decode code 552 = .ok (.aload_n 0, 1) := by decide +kernel
theorem d_Lw_law_553 : decode code 553 = .ok (.iload 4, 2) := by decide +kernel
theorem d_Lw_law_555 : decode code 555 = .ok (.iconst 1, 1) := by decide +kernel
theorem d_Lw_law_556 : decode code 556 = .ok (.iadd, 1) := by decide +kernel
theorem d_Lw_law_557 : decode code 557 = .ok (.iaload, 1) := by decide +kernel
theorem d_Lw_law_558 : decode code 558 = .ok (.invokevirtual 79, 3) := by decide +kernel
theorem d_Lw_law_561 : decode code 561 = .ok (.istore 6, 2) := by decide +kernel
theorem d_Lw_law_563 : decode code 563 = .ok (.aload_n 2, 1) := by decide +kernel
theorem d_Lw_law_564 : decode code 564 = .ok (.invokevirtual 58, 3) := by decide +kernel
theorem d_Lw_law_567 : decode code 567 = .ok (.iload 5, 2) := by decide +kernel
theorem d_Lw_law_569 : decode code 569 = .ok (.if_icmp .eq 5, 3) := by decide +kernel
theorem d_Lw_law_572 : decode code 572 = .ok (.iconst 0, 1) := by decide +kernel
theorem d_Lw_law_573 : decode code 573 = .ok (.ireturn, 1) := by decide +kernel
theorem d_Lw_law_574 : decode code 574 = .ok (.iload 5, 2) := by decide +kernel
theorem d_Lw_law_576 : decode code 576 = .ok (.ifCond .ne 15, 3) := by decide +kernel
theorem d_Lw_law_579 : decode code 579 = .ok (.aload_n 3, 1) := by decide +kernel
theorem d_Lw_law_580 : decode code 580 = .ok (.iconst 0, 1) := by decide +kernel
theorem d_Lw_law_581 : decode code 581 = .ok (.laload, 1) := by decide +kernel
theorem d_Lw_law_582 : decode code 582 = .ok (.iload 6, 2) := by decide +kernel
theorem d_Lw_law_584 : decode code 584 = .ok (.i2l, 1) := by decide +kernel
theorem d_Lw_law_585 : decode code 585 = .ok (.lcmp, 1) := by decide +kernel
theorem d_Lw_law_586 : decode code 586 = .ok (.ifCond .eq 5, 3) := by decide +kernel
theorem d_Lw_law_589 : decode code 589 = .ok (.iconst 0, 1) := by decide +kernel
theorem d_Lw_law_590 : decode code 590 = .ok (.ireturn, 1) := by decide +kernel
theorem d_Lw_law_591 : decode code 591 = .ok (.goto 154, 3) := by decide +kernel
theorem d_Lw_law_594 : decode code 594 = .ok (.aload_n 1, 1) := by decide +kernel
theorem d_Lw_law_595 : decode code 595 = .ok (.aload_n 0, 1) := by decide +kernel
theorem d_Lw_law_596 : decode code 596 = .ok (.iload 4, 2) := by decide +kernel
theorem d_Lw_law_598 : decode code 598 = .ok (.iconst 1, 1) := by decide +kernel
theorem d_Lw_law_599 : decode code 599 = .ok (.iadd, 1) := by decide +kernel
theorem d_Lw_law_600 : decode code 600 = .ok (.iaload, 1) := by decide +kernel
theorem d_Lw_law_601 : decode code 601 = .ok (.invokevirtual 80, 3) := by decide +kernel
theorem d_Lw_law_604 : decode code 604 = .ok (.aload_n 2, 1) := by decide +kernel
theorem d_Lw_law_605 : decode code 605 = .ok (.aload_n 0, 1) := by decide +kernel
theorem d_Lw_law_606 : decode code 606 = .ok (.iload 4, 2) := by decide +kernel
theorem d_Lw_law_608 : decode code 608 = .ok (.iconst 1, 1) := by decide +kernel
theorem d_Lw_law_609 : decode code 609 = .ok (.iadd, 1) := by decide +kernel
theorem d_Lw_law_610 : decode code 610 = .ok (.iaload, 1) := by decide +kernel
theorem d_Lw_law_611 : decode code 611 = .ok (.invokevirtual 83, 3) := by decide +kernel
theorem d_Lw_law_614 : decode code 614 = .ok (.if_icmp .eq 131, 3) := by decide +kernel
theorem d_Lw_law_617 : decode code 617 = .ok (.iconst 0, 1) := by decide +kernel
theorem d_Lw_law_618 : decode code 618 = .ok (.ireturn, 1) := by decide +kernel
theorem d_Lw_law_619 : decode code 619 = .ok (.aload_n 1, 1) := by decide +kernel
theorem d_Lw_law_620 : decode code 620 = .ok (.invokevirtual 84, 3) := by decide +kernel
theorem d_Lw_law_623 : decode code 623 = .ok (.aload_n 2, 1) := by decide +kernel
theorem d_Lw_law_624 : decode code 624 = .ok (.invokevirtual 88, 3) := by decide +kernel
theorem d_Lw_law_627 : decode code 627 = .ok (.if_icmp .eq 118, 3) := by decide +kernel
