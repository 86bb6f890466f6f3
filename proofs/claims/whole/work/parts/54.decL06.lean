theorem d_law_530 : decode code 530 = .ok (.aload_n 1, 1) := by decide +kernel
theorem d_law_531 : decode code 531 = .ok (.invokevirtual 51, 3) := by decide +kernel
theorem d_law_534 : decode code 534 = .ok (.aload_n 2, 1) := by decide +kernel
theorem d_law_535 : decode code 535 = .ok (.invokevirtual 55, 3) := by decide +kernel
theorem d_law_538 : decode code 538 = .ok (.if_icmp .eq 312, 3) := by decide +kernel
theorem d_law_541 : decode code 541 = .ok (.iconst 0, 1) := by decide +kernel
theorem d_law_542 : decode code 542 = .ok (.ireturn, 1) := by decide +kernel
theorem d_law_543 : decode code 543 = .ok (.aload_n 1, 1) := by decide +kernel
theorem d_law_544 : decode code 544 = .ok (.aload_n 0, 1) := by decide +kernel
theorem d_law_545 : decode code 545 = .ok (.iload_n 3, 1) := by decide +kernel
theorem d_law_546 : decode code 546 = .ok (.iconst 1, 1) := by decide +kernel
theorem d_law_547 : decode code 547 = .ok (.iadd, 1) := by decide +kernel
theorem d_law_548 : decode code 548 = .ok (.iaload, 1) := by decide +kernel
theorem d_law_549 : decode code 549 = .ok (.aload_n 0, 1) := by decide +kernel
theorem d_law_550 : decode code 550 = .ok (.iload_n 3, 1) := by decide +kernel
theorem d_law_551 : decode code 551 = .ok (.iconst 2, 1) := by decide +kernel
theorem d_law_552 : decode code 552 = .ok (.iadd, 1) := by decide +kernel
theorem d_law_553 : decode code 553 = .ok (.iaload, 1) := by decide +kernel
theorem d_law_554 : decode code 554 = .ok (.aload_n 0, 1) := by decide +kernel
theorem d_law_555 : decode code 555 = .ok (.iload_n 3, 1) := by decide +kernel
theorem d_law_556 : decode code 556 = .ok (.iconst 3, 1) := by decide +kernel
theorem d_law_557 : decode code 557 = .ok (.iadd, 1) := by decide +kernel
theorem d_law_558 : decode code 558 = .ok (.iaload, 1) := by decide +kernel
theorem d_law_559 : decode code 559 = .ok (.aload_n 0, 1) := by decide +kernel
theorem d_law_560 : decode code 560 = .ok (.iload_n 3, 1) := by decide +kernel
theorem d_law_561 : decode code 561 = .ok (.iconst 4, 1) := by decide +kernel
theorem d_law_562 : decode code 562 = .ok (.iadd, 1) := by decide +kernel
theorem d_law_563 : decode code 563 = .ok (.iaload, 1) := by decide +kernel
theorem d_law_564 : decode code 564 = .ok (.ifCond .eq 7, 3) := by decide +kernel
theorem d_law_567 : decode code 567 = .ok (.iconst 1, 1) := by decide +kernel
theorem d_law_568 : decode code 568 = .ok (.goto 4, 3) := by decide +kernel
theorem d_law_571 : decode code 571 = .ok (.iconst 0, 1) := by decide +kernel
theorem d_law_572 : decode code 572 = .ok (.invokevirtual 56, 3) := by decide +kernel
theorem d_law_575 : decode code 575 = .ok (.aload_n 2, 1) := by decide +kernel
theorem d_law_576 : decode code 576 = .ok (.aload_n 0, 1) := by decide +kernel
theorem d_law_577 : decode code 577 = .ok (.iload_n 3, 1) := by decide +kernel
theorem d_law_578 : decode code 578 = .ok (.iconst 1, 1) := by decide +kernel
theorem d_law_579 : decode code 579 = .ok (.iadd, 1) := by decide +kernel
theorem d_law_580 : decode code 580 = .ok (.iaload, 1) := by decide +kernel
theorem d_law_581 : decode code 581 = .ok (.aload_n 0, 1) := by decide +kernel
theorem d_law_582 : decode code 582 = .ok (.iload_n 3, 1) := by decide +kernel
theorem d_law_583 : decode code 583 = .ok (.iconst 2, 1) := by decide +kernel
theorem d_law_584 : decode code 584 = .ok (.iadd, 1) := by decide +kernel
theorem d_law_585 : decode code 585 = .ok (.iaload, 1) := by decide +kernel
theorem d_law_586 : decode code 586 = .ok (.aload_n 0, 1) := by decide +kernel
theorem d_law_587 : decode code 587 = .ok (.iload_n 3, 1) := by decide +kernel
theorem d_law_588 : decode code 588 = .ok (.iconst 3, 1) := by decide +kernel
theorem d_law_589 : decode code 589 = .ok (.iadd, 1) := by decide +kernel
theorem d_law_590 : decode code 590 = .ok (.iaload, 1) := by decide +kernel
theorem d_law_591 : decode code 591 = .ok (.aload_n 0, 1) := by decide +kernel
theorem d_law_592 : decode code 592 = .ok (.iload_n 3, 1) := by decide +kernel
theorem d_law_593 : decode code 593 = .ok (.iconst 4, 1) := by decide +kernel
theorem d_law_594 : decode code 594 = .ok (.iadd, 1) := by decide +kernel
theorem d_law_595 : decode code 595 = .ok (.iaload, 1) := by decide +kernel
theorem d_law_596 : decode code 596 = .ok (.ifCond .eq 7, 3) := by decide +kernel
theorem d_law_599 : decode code 599 = .ok (.iconst 1, 1) := by decide +kernel
theorem d_law_600 : decode code 600 = .ok (.goto 4, 3) := by decide +kernel
theorem d_law_603 : decode code 603 = .ok (.iconst 0, 1) := by decide +kernel
theorem d_law_604 : decode code 604 = .ok (.invokevirtual 59, 3) := by decide +kernel
theorem d_law_607 : decode code 607 = .ok (.if_icmp .eq 243, 3) := by decide +kernel
