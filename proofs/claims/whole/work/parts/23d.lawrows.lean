theorem d_LW_law_534 : decode code 534 = .ok (.goto 4, 3) := by decide +kernel
theorem d_LW_law_537 : decode code 537 = .ok (.iconst 0, 1) := by decide +kernel
theorem d_LW_law_538 : decode code 538 = .ok (.invokevirtual 68, 3) := by decide +kernel
theorem d_LW_law_541 : decode code 541 = .ok (.if_icmp .eq 84, 3) := by decide +kernel
theorem d_LW_law_544 : decode code 544 = .ok (.iconst 0, 1) := by decide +kernel
theorem d_LW_law_545 : decode code 545 = .ok (.ireturn, 1) := by decide +kernel
theorem d_LW_law_546 : decode code 546 = .ok (.aload_n 1, 1) := by decide +kernel
theorem d_LW_law_547 : decode code 547 = .ok (.aload_n 0, 1) := by decide +kernel
theorem d_LW_law_548 : decode code 548 = .ok (.iload_n 3, 1) := by decide +kernel
theorem d_LW_law_549 : decode code 549 = .ok (.iconst 1, 1) := by decide +kernel
theorem d_LW_law_550 : decode code 550 = .ok (.iadd, 1) := by decide +kernel
theorem d_LW_law_551 : decode code 551 = .ok (.iaload, 1) := by decide +kernel
theorem d_LW_law_552 : decode code 552 = .ok (.invokevirtual 69, 3) := by decide +kernel
theorem d_LW_law_555 : decode code 555 = .ok (.aload_n 2, 1) := by decide +kernel
theorem d_LW_law_556 : decode code 556 = .ok (.aload_n 0, 1) := by decide +kernel
theorem d_LW_law_557 : decode code 557 = .ok (.iload_n 3, 1) := by decide +kernel
theorem d_LW_law_558 : decode code 558 = .ok (.iconst 1, 1) := by decide +kernel
theorem d_LW_law_559 : decode code 559 = .ok (.iadd, 1) := by decide +kernel
theorem d_LW_law_560 : decode code 560 = .ok (.iaload, 1) := by decide +kernel
theorem d_LW_law_561 : decode code 561 = .ok (.invokevirtual 72, 3) := by decide +kernel
theorem d_LW_law_564 : decode code 564 = .ok (.if_icmp .eq 61, 3) := by decide +kernel
theorem d_LW_law_567 : decode code 567 = .ok (.iconst 0, 1) := by decide +kernel
theorem d_LW_law_568 : decode code 568 = .ok (.ireturn, 1) := by decide +kernel
theorem d_LW_law_569 : decode code 569 = .ok (.aload_n 1, 1) := by decide +kernel
theorem d_LW_law_570 : decode code 570 = .ok (.aload_n 0, 1) := by decide +kernel
theorem d_LW_law_571 : decode code 571 = .ok (.iload_n 3, 1) := by decide +kernel
theorem d_LW_law_572 : decode code 572 = .ok (.iconst 1, 1) := by decide +kernel
theorem d_LW_law_573 : decode code 573 = .ok (.iadd, 1) := by decide +kernel
theorem d_LW_law_574 : decode code 574 = .ok (.iaload, 1) := by decide +kernel
theorem d_LW_law_575 : decode code 575 = .ok (.invokevirtual 73, 3) := by decide +kernel
theorem d_LW_law_578 : decode code 578 = .ok (.aload_n 2, 1) := by decide +kernel
theorem d_LW_law_579 : decode code 579 = .ok (.aload_n 0, 1) := by decide +kernel
theorem d_LW_law_580 : decode code 580 = .ok (.iload_n 3, 1) := by decide +kernel
theorem d_LW_law_581 : decode code 581 = .ok (.iconst 1, 1) := by decide +kernel
theorem d_LW_law_582 : decode code 582 = .ok (.iadd, 1) := by decide +kernel
theorem d_LW_law_583 : decode code 583 = .ok (.iaload, 1) := by decide +kernel
theorem d_LW_law_584 : decode code 584 = .ok (.invokevirtual 76, 3) := by decide +kernel
theorem d_LW_law_587 : decode code 587 = .ok (.if_icmp .eq 38, 3) := by decide +kernel
theorem d_LW_law_590 : decode code 590 = .ok (.iconst 0, 1) := by decide +kernel
theorem d_LW_law_591 : decode code 591 = .ok (.ireturn, 1) := by decide +kernel
theorem d_LW_law_592 : decode code 592 = .ok (.aload_n 1, 1) := by decide +kernel
theorem d_LW_law_593 : decode code 593 = .ok (.aload_n 0, 1) := by decide +kernel
theorem d_LW_law_594 : decode code 594 = .ok (.iload_n 3, 1) := by decide +kernel
theorem d_LW_law_595 : decode code 595 = .ok (.iconst 1, 1) := by decide +kernel
theorem d_LW_law_596 : decode code 596 = .ok (.iadd, 1) := by decide +kernel
theorem d_LW_law_597 : decode code 597 = .ok (.iaload, 1) := by decide +kernel
theorem d_LW_law_598 : decode code 598 = .ok (.aload_n 0, 1) := by decide +kernel
theorem d_LW_law_599 : decode code 599 = .ok (.iload_n 3, 1) := by decide +kernel
theorem d_LW_law_600 : decode code 600 = .ok (.iconst 2, 1) := by decide +kernel
theorem d_LW_law_601 : decode code 601 = .ok (.iadd, 1) := by decide +kernel
theorem d_LW_law_602 : decode code 602 = .ok (.iaload, 1) := by decide +kernel
theorem d_LW_law_603 : decode code 603 = .ok (.invokevirtual 77, 3) := by decide +kernel
theorem d_LW_law_606 : decode code 606 = .ok (.aload_n 2, 1) := by decide +kernel
theorem d_LW_law_607 : decode code 607 = .ok (.aload_n 0, 1) := by decide +kernel
theorem d_LW_law_608 : decode code 608 = .ok (.iload_n 3, 1) := by decide +kernel
theorem d_LW_law_609 : decode code 609 = .ok (.iconst 1, 1) := by decide +kernel
theorem d_LW_law_610 : decode code 610 = .ok (.iadd, 1) := by decide +kernel
theorem d_LW_law_611 : decode code 611 = .ok (.iaload, 1) := by decide +kernel
theorem d_LW_law_612 : decode code 612 = .ok (.aload_n 0, 1) := by decide +kernel
theorem d_LW_law_613 : decode code 613 = .ok (.iload_n 3, 1) := by decide +kernel
theorem d_LW_law_614 : decode code 614 = .ok (.iconst 2, 1) := by decide +kernel
theorem d_LW_law_615 : decode code 615 = .ok (.iadd, 1) := by decide +kernel
theorem d_LW_law_616 : decode code 616 = .ok (.iaload, 1) := by decide +kernel
theorem d_LW_law_617 : decode code 617 = .ok (.invokevirtual 80, 3) := by decide +kernel
theorem d_LW_law_620 : decode code 620 = .ok (.if_icmp .eq 5, 3) := by decide +kernel
theorem d_LW_law_623 : decode code 623 = .ok (.iconst 0, 1) := by decide +kernel
theorem d_LW_law_624 : decode code 624 = .ok (.ireturn, 1) := by decide +kernel
theorem d_LW_law_625 : decode code 625 = .ok (.iinc 3 4, 3) := by decide +kernel
theorem d_LW_law_628 : decode code 628 = .ok (.goto (-610), 3) := by decide +kernel
theorem d_LW_law_631 : decode code 631 = .ok (.iconst 1, 1) := by decide +kernel
theorem d_LW_law_632 : decode code 632 = .ok (.ireturn, 1) := by decide +kernel
