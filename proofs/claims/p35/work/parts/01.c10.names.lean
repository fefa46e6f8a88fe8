theorem dL_law_537 : decode cL_law 537 = .ok (.ireturn, 1) := by decide +kernel
theorem dL_law_538 : decode cL_law 538 = .ok (.aload_n 1, 1) := by decide +kernel
theorem dL_law_539 : decode cL_law 539 = .ok (.invokevirtual 84, 3) := by decide +kernel
theorem dL_law_542 : decode cL_law 542 = .ok (.istore 12, 2) := by decide +kernel
theorem dL_law_544 : decode cL_law 544 = .ok (.bipush 6, 2) := by decide +kernel
theorem dL_law_546 : decode cL_law 546 = .ok (.newarray .int, 2) := by decide +kernel
theorem dL_law_548 : decode cL_law 548 = .ok (.astore 13, 2) := by decide +kernel
theorem dL_law_550 : decode cL_law 550 = .ok (.iconst 0, 1) := by decide +kernel
theorem dL_law_551 : decode cL_law 551 = .ok (.istore 14, 2) := by decide +kernel
theorem dL_law_553 : decode cL_law 553 = .ok (.iload 14, 2) := by decide +kernel
theorem dL_law_555 : decode cL_law 555 = .ok (.iconst 5, 1) := by decide +kernel
theorem dL_law_556 : decode cL_law 556 = .ok (.if_icmp .ge 82, 3) := by decide +kernel
theorem dL_law_559 : decode cL_law 559 = .ok (.aload_n 1, 1) := by decide +kernel
theorem dL_law_560 : decode cL_law 560 = .ok (.iload 7, 2) := by decide +kernel
theorem dL_law_562 : decode cL_law 562 = .ok (.iload 14, 2) := by decide +kernel
theorem dL_law_564 : decode cL_law 564 = .ok (.invokevirtual 87, 3) := by decide +kernel
theorem dL_law_567 : decode cL_law 567 = .ok (.istore 15, 2) := by decide +kernel
theorem dL_law_569 : decode cL_law 569 = .ok (.iload 12, 2) := by decide +kernel
theorem dL_law_571 : decode cL_law 571 = .ok (.iload 15, 2) := by decide +kernel
theorem dL_law_573 : decode cL_law 573 = .ok (.ifCond .ge 7, 3) := by decide +kernel
theorem dL_law_576 : decode cL_law 576 = .ok (.iconst 1, 1) := by decide +kernel
theorem dL_law_577 : decode cL_law 577 = .ok (.goto 4, 3) := by decide +kernel
theorem dL_law_580 : decode cL_law 580 = .ok (.iconst 0, 1) := by decide +kernel
theorem dL_law_581 : decode cL_law 581 = .ok (.isub, 1) := by decide +kernel
theorem dL_law_582 : decode cL_law 582 = .ok (.istore 12, 2) := by decide +kernel
theorem dL_law_584 : decode cL_law 584 = .ok (.iload 15, 2) := by decide +kernel
theorem dL_law_586 : decode cL_law 586 = .ok (.ifCond .ge 6, 3) := by decide +kernel
theorem dL_law_589 : decode cL_law 589 = .ok (.goto 43, 3) := by decide +kernel
theorem dL_law_592 : decode cL_law 592 = .ok (.aload 13, 2) := by decide +kernel
theorem dL_law_594 : decode cL_law 594 = .ok (.iload 15, 2) := by decide +kernel
theorem dL_law_596 : decode cL_law 596 = .ok (.dup2, 1) := by decide +kernel
theorem dL_law_597 : decode cL_law 597 = .ok (.iaload, 1) := by decide +kernel
theorem dL_law_598 : decode cL_law 598 = .ok (.iconst 1, 1) := by decide +kernel
theorem dL_law_599 : decode cL_law 599 = .ok (.iadd, 1) := by decide +kernel
theorem dL_law_600 : decode cL_law 600 = .ok (.iastore, 1) := by decide +kernel
theorem dL_law_601 : decode cL_law 601 = .ok (.aload 13, 2) := by decide +kernel
theorem dL_law_603 : decode cL_law 603 = .ok (.iload 15, 2) := by decide +kernel
theorem dL_law_605 : decode cL_law 605 = .ok (.iaload, 1) := by decide +kernel
theorem dL_law_606 : decode cL_law 606 = .ok (.iconst 1, 1) := by decide +kernel
theorem dL_law_607 : decode cL_law 607 = .ok (.if_icmp .gt 23, 3) := by decide +kernel
theorem dL_law_610 : decode cL_law 610 = .ok (.iload 7, 2) := by decide +kernel
theorem dL_law_612 : decode cL_law 612 = .ok (.ifCond .le 20, 3) := by decide +kernel
theorem dL_law_615 : decode cL_law 615 = .ok (.aload_n 1, 1) := by decide +kernel
theorem dL_law_616 : decode cL_law 616 = .ok (.iload 7, 2) := by decide +kernel
theorem dL_law_618 : decode cL_law 618 = .ok (.iconst 1, 1) := by decide +kernel
theorem dL_law_619 : decode cL_law 619 = .ok (.isub, 1) := by decide +kernel
theorem dL_law_620 : decode cL_law 620 = .ok (.iload 14, 2) := by decide +kernel
theorem dL_law_622 : decode cL_law 622 = .ok (.invokevirtual 87, 3) := by decide +kernel
theorem dL_law_625 : decode cL_law 625 = .ok (.iload 15, 2) := by decide +kernel
theorem dL_law_627 : decode cL_law 627 = .ok (.if_icmp .ne 5, 3) := by decide +kernel
theorem dL_law_630 : decode cL_law 630 = .ok (.iconst 0, 1) := by decide +kernel
theorem dL_law_631 : decode cL_law 631 = .ok (.ireturn, 1) := by decide +kernel
theorem dL_law_632 : decode cL_law 632 = .ok (.iinc 14 1, 3) := by decide +kernel
theorem dL_law_635 : decode cL_law 635 = .ok (.goto (-82), 3) := by decide +kernel
theorem dL_law_638 : decode cL_law 638 = .ok (.iload 12, 2) := by decide +kernel
theorem dL_law_640 : decode cL_law 640 = .ok (.ifCond .eq 5, 3) := by decide +kernel
theorem dL_law_643 : decode cL_law 643 = .ok (.iconst 0, 1) := by decide +kernel
theorem dL_law_644 : decode cL_law 644 = .ok (.ireturn, 1) := by decide +kernel
theorem dL_law_645 : decode cL_law 645 = .ok (.aload_n 1, 1) := by decide +kernel
theorem dL_law_646 : decode cL_law 646 = .ok (.iconst 2, 1) := by decide +kernel
