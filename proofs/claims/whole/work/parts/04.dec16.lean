theorem d_L_law_524 : decode b_L_law 524 = .ok (.iload 5, 2) := by decide +kernel
theorem d_L_law_526 : decode b_L_law 526 = .ok (.if_icmp .eq 5, 3) := by decide +kernel
theorem d_L_law_529 : decode b_L_law 529 = .ok (.iconst 0, 1) := by decide +kernel
theorem d_L_law_530 : decode b_L_law 530 = .ok (.ireturn, 1) := by decide +kernel
theorem d_L_law_531 : decode b_L_law 531 = .ok (.iload 5, 2) := by decide +kernel
theorem d_L_law_533 : decode b_L_law 533 = .ok (.ifCond .ne 15, 3) := by decide +kernel
theorem d_L_law_536 : decode b_L_law 536 = .ok (.aload_n 3, 1) := by decide +kernel
theorem d_L_law_537 : decode b_L_law 537 = .ok (.iconst 0, 1) := by decide +kernel
theorem d_L_law_538 : decode b_L_law 538 = .ok (.laload, 1) := by decide +kernel
theorem d_L_law_539 : decode b_L_law 539 = .ok (.iload 6, 2) := by decide +kernel
theorem d_L_law_541 : decode b_L_law 541 = .ok (.i2l, 1) := by decide +kernel
theorem d_L_law_542 : decode b_L_law 542 = .ok (.lcmp, 1) := by decide +kernel
theorem d_L_law_543 : decode b_L_law 543 = .ok (.ifCond .eq 5, 3) := by decide +kernel
theorem d_L_law_546 : decode b_L_law 546 = .ok (.iconst 0, 1) := by decide +kernel
theorem d_L_law_547 : decode b_L_law 547 = .ok (.ireturn, 1) := by decide +kernel
theorem d_L_law_548 : decode b_L_law 548 = .ok (.goto 165, 3) := by decide +kernel
theorem d_L_law_551 : decode b_L_law 551 = .ok (.aload_n 1, 1) := by decide +kernel
theorem d_L_law_552 : decode b_L_law 552 = .ok (.aload_n 0, 1) := by decide +kernel
theorem d_L_law_553 : decode b_L_law 553 = .ok (.iload 4, 2) := by decide +kernel
theorem d_L_law_555 : decode b_L_law 555 = .ok (.iconst 1, 1) := by decide +kernel
theorem d_L_law_556 : decode b_L_law 556 = .ok (.iadd, 1) := by decide +kernel
theorem d_L_law_557 : decode b_L_law 557 = .ok (.iaload, 1) := by decide +kernel
theorem d_L_law_558 : decode b_L_law 558 = .ok (.aload_n 3, 1) := by decide +kernel
theorem d_L_law_559 : decode b_L_law 559 = .ok (.invokestatic 86, 3) := by decide +kernel
theorem d_L_law_562 : decode b_L_law 562 = .ok (.istore 5, 2) := by decide +kernel
theorem d_L_law_564 : decode b_L_law 564 = .ok (.aload_n 2, 1) := by decide +kernel
theorem d_L_law_565 : decode b_L_law 565 = .ok (.aload_n 0, 1) := by decide +kernel
theorem d_L_law_566 : decode b_L_law 566 = .ok (.iload 4, 2) := by decide +kernel
theorem d_L_law_568 : decode b_L_law 568 = .ok (.iconst 1, 1) := by decide +kernel
theorem d_L_law_569 : decode b_L_law 569 = .ok (.iadd, 1) := by decide +kernel
theorem d_L_law_570 : decode b_L_law 570 = .ok (.iaload, 1) := by decide +kernel
theorem d_L_law_571 : decode b_L_law 571 = .ok (.invokevirtual 88, 3) := by decide +kernel
theorem d_L_law_574 : decode b_L_law 574 = .ok (.istore 6, 2) := by decide +kernel
theorem d_L_law_576 : decode b_L_law 576 = .ok (.aload_n 2, 1) := by decide +kernel
theorem d_L_law_577 : decode b_L_law 577 = .ok (.invokevirtual 52, 3) := by decide +kernel
theorem d_L_law_580 : decode b_L_law 580 = .ok (.iload 5, 2) := by decide +kernel
theorem d_L_law_582 : decode b_L_law 582 = .ok (.if_icmp .eq 5, 3) := by decide +kernel
theorem d_L_law_585 : decode b_L_law 585 = .ok (.iconst 0, 1) := by decide +kernel
theorem d_L_law_586 : decode b_L_law 586 = .ok (.ireturn, 1) := by decide +kernel
theorem d_L_law_587 : decode b_L_law 587 = .ok (.iload 5, 2) := by decide +kernel
theorem d_L_law_589 : decode b_L_law 589 = .ok (.ifCond .ne 15, 3) := by decide +kernel
theorem d_L_law_592 : decode b_L_law 592 = .ok (.aload_n 3, 1) := by decide +kernel
theorem d_L_law_593 : decode b_L_law 593 = .ok (.iconst 0, 1) := by decide +kernel
theorem d_L_law_594 : decode b_L_law 594 = .ok (.laload, 1) := by decide +kernel
theorem d_L_law_595 : decode b_L_law 595 = .ok (.iload 6, 2) := by decide +kernel
theorem d_L_law_597 : decode b_L_law 597 = .ok (.i2l, 1) := by decide +kernel
theorem d_L_law_598 : decode b_L_law 598 = .ok (.lcmp, 1) := by decide +kernel
theorem d_L_law_599 : decode b_L_law 599 = .ok (.ifCond .eq 5, 3) := by decide +kernel
theorem d_L_law_602 : decode b_L_law 602 = .ok (.iconst 0, 1) := by decide +kernel
theorem d_L_law_603 : decode b_L_law 603 = .ok (.ireturn, 1) := by decide +kernel
theorem d_L_law_604 : decode b_L_law 604 = .ok (.goto 109, 3) := by decide +kernel
theorem d_L_law_607 : decode b_L_law 607 = .ok (.aload_n 1, 1) := by decide +kernel
theorem d_L_law_608 : decode b_L_law 608 = .ok (.invokevirtual 89, 3) := by decide +kernel
theorem d_L_law_611 : decode b_L_law 611 = .ok (.aload_n 2, 1) := by decide +kernel
theorem d_L_law_612 : decode b_L_law 612 = .ok (.invokevirtual 92, 3) := by decide +kernel
theorem d_L_law_615 : decode b_L_law 615 = .ok (.if_icmp .eq 98, 3) := by decide +kernel
theorem d_L_law_618 : decode b_L_law 618 = .ok (.iconst 0, 1) := by decide +kernel
theorem d_L_law_619 : decode b_L_law 619 = .ok (.ireturn, 1) := by decide +kernel
theorem d_L_law_620 : decode b_L_law 620 = .ok (.aload_n 1, 1) := by decide +kernel
theorem d_L_law_621 : decode b_L_law 621 = .ok (.aload_n 0, 1) := by decide +kernel
