theorem d_L_law_622 : decode b_L_law 622 = .ok (.iload 4, 2) := by decide +kernel
theorem d_L_law_624 : decode b_L_law 624 = .ok (.iconst 1, 1) := by decide +kernel
theorem d_L_law_625 : decode b_L_law 625 = .ok (.iadd, 1) := by decide +kernel
theorem d_L_law_626 : decode b_L_law 626 = .ok (.iaload, 1) := by decide +kernel
theorem d_L_law_627 : decode b_L_law 627 = .ok (.aload_n 0, 1) := by decide +kernel
theorem d_L_law_628 : decode b_L_law 628 = .ok (.iload 4, 2) := by decide +kernel
theorem d_L_law_630 : decode b_L_law 630 = .ok (.iconst 2, 1) := by decide +kernel
theorem d_L_law_631 : decode b_L_law 631 = .ok (.iadd, 1) := by decide +kernel
theorem d_L_law_632 : decode b_L_law 632 = .ok (.iaload, 1) := by decide +kernel
theorem d_L_law_633 : decode b_L_law 633 = .ok (.aload_n 3, 1) := by decide +kernel
theorem d_L_law_634 : decode b_L_law 634 = .ok (.invokestatic 93, 3) := by decide +kernel
theorem d_L_law_637 : decode b_L_law 637 = .ok (.istore 5, 2) := by decide +kernel
theorem d_L_law_639 : decode b_L_law 639 = .ok (.aload_n 2, 1) := by decide +kernel
theorem d_L_law_640 : decode b_L_law 640 = .ok (.aload_n 0, 1) := by decide +kernel
theorem d_L_law_641 : decode b_L_law 641 = .ok (.iload 4, 2) := by decide +kernel
theorem d_L_law_643 : decode b_L_law 643 = .ok (.iconst 1, 1) := by decide +kernel
theorem d_L_law_644 : decode b_L_law 644 = .ok (.iadd, 1) := by decide +kernel
theorem d_L_law_645 : decode b_L_law 645 = .ok (.iaload, 1) := by decide +kernel
theorem d_L_law_646 : decode b_L_law 646 = .ok (.aload_n 0, 1) := by decide +kernel
theorem d_L_law_647 : decode b_L_law 647 = .ok (.iload 4, 2) := by decide +kernel
theorem d_L_law_649 : decode b_L_law 649 = .ok (.iconst 2, 1) := by decide +kernel
theorem d_L_law_650 : decode b_L_law 650 = .ok (.iadd, 1) := by decide +kernel
theorem d_L_law_651 : decode b_L_law 651 = .ok (.iaload, 1) := by decide +kernel
theorem d_L_law_652 : decode b_L_law 652 = .ok (.invokevirtual 95, 3) := by decide +kernel
theorem d_L_law_655 : decode b_L_law 655 = .ok (.istore 6, 2) := by decide +kernel
theorem d_L_law_657 : decode b_L_law 657 = .ok (.aload_n 2, 1) := by decide +kernel
theorem d_L_law_658 : decode b_L_law 658 = .ok (.invokevirtual 52, 3) := by decide +kernel
theorem d_L_law_661 : decode b_L_law 661 = .ok (.iload 5, 2) := by decide +kernel
theorem d_L_law_663 : decode b_L_law 663 = .ok (.if_icmp .eq 5, 3) := by decide +kernel
theorem d_L_law_666 : decode b_L_law 666 = .ok (.iconst 0, 1) := by decide +kernel
theorem d_L_law_667 : decode b_L_law 667 = .ok (.ireturn, 1) := by decide +kernel
theorem d_L_law_668 : decode b_L_law 668 = .ok (.iload 5, 2) := by decide +kernel
theorem d_L_law_670 : decode b_L_law 670 = .ok (.ifCond .ne 15, 3) := by decide +kernel
theorem d_L_law_673 : decode b_L_law 673 = .ok (.aload_n 3, 1) := by decide +kernel
theorem d_L_law_674 : decode b_L_law 674 = .ok (.iconst 0, 1) := by decide +kernel
theorem d_L_law_675 : decode b_L_law 675 = .ok (.laload, 1) := by decide +kernel
theorem d_L_law_676 : decode b_L_law 676 = .ok (.iload 6, 2) := by decide +kernel
theorem d_L_law_678 : decode b_L_law 678 = .ok (.i2l, 1) := by decide +kernel
theorem d_L_law_679 : decode b_L_law 679 = .ok (.lcmp, 1) := by decide +kernel
theorem d_L_law_680 : decode b_L_law 680 = .ok (.ifCond .eq 5, 3) := by decide +kernel
theorem d_L_law_683 : decode b_L_law 683 = .ok (.iconst 0, 1) := by decide +kernel
theorem d_L_law_684 : decode b_L_law 684 = .ok (.ireturn, 1) := by decide +kernel
theorem d_L_law_685 : decode b_L_law 685 = .ok (.goto 28, 3) := by decide +kernel
theorem d_L_law_688 : decode b_L_law 688 = .ok (.aload_n 1, 1) := by decide +kernel
theorem d_L_law_689 : decode b_L_law 689 = .ok (.aload_n 0, 1) := by decide +kernel
theorem d_L_law_690 : decode b_L_law 690 = .ok (.iload 4, 2) := by decide +kernel
theorem d_L_law_692 : decode b_L_law 692 = .ok (.iconst 1, 1) := by decide +kernel
theorem d_L_law_693 : decode b_L_law 693 = .ok (.iadd, 1) := by decide +kernel
theorem d_L_law_694 : decode b_L_law 694 = .ok (.iaload, 1) := by decide +kernel
theorem d_L_law_695 : decode b_L_law 695 = .ok (.invokevirtual 96, 3) := by decide +kernel
theorem d_L_law_698 : decode b_L_law 698 = .ok (.aload_n 2, 1) := by decide +kernel
theorem d_L_law_699 : decode b_L_law 699 = .ok (.aload_n 0, 1) := by decide +kernel
theorem d_L_law_700 : decode b_L_law 700 = .ok (.iload 4, 2) := by decide +kernel
theorem d_L_law_702 : decode b_L_law 702 = .ok (.iconst 1, 1) := by decide +kernel
theorem d_L_law_703 : decode b_L_law 703 = .ok (.iadd, 1) := by decide +kernel
theorem d_L_law_704 : decode b_L_law 704 = .ok (.iaload, 1) := by decide +kernel
theorem d_L_law_705 : decode b_L_law 705 = .ok (.invokevirtual 99, 3) := by decide +kernel
theorem d_L_law_708 : decode b_L_law 708 = .ok (.if_icmp .eq 5, 3) := by decide +kernel
theorem d_L_law_711 : decode b_L_law 711 = .ok (.iconst 0, 1) := by decide +kernel
theorem d_L_law_712 : decode b_L_law 712 = .ok (.ireturn, 1) := by decide +kernel
