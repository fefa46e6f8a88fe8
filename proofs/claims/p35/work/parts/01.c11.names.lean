theorem dL_law_647 : decode cL_law 647 = .ok (.invokevirtual 90, 3) := by decide +kernel
theorem dL_law_650 : decode cL_law 650 = .ok (.istore 14, 2) := by decide +kernel
theorem dL_law_652 : decode cL_law 652 = .ok (.aload_n 1, 1) := by decide +kernel
theorem dL_law_653 : decode cL_law 653 = .ok (.iconst 0, 1) := by decide +kernel
theorem dL_law_654 : decode cL_law 654 = .ok (.invokevirtual 90, 3) := by decide +kernel
theorem dL_law_657 : decode cL_law 657 = .ok (.istore 15, 2) := by decide +kernel
theorem dL_law_659 : decode cL_law 659 = .ok (.iload 14, 2) := by decide +kernel
theorem dL_law_661 : decode cL_law 661 = .ok (.ifCond .lt 46, 3) := by decide +kernel
theorem dL_law_664 : decode cL_law 664 = .ok (.aload_n 1, 1) := by decide +kernel
theorem dL_law_665 : decode cL_law 665 = .ok (.iload 14, 2) := by decide +kernel
theorem dL_law_667 : decode cL_law 667 = .ok (.invokevirtual 93, 3) := by decide +kernel
theorem dL_law_670 : decode cL_law 670 = .ok (.istore 16, 2) := by decide +kernel
theorem dL_law_672 : decode cL_law 672 = .ok (.iload 16, 2) := by decide +kernel
theorem dL_law_674 : decode cL_law 674 = .ok (.aload_n 1, 1) := by decide +kernel
theorem dL_law_675 : decode cL_law 675 = .ok (.iload 14, 2) := by decide +kernel
theorem dL_law_677 : decode cL_law 677 = .ok (.invokevirtual 96, 3) := by decide +kernel
theorem dL_law_680 : decode cL_law 680 = .ok (.invokestatic 70, 3) := by decide +kernel
theorem dL_law_683 : decode cL_law 683 = .ok (.if_icmp .ne 22, 3) := by decide +kernel
theorem dL_law_686 : decode cL_law 686 = .ok (.aload_n 1, 1) := by decide +kernel
theorem dL_law_687 : decode cL_law 687 = .ok (.iconst 0, 1) := by decide +kernel
theorem dL_law_688 : decode cL_law 688 = .ok (.invokevirtual 90, 3) := by decide +kernel
theorem dL_law_691 : decode cL_law 691 = .ok (.iload 15, 2) := by decide +kernel
theorem dL_law_693 : decode cL_law 693 = .ok (.if_icmp .gt 12, 3) := by decide +kernel
theorem dL_law_696 : decode cL_law 696 = .ok (.aload_n 1, 1) := by decide +kernel
theorem dL_law_697 : decode cL_law 697 = .ok (.iconst 1, 1) := by decide +kernel
theorem dL_law_698 : decode cL_law 698 = .ok (.invokevirtual 90, 3) := by decide +kernel
theorem dL_law_701 : decode cL_law 701 = .ok (.iconst 1, 1) := by decide +kernel
theorem dL_law_702 : decode cL_law 702 = .ok (.if_icmp .ge 5, 3) := by decide +kernel
theorem dL_law_705 : decode cL_law 705 = .ok (.iconst 0, 1) := by decide +kernel
theorem dL_law_706 : decode cL_law 706 = .ok (.ireturn, 1) := by decide +kernel
theorem dL_law_707 : decode cL_law 707 = .ok (.iconst 0, 1) := by decide +kernel
theorem dL_law_708 : decode cL_law 708 = .ok (.istore 16, 2) := by decide +kernel
theorem dL_law_710 : decode cL_law 710 = .ok (.iload 16, 2) := by decide +kernel
theorem dL_law_712 : decode cL_law 712 = .ok (.iconst 4, 1) := by decide +kernel
theorem dL_law_713 : decode cL_law 713 = .ok (.if_icmp .ge 32, 3) := by decide +kernel
theorem dL_law_716 : decode cL_law 716 = .ok (.aload_n 1, 1) := by decide +kernel
theorem dL_law_717 : decode cL_law 717 = .ok (.iload 16, 2) := by decide +kernel
theorem dL_law_719 : decode cL_law 719 = .ok (.invokevirtual 99, 3) := by decide +kernel
theorem dL_law_722 : decode cL_law 722 = .ok (.ifCond .lt 15, 3) := by decide +kernel
theorem dL_law_725 : decode cL_law 725 = .ok (.aload_n 1, 1) := by decide +kernel
theorem dL_law_726 : decode cL_law 726 = .ok (.iload 16, 2) := by decide +kernel
theorem dL_law_728 : decode cL_law 728 = .ok (.invokevirtual 99, 3) := by decide +kernel
theorem dL_law_731 : decode cL_law 731 = .ok (.sipush 10000, 3) := by decide +kernel
theorem dL_law_734 : decode cL_law 734 = .ok (.if_icmp .le 5, 3) := by decide +kernel
theorem dL_law_737 : decode cL_law 737 = .ok (.iconst 0, 1) := by decide +kernel
theorem dL_law_738 : decode cL_law 738 = .ok (.ireturn, 1) := by decide +kernel
theorem dL_law_739 : decode cL_law 739 = .ok (.iinc 16 1, 3) := by decide +kernel
theorem dL_law_742 : decode cL_law 742 = .ok (.goto (-32), 3) := by decide +kernel
theorem dL_law_745 : decode cL_law 745 = .ok (.aload_n 1, 1) := by decide +kernel
theorem dL_law_746 : decode cL_law 746 = .ok (.iload 8, 2) := by decide +kernel
theorem dL_law_748 : decode cL_law 748 = .ok (.iconst 4, 1) := by decide +kernel
theorem dL_law_749 : decode cL_law 749 = .ok (.ishr, 1) := by decide +kernel
theorem dL_law_750 : decode cL_law 750 = .ok (.iload_n 2, 1) := by decide +kernel
theorem dL_law_751 : decode cL_law 751 = .ok (.invokestatic 21, 3) := by decide +kernel
theorem dL_law_754 : decode cL_law 754 = .ok (.iconst 3, 1) := by decide +kernel
theorem dL_law_755 : decode cL_law 755 = .ok (.iconst 1, 1) := by decide +kernel
theorem dL_law_756 : decode cL_law 756 = .ok (.iload 8, 2) := by decide +kernel
theorem dL_law_758 : decode cL_law 758 = .ok (.bipush 6, 2) := by decide +kernel
theorem dL_law_760 : decode cL_law 760 = .ok (.ishr, 1) := by decide +kernel
theorem dL_law_761 : decode cL_law 761 = .ok (.bipush 9, 2) := by decide +kernel
