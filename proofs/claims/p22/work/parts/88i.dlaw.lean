theorem dL_law_650 : decode cL_law 650 = .ok (.astore 17, 2) := by decide +kernel
theorem dL_law_652 : decode cL_law 652 = .ok (.iconst 3, 1) := by decide +kernel
theorem dL_law_653 : decode cL_law 653 = .ok (.istore 18, 2) := by decide +kernel
theorem dL_law_655 : decode cL_law 655 = .ok (.iload 18, 2) := by decide +kernel
theorem dL_law_657 : decode cL_law 657 = .ok (.bipush 6, 2) := by decide +kernel
theorem dL_law_659 : decode cL_law 659 = .ok (.if_icmp .ge 21, 3) := by decide +kernel
theorem dL_law_662 : decode cL_law 662 = .ok (.aload 17, 2) := by decide +kernel
theorem dL_law_664 : decode cL_law 664 = .ok (.iload 18, 2) := by decide +kernel
theorem dL_law_666 : decode cL_law 666 = .ok (.aload_n 1, 1) := by decide +kernel
theorem dL_law_667 : decode cL_law 667 = .ok (.iconst 1, 1) := by decide +kernel
theorem dL_law_668 : decode cL_law 668 = .ok (.iload 18, 2) := by decide +kernel
theorem dL_law_670 : decode cL_law 670 = .ok (.invokevirtual 118, 3) := by decide +kernel
theorem dL_law_673 : decode cL_law 673 = .ok (.iastore, 1) := by decide +kernel
theorem dL_law_674 : decode cL_law 674 = .ok (.iinc 18 1, 3) := by decide +kernel
theorem dL_law_677 : decode cL_law 677 = .ok (.goto (-22), 3) := by decide +kernel
theorem dL_law_680 : decode cL_law 680 = .ok (.iload 4, 2) := by decide +kernel
theorem dL_law_682 : decode cL_law 682 = .ok (.iconst 5, 1) := by decide +kernel
theorem dL_law_683 : decode cL_law 683 = .ok (.ishr, 1) := by decide +kernel
theorem dL_law_684 : decode cL_law 684 = .ok (.iload 7, 2) := by decide +kernel
theorem dL_law_686 : decode cL_law 686 = .ok (.ifCond .ne 7, 3) := by decide +kernel
theorem dL_law_689 : decode cL_law 689 = .ok (.iconst 1, 1) := by decide +kernel
theorem dL_law_690 : decode cL_law 690 = .ok (.goto 5, 3) := by decide +kernel
theorem dL_law_693 : decode cL_law 693 = .ok (.iload 7, 2) := by decide +kernel
theorem dL_law_695 : decode cL_law 695 = .ok (.invokestatic 18, 3) := by decide +kernel
theorem dL_law_698 : decode cL_law 698 = .ok (.istore 18, 2) := by decide +kernel
theorem dL_law_700 : decode cL_law 700 = .ok (.iload 7, 2) := by decide +kernel
theorem dL_law_702 : decode cL_law 702 = .ok (.ifCond .ne 7, 3) := by decide +kernel
theorem dL_law_705 : decode cL_law 705 = .ok (.iconst (-1), 1) := by decide +kernel
theorem dL_law_706 : decode cL_law 706 = .ok (.goto 20, 3) := by decide +kernel
theorem dL_law_709 : decode cL_law 709 = .ok (.aload_n 1, 1) := by decide +kernel
theorem dL_law_710 : decode cL_law 710 = .ok (.iload 18, 2) := by decide +kernel
theorem dL_law_712 : decode cL_law 712 = .ok (.iconst 1, 1) := by decide +kernel
theorem dL_law_713 : decode cL_law 713 = .ok (.iload 4, 2) := by decide +kernel
theorem dL_law_715 : decode cL_law 715 = .ok (.iconst 4, 1) := by decide +kernel
theorem dL_law_716 : decode cL_law 716 = .ok (.ishr, 1) := by decide +kernel
theorem dL_law_717 : decode cL_law 717 = .ok (.bipush 30, 2) := by decide +kernel
theorem dL_law_719 : decode cL_law 719 = .ok (.invokestatic 18, 3) := by decide +kernel
theorem dL_law_722 : decode cL_law 722 = .ok (.iadd, 1) := by decide +kernel
theorem dL_law_723 : decode cL_law 723 = .ok (.invokevirtual 121, 3) := by decide +kernel
theorem dL_law_726 : decode cL_law 726 = .ok (.istore 19, 2) := by decide +kernel
theorem dL_law_728 : decode cL_law 728 = .ok (.iload 7, 2) := by decide +kernel
theorem dL_law_730 : decode cL_law 730 = .ok (.iconst 2, 1) := by decide +kernel
theorem dL_law_731 : decode cL_law 731 = .ok (.if_icmp .ge 7, 3) := by decide +kernel
theorem dL_law_734 : decode cL_law 734 = .ok (.iconst (-1), 1) := by decide +kernel
theorem dL_law_735 : decode cL_law 735 = .ok (.goto 17, 3) := by decide +kernel
