/-! 2993: decode rows of the law -/
theorem dL_acts_592 : decode cL_acts 592 = .ok (.iconst 1, 1) := by decide +kernel
theorem dL_acts_593 : decode cL_acts 593 = .ok (.goto 17, 3) := by decide +kernel
theorem dL_acts_596 : decode cL_acts 596 = .ok (.iconst 0, 1) := by decide +kernel
theorem dL_acts_597 : decode cL_acts 597 = .ok (.goto 13, 3) := by decide +kernel
theorem dL_acts_600 : decode cL_acts 600 = .ok (.iload 6, 2) := by decide +kernel
theorem dL_acts_602 : decode cL_acts 602 = .ok (.ifCond .lt 7, 3) := by decide +kernel
theorem dL_acts_605 : decode cL_acts 605 = .ok (.iconst 1, 1) := by decide +kernel
theorem dL_acts_606 : decode cL_acts 606 = .ok (.goto 4, 3) := by decide +kernel
theorem dL_acts_609 : decode cL_acts 609 = .ok (.iconst 0, 1) := by decide +kernel
theorem dL_acts_610 : decode cL_acts 610 = .ok (.ireturn, 1) := by decide +kernel
theorem dL_acts_611 : decode cL_acts 611 = .ok (.aload_n 0, 1) := by decide +kernel
theorem dL_acts_612 : decode cL_acts 612 = .ok (.iload 4, 2) := by decide +kernel
theorem dL_acts_614 : decode cL_acts 614 = .ok (.bipush 45, 2) := by decide +kernel
theorem dL_acts_616 : decode cL_acts 616 = .ok (.ldc_w 283, 3) := by decide +kernel
theorem dL_acts_619 : decode cL_acts 619 = .ok (.iload_n 3, 1) := by decide +kernel
theorem dL_acts_620 : decode cL_acts 620 = .ok (.iconst 3, 1) := by decide +kernel
theorem dL_acts_621 : decode cL_acts 621 = .ok (.irem, 1) := by decide +kernel
theorem dL_acts_622 : decode cL_acts 622 = .ok (.invokevirtual 191, 3) := by decide +kernel
theorem dL_acts_625 : decode cL_acts 625 = .ok (.invokestatic 285, 3) := by decide +kernel
theorem dL_acts_628 : decode cL_acts 628 = .ok (.ifCond .le 17, 3) := by decide +kernel
theorem dL_acts_631 : decode cL_acts 631 = .ok (.aload_n 0, 1) := by decide +kernel
theorem dL_acts_632 : decode cL_acts 632 = .ok (.iload 4, 2) := by decide +kernel
theorem dL_acts_634 : decode cL_acts 634 = .ok (.invokestatic 288, 3) := by decide +kernel
theorem dL_acts_637 : decode cL_acts 637 = .ok (.iconst 1, 1) := by decide +kernel
theorem dL_acts_638 : decode cL_acts 638 = .ok (.if_icmp .lt 7, 3) := by decide +kernel
theorem dL_acts_641 : decode cL_acts 641 = .ok (.iconst 1, 1) := by decide +kernel
theorem dL_acts_642 : decode cL_acts 642 = .ok (.goto 4, 3) := by decide +kernel
theorem dL_acts_645 : decode cL_acts 645 = .ok (.iconst 0, 1) := by decide +kernel
theorem dL_acts_646 : decode cL_acts 646 = .ok (.ireturn, 1) := by decide +kernel
theorem dL_acts_647 : decode cL_acts 647 = .ok (.aload_n 0, 1) := by decide +kernel
theorem dL_acts_648 : decode cL_acts 648 = .ok (.iload 5, 2) := by decide +kernel
theorem dL_acts_650 : decode cL_acts 650 = .ok (.invokestatic 290, 3) := by decide +kernel
theorem dL_acts_653 : decode cL_acts 653 = .ok (.ifCond .lt 22, 3) := by decide +kernel
theorem dL_acts_656 : decode cL_acts 656 = .ok (.aload_n 0, 1) := by decide +kernel
theorem dL_acts_657 : decode cL_acts 657 = .ok (.iconst 3, 1) := by decide +kernel
theorem dL_acts_658 : decode cL_acts 658 = .ok (.iload 4, 2) := by decide +kernel
theorem dL_acts_660 : decode cL_acts 660 = .ok (.iadd, 1) := by decide +kernel
theorem dL_acts_661 : decode cL_acts 661 = .ok (.iload_n 3, 1) := by decide +kernel
theorem dL_acts_662 : decode cL_acts 662 = .ok (.bipush 10, 2) := by decide +kernel
theorem dL_acts_664 : decode cL_acts 664 = .ok (.irem, 1) := by decide +kernel
theorem dL_acts_665 : decode cL_acts 665 = .ok (.invokestatic 292, 3) := by decide +kernel
theorem dL_acts_668 : decode cL_acts 668 = .ok (.ifCond .lt 7, 3) := by decide +kernel
theorem dL_acts_671 : decode cL_acts 671 = .ok (.iconst 1, 1) := by decide +kernel
theorem dL_acts_672 : decode cL_acts 672 = .ok (.goto 4, 3) := by decide +kernel
theorem dL_acts_675 : decode cL_acts 675 = .ok (.iconst 0, 1) := by decide +kernel
theorem dL_acts_676 : decode cL_acts 676 = .ok (.ireturn, 1) := by decide +kernel
theorem dL_acts_677 : decode cL_acts 677 = .ok (.aload_n 0, 1) := by decide +kernel
theorem dL_acts_678 : decode cL_acts 678 = .ok (.iload 4, 2) := by decide +kernel
theorem dL_acts_680 : decode cL_acts 680 = .ok (.bipush 45, 2) := by decide +kernel
theorem dL_acts_682 : decode cL_acts 682 = .ok (.iload_n 3, 1) := by decide +kernel
theorem dL_acts_683 : decode cL_acts 683 = .ok (.bipush 15, 2) := by decide +kernel
theorem dL_acts_685 : decode cL_acts 685 = .ok (.isub, 1) := by decide +kernel
theorem dL_acts_686 : decode cL_acts 686 = .ok (.invokestatic 294, 3) := by decide +kernel
theorem dL_acts_689 : decode cL_acts 689 = .ok (.bipush (-50), 2) := by decide +kernel
theorem dL_acts_691 : decode cL_acts 691 = .ok (.if_icmp .lt 46, 3) := by decide +kernel
theorem dL_acts_694 : decode cL_acts 694 = .ok (.aload_n 0, 1) := by decide +kernel
theorem dL_acts_695 : decode cL_acts 695 = .ok (.iload 4, 2) := by decide +kernel
theorem dL_acts_697 : decode cL_acts 697 = .ok (.bipush 45, 2) := by decide +kernel
theorem dL_acts_699 : decode cL_acts 699 = .ok (.iload 4, 2) := by decide +kernel
theorem dL_acts_701 : decode cL_acts 701 = .ok (.iconst 1, 1) := by decide +kernel
theorem dL_acts_702 : decode cL_acts 702 = .ok (.iadd, 1) := by decide +kernel
theorem dL_acts_703 : decode cL_acts 703 = .ok (.iconst 3, 1) := by decide +kernel
theorem dL_acts_704 : decode cL_acts 704 = .ok (.irem, 1) := by decide +kernel
theorem dL_acts_705 : decode cL_acts 705 = .ok (.bipush 46, 2) := by decide +kernel
theorem dL_acts_707 : decode cL_acts 707 = .ok (.invokestatic 297, 3) := by decide +kernel
theorem dL_acts_710 : decode cL_acts 710 = .ok (.invokestatic 300, 3) := by decide +kernel
theorem dL_acts_713 : decode cL_acts 713 = .ok (.sipush 300, 3) := by decide +kernel
theorem dL_acts_716 : decode cL_acts 716 = .ok (.if_icmp .gt 21, 3) := by decide +kernel
theorem dL_acts_719 : decode cL_acts 719 = .ok (.aload_n 0, 1) := by decide +kernel
theorem dL_acts_720 : decode cL_acts 720 = .ok (.iload 4, 2) := by decide +kernel
theorem dL_acts_722 : decode cL_acts 722 = .ok (.bipush 9, 2) := by decide +kernel
theorem dL_acts_724 : decode cL_acts 724 = .ok (.iload 5, 2) := by decide +kernel
theorem dL_acts_726 : decode cL_acts 726 = .ok (.imul, 1) := by decide +kernel
theorem dL_acts_727 : decode cL_acts 727 = .ok (.invokestatic 305, 3) := by decide +kernel
theorem dL_acts_730 : decode cL_acts 730 = .ok (.ifCond .lt 7, 3) := by decide +kernel
theorem dL_acts_733 : decode cL_acts 733 = .ok (.iconst 1, 1) := by decide +kernel
theorem dL_acts_734 : decode cL_acts 734 = .ok (.goto 4, 3) := by decide +kernel
theorem dL_acts_737 : decode cL_acts 737 = .ok (.iconst 0, 1) := by decide +kernel
theorem dL_acts_738 : decode cL_acts 738 = .ok (.ireturn, 1) := by decide +kernel
theorem dL_acts_739 : decode cL_acts 739 = .ok (.aload_n 0, 1) := by decide +kernel
theorem dL_acts_740 : decode cL_acts 740 = .ok (.iload_n 3, 1) := by decide +kernel
theorem dL_acts_741 : decode cL_acts 741 = .ok (.bipush 20, 2) := by decide +kernel
theorem dL_acts_743 : decode cL_acts 743 = .ok (.if_icmp .le 7, 3) := by decide +kernel
theorem dL_acts_746 : decode cL_acts 746 = .ok (.iconst 1, 1) := by decide +kernel
theorem dL_acts_747 : decode cL_acts 747 = .ok (.goto 4, 3) := by decide +kernel
theorem dL_acts_750 : decode cL_acts 750 = .ok (.iconst 0, 1) := by decide +kernel
theorem dL_acts_751 : decode cL_acts 751 = .ok (.invokevirtual 307, 3) := by decide +kernel
theorem dL_acts_754 : decode cL_acts 754 = .ok (.istore 6, 2) := by decide +kernel
theorem dL_acts_756 : decode cL_acts 756 = .ok (.aload_n 0, 1) := by decide +kernel
theorem dL_acts_757 : decode cL_acts 757 = .ok (.invokestatic 311, 3) := by decide +kernel
theorem dL_acts_760 : decode cL_acts 760 = .ok (.ifCond .eq 27, 3) := by decide +kernel
theorem dL_acts_763 : decode cL_acts 763 = .ok (.aload_n 0, 1) := by decide +kernel
theorem dL_acts_764 : decode cL_acts 764 = .ok (.iload 6, 2) := by decide +kernel
theorem dL_acts_766 : decode cL_acts 766 = .ok (.invokevirtual 307, 3) := by decide +kernel
theorem dL_acts_769 : decode cL_acts 769 = .ok (.iload_n 3, 1) := by decide +kernel
theorem dL_acts_770 : decode cL_acts 770 = .ok (.bipush 20, 2) := by decide +kernel
theorem dL_acts_772 : decode cL_acts 772 = .ok (.if_icmp .le 7, 3) := by decide +kernel
theorem dL_acts_775 : decode cL_acts 775 = .ok (.iconst 1, 1) := by decide +kernel
theorem dL_acts_776 : decode cL_acts 776 = .ok (.goto 4, 3) := by decide +kernel
theorem dL_acts_779 : decode cL_acts 779 = .ok (.iconst 0, 1) := by decide +kernel
theorem dL_acts_780 : decode cL_acts 780 = .ok (.if_icmp .ne 7, 3) := by decide +kernel
theorem dL_acts_783 : decode cL_acts 783 = .ok (.iconst 1, 1) := by decide +kernel
theorem dL_acts_784 : decode cL_acts 784 = .ok (.goto 4, 3) := by decide +kernel
theorem dL_acts_787 : decode cL_acts 787 = .ok (.iconst 0, 1) := by decide +kernel
theorem dL_acts_788 : decode cL_acts 788 = .ok (.ireturn, 1) := by decide +kernel
theorem dL_isStep_0 : decode cL_isStep 0 = .ok (.aload_n 0, 1) := by decide +kernel
theorem dL_isStep_1 : decode cL_isStep 1 = .ok (.invokevirtual 314, 3) := by decide +kernel
theorem dL_isStep_4 : decode cL_isStep 4 = .ok (.istore_n 1, 1) := by decide +kernel
theorem dL_isStep_5 : decode cL_isStep 5 = .ok (.iload_n 1, 1) := by decide +kernel
theorem dL_isStep_6 : decode cL_isStep 6 = .ok (.ifCond .lt 13, 3) := by decide +kernel
theorem dL_isStep_9 : decode cL_isStep 9 = .ok (.iload_n 1, 1) := by decide +kernel
theorem dL_isStep_10 : decode cL_isStep 10 = .ok (.bipush 8, 2) := by decide +kernel
theorem dL_isStep_12 : decode cL_isStep 12 = .ok (.if_icmp .ge 7, 3) := by decide +kernel
theorem dL_isStep_15 : decode cL_isStep 15 = .ok (.iconst 1, 1) := by decide +kernel
theorem dL_isStep_16 : decode cL_isStep 16 = .ok (.goto 4, 3) := by decide +kernel
theorem dL_isStep_19 : decode cL_isStep 19 = .ok (.iconst 0, 1) := by decide +kernel
theorem dL_isStep_20 : decode cL_isStep 20 = .ok (.ireturn, 1) := by decide +kernel
theorem dL_arePipes_0 : decode cL_arePipes 0 = .ok (.iconst 1, 1) := by decide +kernel
theorem dL_arePipes_1 : decode cL_arePipes 1 = .ok (.istore_n 1, 1) := by decide +kernel
theorem dL_arePipes_2 : decode cL_arePipes 2 = .ok (.iconst 0, 1) := by decide +kernel
theorem dL_arePipes_3 : decode cL_arePipes 3 = .ok (.istore_n 2, 1) := by decide +kernel
theorem dL_arePipes_4 : decode cL_arePipes 4 = .ok (.lconst 0, 1) := by decide +kernel
theorem dL_arePipes_5 : decode cL_arePipes 5 = .ok (.lstore_n 3, 1) := by decide +kernel
theorem dL_arePipes_6 : decode cL_arePipes 6 = .ok (.iconst 0, 1) := by decide +kernel
theorem dL_arePipes_7 : decode cL_arePipes 7 = .ok (.istore 5, 2) := by decide +kernel
theorem dL_arePipes_9 : decode cL_arePipes 9 = .ok (.iload 5, 2) := by decide +kernel
theorem dL_arePipes_11 : decode cL_arePipes 11 = .ok (.iconst 3, 1) := by decide +kernel
theorem dL_arePipes_12 : decode cL_arePipes 12 = .ok (.if_icmp .ge 37, 3) := by decide +kernel
theorem dL_arePipes_15 : decode cL_arePipes 15 = .ok (.iload_n 1, 1) := by decide +kernel
theorem dL_arePipes_16 : decode cL_arePipes 16 = .ok (.aload_n 0, 1) := by decide +kernel
theorem dL_arePipes_17 : decode cL_arePipes 17 = .ok (.iload 5, 2) := by decide +kernel
theorem dL_arePipes_19 : decode cL_arePipes 19 = .ok (.invokestatic 317, 3) := by decide +kernel
theorem dL_arePipes_22 : decode cL_arePipes 22 = .ok (.ifCond .lt 18, 3) := by decide +kernel
theorem dL_arePipes_25 : decode cL_arePipes 25 = .ok (.aload_n 0, 1) := by decide +kernel
theorem dL_arePipes_26 : decode cL_arePipes 26 = .ok (.iload 5, 2) := by decide +kernel
theorem dL_arePipes_28 : decode cL_arePipes 28 = .ok (.invokestatic 317, 3) := by decide +kernel
theorem dL_arePipes_31 : decode cL_arePipes 31 = .ok (.bipush 100, 2) := by decide +kernel
theorem dL_arePipes_33 : decode cL_arePipes 33 = .ok (.if_icmp .gt 7, 3) := by decide +kernel
theorem dL_arePipes_36 : decode cL_arePipes 36 = .ok (.iconst 1, 1) := by decide +kernel
theorem dL_arePipes_37 : decode cL_arePipes 37 = .ok (.goto 4, 3) := by decide +kernel
theorem dL_arePipes_40 : decode cL_arePipes 40 = .ok (.iconst 0, 1) := by decide +kernel
theorem dL_arePipes_41 : decode cL_arePipes 41 = .ok (.iand, 1) := by decide +kernel
theorem dL_arePipes_42 : decode cL_arePipes 42 = .ok (.istore_n 1, 1) := by decide +kernel
theorem dL_arePipes_43 : decode cL_arePipes 43 = .ok (.iinc 5 1, 3) := by decide +kernel
theorem dL_arePipes_46 : decode cL_arePipes 46 = .ok (.goto (-37), 3) := by decide +kernel
theorem dL_arePipes_49 : decode cL_arePipes 49 = .ok (.iconst 0, 1) := by decide +kernel
theorem dL_arePipes_50 : decode cL_arePipes 50 = .ok (.istore 5, 2) := by decide +kernel
theorem dL_arePipes_52 : decode cL_arePipes 52 = .ok (.iload 5, 2) := by decide +kernel
theorem dL_arePipes_54 : decode cL_arePipes 54 = .ok (.iconst 3, 1) := by decide +kernel
theorem dL_arePipes_55 : decode cL_arePipes 55 = .ok (.if_icmp .ge 139, 3) := by decide +kernel
theorem dL_arePipes_58 : decode cL_arePipes 58 = .ok (.bipush 36, 2) := by decide +kernel
theorem dL_arePipes_60 : decode cL_arePipes 60 = .ok (.istore 6, 2) := by decide +kernel
theorem dL_arePipes_62 : decode cL_arePipes 62 = .ok (.iload 6, 2) := by decide +kernel
theorem dL_arePipes_64 : decode cL_arePipes 64 = .ok (.bipush 78, 2) := by decide +kernel
theorem dL_arePipes_66 : decode cL_arePipes 66 = .ok (.if_icmp .ge 122, 3) := by decide +kernel
theorem dL_arePipes_69 : decode cL_arePipes 69 = .ok (.aload_n 0, 1) := by decide +kernel
theorem dL_arePipes_70 : decode cL_arePipes 70 = .ok (.iload 5, 2) := by decide +kernel
theorem dL_arePipes_72 : decode cL_arePipes 72 = .ok (.iload 6, 2) := by decide +kernel
theorem dL_arePipes_74 : decode cL_arePipes 74 = .ok (.invokestatic 319, 3) := by decide +kernel
theorem dL_arePipes_77 : decode cL_arePipes 77 = .ok (.istore 7, 2) := by decide +kernel
theorem dL_arePipes_79 : decode cL_arePipes 79 = .ok (.iload 7, 2) := by decide +kernel
theorem dL_arePipes_81 : decode cL_arePipes 81 = .ok (.ifCond .lt 73, 3) := by decide +kernel
theorem dL_arePipes_84 : decode cL_arePipes 84 = .ok (.iload_n 2, 1) := by decide +kernel
theorem dL_arePipes_85 : decode cL_arePipes 85 = .ok (.aload_n 0, 1) := by decide +kernel
theorem dL_arePipes_86 : decode cL_arePipes 86 = .ok (.iload 5, 2) := by decide +kernel
theorem dL_arePipes_88 : decode cL_arePipes 88 = .ok (.iload 6, 2) := by decide +kernel
theorem dL_arePipes_90 : decode cL_arePipes 90 = .ok (.invokestatic 321, 3) := by decide +kernel
theorem dL_arePipes_93 : decode cL_arePipes 93 = .ok (.iadd, 1) := by decide +kernel
theorem dL_arePipes_94 : decode cL_arePipes 94 = .ok (.istore_n 2, 1) := by decide +kernel
theorem dL_arePipes_95 : decode cL_arePipes 95 = .ok (.lload_n 3, 1) := by decide +kernel
theorem dL_arePipes_96 : decode cL_arePipes 96 = .ok (.aload_n 0, 1) := by decide +kernel
theorem dL_arePipes_97 : decode cL_arePipes 97 = .ok (.iload 5, 2) := by decide +kernel
theorem dL_arePipes_99 : decode cL_arePipes 99 = .ok (.iload 6, 2) := by decide +kernel
theorem dL_arePipes_101 : decode cL_arePipes 101 = .ok (.invokestatic 323, 3) := by decide +kernel
theorem dL_arePipes_104 : decode cL_arePipes 104 = .ok (.i2l, 1) := by decide +kernel
theorem dL_arePipes_105 : decode cL_arePipes 105 = .ok (.ladd, 1) := by decide +kernel
theorem dL_arePipes_106 : decode cL_arePipes 106 = .ok (.lstore_n 3, 1) := by decide +kernel
theorem dL_arePipes_107 : decode cL_arePipes 107 = .ok (.iload_n 1, 1) := by decide +kernel
theorem dL_arePipes_108 : decode cL_arePipes 108 = .ok (.iload 7, 2) := by decide +kernel
theorem dL_arePipes_110 : decode cL_arePipes 110 = .ok (.aload_n 0, 1) := by decide +kernel
theorem dL_arePipes_111 : decode cL_arePipes 111 = .ok (.iload 5, 2) := by decide +kernel
theorem dL_arePipes_113 : decode cL_arePipes 113 = .ok (.iload 6, 2) := by decide +kernel
theorem dL_arePipes_115 : decode cL_arePipes 115 = .ok (.invokestatic 325, 3) := by decide +kernel
theorem dL_arePipes_118 : decode cL_arePipes 118 = .ok (.if_icmp .ne 30, 3) := by decide +kernel
theorem dL_arePipes_121 : decode cL_arePipes 121 = .ok (.aload_n 0, 1) := by decide +kernel
theorem dL_arePipes_122 : decode cL_arePipes 122 = .ok (.iload 5, 2) := by decide +kernel
theorem dL_arePipes_124 : decode cL_arePipes 124 = .ok (.iload 6, 2) := by decide +kernel
theorem dL_arePipes_126 : decode cL_arePipes 126 = .ok (.invokestatic 327, 3) := by decide +kernel
theorem dL_arePipes_129 : decode cL_arePipes 129 = .ok (.bipush 100, 2) := by decide +kernel
theorem dL_arePipes_131 : decode cL_arePipes 131 = .ok (.iload 6, 2) := by decide +kernel
theorem dL_arePipes_133 : decode cL_arePipes 133 = .ok (.imul, 1) := by decide +kernel
theorem dL_arePipes_134 : decode cL_arePipes 134 = .ok (.isub, 1) := by decide +kernel
theorem dL_arePipes_135 : decode cL_arePipes 135 = .ok (.invokestatic 300, 3) := by decide +kernel
theorem dL_arePipes_138 : decode cL_arePipes 138 = .ok (.sipush 128, 3) := by decide +kernel
theorem dL_arePipes_141 : decode cL_arePipes 141 = .ok (.if_icmp .gt 7, 3) := by decide +kernel
theorem dL_arePipes_144 : decode cL_arePipes 144 = .ok (.iconst 1, 1) := by decide +kernel
theorem dL_arePipes_145 : decode cL_arePipes 145 = .ok (.goto 4, 3) := by decide +kernel
theorem dL_arePipes_148 : decode cL_arePipes 148 = .ok (.iconst 0, 1) := by decide +kernel
theorem dL_arePipes_149 : decode cL_arePipes 149 = .ok (.iand, 1) := by decide +kernel
theorem dL_arePipes_150 : decode cL_arePipes 150 = .ok (.istore_n 1, 1) := by decide +kernel
theorem dL_arePipes_151 : decode cL_arePipes 151 = .ok (.goto 31, 3) := by decide +kernel
theorem dL_arePipes_154 : decode cL_arePipes 154 = .ok (.iload_n 1, 1) := by decide +kernel
theorem dL_arePipes_155 : decode cL_arePipes 155 = .ok (.iload 7, 2) := by decide +kernel
theorem dL_arePipes_157 : decode cL_arePipes 157 = .ok (.bipush (-77), 2) := by decide +kernel
theorem dL_arePipes_159 : decode cL_arePipes 159 = .ok (.if_icmp .ne 20, 3) := by decide +kernel
theorem dL_arePipes_162 : decode cL_arePipes 162 = .ok (.aload_n 0, 1) := by decide +kernel
theorem dL_arePipes_163 : decode cL_arePipes 163 = .ok (.iload 5, 2) := by decide +kernel
theorem dL_arePipes_165 : decode cL_arePipes 165 = .ok (.iload 6, 2) := by decide +kernel
theorem dL_arePipes_167 : decode cL_arePipes 167 = .ok (.invokestatic 321, 3) := by decide +kernel
theorem dL_arePipes_170 : decode cL_arePipes 170 = .ok (.bipush (-77), 2) := by decide +kernel
theorem dL_arePipes_172 : decode cL_arePipes 172 = .ok (.if_icmp .ne 7, 3) := by decide +kernel
theorem dL_arePipes_175 : decode cL_arePipes 175 = .ok (.iconst 1, 1) := by decide +kernel
theorem dL_arePipes_176 : decode cL_arePipes 176 = .ok (.goto 4, 3) := by decide +kernel
theorem dL_arePipes_179 : decode cL_arePipes 179 = .ok (.iconst 0, 1) := by decide +kernel
theorem dL_arePipes_180 : decode cL_arePipes 180 = .ok (.iand, 1) := by decide +kernel
theorem dL_arePipes_181 : decode cL_arePipes 181 = .ok (.istore_n 1, 1) := by decide +kernel
theorem dL_arePipes_182 : decode cL_arePipes 182 = .ok (.iinc 6 1, 3) := by decide +kernel
theorem dL_arePipes_185 : decode cL_arePipes 185 = .ok (.goto (-123), 3) := by decide +kernel
theorem dL_arePipes_188 : decode cL_arePipes 188 = .ok (.iinc 5 1, 3) := by decide +kernel
theorem dL_arePipes_191 : decode cL_arePipes 191 = .ok (.goto (-139), 3) := by decide +kernel
theorem dL_arePipes_194 : decode cL_arePipes 194 = .ok (.aload_n 0, 1) := by decide +kernel
theorem dL_arePipes_195 : decode cL_arePipes 195 = .ok (.invokestatic 329, 3) := by decide +kernel
theorem dL_arePipes_198 : decode cL_arePipes 198 = .ok (.fstore 5, 2) := by decide +kernel
theorem dL_arePipes_200 : decode cL_arePipes 200 = .ok (.aload_n 0, 1) := by decide +kernel
theorem dL_arePipes_201 : decode cL_arePipes 201 = .ok (.invokestatic 332, 3) := by decide +kernel
theorem dL_arePipes_204 : decode cL_arePipes 204 = .ok (.dstore 6, 2) := by decide +kernel
theorem dL_arePipes_206 : decode cL_arePipes 206 = .ok (.iload_n 1, 1) := by decide +kernel
theorem dL_arePipes_207 : decode cL_arePipes 207 = .ok (.ifCond .eq 73, 3) := by decide +kernel
theorem dL_arePipes_210 : decode cL_arePipes 210 = .ok (.aload_n 0, 1) := by decide +kernel
theorem dL_arePipes_211 : decode cL_arePipes 211 = .ok (.invokevirtual 335, 3) := by decide +kernel
theorem dL_arePipes_214 : decode cL_arePipes 214 = .ok (.iload_n 2, 1) := by decide +kernel
theorem dL_arePipes_215 : decode cL_arePipes 215 = .ok (.if_icmp .ne 65, 3) := by decide +kernel
theorem dL_arePipes_218 : decode cL_arePipes 218 = .ok (.lload_n 3, 1) := by decide +kernel
theorem dL_arePipes_219 : decode cL_arePipes 219 = .ok (.aload_n 0, 1) := by decide +kernel
theorem dL_arePipes_220 : decode cL_arePipes 220 = .ok (.invokevirtual 338, 3) := by decide +kernel
theorem dL_arePipes_223 : decode cL_arePipes 223 = .ok (.iload_n 2, 1) := by decide +kernel
theorem dL_arePipes_224 : decode cL_arePipes 224 = .ok (.i2l, 1) := by decide +kernel
theorem dL_arePipes_225 : decode cL_arePipes 225 = .ok (.ladd, 1) := by decide +kernel
theorem dL_arePipes_226 : decode cL_arePipes 226 = .ok (.lcmp, 1) := by decide +kernel
theorem dL_arePipes_227 : decode cL_arePipes 227 = .ok (.ifCond .ne 53, 3) := by decide +kernel
theorem dL_arePipes_230 : decode cL_arePipes 230 = .ok (.fload 5, 2) := by decide +kernel
theorem dL_arePipes_232 : decode cL_arePipes 232 = .ok (.fconst 0, 1) := by decide +kernel
theorem dL_arePipes_233 : decode cL_arePipes 233 = .ok (.fcmp .l, 1) := by decide +kernel
theorem dL_arePipes_234 : decode cL_arePipes 234 = .ok (.ifCond .lt 46, 3) := by decide +kernel
theorem dL_arePipes_237 : decode cL_arePipes 237 = .ok (.fload 5, 2) := by decide +kernel
theorem dL_arePipes_239 : decode cL_arePipes 239 = .ok (.fconst 1, 1) := by decide +kernel
theorem dL_arePipes_240 : decode cL_arePipes 240 = .ok (.fcmp .g, 1) := by decide +kernel
theorem dL_arePipes_241 : decode cL_arePipes 241 = .ok (.ifCond .gt 39, 3) := by decide +kernel
theorem dL_arePipes_244 : decode cL_arePipes 244 = .ok (.iload_n 2, 1) := by decide +kernel
theorem dL_arePipes_245 : decode cL_arePipes 245 = .ok (.ifCond .ne 15, 3) := by decide +kernel
theorem dL_arePipes_248 : decode cL_arePipes 248 = .ok (.dload 6, 2) := by decide +kernel
theorem dL_arePipes_250 : decode cL_arePipes 250 = .ok (.ldc2_w 176, 3) := by decide +kernel
theorem dL_arePipes_253 : decode cL_arePipes 253 = .ok (.dcmp .l, 1) := by decide +kernel
theorem dL_arePipes_254 : decode cL_arePipes 254 = .ok (.ifCond .ne 26, 3) := by decide +kernel
theorem dL_arePipes_257 : decode cL_arePipes 257 = .ok (.goto 12, 3) := by decide +kernel
theorem dL_arePipes_260 : decode cL_arePipes 260 = .ok (.dload 6, 2) := by decide +kernel
theorem dL_arePipes_262 : decode cL_arePipes 262 = .ok (.ldc2_w 342, 3) := by decide +kernel
theorem dL_arePipes_265 : decode cL_arePipes 265 = .ok (.dcmp .l, 1) := by decide +kernel
theorem dL_arePipes_266 : decode cL_arePipes 266 = .ok (.ifCond .le 14, 3) := by decide +kernel
theorem dL_arePipes_269 : decode cL_arePipes 269 = .ok (.aload_n 0, 1) := by decide +kernel
theorem dL_arePipes_270 : decode cL_arePipes 270 = .ok (.invokevirtual 344, 3) := by decide +kernel
theorem dL_arePipes_273 : decode cL_arePipes 273 = .ok (.ifCond .lt 7, 3) := by decide +kernel
theorem dL_arePipes_276 : decode cL_arePipes 276 = .ok (.iconst 1, 1) := by decide +kernel
theorem dL_arePipes_277 : decode cL_arePipes 277 = .ok (.goto 4, 3) := by decide +kernel
theorem dL_arePipes_280 : decode cL_arePipes 280 = .ok (.iconst 0, 1) := by decide +kernel
theorem dL_arePipes_281 : decode cL_arePipes 281 = .ok (.ireturn, 1) := by decide +kernel
theorem dL_areKnobs_0 : decode cL_areKnobs 0 = .ok (.iconst 1, 1) := by decide +kernel
theorem dL_areKnobs_1 : decode cL_areKnobs 1 = .ok (.istore_n 1, 1) := by decide +kernel
theorem dL_areKnobs_2 : decode cL_areKnobs 2 = .ok (.iconst 0, 1) := by decide +kernel
theorem dL_areKnobs_3 : decode cL_areKnobs 3 = .ok (.istore_n 2, 1) := by decide +kernel
theorem dL_areKnobs_4 : decode cL_areKnobs 4 = .ok (.iload_n 2, 1) := by decide +kernel
theorem dL_areKnobs_5 : decode cL_areKnobs 5 = .ok (.bipush 9, 2) := by decide +kernel
theorem dL_areKnobs_7 : decode cL_areKnobs 7 = .ok (.if_icmp .ge 61, 3) := by decide +kernel
theorem dL_areKnobs_10 : decode cL_areKnobs 10 = .ok (.aload_n 0, 1) := by decide +kernel
theorem dL_areKnobs_11 : decode cL_areKnobs 11 = .ok (.iload_n 2, 1) := by decide +kernel
theorem dL_areKnobs_12 : decode cL_areKnobs 12 = .ok (.invokestatic 237, 3) := by decide +kernel
theorem dL_areKnobs_15 : decode cL_areKnobs 15 = .ok (.istore_n 3, 1) := by decide +kernel
theorem dL_areKnobs_16 : decode cL_areKnobs 16 = .ok (.aload_n 0, 1) := by decide +kernel
theorem dL_areKnobs_17 : decode cL_areKnobs 17 = .ok (.iload_n 2, 1) := by decide +kernel
theorem dL_areKnobs_18 : decode cL_areKnobs 18 = .ok (.invokestatic 347, 3) := by decide +kernel
theorem dL_areKnobs_21 : decode cL_areKnobs 21 = .ok (.istore 4, 2) := by decide +kernel
theorem dL_areKnobs_23 : decode cL_areKnobs 23 = .ok (.iload_n 1, 1) := by decide +kernel
theorem dL_areKnobs_24 : decode cL_areKnobs 24 = .ok (.iload_n 2, 1) := by decide +kernel
theorem dL_areKnobs_25 : decode cL_areKnobs 25 = .ok (.iconst 3, 1) := by decide +kernel
theorem dL_areKnobs_26 : decode cL_areKnobs 26 = .ok (.if_icmp .lt 8, 3) := by decide +kernel
theorem dL_areKnobs_29 : decode cL_areKnobs 29 = .ok (.iload_n 2, 1) := by decide +kernel
theorem dL_areKnobs_30 : decode cL_areKnobs 30 = .ok (.iconst 5, 1) := by decide +kernel
theorem dL_areKnobs_31 : decode cL_areKnobs 31 = .ok (.if_icmp .le 18, 3) := by decide +kernel
theorem dL_areKnobs_34 : decode cL_areKnobs 34 = .ok (.iload 4, 2) := by decide +kernel
theorem dL_areKnobs_36 : decode cL_areKnobs 36 = .ok (.bipush (-76), 2) := by decide +kernel
theorem dL_areKnobs_38 : decode cL_areKnobs 38 = .ok (.if_icmp .ne 7, 3) := by decide +kernel
theorem dL_areKnobs_41 : decode cL_areKnobs 41 = .ok (.iconst 1, 1) := by decide +kernel
theorem dL_areKnobs_42 : decode cL_areKnobs 42 = .ok (.goto 18, 3) := by decide +kernel
theorem dL_areKnobs_45 : decode cL_areKnobs 45 = .ok (.iconst 0, 1) := by decide +kernel
theorem dL_areKnobs_46 : decode cL_areKnobs 46 = .ok (.goto 14, 3) := by decide +kernel
theorem dL_areKnobs_49 : decode cL_areKnobs 49 = .ok (.iload 4, 2) := by decide +kernel
theorem dL_areKnobs_51 : decode cL_areKnobs 51 = .ok (.iload_n 3, 1) := by decide +kernel
theorem dL_areKnobs_52 : decode cL_areKnobs 52 = .ok (.if_icmp .lt 7, 3) := by decide +kernel
theorem dL_areKnobs_55 : decode cL_areKnobs 55 = .ok (.iconst 1, 1) := by decide +kernel
theorem dL_areKnobs_56 : decode cL_areKnobs 56 = .ok (.goto 4, 3) := by decide +kernel
theorem dL_areKnobs_59 : decode cL_areKnobs 59 = .ok (.iconst 0, 1) := by decide +kernel
theorem dL_areKnobs_60 : decode cL_areKnobs 60 = .ok (.iand, 1) := by decide +kernel
theorem dL_areKnobs_61 : decode cL_areKnobs 61 = .ok (.istore_n 1, 1) := by decide +kernel
theorem dL_areKnobs_62 : decode cL_areKnobs 62 = .ok (.iinc 2 1, 3) := by decide +kernel
theorem dL_areKnobs_65 : decode cL_areKnobs 65 = .ok (.goto (-61), 3) := by decide +kernel
theorem dL_areKnobs_68 : decode cL_areKnobs 68 = .ok (.iload_n 1, 1) := by decide +kernel
theorem dL_areKnobs_69 : decode cL_areKnobs 69 = .ok (.ifCond .eq 18, 3) := by decide +kernel
theorem dL_areKnobs_72 : decode cL_areKnobs 72 = .ok (.aload_n 0, 1) := by decide +kernel
theorem dL_areKnobs_73 : decode cL_areKnobs 73 = .ok (.bipush 9, 2) := by decide +kernel
theorem dL_areKnobs_75 : decode cL_areKnobs 75 = .ok (.invokestatic 237, 3) := by decide +kernel
theorem dL_areKnobs_78 : decode cL_areKnobs 78 = .ok (.bipush (-77), 2) := by decide +kernel
theorem dL_areKnobs_80 : decode cL_areKnobs 80 = .ok (.if_icmp .ne 7, 3) := by decide +kernel
theorem dL_areKnobs_83 : decode cL_areKnobs 83 = .ok (.iconst 1, 1) := by decide +kernel
theorem dL_areKnobs_84 : decode cL_areKnobs 84 = .ok (.goto 4, 3) := by decide +kernel
theorem dL_areKnobs_87 : decode cL_areKnobs 87 = .ok (.iconst 0, 1) := by decide +kernel
theorem dL_areKnobs_88 : decode cL_areKnobs 88 = .ok (.ireturn, 1) := by decide +kernel
theorem dL_areQuiet_0 : decode cL_areQuiet 0 = .ok (.iconst 1, 1) := by decide +kernel
theorem dL_areQuiet_1 : decode cL_areQuiet 1 = .ok (.istore_n 1, 1) := by decide +kernel
theorem dL_areQuiet_2 : decode cL_areQuiet 2 = .ok (.iconst 0, 1) := by decide +kernel
theorem dL_areQuiet_3 : decode cL_areQuiet 3 = .ok (.istore_n 2, 1) := by decide +kernel
theorem dL_areQuiet_4 : decode cL_areQuiet 4 = .ok (.iload_n 2, 1) := by decide +kernel
theorem dL_areQuiet_5 : decode cL_areQuiet 5 = .ok (.iconst 3, 1) := by decide +kernel
theorem dL_areQuiet_6 : decode cL_areQuiet 6 = .ok (.if_icmp .ge 64, 3) := by decide +kernel
theorem dL_areQuiet_9 : decode cL_areQuiet 9 = .ok (.bipush 36, 2) := by decide +kernel
theorem dL_areQuiet_11 : decode cL_areQuiet 11 = .ok (.istore_n 3, 1) := by decide +kernel
theorem dL_areQuiet_12 : decode cL_areQuiet 12 = .ok (.iload_n 3, 1) := by decide +kernel
theorem dL_areQuiet_13 : decode cL_areQuiet 13 = .ok (.bipush 78, 2) := by decide +kernel
theorem dL_areQuiet_15 : decode cL_areQuiet 15 = .ok (.if_icmp .ge 49, 3) := by decide +kernel
theorem dL_areQuiet_18 : decode cL_areQuiet 18 = .ok (.aload_n 0, 1) := by decide +kernel
theorem dL_areQuiet_19 : decode cL_areQuiet 19 = .ok (.iload_n 2, 1) := by decide +kernel
theorem dL_areQuiet_20 : decode cL_areQuiet 20 = .ok (.iload_n 3, 1) := by decide +kernel
theorem dL_areQuiet_21 : decode cL_areQuiet 21 = .ok (.invokestatic 319, 3) := by decide +kernel
theorem dL_areQuiet_24 : decode cL_areQuiet 24 = .ok (.istore 4, 2) := by decide +kernel
theorem dL_areQuiet_26 : decode cL_areQuiet 26 = .ok (.iload_n 1, 1) := by decide +kernel
theorem dL_areQuiet_27 : decode cL_areQuiet 27 = .ok (.iload 4, 2) := by decide +kernel
theorem dL_areQuiet_29 : decode cL_areQuiet 29 = .ok (.ifCond .lt 22, 3) := by decide +kernel
theorem dL_areQuiet_32 : decode cL_areQuiet 32 = .ok (.aload_n 0, 1) := by decide +kernel
theorem dL_areQuiet_33 : decode cL_areQuiet 33 = .ok (.iload_n 2, 1) := by decide +kernel
theorem dL_areQuiet_34 : decode cL_areQuiet 34 = .ok (.iload_n 3, 1) := by decide +kernel
theorem dL_areQuiet_35 : decode cL_areQuiet 35 = .ok (.invokestatic 349, 3) := by decide +kernel
theorem dL_areQuiet_38 : decode cL_areQuiet 38 = .ok (.iload 4, 2) := by decide +kernel
theorem dL_areQuiet_40 : decode cL_areQuiet 40 = .ok (.ifCond .le 7, 3) := by decide +kernel
theorem dL_areQuiet_43 : decode cL_areQuiet 43 = .ok (.iconst 1, 1) := by decide +kernel
theorem dL_areQuiet_44 : decode cL_areQuiet 44 = .ok (.goto 4, 3) := by decide +kernel
theorem dL_areQuiet_47 : decode cL_areQuiet 47 = .ok (.iconst 0, 1) := by decide +kernel
theorem dL_areQuiet_48 : decode cL_areQuiet 48 = .ok (.if_icmp .ne 7, 3) := by decide +kernel
theorem dL_areQuiet_51 : decode cL_areQuiet 51 = .ok (.iconst 1, 1) := by decide +kernel
theorem dL_areQuiet_52 : decode cL_areQuiet 52 = .ok (.goto 4, 3) := by decide +kernel
theorem dL_areQuiet_55 : decode cL_areQuiet 55 = .ok (.iconst 0, 1) := by decide +kernel
theorem dL_areQuiet_56 : decode cL_areQuiet 56 = .ok (.iand, 1) := by decide +kernel
theorem dL_areQuiet_57 : decode cL_areQuiet 57 = .ok (.istore_n 1, 1) := by decide +kernel
theorem dL_areQuiet_58 : decode cL_areQuiet 58 = .ok (.iinc 3 1, 3) := by decide +kernel
theorem dL_areQuiet_61 : decode cL_areQuiet 61 = .ok (.goto (-49), 3) := by decide +kernel
theorem dL_areQuiet_64 : decode cL_areQuiet 64 = .ok (.iinc 2 1, 3) := by decide +kernel
theorem dL_areQuiet_67 : decode cL_areQuiet 67 = .ok (.goto (-63), 3) := by decide +kernel
theorem dL_areQuiet_70 : decode cL_areQuiet 70 = .ok (.iload_n 1, 1) := by decide +kernel
theorem dL_areQuiet_71 : decode cL_areQuiet 71 = .ok (.ireturn, 1) := by decide +kernel
theorem dL_isThrown_0 : decode cL_isThrown 0 = .ok (.aload_n 0, 1) := by decide +kernel
theorem dL_isThrown_1 : decode cL_isThrown 1 = .ok (.invokevirtual 335, 3) := by decide +kernel
theorem dL_isThrown_4 : decode cL_isThrown 4 = .ok (.istore_n 1, 1) := by decide +kernel
theorem dL_isThrown_5 : decode cL_isThrown 5 = .ok (.aload_n 0, 1) := by decide +kernel
theorem dL_isThrown_6 : decode cL_isThrown 6 = .ok (.iconst 4, 1) := by decide +kernel
theorem dL_isThrown_7 : decode cL_isThrown 7 = .ok (.invokestatic 237, 3) := by decide +kernel
theorem dL_isThrown_10 : decode cL_isThrown 10 = .ok (.istore_n 2, 1) := by decide +kernel
theorem dL_isThrown_11 : decode cL_isThrown 11 = .ok (.aload_n 0, 1) := by decide +kernel
theorem dL_isThrown_12 : decode cL_isThrown 12 = .ok (.invokevirtual 338, 3) := by decide +kernel
theorem dL_isThrown_15 : decode cL_isThrown 15 = .ok (.lstore_n 3, 1) := by decide +kernel
theorem dL_isThrown_16 : decode cL_isThrown 16 = .ok (.aload_n 0, 1) := by decide +kernel
theorem dL_isThrown_17 : decode cL_isThrown 17 = .ok (.iconst 1, 1) := by decide +kernel
theorem dL_isThrown_18 : decode cL_isThrown 18 = .ok (.iconst 0, 1) := by decide +kernel
theorem dL_isThrown_19 : decode cL_isThrown 19 = .ok (.iconst 1, 1) := by decide +kernel
theorem dL_isThrown_20 : decode cL_isThrown 20 = .ok (.iconst 0, 1) := by decide +kernel
theorem dL_isThrown_21 : decode cL_isThrown 21 = .ok (.iconst 0, 1) := by decide +kernel
theorem dL_isThrown_22 : decode cL_isThrown 22 = .ok (.iconst 0, 1) := by decide +kernel
theorem dL_isThrown_23 : decode cL_isThrown 23 = .ok (.iconst 1, 1) := by decide +kernel
theorem dL_isThrown_24 : decode cL_isThrown 24 = .ok (.invokestatic 183, 3) := by decide +kernel
theorem dL_isThrown_27 : decode cL_isThrown 27 = .ok (.bipush (-78), 2) := by decide +kernel
theorem dL_isThrown_29 : decode cL_isThrown 29 = .ok (.if_icmp .ne 167, 3) := by decide +kernel
theorem dL_isThrown_32 : decode cL_isThrown 32 = .ok (.aload_n 0, 1) := by decide +kernel
theorem dL_isThrown_33 : decode cL_isThrown 33 = .ok (.iconst 0, 1) := by decide +kernel
theorem dL_isThrown_34 : decode cL_isThrown 34 = .ok (.iconst 0, 1) := by decide +kernel
theorem dL_isThrown_35 : decode cL_isThrown 35 = .ok (.iconst 0, 1) := by decide +kernel
theorem dL_isThrown_36 : decode cL_isThrown 36 = .ok (.iconst 0, 1) := by decide +kernel
theorem dL_isThrown_37 : decode cL_isThrown 37 = .ok (.iconst 0, 1) := by decide +kernel
theorem dL_isThrown_38 : decode cL_isThrown 38 = .ok (.invokestatic 202, 3) := by decide +kernel
theorem dL_isThrown_41 : decode cL_isThrown 41 = .ok (.bipush (-76), 2) := by decide +kernel
theorem dL_isThrown_43 : decode cL_isThrown 43 = .ok (.if_icmp .ne 153, 3) := by decide +kernel
theorem dL_isThrown_46 : decode cL_isThrown 46 = .ok (.aload_n 0, 1) := by decide +kernel
theorem dL_isThrown_47 : decode cL_isThrown 47 = .ok (.iconst 3, 1) := by decide +kernel
theorem dL_isThrown_48 : decode cL_isThrown 48 = .ok (.iconst 1, 1) := by decide +kernel
theorem dL_isThrown_49 : decode cL_isThrown 49 = .ok (.iconst 1, 1) := by decide +kernel
theorem dL_isThrown_50 : decode cL_isThrown 50 = .ok (.invokestatic 351, 3) := by decide +kernel
theorem dL_isThrown_53 : decode cL_isThrown 53 = .ok (.bipush (-78), 2) := by decide +kernel
theorem dL_isThrown_55 : decode cL_isThrown 55 = .ok (.if_icmp .ne 141, 3) := by decide +kernel
theorem dL_isThrown_58 : decode cL_isThrown 58 = .ok (.aload_n 0, 1) := by decide +kernel
theorem dL_isThrown_59 : decode cL_isThrown 59 = .ok (.iconst 0, 1) := by decide +kernel
theorem dL_isThrown_60 : decode cL_isThrown 60 = .ok (.iconst 0, 1) := by decide +kernel
theorem dL_isThrown_61 : decode cL_isThrown 61 = .ok (.iconst 0, 1) := by decide +kernel
theorem dL_isThrown_62 : decode cL_isThrown 62 = .ok (.bipush 97, 2) := by decide +kernel
theorem dL_isThrown_64 : decode cL_isThrown 64 = .ok (.invokestatic 197, 3) := by decide +kernel
theorem dL_isThrown_67 : decode cL_isThrown 67 = .ok (.bipush (-78), 2) := by decide +kernel
theorem dL_isThrown_69 : decode cL_isThrown 69 = .ok (.if_icmp .ne 127, 3) := by decide +kernel
theorem dL_isThrown_72 : decode cL_isThrown 72 = .ok (.aload_n 0, 1) := by decide +kernel
theorem dL_isThrown_73 : decode cL_isThrown 73 = .ok (.bipush 9, 2) := by decide +kernel
theorem dL_isThrown_75 : decode cL_isThrown 75 = .ok (.iconst 1, 1) := by decide +kernel
theorem dL_isThrown_76 : decode cL_isThrown 76 = .ok (.invokestatic 234, 3) := by decide +kernel
theorem dL_isThrown_79 : decode cL_isThrown 79 = .ok (.bipush (-77), 2) := by decide +kernel
theorem dL_isThrown_81 : decode cL_isThrown 81 = .ok (.if_icmp .ne 115, 3) := by decide +kernel
theorem dL_isThrown_84 : decode cL_isThrown 84 = .ok (.aload_n 0, 1) := by decide +kernel
theorem dL_isThrown_85 : decode cL_isThrown 85 = .ok (.iconst 0, 1) := by decide +kernel
theorem dL_isThrown_86 : decode cL_isThrown 86 = .ok (.bipush 40, 2) := by decide +kernel
theorem dL_isThrown_88 : decode cL_isThrown 88 = .ok (.iconst 1, 1) := by decide +kernel
theorem dL_isThrown_89 : decode cL_isThrown 89 = .ok (.invokestatic 228, 3) := by decide +kernel
theorem dL_isThrown_92 : decode cL_isThrown 92 = .ok (.bipush (-77), 2) := by decide +kernel
theorem dL_isThrown_94 : decode cL_isThrown 94 = .ok (.if_icmp .ne 102, 3) := by decide +kernel
theorem dL_isThrown_97 : decode cL_isThrown 97 = .ok (.aload_n 0, 1) := by decide +kernel
theorem dL_isThrown_98 : decode cL_isThrown 98 = .ok (.iconst 0, 1) := by decide +kernel
theorem dL_isThrown_99 : decode cL_isThrown 99 = .ok (.invokestatic 220, 3) := by decide +kernel
theorem dL_isThrown_102 : decode cL_isThrown 102 = .ok (.bipush (-78), 2) := by decide +kernel
theorem dL_isThrown_104 : decode cL_isThrown 104 = .ok (.if_icmp .ne 92, 3) := by decide +kernel
theorem dL_isThrown_107 : decode cL_isThrown 107 = .ok (.aload_n 0, 1) := by decide +kernel
theorem dL_isThrown_108 : decode cL_isThrown 108 = .ok (.iconst (-1), 1) := by decide +kernel
theorem dL_isThrown_109 : decode cL_isThrown 109 = .ok (.bipush 9, 2) := by decide +kernel
theorem dL_isThrown_111 : decode cL_isThrown 111 = .ok (.invokestatic 242, 3) := by decide +kernel
theorem dL_isThrown_114 : decode cL_isThrown 114 = .ok (.bipush (-77), 2) := by decide +kernel
theorem dL_isThrown_116 : decode cL_isThrown 116 = .ok (.if_icmp .ne 80, 3) := by decide +kernel
theorem dL_isThrown_119 : decode cL_isThrown 119 = .ok (.aload_n 0, 1) := by decide +kernel
theorem dL_isThrown_120 : decode cL_isThrown 120 = .ok (.bipush 20, 2) := by decide +kernel
theorem dL_isThrown_122 : decode cL_isThrown 122 = .ok (.invokestatic 252, 3) := by decide +kernel
theorem dL_isThrown_125 : decode cL_isThrown 125 = .ok (.bipush (-77), 2) := by decide +kernel
theorem dL_isThrown_127 : decode cL_isThrown 127 = .ok (.if_icmp .ne 69, 3) := by decide +kernel
theorem dL_isThrown_130 : decode cL_isThrown 130 = .ok (.aload_n 0, 1) := by decide +kernel
theorem dL_isThrown_131 : decode cL_isThrown 131 = .ok (.iconst 0, 1) := by decide +kernel
theorem dL_isThrown_132 : decode cL_isThrown 132 = .ok (.bipush 38, 2) := by decide +kernel
theorem dL_isThrown_134 : decode cL_isThrown 134 = .ok (.sipush 400, 3) := by decide +kernel
theorem dL_isThrown_137 : decode cL_isThrown 137 = .ok (.iconst 0, 1) := by decide +kernel
theorem dL_isThrown_138 : decode cL_isThrown 138 = .ok (.invokestatic 256, 3) := by decide +kernel
theorem dL_isThrown_141 : decode cL_isThrown 141 = .ok (.bipush (-78), 2) := by decide +kernel
theorem dL_isThrown_143 : decode cL_isThrown 143 = .ok (.if_icmp .ne 53, 3) := by decide +kernel
theorem dL_isThrown_146 : decode cL_isThrown 146 = .ok (.aload_n 0, 1) := by decide +kernel
theorem dL_isThrown_147 : decode cL_isThrown 147 = .ok (.iconst 0, 1) := by decide +kernel
theorem dL_isThrown_148 : decode cL_isThrown 148 = .ok (.bipush 16, 2) := by decide +kernel
theorem dL_isThrown_150 : decode cL_isThrown 150 = .ok (.invokestatic 261, 3) := by decide +kernel
theorem dL_isThrown_153 : decode cL_isThrown 153 = .ok (.bipush (-77), 2) := by decide +kernel
theorem dL_isThrown_155 : decode cL_isThrown 155 = .ok (.if_icmp .ne 41, 3) := by decide +kernel
theorem dL_isThrown_158 : decode cL_isThrown 158 = .ok (.aload_n 0, 1) := by decide +kernel
theorem dL_isThrown_159 : decode cL_isThrown 159 = .ok (.bipush 122, 2) := by decide +kernel
theorem dL_isThrown_161 : decode cL_isThrown 161 = .ok (.invokestatic 274, 3) := by decide +kernel
theorem dL_isThrown_164 : decode cL_isThrown 164 = .ok (.bipush (-78), 2) := by decide +kernel
theorem dL_isThrown_166 : decode cL_isThrown 166 = .ok (.if_icmp .ne 30, 3) := by decide +kernel
theorem dL_isThrown_169 : decode cL_isThrown 169 = .ok (.aload_n 0, 1) := by decide +kernel
theorem dL_isThrown_170 : decode cL_isThrown 170 = .ok (.iconst 0, 1) := by decide +kernel
theorem dL_isThrown_171 : decode cL_isThrown 171 = .ok (.bipush 122, 2) := by decide +kernel
theorem dL_isThrown_173 : decode cL_isThrown 173 = .ok (.invokestatic 269, 3) := by decide +kernel
theorem dL_isThrown_176 : decode cL_isThrown 176 = .ok (.bipush (-78), 2) := by decide +kernel
theorem dL_isThrown_178 : decode cL_isThrown 178 = .ok (.if_icmp .ne 18, 3) := by decide +kernel
theorem dL_isThrown_181 : decode cL_isThrown 181 = .ok (.aload_n 0, 1) := by decide +kernel
theorem dL_isThrown_182 : decode cL_isThrown 182 = .ok (.iconst 0, 1) := by decide +kernel
theorem dL_isThrown_183 : decode cL_isThrown 183 = .ok (.iconst 1, 1) := by decide +kernel
theorem dL_isThrown_184 : decode cL_isThrown 184 = .ok (.invokestatic 353, 3) := by decide +kernel
theorem dL_isThrown_187 : decode cL_isThrown 187 = .ok (.bipush (-78), 2) := by decide +kernel
theorem dL_isThrown_189 : decode cL_isThrown 189 = .ok (.if_icmp .ne 7, 3) := by decide +kernel
theorem dL_isThrown_192 : decode cL_isThrown 192 = .ok (.iconst 1, 1) := by decide +kernel
theorem dL_isThrown_193 : decode cL_isThrown 193 = .ok (.goto 4, 3) := by decide +kernel
theorem dL_isThrown_196 : decode cL_isThrown 196 = .ok (.iconst 0, 1) := by decide +kernel
theorem dL_isThrown_197 : decode cL_isThrown 197 = .ok (.istore 5, 2) := by decide +kernel
theorem dL_isThrown_199 : decode cL_isThrown 199 = .ok (.iload 5, 2) := by decide +kernel
theorem dL_isThrown_201 : decode cL_isThrown 201 = .ok (.ifCond .eq 33, 3) := by decide +kernel
theorem dL_isThrown_204 : decode cL_isThrown 204 = .ok (.aload_n 0, 1) := by decide +kernel
theorem dL_isThrown_205 : decode cL_isThrown 205 = .ok (.invokevirtual 335, 3) := by decide +kernel
theorem dL_isThrown_208 : decode cL_isThrown 208 = .ok (.iload_n 1, 1) := by decide +kernel
theorem dL_isThrown_209 : decode cL_isThrown 209 = .ok (.if_icmp .ne 25, 3) := by decide +kernel
theorem dL_isThrown_212 : decode cL_isThrown 212 = .ok (.aload_n 0, 1) := by decide +kernel
theorem dL_isThrown_213 : decode cL_isThrown 213 = .ok (.iconst 4, 1) := by decide +kernel
theorem dL_isThrown_214 : decode cL_isThrown 214 = .ok (.invokestatic 237, 3) := by decide +kernel
theorem dL_isThrown_217 : decode cL_isThrown 217 = .ok (.iload_n 2, 1) := by decide +kernel
theorem dL_isThrown_218 : decode cL_isThrown 218 = .ok (.if_icmp .ne 16, 3) := by decide +kernel
theorem dL_isThrown_221 : decode cL_isThrown 221 = .ok (.aload_n 0, 1) := by decide +kernel
theorem dL_isThrown_222 : decode cL_isThrown 222 = .ok (.invokevirtual 338, 3) := by decide +kernel
theorem dL_isThrown_225 : decode cL_isThrown 225 = .ok (.lload_n 3, 1) := by decide +kernel
theorem dL_isThrown_226 : decode cL_isThrown 226 = .ok (.lcmp, 1) := by decide +kernel
theorem dL_isThrown_227 : decode cL_isThrown 227 = .ok (.ifCond .ne 7, 3) := by decide +kernel
theorem dL_isThrown_230 : decode cL_isThrown 230 = .ok (.iconst 1, 1) := by decide +kernel
theorem dL_isThrown_231 : decode cL_isThrown 231 = .ok (.goto 4, 3) := by decide +kernel
theorem dL_isThrown_234 : decode cL_isThrown 234 = .ok (.iconst 0, 1) := by decide +kernel
theorem dL_isThrown_235 : decode cL_isThrown 235 = .ok (.ireturn, 1) := by decide +kernel
