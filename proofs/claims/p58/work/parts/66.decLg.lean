theorem dL_act_581 : decode cL_act 581 = .ok (.iload 17, 2) := by decide +kernel
theorem dL_act_583 : decode cL_act 583 = .ok (.if_icmp .ne 18, 3) := by decide +kernel
theorem dL_act_586 : decode cL_act 586 = .ok (.aload_n 0, 1) := by decide +kernel
theorem dL_act_587 : decode cL_act 587 = .ok (.iload 4, 2) := by decide +kernel
theorem dL_act_589 : decode cL_act 589 = .ok (.iload 7, 2) := by decide +kernel
theorem dL_act_591 : decode cL_act 591 = .ok (.invokevirtual 155, 3) := by decide +kernel
theorem dL_act_594 : decode cL_act 594 = .ok (.ifCond .lt 7, 3) := by decide +kernel
theorem dL_act_597 : decode cL_act 597 = .ok (.iconst 1, 1) := by decide +kernel
theorem dL_act_598 : decode cL_act 598 = .ok (.goto 4, 3) := by decide +kernel
theorem dL_act_601 : decode cL_act 601 = .ok (.iconst 0, 1) := by decide +kernel
theorem dL_act_602 : decode cL_act 602 = .ok (.ireturn, 1) := by decide +kernel
theorem dL_act_603 : decode cL_act 603 = .ok (.aload_n 0, 1) := by decide +kernel
theorem dL_act_604 : decode cL_act 604 = .ok (.aload_n 1, 1) := by decide +kernel
theorem dL_act_605 : decode cL_act 605 = .ok (.invokestatic 79, 3) := by decide +kernel
theorem dL_act_608 : decode cL_act 608 = .ok (.bipush 10, 2) := by decide +kernel
theorem dL_act_610 : decode cL_act 610 = .ok (.irem, 1) := by decide +kernel
theorem dL_act_611 : decode cL_act 611 = .ok (.invokestatic 216, 3) := by decide +kernel
theorem dL_act_614 : decode cL_act 614 = .ok (.istore 21, 2) := by decide +kernel
theorem dL_act_616 : decode cL_act 616 = .ok (.iload 21, 2) := by decide +kernel
theorem dL_act_618 : decode cL_act 618 = .ok (.ifCond .lt 20, 3) := by decide +kernel
theorem dL_act_621 : decode cL_act 621 = .ok (.iload 21, 2) := by decide +kernel
theorem dL_act_623 : decode cL_act 623 = .ok (.aload_n 0, 1) := by decide +kernel
theorem dL_act_624 : decode cL_act 624 = .ok (.invokevirtual 107, 3) := by decide +kernel
theorem dL_act_627 : decode cL_act 627 = .ok (.if_icmp .ge 7, 3) := by decide +kernel
theorem dL_act_630 : decode cL_act 630 = .ok (.iconst 1, 1) := by decide +kernel
theorem dL_act_631 : decode cL_act 631 = .ok (.goto 24, 3) := by decide +kernel
theorem dL_act_634 : decode cL_act 634 = .ok (.iconst 0, 1) := by decide +kernel
theorem dL_act_635 : decode cL_act 635 = .ok (.goto 20, 3) := by decide +kernel
theorem dL_act_638 : decode cL_act 638 = .ok (.aload_n 0, 1) := by decide +kernel
theorem dL_act_639 : decode cL_act 639 = .ok (.iload_n 3, 1) := by decide +kernel
theorem dL_act_640 : decode cL_act 640 = .ok (.iconst 5, 1) := by decide +kernel
theorem dL_act_641 : decode cL_act 641 = .ok (.invokestatic 201, 3) := by decide +kernel
theorem dL_act_644 : decode cL_act 644 = .ok (.sipush (-9999), 3) := by decide +kernel
theorem dL_act_647 : decode cL_act 647 = .ok (.if_icmp .le 7, 3) := by decide +kernel
theorem dL_act_650 : decode cL_act 650 = .ok (.iconst 1, 1) := by decide +kernel
theorem dL_act_651 : decode cL_act 651 = .ok (.goto 4, 3) := by decide +kernel
theorem dL_act_654 : decode cL_act 654 = .ok (.iconst 0, 1) := by decide +kernel
theorem dL_act_655 : decode cL_act 655 = .ok (.ireturn, 1) := by decide +kernel
theorem dL_act_656 : decode cL_act 656 = .ok (.iconst 1, 1) := by decide +kernel
theorem dL_act_657 : decode cL_act 657 = .ok (.aload_n 1, 1) := by decide +kernel
theorem dL_act_658 : decode cL_act 658 = .ok (.invokestatic 79, 3) := by decide +kernel
theorem dL_act_661 : decode cL_act 661 = .ok (.bipush 12, 2) := by decide +kernel
theorem dL_act_663 : decode cL_act 663 = .ok (.irem, 1) := by decide +kernel
theorem dL_act_664 : decode cL_act 664 = .ok (.iadd, 1) := by decide +kernel
theorem dL_act_665 : decode cL_act 665 = .ok (.istore 22, 2) := by decide +kernel
theorem dL_act_667 : decode cL_act 667 = .ok (.aload_n 0, 1) := by decide +kernel
theorem dL_act_668 : decode cL_act 668 = .ok (.iload_n 3, 1) := by decide +kernel
theorem dL_act_669 : decode cL_act 669 = .ok (.iload 22, 2) := by decide +kernel
theorem dL_act_671 : decode cL_act 671 = .ok (.invokevirtual 137, 3) := by decide +kernel
theorem dL_act_674 : decode cL_act 674 = .ok (.istore 23, 2) := by decide +kernel
theorem dL_act_676 : decode cL_act 676 = .ok (.aload_n 0, 1) := by decide +kernel
theorem dL_act_677 : decode cL_act 677 = .ok (.invokevirtual 104, 3) := by decide +kernel
theorem dL_act_680 : decode cL_act 680 = .ok (.istore 24, 2) := by decide +kernel
theorem dL_act_682 : decode cL_act 682 = .ok (.aload_n 0, 1) := by decide +kernel
theorem dL_act_683 : decode cL_act 683 = .ok (.iconst 4, 1) := by decide +kernel
theorem dL_act_684 : decode cL_act 684 = .ok (.invokevirtual 219, 3) := by decide +kernel
theorem dL_act_687 : decode cL_act 687 = .ok (.istore 25, 2) := by decide +kernel
theorem dL_act_689 : decode cL_act 689 = .ok (.aload_n 0, 1) := by decide +kernel
theorem dL_act_690 : decode cL_act 690 = .ok (.iload 4, 2) := by decide +kernel
theorem dL_act_692 : decode cL_act 692 = .ok (.invokevirtual 122, 3) := by decide +kernel
theorem dL_act_695 : decode cL_act 695 = .ok (.istore 26, 2) := by decide +kernel
theorem dL_act_697 : decode cL_act 697 = .ok (.aload_n 0, 1) := by decide +kernel
theorem dL_act_698 : decode cL_act 698 = .ok (.iload 4, 2) := by decide +kernel
theorem dL_act_700 : decode cL_act 700 = .ok (.invokevirtual 116, 3) := by decide +kernel
theorem dL_act_703 : decode cL_act 703 = .ok (.istore 27, 2) := by decide +kernel
theorem dL_act_705 : decode cL_act 705 = .ok (.aload_n 0, 1) := by decide +kernel
theorem dL_act_706 : decode cL_act 706 = .ok (.iload 22, 2) := by decide +kernel
theorem dL_act_708 : decode cL_act 708 = .ok (.invokestatic 222, 3) := by decide +kernel
theorem dL_act_711 : decode cL_act 711 = .ok (.istore 28, 2) := by decide +kernel
theorem dL_act_713 : decode cL_act 713 = .ok (.aload_n 0, 1) := by decide +kernel
theorem dL_act_714 : decode cL_act 714 = .ok (.invokevirtual 104, 3) := by decide +kernel
theorem dL_act_717 : decode cL_act 717 = .ok (.iload 24, 2) := by decide +kernel
theorem dL_act_719 : decode cL_act 719 = .ok (.iload 22, 2) := by decide +kernel
theorem dL_act_721 : decode cL_act 721 = .ok (.iadd, 1) := by decide +kernel
theorem dL_act_722 : decode cL_act 722 = .ok (.if_icmp .ne 87, 3) := by decide +kernel
theorem dL_act_725 : decode cL_act 725 = .ok (.aload_n 0, 1) := by decide +kernel
theorem dL_act_726 : decode cL_act 726 = .ok (.iload_n 3, 1) := by decide +kernel
theorem dL_act_727 : decode cL_act 727 = .ok (.invokevirtual 131, 3) := by decide +kernel
theorem dL_act_730 : decode cL_act 730 = .ok (.iload 23, 2) := by decide +kernel
theorem dL_act_732 : decode cL_act 732 = .ok (.if_icmp .ne 77, 3) := by decide +kernel
theorem dL_act_735 : decode cL_act 735 = .ok (.aload_n 0, 1) := by decide +kernel
theorem dL_act_736 : decode cL_act 736 = .ok (.iconst 4, 1) := by decide +kernel
theorem dL_act_737 : decode cL_act 737 = .ok (.invokevirtual 219, 3) := by decide +kernel
theorem dL_act_740 : decode cL_act 740 = .ok (.iload 25, 2) := by decide +kernel
theorem dL_act_742 : decode cL_act 742 = .ok (.iload 28, 2) := by decide +kernel
theorem dL_act_744 : decode cL_act 744 = .ok (.iadd, 1) := by decide +kernel
theorem dL_act_745 : decode cL_act 745 = .ok (.if_icmp .ne 64, 3) := by decide +kernel
theorem dL_act_748 : decode cL_act 748 = .ok (.aload_n 0, 1) := by decide +kernel
theorem dL_act_749 : decode cL_act 749 = .ok (.iload 4, 2) := by decide +kernel
theorem dL_act_751 : decode cL_act 751 = .ok (.invokevirtual 116, 3) := by decide +kernel
theorem dL_act_754 : decode cL_act 754 = .ok (.iload 27, 2) := by decide +kernel
theorem dL_act_756 : decode cL_act 756 = .ok (.iload 26, 2) := by decide +kernel
theorem dL_act_758 : decode cL_act 758 = .ok (.iadd, 1) := by decide +kernel
theorem dL_act_759 : decode cL_act 759 = .ok (.if_icmp .lt 50, 3) := by decide +kernel
theorem dL_act_762 : decode cL_act 762 = .ok (.iload 22, 2) := by decide +kernel
theorem dL_act_764 : decode cL_act 764 = .ok (.iconst 1, 1) := by decide +kernel
theorem dL_act_765 : decode cL_act 765 = .ok (.if_icmp .gt 17, 3) := by decide +kernel
theorem dL_act_768 : decode cL_act 768 = .ok (.aload_n 0, 1) := by decide +kernel
theorem dL_act_769 : decode cL_act 769 = .ok (.iload 4, 2) := by decide +kernel
theorem dL_act_771 : decode cL_act 771 = .ok (.invokevirtual 116, 3) := by decide +kernel
theorem dL_act_774 : decode cL_act 774 = .ok (.iload 27, 2) := by decide +kernel
theorem dL_act_776 : decode cL_act 776 = .ok (.iload 26, 2) := by decide +kernel
theorem dL_act_778 : decode cL_act 778 = .ok (.iadd, 1) := by decide +kernel
theorem dL_act_779 : decode cL_act 779 = .ok (.if_icmp .ne 30, 3) := by decide +kernel
theorem dL_act_782 : decode cL_act 782 = .ok (.aload_n 0, 1) := by decide +kernel
theorem dL_act_783 : decode cL_act 783 = .ok (.iload 4, 2) := by decide +kernel
theorem dL_act_785 : decode cL_act 785 = .ok (.invokevirtual 225, 3) := by decide +kernel
theorem dL_act_788 : decode cL_act 788 = .ok (.aload_n 0, 1) := by decide +kernel
theorem dL_act_789 : decode cL_act 789 = .ok (.iload 4, 2) := by decide +kernel
theorem dL_act_791 : decode cL_act 791 = .ok (.invokevirtual 116, 3) := by decide +kernel
theorem dL_act_794 : decode cL_act 794 = .ok (.i2d, 1) := by decide +kernel
theorem dL_act_795 : decode cL_act 795 = .ok (.aload_n 0, 1) := by decide +kernel
theorem dL_act_796 : decode cL_act 796 = .ok (.invokevirtual 104, 3) := by decide +kernel
theorem dL_act_799 : decode cL_act 799 = .ok (.i2d, 1) := by decide +kernel
theorem dL_act_800 : decode cL_act 800 = .ok (.ddiv, 1) := by decide +kernel
theorem dL_act_801 : decode cL_act 801 = .ok (.dcmp .l, 1) := by decide +kernel
theorem dL_act_802 : decode cL_act 802 = .ok (.ifCond .ne 7, 3) := by decide +kernel
theorem dL_act_805 : decode cL_act 805 = .ok (.iconst 1, 1) := by decide +kernel
theorem dL_act_806 : decode cL_act 806 = .ok (.goto 4, 3) := by decide +kernel
theorem dL_act_809 : decode cL_act 809 = .ok (.iconst 0, 1) := by decide +kernel
theorem dL_act_810 : decode cL_act 810 = .ok (.ireturn, 1) := by decide +kernel
theorem dL_law_0 : decode cL_law 0 = .ok (.new 19, 3) := by decide +kernel
theorem dL_law_3 : decode cL_law 3 = .ok (.dup, 1) := by decide +kernel
theorem dL_law_4 : decode cL_law 4 = .ok (.invokespecial 229, 3) := by decide +kernel
theorem dL_law_7 : decode cL_law 7 = .ok (.astore_n 1, 1) := by decide +kernel
theorem dL_law_8 : decode cL_law 8 = .ok (.iconst 1, 1) := by decide +kernel
theorem dL_law_9 : decode cL_law 9 = .ok (.newarray .int, 2) := by decide +kernel
theorem dL_law_11 : decode cL_law 11 = .ok (.dup, 1) := by decide +kernel
theorem dL_law_12 : decode cL_law 12 = .ok (.iconst 0, 1) := by decide +kernel
theorem dL_law_13 : decode cL_law 13 = .ok (.aload_n 0, 1) := by decide +kernel
theorem dL_law_14 : decode cL_law 14 = .ok (.arraylength, 1) := by decide +kernel
theorem dL_law_15 : decode cL_law 15 = .ok (.ifCond .ne 9, 3) := by decide +kernel
theorem dL_law_18 : decode cL_law 18 = .ok (.sipush 1816, 3) := by decide +kernel
theorem dL_law_21 : decode cL_law 21 = .ok (.goto 6, 3) := by decide +kernel
theorem dL_law_24 : decode cL_law 24 = .ok (.aload_n 0, 1) := by decide +kernel
theorem dL_law_25 : decode cL_law 25 = .ok (.iconst 0, 1) := by decide +kernel
theorem dL_law_26 : decode cL_law 26 = .ok (.iaload, 1) := by decide +kernel
theorem dL_law_27 : decode cL_law 27 = .ok (.iastore, 1) := by decide +kernel
theorem dL_law_28 : decode cL_law 28 = .ok (.astore_n 2, 1) := by decide +kernel
theorem dL_law_29 : decode cL_law 29 = .ok (.iconst 1, 1) := by decide +kernel
theorem dL_law_30 : decode cL_law 30 = .ok (.istore_n 3, 1) := by decide +kernel
theorem dL_law_31 : decode cL_law 31 = .ok (.iconst 0, 1) := by decide +kernel
theorem dL_law_32 : decode cL_law 32 = .ok (.istore 4, 2) := by decide +kernel
theorem dL_law_34 : decode cL_law 34 = .ok (.iload 4, 2) := by decide +kernel
theorem dL_law_36 : decode cL_law 36 = .ok (.iconst 2, 1) := by decide +kernel
theorem dL_law_37 : decode cL_law 37 = .ok (.if_icmp .ge 383, 3) := by decide +kernel
theorem dL_law_40 : decode cL_law 40 = .ok (.iload_n 3, 1) := by decide +kernel
theorem dL_law_41 : decode cL_law 41 = .ok (.ifCond .eq 379, 3) := by decide +kernel
theorem dL_law_44 : decode cL_law 44 = .ok (.aload_n 2, 1) := by decide +kernel
theorem dL_law_45 : decode cL_law 45 = .ok (.iconst 0, 1) := by decide +kernel
theorem dL_law_46 : decode cL_law 46 = .ok (.dup2, 1) := by decide +kernel
theorem dL_law_47 : decode cL_law 47 = .ok (.iaload, 1) := by decide +kernel
theorem dL_law_48 : decode cL_law 48 = .ok (.iload 4, 2) := by decide +kernel
theorem dL_law_50 : decode cL_law 50 = .ok (.aload_n 0, 1) := by decide +kernel
theorem dL_law_51 : decode cL_law 51 = .ok (.arraylength, 1) := by decide +kernel
theorem dL_law_52 : decode cL_law 52 = .ok (.if_icmp .ge 10, 3) := by decide +kernel
theorem dL_law_55 : decode cL_law 55 = .ok (.aload_n 0, 1) := by decide +kernel
theorem dL_law_56 : decode cL_law 56 = .ok (.iload 4, 2) := by decide +kernel
theorem dL_law_58 : decode cL_law 58 = .ok (.iaload, 1) := by decide +kernel
theorem dL_law_59 : decode cL_law 59 = .ok (.goto 4, 3) := by decide +kernel
theorem dL_law_62 : decode cL_law 62 = .ok (.iconst 0, 1) := by decide +kernel
theorem dL_law_63 : decode cL_law 63 = .ok (.ixor, 1) := by decide +kernel
theorem dL_law_64 : decode cL_law 64 = .ok (.iastore, 1) := by decide +kernel
theorem dL_law_65 : decode cL_law 65 = .ok (.iconst 1, 1) := by decide +kernel
theorem dL_law_66 : decode cL_law 66 = .ok (.aload_n 2, 1) := by decide +kernel
theorem dL_law_67 : decode cL_law 67 = .ok (.invokestatic 79, 3) := by decide +kernel
theorem dL_law_70 : decode cL_law 70 = .ok (.iconst 3, 1) := by decide +kernel
theorem dL_law_71 : decode cL_law 71 = .ok (.irem, 1) := by decide +kernel
theorem dL_law_72 : decode cL_law 72 = .ok (.iadd, 1) := by decide +kernel
theorem dL_law_73 : decode cL_law 73 = .ok (.istore 5, 2) := by decide +kernel
theorem dL_law_75 : decode cL_law 75 = .ok (.aload_n 1, 1) := by decide +kernel
theorem dL_law_76 : decode cL_law 76 = .ok (.iload 5, 2) := by decide +kernel
theorem dL_law_78 : decode cL_law 78 = .ok (.iconst 1, 1) := by decide +kernel
theorem dL_law_79 : decode cL_law 79 = .ok (.aload_n 2, 1) := by decide +kernel
theorem dL_law_80 : decode cL_law 80 = .ok (.invokestatic 79, 3) := by decide +kernel
theorem dL_law_83 : decode cL_law 83 = .ok (.iconst 5, 1) := by decide +kernel
theorem dL_law_84 : decode cL_law 84 = .ok (.irem, 1) := by decide +kernel
theorem dL_law_85 : decode cL_law 85 = .ok (.iadd, 1) := by decide +kernel
theorem dL_law_86 : decode cL_law 86 = .ok (.aload_n 2, 1) := by decide +kernel
theorem dL_law_87 : decode cL_law 87 = .ok (.invokestatic 230, 3) := by decide +kernel
theorem dL_law_90 : decode cL_law 90 = .ok (.invokestatic 234, 3) := by decide +kernel
theorem dL_law_93 : decode cL_law 93 = .ok (.ifCond .ne 20, 3) := by decide +kernel
theorem dL_law_96 : decode cL_law 96 = .ok (.aload_n 1, 1) := by decide +kernel
theorem dL_law_97 : decode cL_law 97 = .ok (.iload 4, 2) := by decide +kernel
theorem dL_law_99 : decode cL_law 99 = .ok (.invokevirtual 236, 3) := by decide +kernel
theorem dL_law_102 : decode cL_law 102 = .ok (.aload_n 1, 1) := by decide +kernel
theorem dL_law_103 : decode cL_law 103 = .ok (.invokevirtual 104, 3) := by decide +kernel
theorem dL_law_106 : decode cL_law 106 = .ok (.if_icmp .ne 7, 3) := by decide +kernel
theorem dL_law_109 : decode cL_law 109 = .ok (.iconst 1, 1) := by decide +kernel
theorem dL_law_110 : decode cL_law 110 = .ok (.goto 4, 3) := by decide +kernel
theorem dL_law_113 : decode cL_law 113 = .ok (.iconst 0, 1) := by decide +kernel
theorem dL_law_114 : decode cL_law 114 = .ok (.istore_n 3, 1) := by decide +kernel
theorem dL_law_115 : decode cL_law 115 = .ok (.aload_n 1, 1) := by decide +kernel
theorem dL_law_116 : decode cL_law 116 = .ok (.invokestatic 239, 3) := by decide +kernel
theorem dL_law_119 : decode cL_law 119 = .ok (.lstore 6, 2) := by decide +kernel
theorem dL_law_121 : decode cL_law 121 = .ok (.aload_n 1, 1) := by decide +kernel
theorem dL_law_122 : decode cL_law 122 = .ok (.invokevirtual 104, 3) := by decide +kernel
theorem dL_law_125 : decode cL_law 125 = .ok (.istore 8, 2) := by decide +kernel
theorem dL_law_127 : decode cL_law 127 = .ok (.iconst 0, 1) := by decide +kernel
theorem dL_law_128 : decode cL_law 128 = .ok (.istore 9, 2) := by decide +kernel
