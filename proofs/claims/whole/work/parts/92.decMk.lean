theorem dL_law_2587 : decode cL_law 2587 = .ok (.iconst 1, 1) := by decide +kernel
theorem dL_law_2588 : decode cL_law 2588 = .ok (.iadd, 1) := by decide +kernel
theorem dL_law_2589 : decode cL_law 2589 = .ok (.iaload, 1) := by decide +kernel
theorem dL_law_2590 : decode cL_law 2590 = .ok (.aload_n 3, 1) := by decide +kernel
theorem dL_law_2591 : decode cL_law 2591 = .ok (.invokestatic 311, 3) := by decide +kernel
theorem dL_law_2594 : decode cL_law 2594 = .ok (.istore 6, 2) := by decide +kernel
theorem dL_law_2596 : decode cL_law 2596 = .ok (.aload_n 2, 1) := by decide +kernel
theorem dL_law_2597 : decode cL_law 2597 = .ok (.aload_n 0, 1) := by decide +kernel
theorem dL_law_2598 : decode cL_law 2598 = .ok (.iload 5, 2) := by decide +kernel
theorem dL_law_2600 : decode cL_law 2600 = .ok (.iconst 1, 1) := by decide +kernel
theorem dL_law_2601 : decode cL_law 2601 = .ok (.iadd, 1) := by decide +kernel
theorem dL_law_2602 : decode cL_law 2602 = .ok (.iaload, 1) := by decide +kernel
theorem dL_law_2603 : decode cL_law 2603 = .ok (.invokevirtual 313, 3) := by decide +kernel
theorem dL_law_2606 : decode cL_law 2606 = .ok (.istore 7, 2) := by decide +kernel
theorem dL_law_2608 : decode cL_law 2608 = .ok (.aload_n 2, 1) := by decide +kernel
theorem dL_law_2609 : decode cL_law 2609 = .ok (.invokevirtual 145, 3) := by decide +kernel
theorem dL_law_2612 : decode cL_law 2612 = .ok (.iload 6, 2) := by decide +kernel
theorem dL_law_2614 : decode cL_law 2614 = .ok (.if_icmp .eq 5, 3) := by decide +kernel
theorem dL_law_2617 : decode cL_law 2617 = .ok (.iconst 0, 1) := by decide +kernel
theorem dL_law_2618 : decode cL_law 2618 = .ok (.ireturn, 1) := by decide +kernel
theorem dL_law_2619 : decode cL_law 2619 = .ok (.iload 6, 2) := by decide +kernel
theorem dL_law_2621 : decode cL_law 2621 = .ok (.ifCond .ne 15, 3) := by decide +kernel
theorem dL_law_2624 : decode cL_law 2624 = .ok (.aload_n 3, 1) := by decide +kernel
theorem dL_law_2625 : decode cL_law 2625 = .ok (.iconst 0, 1) := by decide +kernel
theorem dL_law_2626 : decode cL_law 2626 = .ok (.laload, 1) := by decide +kernel
theorem dL_law_2627 : decode cL_law 2627 = .ok (.iload 7, 2) := by decide +kernel
theorem dL_law_2629 : decode cL_law 2629 = .ok (.i2l, 1) := by decide +kernel
theorem dL_law_2630 : decode cL_law 2630 = .ok (.lcmp, 1) := by decide +kernel
theorem dL_law_2631 : decode cL_law 2631 = .ok (.ifCond .eq 5, 3) := by decide +kernel
theorem dL_law_2634 : decode cL_law 2634 = .ok (.iconst 0, 1) := by decide +kernel
theorem dL_law_2635 : decode cL_law 2635 = .ok (.ireturn, 1) := by decide +kernel
theorem dL_law_2636 : decode cL_law 2636 = .ok (.goto 284, 3) := by decide +kernel
theorem dL_law_2639 : decode cL_law 2639 = .ok (.aload_n 1, 1) := by decide +kernel
theorem dL_law_2640 : decode cL_law 2640 = .ok (.aload_n 0, 1) := by decide +kernel
theorem dL_law_2641 : decode cL_law 2641 = .ok (.iload 5, 2) := by decide +kernel
theorem dL_law_2643 : decode cL_law 2643 = .ok (.iconst 1, 1) := by decide +kernel
theorem dL_law_2644 : decode cL_law 2644 = .ok (.iadd, 1) := by decide +kernel
theorem dL_law_2645 : decode cL_law 2645 = .ok (.iaload, 1) := by decide +kernel
theorem dL_law_2646 : decode cL_law 2646 = .ok (.aload_n 3, 1) := by decide +kernel
theorem dL_law_2647 : decode cL_law 2647 = .ok (.invokestatic 314, 3) := by decide +kernel
theorem dL_law_2650 : decode cL_law 2650 = .ok (.istore 6, 2) := by decide +kernel
theorem dL_law_2652 : decode cL_law 2652 = .ok (.aload_n 2, 1) := by decide +kernel
theorem dL_law_2653 : decode cL_law 2653 = .ok (.aload_n 0, 1) := by decide +kernel
theorem dL_law_2654 : decode cL_law 2654 = .ok (.iload 5, 2) := by decide +kernel
theorem dL_law_2656 : decode cL_law 2656 = .ok (.iconst 1, 1) := by decide +kernel
theorem dL_law_2657 : decode cL_law 2657 = .ok (.iadd, 1) := by decide +kernel
theorem dL_law_2658 : decode cL_law 2658 = .ok (.iaload, 1) := by decide +kernel
theorem dL_law_2659 : decode cL_law 2659 = .ok (.invokevirtual 316, 3) := by decide +kernel
theorem dL_law_2662 : decode cL_law 2662 = .ok (.istore 7, 2) := by decide +kernel
theorem dL_law_2664 : decode cL_law 2664 = .ok (.aload_n 2, 1) := by decide +kernel
theorem dL_law_2665 : decode cL_law 2665 = .ok (.invokevirtual 145, 3) := by decide +kernel
theorem dL_law_2668 : decode cL_law 2668 = .ok (.iload 6, 2) := by decide +kernel
theorem dL_law_2670 : decode cL_law 2670 = .ok (.if_icmp .eq 5, 3) := by decide +kernel
theorem dL_law_2673 : decode cL_law 2673 = .ok (.iconst 0, 1) := by decide +kernel
theorem dL_law_2674 : decode cL_law 2674 = .ok (.ireturn, 1) := by decide +kernel
theorem dL_law_2675 : decode cL_law 2675 = .ok (.iload 6, 2) := by decide +kernel
theorem dL_law_2677 : decode cL_law 2677 = .ok (.ifCond .ne 15, 3) := by decide +kernel
theorem dL_law_2680 : decode cL_law 2680 = .ok (.aload_n 3, 1) := by decide +kernel
theorem dL_law_2681 : decode cL_law 2681 = .ok (.iconst 0, 1) := by decide +kernel
theorem dL_law_2682 : decode cL_law 2682 = .ok (.laload, 1) := by decide +kernel
theorem dL_law_2683 : decode cL_law 2683 = .ok (.iload 7, 2) := by decide +kernel
theorem dL_law_2685 : decode cL_law 2685 = .ok (.i2l, 1) := by decide +kernel
theorem dL_law_2686 : decode cL_law 2686 = .ok (.lcmp, 1) := by decide +kernel
theorem dL_law_2687 : decode cL_law 2687 = .ok (.ifCond .eq 5, 3) := by decide +kernel
theorem dL_law_2690 : decode cL_law 2690 = .ok (.iconst 0, 1) := by decide +kernel
theorem dL_law_2691 : decode cL_law 2691 = .ok (.ireturn, 1) := by decide +kernel
theorem dL_law_2692 : decode cL_law 2692 = .ok (.goto 228, 3) := by decide +kernel
theorem dL_law_2695 : decode cL_law 2695 = .ok (.aload_n 1, 1) := by decide +kernel
theorem dL_law_2696 : decode cL_law 2696 = .ok (.aload_n 3, 1) := by decide +kernel
theorem dL_law_2697 : decode cL_law 2697 = .ok (.invokestatic 317, 3) := by decide +kernel
theorem dL_law_2700 : decode cL_law 2700 = .ok (.istore 6, 2) := by decide +kernel
theorem dL_law_2702 : decode cL_law 2702 = .ok (.aload_n 2, 1) := by decide +kernel
theorem dL_law_2703 : decode cL_law 2703 = .ok (.invokevirtual 320, 3) := by decide +kernel
theorem dL_law_2706 : decode cL_law 2706 = .ok (.istore 7, 2) := by decide +kernel
theorem dL_law_2708 : decode cL_law 2708 = .ok (.aload_n 2, 1) := by decide +kernel
theorem dL_law_2709 : decode cL_law 2709 = .ok (.invokevirtual 145, 3) := by decide +kernel
theorem dL_law_2712 : decode cL_law 2712 = .ok (.iload 6, 2) := by decide +kernel
theorem dL_law_2714 : decode cL_law 2714 = .ok (.if_icmp .eq 5, 3) := by decide +kernel
theorem dL_law_2717 : decode cL_law 2717 = .ok (.iconst 0, 1) := by decide +kernel
theorem dL_law_2718 : decode cL_law 2718 = .ok (.ireturn, 1) := by decide +kernel
theorem dL_law_2719 : decode cL_law 2719 = .ok (.iload 6, 2) := by decide +kernel
theorem dL_law_2721 : decode cL_law 2721 = .ok (.ifCond .ne 15, 3) := by decide +kernel
theorem dL_law_2724 : decode cL_law 2724 = .ok (.aload_n 3, 1) := by decide +kernel
theorem dL_law_2725 : decode cL_law 2725 = .ok (.iconst 0, 1) := by decide +kernel
theorem dL_law_2726 : decode cL_law 2726 = .ok (.laload, 1) := by decide +kernel
theorem dL_law_2727 : decode cL_law 2727 = .ok (.iload 7, 2) := by decide +kernel
theorem dL_law_2729 : decode cL_law 2729 = .ok (.i2l, 1) := by decide +kernel
theorem dL_law_2730 : decode cL_law 2730 = .ok (.lcmp, 1) := by decide +kernel
theorem dL_law_2731 : decode cL_law 2731 = .ok (.ifCond .eq 5, 3) := by decide +kernel
theorem dL_law_2734 : decode cL_law 2734 = .ok (.iconst 0, 1) := by decide +kernel
theorem dL_law_2735 : decode cL_law 2735 = .ok (.ireturn, 1) := by decide +kernel
theorem dL_law_2736 : decode cL_law 2736 = .ok (.goto 184, 3) := by decide +kernel
theorem dL_law_2739 : decode cL_law 2739 = .ok (.aload_n 1, 1) := by decide +kernel
theorem dL_law_2740 : decode cL_law 2740 = .ok (.aload_n 0, 1) := by decide +kernel
theorem dL_law_2741 : decode cL_law 2741 = .ok (.iload 5, 2) := by decide +kernel
theorem dL_law_2743 : decode cL_law 2743 = .ok (.iconst 1, 1) := by decide +kernel
theorem dL_law_2744 : decode cL_law 2744 = .ok (.iadd, 1) := by decide +kernel
theorem dL_law_2745 : decode cL_law 2745 = .ok (.iaload, 1) := by decide +kernel
theorem dL_law_2746 : decode cL_law 2746 = .ok (.aload_n 3, 1) := by decide +kernel
theorem dL_law_2747 : decode cL_law 2747 = .ok (.invokestatic 321, 3) := by decide +kernel
theorem dL_law_2750 : decode cL_law 2750 = .ok (.istore 6, 2) := by decide +kernel
theorem dL_law_2752 : decode cL_law 2752 = .ok (.aload_n 2, 1) := by decide +kernel
theorem dL_law_2753 : decode cL_law 2753 = .ok (.aload_n 0, 1) := by decide +kernel
theorem dL_law_2754 : decode cL_law 2754 = .ok (.iload 5, 2) := by decide +kernel
theorem dL_law_2756 : decode cL_law 2756 = .ok (.iconst 1, 1) := by decide +kernel
theorem dL_law_2757 : decode cL_law 2757 = .ok (.iadd, 1) := by decide +kernel
theorem dL_law_2758 : decode cL_law 2758 = .ok (.iaload, 1) := by decide +kernel
theorem dL_law_2759 : decode cL_law 2759 = .ok (.invokevirtual 323, 3) := by decide +kernel
theorem dL_law_2762 : decode cL_law 2762 = .ok (.istore 7, 2) := by decide +kernel
theorem dL_law_2764 : decode cL_law 2764 = .ok (.aload_n 2, 1) := by decide +kernel
theorem dL_law_2765 : decode cL_law 2765 = .ok (.invokevirtual 145, 3) := by decide +kernel
theorem dL_law_2768 : decode cL_law 2768 = .ok (.iload 6, 2) := by decide +kernel
theorem dL_law_2770 : decode cL_law 2770 = .ok (.if_icmp .eq 5, 3) := by decide +kernel
theorem dL_law_2773 : decode cL_law 2773 = .ok (.iconst 0, 1) := by decide +kernel
theorem dL_law_2774 : decode cL_law 2774 = .ok (.ireturn, 1) := by decide +kernel
theorem dL_law_2775 : decode cL_law 2775 = .ok (.iload 6, 2) := by decide +kernel
theorem dL_law_2777 : decode cL_law 2777 = .ok (.ifCond .ne 15, 3) := by decide +kernel
theorem dL_law_2780 : decode cL_law 2780 = .ok (.aload_n 3, 1) := by decide +kernel
theorem dL_law_2781 : decode cL_law 2781 = .ok (.iconst 0, 1) := by decide +kernel
theorem dL_law_2782 : decode cL_law 2782 = .ok (.laload, 1) := by decide +kernel
theorem dL_law_2783 : decode cL_law 2783 = .ok (.iload 7, 2) := by decide +kernel
theorem dL_law_2785 : decode cL_law 2785 = .ok (.i2l, 1) := by decide +kernel
theorem dL_law_2786 : decode cL_law 2786 = .ok (.lcmp, 1) := by decide +kernel
theorem dL_law_2787 : decode cL_law 2787 = .ok (.ifCond .eq 5, 3) := by decide +kernel
theorem dL_law_2790 : decode cL_law 2790 = .ok (.iconst 0, 1) := by decide +kernel
theorem dL_law_2791 : decode cL_law 2791 = .ok (.ireturn, 1) := by decide +kernel
theorem dL_law_2792 : decode cL_law 2792 = .ok (.goto 128, 3) := by decide +kernel
theorem dL_law_2795 : decode cL_law 2795 = .ok (.aload_n 1, 1) := by decide +kernel
theorem dL_law_2796 : decode cL_law 2796 = .ok (.invokevirtual 324, 3) := by decide +kernel
theorem dL_law_2799 : decode cL_law 2799 = .ok (.aload_n 2, 1) := by decide +kernel
theorem dL_law_2800 : decode cL_law 2800 = .ok (.invokevirtual 327, 3) := by decide +kernel
theorem dL_law_2803 : decode cL_law 2803 = .ok (.if_icmp .eq 117, 3) := by decide +kernel
theorem dL_law_2806 : decode cL_law 2806 = .ok (.iconst 0, 1) := by decide +kernel
theorem dL_law_2807 : decode cL_law 2807 = .ok (.ireturn, 1) := by decide +kernel
theorem dL_law_2808 : decode cL_law 2808 = .ok (.aload_n 1, 1) := by decide +kernel
theorem dL_law_2809 : decode cL_law 2809 = .ok (.aload_n 0, 1) := by decide +kernel
theorem dL_law_2810 : decode cL_law 2810 = .ok (.iload 5, 2) := by decide +kernel
theorem dL_law_2812 : decode cL_law 2812 = .ok (.iconst 1, 1) := by decide +kernel
theorem dL_law_2813 : decode cL_law 2813 = .ok (.iadd, 1) := by decide +kernel
theorem dL_law_2814 : decode cL_law 2814 = .ok (.iaload, 1) := by decide +kernel
theorem dL_law_2815 : decode cL_law 2815 = .ok (.aload_n 3, 1) := by decide +kernel
theorem dL_law_2816 : decode cL_law 2816 = .ok (.invokestatic 328, 3) := by decide +kernel
theorem dL_law_2819 : decode cL_law 2819 = .ok (.istore 6, 2) := by decide +kernel
theorem dL_law_2821 : decode cL_law 2821 = .ok (.aload_n 2, 1) := by decide +kernel
theorem dL_law_2822 : decode cL_law 2822 = .ok (.aload_n 0, 1) := by decide +kernel
theorem dL_law_2823 : decode cL_law 2823 = .ok (.iload 5, 2) := by decide +kernel
theorem dL_law_2825 : decode cL_law 2825 = .ok (.iconst 1, 1) := by decide +kernel
theorem dL_law_2826 : decode cL_law 2826 = .ok (.iadd, 1) := by decide +kernel
theorem dL_law_2827 : decode cL_law 2827 = .ok (.iaload, 1) := by decide +kernel
theorem dL_law_2828 : decode cL_law 2828 = .ok (.invokevirtual 330, 3) := by decide +kernel
