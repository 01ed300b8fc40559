theorem dL_law_2831 : decode cL_law 2831 = .ok (.istore 7, 2) := by decide +kernel
theorem dL_law_2833 : decode cL_law 2833 = .ok (.aload_n 2, 1) := by decide +kernel
theorem dL_law_2834 : decode cL_law 2834 = .ok (.invokevirtual 145, 3) := by decide +kernel
theorem dL_law_2837 : decode cL_law 2837 = .ok (.iload 6, 2) := by decide +kernel
theorem dL_law_2839 : decode cL_law 2839 = .ok (.if_icmp .eq 5, 3) := by decide +kernel
theorem dL_law_2842 : decode cL_law 2842 = .ok (.iconst 0, 1) := by decide +kernel
theorem dL_law_2843 : decode cL_law 2843 = .ok (.ireturn, 1) := by decide +kernel
theorem dL_law_2844 : decode cL_law 2844 = .ok (.iload 6, 2) := by decide +kernel
theorem dL_law_2846 : decode cL_law 2846 = .ok (.ifCond .ne 15, 3) := by decide +kernel
theorem dL_law_2849 : decode cL_law 2849 = .ok (.aload_n 3, 1) := by decide +kernel
theorem dL_law_2850 : decode cL_law 2850 = .ok (.iconst 0, 1) := by decide +kernel
theorem dL_law_2851 : decode cL_law 2851 = .ok (.laload, 1) := by decide +kernel
theorem dL_law_2852 : decode cL_law 2852 = .ok (.iload 7, 2) := by decide +kernel
theorem dL_law_2854 : decode cL_law 2854 = .ok (.i2l, 1) := by decide +kernel
theorem dL_law_2855 : decode cL_law 2855 = .ok (.lcmp, 1) := by decide +kernel
theorem dL_law_2856 : decode cL_law 2856 = .ok (.ifCond .eq 5, 3) := by decide +kernel
theorem dL_law_2859 : decode cL_law 2859 = .ok (.iconst 0, 1) := by decide +kernel
theorem dL_law_2860 : decode cL_law 2860 = .ok (.ireturn, 1) := by decide +kernel
theorem dL_law_2861 : decode cL_law 2861 = .ok (.goto 59, 3) := by decide +kernel
theorem dL_law_2864 : decode cL_law 2864 = .ok (.aload_n 1, 1) := by decide +kernel
theorem dL_law_2865 : decode cL_law 2865 = .ok (.aload_n 0, 1) := by decide +kernel
theorem dL_law_2866 : decode cL_law 2866 = .ok (.iload 5, 2) := by decide +kernel
theorem dL_law_2868 : decode cL_law 2868 = .ok (.iconst 1, 1) := by decide +kernel
theorem dL_law_2869 : decode cL_law 2869 = .ok (.iadd, 1) := by decide +kernel
theorem dL_law_2870 : decode cL_law 2870 = .ok (.iaload, 1) := by decide +kernel
theorem dL_law_2871 : decode cL_law 2871 = .ok (.aload_n 3, 1) := by decide +kernel
theorem dL_law_2872 : decode cL_law 2872 = .ok (.invokestatic 331, 3) := by decide +kernel
theorem dL_law_2875 : decode cL_law 2875 = .ok (.istore 6, 2) := by decide +kernel
theorem dL_law_2877 : decode cL_law 2877 = .ok (.aload_n 2, 1) := by decide +kernel
theorem dL_law_2878 : decode cL_law 2878 = .ok (.aload_n 0, 1) := by decide +kernel
theorem dL_law_2879 : decode cL_law 2879 = .ok (.iload 5, 2) := by decide +kernel
theorem dL_law_2881 : decode cL_law 2881 = .ok (.iconst 1, 1) := by decide +kernel
theorem dL_law_2882 : decode cL_law 2882 = .ok (.iadd, 1) := by decide +kernel
theorem dL_law_2883 : decode cL_law 2883 = .ok (.iaload, 1) := by decide +kernel
theorem dL_law_2884 : decode cL_law 2884 = .ok (.invokevirtual 333, 3) := by decide +kernel
theorem dL_law_2887 : decode cL_law 2887 = .ok (.istore 7, 2) := by decide +kernel
theorem dL_law_2889 : decode cL_law 2889 = .ok (.aload_n 2, 1) := by decide +kernel
theorem dL_law_2890 : decode cL_law 2890 = .ok (.invokevirtual 145, 3) := by decide +kernel
theorem dL_law_2893 : decode cL_law 2893 = .ok (.iload 6, 2) := by decide +kernel
theorem dL_law_2895 : decode cL_law 2895 = .ok (.if_icmp .eq 5, 3) := by decide +kernel
theorem dL_law_2898 : decode cL_law 2898 = .ok (.iconst 0, 1) := by decide +kernel
theorem dL_law_2899 : decode cL_law 2899 = .ok (.ireturn, 1) := by decide +kernel
theorem dL_law_2900 : decode cL_law 2900 = .ok (.iload 6, 2) := by decide +kernel
theorem dL_law_2902 : decode cL_law 2902 = .ok (.ifCond .ne 15, 3) := by decide +kernel
theorem dL_law_2905 : decode cL_law 2905 = .ok (.aload_n 3, 1) := by decide +kernel
theorem dL_law_2906 : decode cL_law 2906 = .ok (.iconst 0, 1) := by decide +kernel
theorem dL_law_2907 : decode cL_law 2907 = .ok (.laload, 1) := by decide +kernel
theorem dL_law_2908 : decode cL_law 2908 = .ok (.iload 7, 2) := by decide +kernel
theorem dL_law_2910 : decode cL_law 2910 = .ok (.i2l, 1) := by decide +kernel
theorem dL_law_2911 : decode cL_law 2911 = .ok (.lcmp, 1) := by decide +kernel
theorem dL_law_2912 : decode cL_law 2912 = .ok (.ifCond .eq 5, 3) := by decide +kernel
theorem dL_law_2915 : decode cL_law 2915 = .ok (.iconst 0, 1) := by decide +kernel
theorem dL_law_2916 : decode cL_law 2916 = .ok (.ireturn, 1) := by decide +kernel
theorem dL_law_2917 : decode cL_law 2917 = .ok (.goto 3, 3) := by decide +kernel
theorem dL_law_2920 : decode cL_law 2920 = .ok (.iinc 5 6, 3) := by decide +kernel
theorem dL_law_2923 : decode cL_law 2923 = .ok (.goto (-2895), 3) := by decide +kernel
theorem dL_law_2926 : decode cL_law 2926 = .ok (.iconst 1, 1) := by decide +kernel
theorem dL_law_2927 : decode cL_law 2927 = .ok (.ireturn, 1) := by decide +kernel
