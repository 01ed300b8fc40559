theorem dX7_init_0 : decode cX7_init 0 = .ok (.aload_n 0, 1) := by decide +kernel
theorem dX7_init_1 : decode cX7_init 1 = .ok (.invokespecial 1, 3) := by decide +kernel
theorem dX7_init_4 : decode cX7_init 4 = .ok (.aload_n 0, 1) := by decide +kernel
theorem dX7_init_5 : decode cX7_init 5 = .ok (.new 7, 3) := by decide +kernel
theorem dX7_init_8 : decode cX7_init 8 = .ok (.dup, 1) := by decide +kernel
theorem dX7_init_9 : decode cX7_init 9 = .ok (.invokespecial 9, 3) := by decide +kernel
theorem dX7_init_12 : decode cX7_init 12 = .ok (.putfield 10, 3) := by decide +kernel
theorem dX7_init_15 : decode cX7_init 15 = .ok (.aload_n 0, 1) := by decide +kernel
theorem dX7_init_16 : decode cX7_init 16 = .ok (.new 16, 3) := by decide +kernel
theorem dX7_init_19 : decode cX7_init 19 = .ok (.dup, 1) := by decide +kernel
theorem dX7_init_20 : decode cX7_init 20 = .ok (.invokespecial 18, 3) := by decide +kernel
theorem dX7_init_23 : decode cX7_init 23 = .ok (.putfield 19, 3) := by decide +kernel
theorem dX7_init_26 : decode cX7_init 26 = .ok (.aload_n 0, 1) := by decide +kernel
theorem dX7_init_27 : decode cX7_init 27 = .ok (.iconst 2, 1) := by decide +kernel
theorem dX7_init_28 : decode cX7_init 28 = .ok (.anewarray 7, 3) := by decide +kernel
theorem dX7_init_31 : decode cX7_init 31 = .ok (.putfield 23, 3) := by decide +kernel
theorem dX7_init_34 : decode cX7_init 34 = .ok (.aload_n 0, 1) := by decide +kernel
theorem dX7_init_35 : decode cX7_init 35 = .ok (.iconst 2, 1) := by decide +kernel
theorem dX7_init_36 : decode cX7_init 36 = .ok (.newarray .boolean, 2) := by decide +kernel
theorem dX7_init_38 : decode cX7_init 38 = .ok (.putfield 27, 3) := by decide +kernel
theorem dX7_init_41 : decode cX7_init 41 = .ok (.aload_n 0, 1) := by decide +kernel
theorem dX7_init_42 : decode cX7_init 42 = .ok (.sipush 700, 3) := by decide +kernel
theorem dX7_init_45 : decode cX7_init 45 = .ok (.newarray .byte, 2) := by decide +kernel
theorem dX7_init_47 : decode cX7_init 47 = .ok (.putfield 31, 3) := by decide +kernel
theorem dX7_init_50 : decode cX7_init 50 = .ok (.aload_n 0, 1) := by decide +kernel
theorem dX7_init_51 : decode cX7_init 51 = .ok (.iconst 0, 1) := by decide +kernel
theorem dX7_init_52 : decode cX7_init 52 = .ok (.putfield 35, 3) := by decide +kernel
theorem dX7_init_55 : decode cX7_init 55 = .ok (.aload_n 0, 1) := by decide +kernel
theorem dX7_init_56 : decode cX7_init 56 = .ok (.bipush 64, 2) := by decide +kernel
theorem dX7_init_58 : decode cX7_init 58 = .ok (.newarray .byte, 2) := by decide +kernel
theorem dX7_init_60 : decode cX7_init 60 = .ok (.putfield 39, 3) := by decide +kernel
theorem dX7_init_63 : decode cX7_init 63 = .ok (.aload_n 0, 1) := by decide +kernel
theorem dX7_init_64 : decode cX7_init 64 = .ok (.iconst 0, 1) := by decide +kernel
theorem dX7_init_65 : decode cX7_init 65 = .ok (.putfield 42, 3) := by decide +kernel
theorem dX7_init_68 : decode cX7_init 68 = .ok (.aload_n 0, 1) := by decide +kernel
theorem dX7_init_69 : decode cX7_init 69 = .ok (.iconst 0, 1) := by decide +kernel
theorem dX7_init_70 : decode cX7_init 70 = .ok (.putfield 45, 3) := by decide +kernel
theorem dX7_init_73 : decode cX7_init 73 = .ok (.aload_n 0, 1) := by decide +kernel
theorem dX7_init_74 : decode cX7_init 74 = .ok (.iconst (-1), 1) := by decide +kernel
theorem dX7_init_75 : decode cX7_init 75 = .ok (.putfield 48, 3) := by decide +kernel
theorem dX7_init_78 : decode cX7_init 78 = .ok (.new 7, 3) := by decide +kernel
theorem dX7_init_81 : decode cX7_init 81 = .ok (.dup, 1) := by decide +kernel
theorem dX7_init_82 : decode cX7_init 82 = .ok (.invokespecial 9, 3) := by decide +kernel
theorem dX7_init_85 : decode cX7_init 85 = .ok (.astore_n 1, 1) := by decide +kernel
theorem dX7_init_86 : decode cX7_init 86 = .ok (.new 51, 3) := by decide +kernel
theorem dX7_init_89 : decode cX7_init 89 = .ok (.dup, 1) := by decide +kernel
theorem dX7_init_90 : decode cX7_init 90 = .ok (.ldc 53, 2) := by decide +kernel
theorem dX7_init_92 : decode cX7_init 92 = .ok (.invokestatic 55, 3) := by decide +kernel
theorem dX7_init_95 : decode cX7_init 95 = .ok (.ldc 53, 2) := by decide +kernel
theorem dX7_init_97 : decode cX7_init 97 = .ok (.invokevirtual 59, 3) := by decide +kernel
theorem dX7_init_100 : decode cX7_init 100 = .ok (.aload_n 1, 1) := by decide +kernel
theorem dX7_init_101 : decode cX7_init 101 = .ok (.invokespecial 65, 3) := by decide +kernel
theorem dX7_init_104 : decode cX7_init 104 = .ok (.astore_n 2, 1) := by decide +kernel
theorem dX7_init_105 : decode cX7_init 105 = .ok (.aload_n 2, 1) := by decide +kernel
theorem dX7_init_106 : decode cX7_init 106 = .ok (.invokevirtual 68, 3) := by decide +kernel
theorem dX7_init_109 : decode cX7_init 109 = .ok (.aload_n 0, 1) := by decide +kernel
theorem dX7_init_110 : decode cX7_init 110 = .ok (.aload_n 1, 1) := by decide +kernel
theorem dX7_init_111 : decode cX7_init 111 = .ok (.putfield 71, 3) := by decide +kernel
theorem dX7_init_114 : decode cX7_init 114 = .ok (.iconst 0, 1) := by decide +kernel
theorem dX7_init_115 : decode cX7_init 115 = .ok (.istore_n 3, 1) := by decide +kernel
theorem dX7_init_116 : decode cX7_init 116 = .ok (.iload_n 3, 1) := by decide +kernel
theorem dX7_init_117 : decode cX7_init 117 = .ok (.iconst 2, 1) := by decide +kernel
theorem dX7_init_118 : decode cX7_init 118 = .ok (.if_icmp .ge 22, 3) := by decide +kernel
theorem dX7_init_121 : decode cX7_init 121 = .ok (.aload_n 0, 1) := by decide +kernel
theorem dX7_init_122 : decode cX7_init 122 = .ok (.getfield 23, 3) := by decide +kernel
theorem dX7_init_125 : decode cX7_init 125 = .ok (.iload_n 3, 1) := by decide +kernel
theorem dX7_init_126 : decode cX7_init 126 = .ok (.new 7, 3) := by decide +kernel
theorem dX7_init_129 : decode cX7_init 129 = .ok (.dup, 1) := by decide +kernel
theorem dX7_init_130 : decode cX7_init 130 = .ok (.invokespecial 9, 3) := by decide +kernel
theorem dX7_init_133 : decode cX7_init 133 = .ok (.aastore, 1) := by decide +kernel
theorem dX7_init_134 : decode cX7_init 134 = .ok (.iinc 3 1, 3) := by decide +kernel
theorem dX7_init_137 : decode cX7_init 137 = .ok (.goto (-21), 3) := by decide +kernel
theorem dX7_init_140 : decode cX7_init 140 = .ok (.return_, 1) := by decide +kernel
theorem dX7_append_0 : decode cX7_append 0 = .ok (.aload_n 0, 1) := by decide +kernel
theorem dX7_append_1 : decode cX7_append 1 = .ok (.getfield 35, 3) := by decide +kernel
theorem dX7_append_4 : decode cX7_append 4 = .ok (.bipush 20, 2) := by decide +kernel
theorem dX7_append_6 : decode cX7_append 6 = .ok (.iadd, 1) := by decide +kernel
theorem dX7_append_7 : decode cX7_append 7 = .ok (.sipush 700, 3) := by decide +kernel
theorem dX7_append_10 : decode cX7_append 10 = .ok (.if_icmp .le 13, 3) := by decide +kernel
theorem dX7_append_13 : decode cX7_append 13 = .ok (.new 74, 3) := by decide +kernel
theorem dX7_append_16 : decode cX7_append 16 = .ok (.dup, 1) := by decide +kernel
theorem dX7_append_17 : decode cX7_append 17 = .ok (.ldc 76, 2) := by decide +kernel
theorem dX7_append_19 : decode cX7_append 19 = .ok (.invokespecial 78, 3) := by decide +kernel
theorem dX7_append_22 : decode cX7_append 22 = .ok (.athrow, 1) := by decide +kernel
theorem dX7_append_23 : decode cX7_append 23 = .ok (.aload_n 0, 1) := by decide +kernel
theorem dX7_append_24 : decode cX7_append 24 = .ok (.iload_n 1, 1) := by decide +kernel
theorem dX7_append_25 : decode cX7_append 25 = .ok (.invokevirtual 81, 3) := by decide +kernel
theorem dX7_append_28 : decode cX7_append 28 = .ok (.aload_n 0, 1) := by decide +kernel
theorem dX7_append_29 : decode cX7_append 29 = .ok (.iload_n 2, 1) := by decide +kernel
theorem dX7_append_30 : decode cX7_append 30 = .ok (.invokevirtual 81, 3) := by decide +kernel
theorem dX7_append_33 : decode cX7_append 33 = .ok (.aload_n 0, 1) := by decide +kernel
theorem dX7_append_34 : decode cX7_append 34 = .ok (.iload_n 3, 1) := by decide +kernel
theorem dX7_append_35 : decode cX7_append 35 = .ok (.invokevirtual 81, 3) := by decide +kernel
theorem dX7_append_38 : decode cX7_append 38 = .ok (.aload_n 0, 1) := by decide +kernel
theorem dX7_append_39 : decode cX7_append 39 = .ok (.iload 4, 2) := by decide +kernel
theorem dX7_append_41 : decode cX7_append 41 = .ok (.invokevirtual 81, 3) := by decide +kernel
theorem dX7_append_44 : decode cX7_append 44 = .ok (.aload_n 0, 1) := by decide +kernel
theorem dX7_append_45 : decode cX7_append 45 = .ok (.iload 5, 2) := by decide +kernel
theorem dX7_append_47 : decode cX7_append 47 = .ok (.invokevirtual 81, 3) := by decide +kernel
theorem dX7_append_50 : decode cX7_append 50 = .ok (.aload_n 0, 1) := by decide +kernel
theorem dX7_append_51 : decode cX7_append 51 = .ok (.getfield 35, 3) := by decide +kernel
theorem dX7_append_54 : decode cX7_append 54 = .ok (.ireturn, 1) := by decide +kernel
theorem dX7_load_0 : decode cX7_load 0 = .ok (.iload_n 1, 1) := by decide +kernel
theorem dX7_load_1 : decode cX7_load 1 = .ok (.ifCond .lt 11, 3) := by decide +kernel
theorem dX7_load_4 : decode cX7_load 4 = .ok (.iload_n 1, 1) := by decide +kernel
theorem dX7_load_5 : decode cX7_load 5 = .ok (.aload_n 0, 1) := by decide +kernel
theorem dX7_load_6 : decode cX7_load 6 = .ok (.getfield 35, 3) := by decide +kernel
theorem dX7_load_9 : decode cX7_load 9 = .ok (.if_icmp .le 13, 3) := by decide +kernel
theorem dX7_load_12 : decode cX7_load 12 = .ok (.new 85, 3) := by decide +kernel
theorem dX7_load_15 : decode cX7_load 15 = .ok (.dup, 1) := by decide +kernel
theorem dX7_load_16 : decode cX7_load 16 = .ok (.ldc 87, 2) := by decide +kernel
theorem dX7_load_18 : decode cX7_load 18 = .ok (.invokespecial 89, 3) := by decide +kernel
theorem dX7_load_21 : decode cX7_load 21 = .ok (.athrow, 1) := by decide +kernel
theorem dX7_load_22 : decode cX7_load 22 = .ok (.aload_n 0, 1) := by decide +kernel
theorem dX7_load_23 : decode cX7_load 23 = .ok (.getfield 10, 3) := by decide +kernel
theorem dX7_load_26 : decode cX7_load 26 = .ok (.invokevirtual 90, 3) := by decide +kernel
theorem dX7_load_29 : decode cX7_load 29 = .ok (.new 51, 3) := by decide +kernel
theorem dX7_load_32 : decode cX7_load 32 = .ok (.dup, 1) := by decide +kernel
theorem dX7_load_33 : decode cX7_load 33 = .ok (.aload_n 0, 1) := by decide +kernel
theorem dX7_load_34 : decode cX7_load 34 = .ok (.getfield 31, 3) := by decide +kernel
theorem dX7_load_37 : decode cX7_load 37 = .ok (.iload_n 1, 1) := by decide +kernel
theorem dX7_load_38 : decode cX7_load 38 = .ok (.aload_n 0, 1) := by decide +kernel
theorem dX7_load_39 : decode cX7_load 39 = .ok (.getfield 10, 3) := by decide +kernel
theorem dX7_load_42 : decode cX7_load 42 = .ok (.invokespecial 65, 3) := by decide +kernel
theorem dX7_load_45 : decode cX7_load 45 = .ok (.astore_n 2, 1) := by decide +kernel
theorem dX7_load_46 : decode cX7_load 46 = .ok (.aload_n 2, 1) := by decide +kernel
theorem dX7_load_47 : decode cX7_load 47 = .ok (.invokevirtual 68, 3) := by decide +kernel
theorem dX7_load_50 : decode cX7_load 50 = .ok (.aload_n 0, 1) := by decide +kernel
theorem dX7_load_51 : decode cX7_load 51 = .ok (.iconst 0, 1) := by decide +kernel
theorem dX7_load_52 : decode cX7_load 52 = .ok (.putfield 35, 3) := by decide +kernel
theorem dX7_load_55 : decode cX7_load 55 = .ok (.aload_n 0, 1) := by decide +kernel
theorem dX7_load_56 : decode cX7_load 56 = .ok (.aload_n 2, 1) := by decide +kernel
theorem dX7_load_57 : decode cX7_load 57 = .ok (.getfield 93, 3) := by decide +kernel
theorem dX7_load_60 : decode cX7_load 60 = .ok (.putfield 45, 3) := by decide +kernel
theorem dX7_load_63 : decode cX7_load 63 = .ok (.aload_n 0, 1) := by decide +kernel
theorem dX7_load_64 : decode cX7_load 64 = .ok (.aload_n 2, 1) := by decide +kernel
theorem dX7_load_65 : decode cX7_load 65 = .ok (.getfield 96, 3) := by decide +kernel
theorem dX7_load_68 : decode cX7_load 68 = .ok (.putfield 48, 3) := by decide +kernel
theorem dX7_load_71 : decode cX7_load 71 = .ok (.aload_n 0, 1) := by decide +kernel
theorem dX7_load_72 : decode cX7_load 72 = .ok (.getfield 45, 3) := by decide +kernel
theorem dX7_load_75 : decode cX7_load 75 = .ok (.ifCond .eq 13, 3) := by decide +kernel
theorem dX7_load_78 : decode cX7_load 78 = .ok (.new 99, 3) := by decide +kernel
theorem dX7_load_81 : decode cX7_load 81 = .ok (.dup, 1) := by decide +kernel
theorem dX7_load_82 : decode cX7_load 82 = .ok (.ldc 101, 2) := by decide +kernel
theorem dX7_load_84 : decode cX7_load 84 = .ok (.invokespecial 103, 3) := by decide +kernel
theorem dX7_load_87 : decode cX7_load 87 = .ok (.athrow, 1) := by decide +kernel
theorem dX7_load_88 : decode cX7_load 88 = .ok (.aload_n 0, 1) := by decide +kernel
theorem dX7_load_89 : decode cX7_load 89 = .ok (.getfield 71, 3) := by decide +kernel
theorem dX7_load_92 : decode cX7_load 92 = .ok (.aload_n 0, 1) := by decide +kernel
theorem dX7_load_93 : decode cX7_load 93 = .ok (.getfield 10, 3) := by decide +kernel
theorem dX7_load_96 : decode cX7_load 96 = .ok (.invokevirtual 104, 3) := by decide +kernel
theorem dX7_load_99 : decode cX7_load 99 = .ok (.aload_n 0, 1) := by decide +kernel
theorem dX7_load_100 : decode cX7_load 100 = .ok (.getfield 19, 3) := by decide +kernel
theorem dX7_load_103 : decode cX7_load 103 = .ok (.invokevirtual 108, 3) := by decide +kernel
theorem dX7_load_106 : decode cX7_load 106 = .ok (.iconst 0, 1) := by decide +kernel
theorem dX7_load_107 : decode cX7_load 107 = .ok (.istore_n 3, 1) := by decide +kernel
theorem dX7_load_108 : decode cX7_load 108 = .ok (.iload_n 3, 1) := by decide +kernel
theorem dX7_load_109 : decode cX7_load 109 = .ok (.iconst 2, 1) := by decide +kernel
theorem dX7_load_110 : decode cX7_load 110 = .ok (.if_icmp .ge 16, 3) := by decide +kernel
theorem dX7_load_113 : decode cX7_load 113 = .ok (.aload_n 0, 1) := by decide +kernel
theorem dX7_load_114 : decode cX7_load 114 = .ok (.getfield 27, 3) := by decide +kernel
theorem dX7_load_117 : decode cX7_load 117 = .ok (.iload_n 3, 1) := by decide +kernel
theorem dX7_load_118 : decode cX7_load 118 = .ok (.iconst 0, 1) := by decide +kernel
theorem dX7_load_119 : decode cX7_load 119 = .ok (.bastore, 1) := by decide +kernel
theorem dX7_load_120 : decode cX7_load 120 = .ok (.iinc 3 1, 3) := by decide +kernel
theorem dX7_load_123 : decode cX7_load 123 = .ok (.goto (-15), 3) := by decide +kernel
theorem dX7_load_126 : decode cX7_load 126 = .ok (.aload_n 0, 1) := by decide +kernel
theorem dX7_load_127 : decode cX7_load 127 = .ok (.getfield 71, 3) := by decide +kernel
theorem dX7_load_130 : decode cX7_load 130 = .ok (.getfield 111, 3) := by decide +kernel
theorem dX7_load_133 : decode cX7_load 133 = .ok (.ireturn, 1) := by decide +kernel
theorem dX7_clock_0 : decode cX7_clock 0 = .ok (.aload_n 0, 1) := by decide +kernel
theorem dX7_clock_1 : decode cX7_clock 1 = .ok (.getfield 71, 3) := by decide +kernel
theorem dX7_clock_4 : decode cX7_clock 4 = .ok (.getfield 114, 3) := by decide +kernel
theorem dX7_clock_7 : decode cX7_clock 7 = .ok (.ireturn, 1) := by decide +kernel
theorem dX7_isNight_0 : decode cX7_isNight 0 = .ok (.aload_n 0, 1) := by decide +kernel
theorem dX7_isNight_1 : decode cX7_isNight 1 = .ok (.getfield 71, 3) := by decide +kernel
theorem dX7_isNight_4 : decode cX7_isNight 4 = .ok (.getfield 114, 3) := by decide +kernel
theorem dX7_isNight_7 : decode cX7_isNight 7 = .ok (.invokestatic 117, 3) := by decide +kernel
theorem dX7_isNight_10 : decode cX7_isNight 10 = .ok (.ireturn, 1) := by decide +kernel
theorem dX7_streetCount_0 : decode cX7_streetCount 0 = .ok (.aload_n 0, 1) := by decide +kernel
theorem dX7_streetCount_1 : decode cX7_streetCount 1 = .ok (.getfield 71, 3) := by decide +kernel
theorem dX7_streetCount_4 : decode cX7_streetCount 4 = .ok (.getfield 127, 3) := by decide +kernel
theorem dX7_streetCount_7 : decode cX7_streetCount 7 = .ok (.ireturn, 1) := by decide +kernel
theorem dX7_borrowerCount_0 : decode cX7_borrowerCount 0 = .ok (.aload_n 0, 1) := by decide +kernel
theorem dX7_borrowerCount_1 : decode cX7_borrowerCount 1 = .ok (.getfield 71, 3) := by decide +kernel
theorem dX7_borrowerCount_4 : decode cX7_borrowerCount 4 = .ok (.getfield 130, 3) := by decide +kernel
theorem dX7_borrowerCount_7 : decode cX7_borrowerCount 7 = .ok (.ireturn, 1) := by decide +kernel
theorem dX7_loanCount_0 : decode cX7_loanCount 0 = .ok (.aload_n 0, 1) := by decide +kernel
theorem dX7_loanCount_1 : decode cX7_loanCount 1 = .ok (.getfield 71, 3) := by decide +kernel
theorem dX7_loanCount_4 : decode cX7_loanCount 4 = .ok (.getfield 111, 3) := by decide +kernel
theorem dX7_loanCount_7 : decode cX7_loanCount 7 = .ok (.ireturn, 1) := by decide +kernel
theorem dX7_permitCount_0 : decode cX7_permitCount 0 = .ok (.aload_n 0, 1) := by decide +kernel
theorem dX7_permitCount_1 : decode cX7_permitCount 1 = .ok (.getfield 71, 3) := by decide +kernel
theorem dX7_permitCount_4 : decode cX7_permitCount 4 = .ok (.getfield 133, 3) := by decide +kernel
theorem dX7_permitCount_7 : decode cX7_permitCount 7 = .ok (.ireturn, 1) := by decide +kernel
theorem dX7_loansWith_0 : decode cX7_loansWith 0 = .ok (.iload_n 1, 1) := by decide +kernel
theorem dX7_loansWith_1 : decode cX7_loansWith 1 = .ok (.ifCond .lt 8, 3) := by decide +kernel
theorem dX7_loansWith_4 : decode cX7_loansWith 4 = .ok (.iload_n 1, 1) := by decide +kernel
theorem dX7_loansWith_5 : decode cX7_loansWith 5 = .ok (.iconst 5, 1) := by decide +kernel
theorem dX7_loansWith_6 : decode cX7_loansWith 6 = .ok (.if_icmp .le 13, 3) := by decide +kernel
theorem dX7_loansWith_9 : decode cX7_loansWith 9 = .ok (.new 99, 3) := by decide +kernel
theorem dX7_loansWith_12 : decode cX7_loansWith 12 = .ok (.dup, 1) := by decide +kernel
theorem dX7_loansWith_13 : decode cX7_loansWith 13 = .ok (.ldc 136, 2) := by decide +kernel
theorem dX7_loansWith_15 : decode cX7_loansWith 15 = .ok (.invokespecial 103, 3) := by decide +kernel
theorem dX7_loansWith_18 : decode cX7_loansWith 18 = .ok (.athrow, 1) := by decide +kernel
theorem dX7_loansWith_19 : decode cX7_loansWith 19 = .ok (.aload_n 0, 1) := by decide +kernel
theorem dX7_loansWith_20 : decode cX7_loansWith 20 = .ok (.getfield 71, 3) := by decide +kernel
theorem dX7_loansWith_23 : decode cX7_loansWith 23 = .ok (.iload_n 1, 1) := by decide +kernel
theorem dX7_loansWith_24 : decode cX7_loansWith 24 = .ok (.invokevirtual 138, 3) := by decide +kernel
theorem dX7_loansWith_27 : decode cX7_loansWith 27 = .ok (.ireturn, 1) := by decide +kernel
theorem dX7_noiseNow_0 : decode cX7_noiseNow 0 = .ok (.aload_n 0, 1) := by decide +kernel
theorem dX7_noiseNow_1 : decode cX7_noiseNow 1 = .ok (.iload_n 1, 1) := by decide +kernel
theorem dX7_noiseNow_2 : decode cX7_noiseNow 2 = .ok (.invokevirtual 145, 3) := by decide +kernel
theorem dX7_noiseNow_5 : decode cX7_noiseNow 5 = .ok (.aload_n 0, 1) := by decide +kernel
theorem dX7_noiseNow_6 : decode cX7_noiseNow 6 = .ok (.getfield 71, 3) := by decide +kernel
theorem dX7_noiseNow_9 : decode cX7_noiseNow 9 = .ok (.iload_n 1, 1) := by decide +kernel
theorem dX7_noiseNow_10 : decode cX7_noiseNow 10 = .ok (.aload_n 0, 1) := by decide +kernel
theorem dX7_noiseNow_11 : decode cX7_noiseNow 11 = .ok (.getfield 71, 3) := by decide +kernel
theorem dX7_noiseNow_14 : decode cX7_noiseNow 14 = .ok (.getfield 114, 3) := by decide +kernel
theorem dX7_noiseNow_17 : decode cX7_noiseNow 17 = .ok (.invokevirtual 148, 3) := by decide +kernel
theorem dX7_noiseNow_20 : decode cX7_noiseNow 20 = .ok (.ireturn, 1) := by decide +kernel
theorem dX7_noiseAt_0 : decode cX7_noiseAt 0 = .ok (.aload_n 0, 1) := by decide +kernel
theorem dX7_noiseAt_1 : decode cX7_noiseAt 1 = .ok (.iload_n 1, 1) := by decide +kernel
theorem dX7_noiseAt_2 : decode cX7_noiseAt 2 = .ok (.invokevirtual 145, 3) := by decide +kernel
theorem dX7_noiseAt_5 : decode cX7_noiseAt 5 = .ok (.aload_n 0, 1) := by decide +kernel
theorem dX7_noiseAt_6 : decode cX7_noiseAt 6 = .ok (.iload_n 2, 1) := by decide +kernel
theorem dX7_noiseAt_7 : decode cX7_noiseAt 7 = .ok (.invokevirtual 152, 3) := by decide +kernel
theorem dX7_noiseAt_10 : decode cX7_noiseAt 10 = .ok (.aload_n 0, 1) := by decide +kernel
theorem dX7_noiseAt_11 : decode cX7_noiseAt 11 = .ok (.getfield 71, 3) := by decide +kernel
theorem dX7_noiseAt_14 : decode cX7_noiseAt 14 = .ok (.iload_n 1, 1) := by decide +kernel
theorem dX7_noiseAt_15 : decode cX7_noiseAt 15 = .ok (.iload_n 2, 1) := by decide +kernel
theorem dX7_noiseAt_16 : decode cX7_noiseAt 16 = .ok (.invokevirtual 148, 3) := by decide +kernel
theorem dX7_noiseAt_19 : decode cX7_noiseAt 19 = .ok (.ireturn, 1) := by decide +kernel
theorem dX7_noiseTotal_0 : decode cX7_noiseTotal 0 = .ok (.aload_n 0, 1) := by decide +kernel
theorem dX7_noiseTotal_1 : decode cX7_noiseTotal 1 = .ok (.iload_n 1, 1) := by decide +kernel
theorem dX7_noiseTotal_2 : decode cX7_noiseTotal 2 = .ok (.invokevirtual 145, 3) := by decide +kernel
theorem dX7_noiseTotal_5 : decode cX7_noiseTotal 5 = .ok (.aload_n 0, 1) := by decide +kernel
theorem dX7_noiseTotal_6 : decode cX7_noiseTotal 6 = .ok (.getfield 71, 3) := by decide +kernel
theorem dX7_noiseTotal_9 : decode cX7_noiseTotal 9 = .ok (.getfield 155, 3) := by decide +kernel
theorem dX7_noiseTotal_12 : decode cX7_noiseTotal 12 = .ok (.iload_n 1, 1) := by decide +kernel
theorem dX7_noiseTotal_13 : decode cX7_noiseTotal 13 = .ok (.aaload, 1) := by decide +kernel
theorem dX7_noiseTotal_14 : decode cX7_noiseTotal 14 = .ok (.getfield 159, 3) := by decide +kernel
theorem dX7_noiseTotal_17 : decode cX7_noiseTotal 17 = .ok (.ireturn, 1) := by decide +kernel
theorem dX7_quietHours_0 : decode cX7_quietHours 0 = .ok (.aload_n 0, 1) := by decide +kernel
theorem dX7_quietHours_1 : decode cX7_quietHours 1 = .ok (.iload_n 1, 1) := by decide +kernel
theorem dX7_quietHours_2 : decode cX7_quietHours 2 = .ok (.invokevirtual 145, 3) := by decide +kernel
theorem dX7_quietHours_5 : decode cX7_quietHours 5 = .ok (.aload_n 0, 1) := by decide +kernel
theorem dX7_quietHours_6 : decode cX7_quietHours 6 = .ok (.getfield 71, 3) := by decide +kernel
theorem dX7_quietHours_9 : decode cX7_quietHours 9 = .ok (.getfield 155, 3) := by decide +kernel
theorem dX7_quietHours_12 : decode cX7_quietHours 12 = .ok (.iload_n 1, 1) := by decide +kernel
theorem dX7_quietHours_13 : decode cX7_quietHours 13 = .ok (.aaload, 1) := by decide +kernel
theorem dX7_quietHours_14 : decode cX7_quietHours 14 = .ok (.getfield 164, 3) := by decide +kernel
theorem dX7_quietHours_17 : decode cX7_quietHours 17 = .ok (.ireturn, 1) := by decide +kernel
theorem dX7_streetOf_0 : decode cX7_streetOf 0 = .ok (.aload_n 0, 1) := by decide +kernel
theorem dX7_streetOf_1 : decode cX7_streetOf 1 = .ok (.iload_n 1, 1) := by decide +kernel
theorem dX7_streetOf_2 : decode cX7_streetOf 2 = .ok (.invokevirtual 167, 3) := by decide +kernel
theorem dX7_streetOf_5 : decode cX7_streetOf 5 = .ok (.aload_n 0, 1) := by decide +kernel
theorem dX7_streetOf_6 : decode cX7_streetOf 6 = .ok (.getfield 71, 3) := by decide +kernel
theorem dX7_streetOf_9 : decode cX7_streetOf 9 = .ok (.getfield 170, 3) := by decide +kernel
theorem dX7_streetOf_12 : decode cX7_streetOf 12 = .ok (.iload_n 1, 1) := by decide +kernel
theorem dX7_streetOf_13 : decode cX7_streetOf 13 = .ok (.aaload, 1) := by decide +kernel
theorem dX7_streetOf_14 : decode cX7_streetOf 14 = .ok (.getfield 174, 3) := by decide +kernel
theorem dX7_streetOf_17 : decode cX7_streetOf 17 = .ok (.ireturn, 1) := by decide +kernel
theorem dX7_illnessOf_0 : decode cX7_illnessOf 0 = .ok (.aload_n 0, 1) := by decide +kernel
theorem dX7_illnessOf_1 : decode cX7_illnessOf 1 = .ok (.iload_n 1, 1) := by decide +kernel
theorem dX7_illnessOf_2 : decode cX7_illnessOf 2 = .ok (.invokevirtual 167, 3) := by decide +kernel
theorem dX7_illnessOf_5 : decode cX7_illnessOf 5 = .ok (.aload_n 0, 1) := by decide +kernel
theorem dX7_illnessOf_6 : decode cX7_illnessOf 6 = .ok (.getfield 71, 3) := by decide +kernel
theorem dX7_illnessOf_9 : decode cX7_illnessOf 9 = .ok (.getfield 170, 3) := by decide +kernel
theorem dX7_illnessOf_12 : decode cX7_illnessOf 12 = .ok (.iload_n 1, 1) := by decide +kernel
theorem dX7_illnessOf_13 : decode cX7_illnessOf 13 = .ok (.aaload, 1) := by decide +kernel
theorem dX7_illnessOf_14 : decode cX7_illnessOf 14 = .ok (.getfield 179, 3) := by decide +kernel
theorem dX7_illnessOf_17 : decode cX7_illnessOf 17 = .ok (.ireturn, 1) := by decide +kernel
theorem dX7_creditOf_0 : decode cX7_creditOf 0 = .ok (.aload_n 0, 1) := by decide +kernel
theorem dX7_creditOf_1 : decode cX7_creditOf 1 = .ok (.iload_n 1, 1) := by decide +kernel
theorem dX7_creditOf_2 : decode cX7_creditOf 2 = .ok (.invokevirtual 167, 3) := by decide +kernel
theorem dX7_creditOf_5 : decode cX7_creditOf 5 = .ok (.aload_n 0, 1) := by decide +kernel
theorem dX7_creditOf_6 : decode cX7_creditOf 6 = .ok (.getfield 71, 3) := by decide +kernel
theorem dX7_creditOf_9 : decode cX7_creditOf 9 = .ok (.getfield 170, 3) := by decide +kernel
theorem dX7_creditOf_12 : decode cX7_creditOf 12 = .ok (.iload_n 1, 1) := by decide +kernel
theorem dX7_creditOf_13 : decode cX7_creditOf 13 = .ok (.aaload, 1) := by decide +kernel
theorem dX7_creditOf_14 : decode cX7_creditOf 14 = .ok (.getfield 182, 3) := by decide +kernel
theorem dX7_creditOf_17 : decode cX7_creditOf 17 = .ok (.ireturn, 1) := by decide +kernel
theorem dX7_borrowerOf_0 : decode cX7_borrowerOf 0 = .ok (.aload_n 0, 1) := by decide +kernel
theorem dX7_borrowerOf_1 : decode cX7_borrowerOf 1 = .ok (.iload_n 1, 1) := by decide +kernel
theorem dX7_borrowerOf_2 : decode cX7_borrowerOf 2 = .ok (.invokevirtual 197, 3) := by decide +kernel
theorem dX7_borrowerOf_5 : decode cX7_borrowerOf 5 = .ok (.aload_n 0, 1) := by decide +kernel
theorem dX7_borrowerOf_6 : decode cX7_borrowerOf 6 = .ok (.getfield 71, 3) := by decide +kernel
theorem dX7_borrowerOf_9 : decode cX7_borrowerOf 9 = .ok (.getfield 185, 3) := by decide +kernel
theorem dX7_borrowerOf_12 : decode cX7_borrowerOf 12 = .ok (.iload_n 1, 1) := by decide +kernel
theorem dX7_borrowerOf_13 : decode cX7_borrowerOf 13 = .ok (.aaload, 1) := by decide +kernel
theorem dX7_borrowerOf_14 : decode cX7_borrowerOf 14 = .ok (.getfield 189, 3) := by decide +kernel
theorem dX7_borrowerOf_17 : decode cX7_borrowerOf 17 = .ok (.ireturn, 1) := by decide +kernel
theorem dX7_startOf_0 : decode cX7_startOf 0 = .ok (.aload_n 0, 1) := by decide +kernel
theorem dX7_startOf_1 : decode cX7_startOf 1 = .ok (.iload_n 1, 1) := by decide +kernel
theorem dX7_startOf_2 : decode cX7_startOf 2 = .ok (.invokevirtual 197, 3) := by decide +kernel
theorem dX7_startOf_5 : decode cX7_startOf 5 = .ok (.aload_n 0, 1) := by decide +kernel
theorem dX7_startOf_6 : decode cX7_startOf 6 = .ok (.getfield 71, 3) := by decide +kernel
theorem dX7_startOf_9 : decode cX7_startOf 9 = .ok (.getfield 185, 3) := by decide +kernel
theorem dX7_startOf_12 : decode cX7_startOf 12 = .ok (.iload_n 1, 1) := by decide +kernel
theorem dX7_startOf_13 : decode cX7_startOf 13 = .ok (.aaload, 1) := by decide +kernel
theorem dX7_startOf_14 : decode cX7_startOf 14 = .ok (.getfield 200, 3) := by decide +kernel
theorem dX7_startOf_17 : decode cX7_startOf 17 = .ok (.ireturn, 1) := by decide +kernel
theorem dX7_lengthOf_0 : decode cX7_lengthOf 0 = .ok (.aload_n 0, 1) := by decide +kernel
theorem dX7_lengthOf_1 : decode cX7_lengthOf 1 = .ok (.iload_n 1, 1) := by decide +kernel
theorem dX7_lengthOf_2 : decode cX7_lengthOf 2 = .ok (.invokevirtual 197, 3) := by decide +kernel
theorem dX7_lengthOf_5 : decode cX7_lengthOf 5 = .ok (.aload_n 0, 1) := by decide +kernel
theorem dX7_lengthOf_6 : decode cX7_lengthOf 6 = .ok (.getfield 71, 3) := by decide +kernel
theorem dX7_lengthOf_9 : decode cX7_lengthOf 9 = .ok (.getfield 185, 3) := by decide +kernel
theorem dX7_lengthOf_12 : decode cX7_lengthOf 12 = .ok (.iload_n 1, 1) := by decide +kernel
theorem dX7_lengthOf_13 : decode cX7_lengthOf 13 = .ok (.aaload, 1) := by decide +kernel
theorem dX7_lengthOf_14 : decode cX7_lengthOf 14 = .ok (.getfield 203, 3) := by decide +kernel
theorem dX7_lengthOf_17 : decode cX7_lengthOf 17 = .ok (.ireturn, 1) := by decide +kernel
theorem dX7_priceOf_0 : decode cX7_priceOf 0 = .ok (.aload_n 0, 1) := by decide +kernel
theorem dX7_priceOf_1 : decode cX7_priceOf 1 = .ok (.iload_n 1, 1) := by decide +kernel
theorem dX7_priceOf_2 : decode cX7_priceOf 2 = .ok (.invokevirtual 197, 3) := by decide +kernel
theorem dX7_priceOf_5 : decode cX7_priceOf 5 = .ok (.aload_n 0, 1) := by decide +kernel
theorem dX7_priceOf_6 : decode cX7_priceOf 6 = .ok (.getfield 71, 3) := by decide +kernel
theorem dX7_priceOf_9 : decode cX7_priceOf 9 = .ok (.getfield 185, 3) := by decide +kernel
theorem dX7_priceOf_12 : decode cX7_priceOf 12 = .ok (.iload_n 1, 1) := by decide +kernel
theorem dX7_priceOf_13 : decode cX7_priceOf 13 = .ok (.aaload, 1) := by decide +kernel
theorem dX7_priceOf_14 : decode cX7_priceOf 14 = .ok (.getfield 205, 3) := by decide +kernel
theorem dX7_priceOf_17 : decode cX7_priceOf 17 = .ok (.ireturn, 1) := by decide +kernel
theorem dX7_statusOf_0 : decode cX7_statusOf 0 = .ok (.aload_n 0, 1) := by decide +kernel
theorem dX7_statusOf_1 : decode cX7_statusOf 1 = .ok (.iload_n 1, 1) := by decide +kernel
theorem dX7_statusOf_2 : decode cX7_statusOf 2 = .ok (.invokevirtual 197, 3) := by decide +kernel
theorem dX7_statusOf_5 : decode cX7_statusOf 5 = .ok (.aload_n 0, 1) := by decide +kernel
theorem dX7_statusOf_6 : decode cX7_statusOf 6 = .ok (.getfield 71, 3) := by decide +kernel
theorem dX7_statusOf_9 : decode cX7_statusOf 9 = .ok (.getfield 185, 3) := by decide +kernel
theorem dX7_statusOf_12 : decode cX7_statusOf 12 = .ok (.iload_n 1, 1) := by decide +kernel
theorem dX7_statusOf_13 : decode cX7_statusOf 13 = .ok (.aaload, 1) := by decide +kernel
theorem dX7_statusOf_14 : decode cX7_statusOf 14 = .ok (.getfield 194, 3) := by decide +kernel
theorem dX7_statusOf_17 : decode cX7_statusOf 17 = .ok (.ireturn, 1) := by decide +kernel
theorem dX7_holderOf_0 : decode cX7_holderOf 0 = .ok (.aload_n 0, 1) := by decide +kernel
theorem dX7_holderOf_1 : decode cX7_holderOf 1 = .ok (.iload_n 1, 1) := by decide +kernel
theorem dX7_holderOf_2 : decode cX7_holderOf 2 = .ok (.invokevirtual 152, 3) := by decide +kernel
theorem dX7_holderOf_5 : decode cX7_holderOf 5 = .ok (.aload_n 0, 1) := by decide +kernel
theorem dX7_holderOf_6 : decode cX7_holderOf 6 = .ok (.getfield 71, 3) := by decide +kernel
theorem dX7_holderOf_9 : decode cX7_holderOf 9 = .ok (.iload_n 1, 1) := by decide +kernel
theorem dX7_holderOf_10 : decode cX7_holderOf 10 = .ok (.invokevirtual 208, 3) := by decide +kernel
theorem dX7_holderOf_13 : decode cX7_holderOf 13 = .ok (.ireturn, 1) := by decide +kernel
theorem dX7_permitFor_0 : decode cX7_permitFor 0 = .ok (.aload_n 0, 1) := by decide +kernel
theorem dX7_permitFor_1 : decode cX7_permitFor 1 = .ok (.iload_n 1, 1) := by decide +kernel
theorem dX7_permitFor_2 : decode cX7_permitFor 2 = .ok (.invokevirtual 145, 3) := by decide +kernel
theorem dX7_permitFor_5 : decode cX7_permitFor 5 = .ok (.aload_n 0, 1) := by decide +kernel
theorem dX7_permitFor_6 : decode cX7_permitFor 6 = .ok (.iload_n 2, 1) := by decide +kernel
theorem dX7_permitFor_7 : decode cX7_permitFor 7 = .ok (.invokevirtual 152, 3) := by decide +kernel
theorem dX7_permitFor_10 : decode cX7_permitFor 10 = .ok (.aload_n 0, 1) := by decide +kernel
theorem dX7_permitFor_11 : decode cX7_permitFor 11 = .ok (.getfield 71, 3) := by decide +kernel
theorem dX7_permitFor_14 : decode cX7_permitFor 14 = .ok (.iload_n 1, 1) := by decide +kernel
theorem dX7_permitFor_15 : decode cX7_permitFor 15 = .ok (.iload_n 2, 1) := by decide +kernel
theorem dX7_permitFor_16 : decode cX7_permitFor 16 = .ok (.invokevirtual 211, 3) := by decide +kernel
theorem dX7_permitFor_19 : decode cX7_permitFor 19 = .ok (.ireturn, 1) := by decide +kernel
theorem dX7_freeHours_0 : decode cX7_freeHours 0 = .ok (.bipush 48, 2) := by decide +kernel
theorem dX7_freeHours_2 : decode cX7_freeHours 2 = .ok (.aload_n 0, 1) := by decide +kernel
theorem dX7_freeHours_3 : decode cX7_freeHours 3 = .ok (.getfield 71, 3) := by decide +kernel
theorem dX7_freeHours_6 : decode cX7_freeHours 6 = .ok (.invokevirtual 214, 3) := by decide +kernel
theorem dX7_freeHours_9 : decode cX7_freeHours 9 = .ok (.isub, 1) := by decide +kernel
theorem dX7_freeHours_10 : decode cX7_freeHours 10 = .ok (.ireturn, 1) := by decide +kernel
theorem dX7_quote_0 : decode cX7_quote 0 = .ok (.aload_n 0, 1) := by decide +kernel
theorem dX7_quote_1 : decode cX7_quote 1 = .ok (.iload_n 1, 1) := by decide +kernel
theorem dX7_quote_2 : decode cX7_quote 2 = .ok (.invokevirtual 167, 3) := by decide +kernel
theorem dX7_quote_5 : decode cX7_quote 5 = .ok (.iload_n 2, 1) := by decide +kernel
theorem dX7_quote_6 : decode cX7_quote 6 = .ok (.bipush 6, 2) := by decide +kernel
theorem dX7_quote_8 : decode cX7_quote 8 = .ok (.invokestatic 217, 3) := by decide +kernel
theorem dX7_quote_11 : decode cX7_quote 11 = .ok (.aload_n 0, 1) := by decide +kernel
theorem dX7_quote_12 : decode cX7_quote 12 = .ok (.getfield 71, 3) := by decide +kernel
theorem dX7_quote_15 : decode cX7_quote 15 = .ok (.iload_n 1, 1) := by decide +kernel
theorem dX7_quote_16 : decode cX7_quote 16 = .ok (.iload_n 2, 1) := by decide +kernel
theorem dX7_quote_17 : decode cX7_quote 17 = .ok (.invokevirtual 221, 3) := by decide +kernel
theorem dX7_quote_20 : decode cX7_quote 20 = .ok (.ireturn, 1) := by decide +kernel
theorem dX7_refusal_0 : decode cX7_refusal 0 = .ok (.aload_n 0, 1) := by decide +kernel
theorem dX7_refusal_1 : decode cX7_refusal 1 = .ok (.iload_n 1, 1) := by decide +kernel
theorem dX7_refusal_2 : decode cX7_refusal 2 = .ok (.invokevirtual 167, 3) := by decide +kernel
theorem dX7_refusal_5 : decode cX7_refusal 5 = .ok (.aload_n 0, 1) := by decide +kernel
theorem dX7_refusal_6 : decode cX7_refusal 6 = .ok (.iload_n 2, 1) := by decide +kernel
theorem dX7_refusal_7 : decode cX7_refusal 7 = .ok (.iload_n 3, 1) := by decide +kernel
theorem dX7_refusal_8 : decode cX7_refusal 8 = .ok (.bipush 6, 2) := by decide +kernel
theorem dX7_refusal_10 : decode cX7_refusal 10 = .ok (.invokevirtual 223, 3) := by decide +kernel
theorem dX7_refusal_13 : decode cX7_refusal 13 = .ok (.aload_n 0, 1) := by decide +kernel
theorem dX7_refusal_14 : decode cX7_refusal 14 = .ok (.getfield 71, 3) := by decide +kernel
theorem dX7_refusal_17 : decode cX7_refusal 17 = .ok (.iload_n 1, 1) := by decide +kernel
theorem dX7_refusal_18 : decode cX7_refusal 18 = .ok (.iload_n 2, 1) := by decide +kernel
theorem dX7_refusal_19 : decode cX7_refusal 19 = .ok (.iload_n 3, 1) := by decide +kernel
theorem dX7_refusal_20 : decode cX7_refusal 20 = .ok (.invokevirtual 227, 3) := by decide +kernel
theorem dX7_refusal_23 : decode cX7_refusal 23 = .ok (.ireturn, 1) := by decide +kernel
theorem dX7_refusalCause_0 : decode cX7_refusalCause 0 = .ok (.aload_n 0, 1) := by decide +kernel
theorem dX7_refusalCause_1 : decode cX7_refusalCause 1 = .ok (.iload_n 1, 1) := by decide +kernel
theorem dX7_refusalCause_2 : decode cX7_refusalCause 2 = .ok (.invokevirtual 167, 3) := by decide +kernel
theorem dX7_refusalCause_5 : decode cX7_refusalCause 5 = .ok (.aload_n 0, 1) := by decide +kernel
theorem dX7_refusalCause_6 : decode cX7_refusalCause 6 = .ok (.iload_n 2, 1) := by decide +kernel
theorem dX7_refusalCause_7 : decode cX7_refusalCause 7 = .ok (.iload_n 3, 1) := by decide +kernel
theorem dX7_refusalCause_8 : decode cX7_refusalCause 8 = .ok (.bipush 6, 2) := by decide +kernel
theorem dX7_refusalCause_10 : decode cX7_refusalCause 10 = .ok (.invokevirtual 223, 3) := by decide +kernel
theorem dX7_refusalCause_13 : decode cX7_refusalCause 13 = .ok (.aload_n 0, 1) := by decide +kernel
theorem dX7_refusalCause_14 : decode cX7_refusalCause 14 = .ok (.getfield 71, 3) := by decide +kernel
theorem dX7_refusalCause_17 : decode cX7_refusalCause 17 = .ok (.iload_n 1, 1) := by decide +kernel
theorem dX7_refusalCause_18 : decode cX7_refusalCause 18 = .ok (.iload_n 2, 1) := by decide +kernel
theorem dX7_refusalCause_19 : decode cX7_refusalCause 19 = .ok (.iload_n 3, 1) := by decide +kernel
theorem dX7_refusalCause_20 : decode cX7_refusalCause 20 = .ok (.invokevirtual 227, 3) := by decide +kernel
theorem dX7_refusalCause_23 : decode cX7_refusalCause 23 = .ok (.tableswitch 83 1 4 #[29, 38, 49, 60], 29) := by decide +kernel
theorem dX7_refusalCause_52 : decode cX7_refusalCause 52 = .ok (.aload_n 0, 1) := by decide +kernel
theorem dX7_refusalCause_53 : decode cX7_refusalCause 53 = .ok (.getfield 71, 3) := by decide +kernel
theorem dX7_refusalCause_56 : decode cX7_refusalCause 56 = .ok (.iload_n 1, 1) := by decide +kernel
theorem dX7_refusalCause_57 : decode cX7_refusalCause 57 = .ok (.invokevirtual 231, 3) := by decide +kernel
theorem dX7_refusalCause_60 : decode cX7_refusalCause 60 = .ok (.ireturn, 1) := by decide +kernel
theorem dX7_refusalCause_61 : decode cX7_refusalCause 61 = .ok (.aload_n 0, 1) := by decide +kernel
theorem dX7_refusalCause_62 : decode cX7_refusalCause 62 = .ok (.getfield 71, 3) := by decide +kernel
theorem dX7_refusalCause_65 : decode cX7_refusalCause 65 = .ok (.iload_n 1, 1) := by decide +kernel
theorem dX7_refusalCause_66 : decode cX7_refusalCause 66 = .ok (.iload_n 2, 1) := by decide +kernel
theorem dX7_refusalCause_67 : decode cX7_refusalCause 67 = .ok (.iload_n 3, 1) := by decide +kernel
theorem dX7_refusalCause_68 : decode cX7_refusalCause 68 = .ok (.invokevirtual 234, 3) := by decide +kernel
theorem dX7_refusalCause_71 : decode cX7_refusalCause 71 = .ok (.ireturn, 1) := by decide +kernel
theorem dX7_refusalCause_72 : decode cX7_refusalCause 72 = .ok (.aload_n 0, 1) := by decide +kernel
theorem dX7_refusalCause_73 : decode cX7_refusalCause 73 = .ok (.getfield 71, 3) := by decide +kernel
theorem dX7_refusalCause_76 : decode cX7_refusalCause 76 = .ok (.iload_n 1, 1) := by decide +kernel
theorem dX7_refusalCause_77 : decode cX7_refusalCause 77 = .ok (.iload_n 2, 1) := by decide +kernel
theorem dX7_refusalCause_78 : decode cX7_refusalCause 78 = .ok (.iload_n 3, 1) := by decide +kernel
theorem dX7_refusalCause_79 : decode cX7_refusalCause 79 = .ok (.invokevirtual 237, 3) := by decide +kernel
theorem dX7_refusalCause_82 : decode cX7_refusalCause 82 = .ok (.ireturn, 1) := by decide +kernel
theorem dX7_refusalCause_83 : decode cX7_refusalCause 83 = .ok (.aload_n 0, 1) := by decide +kernel
theorem dX7_refusalCause_84 : decode cX7_refusalCause 84 = .ok (.getfield 71, 3) := by decide +kernel
theorem dX7_refusalCause_87 : decode cX7_refusalCause 87 = .ok (.iload_n 1, 1) := by decide +kernel
theorem dX7_refusalCause_88 : decode cX7_refusalCause 88 = .ok (.iload_n 3, 1) := by decide +kernel
theorem dX7_refusalCause_89 : decode cX7_refusalCause 89 = .ok (.invokevirtual 221, 3) := by decide +kernel
theorem dX7_refusalCause_92 : decode cX7_refusalCause 92 = .ok (.aload_n 0, 1) := by decide +kernel
theorem dX7_refusalCause_93 : decode cX7_refusalCause 93 = .ok (.getfield 71, 3) := by decide +kernel
theorem dX7_refusalCause_96 : decode cX7_refusalCause 96 = .ok (.getfield 170, 3) := by decide +kernel
theorem dX7_refusalCause_99 : decode cX7_refusalCause 99 = .ok (.iload_n 1, 1) := by decide +kernel
theorem dX7_refusalCause_100 : decode cX7_refusalCause 100 = .ok (.aaload, 1) := by decide +kernel
theorem dX7_refusalCause_101 : decode cX7_refusalCause 101 = .ok (.getfield 182, 3) := by decide +kernel
theorem dX7_refusalCause_104 : decode cX7_refusalCause 104 = .ok (.isub, 1) := by decide +kernel
theorem dX7_refusalCause_105 : decode cX7_refusalCause 105 = .ok (.ireturn, 1) := by decide +kernel
theorem dX7_refusalCause_106 : decode cX7_refusalCause 106 = .ok (.iconst (-1), 1) := by decide +kernel
theorem dX7_refusalCause_107 : decode cX7_refusalCause 107 = .ok (.ireturn, 1) := by decide +kernel
theorem dX7_displacedBy_0 : decode cX7_displacedBy 0 = .ok (.aload_n 0, 1) := by decide +kernel
theorem dX7_displacedBy_1 : decode cX7_displacedBy 1 = .ok (.iload_n 1, 1) := by decide +kernel
theorem dX7_displacedBy_2 : decode cX7_displacedBy 2 = .ok (.invokevirtual 167, 3) := by decide +kernel
theorem dX7_displacedBy_5 : decode cX7_displacedBy 5 = .ok (.aload_n 0, 1) := by decide +kernel
theorem dX7_displacedBy_6 : decode cX7_displacedBy 6 = .ok (.iload_n 2, 1) := by decide +kernel
theorem dX7_displacedBy_7 : decode cX7_displacedBy 7 = .ok (.iload_n 3, 1) := by decide +kernel
theorem dX7_displacedBy_8 : decode cX7_displacedBy 8 = .ok (.bipush 6, 2) := by decide +kernel
theorem dX7_displacedBy_10 : decode cX7_displacedBy 10 = .ok (.invokevirtual 223, 3) := by decide +kernel
theorem dX7_displacedBy_13 : decode cX7_displacedBy 13 = .ok (.aload_n 0, 1) := by decide +kernel
theorem dX7_displacedBy_14 : decode cX7_displacedBy 14 = .ok (.getfield 71, 3) := by decide +kernel
theorem dX7_displacedBy_17 : decode cX7_displacedBy 17 = .ok (.iload_n 1, 1) := by decide +kernel
theorem dX7_displacedBy_18 : decode cX7_displacedBy 18 = .ok (.iload_n 2, 1) := by decide +kernel
theorem dX7_displacedBy_19 : decode cX7_displacedBy 19 = .ok (.iload_n 3, 1) := by decide +kernel
theorem dX7_displacedBy_20 : decode cX7_displacedBy 20 = .ok (.invokevirtual 227, 3) := by decide +kernel
theorem dX7_displacedBy_23 : decode cX7_displacedBy 23 = .ok (.ifCond .eq 5, 3) := by decide +kernel
theorem dX7_displacedBy_26 : decode cX7_displacedBy 26 = .ok (.iconst (-1), 1) := by decide +kernel
theorem dX7_displacedBy_27 : decode cX7_displacedBy 27 = .ok (.ireturn, 1) := by decide +kernel
theorem dX7_displacedBy_28 : decode cX7_displacedBy 28 = .ok (.aload_n 0, 1) := by decide +kernel
theorem dX7_displacedBy_29 : decode cX7_displacedBy 29 = .ok (.getfield 71, 3) := by decide +kernel
theorem dX7_displacedBy_32 : decode cX7_displacedBy 32 = .ok (.iload_n 2, 1) := by decide +kernel
theorem dX7_displacedBy_33 : decode cX7_displacedBy 33 = .ok (.iload_n 3, 1) := by decide +kernel
theorem dX7_displacedBy_34 : decode cX7_displacedBy 34 = .ok (.invokevirtual 240, 3) := by decide +kernel
theorem dX7_displacedBy_37 : decode cX7_displacedBy 37 = .ok (.ireturn, 1) := by decide +kernel
theorem dX7_earliestStart_0 : decode cX7_earliestStart 0 = .ok (.aload_n 0, 1) := by decide +kernel
theorem dX7_earliestStart_1 : decode cX7_earliestStart 1 = .ok (.iload_n 1, 1) := by decide +kernel
theorem dX7_earliestStart_2 : decode cX7_earliestStart 2 = .ok (.invokevirtual 167, 3) := by decide +kernel
theorem dX7_earliestStart_5 : decode cX7_earliestStart 5 = .ok (.iload_n 2, 1) := by decide +kernel
theorem dX7_earliestStart_6 : decode cX7_earliestStart 6 = .ok (.bipush 6, 2) := by decide +kernel
theorem dX7_earliestStart_8 : decode cX7_earliestStart 8 = .ok (.invokestatic 217, 3) := by decide +kernel
theorem dX7_earliestStart_11 : decode cX7_earliestStart 11 = .ok (.aload_n 0, 1) := by decide +kernel
theorem dX7_earliestStart_12 : decode cX7_earliestStart 12 = .ok (.getfield 71, 3) := by decide +kernel
theorem dX7_earliestStart_15 : decode cX7_earliestStart 15 = .ok (.iload_n 1, 1) := by decide +kernel
theorem dX7_earliestStart_16 : decode cX7_earliestStart 16 = .ok (.iload_n 2, 1) := by decide +kernel
theorem dX7_earliestStart_17 : decode cX7_earliestStart 17 = .ok (.bipush 30, 2) := by decide +kernel
theorem dX7_earliestStart_19 : decode cX7_earliestStart 19 = .ok (.invokevirtual 243, 3) := by decide +kernel
theorem dX7_earliestStart_22 : decode cX7_earliestStart 22 = .ok (.ireturn, 1) := by decide +kernel
theorem dX7_earliestPeacefulStart_0 : decode cX7_earliestPeacefulStart 0 = .ok (.aload_n 0, 1) := by decide +kernel
theorem dX7_earliestPeacefulStart_1 : decode cX7_earliestPeacefulStart 1 = .ok (.iload_n 1, 1) := by decide +kernel
theorem dX7_earliestPeacefulStart_2 : decode cX7_earliestPeacefulStart 2 = .ok (.invokevirtual 167, 3) := by decide +kernel
theorem dX7_earliestPeacefulStart_5 : decode cX7_earliestPeacefulStart 5 = .ok (.iload_n 2, 1) := by decide +kernel
theorem dX7_earliestPeacefulStart_6 : decode cX7_earliestPeacefulStart 6 = .ok (.bipush 6, 2) := by decide +kernel
theorem dX7_earliestPeacefulStart_8 : decode cX7_earliestPeacefulStart 8 = .ok (.invokestatic 217, 3) := by decide +kernel
theorem dX7_earliestPeacefulStart_11 : decode cX7_earliestPeacefulStart 11 = .ok (.aload_n 0, 1) := by decide +kernel
theorem dX7_earliestPeacefulStart_12 : decode cX7_earliestPeacefulStart 12 = .ok (.getfield 71, 3) := by decide +kernel
theorem dX7_earliestPeacefulStart_15 : decode cX7_earliestPeacefulStart 15 = .ok (.iload_n 1, 1) := by decide +kernel
theorem dX7_earliestPeacefulStart_16 : decode cX7_earliestPeacefulStart 16 = .ok (.iload_n 2, 1) := by decide +kernel
theorem dX7_earliestPeacefulStart_17 : decode cX7_earliestPeacefulStart 17 = .ok (.iconst 0, 1) := by decide +kernel
theorem dX7_earliestPeacefulStart_18 : decode cX7_earliestPeacefulStart 18 = .ok (.invokevirtual 243, 3) := by decide +kernel
theorem dX7_earliestPeacefulStart_21 : decode cX7_earliestPeacefulStart 21 = .ok (.ireturn, 1) := by decide +kernel
theorem dX7_illnessAfter_0 : decode cX7_illnessAfter 0 = .ok (.aload_n 0, 1) := by decide +kernel
theorem dX7_illnessAfter_1 : decode cX7_illnessAfter 1 = .ok (.iload_n 1, 1) := by decide +kernel
theorem dX7_illnessAfter_2 : decode cX7_illnessAfter 2 = .ok (.invokevirtual 167, 3) := by decide +kernel
theorem dX7_illnessAfter_5 : decode cX7_illnessAfter 5 = .ok (.iload_n 2, 1) := by decide +kernel
theorem dX7_illnessAfter_6 : decode cX7_illnessAfter 6 = .ok (.ifCond .lt 10, 3) := by decide +kernel
theorem dX7_illnessAfter_9 : decode cX7_illnessAfter 9 = .ok (.iload_n 2, 1) := by decide +kernel
theorem dX7_illnessAfter_10 : decode cX7_illnessAfter 10 = .ok (.sipush 200, 3) := by decide +kernel
theorem dX7_illnessAfter_13 : decode cX7_illnessAfter 13 = .ok (.if_icmp .le 13, 3) := by decide +kernel
theorem dX7_illnessAfter_16 : decode cX7_illnessAfter 16 = .ok (.new 99, 3) := by decide +kernel
theorem dX7_illnessAfter_19 : decode cX7_illnessAfter 19 = .ok (.dup, 1) := by decide +kernel
theorem dX7_illnessAfter_20 : decode cX7_illnessAfter 20 = .ok (.ldc 246, 2) := by decide +kernel
theorem dX7_illnessAfter_22 : decode cX7_illnessAfter 22 = .ok (.invokespecial 103, 3) := by decide +kernel
theorem dX7_illnessAfter_25 : decode cX7_illnessAfter 25 = .ok (.athrow, 1) := by decide +kernel
theorem dX7_illnessAfter_26 : decode cX7_illnessAfter 26 = .ok (.aload_n 0, 1) := by decide +kernel
theorem dX7_illnessAfter_27 : decode cX7_illnessAfter 27 = .ok (.getfield 71, 3) := by decide +kernel
theorem dX7_illnessAfter_30 : decode cX7_illnessAfter 30 = .ok (.iload_n 1, 1) := by decide +kernel
theorem dX7_illnessAfter_31 : decode cX7_illnessAfter 31 = .ok (.iload_n 2, 1) := by decide +kernel
theorem dX7_illnessAfter_32 : decode cX7_illnessAfter 32 = .ok (.invokevirtual 248, 3) := by decide +kernel
theorem dX7_illnessAfter_35 : decode cX7_illnessAfter 35 = .ok (.ireturn, 1) := by decide +kernel
theorem dX7_meanNoise_0 : decode cX7_meanNoise 0 = .ok (.aload_n 0, 1) := by decide +kernel
theorem dX7_meanNoise_1 : decode cX7_meanNoise 1 = .ok (.iload_n 1, 1) := by decide +kernel
theorem dX7_meanNoise_2 : decode cX7_meanNoise 2 = .ok (.invokevirtual 145, 3) := by decide +kernel
theorem dX7_meanNoise_5 : decode cX7_meanNoise 5 = .ok (.aload_n 0, 1) := by decide +kernel
theorem dX7_meanNoise_6 : decode cX7_meanNoise 6 = .ok (.getfield 71, 3) := by decide +kernel
theorem dX7_meanNoise_9 : decode cX7_meanNoise 9 = .ok (.getfield 114, 3) := by decide +kernel
theorem dX7_meanNoise_12 : decode cX7_meanNoise 12 = .ok (.ifCond .ne 5, 3) := by decide +kernel
theorem dX7_meanNoise_15 : decode cX7_meanNoise 15 = .ok (.dconst 0, 1) := by decide +kernel
theorem dX7_meanNoise_16 : decode cX7_meanNoise 16 = .ok (.dreturn, 1) := by decide +kernel
theorem dX7_meanNoise_17 : decode cX7_meanNoise 17 = .ok (.aload_n 0, 1) := by decide +kernel
theorem dX7_meanNoise_18 : decode cX7_meanNoise 18 = .ok (.getfield 71, 3) := by decide +kernel
theorem dX7_meanNoise_21 : decode cX7_meanNoise 21 = .ok (.getfield 155, 3) := by decide +kernel
theorem dX7_meanNoise_24 : decode cX7_meanNoise 24 = .ok (.iload_n 1, 1) := by decide +kernel
theorem dX7_meanNoise_25 : decode cX7_meanNoise 25 = .ok (.aaload, 1) := by decide +kernel
theorem dX7_meanNoise_26 : decode cX7_meanNoise 26 = .ok (.getfield 159, 3) := by decide +kernel
theorem dX7_meanNoise_29 : decode cX7_meanNoise 29 = .ok (.i2d, 1) := by decide +kernel
theorem dX7_meanNoise_30 : decode cX7_meanNoise 30 = .ok (.aload_n 0, 1) := by decide +kernel
theorem dX7_meanNoise_31 : decode cX7_meanNoise 31 = .ok (.getfield 71, 3) := by decide +kernel
theorem dX7_meanNoise_34 : decode cX7_meanNoise 34 = .ok (.getfield 114, 3) := by decide +kernel
theorem dX7_meanNoise_37 : decode cX7_meanNoise 37 = .ok (.i2d, 1) := by decide +kernel
theorem dX7_meanNoise_38 : decode cX7_meanNoise 38 = .ok (.ddiv, 1) := by decide +kernel
theorem dX7_meanNoise_39 : decode cX7_meanNoise 39 = .ok (.dreturn, 1) := by decide +kernel
theorem dX7_lentShare_0 : decode cX7_lentShare 0 = .ok (.aload_n 0, 1) := by decide +kernel
theorem dX7_lentShare_1 : decode cX7_lentShare 1 = .ok (.getfield 71, 3) := by decide +kernel
theorem dX7_lentShare_4 : decode cX7_lentShare 4 = .ok (.invokevirtual 214, 3) := by decide +kernel
theorem dX7_lentShare_7 : decode cX7_lentShare 7 = .ok (.i2f, 1) := by decide +kernel
theorem dX7_lentShare_8 : decode cX7_lentShare 8 = .ok (.ldc 251, 2) := by decide +kernel
theorem dX7_lentShare_10 : decode cX7_lentShare 10 = .ok (.fdiv, 1) := by decide +kernel
theorem dX7_lentShare_11 : decode cX7_lentShare 11 = .ok (.freturn, 1) := by decide +kernel
theorem dX7_ledgerDifference_0 : decode cX7_ledgerDifference 0 = .ok (.aload_n 0, 1) := by decide +kernel
theorem dX7_ledgerDifference_1 : decode cX7_ledgerDifference 1 = .ok (.getfield 71, 3) := by decide +kernel
theorem dX7_ledgerDifference_4 : decode cX7_ledgerDifference 4 = .ok (.invokevirtual 252, 3) := by decide +kernel
theorem dX7_ledgerDifference_7 : decode cX7_ledgerDifference 7 = .ok (.istore_n 1, 1) := by decide +kernel
theorem dX7_ledgerDifference_8 : decode cX7_ledgerDifference 8 = .ok (.iload_n 1, 1) := by decide +kernel
theorem dX7_ledgerDifference_9 : decode cX7_ledgerDifference 9 = .ok (.ifCond .ge 8, 3) := by decide +kernel
theorem dX7_ledgerDifference_12 : decode cX7_ledgerDifference 12 = .ok (.iload_n 1, 1) := by decide +kernel
theorem dX7_ledgerDifference_13 : decode cX7_ledgerDifference 13 = .ok (.ineg, 1) := by decide +kernel
theorem dX7_ledgerDifference_14 : decode cX7_ledgerDifference 14 = .ok (.goto 4, 3) := by decide +kernel
theorem dX7_ledgerDifference_17 : decode cX7_ledgerDifference 17 = .ok (.iload_n 1, 1) := by decide +kernel
theorem dX7_ledgerDifference_18 : decode cX7_ledgerDifference 18 = .ok (.aload_n 0, 1) := by decide +kernel
theorem dX7_ledgerDifference_19 : decode cX7_ledgerDifference 19 = .ok (.getfield 71, 3) := by decide +kernel
theorem dX7_ledgerDifference_22 : decode cX7_ledgerDifference 22 = .ok (.invokevirtual 255, 3) := by decide +kernel
theorem dX7_ledgerDifference_25 : decode cX7_ledgerDifference 25 = .ok (.iadd, 1) := by decide +kernel
theorem dX7_ledgerDifference_26 : decode cX7_ledgerDifference 26 = .ok (.ireturn, 1) := by decide +kernel
theorem dX7_lend_0 : decode cX7_lend 0 = .ok (.aload_n 0, 1) := by decide +kernel
theorem dX7_lend_1 : decode cX7_lend 1 = .ok (.iload_n 1, 1) := by decide +kernel
theorem dX7_lend_2 : decode cX7_lend 2 = .ok (.invokevirtual 167, 3) := by decide +kernel
theorem dX7_lend_5 : decode cX7_lend 5 = .ok (.aload_n 0, 1) := by decide +kernel
theorem dX7_lend_6 : decode cX7_lend 6 = .ok (.iload_n 2, 1) := by decide +kernel
theorem dX7_lend_7 : decode cX7_lend 7 = .ok (.iload_n 3, 1) := by decide +kernel
theorem dX7_lend_8 : decode cX7_lend 8 = .ok (.bipush 6, 2) := by decide +kernel
theorem dX7_lend_10 : decode cX7_lend 10 = .ok (.invokevirtual 223, 3) := by decide +kernel
theorem dX7_lend_13 : decode cX7_lend 13 = .ok (.aload_n 0, 1) := by decide +kernel
theorem dX7_lend_14 : decode cX7_lend 14 = .ok (.getfield 71, 3) := by decide +kernel
theorem dX7_lend_17 : decode cX7_lend 17 = .ok (.iload_n 1, 1) := by decide +kernel
theorem dX7_lend_18 : decode cX7_lend 18 = .ok (.iload_n 2, 1) := by decide +kernel
theorem dX7_lend_19 : decode cX7_lend 19 = .ok (.iload_n 3, 1) := by decide +kernel
theorem dX7_lend_20 : decode cX7_lend 20 = .ok (.invokevirtual 227, 3) := by decide +kernel
theorem dX7_lend_23 : decode cX7_lend 23 = .ok (.ifCond .eq 14, 3) := by decide +kernel
theorem dX7_lend_26 : decode cX7_lend 26 = .ok (.new 74, 3) := by decide +kernel
theorem dX7_lend_29 : decode cX7_lend 29 = .ok (.dup, 1) := by decide +kernel
theorem dX7_lend_30 : decode cX7_lend 30 = .ok (.ldc_w 258, 3) := by decide +kernel
theorem dX7_lend_33 : decode cX7_lend 33 = .ok (.invokespecial 78, 3) := by decide +kernel
theorem dX7_lend_36 : decode cX7_lend 36 = .ok (.athrow, 1) := by decide +kernel
theorem dX7_lend_37 : decode cX7_lend 37 = .ok (.aload_n 0, 1) := by decide +kernel
theorem dX7_lend_38 : decode cX7_lend 38 = .ok (.getfield 19, 3) := by decide +kernel
theorem dX7_lend_41 : decode cX7_lend 41 = .ok (.aload_n 0, 1) := by decide +kernel
theorem dX7_lend_42 : decode cX7_lend 42 = .ok (.getfield 71, 3) := by decide +kernel
theorem dX7_lend_45 : decode cX7_lend 45 = .ok (.invokevirtual 260, 3) := by decide +kernel
theorem dX7_lend_48 : decode cX7_lend 48 = .ok (.aload_n 0, 1) := by decide +kernel
theorem dX7_lend_49 : decode cX7_lend 49 = .ok (.getfield 71, 3) := by decide +kernel
theorem dX7_lend_52 : decode cX7_lend 52 = .ok (.iload_n 1, 1) := by decide +kernel
theorem dX7_lend_53 : decode cX7_lend 53 = .ok (.iload_n 2, 1) := by decide +kernel
theorem dX7_lend_54 : decode cX7_lend 54 = .ok (.iload_n 3, 1) := by decide +kernel
theorem dX7_lend_55 : decode cX7_lend 55 = .ok (.invokevirtual 263, 3) := by decide +kernel
theorem dX7_lend_58 : decode cX7_lend 58 = .ok (.ireturn, 1) := by decide +kernel
theorem dX7_cancel_0 : decode cX7_cancel 0 = .ok (.aload_n 0, 1) := by decide +kernel
theorem dX7_cancel_1 : decode cX7_cancel 1 = .ok (.iload_n 1, 1) := by decide +kernel
theorem dX7_cancel_2 : decode cX7_cancel 2 = .ok (.invokevirtual 197, 3) := by decide +kernel
theorem dX7_cancel_5 : decode cX7_cancel 5 = .ok (.aload_n 0, 1) := by decide +kernel
theorem dX7_cancel_6 : decode cX7_cancel 6 = .ok (.getfield 71, 3) := by decide +kernel
theorem dX7_cancel_9 : decode cX7_cancel 9 = .ok (.getfield 185, 3) := by decide +kernel
theorem dX7_cancel_12 : decode cX7_cancel 12 = .ok (.iload_n 1, 1) := by decide +kernel
theorem dX7_cancel_13 : decode cX7_cancel 13 = .ok (.aaload, 1) := by decide +kernel
theorem dX7_cancel_14 : decode cX7_cancel 14 = .ok (.getfield 194, 3) := by decide +kernel
theorem dX7_cancel_17 : decode cX7_cancel 17 = .ok (.ifCond .eq 14, 3) := by decide +kernel
theorem dX7_cancel_20 : decode cX7_cancel 20 = .ok (.new 74, 3) := by decide +kernel
theorem dX7_cancel_23 : decode cX7_cancel 23 = .ok (.dup, 1) := by decide +kernel
theorem dX7_cancel_24 : decode cX7_cancel 24 = .ok (.ldc_w 266, 3) := by decide +kernel
theorem dX7_cancel_27 : decode cX7_cancel 27 = .ok (.invokespecial 78, 3) := by decide +kernel
theorem dX7_cancel_30 : decode cX7_cancel 30 = .ok (.athrow, 1) := by decide +kernel
theorem dX7_cancel_31 : decode cX7_cancel 31 = .ok (.aload_n 0, 1) := by decide +kernel
theorem dX7_cancel_32 : decode cX7_cancel 32 = .ok (.getfield 19, 3) := by decide +kernel
theorem dX7_cancel_35 : decode cX7_cancel 35 = .ok (.aload_n 0, 1) := by decide +kernel
theorem dX7_cancel_36 : decode cX7_cancel 36 = .ok (.getfield 71, 3) := by decide +kernel
theorem dX7_cancel_39 : decode cX7_cancel 39 = .ok (.invokevirtual 260, 3) := by decide +kernel
theorem dX7_cancel_42 : decode cX7_cancel 42 = .ok (.aload_n 0, 1) := by decide +kernel
theorem dX7_cancel_43 : decode cX7_cancel 43 = .ok (.getfield 71, 3) := by decide +kernel
theorem dX7_cancel_46 : decode cX7_cancel 46 = .ok (.iload_n 1, 1) := by decide +kernel
theorem dX7_cancel_47 : decode cX7_cancel 47 = .ok (.invokevirtual 268, 3) := by decide +kernel
theorem dX7_cancel_50 : decode cX7_cancel 50 = .ok (.aload_n 0, 1) := by decide +kernel
theorem dX7_cancel_51 : decode cX7_cancel 51 = .ok (.getfield 71, 3) := by decide +kernel
theorem dX7_cancel_54 : decode cX7_cancel 54 = .ok (.getfield 170, 3) := by decide +kernel
theorem dX7_cancel_57 : decode cX7_cancel 57 = .ok (.aload_n 0, 1) := by decide +kernel
theorem dX7_cancel_58 : decode cX7_cancel 58 = .ok (.getfield 71, 3) := by decide +kernel
theorem dX7_cancel_61 : decode cX7_cancel 61 = .ok (.getfield 185, 3) := by decide +kernel
theorem dX7_cancel_64 : decode cX7_cancel 64 = .ok (.iload_n 1, 1) := by decide +kernel
theorem dX7_cancel_65 : decode cX7_cancel 65 = .ok (.aaload, 1) := by decide +kernel
theorem dX7_cancel_66 : decode cX7_cancel 66 = .ok (.getfield 189, 3) := by decide +kernel
theorem dX7_cancel_69 : decode cX7_cancel 69 = .ok (.aaload, 1) := by decide +kernel
theorem dX7_cancel_70 : decode cX7_cancel 70 = .ok (.getfield 182, 3) := by decide +kernel
theorem dX7_cancel_73 : decode cX7_cancel 73 = .ok (.ireturn, 1) := by decide +kernel
theorem dX7_whistle_0 : decode cX7_whistle 0 = .ok (.aload_n 0, 1) := by decide +kernel
theorem dX7_whistle_1 : decode cX7_whistle 1 = .ok (.iload_n 1, 1) := by decide +kernel
theorem dX7_whistle_2 : decode cX7_whistle 2 = .ok (.invokevirtual 197, 3) := by decide +kernel
theorem dX7_whistle_5 : decode cX7_whistle 5 = .ok (.aload_n 0, 1) := by decide +kernel
theorem dX7_whistle_6 : decode cX7_whistle 6 = .ok (.getfield 71, 3) := by decide +kernel
theorem dX7_whistle_9 : decode cX7_whistle 9 = .ok (.getfield 185, 3) := by decide +kernel
theorem dX7_whistle_12 : decode cX7_whistle 12 = .ok (.iload_n 1, 1) := by decide +kernel
theorem dX7_whistle_13 : decode cX7_whistle 13 = .ok (.aaload, 1) := by decide +kernel
theorem dX7_whistle_14 : decode cX7_whistle 14 = .ok (.invokevirtual 271, 3) := by decide +kernel
theorem dX7_whistle_17 : decode cX7_whistle 17 = .ok (.ifCond .ne 14, 3) := by decide +kernel
theorem dX7_whistle_20 : decode cX7_whistle 20 = .ok (.new 74, 3) := by decide +kernel
theorem dX7_whistle_23 : decode cX7_whistle 23 = .ok (.dup, 1) := by decide +kernel
theorem dX7_whistle_24 : decode cX7_whistle 24 = .ok (.ldc_w 275, 3) := by decide +kernel
theorem dX7_whistle_27 : decode cX7_whistle 27 = .ok (.invokespecial 78, 3) := by decide +kernel
theorem dX7_whistle_30 : decode cX7_whistle 30 = .ok (.athrow, 1) := by decide +kernel
theorem dX7_whistle_31 : decode cX7_whistle 31 = .ok (.aload_n 0, 1) := by decide +kernel
theorem dX7_whistle_32 : decode cX7_whistle 32 = .ok (.getfield 19, 3) := by decide +kernel
theorem dX7_whistle_35 : decode cX7_whistle 35 = .ok (.aload_n 0, 1) := by decide +kernel
theorem dX7_whistle_36 : decode cX7_whistle 36 = .ok (.getfield 71, 3) := by decide +kernel
theorem dX7_whistle_39 : decode cX7_whistle 39 = .ok (.invokevirtual 260, 3) := by decide +kernel
theorem dX7_whistle_42 : decode cX7_whistle 42 = .ok (.aload_n 0, 1) := by decide +kernel
theorem dX7_whistle_43 : decode cX7_whistle 43 = .ok (.getfield 71, 3) := by decide +kernel
theorem dX7_whistle_46 : decode cX7_whistle 46 = .ok (.getfield 185, 3) := by decide +kernel
theorem dX7_whistle_49 : decode cX7_whistle 49 = .ok (.iload_n 1, 1) := by decide +kernel
theorem dX7_whistle_50 : decode cX7_whistle 50 = .ok (.aaload, 1) := by decide +kernel
theorem dX7_whistle_51 : decode cX7_whistle 51 = .ok (.iconst 3, 1) := by decide +kernel
theorem dX7_whistle_52 : decode cX7_whistle 52 = .ok (.putfield 194, 3) := by decide +kernel
theorem dX7_whistle_55 : decode cX7_whistle 55 = .ok (.aload_n 0, 1) := by decide +kernel
theorem dX7_whistle_56 : decode cX7_whistle 56 = .ok (.getfield 71, 3) := by decide +kernel
theorem dX7_whistle_59 : decode cX7_whistle 59 = .ok (.getfield 114, 3) := by decide +kernel
theorem dX7_whistle_62 : decode cX7_whistle 62 = .ok (.aload_n 0, 1) := by decide +kernel
theorem dX7_whistle_63 : decode cX7_whistle 63 = .ok (.getfield 71, 3) := by decide +kernel
theorem dX7_whistle_66 : decode cX7_whistle 66 = .ok (.getfield 185, 3) := by decide +kernel
theorem dX7_whistle_69 : decode cX7_whistle 69 = .ok (.iload_n 1, 1) := by decide +kernel
theorem dX7_whistle_70 : decode cX7_whistle 70 = .ok (.aaload, 1) := by decide +kernel
theorem dX7_whistle_71 : decode cX7_whistle 71 = .ok (.invokevirtual 277, 3) := by decide +kernel
theorem dX7_whistle_74 : decode cX7_whistle 74 = .ok (.isub, 1) := by decide +kernel
theorem dX7_whistle_75 : decode cX7_whistle 75 = .ok (.ireturn, 1) := by decide +kernel
theorem dX7_grantPermit_0 : decode cX7_grantPermit 0 = .ok (.aload_n 0, 1) := by decide +kernel
theorem dX7_grantPermit_1 : decode cX7_grantPermit 1 = .ok (.iload_n 1, 1) := by decide +kernel
theorem dX7_grantPermit_2 : decode cX7_grantPermit 2 = .ok (.invokevirtual 145, 3) := by decide +kernel
theorem dX7_grantPermit_5 : decode cX7_grantPermit 5 = .ok (.aload_n 0, 1) := by decide +kernel
theorem dX7_grantPermit_6 : decode cX7_grantPermit 6 = .ok (.iload_n 2, 1) := by decide +kernel
theorem dX7_grantPermit_7 : decode cX7_grantPermit 7 = .ok (.iload_n 3, 1) := by decide +kernel
theorem dX7_grantPermit_8 : decode cX7_grantPermit 8 = .ok (.bipush 12, 2) := by decide +kernel
theorem dX7_grantPermit_10 : decode cX7_grantPermit 10 = .ok (.invokevirtual 223, 3) := by decide +kernel
theorem dX7_grantPermit_13 : decode cX7_grantPermit 13 = .ok (.aload_n 0, 1) := by decide +kernel
theorem dX7_grantPermit_14 : decode cX7_grantPermit 14 = .ok (.getfield 71, 3) := by decide +kernel
theorem dX7_grantPermit_17 : decode cX7_grantPermit 17 = .ok (.iload_n 1, 1) := by decide +kernel
theorem dX7_grantPermit_18 : decode cX7_grantPermit 18 = .ok (.iload_n 2, 1) := by decide +kernel
theorem dX7_grantPermit_19 : decode cX7_grantPermit 19 = .ok (.iload_n 3, 1) := by decide +kernel
theorem dX7_grantPermit_20 : decode cX7_grantPermit 20 = .ok (.invokevirtual 280, 3) := by decide +kernel
theorem dX7_grantPermit_23 : decode cX7_grantPermit 23 = .ok (.ifCond .ne 14, 3) := by decide +kernel
theorem dX7_grantPermit_26 : decode cX7_grantPermit 26 = .ok (.new 74, 3) := by decide +kernel
theorem dX7_grantPermit_29 : decode cX7_grantPermit 29 = .ok (.dup, 1) := by decide +kernel
theorem dX7_grantPermit_30 : decode cX7_grantPermit 30 = .ok (.ldc_w 284, 3) := by decide +kernel
theorem dX7_grantPermit_33 : decode cX7_grantPermit 33 = .ok (.invokespecial 78, 3) := by decide +kernel
theorem dX7_grantPermit_36 : decode cX7_grantPermit 36 = .ok (.athrow, 1) := by decide +kernel
theorem dX7_grantPermit_37 : decode cX7_grantPermit 37 = .ok (.aload_n 0, 1) := by decide +kernel
theorem dX7_grantPermit_38 : decode cX7_grantPermit 38 = .ok (.getfield 19, 3) := by decide +kernel
theorem dX7_grantPermit_41 : decode cX7_grantPermit 41 = .ok (.aload_n 0, 1) := by decide +kernel
theorem dX7_grantPermit_42 : decode cX7_grantPermit 42 = .ok (.getfield 71, 3) := by decide +kernel
theorem dX7_grantPermit_45 : decode cX7_grantPermit 45 = .ok (.invokevirtual 260, 3) := by decide +kernel
theorem dX7_grantPermit_48 : decode cX7_grantPermit 48 = .ok (.aload_n 0, 1) := by decide +kernel
theorem dX7_grantPermit_49 : decode cX7_grantPermit 49 = .ok (.getfield 71, 3) := by decide +kernel
theorem dX7_grantPermit_52 : decode cX7_grantPermit 52 = .ok (.iload_n 1, 1) := by decide +kernel
theorem dX7_grantPermit_53 : decode cX7_grantPermit 53 = .ok (.iload_n 2, 1) := by decide +kernel
theorem dX7_grantPermit_54 : decode cX7_grantPermit 54 = .ok (.iload_n 3, 1) := by decide +kernel
theorem dX7_grantPermit_55 : decode cX7_grantPermit 55 = .ok (.invokevirtual 286, 3) := by decide +kernel
theorem dX7_grantPermit_58 : decode cX7_grantPermit 58 = .ok (.ireturn, 1) := by decide +kernel
theorem dX7_revokePermit_0 : decode cX7_revokePermit 0 = .ok (.iload_n 1, 1) := by decide +kernel
theorem dX7_revokePermit_1 : decode cX7_revokePermit 1 = .ok (.ifCond .lt 14, 3) := by decide +kernel
theorem dX7_revokePermit_4 : decode cX7_revokePermit 4 = .ok (.iload_n 1, 1) := by decide +kernel
theorem dX7_revokePermit_5 : decode cX7_revokePermit 5 = .ok (.aload_n 0, 1) := by decide +kernel
theorem dX7_revokePermit_6 : decode cX7_revokePermit 6 = .ok (.getfield 71, 3) := by decide +kernel
theorem dX7_revokePermit_9 : decode cX7_revokePermit 9 = .ok (.getfield 133, 3) := by decide +kernel
theorem dX7_revokePermit_12 : decode cX7_revokePermit 12 = .ok (.if_icmp .lt 14, 3) := by decide +kernel
theorem dX7_revokePermit_15 : decode cX7_revokePermit 15 = .ok (.new 85, 3) := by decide +kernel
theorem dX7_revokePermit_18 : decode cX7_revokePermit 18 = .ok (.dup, 1) := by decide +kernel
theorem dX7_revokePermit_19 : decode cX7_revokePermit 19 = .ok (.ldc_w 289, 3) := by decide +kernel
theorem dX7_revokePermit_22 : decode cX7_revokePermit 22 = .ok (.invokespecial 89, 3) := by decide +kernel
theorem dX7_revokePermit_25 : decode cX7_revokePermit 25 = .ok (.athrow, 1) := by decide +kernel
theorem dX7_revokePermit_26 : decode cX7_revokePermit 26 = .ok (.aload_n 0, 1) := by decide +kernel
theorem dX7_revokePermit_27 : decode cX7_revokePermit 27 = .ok (.getfield 71, 3) := by decide +kernel
theorem dX7_revokePermit_30 : decode cX7_revokePermit 30 = .ok (.getfield 291, 3) := by decide +kernel
theorem dX7_revokePermit_33 : decode cX7_revokePermit 33 = .ok (.iload_n 1, 1) := by decide +kernel
theorem dX7_revokePermit_34 : decode cX7_revokePermit 34 = .ok (.aaload, 1) := by decide +kernel
theorem dX7_revokePermit_35 : decode cX7_revokePermit 35 = .ok (.getfield 295, 3) := by decide +kernel
theorem dX7_revokePermit_38 : decode cX7_revokePermit 38 = .ok (.ifCond .eq 14, 3) := by decide +kernel
theorem dX7_revokePermit_41 : decode cX7_revokePermit 41 = .ok (.new 74, 3) := by decide +kernel
theorem dX7_revokePermit_44 : decode cX7_revokePermit 44 = .ok (.dup, 1) := by decide +kernel
theorem dX7_revokePermit_45 : decode cX7_revokePermit 45 = .ok (.ldc_w 301, 3) := by decide +kernel
theorem dX7_revokePermit_48 : decode cX7_revokePermit 48 = .ok (.invokespecial 78, 3) := by decide +kernel
theorem dX7_revokePermit_51 : decode cX7_revokePermit 51 = .ok (.athrow, 1) := by decide +kernel
theorem dX7_revokePermit_52 : decode cX7_revokePermit 52 = .ok (.aload_n 0, 1) := by decide +kernel
theorem dX7_revokePermit_53 : decode cX7_revokePermit 53 = .ok (.getfield 19, 3) := by decide +kernel
theorem dX7_revokePermit_56 : decode cX7_revokePermit 56 = .ok (.aload_n 0, 1) := by decide +kernel
theorem dX7_revokePermit_57 : decode cX7_revokePermit 57 = .ok (.getfield 71, 3) := by decide +kernel
theorem dX7_revokePermit_60 : decode cX7_revokePermit 60 = .ok (.invokevirtual 260, 3) := by decide +kernel
theorem dX7_revokePermit_63 : decode cX7_revokePermit 63 = .ok (.aload_n 0, 1) := by decide +kernel
theorem dX7_revokePermit_64 : decode cX7_revokePermit 64 = .ok (.getfield 71, 3) := by decide +kernel
theorem dX7_revokePermit_67 : decode cX7_revokePermit 67 = .ok (.getfield 291, 3) := by decide +kernel
theorem dX7_revokePermit_70 : decode cX7_revokePermit 70 = .ok (.iload_n 1, 1) := by decide +kernel
theorem dX7_revokePermit_71 : decode cX7_revokePermit 71 = .ok (.aaload, 1) := by decide +kernel
theorem dX7_revokePermit_72 : decode cX7_revokePermit 72 = .ok (.iconst 1, 1) := by decide +kernel
theorem dX7_revokePermit_73 : decode cX7_revokePermit 73 = .ok (.putfield 295, 3) := by decide +kernel
theorem dX7_revokePermit_76 : decode cX7_revokePermit 76 = .ok (.aload_n 0, 1) := by decide +kernel
theorem dX7_revokePermit_77 : decode cX7_revokePermit 77 = .ok (.getfield 71, 3) := by decide +kernel
theorem dX7_revokePermit_80 : decode cX7_revokePermit 80 = .ok (.invokevirtual 303, 3) := by decide +kernel
theorem dX7_revokePermit_83 : decode cX7_revokePermit 83 = .ok (.ireturn, 1) := by decide +kernel
theorem dX7_pay_0 : decode cX7_pay 0 = .ok (.aload_n 0, 1) := by decide +kernel
theorem dX7_pay_1 : decode cX7_pay 1 = .ok (.iload_n 1, 1) := by decide +kernel
theorem dX7_pay_2 : decode cX7_pay 2 = .ok (.invokevirtual 167, 3) := by decide +kernel
theorem dX7_pay_5 : decode cX7_pay 5 = .ok (.iload_n 2, 1) := by decide +kernel
theorem dX7_pay_6 : decode cX7_pay 6 = .ok (.iconst 1, 1) := by decide +kernel
theorem dX7_pay_7 : decode cX7_pay 7 = .ok (.if_icmp .lt 10, 3) := by decide +kernel
theorem dX7_pay_10 : decode cX7_pay 10 = .ok (.iload_n 2, 1) := by decide +kernel
theorem dX7_pay_11 : decode cX7_pay 11 = .ok (.sipush 999, 3) := by decide +kernel
theorem dX7_pay_14 : decode cX7_pay 14 = .ok (.if_icmp .le 14, 3) := by decide +kernel
theorem dX7_pay_17 : decode cX7_pay 17 = .ok (.new 99, 3) := by decide +kernel
theorem dX7_pay_20 : decode cX7_pay 20 = .ok (.dup, 1) := by decide +kernel
theorem dX7_pay_21 : decode cX7_pay 21 = .ok (.ldc_w 306, 3) := by decide +kernel
theorem dX7_pay_24 : decode cX7_pay 24 = .ok (.invokespecial 103, 3) := by decide +kernel
theorem dX7_pay_27 : decode cX7_pay 27 = .ok (.athrow, 1) := by decide +kernel
theorem dX7_pay_28 : decode cX7_pay 28 = .ok (.aload_n 0, 1) := by decide +kernel
theorem dX7_pay_29 : decode cX7_pay 29 = .ok (.getfield 19, 3) := by decide +kernel
theorem dX7_pay_32 : decode cX7_pay 32 = .ok (.aload_n 0, 1) := by decide +kernel
theorem dX7_pay_33 : decode cX7_pay 33 = .ok (.getfield 71, 3) := by decide +kernel
theorem dX7_pay_36 : decode cX7_pay 36 = .ok (.invokevirtual 260, 3) := by decide +kernel
theorem dX7_pay_39 : decode cX7_pay 39 = .ok (.aload_n 0, 1) := by decide +kernel
theorem dX7_pay_40 : decode cX7_pay 40 = .ok (.getfield 71, 3) := by decide +kernel
theorem dX7_pay_43 : decode cX7_pay 43 = .ok (.getfield 170, 3) := by decide +kernel
theorem dX7_pay_46 : decode cX7_pay 46 = .ok (.iload_n 1, 1) := by decide +kernel
theorem dX7_pay_47 : decode cX7_pay 47 = .ok (.aaload, 1) := by decide +kernel
theorem dX7_pay_48 : decode cX7_pay 48 = .ok (.dup, 1) := by decide +kernel
theorem dX7_pay_49 : decode cX7_pay 49 = .ok (.getfield 182, 3) := by decide +kernel
theorem dX7_pay_52 : decode cX7_pay 52 = .ok (.iload_n 2, 1) := by decide +kernel
theorem dX7_pay_53 : decode cX7_pay 53 = .ok (.iadd, 1) := by decide +kernel
theorem dX7_pay_54 : decode cX7_pay 54 = .ok (.putfield 182, 3) := by decide +kernel
theorem dX7_pay_57 : decode cX7_pay 57 = .ok (.aload_n 0, 1) := by decide +kernel
theorem dX7_pay_58 : decode cX7_pay 58 = .ok (.getfield 71, 3) := by decide +kernel
theorem dX7_pay_61 : decode cX7_pay 61 = .ok (.dup, 1) := by decide +kernel
theorem dX7_pay_62 : decode cX7_pay 62 = .ok (.getfield 308, 3) := by decide +kernel
theorem dX7_pay_65 : decode cX7_pay 65 = .ok (.iload_n 2, 1) := by decide +kernel
theorem dX7_pay_66 : decode cX7_pay 66 = .ok (.iadd, 1) := by decide +kernel
theorem dX7_pay_67 : decode cX7_pay 67 = .ok (.putfield 308, 3) := by decide +kernel
theorem dX7_pay_70 : decode cX7_pay 70 = .ok (.aload_n 0, 1) := by decide +kernel
theorem dX7_pay_71 : decode cX7_pay 71 = .ok (.getfield 71, 3) := by decide +kernel
theorem dX7_pay_74 : decode cX7_pay 74 = .ok (.getfield 170, 3) := by decide +kernel
theorem dX7_pay_77 : decode cX7_pay 77 = .ok (.iload_n 1, 1) := by decide +kernel
theorem dX7_pay_78 : decode cX7_pay 78 = .ok (.aaload, 1) := by decide +kernel
theorem dX7_pay_79 : decode cX7_pay 79 = .ok (.getfield 182, 3) := by decide +kernel
theorem dX7_pay_82 : decode cX7_pay 82 = .ok (.ireturn, 1) := by decide +kernel
theorem dX7_advance_0 : decode cX7_advance 0 = .ok (.iload_n 1, 1) := by decide +kernel
theorem dX7_advance_1 : decode cX7_advance 1 = .ok (.iconst 1, 1) := by decide +kernel
theorem dX7_advance_2 : decode cX7_advance 2 = .ok (.if_icmp .lt 9, 3) := by decide +kernel
theorem dX7_advance_5 : decode cX7_advance 5 = .ok (.iload_n 1, 1) := by decide +kernel
theorem dX7_advance_6 : decode cX7_advance 6 = .ok (.bipush 99, 2) := by decide +kernel
theorem dX7_advance_8 : decode cX7_advance 8 = .ok (.if_icmp .le 13, 3) := by decide +kernel
theorem dX7_advance_11 : decode cX7_advance 11 = .ok (.new 99, 3) := by decide +kernel
theorem dX7_advance_14 : decode cX7_advance 14 = .ok (.dup, 1) := by decide +kernel
theorem dX7_advance_15 : decode cX7_advance 15 = .ok (.ldc 246, 2) := by decide +kernel
theorem dX7_advance_17 : decode cX7_advance 17 = .ok (.invokespecial 103, 3) := by decide +kernel
theorem dX7_advance_20 : decode cX7_advance 20 = .ok (.athrow, 1) := by decide +kernel
theorem dX7_advance_21 : decode cX7_advance 21 = .ok (.aload_n 0, 1) := by decide +kernel
theorem dX7_advance_22 : decode cX7_advance 22 = .ok (.getfield 71, 3) := by decide +kernel
theorem dX7_advance_25 : decode cX7_advance 25 = .ok (.getfield 114, 3) := by decide +kernel
theorem dX7_advance_28 : decode cX7_advance 28 = .ok (.iload_n 1, 1) := by decide +kernel
theorem dX7_advance_29 : decode cX7_advance 29 = .ok (.iadd, 1) := by decide +kernel
theorem dX7_advance_30 : decode cX7_advance 30 = .ok (.sipush 9999, 3) := by decide +kernel
theorem dX7_advance_33 : decode cX7_advance 33 = .ok (.if_icmp .le 14, 3) := by decide +kernel
theorem dX7_advance_36 : decode cX7_advance 36 = .ok (.new 74, 3) := by decide +kernel
theorem dX7_advance_39 : decode cX7_advance 39 = .ok (.dup, 1) := by decide +kernel
theorem dX7_advance_40 : decode cX7_advance 40 = .ok (.ldc_w 311, 3) := by decide +kernel
theorem dX7_advance_43 : decode cX7_advance 43 = .ok (.invokespecial 78, 3) := by decide +kernel
theorem dX7_advance_46 : decode cX7_advance 46 = .ok (.athrow, 1) := by decide +kernel
theorem dX7_advance_47 : decode cX7_advance 47 = .ok (.aload_n 0, 1) := by decide +kernel
theorem dX7_advance_48 : decode cX7_advance 48 = .ok (.getfield 19, 3) := by decide +kernel
theorem dX7_advance_51 : decode cX7_advance 51 = .ok (.aload_n 0, 1) := by decide +kernel
theorem dX7_advance_52 : decode cX7_advance 52 = .ok (.getfield 71, 3) := by decide +kernel
theorem dX7_advance_55 : decode cX7_advance 55 = .ok (.invokevirtual 260, 3) := by decide +kernel
theorem dX7_advance_58 : decode cX7_advance 58 = .ok (.aload_n 0, 1) := by decide +kernel
theorem dX7_advance_59 : decode cX7_advance 59 = .ok (.getfield 71, 3) := by decide +kernel
theorem dX7_advance_62 : decode cX7_advance 62 = .ok (.iload_n 1, 1) := by decide +kernel
theorem dX7_advance_63 : decode cX7_advance 63 = .ok (.invokevirtual 313, 3) := by decide +kernel
theorem dX7_advance_66 : decode cX7_advance 66 = .ok (.ireturn, 1) := by decide +kernel
theorem dX7_restore_0 : decode cX7_restore 0 = .ok (.iload_n 1, 1) := by decide +kernel
theorem dX7_restore_1 : decode cX7_restore 1 = .ok (.invokestatic 316, 3) := by decide +kernel
theorem dX7_restore_4 : decode cX7_restore 4 = .ok (.aload_n 0, 1) := by decide +kernel
theorem dX7_restore_5 : decode cX7_restore 5 = .ok (.getfield 27, 3) := by decide +kernel
theorem dX7_restore_8 : decode cX7_restore 8 = .ok (.iload_n 1, 1) := by decide +kernel
theorem dX7_restore_9 : decode cX7_restore 9 = .ok (.baload, 1) := by decide +kernel
theorem dX7_restore_10 : decode cX7_restore 10 = .ok (.ifCond .ne 14, 3) := by decide +kernel
theorem dX7_restore_13 : decode cX7_restore 13 = .ok (.new 74, 3) := by decide +kernel
theorem dX7_restore_16 : decode cX7_restore 16 = .ok (.dup, 1) := by decide +kernel
theorem dX7_restore_17 : decode cX7_restore 17 = .ok (.ldc_w 319, 3) := by decide +kernel
theorem dX7_restore_20 : decode cX7_restore 20 = .ok (.invokespecial 78, 3) := by decide +kernel
theorem dX7_restore_23 : decode cX7_restore 23 = .ok (.athrow, 1) := by decide +kernel
theorem dX7_restore_24 : decode cX7_restore 24 = .ok (.aload_n 0, 1) := by decide +kernel
theorem dX7_restore_25 : decode cX7_restore 25 = .ok (.getfield 19, 3) := by decide +kernel
theorem dX7_restore_28 : decode cX7_restore 28 = .ok (.aload_n 0, 1) := by decide +kernel
theorem dX7_restore_29 : decode cX7_restore 29 = .ok (.getfield 71, 3) := by decide +kernel
theorem dX7_restore_32 : decode cX7_restore 32 = .ok (.invokevirtual 260, 3) := by decide +kernel
theorem dX7_restore_35 : decode cX7_restore 35 = .ok (.aload_n 0, 1) := by decide +kernel
theorem dX7_restore_36 : decode cX7_restore 36 = .ok (.getfield 71, 3) := by decide +kernel
theorem dX7_restore_39 : decode cX7_restore 39 = .ok (.aload_n 0, 1) := by decide +kernel
theorem dX7_restore_40 : decode cX7_restore 40 = .ok (.getfield 23, 3) := by decide +kernel
theorem dX7_restore_43 : decode cX7_restore 43 = .ok (.iload_n 1, 1) := by decide +kernel
theorem dX7_restore_44 : decode cX7_restore 44 = .ok (.aaload, 1) := by decide +kernel
theorem dX7_restore_45 : decode cX7_restore 45 = .ok (.invokevirtual 104, 3) := by decide +kernel
theorem dX7_restore_48 : decode cX7_restore 48 = .ok (.aload_n 0, 1) := by decide +kernel
theorem dX7_restore_49 : decode cX7_restore 49 = .ok (.getfield 71, 3) := by decide +kernel
theorem dX7_restore_52 : decode cX7_restore 52 = .ok (.getfield 114, 3) := by decide +kernel
theorem dX7_restore_55 : decode cX7_restore 55 = .ok (.ireturn, 1) := by decide +kernel
theorem dX7_undo_0 : decode cX7_undo 0 = .ok (.aload_n 0, 1) := by decide +kernel
theorem dX7_undo_1 : decode cX7_undo 1 = .ok (.getfield 19, 3) := by decide +kernel
theorem dX7_undo_4 : decode cX7_undo 4 = .ok (.getfield 142, 3) := by decide +kernel
theorem dX7_undo_7 : decode cX7_undo 7 = .ok (.ifCond .ne 14, 3) := by decide +kernel
theorem dX7_undo_10 : decode cX7_undo 10 = .ok (.new 74, 3) := by decide +kernel
theorem dX7_undo_13 : decode cX7_undo 13 = .ok (.dup, 1) := by decide +kernel
theorem dX7_undo_14 : decode cX7_undo 14 = .ok (.ldc_w 321, 3) := by decide +kernel
theorem dX7_undo_17 : decode cX7_undo 17 = .ok (.invokespecial 78, 3) := by decide +kernel
theorem dX7_undo_20 : decode cX7_undo 20 = .ok (.athrow, 1) := by decide +kernel
theorem dX7_undo_21 : decode cX7_undo 21 = .ok (.aload_n 0, 1) := by decide +kernel
theorem dX7_undo_22 : decode cX7_undo 22 = .ok (.getfield 19, 3) := by decide +kernel
theorem dX7_undo_25 : decode cX7_undo 25 = .ok (.aload_n 0, 1) := by decide +kernel
theorem dX7_undo_26 : decode cX7_undo 26 = .ok (.getfield 71, 3) := by decide +kernel
theorem dX7_undo_29 : decode cX7_undo 29 = .ok (.invokevirtual 323, 3) := by decide +kernel
theorem dX7_undo_32 : decode cX7_undo 32 = .ok (.aload_n 0, 1) := by decide +kernel
theorem dX7_undo_33 : decode cX7_undo 33 = .ok (.getfield 19, 3) := by decide +kernel
theorem dX7_undo_36 : decode cX7_undo 36 = .ok (.getfield 142, 3) := by decide +kernel
theorem dX7_undo_39 : decode cX7_undo 39 = .ok (.ireturn, 1) := by decide +kernel
theorem dX7_save_0 : decode cX7_save 0 = .ok (.iload_n 1, 1) := by decide +kernel
theorem dX7_save_1 : decode cX7_save 1 = .ok (.invokestatic 316, 3) := by decide +kernel
theorem dX7_save_4 : decode cX7_save 4 = .ok (.aload_n 0, 1) := by decide +kernel
theorem dX7_save_5 : decode cX7_save 5 = .ok (.getfield 23, 3) := by decide +kernel
theorem dX7_save_8 : decode cX7_save 8 = .ok (.iload_n 1, 1) := by decide +kernel
theorem dX7_save_9 : decode cX7_save 9 = .ok (.aaload, 1) := by decide +kernel
theorem dX7_save_10 : decode cX7_save 10 = .ok (.aload_n 0, 1) := by decide +kernel
theorem dX7_save_11 : decode cX7_save 11 = .ok (.getfield 71, 3) := by decide +kernel
theorem dX7_save_14 : decode cX7_save 14 = .ok (.invokevirtual 104, 3) := by decide +kernel
theorem dX7_save_17 : decode cX7_save 17 = .ok (.aload_n 0, 1) := by decide +kernel
theorem dX7_save_18 : decode cX7_save 18 = .ok (.getfield 27, 3) := by decide +kernel
theorem dX7_save_21 : decode cX7_save 21 = .ok (.iload_n 1, 1) := by decide +kernel
theorem dX7_save_22 : decode cX7_save 22 = .ok (.iconst 1, 1) := by decide +kernel
theorem dX7_save_23 : decode cX7_save 23 = .ok (.bastore, 1) := by decide +kernel
theorem dX7_save_24 : decode cX7_save 24 = .ok (.aload_n 0, 1) := by decide +kernel
theorem dX7_save_25 : decode cX7_save 25 = .ok (.getfield 71, 3) := by decide +kernel
theorem dX7_save_28 : decode cX7_save 28 = .ok (.getfield 114, 3) := by decide +kernel
theorem dX7_save_31 : decode cX7_save 31 = .ok (.ireturn, 1) := by decide +kernel
theorem dX7_needStreet_0 : decode cX7_needStreet 0 = .ok (.iload_n 1, 1) := by decide +kernel
theorem dX7_needStreet_1 : decode cX7_needStreet 1 = .ok (.ifCond .lt 14, 3) := by decide +kernel
theorem dX7_needStreet_4 : decode cX7_needStreet 4 = .ok (.iload_n 1, 1) := by decide +kernel
theorem dX7_needStreet_5 : decode cX7_needStreet 5 = .ok (.aload_n 0, 1) := by decide +kernel
theorem dX7_needStreet_6 : decode cX7_needStreet 6 = .ok (.getfield 71, 3) := by decide +kernel
theorem dX7_needStreet_9 : decode cX7_needStreet 9 = .ok (.getfield 127, 3) := by decide +kernel
theorem dX7_needStreet_12 : decode cX7_needStreet 12 = .ok (.if_icmp .lt 14, 3) := by decide +kernel
theorem dX7_needStreet_15 : decode cX7_needStreet 15 = .ok (.new 85, 3) := by decide +kernel
theorem dX7_needStreet_18 : decode cX7_needStreet 18 = .ok (.dup, 1) := by decide +kernel
theorem dX7_needStreet_19 : decode cX7_needStreet 19 = .ok (.ldc_w 359, 3) := by decide +kernel
theorem dX7_needStreet_22 : decode cX7_needStreet 22 = .ok (.invokespecial 89, 3) := by decide +kernel
theorem dX7_needStreet_25 : decode cX7_needStreet 25 = .ok (.athrow, 1) := by decide +kernel
theorem dX7_needStreet_26 : decode cX7_needStreet 26 = .ok (.return_, 1) := by decide +kernel
theorem dX7_needBorrower_0 : decode cX7_needBorrower 0 = .ok (.iload_n 1, 1) := by decide +kernel
theorem dX7_needBorrower_1 : decode cX7_needBorrower 1 = .ok (.ifCond .lt 14, 3) := by decide +kernel
theorem dX7_needBorrower_4 : decode cX7_needBorrower 4 = .ok (.iload_n 1, 1) := by decide +kernel
theorem dX7_needBorrower_5 : decode cX7_needBorrower 5 = .ok (.aload_n 0, 1) := by decide +kernel
theorem dX7_needBorrower_6 : decode cX7_needBorrower 6 = .ok (.getfield 71, 3) := by decide +kernel
theorem dX7_needBorrower_9 : decode cX7_needBorrower 9 = .ok (.getfield 130, 3) := by decide +kernel
theorem dX7_needBorrower_12 : decode cX7_needBorrower 12 = .ok (.if_icmp .lt 14, 3) := by decide +kernel
theorem dX7_needBorrower_15 : decode cX7_needBorrower 15 = .ok (.new 85, 3) := by decide +kernel
theorem dX7_needBorrower_18 : decode cX7_needBorrower 18 = .ok (.dup, 1) := by decide +kernel
theorem dX7_needBorrower_19 : decode cX7_needBorrower 19 = .ok (.ldc_w 361, 3) := by decide +kernel
theorem dX7_needBorrower_22 : decode cX7_needBorrower 22 = .ok (.invokespecial 89, 3) := by decide +kernel
theorem dX7_needBorrower_25 : decode cX7_needBorrower 25 = .ok (.athrow, 1) := by decide +kernel
theorem dX7_needBorrower_26 : decode cX7_needBorrower 26 = .ok (.return_, 1) := by decide +kernel
theorem dX7_needLoan_0 : decode cX7_needLoan 0 = .ok (.iload_n 1, 1) := by decide +kernel
theorem dX7_needLoan_1 : decode cX7_needLoan 1 = .ok (.ifCond .lt 14, 3) := by decide +kernel
theorem dX7_needLoan_4 : decode cX7_needLoan 4 = .ok (.iload_n 1, 1) := by decide +kernel
theorem dX7_needLoan_5 : decode cX7_needLoan 5 = .ok (.aload_n 0, 1) := by decide +kernel
theorem dX7_needLoan_6 : decode cX7_needLoan 6 = .ok (.getfield 71, 3) := by decide +kernel
theorem dX7_needLoan_9 : decode cX7_needLoan 9 = .ok (.getfield 111, 3) := by decide +kernel
theorem dX7_needLoan_12 : decode cX7_needLoan 12 = .ok (.if_icmp .lt 14, 3) := by decide +kernel
theorem dX7_needLoan_15 : decode cX7_needLoan 15 = .ok (.new 85, 3) := by decide +kernel
theorem dX7_needLoan_18 : decode cX7_needLoan 18 = .ok (.dup, 1) := by decide +kernel
theorem dX7_needLoan_19 : decode cX7_needLoan 19 = .ok (.ldc_w 363, 3) := by decide +kernel
theorem dX7_needLoan_22 : decode cX7_needLoan 22 = .ok (.invokespecial 89, 3) := by decide +kernel
theorem dX7_needLoan_25 : decode cX7_needLoan 25 = .ok (.athrow, 1) := by decide +kernel
theorem dX7_needLoan_26 : decode cX7_needLoan 26 = .ok (.return_, 1) := by decide +kernel
theorem dX7_needSlot_0 : decode cX7_needSlot 0 = .ok (.iload_n 0, 1) := by decide +kernel
theorem dX7_needSlot_1 : decode cX7_needSlot 1 = .ok (.ifCond .lt 8, 3) := by decide +kernel
theorem dX7_needSlot_4 : decode cX7_needSlot 4 = .ok (.iload_n 0, 1) := by decide +kernel
theorem dX7_needSlot_5 : decode cX7_needSlot 5 = .ok (.iconst 2, 1) := by decide +kernel
theorem dX7_needSlot_6 : decode cX7_needSlot 6 = .ok (.if_icmp .lt 14, 3) := by decide +kernel
theorem dX7_needSlot_9 : decode cX7_needSlot 9 = .ok (.new 85, 3) := by decide +kernel
theorem dX7_needSlot_12 : decode cX7_needSlot 12 = .ok (.dup, 1) := by decide +kernel
theorem dX7_needSlot_13 : decode cX7_needSlot 13 = .ok (.ldc_w 365, 3) := by decide +kernel
theorem dX7_needSlot_16 : decode cX7_needSlot 16 = .ok (.invokespecial 89, 3) := by decide +kernel
theorem dX7_needSlot_19 : decode cX7_needSlot 19 = .ok (.athrow, 1) := by decide +kernel
theorem dX7_needSlot_20 : decode cX7_needSlot 20 = .ok (.return_, 1) := by decide +kernel
theorem dX7_needHour_0 : decode cX7_needHour 0 = .ok (.iload_n 1, 1) := by decide +kernel
theorem dX7_needHour_1 : decode cX7_needHour 1 = .ok (.aload_n 0, 1) := by decide +kernel
theorem dX7_needHour_2 : decode cX7_needHour 2 = .ok (.getfield 71, 3) := by decide +kernel
theorem dX7_needHour_5 : decode cX7_needHour 5 = .ok (.getfield 114, 3) := by decide +kernel
theorem dX7_needHour_8 : decode cX7_needHour 8 = .ok (.if_icmp .lt 17, 3) := by decide +kernel
theorem dX7_needHour_11 : decode cX7_needHour 11 = .ok (.iload_n 1, 1) := by decide +kernel
theorem dX7_needHour_12 : decode cX7_needHour 12 = .ok (.aload_n 0, 1) := by decide +kernel
theorem dX7_needHour_13 : decode cX7_needHour 13 = .ok (.getfield 71, 3) := by decide +kernel
theorem dX7_needHour_16 : decode cX7_needHour 16 = .ok (.getfield 114, 3) := by decide +kernel
theorem dX7_needHour_19 : decode cX7_needHour 19 = .ok (.bipush 48, 2) := by decide +kernel
theorem dX7_needHour_21 : decode cX7_needHour 21 = .ok (.iadd, 1) := by decide +kernel
theorem dX7_needHour_22 : decode cX7_needHour 22 = .ok (.if_icmp .lt 14, 3) := by decide +kernel
theorem dX7_needHour_25 : decode cX7_needHour 25 = .ok (.new 99, 3) := by decide +kernel
theorem dX7_needHour_28 : decode cX7_needHour 28 = .ok (.dup, 1) := by decide +kernel
theorem dX7_needHour_29 : decode cX7_needHour 29 = .ok (.ldc_w 367, 3) := by decide +kernel
theorem dX7_needHour_32 : decode cX7_needHour 32 = .ok (.invokespecial 103, 3) := by decide +kernel
theorem dX7_needHour_35 : decode cX7_needHour 35 = .ok (.athrow, 1) := by decide +kernel
theorem dX7_needHour_36 : decode cX7_needHour 36 = .ok (.return_, 1) := by decide +kernel
theorem dX7_needLength_0 : decode cX7_needLength 0 = .ok (.iload_n 0, 1) := by decide +kernel
theorem dX7_needLength_1 : decode cX7_needLength 1 = .ok (.iconst 1, 1) := by decide +kernel
theorem dX7_needLength_2 : decode cX7_needLength 2 = .ok (.if_icmp .lt 8, 3) := by decide +kernel
theorem dX7_needLength_5 : decode cX7_needLength 5 = .ok (.iload_n 0, 1) := by decide +kernel
theorem dX7_needLength_6 : decode cX7_needLength 6 = .ok (.iload_n 1, 1) := by decide +kernel
theorem dX7_needLength_7 : decode cX7_needLength 7 = .ok (.if_icmp .le 13, 3) := by decide +kernel
theorem dX7_needLength_10 : decode cX7_needLength 10 = .ok (.new 99, 3) := by decide +kernel
theorem dX7_needLength_13 : decode cX7_needLength 13 = .ok (.dup, 1) := by decide +kernel
theorem dX7_needLength_14 : decode cX7_needLength 14 = .ok (.ldc 87, 2) := by decide +kernel
theorem dX7_needLength_16 : decode cX7_needLength 16 = .ok (.invokespecial 103, 3) := by decide +kernel
theorem dX7_needLength_19 : decode cX7_needLength 19 = .ok (.athrow, 1) := by decide +kernel
theorem dX7_needLength_20 : decode cX7_needLength 20 = .ok (.return_, 1) := by decide +kernel
theorem dX7_needSpan_0 : decode cX7_needSpan 0 = .ok (.iload_n 2, 1) := by decide +kernel
theorem dX7_needSpan_1 : decode cX7_needSpan 1 = .ok (.iload_n 3, 1) := by decide +kernel
theorem dX7_needSpan_2 : decode cX7_needSpan 2 = .ok (.invokestatic 217, 3) := by decide +kernel
theorem dX7_needSpan_5 : decode cX7_needSpan 5 = .ok (.iload_n 1, 1) := by decide +kernel
theorem dX7_needSpan_6 : decode cX7_needSpan 6 = .ok (.aload_n 0, 1) := by decide +kernel
theorem dX7_needSpan_7 : decode cX7_needSpan 7 = .ok (.getfield 71, 3) := by decide +kernel
theorem dX7_needSpan_10 : decode cX7_needSpan 10 = .ok (.getfield 114, 3) := by decide +kernel
theorem dX7_needSpan_13 : decode cX7_needSpan 13 = .ok (.if_icmp .lt 19, 3) := by decide +kernel
theorem dX7_needSpan_16 : decode cX7_needSpan 16 = .ok (.iload_n 1, 1) := by decide +kernel
theorem dX7_needSpan_17 : decode cX7_needSpan 17 = .ok (.aload_n 0, 1) := by decide +kernel
theorem dX7_needSpan_18 : decode cX7_needSpan 18 = .ok (.getfield 71, 3) := by decide +kernel
theorem dX7_needSpan_21 : decode cX7_needSpan 21 = .ok (.getfield 114, 3) := by decide +kernel
theorem dX7_needSpan_24 : decode cX7_needSpan 24 = .ok (.bipush 48, 2) := by decide +kernel
theorem dX7_needSpan_26 : decode cX7_needSpan 26 = .ok (.iadd, 1) := by decide +kernel
theorem dX7_needSpan_27 : decode cX7_needSpan 27 = .ok (.iload_n 2, 1) := by decide +kernel
theorem dX7_needSpan_28 : decode cX7_needSpan 28 = .ok (.isub, 1) := by decide +kernel
theorem dX7_needSpan_29 : decode cX7_needSpan 29 = .ok (.if_icmp .le 14, 3) := by decide +kernel
theorem dX7_needSpan_32 : decode cX7_needSpan 32 = .ok (.new 99, 3) := by decide +kernel
theorem dX7_needSpan_35 : decode cX7_needSpan 35 = .ok (.dup, 1) := by decide +kernel
theorem dX7_needSpan_36 : decode cX7_needSpan 36 = .ok (.ldc_w 369, 3) := by decide +kernel
theorem dX7_needSpan_39 : decode cX7_needSpan 39 = .ok (.invokespecial 103, 3) := by decide +kernel
theorem dX7_needSpan_42 : decode cX7_needSpan 42 = .ok (.athrow, 1) := by decide +kernel
theorem dX7_needSpan_43 : decode cX7_needSpan 43 = .ok (.return_, 1) := by decide +kernel
theorem dX7_appendWord_0 : decode cX7_appendWord 0 = .ok (.bipush 24, 2) := by decide +kernel
theorem dX7_appendWord_2 : decode cX7_appendWord 2 = .ok (.istore_n 2, 1) := by decide +kernel
theorem dX7_appendWord_3 : decode cX7_appendWord 3 = .ok (.iload_n 2, 1) := by decide +kernel
theorem dX7_appendWord_4 : decode cX7_appendWord 4 = .ok (.ifCond .lt 32, 3) := by decide +kernel
theorem dX7_appendWord_7 : decode cX7_appendWord 7 = .ok (.aload_n 0, 1) := by decide +kernel
theorem dX7_appendWord_8 : decode cX7_appendWord 8 = .ok (.getfield 31, 3) := by decide +kernel
theorem dX7_appendWord_11 : decode cX7_appendWord 11 = .ok (.aload_n 0, 1) := by decide +kernel
theorem dX7_appendWord_12 : decode cX7_appendWord 12 = .ok (.getfield 35, 3) := by decide +kernel
theorem dX7_appendWord_15 : decode cX7_appendWord 15 = .ok (.iload_n 1, 1) := by decide +kernel
theorem dX7_appendWord_16 : decode cX7_appendWord 16 = .ok (.iload_n 2, 1) := by decide +kernel
theorem dX7_appendWord_17 : decode cX7_appendWord 17 = .ok (.iushr, 1) := by decide +kernel
theorem dX7_appendWord_18 : decode cX7_appendWord 18 = .ok (.i2b, 1) := by decide +kernel
theorem dX7_appendWord_19 : decode cX7_appendWord 19 = .ok (.bastore, 1) := by decide +kernel
theorem dX7_appendWord_20 : decode cX7_appendWord 20 = .ok (.aload_n 0, 1) := by decide +kernel
theorem dX7_appendWord_21 : decode cX7_appendWord 21 = .ok (.dup, 1) := by decide +kernel
theorem dX7_appendWord_22 : decode cX7_appendWord 22 = .ok (.getfield 35, 3) := by decide +kernel
theorem dX7_appendWord_25 : decode cX7_appendWord 25 = .ok (.iconst 1, 1) := by decide +kernel
theorem dX7_appendWord_26 : decode cX7_appendWord 26 = .ok (.iadd, 1) := by decide +kernel
theorem dX7_appendWord_27 : decode cX7_appendWord 27 = .ok (.putfield 35, 3) := by decide +kernel
theorem dX7_appendWord_30 : decode cX7_appendWord 30 = .ok (.iinc 2 (-8), 3) := by decide +kernel
theorem dX7_appendWord_33 : decode cX7_appendWord 33 = .ok (.goto (-30), 3) := by decide +kernel
theorem dX7_appendWord_36 : decode cX7_appendWord 36 = .ok (.return_, 1) := by decide +kernel
theorem dX7_bytesOf_0 : decode cX7_bytesOf 0 = .ok (.aload_n 0, 1) := by decide +kernel
theorem dX7_bytesOf_1 : decode cX7_bytesOf 1 = .ok (.invokevirtual 59, 3) := by decide +kernel
theorem dX7_bytesOf_4 : decode cX7_bytesOf 4 = .ok (.newarray .byte, 2) := by decide +kernel
theorem dX7_bytesOf_6 : decode cX7_bytesOf 6 = .ok (.astore_n 1, 1) := by decide +kernel
theorem dX7_bytesOf_7 : decode cX7_bytesOf 7 = .ok (.iconst 0, 1) := by decide +kernel
theorem dX7_bytesOf_8 : decode cX7_bytesOf 8 = .ok (.istore_n 2, 1) := by decide +kernel
theorem dX7_bytesOf_9 : decode cX7_bytesOf 9 = .ok (.iload_n 2, 1) := by decide +kernel
theorem dX7_bytesOf_10 : decode cX7_bytesOf 10 = .ok (.aload_n 1, 1) := by decide +kernel
theorem dX7_bytesOf_11 : decode cX7_bytesOf 11 = .ok (.arraylength, 1) := by decide +kernel
theorem dX7_bytesOf_12 : decode cX7_bytesOf 12 = .ok (.if_icmp .ge 18, 3) := by decide +kernel
theorem dX7_bytesOf_15 : decode cX7_bytesOf 15 = .ok (.aload_n 1, 1) := by decide +kernel
theorem dX7_bytesOf_16 : decode cX7_bytesOf 16 = .ok (.iload_n 2, 1) := by decide +kernel
theorem dX7_bytesOf_17 : decode cX7_bytesOf 17 = .ok (.aload_n 0, 1) := by decide +kernel
theorem dX7_bytesOf_18 : decode cX7_bytesOf 18 = .ok (.iload_n 2, 1) := by decide +kernel
theorem dX7_bytesOf_19 : decode cX7_bytesOf 19 = .ok (.invokevirtual 371, 3) := by decide +kernel
theorem dX7_bytesOf_22 : decode cX7_bytesOf 22 = .ok (.i2b, 1) := by decide +kernel
theorem dX7_bytesOf_23 : decode cX7_bytesOf 23 = .ok (.bastore, 1) := by decide +kernel
theorem dX7_bytesOf_24 : decode cX7_bytesOf 24 = .ok (.iinc 2 1, 3) := by decide +kernel
theorem dX7_bytesOf_27 : decode cX7_bytesOf 27 = .ok (.goto (-18), 3) := by decide +kernel
theorem dX7_bytesOf_30 : decode cX7_bytesOf 30 = .ok (.aload_n 1, 1) := by decide +kernel
theorem dX7_bytesOf_31 : decode cX7_bytesOf 31 = .ok (.areturn, 1) := by decide +kernel
theorem dX7_isNightHour_0 : decode cX7_isNightHour 0 = .ok (.iload_n 0, 1) := by decide +kernel
theorem dX7_isNightHour_1 : decode cX7_isNightHour 1 = .ok (.bipush 24, 2) := by decide +kernel
theorem dX7_isNightHour_3 : decode cX7_isNightHour 3 = .ok (.irem, 1) := by decide +kernel
theorem dX7_isNightHour_4 : decode cX7_isNightHour 4 = .ok (.istore_n 1, 1) := by decide +kernel
theorem dX7_isNightHour_5 : decode cX7_isNightHour 5 = .ok (.iload_n 1, 1) := by decide +kernel
theorem dX7_isNightHour_6 : decode cX7_isNightHour 6 = .ok (.iconst 5, 1) := by decide +kernel
theorem dX7_isNightHour_7 : decode cX7_isNightHour 7 = .ok (.if_icmp .le 9, 3) := by decide +kernel
theorem dX7_isNightHour_10 : decode cX7_isNightHour 10 = .ok (.iload_n 1, 1) := by decide +kernel
theorem dX7_isNightHour_11 : decode cX7_isNightHour 11 = .ok (.bipush 22, 2) := by decide +kernel
theorem dX7_isNightHour_13 : decode cX7_isNightHour 13 = .ok (.if_icmp .lt 7, 3) := by decide +kernel
theorem dX7_isNightHour_16 : decode cX7_isNightHour 16 = .ok (.iconst 1, 1) := by decide +kernel
theorem dX7_isNightHour_17 : decode cX7_isNightHour 17 = .ok (.goto 4, 3) := by decide +kernel
theorem dX7_isNightHour_20 : decode cX7_isNightHour 20 = .ok (.iconst 0, 1) := by decide +kernel
theorem dX7_isNightHour_21 : decode cX7_isNightHour 21 = .ok (.ireturn, 1) := by decide +kernel
theorem dX7_nameWith_0 : decode cX7_nameWith 0 = .ok (.iload_n 0, 1) := by decide +kernel
theorem dX7_nameWith_1 : decode cX7_nameWith 1 = .ok (.iconst 5, 1) := by decide +kernel
theorem dX7_nameWith_2 : decode cX7_nameWith 2 = .ok (.ishl, 1) := by decide +kernel
theorem dX7_nameWith_3 : decode cX7_nameWith 3 = .ok (.iload_n 1, 1) := by decide +kernel
theorem dX7_nameWith_4 : decode cX7_nameWith 4 = .ok (.bipush 97, 2) := by decide +kernel
theorem dX7_nameWith_6 : decode cX7_nameWith 6 = .ok (.isub, 1) := by decide +kernel
theorem dX7_nameWith_7 : decode cX7_nameWith 7 = .ok (.iconst 1, 1) := by decide +kernel
theorem dX7_nameWith_8 : decode cX7_nameWith 8 = .ok (.iadd, 1) := by decide +kernel
theorem dX7_nameWith_9 : decode cX7_nameWith 9 = .ok (.ior, 1) := by decide +kernel
theorem dX7_nameWith_10 : decode cX7_nameWith 10 = .ok (.ireturn, 1) := by decide +kernel
