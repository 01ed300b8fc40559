theorem dX8_permits_60 : decode cX8_permits 60 = .ok (.iastore, 1) := by decide +kernel
theorem dX8_permits_61 : decode cX8_permits 61 = .ok (.return_, 1) := by decide +kernel
theorem dX8_canWhistle_0 : decode cX8_canWhistle 0 = .ok (.aload_n 0, 1) := by decide +kernel
theorem dX8_canWhistle_1 : decode cX8_canWhistle 1 = .ok (.getfield 13, 3) := by decide +kernel
theorem dX8_canWhistle_4 : decode cX8_canWhistle 4 = .ok (.iload_n 1, 1) := by decide +kernel
theorem dX8_canWhistle_5 : decode cX8_canWhistle 5 = .ok (.invokestatic 93, 3) := by decide +kernel
theorem dX8_canWhistle_8 : decode cX8_canWhistle 8 = .ok (.iconst 4, 1) := by decide +kernel
theorem dX8_canWhistle_9 : decode cX8_canWhistle 9 = .ok (.iadd, 1) := by decide +kernel
theorem dX8_canWhistle_10 : decode cX8_canWhistle 10 = .ok (.iaload, 1) := by decide +kernel
theorem dX8_canWhistle_11 : decode cX8_canWhistle 11 = .ok (.iconst 2, 1) := by decide +kernel
theorem dX8_canWhistle_12 : decode cX8_canWhistle 12 = .ok (.if_icmp .eq 18, 3) := by decide +kernel
theorem dX8_canWhistle_15 : decode cX8_canWhistle 15 = .ok (.aload_n 0, 1) := by decide +kernel
theorem dX8_canWhistle_16 : decode cX8_canWhistle 16 = .ok (.getfield 13, 3) := by decide +kernel
theorem dX8_canWhistle_19 : decode cX8_canWhistle 19 = .ok (.iload_n 1, 1) := by decide +kernel
theorem dX8_canWhistle_20 : decode cX8_canWhistle 20 = .ok (.invokestatic 93, 3) := by decide +kernel
theorem dX8_canWhistle_23 : decode cX8_canWhistle 23 = .ok (.iconst 4, 1) := by decide +kernel
theorem dX8_canWhistle_24 : decode cX8_canWhistle 24 = .ok (.iadd, 1) := by decide +kernel
theorem dX8_canWhistle_25 : decode cX8_canWhistle 25 = .ok (.iaload, 1) := by decide +kernel
theorem dX8_canWhistle_26 : decode cX8_canWhistle 26 = .ok (.iconst 4, 1) := by decide +kernel
theorem dX8_canWhistle_27 : decode cX8_canWhistle 27 = .ok (.if_icmp .ne 7, 3) := by decide +kernel
theorem dX8_canWhistle_30 : decode cX8_canWhistle 30 = .ok (.iconst 1, 1) := by decide +kernel
theorem dX8_canWhistle_31 : decode cX8_canWhistle 31 = .ok (.goto 4, 3) := by decide +kernel
theorem dX8_canWhistle_34 : decode cX8_canWhistle 34 = .ok (.iconst 0, 1) := by decide +kernel
theorem dX8_canWhistle_35 : decode cX8_canWhistle 35 = .ok (.ireturn, 1) := by decide +kernel
theorem dX8_begins_0 : decode cX8_begins 0 = .ok (.iconst 0, 1) := by decide +kernel
theorem dX8_begins_1 : decode cX8_begins 1 = .ok (.istore_n 1, 1) := by decide +kernel
theorem dX8_begins_2 : decode cX8_begins 2 = .ok (.iload_n 1, 1) := by decide +kernel
theorem dX8_begins_3 : decode cX8_begins 3 = .ok (.aload_n 0, 1) := by decide +kernel
theorem dX8_begins_4 : decode cX8_begins 4 = .ok (.getfield 13, 3) := by decide +kernel
theorem dX8_begins_7 : decode cX8_begins 7 = .ok (.bipush 6, 2) := by decide +kernel
theorem dX8_begins_9 : decode cX8_begins 9 = .ok (.iaload, 1) := by decide +kernel
theorem dX8_begins_10 : decode cX8_begins 10 = .ok (.if_icmp .ge 55, 3) := by decide +kernel
theorem dX8_begins_13 : decode cX8_begins 13 = .ok (.aload_n 0, 1) := by decide +kernel
theorem dX8_begins_14 : decode cX8_begins 14 = .ok (.getfield 13, 3) := by decide +kernel
theorem dX8_begins_17 : decode cX8_begins 17 = .ok (.iload_n 1, 1) := by decide +kernel
theorem dX8_begins_18 : decode cX8_begins 18 = .ok (.invokestatic 93, 3) := by decide +kernel
theorem dX8_begins_21 : decode cX8_begins 21 = .ok (.iconst 4, 1) := by decide +kernel
theorem dX8_begins_22 : decode cX8_begins 22 = .ok (.iadd, 1) := by decide +kernel
theorem dX8_begins_23 : decode cX8_begins 23 = .ok (.iaload, 1) := by decide +kernel
theorem dX8_begins_24 : decode cX8_begins 24 = .ok (.ifCond .ne 35, 3) := by decide +kernel
theorem dX8_begins_27 : decode cX8_begins 27 = .ok (.aload_n 0, 1) := by decide +kernel
theorem dX8_begins_28 : decode cX8_begins 28 = .ok (.getfield 13, 3) := by decide +kernel
theorem dX8_begins_31 : decode cX8_begins 31 = .ok (.iload_n 1, 1) := by decide +kernel
theorem dX8_begins_32 : decode cX8_begins 32 = .ok (.invokestatic 93, 3) := by decide +kernel
theorem dX8_begins_35 : decode cX8_begins 35 = .ok (.iconst 1, 1) := by decide +kernel
theorem dX8_begins_36 : decode cX8_begins 36 = .ok (.iadd, 1) := by decide +kernel
theorem dX8_begins_37 : decode cX8_begins 37 = .ok (.iaload, 1) := by decide +kernel
theorem dX8_begins_38 : decode cX8_begins 38 = .ok (.aload_n 0, 1) := by decide +kernel
theorem dX8_begins_39 : decode cX8_begins 39 = .ok (.getfield 13, 3) := by decide +kernel
theorem dX8_begins_42 : decode cX8_begins 42 = .ok (.iconst 2, 1) := by decide +kernel
theorem dX8_begins_43 : decode cX8_begins 43 = .ok (.iaload, 1) := by decide +kernel
theorem dX8_begins_44 : decode cX8_begins 44 = .ok (.if_icmp .ne 15, 3) := by decide +kernel
theorem dX8_begins_47 : decode cX8_begins 47 = .ok (.aload_n 0, 1) := by decide +kernel
theorem dX8_begins_48 : decode cX8_begins 48 = .ok (.getfield 13, 3) := by decide +kernel
theorem dX8_begins_51 : decode cX8_begins 51 = .ok (.iload_n 1, 1) := by decide +kernel
theorem dX8_begins_52 : decode cX8_begins 52 = .ok (.invokestatic 93, 3) := by decide +kernel
theorem dX8_begins_55 : decode cX8_begins 55 = .ok (.iconst 4, 1) := by decide +kernel
theorem dX8_begins_56 : decode cX8_begins 56 = .ok (.iadd, 1) := by decide +kernel
theorem dX8_begins_57 : decode cX8_begins 57 = .ok (.iconst 1, 1) := by decide +kernel
theorem dX8_begins_58 : decode cX8_begins 58 = .ok (.iastore, 1) := by decide +kernel
theorem dX8_begins_59 : decode cX8_begins 59 = .ok (.iinc 1 1, 3) := by decide +kernel
theorem dX8_begins_62 : decode cX8_begins 62 = .ok (.goto (-60), 3) := by decide +kernel
theorem dX8_begins_65 : decode cX8_begins 65 = .ok (.return_, 1) := by decide +kernel
theorem dX8_sounds_0 : decode cX8_sounds 0 = .ok (.aload_n 0, 1) := by decide +kernel
theorem dX8_sounds_1 : decode cX8_sounds 1 = .ok (.aload_n 0, 1) := by decide +kernel
theorem dX8_sounds_2 : decode cX8_sounds 2 = .ok (.getfield 13, 3) := by decide +kernel
theorem dX8_sounds_5 : decode cX8_sounds 5 = .ok (.iconst 2, 1) := by decide +kernel
theorem dX8_sounds_6 : decode cX8_sounds 6 = .ok (.iaload, 1) := by decide +kernel
theorem dX8_sounds_7 : decode cX8_sounds 7 = .ok (.invokevirtual 109, 3) := by decide +kernel
theorem dX8_sounds_10 : decode cX8_sounds 10 = .ok (.istore_n 1, 1) := by decide +kernel
theorem dX8_sounds_11 : decode cX8_sounds 11 = .ok (.iconst 0, 1) := by decide +kernel
theorem dX8_sounds_12 : decode cX8_sounds 12 = .ok (.istore_n 2, 1) := by decide +kernel
theorem dX8_sounds_13 : decode cX8_sounds 13 = .ok (.iload_n 2, 1) := by decide +kernel
theorem dX8_sounds_14 : decode cX8_sounds 14 = .ok (.aload_n 0, 1) := by decide +kernel
theorem dX8_sounds_15 : decode cX8_sounds 15 = .ok (.getfield 13, 3) := by decide +kernel
theorem dX8_sounds_18 : decode cX8_sounds 18 = .ok (.iconst 3, 1) := by decide +kernel
theorem dX8_sounds_19 : decode cX8_sounds 19 = .ok (.iaload, 1) := by decide +kernel
theorem dX8_sounds_20 : decode cX8_sounds 20 = .ok (.if_icmp .ge 79, 3) := by decide +kernel
theorem dX8_sounds_23 : decode cX8_sounds 23 = .ok (.aload_n 0, 1) := by decide +kernel
theorem dX8_sounds_24 : decode cX8_sounds 24 = .ok (.getfield 28, 3) := by decide +kernel
theorem dX8_sounds_27 : decode cX8_sounds 27 = .ok (.iload_n 2, 1) := by decide +kernel
theorem dX8_sounds_28 : decode cX8_sounds 28 = .ok (.aload_n 0, 1) := by decide +kernel
theorem dX8_sounds_29 : decode cX8_sounds 29 = .ok (.iload_n 2, 1) := by decide +kernel
theorem dX8_sounds_30 : decode cX8_sounds 30 = .ok (.aload_n 0, 1) := by decide +kernel
theorem dX8_sounds_31 : decode cX8_sounds 31 = .ok (.getfield 13, 3) := by decide +kernel
theorem dX8_sounds_34 : decode cX8_sounds 34 = .ok (.iconst 2, 1) := by decide +kernel
theorem dX8_sounds_35 : decode cX8_sounds 35 = .ok (.iaload, 1) := by decide +kernel
theorem dX8_sounds_36 : decode cX8_sounds 36 = .ok (.invokevirtual 144, 3) := by decide +kernel
theorem dX8_sounds_39 : decode cX8_sounds 39 = .ok (.iastore, 1) := by decide +kernel
theorem dX8_sounds_40 : decode cX8_sounds 40 = .ok (.aload_n 0, 1) := by decide +kernel
theorem dX8_sounds_41 : decode cX8_sounds 41 = .ok (.getfield 13, 3) := by decide +kernel
theorem dX8_sounds_44 : decode cX8_sounds 44 = .ok (.iload_n 2, 1) := by decide +kernel
theorem dX8_sounds_45 : decode cX8_sounds 45 = .ok (.invokestatic 71, 3) := by decide +kernel
theorem dX8_sounds_48 : decode cX8_sounds 48 = .ok (.iconst 2, 1) := by decide +kernel
theorem dX8_sounds_49 : decode cX8_sounds 49 = .ok (.iadd, 1) := by decide +kernel
theorem dX8_sounds_50 : decode cX8_sounds 50 = .ok (.dup2, 1) := by decide +kernel
theorem dX8_sounds_51 : decode cX8_sounds 51 = .ok (.iaload, 1) := by decide +kernel
theorem dX8_sounds_52 : decode cX8_sounds 52 = .ok (.aload_n 0, 1) := by decide +kernel
theorem dX8_sounds_53 : decode cX8_sounds 53 = .ok (.getfield 28, 3) := by decide +kernel
theorem dX8_sounds_56 : decode cX8_sounds 56 = .ok (.iload_n 2, 1) := by decide +kernel
theorem dX8_sounds_57 : decode cX8_sounds 57 = .ok (.iaload, 1) := by decide +kernel
theorem dX8_sounds_58 : decode cX8_sounds 58 = .ok (.iadd, 1) := by decide +kernel
theorem dX8_sounds_59 : decode cX8_sounds 59 = .ok (.iastore, 1) := by decide +kernel
theorem dX8_sounds_60 : decode cX8_sounds 60 = .ok (.aload_n 0, 1) := by decide +kernel
theorem dX8_sounds_61 : decode cX8_sounds 61 = .ok (.getfield 13, 3) := by decide +kernel
theorem dX8_sounds_64 : decode cX8_sounds 64 = .ok (.iload_n 2, 1) := by decide +kernel
theorem dX8_sounds_65 : decode cX8_sounds 65 = .ok (.invokestatic 71, 3) := by decide +kernel
theorem dX8_sounds_68 : decode cX8_sounds 68 = .ok (.iconst 3, 1) := by decide +kernel
theorem dX8_sounds_69 : decode cX8_sounds 69 = .ok (.iadd, 1) := by decide +kernel
theorem dX8_sounds_70 : decode cX8_sounds 70 = .ok (.dup2, 1) := by decide +kernel
theorem dX8_sounds_71 : decode cX8_sounds 71 = .ok (.iaload, 1) := by decide +kernel
theorem dX8_sounds_72 : decode cX8_sounds 72 = .ok (.iload_n 1, 1) := by decide +kernel
theorem dX8_sounds_73 : decode cX8_sounds 73 = .ok (.iconst (-1), 1) := by decide +kernel
theorem dX8_sounds_74 : decode cX8_sounds 74 = .ok (.if_icmp .eq 16, 3) := by decide +kernel
theorem dX8_sounds_77 : decode cX8_sounds 77 = .ok (.aload_n 0, 1) := by decide +kernel
theorem dX8_sounds_78 : decode cX8_sounds 78 = .ok (.iload_n 1, 1) := by decide +kernel
theorem dX8_sounds_79 : decode cX8_sounds 79 = .ok (.invokevirtual 112, 3) := by decide +kernel
theorem dX8_sounds_82 : decode cX8_sounds 82 = .ok (.iload_n 2, 1) := by decide +kernel
theorem dX8_sounds_83 : decode cX8_sounds 83 = .ok (.if_icmp .ne 7, 3) := by decide +kernel
theorem dX8_sounds_86 : decode cX8_sounds 86 = .ok (.iconst 1, 1) := by decide +kernel
theorem dX8_sounds_87 : decode cX8_sounds 87 = .ok (.goto 4, 3) := by decide +kernel
theorem dX8_sounds_90 : decode cX8_sounds 90 = .ok (.iconst 0, 1) := by decide +kernel
theorem dX8_sounds_91 : decode cX8_sounds 91 = .ok (.iadd, 1) := by decide +kernel
theorem dX8_sounds_92 : decode cX8_sounds 92 = .ok (.iastore, 1) := by decide +kernel
theorem dX8_sounds_93 : decode cX8_sounds 93 = .ok (.iinc 2 1, 3) := by decide +kernel
theorem dX8_sounds_96 : decode cX8_sounds 96 = .ok (.goto (-83), 3) := by decide +kernel
theorem dX8_sounds_99 : decode cX8_sounds 99 = .ok (.return_, 1) := by decide +kernel
theorem dX8_feels_0 : decode cX8_feels 0 = .ok (.iload_n 1, 1) := by decide +kernel
theorem dX8_feels_1 : decode cX8_feels 1 = .ok (.invokestatic 78, 3) := by decide +kernel
theorem dX8_feels_4 : decode cX8_feels 4 = .ok (.istore_n 2, 1) := by decide +kernel
theorem dX8_feels_5 : decode cX8_feels 5 = .ok (.aload_n 0, 1) := by decide +kernel
theorem dX8_feels_6 : decode cX8_feels 6 = .ok (.getfield 28, 3) := by decide +kernel
theorem dX8_feels_9 : decode cX8_feels 9 = .ok (.aload_n 0, 1) := by decide +kernel
theorem dX8_feels_10 : decode cX8_feels 10 = .ok (.iload_n 1, 1) := by decide +kernel
theorem dX8_feels_11 : decode cX8_feels 11 = .ok (.invokevirtual 106, 3) := by decide +kernel
theorem dX8_feels_14 : decode cX8_feels 14 = .ok (.iaload, 1) := by decide +kernel
theorem dX8_feels_15 : decode cX8_feels 15 = .ok (.istore_n 3, 1) := by decide +kernel
theorem dX8_feels_16 : decode cX8_feels 16 = .ok (.aload_n 0, 1) := by decide +kernel
theorem dX8_feels_17 : decode cX8_feels 17 = .ok (.getfield 13, 3) := by decide +kernel
theorem dX8_feels_20 : decode cX8_feels 20 = .ok (.iload_n 2, 1) := by decide +kernel
theorem dX8_feels_21 : decode cX8_feels 21 = .ok (.iconst 3, 1) := by decide +kernel
theorem dX8_feels_22 : decode cX8_feels 22 = .ok (.iadd, 1) := by decide +kernel
theorem dX8_feels_23 : decode cX8_feels 23 = .ok (.dup2, 1) := by decide +kernel
theorem dX8_feels_24 : decode cX8_feels 24 = .ok (.iaload, 1) := by decide +kernel
theorem dX8_feels_25 : decode cX8_feels 25 = .ok (.iload_n 3, 1) := by decide +kernel
theorem dX8_feels_26 : decode cX8_feels 26 = .ok (.ifCond .ne 7, 3) := by decide +kernel
theorem dX8_feels_29 : decode cX8_feels 29 = .ok (.iconst 1, 1) := by decide +kernel
theorem dX8_feels_30 : decode cX8_feels 30 = .ok (.goto 4, 3) := by decide +kernel
theorem dX8_feels_33 : decode cX8_feels 33 = .ok (.iconst 0, 1) := by decide +kernel
theorem dX8_feels_34 : decode cX8_feels 34 = .ok (.iadd, 1) := by decide +kernel
theorem dX8_feels_35 : decode cX8_feels 35 = .ok (.iastore, 1) := by decide +kernel
theorem dX8_feels_36 : decode cX8_feels 36 = .ok (.aload_n 0, 1) := by decide +kernel
theorem dX8_feels_37 : decode cX8_feels 37 = .ok (.getfield 13, 3) := by decide +kernel
theorem dX8_feels_40 : decode cX8_feels 40 = .ok (.iload_n 2, 1) := by decide +kernel
theorem dX8_feels_41 : decode cX8_feels 41 = .ok (.iconst 3, 1) := by decide +kernel
theorem dX8_feels_42 : decode cX8_feels 42 = .ok (.iadd, 1) := by decide +kernel
theorem dX8_feels_43 : decode cX8_feels 43 = .ok (.iaload, 1) := by decide +kernel
theorem dX8_feels_44 : decode cX8_feels 44 = .ok (.bipush 6, 2) := by decide +kernel
theorem dX8_feels_46 : decode cX8_feels 46 = .ok (.if_icmp .ne 39, 3) := by decide +kernel
theorem dX8_feels_49 : decode cX8_feels 49 = .ok (.aload_n 0, 1) := by decide +kernel
theorem dX8_feels_50 : decode cX8_feels 50 = .ok (.getfield 13, 3) := by decide +kernel
theorem dX8_feels_53 : decode cX8_feels 53 = .ok (.iload_n 2, 1) := by decide +kernel
theorem dX8_feels_54 : decode cX8_feels 54 = .ok (.iconst 3, 1) := by decide +kernel
theorem dX8_feels_55 : decode cX8_feels 55 = .ok (.iadd, 1) := by decide +kernel
theorem dX8_feels_56 : decode cX8_feels 56 = .ok (.iconst 0, 1) := by decide +kernel
theorem dX8_feels_57 : decode cX8_feels 57 = .ok (.iastore, 1) := by decide +kernel
theorem dX8_feels_58 : decode cX8_feels 58 = .ok (.aload_n 0, 1) := by decide +kernel
theorem dX8_feels_59 : decode cX8_feels 59 = .ok (.getfield 13, 3) := by decide +kernel
theorem dX8_feels_62 : decode cX8_feels 62 = .ok (.iload_n 2, 1) := by decide +kernel
theorem dX8_feels_63 : decode cX8_feels 63 = .ok (.iconst 1, 1) := by decide +kernel
theorem dX8_feels_64 : decode cX8_feels 64 = .ok (.iadd, 1) := by decide +kernel
theorem dX8_feels_65 : decode cX8_feels 65 = .ok (.dup2, 1) := by decide +kernel
theorem dX8_feels_66 : decode cX8_feels 66 = .ok (.iaload, 1) := by decide +kernel
theorem dX8_feels_67 : decode cX8_feels 67 = .ok (.aload_n 0, 1) := by decide +kernel
theorem dX8_feels_68 : decode cX8_feels 68 = .ok (.getfield 13, 3) := by decide +kernel
theorem dX8_feels_71 : decode cX8_feels 71 = .ok (.iload_n 2, 1) := by decide +kernel
theorem dX8_feels_72 : decode cX8_feels 72 = .ok (.iconst 1, 1) := by decide +kernel
theorem dX8_feels_73 : decode cX8_feels 73 = .ok (.iadd, 1) := by decide +kernel
theorem dX8_feels_74 : decode cX8_feels 74 = .ok (.iaload, 1) := by decide +kernel
theorem dX8_feels_75 : decode cX8_feels 75 = .ok (.ifCond .le 7, 3) := by decide +kernel
theorem dX8_feels_78 : decode cX8_feels 78 = .ok (.iconst 1, 1) := by decide +kernel
theorem dX8_feels_79 : decode cX8_feels 79 = .ok (.goto 4, 3) := by decide +kernel
theorem dX8_feels_82 : decode cX8_feels 82 = .ok (.iconst 0, 1) := by decide +kernel
theorem dX8_feels_83 : decode cX8_feels 83 = .ok (.isub, 1) := by decide +kernel
theorem dX8_feels_84 : decode cX8_feels 84 = .ok (.iastore, 1) := by decide +kernel
theorem dX8_feels_85 : decode cX8_feels 85 = .ok (.aload_n 0, 1) := by decide +kernel
theorem dX8_feels_86 : decode cX8_feels 86 = .ok (.getfield 13, 3) := by decide +kernel
theorem dX8_feels_89 : decode cX8_feels 89 = .ok (.iload_n 2, 1) := by decide +kernel
theorem dX8_feels_90 : decode cX8_feels 90 = .ok (.iconst 4, 1) := by decide +kernel
theorem dX8_feels_91 : decode cX8_feels 91 = .ok (.iadd, 1) := by decide +kernel
theorem dX8_feels_92 : decode cX8_feels 92 = .ok (.dup2, 1) := by decide +kernel
theorem dX8_feels_93 : decode cX8_feels 93 = .ok (.iaload, 1) := by decide +kernel
theorem dX8_feels_94 : decode cX8_feels 94 = .ok (.iload_n 3, 1) := by decide +kernel
theorem dX8_feels_95 : decode cX8_feels 95 = .ok (.bipush 80, 2) := by decide +kernel
theorem dX8_feels_97 : decode cX8_feels 97 = .ok (.if_icmp .lt 7, 3) := by decide +kernel
theorem dX8_feels_100 : decode cX8_feels 100 = .ok (.iconst 1, 1) := by decide +kernel
theorem dX8_feels_101 : decode cX8_feels 101 = .ok (.goto 4, 3) := by decide +kernel
theorem dX8_feels_104 : decode cX8_feels 104 = .ok (.iconst 0, 1) := by decide +kernel
theorem dX8_feels_105 : decode cX8_feels 105 = .ok (.iadd, 1) := by decide +kernel
theorem dX8_feels_106 : decode cX8_feels 106 = .ok (.iastore, 1) := by decide +kernel
theorem dX8_feels_107 : decode cX8_feels 107 = .ok (.aload_n 0, 1) := by decide +kernel
theorem dX8_feels_108 : decode cX8_feels 108 = .ok (.getfield 13, 3) := by decide +kernel
theorem dX8_feels_111 : decode cX8_feels 111 = .ok (.iload_n 2, 1) := by decide +kernel
theorem dX8_feels_112 : decode cX8_feels 112 = .ok (.iconst 4, 1) := by decide +kernel
theorem dX8_feels_113 : decode cX8_feels 113 = .ok (.iadd, 1) := by decide +kernel
theorem dX8_feels_114 : decode cX8_feels 114 = .ok (.iaload, 1) := by decide +kernel
theorem dX8_feels_115 : decode cX8_feels 115 = .ok (.bipush 12, 2) := by decide +kernel
theorem dX8_feels_117 : decode cX8_feels 117 = .ok (.if_icmp .ne 41, 3) := by decide +kernel
theorem dX8_feels_120 : decode cX8_feels 120 = .ok (.aload_n 0, 1) := by decide +kernel
theorem dX8_feels_121 : decode cX8_feels 121 = .ok (.getfield 13, 3) := by decide +kernel
theorem dX8_feels_124 : decode cX8_feels 124 = .ok (.iload_n 2, 1) := by decide +kernel
theorem dX8_feels_125 : decode cX8_feels 125 = .ok (.iconst 4, 1) := by decide +kernel
theorem dX8_feels_126 : decode cX8_feels 126 = .ok (.iadd, 1) := by decide +kernel
theorem dX8_feels_127 : decode cX8_feels 127 = .ok (.iconst 0, 1) := by decide +kernel
theorem dX8_feels_128 : decode cX8_feels 128 = .ok (.iastore, 1) := by decide +kernel
theorem dX8_feels_129 : decode cX8_feels 129 = .ok (.aload_n 0, 1) := by decide +kernel
theorem dX8_feels_130 : decode cX8_feels 130 = .ok (.getfield 13, 3) := by decide +kernel
theorem dX8_feels_133 : decode cX8_feels 133 = .ok (.iload_n 2, 1) := by decide +kernel
theorem dX8_feels_134 : decode cX8_feels 134 = .ok (.iconst 1, 1) := by decide +kernel
theorem dX8_feels_135 : decode cX8_feels 135 = .ok (.iadd, 1) := by decide +kernel
theorem dX8_feels_136 : decode cX8_feels 136 = .ok (.dup2, 1) := by decide +kernel
theorem dX8_feels_137 : decode cX8_feels 137 = .ok (.iaload, 1) := by decide +kernel
theorem dX8_feels_138 : decode cX8_feels 138 = .ok (.aload_n 0, 1) := by decide +kernel
theorem dX8_feels_139 : decode cX8_feels 139 = .ok (.getfield 13, 3) := by decide +kernel
theorem dX8_feels_142 : decode cX8_feels 142 = .ok (.iload_n 2, 1) := by decide +kernel
theorem dX8_feels_143 : decode cX8_feels 143 = .ok (.iconst 1, 1) := by decide +kernel
theorem dX8_feels_144 : decode cX8_feels 144 = .ok (.iadd, 1) := by decide +kernel
theorem dX8_feels_145 : decode cX8_feels 145 = .ok (.iaload, 1) := by decide +kernel
theorem dX8_feels_146 : decode cX8_feels 146 = .ok (.bipush 9, 2) := by decide +kernel
theorem dX8_feels_148 : decode cX8_feels 148 = .ok (.if_icmp .ge 7, 3) := by decide +kernel
theorem dX8_feels_151 : decode cX8_feels 151 = .ok (.iconst 1, 1) := by decide +kernel
theorem dX8_feels_152 : decode cX8_feels 152 = .ok (.goto 4, 3) := by decide +kernel
theorem dX8_feels_155 : decode cX8_feels 155 = .ok (.iconst 0, 1) := by decide +kernel
theorem dX8_feels_156 : decode cX8_feels 156 = .ok (.iadd, 1) := by decide +kernel
theorem dX8_feels_157 : decode cX8_feels 157 = .ok (.iastore, 1) := by decide +kernel
theorem dX8_feels_158 : decode cX8_feels 158 = .ok (.return_, 1) := by decide +kernel
theorem dX8_closes_0 : decode cX8_closes 0 = .ok (.iconst 0, 1) := by decide +kernel
theorem dX8_closes_1 : decode cX8_closes 1 = .ok (.istore_n 1, 1) := by decide +kernel
theorem dX8_closes_2 : decode cX8_closes 2 = .ok (.iconst 0, 1) := by decide +kernel
theorem dX8_closes_3 : decode cX8_closes 3 = .ok (.istore_n 2, 1) := by decide +kernel
theorem dX8_closes_4 : decode cX8_closes 4 = .ok (.iload_n 2, 1) := by decide +kernel
theorem dX8_closes_5 : decode cX8_closes 5 = .ok (.aload_n 0, 1) := by decide +kernel
theorem dX8_closes_6 : decode cX8_closes 6 = .ok (.getfield 13, 3) := by decide +kernel
theorem dX8_closes_9 : decode cX8_closes 9 = .ok (.bipush 6, 2) := by decide +kernel
theorem dX8_closes_11 : decode cX8_closes 11 = .ok (.iaload, 1) := by decide +kernel
theorem dX8_closes_12 : decode cX8_closes 12 = .ok (.if_icmp .ge 147, 3) := by decide +kernel
theorem dX8_closes_15 : decode cX8_closes 15 = .ok (.aload_n 0, 1) := by decide +kernel
theorem dX8_closes_16 : decode cX8_closes 16 = .ok (.getfield 13, 3) := by decide +kernel
theorem dX8_closes_19 : decode cX8_closes 19 = .ok (.iload_n 2, 1) := by decide +kernel
theorem dX8_closes_20 : decode cX8_closes 20 = .ok (.invokestatic 93, 3) := by decide +kernel
theorem dX8_closes_23 : decode cX8_closes 23 = .ok (.iconst 4, 1) := by decide +kernel
theorem dX8_closes_24 : decode cX8_closes 24 = .ok (.iadd, 1) := by decide +kernel
theorem dX8_closes_25 : decode cX8_closes 25 = .ok (.iaload, 1) := by decide +kernel
theorem dX8_closes_26 : decode cX8_closes 26 = .ok (.iconst 1, 1) := by decide +kernel
theorem dX8_closes_27 : decode cX8_closes 27 = .ok (.if_icmp .ne 29, 3) := by decide +kernel
theorem dX8_closes_30 : decode cX8_closes 30 = .ok (.aload_n 0, 1) := by decide +kernel
theorem dX8_closes_31 : decode cX8_closes 31 = .ok (.iload_n 2, 1) := by decide +kernel
theorem dX8_closes_32 : decode cX8_closes 32 = .ok (.invokevirtual 99, 3) := by decide +kernel
theorem dX8_closes_35 : decode cX8_closes 35 = .ok (.aload_n 0, 1) := by decide +kernel
theorem dX8_closes_36 : decode cX8_closes 36 = .ok (.getfield 13, 3) := by decide +kernel
theorem dX8_closes_39 : decode cX8_closes 39 = .ok (.iconst 2, 1) := by decide +kernel
theorem dX8_closes_40 : decode cX8_closes 40 = .ok (.iaload, 1) := by decide +kernel
theorem dX8_closes_41 : decode cX8_closes 41 = .ok (.if_icmp .ne 15, 3) := by decide +kernel
theorem dX8_closes_44 : decode cX8_closes 44 = .ok (.aload_n 0, 1) := by decide +kernel
theorem dX8_closes_45 : decode cX8_closes 45 = .ok (.getfield 13, 3) := by decide +kernel
theorem dX8_closes_48 : decode cX8_closes 48 = .ok (.iload_n 2, 1) := by decide +kernel
theorem dX8_closes_49 : decode cX8_closes 49 = .ok (.invokestatic 93, 3) := by decide +kernel
theorem dX8_closes_52 : decode cX8_closes 52 = .ok (.iconst 4, 1) := by decide +kernel
theorem dX8_closes_53 : decode cX8_closes 53 = .ok (.iadd, 1) := by decide +kernel
theorem dX8_closes_54 : decode cX8_closes 54 = .ok (.iconst 2, 1) := by decide +kernel
theorem dX8_closes_55 : decode cX8_closes 55 = .ok (.iastore, 1) := by decide +kernel
theorem dX8_closes_56 : decode cX8_closes 56 = .ok (.aload_n 0, 1) := by decide +kernel
theorem dX8_closes_57 : decode cX8_closes 57 = .ok (.getfield 13, 3) := by decide +kernel
theorem dX8_closes_60 : decode cX8_closes 60 = .ok (.iload_n 2, 1) := by decide +kernel
theorem dX8_closes_61 : decode cX8_closes 61 = .ok (.invokestatic 93, 3) := by decide +kernel
theorem dX8_closes_64 : decode cX8_closes 64 = .ok (.iconst 4, 1) := by decide +kernel
theorem dX8_closes_65 : decode cX8_closes 65 = .ok (.iadd, 1) := by decide +kernel
theorem dX8_closes_66 : decode cX8_closes 66 = .ok (.iaload, 1) := by decide +kernel
theorem dX8_closes_67 : decode cX8_closes 67 = .ok (.iconst 2, 1) := by decide +kernel
theorem dX8_closes_68 : decode cX8_closes 68 = .ok (.if_icmp .ne 85, 3) := by decide +kernel
theorem dX8_closes_71 : decode cX8_closes 71 = .ok (.aload_n 0, 1) := by decide +kernel
theorem dX8_closes_72 : decode cX8_closes 72 = .ok (.iload_n 2, 1) := by decide +kernel
theorem dX8_closes_73 : decode cX8_closes 73 = .ok (.invokevirtual 99, 3) := by decide +kernel
theorem dX8_closes_76 : decode cX8_closes 76 = .ok (.aload_n 0, 1) := by decide +kernel
theorem dX8_closes_77 : decode cX8_closes 77 = .ok (.getfield 13, 3) := by decide +kernel
theorem dX8_closes_80 : decode cX8_closes 80 = .ok (.iconst 0, 1) := by decide +kernel
theorem dX8_closes_81 : decode cX8_closes 81 = .ok (.iaload, 1) := by decide +kernel
theorem dX8_closes_82 : decode cX8_closes 82 = .ok (.iadd, 1) := by decide +kernel
theorem dX8_closes_83 : decode cX8_closes 83 = .ok (.aload_n 0, 1) := by decide +kernel
theorem dX8_closes_84 : decode cX8_closes 84 = .ok (.getfield 13, 3) := by decide +kernel
theorem dX8_closes_87 : decode cX8_closes 87 = .ok (.iconst 2, 1) := by decide +kernel
theorem dX8_closes_88 : decode cX8_closes 88 = .ok (.iaload, 1) := by decide +kernel
theorem dX8_closes_89 : decode cX8_closes 89 = .ok (.if_icmp .ne 64, 3) := by decide +kernel
theorem dX8_closes_92 : decode cX8_closes 92 = .ok (.aload_n 0, 1) := by decide +kernel
theorem dX8_closes_93 : decode cX8_closes 93 = .ok (.getfield 13, 3) := by decide +kernel
theorem dX8_closes_96 : decode cX8_closes 96 = .ok (.iload_n 2, 1) := by decide +kernel
theorem dX8_closes_97 : decode cX8_closes 97 = .ok (.invokestatic 93, 3) := by decide +kernel
theorem dX8_closes_100 : decode cX8_closes 100 = .ok (.iconst 4, 1) := by decide +kernel
theorem dX8_closes_101 : decode cX8_closes 101 = .ok (.iadd, 1) := by decide +kernel
theorem dX8_closes_102 : decode cX8_closes 102 = .ok (.iconst 4, 1) := by decide +kernel
theorem dX8_closes_103 : decode cX8_closes 103 = .ok (.iastore, 1) := by decide +kernel
theorem dX8_closes_104 : decode cX8_closes 104 = .ok (.aload_n 0, 1) := by decide +kernel
theorem dX8_closes_105 : decode cX8_closes 105 = .ok (.getfield 13, 3) := by decide +kernel
theorem dX8_closes_108 : decode cX8_closes 108 = .ok (.aload_n 0, 1) := by decide +kernel
theorem dX8_closes_109 : decode cX8_closes 109 = .ok (.getfield 13, 3) := by decide +kernel
theorem dX8_closes_112 : decode cX8_closes 112 = .ok (.iload_n 2, 1) := by decide +kernel
theorem dX8_closes_113 : decode cX8_closes 113 = .ok (.invokestatic 93, 3) := by decide +kernel
theorem dX8_closes_116 : decode cX8_closes 116 = .ok (.iconst 0, 1) := by decide +kernel
theorem dX8_closes_117 : decode cX8_closes 117 = .ok (.iadd, 1) := by decide +kernel
theorem dX8_closes_118 : decode cX8_closes 118 = .ok (.iaload, 1) := by decide +kernel
theorem dX8_closes_119 : decode cX8_closes 119 = .ok (.invokestatic 78, 3) := by decide +kernel
theorem dX8_closes_122 : decode cX8_closes 122 = .ok (.iconst 2, 1) := by decide +kernel
theorem dX8_closes_123 : decode cX8_closes 123 = .ok (.iadd, 1) := by decide +kernel
theorem dX8_closes_124 : decode cX8_closes 124 = .ok (.dup2, 1) := by decide +kernel
theorem dX8_closes_125 : decode cX8_closes 125 = .ok (.iaload, 1) := by decide +kernel
theorem dX8_closes_126 : decode cX8_closes 126 = .ok (.aload_n 0, 1) := by decide +kernel
theorem dX8_closes_127 : decode cX8_closes 127 = .ok (.getfield 13, 3) := by decide +kernel
theorem dX8_closes_130 : decode cX8_closes 130 = .ok (.iconst 1, 1) := by decide +kernel
theorem dX8_closes_131 : decode cX8_closes 131 = .ok (.iaload, 1) := by decide +kernel
theorem dX8_closes_132 : decode cX8_closes 132 = .ok (.isub, 1) := by decide +kernel
theorem dX8_closes_133 : decode cX8_closes 133 = .ok (.iastore, 1) := by decide +kernel
theorem dX8_closes_134 : decode cX8_closes 134 = .ok (.aload_n 0, 1) := by decide +kernel
theorem dX8_closes_135 : decode cX8_closes 135 = .ok (.getfield 13, 3) := by decide +kernel
theorem dX8_closes_138 : decode cX8_closes 138 = .ok (.bipush 8, 2) := by decide +kernel
theorem dX8_closes_140 : decode cX8_closes 140 = .ok (.dup2, 1) := by decide +kernel
theorem dX8_closes_141 : decode cX8_closes 141 = .ok (.iaload, 1) := by decide +kernel
theorem dX8_closes_142 : decode cX8_closes 142 = .ok (.aload_n 0, 1) := by decide +kernel
theorem dX8_closes_143 : decode cX8_closes 143 = .ok (.getfield 13, 3) := by decide +kernel
theorem dX8_closes_146 : decode cX8_closes 146 = .ok (.iconst 1, 1) := by decide +kernel
theorem dX8_closes_147 : decode cX8_closes 147 = .ok (.iaload, 1) := by decide +kernel
theorem dX8_closes_148 : decode cX8_closes 148 = .ok (.iadd, 1) := by decide +kernel
theorem dX8_closes_149 : decode cX8_closes 149 = .ok (.iastore, 1) := by decide +kernel
theorem dX8_closes_150 : decode cX8_closes 150 = .ok (.iinc 1 1, 3) := by decide +kernel
theorem dX8_closes_153 : decode cX8_closes 153 = .ok (.iinc 2 1, 3) := by decide +kernel
theorem dX8_closes_156 : decode cX8_closes 156 = .ok (.goto (-152), 3) := by decide +kernel
theorem dX8_closes_159 : decode cX8_closes 159 = .ok (.iload_n 1, 1) := by decide +kernel
theorem dX8_closes_160 : decode cX8_closes 160 = .ok (.ireturn, 1) := by decide +kernel
theorem dX8_hour_0 : decode cX8_hour 0 = .ok (.aload_n 0, 1) := by decide +kernel
theorem dX8_hour_1 : decode cX8_hour 1 = .ok (.invokevirtual 147, 3) := by decide +kernel
theorem dX8_hour_4 : decode cX8_hour 4 = .ok (.aload_n 0, 1) := by decide +kernel
theorem dX8_hour_5 : decode cX8_hour 5 = .ok (.invokevirtual 150, 3) := by decide +kernel
theorem dX8_hour_8 : decode cX8_hour 8 = .ok (.iconst 0, 1) := by decide +kernel
theorem dX8_hour_9 : decode cX8_hour 9 = .ok (.istore_n 1, 1) := by decide +kernel
theorem dX8_hour_10 : decode cX8_hour 10 = .ok (.iload_n 1, 1) := by decide +kernel
theorem dX8_hour_11 : decode cX8_hour 11 = .ok (.aload_n 0, 1) := by decide +kernel
theorem dX8_hour_12 : decode cX8_hour 12 = .ok (.getfield 13, 3) := by decide +kernel
theorem dX8_hour_15 : decode cX8_hour 15 = .ok (.iconst 4, 1) := by decide +kernel
theorem dX8_hour_16 : decode cX8_hour 16 = .ok (.iaload, 1) := by decide +kernel
theorem dX8_hour_17 : decode cX8_hour 17 = .ok (.if_icmp .ge 14, 3) := by decide +kernel
theorem dX8_hour_20 : decode cX8_hour 20 = .ok (.aload_n 0, 1) := by decide +kernel
theorem dX8_hour_21 : decode cX8_hour 21 = .ok (.iload_n 1, 1) := by decide +kernel
theorem dX8_hour_22 : decode cX8_hour 22 = .ok (.invokevirtual 153, 3) := by decide +kernel
theorem dX8_hour_25 : decode cX8_hour 25 = .ok (.iinc 1 1, 3) := by decide +kernel
theorem dX8_hour_28 : decode cX8_hour 28 = .ok (.goto (-18), 3) := by decide +kernel
theorem dX8_hour_31 : decode cX8_hour 31 = .ok (.aload_n 0, 1) := by decide +kernel
theorem dX8_hour_32 : decode cX8_hour 32 = .ok (.getfield 13, 3) := by decide +kernel
theorem dX8_hour_35 : decode cX8_hour 35 = .ok (.iconst 2, 1) := by decide +kernel
theorem dX8_hour_36 : decode cX8_hour 36 = .ok (.dup2, 1) := by decide +kernel
theorem dX8_hour_37 : decode cX8_hour 37 = .ok (.iaload, 1) := by decide +kernel
theorem dX8_hour_38 : decode cX8_hour 38 = .ok (.iconst 1, 1) := by decide +kernel
theorem dX8_hour_39 : decode cX8_hour 39 = .ok (.iadd, 1) := by decide +kernel
theorem dX8_hour_40 : decode cX8_hour 40 = .ok (.iastore, 1) := by decide +kernel
theorem dX8_hour_41 : decode cX8_hour 41 = .ok (.aload_n 0, 1) := by decide +kernel
theorem dX8_hour_42 : decode cX8_hour 42 = .ok (.invokevirtual 156, 3) := by decide +kernel
theorem dX8_hour_45 : decode cX8_hour 45 = .ok (.ireturn, 1) := by decide +kernel
theorem dX8_passes_0 : decode cX8_passes 0 = .ok (.iconst 0, 1) := by decide +kernel
theorem dX8_passes_1 : decode cX8_passes 1 = .ok (.istore_n 2, 1) := by decide +kernel
theorem dX8_passes_2 : decode cX8_passes 2 = .ok (.iconst 0, 1) := by decide +kernel
theorem dX8_passes_3 : decode cX8_passes 3 = .ok (.istore_n 3, 1) := by decide +kernel
theorem dX8_passes_4 : decode cX8_passes 4 = .ok (.iload_n 3, 1) := by decide +kernel
theorem dX8_passes_5 : decode cX8_passes 5 = .ok (.iload_n 1, 1) := by decide +kernel
theorem dX8_passes_6 : decode cX8_passes 6 = .ok (.if_icmp .ge 16, 3) := by decide +kernel
theorem dX8_passes_9 : decode cX8_passes 9 = .ok (.iload_n 2, 1) := by decide +kernel
theorem dX8_passes_10 : decode cX8_passes 10 = .ok (.aload_n 0, 1) := by decide +kernel
theorem dX8_passes_11 : decode cX8_passes 11 = .ok (.invokevirtual 160, 3) := by decide +kernel
theorem dX8_passes_14 : decode cX8_passes 14 = .ok (.iadd, 1) := by decide +kernel
theorem dX8_passes_15 : decode cX8_passes 15 = .ok (.istore_n 2, 1) := by decide +kernel
theorem dX8_passes_16 : decode cX8_passes 16 = .ok (.iinc 3 1, 3) := by decide +kernel
theorem dX8_passes_19 : decode cX8_passes 19 = .ok (.goto (-15), 3) := by decide +kernel
theorem dX8_passes_22 : decode cX8_passes 22 = .ok (.iload_n 2, 1) := by decide +kernel
theorem dX8_passes_23 : decode cX8_passes 23 = .ok (.ireturn, 1) := by decide +kernel
theorem dX8_remembers_0 : decode cX8_remembers 0 = .ok (.aload_n 0, 1) := by decide +kernel
theorem dX8_remembers_1 : decode cX8_remembers 1 = .ok (.getfield 163, 3) := by decide +kernel
theorem dX8_remembers_4 : decode cX8_remembers 4 = .ok (.bipush 10, 2) := by decide +kernel
theorem dX8_remembers_6 : decode cX8_remembers 6 = .ok (.if_icmp .ne 46, 3) := by decide +kernel
theorem dX8_remembers_9 : decode cX8_remembers 9 = .ok (.sipush 411, 3) := by decide +kernel
theorem dX8_remembers_12 : decode cX8_remembers 12 = .ok (.istore_n 1, 1) := by decide +kernel
theorem dX8_remembers_13 : decode cX8_remembers 13 = .ok (.iload_n 1, 1) := by decide +kernel
theorem dX8_remembers_14 : decode cX8_remembers 14 = .ok (.sipush 4110, 3) := by decide +kernel
theorem dX8_remembers_17 : decode cX8_remembers 17 = .ok (.if_icmp .ge 25, 3) := by decide +kernel
theorem dX8_remembers_20 : decode cX8_remembers 20 = .ok (.aload_n 0, 1) := by decide +kernel
theorem dX8_remembers_21 : decode cX8_remembers 21 = .ok (.getfield 19, 3) := by decide +kernel
theorem dX8_remembers_24 : decode cX8_remembers 24 = .ok (.iload_n 1, 1) := by decide +kernel
theorem dX8_remembers_25 : decode cX8_remembers 25 = .ok (.sipush 411, 3) := by decide +kernel
theorem dX8_remembers_28 : decode cX8_remembers 28 = .ok (.isub, 1) := by decide +kernel
theorem dX8_remembers_29 : decode cX8_remembers 29 = .ok (.aload_n 0, 1) := by decide +kernel
theorem dX8_remembers_30 : decode cX8_remembers 30 = .ok (.getfield 19, 3) := by decide +kernel
theorem dX8_remembers_33 : decode cX8_remembers 33 = .ok (.iload_n 1, 1) := by decide +kernel
theorem dX8_remembers_34 : decode cX8_remembers 34 = .ok (.iaload, 1) := by decide +kernel
theorem dX8_remembers_35 : decode cX8_remembers 35 = .ok (.iastore, 1) := by decide +kernel
theorem dX8_remembers_36 : decode cX8_remembers 36 = .ok (.iinc 1 1, 3) := by decide +kernel
theorem dX8_remembers_39 : decode cX8_remembers 39 = .ok (.goto (-26), 3) := by decide +kernel
theorem dX8_remembers_42 : decode cX8_remembers 42 = .ok (.aload_n 0, 1) := by decide +kernel
theorem dX8_remembers_43 : decode cX8_remembers 43 = .ok (.dup, 1) := by decide +kernel
theorem dX8_remembers_44 : decode cX8_remembers 44 = .ok (.getfield 163, 3) := by decide +kernel
theorem dX8_remembers_47 : decode cX8_remembers 47 = .ok (.iconst 1, 1) := by decide +kernel
theorem dX8_remembers_48 : decode cX8_remembers 48 = .ok (.isub, 1) := by decide +kernel
theorem dX8_remembers_49 : decode cX8_remembers 49 = .ok (.putfield 163, 3) := by decide +kernel
theorem dX8_remembers_52 : decode cX8_remembers 52 = .ok (.iconst 0, 1) := by decide +kernel
theorem dX8_remembers_53 : decode cX8_remembers 53 = .ok (.istore_n 1, 1) := by decide +kernel
theorem dX8_remembers_54 : decode cX8_remembers 54 = .ok (.iload_n 1, 1) := by decide +kernel
theorem dX8_remembers_55 : decode cX8_remembers 55 = .ok (.sipush 411, 3) := by decide +kernel
theorem dX8_remembers_58 : decode cX8_remembers 58 = .ok (.if_icmp .ge 30, 3) := by decide +kernel
theorem dX8_remembers_61 : decode cX8_remembers 61 = .ok (.aload_n 0, 1) := by decide +kernel
theorem dX8_remembers_62 : decode cX8_remembers 62 = .ok (.getfield 19, 3) := by decide +kernel
theorem dX8_remembers_65 : decode cX8_remembers 65 = .ok (.aload_n 0, 1) := by decide +kernel
theorem dX8_remembers_66 : decode cX8_remembers 66 = .ok (.getfield 163, 3) := by decide +kernel
theorem dX8_remembers_69 : decode cX8_remembers 69 = .ok (.sipush 411, 3) := by decide +kernel
theorem dX8_remembers_72 : decode cX8_remembers 72 = .ok (.imul, 1) := by decide +kernel
theorem dX8_remembers_73 : decode cX8_remembers 73 = .ok (.iload_n 1, 1) := by decide +kernel
theorem dX8_remembers_74 : decode cX8_remembers 74 = .ok (.iadd, 1) := by decide +kernel
theorem dX8_remembers_75 : decode cX8_remembers 75 = .ok (.aload_n 0, 1) := by decide +kernel
theorem dX8_remembers_76 : decode cX8_remembers 76 = .ok (.getfield 13, 3) := by decide +kernel
theorem dX8_remembers_79 : decode cX8_remembers 79 = .ok (.iload_n 1, 1) := by decide +kernel
theorem dX8_remembers_80 : decode cX8_remembers 80 = .ok (.iaload, 1) := by decide +kernel
theorem dX8_remembers_81 : decode cX8_remembers 81 = .ok (.iastore, 1) := by decide +kernel
theorem dX8_remembers_82 : decode cX8_remembers 82 = .ok (.iinc 1 1, 3) := by decide +kernel
theorem dX8_remembers_85 : decode cX8_remembers 85 = .ok (.goto (-31), 3) := by decide +kernel
theorem dX8_remembers_88 : decode cX8_remembers 88 = .ok (.aload_n 0, 1) := by decide +kernel
theorem dX8_remembers_89 : decode cX8_remembers 89 = .ok (.dup, 1) := by decide +kernel
theorem dX8_remembers_90 : decode cX8_remembers 90 = .ok (.getfield 163, 3) := by decide +kernel
theorem dX8_remembers_93 : decode cX8_remembers 93 = .ok (.iconst 1, 1) := by decide +kernel
theorem dX8_remembers_94 : decode cX8_remembers 94 = .ok (.iadd, 1) := by decide +kernel
theorem dX8_remembers_95 : decode cX8_remembers 95 = .ok (.putfield 163, 3) := by decide +kernel
theorem dX8_remembers_98 : decode cX8_remembers 98 = .ok (.return_, 1) := by decide +kernel
theorem dX8_putsAside_0 : decode cX8_putsAside 0 = .ok (.iconst 0, 1) := by decide +kernel
theorem dX8_putsAside_1 : decode cX8_putsAside 1 = .ok (.istore_n 1, 1) := by decide +kernel
theorem dX8_putsAside_2 : decode cX8_putsAside 2 = .ok (.iload_n 1, 1) := by decide +kernel
theorem dX8_putsAside_3 : decode cX8_putsAside 3 = .ok (.sipush 411, 3) := by decide +kernel
theorem dX8_putsAside_6 : decode cX8_putsAside 6 = .ok (.if_icmp .ge 21, 3) := by decide +kernel
theorem dX8_putsAside_9 : decode cX8_putsAside 9 = .ok (.aload_n 0, 1) := by decide +kernel
theorem dX8_putsAside_10 : decode cX8_putsAside 10 = .ok (.getfield 16, 3) := by decide +kernel
theorem dX8_putsAside_13 : decode cX8_putsAside 13 = .ok (.iload_n 1, 1) := by decide +kernel
theorem dX8_putsAside_14 : decode cX8_putsAside 14 = .ok (.aload_n 0, 1) := by decide +kernel
theorem dX8_putsAside_15 : decode cX8_putsAside 15 = .ok (.getfield 13, 3) := by decide +kernel
theorem dX8_putsAside_18 : decode cX8_putsAside 18 = .ok (.iload_n 1, 1) := by decide +kernel
theorem dX8_putsAside_19 : decode cX8_putsAside 19 = .ok (.iaload, 1) := by decide +kernel
theorem dX8_putsAside_20 : decode cX8_putsAside 20 = .ok (.iastore, 1) := by decide +kernel
theorem dX8_putsAside_21 : decode cX8_putsAside 21 = .ok (.iinc 1 1, 3) := by decide +kernel
theorem dX8_putsAside_24 : decode cX8_putsAside 24 = .ok (.goto (-22), 3) := by decide +kernel
theorem dX8_putsAside_27 : decode cX8_putsAside 27 = .ok (.return_, 1) := by decide +kernel
theorem dX8_putsBack_0 : decode cX8_putsBack 0 = .ok (.iconst 0, 1) := by decide +kernel
theorem dX8_putsBack_1 : decode cX8_putsBack 1 = .ok (.istore_n 1, 1) := by decide +kernel
theorem dX8_putsBack_2 : decode cX8_putsBack 2 = .ok (.iload_n 1, 1) := by decide +kernel
theorem dX8_putsBack_3 : decode cX8_putsBack 3 = .ok (.sipush 411, 3) := by decide +kernel
theorem dX8_putsBack_6 : decode cX8_putsBack 6 = .ok (.if_icmp .ge 21, 3) := by decide +kernel
theorem dX8_putsBack_9 : decode cX8_putsBack 9 = .ok (.aload_n 0, 1) := by decide +kernel
theorem dX8_putsBack_10 : decode cX8_putsBack 10 = .ok (.getfield 13, 3) := by decide +kernel
theorem dX8_putsBack_13 : decode cX8_putsBack 13 = .ok (.iload_n 1, 1) := by decide +kernel
theorem dX8_putsBack_14 : decode cX8_putsBack 14 = .ok (.aload_n 0, 1) := by decide +kernel
theorem dX8_putsBack_15 : decode cX8_putsBack 15 = .ok (.getfield 16, 3) := by decide +kernel
theorem dX8_putsBack_18 : decode cX8_putsBack 18 = .ok (.iload_n 1, 1) := by decide +kernel
theorem dX8_putsBack_19 : decode cX8_putsBack 19 = .ok (.iaload, 1) := by decide +kernel
theorem dX8_putsBack_20 : decode cX8_putsBack 20 = .ok (.iastore, 1) := by decide +kernel
theorem dX8_putsBack_21 : decode cX8_putsBack 21 = .ok (.iinc 1 1, 3) := by decide +kernel
theorem dX8_putsBack_24 : decode cX8_putsBack 24 = .ok (.goto (-22), 3) := by decide +kernel
theorem dX8_putsBack_27 : decode cX8_putsBack 27 = .ok (.return_, 1) := by decide +kernel
theorem dX8_isLetter_0 : decode cX8_isLetter 0 = .ok (.iload_n 0, 1) := by decide +kernel
theorem dX8_isLetter_1 : decode cX8_isLetter 1 = .ok (.bipush 97, 2) := by decide +kernel
theorem dX8_isLetter_3 : decode cX8_isLetter 3 = .ok (.if_icmp .lt 13, 3) := by decide +kernel
theorem dX8_isLetter_6 : decode cX8_isLetter 6 = .ok (.iload_n 0, 1) := by decide +kernel
theorem dX8_isLetter_7 : decode cX8_isLetter 7 = .ok (.bipush 122, 2) := by decide +kernel
theorem dX8_isLetter_9 : decode cX8_isLetter 9 = .ok (.if_icmp .gt 7, 3) := by decide +kernel
theorem dX8_isLetter_12 : decode cX8_isLetter 12 = .ok (.iconst 1, 1) := by decide +kernel
theorem dX8_isLetter_13 : decode cX8_isLetter 13 = .ok (.goto 4, 3) := by decide +kernel
theorem dX8_isLetter_16 : decode cX8_isLetter 16 = .ok (.iconst 0, 1) := by decide +kernel
theorem dX8_isLetter_17 : decode cX8_isLetter 17 = .ok (.ireturn, 1) := by decide +kernel
theorem dX8_isDigit_0 : decode cX8_isDigit 0 = .ok (.iload_n 0, 1) := by decide +kernel
theorem dX8_isDigit_1 : decode cX8_isDigit 1 = .ok (.bipush 48, 2) := by decide +kernel
theorem dX8_isDigit_3 : decode cX8_isDigit 3 = .ok (.if_icmp .lt 13, 3) := by decide +kernel
theorem dX8_isDigit_6 : decode cX8_isDigit 6 = .ok (.iload_n 0, 1) := by decide +kernel
theorem dX8_isDigit_7 : decode cX8_isDigit 7 = .ok (.bipush 57, 2) := by decide +kernel
theorem dX8_isDigit_9 : decode cX8_isDigit 9 = .ok (.if_icmp .gt 7, 3) := by decide +kernel
theorem dX8_isDigit_12 : decode cX8_isDigit 12 = .ok (.iconst 1, 1) := by decide +kernel
theorem dX8_isDigit_13 : decode cX8_isDigit 13 = .ok (.goto 4, 3) := by decide +kernel
theorem dX8_isDigit_16 : decode cX8_isDigit 16 = .ok (.iconst 0, 1) := by decide +kernel
theorem dX8_isDigit_17 : decode cX8_isDigit 17 = .ok (.ireturn, 1) := by decide +kernel
theorem dX8_next_0 : decode cX8_next 0 = .ok (.aload_n 0, 1) := by decide +kernel
theorem dX8_next_1 : decode cX8_next 1 = .ok (.getfield 166, 3) := by decide +kernel
theorem dX8_next_4 : decode cX8_next 4 = .ok (.iconst 1, 1) := by decide +kernel
theorem dX8_next_5 : decode cX8_next 5 = .ok (.if_icmp .eq 11, 3) := by decide +kernel
theorem dX8_next_8 : decode cX8_next 8 = .ok (.aload_n 0, 1) := by decide +kernel
theorem dX8_next_9 : decode cX8_next 9 = .ok (.getfield 166, 3) := by decide +kernel
theorem dX8_next_12 : decode cX8_next 12 = .ok (.iconst 2, 1) := by decide +kernel
theorem dX8_next_13 : decode cX8_next 13 = .ok (.if_icmp .ne 7, 3) := by decide +kernel
theorem dX8_next_16 : decode cX8_next 16 = .ok (.iconst 1, 1) := by decide +kernel
theorem dX8_next_17 : decode cX8_next 17 = .ok (.goto 4, 3) := by decide +kernel
theorem dX8_next_20 : decode cX8_next 20 = .ok (.iconst 0, 1) := by decide +kernel
theorem dX8_next_21 : decode cX8_next 21 = .ok (.istore_n 1, 1) := by decide +kernel
theorem dX8_next_22 : decode cX8_next 22 = .ok (.aload_n 0, 1) := by decide +kernel
theorem dX8_next_23 : decode cX8_next 23 = .ok (.aload_n 0, 1) := by decide +kernel
theorem dX8_next_24 : decode cX8_next 24 = .ok (.getfield 169, 3) := by decide +kernel
theorem dX8_next_27 : decode cX8_next 27 = .ok (.putfield 172, 3) := by decide +kernel
theorem dX8_next_30 : decode cX8_next 30 = .ok (.aload_n 0, 1) := by decide +kernel
theorem dX8_next_31 : decode cX8_next 31 = .ok (.getfield 172, 3) := by decide +kernel
theorem dX8_next_34 : decode cX8_next 34 = .ok (.aload_n 0, 1) := by decide +kernel
theorem dX8_next_35 : decode cX8_next 35 = .ok (.getfield 175, 3) := by decide +kernel
theorem dX8_next_38 : decode cX8_next 38 = .ok (.if_icmp .ge 44, 3) := by decide +kernel
theorem dX8_next_41 : decode cX8_next 41 = .ok (.aload_n 0, 1) := by decide +kernel
theorem dX8_next_42 : decode cX8_next 42 = .ok (.getfield 31, 3) := by decide +kernel
theorem dX8_next_45 : decode cX8_next 45 = .ok (.aload_n 0, 1) := by decide +kernel
theorem dX8_next_46 : decode cX8_next 46 = .ok (.getfield 172, 3) := by decide +kernel
theorem dX8_next_49 : decode cX8_next 49 = .ok (.baload, 1) := by decide +kernel
theorem dX8_next_50 : decode cX8_next 50 = .ok (.bipush 32, 2) := by decide +kernel
theorem dX8_next_52 : decode cX8_next 52 = .ok (.if_icmp .eq 17, 3) := by decide +kernel
theorem dX8_next_55 : decode cX8_next 55 = .ok (.aload_n 0, 1) := by decide +kernel
theorem dX8_next_56 : decode cX8_next 56 = .ok (.getfield 31, 3) := by decide +kernel
theorem dX8_next_59 : decode cX8_next 59 = .ok (.aload_n 0, 1) := by decide +kernel
theorem dX8_next_60 : decode cX8_next 60 = .ok (.getfield 172, 3) := by decide +kernel
theorem dX8_next_63 : decode cX8_next 63 = .ok (.baload, 1) := by decide +kernel
theorem dX8_next_64 : decode cX8_next 64 = .ok (.bipush 10, 2) := by decide +kernel
theorem dX8_next_66 : decode cX8_next 66 = .ok (.if_icmp .ne 16, 3) := by decide +kernel
theorem dX8_next_69 : decode cX8_next 69 = .ok (.aload_n 0, 1) := by decide +kernel
theorem dX8_next_70 : decode cX8_next 70 = .ok (.dup, 1) := by decide +kernel
theorem dX8_next_71 : decode cX8_next 71 = .ok (.getfield 172, 3) := by decide +kernel
theorem dX8_next_74 : decode cX8_next 74 = .ok (.iconst 1, 1) := by decide +kernel
theorem dX8_next_75 : decode cX8_next 75 = .ok (.iadd, 1) := by decide +kernel
theorem dX8_next_76 : decode cX8_next 76 = .ok (.putfield 172, 3) := by decide +kernel
theorem dX8_next_79 : decode cX8_next 79 = .ok (.goto (-49), 3) := by decide +kernel
theorem dX8_next_82 : decode cX8_next 82 = .ok (.iload_n 1, 1) := by decide +kernel
theorem dX8_next_83 : decode cX8_next 83 = .ok (.ifCond .eq 18, 3) := by decide +kernel
theorem dX8_next_86 : decode cX8_next 86 = .ok (.aload_n 0, 1) := by decide +kernel
theorem dX8_next_87 : decode cX8_next 87 = .ok (.getfield 172, 3) := by decide +kernel
theorem dX8_next_90 : decode cX8_next 90 = .ok (.aload_n 0, 1) := by decide +kernel
theorem dX8_next_91 : decode cX8_next 91 = .ok (.getfield 169, 3) := by decide +kernel
theorem dX8_next_94 : decode cX8_next 94 = .ok (.if_icmp .ne 7, 3) := by decide +kernel
theorem dX8_next_97 : decode cX8_next 97 = .ok (.iconst 1, 1) := by decide +kernel
theorem dX8_next_98 : decode cX8_next 98 = .ok (.goto 4, 3) := by decide +kernel
theorem dX8_next_101 : decode cX8_next 101 = .ok (.iconst 0, 1) := by decide +kernel
theorem dX8_next_102 : decode cX8_next 102 = .ok (.istore_n 2, 1) := by decide +kernel
theorem dX8_next_103 : decode cX8_next 103 = .ok (.aload_n 0, 1) := by decide +kernel
theorem dX8_next_104 : decode cX8_next 104 = .ok (.aload_n 0, 1) := by decide +kernel
theorem dX8_next_105 : decode cX8_next 105 = .ok (.getfield 172, 3) := by decide +kernel
theorem dX8_next_108 : decode cX8_next 108 = .ok (.putfield 169, 3) := by decide +kernel
theorem dX8_next_111 : decode cX8_next 111 = .ok (.aload_n 0, 1) := by decide +kernel
theorem dX8_next_112 : decode cX8_next 112 = .ok (.getfield 172, 3) := by decide +kernel
theorem dX8_next_115 : decode cX8_next 115 = .ok (.aload_n 0, 1) := by decide +kernel
theorem dX8_next_116 : decode cX8_next 116 = .ok (.getfield 175, 3) := by decide +kernel
theorem dX8_next_119 : decode cX8_next 119 = .ok (.if_icmp .ne 11, 3) := by decide +kernel
theorem dX8_next_122 : decode cX8_next 122 = .ok (.aload_n 0, 1) := by decide +kernel
theorem dX8_next_123 : decode cX8_next 123 = .ok (.iconst 0, 1) := by decide +kernel
theorem dX8_next_124 : decode cX8_next 124 = .ok (.putfield 166, 3) := by decide +kernel
theorem dX8_next_127 : decode cX8_next 127 = .ok (.goto 231, 3) := by decide +kernel
theorem dX8_next_130 : decode cX8_next 130 = .ok (.aload_n 0, 1) := by decide +kernel
theorem dX8_next_131 : decode cX8_next 131 = .ok (.getfield 31, 3) := by decide +kernel
theorem dX8_next_134 : decode cX8_next 134 = .ok (.aload_n 0, 1) := by decide +kernel
theorem dX8_next_135 : decode cX8_next 135 = .ok (.getfield 172, 3) := by decide +kernel
theorem dX8_next_138 : decode cX8_next 138 = .ok (.baload, 1) := by decide +kernel
theorem dX8_next_139 : decode cX8_next 139 = .ok (.invokestatic 178, 3) := by decide +kernel
theorem dX8_next_142 : decode cX8_next 142 = .ok (.ifCond .eq 58, 3) := by decide +kernel
theorem dX8_next_145 : decode cX8_next 145 = .ok (.aload_n 0, 1) := by decide +kernel
theorem dX8_next_146 : decode cX8_next 146 = .ok (.getfield 169, 3) := by decide +kernel
theorem dX8_next_149 : decode cX8_next 149 = .ok (.aload_n 0, 1) := by decide +kernel
theorem dX8_next_150 : decode cX8_next 150 = .ok (.getfield 175, 3) := by decide +kernel
theorem dX8_next_153 : decode cX8_next 153 = .ok (.if_icmp .ge 31, 3) := by decide +kernel
theorem dX8_next_156 : decode cX8_next 156 = .ok (.aload_n 0, 1) := by decide +kernel
theorem dX8_next_157 : decode cX8_next 157 = .ok (.getfield 31, 3) := by decide +kernel
theorem dX8_next_160 : decode cX8_next 160 = .ok (.aload_n 0, 1) := by decide +kernel
theorem dX8_next_161 : decode cX8_next 161 = .ok (.getfield 169, 3) := by decide +kernel
theorem dX8_next_164 : decode cX8_next 164 = .ok (.baload, 1) := by decide +kernel
theorem dX8_next_165 : decode cX8_next 165 = .ok (.invokestatic 178, 3) := by decide +kernel
theorem dX8_next_168 : decode cX8_next 168 = .ok (.ifCond .eq 16, 3) := by decide +kernel
theorem dX8_next_171 : decode cX8_next 171 = .ok (.aload_n 0, 1) := by decide +kernel
theorem dX8_next_172 : decode cX8_next 172 = .ok (.dup, 1) := by decide +kernel
theorem dX8_next_173 : decode cX8_next 173 = .ok (.getfield 169, 3) := by decide +kernel
theorem dX8_next_176 : decode cX8_next 176 = .ok (.iconst 1, 1) := by decide +kernel
theorem dX8_next_177 : decode cX8_next 177 = .ok (.iadd, 1) := by decide +kernel
theorem dX8_next_178 : decode cX8_next 178 = .ok (.putfield 169, 3) := by decide +kernel
theorem dX8_next_181 : decode cX8_next 181 = .ok (.goto (-36), 3) := by decide +kernel
theorem dX8_next_184 : decode cX8_next 184 = .ok (.aload_n 0, 1) := by decide +kernel
theorem dX8_next_185 : decode cX8_next 185 = .ok (.iload_n 2, 1) := by decide +kernel
theorem dX8_next_186 : decode cX8_next 186 = .ok (.ifCond .eq 7, 3) := by decide +kernel
theorem dX8_next_189 : decode cX8_next 189 = .ok (.iconst 4, 1) := by decide +kernel
theorem dX8_next_190 : decode cX8_next 190 = .ok (.goto 4, 3) := by decide +kernel
theorem dX8_next_193 : decode cX8_next 193 = .ok (.iconst 1, 1) := by decide +kernel
theorem dX8_next_194 : decode cX8_next 194 = .ok (.putfield 166, 3) := by decide +kernel
theorem dX8_next_197 : decode cX8_next 197 = .ok (.goto 161, 3) := by decide +kernel
theorem dX8_next_200 : decode cX8_next 200 = .ok (.aload_n 0, 1) := by decide +kernel
theorem dX8_next_201 : decode cX8_next 201 = .ok (.getfield 31, 3) := by decide +kernel
theorem dX8_next_204 : decode cX8_next 204 = .ok (.aload_n 0, 1) := by decide +kernel
theorem dX8_next_205 : decode cX8_next 205 = .ok (.getfield 172, 3) := by decide +kernel
theorem dX8_next_208 : decode cX8_next 208 = .ok (.baload, 1) := by decide +kernel
theorem dX8_next_209 : decode cX8_next 209 = .ok (.invokestatic 181, 3) := by decide +kernel
theorem dX8_next_212 : decode cX8_next 212 = .ok (.ifCond .eq 113, 3) := by decide +kernel
theorem dX8_next_215 : decode cX8_next 215 = .ok (.aload_n 0, 1) := by decide +kernel
theorem dX8_next_216 : decode cX8_next 216 = .ok (.iconst 0, 1) := by decide +kernel
theorem dX8_next_217 : decode cX8_next 217 = .ok (.putfield 184, 3) := by decide +kernel
theorem dX8_next_220 : decode cX8_next 220 = .ok (.aload_n 0, 1) := by decide +kernel
theorem dX8_next_221 : decode cX8_next 221 = .ok (.getfield 169, 3) := by decide +kernel
theorem dX8_next_224 : decode cX8_next 224 = .ok (.aload_n 0, 1) := by decide +kernel
theorem dX8_next_225 : decode cX8_next 225 = .ok (.getfield 175, 3) := by decide +kernel
theorem dX8_next_228 : decode cX8_next 228 = .ok (.if_icmp .ge 68, 3) := by decide +kernel
theorem dX8_next_231 : decode cX8_next 231 = .ok (.aload_n 0, 1) := by decide +kernel
theorem dX8_next_232 : decode cX8_next 232 = .ok (.getfield 31, 3) := by decide +kernel
theorem dX8_next_235 : decode cX8_next 235 = .ok (.aload_n 0, 1) := by decide +kernel
theorem dX8_next_236 : decode cX8_next 236 = .ok (.getfield 169, 3) := by decide +kernel
theorem dX8_next_239 : decode cX8_next 239 = .ok (.baload, 1) := by decide +kernel
theorem dX8_next_240 : decode cX8_next 240 = .ok (.invokestatic 181, 3) := by decide +kernel
theorem dX8_next_243 : decode cX8_next 243 = .ok (.ifCond .eq 53, 3) := by decide +kernel
theorem dX8_next_246 : decode cX8_next 246 = .ok (.aload_n 0, 1) := by decide +kernel
theorem dX8_next_247 : decode cX8_next 247 = .ok (.getfield 169, 3) := by decide +kernel
theorem dX8_next_250 : decode cX8_next 250 = .ok (.aload_n 0, 1) := by decide +kernel
theorem dX8_next_251 : decode cX8_next 251 = .ok (.getfield 172, 3) := by decide +kernel
theorem dX8_next_254 : decode cX8_next 254 = .ok (.isub, 1) := by decide +kernel
theorem dX8_next_255 : decode cX8_next 255 = .ok (.iconst 4, 1) := by decide +kernel
theorem dX8_next_256 : decode cX8_next 256 = .ok (.if_icmp .ge 27, 3) := by decide +kernel
theorem dX8_next_259 : decode cX8_next 259 = .ok (.aload_n 0, 1) := by decide +kernel
theorem dX8_next_260 : decode cX8_next 260 = .ok (.bipush 10, 2) := by decide +kernel
theorem dX8_next_262 : decode cX8_next 262 = .ok (.aload_n 0, 1) := by decide +kernel
theorem dX8_next_263 : decode cX8_next 263 = .ok (.getfield 184, 3) := by decide +kernel
theorem dX8_next_266 : decode cX8_next 266 = .ok (.imul, 1) := by decide +kernel
theorem dX8_next_267 : decode cX8_next 267 = .ok (.aload_n 0, 1) := by decide +kernel
theorem dX8_next_268 : decode cX8_next 268 = .ok (.getfield 31, 3) := by decide +kernel
theorem dX8_next_271 : decode cX8_next 271 = .ok (.aload_n 0, 1) := by decide +kernel
theorem dX8_next_272 : decode cX8_next 272 = .ok (.getfield 169, 3) := by decide +kernel
theorem dX8_next_275 : decode cX8_next 275 = .ok (.baload, 1) := by decide +kernel
theorem dX8_next_276 : decode cX8_next 276 = .ok (.iadd, 1) := by decide +kernel
theorem dX8_next_277 : decode cX8_next 277 = .ok (.bipush 48, 2) := by decide +kernel
theorem dX8_next_279 : decode cX8_next 279 = .ok (.isub, 1) := by decide +kernel
theorem dX8_next_280 : decode cX8_next 280 = .ok (.putfield 184, 3) := by decide +kernel
theorem dX8_next_283 : decode cX8_next 283 = .ok (.aload_n 0, 1) := by decide +kernel
theorem dX8_next_284 : decode cX8_next 284 = .ok (.dup, 1) := by decide +kernel
theorem dX8_next_285 : decode cX8_next 285 = .ok (.getfield 169, 3) := by decide +kernel
theorem dX8_next_288 : decode cX8_next 288 = .ok (.iconst 1, 1) := by decide +kernel
theorem dX8_next_289 : decode cX8_next 289 = .ok (.iadd, 1) := by decide +kernel
theorem dX8_next_290 : decode cX8_next 290 = .ok (.putfield 169, 3) := by decide +kernel
theorem dX8_next_293 : decode cX8_next 293 = .ok (.goto (-73), 3) := by decide +kernel
theorem dX8_next_296 : decode cX8_next 296 = .ok (.aload_n 0, 1) := by decide +kernel
theorem dX8_next_297 : decode cX8_next 297 = .ok (.iload_n 2, 1) := by decide +kernel
theorem dX8_next_298 : decode cX8_next 298 = .ok (.ifCond .ne 16, 3) := by decide +kernel
theorem dX8_next_301 : decode cX8_next 301 = .ok (.aload_n 0, 1) := by decide +kernel
theorem dX8_next_302 : decode cX8_next 302 = .ok (.getfield 169, 3) := by decide +kernel
theorem dX8_next_305 : decode cX8_next 305 = .ok (.aload_n 0, 1) := by decide +kernel
theorem dX8_next_306 : decode cX8_next 306 = .ok (.getfield 172, 3) := by decide +kernel
theorem dX8_next_309 : decode cX8_next 309 = .ok (.isub, 1) := by decide +kernel
theorem dX8_next_310 : decode cX8_next 310 = .ok (.iconst 4, 1) := by decide +kernel
theorem dX8_next_311 : decode cX8_next 311 = .ok (.if_icmp .le 7, 3) := by decide +kernel
theorem dX8_next_314 : decode cX8_next 314 = .ok (.iconst 4, 1) := by decide +kernel
theorem dX8_next_315 : decode cX8_next 315 = .ok (.goto 4, 3) := by decide +kernel
theorem dX8_next_318 : decode cX8_next 318 = .ok (.iconst 2, 1) := by decide +kernel
theorem dX8_next_319 : decode cX8_next 319 = .ok (.putfield 166, 3) := by decide +kernel
theorem dX8_next_322 : decode cX8_next 322 = .ok (.goto 36, 3) := by decide +kernel
theorem dX8_next_325 : decode cX8_next 325 = .ok (.aload_n 0, 1) := by decide +kernel
theorem dX8_next_326 : decode cX8_next 326 = .ok (.aload_n 0, 1) := by decide +kernel
theorem dX8_next_327 : decode cX8_next 327 = .ok (.getfield 172, 3) := by decide +kernel
theorem dX8_next_330 : decode cX8_next 330 = .ok (.iconst 1, 1) := by decide +kernel
theorem dX8_next_331 : decode cX8_next 331 = .ok (.iadd, 1) := by decide +kernel
theorem dX8_next_332 : decode cX8_next 332 = .ok (.putfield 169, 3) := by decide +kernel
theorem dX8_next_335 : decode cX8_next 335 = .ok (.aload_n 0, 1) := by decide +kernel
theorem dX8_next_336 : decode cX8_next 336 = .ok (.aload_n 0, 1) := by decide +kernel
theorem dX8_next_337 : decode cX8_next 337 = .ok (.getfield 31, 3) := by decide +kernel
theorem dX8_next_340 : decode cX8_next 340 = .ok (.aload_n 0, 1) := by decide +kernel
theorem dX8_next_341 : decode cX8_next 341 = .ok (.getfield 172, 3) := by decide +kernel
theorem dX8_next_344 : decode cX8_next 344 = .ok (.baload, 1) := by decide +kernel
theorem dX8_next_345 : decode cX8_next 345 = .ok (.bipush 59, 2) := by decide +kernel
theorem dX8_next_347 : decode cX8_next 347 = .ok (.if_icmp .ne 7, 3) := by decide +kernel
theorem dX8_next_350 : decode cX8_next 350 = .ok (.iconst 3, 1) := by decide +kernel
theorem dX8_next_351 : decode cX8_next 351 = .ok (.goto 4, 3) := by decide +kernel
theorem dX8_next_354 : decode cX8_next 354 = .ok (.iconst 4, 1) := by decide +kernel
theorem dX8_next_355 : decode cX8_next 355 = .ok (.putfield 166, 3) := by decide +kernel
theorem dX8_next_358 : decode cX8_next 358 = .ok (.return_, 1) := by decide +kernel
theorem dX8_errs_0 : decode cX8_errs 0 = .ok (.aload_n 0, 1) := by decide +kernel
theorem dX8_errs_1 : decode cX8_errs 1 = .ok (.getfield 187, 3) := by decide +kernel
theorem dX8_errs_4 : decode cX8_errs 4 = .ok (.ifCond .ne 16, 3) := by decide +kernel
theorem dX8_errs_7 : decode cX8_errs 7 = .ok (.aload_n 0, 1) := by decide +kernel
theorem dX8_errs_8 : decode cX8_errs 8 = .ok (.iload_n 1, 1) := by decide +kernel
theorem dX8_errs_9 : decode cX8_errs 9 = .ok (.putfield 187, 3) := by decide +kernel
theorem dX8_errs_12 : decode cX8_errs 12 = .ok (.aload_n 0, 1) := by decide +kernel
theorem dX8_errs_13 : decode cX8_errs 13 = .ok (.aload_n 0, 1) := by decide +kernel
theorem dX8_errs_14 : decode cX8_errs 14 = .ok (.getfield 172, 3) := by decide +kernel
theorem dX8_errs_17 : decode cX8_errs 17 = .ok (.putfield 190, 3) := by decide +kernel
theorem dX8_errs_20 : decode cX8_errs 20 = .ok (.return_, 1) := by decide +kernel
theorem dX8_isKey_0 : decode cX8_isKey 0 = .ok (.aload_n 0, 1) := by decide +kernel
theorem dX8_isKey_1 : decode cX8_isKey 1 = .ok (.getfield 166, 3) := by decide +kernel
theorem dX8_isKey_4 : decode cX8_isKey 4 = .ok (.iconst 1, 1) := by decide +kernel
theorem dX8_isKey_5 : decode cX8_isKey 5 = .ok (.if_icmp .ne 17, 3) := by decide +kernel
theorem dX8_isKey_8 : decode cX8_isKey 8 = .ok (.aload_n 0, 1) := by decide +kernel
theorem dX8_isKey_9 : decode cX8_isKey 9 = .ok (.getfield 169, 3) := by decide +kernel
theorem dX8_isKey_12 : decode cX8_isKey 12 = .ok (.aload_n 0, 1) := by decide +kernel
theorem dX8_isKey_13 : decode cX8_isKey 13 = .ok (.getfield 172, 3) := by decide +kernel
theorem dX8_isKey_16 : decode cX8_isKey 16 = .ok (.isub, 1) := by decide +kernel
theorem dX8_isKey_17 : decode cX8_isKey 17 = .ok (.bipush 8, 2) := by decide +kernel
theorem dX8_isKey_19 : decode cX8_isKey 19 = .ok (.if_icmp .le 5, 3) := by decide +kernel
theorem dX8_isKey_22 : decode cX8_isKey 22 = .ok (.iconst 0, 1) := by decide +kernel
theorem dX8_isKey_23 : decode cX8_isKey 23 = .ok (.ireturn, 1) := by decide +kernel
theorem dX8_isKey_24 : decode cX8_isKey 24 = .ok (.iconst 0, 1) := by decide +kernel
theorem dX8_isKey_25 : decode cX8_isKey 25 = .ok (.istore_n 2, 1) := by decide +kernel
theorem dX8_isKey_26 : decode cX8_isKey 26 = .ok (.iload_n 2, 1) := by decide +kernel
theorem dX8_isKey_27 : decode cX8_isKey 27 = .ok (.bipush 8, 2) := by decide +kernel
theorem dX8_isKey_29 : decode cX8_isKey 29 = .ok (.if_icmp .ge 55, 3) := by decide +kernel
theorem dX8_isKey_32 : decode cX8_isKey 32 = .ok (.iload_n 2, 1) := by decide +kernel
theorem dX8_isKey_33 : decode cX8_isKey 33 = .ok (.aload_n 0, 1) := by decide +kernel
theorem dX8_isKey_34 : decode cX8_isKey 34 = .ok (.getfield 169, 3) := by decide +kernel
theorem dX8_isKey_37 : decode cX8_isKey 37 = .ok (.aload_n 0, 1) := by decide +kernel
theorem dX8_isKey_38 : decode cX8_isKey 38 = .ok (.getfield 172, 3) := by decide +kernel
theorem dX8_isKey_41 : decode cX8_isKey 41 = .ok (.isub, 1) := by decide +kernel
theorem dX8_isKey_42 : decode cX8_isKey 42 = .ok (.if_icmp .ge 17, 3) := by decide +kernel
theorem dX8_isKey_45 : decode cX8_isKey 45 = .ok (.aload_n 0, 1) := by decide +kernel
theorem dX8_isKey_46 : decode cX8_isKey 46 = .ok (.getfield 31, 3) := by decide +kernel
theorem dX8_isKey_49 : decode cX8_isKey 49 = .ok (.aload_n 0, 1) := by decide +kernel
theorem dX8_isKey_50 : decode cX8_isKey 50 = .ok (.getfield 172, 3) := by decide +kernel
theorem dX8_isKey_53 : decode cX8_isKey 53 = .ok (.iload_n 2, 1) := by decide +kernel
theorem dX8_isKey_54 : decode cX8_isKey 54 = .ok (.iadd, 1) := by decide +kernel
theorem dX8_isKey_55 : decode cX8_isKey 55 = .ok (.baload, 1) := by decide +kernel
theorem dX8_isKey_56 : decode cX8_isKey 56 = .ok (.goto 4, 3) := by decide +kernel
theorem dX8_isKey_59 : decode cX8_isKey 59 = .ok (.iconst 0, 1) := by decide +kernel
theorem dX8_isKey_60 : decode cX8_isKey 60 = .ok (.istore_n 3, 1) := by decide +kernel
theorem dX8_isKey_61 : decode cX8_isKey 61 = .ok (.iload_n 3, 1) := by decide +kernel
theorem dX8_isKey_62 : decode cX8_isKey 62 = .ok (.aload_n 0, 1) := by decide +kernel
theorem dX8_isKey_63 : decode cX8_isKey 63 = .ok (.getfield 7, 3) := by decide +kernel
theorem dX8_isKey_66 : decode cX8_isKey 66 = .ok (.bipush 8, 2) := by decide +kernel
theorem dX8_isKey_68 : decode cX8_isKey 68 = .ok (.iload_n 1, 1) := by decide +kernel
theorem dX8_isKey_69 : decode cX8_isKey 69 = .ok (.imul, 1) := by decide +kernel
theorem dX8_isKey_70 : decode cX8_isKey 70 = .ok (.iload_n 2, 1) := by decide +kernel
theorem dX8_isKey_71 : decode cX8_isKey 71 = .ok (.iadd, 1) := by decide +kernel
theorem dX8_isKey_72 : decode cX8_isKey 72 = .ok (.iaload, 1) := by decide +kernel
theorem dX8_isKey_73 : decode cX8_isKey 73 = .ok (.if_icmp .eq 5, 3) := by decide +kernel
theorem dX8_isKey_76 : decode cX8_isKey 76 = .ok (.iconst 0, 1) := by decide +kernel
theorem dX8_isKey_77 : decode cX8_isKey 77 = .ok (.ireturn, 1) := by decide +kernel
theorem dX8_isKey_78 : decode cX8_isKey 78 = .ok (.iinc 2 1, 3) := by decide +kernel
theorem dX8_isKey_81 : decode cX8_isKey 81 = .ok (.goto (-55), 3) := by decide +kernel
theorem dX8_isKey_84 : decode cX8_isKey 84 = .ok (.iconst 1, 1) := by decide +kernel
theorem dX8_isKey_85 : decode cX8_isKey 85 = .ok (.ireturn, 1) := by decide +kernel
theorem dX8_goesOn_0 : decode cX8_goesOn 0 = .ok (.aload_n 0, 1) := by decide +kernel
theorem dX8_goesOn_1 : decode cX8_goesOn 1 = .ok (.getfield 187, 3) := by decide +kernel
theorem dX8_goesOn_4 : decode cX8_goesOn 4 = .ok (.ifCond .ne 7, 3) := by decide +kernel
theorem dX8_goesOn_7 : decode cX8_goesOn 7 = .ok (.aload_n 0, 1) := by decide +kernel
theorem dX8_goesOn_8 : decode cX8_goesOn 8 = .ok (.invokevirtual 193, 3) := by decide +kernel
theorem dX8_goesOn_11 : decode cX8_goesOn 11 = .ok (.return_, 1) := by decide +kernel
theorem dX8_here_0 : decode cX8_here 0 = .ok (.aload_n 0, 1) := by decide +kernel
theorem dX8_here_1 : decode cX8_here 1 = .ok (.getfield 187, 3) := by decide +kernel
theorem dX8_here_4 : decode cX8_here 4 = .ok (.ifCond .ne 16, 3) := by decide +kernel
theorem dX8_here_7 : decode cX8_here 7 = .ok (.aload_n 0, 1) := by decide +kernel
theorem dX8_here_8 : decode cX8_here 8 = .ok (.getfield 166, 3) := by decide +kernel
theorem dX8_here_11 : decode cX8_here 11 = .ok (.iconst 2, 1) := by decide +kernel
theorem dX8_here_12 : decode cX8_here 12 = .ok (.if_icmp .eq 8, 3) := by decide +kernel
theorem dX8_here_15 : decode cX8_here 15 = .ok (.aload_n 0, 1) := by decide +kernel
theorem dX8_here_16 : decode cX8_here 16 = .ok (.iconst 1, 1) := by decide +kernel
theorem dX8_here_17 : decode cX8_here 17 = .ok (.invokevirtual 196, 3) := by decide +kernel
theorem dX8_here_20 : decode cX8_here 20 = .ok (.aload_n 0, 1) := by decide +kernel
theorem dX8_here_21 : decode cX8_here 21 = .ok (.getfield 187, 3) := by decide +kernel
theorem dX8_here_24 : decode cX8_here 24 = .ok (.ifCond .ne 20, 3) := by decide +kernel
theorem dX8_here_27 : decode cX8_here 27 = .ok (.aload_n 0, 1) := by decide +kernel
theorem dX8_here_28 : decode cX8_here 28 = .ok (.getfield 184, 3) := by decide +kernel
theorem dX8_here_31 : decode cX8_here 31 = .ok (.iload_n 1, 1) := by decide +kernel
theorem dX8_here_32 : decode cX8_here 32 = .ok (.iload_n 2, 1) := by decide +kernel
theorem dX8_here_33 : decode cX8_here 33 = .ok (.invokestatic 67, 3) := by decide +kernel
theorem dX8_here_36 : decode cX8_here 36 = .ok (.ifCond .ne 8, 3) := by decide +kernel
theorem dX8_here_39 : decode cX8_here 39 = .ok (.aload_n 0, 1) := by decide +kernel
theorem dX8_here_40 : decode cX8_here 40 = .ok (.iconst 2, 1) := by decide +kernel
theorem dX8_here_41 : decode cX8_here 41 = .ok (.invokevirtual 196, 3) := by decide +kernel
theorem dX8_here_44 : decode cX8_here 44 = .ok (.aload_n 0, 1) := by decide +kernel
theorem dX8_here_45 : decode cX8_here 45 = .ok (.getfield 187, 3) := by decide +kernel
theorem dX8_here_48 : decode cX8_here 48 = .ok (.ifCond .ne 10, 3) := by decide +kernel
theorem dX8_here_51 : decode cX8_here 51 = .ok (.aload_n 0, 1) := by decide +kernel
theorem dX8_here_52 : decode cX8_here 52 = .ok (.getfield 184, 3) := by decide +kernel
theorem dX8_here_55 : decode cX8_here 55 = .ok (.goto 4, 3) := by decide +kernel
theorem dX8_here_58 : decode cX8_here 58 = .ok (.iload_n 1, 1) := by decide +kernel
theorem dX8_here_59 : decode cX8_here 59 = .ok (.ireturn, 1) := by decide +kernel
theorem dX8_takesNumber_0 : decode cX8_takesNumber 0 = .ok (.aload_n 0, 1) := by decide +kernel
theorem dX8_takesNumber_1 : decode cX8_takesNumber 1 = .ok (.iload_n 1, 1) := by decide +kernel
theorem dX8_takesNumber_2 : decode cX8_takesNumber 2 = .ok (.iload_n 2, 1) := by decide +kernel
theorem dX8_takesNumber_3 : decode cX8_takesNumber 3 = .ok (.invokevirtual 199, 3) := by decide +kernel
theorem dX8_takesNumber_6 : decode cX8_takesNumber 6 = .ok (.istore_n 3, 1) := by decide +kernel
theorem dX8_takesNumber_7 : decode cX8_takesNumber 7 = .ok (.aload_n 0, 1) := by decide +kernel
theorem dX8_takesNumber_8 : decode cX8_takesNumber 8 = .ok (.invokevirtual 202, 3) := by decide +kernel
theorem dX8_takesNumber_11 : decode cX8_takesNumber 11 = .ok (.iload_n 3, 1) := by decide +kernel
theorem dX8_takesNumber_12 : decode cX8_takesNumber 12 = .ok (.ireturn, 1) := by decide +kernel
theorem dX8_spellsHere_0 : decode cX8_spellsHere 0 = .ok (.aload_n 0, 1) := by decide +kernel
theorem dX8_spellsHere_1 : decode cX8_spellsHere 1 = .ok (.getfield 187, 3) := by decide +kernel
theorem dX8_spellsHere_4 : decode cX8_spellsHere 4 = .ok (.ifCond .ne 30, 3) := by decide +kernel
theorem dX8_spellsHere_7 : decode cX8_spellsHere 7 = .ok (.aload_n 0, 1) := by decide +kernel
theorem dX8_spellsHere_8 : decode cX8_spellsHere 8 = .ok (.getfield 166, 3) := by decide +kernel
theorem dX8_spellsHere_11 : decode cX8_spellsHere 11 = .ok (.iconst 1, 1) := by decide +kernel
theorem dX8_spellsHere_12 : decode cX8_spellsHere 12 = .ok (.if_icmp .ne 17, 3) := by decide +kernel
theorem dX8_spellsHere_15 : decode cX8_spellsHere 15 = .ok (.aload_n 0, 1) := by decide +kernel
theorem dX8_spellsHere_16 : decode cX8_spellsHere 16 = .ok (.getfield 169, 3) := by decide +kernel
theorem dX8_spellsHere_19 : decode cX8_spellsHere 19 = .ok (.aload_n 0, 1) := by decide +kernel
theorem dX8_spellsHere_20 : decode cX8_spellsHere 20 = .ok (.getfield 172, 3) := by decide +kernel
theorem dX8_spellsHere_23 : decode cX8_spellsHere 23 = .ok (.isub, 1) := by decide +kernel
theorem dX8_spellsHere_24 : decode cX8_spellsHere 24 = .ok (.bipush 6, 2) := by decide +kernel
theorem dX8_spellsHere_26 : decode cX8_spellsHere 26 = .ok (.if_icmp .le 8, 3) := by decide +kernel
theorem dX8_spellsHere_29 : decode cX8_spellsHere 29 = .ok (.aload_n 0, 1) := by decide +kernel
theorem dX8_spellsHere_30 : decode cX8_spellsHere 30 = .ok (.iconst 1, 1) := by decide +kernel
theorem dX8_spellsHere_31 : decode cX8_spellsHere 31 = .ok (.invokevirtual 196, 3) := by decide +kernel
theorem dX8_spellsHere_34 : decode cX8_spellsHere 34 = .ok (.iconst 0, 1) := by decide +kernel
theorem dX8_spellsHere_35 : decode cX8_spellsHere 35 = .ok (.istore_n 1, 1) := by decide +kernel
theorem dX8_spellsHere_36 : decode cX8_spellsHere 36 = .ok (.iload_n 1, 1) := by decide +kernel
theorem dX8_spellsHere_37 : decode cX8_spellsHere 37 = .ok (.bipush 6, 2) := by decide +kernel
theorem dX8_spellsHere_39 : decode cX8_spellsHere 39 = .ok (.if_icmp .ge 50, 3) := by decide +kernel
theorem dX8_spellsHere_42 : decode cX8_spellsHere 42 = .ok (.aload_n 0, 1) := by decide +kernel
theorem dX8_spellsHere_43 : decode cX8_spellsHere 43 = .ok (.getfield 187, 3) := by decide +kernel
theorem dX8_spellsHere_46 : decode cX8_spellsHere 46 = .ok (.ifCond .ne 43, 3) := by decide +kernel
theorem dX8_spellsHere_49 : decode cX8_spellsHere 49 = .ok (.aload_n 0, 1) := by decide +kernel
theorem dX8_spellsHere_50 : decode cX8_spellsHere 50 = .ok (.getfield 25, 3) := by decide +kernel
theorem dX8_spellsHere_53 : decode cX8_spellsHere 53 = .ok (.iload_n 1, 1) := by decide +kernel
theorem dX8_spellsHere_54 : decode cX8_spellsHere 54 = .ok (.iload_n 1, 1) := by decide +kernel
theorem dX8_spellsHere_55 : decode cX8_spellsHere 55 = .ok (.aload_n 0, 1) := by decide +kernel
theorem dX8_spellsHere_56 : decode cX8_spellsHere 56 = .ok (.getfield 169, 3) := by decide +kernel
theorem dX8_spellsHere_59 : decode cX8_spellsHere 59 = .ok (.aload_n 0, 1) := by decide +kernel
theorem dX8_spellsHere_60 : decode cX8_spellsHere 60 = .ok (.getfield 172, 3) := by decide +kernel
theorem dX8_spellsHere_63 : decode cX8_spellsHere 63 = .ok (.isub, 1) := by decide +kernel
theorem dX8_spellsHere_64 : decode cX8_spellsHere 64 = .ok (.if_icmp .ge 17, 3) := by decide +kernel
theorem dX8_spellsHere_67 : decode cX8_spellsHere 67 = .ok (.aload_n 0, 1) := by decide +kernel
theorem dX8_spellsHere_68 : decode cX8_spellsHere 68 = .ok (.getfield 31, 3) := by decide +kernel
theorem dX8_spellsHere_71 : decode cX8_spellsHere 71 = .ok (.aload_n 0, 1) := by decide +kernel
theorem dX8_spellsHere_72 : decode cX8_spellsHere 72 = .ok (.getfield 172, 3) := by decide +kernel
theorem dX8_spellsHere_75 : decode cX8_spellsHere 75 = .ok (.iload_n 1, 1) := by decide +kernel
theorem dX8_spellsHere_76 : decode cX8_spellsHere 76 = .ok (.iadd, 1) := by decide +kernel
theorem dX8_spellsHere_77 : decode cX8_spellsHere 77 = .ok (.baload, 1) := by decide +kernel
theorem dX8_spellsHere_78 : decode cX8_spellsHere 78 = .ok (.goto 4, 3) := by decide +kernel
theorem dX8_spellsHere_81 : decode cX8_spellsHere 81 = .ok (.iconst 0, 1) := by decide +kernel
theorem dX8_spellsHere_82 : decode cX8_spellsHere 82 = .ok (.iastore, 1) := by decide +kernel
theorem dX8_spellsHere_83 : decode cX8_spellsHere 83 = .ok (.iinc 1 1, 3) := by decide +kernel
theorem dX8_spellsHere_86 : decode cX8_spellsHere 86 = .ok (.goto (-50), 3) := by decide +kernel
theorem dX8_spellsHere_89 : decode cX8_spellsHere 89 = .ok (.return_, 1) := by decide +kernel
theorem dX8_takesStreet_0 : decode cX8_takesStreet 0 = .ok (.aload_n 0, 1) := by decide +kernel
theorem dX8_takesStreet_1 : decode cX8_takesStreet 1 = .ok (.invokevirtual 205, 3) := by decide +kernel
theorem dX8_takesStreet_4 : decode cX8_takesStreet 4 = .ok (.aload_n 0, 1) := by decide +kernel
theorem dX8_takesStreet_5 : decode cX8_takesStreet 5 = .ok (.getfield 187, 3) := by decide +kernel
theorem dX8_takesStreet_8 : decode cX8_takesStreet 8 = .ok (.ifCond .ne 10, 3) := by decide +kernel
theorem dX8_takesStreet_11 : decode cX8_takesStreet 11 = .ok (.aload_n 0, 1) := by decide +kernel
theorem dX8_takesStreet_12 : decode cX8_takesStreet 12 = .ok (.invokevirtual 208, 3) := by decide +kernel
theorem dX8_takesStreet_15 : decode cX8_takesStreet 15 = .ok (.goto 4, 3) := by decide +kernel
theorem dX8_takesStreet_18 : decode cX8_takesStreet 18 = .ok (.iconst 0, 1) := by decide +kernel
theorem dX8_takesStreet_19 : decode cX8_takesStreet 19 = .ok (.istore_n 1, 1) := by decide +kernel
theorem dX8_takesStreet_20 : decode cX8_takesStreet 20 = .ok (.aload_n 0, 1) := by decide +kernel
theorem dX8_takesStreet_21 : decode cX8_takesStreet 21 = .ok (.getfield 187, 3) := by decide +kernel
theorem dX8_takesStreet_24 : decode cX8_takesStreet 24 = .ok (.ifCond .ne 13, 3) := by decide +kernel
theorem dX8_takesStreet_27 : decode cX8_takesStreet 27 = .ok (.iload_n 1, 1) := by decide +kernel
theorem dX8_takesStreet_28 : decode cX8_takesStreet 28 = .ok (.iconst (-1), 1) := by decide +kernel
theorem dX8_takesStreet_29 : decode cX8_takesStreet 29 = .ok (.if_icmp .ne 8, 3) := by decide +kernel
theorem dX8_takesStreet_32 : decode cX8_takesStreet 32 = .ok (.aload_n 0, 1) := by decide +kernel
theorem dX8_takesStreet_33 : decode cX8_takesStreet 33 = .ok (.iconst 3, 1) := by decide +kernel
theorem dX8_takesStreet_34 : decode cX8_takesStreet 34 = .ok (.invokevirtual 196, 3) := by decide +kernel
theorem dX8_takesStreet_37 : decode cX8_takesStreet 37 = .ok (.aload_n 0, 1) := by decide +kernel
theorem dX8_takesStreet_38 : decode cX8_takesStreet 38 = .ok (.invokevirtual 202, 3) := by decide +kernel
theorem dX8_takesStreet_41 : decode cX8_takesStreet 41 = .ok (.aload_n 0, 1) := by decide +kernel
theorem dX8_takesStreet_42 : decode cX8_takesStreet 42 = .ok (.getfield 187, 3) := by decide +kernel
theorem dX8_takesStreet_45 : decode cX8_takesStreet 45 = .ok (.ifCond .ne 7, 3) := by decide +kernel
theorem dX8_takesStreet_48 : decode cX8_takesStreet 48 = .ok (.iload_n 1, 1) := by decide +kernel
theorem dX8_takesStreet_49 : decode cX8_takesStreet 49 = .ok (.goto 4, 3) := by decide +kernel
theorem dX8_takesStreet_52 : decode cX8_takesStreet 52 = .ok (.iconst 0, 1) := by decide +kernel
theorem dX8_takesStreet_53 : decode cX8_takesStreet 53 = .ok (.ireturn, 1) := by decide +kernel
theorem dX8_takesBorrower_0 : decode cX8_takesBorrower 0 = .ok (.aload_n 0, 1) := by decide +kernel
theorem dX8_takesBorrower_1 : decode cX8_takesBorrower 1 = .ok (.invokevirtual 205, 3) := by decide +kernel
theorem dX8_takesBorrower_4 : decode cX8_takesBorrower 4 = .ok (.aload_n 0, 1) := by decide +kernel
theorem dX8_takesBorrower_5 : decode cX8_takesBorrower 5 = .ok (.getfield 187, 3) := by decide +kernel
theorem dX8_takesBorrower_8 : decode cX8_takesBorrower 8 = .ok (.ifCond .ne 10, 3) := by decide +kernel
theorem dX8_takesBorrower_11 : decode cX8_takesBorrower 11 = .ok (.aload_n 0, 1) := by decide +kernel
theorem dX8_takesBorrower_12 : decode cX8_takesBorrower 12 = .ok (.invokevirtual 211, 3) := by decide +kernel
theorem dX8_takesBorrower_15 : decode cX8_takesBorrower 15 = .ok (.goto 4, 3) := by decide +kernel
theorem dX8_takesBorrower_18 : decode cX8_takesBorrower 18 = .ok (.iconst 0, 1) := by decide +kernel
theorem dX8_takesBorrower_19 : decode cX8_takesBorrower 19 = .ok (.istore_n 1, 1) := by decide +kernel
theorem dX8_takesBorrower_20 : decode cX8_takesBorrower 20 = .ok (.aload_n 0, 1) := by decide +kernel
theorem dX8_takesBorrower_21 : decode cX8_takesBorrower 21 = .ok (.getfield 187, 3) := by decide +kernel
theorem dX8_takesBorrower_24 : decode cX8_takesBorrower 24 = .ok (.ifCond .ne 13, 3) := by decide +kernel
theorem dX8_takesBorrower_27 : decode cX8_takesBorrower 27 = .ok (.iload_n 1, 1) := by decide +kernel
theorem dX8_takesBorrower_28 : decode cX8_takesBorrower 28 = .ok (.iconst (-1), 1) := by decide +kernel
theorem dX8_takesBorrower_29 : decode cX8_takesBorrower 29 = .ok (.if_icmp .ne 8, 3) := by decide +kernel
theorem dX8_takesBorrower_32 : decode cX8_takesBorrower 32 = .ok (.aload_n 0, 1) := by decide +kernel
theorem dX8_takesBorrower_33 : decode cX8_takesBorrower 33 = .ok (.iconst 3, 1) := by decide +kernel
theorem dX8_takesBorrower_34 : decode cX8_takesBorrower 34 = .ok (.invokevirtual 196, 3) := by decide +kernel
theorem dX8_takesBorrower_37 : decode cX8_takesBorrower 37 = .ok (.aload_n 0, 1) := by decide +kernel
theorem dX8_takesBorrower_38 : decode cX8_takesBorrower 38 = .ok (.invokevirtual 202, 3) := by decide +kernel
theorem dX8_takesBorrower_41 : decode cX8_takesBorrower 41 = .ok (.aload_n 0, 1) := by decide +kernel
theorem dX8_takesBorrower_42 : decode cX8_takesBorrower 42 = .ok (.getfield 187, 3) := by decide +kernel
theorem dX8_takesBorrower_45 : decode cX8_takesBorrower 45 = .ok (.ifCond .ne 7, 3) := by decide +kernel
theorem dX8_takesBorrower_48 : decode cX8_takesBorrower 48 = .ok (.iload_n 1, 1) := by decide +kernel
theorem dX8_takesBorrower_49 : decode cX8_takesBorrower 49 = .ok (.goto 4, 3) := by decide +kernel
theorem dX8_takesBorrower_52 : decode cX8_takesBorrower 52 = .ok (.iconst 0, 1) := by decide +kernel
theorem dX8_takesBorrower_53 : decode cX8_takesBorrower 53 = .ok (.ireturn, 1) := by decide +kernel
theorem dX8_readsStreet_0 : decode cX8_readsStreet 0 = .ok (.aload_n 0, 1) := by decide +kernel
theorem dX8_readsStreet_1 : decode cX8_readsStreet 1 = .ok (.getfield 13, 3) := by decide +kernel
theorem dX8_readsStreet_4 : decode cX8_readsStreet 4 = .ok (.iconst 3, 1) := by decide +kernel
theorem dX8_readsStreet_5 : decode cX8_readsStreet 5 = .ok (.iaload, 1) := by decide +kernel
theorem dX8_readsStreet_6 : decode cX8_readsStreet 6 = .ok (.bipush 8, 2) := by decide +kernel
theorem dX8_readsStreet_8 : decode cX8_readsStreet 8 = .ok (.if_icmp .ne 9, 3) := by decide +kernel
theorem dX8_readsStreet_11 : decode cX8_readsStreet 11 = .ok (.aload_n 0, 1) := by decide +kernel
theorem dX8_readsStreet_12 : decode cX8_readsStreet 12 = .ok (.iconst 5, 1) := by decide +kernel
theorem dX8_readsStreet_13 : decode cX8_readsStreet 13 = .ok (.invokevirtual 196, 3) := by decide +kernel
theorem dX8_readsStreet_16 : decode cX8_readsStreet 16 = .ok (.return_, 1) := by decide +kernel
theorem dX8_readsStreet_17 : decode cX8_readsStreet 17 = .ok (.aload_n 0, 1) := by decide +kernel
theorem dX8_readsStreet_18 : decode cX8_readsStreet 18 = .ok (.invokevirtual 193, 3) := by decide +kernel
theorem dX8_readsStreet_21 : decode cX8_readsStreet 21 = .ok (.aload_n 0, 1) := by decide +kernel
theorem dX8_readsStreet_22 : decode cX8_readsStreet 22 = .ok (.invokevirtual 205, 3) := by decide +kernel
theorem dX8_readsStreet_25 : decode cX8_readsStreet 25 = .ok (.aload_n 0, 1) := by decide +kernel
theorem dX8_readsStreet_26 : decode cX8_readsStreet 26 = .ok (.getfield 187, 3) := by decide +kernel
theorem dX8_readsStreet_29 : decode cX8_readsStreet 29 = .ok (.ifCond .ne 16, 3) := by decide +kernel
theorem dX8_readsStreet_32 : decode cX8_readsStreet 32 = .ok (.aload_n 0, 1) := by decide +kernel
theorem dX8_readsStreet_33 : decode cX8_readsStreet 33 = .ok (.invokevirtual 208, 3) := by decide +kernel
theorem dX8_readsStreet_36 : decode cX8_readsStreet 36 = .ok (.iconst (-1), 1) := by decide +kernel
theorem dX8_readsStreet_37 : decode cX8_readsStreet 37 = .ok (.if_icmp .eq 8, 3) := by decide +kernel
theorem dX8_readsStreet_40 : decode cX8_readsStreet 40 = .ok (.aload_n 0, 1) := by decide +kernel
theorem dX8_readsStreet_41 : decode cX8_readsStreet 41 = .ok (.iconst 4, 1) := by decide +kernel
theorem dX8_readsStreet_42 : decode cX8_readsStreet 42 = .ok (.invokevirtual 196, 3) := by decide +kernel
theorem dX8_readsStreet_45 : decode cX8_readsStreet 45 = .ok (.aload_n 0, 1) := by decide +kernel
theorem dX8_readsStreet_46 : decode cX8_readsStreet 46 = .ok (.invokevirtual 202, 3) := by decide +kernel
theorem dX8_readsStreet_49 : decode cX8_readsStreet 49 = .ok (.aload_n 0, 1) := by decide +kernel
theorem dX8_readsStreet_50 : decode cX8_readsStreet 50 = .ok (.iconst 0, 1) := by decide +kernel
theorem dX8_readsStreet_51 : decode cX8_readsStreet 51 = .ok (.bipush 99, 2) := by decide +kernel
theorem dX8_readsStreet_53 : decode cX8_readsStreet 53 = .ok (.invokevirtual 214, 3) := by decide +kernel
theorem dX8_readsStreet_56 : decode cX8_readsStreet 56 = .ok (.istore_n 1, 1) := by decide +kernel
theorem dX8_readsStreet_57 : decode cX8_readsStreet 57 = .ok (.aload_n 0, 1) := by decide +kernel
theorem dX8_readsStreet_58 : decode cX8_readsStreet 58 = .ok (.iconst 0, 1) := by decide +kernel
theorem dX8_readsStreet_59 : decode cX8_readsStreet 59 = .ok (.bipush 99, 2) := by decide +kernel
theorem dX8_readsStreet_61 : decode cX8_readsStreet 61 = .ok (.invokevirtual 214, 3) := by decide +kernel
theorem dX8_readsStreet_64 : decode cX8_readsStreet 64 = .ok (.istore_n 2, 1) := by decide +kernel
theorem dX8_readsStreet_65 : decode cX8_readsStreet 65 = .ok (.aload_n 0, 1) := by decide +kernel
theorem dX8_readsStreet_66 : decode cX8_readsStreet 66 = .ok (.getfield 187, 3) := by decide +kernel
theorem dX8_readsStreet_69 : decode cX8_readsStreet 69 = .ok (.ifCond .ne 9, 3) := by decide +kernel
theorem dX8_readsStreet_72 : decode cX8_readsStreet 72 = .ok (.aload_n 0, 1) := by decide +kernel
theorem dX8_readsStreet_73 : decode cX8_readsStreet 73 = .ok (.iload_n 1, 1) := by decide +kernel
theorem dX8_readsStreet_74 : decode cX8_readsStreet 74 = .ok (.iload_n 2, 1) := by decide +kernel
theorem dX8_readsStreet_75 : decode cX8_readsStreet 75 = .ok (.invokevirtual 46, 3) := by decide +kernel
theorem dX8_readsStreet_78 : decode cX8_readsStreet 78 = .ok (.return_, 1) := by decide +kernel
theorem dX8_readsBorrower_0 : decode cX8_readsBorrower 0 = .ok (.aload_n 0, 1) := by decide +kernel
theorem dX8_readsBorrower_1 : decode cX8_readsBorrower 1 = .ok (.getfield 13, 3) := by decide +kernel
theorem dX8_readsBorrower_4 : decode cX8_readsBorrower 4 = .ok (.iconst 4, 1) := by decide +kernel
theorem dX8_readsBorrower_5 : decode cX8_readsBorrower 5 = .ok (.iaload, 1) := by decide +kernel
theorem dX8_readsBorrower_6 : decode cX8_readsBorrower 6 = .ok (.bipush 12, 2) := by decide +kernel
theorem dX8_readsBorrower_8 : decode cX8_readsBorrower 8 = .ok (.if_icmp .ne 9, 3) := by decide +kernel
theorem dX8_readsBorrower_11 : decode cX8_readsBorrower 11 = .ok (.aload_n 0, 1) := by decide +kernel
theorem dX8_readsBorrower_12 : decode cX8_readsBorrower 12 = .ok (.iconst 5, 1) := by decide +kernel
theorem dX8_readsBorrower_13 : decode cX8_readsBorrower 13 = .ok (.invokevirtual 196, 3) := by decide +kernel
theorem dX8_readsBorrower_16 : decode cX8_readsBorrower 16 = .ok (.return_, 1) := by decide +kernel
theorem dX8_readsBorrower_17 : decode cX8_readsBorrower 17 = .ok (.aload_n 0, 1) := by decide +kernel
theorem dX8_readsBorrower_18 : decode cX8_readsBorrower 18 = .ok (.invokevirtual 193, 3) := by decide +kernel
theorem dX8_readsBorrower_21 : decode cX8_readsBorrower 21 = .ok (.aload_n 0, 1) := by decide +kernel
theorem dX8_readsBorrower_22 : decode cX8_readsBorrower 22 = .ok (.invokevirtual 205, 3) := by decide +kernel
theorem dX8_readsBorrower_25 : decode cX8_readsBorrower 25 = .ok (.aload_n 0, 1) := by decide +kernel
theorem dX8_readsBorrower_26 : decode cX8_readsBorrower 26 = .ok (.getfield 187, 3) := by decide +kernel
theorem dX8_readsBorrower_29 : decode cX8_readsBorrower 29 = .ok (.ifCond .ne 16, 3) := by decide +kernel
theorem dX8_readsBorrower_32 : decode cX8_readsBorrower 32 = .ok (.aload_n 0, 1) := by decide +kernel
theorem dX8_readsBorrower_33 : decode cX8_readsBorrower 33 = .ok (.invokevirtual 211, 3) := by decide +kernel
theorem dX8_readsBorrower_36 : decode cX8_readsBorrower 36 = .ok (.iconst (-1), 1) := by decide +kernel
theorem dX8_readsBorrower_37 : decode cX8_readsBorrower 37 = .ok (.if_icmp .eq 8, 3) := by decide +kernel
theorem dX8_readsBorrower_40 : decode cX8_readsBorrower 40 = .ok (.aload_n 0, 1) := by decide +kernel
theorem dX8_readsBorrower_41 : decode cX8_readsBorrower 41 = .ok (.iconst 4, 1) := by decide +kernel
theorem dX8_readsBorrower_42 : decode cX8_readsBorrower 42 = .ok (.invokevirtual 196, 3) := by decide +kernel
theorem dX8_readsBorrower_45 : decode cX8_readsBorrower 45 = .ok (.aload_n 0, 1) := by decide +kernel
theorem dX8_readsBorrower_46 : decode cX8_readsBorrower 46 = .ok (.getfield 172, 3) := by decide +kernel
theorem dX8_readsBorrower_49 : decode cX8_readsBorrower 49 = .ok (.istore_n 1, 1) := by decide +kernel
theorem dX8_readsBorrower_50 : decode cX8_readsBorrower 50 = .ok (.aload_n 0, 1) := by decide +kernel
theorem dX8_readsBorrower_51 : decode cX8_readsBorrower 51 = .ok (.getfield 169, 3) := by decide +kernel
theorem dX8_readsBorrower_54 : decode cX8_readsBorrower 54 = .ok (.aload_n 0, 1) := by decide +kernel
theorem dX8_readsBorrower_55 : decode cX8_readsBorrower 55 = .ok (.getfield 172, 3) := by decide +kernel
theorem dX8_readsBorrower_58 : decode cX8_readsBorrower 58 = .ok (.isub, 1) := by decide +kernel
theorem dX8_readsBorrower_59 : decode cX8_readsBorrower 59 = .ok (.istore_n 2, 1) := by decide +kernel
theorem dX8_readsBorrower_60 : decode cX8_readsBorrower 60 = .ok (.aload_n 0, 1) := by decide +kernel
theorem dX8_readsBorrower_61 : decode cX8_readsBorrower 61 = .ok (.invokevirtual 202, 3) := by decide +kernel
theorem dX8_readsBorrower_64 : decode cX8_readsBorrower 64 = .ok (.aload_n 0, 1) := by decide +kernel
theorem dX8_readsBorrower_65 : decode cX8_readsBorrower 65 = .ok (.invokevirtual 217, 3) := by decide +kernel
theorem dX8_readsBorrower_68 : decode cX8_readsBorrower 68 = .ok (.istore_n 3, 1) := by decide +kernel
theorem dX8_readsBorrower_69 : decode cX8_readsBorrower 69 = .ok (.aload_n 0, 1) := by decide +kernel
theorem dX8_readsBorrower_70 : decode cX8_readsBorrower 70 = .ok (.iconst 0, 1) := by decide +kernel
theorem dX8_readsBorrower_71 : decode cX8_readsBorrower 71 = .ok (.bipush 9, 2) := by decide +kernel
theorem dX8_readsBorrower_73 : decode cX8_readsBorrower 73 = .ok (.invokevirtual 214, 3) := by decide +kernel
theorem dX8_readsBorrower_76 : decode cX8_readsBorrower 76 = .ok (.istore 4, 2) := by decide +kernel
theorem dX8_readsBorrower_78 : decode cX8_readsBorrower 78 = .ok (.aload_n 0, 1) := by decide +kernel
theorem dX8_readsBorrower_79 : decode cX8_readsBorrower 79 = .ok (.iconst 0, 1) := by decide +kernel
theorem dX8_readsBorrower_80 : decode cX8_readsBorrower 80 = .ok (.sipush 999, 3) := by decide +kernel
theorem dX8_readsBorrower_83 : decode cX8_readsBorrower 83 = .ok (.invokevirtual 214, 3) := by decide +kernel
theorem dX8_readsBorrower_86 : decode cX8_readsBorrower 86 = .ok (.istore 5, 2) := by decide +kernel
theorem dX8_readsBorrower_88 : decode cX8_readsBorrower 88 = .ok (.aload_n 0, 1) := by decide +kernel
theorem dX8_readsBorrower_89 : decode cX8_readsBorrower 89 = .ok (.getfield 187, 3) := by decide +kernel
theorem dX8_readsBorrower_92 : decode cX8_readsBorrower 92 = .ok (.ifCond .ne 54, 3) := by decide +kernel
theorem dX8_readsBorrower_95 : decode cX8_readsBorrower 95 = .ok (.iconst 0, 1) := by decide +kernel
theorem dX8_readsBorrower_96 : decode cX8_readsBorrower 96 = .ok (.istore 6, 2) := by decide +kernel
theorem dX8_readsBorrower_98 : decode cX8_readsBorrower 98 = .ok (.iload 6, 2) := by decide +kernel
theorem dX8_readsBorrower_100 : decode cX8_readsBorrower 100 = .ok (.bipush 6, 2) := by decide +kernel
theorem dX8_readsBorrower_102 : decode cX8_readsBorrower 102 = .ok (.if_icmp .ge 35, 3) := by decide +kernel
theorem dX8_readsBorrower_105 : decode cX8_readsBorrower 105 = .ok (.aload_n 0, 1) := by decide +kernel
theorem dX8_readsBorrower_106 : decode cX8_readsBorrower 106 = .ok (.getfield 25, 3) := by decide +kernel
theorem dX8_readsBorrower_109 : decode cX8_readsBorrower 109 = .ok (.iload 6, 2) := by decide +kernel
theorem dX8_readsBorrower_111 : decode cX8_readsBorrower 111 = .ok (.iload 6, 2) := by decide +kernel
theorem dX8_readsBorrower_113 : decode cX8_readsBorrower 113 = .ok (.iload_n 2, 1) := by decide +kernel
theorem dX8_readsBorrower_114 : decode cX8_readsBorrower 114 = .ok (.if_icmp .ge 15, 3) := by decide +kernel
theorem dX8_readsBorrower_117 : decode cX8_readsBorrower 117 = .ok (.aload_n 0, 1) := by decide +kernel
theorem dX8_readsBorrower_118 : decode cX8_readsBorrower 118 = .ok (.getfield 31, 3) := by decide +kernel
theorem dX8_readsBorrower_121 : decode cX8_readsBorrower 121 = .ok (.iload_n 1, 1) := by decide +kernel
theorem dX8_readsBorrower_122 : decode cX8_readsBorrower 122 = .ok (.iload 6, 2) := by decide +kernel
theorem dX8_readsBorrower_124 : decode cX8_readsBorrower 124 = .ok (.iadd, 1) := by decide +kernel
theorem dX8_readsBorrower_125 : decode cX8_readsBorrower 125 = .ok (.baload, 1) := by decide +kernel
theorem dX8_readsBorrower_126 : decode cX8_readsBorrower 126 = .ok (.goto 4, 3) := by decide +kernel
theorem dX8_readsBorrower_129 : decode cX8_readsBorrower 129 = .ok (.iconst 0, 1) := by decide +kernel
theorem dX8_readsBorrower_130 : decode cX8_readsBorrower 130 = .ok (.iastore, 1) := by decide +kernel
theorem dX8_readsBorrower_131 : decode cX8_readsBorrower 131 = .ok (.iinc 6 1, 3) := by decide +kernel
theorem dX8_readsBorrower_134 : decode cX8_readsBorrower 134 = .ok (.goto (-36), 3) := by decide +kernel
theorem dX8_readsBorrower_137 : decode cX8_readsBorrower 137 = .ok (.aload_n 0, 1) := by decide +kernel
theorem dX8_readsBorrower_138 : decode cX8_readsBorrower 138 = .ok (.iload_n 3, 1) := by decide +kernel
theorem dX8_readsBorrower_139 : decode cX8_readsBorrower 139 = .ok (.iload 4, 2) := by decide +kernel
theorem dX8_readsBorrower_141 : decode cX8_readsBorrower 141 = .ok (.iload 5, 2) := by decide +kernel
theorem dX8_readsBorrower_143 : decode cX8_readsBorrower 143 = .ok (.invokevirtual 50, 3) := by decide +kernel
theorem dX8_readsBorrower_146 : decode cX8_readsBorrower 146 = .ok (.return_, 1) := by decide +kernel
theorem dX8_takesStart_0 : decode cX8_takesStart 0 = .ok (.aload_n 0, 1) := by decide +kernel
theorem dX8_takesStart_1 : decode cX8_takesStart 1 = .ok (.aload_n 0, 1) := by decide +kernel
theorem dX8_takesStart_2 : decode cX8_takesStart 2 = .ok (.getfield 13, 3) := by decide +kernel
theorem dX8_takesStart_5 : decode cX8_takesStart 5 = .ok (.iconst 2, 1) := by decide +kernel
theorem dX8_takesStart_6 : decode cX8_takesStart 6 = .ok (.iaload, 1) := by decide +kernel
theorem dX8_takesStart_7 : decode cX8_takesStart 7 = .ok (.aload_n 0, 1) := by decide +kernel
theorem dX8_takesStart_8 : decode cX8_takesStart 8 = .ok (.getfield 13, 3) := by decide +kernel
theorem dX8_takesStart_11 : decode cX8_takesStart 11 = .ok (.iconst 2, 1) := by decide +kernel
theorem dX8_takesStart_12 : decode cX8_takesStart 12 = .ok (.iaload, 1) := by decide +kernel
theorem dX8_takesStart_13 : decode cX8_takesStart 13 = .ok (.bipush 48, 2) := by decide +kernel
theorem dX8_takesStart_15 : decode cX8_takesStart 15 = .ok (.iadd, 1) := by decide +kernel
theorem dX8_takesStart_16 : decode cX8_takesStart 16 = .ok (.iconst 1, 1) := by decide +kernel
theorem dX8_takesStart_17 : decode cX8_takesStart 17 = .ok (.isub, 1) := by decide +kernel
theorem dX8_takesStart_18 : decode cX8_takesStart 18 = .ok (.invokevirtual 214, 3) := by decide +kernel
theorem dX8_takesStart_21 : decode cX8_takesStart 21 = .ok (.ireturn, 1) := by decide +kernel
theorem dX8_lengthHere_0 : decode cX8_lengthHere 0 = .ok (.aload_n 0, 1) := by decide +kernel
theorem dX8_lengthHere_1 : decode cX8_lengthHere 1 = .ok (.getfield 13, 3) := by decide +kernel
theorem dX8_lengthHere_4 : decode cX8_lengthHere 4 = .ok (.iconst 2, 1) := by decide +kernel
theorem dX8_lengthHere_5 : decode cX8_lengthHere 5 = .ok (.iaload, 1) := by decide +kernel
theorem dX8_lengthHere_6 : decode cX8_lengthHere 6 = .ok (.bipush 48, 2) := by decide +kernel
theorem dX8_lengthHere_8 : decode cX8_lengthHere 8 = .ok (.iadd, 1) := by decide +kernel
theorem dX8_lengthHere_9 : decode cX8_lengthHere 9 = .ok (.iload_n 1, 1) := by decide +kernel
theorem dX8_lengthHere_10 : decode cX8_lengthHere 10 = .ok (.isub, 1) := by decide +kernel
theorem dX8_lengthHere_11 : decode cX8_lengthHere 11 = .ok (.istore_n 3, 1) := by decide +kernel
theorem dX8_lengthHere_12 : decode cX8_lengthHere 12 = .ok (.aload_n 0, 1) := by decide +kernel
theorem dX8_lengthHere_13 : decode cX8_lengthHere 13 = .ok (.iconst 1, 1) := by decide +kernel
theorem dX8_lengthHere_14 : decode cX8_lengthHere 14 = .ok (.iload_n 3, 1) := by decide +kernel
theorem dX8_lengthHere_15 : decode cX8_lengthHere 15 = .ok (.iload_n 2, 1) := by decide +kernel
theorem dX8_lengthHere_16 : decode cX8_lengthHere 16 = .ok (.if_icmp .ge 7, 3) := by decide +kernel
theorem dX8_lengthHere_19 : decode cX8_lengthHere 19 = .ok (.iload_n 3, 1) := by decide +kernel
theorem dX8_lengthHere_20 : decode cX8_lengthHere 20 = .ok (.goto 4, 3) := by decide +kernel
theorem dX8_lengthHere_23 : decode cX8_lengthHere 23 = .ok (.iload_n 2, 1) := by decide +kernel
theorem dX8_lengthHere_24 : decode cX8_lengthHere 24 = .ok (.invokevirtual 199, 3) := by decide +kernel
theorem dX8_lengthHere_27 : decode cX8_lengthHere 27 = .ok (.ireturn, 1) := by decide +kernel
theorem dX8_readsPermit_0 : decode cX8_readsPermit 0 = .ok (.aload_n 0, 1) := by decide +kernel
theorem dX8_readsPermit_1 : decode cX8_readsPermit 1 = .ok (.getfield 13, 3) := by decide +kernel
theorem dX8_readsPermit_4 : decode cX8_readsPermit 4 = .ok (.iconst 5, 1) := by decide +kernel
theorem dX8_readsPermit_5 : decode cX8_readsPermit 5 = .ok (.iaload, 1) := by decide +kernel
theorem dX8_readsPermit_6 : decode cX8_readsPermit 6 = .ok (.bipush 10, 2) := by decide +kernel
theorem dX8_readsPermit_8 : decode cX8_readsPermit 8 = .ok (.if_icmp .ne 9, 3) := by decide +kernel
theorem dX8_readsPermit_11 : decode cX8_readsPermit 11 = .ok (.aload_n 0, 1) := by decide +kernel
theorem dX8_readsPermit_12 : decode cX8_readsPermit 12 = .ok (.iconst 5, 1) := by decide +kernel
theorem dX8_readsPermit_13 : decode cX8_readsPermit 13 = .ok (.invokevirtual 196, 3) := by decide +kernel
theorem dX8_readsPermit_16 : decode cX8_readsPermit 16 = .ok (.return_, 1) := by decide +kernel
theorem dX8_readsPermit_17 : decode cX8_readsPermit 17 = .ok (.aload_n 0, 1) := by decide +kernel
theorem dX8_readsPermit_18 : decode cX8_readsPermit 18 = .ok (.invokevirtual 193, 3) := by decide +kernel
theorem dX8_readsPermit_21 : decode cX8_readsPermit 21 = .ok (.aload_n 0, 1) := by decide +kernel
theorem dX8_readsPermit_22 : decode cX8_readsPermit 22 = .ok (.invokevirtual 217, 3) := by decide +kernel
theorem dX8_readsPermit_25 : decode cX8_readsPermit 25 = .ok (.istore_n 1, 1) := by decide +kernel
theorem dX8_readsPermit_26 : decode cX8_readsPermit 26 = .ok (.aload_n 0, 1) := by decide +kernel
theorem dX8_readsPermit_27 : decode cX8_readsPermit 27 = .ok (.invokevirtual 220, 3) := by decide +kernel
theorem dX8_readsPermit_30 : decode cX8_readsPermit 30 = .ok (.istore_n 2, 1) := by decide +kernel
theorem dX8_readsPermit_31 : decode cX8_readsPermit 31 = .ok (.aload_n 0, 1) := by decide +kernel
theorem dX8_readsPermit_32 : decode cX8_readsPermit 32 = .ok (.iload_n 2, 1) := by decide +kernel
theorem dX8_readsPermit_33 : decode cX8_readsPermit 33 = .ok (.bipush 12, 2) := by decide +kernel
theorem dX8_readsPermit_35 : decode cX8_readsPermit 35 = .ok (.invokevirtual 223, 3) := by decide +kernel
theorem dX8_readsPermit_38 : decode cX8_readsPermit 38 = .ok (.istore_n 3, 1) := by decide +kernel
theorem dX8_readsPermit_39 : decode cX8_readsPermit 39 = .ok (.aload_n 0, 1) := by decide +kernel
theorem dX8_readsPermit_40 : decode cX8_readsPermit 40 = .ok (.getfield 187, 3) := by decide +kernel
theorem dX8_readsPermit_43 : decode cX8_readsPermit 43 = .ok (.ifCond .ne 19, 3) := by decide +kernel
theorem dX8_readsPermit_46 : decode cX8_readsPermit 46 = .ok (.aload_n 0, 1) := by decide +kernel
theorem dX8_readsPermit_47 : decode cX8_readsPermit 47 = .ok (.iload_n 1, 1) := by decide +kernel
theorem dX8_readsPermit_48 : decode cX8_readsPermit 48 = .ok (.iload_n 2, 1) := by decide +kernel
theorem dX8_readsPermit_49 : decode cX8_readsPermit 49 = .ok (.iload_n 3, 1) := by decide +kernel
theorem dX8_readsPermit_50 : decode cX8_readsPermit 50 = .ok (.invokevirtual 226, 3) := by decide +kernel
theorem dX8_readsPermit_53 : decode cX8_readsPermit 53 = .ok (.ifCond .ne 9, 3) := by decide +kernel
theorem dX8_readsPermit_56 : decode cX8_readsPermit 56 = .ok (.aload_n 0, 1) := by decide +kernel
theorem dX8_readsPermit_57 : decode cX8_readsPermit 57 = .ok (.bipush 6, 2) := by decide +kernel
theorem dX8_readsPermit_59 : decode cX8_readsPermit 59 = .ok (.invokevirtual 196, 3) := by decide +kernel
theorem dX8_readsPermit_62 : decode cX8_readsPermit 62 = .ok (.aload_n 0, 1) := by decide +kernel
theorem dX8_readsPermit_63 : decode cX8_readsPermit 63 = .ok (.getfield 187, 3) := by decide +kernel
theorem dX8_readsPermit_66 : decode cX8_readsPermit 66 = .ok (.ifCond .ne 14, 3) := by decide +kernel
theorem dX8_readsPermit_69 : decode cX8_readsPermit 69 = .ok (.aload_n 0, 1) := by decide +kernel
theorem dX8_readsPermit_70 : decode cX8_readsPermit 70 = .ok (.iload_n 1, 1) := by decide +kernel
theorem dX8_readsPermit_71 : decode cX8_readsPermit 71 = .ok (.iload_n 2, 1) := by decide +kernel
theorem dX8_readsPermit_72 : decode cX8_readsPermit 72 = .ok (.iload_n 3, 1) := by decide +kernel
theorem dX8_readsPermit_73 : decode cX8_readsPermit 73 = .ok (.invokevirtual 54, 3) := by decide +kernel
theorem dX8_readsPermit_76 : decode cX8_readsPermit 76 = .ok (.aload_n 0, 1) := by decide +kernel
theorem dX8_readsPermit_77 : decode cX8_readsPermit 77 = .ok (.invokevirtual 193, 3) := by decide +kernel
theorem dX8_readsPermit_80 : decode cX8_readsPermit 80 = .ok (.return_, 1) := by decide +kernel
theorem dX8_readsLend_0 : decode cX8_readsLend 0 = .ok (.aload_n 0, 1) := by decide +kernel
theorem dX8_readsLend_1 : decode cX8_readsLend 1 = .ok (.invokevirtual 193, 3) := by decide +kernel
theorem dX8_readsLend_4 : decode cX8_readsLend 4 = .ok (.aload_n 0, 1) := by decide +kernel
theorem dX8_readsLend_5 : decode cX8_readsLend 5 = .ok (.invokevirtual 229, 3) := by decide +kernel
theorem dX8_readsLend_8 : decode cX8_readsLend 8 = .ok (.istore_n 1, 1) := by decide +kernel
theorem dX8_readsLend_9 : decode cX8_readsLend 9 = .ok (.aload_n 0, 1) := by decide +kernel
theorem dX8_readsLend_10 : decode cX8_readsLend 10 = .ok (.invokevirtual 220, 3) := by decide +kernel
theorem dX8_readsLend_13 : decode cX8_readsLend 13 = .ok (.istore_n 2, 1) := by decide +kernel
theorem dX8_readsLend_14 : decode cX8_readsLend 14 = .ok (.aload_n 0, 1) := by decide +kernel
theorem dX8_readsLend_15 : decode cX8_readsLend 15 = .ok (.iload_n 2, 1) := by decide +kernel
theorem dX8_readsLend_16 : decode cX8_readsLend 16 = .ok (.bipush 6, 2) := by decide +kernel
theorem dX8_readsLend_18 : decode cX8_readsLend 18 = .ok (.invokevirtual 223, 3) := by decide +kernel
theorem dX8_readsLend_21 : decode cX8_readsLend 21 = .ok (.istore_n 3, 1) := by decide +kernel
theorem dX8_readsLend_22 : decode cX8_readsLend 22 = .ok (.aload_n 0, 1) := by decide +kernel
theorem dX8_readsLend_23 : decode cX8_readsLend 23 = .ok (.getfield 187, 3) := by decide +kernel
theorem dX8_readsLend_26 : decode cX8_readsLend 26 = .ok (.ifCond .ne 19, 3) := by decide +kernel
theorem dX8_readsLend_29 : decode cX8_readsLend 29 = .ok (.aload_n 0, 1) := by decide +kernel
theorem dX8_readsLend_30 : decode cX8_readsLend 30 = .ok (.iload_n 1, 1) := by decide +kernel
theorem dX8_readsLend_31 : decode cX8_readsLend 31 = .ok (.iload_n 2, 1) := by decide +kernel
theorem dX8_readsLend_32 : decode cX8_readsLend 32 = .ok (.iload_n 3, 1) := by decide +kernel
theorem dX8_readsLend_33 : decode cX8_readsLend 33 = .ok (.invokevirtual 232, 3) := by decide +kernel
theorem dX8_readsLend_36 : decode cX8_readsLend 36 = .ok (.ifCond .eq 9, 3) := by decide +kernel
theorem dX8_readsLend_39 : decode cX8_readsLend 39 = .ok (.aload_n 0, 1) := by decide +kernel
theorem dX8_readsLend_40 : decode cX8_readsLend 40 = .ok (.bipush 6, 2) := by decide +kernel
theorem dX8_readsLend_42 : decode cX8_readsLend 42 = .ok (.invokevirtual 196, 3) := by decide +kernel
theorem dX8_readsLend_45 : decode cX8_readsLend 45 = .ok (.aload_n 0, 1) := by decide +kernel
theorem dX8_readsLend_46 : decode cX8_readsLend 46 = .ok (.getfield 187, 3) := by decide +kernel
theorem dX8_readsLend_49 : decode cX8_readsLend 49 = .ok (.ifCond .ne 14, 3) := by decide +kernel
theorem dX8_readsLend_52 : decode cX8_readsLend 52 = .ok (.aload_n 0, 1) := by decide +kernel
theorem dX8_readsLend_53 : decode cX8_readsLend 53 = .ok (.iload_n 1, 1) := by decide +kernel
theorem dX8_readsLend_54 : decode cX8_readsLend 54 = .ok (.iload_n 2, 1) := by decide +kernel
theorem dX8_readsLend_55 : decode cX8_readsLend 55 = .ok (.iload_n 3, 1) := by decide +kernel
theorem dX8_readsLend_56 : decode cX8_readsLend 56 = .ok (.invokevirtual 57, 3) := by decide +kernel
theorem dX8_readsLend_59 : decode cX8_readsLend 59 = .ok (.aload_n 0, 1) := by decide +kernel
theorem dX8_readsLend_60 : decode cX8_readsLend 60 = .ok (.invokevirtual 193, 3) := by decide +kernel
theorem dX8_readsLend_63 : decode cX8_readsLend 63 = .ok (.return_, 1) := by decide +kernel
theorem dX8_readsWhistle_0 : decode cX8_readsWhistle 0 = .ok (.aload_n 0, 1) := by decide +kernel
theorem dX8_readsWhistle_1 : decode cX8_readsWhistle 1 = .ok (.invokevirtual 193, 3) := by decide +kernel
theorem dX8_readsWhistle_4 : decode cX8_readsWhistle 4 = .ok (.aload_n 0, 1) := by decide +kernel
theorem dX8_readsWhistle_5 : decode cX8_readsWhistle 5 = .ok (.iconst 0, 1) := by decide +kernel
theorem dX8_readsWhistle_6 : decode cX8_readsWhistle 6 = .ok (.aload_n 0, 1) := by decide +kernel
theorem dX8_readsWhistle_7 : decode cX8_readsWhistle 7 = .ok (.getfield 13, 3) := by decide +kernel
theorem dX8_readsWhistle_10 : decode cX8_readsWhistle 10 = .ok (.bipush 6, 2) := by decide +kernel
theorem dX8_readsWhistle_12 : decode cX8_readsWhistle 12 = .ok (.iaload, 1) := by decide +kernel
theorem dX8_readsWhistle_13 : decode cX8_readsWhistle 13 = .ok (.iconst 1, 1) := by decide +kernel
theorem dX8_readsWhistle_14 : decode cX8_readsWhistle 14 = .ok (.isub, 1) := by decide +kernel
theorem dX8_readsWhistle_15 : decode cX8_readsWhistle 15 = .ok (.invokevirtual 199, 3) := by decide +kernel
theorem dX8_readsWhistle_18 : decode cX8_readsWhistle 18 = .ok (.istore_n 1, 1) := by decide +kernel
theorem dX8_readsWhistle_19 : decode cX8_readsWhistle 19 = .ok (.aload_n 0, 1) := by decide +kernel
theorem dX8_readsWhistle_20 : decode cX8_readsWhistle 20 = .ok (.getfield 187, 3) := by decide +kernel
theorem dX8_readsWhistle_23 : decode cX8_readsWhistle 23 = .ok (.ifCond .ne 17, 3) := by decide +kernel
theorem dX8_readsWhistle_26 : decode cX8_readsWhistle 26 = .ok (.aload_n 0, 1) := by decide +kernel
theorem dX8_readsWhistle_27 : decode cX8_readsWhistle 27 = .ok (.iload_n 1, 1) := by decide +kernel
theorem dX8_readsWhistle_28 : decode cX8_readsWhistle 28 = .ok (.invokevirtual 235, 3) := by decide +kernel
theorem dX8_readsWhistle_31 : decode cX8_readsWhistle 31 = .ok (.ifCond .ne 9, 3) := by decide +kernel
theorem dX8_readsWhistle_34 : decode cX8_readsWhistle 34 = .ok (.aload_n 0, 1) := by decide +kernel
theorem dX8_readsWhistle_35 : decode cX8_readsWhistle 35 = .ok (.bipush 6, 2) := by decide +kernel
theorem dX8_readsWhistle_37 : decode cX8_readsWhistle 37 = .ok (.invokevirtual 196, 3) := by decide +kernel
theorem dX8_readsWhistle_40 : decode cX8_readsWhistle 40 = .ok (.aload_n 0, 1) := by decide +kernel
theorem dX8_readsWhistle_41 : decode cX8_readsWhistle 41 = .ok (.getfield 187, 3) := by decide +kernel
theorem dX8_readsWhistle_44 : decode cX8_readsWhistle 44 = .ok (.ifCond .ne 19, 3) := by decide +kernel
theorem dX8_readsWhistle_47 : decode cX8_readsWhistle 47 = .ok (.aload_n 0, 1) := by decide +kernel
theorem dX8_readsWhistle_48 : decode cX8_readsWhistle 48 = .ok (.getfield 13, 3) := by decide +kernel
theorem dX8_readsWhistle_51 : decode cX8_readsWhistle 51 = .ok (.iload_n 1, 1) := by decide +kernel
theorem dX8_readsWhistle_52 : decode cX8_readsWhistle 52 = .ok (.invokestatic 93, 3) := by decide +kernel
theorem dX8_readsWhistle_55 : decode cX8_readsWhistle 55 = .ok (.iconst 4, 1) := by decide +kernel
theorem dX8_readsWhistle_56 : decode cX8_readsWhistle 56 = .ok (.iadd, 1) := by decide +kernel
theorem dX8_readsWhistle_57 : decode cX8_readsWhistle 57 = .ok (.iconst 3, 1) := by decide +kernel
theorem dX8_readsWhistle_58 : decode cX8_readsWhistle 58 = .ok (.iastore, 1) := by decide +kernel
theorem dX8_readsWhistle_59 : decode cX8_readsWhistle 59 = .ok (.aload_n 0, 1) := by decide +kernel
theorem dX8_readsWhistle_60 : decode cX8_readsWhistle 60 = .ok (.invokevirtual 193, 3) := by decide +kernel
theorem dX8_readsWhistle_63 : decode cX8_readsWhistle 63 = .ok (.return_, 1) := by decide +kernel
theorem dX8_readsHours_0 : decode cX8_readsHours 0 = .ok (.aload_n 0, 1) := by decide +kernel
theorem dX8_readsHours_1 : decode cX8_readsHours 1 = .ok (.invokevirtual 193, 3) := by decide +kernel
theorem dX8_readsHours_4 : decode cX8_readsHours 4 = .ok (.sipush 9999, 3) := by decide +kernel
theorem dX8_readsHours_7 : decode cX8_readsHours 7 = .ok (.aload_n 0, 1) := by decide +kernel
theorem dX8_readsHours_8 : decode cX8_readsHours 8 = .ok (.getfield 13, 3) := by decide +kernel
theorem dX8_readsHours_11 : decode cX8_readsHours 11 = .ok (.iconst 2, 1) := by decide +kernel
theorem dX8_readsHours_12 : decode cX8_readsHours 12 = .ok (.iaload, 1) := by decide +kernel
theorem dX8_readsHours_13 : decode cX8_readsHours 13 = .ok (.isub, 1) := by decide +kernel
theorem dX8_readsHours_14 : decode cX8_readsHours 14 = .ok (.istore_n 1, 1) := by decide +kernel
theorem dX8_readsHours_15 : decode cX8_readsHours 15 = .ok (.aload_n 0, 1) := by decide +kernel
theorem dX8_readsHours_16 : decode cX8_readsHours 16 = .ok (.iconst 1, 1) := by decide +kernel
theorem dX8_readsHours_17 : decode cX8_readsHours 17 = .ok (.iload_n 1, 1) := by decide +kernel
theorem dX8_readsHours_18 : decode cX8_readsHours 18 = .ok (.bipush 99, 2) := by decide +kernel
theorem dX8_readsHours_20 : decode cX8_readsHours 20 = .ok (.if_icmp .ge 7, 3) := by decide +kernel
theorem dX8_readsHours_23 : decode cX8_readsHours 23 = .ok (.iload_n 1, 1) := by decide +kernel
theorem dX8_readsHours_24 : decode cX8_readsHours 24 = .ok (.goto 5, 3) := by decide +kernel
theorem dX8_readsHours_27 : decode cX8_readsHours 27 = .ok (.bipush 99, 2) := by decide +kernel
theorem dX8_readsHours_29 : decode cX8_readsHours 29 = .ok (.invokevirtual 214, 3) := by decide +kernel
theorem dX8_readsHours_32 : decode cX8_readsHours 32 = .ok (.istore_n 2, 1) := by decide +kernel
theorem dX8_readsHours_33 : decode cX8_readsHours 33 = .ok (.aload_n 0, 1) := by decide +kernel
theorem dX8_readsHours_34 : decode cX8_readsHours 34 = .ok (.aload_n 0, 1) := by decide +kernel
theorem dX8_readsHours_35 : decode cX8_readsHours 35 = .ok (.getfield 187, 3) := by decide +kernel
theorem dX8_readsHours_38 : decode cX8_readsHours 38 = .ok (.ifCond .ne 7, 3) := by decide +kernel
theorem dX8_readsHours_41 : decode cX8_readsHours 41 = .ok (.iload_n 2, 1) := by decide +kernel
theorem dX8_readsHours_42 : decode cX8_readsHours 42 = .ok (.goto 4, 3) := by decide +kernel
theorem dX8_readsHours_45 : decode cX8_readsHours 45 = .ok (.iconst 0, 1) := by decide +kernel
theorem dX8_readsHours_46 : decode cX8_readsHours 46 = .ok (.invokevirtual 60, 3) := by decide +kernel
theorem dX8_readsHours_49 : decode cX8_readsHours 49 = .ok (.istore_n 3, 1) := by decide +kernel
theorem dX8_readsHours_50 : decode cX8_readsHours 50 = .ok (.return_, 1) := by decide +kernel
theorem dX8_readsLine_0 : decode cX8_readsLine 0 = .ok (.aload_n 0, 1) := by decide +kernel
theorem dX8_readsLine_1 : decode cX8_readsLine 1 = .ok (.iconst 1, 1) := by decide +kernel
theorem dX8_readsLine_2 : decode cX8_readsLine 2 = .ok (.invokevirtual 238, 3) := by decide +kernel
theorem dX8_readsLine_5 : decode cX8_readsLine 5 = .ok (.ifCond .eq 10, 3) := by decide +kernel
theorem dX8_readsLine_8 : decode cX8_readsLine 8 = .ok (.aload_n 0, 1) := by decide +kernel
theorem dX8_readsLine_9 : decode cX8_readsLine 9 = .ok (.invokevirtual 241, 3) := by decide +kernel
theorem dX8_readsLine_12 : decode cX8_readsLine 12 = .ok (.goto 84, 3) := by decide +kernel
theorem dX8_readsLine_15 : decode cX8_readsLine 15 = .ok (.aload_n 0, 1) := by decide +kernel
theorem dX8_readsLine_16 : decode cX8_readsLine 16 = .ok (.iconst 2, 1) := by decide +kernel
theorem dX8_readsLine_17 : decode cX8_readsLine 17 = .ok (.invokevirtual 238, 3) := by decide +kernel
theorem dX8_readsLine_20 : decode cX8_readsLine 20 = .ok (.ifCond .eq 10, 3) := by decide +kernel
theorem dX8_readsLine_23 : decode cX8_readsLine 23 = .ok (.aload_n 0, 1) := by decide +kernel
theorem dX8_readsLine_24 : decode cX8_readsLine 24 = .ok (.invokevirtual 244, 3) := by decide +kernel
theorem dX8_readsLine_27 : decode cX8_readsLine 27 = .ok (.goto 69, 3) := by decide +kernel
theorem dX8_readsLine_30 : decode cX8_readsLine 30 = .ok (.aload_n 0, 1) := by decide +kernel
theorem dX8_readsLine_31 : decode cX8_readsLine 31 = .ok (.iconst 3, 1) := by decide +kernel
theorem dX8_readsLine_32 : decode cX8_readsLine 32 = .ok (.invokevirtual 238, 3) := by decide +kernel
theorem dX8_readsLine_35 : decode cX8_readsLine 35 = .ok (.ifCond .eq 10, 3) := by decide +kernel
theorem dX8_readsLine_38 : decode cX8_readsLine 38 = .ok (.aload_n 0, 1) := by decide +kernel
theorem dX8_readsLine_39 : decode cX8_readsLine 39 = .ok (.invokevirtual 247, 3) := by decide +kernel
theorem dX8_readsLine_42 : decode cX8_readsLine 42 = .ok (.goto 54, 3) := by decide +kernel
theorem dX8_readsLine_45 : decode cX8_readsLine 45 = .ok (.aload_n 0, 1) := by decide +kernel
theorem dX8_readsLine_46 : decode cX8_readsLine 46 = .ok (.iconst 4, 1) := by decide +kernel
theorem dX8_readsLine_47 : decode cX8_readsLine 47 = .ok (.invokevirtual 238, 3) := by decide +kernel
theorem dX8_readsLine_50 : decode cX8_readsLine 50 = .ok (.ifCond .eq 10, 3) := by decide +kernel
theorem dX8_readsLine_53 : decode cX8_readsLine 53 = .ok (.aload_n 0, 1) := by decide +kernel
theorem dX8_readsLine_54 : decode cX8_readsLine 54 = .ok (.invokevirtual 250, 3) := by decide +kernel
theorem dX8_readsLine_57 : decode cX8_readsLine 57 = .ok (.goto 39, 3) := by decide +kernel
theorem dX8_readsLine_60 : decode cX8_readsLine 60 = .ok (.aload_n 0, 1) := by decide +kernel
theorem dX8_readsLine_61 : decode cX8_readsLine 61 = .ok (.iconst 5, 1) := by decide +kernel
theorem dX8_readsLine_62 : decode cX8_readsLine 62 = .ok (.invokevirtual 238, 3) := by decide +kernel
theorem dX8_readsLine_65 : decode cX8_readsLine 65 = .ok (.ifCond .eq 10, 3) := by decide +kernel
theorem dX8_readsLine_68 : decode cX8_readsLine 68 = .ok (.aload_n 0, 1) := by decide +kernel
theorem dX8_readsLine_69 : decode cX8_readsLine 69 = .ok (.invokevirtual 253, 3) := by decide +kernel
theorem dX8_readsLine_72 : decode cX8_readsLine 72 = .ok (.goto 24, 3) := by decide +kernel
theorem dX8_readsLine_75 : decode cX8_readsLine 75 = .ok (.aload_n 0, 1) := by decide +kernel
theorem dX8_readsLine_76 : decode cX8_readsLine 76 = .ok (.bipush 6, 2) := by decide +kernel
theorem dX8_readsLine_78 : decode cX8_readsLine 78 = .ok (.invokevirtual 238, 3) := by decide +kernel
theorem dX8_readsLine_81 : decode cX8_readsLine 81 = .ok (.ifCond .eq 10, 3) := by decide +kernel
theorem dX8_readsLine_84 : decode cX8_readsLine 84 = .ok (.aload_n 0, 1) := by decide +kernel
theorem dX8_readsLine_85 : decode cX8_readsLine 85 = .ok (.invokevirtual 256, 3) := by decide +kernel
theorem dX8_readsLine_88 : decode cX8_readsLine 88 = .ok (.goto 8, 3) := by decide +kernel
theorem dX8_readsLine_91 : decode cX8_readsLine 91 = .ok (.aload_n 0, 1) := by decide +kernel
theorem dX8_readsLine_92 : decode cX8_readsLine 92 = .ok (.iconst 1, 1) := by decide +kernel
theorem dX8_readsLine_93 : decode cX8_readsLine 93 = .ok (.invokevirtual 196, 3) := by decide +kernel
theorem dX8_readsLine_96 : decode cX8_readsLine 96 = .ok (.return_, 1) := by decide +kernel
theorem dX8_readsText_0 : decode cX8_readsText 0 = .ok (.iconst 0, 1) := by decide +kernel
theorem dX8_readsText_1 : decode cX8_readsText 1 = .ok (.istore_n 2, 1) := by decide +kernel
theorem dX8_readsText_2 : decode cX8_readsText 2 = .ok (.iload_n 2, 1) := by decide +kernel
theorem dX8_readsText_3 : decode cX8_readsText 3 = .ok (.sipush 411, 3) := by decide +kernel
theorem dX8_readsText_6 : decode cX8_readsText 6 = .ok (.if_icmp .ge 16, 3) := by decide +kernel
theorem dX8_readsText_9 : decode cX8_readsText 9 = .ok (.aload_n 0, 1) := by decide +kernel
theorem dX8_readsText_10 : decode cX8_readsText 10 = .ok (.getfield 13, 3) := by decide +kernel
theorem dX8_readsText_13 : decode cX8_readsText 13 = .ok (.iload_n 2, 1) := by decide +kernel
theorem dX8_readsText_14 : decode cX8_readsText 14 = .ok (.iconst 0, 1) := by decide +kernel
theorem dX8_readsText_15 : decode cX8_readsText 15 = .ok (.iastore, 1) := by decide +kernel
theorem dX8_readsText_16 : decode cX8_readsText 16 = .ok (.iinc 2 1, 3) := by decide +kernel
theorem dX8_readsText_19 : decode cX8_readsText 19 = .ok (.goto (-17), 3) := by decide +kernel
theorem dX8_readsText_22 : decode cX8_readsText 22 = .ok (.aload_n 0, 1) := by decide +kernel
theorem dX8_readsText_23 : decode cX8_readsText 23 = .ok (.iload_n 1, 1) := by decide +kernel
theorem dX8_readsText_24 : decode cX8_readsText 24 = .ok (.putfield 175, 3) := by decide +kernel
theorem dX8_readsText_27 : decode cX8_readsText 27 = .ok (.aload_n 0, 1) := by decide +kernel
theorem dX8_readsText_28 : decode cX8_readsText 28 = .ok (.iconst 0, 1) := by decide +kernel
theorem dX8_readsText_29 : decode cX8_readsText 29 = .ok (.putfield 187, 3) := by decide +kernel
theorem dX8_readsText_32 : decode cX8_readsText 32 = .ok (.aload_n 0, 1) := by decide +kernel
theorem dX8_readsText_33 : decode cX8_readsText 33 = .ok (.iconst 0, 1) := by decide +kernel
theorem dX8_readsText_34 : decode cX8_readsText 34 = .ok (.putfield 166, 3) := by decide +kernel
theorem dX8_readsText_37 : decode cX8_readsText 37 = .ok (.aload_n 0, 1) := by decide +kernel
theorem dX8_readsText_38 : decode cX8_readsText 38 = .ok (.iconst 0, 1) := by decide +kernel
theorem dX8_readsText_39 : decode cX8_readsText 39 = .ok (.putfield 169, 3) := by decide +kernel
theorem dX8_readsText_42 : decode cX8_readsText 42 = .ok (.aload_n 0, 1) := by decide +kernel
theorem dX8_readsText_43 : decode cX8_readsText 43 = .ok (.invokevirtual 193, 3) := by decide +kernel
theorem dX8_readsText_46 : decode cX8_readsText 46 = .ok (.aload_n 0, 1) := by decide +kernel
theorem dX8_readsText_47 : decode cX8_readsText 47 = .ok (.iconst 0, 1) := by decide +kernel
theorem dX8_readsText_48 : decode cX8_readsText 48 = .ok (.invokevirtual 238, 3) := by decide +kernel
theorem dX8_readsText_51 : decode cX8_readsText 51 = .ok (.ifCond .eq 10, 3) := by decide +kernel
theorem dX8_readsText_54 : decode cX8_readsText 54 = .ok (.aload_n 0, 1) := by decide +kernel
theorem dX8_readsText_55 : decode cX8_readsText 55 = .ok (.invokevirtual 193, 3) := by decide +kernel
theorem dX8_readsText_58 : decode cX8_readsText 58 = .ok (.goto 8, 3) := by decide +kernel
theorem dX8_readsText_61 : decode cX8_readsText 61 = .ok (.aload_n 0, 1) := by decide +kernel
theorem dX8_readsText_62 : decode cX8_readsText 62 = .ok (.iconst 1, 1) := by decide +kernel
theorem dX8_readsText_63 : decode cX8_readsText 63 = .ok (.invokevirtual 196, 3) := by decide +kernel
theorem dX8_readsText_66 : decode cX8_readsText 66 = .ok (.aload_n 0, 1) := by decide +kernel
theorem dX8_readsText_67 : decode cX8_readsText 67 = .ok (.getfield 13, 3) := by decide +kernel
theorem dX8_readsText_70 : decode cX8_readsText 70 = .ok (.iconst 0, 1) := by decide +kernel
theorem dX8_readsText_71 : decode cX8_readsText 71 = .ok (.aload_n 0, 1) := by decide +kernel
theorem dX8_readsText_72 : decode cX8_readsText 72 = .ok (.iconst 1, 1) := by decide +kernel
theorem dX8_readsText_73 : decode cX8_readsText 73 = .ok (.bipush 24, 2) := by decide +kernel
theorem dX8_readsText_75 : decode cX8_readsText 75 = .ok (.invokevirtual 214, 3) := by decide +kernel
theorem dX8_readsText_78 : decode cX8_readsText 78 = .ok (.iastore, 1) := by decide +kernel
theorem dX8_readsText_79 : decode cX8_readsText 79 = .ok (.aload_n 0, 1) := by decide +kernel
theorem dX8_readsText_80 : decode cX8_readsText 80 = .ok (.getfield 13, 3) := by decide +kernel
theorem dX8_readsText_83 : decode cX8_readsText 83 = .ok (.iconst 1, 1) := by decide +kernel
theorem dX8_readsText_84 : decode cX8_readsText 84 = .ok (.aload_n 0, 1) := by decide +kernel
theorem dX8_readsText_85 : decode cX8_readsText 85 = .ok (.iconst 0, 1) := by decide +kernel
theorem dX8_readsText_86 : decode cX8_readsText 86 = .ok (.bipush 99, 2) := by decide +kernel
theorem dX8_readsText_88 : decode cX8_readsText 88 = .ok (.invokevirtual 214, 3) := by decide +kernel
theorem dX8_readsText_91 : decode cX8_readsText 91 = .ok (.iastore, 1) := by decide +kernel
theorem dX8_readsText_92 : decode cX8_readsText 92 = .ok (.aload_n 0, 1) := by decide +kernel
theorem dX8_readsText_93 : decode cX8_readsText 93 = .ok (.getfield 187, 3) := by decide +kernel
theorem dX8_readsText_96 : decode cX8_readsText 96 = .ok (.ifCond .ne 37, 3) := by decide +kernel
theorem dX8_readsText_99 : decode cX8_readsText 99 = .ok (.aload_n 0, 1) := by decide +kernel
theorem dX8_readsText_100 : decode cX8_readsText 100 = .ok (.getfield 166, 3) := by decide +kernel
theorem dX8_readsText_103 : decode cX8_readsText 103 = .ok (.ifCond .eq 30, 3) := by decide +kernel
theorem dX8_readsText_106 : decode cX8_readsText 106 = .ok (.aload_n 0, 1) := by decide +kernel
theorem dX8_readsText_107 : decode cX8_readsText 107 = .ok (.getfield 166, 3) := by decide +kernel
theorem dX8_readsText_110 : decode cX8_readsText 110 = .ok (.iconst 3, 1) := by decide +kernel
theorem dX8_readsText_111 : decode cX8_readsText 111 = .ok (.if_icmp .ne 14, 3) := by decide +kernel
theorem dX8_readsText_114 : decode cX8_readsText 114 = .ok (.aload_n 0, 1) := by decide +kernel
theorem dX8_readsText_115 : decode cX8_readsText 115 = .ok (.invokevirtual 193, 3) := by decide +kernel
theorem dX8_readsText_118 : decode cX8_readsText 118 = .ok (.aload_n 0, 1) := by decide +kernel
theorem dX8_readsText_119 : decode cX8_readsText 119 = .ok (.invokevirtual 259, 3) := by decide +kernel
theorem dX8_readsText_122 : decode cX8_readsText 122 = .ok (.goto (-30), 3) := by decide +kernel
theorem dX8_readsText_125 : decode cX8_readsText 125 = .ok (.aload_n 0, 1) := by decide +kernel
theorem dX8_readsText_126 : decode cX8_readsText 126 = .ok (.iconst 1, 1) := by decide +kernel
theorem dX8_readsText_127 : decode cX8_readsText 127 = .ok (.invokevirtual 196, 3) := by decide +kernel
theorem dX8_readsText_130 : decode cX8_readsText 130 = .ok (.goto (-38), 3) := by decide +kernel
theorem dX8_readsText_133 : decode cX8_readsText 133 = .ok (.return_, 1) := by decide +kernel
theorem dX8_feeds_0 : decode cX8_feeds 0 = .ok (.aload_n 0, 1) := by decide +kernel
theorem dX8_feeds_1 : decode cX8_feeds 1 = .ok (.getfield 31, 3) := by decide +kernel
theorem dX8_feeds_4 : decode cX8_feeds 4 = .ok (.aload_n 0, 1) := by decide +kernel
theorem dX8_feeds_5 : decode cX8_feeds 5 = .ok (.getfield 262, 3) := by decide +kernel
theorem dX8_feeds_8 : decode cX8_feeds 8 = .ok (.iload_n 1, 1) := by decide +kernel
theorem dX8_feeds_9 : decode cX8_feeds 9 = .ok (.bipush 24, 2) := by decide +kernel
theorem dX8_feeds_11 : decode cX8_feeds 11 = .ok (.ishr, 1) := by decide +kernel
theorem dX8_feeds_12 : decode cX8_feeds 12 = .ok (.i2b, 1) := by decide +kernel
theorem dX8_feeds_13 : decode cX8_feeds 13 = .ok (.bastore, 1) := by decide +kernel
theorem dX8_feeds_14 : decode cX8_feeds 14 = .ok (.aload_n 0, 1) := by decide +kernel
theorem dX8_feeds_15 : decode cX8_feeds 15 = .ok (.getfield 31, 3) := by decide +kernel
theorem dX8_feeds_18 : decode cX8_feeds 18 = .ok (.aload_n 0, 1) := by decide +kernel
theorem dX8_feeds_19 : decode cX8_feeds 19 = .ok (.getfield 262, 3) := by decide +kernel
theorem dX8_feeds_22 : decode cX8_feeds 22 = .ok (.iconst 1, 1) := by decide +kernel
theorem dX8_feeds_23 : decode cX8_feeds 23 = .ok (.iadd, 1) := by decide +kernel
theorem dX8_feeds_24 : decode cX8_feeds 24 = .ok (.iload_n 1, 1) := by decide +kernel
theorem dX8_feeds_25 : decode cX8_feeds 25 = .ok (.bipush 16, 2) := by decide +kernel
theorem dX8_feeds_27 : decode cX8_feeds 27 = .ok (.ishr, 1) := by decide +kernel
theorem dX8_feeds_28 : decode cX8_feeds 28 = .ok (.i2b, 1) := by decide +kernel
theorem dX8_feeds_29 : decode cX8_feeds 29 = .ok (.bastore, 1) := by decide +kernel
theorem dX8_feeds_30 : decode cX8_feeds 30 = .ok (.aload_n 0, 1) := by decide +kernel
theorem dX8_feeds_31 : decode cX8_feeds 31 = .ok (.getfield 31, 3) := by decide +kernel
theorem dX8_feeds_34 : decode cX8_feeds 34 = .ok (.aload_n 0, 1) := by decide +kernel
theorem dX8_feeds_35 : decode cX8_feeds 35 = .ok (.getfield 262, 3) := by decide +kernel
theorem dX8_feeds_38 : decode cX8_feeds 38 = .ok (.iconst 2, 1) := by decide +kernel
theorem dX8_feeds_39 : decode cX8_feeds 39 = .ok (.iadd, 1) := by decide +kernel
theorem dX8_feeds_40 : decode cX8_feeds 40 = .ok (.iload_n 1, 1) := by decide +kernel
theorem dX8_feeds_41 : decode cX8_feeds 41 = .ok (.bipush 8, 2) := by decide +kernel
theorem dX8_feeds_43 : decode cX8_feeds 43 = .ok (.ishr, 1) := by decide +kernel
theorem dX8_feeds_44 : decode cX8_feeds 44 = .ok (.i2b, 1) := by decide +kernel
theorem dX8_feeds_45 : decode cX8_feeds 45 = .ok (.bastore, 1) := by decide +kernel
theorem dX8_feeds_46 : decode cX8_feeds 46 = .ok (.aload_n 0, 1) := by decide +kernel
theorem dX8_feeds_47 : decode cX8_feeds 47 = .ok (.getfield 31, 3) := by decide +kernel
theorem dX8_feeds_50 : decode cX8_feeds 50 = .ok (.aload_n 0, 1) := by decide +kernel
theorem dX8_feeds_51 : decode cX8_feeds 51 = .ok (.getfield 262, 3) := by decide +kernel
theorem dX8_feeds_54 : decode cX8_feeds 54 = .ok (.iconst 3, 1) := by decide +kernel
theorem dX8_feeds_55 : decode cX8_feeds 55 = .ok (.iadd, 1) := by decide +kernel
theorem dX8_feeds_56 : decode cX8_feeds 56 = .ok (.iload_n 1, 1) := by decide +kernel
theorem dX8_feeds_57 : decode cX8_feeds 57 = .ok (.i2b, 1) := by decide +kernel
theorem dX8_feeds_58 : decode cX8_feeds 58 = .ok (.bastore, 1) := by decide +kernel
theorem dX8_feeds_59 : decode cX8_feeds 59 = .ok (.aload_n 0, 1) := by decide +kernel
theorem dX8_feeds_60 : decode cX8_feeds 60 = .ok (.dup, 1) := by decide +kernel
theorem dX8_feeds_61 : decode cX8_feeds 61 = .ok (.getfield 262, 3) := by decide +kernel
theorem dX8_feeds_64 : decode cX8_feeds 64 = .ok (.iconst 4, 1) := by decide +kernel
theorem dX8_feeds_65 : decode cX8_feeds 65 = .ok (.iadd, 1) := by decide +kernel
theorem dX8_feeds_66 : decode cX8_feeds 66 = .ok (.putfield 262, 3) := by decide +kernel
theorem dX8_feeds_69 : decode cX8_feeds 69 = .ok (.return_, 1) := by decide +kernel
theorem dX8_append_0 : decode cX8_append 0 = .ok (.aload_n 0, 1) := by decide +kernel
theorem dX8_append_1 : decode cX8_append 1 = .ok (.getfield 262, 3) := by decide +kernel
theorem dX8_append_4 : decode cX8_append 4 = .ok (.sipush 680, 3) := by decide +kernel
theorem dX8_append_7 : decode cX8_append 7 = .ok (.if_icmp .le 9, 3) := by decide +kernel
theorem dX8_append_10 : decode cX8_append 10 = .ok (.aload_n 0, 1) := by decide +kernel
theorem dX8_append_11 : decode cX8_append 11 = .ok (.iconst 1, 1) := by decide +kernel
theorem dX8_append_12 : decode cX8_append 12 = .ok (.invokevirtual 265, 3) := by decide +kernel
theorem dX8_append_15 : decode cX8_append 15 = .ok (.ireturn, 1) := by decide +kernel
theorem dX8_append_16 : decode cX8_append 16 = .ok (.aload_n 0, 1) := by decide +kernel
theorem dX8_append_17 : decode cX8_append 17 = .ok (.iload_n 1, 1) := by decide +kernel
theorem dX8_append_18 : decode cX8_append 18 = .ok (.invokevirtual 268, 3) := by decide +kernel
theorem dX8_append_21 : decode cX8_append 21 = .ok (.aload_n 0, 1) := by decide +kernel
theorem dX8_append_22 : decode cX8_append 22 = .ok (.iload_n 2, 1) := by decide +kernel
theorem dX8_append_23 : decode cX8_append 23 = .ok (.invokevirtual 268, 3) := by decide +kernel
theorem dX8_append_26 : decode cX8_append 26 = .ok (.aload_n 0, 1) := by decide +kernel
theorem dX8_append_27 : decode cX8_append 27 = .ok (.iload_n 3, 1) := by decide +kernel
theorem dX8_append_28 : decode cX8_append 28 = .ok (.invokevirtual 268, 3) := by decide +kernel
theorem dX8_append_31 : decode cX8_append 31 = .ok (.aload_n 0, 1) := by decide +kernel
theorem dX8_append_32 : decode cX8_append 32 = .ok (.iload 4, 2) := by decide +kernel
theorem dX8_append_34 : decode cX8_append 34 = .ok (.invokevirtual 268, 3) := by decide +kernel
theorem dX8_append_37 : decode cX8_append 37 = .ok (.aload_n 0, 1) := by decide +kernel
theorem dX8_append_38 : decode cX8_append 38 = .ok (.iload 5, 2) := by decide +kernel
theorem dX8_append_40 : decode cX8_append 40 = .ok (.invokevirtual 268, 3) := by decide +kernel
theorem dX8_append_43 : decode cX8_append 43 = .ok (.aload_n 0, 1) := by decide +kernel
theorem dX8_append_44 : decode cX8_append 44 = .ok (.aload_n 0, 1) := by decide +kernel
theorem dX8_append_45 : decode cX8_append 45 = .ok (.getfield 262, 3) := by decide +kernel
theorem dX8_append_48 : decode cX8_append 48 = .ok (.invokevirtual 271, 3) := by decide +kernel
theorem dX8_append_51 : decode cX8_append 51 = .ok (.ireturn, 1) := by decide +kernel
theorem dX8_load_0 : decode cX8_load 0 = .ok (.iload_n 1, 1) := by decide +kernel
theorem dX8_load_1 : decode cX8_load 1 = .ok (.iconst 0, 1) := by decide +kernel
theorem dX8_load_2 : decode cX8_load 2 = .ok (.aload_n 0, 1) := by decide +kernel
theorem dX8_load_3 : decode cX8_load 3 = .ok (.getfield 262, 3) := by decide +kernel
theorem dX8_load_6 : decode cX8_load 6 = .ok (.invokestatic 67, 3) := by decide +kernel
theorem dX8_load_9 : decode cX8_load 9 = .ok (.ifCond .ne 9, 3) := by decide +kernel
theorem dX8_load_12 : decode cX8_load 12 = .ok (.aload_n 0, 1) := by decide +kernel
theorem dX8_load_13 : decode cX8_load 13 = .ok (.iconst 1, 1) := by decide +kernel
theorem dX8_load_14 : decode cX8_load 14 = .ok (.invokevirtual 265, 3) := by decide +kernel
theorem dX8_load_17 : decode cX8_load 17 = .ok (.ireturn, 1) := by decide +kernel
theorem dX8_load_18 : decode cX8_load 18 = .ok (.aload_n 0, 1) := by decide +kernel
theorem dX8_load_19 : decode cX8_load 19 = .ok (.invokevirtual 274, 3) := by decide +kernel
theorem dX8_load_22 : decode cX8_load 22 = .ok (.aload_n 0, 1) := by decide +kernel
theorem dX8_load_23 : decode cX8_load 23 = .ok (.iload_n 1, 1) := by decide +kernel
theorem dX8_load_24 : decode cX8_load 24 = .ok (.invokevirtual 277, 3) := by decide +kernel
theorem dX8_load_27 : decode cX8_load 27 = .ok (.aload_n 0, 1) := by decide +kernel
theorem dX8_load_28 : decode cX8_load 28 = .ok (.iconst 0, 1) := by decide +kernel
theorem dX8_load_29 : decode cX8_load 29 = .ok (.putfield 262, 3) := by decide +kernel
theorem dX8_load_32 : decode cX8_load 32 = .ok (.aload_n 0, 1) := by decide +kernel
theorem dX8_load_33 : decode cX8_load 33 = .ok (.aload_n 0, 1) := by decide +kernel
theorem dX8_load_34 : decode cX8_load 34 = .ok (.getfield 187, 3) := by decide +kernel
theorem dX8_load_37 : decode cX8_load 37 = .ok (.putfield 280, 3) := by decide +kernel
theorem dX8_load_40 : decode cX8_load 40 = .ok (.aload_n 0, 1) := by decide +kernel
theorem dX8_load_41 : decode cX8_load 41 = .ok (.aload_n 0, 1) := by decide +kernel
theorem dX8_load_42 : decode cX8_load 42 = .ok (.getfield 187, 3) := by decide +kernel
theorem dX8_load_45 : decode cX8_load 45 = .ok (.ifCond .ne 7, 3) := by decide +kernel
theorem dX8_load_48 : decode cX8_load 48 = .ok (.iconst (-1), 1) := by decide +kernel
theorem dX8_load_49 : decode cX8_load 49 = .ok (.goto 7, 3) := by decide +kernel
theorem dX8_load_52 : decode cX8_load 52 = .ok (.aload_n 0, 1) := by decide +kernel
theorem dX8_load_53 : decode cX8_load 53 = .ok (.getfield 190, 3) := by decide +kernel
theorem dX8_load_56 : decode cX8_load 56 = .ok (.putfield 38, 3) := by decide +kernel
theorem dX8_load_59 : decode cX8_load 59 = .ok (.aload_n 0, 1) := by decide +kernel
theorem dX8_load_60 : decode cX8_load 60 = .ok (.getfield 187, 3) := by decide +kernel
theorem dX8_load_63 : decode cX8_load 63 = .ok (.ifCond .eq 13, 3) := by decide +kernel
theorem dX8_load_66 : decode cX8_load 66 = .ok (.aload_n 0, 1) := by decide +kernel
theorem dX8_load_67 : decode cX8_load 67 = .ok (.invokevirtual 283, 3) := by decide +kernel
theorem dX8_load_70 : decode cX8_load 70 = .ok (.aload_n 0, 1) := by decide +kernel
theorem dX8_load_71 : decode cX8_load 71 = .ok (.iconst 2, 1) := by decide +kernel
theorem dX8_load_72 : decode cX8_load 72 = .ok (.invokevirtual 265, 3) := by decide +kernel
theorem dX8_load_75 : decode cX8_load 75 = .ok (.ireturn, 1) := by decide +kernel
theorem dX8_load_76 : decode cX8_load 76 = .ok (.aload_n 0, 1) := by decide +kernel
theorem dX8_load_77 : decode cX8_load 77 = .ok (.iconst 0, 1) := by decide +kernel
theorem dX8_load_78 : decode cX8_load 78 = .ok (.putfield 163, 3) := by decide +kernel
theorem dX8_load_81 : decode cX8_load 81 = .ok (.aload_n 0, 1) := by decide +kernel
theorem dX8_load_82 : decode cX8_load 82 = .ok (.iconst 0, 1) := by decide +kernel
theorem dX8_load_83 : decode cX8_load 83 = .ok (.putfield 286, 3) := by decide +kernel
theorem dX8_load_86 : decode cX8_load 86 = .ok (.aload_n 0, 1) := by decide +kernel
theorem dX8_load_87 : decode cX8_load 87 = .ok (.aload_n 0, 1) := by decide +kernel
theorem dX8_load_88 : decode cX8_load 88 = .ok (.getfield 13, 3) := by decide +kernel
theorem dX8_load_91 : decode cX8_load 91 = .ok (.bipush 6, 2) := by decide +kernel
theorem dX8_load_93 : decode cX8_load 93 = .ok (.iaload, 1) := by decide +kernel
theorem dX8_load_94 : decode cX8_load 94 = .ok (.invokevirtual 271, 3) := by decide +kernel
theorem dX8_load_97 : decode cX8_load 97 = .ok (.ireturn, 1) := by decide +kernel
theorem dX8_errorKind_0 : decode cX8_errorKind 0 = .ok (.aload_n 0, 1) := by decide +kernel
theorem dX8_errorKind_1 : decode cX8_errorKind 1 = .ok (.aload_n 0, 1) := by decide +kernel
theorem dX8_errorKind_2 : decode cX8_errorKind 2 = .ok (.getfield 280, 3) := by decide +kernel
theorem dX8_errorKind_5 : decode cX8_errorKind 5 = .ok (.invokevirtual 271, 3) := by decide +kernel
theorem dX8_errorKind_8 : decode cX8_errorKind 8 = .ok (.ireturn, 1) := by decide +kernel
theorem dX8_errorOffset_0 : decode cX8_errorOffset 0 = .ok (.aload_n 0, 1) := by decide +kernel
theorem dX8_errorOffset_1 : decode cX8_errorOffset 1 = .ok (.aload_n 0, 1) := by decide +kernel
theorem dX8_errorOffset_2 : decode cX8_errorOffset 2 = .ok (.getfield 38, 3) := by decide +kernel
theorem dX8_errorOffset_5 : decode cX8_errorOffset 5 = .ok (.invokevirtual 271, 3) := by decide +kernel
theorem dX8_errorOffset_8 : decode cX8_errorOffset 8 = .ok (.ireturn, 1) := by decide +kernel
theorem dX8_clock_0 : decode cX8_clock 0 = .ok (.aload_n 0, 1) := by decide +kernel
theorem dX8_clock_1 : decode cX8_clock 1 = .ok (.aload_n 0, 1) := by decide +kernel
theorem dX8_clock_2 : decode cX8_clock 2 = .ok (.getfield 13, 3) := by decide +kernel
theorem dX8_clock_5 : decode cX8_clock 5 = .ok (.iconst 2, 1) := by decide +kernel
theorem dX8_clock_6 : decode cX8_clock 6 = .ok (.iaload, 1) := by decide +kernel
theorem dX8_clock_7 : decode cX8_clock 7 = .ok (.invokevirtual 271, 3) := by decide +kernel
theorem dX8_clock_10 : decode cX8_clock 10 = .ok (.ireturn, 1) := by decide +kernel
theorem dX8_isNight_0 : decode cX8_isNight 0 = .ok (.aload_n 0, 1) := by decide +kernel
theorem dX8_isNight_1 : decode cX8_isNight 1 = .ok (.iconst 0, 1) := by decide +kernel
theorem dX8_isNight_2 : decode cX8_isNight 2 = .ok (.putfield 64, 3) := by decide +kernel
theorem dX8_isNight_5 : decode cX8_isNight 5 = .ok (.aload_n 0, 1) := by decide +kernel
theorem dX8_isNight_6 : decode cX8_isNight 6 = .ok (.getfield 13, 3) := by decide +kernel
theorem dX8_isNight_9 : decode cX8_isNight 9 = .ok (.iconst 2, 1) := by decide +kernel
theorem dX8_isNight_10 : decode cX8_isNight 10 = .ok (.iaload, 1) := by decide +kernel
theorem dX8_isNight_11 : decode cX8_isNight 11 = .ok (.invokestatic 115, 3) := by decide +kernel
theorem dX8_isNight_14 : decode cX8_isNight 14 = .ok (.ireturn, 1) := by decide +kernel
theorem dX8_gracePeriod_0 : decode cX8_gracePeriod 0 = .ok (.aload_n 0, 1) := by decide +kernel
theorem dX8_gracePeriod_1 : decode cX8_gracePeriod 1 = .ok (.aload_n 0, 1) := by decide +kernel
theorem dX8_gracePeriod_2 : decode cX8_gracePeriod 2 = .ok (.getfield 13, 3) := by decide +kernel
theorem dX8_gracePeriod_5 : decode cX8_gracePeriod 5 = .ok (.iconst 0, 1) := by decide +kernel
theorem dX8_gracePeriod_6 : decode cX8_gracePeriod 6 = .ok (.iaload, 1) := by decide +kernel
theorem dX8_gracePeriod_7 : decode cX8_gracePeriod 7 = .ok (.invokevirtual 271, 3) := by decide +kernel
theorem dX8_gracePeriod_10 : decode cX8_gracePeriod 10 = .ok (.ireturn, 1) := by decide +kernel
theorem dX8_lateFee_0 : decode cX8_lateFee 0 = .ok (.aload_n 0, 1) := by decide +kernel
theorem dX8_lateFee_1 : decode cX8_lateFee 1 = .ok (.aload_n 0, 1) := by decide +kernel
theorem dX8_lateFee_2 : decode cX8_lateFee 2 = .ok (.getfield 13, 3) := by decide +kernel
theorem dX8_lateFee_5 : decode cX8_lateFee 5 = .ok (.iconst 1, 1) := by decide +kernel
theorem dX8_lateFee_6 : decode cX8_lateFee 6 = .ok (.iaload, 1) := by decide +kernel
theorem dX8_lateFee_7 : decode cX8_lateFee 7 = .ok (.invokevirtual 271, 3) := by decide +kernel
theorem dX8_lateFee_10 : decode cX8_lateFee 10 = .ok (.ireturn, 1) := by decide +kernel
theorem dX8_streetCount_0 : decode cX8_streetCount 0 = .ok (.aload_n 0, 1) := by decide +kernel
theorem dX8_streetCount_1 : decode cX8_streetCount 1 = .ok (.aload_n 0, 1) := by decide +kernel
