theorem dL_refused_7 : decode cL_refused 7 = .ok (.ireturn, 1) := by decide +kernel
theorem dL_refused_8 : decode cL_refused 8 = .ok (.astore 4, 2) := by decide +kernel
theorem dL_refused_10 : decode cL_refused 10 = .ok (.bipush (-5), 2) := by decide +kernel
theorem dL_refused_12 : decode cL_refused 12 = .ok (.ireturn, 1) := by decide +kernel
theorem dL_refused_13 : decode cL_refused 13 = .ok (.astore 4, 2) := by decide +kernel
theorem dL_refused_15 : decode cL_refused 15 = .ok (.bipush (-2), 2) := by decide +kernel
theorem dL_refused_17 : decode cL_refused 17 = .ok (.ireturn, 1) := by decide +kernel
theorem dL_bureau_0 : decode cL_bureau 0 = .ok (.new 72, 3) := by decide +kernel
theorem dL_bureau_3 : decode cL_bureau 3 = .ok (.dup, 1) := by decide +kernel
theorem dL_bureau_4 : decode cL_bureau 4 = .ok (.ldc 74, 2) := by decide +kernel
theorem dL_bureau_6 : decode cL_bureau 6 = .ok (.invokespecial 76, 3) := by decide +kernel
theorem dL_bureau_9 : decode cL_bureau 9 = .ok (.iconst 1, 1) := by decide +kernel
theorem dL_bureau_10 : decode cL_bureau 10 = .ok (.aload_n 2, 1) := by decide +kernel
theorem dL_bureau_11 : decode cL_bureau 11 = .ok (.invokestatic 79, 3) := by decide +kernel
theorem dL_bureau_14 : decode cL_bureau 14 = .ok (.iconst 5, 1) := by decide +kernel
theorem dL_bureau_15 : decode cL_bureau 15 = .ok (.irem, 1) := by decide +kernel
theorem dL_bureau_16 : decode cL_bureau 16 = .ok (.iadd, 1) := by decide +kernel
theorem dL_bureau_17 : decode cL_bureau 17 = .ok (.invokevirtual 83, 3) := by decide +kernel
theorem dL_bureau_20 : decode cL_bureau 20 = .ok (.bipush 32, 2) := by decide +kernel
theorem dL_bureau_22 : decode cL_bureau 22 = .ok (.invokevirtual 86, 3) := by decide +kernel
theorem dL_bureau_25 : decode cL_bureau 25 = .ok (.aload_n 2, 1) := by decide +kernel
theorem dL_bureau_26 : decode cL_bureau 26 = .ok (.invokestatic 79, 3) := by decide +kernel
theorem dL_bureau_29 : decode cL_bureau 29 = .ok (.bipush 20, 2) := by decide +kernel
theorem dL_bureau_31 : decode cL_bureau 31 = .ok (.irem, 1) := by decide +kernel
theorem dL_bureau_32 : decode cL_bureau 32 = .ok (.invokevirtual 83, 3) := by decide +kernel
theorem dL_bureau_35 : decode cL_bureau 35 = .ok (.astore_n 3, 1) := by decide +kernel
theorem dL_bureau_36 : decode cL_bureau 36 = .ok (.iconst 0, 1) := by decide +kernel
theorem dL_bureau_37 : decode cL_bureau 37 = .ok (.istore 4, 2) := by decide +kernel
theorem dL_bureau_39 : decode cL_bureau 39 = .ok (.iload 4, 2) := by decide +kernel
theorem dL_bureau_41 : decode cL_bureau 41 = .ok (.iload_n 0, 1) := by decide +kernel
theorem dL_bureau_42 : decode cL_bureau 42 = .ok (.if_icmp .ge 55, 3) := by decide +kernel
theorem dL_bureau_45 : decode cL_bureau 45 = .ok (.aload_n 3, 1) := by decide +kernel
theorem dL_bureau_46 : decode cL_bureau 46 = .ok (.ldc 89, 2) := by decide +kernel
theorem dL_bureau_48 : decode cL_bureau 48 = .ok (.invokevirtual 91, 3) := by decide +kernel
theorem dL_bureau_51 : decode cL_bureau 51 = .ok (.bipush 114, 2) := by decide +kernel
theorem dL_bureau_53 : decode cL_bureau 53 = .ok (.iload 4, 2) := by decide +kernel
theorem dL_bureau_55 : decode cL_bureau 55 = .ok (.iadd, 1) := by decide +kernel
theorem dL_bureau_56 : decode cL_bureau 56 = .ok (.i2c, 1) := by decide +kernel
theorem dL_bureau_57 : decode cL_bureau 57 = .ok (.invokevirtual 86, 3) := by decide +kernel
theorem dL_bureau_60 : decode cL_bureau 60 = .ok (.bipush 32, 2) := by decide +kernel
theorem dL_bureau_62 : decode cL_bureau 62 = .ok (.invokevirtual 86, 3) := by decide +kernel
theorem dL_bureau_65 : decode cL_bureau 65 = .ok (.aload_n 2, 1) := by decide +kernel
theorem dL_bureau_66 : decode cL_bureau 66 = .ok (.invokestatic 79, 3) := by decide +kernel
theorem dL_bureau_69 : decode cL_bureau 69 = .ok (.bipush 100, 2) := by decide +kernel
theorem dL_bureau_71 : decode cL_bureau 71 = .ok (.irem, 1) := by decide +kernel
theorem dL_bureau_72 : decode cL_bureau 72 = .ok (.invokevirtual 83, 3) := by decide +kernel
theorem dL_bureau_75 : decode cL_bureau 75 = .ok (.bipush 32, 2) := by decide +kernel
theorem dL_bureau_77 : decode cL_bureau 77 = .ok (.invokevirtual 86, 3) := by decide +kernel
theorem dL_bureau_80 : decode cL_bureau 80 = .ok (.aload_n 2, 1) := by decide +kernel
theorem dL_bureau_81 : decode cL_bureau 81 = .ok (.invokestatic 79, 3) := by decide +kernel
theorem dL_bureau_84 : decode cL_bureau 84 = .ok (.bipush 100, 2) := by decide +kernel
theorem dL_bureau_86 : decode cL_bureau 86 = .ok (.irem, 1) := by decide +kernel
theorem dL_bureau_87 : decode cL_bureau 87 = .ok (.invokevirtual 83, 3) := by decide +kernel
theorem dL_bureau_90 : decode cL_bureau 90 = .ok (.pop, 1) := by decide +kernel
theorem dL_bureau_91 : decode cL_bureau 91 = .ok (.iinc 4 1, 3) := by decide +kernel
theorem dL_bureau_94 : decode cL_bureau 94 = .ok (.goto (-55), 3) := by decide +kernel
theorem dL_bureau_97 : decode cL_bureau 97 = .ok (.iconst 0, 1) := by decide +kernel
theorem dL_bureau_98 : decode cL_bureau 98 = .ok (.istore 4, 2) := by decide +kernel
theorem dL_bureau_100 : decode cL_bureau 100 = .ok (.iload 4, 2) := by decide +kernel
theorem dL_bureau_102 : decode cL_bureau 102 = .ok (.iload_n 1, 1) := by decide +kernel
theorem dL_bureau_103 : decode cL_bureau 103 = .ok (.if_icmp .ge 74, 3) := by decide +kernel
theorem dL_bureau_106 : decode cL_bureau 106 = .ok (.aload_n 3, 1) := by decide +kernel
theorem dL_bureau_107 : decode cL_bureau 107 = .ok (.ldc 94, 2) := by decide +kernel
theorem dL_bureau_109 : decode cL_bureau 109 = .ok (.invokevirtual 91, 3) := by decide +kernel
theorem dL_bureau_112 : decode cL_bureau 112 = .ok (.bipush 97, 2) := by decide +kernel
theorem dL_bureau_114 : decode cL_bureau 114 = .ok (.iload 4, 2) := by decide +kernel
theorem dL_bureau_116 : decode cL_bureau 116 = .ok (.iadd, 1) := by decide +kernel
theorem dL_bureau_117 : decode cL_bureau 117 = .ok (.i2c, 1) := by decide +kernel
theorem dL_bureau_118 : decode cL_bureau 118 = .ok (.invokevirtual 86, 3) := by decide +kernel
theorem dL_bureau_121 : decode cL_bureau 121 = .ok (.bipush 32, 2) := by decide +kernel
theorem dL_bureau_123 : decode cL_bureau 123 = .ok (.invokevirtual 86, 3) := by decide +kernel
theorem dL_bureau_126 : decode cL_bureau 126 = .ok (.bipush 114, 2) := by decide +kernel
theorem dL_bureau_128 : decode cL_bureau 128 = .ok (.aload_n 2, 1) := by decide +kernel
theorem dL_bureau_129 : decode cL_bureau 129 = .ok (.invokestatic 79, 3) := by decide +kernel
theorem dL_bureau_132 : decode cL_bureau 132 = .ok (.iload_n 0, 1) := by decide +kernel
theorem dL_bureau_133 : decode cL_bureau 133 = .ok (.irem, 1) := by decide +kernel
theorem dL_bureau_134 : decode cL_bureau 134 = .ok (.iadd, 1) := by decide +kernel
theorem dL_bureau_135 : decode cL_bureau 135 = .ok (.i2c, 1) := by decide +kernel
theorem dL_bureau_136 : decode cL_bureau 136 = .ok (.invokevirtual 86, 3) := by decide +kernel
theorem dL_bureau_139 : decode cL_bureau 139 = .ok (.bipush 32, 2) := by decide +kernel
theorem dL_bureau_141 : decode cL_bureau 141 = .ok (.invokevirtual 86, 3) := by decide +kernel
theorem dL_bureau_144 : decode cL_bureau 144 = .ok (.aload_n 2, 1) := by decide +kernel
theorem dL_bureau_145 : decode cL_bureau 145 = .ok (.invokestatic 79, 3) := by decide +kernel
theorem dL_bureau_148 : decode cL_bureau 148 = .ok (.bipush 10, 2) := by decide +kernel
theorem dL_bureau_150 : decode cL_bureau 150 = .ok (.irem, 1) := by decide +kernel
theorem dL_bureau_151 : decode cL_bureau 151 = .ok (.invokevirtual 83, 3) := by decide +kernel
theorem dL_bureau_154 : decode cL_bureau 154 = .ok (.bipush 32, 2) := by decide +kernel
theorem dL_bureau_156 : decode cL_bureau 156 = .ok (.invokevirtual 86, 3) := by decide +kernel
theorem dL_bureau_159 : decode cL_bureau 159 = .ok (.aload_n 2, 1) := by decide +kernel
theorem dL_bureau_160 : decode cL_bureau 160 = .ok (.invokestatic 79, 3) := by decide +kernel
theorem dL_bureau_163 : decode cL_bureau 163 = .ok (.sipush 200, 3) := by decide +kernel
theorem dL_bureau_166 : decode cL_bureau 166 = .ok (.irem, 1) := by decide +kernel
theorem dL_bureau_167 : decode cL_bureau 167 = .ok (.invokevirtual 83, 3) := by decide +kernel
theorem dL_bureau_170 : decode cL_bureau 170 = .ok (.pop, 1) := by decide +kernel
theorem dL_bureau_171 : decode cL_bureau 171 = .ok (.iinc 4 1, 3) := by decide +kernel
theorem dL_bureau_174 : decode cL_bureau 174 = .ok (.goto (-74), 3) := by decide +kernel
theorem dL_bureau_177 : decode cL_bureau 177 = .ok (.aload_n 3, 1) := by decide +kernel
theorem dL_bureau_178 : decode cL_bureau 178 = .ok (.ldc 96, 2) := by decide +kernel
theorem dL_bureau_180 : decode cL_bureau 180 = .ok (.invokevirtual 91, 3) := by decide +kernel
theorem dL_bureau_183 : decode cL_bureau 183 = .ok (.iconst 1, 1) := by decide +kernel
theorem dL_bureau_184 : decode cL_bureau 184 = .ok (.aload_n 2, 1) := by decide +kernel
theorem dL_bureau_185 : decode cL_bureau 185 = .ok (.invokestatic 79, 3) := by decide +kernel
theorem dL_bureau_188 : decode cL_bureau 188 = .ok (.bipush 30, 2) := by decide +kernel
theorem dL_bureau_190 : decode cL_bureau 190 = .ok (.irem, 1) := by decide +kernel
theorem dL_bureau_191 : decode cL_bureau 191 = .ok (.iadd, 1) := by decide +kernel
theorem dL_bureau_192 : decode cL_bureau 192 = .ok (.invokevirtual 83, 3) := by decide +kernel
theorem dL_bureau_195 : decode cL_bureau 195 = .ok (.invokevirtual 98, 3) := by decide +kernel
theorem dL_bureau_198 : decode cL_bureau 198 = .ok (.areturn, 1) := by decide +kernel
theorem dL_sum_0 : decode cL_sum 0 = .ok (.ldc2_w 102, 3) := by decide +kernel
theorem dL_sum_3 : decode cL_sum 3 = .ok (.ldc2_w 102, 3) := by decide +kernel
theorem dL_sum_6 : decode cL_sum 6 = .ok (.aload_n 0, 1) := by decide +kernel
theorem dL_sum_7 : decode cL_sum 7 = .ok (.invokevirtual 104, 3) := by decide +kernel
theorem dL_sum_10 : decode cL_sum 10 = .ok (.i2l, 1) := by decide +kernel
theorem dL_sum_11 : decode cL_sum 11 = .ok (.lmul, 1) := by decide +kernel
theorem dL_sum_12 : decode cL_sum 12 = .ok (.aload_n 0, 1) := by decide +kernel
theorem dL_sum_13 : decode cL_sum 13 = .ok (.invokevirtual 107, 3) := by decide +kernel
theorem dL_sum_16 : decode cL_sum 16 = .ok (.i2l, 1) := by decide +kernel
theorem dL_sum_17 : decode cL_sum 17 = .ok (.ladd, 1) := by decide +kernel
theorem dL_sum_18 : decode cL_sum 18 = .ok (.lmul, 1) := by decide +kernel
theorem dL_sum_19 : decode cL_sum 19 = .ok (.aload_n 0, 1) := by decide +kernel
theorem dL_sum_20 : decode cL_sum 20 = .ok (.invokevirtual 110, 3) := by decide +kernel
theorem dL_sum_23 : decode cL_sum 23 = .ok (.i2l, 1) := by decide +kernel
theorem dL_sum_24 : decode cL_sum 24 = .ok (.ladd, 1) := by decide +kernel
theorem dL_sum_25 : decode cL_sum 25 = .ok (.lstore_n 1, 1) := by decide +kernel
theorem dL_sum_26 : decode cL_sum 26 = .ok (.iconst 0, 1) := by decide +kernel
theorem dL_sum_27 : decode cL_sum 27 = .ok (.istore_n 3, 1) := by decide +kernel
theorem dL_sum_28 : decode cL_sum 28 = .ok (.iload_n 3, 1) := by decide +kernel
theorem dL_sum_29 : decode cL_sum 29 = .ok (.aload_n 0, 1) := by decide +kernel
theorem dL_sum_30 : decode cL_sum 30 = .ok (.invokevirtual 113, 3) := by decide +kernel
theorem dL_sum_33 : decode cL_sum 33 = .ok (.if_icmp .ge 44, 3) := by decide +kernel
theorem dL_sum_36 : decode cL_sum 36 = .ok (.ldc2_w 102, 3) := by decide +kernel
theorem dL_sum_39 : decode cL_sum 39 = .ok (.ldc2_w 102, 3) := by decide +kernel
theorem dL_sum_42 : decode cL_sum 42 = .ok (.ldc2_w 102, 3) := by decide +kernel
theorem dL_sum_45 : decode cL_sum 45 = .ok (.lload_n 1, 1) := by decide +kernel
theorem dL_sum_46 : decode cL_sum 46 = .ok (.lmul, 1) := by decide +kernel
theorem dL_sum_47 : decode cL_sum 47 = .ok (.aload_n 0, 1) := by decide +kernel
theorem dL_sum_48 : decode cL_sum 48 = .ok (.iload_n 3, 1) := by decide +kernel
theorem dL_sum_49 : decode cL_sum 49 = .ok (.invokevirtual 116, 3) := by decide +kernel
theorem dL_sum_52 : decode cL_sum 52 = .ok (.i2l, 1) := by decide +kernel
theorem dL_sum_53 : decode cL_sum 53 = .ok (.ladd, 1) := by decide +kernel
theorem dL_sum_54 : decode cL_sum 54 = .ok (.lmul, 1) := by decide +kernel
theorem dL_sum_55 : decode cL_sum 55 = .ok (.aload_n 0, 1) := by decide +kernel
theorem dL_sum_56 : decode cL_sum 56 = .ok (.iload_n 3, 1) := by decide +kernel
theorem dL_sum_57 : decode cL_sum 57 = .ok (.invokevirtual 119, 3) := by decide +kernel
theorem dL_sum_60 : decode cL_sum 60 = .ok (.i2l, 1) := by decide +kernel
theorem dL_sum_61 : decode cL_sum 61 = .ok (.ladd, 1) := by decide +kernel
theorem dL_sum_62 : decode cL_sum 62 = .ok (.lmul, 1) := by decide +kernel
theorem dL_sum_63 : decode cL_sum 63 = .ok (.aload_n 0, 1) := by decide +kernel
theorem dL_sum_64 : decode cL_sum 64 = .ok (.iload_n 3, 1) := by decide +kernel
theorem dL_sum_65 : decode cL_sum 65 = .ok (.invokevirtual 122, 3) := by decide +kernel
theorem dL_sum_68 : decode cL_sum 68 = .ok (.i2l, 1) := by decide +kernel
theorem dL_sum_69 : decode cL_sum 69 = .ok (.ladd, 1) := by decide +kernel
theorem dL_sum_70 : decode cL_sum 70 = .ok (.lstore_n 1, 1) := by decide +kernel
theorem dL_sum_71 : decode cL_sum 71 = .ok (.iinc 3 1, 3) := by decide +kernel
theorem dL_sum_74 : decode cL_sum 74 = .ok (.goto (-46), 3) := by decide +kernel
theorem dL_sum_77 : decode cL_sum 77 = .ok (.iconst 0, 1) := by decide +kernel
theorem dL_sum_78 : decode cL_sum 78 = .ok (.istore_n 3, 1) := by decide +kernel
theorem dL_sum_79 : decode cL_sum 79 = .ok (.iload_n 3, 1) := by decide +kernel
theorem dL_sum_80 : decode cL_sum 80 = .ok (.aload_n 0, 1) := by decide +kernel
theorem dL_sum_81 : decode cL_sum 81 = .ok (.invokevirtual 125, 3) := by decide +kernel
theorem dL_sum_84 : decode cL_sum 84 = .ok (.if_icmp .ge 59, 3) := by decide +kernel
theorem dL_sum_87 : decode cL_sum 87 = .ok (.ldc2_w 102, 3) := by decide +kernel
theorem dL_sum_90 : decode cL_sum 90 = .ok (.ldc2_w 102, 3) := by decide +kernel
theorem dL_sum_93 : decode cL_sum 93 = .ok (.ldc2_w 102, 3) := by decide +kernel
theorem dL_sum_96 : decode cL_sum 96 = .ok (.lload_n 1, 1) := by decide +kernel
theorem dL_sum_97 : decode cL_sum 97 = .ok (.lmul, 1) := by decide +kernel
theorem dL_sum_98 : decode cL_sum 98 = .ok (.aload_n 0, 1) := by decide +kernel
theorem dL_sum_99 : decode cL_sum 99 = .ok (.iload_n 3, 1) := by decide +kernel
theorem dL_sum_100 : decode cL_sum 100 = .ok (.invokevirtual 128, 3) := by decide +kernel
theorem dL_sum_103 : decode cL_sum 103 = .ok (.i2l, 1) := by decide +kernel
theorem dL_sum_104 : decode cL_sum 104 = .ok (.ladd, 1) := by decide +kernel
theorem dL_sum_105 : decode cL_sum 105 = .ok (.lmul, 1) := by decide +kernel
theorem dL_sum_106 : decode cL_sum 106 = .ok (.aload_n 0, 1) := by decide +kernel
theorem dL_sum_107 : decode cL_sum 107 = .ok (.iload_n 3, 1) := by decide +kernel
theorem dL_sum_108 : decode cL_sum 108 = .ok (.invokevirtual 131, 3) := by decide +kernel
theorem dL_sum_111 : decode cL_sum 111 = .ok (.i2l, 1) := by decide +kernel
theorem dL_sum_112 : decode cL_sum 112 = .ok (.ladd, 1) := by decide +kernel
theorem dL_sum_113 : decode cL_sum 113 = .ok (.lmul, 1) := by decide +kernel
theorem dL_sum_114 : decode cL_sum 114 = .ok (.aload_n 0, 1) := by decide +kernel
theorem dL_sum_115 : decode cL_sum 115 = .ok (.iload_n 3, 1) := by decide +kernel
theorem dL_sum_116 : decode cL_sum 116 = .ok (.invokevirtual 134, 3) := by decide +kernel
theorem dL_sum_119 : decode cL_sum 119 = .ok (.i2l, 1) := by decide +kernel
theorem dL_sum_120 : decode cL_sum 120 = .ok (.ladd, 1) := by decide +kernel
theorem dL_sum_121 : decode cL_sum 121 = .ok (.lstore_n 1, 1) := by decide +kernel
theorem dL_sum_122 : decode cL_sum 122 = .ok (.ldc2_w 102, 3) := by decide +kernel
theorem dL_sum_125 : decode cL_sum 125 = .ok (.lload_n 1, 1) := by decide +kernel
theorem dL_sum_126 : decode cL_sum 126 = .ok (.lmul, 1) := by decide +kernel
theorem dL_sum_127 : decode cL_sum 127 = .ok (.aload_n 0, 1) := by decide +kernel
theorem dL_sum_128 : decode cL_sum 128 = .ok (.iload_n 3, 1) := by decide +kernel
theorem dL_sum_129 : decode cL_sum 129 = .ok (.bipush 20, 2) := by decide +kernel
theorem dL_sum_131 : decode cL_sum 131 = .ok (.invokevirtual 137, 3) := by decide +kernel
theorem dL_sum_134 : decode cL_sum 134 = .ok (.i2l, 1) := by decide +kernel
theorem dL_sum_135 : decode cL_sum 135 = .ok (.ladd, 1) := by decide +kernel
theorem dL_sum_136 : decode cL_sum 136 = .ok (.lstore_n 1, 1) := by decide +kernel
theorem dL_sum_137 : decode cL_sum 137 = .ok (.iinc 3 1, 3) := by decide +kernel
theorem dL_sum_140 : decode cL_sum 140 = .ok (.goto (-61), 3) := by decide +kernel
theorem dL_sum_143 : decode cL_sum 143 = .ok (.iconst 0, 1) := by decide +kernel
theorem dL_sum_144 : decode cL_sum 144 = .ok (.istore_n 3, 1) := by decide +kernel
theorem dL_sum_145 : decode cL_sum 145 = .ok (.iload_n 3, 1) := by decide +kernel
theorem dL_sum_146 : decode cL_sum 146 = .ok (.aload_n 0, 1) := by decide +kernel
