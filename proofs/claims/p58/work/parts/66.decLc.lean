theorem dL_sum_147 : decode cL_sum 147 = .ok (.invokevirtual 110, 3) := by decide +kernel
theorem dL_sum_150 : decode cL_sum 150 = .ok (.if_icmp .ge 68, 3) := by decide +kernel
theorem dL_sum_153 : decode cL_sum 153 = .ok (.ldc2_w 102, 3) := by decide +kernel
theorem dL_sum_156 : decode cL_sum 156 = .ok (.ldc2_w 102, 3) := by decide +kernel
theorem dL_sum_159 : decode cL_sum 159 = .ok (.ldc2_w 102, 3) := by decide +kernel
theorem dL_sum_162 : decode cL_sum 162 = .ok (.lload_n 1, 1) := by decide +kernel
theorem dL_sum_163 : decode cL_sum 163 = .ok (.lmul, 1) := by decide +kernel
theorem dL_sum_164 : decode cL_sum 164 = .ok (.aload_n 0, 1) := by decide +kernel
theorem dL_sum_165 : decode cL_sum 165 = .ok (.iload_n 3, 1) := by decide +kernel
theorem dL_sum_166 : decode cL_sum 166 = .ok (.invokevirtual 140, 3) := by decide +kernel
theorem dL_sum_169 : decode cL_sum 169 = .ok (.i2l, 1) := by decide +kernel
theorem dL_sum_170 : decode cL_sum 170 = .ok (.ladd, 1) := by decide +kernel
theorem dL_sum_171 : decode cL_sum 171 = .ok (.lmul, 1) := by decide +kernel
theorem dL_sum_172 : decode cL_sum 172 = .ok (.aload_n 0, 1) := by decide +kernel
theorem dL_sum_173 : decode cL_sum 173 = .ok (.iload_n 3, 1) := by decide +kernel
theorem dL_sum_174 : decode cL_sum 174 = .ok (.invokevirtual 143, 3) := by decide +kernel
theorem dL_sum_177 : decode cL_sum 177 = .ok (.i2l, 1) := by decide +kernel
theorem dL_sum_178 : decode cL_sum 178 = .ok (.ladd, 1) := by decide +kernel
theorem dL_sum_179 : decode cL_sum 179 = .ok (.lmul, 1) := by decide +kernel
theorem dL_sum_180 : decode cL_sum 180 = .ok (.aload_n 0, 1) := by decide +kernel
theorem dL_sum_181 : decode cL_sum 181 = .ok (.iload_n 3, 1) := by decide +kernel
theorem dL_sum_182 : decode cL_sum 182 = .ok (.invokevirtual 146, 3) := by decide +kernel
theorem dL_sum_185 : decode cL_sum 185 = .ok (.i2l, 1) := by decide +kernel
theorem dL_sum_186 : decode cL_sum 186 = .ok (.ladd, 1) := by decide +kernel
theorem dL_sum_187 : decode cL_sum 187 = .ok (.lstore_n 1, 1) := by decide +kernel
theorem dL_sum_188 : decode cL_sum 188 = .ok (.ldc2_w 102, 3) := by decide +kernel
theorem dL_sum_191 : decode cL_sum 191 = .ok (.ldc2_w 102, 3) := by decide +kernel
theorem dL_sum_194 : decode cL_sum 194 = .ok (.lload_n 1, 1) := by decide +kernel
theorem dL_sum_195 : decode cL_sum 195 = .ok (.lmul, 1) := by decide +kernel
theorem dL_sum_196 : decode cL_sum 196 = .ok (.aload_n 0, 1) := by decide +kernel
theorem dL_sum_197 : decode cL_sum 197 = .ok (.iload_n 3, 1) := by decide +kernel
theorem dL_sum_198 : decode cL_sum 198 = .ok (.invokevirtual 149, 3) := by decide +kernel
theorem dL_sum_201 : decode cL_sum 201 = .ok (.i2l, 1) := by decide +kernel
theorem dL_sum_202 : decode cL_sum 202 = .ok (.ladd, 1) := by decide +kernel
theorem dL_sum_203 : decode cL_sum 203 = .ok (.lmul, 1) := by decide +kernel
theorem dL_sum_204 : decode cL_sum 204 = .ok (.aload_n 0, 1) := by decide +kernel
theorem dL_sum_205 : decode cL_sum 205 = .ok (.iload_n 3, 1) := by decide +kernel
theorem dL_sum_206 : decode cL_sum 206 = .ok (.invokevirtual 152, 3) := by decide +kernel
theorem dL_sum_209 : decode cL_sum 209 = .ok (.i2l, 1) := by decide +kernel
theorem dL_sum_210 : decode cL_sum 210 = .ok (.ladd, 1) := by decide +kernel
theorem dL_sum_211 : decode cL_sum 211 = .ok (.lstore_n 1, 1) := by decide +kernel
theorem dL_sum_212 : decode cL_sum 212 = .ok (.iinc 3 1, 3) := by decide +kernel
theorem dL_sum_215 : decode cL_sum 215 = .ok (.goto (-70), 3) := by decide +kernel
theorem dL_sum_218 : decode cL_sum 218 = .ok (.aload_n 0, 1) := by decide +kernel
theorem dL_sum_219 : decode cL_sum 219 = .ok (.invokevirtual 104, 3) := by decide +kernel
theorem dL_sum_222 : decode cL_sum 222 = .ok (.istore_n 3, 1) := by decide +kernel
theorem dL_sum_223 : decode cL_sum 223 = .ok (.iload_n 3, 1) := by decide +kernel
theorem dL_sum_224 : decode cL_sum 224 = .ok (.aload_n 0, 1) := by decide +kernel
theorem dL_sum_225 : decode cL_sum 225 = .ok (.invokevirtual 104, 3) := by decide +kernel
theorem dL_sum_228 : decode cL_sum 228 = .ok (.bipush 48, 2) := by decide +kernel
theorem dL_sum_230 : decode cL_sum 230 = .ok (.iadd, 1) := by decide +kernel
theorem dL_sum_231 : decode cL_sum 231 = .ok (.if_icmp .ge 42, 3) := by decide +kernel
theorem dL_sum_234 : decode cL_sum 234 = .ok (.iconst 0, 1) := by decide +kernel
theorem dL_sum_235 : decode cL_sum 235 = .ok (.istore 4, 2) := by decide +kernel
theorem dL_sum_237 : decode cL_sum 237 = .ok (.iload 4, 2) := by decide +kernel
theorem dL_sum_239 : decode cL_sum 239 = .ok (.aload_n 0, 1) := by decide +kernel
theorem dL_sum_240 : decode cL_sum 240 = .ok (.invokevirtual 113, 3) := by decide +kernel
theorem dL_sum_243 : decode cL_sum 243 = .ok (.if_icmp .ge 24, 3) := by decide +kernel
theorem dL_sum_246 : decode cL_sum 246 = .ok (.ldc2_w 102, 3) := by decide +kernel
theorem dL_sum_249 : decode cL_sum 249 = .ok (.lload_n 1, 1) := by decide +kernel
theorem dL_sum_250 : decode cL_sum 250 = .ok (.lmul, 1) := by decide +kernel
theorem dL_sum_251 : decode cL_sum 251 = .ok (.aload_n 0, 1) := by decide +kernel
theorem dL_sum_252 : decode cL_sum 252 = .ok (.iload 4, 2) := by decide +kernel
theorem dL_sum_254 : decode cL_sum 254 = .ok (.iload_n 3, 1) := by decide +kernel
theorem dL_sum_255 : decode cL_sum 255 = .ok (.invokevirtual 155, 3) := by decide +kernel
theorem dL_sum_258 : decode cL_sum 258 = .ok (.i2l, 1) := by decide +kernel
theorem dL_sum_259 : decode cL_sum 259 = .ok (.ladd, 1) := by decide +kernel
theorem dL_sum_260 : decode cL_sum 260 = .ok (.lstore_n 1, 1) := by decide +kernel
theorem dL_sum_261 : decode cL_sum 261 = .ok (.iinc 4 1, 3) := by decide +kernel
theorem dL_sum_264 : decode cL_sum 264 = .ok (.goto (-27), 3) := by decide +kernel
theorem dL_sum_267 : decode cL_sum 267 = .ok (.iinc 3 1, 3) := by decide +kernel
theorem dL_sum_270 : decode cL_sum 270 = .ok (.goto (-47), 3) := by decide +kernel
theorem dL_sum_273 : decode cL_sum 273 = .ok (.lload_n 1, 1) := by decide +kernel
theorem dL_sum_274 : decode cL_sum 274 = .ok (.lreturn, 1) := by decide +kernel
theorem dL_horizon_0 : decode cL_horizon 0 = .ok (.iconst 0, 1) := by decide +kernel
theorem dL_horizon_1 : decode cL_horizon 1 = .ok (.istore_n 1, 1) := by decide +kernel
theorem dL_horizon_2 : decode cL_horizon 2 = .ok (.aload_n 0, 1) := by decide +kernel
theorem dL_horizon_3 : decode cL_horizon 3 = .ok (.invokevirtual 158, 3) := by decide +kernel
theorem dL_horizon_6 : decode cL_horizon 6 = .ok (.ifCond .ne 43, 3) := by decide +kernel
theorem dL_horizon_9 : decode cL_horizon 9 = .ok (.aload_n 0, 1) := by decide +kernel
theorem dL_horizon_10 : decode cL_horizon 10 = .ok (.invokevirtual 161, 3) := by decide +kernel
theorem dL_horizon_13 : decode cL_horizon 13 = .ok (.aload_n 0, 1) := by decide +kernel
theorem dL_horizon_14 : decode cL_horizon 14 = .ok (.invokevirtual 104, 3) := by decide +kernel
theorem dL_horizon_17 : decode cL_horizon 17 = .ok (.bipush 24, 2) := by decide +kernel
theorem dL_horizon_19 : decode cL_horizon 19 = .ok (.irem, 1) := by decide +kernel
theorem dL_horizon_20 : decode cL_horizon 20 = .ok (.bipush 6, 2) := by decide +kernel
theorem dL_horizon_22 : decode cL_horizon 22 = .ok (.if_icmp .lt 15, 3) := by decide +kernel
theorem dL_horizon_25 : decode cL_horizon 25 = .ok (.aload_n 0, 1) := by decide +kernel
theorem dL_horizon_26 : decode cL_horizon 26 = .ok (.invokevirtual 104, 3) := by decide +kernel
theorem dL_horizon_29 : decode cL_horizon 29 = .ok (.bipush 24, 2) := by decide +kernel
theorem dL_horizon_31 : decode cL_horizon 31 = .ok (.irem, 1) := by decide +kernel
theorem dL_horizon_32 : decode cL_horizon 32 = .ok (.bipush 21, 2) := by decide +kernel
theorem dL_horizon_34 : decode cL_horizon 34 = .ok (.if_icmp .le 7, 3) := by decide +kernel
theorem dL_horizon_37 : decode cL_horizon 37 = .ok (.iconst 1, 1) := by decide +kernel
theorem dL_horizon_38 : decode cL_horizon 38 = .ok (.goto 4, 3) := by decide +kernel
theorem dL_horizon_41 : decode cL_horizon 41 = .ok (.iconst 0, 1) := by decide +kernel
theorem dL_horizon_42 : decode cL_horizon 42 = .ok (.if_icmp .ne 7, 3) := by decide +kernel
theorem dL_horizon_45 : decode cL_horizon 45 = .ok (.iconst 1, 1) := by decide +kernel
theorem dL_horizon_46 : decode cL_horizon 46 = .ok (.goto 4, 3) := by decide +kernel
theorem dL_horizon_49 : decode cL_horizon 49 = .ok (.iconst 0, 1) := by decide +kernel
theorem dL_horizon_50 : decode cL_horizon 50 = .ok (.istore_n 2, 1) := by decide +kernel
theorem dL_horizon_51 : decode cL_horizon 51 = .ok (.aload_n 0, 1) := by decide +kernel
theorem dL_horizon_52 : decode cL_horizon 52 = .ok (.invokevirtual 104, 3) := by decide +kernel
theorem dL_horizon_55 : decode cL_horizon 55 = .ok (.istore_n 3, 1) := by decide +kernel
theorem dL_horizon_56 : decode cL_horizon 56 = .ok (.iload_n 3, 1) := by decide +kernel
theorem dL_horizon_57 : decode cL_horizon 57 = .ok (.aload_n 0, 1) := by decide +kernel
theorem dL_horizon_58 : decode cL_horizon 58 = .ok (.invokevirtual 104, 3) := by decide +kernel
theorem dL_horizon_61 : decode cL_horizon 61 = .ok (.bipush 48, 2) := by decide +kernel
theorem dL_horizon_63 : decode cL_horizon 63 = .ok (.iadd, 1) := by decide +kernel
theorem dL_horizon_64 : decode cL_horizon 64 = .ok (.if_icmp .ge 305, 3) := by decide +kernel
theorem dL_horizon_67 : decode cL_horizon 67 = .ok (.iload_n 2, 1) := by decide +kernel
theorem dL_horizon_68 : decode cL_horizon 68 = .ok (.ifCond .eq 301, 3) := by decide +kernel
theorem dL_horizon_71 : decode cL_horizon 71 = .ok (.iconst (-1), 1) := by decide +kernel
theorem dL_horizon_72 : decode cL_horizon 72 = .ok (.istore 4, 2) := by decide +kernel
theorem dL_horizon_74 : decode cL_horizon 74 = .ok (.iconst 0, 1) := by decide +kernel
theorem dL_horizon_75 : decode cL_horizon 75 = .ok (.istore 5, 2) := by decide +kernel
theorem dL_horizon_77 : decode cL_horizon 77 = .ok (.iload 5, 2) := by decide +kernel
theorem dL_horizon_79 : decode cL_horizon 79 = .ok (.aload_n 0, 1) := by decide +kernel
theorem dL_horizon_80 : decode cL_horizon 80 = .ok (.invokevirtual 110, 3) := by decide +kernel
theorem dL_horizon_83 : decode cL_horizon 83 = .ok (.if_icmp .ge 87, 3) := by decide +kernel
theorem dL_horizon_86 : decode cL_horizon 86 = .ok (.aload_n 0, 1) := by decide +kernel
theorem dL_horizon_87 : decode cL_horizon 87 = .ok (.iload 5, 2) := by decide +kernel
theorem dL_horizon_89 : decode cL_horizon 89 = .ok (.invokevirtual 152, 3) := by decide +kernel
theorem dL_horizon_92 : decode cL_horizon 92 = .ok (.iconst 2, 1) := by decide +kernel
theorem dL_horizon_93 : decode cL_horizon 93 = .ok (.if_icmp .ge 34, 3) := by decide +kernel
theorem dL_horizon_96 : decode cL_horizon 96 = .ok (.iload_n 3, 1) := by decide +kernel
theorem dL_horizon_97 : decode cL_horizon 97 = .ok (.aload_n 0, 1) := by decide +kernel
theorem dL_horizon_98 : decode cL_horizon 98 = .ok (.iload 5, 2) := by decide +kernel
theorem dL_horizon_100 : decode cL_horizon 100 = .ok (.invokevirtual 143, 3) := by decide +kernel
theorem dL_horizon_103 : decode cL_horizon 103 = .ok (.if_icmp .lt 24, 3) := by decide +kernel
theorem dL_horizon_106 : decode cL_horizon 106 = .ok (.iload_n 3, 1) := by decide +kernel
theorem dL_horizon_107 : decode cL_horizon 107 = .ok (.aload_n 0, 1) := by decide +kernel
theorem dL_horizon_108 : decode cL_horizon 108 = .ok (.iload 5, 2) := by decide +kernel
theorem dL_horizon_110 : decode cL_horizon 110 = .ok (.invokevirtual 143, 3) := by decide +kernel
theorem dL_horizon_113 : decode cL_horizon 113 = .ok (.aload_n 0, 1) := by decide +kernel
theorem dL_horizon_114 : decode cL_horizon 114 = .ok (.iload 5, 2) := by decide +kernel
theorem dL_horizon_116 : decode cL_horizon 116 = .ok (.invokevirtual 146, 3) := by decide +kernel
theorem dL_horizon_119 : decode cL_horizon 119 = .ok (.iadd, 1) := by decide +kernel
theorem dL_horizon_120 : decode cL_horizon 120 = .ok (.if_icmp .ge 7, 3) := by decide +kernel
theorem dL_horizon_123 : decode cL_horizon 123 = .ok (.iconst 1, 1) := by decide +kernel
theorem dL_horizon_124 : decode cL_horizon 124 = .ok (.goto 4, 3) := by decide +kernel
theorem dL_horizon_127 : decode cL_horizon 127 = .ok (.iconst 0, 1) := by decide +kernel
theorem dL_horizon_128 : decode cL_horizon 128 = .ok (.istore 6, 2) := by decide +kernel
theorem dL_horizon_130 : decode cL_horizon 130 = .ok (.iload_n 2, 1) := by decide +kernel
theorem dL_horizon_131 : decode cL_horizon 131 = .ok (.ifCond .eq 17, 3) := by decide +kernel
theorem dL_horizon_134 : decode cL_horizon 134 = .ok (.iload 6, 2) := by decide +kernel
theorem dL_horizon_136 : decode cL_horizon 136 = .ok (.ifCond .eq 8, 3) := by decide +kernel
theorem dL_horizon_139 : decode cL_horizon 139 = .ok (.iload 4, 2) := by decide +kernel
theorem dL_horizon_141 : decode cL_horizon 141 = .ok (.ifCond .ge 7, 3) := by decide +kernel
theorem dL_horizon_144 : decode cL_horizon 144 = .ok (.iconst 1, 1) := by decide +kernel
theorem dL_horizon_145 : decode cL_horizon 145 = .ok (.goto 4, 3) := by decide +kernel
theorem dL_horizon_148 : decode cL_horizon 148 = .ok (.iconst 0, 1) := by decide +kernel
theorem dL_horizon_149 : decode cL_horizon 149 = .ok (.istore_n 2, 1) := by decide +kernel
theorem dL_horizon_150 : decode cL_horizon 150 = .ok (.iload 6, 2) := by decide +kernel
theorem dL_horizon_152 : decode cL_horizon 152 = .ok (.ifCond .eq 8, 3) := by decide +kernel
theorem dL_horizon_155 : decode cL_horizon 155 = .ok (.iload 5, 2) := by decide +kernel
theorem dL_horizon_157 : decode cL_horizon 157 = .ok (.goto 5, 3) := by decide +kernel
theorem dL_horizon_160 : decode cL_horizon 160 = .ok (.iload 4, 2) := by decide +kernel
theorem dL_horizon_162 : decode cL_horizon 162 = .ok (.istore 4, 2) := by decide +kernel
theorem dL_horizon_164 : decode cL_horizon 164 = .ok (.iinc 5 1, 3) := by decide +kernel
theorem dL_horizon_167 : decode cL_horizon 167 = .ok (.goto (-90), 3) := by decide +kernel
theorem dL_horizon_170 : decode cL_horizon 170 = .ok (.iload_n 1, 1) := by decide +kernel
theorem dL_horizon_171 : decode cL_horizon 171 = .ok (.iload 4, 2) := by decide +kernel
theorem dL_horizon_173 : decode cL_horizon 173 = .ok (.ifCond .ge 7, 3) := by decide +kernel
theorem dL_horizon_176 : decode cL_horizon 176 = .ok (.iconst 1, 1) := by decide +kernel
theorem dL_horizon_177 : decode cL_horizon 177 = .ok (.goto 4, 3) := by decide +kernel
theorem dL_horizon_180 : decode cL_horizon 180 = .ok (.iconst 0, 1) := by decide +kernel
theorem dL_horizon_181 : decode cL_horizon 181 = .ok (.iadd, 1) := by decide +kernel
theorem dL_horizon_182 : decode cL_horizon 182 = .ok (.istore_n 1, 1) := by decide +kernel
theorem dL_horizon_183 : decode cL_horizon 183 = .ok (.iload_n 2, 1) := by decide +kernel
theorem dL_horizon_184 : decode cL_horizon 184 = .ok (.ifCond .eq 17, 3) := by decide +kernel
theorem dL_horizon_187 : decode cL_horizon 187 = .ok (.aload_n 0, 1) := by decide +kernel
theorem dL_horizon_188 : decode cL_horizon 188 = .ok (.iload_n 3, 1) := by decide +kernel
theorem dL_horizon_189 : decode cL_horizon 189 = .ok (.invokevirtual 165, 3) := by decide +kernel
theorem dL_horizon_192 : decode cL_horizon 192 = .ok (.iload 4, 2) := by decide +kernel
theorem dL_horizon_194 : decode cL_horizon 194 = .ok (.if_icmp .ne 7, 3) := by decide +kernel
theorem dL_horizon_197 : decode cL_horizon 197 = .ok (.iconst 1, 1) := by decide +kernel
theorem dL_horizon_198 : decode cL_horizon 198 = .ok (.goto 4, 3) := by decide +kernel
theorem dL_horizon_201 : decode cL_horizon 201 = .ok (.iconst 0, 1) := by decide +kernel
theorem dL_horizon_202 : decode cL_horizon 202 = .ok (.istore_n 2, 1) := by decide +kernel
theorem dL_horizon_203 : decode cL_horizon 203 = .ok (.iconst 0, 1) := by decide +kernel
theorem dL_horizon_204 : decode cL_horizon 204 = .ok (.istore 5, 2) := by decide +kernel
theorem dL_horizon_206 : decode cL_horizon 206 = .ok (.iload 5, 2) := by decide +kernel
theorem dL_horizon_208 : decode cL_horizon 208 = .ok (.aload_n 0, 1) := by decide +kernel
theorem dL_horizon_209 : decode cL_horizon 209 = .ok (.invokevirtual 113, 3) := by decide +kernel
theorem dL_horizon_212 : decode cL_horizon 212 = .ok (.if_icmp .ge 151, 3) := by decide +kernel
theorem dL_horizon_215 : decode cL_horizon 215 = .ok (.iload_n 2, 1) := by decide +kernel
theorem dL_horizon_216 : decode cL_horizon 216 = .ok (.ifCond .eq 147, 3) := by decide +kernel
theorem dL_horizon_219 : decode cL_horizon 219 = .ok (.aload_n 0, 1) := by decide +kernel
theorem dL_horizon_220 : decode cL_horizon 220 = .ok (.iload 5, 2) := by decide +kernel
theorem dL_horizon_222 : decode cL_horizon 222 = .ok (.iload_n 3, 1) := by decide +kernel
theorem dL_horizon_223 : decode cL_horizon 223 = .ok (.invokevirtual 168, 3) := by decide +kernel
theorem dL_horizon_226 : decode cL_horizon 226 = .ok (.istore 6, 2) := by decide +kernel
theorem dL_horizon_228 : decode cL_horizon 228 = .ok (.iload 4, 2) := by decide +kernel
theorem dL_horizon_230 : decode cL_horizon 230 = .ok (.ifCond .lt 22, 3) := by decide +kernel
theorem dL_horizon_233 : decode cL_horizon 233 = .ok (.aload_n 0, 1) := by decide +kernel
theorem dL_horizon_234 : decode cL_horizon 234 = .ok (.aload_n 0, 1) := by decide +kernel
theorem dL_horizon_235 : decode cL_horizon 235 = .ok (.iload 4, 2) := by decide +kernel
theorem dL_horizon_237 : decode cL_horizon 237 = .ok (.invokevirtual 140, 3) := by decide +kernel
theorem dL_horizon_240 : decode cL_horizon 240 = .ok (.invokevirtual 128, 3) := by decide +kernel
