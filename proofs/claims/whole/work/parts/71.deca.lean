theorem dX8_init_0 : decode cX8_init 0 = .ok (.aload_n 0, 1) := by decide +kernel
theorem dX8_init_1 : decode cX8_init 1 = .ok (.invokespecial 1, 3) := by decide +kernel
theorem dX8_init_4 : decode cX8_init 4 = .ok (.aload_n 0, 1) := by decide +kernel
theorem dX8_init_5 : decode cX8_init 5 = .ok (.bipush 96, 2) := by decide +kernel
theorem dX8_init_7 : decode cX8_init 7 = .ok (.newarray .int, 2) := by decide +kernel
theorem dX8_init_9 : decode cX8_init 9 = .ok (.dup, 1) := by decide +kernel
theorem dX8_init_10 : decode cX8_init 10 = .ok (.iconst 0, 1) := by decide +kernel
theorem dX8_init_11 : decode cX8_init 11 = .ok (.bipush 98, 2) := by decide +kernel
theorem dX8_init_13 : decode cX8_init 13 = .ok (.iastore, 1) := by decide +kernel
theorem dX8_init_14 : decode cX8_init 14 = .ok (.dup, 1) := by decide +kernel
theorem dX8_init_15 : decode cX8_init 15 = .ok (.iconst 1, 1) := by decide +kernel
theorem dX8_init_16 : decode cX8_init 16 = .ok (.bipush 117, 2) := by decide +kernel
theorem dX8_init_18 : decode cX8_init 18 = .ok (.iastore, 1) := by decide +kernel
theorem dX8_init_19 : decode cX8_init 19 = .ok (.dup, 1) := by decide +kernel
theorem dX8_init_20 : decode cX8_init 20 = .ok (.iconst 2, 1) := by decide +kernel
theorem dX8_init_21 : decode cX8_init 21 = .ok (.bipush 114, 2) := by decide +kernel
theorem dX8_init_23 : decode cX8_init 23 = .ok (.iastore, 1) := by decide +kernel
theorem dX8_init_24 : decode cX8_init 24 = .ok (.dup, 1) := by decide +kernel
theorem dX8_init_25 : decode cX8_init 25 = .ok (.iconst 3, 1) := by decide +kernel
theorem dX8_init_26 : decode cX8_init 26 = .ok (.bipush 101, 2) := by decide +kernel
theorem dX8_init_28 : decode cX8_init 28 = .ok (.iastore, 1) := by decide +kernel
theorem dX8_init_29 : decode cX8_init 29 = .ok (.dup, 1) := by decide +kernel
theorem dX8_init_30 : decode cX8_init 30 = .ok (.iconst 4, 1) := by decide +kernel
theorem dX8_init_31 : decode cX8_init 31 = .ok (.bipush 97, 2) := by decide +kernel
theorem dX8_init_33 : decode cX8_init 33 = .ok (.iastore, 1) := by decide +kernel
theorem dX8_init_34 : decode cX8_init 34 = .ok (.dup, 1) := by decide +kernel
theorem dX8_init_35 : decode cX8_init 35 = .ok (.iconst 5, 1) := by decide +kernel
theorem dX8_init_36 : decode cX8_init 36 = .ok (.bipush 117, 2) := by decide +kernel
theorem dX8_init_38 : decode cX8_init 38 = .ok (.iastore, 1) := by decide +kernel
theorem dX8_init_39 : decode cX8_init 39 = .ok (.dup, 1) := by decide +kernel
theorem dX8_init_40 : decode cX8_init 40 = .ok (.bipush 6, 2) := by decide +kernel
theorem dX8_init_42 : decode cX8_init 42 = .ok (.iconst 0, 1) := by decide +kernel
theorem dX8_init_43 : decode cX8_init 43 = .ok (.iastore, 1) := by decide +kernel
theorem dX8_init_44 : decode cX8_init 44 = .ok (.dup, 1) := by decide +kernel
theorem dX8_init_45 : decode cX8_init 45 = .ok (.bipush 7, 2) := by decide +kernel
theorem dX8_init_47 : decode cX8_init 47 = .ok (.iconst 0, 1) := by decide +kernel
theorem dX8_init_48 : decode cX8_init 48 = .ok (.iastore, 1) := by decide +kernel
theorem dX8_init_49 : decode cX8_init 49 = .ok (.dup, 1) := by decide +kernel
theorem dX8_init_50 : decode cX8_init 50 = .ok (.bipush 8, 2) := by decide +kernel
theorem dX8_init_52 : decode cX8_init 52 = .ok (.bipush 115, 2) := by decide +kernel
theorem dX8_init_54 : decode cX8_init 54 = .ok (.iastore, 1) := by decide +kernel
theorem dX8_init_55 : decode cX8_init 55 = .ok (.dup, 1) := by decide +kernel
theorem dX8_init_56 : decode cX8_init 56 = .ok (.bipush 9, 2) := by decide +kernel
theorem dX8_init_58 : decode cX8_init 58 = .ok (.bipush 116, 2) := by decide +kernel
theorem dX8_init_60 : decode cX8_init 60 = .ok (.iastore, 1) := by decide +kernel
theorem dX8_init_61 : decode cX8_init 61 = .ok (.dup, 1) := by decide +kernel
theorem dX8_init_62 : decode cX8_init 62 = .ok (.bipush 10, 2) := by decide +kernel
theorem dX8_init_64 : decode cX8_init 64 = .ok (.bipush 114, 2) := by decide +kernel
theorem dX8_init_66 : decode cX8_init 66 = .ok (.iastore, 1) := by decide +kernel
theorem dX8_init_67 : decode cX8_init 67 = .ok (.dup, 1) := by decide +kernel
theorem dX8_init_68 : decode cX8_init 68 = .ok (.bipush 11, 2) := by decide +kernel
theorem dX8_init_70 : decode cX8_init 70 = .ok (.bipush 101, 2) := by decide +kernel
theorem dX8_init_72 : decode cX8_init 72 = .ok (.iastore, 1) := by decide +kernel
theorem dX8_init_73 : decode cX8_init 73 = .ok (.dup, 1) := by decide +kernel
theorem dX8_init_74 : decode cX8_init 74 = .ok (.bipush 12, 2) := by decide +kernel
theorem dX8_init_76 : decode cX8_init 76 = .ok (.bipush 101, 2) := by decide +kernel
theorem dX8_init_78 : decode cX8_init 78 = .ok (.iastore, 1) := by decide +kernel
theorem dX8_init_79 : decode cX8_init 79 = .ok (.dup, 1) := by decide +kernel
theorem dX8_init_80 : decode cX8_init 80 = .ok (.bipush 13, 2) := by decide +kernel
theorem dX8_init_82 : decode cX8_init 82 = .ok (.bipush 116, 2) := by decide +kernel
theorem dX8_init_84 : decode cX8_init 84 = .ok (.iastore, 1) := by decide +kernel
theorem dX8_init_85 : decode cX8_init 85 = .ok (.dup, 1) := by decide +kernel
theorem dX8_init_86 : decode cX8_init 86 = .ok (.bipush 14, 2) := by decide +kernel
theorem dX8_init_88 : decode cX8_init 88 = .ok (.iconst 0, 1) := by decide +kernel
theorem dX8_init_89 : decode cX8_init 89 = .ok (.iastore, 1) := by decide +kernel
theorem dX8_init_90 : decode cX8_init 90 = .ok (.dup, 1) := by decide +kernel
theorem dX8_init_91 : decode cX8_init 91 = .ok (.bipush 15, 2) := by decide +kernel
theorem dX8_init_93 : decode cX8_init 93 = .ok (.iconst 0, 1) := by decide +kernel
theorem dX8_init_94 : decode cX8_init 94 = .ok (.iastore, 1) := by decide +kernel
theorem dX8_init_95 : decode cX8_init 95 = .ok (.dup, 1) := by decide +kernel
theorem dX8_init_96 : decode cX8_init 96 = .ok (.bipush 16, 2) := by decide +kernel
theorem dX8_init_98 : decode cX8_init 98 = .ok (.bipush 98, 2) := by decide +kernel
theorem dX8_init_100 : decode cX8_init 100 = .ok (.iastore, 1) := by decide +kernel
theorem dX8_init_101 : decode cX8_init 101 = .ok (.dup, 1) := by decide +kernel
theorem dX8_init_102 : decode cX8_init 102 = .ok (.bipush 17, 2) := by decide +kernel
theorem dX8_init_104 : decode cX8_init 104 = .ok (.bipush 111, 2) := by decide +kernel
theorem dX8_init_106 : decode cX8_init 106 = .ok (.iastore, 1) := by decide +kernel
theorem dX8_init_107 : decode cX8_init 107 = .ok (.dup, 1) := by decide +kernel
theorem dX8_init_108 : decode cX8_init 108 = .ok (.bipush 18, 2) := by decide +kernel
theorem dX8_init_110 : decode cX8_init 110 = .ok (.bipush 114, 2) := by decide +kernel
theorem dX8_init_112 : decode cX8_init 112 = .ok (.iastore, 1) := by decide +kernel
theorem dX8_init_113 : decode cX8_init 113 = .ok (.dup, 1) := by decide +kernel
theorem dX8_init_114 : decode cX8_init 114 = .ok (.bipush 19, 2) := by decide +kernel
theorem dX8_init_116 : decode cX8_init 116 = .ok (.bipush 114, 2) := by decide +kernel
theorem dX8_init_118 : decode cX8_init 118 = .ok (.iastore, 1) := by decide +kernel
theorem dX8_init_119 : decode cX8_init 119 = .ok (.dup, 1) := by decide +kernel
theorem dX8_init_120 : decode cX8_init 120 = .ok (.bipush 20, 2) := by decide +kernel
theorem dX8_init_122 : decode cX8_init 122 = .ok (.bipush 111, 2) := by decide +kernel
theorem dX8_init_124 : decode cX8_init 124 = .ok (.iastore, 1) := by decide +kernel
theorem dX8_init_125 : decode cX8_init 125 = .ok (.dup, 1) := by decide +kernel
theorem dX8_init_126 : decode cX8_init 126 = .ok (.bipush 21, 2) := by decide +kernel
theorem dX8_init_128 : decode cX8_init 128 = .ok (.bipush 119, 2) := by decide +kernel
theorem dX8_init_130 : decode cX8_init 130 = .ok (.iastore, 1) := by decide +kernel
theorem dX8_init_131 : decode cX8_init 131 = .ok (.dup, 1) := by decide +kernel
theorem dX8_init_132 : decode cX8_init 132 = .ok (.bipush 22, 2) := by decide +kernel
theorem dX8_init_134 : decode cX8_init 134 = .ok (.bipush 101, 2) := by decide +kernel
theorem dX8_init_136 : decode cX8_init 136 = .ok (.iastore, 1) := by decide +kernel
theorem dX8_init_137 : decode cX8_init 137 = .ok (.dup, 1) := by decide +kernel
theorem dX8_init_138 : decode cX8_init 138 = .ok (.bipush 23, 2) := by decide +kernel
theorem dX8_init_140 : decode cX8_init 140 = .ok (.bipush 114, 2) := by decide +kernel
theorem dX8_init_142 : decode cX8_init 142 = .ok (.iastore, 1) := by decide +kernel
theorem dX8_init_143 : decode cX8_init 143 = .ok (.dup, 1) := by decide +kernel
theorem dX8_init_144 : decode cX8_init 144 = .ok (.bipush 24, 2) := by decide +kernel
theorem dX8_init_146 : decode cX8_init 146 = .ok (.bipush 112, 2) := by decide +kernel
theorem dX8_init_148 : decode cX8_init 148 = .ok (.iastore, 1) := by decide +kernel
theorem dX8_init_149 : decode cX8_init 149 = .ok (.dup, 1) := by decide +kernel
theorem dX8_init_150 : decode cX8_init 150 = .ok (.bipush 25, 2) := by decide +kernel
theorem dX8_init_152 : decode cX8_init 152 = .ok (.bipush 101, 2) := by decide +kernel
theorem dX8_init_154 : decode cX8_init 154 = .ok (.iastore, 1) := by decide +kernel
theorem dX8_init_155 : decode cX8_init 155 = .ok (.dup, 1) := by decide +kernel
theorem dX8_init_156 : decode cX8_init 156 = .ok (.bipush 26, 2) := by decide +kernel
theorem dX8_init_158 : decode cX8_init 158 = .ok (.bipush 114, 2) := by decide +kernel
theorem dX8_init_160 : decode cX8_init 160 = .ok (.iastore, 1) := by decide +kernel
theorem dX8_init_161 : decode cX8_init 161 = .ok (.dup, 1) := by decide +kernel
theorem dX8_init_162 : decode cX8_init 162 = .ok (.bipush 27, 2) := by decide +kernel
theorem dX8_init_164 : decode cX8_init 164 = .ok (.bipush 109, 2) := by decide +kernel
theorem dX8_init_166 : decode cX8_init 166 = .ok (.iastore, 1) := by decide +kernel
theorem dX8_init_167 : decode cX8_init 167 = .ok (.dup, 1) := by decide +kernel
theorem dX8_init_168 : decode cX8_init 168 = .ok (.bipush 28, 2) := by decide +kernel
theorem dX8_init_170 : decode cX8_init 170 = .ok (.bipush 105, 2) := by decide +kernel
theorem dX8_init_172 : decode cX8_init 172 = .ok (.iastore, 1) := by decide +kernel
theorem dX8_init_173 : decode cX8_init 173 = .ok (.dup, 1) := by decide +kernel
theorem dX8_init_174 : decode cX8_init 174 = .ok (.bipush 29, 2) := by decide +kernel
theorem dX8_init_176 : decode cX8_init 176 = .ok (.bipush 116, 2) := by decide +kernel
theorem dX8_init_178 : decode cX8_init 178 = .ok (.iastore, 1) := by decide +kernel
theorem dX8_init_179 : decode cX8_init 179 = .ok (.dup, 1) := by decide +kernel
theorem dX8_init_180 : decode cX8_init 180 = .ok (.bipush 30, 2) := by decide +kernel
theorem dX8_init_182 : decode cX8_init 182 = .ok (.iconst 0, 1) := by decide +kernel
theorem dX8_init_183 : decode cX8_init 183 = .ok (.iastore, 1) := by decide +kernel
theorem dX8_init_184 : decode cX8_init 184 = .ok (.dup, 1) := by decide +kernel
theorem dX8_init_185 : decode cX8_init 185 = .ok (.bipush 31, 2) := by decide +kernel
theorem dX8_init_187 : decode cX8_init 187 = .ok (.iconst 0, 1) := by decide +kernel
theorem dX8_init_188 : decode cX8_init 188 = .ok (.iastore, 1) := by decide +kernel
theorem dX8_init_189 : decode cX8_init 189 = .ok (.dup, 1) := by decide +kernel
theorem dX8_init_190 : decode cX8_init 190 = .ok (.bipush 32, 2) := by decide +kernel
theorem dX8_init_192 : decode cX8_init 192 = .ok (.bipush 108, 2) := by decide +kernel
theorem dX8_init_194 : decode cX8_init 194 = .ok (.iastore, 1) := by decide +kernel
theorem dX8_init_195 : decode cX8_init 195 = .ok (.dup, 1) := by decide +kernel
theorem dX8_init_196 : decode cX8_init 196 = .ok (.bipush 33, 2) := by decide +kernel
theorem dX8_init_198 : decode cX8_init 198 = .ok (.bipush 101, 2) := by decide +kernel
theorem dX8_init_200 : decode cX8_init 200 = .ok (.iastore, 1) := by decide +kernel
theorem dX8_init_201 : decode cX8_init 201 = .ok (.dup, 1) := by decide +kernel
theorem dX8_init_202 : decode cX8_init 202 = .ok (.bipush 34, 2) := by decide +kernel
theorem dX8_init_204 : decode cX8_init 204 = .ok (.bipush 110, 2) := by decide +kernel
theorem dX8_init_206 : decode cX8_init 206 = .ok (.iastore, 1) := by decide +kernel
theorem dX8_init_207 : decode cX8_init 207 = .ok (.dup, 1) := by decide +kernel
theorem dX8_init_208 : decode cX8_init 208 = .ok (.bipush 35, 2) := by decide +kernel
theorem dX8_init_210 : decode cX8_init 210 = .ok (.bipush 100, 2) := by decide +kernel
theorem dX8_init_212 : decode cX8_init 212 = .ok (.iastore, 1) := by decide +kernel
theorem dX8_init_213 : decode cX8_init 213 = .ok (.dup, 1) := by decide +kernel
theorem dX8_init_214 : decode cX8_init 214 = .ok (.bipush 36, 2) := by decide +kernel
theorem dX8_init_216 : decode cX8_init 216 = .ok (.iconst 0, 1) := by decide +kernel
theorem dX8_init_217 : decode cX8_init 217 = .ok (.iastore, 1) := by decide +kernel
theorem dX8_init_218 : decode cX8_init 218 = .ok (.dup, 1) := by decide +kernel
theorem dX8_init_219 : decode cX8_init 219 = .ok (.bipush 37, 2) := by decide +kernel
theorem dX8_init_221 : decode cX8_init 221 = .ok (.iconst 0, 1) := by decide +kernel
theorem dX8_init_222 : decode cX8_init 222 = .ok (.iastore, 1) := by decide +kernel
theorem dX8_init_223 : decode cX8_init 223 = .ok (.dup, 1) := by decide +kernel
theorem dX8_init_224 : decode cX8_init 224 = .ok (.bipush 38, 2) := by decide +kernel
theorem dX8_init_226 : decode cX8_init 226 = .ok (.iconst 0, 1) := by decide +kernel
theorem dX8_init_227 : decode cX8_init 227 = .ok (.iastore, 1) := by decide +kernel
theorem dX8_init_228 : decode cX8_init 228 = .ok (.dup, 1) := by decide +kernel
theorem dX8_init_229 : decode cX8_init 229 = .ok (.bipush 39, 2) := by decide +kernel
theorem dX8_init_231 : decode cX8_init 231 = .ok (.iconst 0, 1) := by decide +kernel
theorem dX8_init_232 : decode cX8_init 232 = .ok (.iastore, 1) := by decide +kernel
theorem dX8_init_233 : decode cX8_init 233 = .ok (.dup, 1) := by decide +kernel
theorem dX8_init_234 : decode cX8_init 234 = .ok (.bipush 40, 2) := by decide +kernel
theorem dX8_init_236 : decode cX8_init 236 = .ok (.bipush 119, 2) := by decide +kernel
theorem dX8_init_238 : decode cX8_init 238 = .ok (.iastore, 1) := by decide +kernel
theorem dX8_init_239 : decode cX8_init 239 = .ok (.dup, 1) := by decide +kernel
theorem dX8_init_240 : decode cX8_init 240 = .ok (.bipush 41, 2) := by decide +kernel
theorem dX8_init_242 : decode cX8_init 242 = .ok (.bipush 104, 2) := by decide +kernel
theorem dX8_init_244 : decode cX8_init 244 = .ok (.iastore, 1) := by decide +kernel
theorem dX8_init_245 : decode cX8_init 245 = .ok (.dup, 1) := by decide +kernel
theorem dX8_init_246 : decode cX8_init 246 = .ok (.bipush 42, 2) := by decide +kernel
theorem dX8_init_248 : decode cX8_init 248 = .ok (.bipush 105, 2) := by decide +kernel
theorem dX8_init_250 : decode cX8_init 250 = .ok (.iastore, 1) := by decide +kernel
theorem dX8_init_251 : decode cX8_init 251 = .ok (.dup, 1) := by decide +kernel
theorem dX8_init_252 : decode cX8_init 252 = .ok (.bipush 43, 2) := by decide +kernel
theorem dX8_init_254 : decode cX8_init 254 = .ok (.bipush 115, 2) := by decide +kernel
theorem dX8_init_256 : decode cX8_init 256 = .ok (.iastore, 1) := by decide +kernel
theorem dX8_init_257 : decode cX8_init 257 = .ok (.dup, 1) := by decide +kernel
theorem dX8_init_258 : decode cX8_init 258 = .ok (.bipush 44, 2) := by decide +kernel
theorem dX8_init_260 : decode cX8_init 260 = .ok (.bipush 116, 2) := by decide +kernel
theorem dX8_init_262 : decode cX8_init 262 = .ok (.iastore, 1) := by decide +kernel
theorem dX8_init_263 : decode cX8_init 263 = .ok (.dup, 1) := by decide +kernel
theorem dX8_init_264 : decode cX8_init 264 = .ok (.bipush 45, 2) := by decide +kernel
theorem dX8_init_266 : decode cX8_init 266 = .ok (.bipush 108, 2) := by decide +kernel
theorem dX8_init_268 : decode cX8_init 268 = .ok (.iastore, 1) := by decide +kernel
theorem dX8_init_269 : decode cX8_init 269 = .ok (.dup, 1) := by decide +kernel
theorem dX8_init_270 : decode cX8_init 270 = .ok (.bipush 46, 2) := by decide +kernel
theorem dX8_init_272 : decode cX8_init 272 = .ok (.bipush 101, 2) := by decide +kernel
theorem dX8_init_274 : decode cX8_init 274 = .ok (.iastore, 1) := by decide +kernel
theorem dX8_init_275 : decode cX8_init 275 = .ok (.dup, 1) := by decide +kernel
theorem dX8_init_276 : decode cX8_init 276 = .ok (.bipush 47, 2) := by decide +kernel
theorem dX8_init_278 : decode cX8_init 278 = .ok (.iconst 0, 1) := by decide +kernel
theorem dX8_init_279 : decode cX8_init 279 = .ok (.iastore, 1) := by decide +kernel
theorem dX8_init_280 : decode cX8_init 280 = .ok (.dup, 1) := by decide +kernel
theorem dX8_init_281 : decode cX8_init 281 = .ok (.bipush 48, 2) := by decide +kernel
theorem dX8_init_283 : decode cX8_init 283 = .ok (.bipush 104, 2) := by decide +kernel
theorem dX8_init_285 : decode cX8_init 285 = .ok (.iastore, 1) := by decide +kernel
theorem dX8_init_286 : decode cX8_init 286 = .ok (.dup, 1) := by decide +kernel
theorem dX8_init_287 : decode cX8_init 287 = .ok (.bipush 49, 2) := by decide +kernel
theorem dX8_init_289 : decode cX8_init 289 = .ok (.bipush 111, 2) := by decide +kernel
theorem dX8_init_291 : decode cX8_init 291 = .ok (.iastore, 1) := by decide +kernel
theorem dX8_init_292 : decode cX8_init 292 = .ok (.dup, 1) := by decide +kernel
theorem dX8_init_293 : decode cX8_init 293 = .ok (.bipush 50, 2) := by decide +kernel
theorem dX8_init_295 : decode cX8_init 295 = .ok (.bipush 117, 2) := by decide +kernel
theorem dX8_init_297 : decode cX8_init 297 = .ok (.iastore, 1) := by decide +kernel
theorem dX8_init_298 : decode cX8_init 298 = .ok (.dup, 1) := by decide +kernel
theorem dX8_init_299 : decode cX8_init 299 = .ok (.bipush 51, 2) := by decide +kernel
theorem dX8_init_301 : decode cX8_init 301 = .ok (.bipush 114, 2) := by decide +kernel
theorem dX8_init_303 : decode cX8_init 303 = .ok (.iastore, 1) := by decide +kernel
theorem dX8_init_304 : decode cX8_init 304 = .ok (.dup, 1) := by decide +kernel
theorem dX8_init_305 : decode cX8_init 305 = .ok (.bipush 52, 2) := by decide +kernel
theorem dX8_init_307 : decode cX8_init 307 = .ok (.bipush 115, 2) := by decide +kernel
theorem dX8_init_309 : decode cX8_init 309 = .ok (.iastore, 1) := by decide +kernel
theorem dX8_init_310 : decode cX8_init 310 = .ok (.dup, 1) := by decide +kernel
theorem dX8_init_311 : decode cX8_init 311 = .ok (.bipush 53, 2) := by decide +kernel
theorem dX8_init_313 : decode cX8_init 313 = .ok (.iconst 0, 1) := by decide +kernel
theorem dX8_init_314 : decode cX8_init 314 = .ok (.iastore, 1) := by decide +kernel
theorem dX8_init_315 : decode cX8_init 315 = .ok (.dup, 1) := by decide +kernel
theorem dX8_init_316 : decode cX8_init 316 = .ok (.bipush 54, 2) := by decide +kernel
theorem dX8_init_318 : decode cX8_init 318 = .ok (.iconst 0, 1) := by decide +kernel
theorem dX8_init_319 : decode cX8_init 319 = .ok (.iastore, 1) := by decide +kernel
theorem dX8_init_320 : decode cX8_init 320 = .ok (.dup, 1) := by decide +kernel
theorem dX8_init_321 : decode cX8_init 321 = .ok (.bipush 55, 2) := by decide +kernel
theorem dX8_init_323 : decode cX8_init 323 = .ok (.iconst 0, 1) := by decide +kernel
theorem dX8_init_324 : decode cX8_init 324 = .ok (.iastore, 1) := by decide +kernel
theorem dX8_init_325 : decode cX8_init 325 = .ok (.dup, 1) := by decide +kernel
theorem dX8_init_326 : decode cX8_init 326 = .ok (.bipush 56, 2) := by decide +kernel
theorem dX8_init_328 : decode cX8_init 328 = .ok (.bipush 101, 2) := by decide +kernel
theorem dX8_init_330 : decode cX8_init 330 = .ok (.iastore, 1) := by decide +kernel
theorem dX8_init_331 : decode cX8_init 331 = .ok (.dup, 1) := by decide +kernel
theorem dX8_init_332 : decode cX8_init 332 = .ok (.bipush 57, 2) := by decide +kernel
theorem dX8_init_334 : decode cX8_init 334 = .ok (.bipush 108, 2) := by decide +kernel
theorem dX8_init_336 : decode cX8_init 336 = .ok (.iastore, 1) := by decide +kernel
theorem dX8_init_337 : decode cX8_init 337 = .ok (.dup, 1) := by decide +kernel
theorem dX8_init_338 : decode cX8_init 338 = .ok (.bipush 58, 2) := by decide +kernel
theorem dX8_init_340 : decode cX8_init 340 = .ok (.bipush 109, 2) := by decide +kernel
theorem dX8_init_342 : decode cX8_init 342 = .ok (.iastore, 1) := by decide +kernel
theorem dX8_init_343 : decode cX8_init 343 = .ok (.dup, 1) := by decide +kernel
theorem dX8_init_344 : decode cX8_init 344 = .ok (.bipush 59, 2) := by decide +kernel
theorem dX8_init_346 : decode cX8_init 346 = .ok (.iconst 0, 1) := by decide +kernel
theorem dX8_init_347 : decode cX8_init 347 = .ok (.iastore, 1) := by decide +kernel
theorem dX8_init_348 : decode cX8_init 348 = .ok (.dup, 1) := by decide +kernel
theorem dX8_init_349 : decode cX8_init 349 = .ok (.bipush 60, 2) := by decide +kernel
theorem dX8_init_351 : decode cX8_init 351 = .ok (.iconst 0, 1) := by decide +kernel
theorem dX8_init_352 : decode cX8_init 352 = .ok (.iastore, 1) := by decide +kernel
theorem dX8_init_353 : decode cX8_init 353 = .ok (.dup, 1) := by decide +kernel
theorem dX8_init_354 : decode cX8_init 354 = .ok (.bipush 61, 2) := by decide +kernel
theorem dX8_init_356 : decode cX8_init 356 = .ok (.iconst 0, 1) := by decide +kernel
theorem dX8_init_357 : decode cX8_init 357 = .ok (.iastore, 1) := by decide +kernel
theorem dX8_init_358 : decode cX8_init 358 = .ok (.dup, 1) := by decide +kernel
theorem dX8_init_359 : decode cX8_init 359 = .ok (.bipush 62, 2) := by decide +kernel
theorem dX8_init_361 : decode cX8_init 361 = .ok (.iconst 0, 1) := by decide +kernel
theorem dX8_init_362 : decode cX8_init 362 = .ok (.iastore, 1) := by decide +kernel
theorem dX8_init_363 : decode cX8_init 363 = .ok (.dup, 1) := by decide +kernel
theorem dX8_init_364 : decode cX8_init 364 = .ok (.bipush 63, 2) := by decide +kernel
theorem dX8_init_366 : decode cX8_init 366 = .ok (.iconst 0, 1) := by decide +kernel
theorem dX8_init_367 : decode cX8_init 367 = .ok (.iastore, 1) := by decide +kernel
theorem dX8_init_368 : decode cX8_init 368 = .ok (.dup, 1) := by decide +kernel
theorem dX8_init_369 : decode cX8_init 369 = .ok (.bipush 64, 2) := by decide +kernel
theorem dX8_init_371 : decode cX8_init 371 = .ok (.bipush 111, 2) := by decide +kernel
theorem dX8_init_373 : decode cX8_init 373 = .ok (.iastore, 1) := by decide +kernel
theorem dX8_init_374 : decode cX8_init 374 = .ok (.dup, 1) := by decide +kernel
theorem dX8_init_375 : decode cX8_init 375 = .ok (.bipush 65, 2) := by decide +kernel
theorem dX8_init_377 : decode cX8_init 377 = .ok (.bipush 97, 2) := by decide +kernel
theorem dX8_init_379 : decode cX8_init 379 = .ok (.iastore, 1) := by decide +kernel
theorem dX8_init_380 : decode cX8_init 380 = .ok (.dup, 1) := by decide +kernel
theorem dX8_init_381 : decode cX8_init 381 = .ok (.bipush 66, 2) := by decide +kernel
theorem dX8_init_383 : decode cX8_init 383 = .ok (.bipush 107, 2) := by decide +kernel
theorem dX8_init_385 : decode cX8_init 385 = .ok (.iastore, 1) := by decide +kernel
theorem dX8_init_386 : decode cX8_init 386 = .ok (.dup, 1) := by decide +kernel
theorem dX8_init_387 : decode cX8_init 387 = .ok (.bipush 67, 2) := by decide +kernel
theorem dX8_init_389 : decode cX8_init 389 = .ok (.iconst 0, 1) := by decide +kernel
theorem dX8_init_390 : decode cX8_init 390 = .ok (.iastore, 1) := by decide +kernel
theorem dX8_init_391 : decode cX8_init 391 = .ok (.dup, 1) := by decide +kernel
theorem dX8_init_392 : decode cX8_init 392 = .ok (.bipush 68, 2) := by decide +kernel
theorem dX8_init_394 : decode cX8_init 394 = .ok (.iconst 0, 1) := by decide +kernel
theorem dX8_init_395 : decode cX8_init 395 = .ok (.iastore, 1) := by decide +kernel
theorem dX8_init_396 : decode cX8_init 396 = .ok (.dup, 1) := by decide +kernel
theorem dX8_init_397 : decode cX8_init 397 = .ok (.bipush 69, 2) := by decide +kernel
theorem dX8_init_399 : decode cX8_init 399 = .ok (.iconst 0, 1) := by decide +kernel
theorem dX8_init_400 : decode cX8_init 400 = .ok (.iastore, 1) := by decide +kernel
theorem dX8_init_401 : decode cX8_init 401 = .ok (.dup, 1) := by decide +kernel
theorem dX8_init_402 : decode cX8_init 402 = .ok (.bipush 70, 2) := by decide +kernel
theorem dX8_init_404 : decode cX8_init 404 = .ok (.iconst 0, 1) := by decide +kernel
theorem dX8_init_405 : decode cX8_init 405 = .ok (.iastore, 1) := by decide +kernel
theorem dX8_init_406 : decode cX8_init 406 = .ok (.dup, 1) := by decide +kernel
theorem dX8_init_407 : decode cX8_init 407 = .ok (.bipush 71, 2) := by decide +kernel
theorem dX8_init_409 : decode cX8_init 409 = .ok (.iconst 0, 1) := by decide +kernel
theorem dX8_init_410 : decode cX8_init 410 = .ok (.iastore, 1) := by decide +kernel
theorem dX8_init_411 : decode cX8_init 411 = .ok (.dup, 1) := by decide +kernel
theorem dX8_init_412 : decode cX8_init 412 = .ok (.bipush 72, 2) := by decide +kernel
theorem dX8_init_414 : decode cX8_init 414 = .ok (.bipush 97, 2) := by decide +kernel
theorem dX8_init_416 : decode cX8_init 416 = .ok (.iastore, 1) := by decide +kernel
theorem dX8_init_417 : decode cX8_init 417 = .ok (.dup, 1) := by decide +kernel
theorem dX8_init_418 : decode cX8_init 418 = .ok (.bipush 73, 2) := by decide +kernel
theorem dX8_init_420 : decode cX8_init 420 = .ok (.bipush 110, 2) := by decide +kernel
theorem dX8_init_422 : decode cX8_init 422 = .ok (.iastore, 1) := by decide +kernel
theorem dX8_init_423 : decode cX8_init 423 = .ok (.dup, 1) := by decide +kernel
theorem dX8_init_424 : decode cX8_init 424 = .ok (.bipush 74, 2) := by decide +kernel
theorem dX8_init_426 : decode cX8_init 426 = .ok (.bipush 110, 2) := by decide +kernel
theorem dX8_init_428 : decode cX8_init 428 = .ok (.iastore, 1) := by decide +kernel
theorem dX8_init_429 : decode cX8_init 429 = .ok (.dup, 1) := by decide +kernel
theorem dX8_init_430 : decode cX8_init 430 = .ok (.bipush 75, 2) := by decide +kernel
theorem dX8_init_432 : decode cX8_init 432 = .ok (.iconst 0, 1) := by decide +kernel
theorem dX8_init_433 : decode cX8_init 433 = .ok (.iastore, 1) := by decide +kernel
theorem dX8_init_434 : decode cX8_init 434 = .ok (.dup, 1) := by decide +kernel
theorem dX8_init_435 : decode cX8_init 435 = .ok (.bipush 76, 2) := by decide +kernel
theorem dX8_init_437 : decode cX8_init 437 = .ok (.iconst 0, 1) := by decide +kernel
theorem dX8_init_438 : decode cX8_init 438 = .ok (.iastore, 1) := by decide +kernel
theorem dX8_init_439 : decode cX8_init 439 = .ok (.dup, 1) := by decide +kernel
theorem dX8_init_440 : decode cX8_init 440 = .ok (.bipush 77, 2) := by decide +kernel
theorem dX8_init_442 : decode cX8_init 442 = .ok (.iconst 0, 1) := by decide +kernel
theorem dX8_init_443 : decode cX8_init 443 = .ok (.iastore, 1) := by decide +kernel
theorem dX8_init_444 : decode cX8_init 444 = .ok (.dup, 1) := by decide +kernel
theorem dX8_init_445 : decode cX8_init 445 = .ok (.bipush 78, 2) := by decide +kernel
theorem dX8_init_447 : decode cX8_init 447 = .ok (.iconst 0, 1) := by decide +kernel
theorem dX8_init_448 : decode cX8_init 448 = .ok (.iastore, 1) := by decide +kernel
theorem dX8_init_449 : decode cX8_init 449 = .ok (.dup, 1) := by decide +kernel
theorem dX8_init_450 : decode cX8_init 450 = .ok (.bipush 79, 2) := by decide +kernel
theorem dX8_init_452 : decode cX8_init 452 = .ok (.iconst 0, 1) := by decide +kernel
theorem dX8_init_453 : decode cX8_init 453 = .ok (.iastore, 1) := by decide +kernel
theorem dX8_init_454 : decode cX8_init 454 = .ok (.dup, 1) := by decide +kernel
theorem dX8_init_455 : decode cX8_init 455 = .ok (.bipush 80, 2) := by decide +kernel
theorem dX8_init_457 : decode cX8_init 457 = .ok (.bipush 98, 2) := by decide +kernel
theorem dX8_init_459 : decode cX8_init 459 = .ok (.iastore, 1) := by decide +kernel
theorem dX8_init_460 : decode cX8_init 460 = .ok (.dup, 1) := by decide +kernel
theorem dX8_init_461 : decode cX8_init 461 = .ok (.bipush 81, 2) := by decide +kernel
theorem dX8_init_463 : decode cX8_init 463 = .ok (.bipush 111, 2) := by decide +kernel
theorem dX8_init_465 : decode cX8_init 465 = .ok (.iastore, 1) := by decide +kernel
theorem dX8_init_466 : decode cX8_init 466 = .ok (.dup, 1) := by decide +kernel
theorem dX8_init_467 : decode cX8_init 467 = .ok (.bipush 82, 2) := by decide +kernel
theorem dX8_init_469 : decode cX8_init 469 = .ok (.bipush 98, 2) := by decide +kernel
theorem dX8_init_471 : decode cX8_init 471 = .ok (.iastore, 1) := by decide +kernel
theorem dX8_init_472 : decode cX8_init 472 = .ok (.dup, 1) := by decide +kernel
theorem dX8_init_473 : decode cX8_init 473 = .ok (.bipush 83, 2) := by decide +kernel
theorem dX8_init_475 : decode cX8_init 475 = .ok (.iconst 0, 1) := by decide +kernel
theorem dX8_init_476 : decode cX8_init 476 = .ok (.iastore, 1) := by decide +kernel
theorem dX8_init_477 : decode cX8_init 477 = .ok (.dup, 1) := by decide +kernel
theorem dX8_init_478 : decode cX8_init 478 = .ok (.bipush 84, 2) := by decide +kernel
theorem dX8_init_480 : decode cX8_init 480 = .ok (.iconst 0, 1) := by decide +kernel
theorem dX8_init_481 : decode cX8_init 481 = .ok (.iastore, 1) := by decide +kernel
theorem dX8_init_482 : decode cX8_init 482 = .ok (.dup, 1) := by decide +kernel
theorem dX8_init_483 : decode cX8_init 483 = .ok (.bipush 85, 2) := by decide +kernel
theorem dX8_init_485 : decode cX8_init 485 = .ok (.iconst 0, 1) := by decide +kernel
theorem dX8_init_486 : decode cX8_init 486 = .ok (.iastore, 1) := by decide +kernel
theorem dX8_init_487 : decode cX8_init 487 = .ok (.dup, 1) := by decide +kernel
theorem dX8_init_488 : decode cX8_init 488 = .ok (.bipush 86, 2) := by decide +kernel
theorem dX8_init_490 : decode cX8_init 490 = .ok (.iconst 0, 1) := by decide +kernel
theorem dX8_init_491 : decode cX8_init 491 = .ok (.iastore, 1) := by decide +kernel
theorem dX8_init_492 : decode cX8_init 492 = .ok (.dup, 1) := by decide +kernel
theorem dX8_init_493 : decode cX8_init 493 = .ok (.bipush 87, 2) := by decide +kernel
theorem dX8_init_495 : decode cX8_init 495 = .ok (.iconst 0, 1) := by decide +kernel
theorem dX8_init_496 : decode cX8_init 496 = .ok (.iastore, 1) := by decide +kernel
theorem dX8_init_497 : decode cX8_init 497 = .ok (.dup, 1) := by decide +kernel
theorem dX8_init_498 : decode cX8_init 498 = .ok (.bipush 88, 2) := by decide +kernel
theorem dX8_init_500 : decode cX8_init 500 = .ok (.bipush 99, 2) := by decide +kernel
theorem dX8_init_502 : decode cX8_init 502 = .ok (.iastore, 1) := by decide +kernel
theorem dX8_init_503 : decode cX8_init 503 = .ok (.dup, 1) := by decide +kernel
theorem dX8_init_504 : decode cX8_init 504 = .ok (.bipush 89, 2) := by decide +kernel
theorem dX8_init_506 : decode cX8_init 506 = .ok (.bipush 105, 2) := by decide +kernel
theorem dX8_init_508 : decode cX8_init 508 = .ok (.iastore, 1) := by decide +kernel
theorem dX8_init_509 : decode cX8_init 509 = .ok (.dup, 1) := by decide +kernel
theorem dX8_init_510 : decode cX8_init 510 = .ok (.bipush 90, 2) := by decide +kernel
theorem dX8_init_512 : decode cX8_init 512 = .ok (.bipush 100, 2) := by decide +kernel
theorem dX8_init_514 : decode cX8_init 514 = .ok (.iastore, 1) := by decide +kernel
theorem dX8_init_515 : decode cX8_init 515 = .ok (.dup, 1) := by decide +kernel
theorem dX8_init_516 : decode cX8_init 516 = .ok (.bipush 91, 2) := by decide +kernel
theorem dX8_init_518 : decode cX8_init 518 = .ok (.iconst 0, 1) := by decide +kernel
theorem dX8_init_519 : decode cX8_init 519 = .ok (.iastore, 1) := by decide +kernel
theorem dX8_init_520 : decode cX8_init 520 = .ok (.dup, 1) := by decide +kernel
theorem dX8_init_521 : decode cX8_init 521 = .ok (.bipush 92, 2) := by decide +kernel
theorem dX8_init_523 : decode cX8_init 523 = .ok (.iconst 0, 1) := by decide +kernel
theorem dX8_init_524 : decode cX8_init 524 = .ok (.iastore, 1) := by decide +kernel
theorem dX8_init_525 : decode cX8_init 525 = .ok (.dup, 1) := by decide +kernel
theorem dX8_init_526 : decode cX8_init 526 = .ok (.bipush 93, 2) := by decide +kernel
theorem dX8_init_528 : decode cX8_init 528 = .ok (.iconst 0, 1) := by decide +kernel
theorem dX8_init_529 : decode cX8_init 529 = .ok (.iastore, 1) := by decide +kernel
theorem dX8_init_530 : decode cX8_init 530 = .ok (.dup, 1) := by decide +kernel
theorem dX8_init_531 : decode cX8_init 531 = .ok (.bipush 94, 2) := by decide +kernel
theorem dX8_init_533 : decode cX8_init 533 = .ok (.iconst 0, 1) := by decide +kernel
theorem dX8_init_534 : decode cX8_init 534 = .ok (.iastore, 1) := by decide +kernel
theorem dX8_init_535 : decode cX8_init 535 = .ok (.dup, 1) := by decide +kernel
theorem dX8_init_536 : decode cX8_init 536 = .ok (.bipush 95, 2) := by decide +kernel
theorem dX8_init_538 : decode cX8_init 538 = .ok (.iconst 0, 1) := by decide +kernel
theorem dX8_init_539 : decode cX8_init 539 = .ok (.iastore, 1) := by decide +kernel
theorem dX8_init_540 : decode cX8_init 540 = .ok (.putfield 7, 3) := by decide +kernel
theorem dX8_init_543 : decode cX8_init 543 = .ok (.aload_n 0, 1) := by decide +kernel
theorem dX8_init_544 : decode cX8_init 544 = .ok (.sipush 411, 3) := by decide +kernel
theorem dX8_init_547 : decode cX8_init 547 = .ok (.newarray .int, 2) := by decide +kernel
theorem dX8_init_549 : decode cX8_init 549 = .ok (.putfield 13, 3) := by decide +kernel
theorem dX8_init_552 : decode cX8_init 552 = .ok (.aload_n 0, 1) := by decide +kernel
theorem dX8_init_553 : decode cX8_init 553 = .ok (.sipush 411, 3) := by decide +kernel
theorem dX8_init_556 : decode cX8_init 556 = .ok (.newarray .int, 2) := by decide +kernel
theorem dX8_init_558 : decode cX8_init 558 = .ok (.putfield 16, 3) := by decide +kernel
theorem dX8_init_561 : decode cX8_init 561 = .ok (.aload_n 0, 1) := by decide +kernel
theorem dX8_init_562 : decode cX8_init 562 = .ok (.sipush 4110, 3) := by decide +kernel
theorem dX8_init_565 : decode cX8_init 565 = .ok (.newarray .int, 2) := by decide +kernel
theorem dX8_init_567 : decode cX8_init 567 = .ok (.putfield 19, 3) := by decide +kernel
theorem dX8_init_570 : decode cX8_init 570 = .ok (.aload_n 0, 1) := by decide +kernel
theorem dX8_init_571 : decode cX8_init 571 = .ok (.sipush 822, 3) := by decide +kernel
theorem dX8_init_574 : decode cX8_init 574 = .ok (.newarray .int, 2) := by decide +kernel
theorem dX8_init_576 : decode cX8_init 576 = .ok (.putfield 22, 3) := by decide +kernel
theorem dX8_init_579 : decode cX8_init 579 = .ok (.aload_n 0, 1) := by decide +kernel
theorem dX8_init_580 : decode cX8_init 580 = .ok (.bipush 6, 2) := by decide +kernel
theorem dX8_init_582 : decode cX8_init 582 = .ok (.newarray .int, 2) := by decide +kernel
theorem dX8_init_584 : decode cX8_init 584 = .ok (.putfield 25, 3) := by decide +kernel
theorem dX8_init_587 : decode cX8_init 587 = .ok (.aload_n 0, 1) := by decide +kernel
theorem dX8_init_588 : decode cX8_init 588 = .ok (.bipush 8, 2) := by decide +kernel
theorem dX8_init_590 : decode cX8_init 590 = .ok (.newarray .int, 2) := by decide +kernel
theorem dX8_init_592 : decode cX8_init 592 = .ok (.putfield 28, 3) := by decide +kernel
theorem dX8_init_595 : decode cX8_init 595 = .ok (.aload_n 0, 1) := by decide +kernel
theorem dX8_init_596 : decode cX8_init 596 = .ok (.sipush 700, 3) := by decide +kernel
theorem dX8_init_599 : decode cX8_init 599 = .ok (.newarray .byte, 2) := by decide +kernel
theorem dX8_init_601 : decode cX8_init 601 = .ok (.putfield 31, 3) := by decide +kernel
theorem dX8_init_604 : decode cX8_init 604 = .ok (.aload_n 0, 1) := by decide +kernel
theorem dX8_init_605 : decode cX8_init 605 = .ok (.bipush 40, 2) := by decide +kernel
theorem dX8_init_607 : decode cX8_init 607 = .ok (.newarray .byte, 2) := by decide +kernel
theorem dX8_init_609 : decode cX8_init 609 = .ok (.putfield 35, 3) := by decide +kernel
theorem dX8_init_612 : decode cX8_init 612 = .ok (.aload_n 0, 1) := by decide +kernel
theorem dX8_init_613 : decode cX8_init 613 = .ok (.iconst (-1), 1) := by decide +kernel
theorem dX8_init_614 : decode cX8_init 614 = .ok (.putfield 38, 3) := by decide +kernel
theorem dX8_init_617 : decode cX8_init 617 = .ok (.aload_n 0, 1) := by decide +kernel
theorem dX8_init_618 : decode cX8_init 618 = .ok (.getfield 13, 3) := by decide +kernel
theorem dX8_init_621 : decode cX8_init 621 = .ok (.iconst 0, 1) := by decide +kernel
theorem dX8_init_622 : decode cX8_init 622 = .ok (.iconst 2, 1) := by decide +kernel
theorem dX8_init_623 : decode cX8_init 623 = .ok (.iastore, 1) := by decide +kernel
theorem dX8_init_624 : decode cX8_init 624 = .ok (.aload_n 0, 1) := by decide +kernel
theorem dX8_init_625 : decode cX8_init 625 = .ok (.getfield 13, 3) := by decide +kernel
theorem dX8_init_628 : decode cX8_init 628 = .ok (.iconst 1, 1) := by decide +kernel
theorem dX8_init_629 : decode cX8_init 629 = .ok (.iconst 5, 1) := by decide +kernel
theorem dX8_init_630 : decode cX8_init 630 = .ok (.iastore, 1) := by decide +kernel
theorem dX8_init_631 : decode cX8_init 631 = .ok (.aload_n 0, 1) := by decide +kernel
theorem dX8_init_632 : decode cX8_init 632 = .ok (.bipush 7, 2) := by decide +kernel
theorem dX8_init_634 : decode cX8_init 634 = .ok (.invokevirtual 42, 3) := by decide +kernel
theorem dX8_init_637 : decode cX8_init 637 = .ok (.aload_n 0, 1) := by decide +kernel
theorem dX8_init_638 : decode cX8_init 638 = .ok (.bipush 60, 2) := by decide +kernel
theorem dX8_init_640 : decode cX8_init 640 = .ok (.bipush 20, 2) := by decide +kernel
theorem dX8_init_642 : decode cX8_init 642 = .ok (.invokevirtual 46, 3) := by decide +kernel
theorem dX8_init_645 : decode cX8_init 645 = .ok (.aload_n 0, 1) := by decide +kernel
theorem dX8_init_646 : decode cX8_init 646 = .ok (.bipush 8, 2) := by decide +kernel
theorem dX8_init_648 : decode cX8_init 648 = .ok (.invokevirtual 42, 3) := by decide +kernel
theorem dX8_init_651 : decode cX8_init 651 = .ok (.aload_n 0, 1) := by decide +kernel
theorem dX8_init_652 : decode cX8_init 652 = .ok (.bipush 85, 2) := by decide +kernel
theorem dX8_init_654 : decode cX8_init 654 = .ok (.bipush 50, 2) := by decide +kernel
theorem dX8_init_656 : decode cX8_init 656 = .ok (.invokevirtual 46, 3) := by decide +kernel
theorem dX8_init_659 : decode cX8_init 659 = .ok (.aload_n 0, 1) := by decide +kernel
theorem dX8_init_660 : decode cX8_init 660 = .ok (.bipush 9, 2) := by decide +kernel
theorem dX8_init_662 : decode cX8_init 662 = .ok (.invokevirtual 42, 3) := by decide +kernel
theorem dX8_init_665 : decode cX8_init 665 = .ok (.aload_n 0, 1) := by decide +kernel
theorem dX8_init_666 : decode cX8_init 666 = .ok (.iconst 0, 1) := by decide +kernel
theorem dX8_init_667 : decode cX8_init 667 = .ok (.iconst 3, 1) := by decide +kernel
theorem dX8_init_668 : decode cX8_init 668 = .ok (.bipush 40, 2) := by decide +kernel
theorem dX8_init_670 : decode cX8_init 670 = .ok (.invokevirtual 50, 3) := by decide +kernel
theorem dX8_init_673 : decode cX8_init 673 = .ok (.aload_n 0, 1) := by decide +kernel
theorem dX8_init_674 : decode cX8_init 674 = .ok (.bipush 10, 2) := by decide +kernel
theorem dX8_init_676 : decode cX8_init 676 = .ok (.invokevirtual 42, 3) := by decide +kernel
theorem dX8_init_679 : decode cX8_init 679 = .ok (.aload_n 0, 1) := by decide +kernel
theorem dX8_init_680 : decode cX8_init 680 = .ok (.iconst 1, 1) := by decide +kernel
theorem dX8_init_681 : decode cX8_init 681 = .ok (.bipush 7, 2) := by decide +kernel
theorem dX8_init_683 : decode cX8_init 683 = .ok (.bipush 90, 2) := by decide +kernel
theorem dX8_init_685 : decode cX8_init 685 = .ok (.invokevirtual 50, 3) := by decide +kernel
theorem dX8_init_688 : decode cX8_init 688 = .ok (.aload_n 0, 1) := by decide +kernel
theorem dX8_init_689 : decode cX8_init 689 = .ok (.bipush 11, 2) := by decide +kernel
theorem dX8_init_691 : decode cX8_init 691 = .ok (.invokevirtual 42, 3) := by decide +kernel
theorem dX8_init_694 : decode cX8_init 694 = .ok (.aload_n 0, 1) := by decide +kernel
theorem dX8_init_695 : decode cX8_init 695 = .ok (.iconst 1, 1) := by decide +kernel
theorem dX8_init_696 : decode cX8_init 696 = .ok (.iconst 2, 1) := by decide +kernel
theorem dX8_init_697 : decode cX8_init 697 = .ok (.bipush 50, 2) := by decide +kernel
theorem dX8_init_699 : decode cX8_init 699 = .ok (.invokevirtual 50, 3) := by decide +kernel
theorem dX8_init_702 : decode cX8_init 702 = .ok (.aload_n 0, 1) := by decide +kernel
theorem dX8_init_703 : decode cX8_init 703 = .ok (.iconst 1, 1) := by decide +kernel
theorem dX8_init_704 : decode cX8_init 704 = .ok (.bipush 10, 2) := by decide +kernel
theorem dX8_init_706 : decode cX8_init 706 = .ok (.iconst 2, 1) := by decide +kernel
theorem dX8_init_707 : decode cX8_init 707 = .ok (.invokevirtual 54, 3) := by decide +kernel
theorem dX8_init_710 : decode cX8_init 710 = .ok (.aload_n 0, 1) := by decide +kernel
theorem dX8_init_711 : decode cX8_init 711 = .ok (.iconst 0, 1) := by decide +kernel
theorem dX8_init_712 : decode cX8_init 712 = .ok (.iconst 4, 1) := by decide +kernel
theorem dX8_init_713 : decode cX8_init 713 = .ok (.iconst 2, 1) := by decide +kernel
theorem dX8_init_714 : decode cX8_init 714 = .ok (.invokevirtual 57, 3) := by decide +kernel
theorem dX8_init_717 : decode cX8_init 717 = .ok (.aload_n 0, 1) := by decide +kernel
theorem dX8_init_718 : decode cX8_init 718 = .ok (.iconst 1, 1) := by decide +kernel
theorem dX8_init_719 : decode cX8_init 719 = .ok (.bipush 6, 2) := by decide +kernel
theorem dX8_init_721 : decode cX8_init 721 = .ok (.iconst 3, 1) := by decide +kernel
theorem dX8_init_722 : decode cX8_init 722 = .ok (.invokevirtual 57, 3) := by decide +kernel
theorem dX8_init_725 : decode cX8_init 725 = .ok (.aload_n 0, 1) := by decide +kernel
theorem dX8_init_726 : decode cX8_init 726 = .ok (.iconst 5, 1) := by decide +kernel
theorem dX8_init_727 : decode cX8_init 727 = .ok (.invokevirtual 60, 3) := by decide +kernel
theorem dX8_init_730 : decode cX8_init 730 = .ok (.istore_n 1, 1) := by decide +kernel
theorem dX8_init_731 : decode cX8_init 731 = .ok (.return_, 1) := by decide +kernel
theorem dX8_spellsKey_0 : decode cX8_spellsKey 0 = .ok (.iconst 0, 1) := by decide +kernel
theorem dX8_spellsKey_1 : decode cX8_spellsKey 1 = .ok (.istore_n 2, 1) := by decide +kernel
theorem dX8_spellsKey_2 : decode cX8_spellsKey 2 = .ok (.iload_n 2, 1) := by decide +kernel
theorem dX8_spellsKey_3 : decode cX8_spellsKey 3 = .ok (.bipush 6, 2) := by decide +kernel
theorem dX8_spellsKey_5 : decode cX8_spellsKey 5 = .ok (.if_icmp .ge 26, 3) := by decide +kernel
theorem dX8_spellsKey_8 : decode cX8_spellsKey 8 = .ok (.aload_n 0, 1) := by decide +kernel
theorem dX8_spellsKey_9 : decode cX8_spellsKey 9 = .ok (.getfield 25, 3) := by decide +kernel
theorem dX8_spellsKey_12 : decode cX8_spellsKey 12 = .ok (.iload_n 2, 1) := by decide +kernel
theorem dX8_spellsKey_13 : decode cX8_spellsKey 13 = .ok (.aload_n 0, 1) := by decide +kernel
theorem dX8_spellsKey_14 : decode cX8_spellsKey 14 = .ok (.getfield 7, 3) := by decide +kernel
theorem dX8_spellsKey_17 : decode cX8_spellsKey 17 = .ok (.bipush 8, 2) := by decide +kernel
theorem dX8_spellsKey_19 : decode cX8_spellsKey 19 = .ok (.iload_n 1, 1) := by decide +kernel
theorem dX8_spellsKey_20 : decode cX8_spellsKey 20 = .ok (.imul, 1) := by decide +kernel
theorem dX8_spellsKey_21 : decode cX8_spellsKey 21 = .ok (.iload_n 2, 1) := by decide +kernel
theorem dX8_spellsKey_22 : decode cX8_spellsKey 22 = .ok (.iadd, 1) := by decide +kernel
theorem dX8_spellsKey_23 : decode cX8_spellsKey 23 = .ok (.iaload, 1) := by decide +kernel
theorem dX8_spellsKey_24 : decode cX8_spellsKey 24 = .ok (.iastore, 1) := by decide +kernel
theorem dX8_spellsKey_25 : decode cX8_spellsKey 25 = .ok (.iinc 2 1, 3) := by decide +kernel
theorem dX8_spellsKey_28 : decode cX8_spellsKey 28 = .ok (.goto (-26), 3) := by decide +kernel
theorem dX8_spellsKey_31 : decode cX8_spellsKey 31 = .ok (.return_, 1) := by decide +kernel
theorem dX8_thrown_0 : decode cX8_thrown 0 = .ok (.aload_n 0, 1) := by decide +kernel
theorem dX8_thrown_1 : decode cX8_thrown 1 = .ok (.getfield 64, 3) := by decide +kernel
theorem dX8_thrown_4 : decode cX8_thrown 4 = .ok (.ireturn, 1) := by decide +kernel
theorem dX8_refuse_0 : decode cX8_refuse 0 = .ok (.aload_n 0, 1) := by decide +kernel
theorem dX8_refuse_1 : decode cX8_refuse 1 = .ok (.iload_n 1, 1) := by decide +kernel
theorem dX8_refuse_2 : decode cX8_refuse 2 = .ok (.putfield 64, 3) := by decide +kernel
theorem dX8_refuse_5 : decode cX8_refuse 5 = .ok (.iconst 0, 1) := by decide +kernel
theorem dX8_refuse_6 : decode cX8_refuse 6 = .ok (.ireturn, 1) := by decide +kernel
theorem dX8_told_0 : decode cX8_told 0 = .ok (.aload_n 0, 1) := by decide +kernel
theorem dX8_told_1 : decode cX8_told 1 = .ok (.iconst 0, 1) := by decide +kernel
theorem dX8_told_2 : decode cX8_told 2 = .ok (.putfield 64, 3) := by decide +kernel
theorem dX8_told_5 : decode cX8_told 5 = .ok (.iload_n 1, 1) := by decide +kernel
theorem dX8_told_6 : decode cX8_told 6 = .ok (.ireturn, 1) := by decide +kernel
theorem dX8_in_0 : decode cX8_in 0 = .ok (.iload_n 0, 1) := by decide +kernel
theorem dX8_in_1 : decode cX8_in 1 = .ok (.iload_n 1, 1) := by decide +kernel
theorem dX8_in_2 : decode cX8_in 2 = .ok (.if_icmp .lt 12, 3) := by decide +kernel
theorem dX8_in_5 : decode cX8_in 5 = .ok (.iload_n 0, 1) := by decide +kernel
theorem dX8_in_6 : decode cX8_in 6 = .ok (.iload_n 2, 1) := by decide +kernel
theorem dX8_in_7 : decode cX8_in 7 = .ok (.if_icmp .gt 7, 3) := by decide +kernel
theorem dX8_in_10 : decode cX8_in 10 = .ok (.iconst 1, 1) := by decide +kernel
theorem dX8_in_11 : decode cX8_in 11 = .ok (.goto 4, 3) := by decide +kernel
theorem dX8_in_14 : decode cX8_in 14 = .ok (.iconst 0, 1) := by decide +kernel
theorem dX8_in_15 : decode cX8_in 15 = .ok (.ireturn, 1) := by decide +kernel
theorem dX8_without_0 : decode cX8_without 0 = .ok (.iload_n 0, 1) := by decide +kernel
theorem dX8_without_1 : decode cX8_without 1 = .ok (.ifCond .ge 8, 3) := by decide +kernel
theorem dX8_without_4 : decode cX8_without 4 = .ok (.iload_n 0, 1) := by decide +kernel
theorem dX8_without_5 : decode cX8_without 5 = .ok (.ineg, 1) := by decide +kernel
theorem dX8_without_6 : decode cX8_without 6 = .ok (.goto 4, 3) := by decide +kernel
theorem dX8_without_9 : decode cX8_without 9 = .ok (.iload_n 0, 1) := by decide +kernel
theorem dX8_without_10 : decode cX8_without 10 = .ok (.ireturn, 1) := by decide +kernel
theorem dX8_s_0 : decode cX8_s 0 = .ok (.bipush 9, 2) := by decide +kernel
theorem dX8_s_2 : decode cX8_s 2 = .ok (.bipush 10, 2) := by decide +kernel
theorem dX8_s_4 : decode cX8_s 4 = .ok (.iload_n 0, 1) := by decide +kernel
theorem dX8_s_5 : decode cX8_s 5 = .ok (.imul, 1) := by decide +kernel
theorem dX8_s_6 : decode cX8_s 6 = .ok (.iadd, 1) := by decide +kernel
theorem dX8_s_7 : decode cX8_s 7 = .ok (.ireturn, 1) := by decide +kernel
theorem dX8_b_0 : decode cX8_b 0 = .ok (.bipush 89, 2) := by decide +kernel
theorem dX8_b_2 : decode cX8_b 2 = .ok (.bipush 11, 2) := by decide +kernel
theorem dX8_b_4 : decode cX8_b 4 = .ok (.iload_n 0, 1) := by decide +kernel
theorem dX8_b_5 : decode cX8_b 5 = .ok (.imul, 1) := by decide +kernel
theorem dX8_b_6 : decode cX8_b 6 = .ok (.iadd, 1) := by decide +kernel
theorem dX8_b_7 : decode cX8_b 7 = .ok (.ireturn, 1) := by decide +kernel
theorem dX8_p_0 : decode cX8_p 0 = .ok (.sipush 221, 3) := by decide +kernel
theorem dX8_p_3 : decode cX8_p 3 = .ok (.iconst 4, 1) := by decide +kernel
theorem dX8_p_4 : decode cX8_p 4 = .ok (.iload_n 0, 1) := by decide +kernel
theorem dX8_p_5 : decode cX8_p 5 = .ok (.imul, 1) := by decide +kernel
theorem dX8_p_6 : decode cX8_p 6 = .ok (.iadd, 1) := by decide +kernel
theorem dX8_p_7 : decode cX8_p 7 = .ok (.ireturn, 1) := by decide +kernel
theorem dX8_l_0 : decode cX8_l 0 = .ok (.sipush 261, 3) := by decide +kernel
theorem dX8_l_3 : decode cX8_l 3 = .ok (.iconst 5, 1) := by decide +kernel
theorem dX8_l_4 : decode cX8_l 4 = .ok (.iload_n 0, 1) := by decide +kernel
theorem dX8_l_5 : decode cX8_l 5 = .ok (.imul, 1) := by decide +kernel
theorem dX8_l_6 : decode cX8_l 6 = .ok (.iadd, 1) := by decide +kernel
theorem dX8_l_7 : decode cX8_l 7 = .ok (.ireturn, 1) := by decide +kernel
theorem dX8_isStreet_0 : decode cX8_isStreet 0 = .ok (.iload_n 1, 1) := by decide +kernel
theorem dX8_isStreet_1 : decode cX8_isStreet 1 = .ok (.iconst 0, 1) := by decide +kernel
theorem dX8_isStreet_2 : decode cX8_isStreet 2 = .ok (.aload_n 0, 1) := by decide +kernel
theorem dX8_isStreet_3 : decode cX8_isStreet 3 = .ok (.getfield 13, 3) := by decide +kernel
theorem dX8_isStreet_6 : decode cX8_isStreet 6 = .ok (.iconst 3, 1) := by decide +kernel
theorem dX8_isStreet_7 : decode cX8_isStreet 7 = .ok (.iaload, 1) := by decide +kernel
theorem dX8_isStreet_8 : decode cX8_isStreet 8 = .ok (.iconst 1, 1) := by decide +kernel
theorem dX8_isStreet_9 : decode cX8_isStreet 9 = .ok (.isub, 1) := by decide +kernel
theorem dX8_isStreet_10 : decode cX8_isStreet 10 = .ok (.invokestatic 67, 3) := by decide +kernel
theorem dX8_isStreet_13 : decode cX8_isStreet 13 = .ok (.ireturn, 1) := by decide +kernel
theorem dX8_isBorrower_0 : decode cX8_isBorrower 0 = .ok (.iload_n 1, 1) := by decide +kernel
theorem dX8_isBorrower_1 : decode cX8_isBorrower 1 = .ok (.iconst 0, 1) := by decide +kernel
theorem dX8_isBorrower_2 : decode cX8_isBorrower 2 = .ok (.aload_n 0, 1) := by decide +kernel
theorem dX8_isBorrower_3 : decode cX8_isBorrower 3 = .ok (.getfield 13, 3) := by decide +kernel
theorem dX8_isBorrower_6 : decode cX8_isBorrower 6 = .ok (.iconst 4, 1) := by decide +kernel
theorem dX8_isBorrower_7 : decode cX8_isBorrower 7 = .ok (.iaload, 1) := by decide +kernel
theorem dX8_isBorrower_8 : decode cX8_isBorrower 8 = .ok (.iconst 1, 1) := by decide +kernel
theorem dX8_isBorrower_9 : decode cX8_isBorrower 9 = .ok (.isub, 1) := by decide +kernel
theorem dX8_isBorrower_10 : decode cX8_isBorrower 10 = .ok (.invokestatic 67, 3) := by decide +kernel
theorem dX8_isBorrower_13 : decode cX8_isBorrower 13 = .ok (.ireturn, 1) := by decide +kernel
theorem dX8_isPermit_0 : decode cX8_isPermit 0 = .ok (.iload_n 1, 1) := by decide +kernel
theorem dX8_isPermit_1 : decode cX8_isPermit 1 = .ok (.iconst 0, 1) := by decide +kernel
theorem dX8_isPermit_2 : decode cX8_isPermit 2 = .ok (.aload_n 0, 1) := by decide +kernel
theorem dX8_isPermit_3 : decode cX8_isPermit 3 = .ok (.getfield 13, 3) := by decide +kernel
theorem dX8_isPermit_6 : decode cX8_isPermit 6 = .ok (.iconst 5, 1) := by decide +kernel
theorem dX8_isPermit_7 : decode cX8_isPermit 7 = .ok (.iaload, 1) := by decide +kernel
theorem dX8_isPermit_8 : decode cX8_isPermit 8 = .ok (.iconst 1, 1) := by decide +kernel
theorem dX8_isPermit_9 : decode cX8_isPermit 9 = .ok (.isub, 1) := by decide +kernel
theorem dX8_isPermit_10 : decode cX8_isPermit 10 = .ok (.invokestatic 67, 3) := by decide +kernel
theorem dX8_isPermit_13 : decode cX8_isPermit 13 = .ok (.ireturn, 1) := by decide +kernel
theorem dX8_isLoan_0 : decode cX8_isLoan 0 = .ok (.iload_n 1, 1) := by decide +kernel
theorem dX8_isLoan_1 : decode cX8_isLoan 1 = .ok (.iconst 0, 1) := by decide +kernel
theorem dX8_isLoan_2 : decode cX8_isLoan 2 = .ok (.aload_n 0, 1) := by decide +kernel
theorem dX8_isLoan_3 : decode cX8_isLoan 3 = .ok (.getfield 13, 3) := by decide +kernel
theorem dX8_isLoan_6 : decode cX8_isLoan 6 = .ok (.bipush 6, 2) := by decide +kernel
theorem dX8_isLoan_8 : decode cX8_isLoan 8 = .ok (.iaload, 1) := by decide +kernel
theorem dX8_isLoan_9 : decode cX8_isLoan 9 = .ok (.iconst 1, 1) := by decide +kernel
theorem dX8_isLoan_10 : decode cX8_isLoan 10 = .ok (.isub, 1) := by decide +kernel
theorem dX8_isLoan_11 : decode cX8_isLoan 11 = .ok (.invokestatic 67, 3) := by decide +kernel
theorem dX8_isLoan_14 : decode cX8_isLoan 14 = .ok (.ireturn, 1) := by decide +kernel
theorem dX8_names_0 : decode cX8_names 0 = .ok (.iconst 0, 1) := by decide +kernel
theorem dX8_names_1 : decode cX8_names 1 = .ok (.istore_n 2, 1) := by decide +kernel
theorem dX8_names_2 : decode cX8_names 2 = .ok (.iload_n 2, 1) := by decide +kernel
theorem dX8_names_3 : decode cX8_names 3 = .ok (.bipush 6, 2) := by decide +kernel
theorem dX8_names_5 : decode cX8_names 5 = .ok (.if_icmp .ge 23, 3) := by decide +kernel
theorem dX8_names_8 : decode cX8_names 8 = .ok (.aload_n 0, 1) := by decide +kernel
theorem dX8_names_9 : decode cX8_names 9 = .ok (.getfield 13, 3) := by decide +kernel
theorem dX8_names_12 : decode cX8_names 12 = .ok (.iload_n 1, 1) := by decide +kernel
theorem dX8_names_13 : decode cX8_names 13 = .ok (.iload_n 2, 1) := by decide +kernel
theorem dX8_names_14 : decode cX8_names 14 = .ok (.iadd, 1) := by decide +kernel
theorem dX8_names_15 : decode cX8_names 15 = .ok (.aload_n 0, 1) := by decide +kernel
theorem dX8_names_16 : decode cX8_names 16 = .ok (.getfield 25, 3) := by decide +kernel
theorem dX8_names_19 : decode cX8_names 19 = .ok (.iload_n 2, 1) := by decide +kernel
theorem dX8_names_20 : decode cX8_names 20 = .ok (.iaload, 1) := by decide +kernel
theorem dX8_names_21 : decode cX8_names 21 = .ok (.iastore, 1) := by decide +kernel
theorem dX8_names_22 : decode cX8_names 22 = .ok (.iinc 2 1, 3) := by decide +kernel
theorem dX8_names_25 : decode cX8_names 25 = .ok (.goto (-23), 3) := by decide +kernel
theorem dX8_names_28 : decode cX8_names 28 = .ok (.return_, 1) := by decide +kernel
theorem dX8_isSpelled_0 : decode cX8_isSpelled 0 = .ok (.iconst 0, 1) := by decide +kernel
theorem dX8_isSpelled_1 : decode cX8_isSpelled 1 = .ok (.istore_n 2, 1) := by decide +kernel
theorem dX8_isSpelled_2 : decode cX8_isSpelled 2 = .ok (.iload_n 2, 1) := by decide +kernel
theorem dX8_isSpelled_3 : decode cX8_isSpelled 3 = .ok (.bipush 6, 2) := by decide +kernel
theorem dX8_isSpelled_5 : decode cX8_isSpelled 5 = .ok (.if_icmp .ge 28, 3) := by decide +kernel
theorem dX8_isSpelled_8 : decode cX8_isSpelled 8 = .ok (.aload_n 0, 1) := by decide +kernel
theorem dX8_isSpelled_9 : decode cX8_isSpelled 9 = .ok (.getfield 13, 3) := by decide +kernel
theorem dX8_isSpelled_12 : decode cX8_isSpelled 12 = .ok (.iload_n 1, 1) := by decide +kernel
theorem dX8_isSpelled_13 : decode cX8_isSpelled 13 = .ok (.iload_n 2, 1) := by decide +kernel
theorem dX8_isSpelled_14 : decode cX8_isSpelled 14 = .ok (.iadd, 1) := by decide +kernel
theorem dX8_isSpelled_15 : decode cX8_isSpelled 15 = .ok (.iaload, 1) := by decide +kernel
theorem dX8_isSpelled_16 : decode cX8_isSpelled 16 = .ok (.aload_n 0, 1) := by decide +kernel
theorem dX8_isSpelled_17 : decode cX8_isSpelled 17 = .ok (.getfield 25, 3) := by decide +kernel
theorem dX8_isSpelled_20 : decode cX8_isSpelled 20 = .ok (.iload_n 2, 1) := by decide +kernel
theorem dX8_isSpelled_21 : decode cX8_isSpelled 21 = .ok (.iaload, 1) := by decide +kernel
theorem dX8_isSpelled_22 : decode cX8_isSpelled 22 = .ok (.if_icmp .eq 5, 3) := by decide +kernel
theorem dX8_isSpelled_25 : decode cX8_isSpelled 25 = .ok (.iconst 0, 1) := by decide +kernel
theorem dX8_isSpelled_26 : decode cX8_isSpelled 26 = .ok (.ireturn, 1) := by decide +kernel
theorem dX8_isSpelled_27 : decode cX8_isSpelled 27 = .ok (.iinc 2 1, 3) := by decide +kernel
theorem dX8_isSpelled_30 : decode cX8_isSpelled 30 = .ok (.goto (-28), 3) := by decide +kernel
theorem dX8_isSpelled_33 : decode cX8_isSpelled 33 = .ok (.iconst 1, 1) := by decide +kernel
theorem dX8_isSpelled_34 : decode cX8_isSpelled 34 = .ok (.ireturn, 1) := by decide +kernel
theorem dX8_streetSpelled_0 : decode cX8_streetSpelled 0 = .ok (.iconst 0, 1) := by decide +kernel
theorem dX8_streetSpelled_1 : decode cX8_streetSpelled 1 = .ok (.istore_n 1, 1) := by decide +kernel
theorem dX8_streetSpelled_2 : decode cX8_streetSpelled 2 = .ok (.iload_n 1, 1) := by decide +kernel
theorem dX8_streetSpelled_3 : decode cX8_streetSpelled 3 = .ok (.aload_n 0, 1) := by decide +kernel
theorem dX8_streetSpelled_4 : decode cX8_streetSpelled 4 = .ok (.getfield 13, 3) := by decide +kernel
theorem dX8_streetSpelled_7 : decode cX8_streetSpelled 7 = .ok (.iconst 3, 1) := by decide +kernel
theorem dX8_streetSpelled_8 : decode cX8_streetSpelled 8 = .ok (.iaload, 1) := by decide +kernel
theorem dX8_streetSpelled_9 : decode cX8_streetSpelled 9 = .ok (.if_icmp .ge 24, 3) := by decide +kernel
theorem dX8_streetSpelled_12 : decode cX8_streetSpelled 12 = .ok (.aload_n 0, 1) := by decide +kernel
theorem dX8_streetSpelled_13 : decode cX8_streetSpelled 13 = .ok (.iload_n 1, 1) := by decide +kernel
theorem dX8_streetSpelled_14 : decode cX8_streetSpelled 14 = .ok (.invokestatic 71, 3) := by decide +kernel
theorem dX8_streetSpelled_17 : decode cX8_streetSpelled 17 = .ok (.iconst 4, 1) := by decide +kernel
theorem dX8_streetSpelled_18 : decode cX8_streetSpelled 18 = .ok (.iadd, 1) := by decide +kernel
theorem dX8_streetSpelled_19 : decode cX8_streetSpelled 19 = .ok (.invokevirtual 74, 3) := by decide +kernel
theorem dX8_streetSpelled_22 : decode cX8_streetSpelled 22 = .ok (.ifCond .eq 5, 3) := by decide +kernel
theorem dX8_streetSpelled_25 : decode cX8_streetSpelled 25 = .ok (.iload_n 1, 1) := by decide +kernel
theorem dX8_streetSpelled_26 : decode cX8_streetSpelled 26 = .ok (.ireturn, 1) := by decide +kernel
theorem dX8_streetSpelled_27 : decode cX8_streetSpelled 27 = .ok (.iinc 1 1, 3) := by decide +kernel
theorem dX8_streetSpelled_30 : decode cX8_streetSpelled 30 = .ok (.goto (-28), 3) := by decide +kernel
theorem dX8_streetSpelled_33 : decode cX8_streetSpelled 33 = .ok (.iconst (-1), 1) := by decide +kernel
theorem dX8_streetSpelled_34 : decode cX8_streetSpelled 34 = .ok (.ireturn, 1) := by decide +kernel
theorem dX8_borrowerSpelled_0 : decode cX8_borrowerSpelled 0 = .ok (.iconst 0, 1) := by decide +kernel
theorem dX8_borrowerSpelled_1 : decode cX8_borrowerSpelled 1 = .ok (.istore_n 1, 1) := by decide +kernel
theorem dX8_borrowerSpelled_2 : decode cX8_borrowerSpelled 2 = .ok (.iload_n 1, 1) := by decide +kernel
theorem dX8_borrowerSpelled_3 : decode cX8_borrowerSpelled 3 = .ok (.aload_n 0, 1) := by decide +kernel
theorem dX8_borrowerSpelled_4 : decode cX8_borrowerSpelled 4 = .ok (.getfield 13, 3) := by decide +kernel
theorem dX8_borrowerSpelled_7 : decode cX8_borrowerSpelled 7 = .ok (.iconst 4, 1) := by decide +kernel
theorem dX8_borrowerSpelled_8 : decode cX8_borrowerSpelled 8 = .ok (.iaload, 1) := by decide +kernel
theorem dX8_borrowerSpelled_9 : decode cX8_borrowerSpelled 9 = .ok (.if_icmp .ge 24, 3) := by decide +kernel
theorem dX8_borrowerSpelled_12 : decode cX8_borrowerSpelled 12 = .ok (.aload_n 0, 1) := by decide +kernel
theorem dX8_borrowerSpelled_13 : decode cX8_borrowerSpelled 13 = .ok (.iload_n 1, 1) := by decide +kernel
theorem dX8_borrowerSpelled_14 : decode cX8_borrowerSpelled 14 = .ok (.invokestatic 78, 3) := by decide +kernel
theorem dX8_borrowerSpelled_17 : decode cX8_borrowerSpelled 17 = .ok (.iconst 5, 1) := by decide +kernel
theorem dX8_borrowerSpelled_18 : decode cX8_borrowerSpelled 18 = .ok (.iadd, 1) := by decide +kernel
theorem dX8_borrowerSpelled_19 : decode cX8_borrowerSpelled 19 = .ok (.invokevirtual 74, 3) := by decide +kernel
theorem dX8_borrowerSpelled_22 : decode cX8_borrowerSpelled 22 = .ok (.ifCond .eq 5, 3) := by decide +kernel
theorem dX8_borrowerSpelled_25 : decode cX8_borrowerSpelled 25 = .ok (.iload_n 1, 1) := by decide +kernel
theorem dX8_borrowerSpelled_26 : decode cX8_borrowerSpelled 26 = .ok (.ireturn, 1) := by decide +kernel
theorem dX8_borrowerSpelled_27 : decode cX8_borrowerSpelled 27 = .ok (.iinc 1 1, 3) := by decide +kernel
theorem dX8_borrowerSpelled_30 : decode cX8_borrowerSpelled 30 = .ok (.goto (-28), 3) := by decide +kernel
theorem dX8_borrowerSpelled_33 : decode cX8_borrowerSpelled 33 = .ok (.iconst (-1), 1) := by decide +kernel
theorem dX8_borrowerSpelled_34 : decode cX8_borrowerSpelled 34 = .ok (.ireturn, 1) := by decide +kernel
theorem dX8_builds_0 : decode cX8_builds 0 = .ok (.aload_n 0, 1) := by decide +kernel
theorem dX8_builds_1 : decode cX8_builds 1 = .ok (.getfield 13, 3) := by decide +kernel
theorem dX8_builds_4 : decode cX8_builds 4 = .ok (.iconst 3, 1) := by decide +kernel
theorem dX8_builds_5 : decode cX8_builds 5 = .ok (.iaload, 1) := by decide +kernel
theorem dX8_builds_6 : decode cX8_builds 6 = .ok (.invokestatic 71, 3) := by decide +kernel
theorem dX8_builds_9 : decode cX8_builds 9 = .ok (.istore_n 3, 1) := by decide +kernel
theorem dX8_builds_10 : decode cX8_builds 10 = .ok (.aload_n 0, 1) := by decide +kernel
theorem dX8_builds_11 : decode cX8_builds 11 = .ok (.getfield 13, 3) := by decide +kernel
theorem dX8_builds_14 : decode cX8_builds 14 = .ok (.iload_n 3, 1) := by decide +kernel
theorem dX8_builds_15 : decode cX8_builds 15 = .ok (.iconst 0, 1) := by decide +kernel
theorem dX8_builds_16 : decode cX8_builds 16 = .ok (.iadd, 1) := by decide +kernel
theorem dX8_builds_17 : decode cX8_builds 17 = .ok (.iload_n 1, 1) := by decide +kernel
theorem dX8_builds_18 : decode cX8_builds 18 = .ok (.iastore, 1) := by decide +kernel
theorem dX8_builds_19 : decode cX8_builds 19 = .ok (.aload_n 0, 1) := by decide +kernel
theorem dX8_builds_20 : decode cX8_builds 20 = .ok (.getfield 13, 3) := by decide +kernel
theorem dX8_builds_23 : decode cX8_builds 23 = .ok (.iload_n 3, 1) := by decide +kernel
theorem dX8_builds_24 : decode cX8_builds 24 = .ok (.iconst 1, 1) := by decide +kernel
theorem dX8_builds_25 : decode cX8_builds 25 = .ok (.iadd, 1) := by decide +kernel
theorem dX8_builds_26 : decode cX8_builds 26 = .ok (.iload_n 2, 1) := by decide +kernel
theorem dX8_builds_27 : decode cX8_builds 27 = .ok (.iastore, 1) := by decide +kernel
theorem dX8_builds_28 : decode cX8_builds 28 = .ok (.aload_n 0, 1) := by decide +kernel
theorem dX8_builds_29 : decode cX8_builds 29 = .ok (.getfield 13, 3) := by decide +kernel
theorem dX8_builds_32 : decode cX8_builds 32 = .ok (.iload_n 3, 1) := by decide +kernel
theorem dX8_builds_33 : decode cX8_builds 33 = .ok (.iconst 2, 1) := by decide +kernel
theorem dX8_builds_34 : decode cX8_builds 34 = .ok (.iadd, 1) := by decide +kernel
theorem dX8_builds_35 : decode cX8_builds 35 = .ok (.iconst 0, 1) := by decide +kernel
theorem dX8_builds_36 : decode cX8_builds 36 = .ok (.iastore, 1) := by decide +kernel
theorem dX8_builds_37 : decode cX8_builds 37 = .ok (.aload_n 0, 1) := by decide +kernel
theorem dX8_builds_38 : decode cX8_builds 38 = .ok (.getfield 13, 3) := by decide +kernel
theorem dX8_builds_41 : decode cX8_builds 41 = .ok (.iload_n 3, 1) := by decide +kernel
theorem dX8_builds_42 : decode cX8_builds 42 = .ok (.iconst 3, 1) := by decide +kernel
theorem dX8_builds_43 : decode cX8_builds 43 = .ok (.iadd, 1) := by decide +kernel
theorem dX8_builds_44 : decode cX8_builds 44 = .ok (.iconst 0, 1) := by decide +kernel
theorem dX8_builds_45 : decode cX8_builds 45 = .ok (.iastore, 1) := by decide +kernel
theorem dX8_builds_46 : decode cX8_builds 46 = .ok (.aload_n 0, 1) := by decide +kernel
theorem dX8_builds_47 : decode cX8_builds 47 = .ok (.iload_n 3, 1) := by decide +kernel
theorem dX8_builds_48 : decode cX8_builds 48 = .ok (.iconst 4, 1) := by decide +kernel
theorem dX8_builds_49 : decode cX8_builds 49 = .ok (.iadd, 1) := by decide +kernel
theorem dX8_builds_50 : decode cX8_builds 50 = .ok (.invokevirtual 81, 3) := by decide +kernel
theorem dX8_builds_53 : decode cX8_builds 53 = .ok (.aload_n 0, 1) := by decide +kernel
theorem dX8_builds_54 : decode cX8_builds 54 = .ok (.getfield 13, 3) := by decide +kernel
theorem dX8_builds_57 : decode cX8_builds 57 = .ok (.iconst 3, 1) := by decide +kernel
theorem dX8_builds_58 : decode cX8_builds 58 = .ok (.dup2, 1) := by decide +kernel
theorem dX8_builds_59 : decode cX8_builds 59 = .ok (.iaload, 1) := by decide +kernel
theorem dX8_builds_60 : decode cX8_builds 60 = .ok (.iconst 1, 1) := by decide +kernel
theorem dX8_builds_61 : decode cX8_builds 61 = .ok (.iadd, 1) := by decide +kernel
theorem dX8_builds_62 : decode cX8_builds 62 = .ok (.iastore, 1) := by decide +kernel
theorem dX8_builds_63 : decode cX8_builds 63 = .ok (.return_, 1) := by decide +kernel
theorem dX8_comes_0 : decode cX8_comes 0 = .ok (.aload_n 0, 1) := by decide +kernel
theorem dX8_comes_1 : decode cX8_comes 1 = .ok (.getfield 13, 3) := by decide +kernel
theorem dX8_comes_4 : decode cX8_comes 4 = .ok (.iconst 4, 1) := by decide +kernel
theorem dX8_comes_5 : decode cX8_comes 5 = .ok (.iaload, 1) := by decide +kernel
theorem dX8_comes_6 : decode cX8_comes 6 = .ok (.invokestatic 78, 3) := by decide +kernel
theorem dX8_comes_9 : decode cX8_comes 9 = .ok (.istore 4, 2) := by decide +kernel
theorem dX8_comes_11 : decode cX8_comes 11 = .ok (.aload_n 0, 1) := by decide +kernel
theorem dX8_comes_12 : decode cX8_comes 12 = .ok (.getfield 13, 3) := by decide +kernel
theorem dX8_comes_15 : decode cX8_comes 15 = .ok (.iload 4, 2) := by decide +kernel
theorem dX8_comes_17 : decode cX8_comes 17 = .ok (.iconst 0, 1) := by decide +kernel
theorem dX8_comes_18 : decode cX8_comes 18 = .ok (.iadd, 1) := by decide +kernel
theorem dX8_comes_19 : decode cX8_comes 19 = .ok (.iload_n 1, 1) := by decide +kernel
theorem dX8_comes_20 : decode cX8_comes 20 = .ok (.iastore, 1) := by decide +kernel
theorem dX8_comes_21 : decode cX8_comes 21 = .ok (.aload_n 0, 1) := by decide +kernel
theorem dX8_comes_22 : decode cX8_comes 22 = .ok (.getfield 13, 3) := by decide +kernel
theorem dX8_comes_25 : decode cX8_comes 25 = .ok (.iload 4, 2) := by decide +kernel
theorem dX8_comes_27 : decode cX8_comes 27 = .ok (.iconst 1, 1) := by decide +kernel
theorem dX8_comes_28 : decode cX8_comes 28 = .ok (.iadd, 1) := by decide +kernel
theorem dX8_comes_29 : decode cX8_comes 29 = .ok (.iload_n 2, 1) := by decide +kernel
theorem dX8_comes_30 : decode cX8_comes 30 = .ok (.iastore, 1) := by decide +kernel
theorem dX8_comes_31 : decode cX8_comes 31 = .ok (.aload_n 0, 1) := by decide +kernel
theorem dX8_comes_32 : decode cX8_comes 32 = .ok (.getfield 13, 3) := by decide +kernel
theorem dX8_comes_35 : decode cX8_comes 35 = .ok (.iload 4, 2) := by decide +kernel
theorem dX8_comes_37 : decode cX8_comes 37 = .ok (.iconst 2, 1) := by decide +kernel
theorem dX8_comes_38 : decode cX8_comes 38 = .ok (.iadd, 1) := by decide +kernel
theorem dX8_comes_39 : decode cX8_comes 39 = .ok (.iload_n 3, 1) := by decide +kernel
theorem dX8_comes_40 : decode cX8_comes 40 = .ok (.iastore, 1) := by decide +kernel
theorem dX8_comes_41 : decode cX8_comes 41 = .ok (.aload_n 0, 1) := by decide +kernel
theorem dX8_comes_42 : decode cX8_comes 42 = .ok (.getfield 13, 3) := by decide +kernel
theorem dX8_comes_45 : decode cX8_comes 45 = .ok (.iload 4, 2) := by decide +kernel
theorem dX8_comes_47 : decode cX8_comes 47 = .ok (.iconst 3, 1) := by decide +kernel
theorem dX8_comes_48 : decode cX8_comes 48 = .ok (.iadd, 1) := by decide +kernel
theorem dX8_comes_49 : decode cX8_comes 49 = .ok (.iconst 0, 1) := by decide +kernel
theorem dX8_comes_50 : decode cX8_comes 50 = .ok (.iastore, 1) := by decide +kernel
theorem dX8_comes_51 : decode cX8_comes 51 = .ok (.aload_n 0, 1) := by decide +kernel
theorem dX8_comes_52 : decode cX8_comes 52 = .ok (.getfield 13, 3) := by decide +kernel
theorem dX8_comes_55 : decode cX8_comes 55 = .ok (.iload 4, 2) := by decide +kernel
theorem dX8_comes_57 : decode cX8_comes 57 = .ok (.iconst 4, 1) := by decide +kernel
theorem dX8_comes_58 : decode cX8_comes 58 = .ok (.iadd, 1) := by decide +kernel
theorem dX8_comes_59 : decode cX8_comes 59 = .ok (.iconst 0, 1) := by decide +kernel
theorem dX8_comes_60 : decode cX8_comes 60 = .ok (.iastore, 1) := by decide +kernel
theorem dX8_comes_61 : decode cX8_comes 61 = .ok (.aload_n 0, 1) := by decide +kernel
theorem dX8_comes_62 : decode cX8_comes 62 = .ok (.iload 4, 2) := by decide +kernel
theorem dX8_comes_64 : decode cX8_comes 64 = .ok (.iconst 5, 1) := by decide +kernel
theorem dX8_comes_65 : decode cX8_comes 65 = .ok (.iadd, 1) := by decide +kernel
theorem dX8_comes_66 : decode cX8_comes 66 = .ok (.invokevirtual 81, 3) := by decide +kernel
theorem dX8_comes_69 : decode cX8_comes 69 = .ok (.aload_n 0, 1) := by decide +kernel
theorem dX8_comes_70 : decode cX8_comes 70 = .ok (.getfield 13, 3) := by decide +kernel
theorem dX8_comes_73 : decode cX8_comes 73 = .ok (.bipush 7, 2) := by decide +kernel
theorem dX8_comes_75 : decode cX8_comes 75 = .ok (.dup2, 1) := by decide +kernel
theorem dX8_comes_76 : decode cX8_comes 76 = .ok (.iaload, 1) := by decide +kernel
theorem dX8_comes_77 : decode cX8_comes 77 = .ok (.iload_n 3, 1) := by decide +kernel
theorem dX8_comes_78 : decode cX8_comes 78 = .ok (.iadd, 1) := by decide +kernel
theorem dX8_comes_79 : decode cX8_comes 79 = .ok (.iastore, 1) := by decide +kernel
theorem dX8_comes_80 : decode cX8_comes 80 = .ok (.aload_n 0, 1) := by decide +kernel
theorem dX8_comes_81 : decode cX8_comes 81 = .ok (.getfield 13, 3) := by decide +kernel
theorem dX8_comes_84 : decode cX8_comes 84 = .ok (.iconst 4, 1) := by decide +kernel
theorem dX8_comes_85 : decode cX8_comes 85 = .ok (.dup2, 1) := by decide +kernel
theorem dX8_comes_86 : decode cX8_comes 86 = .ok (.iaload, 1) := by decide +kernel
theorem dX8_comes_87 : decode cX8_comes 87 = .ok (.iconst 1, 1) := by decide +kernel
theorem dX8_comes_88 : decode cX8_comes 88 = .ok (.iadd, 1) := by decide +kernel
theorem dX8_comes_89 : decode cX8_comes 89 = .ok (.iastore, 1) := by decide +kernel
theorem dX8_comes_90 : decode cX8_comes 90 = .ok (.return_, 1) := by decide +kernel
theorem dX8_isNightHour_0 : decode cX8_isNightHour 0 = .ok (.iload_n 0, 1) := by decide +kernel
theorem dX8_isNightHour_1 : decode cX8_isNightHour 1 = .ok (.bipush 24, 2) := by decide +kernel
theorem dX8_isNightHour_3 : decode cX8_isNightHour 3 = .ok (.irem, 1) := by decide +kernel
theorem dX8_isNightHour_4 : decode cX8_isNightHour 4 = .ok (.istore_n 1, 1) := by decide +kernel
theorem dX8_isNightHour_5 : decode cX8_isNightHour 5 = .ok (.iload_n 1, 1) := by decide +kernel
theorem dX8_isNightHour_6 : decode cX8_isNightHour 6 = .ok (.bipush 6, 2) := by decide +kernel
theorem dX8_isNightHour_8 : decode cX8_isNightHour 8 = .ok (.if_icmp .lt 9, 3) := by decide +kernel
theorem dX8_isNightHour_11 : decode cX8_isNightHour 11 = .ok (.iload_n 1, 1) := by decide +kernel
theorem dX8_isNightHour_12 : decode cX8_isNightHour 12 = .ok (.bipush 22, 2) := by decide +kernel
theorem dX8_isNightHour_14 : decode cX8_isNightHour 14 = .ok (.if_icmp .lt 7, 3) := by decide +kernel
theorem dX8_isNightHour_17 : decode cX8_isNightHour 17 = .ok (.iconst 1, 1) := by decide +kernel
theorem dX8_isNightHour_18 : decode cX8_isNightHour 18 = .ok (.goto 4, 3) := by decide +kernel
theorem dX8_isNightHour_21 : decode cX8_isNightHour 21 = .ok (.iconst 0, 1) := by decide +kernel
theorem dX8_isNightHour_22 : decode cX8_isNightHour 22 = .ok (.ireturn, 1) := by decide +kernel
theorem dX8_inHorizon_0 : decode cX8_inHorizon 0 = .ok (.iload_n 1, 1) := by decide +kernel
theorem dX8_inHorizon_1 : decode cX8_inHorizon 1 = .ok (.aload_n 0, 1) := by decide +kernel
theorem dX8_inHorizon_2 : decode cX8_inHorizon 2 = .ok (.getfield 13, 3) := by decide +kernel
theorem dX8_inHorizon_5 : decode cX8_inHorizon 5 = .ok (.iconst 2, 1) := by decide +kernel
theorem dX8_inHorizon_6 : decode cX8_inHorizon 6 = .ok (.iaload, 1) := by decide +kernel
theorem dX8_inHorizon_7 : decode cX8_inHorizon 7 = .ok (.if_icmp .lt 20, 3) := by decide +kernel
theorem dX8_inHorizon_10 : decode cX8_inHorizon 10 = .ok (.iload_n 1, 1) := by decide +kernel
theorem dX8_inHorizon_11 : decode cX8_inHorizon 11 = .ok (.aload_n 0, 1) := by decide +kernel
theorem dX8_inHorizon_12 : decode cX8_inHorizon 12 = .ok (.getfield 13, 3) := by decide +kernel
theorem dX8_inHorizon_15 : decode cX8_inHorizon 15 = .ok (.iconst 2, 1) := by decide +kernel
theorem dX8_inHorizon_16 : decode cX8_inHorizon 16 = .ok (.iaload, 1) := by decide +kernel
theorem dX8_inHorizon_17 : decode cX8_inHorizon 17 = .ok (.bipush 48, 2) := by decide +kernel
theorem dX8_inHorizon_19 : decode cX8_inHorizon 19 = .ok (.iadd, 1) := by decide +kernel
theorem dX8_inHorizon_20 : decode cX8_inHorizon 20 = .ok (.if_icmp .ge 7, 3) := by decide +kernel
theorem dX8_inHorizon_23 : decode cX8_inHorizon 23 = .ok (.iconst 1, 1) := by decide +kernel
theorem dX8_inHorizon_24 : decode cX8_inHorizon 24 = .ok (.goto 4, 3) := by decide +kernel
theorem dX8_inHorizon_27 : decode cX8_inHorizon 27 = .ok (.iconst 0, 1) := by decide +kernel
theorem dX8_inHorizon_28 : decode cX8_inHorizon 28 = .ok (.ireturn, 1) := by decide +kernel
theorem dX8_areHours_0 : decode cX8_areHours 0 = .ok (.iload_n 2, 1) := by decide +kernel
theorem dX8_areHours_1 : decode cX8_areHours 1 = .ok (.iconst 1, 1) := by decide +kernel
theorem dX8_areHours_2 : decode cX8_areHours 2 = .ok (.iload_n 3, 1) := by decide +kernel
theorem dX8_areHours_3 : decode cX8_areHours 3 = .ok (.invokestatic 67, 3) := by decide +kernel
theorem dX8_areHours_6 : decode cX8_areHours 6 = .ok (.ifCond .eq 27, 3) := by decide +kernel
theorem dX8_areHours_9 : decode cX8_areHours 9 = .ok (.aload_n 0, 1) := by decide +kernel
theorem dX8_areHours_10 : decode cX8_areHours 10 = .ok (.iload_n 1, 1) := by decide +kernel
theorem dX8_areHours_11 : decode cX8_areHours 11 = .ok (.invokevirtual 84, 3) := by decide +kernel
theorem dX8_areHours_14 : decode cX8_areHours 14 = .ok (.ifCond .eq 19, 3) := by decide +kernel
theorem dX8_areHours_17 : decode cX8_areHours 17 = .ok (.aload_n 0, 1) := by decide +kernel
theorem dX8_areHours_18 : decode cX8_areHours 18 = .ok (.iload_n 1, 1) := by decide +kernel
theorem dX8_areHours_19 : decode cX8_areHours 19 = .ok (.iload_n 2, 1) := by decide +kernel
theorem dX8_areHours_20 : decode cX8_areHours 20 = .ok (.iadd, 1) := by decide +kernel
theorem dX8_areHours_21 : decode cX8_areHours 21 = .ok (.iconst 1, 1) := by decide +kernel
theorem dX8_areHours_22 : decode cX8_areHours 22 = .ok (.isub, 1) := by decide +kernel
theorem dX8_areHours_23 : decode cX8_areHours 23 = .ok (.invokevirtual 84, 3) := by decide +kernel
theorem dX8_areHours_26 : decode cX8_areHours 26 = .ok (.ifCond .eq 7, 3) := by decide +kernel
theorem dX8_areHours_29 : decode cX8_areHours 29 = .ok (.iconst 1, 1) := by decide +kernel
theorem dX8_areHours_30 : decode cX8_areHours 30 = .ok (.goto 4, 3) := by decide +kernel
theorem dX8_areHours_33 : decode cX8_areHours 33 = .ok (.iconst 0, 1) := by decide +kernel
theorem dX8_areHours_34 : decode cX8_areHours 34 = .ok (.ireturn, 1) := by decide +kernel
theorem dX8_covers_0 : decode cX8_covers 0 = .ok (.iload_n 1, 1) := by decide +kernel
theorem dX8_covers_1 : decode cX8_covers 1 = .ok (.invokestatic 87, 3) := by decide +kernel
theorem dX8_covers_4 : decode cX8_covers 4 = .ok (.istore 4, 2) := by decide +kernel
theorem dX8_covers_6 : decode cX8_covers 6 = .ok (.aload_n 0, 1) := by decide +kernel
theorem dX8_covers_7 : decode cX8_covers 7 = .ok (.getfield 13, 3) := by decide +kernel
theorem dX8_covers_10 : decode cX8_covers 10 = .ok (.iload 4, 2) := by decide +kernel
theorem dX8_covers_12 : decode cX8_covers 12 = .ok (.iconst 0, 1) := by decide +kernel
theorem dX8_covers_13 : decode cX8_covers 13 = .ok (.iadd, 1) := by decide +kernel
theorem dX8_covers_14 : decode cX8_covers 14 = .ok (.iaload, 1) := by decide +kernel
theorem dX8_covers_15 : decode cX8_covers 15 = .ok (.iload_n 2, 1) := by decide +kernel
theorem dX8_covers_16 : decode cX8_covers 16 = .ok (.if_icmp .ne 19, 3) := by decide +kernel
theorem dX8_covers_19 : decode cX8_covers 19 = .ok (.aload_n 0, 1) := by decide +kernel
theorem dX8_covers_20 : decode cX8_covers 20 = .ok (.getfield 13, 3) := by decide +kernel
theorem dX8_covers_23 : decode cX8_covers 23 = .ok (.iload 4, 2) := by decide +kernel
theorem dX8_covers_25 : decode cX8_covers 25 = .ok (.iconst 3, 1) := by decide +kernel
theorem dX8_covers_26 : decode cX8_covers 26 = .ok (.iadd, 1) := by decide +kernel
theorem dX8_covers_27 : decode cX8_covers 27 = .ok (.iaload, 1) := by decide +kernel
theorem dX8_covers_28 : decode cX8_covers 28 = .ok (.ifCond .ne 7, 3) := by decide +kernel
theorem dX8_covers_31 : decode cX8_covers 31 = .ok (.iconst 1, 1) := by decide +kernel
theorem dX8_covers_32 : decode cX8_covers 32 = .ok (.goto 4, 3) := by decide +kernel
theorem dX8_covers_35 : decode cX8_covers 35 = .ok (.iconst 0, 1) := by decide +kernel
theorem dX8_covers_36 : decode cX8_covers 36 = .ok (.istore 5, 2) := by decide +kernel
theorem dX8_covers_38 : decode cX8_covers 38 = .ok (.iload 5, 2) := by decide +kernel
theorem dX8_covers_40 : decode cX8_covers 40 = .ok (.ifCond .eq 43, 3) := by decide +kernel
theorem dX8_covers_43 : decode cX8_covers 43 = .ok (.iload_n 3, 1) := by decide +kernel
theorem dX8_covers_44 : decode cX8_covers 44 = .ok (.aload_n 0, 1) := by decide +kernel
theorem dX8_covers_45 : decode cX8_covers 45 = .ok (.getfield 13, 3) := by decide +kernel
theorem dX8_covers_48 : decode cX8_covers 48 = .ok (.iload 4, 2) := by decide +kernel
theorem dX8_covers_50 : decode cX8_covers 50 = .ok (.iconst 1, 1) := by decide +kernel
theorem dX8_covers_51 : decode cX8_covers 51 = .ok (.iadd, 1) := by decide +kernel
theorem dX8_covers_52 : decode cX8_covers 52 = .ok (.iaload, 1) := by decide +kernel
theorem dX8_covers_53 : decode cX8_covers 53 = .ok (.if_icmp .lt 30, 3) := by decide +kernel
theorem dX8_covers_56 : decode cX8_covers 56 = .ok (.iload_n 3, 1) := by decide +kernel
theorem dX8_covers_57 : decode cX8_covers 57 = .ok (.aload_n 0, 1) := by decide +kernel
theorem dX8_covers_58 : decode cX8_covers 58 = .ok (.getfield 13, 3) := by decide +kernel
theorem dX8_covers_61 : decode cX8_covers 61 = .ok (.iload 4, 2) := by decide +kernel
theorem dX8_covers_63 : decode cX8_covers 63 = .ok (.iconst 1, 1) := by decide +kernel
theorem dX8_covers_64 : decode cX8_covers 64 = .ok (.iadd, 1) := by decide +kernel
theorem dX8_covers_65 : decode cX8_covers 65 = .ok (.iaload, 1) := by decide +kernel
theorem dX8_covers_66 : decode cX8_covers 66 = .ok (.aload_n 0, 1) := by decide +kernel
theorem dX8_covers_67 : decode cX8_covers 67 = .ok (.getfield 13, 3) := by decide +kernel
theorem dX8_covers_70 : decode cX8_covers 70 = .ok (.iload 4, 2) := by decide +kernel
theorem dX8_covers_72 : decode cX8_covers 72 = .ok (.iconst 2, 1) := by decide +kernel
theorem dX8_covers_73 : decode cX8_covers 73 = .ok (.iadd, 1) := by decide +kernel
theorem dX8_covers_74 : decode cX8_covers 74 = .ok (.iaload, 1) := by decide +kernel
theorem dX8_covers_75 : decode cX8_covers 75 = .ok (.iadd, 1) := by decide +kernel
theorem dX8_covers_76 : decode cX8_covers 76 = .ok (.if_icmp .ge 7, 3) := by decide +kernel
theorem dX8_covers_79 : decode cX8_covers 79 = .ok (.iconst 1, 1) := by decide +kernel
theorem dX8_covers_80 : decode cX8_covers 80 = .ok (.goto 4, 3) := by decide +kernel
theorem dX8_covers_83 : decode cX8_covers 83 = .ok (.iconst 0, 1) := by decide +kernel
theorem dX8_covers_84 : decode cX8_covers 84 = .ok (.ireturn, 1) := by decide +kernel
theorem dX8_permitAt_0 : decode cX8_permitAt 0 = .ok (.iconst 0, 1) := by decide +kernel
theorem dX8_permitAt_1 : decode cX8_permitAt 1 = .ok (.istore_n 3, 1) := by decide +kernel
theorem dX8_permitAt_2 : decode cX8_permitAt 2 = .ok (.iload_n 3, 1) := by decide +kernel
theorem dX8_permitAt_3 : decode cX8_permitAt 3 = .ok (.aload_n 0, 1) := by decide +kernel
theorem dX8_permitAt_4 : decode cX8_permitAt 4 = .ok (.getfield 13, 3) := by decide +kernel
theorem dX8_permitAt_7 : decode cX8_permitAt 7 = .ok (.iconst 5, 1) := by decide +kernel
theorem dX8_permitAt_8 : decode cX8_permitAt 8 = .ok (.iaload, 1) := by decide +kernel
theorem dX8_permitAt_9 : decode cX8_permitAt 9 = .ok (.if_icmp .ge 21, 3) := by decide +kernel
theorem dX8_permitAt_12 : decode cX8_permitAt 12 = .ok (.aload_n 0, 1) := by decide +kernel
theorem dX8_permitAt_13 : decode cX8_permitAt 13 = .ok (.iload_n 3, 1) := by decide +kernel
theorem dX8_permitAt_14 : decode cX8_permitAt 14 = .ok (.iload_n 1, 1) := by decide +kernel
theorem dX8_permitAt_15 : decode cX8_permitAt 15 = .ok (.iload_n 2, 1) := by decide +kernel
theorem dX8_permitAt_16 : decode cX8_permitAt 16 = .ok (.invokevirtual 90, 3) := by decide +kernel
theorem dX8_permitAt_19 : decode cX8_permitAt 19 = .ok (.ifCond .eq 5, 3) := by decide +kernel
theorem dX8_permitAt_22 : decode cX8_permitAt 22 = .ok (.iload_n 3, 1) := by decide +kernel
theorem dX8_permitAt_23 : decode cX8_permitAt 23 = .ok (.ireturn, 1) := by decide +kernel
theorem dX8_permitAt_24 : decode cX8_permitAt 24 = .ok (.iinc 3 1, 3) := by decide +kernel
theorem dX8_permitAt_27 : decode cX8_permitAt 27 = .ok (.goto (-25), 3) := by decide +kernel
theorem dX8_permitAt_30 : decode cX8_permitAt 30 = .ok (.iconst (-1), 1) := by decide +kernel
theorem dX8_permitAt_31 : decode cX8_permitAt 31 = .ok (.ireturn, 1) := by decide +kernel
theorem dX8_endOf_0 : decode cX8_endOf 0 = .ok (.aload_n 0, 1) := by decide +kernel
theorem dX8_endOf_1 : decode cX8_endOf 1 = .ok (.getfield 13, 3) := by decide +kernel
theorem dX8_endOf_4 : decode cX8_endOf 4 = .ok (.iload_n 1, 1) := by decide +kernel
theorem dX8_endOf_5 : decode cX8_endOf 5 = .ok (.invokestatic 93, 3) := by decide +kernel
theorem dX8_endOf_8 : decode cX8_endOf 8 = .ok (.iconst 1, 1) := by decide +kernel
theorem dX8_endOf_9 : decode cX8_endOf 9 = .ok (.iadd, 1) := by decide +kernel
theorem dX8_endOf_10 : decode cX8_endOf 10 = .ok (.iaload, 1) := by decide +kernel
theorem dX8_endOf_11 : decode cX8_endOf 11 = .ok (.aload_n 0, 1) := by decide +kernel
theorem dX8_endOf_12 : decode cX8_endOf 12 = .ok (.getfield 13, 3) := by decide +kernel
theorem dX8_endOf_15 : decode cX8_endOf 15 = .ok (.iload_n 1, 1) := by decide +kernel
theorem dX8_endOf_16 : decode cX8_endOf 16 = .ok (.invokestatic 93, 3) := by decide +kernel
theorem dX8_endOf_19 : decode cX8_endOf 19 = .ok (.iconst 2, 1) := by decide +kernel
theorem dX8_endOf_20 : decode cX8_endOf 20 = .ok (.iadd, 1) := by decide +kernel
theorem dX8_endOf_21 : decode cX8_endOf 21 = .ok (.iaload, 1) := by decide +kernel
theorem dX8_endOf_22 : decode cX8_endOf 22 = .ok (.iadd, 1) := by decide +kernel
theorem dX8_endOf_23 : decode cX8_endOf 23 = .ok (.ireturn, 1) := by decide +kernel
theorem dX8_isLive_0 : decode cX8_isLive 0 = .ok (.aload_n 0, 1) := by decide +kernel
theorem dX8_isLive_1 : decode cX8_isLive 1 = .ok (.getfield 13, 3) := by decide +kernel
theorem dX8_isLive_4 : decode cX8_isLive 4 = .ok (.iload_n 1, 1) := by decide +kernel
theorem dX8_isLive_5 : decode cX8_isLive 5 = .ok (.invokestatic 93, 3) := by decide +kernel
theorem dX8_isLive_8 : decode cX8_isLive 8 = .ok (.iconst 4, 1) := by decide +kernel
theorem dX8_isLive_9 : decode cX8_isLive 9 = .ok (.iadd, 1) := by decide +kernel
theorem dX8_isLive_10 : decode cX8_isLive 10 = .ok (.iaload, 1) := by decide +kernel
theorem dX8_isLive_11 : decode cX8_isLive 11 = .ok (.iconst 1, 1) := by decide +kernel
theorem dX8_isLive_12 : decode cX8_isLive 12 = .ok (.if_icmp .gt 7, 3) := by decide +kernel
theorem dX8_isLive_15 : decode cX8_isLive 15 = .ok (.iconst 1, 1) := by decide +kernel
theorem dX8_isLive_16 : decode cX8_isLive 16 = .ok (.goto 4, 3) := by decide +kernel
theorem dX8_isLive_19 : decode cX8_isLive 19 = .ok (.iconst 0, 1) := by decide +kernel
theorem dX8_isLive_20 : decode cX8_isLive 20 = .ok (.ireturn, 1) := by decide +kernel
theorem dX8_holds_0 : decode cX8_holds 0 = .ok (.aload_n 0, 1) := by decide +kernel
theorem dX8_holds_1 : decode cX8_holds 1 = .ok (.iload_n 1, 1) := by decide +kernel
theorem dX8_holds_2 : decode cX8_holds 2 = .ok (.invokevirtual 96, 3) := by decide +kernel
theorem dX8_holds_5 : decode cX8_holds 5 = .ok (.ifCond .eq 31, 3) := by decide +kernel
theorem dX8_holds_8 : decode cX8_holds 8 = .ok (.iload_n 2, 1) := by decide +kernel
theorem dX8_holds_9 : decode cX8_holds 9 = .ok (.aload_n 0, 1) := by decide +kernel
theorem dX8_holds_10 : decode cX8_holds 10 = .ok (.getfield 13, 3) := by decide +kernel
theorem dX8_holds_13 : decode cX8_holds 13 = .ok (.iload_n 1, 1) := by decide +kernel
theorem dX8_holds_14 : decode cX8_holds 14 = .ok (.invokestatic 93, 3) := by decide +kernel
theorem dX8_holds_17 : decode cX8_holds 17 = .ok (.iconst 1, 1) := by decide +kernel
theorem dX8_holds_18 : decode cX8_holds 18 = .ok (.iadd, 1) := by decide +kernel
theorem dX8_holds_19 : decode cX8_holds 19 = .ok (.iaload, 1) := by decide +kernel
theorem dX8_holds_20 : decode cX8_holds 20 = .ok (.if_icmp .lt 16, 3) := by decide +kernel
theorem dX8_holds_23 : decode cX8_holds 23 = .ok (.iload_n 2, 1) := by decide +kernel
theorem dX8_holds_24 : decode cX8_holds 24 = .ok (.aload_n 0, 1) := by decide +kernel
theorem dX8_holds_25 : decode cX8_holds 25 = .ok (.iload_n 1, 1) := by decide +kernel
theorem dX8_holds_26 : decode cX8_holds 26 = .ok (.invokevirtual 99, 3) := by decide +kernel
theorem dX8_holds_29 : decode cX8_holds 29 = .ok (.if_icmp .ge 7, 3) := by decide +kernel
theorem dX8_holds_32 : decode cX8_holds 32 = .ok (.iconst 1, 1) := by decide +kernel
theorem dX8_holds_33 : decode cX8_holds 33 = .ok (.goto 4, 3) := by decide +kernel
theorem dX8_holds_36 : decode cX8_holds 36 = .ok (.iconst 0, 1) := by decide +kernel
theorem dX8_holds_37 : decode cX8_holds 37 = .ok (.ireturn, 1) := by decide +kernel
theorem dX8_holderAt_0 : decode cX8_holderAt 0 = .ok (.iconst 0, 1) := by decide +kernel
theorem dX8_holderAt_1 : decode cX8_holderAt 1 = .ok (.istore_n 2, 1) := by decide +kernel
theorem dX8_holderAt_2 : decode cX8_holderAt 2 = .ok (.iload_n 2, 1) := by decide +kernel
theorem dX8_holderAt_3 : decode cX8_holderAt 3 = .ok (.aload_n 0, 1) := by decide +kernel
theorem dX8_holderAt_4 : decode cX8_holderAt 4 = .ok (.getfield 13, 3) := by decide +kernel
theorem dX8_holderAt_7 : decode cX8_holderAt 7 = .ok (.bipush 6, 2) := by decide +kernel
theorem dX8_holderAt_9 : decode cX8_holderAt 9 = .ok (.iaload, 1) := by decide +kernel
theorem dX8_holderAt_10 : decode cX8_holderAt 10 = .ok (.if_icmp .ge 20, 3) := by decide +kernel
theorem dX8_holderAt_13 : decode cX8_holderAt 13 = .ok (.aload_n 0, 1) := by decide +kernel
theorem dX8_holderAt_14 : decode cX8_holderAt 14 = .ok (.iload_n 2, 1) := by decide +kernel
theorem dX8_holderAt_15 : decode cX8_holderAt 15 = .ok (.iload_n 1, 1) := by decide +kernel
theorem dX8_holderAt_16 : decode cX8_holderAt 16 = .ok (.invokevirtual 102, 3) := by decide +kernel
theorem dX8_holderAt_19 : decode cX8_holderAt 19 = .ok (.ifCond .eq 5, 3) := by decide +kernel
theorem dX8_holderAt_22 : decode cX8_holderAt 22 = .ok (.iload_n 2, 1) := by decide +kernel
theorem dX8_holderAt_23 : decode cX8_holderAt 23 = .ok (.ireturn, 1) := by decide +kernel
theorem dX8_holderAt_24 : decode cX8_holderAt 24 = .ok (.iinc 2 1, 3) := by decide +kernel
theorem dX8_holderAt_27 : decode cX8_holderAt 27 = .ok (.goto (-25), 3) := by decide +kernel
theorem dX8_holderAt_30 : decode cX8_holderAt 30 = .ok (.iconst (-1), 1) := by decide +kernel
theorem dX8_holderAt_31 : decode cX8_holderAt 31 = .ok (.ireturn, 1) := by decide +kernel
theorem dX8_homeOf_0 : decode cX8_homeOf 0 = .ok (.aload_n 0, 1) := by decide +kernel
theorem dX8_homeOf_1 : decode cX8_homeOf 1 = .ok (.getfield 13, 3) := by decide +kernel
theorem dX8_homeOf_4 : decode cX8_homeOf 4 = .ok (.iload_n 1, 1) := by decide +kernel
theorem dX8_homeOf_5 : decode cX8_homeOf 5 = .ok (.invokestatic 78, 3) := by decide +kernel
theorem dX8_homeOf_8 : decode cX8_homeOf 8 = .ok (.iconst 0, 1) := by decide +kernel
theorem dX8_homeOf_9 : decode cX8_homeOf 9 = .ok (.iadd, 1) := by decide +kernel
theorem dX8_homeOf_10 : decode cX8_homeOf 10 = .ok (.iaload, 1) := by decide +kernel
theorem dX8_homeOf_11 : decode cX8_homeOf 11 = .ok (.ireturn, 1) := by decide +kernel
theorem dX8_loanStreet_0 : decode cX8_loanStreet 0 = .ok (.aload_n 0, 1) := by decide +kernel
theorem dX8_loanStreet_1 : decode cX8_loanStreet 1 = .ok (.aload_n 0, 1) := by decide +kernel
theorem dX8_loanStreet_2 : decode cX8_loanStreet 2 = .ok (.getfield 13, 3) := by decide +kernel
theorem dX8_loanStreet_5 : decode cX8_loanStreet 5 = .ok (.iload_n 1, 1) := by decide +kernel
theorem dX8_loanStreet_6 : decode cX8_loanStreet 6 = .ok (.invokestatic 93, 3) := by decide +kernel
theorem dX8_loanStreet_9 : decode cX8_loanStreet 9 = .ok (.iconst 0, 1) := by decide +kernel
theorem dX8_loanStreet_10 : decode cX8_loanStreet 10 = .ok (.iadd, 1) := by decide +kernel
theorem dX8_loanStreet_11 : decode cX8_loanStreet 11 = .ok (.iaload, 1) := by decide +kernel
theorem dX8_loanStreet_12 : decode cX8_loanStreet 12 = .ok (.invokevirtual 106, 3) := by decide +kernel
theorem dX8_loanStreet_15 : decode cX8_loanStreet 15 = .ok (.ireturn, 1) := by decide +kernel
theorem dX8_plannedNoise_0 : decode cX8_plannedNoise 0 = .ok (.aload_n 0, 1) := by decide +kernel
theorem dX8_plannedNoise_1 : decode cX8_plannedNoise 1 = .ok (.iload_n 2, 1) := by decide +kernel
theorem dX8_plannedNoise_2 : decode cX8_plannedNoise 2 = .ok (.invokevirtual 109, 3) := by decide +kernel
theorem dX8_plannedNoise_5 : decode cX8_plannedNoise 5 = .ok (.istore_n 3, 1) := by decide +kernel
theorem dX8_plannedNoise_6 : decode cX8_plannedNoise 6 = .ok (.iload_n 3, 1) := by decide +kernel
theorem dX8_plannedNoise_7 : decode cX8_plannedNoise 7 = .ok (.iconst (-1), 1) := by decide +kernel
theorem dX8_plannedNoise_8 : decode cX8_plannedNoise 8 = .ok (.if_icmp .eq 14, 3) := by decide +kernel
theorem dX8_plannedNoise_11 : decode cX8_plannedNoise 11 = .ok (.aload_n 0, 1) := by decide +kernel
theorem dX8_plannedNoise_12 : decode cX8_plannedNoise 12 = .ok (.iload_n 3, 1) := by decide +kernel
theorem dX8_plannedNoise_13 : decode cX8_plannedNoise 13 = .ok (.invokevirtual 112, 3) := by decide +kernel
theorem dX8_plannedNoise_16 : decode cX8_plannedNoise 16 = .ok (.iload_n 1, 1) := by decide +kernel
theorem dX8_plannedNoise_17 : decode cX8_plannedNoise 17 = .ok (.if_icmp .ne 5, 3) := by decide +kernel
theorem dX8_plannedNoise_20 : decode cX8_plannedNoise 20 = .ok (.iconst 0, 1) := by decide +kernel
theorem dX8_plannedNoise_21 : decode cX8_plannedNoise 21 = .ok (.ireturn, 1) := by decide +kernel
theorem dX8_plannedNoise_22 : decode cX8_plannedNoise 22 = .ok (.aload_n 0, 1) := by decide +kernel
theorem dX8_plannedNoise_23 : decode cX8_plannedNoise 23 = .ok (.getfield 13, 3) := by decide +kernel
theorem dX8_plannedNoise_26 : decode cX8_plannedNoise 26 = .ok (.iload_n 1, 1) := by decide +kernel
theorem dX8_plannedNoise_27 : decode cX8_plannedNoise 27 = .ok (.invokestatic 71, 3) := by decide +kernel
theorem dX8_plannedNoise_30 : decode cX8_plannedNoise 30 = .ok (.iload_n 2, 1) := by decide +kernel
theorem dX8_plannedNoise_31 : decode cX8_plannedNoise 31 = .ok (.invokestatic 115, 3) := by decide +kernel
theorem dX8_plannedNoise_34 : decode cX8_plannedNoise 34 = .ok (.ifCond .eq 7, 3) := by decide +kernel
theorem dX8_plannedNoise_37 : decode cX8_plannedNoise 37 = .ok (.iconst 1, 1) := by decide +kernel
theorem dX8_plannedNoise_38 : decode cX8_plannedNoise 38 = .ok (.goto 4, 3) := by decide +kernel
theorem dX8_plannedNoise_41 : decode cX8_plannedNoise 41 = .ok (.iconst 0, 1) := by decide +kernel
theorem dX8_plannedNoise_42 : decode cX8_plannedNoise 42 = .ok (.iadd, 1) := by decide +kernel
theorem dX8_plannedNoise_43 : decode cX8_plannedNoise 43 = .ok (.iaload, 1) := by decide +kernel
theorem dX8_plannedNoise_44 : decode cX8_plannedNoise 44 = .ok (.istore 4, 2) := by decide +kernel
theorem dX8_plannedNoise_46 : decode cX8_plannedNoise 46 = .ok (.iload 4, 2) := by decide +kernel
theorem dX8_plannedNoise_48 : decode cX8_plannedNoise 48 = .ok (.aload_n 0, 1) := by decide +kernel
theorem dX8_plannedNoise_49 : decode cX8_plannedNoise 49 = .ok (.iload_n 1, 1) := by decide +kernel
theorem dX8_plannedNoise_50 : decode cX8_plannedNoise 50 = .ok (.iload_n 2, 1) := by decide +kernel
theorem dX8_plannedNoise_51 : decode cX8_plannedNoise 51 = .ok (.invokevirtual 118, 3) := by decide +kernel
theorem dX8_plannedNoise_54 : decode cX8_plannedNoise 54 = .ok (.iconst (-1), 1) := by decide +kernel
theorem dX8_plannedNoise_55 : decode cX8_plannedNoise 55 = .ok (.if_icmp .ne 7, 3) := by decide +kernel
theorem dX8_plannedNoise_58 : decode cX8_plannedNoise 58 = .ok (.iconst 0, 1) := by decide +kernel
theorem dX8_plannedNoise_59 : decode cX8_plannedNoise 59 = .ok (.goto 5, 3) := by decide +kernel
theorem dX8_plannedNoise_62 : decode cX8_plannedNoise 62 = .ok (.bipush 40, 2) := by decide +kernel
theorem dX8_plannedNoise_64 : decode cX8_plannedNoise 64 = .ok (.iadd, 1) := by decide +kernel
theorem dX8_plannedNoise_65 : decode cX8_plannedNoise 65 = .ok (.ireturn, 1) := by decide +kernel
theorem dX8_priceFor_0 : decode cX8_priceFor 0 = .ok (.iload_n 2, 1) := by decide +kernel
theorem dX8_priceFor_1 : decode cX8_priceFor 1 = .ok (.aload_n 0, 1) := by decide +kernel
theorem dX8_priceFor_2 : decode cX8_priceFor 2 = .ok (.getfield 13, 3) := by decide +kernel
theorem dX8_priceFor_5 : decode cX8_priceFor 5 = .ok (.aload_n 0, 1) := by decide +kernel
theorem dX8_priceFor_6 : decode cX8_priceFor 6 = .ok (.iload_n 1, 1) := by decide +kernel
theorem dX8_priceFor_7 : decode cX8_priceFor 7 = .ok (.invokevirtual 106, 3) := by decide +kernel
theorem dX8_priceFor_10 : decode cX8_priceFor 10 = .ok (.invokestatic 71, 3) := by decide +kernel
theorem dX8_priceFor_13 : decode cX8_priceFor 13 = .ok (.iconst 0, 1) := by decide +kernel
theorem dX8_priceFor_14 : decode cX8_priceFor 14 = .ok (.iadd, 1) := by decide +kernel
theorem dX8_priceFor_15 : decode cX8_priceFor 15 = .ok (.iaload, 1) := by decide +kernel
theorem dX8_priceFor_16 : decode cX8_priceFor 16 = .ok (.bipush 10, 2) := by decide +kernel
theorem dX8_priceFor_18 : decode cX8_priceFor 18 = .ok (.idiv, 1) := by decide +kernel
theorem dX8_priceFor_19 : decode cX8_priceFor 19 = .ok (.iconst 1, 1) := by decide +kernel
theorem dX8_priceFor_20 : decode cX8_priceFor 20 = .ok (.iadd, 1) := by decide +kernel
theorem dX8_priceFor_21 : decode cX8_priceFor 21 = .ok (.imul, 1) := by decide +kernel
theorem dX8_priceFor_22 : decode cX8_priceFor 22 = .ok (.ireturn, 1) := by decide +kernel
theorem dX8_firstOverdue_0 : decode cX8_firstOverdue 0 = .ok (.iconst 0, 1) := by decide +kernel
theorem dX8_firstOverdue_1 : decode cX8_firstOverdue 1 = .ok (.istore_n 2, 1) := by decide +kernel
theorem dX8_firstOverdue_2 : decode cX8_firstOverdue 2 = .ok (.iload_n 2, 1) := by decide +kernel
theorem dX8_firstOverdue_3 : decode cX8_firstOverdue 3 = .ok (.aload_n 0, 1) := by decide +kernel
theorem dX8_firstOverdue_4 : decode cX8_firstOverdue 4 = .ok (.getfield 13, 3) := by decide +kernel
theorem dX8_firstOverdue_7 : decode cX8_firstOverdue 7 = .ok (.bipush 6, 2) := by decide +kernel
theorem dX8_firstOverdue_9 : decode cX8_firstOverdue 9 = .ok (.iaload, 1) := by decide +kernel
theorem dX8_firstOverdue_10 : decode cX8_firstOverdue 10 = .ok (.if_icmp .ge 41, 3) := by decide +kernel
theorem dX8_firstOverdue_13 : decode cX8_firstOverdue 13 = .ok (.aload_n 0, 1) := by decide +kernel
theorem dX8_firstOverdue_14 : decode cX8_firstOverdue 14 = .ok (.getfield 13, 3) := by decide +kernel
theorem dX8_firstOverdue_17 : decode cX8_firstOverdue 17 = .ok (.iload_n 2, 1) := by decide +kernel
theorem dX8_firstOverdue_18 : decode cX8_firstOverdue 18 = .ok (.invokestatic 93, 3) := by decide +kernel
theorem dX8_firstOverdue_21 : decode cX8_firstOverdue 21 = .ok (.iconst 0, 1) := by decide +kernel
theorem dX8_firstOverdue_22 : decode cX8_firstOverdue 22 = .ok (.iadd, 1) := by decide +kernel
theorem dX8_firstOverdue_23 : decode cX8_firstOverdue 23 = .ok (.iaload, 1) := by decide +kernel
theorem dX8_firstOverdue_24 : decode cX8_firstOverdue 24 = .ok (.iload_n 1, 1) := by decide +kernel
theorem dX8_firstOverdue_25 : decode cX8_firstOverdue 25 = .ok (.if_icmp .ne 20, 3) := by decide +kernel
theorem dX8_firstOverdue_28 : decode cX8_firstOverdue 28 = .ok (.aload_n 0, 1) := by decide +kernel
theorem dX8_firstOverdue_29 : decode cX8_firstOverdue 29 = .ok (.getfield 13, 3) := by decide +kernel
theorem dX8_firstOverdue_32 : decode cX8_firstOverdue 32 = .ok (.iload_n 2, 1) := by decide +kernel
theorem dX8_firstOverdue_33 : decode cX8_firstOverdue 33 = .ok (.invokestatic 93, 3) := by decide +kernel
theorem dX8_firstOverdue_36 : decode cX8_firstOverdue 36 = .ok (.iconst 4, 1) := by decide +kernel
theorem dX8_firstOverdue_37 : decode cX8_firstOverdue 37 = .ok (.iadd, 1) := by decide +kernel
theorem dX8_firstOverdue_38 : decode cX8_firstOverdue 38 = .ok (.iaload, 1) := by decide +kernel
theorem dX8_firstOverdue_39 : decode cX8_firstOverdue 39 = .ok (.iconst 4, 1) := by decide +kernel
theorem dX8_firstOverdue_40 : decode cX8_firstOverdue 40 = .ok (.if_icmp .ne 5, 3) := by decide +kernel
theorem dX8_firstOverdue_43 : decode cX8_firstOverdue 43 = .ok (.iload_n 2, 1) := by decide +kernel
theorem dX8_firstOverdue_44 : decode cX8_firstOverdue 44 = .ok (.ireturn, 1) := by decide +kernel
theorem dX8_firstOverdue_45 : decode cX8_firstOverdue 45 = .ok (.iinc 2 1, 3) := by decide +kernel
theorem dX8_firstOverdue_48 : decode cX8_firstOverdue 48 = .ok (.goto (-46), 3) := by decide +kernel
theorem dX8_firstOverdue_51 : decode cX8_firstOverdue 51 = .ok (.iconst (-1), 1) := by decide +kernel
theorem dX8_firstOverdue_52 : decode cX8_firstOverdue 52 = .ok (.ireturn, 1) := by decide +kernel
theorem dX8_drumsIn_0 : decode cX8_drumsIn 0 = .ok (.iload_n 2, 1) := by decide +kernel
theorem dX8_drumsIn_1 : decode cX8_drumsIn 1 = .ok (.istore 4, 2) := by decide +kernel
theorem dX8_drumsIn_3 : decode cX8_drumsIn 3 = .ok (.iload 4, 2) := by decide +kernel
theorem dX8_drumsIn_5 : decode cX8_drumsIn 5 = .ok (.iload_n 2, 1) := by decide +kernel
theorem dX8_drumsIn_6 : decode cX8_drumsIn 6 = .ok (.iload_n 3, 1) := by decide +kernel
theorem dX8_drumsIn_7 : decode cX8_drumsIn 7 = .ok (.iadd, 1) := by decide +kernel
theorem dX8_drumsIn_8 : decode cX8_drumsIn 8 = .ok (.if_icmp .ge 28, 3) := by decide +kernel
theorem dX8_drumsIn_11 : decode cX8_drumsIn 11 = .ok (.aload_n 0, 1) := by decide +kernel
theorem dX8_drumsIn_12 : decode cX8_drumsIn 12 = .ok (.iload_n 1, 1) := by decide +kernel
theorem dX8_drumsIn_13 : decode cX8_drumsIn 13 = .ok (.iload 4, 2) := by decide +kernel
theorem dX8_drumsIn_15 : decode cX8_drumsIn 15 = .ok (.invokevirtual 118, 3) := by decide +kernel
theorem dX8_drumsIn_18 : decode cX8_drumsIn 18 = .ok (.iconst (-1), 1) := by decide +kernel
theorem dX8_drumsIn_19 : decode cX8_drumsIn 19 = .ok (.if_icmp .eq 11, 3) := by decide +kernel
theorem dX8_drumsIn_22 : decode cX8_drumsIn 22 = .ok (.aload_n 0, 1) := by decide +kernel
theorem dX8_drumsIn_23 : decode cX8_drumsIn 23 = .ok (.iload_n 1, 1) := by decide +kernel
theorem dX8_drumsIn_24 : decode cX8_drumsIn 24 = .ok (.iload 4, 2) := by decide +kernel
theorem dX8_drumsIn_26 : decode cX8_drumsIn 26 = .ok (.invokevirtual 118, 3) := by decide +kernel
theorem dX8_drumsIn_29 : decode cX8_drumsIn 29 = .ok (.ireturn, 1) := by decide +kernel
theorem dX8_drumsIn_30 : decode cX8_drumsIn 30 = .ok (.iinc 4 1, 3) := by decide +kernel
theorem dX8_drumsIn_33 : decode cX8_drumsIn 33 = .ok (.goto (-30), 3) := by decide +kernel
theorem dX8_drumsIn_36 : decode cX8_drumsIn 36 = .ok (.iconst (-1), 1) := by decide +kernel
theorem dX8_drumsIn_37 : decode cX8_drumsIn 37 = .ok (.ireturn, 1) := by decide +kernel
theorem dX8_yields_0 : decode cX8_yields 0 = .ok (.aload_n 0, 1) := by decide +kernel
theorem dX8_yields_1 : decode cX8_yields 1 = .ok (.getfield 13, 3) := by decide +kernel
theorem dX8_yields_4 : decode cX8_yields 4 = .ok (.iload_n 1, 1) := by decide +kernel
theorem dX8_yields_5 : decode cX8_yields 5 = .ok (.invokestatic 93, 3) := by decide +kernel
theorem dX8_yields_8 : decode cX8_yields 8 = .ok (.iconst 4, 1) := by decide +kernel
theorem dX8_yields_9 : decode cX8_yields 9 = .ok (.iadd, 1) := by decide +kernel
theorem dX8_yields_10 : decode cX8_yields 10 = .ok (.iaload, 1) := by decide +kernel
theorem dX8_yields_11 : decode cX8_yields 11 = .ok (.ifCond .ne 42, 3) := by decide +kernel
theorem dX8_yields_14 : decode cX8_yields 14 = .ok (.aload_n 0, 1) := by decide +kernel
theorem dX8_yields_15 : decode cX8_yields 15 = .ok (.getfield 13, 3) := by decide +kernel
theorem dX8_yields_18 : decode cX8_yields 18 = .ok (.aload_n 0, 1) := by decide +kernel
theorem dX8_yields_19 : decode cX8_yields 19 = .ok (.getfield 13, 3) := by decide +kernel
theorem dX8_yields_22 : decode cX8_yields 22 = .ok (.iload_n 1, 1) := by decide +kernel
theorem dX8_yields_23 : decode cX8_yields 23 = .ok (.invokestatic 93, 3) := by decide +kernel
theorem dX8_yields_26 : decode cX8_yields 26 = .ok (.iconst 0, 1) := by decide +kernel
theorem dX8_yields_27 : decode cX8_yields 27 = .ok (.iadd, 1) := by decide +kernel
theorem dX8_yields_28 : decode cX8_yields 28 = .ok (.iaload, 1) := by decide +kernel
theorem dX8_yields_29 : decode cX8_yields 29 = .ok (.invokestatic 78, 3) := by decide +kernel
theorem dX8_yields_32 : decode cX8_yields 32 = .ok (.iconst 1, 1) := by decide +kernel
theorem dX8_yields_33 : decode cX8_yields 33 = .ok (.iadd, 1) := by decide +kernel
theorem dX8_yields_34 : decode cX8_yields 34 = .ok (.iaload, 1) := by decide +kernel
theorem dX8_yields_35 : decode cX8_yields 35 = .ok (.aload_n 0, 1) := by decide +kernel
theorem dX8_yields_36 : decode cX8_yields 36 = .ok (.getfield 13, 3) := by decide +kernel
theorem dX8_yields_39 : decode cX8_yields 39 = .ok (.iload_n 2, 1) := by decide +kernel
theorem dX8_yields_40 : decode cX8_yields 40 = .ok (.invokestatic 78, 3) := by decide +kernel
theorem dX8_yields_43 : decode cX8_yields 43 = .ok (.iconst 1, 1) := by decide +kernel
theorem dX8_yields_44 : decode cX8_yields 44 = .ok (.iadd, 1) := by decide +kernel
theorem dX8_yields_45 : decode cX8_yields 45 = .ok (.iaload, 1) := by decide +kernel
theorem dX8_yields_46 : decode cX8_yields 46 = .ok (.if_icmp .ge 7, 3) := by decide +kernel
theorem dX8_yields_49 : decode cX8_yields 49 = .ok (.iconst 1, 1) := by decide +kernel
theorem dX8_yields_50 : decode cX8_yields 50 = .ok (.goto 4, 3) := by decide +kernel
theorem dX8_yields_53 : decode cX8_yields 53 = .ok (.iconst 0, 1) := by decide +kernel
theorem dX8_yields_54 : decode cX8_yields 54 = .ok (.ireturn, 1) := by decide +kernel
theorem dX8_firstKept_0 : decode cX8_firstKept 0 = .ok (.iload_n 2, 1) := by decide +kernel
theorem dX8_firstKept_1 : decode cX8_firstKept 1 = .ok (.istore 4, 2) := by decide +kernel
theorem dX8_firstKept_3 : decode cX8_firstKept 3 = .ok (.iload 4, 2) := by decide +kernel
theorem dX8_firstKept_5 : decode cX8_firstKept 5 = .ok (.iload_n 2, 1) := by decide +kernel
theorem dX8_firstKept_6 : decode cX8_firstKept 6 = .ok (.iload_n 3, 1) := by decide +kernel
theorem dX8_firstKept_7 : decode cX8_firstKept 7 = .ok (.iadd, 1) := by decide +kernel
theorem dX8_firstKept_8 : decode cX8_firstKept 8 = .ok (.if_icmp .ge 36, 3) := by decide +kernel
theorem dX8_firstKept_11 : decode cX8_firstKept 11 = .ok (.aload_n 0, 1) := by decide +kernel
theorem dX8_firstKept_12 : decode cX8_firstKept 12 = .ok (.iload 4, 2) := by decide +kernel
theorem dX8_firstKept_14 : decode cX8_firstKept 14 = .ok (.invokevirtual 109, 3) := by decide +kernel
theorem dX8_firstKept_17 : decode cX8_firstKept 17 = .ok (.istore 5, 2) := by decide +kernel
theorem dX8_firstKept_19 : decode cX8_firstKept 19 = .ok (.iload 5, 2) := by decide +kernel
theorem dX8_firstKept_21 : decode cX8_firstKept 21 = .ok (.iconst (-1), 1) := by decide +kernel
theorem dX8_firstKept_22 : decode cX8_firstKept 22 = .ok (.if_icmp .eq 16, 3) := by decide +kernel
theorem dX8_firstKept_25 : decode cX8_firstKept 25 = .ok (.aload_n 0, 1) := by decide +kernel
theorem dX8_firstKept_26 : decode cX8_firstKept 26 = .ok (.iload 5, 2) := by decide +kernel
theorem dX8_firstKept_28 : decode cX8_firstKept 28 = .ok (.iload_n 1, 1) := by decide +kernel
theorem dX8_firstKept_29 : decode cX8_firstKept 29 = .ok (.invokevirtual 122, 3) := by decide +kernel
theorem dX8_firstKept_32 : decode cX8_firstKept 32 = .ok (.ifCond .ne 6, 3) := by decide +kernel
theorem dX8_firstKept_35 : decode cX8_firstKept 35 = .ok (.iload 5, 2) := by decide +kernel
theorem dX8_firstKept_37 : decode cX8_firstKept 37 = .ok (.ireturn, 1) := by decide +kernel
theorem dX8_firstKept_38 : decode cX8_firstKept 38 = .ok (.iinc 4 1, 3) := by decide +kernel
theorem dX8_firstKept_41 : decode cX8_firstKept 41 = .ok (.goto (-38), 3) := by decide +kernel
theorem dX8_firstKept_44 : decode cX8_firstKept 44 = .ok (.iconst (-1), 1) := by decide +kernel
theorem dX8_firstKept_45 : decode cX8_firstKept 45 = .ok (.ireturn, 1) := by decide +kernel
theorem dX8_reasonFor_0 : decode cX8_reasonFor 0 = .ok (.aload_n 0, 1) := by decide +kernel
theorem dX8_reasonFor_1 : decode cX8_reasonFor 1 = .ok (.iload_n 1, 1) := by decide +kernel
theorem dX8_reasonFor_2 : decode cX8_reasonFor 2 = .ok (.invokevirtual 125, 3) := by decide +kernel
theorem dX8_reasonFor_5 : decode cX8_reasonFor 5 = .ok (.iconst (-1), 1) := by decide +kernel
theorem dX8_reasonFor_6 : decode cX8_reasonFor 6 = .ok (.if_icmp .eq 5, 3) := by decide +kernel
theorem dX8_reasonFor_9 : decode cX8_reasonFor 9 = .ok (.iconst 1, 1) := by decide +kernel
theorem dX8_reasonFor_10 : decode cX8_reasonFor 10 = .ok (.ireturn, 1) := by decide +kernel
theorem dX8_reasonFor_11 : decode cX8_reasonFor 11 = .ok (.aload_n 0, 1) := by decide +kernel
theorem dX8_reasonFor_12 : decode cX8_reasonFor 12 = .ok (.aload_n 0, 1) := by decide +kernel
theorem dX8_reasonFor_13 : decode cX8_reasonFor 13 = .ok (.iload_n 1, 1) := by decide +kernel
theorem dX8_reasonFor_14 : decode cX8_reasonFor 14 = .ok (.invokevirtual 106, 3) := by decide +kernel
theorem dX8_reasonFor_17 : decode cX8_reasonFor 17 = .ok (.iload_n 2, 1) := by decide +kernel
theorem dX8_reasonFor_18 : decode cX8_reasonFor 18 = .ok (.iload_n 3, 1) := by decide +kernel
theorem dX8_reasonFor_19 : decode cX8_reasonFor 19 = .ok (.invokevirtual 128, 3) := by decide +kernel
theorem dX8_reasonFor_22 : decode cX8_reasonFor 22 = .ok (.iconst (-1), 1) := by decide +kernel
theorem dX8_reasonFor_23 : decode cX8_reasonFor 23 = .ok (.if_icmp .eq 5, 3) := by decide +kernel
theorem dX8_reasonFor_26 : decode cX8_reasonFor 26 = .ok (.iconst 2, 1) := by decide +kernel
theorem dX8_reasonFor_27 : decode cX8_reasonFor 27 = .ok (.ireturn, 1) := by decide +kernel
theorem dX8_reasonFor_28 : decode cX8_reasonFor 28 = .ok (.aload_n 0, 1) := by decide +kernel
theorem dX8_reasonFor_29 : decode cX8_reasonFor 29 = .ok (.iload_n 1, 1) := by decide +kernel
theorem dX8_reasonFor_30 : decode cX8_reasonFor 30 = .ok (.iload_n 2, 1) := by decide +kernel
theorem dX8_reasonFor_31 : decode cX8_reasonFor 31 = .ok (.iload_n 3, 1) := by decide +kernel
theorem dX8_reasonFor_32 : decode cX8_reasonFor 32 = .ok (.invokevirtual 132, 3) := by decide +kernel
theorem dX8_reasonFor_35 : decode cX8_reasonFor 35 = .ok (.iconst (-1), 1) := by decide +kernel
theorem dX8_reasonFor_36 : decode cX8_reasonFor 36 = .ok (.if_icmp .eq 5, 3) := by decide +kernel
theorem dX8_reasonFor_39 : decode cX8_reasonFor 39 = .ok (.iconst 3, 1) := by decide +kernel
theorem dX8_reasonFor_40 : decode cX8_reasonFor 40 = .ok (.ireturn, 1) := by decide +kernel
theorem dX8_reasonFor_41 : decode cX8_reasonFor 41 = .ok (.aload_n 0, 1) := by decide +kernel
theorem dX8_reasonFor_42 : decode cX8_reasonFor 42 = .ok (.getfield 13, 3) := by decide +kernel
theorem dX8_reasonFor_45 : decode cX8_reasonFor 45 = .ok (.iload_n 1, 1) := by decide +kernel
theorem dX8_reasonFor_46 : decode cX8_reasonFor 46 = .ok (.invokestatic 78, 3) := by decide +kernel
theorem dX8_reasonFor_49 : decode cX8_reasonFor 49 = .ok (.iconst 2, 1) := by decide +kernel
theorem dX8_reasonFor_50 : decode cX8_reasonFor 50 = .ok (.iadd, 1) := by decide +kernel
theorem dX8_reasonFor_51 : decode cX8_reasonFor 51 = .ok (.iaload, 1) := by decide +kernel
theorem dX8_reasonFor_52 : decode cX8_reasonFor 52 = .ok (.aload_n 0, 1) := by decide +kernel
theorem dX8_reasonFor_53 : decode cX8_reasonFor 53 = .ok (.iload_n 1, 1) := by decide +kernel
theorem dX8_reasonFor_54 : decode cX8_reasonFor 54 = .ok (.iload_n 3, 1) := by decide +kernel
theorem dX8_reasonFor_55 : decode cX8_reasonFor 55 = .ok (.invokevirtual 135, 3) := by decide +kernel
theorem dX8_reasonFor_58 : decode cX8_reasonFor 58 = .ok (.if_icmp .ge 5, 3) := by decide +kernel
theorem dX8_reasonFor_61 : decode cX8_reasonFor 61 = .ok (.iconst 4, 1) := by decide +kernel
theorem dX8_reasonFor_62 : decode cX8_reasonFor 62 = .ok (.ireturn, 1) := by decide +kernel
theorem dX8_reasonFor_63 : decode cX8_reasonFor 63 = .ok (.aload_n 0, 1) := by decide +kernel
theorem dX8_reasonFor_64 : decode cX8_reasonFor 64 = .ok (.getfield 13, 3) := by decide +kernel
theorem dX8_reasonFor_67 : decode cX8_reasonFor 67 = .ok (.bipush 6, 2) := by decide +kernel
theorem dX8_reasonFor_69 : decode cX8_reasonFor 69 = .ok (.iaload, 1) := by decide +kernel
theorem dX8_reasonFor_70 : decode cX8_reasonFor 70 = .ok (.bipush 30, 2) := by decide +kernel
theorem dX8_reasonFor_72 : decode cX8_reasonFor 72 = .ok (.if_icmp .ne 7, 3) := by decide +kernel
theorem dX8_reasonFor_75 : decode cX8_reasonFor 75 = .ok (.iconst 5, 1) := by decide +kernel
theorem dX8_reasonFor_76 : decode cX8_reasonFor 76 = .ok (.goto 4, 3) := by decide +kernel
theorem dX8_reasonFor_79 : decode cX8_reasonFor 79 = .ok (.iconst 0, 1) := by decide +kernel
theorem dX8_reasonFor_80 : decode cX8_reasonFor 80 = .ok (.ireturn, 1) := by decide +kernel
theorem dX8_meets_0 : decode cX8_meets 0 = .ok (.aload_n 0, 1) := by decide +kernel
theorem dX8_meets_1 : decode cX8_meets 1 = .ok (.iload_n 1, 1) := by decide +kernel
theorem dX8_meets_2 : decode cX8_meets 2 = .ok (.invokevirtual 96, 3) := by decide +kernel
theorem dX8_meets_5 : decode cX8_meets 5 = .ok (.ifCond .eq 33, 3) := by decide +kernel
theorem dX8_meets_8 : decode cX8_meets 8 = .ok (.aload_n 0, 1) := by decide +kernel
theorem dX8_meets_9 : decode cX8_meets 9 = .ok (.getfield 13, 3) := by decide +kernel
theorem dX8_meets_12 : decode cX8_meets 12 = .ok (.iload_n 1, 1) := by decide +kernel
theorem dX8_meets_13 : decode cX8_meets 13 = .ok (.invokestatic 93, 3) := by decide +kernel
theorem dX8_meets_16 : decode cX8_meets 16 = .ok (.iconst 1, 1) := by decide +kernel
theorem dX8_meets_17 : decode cX8_meets 17 = .ok (.iadd, 1) := by decide +kernel
theorem dX8_meets_18 : decode cX8_meets 18 = .ok (.iaload, 1) := by decide +kernel
theorem dX8_meets_19 : decode cX8_meets 19 = .ok (.iload_n 2, 1) := by decide +kernel
theorem dX8_meets_20 : decode cX8_meets 20 = .ok (.iload_n 3, 1) := by decide +kernel
theorem dX8_meets_21 : decode cX8_meets 21 = .ok (.iadd, 1) := by decide +kernel
theorem dX8_meets_22 : decode cX8_meets 22 = .ok (.if_icmp .ge 16, 3) := by decide +kernel
theorem dX8_meets_25 : decode cX8_meets 25 = .ok (.aload_n 0, 1) := by decide +kernel
theorem dX8_meets_26 : decode cX8_meets 26 = .ok (.iload_n 1, 1) := by decide +kernel
theorem dX8_meets_27 : decode cX8_meets 27 = .ok (.invokevirtual 99, 3) := by decide +kernel
theorem dX8_meets_30 : decode cX8_meets 30 = .ok (.iload_n 2, 1) := by decide +kernel
theorem dX8_meets_31 : decode cX8_meets 31 = .ok (.if_icmp .le 7, 3) := by decide +kernel
theorem dX8_meets_34 : decode cX8_meets 34 = .ok (.iconst 1, 1) := by decide +kernel
theorem dX8_meets_35 : decode cX8_meets 35 = .ok (.goto 4, 3) := by decide +kernel
theorem dX8_meets_38 : decode cX8_meets 38 = .ok (.iconst 0, 1) := by decide +kernel
theorem dX8_meets_39 : decode cX8_meets 39 = .ok (.ireturn, 1) := by decide +kernel
theorem dX8_displacedMany_0 : decode cX8_displacedMany 0 = .ok (.iconst 0, 1) := by decide +kernel
theorem dX8_displacedMany_1 : decode cX8_displacedMany 1 = .ok (.istore_n 3, 1) := by decide +kernel
theorem dX8_displacedMany_2 : decode cX8_displacedMany 2 = .ok (.iconst 0, 1) := by decide +kernel
theorem dX8_displacedMany_3 : decode cX8_displacedMany 3 = .ok (.istore 4, 2) := by decide +kernel
theorem dX8_displacedMany_5 : decode cX8_displacedMany 5 = .ok (.iload 4, 2) := by decide +kernel
theorem dX8_displacedMany_7 : decode cX8_displacedMany 7 = .ok (.aload_n 0, 1) := by decide +kernel
theorem dX8_displacedMany_8 : decode cX8_displacedMany 8 = .ok (.getfield 13, 3) := by decide +kernel
theorem dX8_displacedMany_11 : decode cX8_displacedMany 11 = .ok (.bipush 6, 2) := by decide +kernel
theorem dX8_displacedMany_13 : decode cX8_displacedMany 13 = .ok (.iaload, 1) := by decide +kernel
theorem dX8_displacedMany_14 : decode cX8_displacedMany 14 = .ok (.if_icmp .ge 28, 3) := by decide +kernel
theorem dX8_displacedMany_17 : decode cX8_displacedMany 17 = .ok (.iload_n 3, 1) := by decide +kernel
theorem dX8_displacedMany_18 : decode cX8_displacedMany 18 = .ok (.aload_n 0, 1) := by decide +kernel
theorem dX8_displacedMany_19 : decode cX8_displacedMany 19 = .ok (.iload 4, 2) := by decide +kernel
theorem dX8_displacedMany_21 : decode cX8_displacedMany 21 = .ok (.iload_n 1, 1) := by decide +kernel
theorem dX8_displacedMany_22 : decode cX8_displacedMany 22 = .ok (.iload_n 2, 1) := by decide +kernel
theorem dX8_displacedMany_23 : decode cX8_displacedMany 23 = .ok (.invokevirtual 138, 3) := by decide +kernel
theorem dX8_displacedMany_26 : decode cX8_displacedMany 26 = .ok (.ifCond .eq 7, 3) := by decide +kernel
theorem dX8_displacedMany_29 : decode cX8_displacedMany 29 = .ok (.iconst 1, 1) := by decide +kernel
theorem dX8_displacedMany_30 : decode cX8_displacedMany 30 = .ok (.goto 4, 3) := by decide +kernel
theorem dX8_displacedMany_33 : decode cX8_displacedMany 33 = .ok (.iconst 0, 1) := by decide +kernel
theorem dX8_displacedMany_34 : decode cX8_displacedMany 34 = .ok (.iadd, 1) := by decide +kernel
theorem dX8_displacedMany_35 : decode cX8_displacedMany 35 = .ok (.istore_n 3, 1) := by decide +kernel
theorem dX8_displacedMany_36 : decode cX8_displacedMany 36 = .ok (.iinc 4 1, 3) := by decide +kernel
theorem dX8_displacedMany_39 : decode cX8_displacedMany 39 = .ok (.goto (-34), 3) := by decide +kernel
theorem dX8_displacedMany_42 : decode cX8_displacedMany 42 = .ok (.iload_n 3, 1) := by decide +kernel
theorem dX8_displacedMany_43 : decode cX8_displacedMany 43 = .ok (.ireturn, 1) := by decide +kernel
theorem dX8_cancels_0 : decode cX8_cancels 0 = .ok (.aload_n 0, 1) := by decide +kernel
theorem dX8_cancels_1 : decode cX8_cancels 1 = .ok (.getfield 13, 3) := by decide +kernel
theorem dX8_cancels_4 : decode cX8_cancels 4 = .ok (.iload_n 1, 1) := by decide +kernel
theorem dX8_cancels_5 : decode cX8_cancels 5 = .ok (.invokestatic 93, 3) := by decide +kernel
theorem dX8_cancels_8 : decode cX8_cancels 8 = .ok (.iconst 4, 1) := by decide +kernel
theorem dX8_cancels_9 : decode cX8_cancels 9 = .ok (.iadd, 1) := by decide +kernel
theorem dX8_cancels_10 : decode cX8_cancels 10 = .ok (.iconst 5, 1) := by decide +kernel
theorem dX8_cancels_11 : decode cX8_cancels 11 = .ok (.iastore, 1) := by decide +kernel
theorem dX8_cancels_12 : decode cX8_cancels 12 = .ok (.aload_n 0, 1) := by decide +kernel
theorem dX8_cancels_13 : decode cX8_cancels 13 = .ok (.getfield 13, 3) := by decide +kernel
theorem dX8_cancels_16 : decode cX8_cancels 16 = .ok (.aload_n 0, 1) := by decide +kernel
theorem dX8_cancels_17 : decode cX8_cancels 17 = .ok (.getfield 13, 3) := by decide +kernel
theorem dX8_cancels_20 : decode cX8_cancels 20 = .ok (.iload_n 1, 1) := by decide +kernel
theorem dX8_cancels_21 : decode cX8_cancels 21 = .ok (.invokestatic 93, 3) := by decide +kernel
theorem dX8_cancels_24 : decode cX8_cancels 24 = .ok (.iconst 0, 1) := by decide +kernel
theorem dX8_cancels_25 : decode cX8_cancels 25 = .ok (.iadd, 1) := by decide +kernel
theorem dX8_cancels_26 : decode cX8_cancels 26 = .ok (.iaload, 1) := by decide +kernel
theorem dX8_cancels_27 : decode cX8_cancels 27 = .ok (.invokestatic 78, 3) := by decide +kernel
theorem dX8_cancels_30 : decode cX8_cancels 30 = .ok (.iconst 2, 1) := by decide +kernel
theorem dX8_cancels_31 : decode cX8_cancels 31 = .ok (.iadd, 1) := by decide +kernel
theorem dX8_cancels_32 : decode cX8_cancels 32 = .ok (.dup2, 1) := by decide +kernel
theorem dX8_cancels_33 : decode cX8_cancels 33 = .ok (.iaload, 1) := by decide +kernel
theorem dX8_cancels_34 : decode cX8_cancels 34 = .ok (.aload_n 0, 1) := by decide +kernel
theorem dX8_cancels_35 : decode cX8_cancels 35 = .ok (.getfield 13, 3) := by decide +kernel
theorem dX8_cancels_38 : decode cX8_cancels 38 = .ok (.iload_n 1, 1) := by decide +kernel
theorem dX8_cancels_39 : decode cX8_cancels 39 = .ok (.invokestatic 93, 3) := by decide +kernel
theorem dX8_cancels_42 : decode cX8_cancels 42 = .ok (.iconst 3, 1) := by decide +kernel
theorem dX8_cancels_43 : decode cX8_cancels 43 = .ok (.iadd, 1) := by decide +kernel
theorem dX8_cancels_44 : decode cX8_cancels 44 = .ok (.iaload, 1) := by decide +kernel
theorem dX8_cancels_45 : decode cX8_cancels 45 = .ok (.iadd, 1) := by decide +kernel
theorem dX8_cancels_46 : decode cX8_cancels 46 = .ok (.iastore, 1) := by decide +kernel
theorem dX8_cancels_47 : decode cX8_cancels 47 = .ok (.return_, 1) := by decide +kernel
theorem dX8_lends_0 : decode cX8_lends 0 = .ok (.iconst 0, 1) := by decide +kernel
theorem dX8_lends_1 : decode cX8_lends 1 = .ok (.istore 4, 2) := by decide +kernel
theorem dX8_lends_3 : decode cX8_lends 3 = .ok (.iload 4, 2) := by decide +kernel
theorem dX8_lends_5 : decode cX8_lends 5 = .ok (.aload_n 0, 1) := by decide +kernel
theorem dX8_lends_6 : decode cX8_lends 6 = .ok (.getfield 13, 3) := by decide +kernel
theorem dX8_lends_9 : decode cX8_lends 9 = .ok (.bipush 6, 2) := by decide +kernel
theorem dX8_lends_11 : decode cX8_lends 11 = .ok (.iaload, 1) := by decide +kernel
theorem dX8_lends_12 : decode cX8_lends 12 = .ok (.if_icmp .ge 26, 3) := by decide +kernel
theorem dX8_lends_15 : decode cX8_lends 15 = .ok (.aload_n 0, 1) := by decide +kernel
theorem dX8_lends_16 : decode cX8_lends 16 = .ok (.iload 4, 2) := by decide +kernel
theorem dX8_lends_18 : decode cX8_lends 18 = .ok (.iload_n 2, 1) := by decide +kernel
theorem dX8_lends_19 : decode cX8_lends 19 = .ok (.iload_n 3, 1) := by decide +kernel
theorem dX8_lends_20 : decode cX8_lends 20 = .ok (.invokevirtual 138, 3) := by decide +kernel
theorem dX8_lends_23 : decode cX8_lends 23 = .ok (.ifCond .eq 9, 3) := by decide +kernel
theorem dX8_lends_26 : decode cX8_lends 26 = .ok (.aload_n 0, 1) := by decide +kernel
theorem dX8_lends_27 : decode cX8_lends 27 = .ok (.iload 4, 2) := by decide +kernel
theorem dX8_lends_29 : decode cX8_lends 29 = .ok (.invokevirtual 141, 3) := by decide +kernel
theorem dX8_lends_32 : decode cX8_lends 32 = .ok (.iinc 4 1, 3) := by decide +kernel
theorem dX8_lends_35 : decode cX8_lends 35 = .ok (.goto (-32), 3) := by decide +kernel
theorem dX8_lends_38 : decode cX8_lends 38 = .ok (.aload_n 0, 1) := by decide +kernel
theorem dX8_lends_39 : decode cX8_lends 39 = .ok (.getfield 13, 3) := by decide +kernel
theorem dX8_lends_42 : decode cX8_lends 42 = .ok (.bipush 6, 2) := by decide +kernel
theorem dX8_lends_44 : decode cX8_lends 44 = .ok (.iaload, 1) := by decide +kernel
theorem dX8_lends_45 : decode cX8_lends 45 = .ok (.invokestatic 93, 3) := by decide +kernel
theorem dX8_lends_48 : decode cX8_lends 48 = .ok (.istore 4, 2) := by decide +kernel
theorem dX8_lends_50 : decode cX8_lends 50 = .ok (.aload_n 0, 1) := by decide +kernel
theorem dX8_lends_51 : decode cX8_lends 51 = .ok (.getfield 13, 3) := by decide +kernel
theorem dX8_lends_54 : decode cX8_lends 54 = .ok (.iload 4, 2) := by decide +kernel
theorem dX8_lends_56 : decode cX8_lends 56 = .ok (.iconst 0, 1) := by decide +kernel
theorem dX8_lends_57 : decode cX8_lends 57 = .ok (.iadd, 1) := by decide +kernel
theorem dX8_lends_58 : decode cX8_lends 58 = .ok (.iload_n 1, 1) := by decide +kernel
theorem dX8_lends_59 : decode cX8_lends 59 = .ok (.iastore, 1) := by decide +kernel
theorem dX8_lends_60 : decode cX8_lends 60 = .ok (.aload_n 0, 1) := by decide +kernel
theorem dX8_lends_61 : decode cX8_lends 61 = .ok (.getfield 13, 3) := by decide +kernel
theorem dX8_lends_64 : decode cX8_lends 64 = .ok (.iload 4, 2) := by decide +kernel
theorem dX8_lends_66 : decode cX8_lends 66 = .ok (.iconst 1, 1) := by decide +kernel
theorem dX8_lends_67 : decode cX8_lends 67 = .ok (.iadd, 1) := by decide +kernel
theorem dX8_lends_68 : decode cX8_lends 68 = .ok (.iload_n 2, 1) := by decide +kernel
theorem dX8_lends_69 : decode cX8_lends 69 = .ok (.iastore, 1) := by decide +kernel
theorem dX8_lends_70 : decode cX8_lends 70 = .ok (.aload_n 0, 1) := by decide +kernel
theorem dX8_lends_71 : decode cX8_lends 71 = .ok (.getfield 13, 3) := by decide +kernel
theorem dX8_lends_74 : decode cX8_lends 74 = .ok (.iload 4, 2) := by decide +kernel
theorem dX8_lends_76 : decode cX8_lends 76 = .ok (.iconst 2, 1) := by decide +kernel
theorem dX8_lends_77 : decode cX8_lends 77 = .ok (.iadd, 1) := by decide +kernel
theorem dX8_lends_78 : decode cX8_lends 78 = .ok (.iload_n 3, 1) := by decide +kernel
theorem dX8_lends_79 : decode cX8_lends 79 = .ok (.iastore, 1) := by decide +kernel
theorem dX8_lends_80 : decode cX8_lends 80 = .ok (.aload_n 0, 1) := by decide +kernel
theorem dX8_lends_81 : decode cX8_lends 81 = .ok (.getfield 13, 3) := by decide +kernel
theorem dX8_lends_84 : decode cX8_lends 84 = .ok (.iload 4, 2) := by decide +kernel
theorem dX8_lends_86 : decode cX8_lends 86 = .ok (.iconst 3, 1) := by decide +kernel
theorem dX8_lends_87 : decode cX8_lends 87 = .ok (.iadd, 1) := by decide +kernel
theorem dX8_lends_88 : decode cX8_lends 88 = .ok (.aload_n 0, 1) := by decide +kernel
theorem dX8_lends_89 : decode cX8_lends 89 = .ok (.iload_n 1, 1) := by decide +kernel
theorem dX8_lends_90 : decode cX8_lends 90 = .ok (.iload_n 3, 1) := by decide +kernel
theorem dX8_lends_91 : decode cX8_lends 91 = .ok (.invokevirtual 135, 3) := by decide +kernel
theorem dX8_lends_94 : decode cX8_lends 94 = .ok (.iastore, 1) := by decide +kernel
theorem dX8_lends_95 : decode cX8_lends 95 = .ok (.aload_n 0, 1) := by decide +kernel
theorem dX8_lends_96 : decode cX8_lends 96 = .ok (.getfield 13, 3) := by decide +kernel
theorem dX8_lends_99 : decode cX8_lends 99 = .ok (.iload 4, 2) := by decide +kernel
theorem dX8_lends_101 : decode cX8_lends 101 = .ok (.iconst 4, 1) := by decide +kernel
theorem dX8_lends_102 : decode cX8_lends 102 = .ok (.iadd, 1) := by decide +kernel
theorem dX8_lends_103 : decode cX8_lends 103 = .ok (.iconst 0, 1) := by decide +kernel
theorem dX8_lends_104 : decode cX8_lends 104 = .ok (.iastore, 1) := by decide +kernel
theorem dX8_lends_105 : decode cX8_lends 105 = .ok (.aload_n 0, 1) := by decide +kernel
theorem dX8_lends_106 : decode cX8_lends 106 = .ok (.getfield 13, 3) := by decide +kernel
theorem dX8_lends_109 : decode cX8_lends 109 = .ok (.iload_n 1, 1) := by decide +kernel
theorem dX8_lends_110 : decode cX8_lends 110 = .ok (.invokestatic 78, 3) := by decide +kernel
theorem dX8_lends_113 : decode cX8_lends 113 = .ok (.iconst 2, 1) := by decide +kernel
theorem dX8_lends_114 : decode cX8_lends 114 = .ok (.iadd, 1) := by decide +kernel
theorem dX8_lends_115 : decode cX8_lends 115 = .ok (.dup2, 1) := by decide +kernel
theorem dX8_lends_116 : decode cX8_lends 116 = .ok (.iaload, 1) := by decide +kernel
theorem dX8_lends_117 : decode cX8_lends 117 = .ok (.aload_n 0, 1) := by decide +kernel
theorem dX8_lends_118 : decode cX8_lends 118 = .ok (.getfield 13, 3) := by decide +kernel
theorem dX8_lends_121 : decode cX8_lends 121 = .ok (.iload 4, 2) := by decide +kernel
theorem dX8_lends_123 : decode cX8_lends 123 = .ok (.iconst 3, 1) := by decide +kernel
theorem dX8_lends_124 : decode cX8_lends 124 = .ok (.iadd, 1) := by decide +kernel
theorem dX8_lends_125 : decode cX8_lends 125 = .ok (.iaload, 1) := by decide +kernel
theorem dX8_lends_126 : decode cX8_lends 126 = .ok (.isub, 1) := by decide +kernel
theorem dX8_lends_127 : decode cX8_lends 127 = .ok (.iastore, 1) := by decide +kernel
theorem dX8_lends_128 : decode cX8_lends 128 = .ok (.aload_n 0, 1) := by decide +kernel
theorem dX8_lends_129 : decode cX8_lends 129 = .ok (.getfield 13, 3) := by decide +kernel
theorem dX8_lends_132 : decode cX8_lends 132 = .ok (.bipush 6, 2) := by decide +kernel
theorem dX8_lends_134 : decode cX8_lends 134 = .ok (.dup2, 1) := by decide +kernel
theorem dX8_lends_135 : decode cX8_lends 135 = .ok (.iaload, 1) := by decide +kernel
theorem dX8_lends_136 : decode cX8_lends 136 = .ok (.iconst 1, 1) := by decide +kernel
theorem dX8_lends_137 : decode cX8_lends 137 = .ok (.iadd, 1) := by decide +kernel
theorem dX8_lends_138 : decode cX8_lends 138 = .ok (.iastore, 1) := by decide +kernel
theorem dX8_lends_139 : decode cX8_lends 139 = .ok (.return_, 1) := by decide +kernel
theorem dX8_canPermit_0 : decode cX8_canPermit 0 = .ok (.iconst 0, 1) := by decide +kernel
theorem dX8_canPermit_1 : decode cX8_canPermit 1 = .ok (.istore 4, 2) := by decide +kernel
theorem dX8_canPermit_3 : decode cX8_canPermit 3 = .ok (.iload 4, 2) := by decide +kernel
theorem dX8_canPermit_5 : decode cX8_canPermit 5 = .ok (.aload_n 0, 1) := by decide +kernel
theorem dX8_canPermit_6 : decode cX8_canPermit 6 = .ok (.getfield 13, 3) := by decide +kernel
theorem dX8_canPermit_9 : decode cX8_canPermit 9 = .ok (.bipush 6, 2) := by decide +kernel
theorem dX8_canPermit_11 : decode cX8_canPermit 11 = .ok (.iaload, 1) := by decide +kernel
theorem dX8_canPermit_12 : decode cX8_canPermit 12 = .ok (.if_icmp .ge 32, 3) := by decide +kernel
theorem dX8_canPermit_15 : decode cX8_canPermit 15 = .ok (.aload_n 0, 1) := by decide +kernel
theorem dX8_canPermit_16 : decode cX8_canPermit 16 = .ok (.iload 4, 2) := by decide +kernel
theorem dX8_canPermit_18 : decode cX8_canPermit 18 = .ok (.iload_n 2, 1) := by decide +kernel
theorem dX8_canPermit_19 : decode cX8_canPermit 19 = .ok (.iload_n 3, 1) := by decide +kernel
theorem dX8_canPermit_20 : decode cX8_canPermit 20 = .ok (.invokevirtual 138, 3) := by decide +kernel
theorem dX8_canPermit_23 : decode cX8_canPermit 23 = .ok (.ifCond .eq 15, 3) := by decide +kernel
theorem dX8_canPermit_26 : decode cX8_canPermit 26 = .ok (.aload_n 0, 1) := by decide +kernel
theorem dX8_canPermit_27 : decode cX8_canPermit 27 = .ok (.iload 4, 2) := by decide +kernel
theorem dX8_canPermit_29 : decode cX8_canPermit 29 = .ok (.invokevirtual 112, 3) := by decide +kernel
theorem dX8_canPermit_32 : decode cX8_canPermit 32 = .ok (.iload_n 1, 1) := by decide +kernel
theorem dX8_canPermit_33 : decode cX8_canPermit 33 = .ok (.if_icmp .ne 5, 3) := by decide +kernel
theorem dX8_canPermit_36 : decode cX8_canPermit 36 = .ok (.iconst 0, 1) := by decide +kernel
theorem dX8_canPermit_37 : decode cX8_canPermit 37 = .ok (.ireturn, 1) := by decide +kernel
theorem dX8_canPermit_38 : decode cX8_canPermit 38 = .ok (.iinc 4 1, 3) := by decide +kernel
theorem dX8_canPermit_41 : decode cX8_canPermit 41 = .ok (.goto (-38), 3) := by decide +kernel
theorem dX8_canPermit_44 : decode cX8_canPermit 44 = .ok (.aload_n 0, 1) := by decide +kernel
theorem dX8_canPermit_45 : decode cX8_canPermit 45 = .ok (.getfield 13, 3) := by decide +kernel
theorem dX8_canPermit_48 : decode cX8_canPermit 48 = .ok (.iconst 5, 1) := by decide +kernel
theorem dX8_canPermit_49 : decode cX8_canPermit 49 = .ok (.iaload, 1) := by decide +kernel
theorem dX8_canPermit_50 : decode cX8_canPermit 50 = .ok (.bipush 10, 2) := by decide +kernel
theorem dX8_canPermit_52 : decode cX8_canPermit 52 = .ok (.if_icmp .ge 7, 3) := by decide +kernel
theorem dX8_canPermit_55 : decode cX8_canPermit 55 = .ok (.iconst 1, 1) := by decide +kernel
theorem dX8_canPermit_56 : decode cX8_canPermit 56 = .ok (.goto 4, 3) := by decide +kernel
theorem dX8_canPermit_59 : decode cX8_canPermit 59 = .ok (.iconst 0, 1) := by decide +kernel
theorem dX8_canPermit_60 : decode cX8_canPermit 60 = .ok (.ireturn, 1) := by decide +kernel
theorem dX8_permits_0 : decode cX8_permits 0 = .ok (.aload_n 0, 1) := by decide +kernel
theorem dX8_permits_1 : decode cX8_permits 1 = .ok (.getfield 13, 3) := by decide +kernel
theorem dX8_permits_4 : decode cX8_permits 4 = .ok (.iconst 5, 1) := by decide +kernel
theorem dX8_permits_5 : decode cX8_permits 5 = .ok (.iaload, 1) := by decide +kernel
theorem dX8_permits_6 : decode cX8_permits 6 = .ok (.invokestatic 87, 3) := by decide +kernel
theorem dX8_permits_9 : decode cX8_permits 9 = .ok (.istore 4, 2) := by decide +kernel
theorem dX8_permits_11 : decode cX8_permits 11 = .ok (.aload_n 0, 1) := by decide +kernel
theorem dX8_permits_12 : decode cX8_permits 12 = .ok (.getfield 13, 3) := by decide +kernel
theorem dX8_permits_15 : decode cX8_permits 15 = .ok (.iload 4, 2) := by decide +kernel
theorem dX8_permits_17 : decode cX8_permits 17 = .ok (.iconst 0, 1) := by decide +kernel
theorem dX8_permits_18 : decode cX8_permits 18 = .ok (.iadd, 1) := by decide +kernel
theorem dX8_permits_19 : decode cX8_permits 19 = .ok (.iload_n 1, 1) := by decide +kernel
theorem dX8_permits_20 : decode cX8_permits 20 = .ok (.iastore, 1) := by decide +kernel
theorem dX8_permits_21 : decode cX8_permits 21 = .ok (.aload_n 0, 1) := by decide +kernel
theorem dX8_permits_22 : decode cX8_permits 22 = .ok (.getfield 13, 3) := by decide +kernel
theorem dX8_permits_25 : decode cX8_permits 25 = .ok (.iload 4, 2) := by decide +kernel
theorem dX8_permits_27 : decode cX8_permits 27 = .ok (.iconst 1, 1) := by decide +kernel
theorem dX8_permits_28 : decode cX8_permits 28 = .ok (.iadd, 1) := by decide +kernel
theorem dX8_permits_29 : decode cX8_permits 29 = .ok (.iload_n 2, 1) := by decide +kernel
theorem dX8_permits_30 : decode cX8_permits 30 = .ok (.iastore, 1) := by decide +kernel
theorem dX8_permits_31 : decode cX8_permits 31 = .ok (.aload_n 0, 1) := by decide +kernel
theorem dX8_permits_32 : decode cX8_permits 32 = .ok (.getfield 13, 3) := by decide +kernel
theorem dX8_permits_35 : decode cX8_permits 35 = .ok (.iload 4, 2) := by decide +kernel
theorem dX8_permits_37 : decode cX8_permits 37 = .ok (.iconst 2, 1) := by decide +kernel
theorem dX8_permits_38 : decode cX8_permits 38 = .ok (.iadd, 1) := by decide +kernel
theorem dX8_permits_39 : decode cX8_permits 39 = .ok (.iload_n 3, 1) := by decide +kernel
theorem dX8_permits_40 : decode cX8_permits 40 = .ok (.iastore, 1) := by decide +kernel
theorem dX8_permits_41 : decode cX8_permits 41 = .ok (.aload_n 0, 1) := by decide +kernel
theorem dX8_permits_42 : decode cX8_permits 42 = .ok (.getfield 13, 3) := by decide +kernel
theorem dX8_permits_45 : decode cX8_permits 45 = .ok (.iload 4, 2) := by decide +kernel
theorem dX8_permits_47 : decode cX8_permits 47 = .ok (.iconst 3, 1) := by decide +kernel
theorem dX8_permits_48 : decode cX8_permits 48 = .ok (.iadd, 1) := by decide +kernel
theorem dX8_permits_49 : decode cX8_permits 49 = .ok (.iconst 0, 1) := by decide +kernel
theorem dX8_permits_50 : decode cX8_permits 50 = .ok (.iastore, 1) := by decide +kernel
theorem dX8_permits_51 : decode cX8_permits 51 = .ok (.aload_n 0, 1) := by decide +kernel
theorem dX8_permits_52 : decode cX8_permits 52 = .ok (.getfield 13, 3) := by decide +kernel
theorem dX8_permits_55 : decode cX8_permits 55 = .ok (.iconst 5, 1) := by decide +kernel
theorem dX8_permits_56 : decode cX8_permits 56 = .ok (.dup2, 1) := by decide +kernel
theorem dX8_permits_57 : decode cX8_permits 57 = .ok (.iaload, 1) := by decide +kernel
theorem dX8_permits_58 : decode cX8_permits 58 = .ok (.iconst 1, 1) := by decide +kernel
theorem dX8_permits_59 : decode cX8_permits 59 = .ok (.iadd, 1) := by decide +kernel
