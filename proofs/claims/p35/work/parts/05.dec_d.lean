theorem dX10_init_0 : decode cX10_init 0 = .ok (.aload_n 0, 1) := by decide +kernel
theorem dX10_init_1 : decode cX10_init 1 = .ok (.invokespecial 1, 3) := by decide +kernel
theorem dX10_init_4 : decode cX10_init 4 = .ok (.aload_n 0, 1) := by decide +kernel
theorem dX10_init_5 : decode cX10_init 5 = .ok (.bipush 9, 2) := by decide +kernel
theorem dX10_init_7 : decode cX10_init 7 = .ok (.newarray .int, 2) := by decide +kernel
theorem dX10_init_9 : decode cX10_init 9 = .ok (.putfield 7, 3) := by decide +kernel
theorem dX10_init_12 : decode cX10_init 12 = .ok (.aload_n 0, 1) := by decide +kernel
theorem dX10_init_13 : decode cX10_init 13 = .ok (.bipush 18, 2) := by decide +kernel
theorem dX10_init_15 : decode cX10_init 15 = .ok (.newarray .int, 2) := by decide +kernel
theorem dX10_init_17 : decode cX10_init 17 = .ok (.putfield 13, 3) := by decide +kernel
theorem dX10_init_20 : decode cX10_init 20 = .ok (.aload_n 0, 1) := by decide +kernel
theorem dX10_init_21 : decode cX10_init 21 = .ok (.bipush 9, 2) := by decide +kernel
theorem dX10_init_23 : decode cX10_init 23 = .ok (.newarray .long, 2) := by decide +kernel
theorem dX10_init_25 : decode cX10_init 25 = .ok (.putfield 16, 3) := by decide +kernel
theorem dX10_init_28 : decode cX10_init 28 = .ok (.aload_n 0, 1) := by decide +kernel
theorem dX10_init_29 : decode cX10_init 29 = .ok (.iconst 3, 1) := by decide +kernel
theorem dX10_init_30 : decode cX10_init 30 = .ok (.newarray .long, 2) := by decide +kernel
theorem dX10_init_32 : decode cX10_init 32 = .ok (.putfield 20, 3) := by decide +kernel
theorem dX10_init_35 : decode cX10_init 35 = .ok (.aload_n 0, 1) := by decide +kernel
theorem dX10_init_36 : decode cX10_init 36 = .ok (.iconst 3, 1) := by decide +kernel
theorem dX10_init_37 : decode cX10_init 37 = .ok (.newarray .int, 2) := by decide +kernel
theorem dX10_init_39 : decode cX10_init 39 = .ok (.putfield 23, 3) := by decide +kernel
theorem dX10_init_42 : decode cX10_init 42 = .ok (.aload_n 0, 1) := by decide +kernel
theorem dX10_init_43 : decode cX10_init 43 = .ok (.bipush 36, 2) := by decide +kernel
theorem dX10_init_45 : decode cX10_init 45 = .ok (.newarray .int, 2) := by decide +kernel
theorem dX10_init_47 : decode cX10_init 47 = .ok (.putfield 26, 3) := by decide +kernel
theorem dX10_init_50 : decode cX10_init 50 = .ok (.aload_n 0, 1) := by decide +kernel
theorem dX10_init_51 : decode cX10_init 51 = .ok (.bipush 36, 2) := by decide +kernel
theorem dX10_init_53 : decode cX10_init 53 = .ok (.newarray .int, 2) := by decide +kernel
theorem dX10_init_55 : decode cX10_init 55 = .ok (.putfield 29, 3) := by decide +kernel
theorem dX10_init_58 : decode cX10_init 58 = .ok (.aload_n 0, 1) := by decide +kernel
theorem dX10_init_59 : decode cX10_init 59 = .ok (.bipush 10, 2) := by decide +kernel
theorem dX10_init_61 : decode cX10_init 61 = .ok (.newarray .int, 2) := by decide +kernel
theorem dX10_init_63 : decode cX10_init 63 = .ok (.putfield 32, 3) := by decide +kernel
theorem dX10_init_66 : decode cX10_init 66 = .ok (.aload_n 0, 1) := by decide +kernel
theorem dX10_init_67 : decode cX10_init 67 = .ok (.bipush 10, 2) := by decide +kernel
theorem dX10_init_69 : decode cX10_init 69 = .ok (.newarray .int, 2) := by decide +kernel
theorem dX10_init_71 : decode cX10_init 71 = .ok (.putfield 35, 3) := by decide +kernel
theorem dX10_init_74 : decode cX10_init 74 = .ok (.aload_n 0, 1) := by decide +kernel
theorem dX10_init_75 : decode cX10_init 75 = .ok (.bipush 10, 2) := by decide +kernel
theorem dX10_init_77 : decode cX10_init 77 = .ok (.newarray .int, 2) := by decide +kernel
theorem dX10_init_79 : decode cX10_init 79 = .ok (.putfield 38, 3) := by decide +kernel
theorem dX10_init_82 : decode cX10_init 82 = .ok (.aload_n 0, 1) := by decide +kernel
theorem dX10_init_83 : decode cX10_init 83 = .ok (.bipush 10, 2) := by decide +kernel
theorem dX10_init_85 : decode cX10_init 85 = .ok (.newarray .int, 2) := by decide +kernel
theorem dX10_init_87 : decode cX10_init 87 = .ok (.putfield 41, 3) := by decide +kernel
theorem dX10_init_90 : decode cX10_init 90 = .ok (.aload_n 0, 1) := by decide +kernel
theorem dX10_init_91 : decode cX10_init 91 = .ok (.bipush 10, 2) := by decide +kernel
theorem dX10_init_93 : decode cX10_init 93 = .ok (.newarray .boolean, 2) := by decide +kernel
theorem dX10_init_95 : decode cX10_init 95 = .ok (.putfield 44, 3) := by decide +kernel
theorem dX10_init_98 : decode cX10_init 98 = .ok (.aload_n 0, 1) := by decide +kernel
theorem dX10_init_99 : decode cX10_init 99 = .ok (.iconst 3, 1) := by decide +kernel
theorem dX10_init_100 : decode cX10_init 100 = .ok (.newarray .int, 2) := by decide +kernel
theorem dX10_init_102 : decode cX10_init 102 = .ok (.putfield 48, 3) := by decide +kernel
theorem dX10_init_105 : decode cX10_init 105 = .ok (.aload_n 0, 1) := by decide +kernel
theorem dX10_init_106 : decode cX10_init 106 = .ok (.bipush 7, 2) := by decide +kernel
theorem dX10_init_108 : decode cX10_init 108 = .ok (.newarray .int, 2) := by decide +kernel
theorem dX10_init_110 : decode cX10_init 110 = .ok (.dup, 1) := by decide +kernel
theorem dX10_init_111 : decode cX10_init 111 = .ok (.iconst 0, 1) := by decide +kernel
theorem dX10_init_112 : decode cX10_init 112 = .ok (.sipush 1000, 3) := by decide +kernel
theorem dX10_init_115 : decode cX10_init 115 = .ok (.iastore, 1) := by decide +kernel
theorem dX10_init_116 : decode cX10_init 116 = .ok (.dup, 1) := by decide +kernel
theorem dX10_init_117 : decode cX10_init 117 = .ok (.iconst 1, 1) := by decide +kernel
theorem dX10_init_118 : decode cX10_init 118 = .ok (.sipush 966, 3) := by decide +kernel
theorem dX10_init_121 : decode cX10_init 121 = .ok (.iastore, 1) := by decide +kernel
theorem dX10_init_122 : decode cX10_init 122 = .ok (.dup, 1) := by decide +kernel
theorem dX10_init_123 : decode cX10_init 123 = .ok (.iconst 2, 1) := by decide +kernel
theorem dX10_init_124 : decode cX10_init 124 = .ok (.sipush 866, 3) := by decide +kernel
theorem dX10_init_127 : decode cX10_init 127 = .ok (.iastore, 1) := by decide +kernel
theorem dX10_init_128 : decode cX10_init 128 = .ok (.dup, 1) := by decide +kernel
theorem dX10_init_129 : decode cX10_init 129 = .ok (.iconst 3, 1) := by decide +kernel
theorem dX10_init_130 : decode cX10_init 130 = .ok (.sipush 707, 3) := by decide +kernel
theorem dX10_init_133 : decode cX10_init 133 = .ok (.iastore, 1) := by decide +kernel
theorem dX10_init_134 : decode cX10_init 134 = .ok (.dup, 1) := by decide +kernel
theorem dX10_init_135 : decode cX10_init 135 = .ok (.iconst 4, 1) := by decide +kernel
theorem dX10_init_136 : decode cX10_init 136 = .ok (.sipush 500, 3) := by decide +kernel
theorem dX10_init_139 : decode cX10_init 139 = .ok (.iastore, 1) := by decide +kernel
theorem dX10_init_140 : decode cX10_init 140 = .ok (.dup, 1) := by decide +kernel
theorem dX10_init_141 : decode cX10_init 141 = .ok (.iconst 5, 1) := by decide +kernel
theorem dX10_init_142 : decode cX10_init 142 = .ok (.sipush 259, 3) := by decide +kernel
theorem dX10_init_145 : decode cX10_init 145 = .ok (.iastore, 1) := by decide +kernel
theorem dX10_init_146 : decode cX10_init 146 = .ok (.dup, 1) := by decide +kernel
theorem dX10_init_147 : decode cX10_init 147 = .ok (.bipush 6, 2) := by decide +kernel
theorem dX10_init_149 : decode cX10_init 149 = .ok (.iconst 0, 1) := by decide +kernel
theorem dX10_init_150 : decode cX10_init 150 = .ok (.iastore, 1) := by decide +kernel
theorem dX10_init_151 : decode cX10_init 151 = .ok (.putfield 51, 3) := by decide +kernel
theorem dX10_init_154 : decode cX10_init 154 = .ok (.aload_n 0, 1) := by decide +kernel
theorem dX10_init_155 : decode cX10_init 155 = .ok (.iconst 3, 1) := by decide +kernel
theorem dX10_init_156 : decode cX10_init 156 = .ok (.newarray .long, 2) := by decide +kernel
theorem dX10_init_158 : decode cX10_init 158 = .ok (.putfield 54, 3) := by decide +kernel
theorem dX10_init_161 : decode cX10_init 161 = .ok (.aload_n 0, 1) := by decide +kernel
theorem dX10_init_162 : decode cX10_init 162 = .ok (.bipush 33, 2) := by decide +kernel
theorem dX10_init_164 : decode cX10_init 164 = .ok (.newarray .long, 2) := by decide +kernel
theorem dX10_init_166 : decode cX10_init 166 = .ok (.putfield 57, 3) := by decide +kernel
theorem dX10_init_169 : decode cX10_init 169 = .ok (.aload_n 0, 1) := by decide +kernel
theorem dX10_init_170 : decode cX10_init 170 = .ok (.bipush 9, 2) := by decide +kernel
theorem dX10_init_172 : decode cX10_init 172 = .ok (.newarray .int, 2) := by decide +kernel
theorem dX10_init_174 : decode cX10_init 174 = .ok (.putfield 60, 3) := by decide +kernel
theorem dX10_init_177 : decode cX10_init 177 = .ok (.aload_n 0, 1) := by decide +kernel
theorem dX10_init_178 : decode cX10_init 178 = .ok (.bipush 9, 2) := by decide +kernel
theorem dX10_init_180 : decode cX10_init 180 = .ok (.newarray .int, 2) := by decide +kernel
theorem dX10_init_182 : decode cX10_init 182 = .ok (.putfield 63, 3) := by decide +kernel
theorem dX10_init_185 : decode cX10_init 185 = .ok (.aload_n 0, 1) := by decide +kernel
theorem dX10_init_186 : decode cX10_init 186 = .ok (.bipush 9, 2) := by decide +kernel
theorem dX10_init_188 : decode cX10_init 188 = .ok (.newarray .boolean, 2) := by decide +kernel
theorem dX10_init_190 : decode cX10_init 190 = .ok (.putfield 66, 3) := by decide +kernel
theorem dX10_init_193 : decode cX10_init 193 = .ok (.aload_n 0, 1) := by decide +kernel
theorem dX10_init_194 : decode cX10_init 194 = .ok (.sipush 4608, 3) := by decide +kernel
theorem dX10_init_197 : decode cX10_init 197 = .ok (.newarray .int, 2) := by decide +kernel
theorem dX10_init_199 : decode cX10_init 199 = .ok (.putfield 69, 3) := by decide +kernel
theorem dX10_init_202 : decode cX10_init 202 = .ok (.aload_n 0, 1) := by decide +kernel
theorem dX10_init_203 : decode cX10_init 203 = .ok (.iconst 4, 1) := by decide +kernel
theorem dX10_init_204 : decode cX10_init 204 = .ok (.putfield 72, 3) := by decide +kernel
theorem dX10_init_207 : decode cX10_init 207 = .ok (.aload_n 0, 1) := by decide +kernel
theorem dX10_init_208 : decode cX10_init 208 = .ok (.bipush 10, 2) := by decide +kernel
theorem dX10_init_210 : decode cX10_init 210 = .ok (.putfield 76, 3) := by decide +kernel
theorem dX10_init_213 : decode cX10_init 213 = .ok (.aload_n 0, 1) := by decide +kernel
theorem dX10_init_214 : decode cX10_init 214 = .ok (.bipush 20, 2) := by decide +kernel
theorem dX10_init_216 : decode cX10_init 216 = .ok (.putfield 79, 3) := by decide +kernel
theorem dX10_init_219 : decode cX10_init 219 = .ok (.aload_n 0, 1) := by decide +kernel
theorem dX10_init_220 : decode cX10_init 220 = .ok (.ldc 82, 2) := by decide +kernel
theorem dX10_init_222 : decode cX10_init 222 = .ok (.putfield 83, 3) := by decide +kernel
theorem dX10_init_225 : decode cX10_init 225 = .ok (.aload_n 0, 1) := by decide +kernel
theorem dX10_init_226 : decode cX10_init 226 = .ok (.bipush (-4), 2) := by decide +kernel
theorem dX10_init_228 : decode cX10_init 228 = .ok (.putfield 86, 3) := by decide +kernel
theorem dX10_init_231 : decode cX10_init 231 = .ok (.aload_n 0, 1) := by decide +kernel
theorem dX10_init_232 : decode cX10_init 232 = .ok (.sipush 300, 3) := by decide +kernel
theorem dX10_init_235 : decode cX10_init 235 = .ok (.newarray .int, 2) := by decide +kernel
theorem dX10_init_237 : decode cX10_init 237 = .ok (.putfield 89, 3) := by decide +kernel
theorem dX10_init_240 : decode cX10_init 240 = .ok (.aload_n 0, 1) := by decide +kernel
theorem dX10_init_241 : decode cX10_init 241 = .ok (.bipush 10, 2) := by decide +kernel
theorem dX10_init_243 : decode cX10_init 243 = .ok (.newarray .int, 2) := by decide +kernel
theorem dX10_init_245 : decode cX10_init 245 = .ok (.putfield 92, 3) := by decide +kernel
theorem dX10_init_248 : decode cX10_init 248 = .ok (.aload_n 0, 1) := by decide +kernel
theorem dX10_init_249 : decode cX10_init 249 = .ok (.bipush 10, 2) := by decide +kernel
theorem dX10_init_251 : decode cX10_init 251 = .ok (.newarray .int, 2) := by decide +kernel
theorem dX10_init_253 : decode cX10_init 253 = .ok (.putfield 95, 3) := by decide +kernel
theorem dX10_init_256 : decode cX10_init 256 = .ok (.aload_n 0, 1) := by decide +kernel
theorem dX10_init_257 : decode cX10_init 257 = .ok (.bipush 10, 2) := by decide +kernel
theorem dX10_init_259 : decode cX10_init 259 = .ok (.newarray .boolean, 2) := by decide +kernel
theorem dX10_init_261 : decode cX10_init 261 = .ok (.putfield 98, 3) := by decide +kernel
theorem dX10_init_264 : decode cX10_init 264 = .ok (.aload_n 0, 1) := by decide +kernel
theorem dX10_init_265 : decode cX10_init 265 = .ok (.iconst 4, 1) := by decide +kernel
theorem dX10_init_266 : decode cX10_init 266 = .ok (.newarray .int, 2) := by decide +kernel
theorem dX10_init_268 : decode cX10_init 268 = .ok (.putfield 101, 3) := by decide +kernel
theorem dX10_init_271 : decode cX10_init 271 = .ok (.aload_n 0, 1) := by decide +kernel
theorem dX10_init_272 : decode cX10_init 272 = .ok (.iconst 4, 1) := by decide +kernel
theorem dX10_init_273 : decode cX10_init 273 = .ok (.newarray .int, 2) := by decide +kernel
theorem dX10_init_275 : decode cX10_init 275 = .ok (.putfield 104, 3) := by decide +kernel
theorem dX10_init_278 : decode cX10_init 278 = .ok (.aload_n 0, 1) := by decide +kernel
theorem dX10_init_279 : decode cX10_init 279 = .ok (.sipush 240, 3) := by decide +kernel
theorem dX10_init_282 : decode cX10_init 282 = .ok (.newarray .int, 2) := by decide +kernel
theorem dX10_init_284 : decode cX10_init 284 = .ok (.putfield 107, 3) := by decide +kernel
theorem dX10_init_287 : decode cX10_init 287 = .ok (.iconst 0, 1) := by decide +kernel
theorem dX10_init_288 : decode cX10_init 288 = .ok (.istore_n 1, 1) := by decide +kernel
theorem dX10_init_289 : decode cX10_init 289 = .ok (.iload_n 1, 1) := by decide +kernel
theorem dX10_init_290 : decode cX10_init 290 = .ok (.iconst 3, 1) := by decide +kernel
theorem dX10_init_291 : decode cX10_init 291 = .ok (.if_icmp .ge 19, 3) := by decide +kernel
theorem dX10_init_294 : decode cX10_init 294 = .ok (.aload_n 0, 1) := by decide +kernel
theorem dX10_init_295 : decode cX10_init 295 = .ok (.getfield 7, 3) := by decide +kernel
theorem dX10_init_298 : decode cX10_init 298 = .ok (.iconst 4, 1) := by decide +kernel
theorem dX10_init_299 : decode cX10_init 299 = .ok (.iload_n 1, 1) := by decide +kernel
theorem dX10_init_300 : decode cX10_init 300 = .ok (.imul, 1) := by decide +kernel
theorem dX10_init_301 : decode cX10_init 301 = .ok (.bipush 10, 2) := by decide +kernel
theorem dX10_init_303 : decode cX10_init 303 = .ok (.iastore, 1) := by decide +kernel
theorem dX10_init_304 : decode cX10_init 304 = .ok (.iinc 1 1, 3) := by decide +kernel
theorem dX10_init_307 : decode cX10_init 307 = .ok (.goto (-18), 3) := by decide +kernel
theorem dX10_init_310 : decode cX10_init 310 = .ok (.iconst 0, 1) := by decide +kernel
theorem dX10_init_311 : decode cX10_init 311 = .ok (.istore_n 1, 1) := by decide +kernel
theorem dX10_init_312 : decode cX10_init 312 = .ok (.iload_n 1, 1) := by decide +kernel
theorem dX10_init_313 : decode cX10_init 313 = .ok (.iconst 4, 1) := by decide +kernel
theorem dX10_init_314 : decode cX10_init 314 = .ok (.if_icmp .ge 17, 3) := by decide +kernel
theorem dX10_init_317 : decode cX10_init 317 = .ok (.aload_n 0, 1) := by decide +kernel
theorem dX10_init_318 : decode cX10_init 318 = .ok (.getfield 101, 3) := by decide +kernel
theorem dX10_init_321 : decode cX10_init 321 = .ok (.iload_n 1, 1) := by decide +kernel
theorem dX10_init_322 : decode cX10_init 322 = .ok (.bipush (-4), 2) := by decide +kernel
theorem dX10_init_324 : decode cX10_init 324 = .ok (.iastore, 1) := by decide +kernel
theorem dX10_init_325 : decode cX10_init 325 = .ok (.iinc 1 1, 3) := by decide +kernel
theorem dX10_init_328 : decode cX10_init 328 = .ok (.goto (-16), 3) := by decide +kernel
theorem dX10_init_331 : decode cX10_init 331 = .ok (.return_, 1) := by decide +kernel
theorem dX10_in_0 : decode cX10_in 0 = .ok (.lload_n 0, 1) := by decide +kernel
theorem dX10_in_1 : decode cX10_in 1 = .ok (.lload_n 2, 1) := by decide +kernel
theorem dX10_in_2 : decode cX10_in 2 = .ok (.lcmp, 1) := by decide +kernel
theorem dX10_in_3 : decode cX10_in 3 = .ok (.ifCond .lt 14, 3) := by decide +kernel
theorem dX10_in_6 : decode cX10_in 6 = .ok (.lload_n 0, 1) := by decide +kernel
theorem dX10_in_7 : decode cX10_in 7 = .ok (.lload 4, 2) := by decide +kernel
theorem dX10_in_9 : decode cX10_in 9 = .ok (.lcmp, 1) := by decide +kernel
theorem dX10_in_10 : decode cX10_in 10 = .ok (.ifCond .gt 7, 3) := by decide +kernel
theorem dX10_in_13 : decode cX10_in 13 = .ok (.iconst 1, 1) := by decide +kernel
theorem dX10_in_14 : decode cX10_in 14 = .ok (.goto 4, 3) := by decide +kernel
theorem dX10_in_17 : decode cX10_in 17 = .ok (.iconst 0, 1) := by decide +kernel
theorem dX10_in_18 : decode cX10_in 18 = .ok (.ireturn, 1) := by decide +kernel
theorem dX10_isReading_0 : decode cX10_isReading 0 = .ok (.iload_n 0, 1) := by decide +kernel
theorem dX10_isReading_1 : decode cX10_isReading 1 = .ok (.i2l, 1) := by decide +kernel
theorem dX10_isReading_2 : decode cX10_isReading 2 = .ok (.ldc2_w 110, 3) := by decide +kernel
theorem dX10_isReading_5 : decode cX10_isReading 5 = .ok (.ldc2_w 112, 3) := by decide +kernel
theorem dX10_isReading_8 : decode cX10_isReading 8 = .ok (.invokestatic 114, 3) := by decide +kernel
theorem dX10_isReading_11 : decode cX10_isReading 11 = .ok (.ireturn, 1) := by decide +kernel
theorem dX10_isLoad_0 : decode cX10_isLoad 0 = .ok (.iload_n 0, 1) := by decide +kernel
theorem dX10_isLoad_1 : decode cX10_isLoad 1 = .ok (.i2l, 1) := by decide +kernel
theorem dX10_isLoad_2 : decode cX10_isLoad 2 = .ok (.ldc2_w 118, 3) := by decide +kernel
theorem dX10_isLoad_5 : decode cX10_isLoad 5 = .ok (.ldc2_w 120, 3) := by decide +kernel
theorem dX10_isLoad_8 : decode cX10_isLoad 8 = .ok (.invokestatic 114, 3) := by decide +kernel
theorem dX10_isLoad_11 : decode cX10_isLoad 11 = .ok (.ireturn, 1) := by decide +kernel
theorem dX10_down_0 : decode cX10_down 0 = .ok (.lload_n 0, 1) := by decide +kernel
theorem dX10_down_1 : decode cX10_down 1 = .ok (.lload_n 2, 1) := by decide +kernel
theorem dX10_down_2 : decode cX10_down 2 = .ok (.ldiv, 1) := by decide +kernel
theorem dX10_down_3 : decode cX10_down 3 = .ok (.lstore 4, 2) := by decide +kernel
theorem dX10_down_5 : decode cX10_down 5 = .ok (.lload_n 0, 1) := by decide +kernel
theorem dX10_down_6 : decode cX10_down 6 = .ok (.lload_n 2, 1) := by decide +kernel
theorem dX10_down_7 : decode cX10_down 7 = .ok (.lrem, 1) := by decide +kernel
theorem dX10_down_8 : decode cX10_down 8 = .ok (.lconst 0, 1) := by decide +kernel
theorem dX10_down_9 : decode cX10_down 9 = .ok (.lcmp, 1) := by decide +kernel
theorem dX10_down_10 : decode cX10_down 10 = .ok (.ifCond .ge 10, 3) := by decide +kernel
theorem dX10_down_13 : decode cX10_down 13 = .ok (.lload 4, 2) := by decide +kernel
theorem dX10_down_15 : decode cX10_down 15 = .ok (.lconst 1, 1) := by decide +kernel
theorem dX10_down_16 : decode cX10_down 16 = .ok (.lsub, 1) := by decide +kernel
theorem dX10_down_17 : decode cX10_down 17 = .ok (.goto 5, 3) := by decide +kernel
theorem dX10_down_20 : decode cX10_down 20 = .ok (.lload 4, 2) := by decide +kernel
theorem dX10_down_22 : decode cX10_down 22 = .ok (.lreturn, 1) := by decide +kernel
theorem dX10_first_0 : decode cX10_first 0 = .ok (.iload_n 1, 1) := by decide +kernel
theorem dX10_first_1 : decode cX10_first 1 = .ok (.i2l, 1) := by decide +kernel
theorem dX10_first_2 : decode cX10_first 2 = .ok (.lconst 0, 1) := by decide +kernel
theorem dX10_first_3 : decode cX10_first 3 = .ok (.ldc2_w 122, 3) := by decide +kernel
theorem dX10_first_6 : decode cX10_first 6 = .ok (.invokestatic 114, 3) := by decide +kernel
theorem dX10_first_9 : decode cX10_first 9 = .ok (.ifCond .eq 29, 3) := by decide +kernel
theorem dX10_first_12 : decode cX10_first 12 = .ok (.iload_n 2, 1) := by decide +kernel
theorem dX10_first_13 : decode cX10_first 13 = .ok (.i2l, 1) := by decide +kernel
theorem dX10_first_14 : decode cX10_first 14 = .ok (.lconst 0, 1) := by decide +kernel
theorem dX10_first_15 : decode cX10_first 15 = .ok (.ldc2_w 122, 3) := by decide +kernel
theorem dX10_first_18 : decode cX10_first 18 = .ok (.invokestatic 114, 3) := by decide +kernel
theorem dX10_first_21 : decode cX10_first 21 = .ok (.ifCond .eq 17, 3) := by decide +kernel
theorem dX10_first_24 : decode cX10_first 24 = .ok (.iload_n 3, 1) := by decide +kernel
theorem dX10_first_25 : decode cX10_first 25 = .ok (.i2l, 1) := by decide +kernel
theorem dX10_first_26 : decode cX10_first 26 = .ok (.ldc2_w 124, 3) := by decide +kernel
theorem dX10_first_29 : decode cX10_first 29 = .ok (.ldc2_w 126, 3) := by decide +kernel
theorem dX10_first_32 : decode cX10_first 32 = .ok (.invokestatic 114, 3) := by decide +kernel
theorem dX10_first_35 : decode cX10_first 35 = .ok (.ifCond .ne 5, 3) := by decide +kernel
theorem dX10_first_38 : decode cX10_first 38 = .ok (.iconst (-1), 1) := by decide +kernel
theorem dX10_first_39 : decode cX10_first 39 = .ok (.ireturn, 1) := by decide +kernel
theorem dX10_first_40 : decode cX10_first 40 = .ok (.aload_n 0, 1) := by decide +kernel
theorem dX10_first_41 : decode cX10_first 41 = .ok (.getfield 7, 3) := by decide +kernel
theorem dX10_first_44 : decode cX10_first 44 = .ok (.iconst 3, 1) := by decide +kernel
theorem dX10_first_45 : decode cX10_first 45 = .ok (.iload_n 1, 1) := by decide +kernel
theorem dX10_first_46 : decode cX10_first 46 = .ok (.imul, 1) := by decide +kernel
theorem dX10_first_47 : decode cX10_first 47 = .ok (.iload_n 2, 1) := by decide +kernel
theorem dX10_first_48 : decode cX10_first 48 = .ok (.iadd, 1) := by decide +kernel
theorem dX10_first_49 : decode cX10_first 49 = .ok (.iload_n 3, 1) := by decide +kernel
theorem dX10_first_50 : decode cX10_first 50 = .ok (.iastore, 1) := by decide +kernel
theorem dX10_first_51 : decode cX10_first 51 = .ok (.iconst 1, 1) := by decide +kernel
theorem dX10_first_52 : decode cX10_first 52 = .ok (.ireturn, 1) := by decide +kernel
theorem dX10_second_0 : decode cX10_second 0 = .ok (.iload_n 1, 1) := by decide +kernel
theorem dX10_second_1 : decode cX10_second 1 = .ok (.i2l, 1) := by decide +kernel
theorem dX10_second_2 : decode cX10_second 2 = .ok (.lconst 0, 1) := by decide +kernel
theorem dX10_second_3 : decode cX10_second 3 = .ok (.ldc2_w 122, 3) := by decide +kernel
theorem dX10_second_6 : decode cX10_second 6 = .ok (.invokestatic 114, 3) := by decide +kernel
theorem dX10_second_9 : decode cX10_second 9 = .ok (.ifCond .eq 29, 3) := by decide +kernel
theorem dX10_second_12 : decode cX10_second 12 = .ok (.iload_n 2, 1) := by decide +kernel
theorem dX10_second_13 : decode cX10_second 13 = .ok (.i2l, 1) := by decide +kernel
theorem dX10_second_14 : decode cX10_second 14 = .ok (.lconst 0, 1) := by decide +kernel
theorem dX10_second_15 : decode cX10_second 15 = .ok (.ldc2_w 128, 3) := by decide +kernel
theorem dX10_second_18 : decode cX10_second 18 = .ok (.invokestatic 114, 3) := by decide +kernel
theorem dX10_second_21 : decode cX10_second 21 = .ok (.ifCond .eq 17, 3) := by decide +kernel
theorem dX10_second_24 : decode cX10_second 24 = .ok (.iload_n 3, 1) := by decide +kernel
theorem dX10_second_25 : decode cX10_second 25 = .ok (.i2l, 1) := by decide +kernel
theorem dX10_second_26 : decode cX10_second 26 = .ok (.ldc2_w 130, 3) := by decide +kernel
theorem dX10_second_29 : decode cX10_second 29 = .ok (.ldc2_w 132, 3) := by decide +kernel
theorem dX10_second_32 : decode cX10_second 32 = .ok (.invokestatic 114, 3) := by decide +kernel
theorem dX10_second_35 : decode cX10_second 35 = .ok (.ifCond .ne 5, 3) := by decide +kernel
theorem dX10_second_38 : decode cX10_second 38 = .ok (.iconst (-1), 1) := by decide +kernel
theorem dX10_second_39 : decode cX10_second 39 = .ok (.ireturn, 1) := by decide +kernel
theorem dX10_second_40 : decode cX10_second 40 = .ok (.aload_n 0, 1) := by decide +kernel
theorem dX10_second_41 : decode cX10_second 41 = .ok (.getfield 13, 3) := by decide +kernel
theorem dX10_second_44 : decode cX10_second 44 = .ok (.bipush 6, 2) := by decide +kernel
theorem dX10_second_46 : decode cX10_second 46 = .ok (.iload_n 1, 1) := by decide +kernel
theorem dX10_second_47 : decode cX10_second 47 = .ok (.imul, 1) := by decide +kernel
theorem dX10_second_48 : decode cX10_second 48 = .ok (.iload_n 2, 1) := by decide +kernel
theorem dX10_second_49 : decode cX10_second 49 = .ok (.iadd, 1) := by decide +kernel
theorem dX10_second_50 : decode cX10_second 50 = .ok (.iload_n 3, 1) := by decide +kernel
theorem dX10_second_51 : decode cX10_second 51 = .ok (.iastore, 1) := by decide +kernel
theorem dX10_second_52 : decode cX10_second 52 = .ok (.iconst 1, 1) := by decide +kernel
theorem dX10_second_53 : decode cX10_second 53 = .ok (.ireturn, 1) := by decide +kernel
theorem dX10_products_0 : decode cX10_products 0 = .ok (.bipush 6, 2) := by decide +kernel
theorem dX10_products_2 : decode cX10_products 2 = .ok (.iload_n 1, 1) := by decide +kernel
theorem dX10_products_3 : decode cX10_products 3 = .ok (.imul, 1) := by decide +kernel
theorem dX10_products_4 : decode cX10_products 4 = .ok (.istore 5, 2) := by decide +kernel
theorem dX10_products_6 : decode cX10_products 6 = .ok (.aload_n 0, 1) := by decide +kernel
theorem dX10_products_7 : decode cX10_products 7 = .ok (.getfield 13, 3) := by decide +kernel
theorem dX10_products_10 : decode cX10_products 10 = .ok (.iload 5, 2) := by decide +kernel
theorem dX10_products_12 : decode cX10_products 12 = .ok (.iaload, 1) := by decide +kernel
theorem dX10_products_13 : decode cX10_products 13 = .ok (.iload_n 2, 1) := by decide +kernel
theorem dX10_products_14 : decode cX10_products 14 = .ok (.imul, 1) := by decide +kernel
theorem dX10_products_15 : decode cX10_products 15 = .ok (.iload_n 2, 1) := by decide +kernel
theorem dX10_products_16 : decode cX10_products 16 = .ok (.imul, 1) := by decide +kernel
theorem dX10_products_17 : decode cX10_products 17 = .ok (.aload_n 0, 1) := by decide +kernel
theorem dX10_products_18 : decode cX10_products 18 = .ok (.getfield 13, 3) := by decide +kernel
theorem dX10_products_21 : decode cX10_products 21 = .ok (.iload 5, 2) := by decide +kernel
theorem dX10_products_23 : decode cX10_products 23 = .ok (.iconst 1, 1) := by decide +kernel
theorem dX10_products_24 : decode cX10_products 24 = .ok (.iadd, 1) := by decide +kernel
theorem dX10_products_25 : decode cX10_products 25 = .ok (.iaload, 1) := by decide +kernel
theorem dX10_products_26 : decode cX10_products 26 = .ok (.iload_n 2, 1) := by decide +kernel
theorem dX10_products_27 : decode cX10_products 27 = .ok (.imul, 1) := by decide +kernel
theorem dX10_products_28 : decode cX10_products 28 = .ok (.iload_n 3, 1) := by decide +kernel
theorem dX10_products_29 : decode cX10_products 29 = .ok (.imul, 1) := by decide +kernel
theorem dX10_products_30 : decode cX10_products 30 = .ok (.iadd, 1) := by decide +kernel
theorem dX10_products_31 : decode cX10_products 31 = .ok (.aload_n 0, 1) := by decide +kernel
theorem dX10_products_32 : decode cX10_products 32 = .ok (.getfield 13, 3) := by decide +kernel
theorem dX10_products_35 : decode cX10_products 35 = .ok (.iload 5, 2) := by decide +kernel
theorem dX10_products_37 : decode cX10_products 37 = .ok (.iconst 2, 1) := by decide +kernel
theorem dX10_products_38 : decode cX10_products 38 = .ok (.iadd, 1) := by decide +kernel
theorem dX10_products_39 : decode cX10_products 39 = .ok (.iaload, 1) := by decide +kernel
theorem dX10_products_40 : decode cX10_products 40 = .ok (.iload_n 2, 1) := by decide +kernel
theorem dX10_products_41 : decode cX10_products 41 = .ok (.imul, 1) := by decide +kernel
theorem dX10_products_42 : decode cX10_products 42 = .ok (.iload 4, 2) := by decide +kernel
theorem dX10_products_44 : decode cX10_products 44 = .ok (.imul, 1) := by decide +kernel
theorem dX10_products_45 : decode cX10_products 45 = .ok (.iadd, 1) := by decide +kernel
theorem dX10_products_46 : decode cX10_products 46 = .ok (.aload_n 0, 1) := by decide +kernel
theorem dX10_products_47 : decode cX10_products 47 = .ok (.getfield 13, 3) := by decide +kernel
theorem dX10_products_50 : decode cX10_products 50 = .ok (.iload 5, 2) := by decide +kernel
theorem dX10_products_52 : decode cX10_products 52 = .ok (.iconst 3, 1) := by decide +kernel
theorem dX10_products_53 : decode cX10_products 53 = .ok (.iadd, 1) := by decide +kernel
theorem dX10_products_54 : decode cX10_products 54 = .ok (.iaload, 1) := by decide +kernel
theorem dX10_products_55 : decode cX10_products 55 = .ok (.iload_n 3, 1) := by decide +kernel
theorem dX10_products_56 : decode cX10_products 56 = .ok (.imul, 1) := by decide +kernel
theorem dX10_products_57 : decode cX10_products 57 = .ok (.iload_n 3, 1) := by decide +kernel
theorem dX10_products_58 : decode cX10_products 58 = .ok (.imul, 1) := by decide +kernel
theorem dX10_products_59 : decode cX10_products 59 = .ok (.iadd, 1) := by decide +kernel
theorem dX10_products_60 : decode cX10_products 60 = .ok (.aload_n 0, 1) := by decide +kernel
theorem dX10_products_61 : decode cX10_products 61 = .ok (.getfield 13, 3) := by decide +kernel
theorem dX10_products_64 : decode cX10_products 64 = .ok (.iload 5, 2) := by decide +kernel
theorem dX10_products_66 : decode cX10_products 66 = .ok (.iconst 4, 1) := by decide +kernel
theorem dX10_products_67 : decode cX10_products 67 = .ok (.iadd, 1) := by decide +kernel
theorem dX10_products_68 : decode cX10_products 68 = .ok (.iaload, 1) := by decide +kernel
theorem dX10_products_69 : decode cX10_products 69 = .ok (.iload_n 3, 1) := by decide +kernel
theorem dX10_products_70 : decode cX10_products 70 = .ok (.imul, 1) := by decide +kernel
theorem dX10_products_71 : decode cX10_products 71 = .ok (.iload 4, 2) := by decide +kernel
theorem dX10_products_73 : decode cX10_products 73 = .ok (.imul, 1) := by decide +kernel
theorem dX10_products_74 : decode cX10_products 74 = .ok (.iadd, 1) := by decide +kernel
theorem dX10_products_75 : decode cX10_products 75 = .ok (.aload_n 0, 1) := by decide +kernel
theorem dX10_products_76 : decode cX10_products 76 = .ok (.getfield 13, 3) := by decide +kernel
theorem dX10_products_79 : decode cX10_products 79 = .ok (.iload 5, 2) := by decide +kernel
theorem dX10_products_81 : decode cX10_products 81 = .ok (.iconst 5, 1) := by decide +kernel
theorem dX10_products_82 : decode cX10_products 82 = .ok (.iadd, 1) := by decide +kernel
theorem dX10_products_83 : decode cX10_products 83 = .ok (.iaload, 1) := by decide +kernel
theorem dX10_products_84 : decode cX10_products 84 = .ok (.iload 4, 2) := by decide +kernel
theorem dX10_products_86 : decode cX10_products 86 = .ok (.imul, 1) := by decide +kernel
theorem dX10_products_87 : decode cX10_products 87 = .ok (.iload 4, 2) := by decide +kernel
theorem dX10_products_89 : decode cX10_products 89 = .ok (.imul, 1) := by decide +kernel
theorem dX10_products_90 : decode cX10_products 90 = .ok (.iadd, 1) := by decide +kernel
theorem dX10_products_91 : decode cX10_products 91 = .ok (.ireturn, 1) := by decide +kernel
theorem dX10_readingOf_0 : decode cX10_readingOf 0 = .ok (.bipush 100, 2) := by decide +kernel
theorem dX10_readingOf_2 : decode cX10_readingOf 2 = .ok (.aload_n 0, 1) := by decide +kernel
theorem dX10_readingOf_3 : decode cX10_readingOf 3 = .ok (.getfield 7, 3) := by decide +kernel
theorem dX10_readingOf_6 : decode cX10_readingOf 6 = .ok (.iconst 3, 1) := by decide +kernel
theorem dX10_readingOf_7 : decode cX10_readingOf 7 = .ok (.iload_n 1, 1) := by decide +kernel
theorem dX10_readingOf_8 : decode cX10_readingOf 8 = .ok (.imul, 1) := by decide +kernel
theorem dX10_readingOf_9 : decode cX10_readingOf 9 = .ok (.iaload, 1) := by decide +kernel
theorem dX10_readingOf_10 : decode cX10_readingOf 10 = .ok (.iload_n 2, 1) := by decide +kernel
theorem dX10_readingOf_11 : decode cX10_readingOf 11 = .ok (.imul, 1) := by decide +kernel
theorem dX10_readingOf_12 : decode cX10_readingOf 12 = .ok (.aload_n 0, 1) := by decide +kernel
theorem dX10_readingOf_13 : decode cX10_readingOf 13 = .ok (.getfield 7, 3) := by decide +kernel
theorem dX10_readingOf_16 : decode cX10_readingOf 16 = .ok (.iconst 3, 1) := by decide +kernel
theorem dX10_readingOf_17 : decode cX10_readingOf 17 = .ok (.iload_n 1, 1) := by decide +kernel
theorem dX10_readingOf_18 : decode cX10_readingOf 18 = .ok (.imul, 1) := by decide +kernel
theorem dX10_readingOf_19 : decode cX10_readingOf 19 = .ok (.iconst 1, 1) := by decide +kernel
theorem dX10_readingOf_20 : decode cX10_readingOf 20 = .ok (.iadd, 1) := by decide +kernel
theorem dX10_readingOf_21 : decode cX10_readingOf 21 = .ok (.iaload, 1) := by decide +kernel
theorem dX10_readingOf_22 : decode cX10_readingOf 22 = .ok (.iload_n 3, 1) := by decide +kernel
theorem dX10_readingOf_23 : decode cX10_readingOf 23 = .ok (.imul, 1) := by decide +kernel
theorem dX10_readingOf_24 : decode cX10_readingOf 24 = .ok (.iadd, 1) := by decide +kernel
theorem dX10_readingOf_25 : decode cX10_readingOf 25 = .ok (.aload_n 0, 1) := by decide +kernel
theorem dX10_readingOf_26 : decode cX10_readingOf 26 = .ok (.getfield 7, 3) := by decide +kernel
theorem dX10_readingOf_29 : decode cX10_readingOf 29 = .ok (.iconst 3, 1) := by decide +kernel
theorem dX10_readingOf_30 : decode cX10_readingOf 30 = .ok (.iload_n 1, 1) := by decide +kernel
theorem dX10_readingOf_31 : decode cX10_readingOf 31 = .ok (.imul, 1) := by decide +kernel
theorem dX10_readingOf_32 : decode cX10_readingOf 32 = .ok (.iconst 2, 1) := by decide +kernel
theorem dX10_readingOf_33 : decode cX10_readingOf 33 = .ok (.iadd, 1) := by decide +kernel
theorem dX10_readingOf_34 : decode cX10_readingOf 34 = .ok (.iaload, 1) := by decide +kernel
theorem dX10_readingOf_35 : decode cX10_readingOf 35 = .ok (.iload 4, 2) := by decide +kernel
theorem dX10_readingOf_37 : decode cX10_readingOf 37 = .ok (.imul, 1) := by decide +kernel
theorem dX10_readingOf_38 : decode cX10_readingOf 38 = .ok (.iadd, 1) := by decide +kernel
theorem dX10_readingOf_39 : decode cX10_readingOf 39 = .ok (.imul, 1) := by decide +kernel
theorem dX10_readingOf_40 : decode cX10_readingOf 40 = .ok (.aload_n 0, 1) := by decide +kernel
theorem dX10_readingOf_41 : decode cX10_readingOf 41 = .ok (.iload_n 1, 1) := by decide +kernel
theorem dX10_readingOf_42 : decode cX10_readingOf 42 = .ok (.iload_n 2, 1) := by decide +kernel
theorem dX10_readingOf_43 : decode cX10_readingOf 43 = .ok (.iload_n 3, 1) := by decide +kernel
theorem dX10_readingOf_44 : decode cX10_readingOf 44 = .ok (.iload 4, 2) := by decide +kernel
theorem dX10_readingOf_46 : decode cX10_readingOf 46 = .ok (.invokevirtual 134, 3) := by decide +kernel
theorem dX10_readingOf_49 : decode cX10_readingOf 49 = .ok (.iadd, 1) := by decide +kernel
theorem dX10_readingOf_50 : decode cX10_readingOf 50 = .ok (.ireturn, 1) := by decide +kernel
theorem dX10_reading_0 : decode cX10_reading 0 = .ok (.iload_n 1, 1) := by decide +kernel
theorem dX10_reading_1 : decode cX10_reading 1 = .ok (.i2l, 1) := by decide +kernel
theorem dX10_reading_2 : decode cX10_reading 2 = .ok (.lconst 0, 1) := by decide +kernel
theorem dX10_reading_3 : decode cX10_reading 3 = .ok (.ldc2_w 122, 3) := by decide +kernel
theorem dX10_reading_6 : decode cX10_reading 6 = .ok (.invokestatic 114, 3) := by decide +kernel
theorem dX10_reading_9 : decode cX10_reading 9 = .ok (.ifCond .eq 37, 3) := by decide +kernel
theorem dX10_reading_12 : decode cX10_reading 12 = .ok (.iload_n 2, 1) := by decide +kernel
theorem dX10_reading_13 : decode cX10_reading 13 = .ok (.invokestatic 138, 3) := by decide +kernel
theorem dX10_reading_16 : decode cX10_reading 16 = .ok (.ifCond .eq 30, 3) := by decide +kernel
theorem dX10_reading_19 : decode cX10_reading 19 = .ok (.iload_n 3, 1) := by decide +kernel
theorem dX10_reading_20 : decode cX10_reading 20 = .ok (.invokestatic 138, 3) := by decide +kernel
theorem dX10_reading_23 : decode cX10_reading 23 = .ok (.ifCond .eq 23, 3) := by decide +kernel
theorem dX10_reading_26 : decode cX10_reading 26 = .ok (.iload 4, 2) := by decide +kernel
theorem dX10_reading_28 : decode cX10_reading 28 = .ok (.invokestatic 138, 3) := by decide +kernel
theorem dX10_reading_31 : decode cX10_reading 31 = .ok (.ifCond .eq 15, 3) := by decide +kernel
theorem dX10_reading_34 : decode cX10_reading 34 = .ok (.aload_n 0, 1) := by decide +kernel
theorem dX10_reading_35 : decode cX10_reading 35 = .ok (.iload_n 1, 1) := by decide +kernel
theorem dX10_reading_36 : decode cX10_reading 36 = .ok (.iload_n 2, 1) := by decide +kernel
theorem dX10_reading_37 : decode cX10_reading 37 = .ok (.iload_n 3, 1) := by decide +kernel
theorem dX10_reading_38 : decode cX10_reading 38 = .ok (.iload 4, 2) := by decide +kernel
theorem dX10_reading_40 : decode cX10_reading 40 = .ok (.invokevirtual 142, 3) := by decide +kernel
theorem dX10_reading_43 : decode cX10_reading 43 = .ok (.goto 5, 3) := by decide +kernel
theorem dX10_reading_46 : decode cX10_reading 46 = .ok (.ldc 145, 2) := by decide +kernel
theorem dX10_reading_48 : decode cX10_reading 48 = .ok (.ireturn, 1) := by decide +kernel
theorem dX10_determinant_0 : decode cX10_determinant 0 = .ok (.aload_n 0, 1) := by decide +kernel
theorem dX10_determinant_1 : decode cX10_determinant 1 = .ok (.getfield 16, 3) := by decide +kernel
theorem dX10_determinant_4 : decode cX10_determinant 4 = .ok (.iconst 0, 1) := by decide +kernel
theorem dX10_determinant_5 : decode cX10_determinant 5 = .ok (.laload, 1) := by decide +kernel
theorem dX10_determinant_6 : decode cX10_determinant 6 = .ok (.aload_n 0, 1) := by decide +kernel
theorem dX10_determinant_7 : decode cX10_determinant 7 = .ok (.getfield 16, 3) := by decide +kernel
theorem dX10_determinant_10 : decode cX10_determinant 10 = .ok (.iconst 4, 1) := by decide +kernel
theorem dX10_determinant_11 : decode cX10_determinant 11 = .ok (.laload, 1) := by decide +kernel
theorem dX10_determinant_12 : decode cX10_determinant 12 = .ok (.aload_n 0, 1) := by decide +kernel
theorem dX10_determinant_13 : decode cX10_determinant 13 = .ok (.getfield 16, 3) := by decide +kernel
theorem dX10_determinant_16 : decode cX10_determinant 16 = .ok (.bipush 8, 2) := by decide +kernel
theorem dX10_determinant_18 : decode cX10_determinant 18 = .ok (.laload, 1) := by decide +kernel
theorem dX10_determinant_19 : decode cX10_determinant 19 = .ok (.lmul, 1) := by decide +kernel
theorem dX10_determinant_20 : decode cX10_determinant 20 = .ok (.aload_n 0, 1) := by decide +kernel
theorem dX10_determinant_21 : decode cX10_determinant 21 = .ok (.getfield 16, 3) := by decide +kernel
theorem dX10_determinant_24 : decode cX10_determinant 24 = .ok (.iconst 5, 1) := by decide +kernel
theorem dX10_determinant_25 : decode cX10_determinant 25 = .ok (.laload, 1) := by decide +kernel
theorem dX10_determinant_26 : decode cX10_determinant 26 = .ok (.aload_n 0, 1) := by decide +kernel
theorem dX10_determinant_27 : decode cX10_determinant 27 = .ok (.getfield 16, 3) := by decide +kernel
theorem dX10_determinant_30 : decode cX10_determinant 30 = .ok (.bipush 7, 2) := by decide +kernel
theorem dX10_determinant_32 : decode cX10_determinant 32 = .ok (.laload, 1) := by decide +kernel
theorem dX10_determinant_33 : decode cX10_determinant 33 = .ok (.lmul, 1) := by decide +kernel
theorem dX10_determinant_34 : decode cX10_determinant 34 = .ok (.lsub, 1) := by decide +kernel
theorem dX10_determinant_35 : decode cX10_determinant 35 = .ok (.lmul, 1) := by decide +kernel
theorem dX10_determinant_36 : decode cX10_determinant 36 = .ok (.aload_n 0, 1) := by decide +kernel
theorem dX10_determinant_37 : decode cX10_determinant 37 = .ok (.getfield 16, 3) := by decide +kernel
theorem dX10_determinant_40 : decode cX10_determinant 40 = .ok (.iconst 1, 1) := by decide +kernel
theorem dX10_determinant_41 : decode cX10_determinant 41 = .ok (.laload, 1) := by decide +kernel
theorem dX10_determinant_42 : decode cX10_determinant 42 = .ok (.aload_n 0, 1) := by decide +kernel
theorem dX10_determinant_43 : decode cX10_determinant 43 = .ok (.getfield 16, 3) := by decide +kernel
theorem dX10_determinant_46 : decode cX10_determinant 46 = .ok (.iconst 3, 1) := by decide +kernel
theorem dX10_determinant_47 : decode cX10_determinant 47 = .ok (.laload, 1) := by decide +kernel
theorem dX10_determinant_48 : decode cX10_determinant 48 = .ok (.aload_n 0, 1) := by decide +kernel
theorem dX10_determinant_49 : decode cX10_determinant 49 = .ok (.getfield 16, 3) := by decide +kernel
theorem dX10_determinant_52 : decode cX10_determinant 52 = .ok (.bipush 8, 2) := by decide +kernel
theorem dX10_determinant_54 : decode cX10_determinant 54 = .ok (.laload, 1) := by decide +kernel
theorem dX10_determinant_55 : decode cX10_determinant 55 = .ok (.lmul, 1) := by decide +kernel
theorem dX10_determinant_56 : decode cX10_determinant 56 = .ok (.aload_n 0, 1) := by decide +kernel
theorem dX10_determinant_57 : decode cX10_determinant 57 = .ok (.getfield 16, 3) := by decide +kernel
theorem dX10_determinant_60 : decode cX10_determinant 60 = .ok (.iconst 5, 1) := by decide +kernel
theorem dX10_determinant_61 : decode cX10_determinant 61 = .ok (.laload, 1) := by decide +kernel
theorem dX10_determinant_62 : decode cX10_determinant 62 = .ok (.aload_n 0, 1) := by decide +kernel
theorem dX10_determinant_63 : decode cX10_determinant 63 = .ok (.getfield 16, 3) := by decide +kernel
theorem dX10_determinant_66 : decode cX10_determinant 66 = .ok (.bipush 6, 2) := by decide +kernel
theorem dX10_determinant_68 : decode cX10_determinant 68 = .ok (.laload, 1) := by decide +kernel
theorem dX10_determinant_69 : decode cX10_determinant 69 = .ok (.lmul, 1) := by decide +kernel
theorem dX10_determinant_70 : decode cX10_determinant 70 = .ok (.lsub, 1) := by decide +kernel
theorem dX10_determinant_71 : decode cX10_determinant 71 = .ok (.lmul, 1) := by decide +kernel
theorem dX10_determinant_72 : decode cX10_determinant 72 = .ok (.lsub, 1) := by decide +kernel
theorem dX10_determinant_73 : decode cX10_determinant 73 = .ok (.aload_n 0, 1) := by decide +kernel
theorem dX10_determinant_74 : decode cX10_determinant 74 = .ok (.getfield 16, 3) := by decide +kernel
theorem dX10_determinant_77 : decode cX10_determinant 77 = .ok (.iconst 2, 1) := by decide +kernel
theorem dX10_determinant_78 : decode cX10_determinant 78 = .ok (.laload, 1) := by decide +kernel
theorem dX10_determinant_79 : decode cX10_determinant 79 = .ok (.aload_n 0, 1) := by decide +kernel
theorem dX10_determinant_80 : decode cX10_determinant 80 = .ok (.getfield 16, 3) := by decide +kernel
theorem dX10_determinant_83 : decode cX10_determinant 83 = .ok (.iconst 3, 1) := by decide +kernel
theorem dX10_determinant_84 : decode cX10_determinant 84 = .ok (.laload, 1) := by decide +kernel
theorem dX10_determinant_85 : decode cX10_determinant 85 = .ok (.aload_n 0, 1) := by decide +kernel
theorem dX10_determinant_86 : decode cX10_determinant 86 = .ok (.getfield 16, 3) := by decide +kernel
theorem dX10_determinant_89 : decode cX10_determinant 89 = .ok (.bipush 7, 2) := by decide +kernel
theorem dX10_determinant_91 : decode cX10_determinant 91 = .ok (.laload, 1) := by decide +kernel
theorem dX10_determinant_92 : decode cX10_determinant 92 = .ok (.lmul, 1) := by decide +kernel
theorem dX10_determinant_93 : decode cX10_determinant 93 = .ok (.aload_n 0, 1) := by decide +kernel
theorem dX10_determinant_94 : decode cX10_determinant 94 = .ok (.getfield 16, 3) := by decide +kernel
theorem dX10_determinant_97 : decode cX10_determinant 97 = .ok (.iconst 4, 1) := by decide +kernel
theorem dX10_determinant_98 : decode cX10_determinant 98 = .ok (.laload, 1) := by decide +kernel
theorem dX10_determinant_99 : decode cX10_determinant 99 = .ok (.aload_n 0, 1) := by decide +kernel
theorem dX10_determinant_100 : decode cX10_determinant 100 = .ok (.getfield 16, 3) := by decide +kernel
theorem dX10_determinant_103 : decode cX10_determinant 103 = .ok (.bipush 6, 2) := by decide +kernel
theorem dX10_determinant_105 : decode cX10_determinant 105 = .ok (.laload, 1) := by decide +kernel
theorem dX10_determinant_106 : decode cX10_determinant 106 = .ok (.lmul, 1) := by decide +kernel
theorem dX10_determinant_107 : decode cX10_determinant 107 = .ok (.lsub, 1) := by decide +kernel
theorem dX10_determinant_108 : decode cX10_determinant 108 = .ok (.lmul, 1) := by decide +kernel
theorem dX10_determinant_109 : decode cX10_determinant 109 = .ok (.ladd, 1) := by decide +kernel
theorem dX10_determinant_110 : decode cX10_determinant 110 = .ok (.lreturn, 1) := by decide +kernel
theorem dX10_replaced_0 : decode cX10_replaced 0 = .ok (.aload_n 0, 1) := by decide +kernel
theorem dX10_replaced_1 : decode cX10_replaced 1 = .ok (.getfield 16, 3) := by decide +kernel
theorem dX10_replaced_4 : decode cX10_replaced 4 = .ok (.iload_n 1, 1) := by decide +kernel
theorem dX10_replaced_5 : decode cX10_replaced 5 = .ok (.laload, 1) := by decide +kernel
theorem dX10_replaced_6 : decode cX10_replaced 6 = .ok (.lstore_n 2, 1) := by decide +kernel
theorem dX10_replaced_7 : decode cX10_replaced 7 = .ok (.aload_n 0, 1) := by decide +kernel
theorem dX10_replaced_8 : decode cX10_replaced 8 = .ok (.getfield 16, 3) := by decide +kernel
theorem dX10_replaced_11 : decode cX10_replaced 11 = .ok (.iconst 3, 1) := by decide +kernel
theorem dX10_replaced_12 : decode cX10_replaced 12 = .ok (.iload_n 1, 1) := by decide +kernel
theorem dX10_replaced_13 : decode cX10_replaced 13 = .ok (.iadd, 1) := by decide +kernel
theorem dX10_replaced_14 : decode cX10_replaced 14 = .ok (.laload, 1) := by decide +kernel
theorem dX10_replaced_15 : decode cX10_replaced 15 = .ok (.lstore 4, 2) := by decide +kernel
theorem dX10_replaced_17 : decode cX10_replaced 17 = .ok (.aload_n 0, 1) := by decide +kernel
theorem dX10_replaced_18 : decode cX10_replaced 18 = .ok (.getfield 16, 3) := by decide +kernel
theorem dX10_replaced_21 : decode cX10_replaced 21 = .ok (.bipush 6, 2) := by decide +kernel
theorem dX10_replaced_23 : decode cX10_replaced 23 = .ok (.iload_n 1, 1) := by decide +kernel
theorem dX10_replaced_24 : decode cX10_replaced 24 = .ok (.iadd, 1) := by decide +kernel
theorem dX10_replaced_25 : decode cX10_replaced 25 = .ok (.laload, 1) := by decide +kernel
theorem dX10_replaced_26 : decode cX10_replaced 26 = .ok (.lstore 6, 2) := by decide +kernel
theorem dX10_replaced_28 : decode cX10_replaced 28 = .ok (.aload_n 0, 1) := by decide +kernel
theorem dX10_replaced_29 : decode cX10_replaced 29 = .ok (.getfield 16, 3) := by decide +kernel
theorem dX10_replaced_32 : decode cX10_replaced 32 = .ok (.iload_n 1, 1) := by decide +kernel
theorem dX10_replaced_33 : decode cX10_replaced 33 = .ok (.aload_n 0, 1) := by decide +kernel
theorem dX10_replaced_34 : decode cX10_replaced 34 = .ok (.getfield 20, 3) := by decide +kernel
theorem dX10_replaced_37 : decode cX10_replaced 37 = .ok (.iconst 0, 1) := by decide +kernel
theorem dX10_replaced_38 : decode cX10_replaced 38 = .ok (.laload, 1) := by decide +kernel
theorem dX10_replaced_39 : decode cX10_replaced 39 = .ok (.lastore, 1) := by decide +kernel
theorem dX10_replaced_40 : decode cX10_replaced 40 = .ok (.aload_n 0, 1) := by decide +kernel
theorem dX10_replaced_41 : decode cX10_replaced 41 = .ok (.getfield 16, 3) := by decide +kernel
theorem dX10_replaced_44 : decode cX10_replaced 44 = .ok (.iconst 3, 1) := by decide +kernel
theorem dX10_replaced_45 : decode cX10_replaced 45 = .ok (.iload_n 1, 1) := by decide +kernel
theorem dX10_replaced_46 : decode cX10_replaced 46 = .ok (.iadd, 1) := by decide +kernel
theorem dX10_replaced_47 : decode cX10_replaced 47 = .ok (.aload_n 0, 1) := by decide +kernel
theorem dX10_replaced_48 : decode cX10_replaced 48 = .ok (.getfield 20, 3) := by decide +kernel
theorem dX10_replaced_51 : decode cX10_replaced 51 = .ok (.iconst 1, 1) := by decide +kernel
theorem dX10_replaced_52 : decode cX10_replaced 52 = .ok (.laload, 1) := by decide +kernel
theorem dX10_replaced_53 : decode cX10_replaced 53 = .ok (.lastore, 1) := by decide +kernel
theorem dX10_replaced_54 : decode cX10_replaced 54 = .ok (.aload_n 0, 1) := by decide +kernel
theorem dX10_replaced_55 : decode cX10_replaced 55 = .ok (.getfield 16, 3) := by decide +kernel
theorem dX10_replaced_58 : decode cX10_replaced 58 = .ok (.bipush 6, 2) := by decide +kernel
theorem dX10_replaced_60 : decode cX10_replaced 60 = .ok (.iload_n 1, 1) := by decide +kernel
theorem dX10_replaced_61 : decode cX10_replaced 61 = .ok (.iadd, 1) := by decide +kernel
theorem dX10_replaced_62 : decode cX10_replaced 62 = .ok (.aload_n 0, 1) := by decide +kernel
theorem dX10_replaced_63 : decode cX10_replaced 63 = .ok (.getfield 20, 3) := by decide +kernel
theorem dX10_replaced_66 : decode cX10_replaced 66 = .ok (.iconst 2, 1) := by decide +kernel
theorem dX10_replaced_67 : decode cX10_replaced 67 = .ok (.laload, 1) := by decide +kernel
theorem dX10_replaced_68 : decode cX10_replaced 68 = .ok (.lastore, 1) := by decide +kernel
theorem dX10_replaced_69 : decode cX10_replaced 69 = .ok (.aload_n 0, 1) := by decide +kernel
theorem dX10_replaced_70 : decode cX10_replaced 70 = .ok (.invokevirtual 146, 3) := by decide +kernel
theorem dX10_replaced_73 : decode cX10_replaced 73 = .ok (.lstore 8, 2) := by decide +kernel
theorem dX10_replaced_75 : decode cX10_replaced 75 = .ok (.aload_n 0, 1) := by decide +kernel
theorem dX10_replaced_76 : decode cX10_replaced 76 = .ok (.getfield 16, 3) := by decide +kernel
theorem dX10_replaced_79 : decode cX10_replaced 79 = .ok (.iload_n 1, 1) := by decide +kernel
theorem dX10_replaced_80 : decode cX10_replaced 80 = .ok (.lload_n 2, 1) := by decide +kernel
theorem dX10_replaced_81 : decode cX10_replaced 81 = .ok (.lastore, 1) := by decide +kernel
theorem dX10_replaced_82 : decode cX10_replaced 82 = .ok (.aload_n 0, 1) := by decide +kernel
theorem dX10_replaced_83 : decode cX10_replaced 83 = .ok (.getfield 16, 3) := by decide +kernel
theorem dX10_replaced_86 : decode cX10_replaced 86 = .ok (.iconst 3, 1) := by decide +kernel
theorem dX10_replaced_87 : decode cX10_replaced 87 = .ok (.iload_n 1, 1) := by decide +kernel
theorem dX10_replaced_88 : decode cX10_replaced 88 = .ok (.iadd, 1) := by decide +kernel
theorem dX10_replaced_89 : decode cX10_replaced 89 = .ok (.lload 4, 2) := by decide +kernel
theorem dX10_replaced_91 : decode cX10_replaced 91 = .ok (.lastore, 1) := by decide +kernel
theorem dX10_replaced_92 : decode cX10_replaced 92 = .ok (.aload_n 0, 1) := by decide +kernel
theorem dX10_replaced_93 : decode cX10_replaced 93 = .ok (.getfield 16, 3) := by decide +kernel
theorem dX10_replaced_96 : decode cX10_replaced 96 = .ok (.bipush 6, 2) := by decide +kernel
theorem dX10_replaced_98 : decode cX10_replaced 98 = .ok (.iload_n 1, 1) := by decide +kernel
theorem dX10_replaced_99 : decode cX10_replaced 99 = .ok (.iadd, 1) := by decide +kernel
theorem dX10_replaced_100 : decode cX10_replaced 100 = .ok (.lload 6, 2) := by decide +kernel
theorem dX10_replaced_102 : decode cX10_replaced 102 = .ok (.lastore, 1) := by decide +kernel
theorem dX10_replaced_103 : decode cX10_replaced 103 = .ok (.lload 8, 2) := by decide +kernel
theorem dX10_replaced_105 : decode cX10_replaced 105 = .ok (.lreturn, 1) := by decide +kernel
theorem dX10_back_0 : decode cX10_back 0 = .ok (.iload_n 1, 1) := by decide +kernel
theorem dX10_back_1 : decode cX10_back 1 = .ok (.invokestatic 150, 3) := by decide +kernel
theorem dX10_back_4 : decode cX10_back 4 = .ok (.ifCond .eq 30, 3) := by decide +kernel
theorem dX10_back_7 : decode cX10_back 7 = .ok (.iload_n 2, 1) := by decide +kernel
theorem dX10_back_8 : decode cX10_back 8 = .ok (.invokestatic 150, 3) := by decide +kernel
theorem dX10_back_11 : decode cX10_back 11 = .ok (.ifCond .eq 23, 3) := by decide +kernel
theorem dX10_back_14 : decode cX10_back 14 = .ok (.iload_n 3, 1) := by decide +kernel
theorem dX10_back_15 : decode cX10_back 15 = .ok (.invokestatic 150, 3) := by decide +kernel
theorem dX10_back_18 : decode cX10_back 18 = .ok (.ifCond .eq 16, 3) := by decide +kernel
theorem dX10_back_21 : decode cX10_back 21 = .ok (.iload 4, 2) := by decide +kernel
theorem dX10_back_23 : decode cX10_back 23 = .ok (.i2l, 1) := by decide +kernel
theorem dX10_back_24 : decode cX10_back 24 = .ok (.lconst 1, 1) := by decide +kernel
theorem dX10_back_25 : decode cX10_back 25 = .ok (.ldc2_w 120, 3) := by decide +kernel
theorem dX10_back_28 : decode cX10_back 28 = .ok (.invokestatic 114, 3) := by decide +kernel
theorem dX10_back_31 : decode cX10_back 31 = .ok (.ifCond .ne 5, 3) := by decide +kernel
theorem dX10_back_34 : decode cX10_back 34 = .ok (.iconst (-1), 1) := by decide +kernel
theorem dX10_back_35 : decode cX10_back 35 = .ok (.ireturn, 1) := by decide +kernel
theorem dX10_back_36 : decode cX10_back 36 = .ok (.iconst 0, 1) := by decide +kernel
theorem dX10_back_37 : decode cX10_back 37 = .ok (.istore 5, 2) := by decide +kernel
theorem dX10_back_39 : decode cX10_back 39 = .ok (.iload 5, 2) := by decide +kernel
theorem dX10_back_41 : decode cX10_back 41 = .ok (.bipush 9, 2) := by decide +kernel
theorem dX10_back_43 : decode cX10_back 43 = .ok (.if_icmp .ge 24, 3) := by decide +kernel
theorem dX10_back_46 : decode cX10_back 46 = .ok (.aload_n 0, 1) := by decide +kernel
theorem dX10_back_47 : decode cX10_back 47 = .ok (.getfield 16, 3) := by decide +kernel
theorem dX10_back_50 : decode cX10_back 50 = .ok (.iload 5, 2) := by decide +kernel
theorem dX10_back_52 : decode cX10_back 52 = .ok (.aload_n 0, 1) := by decide +kernel
theorem dX10_back_53 : decode cX10_back 53 = .ok (.getfield 7, 3) := by decide +kernel
theorem dX10_back_56 : decode cX10_back 56 = .ok (.iload 5, 2) := by decide +kernel
theorem dX10_back_58 : decode cX10_back 58 = .ok (.iaload, 1) := by decide +kernel
theorem dX10_back_59 : decode cX10_back 59 = .ok (.i2l, 1) := by decide +kernel
theorem dX10_back_60 : decode cX10_back 60 = .ok (.lastore, 1) := by decide +kernel
theorem dX10_back_61 : decode cX10_back 61 = .ok (.iinc 5 1, 3) := by decide +kernel
theorem dX10_back_64 : decode cX10_back 64 = .ok (.goto (-25), 3) := by decide +kernel
theorem dX10_back_67 : decode cX10_back 67 = .ok (.aload_n 0, 1) := by decide +kernel
theorem dX10_back_68 : decode cX10_back 68 = .ok (.invokevirtual 146, 3) := by decide +kernel
theorem dX10_back_71 : decode cX10_back 71 = .ok (.lstore 5, 2) := by decide +kernel
theorem dX10_back_73 : decode cX10_back 73 = .ok (.lload 5, 2) := by decide +kernel
theorem dX10_back_75 : decode cX10_back 75 = .ok (.lconst 0, 1) := by decide +kernel
theorem dX10_back_76 : decode cX10_back 76 = .ok (.lcmp, 1) := by decide +kernel
theorem dX10_back_77 : decode cX10_back 77 = .ok (.ifCond .ne 6, 3) := by decide +kernel
theorem dX10_back_80 : decode cX10_back 80 = .ok (.bipush (-2), 2) := by decide +kernel
theorem dX10_back_82 : decode cX10_back 82 = .ok (.ireturn, 1) := by decide +kernel
theorem dX10_back_83 : decode cX10_back 83 = .ok (.iconst 0, 1) := by decide +kernel
theorem dX10_back_84 : decode cX10_back 84 = .ok (.istore 7, 2) := by decide +kernel
theorem dX10_back_86 : decode cX10_back 86 = .ok (.iload 7, 2) := by decide +kernel
theorem dX10_back_88 : decode cX10_back 88 = .ok (.iconst 3, 1) := by decide +kernel
theorem dX10_back_89 : decode cX10_back 89 = .ok (.if_icmp .ge 17, 3) := by decide +kernel
theorem dX10_back_92 : decode cX10_back 92 = .ok (.aload_n 0, 1) := by decide +kernel
theorem dX10_back_93 : decode cX10_back 93 = .ok (.getfield 23, 3) := by decide +kernel
theorem dX10_back_96 : decode cX10_back 96 = .ok (.iload 7, 2) := by decide +kernel
theorem dX10_back_98 : decode cX10_back 98 = .ok (.iconst 0, 1) := by decide +kernel
theorem dX10_back_99 : decode cX10_back 99 = .ok (.iastore, 1) := by decide +kernel
theorem dX10_back_100 : decode cX10_back 100 = .ok (.iinc 7 1, 3) := by decide +kernel
theorem dX10_back_103 : decode cX10_back 103 = .ok (.goto (-17), 3) := by decide +kernel
theorem dX10_back_106 : decode cX10_back 106 = .ok (.aload_n 0, 1) := by decide +kernel
theorem dX10_back_107 : decode cX10_back 107 = .ok (.iconst 0, 1) := by decide +kernel
theorem dX10_back_108 : decode cX10_back 108 = .ok (.putfield 153, 3) := by decide +kernel
theorem dX10_back_111 : decode cX10_back 111 = .ok (.iconst 0, 1) := by decide +kernel
theorem dX10_back_112 : decode cX10_back 112 = .ok (.istore 7, 2) := by decide +kernel
theorem dX10_back_114 : decode cX10_back 114 = .ok (.aload_n 0, 1) := by decide +kernel
theorem dX10_back_115 : decode cX10_back 115 = .ok (.getfield 153, 3) := by decide +kernel
theorem dX10_back_118 : decode cX10_back 118 = .ok (.ifCond .ne 200, 3) := by decide +kernel
theorem dX10_back_121 : decode cX10_back 121 = .ok (.iload 7, 2) := by decide +kernel
theorem dX10_back_123 : decode cX10_back 123 = .ok (.iload 4, 2) := by decide +kernel
theorem dX10_back_125 : decode cX10_back 125 = .ok (.if_icmp .ge 193, 3) := by decide +kernel
theorem dX10_back_128 : decode cX10_back 128 = .ok (.iconst 0, 1) := by decide +kernel
theorem dX10_back_129 : decode cX10_back 129 = .ok (.istore 8, 2) := by decide +kernel
theorem dX10_back_131 : decode cX10_back 131 = .ok (.iload 8, 2) := by decide +kernel
theorem dX10_back_133 : decode cX10_back 133 = .ok (.iconst 3, 1) := by decide +kernel
theorem dX10_back_134 : decode cX10_back 134 = .ok (.if_icmp .ge 62, 3) := by decide +kernel
theorem dX10_back_137 : decode cX10_back 137 = .ok (.aload_n 0, 1) := by decide +kernel
theorem dX10_back_138 : decode cX10_back 138 = .ok (.getfield 20, 3) := by decide +kernel
theorem dX10_back_141 : decode cX10_back 141 = .ok (.iload 8, 2) := by decide +kernel
theorem dX10_back_143 : decode cX10_back 143 = .ok (.iload 8, 2) := by decide +kernel
theorem dX10_back_145 : decode cX10_back 145 = .ok (.ifCond .ne 7, 3) := by decide +kernel
theorem dX10_back_148 : decode cX10_back 148 = .ok (.iload_n 1, 1) := by decide +kernel
theorem dX10_back_149 : decode cX10_back 149 = .ok (.goto 14, 3) := by decide +kernel
theorem dX10_back_152 : decode cX10_back 152 = .ok (.iload 8, 2) := by decide +kernel
theorem dX10_back_154 : decode cX10_back 154 = .ok (.iconst 1, 1) := by decide +kernel
theorem dX10_back_155 : decode cX10_back 155 = .ok (.if_icmp .ne 7, 3) := by decide +kernel
theorem dX10_back_158 : decode cX10_back 158 = .ok (.iload_n 2, 1) := by decide +kernel
theorem dX10_back_159 : decode cX10_back 159 = .ok (.goto 4, 3) := by decide +kernel
theorem dX10_back_162 : decode cX10_back 162 = .ok (.iload_n 3, 1) := by decide +kernel
theorem dX10_back_163 : decode cX10_back 163 = .ok (.aload_n 0, 1) := by decide +kernel
theorem dX10_back_164 : decode cX10_back 164 = .ok (.iload 8, 2) := by decide +kernel
theorem dX10_back_166 : decode cX10_back 166 = .ok (.aload_n 0, 1) := by decide +kernel
theorem dX10_back_167 : decode cX10_back 167 = .ok (.getfield 23, 3) := by decide +kernel
theorem dX10_back_170 : decode cX10_back 170 = .ok (.iconst 0, 1) := by decide +kernel
theorem dX10_back_171 : decode cX10_back 171 = .ok (.iaload, 1) := by decide +kernel
theorem dX10_back_172 : decode cX10_back 172 = .ok (.aload_n 0, 1) := by decide +kernel
theorem dX10_back_173 : decode cX10_back 173 = .ok (.getfield 23, 3) := by decide +kernel
theorem dX10_back_176 : decode cX10_back 176 = .ok (.iconst 1, 1) := by decide +kernel
theorem dX10_back_177 : decode cX10_back 177 = .ok (.iaload, 1) := by decide +kernel
theorem dX10_back_178 : decode cX10_back 178 = .ok (.aload_n 0, 1) := by decide +kernel
theorem dX10_back_179 : decode cX10_back 179 = .ok (.getfield 23, 3) := by decide +kernel
theorem dX10_back_182 : decode cX10_back 182 = .ok (.iconst 2, 1) := by decide +kernel
theorem dX10_back_183 : decode cX10_back 183 = .ok (.iaload, 1) := by decide +kernel
theorem dX10_back_184 : decode cX10_back 184 = .ok (.invokevirtual 134, 3) := by decide +kernel
theorem dX10_back_187 : decode cX10_back 187 = .ok (.isub, 1) := by decide +kernel
theorem dX10_back_188 : decode cX10_back 188 = .ok (.i2l, 1) := by decide +kernel
theorem dX10_back_189 : decode cX10_back 189 = .ok (.lastore, 1) := by decide +kernel
theorem dX10_back_190 : decode cX10_back 190 = .ok (.iinc 8 1, 3) := by decide +kernel
theorem dX10_back_193 : decode cX10_back 193 = .ok (.goto (-62), 3) := by decide +kernel
theorem dX10_back_196 : decode cX10_back 196 = .ok (.aload_n 0, 1) := by decide +kernel
theorem dX10_back_197 : decode cX10_back 197 = .ok (.iconst 1, 1) := by decide +kernel
theorem dX10_back_198 : decode cX10_back 198 = .ok (.putfield 153, 3) := by decide +kernel
theorem dX10_back_201 : decode cX10_back 201 = .ok (.aload_n 0, 1) := by decide +kernel
theorem dX10_back_202 : decode cX10_back 202 = .ok (.iconst 0, 1) := by decide +kernel
theorem dX10_back_203 : decode cX10_back 203 = .ok (.invokevirtual 156, 3) := by decide +kernel
theorem dX10_back_206 : decode cX10_back 206 = .ok (.lload 5, 2) := by decide +kernel
theorem dX10_back_208 : decode cX10_back 208 = .ok (.invokestatic 160, 3) := by decide +kernel
theorem dX10_back_211 : decode cX10_back 211 = .ok (.lstore 8, 2) := by decide +kernel
theorem dX10_back_213 : decode cX10_back 213 = .ok (.aload_n 0, 1) := by decide +kernel
theorem dX10_back_214 : decode cX10_back 214 = .ok (.iconst 1, 1) := by decide +kernel
theorem dX10_back_215 : decode cX10_back 215 = .ok (.invokevirtual 156, 3) := by decide +kernel
theorem dX10_back_218 : decode cX10_back 218 = .ok (.lload 5, 2) := by decide +kernel
theorem dX10_back_220 : decode cX10_back 220 = .ok (.invokestatic 160, 3) := by decide +kernel
theorem dX10_back_223 : decode cX10_back 223 = .ok (.lstore 10, 2) := by decide +kernel
theorem dX10_back_225 : decode cX10_back 225 = .ok (.aload_n 0, 1) := by decide +kernel
theorem dX10_back_226 : decode cX10_back 226 = .ok (.iconst 2, 1) := by decide +kernel
theorem dX10_back_227 : decode cX10_back 227 = .ok (.invokevirtual 156, 3) := by decide +kernel
theorem dX10_back_230 : decode cX10_back 230 = .ok (.lload 5, 2) := by decide +kernel
theorem dX10_back_232 : decode cX10_back 232 = .ok (.invokestatic 160, 3) := by decide +kernel
theorem dX10_back_235 : decode cX10_back 235 = .ok (.lstore 12, 2) := by decide +kernel
theorem dX10_back_237 : decode cX10_back 237 = .ok (.aload_n 0, 1) := by decide +kernel
theorem dX10_back_238 : decode cX10_back 238 = .ok (.lload 8, 2) := by decide +kernel
theorem dX10_back_240 : decode cX10_back 240 = .ok (.aload_n 0, 1) := by decide +kernel
theorem dX10_back_241 : decode cX10_back 241 = .ok (.getfield 23, 3) := by decide +kernel
theorem dX10_back_244 : decode cX10_back 244 = .ok (.iconst 0, 1) := by decide +kernel
theorem dX10_back_245 : decode cX10_back 245 = .ok (.iaload, 1) := by decide +kernel
theorem dX10_back_246 : decode cX10_back 246 = .ok (.i2l, 1) := by decide +kernel
theorem dX10_back_247 : decode cX10_back 247 = .ok (.lcmp, 1) := by decide +kernel
theorem dX10_back_248 : decode cX10_back 248 = .ok (.ifCond .ne 33, 3) := by decide +kernel
theorem dX10_back_251 : decode cX10_back 251 = .ok (.lload 10, 2) := by decide +kernel
theorem dX10_back_253 : decode cX10_back 253 = .ok (.aload_n 0, 1) := by decide +kernel
theorem dX10_back_254 : decode cX10_back 254 = .ok (.getfield 23, 3) := by decide +kernel
theorem dX10_back_257 : decode cX10_back 257 = .ok (.iconst 1, 1) := by decide +kernel
theorem dX10_back_258 : decode cX10_back 258 = .ok (.iaload, 1) := by decide +kernel
theorem dX10_back_259 : decode cX10_back 259 = .ok (.i2l, 1) := by decide +kernel
theorem dX10_back_260 : decode cX10_back 260 = .ok (.lcmp, 1) := by decide +kernel
theorem dX10_back_261 : decode cX10_back 261 = .ok (.ifCond .ne 20, 3) := by decide +kernel
theorem dX10_back_264 : decode cX10_back 264 = .ok (.lload 12, 2) := by decide +kernel
theorem dX10_back_266 : decode cX10_back 266 = .ok (.aload_n 0, 1) := by decide +kernel
theorem dX10_back_267 : decode cX10_back 267 = .ok (.getfield 23, 3) := by decide +kernel
theorem dX10_back_270 : decode cX10_back 270 = .ok (.iconst 2, 1) := by decide +kernel
theorem dX10_back_271 : decode cX10_back 271 = .ok (.iaload, 1) := by decide +kernel
theorem dX10_back_272 : decode cX10_back 272 = .ok (.i2l, 1) := by decide +kernel
theorem dX10_back_273 : decode cX10_back 273 = .ok (.lcmp, 1) := by decide +kernel
theorem dX10_back_274 : decode cX10_back 274 = .ok (.ifCond .ne 7, 3) := by decide +kernel
theorem dX10_back_277 : decode cX10_back 277 = .ok (.iconst 1, 1) := by decide +kernel
theorem dX10_back_278 : decode cX10_back 278 = .ok (.goto 4, 3) := by decide +kernel
theorem dX10_back_281 : decode cX10_back 281 = .ok (.iconst 0, 1) := by decide +kernel
theorem dX10_back_282 : decode cX10_back 282 = .ok (.putfield 153, 3) := by decide +kernel
theorem dX10_back_285 : decode cX10_back 285 = .ok (.aload_n 0, 1) := by decide +kernel
theorem dX10_back_286 : decode cX10_back 286 = .ok (.getfield 23, 3) := by decide +kernel
theorem dX10_back_289 : decode cX10_back 289 = .ok (.iconst 0, 1) := by decide +kernel
theorem dX10_back_290 : decode cX10_back 290 = .ok (.lload 8, 2) := by decide +kernel
theorem dX10_back_292 : decode cX10_back 292 = .ok (.l2i, 1) := by decide +kernel
theorem dX10_back_293 : decode cX10_back 293 = .ok (.iastore, 1) := by decide +kernel
theorem dX10_back_294 : decode cX10_back 294 = .ok (.aload_n 0, 1) := by decide +kernel
theorem dX10_back_295 : decode cX10_back 295 = .ok (.getfield 23, 3) := by decide +kernel
theorem dX10_back_298 : decode cX10_back 298 = .ok (.iconst 1, 1) := by decide +kernel
theorem dX10_back_299 : decode cX10_back 299 = .ok (.lload 10, 2) := by decide +kernel
theorem dX10_back_301 : decode cX10_back 301 = .ok (.l2i, 1) := by decide +kernel
theorem dX10_back_302 : decode cX10_back 302 = .ok (.iastore, 1) := by decide +kernel
theorem dX10_back_303 : decode cX10_back 303 = .ok (.aload_n 0, 1) := by decide +kernel
theorem dX10_back_304 : decode cX10_back 304 = .ok (.getfield 23, 3) := by decide +kernel
theorem dX10_back_307 : decode cX10_back 307 = .ok (.iconst 2, 1) := by decide +kernel
theorem dX10_back_308 : decode cX10_back 308 = .ok (.lload 12, 2) := by decide +kernel
theorem dX10_back_310 : decode cX10_back 310 = .ok (.l2i, 1) := by decide +kernel
theorem dX10_back_311 : decode cX10_back 311 = .ok (.iastore, 1) := by decide +kernel
theorem dX10_back_312 : decode cX10_back 312 = .ok (.iinc 7 1, 3) := by decide +kernel
theorem dX10_back_315 : decode cX10_back 315 = .ok (.goto (-201), 3) := by decide +kernel
theorem dX10_back_318 : decode cX10_back 318 = .ok (.aload_n 0, 1) := by decide +kernel
theorem dX10_back_319 : decode cX10_back 319 = .ok (.iconst 0, 1) := by decide +kernel
theorem dX10_back_320 : decode cX10_back 320 = .ok (.putfield 164, 3) := by decide +kernel
theorem dX10_back_323 : decode cX10_back 323 = .ok (.iconst 0, 1) := by decide +kernel
theorem dX10_back_324 : decode cX10_back 324 = .ok (.istore 8, 2) := by decide +kernel
theorem dX10_back_326 : decode cX10_back 326 = .ok (.iload 8, 2) := by decide +kernel
theorem dX10_back_328 : decode cX10_back 328 = .ok (.iconst 3, 1) := by decide +kernel
theorem dX10_back_329 : decode cX10_back 329 = .ok (.if_icmp .ge 93, 3) := by decide +kernel
theorem dX10_back_332 : decode cX10_back 332 = .ok (.aload_n 0, 1) := by decide +kernel
theorem dX10_back_333 : decode cX10_back 333 = .ok (.iload 8, 2) := by decide +kernel
theorem dX10_back_335 : decode cX10_back 335 = .ok (.aload_n 0, 1) := by decide +kernel
theorem dX10_back_336 : decode cX10_back 336 = .ok (.getfield 23, 3) := by decide +kernel
theorem dX10_back_339 : decode cX10_back 339 = .ok (.iconst 0, 1) := by decide +kernel
theorem dX10_back_340 : decode cX10_back 340 = .ok (.iaload, 1) := by decide +kernel
theorem dX10_back_341 : decode cX10_back 341 = .ok (.aload_n 0, 1) := by decide +kernel
theorem dX10_back_342 : decode cX10_back 342 = .ok (.getfield 23, 3) := by decide +kernel
theorem dX10_back_345 : decode cX10_back 345 = .ok (.iconst 1, 1) := by decide +kernel
theorem dX10_back_346 : decode cX10_back 346 = .ok (.iaload, 1) := by decide +kernel
theorem dX10_back_347 : decode cX10_back 347 = .ok (.aload_n 0, 1) := by decide +kernel
theorem dX10_back_348 : decode cX10_back 348 = .ok (.getfield 23, 3) := by decide +kernel
theorem dX10_back_351 : decode cX10_back 351 = .ok (.iconst 2, 1) := by decide +kernel
theorem dX10_back_352 : decode cX10_back 352 = .ok (.iaload, 1) := by decide +kernel
theorem dX10_back_353 : decode cX10_back 353 = .ok (.invokevirtual 142, 3) := by decide +kernel
theorem dX10_back_356 : decode cX10_back 356 = .ok (.iload 8, 2) := by decide +kernel
theorem dX10_back_358 : decode cX10_back 358 = .ok (.ifCond .ne 7, 3) := by decide +kernel
theorem dX10_back_361 : decode cX10_back 361 = .ok (.iload_n 1, 1) := by decide +kernel
theorem dX10_back_362 : decode cX10_back 362 = .ok (.goto 14, 3) := by decide +kernel
theorem dX10_back_365 : decode cX10_back 365 = .ok (.iload 8, 2) := by decide +kernel
theorem dX10_back_367 : decode cX10_back 367 = .ok (.iconst 1, 1) := by decide +kernel
theorem dX10_back_368 : decode cX10_back 368 = .ok (.if_icmp .ne 7, 3) := by decide +kernel
theorem dX10_back_371 : decode cX10_back 371 = .ok (.iload_n 2, 1) := by decide +kernel
theorem dX10_back_372 : decode cX10_back 372 = .ok (.goto 4, 3) := by decide +kernel
theorem dX10_back_375 : decode cX10_back 375 = .ok (.iload_n 3, 1) := by decide +kernel
theorem dX10_back_376 : decode cX10_back 376 = .ok (.isub, 1) := by decide +kernel
theorem dX10_back_377 : decode cX10_back 377 = .ok (.istore 9, 2) := by decide +kernel
theorem dX10_back_379 : decode cX10_back 379 = .ok (.iload 9, 2) := by decide +kernel
theorem dX10_back_381 : decode cX10_back 381 = .ok (.ifCond .ge 9, 3) := by decide +kernel
theorem dX10_back_384 : decode cX10_back 384 = .ok (.iload 9, 2) := by decide +kernel
theorem dX10_back_386 : decode cX10_back 386 = .ok (.ineg, 1) := by decide +kernel
theorem dX10_back_387 : decode cX10_back 387 = .ok (.goto 5, 3) := by decide +kernel
theorem dX10_back_390 : decode cX10_back 390 = .ok (.iload 9, 2) := by decide +kernel
theorem dX10_back_392 : decode cX10_back 392 = .ok (.istore 9, 2) := by decide +kernel
theorem dX10_back_394 : decode cX10_back 394 = .ok (.aload_n 0, 1) := by decide +kernel
theorem dX10_back_395 : decode cX10_back 395 = .ok (.iload 9, 2) := by decide +kernel
theorem dX10_back_397 : decode cX10_back 397 = .ok (.aload_n 0, 1) := by decide +kernel
theorem dX10_back_398 : decode cX10_back 398 = .ok (.getfield 164, 3) := by decide +kernel
theorem dX10_back_401 : decode cX10_back 401 = .ok (.if_icmp .le 8, 3) := by decide +kernel
theorem dX10_back_404 : decode cX10_back 404 = .ok (.iload 9, 2) := by decide +kernel
theorem dX10_back_406 : decode cX10_back 406 = .ok (.goto 7, 3) := by decide +kernel
theorem dX10_back_409 : decode cX10_back 409 = .ok (.aload_n 0, 1) := by decide +kernel
theorem dX10_back_410 : decode cX10_back 410 = .ok (.getfield 164, 3) := by decide +kernel
theorem dX10_back_413 : decode cX10_back 413 = .ok (.putfield 164, 3) := by decide +kernel
theorem dX10_back_416 : decode cX10_back 416 = .ok (.iinc 8 1, 3) := by decide +kernel
theorem dX10_back_419 : decode cX10_back 419 = .ok (.goto (-93), 3) := by decide +kernel
theorem dX10_back_422 : decode cX10_back 422 = .ok (.iload 7, 2) := by decide +kernel
theorem dX10_back_424 : decode cX10_back 424 = .ok (.ireturn, 1) := by decide +kernel
theorem dX10_nearest_0 : decode cX10_nearest 0 = .ok (.ldc2_w 126, 3) := by decide +kernel
theorem dX10_nearest_3 : decode cX10_nearest 3 = .ok (.lload_n 2, 1) := by decide +kernel
theorem dX10_nearest_4 : decode cX10_nearest 4 = .ok (.lconst 0, 1) := by decide +kernel
theorem dX10_nearest_5 : decode cX10_nearest 5 = .ok (.lcmp, 1) := by decide +kernel
theorem dX10_nearest_6 : decode cX10_nearest 6 = .ok (.ifCond .ge 8, 3) := by decide +kernel
theorem dX10_nearest_9 : decode cX10_nearest 9 = .ok (.lload_n 2, 1) := by decide +kernel
theorem dX10_nearest_10 : decode cX10_nearest 10 = .ok (.lneg, 1) := by decide +kernel
theorem dX10_nearest_11 : decode cX10_nearest 11 = .ok (.goto 4, 3) := by decide +kernel
theorem dX10_nearest_14 : decode cX10_nearest 14 = .ok (.lload_n 2, 1) := by decide +kernel
theorem dX10_nearest_15 : decode cX10_nearest 15 = .ok (.lmul, 1) := by decide +kernel
theorem dX10_nearest_16 : decode cX10_nearest 16 = .ok (.lstore 4, 2) := by decide +kernel
theorem dX10_nearest_18 : decode cX10_nearest 18 = .ok (.lload_n 2, 1) := by decide +kernel
theorem dX10_nearest_19 : decode cX10_nearest 19 = .ok (.lconst 0, 1) := by decide +kernel
theorem dX10_nearest_20 : decode cX10_nearest 20 = .ok (.lcmp, 1) := by decide +kernel
theorem dX10_nearest_21 : decode cX10_nearest 21 = .ok (.ifCond .ge 8, 3) := by decide +kernel
theorem dX10_nearest_24 : decode cX10_nearest 24 = .ok (.lload_n 0, 1) := by decide +kernel
theorem dX10_nearest_25 : decode cX10_nearest 25 = .ok (.lneg, 1) := by decide +kernel
theorem dX10_nearest_26 : decode cX10_nearest 26 = .ok (.goto 4, 3) := by decide +kernel
theorem dX10_nearest_29 : decode cX10_nearest 29 = .ok (.lload_n 0, 1) := by decide +kernel
theorem dX10_nearest_30 : decode cX10_nearest 30 = .ok (.lstore 6, 2) := by decide +kernel
theorem dX10_nearest_32 : decode cX10_nearest 32 = .ok (.ldc2_w 122, 3) := by decide +kernel
theorem dX10_nearest_35 : decode cX10_nearest 35 = .ok (.lload 6, 2) := by decide +kernel
theorem dX10_nearest_37 : decode cX10_nearest 37 = .ok (.lmul, 1) := by decide +kernel
theorem dX10_nearest_38 : decode cX10_nearest 38 = .ok (.lload 4, 2) := by decide +kernel
theorem dX10_nearest_40 : decode cX10_nearest 40 = .ok (.ladd, 1) := by decide +kernel
theorem dX10_nearest_41 : decode cX10_nearest 41 = .ok (.ldc2_w 122, 3) := by decide +kernel
theorem dX10_nearest_44 : decode cX10_nearest 44 = .ok (.lload 4, 2) := by decide +kernel
theorem dX10_nearest_46 : decode cX10_nearest 46 = .ok (.lmul, 1) := by decide +kernel
theorem dX10_nearest_47 : decode cX10_nearest 47 = .ok (.invokestatic 167, 3) := by decide +kernel
theorem dX10_nearest_50 : decode cX10_nearest 50 = .ok (.lstore 8, 2) := by decide +kernel
theorem dX10_nearest_52 : decode cX10_nearest 52 = .ok (.lload 8, 2) := by decide +kernel
theorem dX10_nearest_54 : decode cX10_nearest 54 = .ok (.ldc2_w 118, 3) := by decide +kernel
theorem dX10_nearest_57 : decode cX10_nearest 57 = .ok (.lcmp, 1) := by decide +kernel
theorem dX10_nearest_58 : decode cX10_nearest 58 = .ok (.ifCond .ge 9, 3) := by decide +kernel
theorem dX10_nearest_61 : decode cX10_nearest 61 = .ok (.ldc2_w 118, 3) := by decide +kernel
theorem dX10_nearest_64 : decode cX10_nearest 64 = .ok (.goto 20, 3) := by decide +kernel
theorem dX10_nearest_67 : decode cX10_nearest 67 = .ok (.lload 8, 2) := by decide +kernel
theorem dX10_nearest_69 : decode cX10_nearest 69 = .ok (.ldc2_w 120, 3) := by decide +kernel
theorem dX10_nearest_72 : decode cX10_nearest 72 = .ok (.lcmp, 1) := by decide +kernel
theorem dX10_nearest_73 : decode cX10_nearest 73 = .ok (.ifCond .le 9, 3) := by decide +kernel
theorem dX10_nearest_76 : decode cX10_nearest 76 = .ok (.ldc2_w 120, 3) := by decide +kernel
theorem dX10_nearest_79 : decode cX10_nearest 79 = .ok (.goto 5, 3) := by decide +kernel
theorem dX10_nearest_82 : decode cX10_nearest 82 = .ok (.lload 8, 2) := by decide +kernel
theorem dX10_nearest_84 : decode cX10_nearest 84 = .ok (.lreturn, 1) := by decide +kernel
