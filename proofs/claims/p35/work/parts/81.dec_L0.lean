theorem dL_law_0_b : (decode cL_law 0 = .ok (.new 7, 3)) ∧ (decode cL_law 3 = .ok (.dup, 1)) ∧ (decode cL_law 4 = .ok (.invokespecial 9, 3)) ∧ (decode cL_law 7 = .ok (.astore_n 1, 1)) ∧ (decode cL_law 8 = .ok (.new 10, 3)) ∧ (decode cL_law 11 = .ok (.dup, 1)) ∧ (decode cL_law 12 = .ok (.invokespecial 12, 3)) ∧ (decode cL_law 15 = .ok (.astore_n 2, 1)) := by decide +kernel
theorem dL_law_0 : decode cL_law 0 = .ok (.new 7, 3) := dL_law_0_b.1
theorem dL_law_3 : decode cL_law 3 = .ok (.dup, 1) := dL_law_0_b.2.1
theorem dL_law_4 : decode cL_law 4 = .ok (.invokespecial 9, 3) := dL_law_0_b.2.2.1
theorem dL_law_7 : decode cL_law 7 = .ok (.astore_n 1, 1) := dL_law_0_b.2.2.2.1
theorem dL_law_8 : decode cL_law 8 = .ok (.new 10, 3) := dL_law_0_b.2.2.2.2.1
theorem dL_law_11 : decode cL_law 11 = .ok (.dup, 1) := dL_law_0_b.2.2.2.2.2.1
theorem dL_law_12 : decode cL_law 12 = .ok (.invokespecial 12, 3) := dL_law_0_b.2.2.2.2.2.2.1
theorem dL_law_15 : decode cL_law 15 = .ok (.astore_n 2, 1) := dL_law_0_b.2.2.2.2.2.2.2
theorem dL_law_16_b : (decode cL_law 16 = .ok (.iconst 0, 1)) ∧ (decode cL_law 17 = .ok (.istore_n 3, 1)) ∧ (decode cL_law 18 = .ok (.iload_n 3, 1)) ∧ (decode cL_law 19 = .ok (.aload_n 0, 1)) ∧ (decode cL_law 20 = .ok (.arraylength, 1)) ∧ (decode cL_law 21 = .ok (.bipush 7, 2)) ∧ (decode cL_law 23 = .ok (.isub, 1)) ∧ (decode cL_law 24 = .ok (.if_icmp .gt 1405, 3)) := by decide +kernel
theorem dL_law_16 : decode cL_law 16 = .ok (.iconst 0, 1) := dL_law_16_b.1
theorem dL_law_17 : decode cL_law 17 = .ok (.istore_n 3, 1) := dL_law_16_b.2.1
theorem dL_law_18 : decode cL_law 18 = .ok (.iload_n 3, 1) := dL_law_16_b.2.2.1
theorem dL_law_19 : decode cL_law 19 = .ok (.aload_n 0, 1) := dL_law_16_b.2.2.2.1
theorem dL_law_20 : decode cL_law 20 = .ok (.arraylength, 1) := dL_law_16_b.2.2.2.2.1
theorem dL_law_21 : decode cL_law 21 = .ok (.bipush 7, 2) := dL_law_16_b.2.2.2.2.2.1
theorem dL_law_23 : decode cL_law 23 = .ok (.isub, 1) := dL_law_16_b.2.2.2.2.2.2.1
theorem dL_law_24 : decode cL_law 24 = .ok (.if_icmp .gt 1405, 3) := dL_law_16_b.2.2.2.2.2.2.2
theorem dL_law_27_b : (decode cL_law 27 = .ok (.aload_n 0, 1)) ∧ (decode cL_law 28 = .ok (.iload_n 3, 1)) ∧ (decode cL_law 29 = .ok (.iaload, 1)) ∧ (decode cL_law 30 = .ok (.bipush 63, 2)) ∧ (decode cL_law 32 = .ok (.iand, 1)) ∧ (decode cL_law 33 = .ok (.tableswitch 1390 0 34 #[155, 198, 241, 294, 347, 370, 445, 488, 511, 524, 577, 626, 649, 662, 725, 758, 781, 804, 837, 886, 919, 932, 955, 1008, 1051, 1074, 1087, 1110, 1169, 1212, 1255, 1298, 1311, 1344, 1367], 155)) ∧ (decode cL_law 188 = .ok (.aload_n 1, 1)) ∧ (decode cL_law 189 = .ok (.aload_n 0, 1)) := by decide +kernel
theorem dL_law_27 : decode cL_law 27 = .ok (.aload_n 0, 1) := dL_law_27_b.1
theorem dL_law_28 : decode cL_law 28 = .ok (.iload_n 3, 1) := dL_law_27_b.2.1
theorem dL_law_29 : decode cL_law 29 = .ok (.iaload, 1) := dL_law_27_b.2.2.1
theorem dL_law_30 : decode cL_law 30 = .ok (.bipush 63, 2) := dL_law_27_b.2.2.2.1
theorem dL_law_32 : decode cL_law 32 = .ok (.iand, 1) := dL_law_27_b.2.2.2.2.1
theorem dL_law_33 : decode cL_law 33 = .ok (.tableswitch 1390 0 34 #[155, 198, 241, 294, 347, 370, 445, 488, 511, 524, 577, 626, 649, 662, 725, 758, 781, 804, 837, 886, 919, 932, 955, 1008, 1051, 1074, 1087, 1110, 1169, 1212, 1255, 1298, 1311, 1344, 1367], 155) := dL_law_27_b.2.2.2.2.2.1
theorem dL_law_188 : decode cL_law 188 = .ok (.aload_n 1, 1) := dL_law_27_b.2.2.2.2.2.2.1
theorem dL_law_189 : decode cL_law 189 = .ok (.aload_n 0, 1) := dL_law_27_b.2.2.2.2.2.2.2
theorem dL_law_190_b : (decode cL_law 190 = .ok (.iload_n 3, 1)) ∧ (decode cL_law 191 = .ok (.iconst 1, 1)) ∧ (decode cL_law 192 = .ok (.iadd, 1)) ∧ (decode cL_law 193 = .ok (.iaload, 1)) ∧ (decode cL_law 194 = .ok (.aload_n 0, 1)) ∧ (decode cL_law 195 = .ok (.iload_n 3, 1)) ∧ (decode cL_law 196 = .ok (.iconst 2, 1)) ∧ (decode cL_law 197 = .ok (.iadd, 1)) := by decide +kernel
theorem dL_law_190 : decode cL_law 190 = .ok (.iload_n 3, 1) := dL_law_190_b.1
theorem dL_law_191 : decode cL_law 191 = .ok (.iconst 1, 1) := dL_law_190_b.2.1
theorem dL_law_192 : decode cL_law 192 = .ok (.iadd, 1) := dL_law_190_b.2.2.1
theorem dL_law_193 : decode cL_law 193 = .ok (.iaload, 1) := dL_law_190_b.2.2.2.1
theorem dL_law_194 : decode cL_law 194 = .ok (.aload_n 0, 1) := dL_law_190_b.2.2.2.2.1
theorem dL_law_195 : decode cL_law 195 = .ok (.iload_n 3, 1) := dL_law_190_b.2.2.2.2.2.1
theorem dL_law_196 : decode cL_law 196 = .ok (.iconst 2, 1) := dL_law_190_b.2.2.2.2.2.2.1
theorem dL_law_197 : decode cL_law 197 = .ok (.iadd, 1) := dL_law_190_b.2.2.2.2.2.2.2
theorem dL_law_198_b : (decode cL_law 198 = .ok (.iaload, 1)) ∧ (decode cL_law 199 = .ok (.aload_n 0, 1)) ∧ (decode cL_law 200 = .ok (.iload_n 3, 1)) ∧ (decode cL_law 201 = .ok (.iconst 3, 1)) ∧ (decode cL_law 202 = .ok (.iadd, 1)) ∧ (decode cL_law 203 = .ok (.iaload, 1)) ∧ (decode cL_law 204 = .ok (.invokevirtual 13, 3)) ∧ (decode cL_law 207 = .ok (.pop, 1)) := by decide +kernel
theorem dL_law_198 : decode cL_law 198 = .ok (.iaload, 1) := dL_law_198_b.1
theorem dL_law_199 : decode cL_law 199 = .ok (.aload_n 0, 1) := dL_law_198_b.2.1
theorem dL_law_200 : decode cL_law 200 = .ok (.iload_n 3, 1) := dL_law_198_b.2.2.1
theorem dL_law_201 : decode cL_law 201 = .ok (.iconst 3, 1) := dL_law_198_b.2.2.2.1
theorem dL_law_202 : decode cL_law 202 = .ok (.iadd, 1) := dL_law_198_b.2.2.2.2.1
theorem dL_law_203 : decode cL_law 203 = .ok (.iaload, 1) := dL_law_198_b.2.2.2.2.2.1
theorem dL_law_204 : decode cL_law 204 = .ok (.invokevirtual 13, 3) := dL_law_198_b.2.2.2.2.2.2.1
theorem dL_law_207 : decode cL_law 207 = .ok (.pop, 1) := dL_law_198_b.2.2.2.2.2.2.2
theorem dL_law_208_b : (decode cL_law 208 = .ok (.aload_n 2, 1)) ∧ (decode cL_law 209 = .ok (.aload_n 0, 1)) ∧ (decode cL_law 210 = .ok (.iload_n 3, 1)) ∧ (decode cL_law 211 = .ok (.iconst 1, 1)) ∧ (decode cL_law 212 = .ok (.iadd, 1)) ∧ (decode cL_law 213 = .ok (.iaload, 1)) ∧ (decode cL_law 214 = .ok (.aload_n 0, 1)) ∧ (decode cL_law 215 = .ok (.iload_n 3, 1)) := by decide +kernel
theorem dL_law_208 : decode cL_law 208 = .ok (.aload_n 2, 1) := dL_law_208_b.1
theorem dL_law_209 : decode cL_law 209 = .ok (.aload_n 0, 1) := dL_law_208_b.2.1
theorem dL_law_210 : decode cL_law 210 = .ok (.iload_n 3, 1) := dL_law_208_b.2.2.1
theorem dL_law_211 : decode cL_law 211 = .ok (.iconst 1, 1) := dL_law_208_b.2.2.2.1
theorem dL_law_212 : decode cL_law 212 = .ok (.iadd, 1) := dL_law_208_b.2.2.2.2.1
theorem dL_law_213 : decode cL_law 213 = .ok (.iaload, 1) := dL_law_208_b.2.2.2.2.2.1
theorem dL_law_214 : decode cL_law 214 = .ok (.aload_n 0, 1) := dL_law_208_b.2.2.2.2.2.2.1
theorem dL_law_215 : decode cL_law 215 = .ok (.iload_n 3, 1) := dL_law_208_b.2.2.2.2.2.2.2
theorem dL_law_216_b : (decode cL_law 216 = .ok (.iconst 2, 1)) ∧ (decode cL_law 217 = .ok (.iadd, 1)) ∧ (decode cL_law 218 = .ok (.iaload, 1)) ∧ (decode cL_law 219 = .ok (.aload_n 0, 1)) ∧ (decode cL_law 220 = .ok (.iload_n 3, 1)) ∧ (decode cL_law 221 = .ok (.iconst 3, 1)) ∧ (decode cL_law 222 = .ok (.iadd, 1)) ∧ (decode cL_law 223 = .ok (.iaload, 1)) := by decide +kernel
theorem dL_law_216 : decode cL_law 216 = .ok (.iconst 2, 1) := dL_law_216_b.1
theorem dL_law_217 : decode cL_law 217 = .ok (.iadd, 1) := dL_law_216_b.2.1
theorem dL_law_218 : decode cL_law 218 = .ok (.iaload, 1) := dL_law_216_b.2.2.1
theorem dL_law_219 : decode cL_law 219 = .ok (.aload_n 0, 1) := dL_law_216_b.2.2.2.1
theorem dL_law_220 : decode cL_law 220 = .ok (.iload_n 3, 1) := dL_law_216_b.2.2.2.2.1
theorem dL_law_221 : decode cL_law 221 = .ok (.iconst 3, 1) := dL_law_216_b.2.2.2.2.2.1
theorem dL_law_222 : decode cL_law 222 = .ok (.iadd, 1) := dL_law_216_b.2.2.2.2.2.2.1
theorem dL_law_223 : decode cL_law 223 = .ok (.iaload, 1) := dL_law_216_b.2.2.2.2.2.2.2
theorem dL_law_224_b : (decode cL_law 224 = .ok (.invokevirtual 17, 3)) ∧ (decode cL_law 227 = .ok (.pop, 1)) ∧ (decode cL_law 228 = .ok (.goto 1195, 3)) ∧ (decode cL_law 231 = .ok (.aload_n 1, 1)) ∧ (decode cL_law 232 = .ok (.aload_n 0, 1)) ∧ (decode cL_law 233 = .ok (.iload_n 3, 1)) ∧ (decode cL_law 234 = .ok (.iconst 1, 1)) ∧ (decode cL_law 235 = .ok (.iadd, 1)) := by decide +kernel
theorem dL_law_224 : decode cL_law 224 = .ok (.invokevirtual 17, 3) := dL_law_224_b.1
theorem dL_law_227 : decode cL_law 227 = .ok (.pop, 1) := dL_law_224_b.2.1
theorem dL_law_228 : decode cL_law 228 = .ok (.goto 1195, 3) := dL_law_224_b.2.2.1
theorem dL_law_231 : decode cL_law 231 = .ok (.aload_n 1, 1) := dL_law_224_b.2.2.2.1
theorem dL_law_232 : decode cL_law 232 = .ok (.aload_n 0, 1) := dL_law_224_b.2.2.2.2.1
theorem dL_law_233 : decode cL_law 233 = .ok (.iload_n 3, 1) := dL_law_224_b.2.2.2.2.2.1
theorem dL_law_234 : decode cL_law 234 = .ok (.iconst 1, 1) := dL_law_224_b.2.2.2.2.2.2.1
theorem dL_law_235 : decode cL_law 235 = .ok (.iadd, 1) := dL_law_224_b.2.2.2.2.2.2.2
theorem dL_law_236_b : (decode cL_law 236 = .ok (.iaload, 1)) ∧ (decode cL_law 237 = .ok (.aload_n 0, 1)) ∧ (decode cL_law 238 = .ok (.iload_n 3, 1)) ∧ (decode cL_law 239 = .ok (.iconst 2, 1)) ∧ (decode cL_law 240 = .ok (.iadd, 1)) ∧ (decode cL_law 241 = .ok (.iaload, 1)) ∧ (decode cL_law 242 = .ok (.aload_n 0, 1)) ∧ (decode cL_law 243 = .ok (.iload_n 3, 1)) := by decide +kernel
theorem dL_law_236 : decode cL_law 236 = .ok (.iaload, 1) := dL_law_236_b.1
theorem dL_law_237 : decode cL_law 237 = .ok (.aload_n 0, 1) := dL_law_236_b.2.1
theorem dL_law_238 : decode cL_law 238 = .ok (.iload_n 3, 1) := dL_law_236_b.2.2.1
theorem dL_law_239 : decode cL_law 239 = .ok (.iconst 2, 1) := dL_law_236_b.2.2.2.1
theorem dL_law_240 : decode cL_law 240 = .ok (.iadd, 1) := dL_law_236_b.2.2.2.2.1
theorem dL_law_241 : decode cL_law 241 = .ok (.iaload, 1) := dL_law_236_b.2.2.2.2.2.1
theorem dL_law_242 : decode cL_law 242 = .ok (.aload_n 0, 1) := dL_law_236_b.2.2.2.2.2.2.1
theorem dL_law_243 : decode cL_law 243 = .ok (.iload_n 3, 1) := dL_law_236_b.2.2.2.2.2.2.2
theorem dL_law_244_b : (decode cL_law 244 = .ok (.iconst 3, 1)) ∧ (decode cL_law 245 = .ok (.iadd, 1)) ∧ (decode cL_law 246 = .ok (.iaload, 1)) ∧ (decode cL_law 247 = .ok (.invokevirtual 18, 3)) ∧ (decode cL_law 250 = .ok (.pop, 1)) ∧ (decode cL_law 251 = .ok (.aload_n 2, 1)) ∧ (decode cL_law 252 = .ok (.aload_n 0, 1)) ∧ (decode cL_law 253 = .ok (.iload_n 3, 1)) := by decide +kernel
theorem dL_law_244 : decode cL_law 244 = .ok (.iconst 3, 1) := dL_law_244_b.1
theorem dL_law_245 : decode cL_law 245 = .ok (.iadd, 1) := dL_law_244_b.2.1
theorem dL_law_246 : decode cL_law 246 = .ok (.iaload, 1) := dL_law_244_b.2.2.1
theorem dL_law_247 : decode cL_law 247 = .ok (.invokevirtual 18, 3) := dL_law_244_b.2.2.2.1
theorem dL_law_250 : decode cL_law 250 = .ok (.pop, 1) := dL_law_244_b.2.2.2.2.1
theorem dL_law_251 : decode cL_law 251 = .ok (.aload_n 2, 1) := dL_law_244_b.2.2.2.2.2.1
theorem dL_law_252 : decode cL_law 252 = .ok (.aload_n 0, 1) := dL_law_244_b.2.2.2.2.2.2.1
theorem dL_law_253 : decode cL_law 253 = .ok (.iload_n 3, 1) := dL_law_244_b.2.2.2.2.2.2.2
theorem dL_law_254_b : (decode cL_law 254 = .ok (.iconst 1, 1)) ∧ (decode cL_law 255 = .ok (.iadd, 1)) ∧ (decode cL_law 256 = .ok (.iaload, 1)) ∧ (decode cL_law 257 = .ok (.aload_n 0, 1)) ∧ (decode cL_law 258 = .ok (.iload_n 3, 1)) ∧ (decode cL_law 259 = .ok (.iconst 2, 1)) ∧ (decode cL_law 260 = .ok (.iadd, 1)) ∧ (decode cL_law 261 = .ok (.iaload, 1)) := by decide +kernel
theorem dL_law_254 : decode cL_law 254 = .ok (.iconst 1, 1) := dL_law_254_b.1
theorem dL_law_255 : decode cL_law 255 = .ok (.iadd, 1) := dL_law_254_b.2.1
theorem dL_law_256 : decode cL_law 256 = .ok (.iaload, 1) := dL_law_254_b.2.2.1
theorem dL_law_257 : decode cL_law 257 = .ok (.aload_n 0, 1) := dL_law_254_b.2.2.2.1
theorem dL_law_258 : decode cL_law 258 = .ok (.iload_n 3, 1) := dL_law_254_b.2.2.2.2.1
theorem dL_law_259 : decode cL_law 259 = .ok (.iconst 2, 1) := dL_law_254_b.2.2.2.2.2.1
theorem dL_law_260 : decode cL_law 260 = .ok (.iadd, 1) := dL_law_254_b.2.2.2.2.2.2.1
theorem dL_law_261 : decode cL_law 261 = .ok (.iaload, 1) := dL_law_254_b.2.2.2.2.2.2.2
theorem dL_law_262_b : (decode cL_law 262 = .ok (.aload_n 0, 1)) ∧ (decode cL_law 263 = .ok (.iload_n 3, 1)) ∧ (decode cL_law 264 = .ok (.iconst 3, 1)) ∧ (decode cL_law 265 = .ok (.iadd, 1)) ∧ (decode cL_law 266 = .ok (.iaload, 1)) ∧ (decode cL_law 267 = .ok (.invokevirtual 21, 3)) ∧ (decode cL_law 270 = .ok (.pop, 1)) ∧ (decode cL_law 271 = .ok (.goto 1152, 3)) := by decide +kernel
theorem dL_law_262 : decode cL_law 262 = .ok (.aload_n 0, 1) := dL_law_262_b.1
theorem dL_law_263 : decode cL_law 263 = .ok (.iload_n 3, 1) := dL_law_262_b.2.1
theorem dL_law_264 : decode cL_law 264 = .ok (.iconst 3, 1) := dL_law_262_b.2.2.1
theorem dL_law_265 : decode cL_law 265 = .ok (.iadd, 1) := dL_law_262_b.2.2.2.1
theorem dL_law_266 : decode cL_law 266 = .ok (.iaload, 1) := dL_law_262_b.2.2.2.2.1
theorem dL_law_267 : decode cL_law 267 = .ok (.invokevirtual 21, 3) := dL_law_262_b.2.2.2.2.2.1
theorem dL_law_270 : decode cL_law 270 = .ok (.pop, 1) := dL_law_262_b.2.2.2.2.2.2.1
theorem dL_law_271 : decode cL_law 271 = .ok (.goto 1152, 3) := dL_law_262_b.2.2.2.2.2.2.2
theorem dL_law_274_b : (decode cL_law 274 = .ok (.aload_n 1, 1)) ∧ (decode cL_law 275 = .ok (.aload_n 0, 1)) ∧ (decode cL_law 276 = .ok (.iload_n 3, 1)) ∧ (decode cL_law 277 = .ok (.iconst 1, 1)) ∧ (decode cL_law 278 = .ok (.iadd, 1)) ∧ (decode cL_law 279 = .ok (.iaload, 1)) ∧ (decode cL_law 280 = .ok (.aload_n 0, 1)) ∧ (decode cL_law 281 = .ok (.iload_n 3, 1)) := by decide +kernel
theorem dL_law_274 : decode cL_law 274 = .ok (.aload_n 1, 1) := dL_law_274_b.1
theorem dL_law_275 : decode cL_law 275 = .ok (.aload_n 0, 1) := dL_law_274_b.2.1
theorem dL_law_276 : decode cL_law 276 = .ok (.iload_n 3, 1) := dL_law_274_b.2.2.1
theorem dL_law_277 : decode cL_law 277 = .ok (.iconst 1, 1) := dL_law_274_b.2.2.2.1
theorem dL_law_278 : decode cL_law 278 = .ok (.iadd, 1) := dL_law_274_b.2.2.2.2.1
theorem dL_law_279 : decode cL_law 279 = .ok (.iaload, 1) := dL_law_274_b.2.2.2.2.2.1
theorem dL_law_280 : decode cL_law 280 = .ok (.aload_n 0, 1) := dL_law_274_b.2.2.2.2.2.2.1
theorem dL_law_281 : decode cL_law 281 = .ok (.iload_n 3, 1) := dL_law_274_b.2.2.2.2.2.2.2
theorem dL_law_282_b : (decode cL_law 282 = .ok (.iconst 2, 1)) ∧ (decode cL_law 283 = .ok (.iadd, 1)) ∧ (decode cL_law 284 = .ok (.iaload, 1)) ∧ (decode cL_law 285 = .ok (.aload_n 0, 1)) ∧ (decode cL_law 286 = .ok (.iload_n 3, 1)) ∧ (decode cL_law 287 = .ok (.iconst 3, 1)) ∧ (decode cL_law 288 = .ok (.iadd, 1)) ∧ (decode cL_law 289 = .ok (.iaload, 1)) := by decide +kernel
theorem dL_law_282 : decode cL_law 282 = .ok (.iconst 2, 1) := dL_law_282_b.1
theorem dL_law_283 : decode cL_law 283 = .ok (.iadd, 1) := dL_law_282_b.2.1
theorem dL_law_284 : decode cL_law 284 = .ok (.iaload, 1) := dL_law_282_b.2.2.1
theorem dL_law_285 : decode cL_law 285 = .ok (.aload_n 0, 1) := dL_law_282_b.2.2.2.1
theorem dL_law_286 : decode cL_law 286 = .ok (.iload_n 3, 1) := dL_law_282_b.2.2.2.2.1
theorem dL_law_287 : decode cL_law 287 = .ok (.iconst 3, 1) := dL_law_282_b.2.2.2.2.2.1
theorem dL_law_288 : decode cL_law 288 = .ok (.iadd, 1) := dL_law_282_b.2.2.2.2.2.2.1
theorem dL_law_289 : decode cL_law 289 = .ok (.iaload, 1) := dL_law_282_b.2.2.2.2.2.2.2
theorem dL_law_290_b : (decode cL_law 290 = .ok (.aload_n 0, 1)) ∧ (decode cL_law 291 = .ok (.iload_n 3, 1)) ∧ (decode cL_law 292 = .ok (.iconst 4, 1)) ∧ (decode cL_law 293 = .ok (.iadd, 1)) ∧ (decode cL_law 294 = .ok (.iaload, 1)) ∧ (decode cL_law 295 = .ok (.invokevirtual 22, 3)) ∧ (decode cL_law 298 = .ok (.pop, 1)) ∧ (decode cL_law 299 = .ok (.aload_n 2, 1)) := by decide +kernel
theorem dL_law_290 : decode cL_law 290 = .ok (.aload_n 0, 1) := dL_law_290_b.1
theorem dL_law_291 : decode cL_law 291 = .ok (.iload_n 3, 1) := dL_law_290_b.2.1
theorem dL_law_292 : decode cL_law 292 = .ok (.iconst 4, 1) := dL_law_290_b.2.2.1
theorem dL_law_293 : decode cL_law 293 = .ok (.iadd, 1) := dL_law_290_b.2.2.2.1
theorem dL_law_294 : decode cL_law 294 = .ok (.iaload, 1) := dL_law_290_b.2.2.2.2.1
theorem dL_law_295 : decode cL_law 295 = .ok (.invokevirtual 22, 3) := dL_law_290_b.2.2.2.2.2.1
theorem dL_law_298 : decode cL_law 298 = .ok (.pop, 1) := dL_law_290_b.2.2.2.2.2.2.1
theorem dL_law_299 : decode cL_law 299 = .ok (.aload_n 2, 1) := dL_law_290_b.2.2.2.2.2.2.2
theorem dL_law_300_b : (decode cL_law 300 = .ok (.aload_n 0, 1)) ∧ (decode cL_law 301 = .ok (.iload_n 3, 1)) ∧ (decode cL_law 302 = .ok (.iconst 1, 1)) ∧ (decode cL_law 303 = .ok (.iadd, 1)) ∧ (decode cL_law 304 = .ok (.iaload, 1)) ∧ (decode cL_law 305 = .ok (.aload_n 0, 1)) ∧ (decode cL_law 306 = .ok (.iload_n 3, 1)) ∧ (decode cL_law 307 = .ok (.iconst 2, 1)) := by decide +kernel
theorem dL_law_300 : decode cL_law 300 = .ok (.aload_n 0, 1) := dL_law_300_b.1
theorem dL_law_301 : decode cL_law 301 = .ok (.iload_n 3, 1) := dL_law_300_b.2.1
theorem dL_law_302 : decode cL_law 302 = .ok (.iconst 1, 1) := dL_law_300_b.2.2.1
theorem dL_law_303 : decode cL_law 303 = .ok (.iadd, 1) := dL_law_300_b.2.2.2.1
theorem dL_law_304 : decode cL_law 304 = .ok (.iaload, 1) := dL_law_300_b.2.2.2.2.1
theorem dL_law_305 : decode cL_law 305 = .ok (.aload_n 0, 1) := dL_law_300_b.2.2.2.2.2.1
theorem dL_law_306 : decode cL_law 306 = .ok (.iload_n 3, 1) := dL_law_300_b.2.2.2.2.2.2.1
theorem dL_law_307 : decode cL_law 307 = .ok (.iconst 2, 1) := dL_law_300_b.2.2.2.2.2.2.2
theorem dL_law_308_b : (decode cL_law 308 = .ok (.iadd, 1)) ∧ (decode cL_law 309 = .ok (.iaload, 1)) ∧ (decode cL_law 310 = .ok (.aload_n 0, 1)) ∧ (decode cL_law 311 = .ok (.iload_n 3, 1)) ∧ (decode cL_law 312 = .ok (.iconst 3, 1)) ∧ (decode cL_law 313 = .ok (.iadd, 1)) ∧ (decode cL_law 314 = .ok (.iaload, 1)) ∧ (decode cL_law 315 = .ok (.aload_n 0, 1)) := by decide +kernel
theorem dL_law_308 : decode cL_law 308 = .ok (.iadd, 1) := dL_law_308_b.1
theorem dL_law_309 : decode cL_law 309 = .ok (.iaload, 1) := dL_law_308_b.2.1
theorem dL_law_310 : decode cL_law 310 = .ok (.aload_n 0, 1) := dL_law_308_b.2.2.1
theorem dL_law_311 : decode cL_law 311 = .ok (.iload_n 3, 1) := dL_law_308_b.2.2.2.1
theorem dL_law_312 : decode cL_law 312 = .ok (.iconst 3, 1) := dL_law_308_b.2.2.2.2.1
theorem dL_law_313 : decode cL_law 313 = .ok (.iadd, 1) := dL_law_308_b.2.2.2.2.2.1
theorem dL_law_314 : decode cL_law 314 = .ok (.iaload, 1) := dL_law_308_b.2.2.2.2.2.2.1
theorem dL_law_315 : decode cL_law 315 = .ok (.aload_n 0, 1) := dL_law_308_b.2.2.2.2.2.2.2
theorem dL_law_316_b : (decode cL_law 316 = .ok (.iload_n 3, 1)) ∧ (decode cL_law 317 = .ok (.iconst 4, 1)) ∧ (decode cL_law 318 = .ok (.iadd, 1)) ∧ (decode cL_law 319 = .ok (.iaload, 1)) ∧ (decode cL_law 320 = .ok (.invokevirtual 26, 3)) ∧ (decode cL_law 323 = .ok (.pop, 1)) ∧ (decode cL_law 324 = .ok (.goto 1099, 3)) ∧ (decode cL_law 327 = .ok (.aload_n 1, 1)) := by decide +kernel
theorem dL_law_316 : decode cL_law 316 = .ok (.iload_n 3, 1) := dL_law_316_b.1
theorem dL_law_317 : decode cL_law 317 = .ok (.iconst 4, 1) := dL_law_316_b.2.1
theorem dL_law_318 : decode cL_law 318 = .ok (.iadd, 1) := dL_law_316_b.2.2.1
theorem dL_law_319 : decode cL_law 319 = .ok (.iaload, 1) := dL_law_316_b.2.2.2.1
theorem dL_law_320 : decode cL_law 320 = .ok (.invokevirtual 26, 3) := dL_law_316_b.2.2.2.2.1
theorem dL_law_323 : decode cL_law 323 = .ok (.pop, 1) := dL_law_316_b.2.2.2.2.2.1
theorem dL_law_324 : decode cL_law 324 = .ok (.goto 1099, 3) := dL_law_316_b.2.2.2.2.2.2.1
theorem dL_law_327 : decode cL_law 327 = .ok (.aload_n 1, 1) := dL_law_316_b.2.2.2.2.2.2.2
theorem dL_law_328_b : (decode cL_law 328 = .ok (.aload_n 0, 1)) ∧ (decode cL_law 329 = .ok (.iload_n 3, 1)) ∧ (decode cL_law 330 = .ok (.iconst 1, 1)) ∧ (decode cL_law 331 = .ok (.iadd, 1)) ∧ (decode cL_law 332 = .ok (.iaload, 1)) ∧ (decode cL_law 333 = .ok (.aload_n 0, 1)) ∧ (decode cL_law 334 = .ok (.iload_n 3, 1)) ∧ (decode cL_law 335 = .ok (.iconst 2, 1)) := by decide +kernel
theorem dL_law_328 : decode cL_law 328 = .ok (.aload_n 0, 1) := dL_law_328_b.1
theorem dL_law_329 : decode cL_law 329 = .ok (.iload_n 3, 1) := dL_law_328_b.2.1
theorem dL_law_330 : decode cL_law 330 = .ok (.iconst 1, 1) := dL_law_328_b.2.2.1
theorem dL_law_331 : decode cL_law 331 = .ok (.iadd, 1) := dL_law_328_b.2.2.2.1
theorem dL_law_332 : decode cL_law 332 = .ok (.iaload, 1) := dL_law_328_b.2.2.2.2.1
theorem dL_law_333 : decode cL_law 333 = .ok (.aload_n 0, 1) := dL_law_328_b.2.2.2.2.2.1
theorem dL_law_334 : decode cL_law 334 = .ok (.iload_n 3, 1) := dL_law_328_b.2.2.2.2.2.2.1
theorem dL_law_335 : decode cL_law 335 = .ok (.iconst 2, 1) := dL_law_328_b.2.2.2.2.2.2.2
theorem dL_law_336_b : (decode cL_law 336 = .ok (.iadd, 1)) ∧ (decode cL_law 337 = .ok (.iaload, 1)) ∧ (decode cL_law 338 = .ok (.aload_n 0, 1)) ∧ (decode cL_law 339 = .ok (.iload_n 3, 1)) ∧ (decode cL_law 340 = .ok (.iconst 3, 1)) ∧ (decode cL_law 341 = .ok (.iadd, 1)) ∧ (decode cL_law 342 = .ok (.iaload, 1)) ∧ (decode cL_law 343 = .ok (.aload_n 0, 1)) := by decide +kernel
theorem dL_law_336 : decode cL_law 336 = .ok (.iadd, 1) := dL_law_336_b.1
theorem dL_law_337 : decode cL_law 337 = .ok (.iaload, 1) := dL_law_336_b.2.1
theorem dL_law_338 : decode cL_law 338 = .ok (.aload_n 0, 1) := dL_law_336_b.2.2.1
theorem dL_law_339 : decode cL_law 339 = .ok (.iload_n 3, 1) := dL_law_336_b.2.2.2.1
theorem dL_law_340 : decode cL_law 340 = .ok (.iconst 3, 1) := dL_law_336_b.2.2.2.2.1
theorem dL_law_341 : decode cL_law 341 = .ok (.iadd, 1) := dL_law_336_b.2.2.2.2.2.1
theorem dL_law_342 : decode cL_law 342 = .ok (.iaload, 1) := dL_law_336_b.2.2.2.2.2.2.1
theorem dL_law_343 : decode cL_law 343 = .ok (.aload_n 0, 1) := dL_law_336_b.2.2.2.2.2.2.2
theorem dL_law_344_b : (decode cL_law 344 = .ok (.iload_n 3, 1)) ∧ (decode cL_law 345 = .ok (.iconst 4, 1)) ∧ (decode cL_law 346 = .ok (.iadd, 1)) ∧ (decode cL_law 347 = .ok (.iaload, 1)) ∧ (decode cL_law 348 = .ok (.invokevirtual 27, 3)) ∧ (decode cL_law 351 = .ok (.pop, 1)) ∧ (decode cL_law 352 = .ok (.aload_n 2, 1)) ∧ (decode cL_law 353 = .ok (.aload_n 0, 1)) := by decide +kernel
theorem dL_law_344 : decode cL_law 344 = .ok (.iload_n 3, 1) := dL_law_344_b.1
theorem dL_law_345 : decode cL_law 345 = .ok (.iconst 4, 1) := dL_law_344_b.2.1
theorem dL_law_346 : decode cL_law 346 = .ok (.iadd, 1) := dL_law_344_b.2.2.1
theorem dL_law_347 : decode cL_law 347 = .ok (.iaload, 1) := dL_law_344_b.2.2.2.1
theorem dL_law_348 : decode cL_law 348 = .ok (.invokevirtual 27, 3) := dL_law_344_b.2.2.2.2.1
theorem dL_law_351 : decode cL_law 351 = .ok (.pop, 1) := dL_law_344_b.2.2.2.2.2.1
theorem dL_law_352 : decode cL_law 352 = .ok (.aload_n 2, 1) := dL_law_344_b.2.2.2.2.2.2.1
theorem dL_law_353 : decode cL_law 353 = .ok (.aload_n 0, 1) := dL_law_344_b.2.2.2.2.2.2.2
theorem dL_law_354_b : (decode cL_law 354 = .ok (.iload_n 3, 1)) ∧ (decode cL_law 355 = .ok (.iconst 1, 1)) ∧ (decode cL_law 356 = .ok (.iadd, 1)) ∧ (decode cL_law 357 = .ok (.iaload, 1)) ∧ (decode cL_law 358 = .ok (.aload_n 0, 1)) ∧ (decode cL_law 359 = .ok (.iload_n 3, 1)) ∧ (decode cL_law 360 = .ok (.iconst 2, 1)) ∧ (decode cL_law 361 = .ok (.iadd, 1)) := by decide +kernel
theorem dL_law_354 : decode cL_law 354 = .ok (.iload_n 3, 1) := dL_law_354_b.1
theorem dL_law_355 : decode cL_law 355 = .ok (.iconst 1, 1) := dL_law_354_b.2.1
theorem dL_law_356 : decode cL_law 356 = .ok (.iadd, 1) := dL_law_354_b.2.2.1
theorem dL_law_357 : decode cL_law 357 = .ok (.iaload, 1) := dL_law_354_b.2.2.2.1
theorem dL_law_358 : decode cL_law 358 = .ok (.aload_n 0, 1) := dL_law_354_b.2.2.2.2.1
theorem dL_law_359 : decode cL_law 359 = .ok (.iload_n 3, 1) := dL_law_354_b.2.2.2.2.2.1
theorem dL_law_360 : decode cL_law 360 = .ok (.iconst 2, 1) := dL_law_354_b.2.2.2.2.2.2.1
theorem dL_law_361 : decode cL_law 361 = .ok (.iadd, 1) := dL_law_354_b.2.2.2.2.2.2.2
theorem dL_law_362_b : (decode cL_law 362 = .ok (.iaload, 1)) ∧ (decode cL_law 363 = .ok (.aload_n 0, 1)) ∧ (decode cL_law 364 = .ok (.iload_n 3, 1)) ∧ (decode cL_law 365 = .ok (.iconst 3, 1)) ∧ (decode cL_law 366 = .ok (.iadd, 1)) ∧ (decode cL_law 367 = .ok (.iaload, 1)) ∧ (decode cL_law 368 = .ok (.aload_n 0, 1)) ∧ (decode cL_law 369 = .ok (.iload_n 3, 1)) := by decide +kernel
theorem dL_law_362 : decode cL_law 362 = .ok (.iaload, 1) := dL_law_362_b.1
theorem dL_law_363 : decode cL_law 363 = .ok (.aload_n 0, 1) := dL_law_362_b.2.1
theorem dL_law_364 : decode cL_law 364 = .ok (.iload_n 3, 1) := dL_law_362_b.2.2.1
theorem dL_law_365 : decode cL_law 365 = .ok (.iconst 3, 1) := dL_law_362_b.2.2.2.1
theorem dL_law_366 : decode cL_law 366 = .ok (.iadd, 1) := dL_law_362_b.2.2.2.2.1
theorem dL_law_367 : decode cL_law 367 = .ok (.iaload, 1) := dL_law_362_b.2.2.2.2.2.1
theorem dL_law_368 : decode cL_law 368 = .ok (.aload_n 0, 1) := dL_law_362_b.2.2.2.2.2.2.1
theorem dL_law_369 : decode cL_law 369 = .ok (.iload_n 3, 1) := dL_law_362_b.2.2.2.2.2.2.2
theorem dL_law_370_b : (decode cL_law 370 = .ok (.iconst 4, 1)) ∧ (decode cL_law 371 = .ok (.iadd, 1)) ∧ (decode cL_law 372 = .ok (.iaload, 1)) ∧ (decode cL_law 373 = .ok (.invokevirtual 30, 3)) ∧ (decode cL_law 376 = .ok (.pop, 1)) ∧ (decode cL_law 377 = .ok (.goto 1046, 3)) ∧ (decode cL_law 380 = .ok (.aload_n 1, 1)) ∧ (decode cL_law 381 = .ok (.aload_n 0, 1)) := by decide +kernel
theorem dL_law_370 : decode cL_law 370 = .ok (.iconst 4, 1) := dL_law_370_b.1
theorem dL_law_371 : decode cL_law 371 = .ok (.iadd, 1) := dL_law_370_b.2.1
theorem dL_law_372 : decode cL_law 372 = .ok (.iaload, 1) := dL_law_370_b.2.2.1
theorem dL_law_373 : decode cL_law 373 = .ok (.invokevirtual 30, 3) := dL_law_370_b.2.2.2.1
theorem dL_law_376 : decode cL_law 376 = .ok (.pop, 1) := dL_law_370_b.2.2.2.2.1
theorem dL_law_377 : decode cL_law 377 = .ok (.goto 1046, 3) := dL_law_370_b.2.2.2.2.2.1
theorem dL_law_380 : decode cL_law 380 = .ok (.aload_n 1, 1) := dL_law_370_b.2.2.2.2.2.2.1
theorem dL_law_381 : decode cL_law 381 = .ok (.aload_n 0, 1) := dL_law_370_b.2.2.2.2.2.2.2
theorem dL_law_382_b : (decode cL_law 382 = .ok (.iload_n 3, 1)) ∧ (decode cL_law 383 = .ok (.iconst 1, 1)) ∧ (decode cL_law 384 = .ok (.iadd, 1)) ∧ (decode cL_law 385 = .ok (.iaload, 1)) ∧ (decode cL_law 386 = .ok (.invokevirtual 31, 3)) ∧ (decode cL_law 389 = .ok (.pop, 1)) ∧ (decode cL_law 390 = .ok (.aload_n 2, 1)) ∧ (decode cL_law 391 = .ok (.aload_n 0, 1)) := by decide +kernel
theorem dL_law_382 : decode cL_law 382 = .ok (.iload_n 3, 1) := dL_law_382_b.1
theorem dL_law_383 : decode cL_law 383 = .ok (.iconst 1, 1) := dL_law_382_b.2.1
theorem dL_law_384 : decode cL_law 384 = .ok (.iadd, 1) := dL_law_382_b.2.2.1
theorem dL_law_385 : decode cL_law 385 = .ok (.iaload, 1) := dL_law_382_b.2.2.2.1
theorem dL_law_386 : decode cL_law 386 = .ok (.invokevirtual 31, 3) := dL_law_382_b.2.2.2.2.1
theorem dL_law_389 : decode cL_law 389 = .ok (.pop, 1) := dL_law_382_b.2.2.2.2.2.1
theorem dL_law_390 : decode cL_law 390 = .ok (.aload_n 2, 1) := dL_law_382_b.2.2.2.2.2.2.1
theorem dL_law_391 : decode cL_law 391 = .ok (.aload_n 0, 1) := dL_law_382_b.2.2.2.2.2.2.2
theorem dL_law_392_b : (decode cL_law 392 = .ok (.iload_n 3, 1)) ∧ (decode cL_law 393 = .ok (.iconst 1, 1)) ∧ (decode cL_law 394 = .ok (.iadd, 1)) ∧ (decode cL_law 395 = .ok (.iaload, 1)) ∧ (decode cL_law 396 = .ok (.invokevirtual 35, 3)) ∧ (decode cL_law 399 = .ok (.pop, 1)) ∧ (decode cL_law 400 = .ok (.goto 1023, 3)) ∧ (decode cL_law 403 = .ok (.aload_n 1, 1)) := by decide +kernel
theorem dL_law_392 : decode cL_law 392 = .ok (.iload_n 3, 1) := dL_law_392_b.1
theorem dL_law_393 : decode cL_law 393 = .ok (.iconst 1, 1) := dL_law_392_b.2.1
theorem dL_law_394 : decode cL_law 394 = .ok (.iadd, 1) := dL_law_392_b.2.2.1
theorem dL_law_395 : decode cL_law 395 = .ok (.iaload, 1) := dL_law_392_b.2.2.2.1
theorem dL_law_396 : decode cL_law 396 = .ok (.invokevirtual 35, 3) := dL_law_392_b.2.2.2.2.1
theorem dL_law_399 : decode cL_law 399 = .ok (.pop, 1) := dL_law_392_b.2.2.2.2.2.1
theorem dL_law_400 : decode cL_law 400 = .ok (.goto 1023, 3) := dL_law_392_b.2.2.2.2.2.2.1
theorem dL_law_403 : decode cL_law 403 = .ok (.aload_n 1, 1) := dL_law_392_b.2.2.2.2.2.2.2
theorem dL_law_404_b : (decode cL_law 404 = .ok (.aload_n 0, 1)) ∧ (decode cL_law 405 = .ok (.iload_n 3, 1)) ∧ (decode cL_law 406 = .ok (.iconst 1, 1)) ∧ (decode cL_law 407 = .ok (.iadd, 1)) ∧ (decode cL_law 408 = .ok (.iaload, 1)) ∧ (decode cL_law 409 = .ok (.aload_n 0, 1)) ∧ (decode cL_law 410 = .ok (.iload_n 3, 1)) ∧ (decode cL_law 411 = .ok (.iconst 2, 1)) := by decide +kernel
theorem dL_law_404 : decode cL_law 404 = .ok (.aload_n 0, 1) := dL_law_404_b.1
theorem dL_law_405 : decode cL_law 405 = .ok (.iload_n 3, 1) := dL_law_404_b.2.1
theorem dL_law_406 : decode cL_law 406 = .ok (.iconst 1, 1) := dL_law_404_b.2.2.1
theorem dL_law_407 : decode cL_law 407 = .ok (.iadd, 1) := dL_law_404_b.2.2.2.1
theorem dL_law_408 : decode cL_law 408 = .ok (.iaload, 1) := dL_law_404_b.2.2.2.2.1
theorem dL_law_409 : decode cL_law 409 = .ok (.aload_n 0, 1) := dL_law_404_b.2.2.2.2.2.1
theorem dL_law_410 : decode cL_law 410 = .ok (.iload_n 3, 1) := dL_law_404_b.2.2.2.2.2.2.1
theorem dL_law_411 : decode cL_law 411 = .ok (.iconst 2, 1) := dL_law_404_b.2.2.2.2.2.2.2
theorem dL_law_412_b : (decode cL_law 412 = .ok (.iadd, 1)) ∧ (decode cL_law 413 = .ok (.iaload, 1)) ∧ (decode cL_law 414 = .ok (.aload_n 0, 1)) ∧ (decode cL_law 415 = .ok (.iload_n 3, 1)) ∧ (decode cL_law 416 = .ok (.iconst 3, 1)) ∧ (decode cL_law 417 = .ok (.iadd, 1)) ∧ (decode cL_law 418 = .ok (.iaload, 1)) ∧ (decode cL_law 419 = .ok (.aload_n 0, 1)) := by decide +kernel
theorem dL_law_412 : decode cL_law 412 = .ok (.iadd, 1) := dL_law_412_b.1
theorem dL_law_413 : decode cL_law 413 = .ok (.iaload, 1) := dL_law_412_b.2.1
theorem dL_law_414 : decode cL_law 414 = .ok (.aload_n 0, 1) := dL_law_412_b.2.2.1
theorem dL_law_415 : decode cL_law 415 = .ok (.iload_n 3, 1) := dL_law_412_b.2.2.2.1
theorem dL_law_416 : decode cL_law 416 = .ok (.iconst 3, 1) := dL_law_412_b.2.2.2.2.1
theorem dL_law_417 : decode cL_law 417 = .ok (.iadd, 1) := dL_law_412_b.2.2.2.2.2.1
theorem dL_law_418 : decode cL_law 418 = .ok (.iaload, 1) := dL_law_412_b.2.2.2.2.2.2.1
theorem dL_law_419 : decode cL_law 419 = .ok (.aload_n 0, 1) := dL_law_412_b.2.2.2.2.2.2.2
theorem dL_law_420_b : (decode cL_law 420 = .ok (.iload_n 3, 1)) ∧ (decode cL_law 421 = .ok (.iconst 4, 1)) ∧ (decode cL_law 422 = .ok (.iadd, 1)) ∧ (decode cL_law 423 = .ok (.iaload, 1)) ∧ (decode cL_law 424 = .ok (.aload_n 0, 1)) ∧ (decode cL_law 425 = .ok (.iload_n 3, 1)) ∧ (decode cL_law 426 = .ok (.iconst 5, 1)) ∧ (decode cL_law 427 = .ok (.iadd, 1)) := by decide +kernel
theorem dL_law_420 : decode cL_law 420 = .ok (.iload_n 3, 1) := dL_law_420_b.1
theorem dL_law_421 : decode cL_law 421 = .ok (.iconst 4, 1) := dL_law_420_b.2.1
theorem dL_law_422 : decode cL_law 422 = .ok (.iadd, 1) := dL_law_420_b.2.2.1
theorem dL_law_423 : decode cL_law 423 = .ok (.iaload, 1) := dL_law_420_b.2.2.2.1
theorem dL_law_424 : decode cL_law 424 = .ok (.aload_n 0, 1) := dL_law_420_b.2.2.2.2.1
theorem dL_law_425 : decode cL_law 425 = .ok (.iload_n 3, 1) := dL_law_420_b.2.2.2.2.2.1
theorem dL_law_426 : decode cL_law 426 = .ok (.iconst 5, 1) := dL_law_420_b.2.2.2.2.2.2.1
theorem dL_law_427 : decode cL_law 427 = .ok (.iadd, 1) := dL_law_420_b.2.2.2.2.2.2.2
theorem dL_law_428_b : (decode cL_law 428 = .ok (.iaload, 1)) ∧ (decode cL_law 429 = .ok (.aload_n 0, 1)) ∧ (decode cL_law 430 = .ok (.iload_n 3, 1)) ∧ (decode cL_law 431 = .ok (.bipush 6, 2)) ∧ (decode cL_law 433 = .ok (.iadd, 1)) ∧ (decode cL_law 434 = .ok (.iaload, 1)) ∧ (decode cL_law 435 = .ok (.invokevirtual 36, 3)) ∧ (decode cL_law 438 = .ok (.pop, 1)) := by decide +kernel
theorem dL_law_428 : decode cL_law 428 = .ok (.iaload, 1) := dL_law_428_b.1
theorem dL_law_429 : decode cL_law 429 = .ok (.aload_n 0, 1) := dL_law_428_b.2.1
theorem dL_law_430 : decode cL_law 430 = .ok (.iload_n 3, 1) := dL_law_428_b.2.2.1
theorem dL_law_431 : decode cL_law 431 = .ok (.bipush 6, 2) := dL_law_428_b.2.2.2.1
theorem dL_law_433 : decode cL_law 433 = .ok (.iadd, 1) := dL_law_428_b.2.2.2.2.1
theorem dL_law_434 : decode cL_law 434 = .ok (.iaload, 1) := dL_law_428_b.2.2.2.2.2.1
theorem dL_law_435 : decode cL_law 435 = .ok (.invokevirtual 36, 3) := dL_law_428_b.2.2.2.2.2.2.1
theorem dL_law_438 : decode cL_law 438 = .ok (.pop, 1) := dL_law_428_b.2.2.2.2.2.2.2
theorem dL_law_439_b : (decode cL_law 439 = .ok (.aload_n 2, 1)) ∧ (decode cL_law 440 = .ok (.aload_n 0, 1)) ∧ (decode cL_law 441 = .ok (.iload_n 3, 1)) ∧ (decode cL_law 442 = .ok (.iconst 1, 1)) ∧ (decode cL_law 443 = .ok (.iadd, 1)) ∧ (decode cL_law 444 = .ok (.iaload, 1)) ∧ (decode cL_law 445 = .ok (.aload_n 0, 1)) ∧ (decode cL_law 446 = .ok (.iload_n 3, 1)) := by decide +kernel
theorem dL_law_439 : decode cL_law 439 = .ok (.aload_n 2, 1) := dL_law_439_b.1
theorem dL_law_440 : decode cL_law 440 = .ok (.aload_n 0, 1) := dL_law_439_b.2.1
theorem dL_law_441 : decode cL_law 441 = .ok (.iload_n 3, 1) := dL_law_439_b.2.2.1
theorem dL_law_442 : decode cL_law 442 = .ok (.iconst 1, 1) := dL_law_439_b.2.2.2.1
theorem dL_law_443 : decode cL_law 443 = .ok (.iadd, 1) := dL_law_439_b.2.2.2.2.1
theorem dL_law_444 : decode cL_law 444 = .ok (.iaload, 1) := dL_law_439_b.2.2.2.2.2.1
theorem dL_law_445 : decode cL_law 445 = .ok (.aload_n 0, 1) := dL_law_439_b.2.2.2.2.2.2.1
theorem dL_law_446 : decode cL_law 446 = .ok (.iload_n 3, 1) := dL_law_439_b.2.2.2.2.2.2.2
theorem dL_law_447_b : (decode cL_law 447 = .ok (.iconst 2, 1)) ∧ (decode cL_law 448 = .ok (.iadd, 1)) ∧ (decode cL_law 449 = .ok (.iaload, 1)) ∧ (decode cL_law 450 = .ok (.aload_n 0, 1)) ∧ (decode cL_law 451 = .ok (.iload_n 3, 1)) ∧ (decode cL_law 452 = .ok (.iconst 3, 1)) ∧ (decode cL_law 453 = .ok (.iadd, 1)) ∧ (decode cL_law 454 = .ok (.iaload, 1)) := by decide +kernel
theorem dL_law_447 : decode cL_law 447 = .ok (.iconst 2, 1) := dL_law_447_b.1
theorem dL_law_448 : decode cL_law 448 = .ok (.iadd, 1) := dL_law_447_b.2.1
theorem dL_law_449 : decode cL_law 449 = .ok (.iaload, 1) := dL_law_447_b.2.2.1
theorem dL_law_450 : decode cL_law 450 = .ok (.aload_n 0, 1) := dL_law_447_b.2.2.2.1
theorem dL_law_451 : decode cL_law 451 = .ok (.iload_n 3, 1) := dL_law_447_b.2.2.2.2.1
theorem dL_law_452 : decode cL_law 452 = .ok (.iconst 3, 1) := dL_law_447_b.2.2.2.2.2.1
theorem dL_law_453 : decode cL_law 453 = .ok (.iadd, 1) := dL_law_447_b.2.2.2.2.2.2.1
theorem dL_law_454 : decode cL_law 454 = .ok (.iaload, 1) := dL_law_447_b.2.2.2.2.2.2.2
theorem dL_law_455_b : (decode cL_law 455 = .ok (.aload_n 0, 1)) ∧ (decode cL_law 456 = .ok (.iload_n 3, 1)) ∧ (decode cL_law 457 = .ok (.iconst 4, 1)) ∧ (decode cL_law 458 = .ok (.iadd, 1)) ∧ (decode cL_law 459 = .ok (.iaload, 1)) ∧ (decode cL_law 460 = .ok (.aload_n 0, 1)) ∧ (decode cL_law 461 = .ok (.iload_n 3, 1)) ∧ (decode cL_law 462 = .ok (.iconst 5, 1)) := by decide +kernel
theorem dL_law_455 : decode cL_law 455 = .ok (.aload_n 0, 1) := dL_law_455_b.1
theorem dL_law_456 : decode cL_law 456 = .ok (.iload_n 3, 1) := dL_law_455_b.2.1
theorem dL_law_457 : decode cL_law 457 = .ok (.iconst 4, 1) := dL_law_455_b.2.2.1
theorem dL_law_458 : decode cL_law 458 = .ok (.iadd, 1) := dL_law_455_b.2.2.2.1
theorem dL_law_459 : decode cL_law 459 = .ok (.iaload, 1) := dL_law_455_b.2.2.2.2.1
theorem dL_law_460 : decode cL_law 460 = .ok (.aload_n 0, 1) := dL_law_455_b.2.2.2.2.2.1
theorem dL_law_461 : decode cL_law 461 = .ok (.iload_n 3, 1) := dL_law_455_b.2.2.2.2.2.2.1
theorem dL_law_462 : decode cL_law 462 = .ok (.iconst 5, 1) := dL_law_455_b.2.2.2.2.2.2.2
theorem dL_law_463_b : (decode cL_law 463 = .ok (.iadd, 1)) ∧ (decode cL_law 464 = .ok (.iaload, 1)) ∧ (decode cL_law 465 = .ok (.aload_n 0, 1)) ∧ (decode cL_law 466 = .ok (.iload_n 3, 1)) ∧ (decode cL_law 467 = .ok (.bipush 6, 2)) ∧ (decode cL_law 469 = .ok (.iadd, 1)) ∧ (decode cL_law 470 = .ok (.iaload, 1)) ∧ (decode cL_law 471 = .ok (.invokevirtual 40, 3)) := by decide +kernel
theorem dL_law_463 : decode cL_law 463 = .ok (.iadd, 1) := dL_law_463_b.1
theorem dL_law_464 : decode cL_law 464 = .ok (.iaload, 1) := dL_law_463_b.2.1
theorem dL_law_465 : decode cL_law 465 = .ok (.aload_n 0, 1) := dL_law_463_b.2.2.1
theorem dL_law_466 : decode cL_law 466 = .ok (.iload_n 3, 1) := dL_law_463_b.2.2.2.1
theorem dL_law_467 : decode cL_law 467 = .ok (.bipush 6, 2) := dL_law_463_b.2.2.2.2.1
theorem dL_law_469 : decode cL_law 469 = .ok (.iadd, 1) := dL_law_463_b.2.2.2.2.2.1
theorem dL_law_470 : decode cL_law 470 = .ok (.iaload, 1) := dL_law_463_b.2.2.2.2.2.2.1
theorem dL_law_471 : decode cL_law 471 = .ok (.invokevirtual 40, 3) := dL_law_463_b.2.2.2.2.2.2.2
theorem dL_law_474_b : (decode cL_law 474 = .ok (.pop, 1)) ∧ (decode cL_law 475 = .ok (.goto 948, 3)) ∧ (decode cL_law 478 = .ok (.aload_n 1, 1)) ∧ (decode cL_law 479 = .ok (.aload_n 0, 1)) ∧ (decode cL_law 480 = .ok (.iload_n 3, 1)) ∧ (decode cL_law 481 = .ok (.iconst 1, 1)) ∧ (decode cL_law 482 = .ok (.iadd, 1)) ∧ (decode cL_law 483 = .ok (.iaload, 1)) := by decide +kernel
theorem dL_law_474 : decode cL_law 474 = .ok (.pop, 1) := dL_law_474_b.1
theorem dL_law_475 : decode cL_law 475 = .ok (.goto 948, 3) := dL_law_474_b.2.1
theorem dL_law_478 : decode cL_law 478 = .ok (.aload_n 1, 1) := dL_law_474_b.2.2.1
theorem dL_law_479 : decode cL_law 479 = .ok (.aload_n 0, 1) := dL_law_474_b.2.2.2.1
theorem dL_law_480 : decode cL_law 480 = .ok (.iload_n 3, 1) := dL_law_474_b.2.2.2.2.1
theorem dL_law_481 : decode cL_law 481 = .ok (.iconst 1, 1) := dL_law_474_b.2.2.2.2.2.1
theorem dL_law_482 : decode cL_law 482 = .ok (.iadd, 1) := dL_law_474_b.2.2.2.2.2.2.1
theorem dL_law_483 : decode cL_law 483 = .ok (.iaload, 1) := dL_law_474_b.2.2.2.2.2.2.2
theorem dL_law_484_b : (decode cL_law 484 = .ok (.aload_n 0, 1)) ∧ (decode cL_law 485 = .ok (.iload_n 3, 1)) ∧ (decode cL_law 486 = .ok (.iconst 2, 1)) ∧ (decode cL_law 487 = .ok (.iadd, 1)) ∧ (decode cL_law 488 = .ok (.iaload, 1)) ∧ (decode cL_law 489 = .ok (.aload_n 0, 1)) ∧ (decode cL_law 490 = .ok (.iload_n 3, 1)) ∧ (decode cL_law 491 = .ok (.iconst 3, 1)) := by decide +kernel
theorem dL_law_484 : decode cL_law 484 = .ok (.aload_n 0, 1) := dL_law_484_b.1
theorem dL_law_485 : decode cL_law 485 = .ok (.iload_n 3, 1) := dL_law_484_b.2.1
theorem dL_law_486 : decode cL_law 486 = .ok (.iconst 2, 1) := dL_law_484_b.2.2.1
theorem dL_law_487 : decode cL_law 487 = .ok (.iadd, 1) := dL_law_484_b.2.2.2.1
theorem dL_law_488 : decode cL_law 488 = .ok (.iaload, 1) := dL_law_484_b.2.2.2.2.1
theorem dL_law_489 : decode cL_law 489 = .ok (.aload_n 0, 1) := dL_law_484_b.2.2.2.2.2.1
theorem dL_law_490 : decode cL_law 490 = .ok (.iload_n 3, 1) := dL_law_484_b.2.2.2.2.2.2.1
theorem dL_law_491 : decode cL_law 491 = .ok (.iconst 3, 1) := dL_law_484_b.2.2.2.2.2.2.2
theorem dL_law_492_b : (decode cL_law 492 = .ok (.iadd, 1)) ∧ (decode cL_law 493 = .ok (.iaload, 1)) ∧ (decode cL_law 494 = .ok (.invokevirtual 41, 3)) ∧ (decode cL_law 497 = .ok (.pop2, 1)) ∧ (decode cL_law 498 = .ok (.aload_n 2, 1)) ∧ (decode cL_law 499 = .ok (.aload_n 0, 1)) ∧ (decode cL_law 500 = .ok (.iload_n 3, 1)) ∧ (decode cL_law 501 = .ok (.iconst 1, 1)) := by decide +kernel
theorem dL_law_492 : decode cL_law 492 = .ok (.iadd, 1) := dL_law_492_b.1
theorem dL_law_493 : decode cL_law 493 = .ok (.iaload, 1) := dL_law_492_b.2.1
theorem dL_law_494 : decode cL_law 494 = .ok (.invokevirtual 41, 3) := dL_law_492_b.2.2.1
theorem dL_law_497 : decode cL_law 497 = .ok (.pop2, 1) := dL_law_492_b.2.2.2.1
theorem dL_law_498 : decode cL_law 498 = .ok (.aload_n 2, 1) := dL_law_492_b.2.2.2.2.1
theorem dL_law_499 : decode cL_law 499 = .ok (.aload_n 0, 1) := dL_law_492_b.2.2.2.2.2.1
theorem dL_law_500 : decode cL_law 500 = .ok (.iload_n 3, 1) := dL_law_492_b.2.2.2.2.2.2.1
theorem dL_law_501 : decode cL_law 501 = .ok (.iconst 1, 1) := dL_law_492_b.2.2.2.2.2.2.2
theorem dL_law_502_b : (decode cL_law 502 = .ok (.iadd, 1)) ∧ (decode cL_law 503 = .ok (.iaload, 1)) ∧ (decode cL_law 504 = .ok (.aload_n 0, 1)) ∧ (decode cL_law 505 = .ok (.iload_n 3, 1)) := by decide +kernel
theorem dL_law_502 : decode cL_law 502 = .ok (.iadd, 1) := dL_law_502_b.1
theorem dL_law_503 : decode cL_law 503 = .ok (.iaload, 1) := dL_law_502_b.2.1
theorem dL_law_504 : decode cL_law 504 = .ok (.aload_n 0, 1) := dL_law_502_b.2.2.1
theorem dL_law_505 : decode cL_law 505 = .ok (.iload_n 3, 1) := dL_law_502_b.2.2.2
