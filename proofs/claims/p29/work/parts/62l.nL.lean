theorem dL_stands_218 : decode cL_stands 218 = .ok (.iload 7, 2) := by decide +kernel
theorem dL_stands_220 : decode cL_stands 220 = .ok (.imul, 1) := by decide +kernel
theorem dL_stands_221 : decode cL_stands 221 = .ok (.iload 8, 2) := by decide +kernel
theorem dL_stands_223 : decode cL_stands 223 = .ok (.iadd, 1) := by decide +kernel
theorem dL_stands_224 : decode cL_stands 224 = .ok (.iaload, 1) := by decide +kernel
theorem dL_stands_225 : decode cL_stands 225 = .ok (.if_icmp .eq 5, 3) := by decide +kernel
theorem dL_stands_228 : decode cL_stands 228 = .ok (.iconst 0, 1) := by decide +kernel
theorem dL_stands_229 : decode cL_stands 229 = .ok (.ireturn, 1) := by decide +kernel
theorem dL_stands_230 : decode cL_stands 230 = .ok (.iload 6, 2) := by decide +kernel
theorem dL_stands_232 : decode cL_stands 232 = .ok (.aload_n 3, 1) := by decide +kernel
theorem dL_stands_233 : decode cL_stands 233 = .ok (.bipush 6, 2) := by decide +kernel
theorem dL_stands_235 : decode cL_stands 235 = .ok (.iload 7, 2) := by decide +kernel
theorem dL_stands_237 : decode cL_stands 237 = .ok (.imul, 1) := by decide +kernel
theorem dL_stands_238 : decode cL_stands 238 = .ok (.iload 8, 2) := by decide +kernel
theorem dL_stands_240 : decode cL_stands 240 = .ok (.iadd, 1) := by decide +kernel
theorem dL_stands_241 : decode cL_stands 241 = .ok (.iaload, 1) := by decide +kernel
theorem dL_stands_242 : decode cL_stands 242 = .ok (.iadd, 1) := by decide +kernel
theorem dL_stands_243 : decode cL_stands 243 = .ok (.istore 6, 2) := by decide +kernel
theorem dL_stands_245 : decode cL_stands 245 = .ok (.iinc 8 1, 3) := by decide +kernel
theorem dL_stands_248 : decode cL_stands 248 = .ok (.goto (-60), 3) := by decide +kernel
theorem dL_stands_251 : decode cL_stands 251 = .ok (.iinc 7 1, 3) := by decide +kernel
theorem dL_stands_254 : decode cL_stands 254 = .ok (.goto (-76), 3) := by decide +kernel
theorem dL_stands_257 : decode cL_stands 257 = .ok (.aload_n 0, 1) := by decide +kernel
theorem dL_stands_258 : decode cL_stands 258 = .ok (.iconst 0, 1) := by decide +kernel
theorem dL_stands_259 : decode cL_stands 259 = .ok (.invokevirtual 55, 3) := by decide +kernel
theorem dL_stands_262 : decode cL_stands 262 = .ok (.aload_n 1, 1) := by decide +kernel
theorem dL_stands_263 : decode cL_stands 263 = .ok (.iconst 0, 1) := by decide +kernel
theorem dL_stands_264 : decode cL_stands 264 = .ok (.iaload, 1) := by decide +kernel
theorem dL_stands_265 : decode cL_stands 265 = .ok (.if_icmp .ne 62, 3) := by decide +kernel
theorem dL_stands_268 : decode cL_stands 268 = .ok (.aload_n 0, 1) := by decide +kernel
theorem dL_stands_269 : decode cL_stands 269 = .ok (.iconst 1, 1) := by decide +kernel
theorem dL_stands_270 : decode cL_stands 270 = .ok (.invokevirtual 55, 3) := by decide +kernel
theorem dL_stands_273 : decode cL_stands 273 = .ok (.iload 4, 2) := by decide +kernel
theorem dL_stands_275 : decode cL_stands 275 = .ok (.if_icmp .ne 52, 3) := by decide +kernel
theorem dL_stands_278 : decode cL_stands 278 = .ok (.aload_n 0, 1) := by decide +kernel
theorem dL_stands_279 : decode cL_stands 279 = .ok (.iconst 2, 1) := by decide +kernel
theorem dL_stands_280 : decode cL_stands 280 = .ok (.invokevirtual 55, 3) := by decide +kernel
theorem dL_stands_283 : decode cL_stands 283 = .ok (.aload_n 1, 1) := by decide +kernel
theorem dL_stands_284 : decode cL_stands 284 = .ok (.bipush 31, 2) := by decide +kernel
theorem dL_stands_286 : decode cL_stands 286 = .ok (.iaload, 1) := by decide +kernel
theorem dL_stands_287 : decode cL_stands 287 = .ok (.if_icmp .ne 40, 3) := by decide +kernel
theorem dL_stands_290 : decode cL_stands 290 = .ok (.aload_n 0, 1) := by decide +kernel
theorem dL_stands_291 : decode cL_stands 291 = .ok (.iconst 3, 1) := by decide +kernel
theorem dL_stands_292 : decode cL_stands 292 = .ok (.invokevirtual 55, 3) := by decide +kernel
theorem dL_stands_295 : decode cL_stands 295 = .ok (.aload_n 1, 1) := by decide +kernel
theorem dL_stands_296 : decode cL_stands 296 = .ok (.bipush 32, 2) := by decide +kernel
theorem dL_stands_298 : decode cL_stands 298 = .ok (.iaload, 1) := by decide +kernel
theorem dL_stands_299 : decode cL_stands 299 = .ok (.if_icmp .ne 28, 3) := by decide +kernel
theorem dL_stands_302 : decode cL_stands 302 = .ok (.aload_n 0, 1) := by decide +kernel
theorem dL_stands_303 : decode cL_stands 303 = .ok (.iconst 4, 1) := by decide +kernel
theorem dL_stands_304 : decode cL_stands 304 = .ok (.invokevirtual 55, 3) := by decide +kernel
theorem dL_stands_307 : decode cL_stands 307 = .ok (.iload 5, 2) := by decide +kernel
theorem dL_stands_309 : decode cL_stands 309 = .ok (.if_icmp .ne 18, 3) := by decide +kernel
theorem dL_stands_312 : decode cL_stands 312 = .ok (.aload_n 0, 1) := by decide +kernel
theorem dL_stands_313 : decode cL_stands 313 = .ok (.bipush 6, 2) := by decide +kernel
theorem dL_stands_315 : decode cL_stands 315 = .ok (.invokevirtual 55, 3) := by decide +kernel
theorem dL_stands_318 : decode cL_stands 318 = .ok (.iload 6, 2) := by decide +kernel
theorem dL_stands_320 : decode cL_stands 320 = .ok (.if_icmp .ne 7, 3) := by decide +kernel
theorem dL_stands_323 : decode cL_stands 323 = .ok (.iconst 1, 1) := by decide +kernel
theorem dL_stands_324 : decode cL_stands 324 = .ok (.goto 4, 3) := by decide +kernel
theorem dL_stands_327 : decode cL_stands 327 = .ok (.iconst 0, 1) := by decide +kernel
theorem dL_stands_328 : decode cL_stands 328 = .ok (.ireturn, 1) := by decide +kernel
set_option maxRecDepth 20000 in
theorem ggL_law_X10_init : GoodIn wsL_law wsX10_init := goodIn_r _ [9, 10, 11, 12, 13, 14, 15, 16, 17, 18, 19, 20, 21, 22, 23, 24, 25, 26, 27, 28, 29, 30, 31, 32, 33, 34, 35, 36, 37, 38, 39, 40, 41, 42, 43, 44, 45, 46, 47, 48, 49, 3, 50, 51, 52, 53, 54, 55, 56, 57, 58, 59, 60, 61, 62, 63, 64, 65, 66, 67, 68, 69, 70, 71, 72, 73, 74, 75, 76, 77, 78, 79, 80, 81, 82, 83, 84, 85, 86, 87, 88, 89, 90, 490, 491, 492, 493, 494, 495, 496, 497, 479, 480, 481, 482, 483, 484, 485, 486, 487, 488, 489, 498, 499, 500, 501, 502, 503, 504, 505, 506, 507, 508, 509, 510, 511, 512, 513, 514] (by decide +kernel) (by decide +kernel)
set_option maxRecDepth 20000 in
theorem gL_law_X10_init : GoodIn wsL_law (wsX10_init) := ggL_law_X10_init
set_option maxRecDepth 20000 in
theorem ggL_law_L_cell : GoodIn wsL_law wsL_cell := goodIn_r _ [94, 95] (by decide +kernel) (by decide +kernel)
set_option maxRecDepth 20000 in
theorem gL_law_L_cell : GoodIn wsL_law (va_wsS RL 59 yL_cell wsL_cell) := goodIn_app (goodIn_of _ (by decide +kernel)) ggL_law_L_cell
set_option maxRecDepth 20000 in
theorem ggL_law_L_book : GoodIn wsL_law wsL_book := goodIn_r _ [98, 3, 99, 100, 93, 101, 102, 103, 104, 105, 106, 107, 108, 109, 110, 2, 111, 22, 112, 113, 114, 21, 115, 116, 117, 118, 119, 120, 121, 122, 123, 65, 124, 125, 126, 127, 128, 129, 130, 131, 132, 133, 134, 135, 136, 137, 138, 139, 140, 141, 142, 16, 143, 144, 145, 146, 147, 148, 149, 150, 151, 152, 153, 154, 155, 156, 157, 158, 159, 160, 161, 15, 162, 163, 50, 51, 52, 53, 164, 165, 166, 167, 168, 169, 170, 479, 480, 481, 482, 483, 484, 485, 486, 487, 488, 489, 498, 499, 490, 491, 492, 493, 494, 495, 496, 497] (by decide +kernel) (by decide +kernel)
