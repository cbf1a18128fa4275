theorem dL_law_47 : decode cL_law 47 = .ok (.aload 4, 2) := by decide +kernel
theorem dL_law_49 : decode cL_law 49 = .ok (.invokestatic 66, 3) := by decide +kernel
theorem dL_law_52 : decode cL_law 52 = .ok (.ifCond .ne 5, 3) := by decide +kernel
theorem dL_law_55 : decode cL_law 55 = .ok (.iconst 0, 1) := by decide +kernel
theorem dL_law_56 : decode cL_law 56 = .ok (.ireturn, 1) := by decide +kernel
theorem dL_law_57 : decode cL_law 57 = .ok (.iconst 0, 1) := by decide +kernel
theorem dL_law_58 : decode cL_law 58 = .ok (.istore 5, 2) := by decide +kernel
theorem dL_law_60 : decode cL_law 60 = .ok (.iconst 0, 1) := by decide +kernel
theorem dL_law_61 : decode cL_law 61 = .ok (.istore 6, 2) := by decide +kernel
theorem dL_law_63 : decode cL_law 63 = .ok (.iload 6, 2) := by decide +kernel
theorem dL_law_65 : decode cL_law 65 = .ok (.aload_n 2, 1) := by decide +kernel
theorem dL_law_66 : decode cL_law 66 = .ok (.iconst 0, 1) := by decide +kernel
theorem dL_law_67 : decode cL_law 67 = .ok (.iaload, 1) := by decide +kernel
theorem dL_law_68 : decode cL_law 68 = .ok (.if_icmp .ge 21, 3) := by decide +kernel
theorem dL_law_71 : decode cL_law 71 = .ok (.iload 5, 2) := by decide +kernel
theorem dL_law_73 : decode cL_law 73 = .ok (.aload_n 2, 1) := by decide +kernel
theorem dL_law_74 : decode cL_law 74 = .ok (.bipush 11, 2) := by decide +kernel
theorem dL_law_76 : decode cL_law 76 = .ok (.iload 6, 2) := by decide +kernel
theorem dL_law_78 : decode cL_law 78 = .ok (.iadd, 1) := by decide +kernel
theorem dL_law_79 : decode cL_law 79 = .ok (.iaload, 1) := by decide +kernel
theorem dL_law_80 : decode cL_law 80 = .ok (.iadd, 1) := by decide +kernel
theorem dL_law_81 : decode cL_law 81 = .ok (.istore 5, 2) := by decide +kernel
theorem dL_law_83 : decode cL_law 83 = .ok (.iinc 6 1, 3) := by decide +kernel
theorem dL_law_86 : decode cL_law 86 = .ok (.goto (-23), 3) := by decide +kernel
theorem dL_law_89 : decode cL_law 89 = .ok (.iconst 0, 1) := by decide +kernel
theorem dL_law_90 : decode cL_law 90 = .ok (.istore 6, 2) := by decide +kernel
theorem dL_law_92 : decode cL_law 92 = .ok (.iload 6, 2) := by decide +kernel
theorem dL_law_94 : decode cL_law 94 = .ok (.bipush 18, 2) := by decide +kernel
theorem dL_law_96 : decode cL_law 96 = .ok (.if_icmp .ge 742, 3) := by decide +kernel
theorem dL_law_99 : decode cL_law 99 = .ok (.aload_n 0, 1) := by decide +kernel
theorem dL_law_100 : decode cL_law 100 = .ok (.iconst 2, 1) := by decide +kernel
theorem dL_law_101 : decode cL_law 101 = .ok (.iload 6, 2) := by decide +kernel
theorem dL_law_103 : decode cL_law 103 = .ok (.iadd, 1) := by decide +kernel
theorem dL_law_104 : decode cL_law 104 = .ok (.invokestatic 59, 3) := by decide +kernel
theorem dL_law_107 : decode cL_law 107 = .ok (.istore 7, 2) := by decide +kernel
theorem dL_law_109 : decode cL_law 109 = .ok (.iload 7, 2) := by decide +kernel
theorem dL_law_111 : decode cL_law 111 = .ok (.bipush 10, 2) := by decide +kernel
theorem dL_law_113 : decode cL_law 113 = .ok (.invokestatic 8, 3) := by decide +kernel
theorem dL_law_116 : decode cL_law 116 = .ok (.istore 8, 2) := by decide +kernel
theorem dL_law_118 : decode cL_law 118 = .ok (.iload 7, 2) := by decide +kernel
theorem dL_law_120 : decode cL_law 120 = .ok (.iconst 4, 1) := by decide +kernel
theorem dL_law_121 : decode cL_law 121 = .ok (.ishr, 1) := by decide +kernel
theorem dL_law_122 : decode cL_law 122 = .ok (.aload_n 2, 1) := by decide +kernel
theorem dL_law_123 : decode cL_law 123 = .ok (.iconst 0, 1) := by decide +kernel
theorem dL_law_124 : decode cL_law 124 = .ok (.iaload, 1) := by decide +kernel
theorem dL_law_125 : decode cL_law 125 = .ok (.invokestatic 8, 3) := by decide +kernel
theorem dL_law_128 : decode cL_law 128 = .ok (.istore 9, 2) := by decide +kernel
theorem dL_law_130 : decode cL_law 130 = .ok (.iload 7, 2) := by decide +kernel
theorem dL_law_132 : decode cL_law 132 = .ok (.bipush 8, 2) := by decide +kernel
theorem dL_law_134 : decode cL_law 134 = .ok (.ishr, 1) := by decide +kernel
theorem dL_law_135 : decode cL_law 135 = .ok (.bipush 6, 2) := by decide +kernel
theorem dL_law_137 : decode cL_law 137 = .ok (.invokestatic 8, 3) := by decide +kernel
theorem dL_law_140 : decode cL_law 140 = .ok (.istore 10, 2) := by decide +kernel
theorem dL_law_142 : decode cL_law 142 = .ok (.iload 8, 2) := by decide +kernel
theorem dL_law_144 : decode cL_law 144 = .ok (.iconst 4, 1) := by decide +kernel
theorem dL_law_145 : decode cL_law 145 = .ok (.if_icmp .ge 131, 3) := by decide +kernel
theorem dL_law_148 : decode cL_law 148 = .ok (.aload_n 2, 1) := by decide +kernel
theorem dL_law_149 : decode cL_law 149 = .ok (.bipush 21, 2) := by decide +kernel
theorem dL_law_151 : decode cL_law 151 = .ok (.iload 9, 2) := by decide +kernel
theorem dL_law_153 : decode cL_law 153 = .ok (.iadd, 1) := by decide +kernel
theorem dL_law_154 : decode cL_law 154 = .ok (.iaload, 1) := by decide +kernel
theorem dL_law_155 : decode cL_law 155 = .ok (.ifCond .lt 19, 3) := by decide +kernel
theorem dL_law_158 : decode cL_law 158 = .ok (.aload_n 2, 1) := by decide +kernel
theorem dL_law_159 : decode cL_law 159 = .ok (.bipush 21, 2) := by decide +kernel
theorem dL_law_161 : decode cL_law 161 = .ok (.iload 9, 2) := by decide +kernel
theorem dL_law_163 : decode cL_law 163 = .ok (.iadd, 1) := by decide +kernel
theorem dL_law_164 : decode cL_law 164 = .ok (.iaload, 1) := by decide +kernel
theorem dL_law_165 : decode cL_law 165 = .ok (.iload 10, 2) := by decide +kernel
theorem dL_law_167 : decode cL_law 167 = .ok (.if_icmp .eq 7, 3) := by decide +kernel
theorem dL_law_170 : decode cL_law 170 = .ok (.iconst 1, 1) := by decide +kernel
theorem dL_law_171 : decode cL_law 171 = .ok (.goto 4, 3) := by decide +kernel
theorem dL_law_174 : decode cL_law 174 = .ok (.iconst 0, 1) := by decide +kernel
theorem dL_law_175 : decode cL_law 175 = .ok (.istore 11, 2) := by decide +kernel
theorem dL_law_177 : decode cL_law 177 = .ok (.aload_n 2, 1) := by decide +kernel
theorem dL_law_178 : decode cL_law 178 = .ok (.bipush 21, 2) := by decide +kernel
theorem dL_law_180 : decode cL_law 180 = .ok (.iload 9, 2) := by decide +kernel
theorem dL_law_182 : decode cL_law 182 = .ok (.iadd, 1) := by decide +kernel
theorem dL_law_183 : decode cL_law 183 = .ok (.iaload, 1) := by decide +kernel
theorem dL_law_184 : decode cL_law 184 = .ok (.istore 12, 2) := by decide +kernel
theorem dL_law_186 : decode cL_law 186 = .ok (.iload 11, 2) := by decide +kernel
theorem dL_law_188 : decode cL_law 188 = .ok (.ifCond .eq 55, 3) := by decide +kernel
theorem dL_law_191 : decode cL_law 191 = .ok (.aload_n 2, 1) := by decide +kernel
theorem dL_law_192 : decode cL_law 192 = .ok (.aload_n 3, 1) := by decide +kernel
theorem dL_law_193 : decode cL_law 193 = .ok (.iload 9, 2) := by decide +kernel
theorem dL_law_195 : decode cL_law 195 = .ok (.iload 10, 2) := by decide +kernel
theorem dL_law_197 : decode cL_law 197 = .ok (.invokestatic 70, 3) := by decide +kernel
theorem dL_law_200 : decode cL_law 200 = .ok (.aload 4, 2) := by decide +kernel
theorem dL_law_202 : decode cL_law 202 = .ok (.bipush 6, 2) := by decide +kernel
theorem dL_law_204 : decode cL_law 204 = .ok (.iload 12, 2) := by decide +kernel
theorem dL_law_206 : decode cL_law 206 = .ok (.imul, 1) := by decide +kernel
theorem dL_law_207 : decode cL_law 207 = .ok (.iload 10, 2) := by decide +kernel
theorem dL_law_209 : decode cL_law 209 = .ok (.iadd, 1) := by decide +kernel
theorem dL_law_210 : decode cL_law 210 = .ok (.iaload, 1) := by decide +kernel
theorem dL_law_211 : decode cL_law 211 = .ok (.aload_n 2, 1) := by decide +kernel
theorem dL_law_212 : decode cL_law 212 = .ok (.bipush 11, 2) := by decide +kernel
theorem dL_law_214 : decode cL_law 214 = .ok (.iload 9, 2) := by decide +kernel
theorem dL_law_216 : decode cL_law 216 = .ok (.iadd, 1) := by decide +kernel
theorem dL_law_217 : decode cL_law 217 = .ok (.iaload, 1) := by decide +kernel
theorem dL_law_218 : decode cL_law 218 = .ok (.isub, 1) := by decide +kernel
theorem dL_law_219 : decode cL_law 219 = .ok (.istore 13, 2) := by decide +kernel
theorem dL_law_221 : decode cL_law 221 = .ok (.aload 4, 2) := by decide +kernel
theorem dL_law_223 : decode cL_law 223 = .ok (.bipush 6, 2) := by decide +kernel
theorem dL_law_225 : decode cL_law 225 = .ok (.iload 12, 2) := by decide +kernel
theorem dL_law_227 : decode cL_law 227 = .ok (.imul, 1) := by decide +kernel
theorem dL_law_228 : decode cL_law 228 = .ok (.iload 10, 2) := by decide +kernel
theorem dL_law_230 : decode cL_law 230 = .ok (.iadd, 1) := by decide +kernel
theorem dL_law_231 : decode cL_law 231 = .ok (.iload 13, 2) := by decide +kernel
theorem dL_law_233 : decode cL_law 233 = .ok (.ifCond .le 8, 3) := by decide +kernel
theorem dL_law_236 : decode cL_law 236 = .ok (.iload 13, 2) := by decide +kernel
theorem dL_law_238 : decode cL_law 238 = .ok (.goto 4, 3) := by decide +kernel
theorem dL_law_241 : decode cL_law 241 = .ok (.iconst 0, 1) := by decide +kernel
theorem dL_law_242 : decode cL_law 242 = .ok (.iastore, 1) := by decide +kernel
theorem dL_law_243 : decode cL_law 243 = .ok (.aload_n 1, 1) := by decide +kernel
theorem dL_law_244 : decode cL_law 244 = .ok (.iload 9, 2) := by decide +kernel
theorem dL_law_246 : decode cL_law 246 = .ok (.iload 10, 2) := by decide +kernel
theorem dL_law_248 : decode cL_law 248 = .ok (.invokevirtual 74, 3) := by decide +kernel
theorem dL_law_251 : decode cL_law 251 = .ok (.iload 11, 2) := by decide +kernel
theorem dL_law_253 : decode cL_law 253 = .ok (.ifCond .eq 13, 3) := by decide +kernel
theorem dL_law_256 : decode cL_law 256 = .ok (.aload_n 2, 1) := by decide +kernel
theorem dL_law_257 : decode cL_law 257 = .ok (.bipush 11, 2) := by decide +kernel
theorem dL_law_259 : decode cL_law 259 = .ok (.iload 9, 2) := by decide +kernel
theorem dL_law_261 : decode cL_law 261 = .ok (.iadd, 1) := by decide +kernel
theorem dL_law_262 : decode cL_law 262 = .ok (.iaload, 1) := by decide +kernel
theorem dL_law_263 : decode cL_law 263 = .ok (.goto 5, 3) := by decide +kernel
theorem dL_law_266 : decode cL_law 266 = .ok (.bipush (-103), 2) := by decide +kernel
theorem dL_law_268 : decode cL_law 268 = .ok (.if_icmp .eq 5, 3) := by decide +kernel
theorem dL_law_271 : decode cL_law 271 = .ok (.iconst 0, 1) := by decide +kernel
theorem dL_law_272 : decode cL_law 272 = .ok (.ireturn, 1) := by decide +kernel
theorem dL_law_273 : decode cL_law 273 = .ok (.goto 546, 3) := by decide +kernel
theorem dL_law_276 : decode cL_law 276 = .ok (.iload 8, 2) := by decide +kernel
theorem dL_law_278 : decode cL_law 278 = .ok (.iconst 4, 1) := by decide +kernel
theorem dL_law_279 : decode cL_law 279 = .ok (.if_icmp .ne 128, 3) := by decide +kernel
theorem dL_law_282 : decode cL_law 282 = .ok (.iconst 1, 1) := by decide +kernel
theorem dL_law_283 : decode cL_law 283 = .ok (.iload 7, 2) := by decide +kernel
theorem dL_law_285 : decode cL_law 285 = .ok (.bipush 11, 2) := by decide +kernel
theorem dL_law_287 : decode cL_law 287 = .ok (.ishr, 1) := by decide +kernel
theorem dL_law_288 : decode cL_law 288 = .ok (.bipush 8, 2) := by decide +kernel
theorem dL_law_290 : decode cL_law 290 = .ok (.invokestatic 8, 3) := by decide +kernel
theorem dL_law_293 : decode cL_law 293 = .ok (.iadd, 1) := by decide +kernel
theorem dL_law_294 : decode cL_law 294 = .ok (.istore 11, 2) := by decide +kernel
theorem dL_law_296 : decode cL_law 296 = .ok (.aload_n 2, 1) := by decide +kernel
theorem dL_law_297 : decode cL_law 297 = .ok (.bipush 21, 2) := by decide +kernel
theorem dL_law_299 : decode cL_law 299 = .ok (.iload 9, 2) := by decide +kernel
theorem dL_law_301 : decode cL_law 301 = .ok (.iadd, 1) := by decide +kernel
theorem dL_law_302 : decode cL_law 302 = .ok (.iaload, 1) := by decide +kernel
theorem dL_law_303 : decode cL_law 303 = .ok (.ifCond .lt 19, 3) := by decide +kernel
theorem dL_law_306 : decode cL_law 306 = .ok (.aload_n 2, 1) := by decide +kernel
theorem dL_law_307 : decode cL_law 307 = .ok (.bipush 11, 2) := by decide +kernel
theorem dL_law_309 : decode cL_law 309 = .ok (.iload 9, 2) := by decide +kernel
theorem dL_law_311 : decode cL_law 311 = .ok (.iadd, 1) := by decide +kernel
theorem dL_law_312 : decode cL_law 312 = .ok (.iaload, 1) := by decide +kernel
theorem dL_law_313 : decode cL_law 313 = .ok (.iload 11, 2) := by decide +kernel
theorem dL_law_315 : decode cL_law 315 = .ok (.if_icmp .le 7, 3) := by decide +kernel
theorem dL_law_318 : decode cL_law 318 = .ok (.iconst 1, 1) := by decide +kernel
theorem dL_law_319 : decode cL_law 319 = .ok (.goto 4, 3) := by decide +kernel
theorem dL_law_322 : decode cL_law 322 = .ok (.iconst 0, 1) := by decide +kernel
theorem dL_law_323 : decode cL_law 323 = .ok (.istore 12, 2) := by decide +kernel
theorem dL_law_325 : decode cL_law 325 = .ok (.aload_n 1, 1) := by decide +kernel
theorem dL_law_326 : decode cL_law 326 = .ok (.iload 9, 2) := by decide +kernel
theorem dL_law_328 : decode cL_law 328 = .ok (.iload 11, 2) := by decide +kernel
