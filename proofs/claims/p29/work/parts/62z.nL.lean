theorem dL_held_41 : decode cL_held 41 = .ok (.iload 13, 2) := by decide +kernel
theorem dL_held_43 : decode cL_held 43 = .ok (.iconst 1, 1) := by decide +kernel
theorem dL_held_44 : decode cL_held 44 = .ok (.iload 12, 2) := by decide +kernel
theorem dL_held_46 : decode cL_held 46 = .ok (.ishl, 1) := by decide +kernel
theorem dL_held_47 : decode cL_held 47 = .ok (.if_icmp .ge 126, 3) := by decide +kernel
theorem dL_held_50 : decode cL_held 50 = .ok (.lconst 1, 1) := by decide +kernel
theorem dL_held_51 : decode cL_held 51 = .ok (.lstore 14, 2) := by decide +kernel
theorem dL_held_53 : decode cL_held 53 = .ok (.aload_n 1, 1) := by decide +kernel
theorem dL_held_54 : decode cL_held 54 = .ok (.bipush 11, 2) := by decide +kernel
theorem dL_held_56 : decode cL_held 56 = .ok (.iload_n 2, 1) := by decide +kernel
theorem dL_held_57 : decode cL_held 57 = .ok (.iadd, 1) := by decide +kernel
theorem dL_held_58 : decode cL_held 58 = .ok (.iaload, 1) := by decide +kernel
theorem dL_held_59 : decode cL_held 59 = .ok (.istore 16, 2) := by decide +kernel
theorem dL_held_61 : decode cL_held 61 = .ok (.iconst 0, 1) := by decide +kernel
theorem dL_held_62 : decode cL_held 62 = .ok (.istore 17, 2) := by decide +kernel
theorem dL_held_64 : decode cL_held 64 = .ok (.iload 17, 2) := by decide +kernel
theorem dL_held_66 : decode cL_held 66 = .ok (.iload 12, 2) := by decide +kernel
theorem dL_held_68 : decode cL_held 68 = .ok (.if_icmp .ge 80, 3) := by decide +kernel
theorem dL_held_71 : decode cL_held 71 = .ok (.iload 13, 2) := by decide +kernel
theorem dL_held_73 : decode cL_held 73 = .ok (.iload 17, 2) := by decide +kernel
theorem dL_held_75 : decode cL_held 75 = .ok (.ishr, 1) := by decide +kernel
theorem dL_held_76 : decode cL_held 76 = .ok (.iconst 1, 1) := by decide +kernel
theorem dL_held_77 : decode cL_held 77 = .ok (.iand, 1) := by decide +kernel
theorem dL_held_78 : decode cL_held 78 = .ok (.iconst 1, 1) := by decide +kernel
theorem dL_held_79 : decode cL_held 79 = .ok (.if_icmp .ne 7, 3) := by decide +kernel
theorem dL_held_82 : decode cL_held 82 = .ok (.iconst 1, 1) := by decide +kernel
theorem dL_held_83 : decode cL_held 83 = .ok (.goto 4, 3) := by decide +kernel
theorem dL_held_86 : decode cL_held 86 = .ok (.iconst 0, 1) := by decide +kernel
theorem dL_held_87 : decode cL_held 87 = .ok (.istore 18, 2) := by decide +kernel
theorem dL_held_89 : decode cL_held 89 = .ok (.lload 14, 2) := by decide +kernel
theorem dL_held_91 : decode cL_held 91 = .ok (.iload 18, 2) := by decide +kernel
theorem dL_held_93 : decode cL_held 93 = .ok (.ifCond .eq 9, 3) := by decide +kernel
theorem dL_held_96 : decode cL_held 96 = .ok (.iload 4, 2) := by decide +kernel
theorem dL_held_98 : decode cL_held 98 = .ok (.i2l, 1) := by decide +kernel
theorem dL_held_99 : decode cL_held 99 = .ok (.goto 9, 3) := by decide +kernel
theorem dL_held_102 : decode cL_held 102 = .ok (.bipush 10, 2) := by decide +kernel
theorem dL_held_104 : decode cL_held 104 = .ok (.iload 4, 2) := by decide +kernel
theorem dL_held_106 : decode cL_held 106 = .ok (.isub, 1) := by decide +kernel
theorem dL_held_107 : decode cL_held 107 = .ok (.i2l, 1) := by decide +kernel
theorem dL_held_108 : decode cL_held 108 = .ok (.lmul, 1) := by decide +kernel
theorem dL_held_109 : decode cL_held 109 = .ok (.lstore 14, 2) := by decide +kernel
theorem dL_held_111 : decode cL_held 111 = .ok (.iload 18, 2) := by decide +kernel
theorem dL_held_113 : decode cL_held 113 = .ok (.ifCond .eq 25, 3) := by decide +kernel
theorem dL_held_116 : decode cL_held 116 = .ok (.aload_n 1, 1) := by decide +kernel
theorem dL_held_117 : decode cL_held 117 = .ok (.bipush 21, 2) := by decide +kernel
theorem dL_held_119 : decode cL_held 119 = .ok (.iload_n 2, 1) := by decide +kernel
theorem dL_held_120 : decode cL_held 120 = .ok (.iadd, 1) := by decide +kernel
theorem dL_held_121 : decode cL_held 121 = .ok (.iaload, 1) := by decide +kernel
theorem dL_held_122 : decode cL_held 122 = .ok (.ifCond .lt 16, 3) := by decide +kernel
theorem dL_held_125 : decode cL_held 125 = .ok (.aload_n 1, 1) := by decide +kernel
theorem dL_held_126 : decode cL_held 126 = .ok (.iconst 1, 1) := by decide +kernel
theorem dL_held_127 : decode cL_held 127 = .ok (.iload_n 2, 1) := by decide +kernel
theorem dL_held_128 : decode cL_held 128 = .ok (.iadd, 1) := by decide +kernel
theorem dL_held_129 : decode cL_held 129 = .ok (.iaload, 1) := by decide +kernel
theorem dL_held_130 : decode cL_held 130 = .ok (.iload 16, 2) := by decide +kernel
theorem dL_held_132 : decode cL_held 132 = .ok (.invokestatic 46, 3) := by decide +kernel
theorem dL_held_135 : decode cL_held 135 = .ok (.goto 5, 3) := by decide +kernel
theorem dL_held_138 : decode cL_held 138 = .ok (.iload 16, 2) := by decide +kernel
theorem dL_held_140 : decode cL_held 140 = .ok (.istore 16, 2) := by decide +kernel
theorem dL_held_142 : decode cL_held 142 = .ok (.iinc 17 1, 3) := by decide +kernel
theorem dL_held_145 : decode cL_held 145 = .ok (.goto (-81), 3) := by decide +kernel
theorem dL_held_148 : decode cL_held 148 = .ok (.lload 10, 2) := by decide +kernel
theorem dL_held_150 : decode cL_held 150 = .ok (.lload 14, 2) := by decide +kernel
theorem dL_held_152 : decode cL_held 152 = .ok (.aload_n 1, 1) := by decide +kernel
theorem dL_held_153 : decode cL_held 153 = .ok (.iconst 1, 1) := by decide +kernel
theorem dL_held_154 : decode cL_held 154 = .ok (.iload_n 2, 1) := by decide +kernel
theorem dL_held_155 : decode cL_held 155 = .ok (.iadd, 1) := by decide +kernel
theorem dL_held_156 : decode cL_held 156 = .ok (.iaload, 1) := by decide +kernel
theorem dL_held_157 : decode cL_held 157 = .ok (.iload 16, 2) := by decide +kernel
theorem dL_held_159 : decode cL_held 159 = .ok (.invokestatic 43, 3) := by decide +kernel
theorem dL_held_162 : decode cL_held 162 = .ok (.i2l, 1) := by decide +kernel
theorem dL_held_163 : decode cL_held 163 = .ok (.lmul, 1) := by decide +kernel
theorem dL_held_164 : decode cL_held 164 = .ok (.ladd, 1) := by decide +kernel
theorem dL_held_165 : decode cL_held 165 = .ok (.lstore 10, 2) := by decide +kernel
theorem dL_held_167 : decode cL_held 167 = .ok (.iinc 13 1, 3) := by decide +kernel
theorem dL_held_170 : decode cL_held 170 = .ok (.goto (-129), 3) := by decide +kernel
theorem dL_held_173 : decode cL_held 173 = .ok (.lload 10, 2) := by decide +kernel
theorem dL_held_175 : decode cL_held 175 = .ok (.lload 7, 2) := by decide +kernel
theorem dL_held_177 : decode cL_held 177 = .ok (.lload 5, 2) := by decide +kernel
theorem dL_held_179 : decode cL_held 179 = .ok (.lmul, 1) := by decide +kernel
theorem dL_held_180 : decode cL_held 180 = .ok (.lcmp, 1) := by decide +kernel
theorem dL_held_181 : decode cL_held 181 = .ok (.ifCond .lt 7, 3) := by decide +kernel
theorem dL_held_184 : decode cL_held 184 = .ok (.iload 12, 2) := by decide +kernel
theorem dL_held_186 : decode cL_held 186 = .ok (.istore 9, 2) := by decide +kernel
theorem dL_held_188 : decode cL_held 188 = .ok (.iload 12, 2) := by decide +kernel
theorem dL_held_190 : decode cL_held 190 = .ok (.iload_n 3, 1) := by decide +kernel
theorem dL_held_191 : decode cL_held 191 = .ok (.if_icmp .ge 11, 3) := by decide +kernel
theorem dL_held_194 : decode cL_held 194 = .ok (.lload 5, 2) := by decide +kernel
theorem dL_held_196 : decode cL_held 196 = .ok (.ldc2_w 133, 3) := by decide +kernel
theorem dL_held_199 : decode cL_held 199 = .ok (.lmul, 1) := by decide +kernel
theorem dL_held_200 : decode cL_held 200 = .ok (.lstore 5, 2) := by decide +kernel
theorem dL_held_202 : decode cL_held 202 = .ok (.iinc 12 1, 3) := by decide +kernel
theorem dL_held_205 : decode cL_held 205 = .ok (.goto (-176), 3) := by decide +kernel
theorem dL_held_208 : decode cL_held 208 = .ok (.lload 5, 2) := by decide +kernel
theorem dL_held_210 : decode cL_held 210 = .ok (.lstore 12, 2) := by decide +kernel
theorem dL_held_212 : decode cL_held 212 = .ok (.lload 10, 2) := by decide +kernel
theorem dL_held_214 : decode cL_held 214 = .ok (.lstore 14, 2) := by decide +kernel
theorem dL_held_216 : decode cL_held 216 = .ok (.lload 14, 2) := by decide +kernel
theorem dL_held_218 : decode cL_held 218 = .ok (.lconst 0, 1) := by decide +kernel
theorem dL_held_219 : decode cL_held 219 = .ok (.lcmp, 1) := by decide +kernel
theorem dL_held_220 : decode cL_held 220 = .ok (.ifCond .eq 21, 3) := by decide +kernel
theorem dL_held_223 : decode cL_held 223 = .ok (.lload 12, 2) := by decide +kernel
theorem dL_held_225 : decode cL_held 225 = .ok (.lload 14, 2) := by decide +kernel
theorem dL_held_227 : decode cL_held 227 = .ok (.lrem, 1) := by decide +kernel
theorem dL_held_228 : decode cL_held 228 = .ok (.lstore 16, 2) := by decide +kernel
theorem dL_held_230 : decode cL_held 230 = .ok (.lload 14, 2) := by decide +kernel
theorem dL_held_232 : decode cL_held 232 = .ok (.lstore 12, 2) := by decide +kernel
theorem dL_held_234 : decode cL_held 234 = .ok (.lload 16, 2) := by decide +kernel
theorem dL_held_236 : decode cL_held 236 = .ok (.lstore 14, 2) := by decide +kernel
theorem dL_held_238 : decode cL_held 238 = .ok (.goto (-22), 3) := by decide +kernel
theorem dL_held_241 : decode cL_held 241 = .ok (.aload_n 0, 1) := by decide +kernel
theorem dL_held_242 : decode cL_held 242 = .ok (.iload_n 2, 1) := by decide +kernel
theorem dL_held_243 : decode cL_held 243 = .ok (.iload_n 3, 1) := by decide +kernel
theorem dL_held_244 : decode cL_held 244 = .ok (.iload 4, 2) := by decide +kernel
theorem dL_held_246 : decode cL_held 246 = .ok (.iconst 0, 1) := by decide +kernel
theorem dL_held_247 : decode cL_held 247 = .ok (.invokevirtual 120, 3) := by decide +kernel
theorem dL_held_250 : decode cL_held 250 = .ok (.lload 10, 2) := by decide +kernel
theorem dL_held_252 : decode cL_held 252 = .ok (.lload 12, 2) := by decide +kernel
theorem dL_held_254 : decode cL_held 254 = .ok (.ldiv, 1) := by decide +kernel
theorem dL_held_255 : decode cL_held 255 = .ok (.lcmp, 1) := by decide +kernel
theorem dL_held_256 : decode cL_held 256 = .ok (.ifCond .ne 38, 3) := by decide +kernel
theorem dL_held_259 : decode cL_held 259 = .ok (.aload_n 0, 1) := by decide +kernel
theorem dL_held_260 : decode cL_held 260 = .ok (.iload_n 2, 1) := by decide +kernel
theorem dL_held_261 : decode cL_held 261 = .ok (.iload_n 3, 1) := by decide +kernel
theorem dL_held_262 : decode cL_held 262 = .ok (.iload 4, 2) := by decide +kernel
theorem dL_held_264 : decode cL_held 264 = .ok (.iconst 1, 1) := by decide +kernel
theorem dL_held_265 : decode cL_held 265 = .ok (.invokevirtual 120, 3) := by decide +kernel
theorem dL_held_268 : decode cL_held 268 = .ok (.lload 5, 2) := by decide +kernel
theorem dL_held_270 : decode cL_held 270 = .ok (.lload 12, 2) := by decide +kernel
theorem dL_held_272 : decode cL_held 272 = .ok (.ldiv, 1) := by decide +kernel
theorem dL_held_273 : decode cL_held 273 = .ok (.lcmp, 1) := by decide +kernel
theorem dL_held_274 : decode cL_held 274 = .ok (.ifCond .ne 20, 3) := by decide +kernel
theorem dL_held_277 : decode cL_held 277 = .ok (.aload_n 0, 1) := by decide +kernel
theorem dL_held_278 : decode cL_held 278 = .ok (.iload_n 2, 1) := by decide +kernel
theorem dL_held_279 : decode cL_held 279 = .ok (.iload_n 3, 1) := by decide +kernel
theorem dL_held_280 : decode cL_held 280 = .ok (.iload 4, 2) := by decide +kernel
theorem dL_held_282 : decode cL_held 282 = .ok (.invokevirtual 127, 3) := by decide +kernel
theorem dL_held_285 : decode cL_held 285 = .ok (.iload 9, 2) := by decide +kernel
theorem dL_held_287 : decode cL_held 287 = .ok (.if_icmp .ne 7, 3) := by decide +kernel
theorem dL_held_290 : decode cL_held 290 = .ok (.iconst 1, 1) := by decide +kernel
theorem dL_held_291 : decode cL_held 291 = .ok (.goto 4, 3) := by decide +kernel
theorem dL_held_294 : decode cL_held 294 = .ok (.iconst 0, 1) := by decide +kernel
theorem dL_held_295 : decode cL_held 295 = .ok (.ireturn, 1) := by decide +kernel
