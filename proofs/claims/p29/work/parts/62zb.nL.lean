theorem dL_months_51 : decode cL_months 51 = .ok (.if_icmp .ge 118, 3) := by decide +kernel
theorem dL_months_54 : decode cL_months 54 = .ok (.lload 7, 2) := by decide +kernel
theorem dL_months_56 : decode cL_months 56 = .ok (.invokestatic 135, 3) := by decide +kernel
theorem dL_months_59 : decode cL_months 59 = .ok (.lstore 7, 2) := by decide +kernel
theorem dL_months_61 : decode cL_months 61 = .ok (.lload 7, 2) := by decide +kernel
theorem dL_months_63 : decode cL_months 63 = .ok (.ldc2_w 139, 3) := by decide +kernel
theorem dL_months_66 : decode cL_months 66 = .ok (.ldiv, 1) := by decide +kernel
theorem dL_months_67 : decode cL_months 67 = .ok (.ldc2_w 133, 3) := by decide +kernel
theorem dL_months_70 : decode cL_months 70 = .ok (.lrem, 1) := by decide +kernel
theorem dL_months_71 : decode cL_months 71 = .ok (.iload_n 3, 1) := by decide +kernel
theorem dL_months_72 : decode cL_months 72 = .ok (.i2l, 1) := by decide +kernel
theorem dL_months_73 : decode cL_months 73 = .ok (.lcmp, 1) := by decide +kernel
theorem dL_months_74 : decode cL_months 74 = .ok (.ifCond .ge 12, 3) := by decide +kernel
theorem dL_months_77 : decode cL_months 77 = .ok (.aload 5, 2) := by decide +kernel
theorem dL_months_79 : decode cL_months 79 = .ok (.invokestatic 90, 3) := by decide +kernel
theorem dL_months_82 : decode cL_months 82 = .ok (.pop, 1) := by decide +kernel
theorem dL_months_83 : decode cL_months 83 = .ok (.iinc 9 1, 3) := by decide +kernel
theorem dL_months_86 : decode cL_months 86 = .ok (.lload 7, 2) := by decide +kernel
theorem dL_months_88 : decode cL_months 88 = .ok (.invokestatic 135, 3) := by decide +kernel
theorem dL_months_91 : decode cL_months 91 = .ok (.lstore 7, 2) := by decide +kernel
theorem dL_months_93 : decode cL_months 93 = .ok (.lload 7, 2) := by decide +kernel
theorem dL_months_95 : decode cL_months 95 = .ok (.ldc2_w 139, 3) := by decide +kernel
theorem dL_months_98 : decode cL_months 98 = .ok (.ldiv, 1) := by decide +kernel
theorem dL_months_99 : decode cL_months 99 = .ok (.aload 5, 2) := by decide +kernel
theorem dL_months_101 : decode cL_months 101 = .ok (.iconst 0, 1) := by decide +kernel
theorem dL_months_102 : decode cL_months 102 = .ok (.iaload, 1) := by decide +kernel
theorem dL_months_103 : decode cL_months 103 = .ok (.i2l, 1) := by decide +kernel
theorem dL_months_104 : decode cL_months 104 = .ok (.lrem, 1) := by decide +kernel
theorem dL_months_105 : decode cL_months 105 = .ok (.l2i, 1) := by decide +kernel
theorem dL_months_106 : decode cL_months 106 = .ok (.istore 11, 2) := by decide +kernel
theorem dL_months_108 : decode cL_months 108 = .ok (.lload 7, 2) := by decide +kernel
theorem dL_months_110 : decode cL_months 110 = .ok (.invokestatic 135, 3) := by decide +kernel
theorem dL_months_113 : decode cL_months 113 = .ok (.lstore 7, 2) := by decide +kernel
theorem dL_months_115 : decode cL_months 115 = .ok (.lload 7, 2) := by decide +kernel
theorem dL_months_117 : decode cL_months 117 = .ok (.ldc2_w 139, 3) := by decide +kernel
theorem dL_months_120 : decode cL_months 120 = .ok (.ldiv, 1) := by decide +kernel
theorem dL_months_121 : decode cL_months 121 = .ok (.ldc2_w 141, 3) := by decide +kernel
theorem dL_months_124 : decode cL_months 124 = .ok (.lrem, 1) := by decide +kernel
theorem dL_months_125 : decode cL_months 125 = .ok (.l2i, 1) := by decide +kernel
theorem dL_months_126 : decode cL_months 126 = .ok (.istore 12, 2) := by decide +kernel
theorem dL_months_128 : decode cL_months 128 = .ok (.aload 5, 2) := by decide +kernel
theorem dL_months_130 : decode cL_months 130 = .ok (.bipush 21, 2) := by decide +kernel
theorem dL_months_132 : decode cL_months 132 = .ok (.iload 11, 2) := by decide +kernel
theorem dL_months_134 : decode cL_months 134 = .ok (.iadd, 1) := by decide +kernel
theorem dL_months_135 : decode cL_months 135 = .ok (.iaload, 1) := by decide +kernel
theorem dL_months_136 : decode cL_months 136 = .ok (.ifCond .lt 27, 3) := by decide +kernel
theorem dL_months_139 : decode cL_months 139 = .ok (.aload 5, 2) := by decide +kernel
theorem dL_months_141 : decode cL_months 141 = .ok (.bipush 21, 2) := by decide +kernel
theorem dL_months_143 : decode cL_months 143 = .ok (.iload 11, 2) := by decide +kernel
theorem dL_months_145 : decode cL_months 145 = .ok (.iadd, 1) := by decide +kernel
theorem dL_months_146 : decode cL_months 146 = .ok (.iaload, 1) := by decide +kernel
theorem dL_months_147 : decode cL_months 147 = .ok (.iload 12, 2) := by decide +kernel
theorem dL_months_149 : decode cL_months 149 = .ok (.if_icmp .eq 14, 3) := by decide +kernel
theorem dL_months_152 : decode cL_months 152 = .ok (.aload 5, 2) := by decide +kernel
theorem dL_months_154 : decode cL_months 154 = .ok (.aload 6, 2) := by decide +kernel
theorem dL_months_156 : decode cL_months 156 = .ok (.iload 11, 2) := by decide +kernel
theorem dL_months_158 : decode cL_months 158 = .ok (.iload 12, 2) := by decide +kernel
theorem dL_months_160 : decode cL_months 160 = .ok (.invokestatic 70, 3) := by decide +kernel
theorem dL_months_163 : decode cL_months 163 = .ok (.iinc 10 1, 3) := by decide +kernel
theorem dL_months_166 : decode cL_months 166 = .ok (.goto (-118), 3) := by decide +kernel
theorem dL_months_169 : decode cL_months 169 = .ok (.iconst 0, 1) := by decide +kernel
theorem dL_months_170 : decode cL_months 170 = .ok (.istore 10, 2) := by decide +kernel
theorem dL_months_172 : decode cL_months 172 = .ok (.iconst 0, 1) := by decide +kernel
theorem dL_months_173 : decode cL_months 173 = .ok (.istore 11, 2) := by decide +kernel
theorem dL_months_175 : decode cL_months 175 = .ok (.iload 11, 2) := by decide +kernel
theorem dL_months_177 : decode cL_months 177 = .ok (.aload 5, 2) := by decide +kernel
theorem dL_months_179 : decode cL_months 179 = .ok (.iconst 0, 1) := by decide +kernel
theorem dL_months_180 : decode cL_months 180 = .ok (.iaload, 1) := by decide +kernel
theorem dL_months_181 : decode cL_months 181 = .ok (.if_icmp .ge 22, 3) := by decide +kernel
theorem dL_months_184 : decode cL_months 184 = .ok (.iload 10, 2) := by decide +kernel
theorem dL_months_186 : decode cL_months 186 = .ok (.aload 5, 2) := by decide +kernel
theorem dL_months_188 : decode cL_months 188 = .ok (.bipush 11, 2) := by decide +kernel
theorem dL_months_190 : decode cL_months 190 = .ok (.iload 11, 2) := by decide +kernel
theorem dL_months_192 : decode cL_months 192 = .ok (.iadd, 1) := by decide +kernel
theorem dL_months_193 : decode cL_months 193 = .ok (.iaload, 1) := by decide +kernel
theorem dL_months_194 : decode cL_months 194 = .ok (.iadd, 1) := by decide +kernel
theorem dL_months_195 : decode cL_months 195 = .ok (.istore 10, 2) := by decide +kernel
theorem dL_months_197 : decode cL_months 197 = .ok (.iinc 11 1, 3) := by decide +kernel
theorem dL_months_200 : decode cL_months 200 = .ok (.goto (-25), 3) := by decide +kernel
theorem dL_months_203 : decode cL_months 203 = .ok (.aload_n 0, 1) := by decide +kernel
theorem dL_months_204 : decode cL_months 204 = .ok (.iload_n 2, 1) := by decide +kernel
theorem dL_months_205 : decode cL_months 205 = .ok (.iload_n 3, 1) := by decide +kernel
theorem dL_months_206 : decode cL_months 206 = .ok (.iload 4, 2) := by decide +kernel
theorem dL_months_208 : decode cL_months 208 = .ok (.iconst 0, 1) := by decide +kernel
theorem dL_months_209 : decode cL_months 209 = .ok (.invokevirtual 130, 3) := by decide +kernel
theorem dL_months_212 : decode cL_months 212 = .ok (.iload 10, 2) := by decide +kernel
theorem dL_months_214 : decode cL_months 214 = .ok (.if_icmp .ne 37, 3) := by decide +kernel
theorem dL_months_217 : decode cL_months 217 = .ok (.aload_n 0, 1) := by decide +kernel
theorem dL_months_218 : decode cL_months 218 = .ok (.iload_n 2, 1) := by decide +kernel
theorem dL_months_219 : decode cL_months 219 = .ok (.iload_n 3, 1) := by decide +kernel
theorem dL_months_220 : decode cL_months 220 = .ok (.iload 4, 2) := by decide +kernel
theorem dL_months_222 : decode cL_months 222 = .ok (.iconst 1, 1) := by decide +kernel
theorem dL_months_223 : decode cL_months 223 = .ok (.invokevirtual 130, 3) := by decide +kernel
theorem dL_months_226 : decode cL_months 226 = .ok (.iload 9, 2) := by decide +kernel
theorem dL_months_228 : decode cL_months 228 = .ok (.if_icmp .ne 23, 3) := by decide +kernel
theorem dL_months_231 : decode cL_months 231 = .ok (.aload_n 0, 1) := by decide +kernel
theorem dL_months_232 : decode cL_months 232 = .ok (.iload_n 2, 1) := by decide +kernel
theorem dL_months_233 : decode cL_months 233 = .ok (.iload_n 3, 1) := by decide +kernel
theorem dL_months_234 : decode cL_months 234 = .ok (.iload 4, 2) := by decide +kernel
theorem dL_months_236 : decode cL_months 236 = .ok (.iconst 2, 1) := by decide +kernel
theorem dL_months_237 : decode cL_months 237 = .ok (.invokevirtual 130, 3) := by decide +kernel
theorem dL_months_240 : decode cL_months 240 = .ok (.i2l, 1) := by decide +kernel
theorem dL_months_241 : decode cL_months 241 = .ok (.lload 7, 2) := by decide +kernel
theorem dL_months_243 : decode cL_months 243 = .ok (.lcmp, 1) := by decide +kernel
theorem dL_months_244 : decode cL_months 244 = .ok (.ifCond .ne 7, 3) := by decide +kernel
theorem dL_months_247 : decode cL_months 247 = .ok (.iconst 1, 1) := by decide +kernel
theorem dL_months_248 : decode cL_months 248 = .ok (.goto 4, 3) := by decide +kernel
theorem dL_months_251 : decode cL_months 251 = .ok (.iconst 0, 1) := by decide +kernel
theorem dL_months_252 : decode cL_months 252 = .ok (.ireturn, 1) := by decide +kernel
theorem dL_after_0 : decode cL_after 0 = .ok (.lload_n 0, 1) := by decide +kernel
theorem dL_after_1 : decode cL_after 1 = .ok (.ldc2_w 143, 3) := by decide +kernel
theorem dL_after_4 : decode cL_after 4 = .ok (.lmul, 1) := by decide +kernel
theorem dL_after_5 : decode cL_after 5 = .ok (.ldc2_w 145, 3) := by decide +kernel
theorem dL_after_8 : decode cL_after 8 = .ok (.ladd, 1) := by decide +kernel
theorem dL_after_9 : decode cL_after 9 = .ok (.ldc2_w 147, 3) := by decide +kernel
theorem dL_after_12 : decode cL_after 12 = .ok (.lrem, 1) := by decide +kernel
theorem dL_after_13 : decode cL_after 13 = .ok (.lreturn, 1) := by decide +kernel
