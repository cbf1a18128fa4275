set_option maxRecDepth 20000 in
theorem ggL_stands_X10_count : GoodIn wsL_stands wsX10_count := goodIn_r _ [67, 6, 68, 69, 70, 71, 72, 51, 73, 74, 75, 10, 76, 12, 21, 77, 78, 79, 80, 81, 82, 83, 84, 22, 85, 86, 87, 61, 88, 63, 89, 90, 91, 92, 93, 94, 95, 96, 97, 98, 99, 100, 101, 102, 103, 104, 105, 106, 107, 109, 110, 108] (by decide +kernel) (by decide +kernel)
set_option maxRecDepth 20000 in
theorem gL_stands_X10_count : GoodIn wsL_stands (wsV RL 55 RX10 yX10_count wsX10_count) := goodIn_app (goodIn_of _ (by decide +kernel)) ggL_stands_X10_count
theorem dL_stands_0 : decode cL_stands 0 = .ok (.iconst 0, 1) := by decide +kernel
theorem dL_stands_1 : decode cL_stands 1 = .ok (.istore 4, 2) := by decide +kernel
theorem dL_stands_3 : decode cL_stands 3 = .ok (.iconst 0, 1) := by decide +kernel
theorem dL_stands_4 : decode cL_stands 4 = .ok (.istore 5, 2) := by decide +kernel
theorem dL_stands_6 : decode cL_stands 6 = .ok (.iconst 0, 1) := by decide +kernel
theorem dL_stands_7 : decode cL_stands 7 = .ok (.istore 6, 2) := by decide +kernel
theorem dL_stands_9 : decode cL_stands 9 = .ok (.iload 6, 2) := by decide +kernel
theorem dL_stands_11 : decode cL_stands 11 = .ok (.aload_n 1, 1) := by decide +kernel
theorem dL_stands_12 : decode cL_stands 12 = .ok (.iconst 0, 1) := by decide +kernel
theorem dL_stands_13 : decode cL_stands 13 = .ok (.iaload, 1) := by decide +kernel
theorem dL_stands_14 : decode cL_stands 14 = .ok (.if_icmp .ge 158, 3) := by decide +kernel
theorem dL_stands_17 : decode cL_stands 17 = .ok (.aload_n 0, 1) := by decide +kernel
theorem dL_stands_18 : decode cL_stands 18 = .ok (.iload 6, 2) := by decide +kernel
theorem dL_stands_20 : decode cL_stands 20 = .ok (.iconst 0, 1) := by decide +kernel
theorem dL_stands_21 : decode cL_stands 21 = .ok (.invokevirtual 49, 3) := by decide +kernel
theorem dL_stands_24 : decode cL_stands 24 = .ok (.aload_n 1, 1) := by decide +kernel
theorem dL_stands_25 : decode cL_stands 25 = .ok (.iconst 1, 1) := by decide +kernel
theorem dL_stands_26 : decode cL_stands 26 = .ok (.iload 6, 2) := by decide +kernel
theorem dL_stands_28 : decode cL_stands 28 = .ok (.iadd, 1) := by decide +kernel
theorem dL_stands_29 : decode cL_stands 29 = .ok (.iaload, 1) := by decide +kernel
theorem dL_stands_30 : decode cL_stands 30 = .ok (.if_icmp .ne 63, 3) := by decide +kernel
theorem dL_stands_33 : decode cL_stands 33 = .ok (.aload_n 0, 1) := by decide +kernel
theorem dL_stands_34 : decode cL_stands 34 = .ok (.iload 6, 2) := by decide +kernel
theorem dL_stands_36 : decode cL_stands 36 = .ok (.iconst 1, 1) := by decide +kernel
theorem dL_stands_37 : decode cL_stands 37 = .ok (.invokevirtual 49, 3) := by decide +kernel
theorem dL_stands_40 : decode cL_stands 40 = .ok (.aload_n 1, 1) := by decide +kernel
theorem dL_stands_41 : decode cL_stands 41 = .ok (.bipush 11, 2) := by decide +kernel
theorem dL_stands_43 : decode cL_stands 43 = .ok (.iload 6, 2) := by decide +kernel
theorem dL_stands_45 : decode cL_stands 45 = .ok (.iadd, 1) := by decide +kernel
theorem dL_stands_46 : decode cL_stands 46 = .ok (.iaload, 1) := by decide +kernel
theorem dL_stands_47 : decode cL_stands 47 = .ok (.if_icmp .ne 46, 3) := by decide +kernel
theorem dL_stands_50 : decode cL_stands 50 = .ok (.aload_n 0, 1) := by decide +kernel
theorem dL_stands_51 : decode cL_stands 51 = .ok (.iload 6, 2) := by decide +kernel
theorem dL_stands_53 : decode cL_stands 53 = .ok (.iconst 2, 1) := by decide +kernel
theorem dL_stands_54 : decode cL_stands 54 = .ok (.invokevirtual 49, 3) := by decide +kernel
theorem dL_stands_57 : decode cL_stands 57 = .ok (.aload_n 1, 1) := by decide +kernel
theorem dL_stands_58 : decode cL_stands 58 = .ok (.bipush 21, 2) := by decide +kernel
theorem dL_stands_60 : decode cL_stands 60 = .ok (.iload 6, 2) := by decide +kernel
theorem dL_stands_62 : decode cL_stands 62 = .ok (.iadd, 1) := by decide +kernel
theorem dL_stands_63 : decode cL_stands 63 = .ok (.iaload, 1) := by decide +kernel
theorem dL_stands_64 : decode cL_stands 64 = .ok (.if_icmp .ne 29, 3) := by decide +kernel
theorem dL_stands_67 : decode cL_stands 67 = .ok (.aload_n 0, 1) := by decide +kernel
theorem dL_stands_68 : decode cL_stands 68 = .ok (.iload 6, 2) := by decide +kernel
theorem dL_stands_70 : decode cL_stands 70 = .ok (.iconst 3, 1) := by decide +kernel
theorem dL_stands_71 : decode cL_stands 71 = .ok (.invokevirtual 49, 3) := by decide +kernel
theorem dL_stands_74 : decode cL_stands 74 = .ok (.aload_n 1, 1) := by decide +kernel
theorem dL_stands_75 : decode cL_stands 75 = .ok (.iconst 1, 1) := by decide +kernel
theorem dL_stands_76 : decode cL_stands 76 = .ok (.iload 6, 2) := by decide +kernel
theorem dL_stands_78 : decode cL_stands 78 = .ok (.iadd, 1) := by decide +kernel
theorem dL_stands_79 : decode cL_stands 79 = .ok (.iaload, 1) := by decide +kernel
theorem dL_stands_80 : decode cL_stands 80 = .ok (.aload_n 1, 1) := by decide +kernel
theorem dL_stands_81 : decode cL_stands 81 = .ok (.bipush 11, 2) := by decide +kernel
theorem dL_stands_83 : decode cL_stands 83 = .ok (.iload 6, 2) := by decide +kernel
theorem dL_stands_85 : decode cL_stands 85 = .ok (.iadd, 1) := by decide +kernel
theorem dL_stands_86 : decode cL_stands 86 = .ok (.iaload, 1) := by decide +kernel
theorem dL_stands_87 : decode cL_stands 87 = .ok (.invokestatic 43, 3) := by decide +kernel
theorem dL_stands_90 : decode cL_stands 90 = .ok (.if_icmp .eq 5, 3) := by decide +kernel
theorem dL_stands_93 : decode cL_stands 93 = .ok (.iconst 0, 1) := by decide +kernel
theorem dL_stands_94 : decode cL_stands 94 = .ok (.ireturn, 1) := by decide +kernel
theorem dL_stands_95 : decode cL_stands 95 = .ok (.iconst 0, 1) := by decide +kernel
theorem dL_stands_96 : decode cL_stands 96 = .ok (.istore 7, 2) := by decide +kernel
theorem dL_stands_98 : decode cL_stands 98 = .ok (.iload 7, 2) := by decide +kernel
theorem dL_stands_100 : decode cL_stands 100 = .ok (.iconst 4, 1) := by decide +kernel
theorem dL_stands_101 : decode cL_stands 101 = .ok (.if_icmp .ge 33, 3) := by decide +kernel
theorem dL_stands_104 : decode cL_stands 104 = .ok (.aload_n 0, 1) := by decide +kernel
theorem dL_stands_105 : decode cL_stands 105 = .ok (.iload 6, 2) := by decide +kernel
theorem dL_stands_107 : decode cL_stands 107 = .ok (.iconst 4, 1) := by decide +kernel
theorem dL_stands_108 : decode cL_stands 108 = .ok (.iload 7, 2) := by decide +kernel
theorem dL_stands_110 : decode cL_stands 110 = .ok (.iadd, 1) := by decide +kernel
theorem dL_stands_111 : decode cL_stands 111 = .ok (.invokevirtual 49, 3) := by decide +kernel
theorem dL_stands_114 : decode cL_stands 114 = .ok (.aload_n 2, 1) := by decide +kernel
theorem dL_stands_115 : decode cL_stands 115 = .ok (.iconst 4, 1) := by decide +kernel
theorem dL_stands_116 : decode cL_stands 116 = .ok (.iload 6, 2) := by decide +kernel
theorem dL_stands_118 : decode cL_stands 118 = .ok (.imul, 1) := by decide +kernel
theorem dL_stands_119 : decode cL_stands 119 = .ok (.iload 7, 2) := by decide +kernel
theorem dL_stands_121 : decode cL_stands 121 = .ok (.iadd, 1) := by decide +kernel
theorem dL_stands_122 : decode cL_stands 122 = .ok (.iaload, 1) := by decide +kernel
theorem dL_stands_123 : decode cL_stands 123 = .ok (.if_icmp .eq 5, 3) := by decide +kernel
theorem dL_stands_126 : decode cL_stands 126 = .ok (.iconst 0, 1) := by decide +kernel
theorem dL_stands_127 : decode cL_stands 127 = .ok (.ireturn, 1) := by decide +kernel
theorem dL_stands_128 : decode cL_stands 128 = .ok (.iinc 7 1, 3) := by decide +kernel
theorem dL_stands_131 : decode cL_stands 131 = .ok (.goto (-33), 3) := by decide +kernel
theorem dL_stands_134 : decode cL_stands 134 = .ok (.iload 4, 2) := by decide +kernel
theorem dL_stands_136 : decode cL_stands 136 = .ok (.aload_n 1, 1) := by decide +kernel
theorem dL_stands_137 : decode cL_stands 137 = .ok (.bipush 11, 2) := by decide +kernel
theorem dL_stands_139 : decode cL_stands 139 = .ok (.iload 6, 2) := by decide +kernel
theorem dL_stands_141 : decode cL_stands 141 = .ok (.iadd, 1) := by decide +kernel
theorem dL_stands_142 : decode cL_stands 142 = .ok (.iaload, 1) := by decide +kernel
theorem dL_stands_143 : decode cL_stands 143 = .ok (.iadd, 1) := by decide +kernel
theorem dL_stands_144 : decode cL_stands 144 = .ok (.istore 4, 2) := by decide +kernel
theorem dL_stands_146 : decode cL_stands 146 = .ok (.iload 5, 2) := by decide +kernel
theorem dL_stands_148 : decode cL_stands 148 = .ok (.aload_n 1, 1) := by decide +kernel
theorem dL_stands_149 : decode cL_stands 149 = .ok (.bipush 21, 2) := by decide +kernel
theorem dL_stands_151 : decode cL_stands 151 = .ok (.iload 6, 2) := by decide +kernel
theorem dL_stands_153 : decode cL_stands 153 = .ok (.iadd, 1) := by decide +kernel
theorem dL_stands_154 : decode cL_stands 154 = .ok (.iaload, 1) := by decide +kernel
theorem dL_stands_155 : decode cL_stands 155 = .ok (.ifCond .ge 7, 3) := by decide +kernel
theorem dL_stands_158 : decode cL_stands 158 = .ok (.iconst 1, 1) := by decide +kernel
theorem dL_stands_159 : decode cL_stands 159 = .ok (.goto 4, 3) := by decide +kernel
theorem dL_stands_162 : decode cL_stands 162 = .ok (.iconst 0, 1) := by decide +kernel
theorem dL_stands_163 : decode cL_stands 163 = .ok (.iadd, 1) := by decide +kernel
theorem dL_stands_164 : decode cL_stands 164 = .ok (.istore 5, 2) := by decide +kernel
theorem dL_stands_166 : decode cL_stands 166 = .ok (.iinc 6 1, 3) := by decide +kernel
theorem dL_stands_169 : decode cL_stands 169 = .ok (.goto (-160), 3) := by decide +kernel
theorem dL_stands_172 : decode cL_stands 172 = .ok (.iconst 0, 1) := by decide +kernel
theorem dL_stands_173 : decode cL_stands 173 = .ok (.istore 6, 2) := by decide +kernel
theorem dL_stands_175 : decode cL_stands 175 = .ok (.iconst 0, 1) := by decide +kernel
theorem dL_stands_176 : decode cL_stands 176 = .ok (.istore 7, 2) := by decide +kernel
theorem dL_stands_178 : decode cL_stands 178 = .ok (.iload 7, 2) := by decide +kernel
theorem dL_stands_180 : decode cL_stands 180 = .ok (.bipush 6, 2) := by decide +kernel
theorem dL_stands_182 : decode cL_stands 182 = .ok (.if_icmp .ge 75, 3) := by decide +kernel
theorem dL_stands_185 : decode cL_stands 185 = .ok (.iconst 0, 1) := by decide +kernel
theorem dL_stands_186 : decode cL_stands 186 = .ok (.istore 8, 2) := by decide +kernel
theorem dL_stands_188 : decode cL_stands 188 = .ok (.iload 8, 2) := by decide +kernel
theorem dL_stands_190 : decode cL_stands 190 = .ok (.bipush 6, 2) := by decide +kernel
theorem dL_stands_192 : decode cL_stands 192 = .ok (.if_icmp .ge 59, 3) := by decide +kernel
theorem dL_stands_195 : decode cL_stands 195 = .ok (.aload_n 0, 1) := by decide +kernel
theorem dL_stands_196 : decode cL_stands 196 = .ok (.iload 7, 2) := by decide +kernel
theorem dL_stands_198 : decode cL_stands 198 = .ok (.iload 8, 2) := by decide +kernel
theorem dL_stands_200 : decode cL_stands 200 = .ok (.invokevirtual 52, 3) := by decide +kernel
theorem dL_stands_203 : decode cL_stands 203 = .ok (.iload 7, 2) := by decide +kernel
theorem dL_stands_205 : decode cL_stands 205 = .ok (.iload 8, 2) := by decide +kernel
theorem dL_stands_207 : decode cL_stands 207 = .ok (.if_icmp .ne 8, 3) := by decide +kernel
theorem dL_stands_210 : decode cL_stands 210 = .ok (.bipush (-101), 2) := by decide +kernel
theorem dL_stands_212 : decode cL_stands 212 = .ok (.goto 13, 3) := by decide +kernel
theorem dL_stands_215 : decode cL_stands 215 = .ok (.aload_n 3, 1) := by decide +kernel
theorem dL_stands_216 : decode cL_stands 216 = .ok (.bipush 6, 2) := by decide +kernel
