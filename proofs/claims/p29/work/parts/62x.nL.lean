set_option maxRecDepth 20000 in
theorem ggL_least_X10_least : GoodIn wsL_least wsX10_least := goodIn_r _ [9, 10, 11, 12, 13, 8, 14, 15, 16, 17, 18, 19, 20, 21, 22, 23, 24, 25, 26, 27, 28, 29, 30, 31, 32, 33, 34, 35, 36, 37, 38, 39, 40, 41, 42, 43, 44, 45, 46, 47, 48, 49, 50, 51, 52, 53, 54, 55, 56, 57, 58, 59, 60, 61, 62, 63, 64, 65, 66, 67, 68, 69, 70, 71, 72, 73, 74, 75, 76, 77, 78, 79, 80, 81, 82, 83, 84, 85, 86, 87, 88, 89, 90, 91, 92, 93, 94, 95, 96, 97, 98, 99, 100] (by decide +kernel) (by decide +kernel)
set_option maxRecDepth 20000 in
theorem gL_least_X10_least : GoodIn wsL_least (wsV RL 118 RX10 yX10_least wsX10_least) := goodIn_app (goodIn_of _ (by decide +kernel)) ggL_least_X10_least
theorem dL_least_0 : decode cL_least 0 = .ok (.iconst (-1), 1) := by decide +kernel
theorem dL_least_1 : decode cL_least 1 = .ok (.istore 4, 2) := by decide +kernel
theorem dL_least_3 : decode cL_least 3 = .ok (.sipush 999, 3) := by decide +kernel
theorem dL_least_6 : decode cL_least 6 = .ok (.istore 5, 2) := by decide +kernel
theorem dL_least_8 : decode cL_least 8 = .ok (.bipush 99, 2) := by decide +kernel
theorem dL_least_10 : decode cL_least 10 = .ok (.istore 6, 2) := by decide +kernel
theorem dL_least_12 : decode cL_least 12 = .ok (.iconst 1, 1) := by decide +kernel
theorem dL_least_13 : decode cL_least 13 = .ok (.aload_n 1, 1) := by decide +kernel
theorem dL_least_14 : decode cL_least 14 = .ok (.iconst 0, 1) := by decide +kernel
theorem dL_least_15 : decode cL_least 15 = .ok (.iaload, 1) := by decide +kernel
theorem dL_least_16 : decode cL_least 16 = .ok (.ishl, 1) := by decide +kernel
theorem dL_least_17 : decode cL_least 17 = .ok (.iconst 1, 1) := by decide +kernel
theorem dL_least_18 : decode cL_least 18 = .ok (.isub, 1) := by decide +kernel
theorem dL_least_19 : decode cL_least 19 = .ok (.istore 7, 2) := by decide +kernel
theorem dL_least_21 : decode cL_least 21 = .ok (.iload 7, 2) := by decide +kernel
theorem dL_least_23 : decode cL_least 23 = .ok (.ifCond .lt 155, 3) := by decide +kernel
theorem dL_least_26 : decode cL_least 26 = .ok (.iconst 0, 1) := by decide +kernel
theorem dL_least_27 : decode cL_least 27 = .ok (.istore 8, 2) := by decide +kernel
theorem dL_least_29 : decode cL_least 29 = .ok (.iconst 0, 1) := by decide +kernel
theorem dL_least_30 : decode cL_least 30 = .ok (.istore 9, 2) := by decide +kernel
theorem dL_least_32 : decode cL_least 32 = .ok (.iconst 0, 1) := by decide +kernel
theorem dL_least_33 : decode cL_least 33 = .ok (.istore 10, 2) := by decide +kernel
theorem dL_least_35 : decode cL_least 35 = .ok (.iconst 1, 1) := by decide +kernel
theorem dL_least_36 : decode cL_least 36 = .ok (.istore 11, 2) := by decide +kernel
theorem dL_least_38 : decode cL_least 38 = .ok (.iconst 0, 1) := by decide +kernel
theorem dL_least_39 : decode cL_least 39 = .ok (.istore 12, 2) := by decide +kernel
theorem dL_least_41 : decode cL_least 41 = .ok (.iload 12, 2) := by decide +kernel
theorem dL_least_43 : decode cL_least 43 = .ok (.aload_n 1, 1) := by decide +kernel
theorem dL_least_44 : decode cL_least 44 = .ok (.iconst 0, 1) := by decide +kernel
theorem dL_least_45 : decode cL_least 45 = .ok (.iaload, 1) := by decide +kernel
theorem dL_least_46 : decode cL_least 46 = .ok (.if_icmp .ge 79, 3) := by decide +kernel
theorem dL_least_49 : decode cL_least 49 = .ok (.iload 7, 2) := by decide +kernel
theorem dL_least_51 : decode cL_least 51 = .ok (.iload 12, 2) := by decide +kernel
theorem dL_least_53 : decode cL_least 53 = .ok (.ishr, 1) := by decide +kernel
theorem dL_least_54 : decode cL_least 54 = .ok (.iconst 1, 1) := by decide +kernel
theorem dL_least_55 : decode cL_least 55 = .ok (.iand, 1) := by decide +kernel
theorem dL_least_56 : decode cL_least 56 = .ok (.ifCond .ne 6, 3) := by decide +kernel
theorem dL_least_59 : decode cL_least 59 = .ok (.goto 60, 3) := by decide +kernel
theorem dL_least_62 : decode cL_least 62 = .ok (.iload 11, 2) := by decide +kernel
theorem dL_least_64 : decode cL_least 64 = .ok (.aload_n 1, 1) := by decide +kernel
theorem dL_least_65 : decode cL_least 65 = .ok (.bipush 21, 2) := by decide +kernel
theorem dL_least_67 : decode cL_least 67 = .ok (.iload 12, 2) := by decide +kernel
theorem dL_least_69 : decode cL_least 69 = .ok (.iadd, 1) := by decide +kernel
theorem dL_least_70 : decode cL_least 70 = .ok (.iaload, 1) := by decide +kernel
theorem dL_least_71 : decode cL_least 71 = .ok (.iload_n 2, 1) := by decide +kernel
theorem dL_least_72 : decode cL_least 72 = .ok (.if_icmp .ne 7, 3) := by decide +kernel
theorem dL_least_75 : decode cL_least 75 = .ok (.iconst 1, 1) := by decide +kernel
theorem dL_least_76 : decode cL_least 76 = .ok (.goto 4, 3) := by decide +kernel
theorem dL_least_79 : decode cL_least 79 = .ok (.iconst 0, 1) := by decide +kernel
theorem dL_least_80 : decode cL_least 80 = .ok (.iand, 1) := by decide +kernel
theorem dL_least_81 : decode cL_least 81 = .ok (.istore 11, 2) := by decide +kernel
theorem dL_least_83 : decode cL_least 83 = .ok (.iload 8, 2) := by decide +kernel
theorem dL_least_85 : decode cL_least 85 = .ok (.aload_n 1, 1) := by decide +kernel
theorem dL_least_86 : decode cL_least 86 = .ok (.bipush 11, 2) := by decide +kernel
theorem dL_least_88 : decode cL_least 88 = .ok (.iload 12, 2) := by decide +kernel
theorem dL_least_90 : decode cL_least 90 = .ok (.iadd, 1) := by decide +kernel
theorem dL_least_91 : decode cL_least 91 = .ok (.iaload, 1) := by decide +kernel
theorem dL_least_92 : decode cL_least 92 = .ok (.iadd, 1) := by decide +kernel
theorem dL_least_93 : decode cL_least 93 = .ok (.istore 8, 2) := by decide +kernel
theorem dL_least_95 : decode cL_least 95 = .ok (.iload 9, 2) := by decide +kernel
theorem dL_least_97 : decode cL_least 97 = .ok (.aload_n 1, 1) := by decide +kernel
theorem dL_least_98 : decode cL_least 98 = .ok (.iconst 1, 1) := by decide +kernel
theorem dL_least_99 : decode cL_least 99 = .ok (.iload 12, 2) := by decide +kernel
theorem dL_least_101 : decode cL_least 101 = .ok (.iadd, 1) := by decide +kernel
theorem dL_least_102 : decode cL_least 102 = .ok (.iaload, 1) := by decide +kernel
theorem dL_least_103 : decode cL_least 103 = .ok (.aload_n 1, 1) := by decide +kernel
theorem dL_least_104 : decode cL_least 104 = .ok (.bipush 11, 2) := by decide +kernel
theorem dL_least_106 : decode cL_least 106 = .ok (.iload 12, 2) := by decide +kernel
theorem dL_least_108 : decode cL_least 108 = .ok (.iadd, 1) := by decide +kernel
theorem dL_least_109 : decode cL_least 109 = .ok (.iaload, 1) := by decide +kernel
theorem dL_least_110 : decode cL_least 110 = .ok (.invokestatic 43, 3) := by decide +kernel
theorem dL_least_113 : decode cL_least 113 = .ok (.iadd, 1) := by decide +kernel
theorem dL_least_114 : decode cL_least 114 = .ok (.istore 9, 2) := by decide +kernel
theorem dL_least_116 : decode cL_least 116 = .ok (.iinc 10 1, 3) := by decide +kernel
theorem dL_least_119 : decode cL_least 119 = .ok (.iinc 12 1, 3) := by decide +kernel
theorem dL_least_122 : decode cL_least 122 = .ok (.goto (-81), 3) := by decide +kernel
theorem dL_least_125 : decode cL_least 125 = .ok (.iload 11, 2) := by decide +kernel
theorem dL_least_127 : decode cL_least 127 = .ok (.ifCond .eq 45, 3) := by decide +kernel
theorem dL_least_130 : decode cL_least 130 = .ok (.iload 9, 2) := by decide +kernel
theorem dL_least_132 : decode cL_least 132 = .ok (.iload_n 3, 1) := by decide +kernel
theorem dL_least_133 : decode cL_least 133 = .ok (.if_icmp .lt 39, 3) := by decide +kernel
theorem dL_least_136 : decode cL_least 136 = .ok (.iload 8, 2) := by decide +kernel
theorem dL_least_138 : decode cL_least 138 = .ok (.iload 5, 2) := by decide +kernel
theorem dL_least_140 : decode cL_least 140 = .ok (.if_icmp .gt 32, 3) := by decide +kernel
theorem dL_least_143 : decode cL_least 143 = .ok (.iload 8, 2) := by decide +kernel
theorem dL_least_145 : decode cL_least 145 = .ok (.iload 5, 2) := by decide +kernel
theorem dL_least_147 : decode cL_least 147 = .ok (.if_icmp .ne 13, 3) := by decide +kernel
theorem dL_least_150 : decode cL_least 150 = .ok (.iload 10, 2) := by decide +kernel
theorem dL_least_152 : decode cL_least 152 = .ok (.iload 6, 2) := by decide +kernel
theorem dL_least_154 : decode cL_least 154 = .ok (.if_icmp .le 6, 3) := by decide +kernel
theorem dL_least_157 : decode cL_least 157 = .ok (.goto 15, 3) := by decide +kernel
theorem dL_least_160 : decode cL_least 160 = .ok (.iload 8, 2) := by decide +kernel
theorem dL_least_162 : decode cL_least 162 = .ok (.istore 5, 2) := by decide +kernel
theorem dL_least_164 : decode cL_least 164 = .ok (.iload 10, 2) := by decide +kernel
theorem dL_least_166 : decode cL_least 166 = .ok (.istore 6, 2) := by decide +kernel
theorem dL_least_168 : decode cL_least 168 = .ok (.iload 7, 2) := by decide +kernel
theorem dL_least_170 : decode cL_least 170 = .ok (.istore 4, 2) := by decide +kernel
theorem dL_least_172 : decode cL_least 172 = .ok (.iinc 7 (-1), 3) := by decide +kernel
theorem dL_least_175 : decode cL_least 175 = .ok (.goto (-154), 3) := by decide +kernel
theorem dL_least_178 : decode cL_least 178 = .ok (.aload_n 0, 1) := by decide +kernel
theorem dL_least_179 : decode cL_least 179 = .ok (.iload_n 2, 1) := by decide +kernel
theorem dL_least_180 : decode cL_least 180 = .ok (.iload_n 3, 1) := by decide +kernel
theorem dL_least_181 : decode cL_least 181 = .ok (.iconst 0, 1) := by decide +kernel
theorem dL_least_182 : decode cL_least 182 = .ok (.invokevirtual 118, 3) := by decide +kernel
theorem dL_least_185 : decode cL_least 185 = .ok (.iload 4, 2) := by decide +kernel
theorem dL_least_187 : decode cL_least 187 = .ok (.ifCond .ge 7, 3) := by decide +kernel
theorem dL_least_190 : decode cL_least 190 = .ok (.iconst (-1), 1) := by decide +kernel
theorem dL_least_191 : decode cL_least 191 = .ok (.goto 5, 3) := by decide +kernel
theorem dL_least_194 : decode cL_least 194 = .ok (.iload 5, 2) := by decide +kernel
theorem dL_least_196 : decode cL_least 196 = .ok (.if_icmp .ne 19, 3) := by decide +kernel
theorem dL_least_199 : decode cL_least 199 = .ok (.aload_n 0, 1) := by decide +kernel
theorem dL_least_200 : decode cL_least 200 = .ok (.iload_n 2, 1) := by decide +kernel
theorem dL_least_201 : decode cL_least 201 = .ok (.iload_n 3, 1) := by decide +kernel
theorem dL_least_202 : decode cL_least 202 = .ok (.iconst 1, 1) := by decide +kernel
theorem dL_least_203 : decode cL_least 203 = .ok (.invokevirtual 118, 3) := by decide +kernel
theorem dL_least_206 : decode cL_least 206 = .ok (.iload 4, 2) := by decide +kernel
theorem dL_least_208 : decode cL_least 208 = .ok (.if_icmp .ne 7, 3) := by decide +kernel
theorem dL_least_211 : decode cL_least 211 = .ok (.iconst 1, 1) := by decide +kernel
theorem dL_least_212 : decode cL_least 212 = .ok (.goto 4, 3) := by decide +kernel
theorem dL_least_215 : decode cL_least 215 = .ok (.iconst 0, 1) := by decide +kernel
theorem dL_least_216 : decode cL_least 216 = .ok (.ireturn, 1) := by decide +kernel
