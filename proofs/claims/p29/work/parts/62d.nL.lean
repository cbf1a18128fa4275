theorem inJ10 : ∀ w ∈ wsJ100, w ∈ lw_tbl := by decide +kernel
theorem dL_cell_0 : decode cL_cell 0 = .ok (.iload_n 1, 1) := by decide +kernel
theorem dL_cell_1 : decode cL_cell 1 = .ok (.aload_n 0, 1) := by decide +kernel
theorem dL_cell_2 : decode cL_cell 2 = .ok (.arraylength, 1) := by decide +kernel
theorem dL_cell_3 : decode cL_cell 3 = .ok (.if_icmp .ge 9, 3) := by decide +kernel
theorem dL_cell_6 : decode cL_cell 6 = .ok (.aload_n 0, 1) := by decide +kernel
theorem dL_cell_7 : decode cL_cell 7 = .ok (.iload_n 1, 1) := by decide +kernel
theorem dL_cell_8 : decode cL_cell 8 = .ok (.iaload, 1) := by decide +kernel
theorem dL_cell_9 : decode cL_cell 9 = .ok (.goto 9, 3) := by decide +kernel
theorem dL_cell_12 : decode cL_cell 12 = .ok (.ldc 7, 2) := by decide +kernel
theorem dL_cell_14 : decode cL_cell 14 = .ok (.iload_n 1, 1) := by decide +kernel
theorem dL_cell_15 : decode cL_cell 15 = .ok (.iconst 1, 1) := by decide +kernel
theorem dL_cell_16 : decode cL_cell 16 = .ok (.iadd, 1) := by decide +kernel
theorem dL_cell_17 : decode cL_cell 17 = .ok (.imul, 1) := by decide +kernel
theorem dL_cell_18 : decode cL_cell 18 = .ok (.ireturn, 1) := by decide +kernel
theorem dL_at_0 : decode cL_at 0 = .ok (.iload_n 0, 1) := by decide +kernel
theorem dL_at_1 : decode cL_at 1 = .ok (.iconst 1, 1) := by decide +kernel
theorem dL_at_2 : decode cL_at 2 = .ok (.iushr, 1) := by decide +kernel
theorem dL_at_3 : decode cL_at 3 = .ok (.iload_n 1, 1) := by decide +kernel
theorem dL_at_4 : decode cL_at 4 = .ok (.irem, 1) := by decide +kernel
theorem dL_at_5 : decode cL_at 5 = .ok (.ireturn, 1) := by decide +kernel
set_option maxRecDepth 20000 in
theorem ggL_bookText_L_at : GoodIn wsL_bookText wsL_at := goodIn_r _ [4] (by decide +kernel) (by decide +kernel)
set_option maxRecDepth 20000 in
theorem gL_bookText_L_at : GoodIn wsL_bookText (va_wsS RL 8 yL_at wsL_at) := goodIn_app (goodIn_of _ (by decide +kernel)) ggL_bookText_L_at
theorem dL_bookText_0 : decode cL_bookText 0 = .ok (.iconst 0, 1) := by decide +kernel
theorem dL_bookText_1 : decode cL_bookText 1 = .ok (.istore 5, 2) := by decide +kernel
theorem dL_bookText_3 : decode cL_bookText 3 = .ok (.aload_n 3, 1) := by decide +kernel
theorem dL_bookText_4 : decode cL_bookText 4 = .ok (.iconst 0, 1) := by decide +kernel
theorem dL_bookText_5 : decode cL_bookText 5 = .ok (.iconst 1, 1) := by decide +kernel
theorem dL_bookText_6 : decode cL_bookText 6 = .ok (.iload_n 0, 1) := by decide +kernel
theorem dL_bookText_7 : decode cL_bookText 7 = .ok (.iload_n 2, 1) := by decide +kernel
theorem dL_bookText_8 : decode cL_bookText 8 = .ok (.invokestatic 8, 3) := by decide +kernel
theorem dL_bookText_11 : decode cL_bookText 11 = .ok (.iadd, 1) := by decide +kernel
theorem dL_bookText_12 : decode cL_bookText 12 = .ok (.iastore, 1) := by decide +kernel
theorem dL_bookText_13 : decode cL_bookText 13 = .ok (.iconst 0, 1) := by decide +kernel
theorem dL_bookText_14 : decode cL_bookText 14 = .ok (.istore 6, 2) := by decide +kernel
theorem dL_bookText_16 : decode cL_bookText 16 = .ok (.iload 6, 2) := by decide +kernel
theorem dL_bookText_18 : decode cL_bookText 18 = .ok (.aload_n 3, 1) := by decide +kernel
theorem dL_bookText_19 : decode cL_bookText 19 = .ok (.iconst 0, 1) := by decide +kernel
theorem dL_bookText_20 : decode cL_bookText 20 = .ok (.iaload, 1) := by decide +kernel
theorem dL_bookText_21 : decode cL_bookText 21 = .ok (.if_icmp .ge 164, 3) := by decide +kernel
theorem dL_bookText_24 : decode cL_bookText 24 = .ok (.iload_n 0, 1) := by decide +kernel
theorem dL_bookText_25 : decode cL_bookText 25 = .ok (.iconst 2, 1) := by decide +kernel
theorem dL_bookText_26 : decode cL_bookText 26 = .ok (.iconst 2, 1) := by decide +kernel
theorem dL_bookText_27 : decode cL_bookText 27 = .ok (.iload 6, 2) := by decide +kernel
theorem dL_bookText_29 : decode cL_bookText 29 = .ok (.imul, 1) := by decide +kernel
theorem dL_bookText_30 : decode cL_bookText 30 = .ok (.iadd, 1) := by decide +kernel
theorem dL_bookText_31 : decode cL_bookText 31 = .ok (.ishr, 1) := by decide +kernel
theorem dL_bookText_32 : decode cL_bookText 32 = .ok (.bipush 8, 2) := by decide +kernel
theorem dL_bookText_34 : decode cL_bookText 34 = .ok (.invokestatic 8, 3) := by decide +kernel
theorem dL_bookText_37 : decode cL_bookText 37 = .ok (.istore 7, 2) := by decide +kernel
theorem dL_bookText_39 : decode cL_bookText 39 = .ok (.aload_n 3, 1) := by decide +kernel
theorem dL_bookText_40 : decode cL_bookText 40 = .ok (.iconst 1, 1) := by decide +kernel
theorem dL_bookText_41 : decode cL_bookText 41 = .ok (.iload 6, 2) := by decide +kernel
theorem dL_bookText_43 : decode cL_bookText 43 = .ok (.iadd, 1) := by decide +kernel
theorem dL_bookText_44 : decode cL_bookText 44 = .ok (.iload 7, 2) := by decide +kernel
theorem dL_bookText_46 : decode cL_bookText 46 = .ok (.iconst 4, 1) := by decide +kernel
theorem dL_bookText_47 : decode cL_bookText 47 = .ok (.if_icmp .ge 7, 3) := by decide +kernel
theorem dL_bookText_50 : decode cL_bookText 50 = .ok (.iconst 0, 1) := by decide +kernel
theorem dL_bookText_51 : decode cL_bookText 51 = .ok (.goto 7, 3) := by decide +kernel
theorem dL_bookText_54 : decode cL_bookText 54 = .ok (.iload 7, 2) := by decide +kernel
theorem dL_bookText_56 : decode cL_bookText 56 = .ok (.iconst 3, 1) := by decide +kernel
theorem dL_bookText_57 : decode cL_bookText 57 = .ok (.isub, 1) := by decide +kernel
theorem dL_bookText_58 : decode cL_bookText 58 = .ok (.iastore, 1) := by decide +kernel
theorem dL_bookText_59 : decode cL_bookText 59 = .ok (.aload_n 3, 1) := by decide +kernel
theorem dL_bookText_60 : decode cL_bookText 60 = .ok (.bipush 11, 2) := by decide +kernel
theorem dL_bookText_62 : decode cL_bookText 62 = .ok (.iload 6, 2) := by decide +kernel
theorem dL_bookText_64 : decode cL_bookText 64 = .ok (.iadd, 1) := by decide +kernel
theorem dL_bookText_65 : decode cL_bookText 65 = .ok (.iload_n 1, 1) := by decide +kernel
theorem dL_bookText_66 : decode cL_bookText 66 = .ok (.iconst 2, 1) := by decide +kernel
theorem dL_bookText_67 : decode cL_bookText 67 = .ok (.iload 6, 2) := by decide +kernel
theorem dL_bookText_69 : decode cL_bookText 69 = .ok (.imul, 1) := by decide +kernel
theorem dL_bookText_70 : decode cL_bookText 70 = .ok (.ishr, 1) := by decide +kernel
theorem dL_bookText_71 : decode cL_bookText 71 = .ok (.iconst 4, 1) := by decide +kernel
theorem dL_bookText_72 : decode cL_bookText 72 = .ok (.invokestatic 8, 3) := by decide +kernel
theorem dL_bookText_75 : decode cL_bookText 75 = .ok (.ifCond .ne 8, 3) := by decide +kernel
theorem dL_bookText_78 : decode cL_bookText 78 = .ok (.bipush 9, 2) := by decide +kernel
theorem dL_bookText_80 : decode cL_bookText 80 = .ok (.goto 16, 3) := by decide +kernel
theorem dL_bookText_83 : decode cL_bookText 83 = .ok (.iload_n 1, 1) := by decide +kernel
theorem dL_bookText_84 : decode cL_bookText 84 = .ok (.iconst 2, 1) := by decide +kernel
theorem dL_bookText_85 : decode cL_bookText 85 = .ok (.iconst 2, 1) := by decide +kernel
theorem dL_bookText_86 : decode cL_bookText 86 = .ok (.iload 6, 2) := by decide +kernel
theorem dL_bookText_88 : decode cL_bookText 88 = .ok (.imul, 1) := by decide +kernel
theorem dL_bookText_89 : decode cL_bookText 89 = .ok (.iadd, 1) := by decide +kernel
theorem dL_bookText_90 : decode cL_bookText 90 = .ok (.ishr, 1) := by decide +kernel
theorem dL_bookText_91 : decode cL_bookText 91 = .ok (.bipush 10, 2) := by decide +kernel
theorem dL_bookText_93 : decode cL_bookText 93 = .ok (.invokestatic 8, 3) := by decide +kernel
theorem dL_bookText_96 : decode cL_bookText 96 = .ok (.iastore, 1) := by decide +kernel
theorem dL_bookText_97 : decode cL_bookText 97 = .ok (.aload_n 3, 1) := by decide +kernel
theorem dL_bookText_98 : decode cL_bookText 98 = .ok (.iconst 1, 1) := by decide +kernel
theorem dL_bookText_99 : decode cL_bookText 99 = .ok (.iload 6, 2) := by decide +kernel
theorem dL_bookText_101 : decode cL_bookText 101 = .ok (.iadd, 1) := by decide +kernel
theorem dL_bookText_102 : decode cL_bookText 102 = .ok (.iaload, 1) := by decide +kernel
theorem dL_bookText_103 : decode cL_bookText 103 = .ok (.ifCond .le 58, 3) := by decide +kernel
theorem dL_bookText_106 : decode cL_bookText 106 = .ok (.aload 4, 2) := by decide +kernel
theorem dL_bookText_108 : decode cL_bookText 108 = .ok (.iload 5, 2) := by decide +kernel
theorem dL_bookText_110 : decode cL_bookText 110 = .ok (.iinc 5 1, 3) := by decide +kernel
theorem dL_bookText_113 : decode cL_bookText 113 = .ok (.aload_n 3, 1) := by decide +kernel
theorem dL_bookText_114 : decode cL_bookText 114 = .ok (.iconst 1, 1) := by decide +kernel
theorem dL_bookText_115 : decode cL_bookText 115 = .ok (.iload 6, 2) := by decide +kernel
theorem dL_bookText_117 : decode cL_bookText 117 = .ok (.iadd, 1) := by decide +kernel
theorem dL_bookText_118 : decode cL_bookText 118 = .ok (.iaload, 1) := by decide +kernel
theorem dL_bookText_119 : decode cL_bookText 119 = .ok (.iconst 1, 1) := by decide +kernel
theorem dL_bookText_120 : decode cL_bookText 120 = .ok (.if_icmp .ne 8, 3) := by decide +kernel
theorem dL_bookText_123 : decode cL_bookText 123 = .ok (.bipush 98, 2) := by decide +kernel
theorem dL_bookText_125 : decode cL_bookText 125 = .ok (.goto 35, 3) := by decide +kernel
theorem dL_bookText_128 : decode cL_bookText 128 = .ok (.aload_n 3, 1) := by decide +kernel
theorem dL_bookText_129 : decode cL_bookText 129 = .ok (.iconst 1, 1) := by decide +kernel
theorem dL_bookText_130 : decode cL_bookText 130 = .ok (.iload 6, 2) := by decide +kernel
theorem dL_bookText_132 : decode cL_bookText 132 = .ok (.iadd, 1) := by decide +kernel
theorem dL_bookText_133 : decode cL_bookText 133 = .ok (.iaload, 1) := by decide +kernel
theorem dL_bookText_134 : decode cL_bookText 134 = .ok (.iconst 2, 1) := by decide +kernel
theorem dL_bookText_135 : decode cL_bookText 135 = .ok (.if_icmp .ne 8, 3) := by decide +kernel
theorem dL_bookText_138 : decode cL_bookText 138 = .ok (.bipush 109, 2) := by decide +kernel
theorem dL_bookText_140 : decode cL_bookText 140 = .ok (.goto 20, 3) := by decide +kernel
theorem dL_bookText_143 : decode cL_bookText 143 = .ok (.aload_n 3, 1) := by decide +kernel
theorem dL_bookText_144 : decode cL_bookText 144 = .ok (.iconst 1, 1) := by decide +kernel
theorem dL_bookText_145 : decode cL_bookText 145 = .ok (.iload 6, 2) := by decide +kernel
theorem dL_bookText_147 : decode cL_bookText 147 = .ok (.iadd, 1) := by decide +kernel
theorem dL_bookText_148 : decode cL_bookText 148 = .ok (.iaload, 1) := by decide +kernel
theorem dL_bookText_149 : decode cL_bookText 149 = .ok (.iconst 3, 1) := by decide +kernel
theorem dL_bookText_150 : decode cL_bookText 150 = .ok (.if_icmp .ne 8, 3) := by decide +kernel
theorem dL_bookText_153 : decode cL_bookText 153 = .ok (.bipush 112, 2) := by decide +kernel
theorem dL_bookText_155 : decode cL_bookText 155 = .ok (.goto 5, 3) := by decide +kernel
theorem dL_bookText_158 : decode cL_bookText 158 = .ok (.bipush 119, 2) := by decide +kernel
theorem dL_bookText_160 : decode cL_bookText 160 = .ok (.iastore, 1) := by decide +kernel
theorem dL_bookText_161 : decode cL_bookText 161 = .ok (.aload 4, 2) := by decide +kernel
