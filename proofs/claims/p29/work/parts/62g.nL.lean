set_option maxRecDepth 20000 in
theorem ggL_book_L_add : GoodIn wsL_book wsL_add := goodIn_r _ [84] (by decide +kernel) (by decide +kernel)
set_option maxRecDepth 20000 in
theorem gL_book_L_add : GoodIn wsL_book (va_wsS RL 39 yL_add wsL_add) := goodIn_app (goodIn_of _ (by decide +kernel)) ggL_book_L_add
theorem dL_book_0 : decode cL_book 0 = .ok (.bipush 21, 2) := by decide +kernel
theorem dL_book_2 : decode cL_book 2 = .ok (.newarray .int, 2) := by decide +kernel
theorem dL_book_4 : decode cL_book 4 = .ok (.astore 6, 2) := by decide +kernel
theorem dL_book_6 : decode cL_book 6 = .ok (.bipush 20, 2) := by decide +kernel
theorem dL_book_8 : decode cL_book 8 = .ok (.newarray .int, 2) := by decide +kernel
theorem dL_book_10 : decode cL_book 10 = .ok (.astore 7, 2) := by decide +kernel
theorem dL_book_12 : decode cL_book 12 = .ok (.iload_n 1, 1) := by decide +kernel
theorem dL_book_13 : decode cL_book 13 = .ok (.iload_n 2, 1) := by decide +kernel
theorem dL_book_14 : decode cL_book 14 = .ok (.iload_n 3, 1) := by decide +kernel
theorem dL_book_15 : decode cL_book 15 = .ok (.aload 6, 2) := by decide +kernel
theorem dL_book_17 : decode cL_book 17 = .ok (.aload 7, 2) := by decide +kernel
theorem dL_book_19 : decode cL_book 19 = .ok (.invokestatic 20, 3) := by decide +kernel
theorem dL_book_22 : decode cL_book 22 = .ok (.istore 8, 2) := by decide +kernel
theorem dL_book_24 : decode cL_book 24 = .ok (.iload_n 1, 1) := by decide +kernel
theorem dL_book_25 : decode cL_book 25 = .ok (.bipush 22, 2) := by decide +kernel
theorem dL_book_27 : decode cL_book 27 = .ok (.ishr, 1) := by decide +kernel
theorem dL_book_28 : decode cL_book 28 = .ok (.bipush 6, 2) := by decide +kernel
theorem dL_book_30 : decode cL_book 30 = .ok (.invokestatic 8, 3) := by decide +kernel
theorem dL_book_33 : decode cL_book 33 = .ok (.istore 9, 2) := by decide +kernel
theorem dL_book_35 : decode cL_book 35 = .ok (.aload_n 0, 1) := by decide +kernel
theorem dL_book_36 : decode cL_book 36 = .ok (.aload 7, 2) := by decide +kernel
theorem dL_book_38 : decode cL_book 38 = .ok (.iload 8, 2) := by decide +kernel
theorem dL_book_40 : decode cL_book 40 = .ok (.invokestatic 24, 3) := by decide +kernel
theorem dL_book_43 : decode cL_book 43 = .ok (.ifCond .eq 12, 3) := by decide +kernel
theorem dL_book_46 : decode cL_book 46 = .ok (.aload_n 0, 1) := by decide +kernel
theorem dL_book_47 : decode cL_book 47 = .ok (.invokevirtual 28, 3) := by decide +kernel
theorem dL_book_50 : decode cL_book 50 = .ok (.iload 8, 2) := by decide +kernel
theorem dL_book_52 : decode cL_book 52 = .ok (.if_icmp .eq 5, 3) := by decide +kernel
theorem dL_book_55 : decode cL_book 55 = .ok (.iconst 0, 1) := by decide +kernel
theorem dL_book_56 : decode cL_book 56 = .ok (.ireturn, 1) := by decide +kernel
theorem dL_book_57 : decode cL_book 57 = .ok (.aload 4, 2) := by decide +kernel
theorem dL_book_59 : decode cL_book 59 = .ok (.iconst 0, 1) := by decide +kernel
theorem dL_book_60 : decode cL_book 60 = .ok (.iaload, 1) := by decide +kernel
theorem dL_book_61 : decode cL_book 61 = .ok (.aload 6, 2) := by decide +kernel
theorem dL_book_63 : decode cL_book 63 = .ok (.iconst 0, 1) := by decide +kernel
theorem dL_book_64 : decode cL_book 64 = .ok (.iaload, 1) := by decide +kernel
theorem dL_book_65 : decode cL_book 65 = .ok (.iadd, 1) := by decide +kernel
theorem dL_book_66 : decode cL_book 66 = .ok (.bipush 10, 2) := by decide +kernel
theorem dL_book_68 : decode cL_book 68 = .ok (.if_icmp .le 29, 3) := by decide +kernel
theorem dL_book_71 : decode cL_book 71 = .ok (.aload_n 0, 1) := by decide +kernel
theorem dL_book_72 : decode cL_book 72 = .ok (.iload 9, 2) := by decide +kernel
theorem dL_book_74 : decode cL_book 74 = .ok (.invokevirtual 32, 3) := by decide +kernel
theorem dL_book_77 : decode cL_book 77 = .ok (.bipush (-104), 2) := by decide +kernel
theorem dL_book_79 : decode cL_book 79 = .ok (.if_icmp .ne 16, 3) := by decide +kernel
theorem dL_book_82 : decode cL_book 82 = .ok (.aload_n 0, 1) := by decide +kernel
theorem dL_book_83 : decode cL_book 83 = .ok (.invokevirtual 36, 3) := by decide +kernel
theorem dL_book_86 : decode cL_book 86 = .ok (.iload 8, 2) := by decide +kernel
theorem dL_book_88 : decode cL_book 88 = .ok (.if_icmp .ne 7, 3) := by decide +kernel
theorem dL_book_91 : decode cL_book 91 = .ok (.iconst 1, 1) := by decide +kernel
theorem dL_book_92 : decode cL_book 92 = .ok (.goto 4, 3) := by decide +kernel
theorem dL_book_95 : decode cL_book 95 = .ok (.iconst 0, 1) := by decide +kernel
theorem dL_book_96 : decode cL_book 96 = .ok (.ireturn, 1) := by decide +kernel
theorem dL_book_97 : decode cL_book 97 = .ok (.aload_n 0, 1) := by decide +kernel
theorem dL_book_98 : decode cL_book 98 = .ok (.iload 9, 2) := by decide +kernel
theorem dL_book_100 : decode cL_book 100 = .ok (.invokevirtual 32, 3) := by decide +kernel
theorem dL_book_103 : decode cL_book 103 = .ok (.aload 6, 2) := by decide +kernel
theorem dL_book_105 : decode cL_book 105 = .ok (.iconst 0, 1) := by decide +kernel
theorem dL_book_106 : decode cL_book 106 = .ok (.iaload, 1) := by decide +kernel
theorem dL_book_107 : decode cL_book 107 = .ok (.if_icmp .eq 5, 3) := by decide +kernel
theorem dL_book_110 : decode cL_book 110 = .ok (.iconst 0, 1) := by decide +kernel
theorem dL_book_111 : decode cL_book 111 = .ok (.ireturn, 1) := by decide +kernel
theorem dL_book_112 : decode cL_book 112 = .ok (.iconst 0, 1) := by decide +kernel
theorem dL_book_113 : decode cL_book 113 = .ok (.istore 10, 2) := by decide +kernel
theorem dL_book_115 : decode cL_book 115 = .ok (.iload 10, 2) := by decide +kernel
theorem dL_book_117 : decode cL_book 117 = .ok (.aload 6, 2) := by decide +kernel
theorem dL_book_119 : decode cL_book 119 = .ok (.iconst 0, 1) := by decide +kernel
theorem dL_book_120 : decode cL_book 120 = .ok (.iaload, 1) := by decide +kernel
theorem dL_book_121 : decode cL_book 121 = .ok (.if_icmp .ge 33, 3) := by decide +kernel
theorem dL_book_124 : decode cL_book 124 = .ok (.aload 4, 2) := by decide +kernel
theorem dL_book_126 : decode cL_book 126 = .ok (.aload 5, 2) := by decide +kernel
theorem dL_book_128 : decode cL_book 128 = .ok (.aload 6, 2) := by decide +kernel
theorem dL_book_130 : decode cL_book 130 = .ok (.iconst 1, 1) := by decide +kernel
theorem dL_book_131 : decode cL_book 131 = .ok (.iload 10, 2) := by decide +kernel
theorem dL_book_133 : decode cL_book 133 = .ok (.iadd, 1) := by decide +kernel
theorem dL_book_134 : decode cL_book 134 = .ok (.iaload, 1) := by decide +kernel
theorem dL_book_135 : decode cL_book 135 = .ok (.aload 6, 2) := by decide +kernel
theorem dL_book_137 : decode cL_book 137 = .ok (.bipush 11, 2) := by decide +kernel
theorem dL_book_139 : decode cL_book 139 = .ok (.iload 10, 2) := by decide +kernel
theorem dL_book_141 : decode cL_book 141 = .ok (.iadd, 1) := by decide +kernel
theorem dL_book_142 : decode cL_book 142 = .ok (.iaload, 1) := by decide +kernel
theorem dL_book_143 : decode cL_book 143 = .ok (.iload 9, 2) := by decide +kernel
theorem dL_book_145 : decode cL_book 145 = .ok (.invokestatic 39, 3) := by decide +kernel
theorem dL_book_148 : decode cL_book 148 = .ok (.iinc 10 1, 3) := by decide +kernel
theorem dL_book_151 : decode cL_book 151 = .ok (.goto (-36), 3) := by decide +kernel
theorem dL_book_154 : decode cL_book 154 = .ok (.iconst 1, 1) := by decide +kernel
theorem dL_book_155 : decode cL_book 155 = .ok (.ireturn, 1) := by decide +kernel
theorem dL_add_0 : decode cL_add 0 = .ok (.aload_n 0, 1) := by decide +kernel
theorem dL_add_1 : decode cL_add 1 = .ok (.iconst 1, 1) := by decide +kernel
theorem dL_add_2 : decode cL_add 2 = .ok (.aload_n 0, 1) := by decide +kernel
theorem dL_add_3 : decode cL_add 3 = .ok (.iconst 0, 1) := by decide +kernel
theorem dL_add_4 : decode cL_add 4 = .ok (.iaload, 1) := by decide +kernel
theorem dL_add_5 : decode cL_add 5 = .ok (.iadd, 1) := by decide +kernel
theorem dL_add_6 : decode cL_add 6 = .ok (.iload_n 2, 1) := by decide +kernel
theorem dL_add_7 : decode cL_add 7 = .ok (.iastore, 1) := by decide +kernel
theorem dL_add_8 : decode cL_add 8 = .ok (.aload_n 0, 1) := by decide +kernel
theorem dL_add_9 : decode cL_add 9 = .ok (.bipush 11, 2) := by decide +kernel
theorem dL_add_11 : decode cL_add 11 = .ok (.aload_n 0, 1) := by decide +kernel
theorem dL_add_12 : decode cL_add 12 = .ok (.iconst 0, 1) := by decide +kernel
theorem dL_add_13 : decode cL_add 13 = .ok (.iaload, 1) := by decide +kernel
theorem dL_add_14 : decode cL_add 14 = .ok (.iadd, 1) := by decide +kernel
theorem dL_add_15 : decode cL_add 15 = .ok (.iload_n 3, 1) := by decide +kernel
theorem dL_add_16 : decode cL_add 16 = .ok (.iastore, 1) := by decide +kernel
theorem dL_add_17 : decode cL_add 17 = .ok (.aload_n 0, 1) := by decide +kernel
theorem dL_add_18 : decode cL_add 18 = .ok (.bipush 21, 2) := by decide +kernel
theorem dL_add_20 : decode cL_add 20 = .ok (.aload_n 0, 1) := by decide +kernel
theorem dL_add_21 : decode cL_add 21 = .ok (.iconst 0, 1) := by decide +kernel
theorem dL_add_22 : decode cL_add 22 = .ok (.iaload, 1) := by decide +kernel
theorem dL_add_23 : decode cL_add 23 = .ok (.iadd, 1) := by decide +kernel
theorem dL_add_24 : decode cL_add 24 = .ok (.iload 4, 2) := by decide +kernel
theorem dL_add_26 : decode cL_add 26 = .ok (.iastore, 1) := by decide +kernel
theorem dL_add_27 : decode cL_add 27 = .ok (.iconst 0, 1) := by decide +kernel
theorem dL_add_28 : decode cL_add 28 = .ok (.istore 5, 2) := by decide +kernel
theorem dL_add_30 : decode cL_add 30 = .ok (.iload 5, 2) := by decide +kernel
theorem dL_add_32 : decode cL_add 32 = .ok (.iconst 4, 1) := by decide +kernel
theorem dL_add_33 : decode cL_add 33 = .ok (.if_icmp .ge 20, 3) := by decide +kernel
theorem dL_add_36 : decode cL_add 36 = .ok (.aload_n 1, 1) := by decide +kernel
theorem dL_add_37 : decode cL_add 37 = .ok (.iconst 4, 1) := by decide +kernel
theorem dL_add_38 : decode cL_add 38 = .ok (.aload_n 0, 1) := by decide +kernel
theorem dL_add_39 : decode cL_add 39 = .ok (.iconst 0, 1) := by decide +kernel
theorem dL_add_40 : decode cL_add 40 = .ok (.iaload, 1) := by decide +kernel
theorem dL_add_41 : decode cL_add 41 = .ok (.imul, 1) := by decide +kernel
theorem dL_add_42 : decode cL_add 42 = .ok (.iload 5, 2) := by decide +kernel
theorem dL_add_44 : decode cL_add 44 = .ok (.iadd, 1) := by decide +kernel
theorem dL_add_45 : decode cL_add 45 = .ok (.iconst (-1), 1) := by decide +kernel
theorem dL_add_46 : decode cL_add 46 = .ok (.iastore, 1) := by decide +kernel
theorem dL_add_47 : decode cL_add 47 = .ok (.iinc 5 1, 3) := by decide +kernel
theorem dL_add_50 : decode cL_add 50 = .ok (.goto (-20), 3) := by decide +kernel
