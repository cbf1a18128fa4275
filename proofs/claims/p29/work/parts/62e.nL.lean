theorem dL_bookText_163 : decode cL_bookText 163 = .ok (.iload 5, 2) := by decide +kernel
theorem dL_bookText_165 : decode cL_bookText 165 = .ok (.iinc 5 1, 3) := by decide +kernel
theorem dL_bookText_168 : decode cL_bookText 168 = .ok (.bipush 48, 2) := by decide +kernel
theorem dL_bookText_170 : decode cL_bookText 170 = .ok (.aload_n 3, 1) := by decide +kernel
theorem dL_bookText_171 : decode cL_bookText 171 = .ok (.bipush 11, 2) := by decide +kernel
theorem dL_bookText_173 : decode cL_bookText 173 = .ok (.iload 6, 2) := by decide +kernel
theorem dL_bookText_175 : decode cL_bookText 175 = .ok (.iadd, 1) := by decide +kernel
theorem dL_bookText_176 : decode cL_bookText 176 = .ok (.iaload, 1) := by decide +kernel
theorem dL_bookText_177 : decode cL_bookText 177 = .ok (.iadd, 1) := by decide +kernel
theorem dL_bookText_178 : decode cL_bookText 178 = .ok (.iastore, 1) := by decide +kernel
theorem dL_bookText_179 : decode cL_bookText 179 = .ok (.iinc 6 1, 3) := by decide +kernel
theorem dL_bookText_182 : decode cL_bookText 182 = .ok (.goto (-166), 3) := by decide +kernel
theorem dL_bookText_185 : decode cL_bookText 185 = .ok (.iload 5, 2) := by decide +kernel
theorem dL_bookText_187 : decode cL_bookText 187 = .ok (.ireturn, 1) := by decide +kernel
set_option maxRecDepth 20000 in
theorem ggL_write_X10_letters : GoodIn wsL_write wsX10_letters := goodIn_r _ [5, 6, 7, 8, 9, 10, 11, 12, 13, 14, 15, 16, 17, 18, 19, 20, 21, 22, 23, 24, 25, 26, 27, 28, 29, 30, 31, 32, 33] (by decide +kernel) (by decide +kernel)
set_option maxRecDepth 20000 in
theorem gL_write_X10_letters : GoodIn wsL_write (wsV RL 14 RX10 yX10_letters wsX10_letters) := goodIn_app (goodIn_of _ (by decide +kernel)) ggL_write_X10_letters
theorem dL_write_0 : decode cL_write 0 = .ok (.iconst 0, 1) := by decide +kernel
theorem dL_write_1 : decode cL_write 1 = .ok (.istore_n 3, 1) := by decide +kernel
theorem dL_write_2 : decode cL_write 2 = .ok (.iload_n 3, 1) := by decide +kernel
theorem dL_write_3 : decode cL_write 3 = .ok (.iload_n 2, 1) := by decide +kernel
theorem dL_write_4 : decode cL_write 4 = .ok (.if_icmp .ge 25, 3) := by decide +kernel
theorem dL_write_7 : decode cL_write 7 = .ok (.aload_n 0, 1) := by decide +kernel
theorem dL_write_8 : decode cL_write 8 = .ok (.aload_n 1, 1) := by decide +kernel
theorem dL_write_9 : decode cL_write 9 = .ok (.iload_n 3, 1) := by decide +kernel
theorem dL_write_10 : decode cL_write 10 = .ok (.iaload, 1) := by decide +kernel
theorem dL_write_11 : decode cL_write 11 = .ok (.i2l, 1) := by decide +kernel
theorem dL_write_12 : decode cL_write 12 = .ok (.invokevirtual 14, 3) := by decide +kernel
theorem dL_write_15 : decode cL_write 15 = .ok (.iload_n 3, 1) := by decide +kernel
theorem dL_write_16 : decode cL_write 16 = .ok (.iconst 1, 1) := by decide +kernel
theorem dL_write_17 : decode cL_write 17 = .ok (.iadd, 1) := by decide +kernel
theorem dL_write_18 : decode cL_write 18 = .ok (.if_icmp .eq 5, 3) := by decide +kernel
theorem dL_write_21 : decode cL_write 21 = .ok (.iconst 0, 1) := by decide +kernel
theorem dL_write_22 : decode cL_write 22 = .ok (.ireturn, 1) := by decide +kernel
theorem dL_write_23 : decode cL_write 23 = .ok (.iinc 3 1, 3) := by decide +kernel
theorem dL_write_26 : decode cL_write 26 = .ok (.goto (-24), 3) := by decide +kernel
theorem dL_write_29 : decode cL_write 29 = .ok (.iconst 1, 1) := by decide +kernel
theorem dL_write_30 : decode cL_write 30 = .ok (.ireturn, 1) := by decide +kernel
set_option maxRecDepth 20000 in
theorem ggL_book_L_bookText : GoodIn wsL_book wsL_bookText := goodIn_r _ [5, 6, 7, 4, 8] (by decide +kernel) (by decide +kernel)
set_option maxRecDepth 20000 in
theorem gL_book_L_bookText : GoodIn wsL_book (va_wsS RL 20 yL_bookText wsL_bookText) := goodIn_app (goodIn_of _ (by decide +kernel)) ggL_book_L_bookText
set_option maxRecDepth 20000 in
theorem ggL_book_L_at : GoodIn wsL_book wsL_at := goodIn_r _ [8] (by decide +kernel) (by decide +kernel)
set_option maxRecDepth 20000 in
theorem gL_book_L_at : GoodIn wsL_book (va_wsS RL 8 yL_at wsL_at) := goodIn_app (goodIn_of _ (by decide +kernel)) ggL_book_L_at
