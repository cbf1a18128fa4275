set_option maxRecDepth 20000 in
theorem ggL_book_L_write : GoodIn wsL_book wsL_write := goodIn_r _ [11, 12, 13, 14, 15, 16, 17, 18, 19, 20, 21, 22, 23, 24, 25, 26, 27, 28, 29, 30, 31, 85, 86, 87, 88, 89, 90, 91, 92, 93, 94, 95, 96, 97] (by decide +kernel) (by decide +kernel)
set_option maxRecDepth 20000 in
theorem gL_book_L_write : GoodIn wsL_book (va_wsS RL 24 yL_write wsL_write) := goodIn_app (goodIn_of _ (by decide +kernel)) ggL_book_L_write
set_option maxRecDepth 20000 in
theorem ggL_book_X10_fault : GoodIn wsL_book wsX10_fault := goodIn_r _ [35, 17, 36, 37, 38, 21, 39, 30, 31, 40, 41, 42, 43, 44, 45, 46, 85, 86, 87, 88, 89, 90, 91, 92, 93, 94, 95, 96, 97] (by decide +kernel) (by decide +kernel)
set_option maxRecDepth 20000 in
theorem gL_book_X10_fault : GoodIn wsL_book (wsV RL 28 RX10 yX10_fault wsX10_fault) := goodIn_app (goodIn_of _ (by decide +kernel)) ggL_book_X10_fault
set_option maxRecDepth 20000 in
theorem ggL_book_X10_book : GoodIn wsL_book wsX10_book := goodIn_r _ [50, 17, 51, 52, 18, 53, 54, 15, 55, 56, 57, 58, 59, 60, 61, 21, 62, 30, 31, 63, 37, 38, 39, 40, 41, 42, 43, 44, 45, 46, 64, 65, 66, 67, 68, 69, 70, 71, 72, 73, 74, 75, 76, 77, 85, 86, 87, 88, 89, 90, 91, 92, 93, 94, 95, 98, 99, 100, 101, 102, 103, 104, 105, 96, 97] (by decide +kernel) (by decide +kernel)
set_option maxRecDepth 20000 in
theorem gL_book_X10_book : GoodIn wsL_book (wsV RL 32 RX10 yX10_book wsX10_book) := goodIn_app (goodIn_of _ (by decide +kernel)) ggL_book_X10_book
set_option maxRecDepth 20000 in
theorem ggL_book_X10_blank : GoodIn wsL_book wsX10_blank := goodIn_r _ [81, 17, 18, 85, 86, 87, 88, 89, 90, 91, 92, 93, 94, 95, 96, 97] (by decide +kernel) (by decide +kernel)
set_option maxRecDepth 20000 in
theorem gL_book_X10_blank : GoodIn wsL_book (wsV RL 36 RX10 yX10_blank wsX10_blank) := goodIn_app (goodIn_of _ (by decide +kernel)) ggL_book_X10_blank
