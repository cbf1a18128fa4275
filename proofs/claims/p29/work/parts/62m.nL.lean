set_option maxRecDepth 20000 in
theorem gL_law_L_book : GoodIn wsL_law (va_wsS RL 63 yL_book wsL_book) := goodIn_app (goodIn_of _ (by decide +kernel)) ggL_law_L_book
set_option maxRecDepth 20000 in
theorem ggL_law_L_stands : GoodIn wsL_law wsL_stands := goodIn_r _ [173, 174, 175, 176, 2, 177, 16, 178, 179, 180, 15, 181, 163, 147, 148, 149, 182, 183, 184, 185, 50, 51, 52, 186, 187, 188, 189, 190, 191, 137, 192, 193, 194, 195, 196, 197, 198, 199, 200, 201, 202, 203, 53, 204, 205, 93, 206, 207, 208, 209, 210, 211, 212, 213, 214, 144, 145, 146, 215, 216, 217, 56, 218, 61, 219, 220, 221, 222, 143, 223, 224, 22, 112, 225, 226, 227, 228, 229, 230, 231, 232, 233, 234, 235, 236, 237, 238, 239, 240, 479, 480, 481, 482, 483, 484, 485, 486, 487, 488, 489, 490, 491, 492, 493, 494, 495, 496, 497, 514, 498, 499] (by decide +kernel) (by decide +kernel)
set_option maxRecDepth 20000 in
theorem gL_law_L_stands : GoodIn wsL_law (va_wsS RL 66 yL_stands wsL_stands) := goodIn_app (goodIn_of _ (by decide +kernel)) ggL_law_L_stands
set_option maxRecDepth 20000 in
theorem ggL_law_L_at : GoodIn wsL_law wsL_at := goodIn_r _ [104] (by decide +kernel) (by decide +kernel)
set_option maxRecDepth 20000 in
theorem gL_law_L_at : GoodIn wsL_law (va_wsS RL 8 yL_at wsL_at) := goodIn_app (goodIn_of _ (by decide +kernel)) ggL_law_L_at
set_option maxRecDepth 20000 in
theorem ggL_law_L_goes : GoodIn wsL_law wsL_goes := goodIn_r _ [243, 204, 205, 93, 206] (by decide +kernel) (by decide +kernel)
set_option maxRecDepth 20000 in
theorem gL_law_L_goes : GoodIn wsL_law (va_wsS RL 70 yL_goes wsL_goes) := goodIn_app (goodIn_of _ (by decide +kernel)) ggL_law_L_goes
set_option maxRecDepth 20000 in
theorem ggL_law_X10_pay : GoodIn wsL_law wsX10_pay := goodIn_r _ [247, 16, 248, 211, 178, 179, 180, 15, 181, 163, 144, 145, 2, 146, 147, 148, 149, 249, 234, 235, 236, 52, 250, 251, 252, 253, 254, 51, 186, 187, 188, 189, 50, 190, 191, 137, 192, 193, 194, 195, 196, 197, 198, 199, 255, 256, 257, 258, 53, 259, 260, 261, 56, 262, 263, 264, 216, 217, 218, 61, 265, 266, 267, 268, 479, 480, 481, 482, 483, 484, 485, 486, 487, 488, 489, 490, 491, 492, 493, 494, 495, 496, 497, 514] (by decide +kernel) (by decide +kernel)
set_option maxRecDepth 20000 in
theorem gL_law_X10_pay : GoodIn wsL_law (wsV RL 74 RX10 yX10_pay wsX10_pay) := goodIn_app (goodIn_of _ (by decide +kernel)) ggL_law_X10_pay
