set_option maxRecDepth 20000 in
theorem ggL_law_X10_month : GoodIn wsL_law wsX10_month := goodIn_r _ [286, 16, 287, 288, 289, 15, 290, 163, 50, 51, 291, 233, 234, 235, 236, 52, 292, 293, 137, 294, 193, 194, 195, 196, 295, 296, 297, 479, 480, 481, 482, 483, 484, 485, 486, 487, 488, 489, 490, 491, 492, 493, 494, 495, 496, 497] (by decide +kernel) (by decide +kernel)
set_option maxRecDepth 20000 in
theorem gL_law_X10_month : GoodIn wsL_law (wsV RL 86 RX10 yX10_month wsX10_month) := goodIn_app (goodIn_of _ (by decide +kernel)) ggL_law_X10_month
set_option maxRecDepth 20000 in
theorem ggL_law_L_month : GoodIn wsL_law wsL_month := goodIn_r _ [300, 301, 302, 93, 303] (by decide +kernel) (by decide +kernel)
set_option maxRecDepth 20000 in
theorem gL_law_L_month : GoodIn wsL_law (va_wsS RL 90 yL_month wsL_month) := goodIn_app (goodIn_of _ (by decide +kernel)) ggL_law_L_month
set_option maxRecDepth 20000 in
theorem ggL_law_X10_june : GoodIn wsL_law wsX10_june := goodIn_r _ [307, 16, 143, 308, 309, 310, 15, 311, 163, 51, 52, 233, 234, 235, 236, 274, 160, 161, 162, 50, 53, 479, 480, 481, 482, 483, 484, 485, 486, 487, 488, 489, 490, 491, 492, 493, 494, 495, 496, 497] (by decide +kernel) (by decide +kernel)
set_option maxRecDepth 20000 in
theorem gL_law_X10_june : GoodIn wsL_law (wsV RL 93 RX10 yX10_june wsX10_june) := goodIn_app (goodIn_of _ (by decide +kernel)) ggL_law_X10_june
set_option maxRecDepth 20000 in
theorem ggL_law_L_june : GoodIn wsL_law wsL_june := goodIn_r _ [314, 168, 169, 93, 170] (by decide +kernel) (by decide +kernel)
set_option maxRecDepth 20000 in
theorem gL_law_L_june : GoodIn wsL_law (va_wsS RL 96 yL_june wsL_june) := goodIn_app (goodIn_of _ (by decide +kernel)) ggL_law_L_june
