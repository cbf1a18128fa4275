set_option maxRecDepth 20000 in
theorem ggL_law_X10_snap : GoodIn wsL_law wsX10_snap := goodIn_r _ [272, 16, 273, 143, 248, 178, 179, 180, 15, 181, 163, 147, 148, 2, 149, 249, 234, 235, 236, 52, 274, 160, 161, 162, 50, 51, 53, 479, 480, 481, 482, 483, 484, 485, 486, 487, 488, 489, 490, 491, 492, 493, 494, 495, 496, 497] (by decide +kernel) (by decide +kernel)
set_option maxRecDepth 20000 in
theorem gL_law_X10_snap : GoodIn wsL_law (wsV RL 77 RX10 yX10_snap wsX10_snap) := goodIn_app (goodIn_of _ (by decide +kernel)) ggL_law_X10_snap
set_option maxRecDepth 20000 in
theorem ggL_law_L_add : GoodIn wsL_law wsL_add := goodIn_r _ [170] (by decide +kernel) (by decide +kernel)
set_option maxRecDepth 20000 in
theorem gL_law_L_add : GoodIn wsL_law (va_wsS RL 39 yL_add wsL_add) := goodIn_app (goodIn_of _ (by decide +kernel)) ggL_law_L_add
set_option maxRecDepth 20000 in
theorem ggL_law_X10_fetch : GoodIn wsL_law wsX10_fetch := goodIn_r _ [278, 16, 248, 273, 178, 179, 180, 15, 181, 163, 144, 145, 2, 146, 147, 148, 149, 249, 234, 235, 236, 52, 479, 480, 481, 482, 483, 484, 485, 486, 487, 488, 489, 490, 491, 492, 493, 494, 495, 496, 497] (by decide +kernel) (by decide +kernel)
set_option maxRecDepth 20000 in
theorem gL_law_X10_fetch : GoodIn wsL_law (wsV RL 80 RX10 yX10_fetch wsX10_fetch) := goodIn_app (goodIn_of _ (by decide +kernel)) ggL_law_X10_fetch
set_option maxRecDepth 20000 in
theorem ggL_law_X10_bank : GoodIn wsL_law wsX10_bank := goodIn_r _ [282, 16, 178, 179, 180, 15, 181, 163, 249, 234, 235, 236, 52, 250, 251, 252, 253, 254, 51, 186, 187, 188, 189, 50, 190, 191, 137, 192, 193, 194, 195, 196, 197, 198, 199, 255, 256, 257, 258, 53, 479, 480, 481, 482, 483, 484, 485, 486, 487, 488, 489, 490, 491, 492, 493, 494, 495, 496, 497] (by decide +kernel) (by decide +kernel)
set_option maxRecDepth 20000 in
theorem gL_law_X10_bank : GoodIn wsL_law (wsV RL 83 RX10 yX10_bank wsX10_bank) := goodIn_app (goodIn_of _ (by decide +kernel)) ggL_law_X10_bank
