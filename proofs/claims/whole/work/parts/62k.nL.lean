set_option maxRecDepth 20000 in
theorem ggL_law_X11_bank : GoodIn wsL_law wsX11_bank := goodIn_r _ [362, 99, 325, 249, 250, 251, 5, 252, 206, 174, 175, 176, 326, 327, 328, 329, 258, 259, 260, 261, 262, 263, 264, 827, 828, 829, 830, 831, 832, 833, 834, 835, 836, 837, 838, 839, 840, 841, 842, 843, 844, 845, 846, 847, 848, 849, 850, 851] (by decide +kernel) (by decide +kernel)
set_option maxRecDepth 20000 in
theorem gL_law_X11_bank : GoodIn wsL_law (wsV RL 63 RX11 yX11_bank wsX11_bank) := goodIn_app (goodIn_of _ (by decide +kernel)) ggL_law_X11_bank
set_option maxRecDepth 20000 in
theorem ggL_law_X10_fetch : GoodIn wsL_law wsX10_fetch := goodIn_r _ [366, 16, 283, 282, 219, 220, 221, 15, 222, 201, 182, 183, 2, 184, 185, 186, 187, 284, 285, 286, 287, 53, 816, 817, 818, 819, 820, 821, 822, 823, 824, 825, 826, 852, 853, 854, 855, 856, 857, 858, 859] (by decide +kernel) (by decide +kernel)
set_option maxRecDepth 20000 in
theorem gL_law_X10_fetch : GoodIn wsL_law (wsV RL 64 RX10 yX10_fetch wsX10_fetch) := goodIn_app (goodIn_of _ (by decide +kernel)) ggL_law_X10_fetch
set_option maxRecDepth 20000 in
theorem ggL_law_X11_fetch : GoodIn wsL_law wsX11_fetch := goodIn_r _ [370, 99, 249, 250, 251, 5, 252, 206, 174, 175, 176, 207, 208, 209, 210, 827, 828, 829, 830, 831, 832, 833, 834, 835, 836, 837, 838, 839, 840, 841, 842, 843, 844, 845, 846, 847, 848, 849, 850, 851] (by decide +kernel) (by decide +kernel)
set_option maxRecDepth 20000 in
theorem gL_law_X11_fetch : GoodIn wsL_law (wsV RL 67 RX11 yX11_fetch wsX11_fetch) := goodIn_app (goodIn_of _ (by decide +kernel)) ggL_law_X11_fetch
set_option maxRecDepth 20000 in
theorem ggL_law_X10_month : GoodIn wsL_law wsX10_month := goodIn_r _ [374, 16, 375, 376, 377, 15, 378, 201, 51, 52, 379, 380, 285, 286, 287, 53, 381, 382, 153, 383, 234, 235, 236, 237, 384, 385, 386, 816, 817, 818, 819, 820, 821, 822, 823, 824, 825, 826, 852, 853, 854, 855, 856, 857, 858, 859] (by decide +kernel) (by decide +kernel)
set_option maxRecDepth 20000 in
theorem gL_law_X10_month : GoodIn wsL_law (wsV RL 68 RX10 yX10_month wsX10_month) := goodIn_app (goodIn_of _ (by decide +kernel)) ggL_law_X10_month
