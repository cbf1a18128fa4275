set_option maxRecDepth 20000 in
theorem ggL_law_X11_month : GoodIn wsL_law wsX11_month := goodIn_r _ [390, 391, 392, 393, 394, 5, 395, 206, 99, 396, 397, 398, 827, 828, 829, 830, 831, 832, 833, 834, 835, 836, 837, 838, 839, 840, 841, 842, 843, 844, 845, 846, 847, 848, 849, 850, 851] (by decide +kernel) (by decide +kernel)
set_option maxRecDepth 20000 in
theorem gL_law_X11_month : GoodIn wsL_law (wsV RL 72 RX11 yX11_month wsX11_month) := goodIn_app (goodIn_of _ (by decide +kernel)) ggL_law_X11_month
set_option maxRecDepth 20000 in
theorem ggL_law_X10_june : GoodIn wsL_law wsX10_june := goodIn_r _ [402, 16, 181, 403, 404, 405, 15, 406, 201, 52, 53, 380, 285, 286, 287, 288, 198, 199, 200, 51, 54, 816, 817, 818, 819, 820, 821, 822, 823, 824, 825, 826, 852, 853, 854, 855, 856, 857, 858, 859] (by decide +kernel) (by decide +kernel)
set_option maxRecDepth 20000 in
theorem gL_law_X10_june : GoodIn wsL_law (wsV RL 73 RX10 yX10_june wsX10_june) := goodIn_app (goodIn_of _ (by decide +kernel)) ggL_law_X10_june
set_option maxRecDepth 20000 in
theorem ggL_law_X11_june : GoodIn wsL_law wsX11_june := goodIn_r _ [410, 206, 99, 211, 212, 213, 5, 214, 827, 828, 829, 830, 831, 832, 833, 834, 835, 836, 837, 838, 839, 840, 841, 842, 843, 844, 845, 846, 847, 848, 849, 850, 851] (by decide +kernel) (by decide +kernel)
set_option maxRecDepth 20000 in
theorem gL_law_X11_june : GoodIn wsL_law (wsV RL 76 RX11 yX11_june wsX11_june) := goodIn_app (goodIn_of _ (by decide +kernel)) ggL_law_X11_june
set_option maxRecDepth 20000 in
theorem ggL_law_X10_least : GoodIn wsL_law wsX10_least := goodIn_r _ [414, 26, 16, 182, 183, 2, 184, 185, 186, 187, 415, 416, 417, 25, 418, 419, 420, 421, 422, 423, 424, 228, 229, 15, 230, 51, 52, 231, 232, 153, 233, 234, 235, 236, 237, 238, 239, 240, 425, 426, 427, 428, 429, 430, 431, 432, 433, 434, 435, 436, 437, 438, 439, 440, 441, 442, 443, 444, 445, 220, 221, 222, 201, 446, 447, 448, 449, 450, 451, 452, 453, 816, 817, 818, 819, 820, 821, 822, 823, 824, 825, 826, 862, 863, 864, 852, 853, 854, 855, 856, 857, 858, 859] (by decide +kernel) (by decide +kernel)
set_option maxRecDepth 20000 in
theorem gL_law_X10_least : GoodIn wsL_law (wsV RL 77 RX10 yX10_least wsX10_least) := goodIn_app (goodIn_of _ (by decide +kernel)) ggL_law_X10_least
