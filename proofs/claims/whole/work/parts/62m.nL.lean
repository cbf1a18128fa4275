set_option maxRecDepth 20000 in
theorem ggL_law_X11_least : GoodIn wsL_law wsX11_least := goodIn_r _ [457, 343, 207, 208, 5, 209, 210, 174, 175, 176, 458, 459, 460, 461, 206, 99, 258, 259, 260, 261, 262, 263, 264, 462, 463, 464, 827, 828, 829, 830, 831, 832, 833, 834, 835, 836, 837, 838, 839, 840, 841, 842, 843, 844, 845, 846, 847, 848, 849, 850, 851] (by decide +kernel) (by decide +kernel)
set_option maxRecDepth 20000 in
theorem gL_law_X11_least : GoodIn wsL_law (wsV RL 80 RX11 yX11_least wsX11_least) := goodIn_app (goodIn_of _ (by decide +kernel)) ggL_law_X11_least
set_option maxRecDepth 20000 in
theorem ggL_law_X10_ring : GoodIn wsL_law wsX10_ring := goodIn_r _ [468, 30, 16, 298, 185, 186, 2, 187, 469, 470, 471, 29, 472, 473, 73, 474, 475, 476, 477, 74, 478, 479, 480, 481, 482, 314, 315, 57, 316, 62, 483, 484, 485, 486, 487, 488, 489, 490, 491, 492, 493, 494, 816, 817, 818, 819, 820, 821, 822, 823, 824, 825, 826, 852, 853, 854, 855, 856, 857, 858, 859, 865, 866, 867, 876] (by decide +kernel) (by decide +kernel)
set_option maxRecDepth 20000 in
theorem gL_law_X10_ring : GoodIn wsL_law (wsV RL 81 RX10 yX10_ring wsX10_ring) := goodIn_app (goodIn_of _ (by decide +kernel)) ggL_law_X10_ring
set_option maxRecDepth 20000 in
theorem ggL_law_X11_ring : GoodIn wsL_law wsX11_ring := goodIn_r _ [498, 499, 500, 174, 175, 5, 176, 501, 502, 503, 504, 505, 101, 506, 507, 508, 509, 510, 102, 511, 512, 513, 514, 100, 515, 516, 517, 518, 827, 828, 829, 830, 831, 832, 833, 834, 835, 836, 837, 838, 839, 840, 841, 842, 843, 844, 845, 846, 847, 848, 849, 850, 851] (by decide +kernel) (by decide +kernel)
set_option maxRecDepth 20000 in
theorem gL_law_X11_ring : GoodIn wsL_law (wsV RL 84 RX11 yX11_ring wsX11_ring) := goodIn_app (goodIn_of _ (by decide +kernel)) ggL_law_X11_ring
set_option maxRecDepth 20000 in
theorem ggL_law_X10_clear : GoodIn wsL_law wsX10_clear := goodIn_r _ [522, 30, 16, 298, 469, 470, 471, 29, 472, 473, 73, 474, 475, 476, 477, 74, 478, 479, 480, 481, 482, 314, 315, 57, 316, 62, 523, 524, 525, 526, 527, 528, 529, 530, 487, 488, 489, 490, 491, 492, 493, 494, 531, 309, 310, 311, 312, 235, 236, 237, 313, 317, 318, 319, 320, 816, 817, 818, 819, 820, 821, 822, 823, 824, 825, 826, 852, 853, 854, 855, 856, 857, 858, 859, 865, 866, 867, 876] (by decide +kernel) (by decide +kernel)
set_option maxRecDepth 20000 in
theorem gL_law_X10_clear : GoodIn wsL_law (wsV RL 85 RX10 yX10_clear wsX10_clear) := goodIn_app (goodIn_of _ (by decide +kernel)) ggL_law_X10_clear
