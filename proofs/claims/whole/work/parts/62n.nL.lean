set_option maxRecDepth 20000 in
theorem ggL_law_X11_clear : GoodIn wsL_law wsX11_clear := goodIn_r _ [535, 505, 100, 101, 506, 507, 508, 5, 509, 510, 102, 511, 512, 513, 514, 515, 516, 517, 518, 827, 828, 829, 830, 831, 832, 833, 834, 835, 836, 837, 838, 839, 840, 841, 842, 843, 844, 845, 846, 847, 848, 849, 850, 851] (by decide +kernel) (by decide +kernel)
set_option maxRecDepth 20000 in
theorem gL_law_X11_clear : GoodIn wsL_law (wsV RL 88 RX11 yX11_clear wsX11_clear) := goodIn_app (goodIn_of _ (by decide +kernel)) ggL_law_X11_clear
set_option maxRecDepth 20000 in
theorem ggL_law_X10_fewest : GoodIn wsL_law wsX10_fewest := goodIn_r _ [539, 34, 16, 298, 540, 541, 542, 33, 543, 78, 79, 544, 545, 546, 57, 547, 313, 314, 315, 316, 62, 548, 549, 550, 551, 552, 235, 236, 237, 816, 817, 818, 819, 820, 821, 822, 823, 824, 825, 826, 852, 853, 854, 855, 856, 857, 858, 859, 868, 869, 876] (by decide +kernel) (by decide +kernel)
set_option maxRecDepth 20000 in
theorem gL_law_X10_fewest : GoodIn wsL_law (wsV RL 89 RX10 yX10_fewest wsX10_fewest) := goodIn_app (goodIn_of _ (by decide +kernel)) ggL_law_X10_fewest
set_option maxRecDepth 20000 in
theorem ggL_law_X11_fewest : GoodIn wsL_law wsX11_fewest := goodIn_r _ [556, 557, 558, 559, 5, 560, 103, 561, 562, 563, 564, 100, 827, 828, 829, 830, 831, 832, 833, 834, 835, 836, 837, 838, 839, 840, 841, 842, 843, 844, 845, 846, 847, 848, 849, 850, 851] (by decide +kernel) (by decide +kernel)
set_option maxRecDepth 20000 in
theorem gL_law_X11_fewest : GoodIn wsL_law (wsV RL 92 RX11 yX11_fewest wsX11_fewest) := goodIn_app (goodIn_of _ (by decide +kernel)) ggL_law_X11_fewest
set_option maxRecDepth 20000 in
theorem ggL_law_X10_held : GoodIn wsL_law wsX10_held := goodIn_r _ [568, 16, 569, 570, 219, 220, 221, 15, 222, 201, 185, 186, 2, 187, 571, 572, 573, 574, 38, 575, 576, 577, 37, 578, 84, 579, 580, 581, 582, 583, 584, 285, 286, 287, 53, 585, 586, 587, 588, 589, 590, 382, 153, 383, 234, 235, 236, 237, 384, 385, 386, 591, 592, 593, 594, 595, 596, 597, 598, 599, 232, 233, 238, 239, 240, 600, 601, 602, 816, 817, 818, 819, 820, 821, 822, 823, 824, 825, 826, 852, 853, 854, 855, 856, 857, 858, 859, 870, 871, 872, 873] (by decide +kernel) (by decide +kernel)
set_option maxRecDepth 20000 in
theorem gL_law_X10_held : GoodIn wsL_law (wsV RL 93 RX10 yX10_held wsX10_held) := goodIn_app (goodIn_of _ (by decide +kernel)) ggL_law_X10_held
