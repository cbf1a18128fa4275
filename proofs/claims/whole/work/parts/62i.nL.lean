set_option maxRecDepth 20000 in
theorem ggL_law_X11_snap : GoodIn wsL_law wsX11_snap := goodIn_r _ [292, 293, 99, 206, 249, 250, 251, 5, 252, 174, 175, 176, 211, 212, 213, 214, 827, 828, 829, 830, 831, 832, 833, 834, 835, 836, 837, 838, 839, 840, 841, 842, 843, 844, 845, 846, 847, 848, 849, 850, 851] (by decide +kernel) (by decide +kernel)
set_option maxRecDepth 20000 in
theorem gL_law_X11_snap : GoodIn wsL_law (wsV RL 46 RX11 yX11_snap wsX11_snap) := goodIn_app (goodIn_of _ (by decide +kernel)) ggL_law_X11_snap
set_option maxRecDepth 20000 in
theorem ggL_law_X10_pay : GoodIn wsL_law wsX10_pay := goodIn_r _ [297, 16, 283, 298, 219, 220, 221, 15, 222, 201, 182, 183, 2, 184, 185, 186, 187, 284, 285, 286, 287, 53, 299, 300, 301, 302, 303, 52, 227, 228, 229, 230, 51, 231, 232, 153, 233, 234, 235, 236, 237, 238, 239, 240, 304, 305, 306, 307, 54, 308, 309, 310, 57, 311, 312, 313, 314, 315, 316, 62, 317, 318, 319, 320, 816, 817, 818, 819, 820, 821, 822, 823, 824, 825, 826, 852, 853, 854, 855, 856, 857, 858, 859, 876] (by decide +kernel) (by decide +kernel)
set_option maxRecDepth 20000 in
theorem gL_law_X10_pay : GoodIn wsL_law (wsV RL 47 RX10 yX10_pay wsX10_pay) := goodIn_app (goodIn_of _ (by decide +kernel)) ggL_law_X10_pay
set_option maxRecDepth 20000 in
theorem ggL_law_X11_pay : GoodIn wsL_law wsX11_pay := goodIn_r _ [324, 99, 325, 100, 249, 250, 251, 5, 252, 206, 174, 175, 176, 207, 208, 209, 210, 326, 327, 328, 329, 258, 259, 260, 261, 262, 263, 264, 827, 828, 829, 830, 831, 832, 833, 834, 835, 836, 837, 838, 839, 840, 841, 842, 843, 844, 845, 846, 847, 848, 849, 850, 851] (by decide +kernel) (by decide +kernel)
set_option maxRecDepth 20000 in
theorem gL_law_X11_pay : GoodIn wsL_law (wsV RL 50 RX11 yX11_pay wsX11_pay) := goodIn_app (goodIn_of _ (by decide +kernel)) ggL_law_X11_pay
set_option maxRecDepth 20000 in
theorem ggL_law_X10_debt : GoodIn wsL_law wsX10_debt := goodIn_r _ [333, 16, 298, 334, 335, 2, 336, 182, 183, 184, 185, 186, 187, 337, 314, 315, 57, 316, 62, 338, 318, 319, 320, 816, 817, 818, 819, 820, 821, 822, 823, 824, 825, 826, 852, 853, 854, 855, 856, 857, 858, 859, 876] (by decide +kernel) (by decide +kernel)
set_option maxRecDepth 20000 in
theorem gL_law_X10_debt : GoodIn wsL_law (wsV RL 51 RX10 yX10_debt wsX10_debt) := goodIn_app (goodIn_of _ (by decide +kernel)) ggL_law_X10_debt
