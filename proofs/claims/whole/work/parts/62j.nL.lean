set_option maxRecDepth 20000 in
theorem ggL_law_X11_debt : GoodIn wsL_law wsX11_debt := goodIn_r _ [342, 343, 100, 344, 345, 5, 346, 207, 208, 209, 210, 174, 175, 176, 827, 828, 829, 830, 831, 832, 833, 834, 835, 836, 837, 838, 839, 840, 841, 842, 843, 844, 845, 846, 847, 848, 849, 850, 851] (by decide +kernel) (by decide +kernel)
set_option maxRecDepth 20000 in
theorem gL_law_X11_debt : GoodIn wsL_law (wsV RL 55 RX11 yX11_debt wsX11_debt) := goodIn_app (goodIn_of _ (by decide +kernel)) ggL_law_X11_debt
set_option maxRecDepth 20000 in
theorem ggL_law_X10_owes : GoodIn wsL_law wsX10_owes := goodIn_r _ [350, 16, 298, 334, 335, 2, 336, 182, 183, 184, 185, 186, 187, 337, 314, 315, 57, 316, 62, 816, 817, 818, 819, 820, 821, 822, 823, 824, 825, 826, 852, 853, 854, 855, 856, 857, 858, 859, 876] (by decide +kernel) (by decide +kernel)
set_option maxRecDepth 20000 in
theorem gL_law_X10_owes : GoodIn wsL_law (wsV RL 56 RX10 yX10_owes wsX10_owes) := goodIn_app (goodIn_of _ (by decide +kernel)) ggL_law_X10_owes
set_option maxRecDepth 20000 in
theorem ggL_law_X11_owes : GoodIn wsL_law wsX11_owes := goodIn_r _ [354, 100, 344, 345, 5, 346, 207, 208, 209, 210, 174, 175, 176, 827, 828, 829, 830, 831, 832, 833, 834, 835, 836, 837, 838, 839, 840, 841, 842, 843, 844, 845, 846, 847, 848, 849, 850, 851] (by decide +kernel) (by decide +kernel)
set_option maxRecDepth 20000 in
theorem gL_law_X11_owes : GoodIn wsL_law (wsV RL 59 RX11 yX11_owes wsX11_owes) := goodIn_app (goodIn_of _ (by decide +kernel)) ggL_law_X11_owes
set_option maxRecDepth 20000 in
theorem ggL_law_X10_bank : GoodIn wsL_law wsX10_bank := goodIn_r _ [358, 16, 219, 220, 221, 15, 222, 201, 284, 285, 286, 287, 53, 299, 300, 301, 302, 303, 52, 227, 228, 229, 230, 51, 231, 232, 153, 233, 234, 235, 236, 237, 238, 239, 240, 304, 305, 306, 307, 54, 816, 817, 818, 819, 820, 821, 822, 823, 824, 825, 826, 852, 853, 854, 855, 856, 857, 858, 859] (by decide +kernel) (by decide +kernel)
set_option maxRecDepth 20000 in
theorem gL_law_X10_bank : GoodIn wsL_law (wsV RL 60 RX10 yX10_bank wsX10_bank) := goodIn_app (goodIn_of _ (by decide +kernel)) ggL_law_X10_bank
