set_option maxRecDepth 20000 in
theorem ggL_law_X11_image : GoodIn wsL_law wsX11_image := goodIn_r _ [746, 99, 107, 100, 108, 325, 747, 391, 748, 206, 109, 723, 724, 5, 725, 827, 828, 829, 830, 831, 832, 833, 834, 835, 836, 837, 838, 839, 840, 841, 842, 843, 844, 845, 846, 847, 848, 849, 850, 851] (by decide +kernel) (by decide +kernel)
set_option maxRecDepth 20000 in
theorem gL_law_X11_image : GoodIn wsL_law (wsV RL 114 RX11 yX11_image wsX11_image) := goodIn_app (goodIn_of _ (by decide +kernel)) ggL_law_X11_image
set_option maxRecDepth 20000 in
theorem ggL_law_X10_restore : GoodIn wsL_law wsX10_restore := goodIn_r _ [752, 742, 16, 17, 181, 676, 677, 678, 15, 679, 51, 680, 479, 480, 481, 52, 53, 54, 58, 201, 303, 379, 681, 682, 683, 57, 684, 62, 685, 816, 817, 818, 819, 820, 821, 822, 823, 824, 825, 826, 852, 853, 854, 855, 856, 857, 858, 859, 876] (by decide +kernel) (by decide +kernel)
set_option maxRecDepth 20000 in
theorem gL_law_X10_restore : GoodIn wsL_law (wsV RL 115 RX10 yX10_restore wsX10_restore) := goodIn_app (goodIn_of _ (by decide +kernel)) ggL_law_X10_restore
set_option maxRecDepth 20000 in
theorem ggL_law_X11_restore : GoodIn wsL_law wsX11_restore := goodIn_r _ [756, 109, 107, 99, 108, 100, 747, 325, 748, 391, 206, 723, 724, 5, 725, 827, 828, 829, 830, 831, 832, 833, 834, 835, 836, 837, 838, 839, 840, 841, 842, 843, 844, 845, 846, 847, 848, 849, 850, 851] (by decide +kernel) (by decide +kernel)
set_option maxRecDepth 20000 in
theorem gL_law_X11_restore : GoodIn wsL_law (wsV RL 118 RX11 yX11_restore wsX11_restore) := goodIn_app (goodIn_of _ (by decide +kernel)) ggL_law_X11_restore
set_option maxRecDepth 20000 in
theorem ggL_law_X10_count : GoodIn wsL_law wsX10_count := goodIn_r _ [760, 16, 181, 761, 762, 22, 114, 298, 708, 709, 710, 15, 711, 201, 52, 763, 764, 765, 766, 380, 285, 286, 287, 53, 767, 768, 769, 57, 770, 62, 816, 817, 818, 819, 820, 821, 822, 823, 824, 825, 826, 852, 853, 854, 855, 856, 857, 858, 859, 860, 861, 876] (by decide +kernel) (by decide +kernel)
set_option maxRecDepth 20000 in
theorem gL_law_X10_count : GoodIn wsL_law (wsV RL 119 RX10 yX10_count wsX10_count) := goodIn_app (goodIn_of _ (by decide +kernel)) ggL_law_X10_count
