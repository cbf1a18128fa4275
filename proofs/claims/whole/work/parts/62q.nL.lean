set_option maxRecDepth 20000 in
theorem ggL_law_X11_image : GoodIn wsL_law wsX11_image := goodIn_r _ [744, 99, 107, 100, 108, 325, 745, 391, 746, 206, 109, 721, 722, 5, 723, 825, 826, 827, 828, 829, 830, 831, 832, 833, 834, 835, 836, 837, 838, 839, 840, 841, 842, 843, 844, 845, 846, 847, 848, 849] (by decide +kernel) (by decide +kernel)
set_option maxRecDepth 20000 in
theorem gL_law_X11_image : GoodIn wsL_law (wsV RL 114 RX11 yX11_image wsX11_image) := goodIn_app (goodIn_of _ (by decide +kernel)) ggL_law_X11_image
set_option maxRecDepth 20000 in
theorem ggL_law_X10_restore : GoodIn wsL_law wsX10_restore := goodIn_r _ [750, 740, 16, 17, 181, 674, 675, 676, 15, 677, 51, 678, 479, 480, 481, 52, 53, 54, 58, 201, 303, 379, 679, 680, 681, 57, 682, 62, 683, 814, 815, 816, 817, 818, 819, 820, 821, 822, 823, 824, 850, 851, 852, 853, 854, 855, 856, 857, 874] (by decide +kernel) (by decide +kernel)
set_option maxRecDepth 20000 in
theorem gL_law_X10_restore : GoodIn wsL_law (wsV RL 115 RX10 yX10_restore wsX10_restore) := goodIn_app (goodIn_of _ (by decide +kernel)) ggL_law_X10_restore
set_option maxRecDepth 20000 in
theorem ggL_law_X11_restore : GoodIn wsL_law wsX11_restore := goodIn_r _ [754, 109, 107, 99, 108, 100, 745, 325, 746, 391, 206, 721, 722, 5, 723, 825, 826, 827, 828, 829, 830, 831, 832, 833, 834, 835, 836, 837, 838, 839, 840, 841, 842, 843, 844, 845, 846, 847, 848, 849] (by decide +kernel) (by decide +kernel)
set_option maxRecDepth 20000 in
theorem gL_law_X11_restore : GoodIn wsL_law (wsV RL 118 RX11 yX11_restore wsX11_restore) := goodIn_app (goodIn_of _ (by decide +kernel)) ggL_law_X11_restore
set_option maxRecDepth 20000 in
theorem ggL_law_X10_count : GoodIn wsL_law wsX10_count := goodIn_r _ [758, 16, 181, 759, 760, 22, 114, 298, 706, 707, 708, 15, 709, 201, 52, 761, 762, 763, 764, 380, 285, 286, 287, 53, 765, 766, 767, 57, 768, 62, 814, 815, 816, 817, 818, 819, 820, 821, 822, 823, 824, 850, 851, 852, 853, 854, 855, 856, 857, 858, 859, 874] (by decide +kernel) (by decide +kernel)
set_option maxRecDepth 20000 in
theorem gL_law_X10_count : GoodIn wsL_law (wsV RL 119 RX10 yX10_count wsX10_count) := goodIn_app (goodIn_of _ (by decide +kernel)) ggL_law_X10_count
