set_option maxRecDepth 20000 in
theorem ggL_law_X11_held : GoodIn wsL_law wsX11_held := goodIn_r _ [606, 607, 608, 499, 609, 249, 250, 251, 5, 252, 206, 174, 175, 176, 610, 611, 612, 613, 99, 104, 105, 396, 397, 398, 262, 263, 264, 614, 615, 616, 617, 618, 619, 827, 828, 829, 830, 831, 832, 833, 834, 835, 836, 837, 838, 839, 840, 841, 842, 843, 844, 845, 846, 847, 848, 849, 850, 851] (by decide +kernel) (by decide +kernel)
set_option maxRecDepth 20000 in
theorem gL_law_X11_held : GoodIn wsL_law (wsV RL 97 RX11 yX11_held wsX11_held) := goodIn_app (goodIn_of _ (by decide +kernel)) ggL_law_X11_held
set_option maxRecDepth 20000 in
theorem ggL_law_X10_when : GoodIn wsL_law wsX10_when := goodIn_r _ [623, 16, 38, 219, 220, 221, 15, 222, 201, 185, 186, 2, 187, 575, 576, 577, 37, 578, 84, 579, 580, 581, 582, 583, 584, 285, 286, 287, 53, 624, 625, 626, 627, 595, 596, 597, 598, 599, 232, 153, 233, 234, 235, 236, 237, 238, 239, 240, 628, 586, 587, 588, 589, 590, 382, 383, 384, 385, 386, 816, 817, 818, 819, 820, 821, 822, 823, 824, 825, 826, 852, 853, 854, 855, 856, 857, 858, 859, 870, 871, 872, 873] (by decide +kernel) (by decide +kernel)
set_option maxRecDepth 20000 in
theorem gL_law_X10_when : GoodIn wsL_law (wsV RL 98 RX10 yX10_when wsX10_when) := goodIn_app (goodIn_of _ (by decide +kernel)) ggL_law_X10_when
set_option maxRecDepth 20000 in
theorem ggL_law_X11_when : GoodIn wsL_law wsX11_when := goodIn_r _ [632, 608, 499, 249, 250, 251, 5, 252, 206, 174, 175, 176, 610, 611, 612, 613, 99, 104, 105, 396, 397, 398, 262, 263, 264, 614, 615, 616, 827, 828, 829, 830, 831, 832, 833, 834, 835, 836, 837, 838, 839, 840, 841, 842, 843, 844, 845, 846, 847, 848, 849, 850, 851] (by decide +kernel) (by decide +kernel)
set_option maxRecDepth 20000 in
theorem gL_law_X11_when : GoodIn wsL_law (wsV RL 101 RX11 yX11_when wsX11_when) := goodIn_app (goodIn_of _ (by decide +kernel)) ggL_law_X11_when
set_option maxRecDepth 20000 in
theorem ggL_law_X10_went : GoodIn wsL_law wsX10_went := goodIn_r _ [636, 16, 269, 282, 42, 219, 220, 221, 15, 222, 201, 182, 183, 2, 184, 185, 186, 187, 284, 285, 286, 287, 53, 637, 638, 41, 639, 640, 641, 642, 643, 232, 153, 233, 234, 235, 236, 237, 238, 239, 240, 644, 382, 383, 384, 385, 386, 645, 646, 647, 648, 88, 649, 650, 242, 243, 244, 54, 651, 652, 653, 654, 655, 656, 657, 658, 816, 817, 818, 819, 820, 821, 822, 823, 824, 825, 826, 852, 853, 854, 855, 856, 857, 858, 859, 874] (by decide +kernel) (by decide +kernel)
set_option maxRecDepth 20000 in
theorem gL_law_X10_went : GoodIn wsL_law (wsV RL 102 RX10 yX10_went wsX10_went) := goodIn_app (goodIn_of _ (by decide +kernel)) ggL_law_X10_went
