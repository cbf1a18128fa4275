set_option maxRecDepth 20000 in
theorem ggL_law_X11_went : GoodIn wsL_law wsX11_went := goodIn_r _ [662, 663, 277, 99, 249, 250, 251, 5, 252, 206, 174, 175, 176, 207, 208, 209, 210, 664, 665, 666, 667, 262, 263, 264, 396, 397, 398, 668, 669, 670, 671, 827, 828, 829, 830, 831, 832, 833, 834, 835, 836, 837, 838, 839, 840, 841, 842, 843, 844, 845, 846, 847, 848, 849, 850, 851] (by decide +kernel) (by decide +kernel)
set_option maxRecDepth 20000 in
theorem gL_law_X11_went : GoodIn wsL_law (wsV RL 106 RX11 yX11_went wsX11_went) := goodIn_app (goodIn_of _ (by decide +kernel)) ggL_law_X11_went
set_option maxRecDepth 20000 in
theorem ggL_law_X10_months : GoodIn wsL_law wsX10_months := goodIn_r _ [675, 18, 16, 46, 185, 186, 2, 187, 676, 677, 678, 15, 679, 51, 680, 479, 480, 481, 52, 53, 54, 58, 201, 303, 379, 681, 682, 683, 57, 684, 62, 685, 686, 687, 688, 45, 689, 690, 691, 692, 693, 694, 695, 696, 697, 698, 699, 700, 701, 702, 703, 704, 376, 377, 378, 380, 285, 286, 287, 381, 382, 153, 383, 234, 235, 236, 237, 384, 385, 386, 705, 220, 221, 222, 706, 707, 300, 301, 302, 227, 228, 229, 230, 231, 232, 233, 238, 239, 240, 304, 305, 306, 307, 708, 709, 710, 711, 712, 713, 714, 715, 816, 817, 818, 819, 820, 821, 822, 823, 824, 825, 826, 852, 853, 854, 855, 856, 857, 858, 859, 876, 875] (by decide +kernel) (by decide +kernel)
set_option maxRecDepth 20000 in
theorem gL_law_X10_months : GoodIn wsL_law (wsV RL 107 RX10 yX10_months wsX10_months) := goodIn_app (goodIn_of _ (by decide +kernel)) ggL_law_X10_months
set_option maxRecDepth 20000 in
theorem ggL_law_X11_months : GoodIn wsL_law wsX11_months := goodIn_r _ [719, 720, 499, 721, 99, 106, 722, 206, 174, 175, 5, 176, 723, 724, 725, 726, 727, 728, 729, 730, 731, 732, 733, 392, 393, 394, 395, 396, 397, 398, 326, 327, 328, 329, 258, 259, 260, 261, 262, 263, 264, 734, 735, 736, 737, 827, 828, 829, 830, 831, 832, 833, 834, 835, 836, 837, 838, 839, 840, 841, 842, 843, 844, 845, 846, 847, 848, 849, 850, 851] (by decide +kernel) (by decide +kernel)
set_option maxRecDepth 20000 in
theorem gL_law_X11_months : GoodIn wsL_law (wsV RL 110 RX11 yX11_months wsX11_months) := goodIn_app (goodIn_of _ (by decide +kernel)) ggL_law_X11_months
set_option maxRecDepth 20000 in
theorem ggL_law_X10_image : GoodIn wsL_law wsX10_image := goodIn_r _ [741, 17, 16, 742, 181, 676, 677, 678, 15, 679, 51, 680, 479, 480, 481, 52, 53, 54, 58, 201, 303, 379, 681, 682, 683, 57, 684, 62, 685, 816, 817, 818, 819, 820, 821, 822, 823, 824, 825, 826, 852, 853, 854, 855, 856, 857, 858, 859, 876] (by decide +kernel) (by decide +kernel)
set_option maxRecDepth 20000 in
theorem gL_law_X10_image : GoodIn wsL_law (wsV RL 111 RX10 yX10_image wsX10_image) := goodIn_app (goodIn_of _ (by decide +kernel)) ggL_law_X10_image
