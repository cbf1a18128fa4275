set_option maxRecDepth 20000 in
theorem ggL_law_X11_went : GoodIn wsL_law wsX11_went := goodIn_r _ [660, 661, 277, 99, 249, 250, 251, 5, 252, 206, 174, 175, 176, 207, 208, 209, 210, 662, 663, 664, 665, 262, 263, 264, 396, 397, 398, 666, 667, 668, 669, 825, 826, 827, 828, 829, 830, 831, 832, 833, 834, 835, 836, 837, 838, 839, 840, 841, 842, 843, 844, 845, 846, 847, 848, 849] (by decide +kernel) (by decide +kernel)
set_option maxRecDepth 20000 in
theorem gL_law_X11_went : GoodIn wsL_law (wsV RL 106 RX11 yX11_went wsX11_went) := goodIn_app (goodIn_of _ (by decide +kernel)) ggL_law_X11_went
set_option maxRecDepth 20000 in
theorem ggL_law_X10_months : GoodIn wsL_law wsX10_months := goodIn_r _ [673, 18, 16, 46, 185, 186, 2, 187, 674, 675, 676, 15, 677, 51, 678, 479, 480, 481, 52, 53, 54, 58, 201, 303, 379, 679, 680, 681, 57, 682, 62, 683, 684, 685, 686, 45, 687, 688, 689, 690, 691, 692, 693, 694, 695, 696, 697, 698, 699, 700, 701, 702, 376, 377, 378, 380, 285, 286, 287, 381, 382, 153, 383, 234, 235, 236, 237, 384, 385, 386, 703, 220, 221, 222, 704, 705, 300, 301, 302, 227, 228, 229, 230, 231, 232, 233, 238, 239, 240, 304, 305, 306, 307, 706, 707, 708, 709, 710, 711, 712, 713, 814, 815, 816, 817, 818, 819, 820, 821, 822, 823, 824, 850, 851, 852, 853, 854, 855, 856, 857, 874, 873] (by decide +kernel) (by decide +kernel)
set_option maxRecDepth 20000 in
theorem gL_law_X10_months : GoodIn wsL_law (wsV RL 107 RX10 yX10_months wsX10_months) := goodIn_app (goodIn_of _ (by decide +kernel)) ggL_law_X10_months
set_option maxRecDepth 20000 in
theorem ggL_law_X11_months : GoodIn wsL_law wsX11_months := goodIn_r _ [717, 718, 499, 719, 99, 106, 720, 206, 174, 175, 5, 176, 721, 722, 723, 724, 725, 726, 727, 728, 729, 730, 731, 392, 393, 394, 395, 396, 397, 398, 326, 327, 328, 329, 258, 259, 260, 261, 262, 263, 264, 732, 733, 734, 735, 825, 826, 827, 828, 829, 830, 831, 832, 833, 834, 835, 836, 837, 838, 839, 840, 841, 842, 843, 844, 845, 846, 847, 848, 849] (by decide +kernel) (by decide +kernel)
set_option maxRecDepth 20000 in
theorem gL_law_X11_months : GoodIn wsL_law (wsV RL 110 RX11 yX11_months wsX11_months) := goodIn_app (goodIn_of _ (by decide +kernel)) ggL_law_X11_months
set_option maxRecDepth 20000 in
theorem ggL_law_X10_image : GoodIn wsL_law wsX10_image := goodIn_r _ [739, 17, 16, 740, 181, 674, 675, 676, 15, 677, 51, 678, 479, 480, 481, 52, 53, 54, 58, 201, 303, 379, 679, 680, 681, 57, 682, 62, 683, 814, 815, 816, 817, 818, 819, 820, 821, 822, 823, 824, 850, 851, 852, 853, 854, 855, 856, 857, 874] (by decide +kernel) (by decide +kernel)
set_option maxRecDepth 20000 in
theorem gL_law_X10_image : GoodIn wsL_law (wsV RL 111 RX10 yX10_image wsX10_image) := goodIn_app (goodIn_of _ (by decide +kernel)) ggL_law_X10_image
