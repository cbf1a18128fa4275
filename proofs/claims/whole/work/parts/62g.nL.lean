set_option maxRecDepth 20000 in
theorem ggL_law_X10_months : GoodIn wsL_law wsX10_months := goodIn_r _ [673, 18, 16, 46, 185, 186, 2, 187, 674, 675, 676, 15, 677, 51, 678, 479, 480, 481, 52, 53, 54, 58, 201, 303, 379, 679, 680, 681, 57, 682, 62, 683, 684, 685, 686, 45, 687, 688, 689, 690, 691, 692, 693, 694, 695, 696, 697, 698, 699, 700, 701, 702, 376, 377, 378, 380, 285, 286, 287, 381, 382, 153, 383, 234, 235, 236, 237, 384, 385, 386, 703, 220, 221, 222, 704, 705, 300, 301, 302, 227, 228, 229, 230, 231, 232, 233, 238, 239, 240, 304, 305, 306, 307, 706, 707, 708, 709, 710, 711, 712, 713, 814, 815, 816, 817, 818, 819, 820, 821, 822, 823, 824, 850, 851, 852, 853, 854, 855, 856, 857, 874, 873] (by decide +kernel) (by decide +kernel)
set_option maxRecDepth 20000 in
theorem gL_law_X10_months : GoodIn wsL_law (wsV RL 107 RX10 yX10_months wsX10_months) := goodIn_app (goodIn_of _ (by decide +kernel)) ggL_law_X10_months
set_option maxRecDepth 20000 in
theorem ggL_law_X11_months : GoodIn wsL_law wsX11_months := goodIn_r _ [717, 718, 499, 719, 99, 106, 720, 206, 174, 175, 5, 176, 721, 722, 723, 724, 725, 726, 727, 728, 729, 730, 731, 392, 393, 394, 395, 396, 397, 398, 326, 327, 328, 329, 258, 259, 260, 261, 262, 263, 264, 732, 733, 734, 735, 825, 826, 827, 828, 829, 830, 831, 832, 833, 834, 835, 836, 837, 838, 839, 840, 841, 842, 843, 844, 845, 846, 847, 848, 849] (by decide +kernel) (by decide +kernel)
set_option maxRecDepth 20000 in
theorem gL_law_X11_months : GoodIn wsL_law (wsV RL 110 RX11 yX11_months wsX11_months) := goodIn_app (goodIn_of _ (by decide +kernel)) ggL_law_X11_months
set_option maxRecDepth 20000 in
theorem ggL_law_X10_image : GoodIn wsL_law wsX10_image := goodIn_r _ [739, 17, 16, 740, 181, 674, 675, 676, 15, 677, 51, 678, 479, 480, 481, 52, 53, 54, 58, 201, 303, 379, 679, 680, 681, 57, 682, 62, 683, 814, 815, 816, 817, 818, 819, 820, 821, 822, 823, 824, 850, 851, 852, 853, 854, 855, 856, 857, 874] (by decide +kernel) (by decide +kernel)
set_option maxRecDepth 20000 in
theorem gL_law_X10_image : GoodIn wsL_law (wsV RL 111 RX10 yX10_image wsX10_image) := goodIn_app (goodIn_of _ (by decide +kernel)) ggL_law_X10_image
set_option maxRecDepth 20000 in
theorem ggL_law_X11_image : GoodIn wsL_law wsX11_image := goodIn_r _ [744, 99, 107, 100, 108, 325, 745, 391, 746, 206, 109, 721, 722, 5, 723, 825, 826, 827, 828, 829, 830, 831, 832, 833, 834, 835, 836, 837, 838, 839, 840, 841, 842, 843, 844, 845, 846, 847, 848, 849] (by decide +kernel) (by decide +kernel)
set_option maxRecDepth 20000 in
theorem gL_law_X11_image : GoodIn wsL_law (wsV RL 114 RX11 yX11_image wsX11_image) := goodIn_app (goodIn_of _ (by decide +kernel)) ggL_law_X11_image
set_option maxRecDepth 20000 in
theorem ggL_law_X10_restore : GoodIn wsL_law wsX10_restore := goodIn_r _ [750, 740, 16, 17, 181, 674, 675, 676, 15, 677, 51, 678, 479, 480, 481, 52, 53, 54, 58, 201, 303, 379, 679, 680, 681, 57, 682, 62, 683, 814, 815, 816, 817, 818, 819, 820, 821, 822, 823, 824, 850, 851, 852, 853, 854, 855, 856, 857, 874] (by decide +kernel) (by decide +kernel)
set_option maxRecDepth 20000 in
theorem gL_law_X10_restore : GoodIn wsL_law (wsV RL 115 RX10 yX10_restore wsX10_restore) := goodIn_app (goodIn_of _ (by decide +kernel)) ggL_law_X10_restore
set_option maxRecDepth 20000 in
theorem ggL_law_X11_restore : GoodIn wsL_law wsX11_restore := goodIn_r _ [754, 109, 107, 99, 108, 100, 745, 325, 746, 391, 206, 721, 722, 5, 723, 825, 826, 827, 828, 829, 830, 831, 832, 833, 834, 835, 836, 837, 838, 839, 840, 841, 842, 843, 844, 845, 846, 847, 848, 849] (by decide +kernel) (by decide +kernel)
set_option maxRecDepth 20000 in
theorem gL_law_X11_restore : GoodIn wsL_law (wsV RL 118 RX11 yX11_restore wsX11_restore) := goodIn_app (goodIn_of _ (by decide +kernel)) ggL_law_X11_restore
set_option maxRecDepth 20000 in
theorem ggL_law_X10_count : GoodIn wsL_law wsX10_count := goodIn_r _ [758, 16, 181, 759, 760, 22, 114, 298, 706, 707, 708, 15, 709, 201, 52, 761, 762, 763, 764, 380, 285, 286, 287, 53, 765, 766, 767, 57, 768, 62, 814, 815, 816, 817, 818, 819, 820, 821, 822, 823, 824, 850, 851, 852, 853, 854, 855, 856, 857, 858, 859, 874] (by decide +kernel) (by decide +kernel)
set_option maxRecDepth 20000 in
theorem gL_law_X10_count : GoodIn wsL_law (wsV RL 119 RX10 yX10_count wsX10_count) := goodIn_app (goodIn_of _ (by decide +kernel)) ggL_law_X10_count
set_option maxRecDepth 20000 in
theorem ggL_law_X11_count : GoodIn wsL_law wsX11_count := goodIn_r _ [772, 773, 774, 775, 5, 776, 206, 99, 100, 325, 391, 131, 732, 733, 734, 735, 825, 826, 827, 828, 829, 830, 831, 832, 833, 834, 835, 836, 837, 838, 839, 840, 841, 842, 843, 844, 845, 846, 847, 848, 849] (by decide +kernel) (by decide +kernel)
set_option maxRecDepth 20000 in
theorem gL_law_X11_count : GoodIn wsL_law (wsV RL 122 RX11 yX11_count wsX11_count) := goodIn_app (goodIn_of _ (by decide +kernel)) ggL_law_X11_count
set_option maxRecDepth 20000 in
theorem ggL_law_X10_digest : GoodIn wsL_law wsX10_digest := goodIn_r _ [780, 781, 22, 114, 782, 783, 784, 785, 786, 2, 787, 16, 181, 223, 224, 225, 15, 226, 51, 52, 53, 227, 228, 229, 230, 231, 232, 153, 233, 234, 235, 236, 237, 238, 239, 240, 241, 242, 243, 244, 54, 571, 572, 573, 574, 38, 575, 576, 577, 37, 578, 84, 579, 580, 581, 582, 583, 584, 285, 286, 287, 585, 586, 587, 588, 589, 590, 382, 383, 384, 385, 386, 591, 592, 593, 594, 595, 596, 597, 598, 599, 600, 601, 602, 788, 789, 790, 791, 298, 30, 337, 314, 315, 57, 316, 62, 469, 470, 471, 29, 472, 473, 73, 474, 475, 476, 477, 74, 478, 479, 480, 481, 482, 483, 484, 485, 486, 487, 488, 489, 490, 491, 492, 493, 494, 792, 537, 538, 539, 34, 540, 541, 542, 33, 543, 78, 79, 544, 545, 546, 547, 313, 548, 549, 550, 551, 552, 793, 794, 795, 796, 26, 415, 416, 417, 25, 418, 419, 420, 421, 422, 423, 424, 425, 426, 427, 428, 429, 430, 431, 432, 433, 434, 435, 436, 437, 438, 439, 440, 441, 442, 443, 444, 445, 220, 221, 222, 201, 446, 447, 448, 449, 450, 451, 452, 453, 797, 756, 757, 758, 759, 760, 706, 707, 708, 709, 761, 762, 763, 764, 380, 765, 766, 767, 768, 814, 815, 816, 817, 818, 819, 820, 821, 822, 823, 824, 858, 859, 850, 851, 852, 853, 854, 855, 856, 857, 868, 869, 870, 871, 874, 863, 864, 865, 866, 867, 860, 861, 862] (by decide +kernel) (by decide +kernel)
set_option maxRecDepth 20000 in
theorem gL_law_X10_digest : GoodIn wsL_law (wsV RL 123 RX10 yX10_digest wsX10_digest) := goodIn_app (goodIn_of _ (by decide +kernel)) ggL_law_X10_digest
set_option maxRecDepth 20000 in
theorem ggL_law_X11_digest : GoodIn wsL_law wsX11_digest := goodIn_r _ [801, 802, 803, 206, 100, 131, 96, 804, 805, 806, 5, 807, 808, 253, 254, 255, 256, 257, 99, 258, 259, 260, 261, 262, 263, 264, 174, 175, 176, 809, 810, 811, 812, 813, 610, 611, 612, 613, 104, 105, 396, 397, 398, 617, 618, 619, 501, 502, 503, 504, 505, 101, 506, 507, 508, 509, 510, 102, 511, 512, 513, 514, 515, 516, 517, 518, 557, 558, 559, 560, 103, 561, 562, 563, 564, 458, 459, 460, 461, 462, 463, 464, 773, 774, 775, 776, 325, 391, 732, 733, 734, 735, 825, 826, 827, 828, 829, 830, 831, 832, 833, 834, 835, 836, 837, 838, 839, 840, 841, 842, 843, 844, 845, 846, 847, 848, 849] (by decide +kernel) (by decide +kernel)
set_option maxRecDepth 20000 in
theorem gL_law_X11_digest : GoodIn wsL_law (wsV RL 127 RX11 yX11_digest wsX11_digest) := goodIn_app (goodIn_of _ (by decide +kernel)) ggL_law_X11_digest
theorem dL_law_0 : decode cL_law 0 = .ok (.new 7, 3) := by decide +kernel
theorem dL_law_3 : decode cL_law 3 = .ok (.dup, 1) := by decide +kernel
theorem dL_law_4 : decode cL_law 4 = .ok (.invokespecial 9, 3) := by decide +kernel
theorem dL_law_7 : decode cL_law 7 = .ok (.astore_n 1, 1) := by decide +kernel
theorem dL_law_8 : decode cL_law 8 = .ok (.new 10, 3) := by decide +kernel
theorem dL_law_11 : decode cL_law 11 = .ok (.dup, 1) := by decide +kernel
theorem dL_law_12 : decode cL_law 12 = .ok (.invokespecial 12, 3) := by decide +kernel
theorem dL_law_15 : decode cL_law 15 = .ok (.astore_n 2, 1) := by decide +kernel
theorem dL_law_16 : decode cL_law 16 = .ok (.iconst 0, 1) := by decide +kernel
theorem dL_law_17 : decode cL_law 17 = .ok (.istore_n 3, 1) := by decide +kernel
