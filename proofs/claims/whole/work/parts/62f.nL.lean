set_option maxRecDepth 20000 in
theorem ggL_law_X10_clear : GoodIn wsL_law wsX10_clear := goodIn_r _ [522, 30, 16, 298, 469, 470, 471, 29, 472, 473, 73, 474, 475, 476, 477, 74, 478, 479, 480, 481, 482, 314, 315, 57, 316, 62, 523, 524, 525, 526, 527, 528, 529, 530, 487, 488, 489, 490, 491, 492, 493, 494, 531, 309, 310, 311, 312, 235, 236, 237, 313, 317, 318, 319, 320, 814, 815, 816, 817, 818, 819, 820, 821, 822, 823, 824, 850, 851, 852, 853, 854, 855, 856, 857, 863, 864, 865, 874] (by decide +kernel) (by decide +kernel)
set_option maxRecDepth 20000 in
theorem gL_law_X10_clear : GoodIn wsL_law (wsV RL 85 RX10 yX10_clear wsX10_clear) := goodIn_app (goodIn_of _ (by decide +kernel)) ggL_law_X10_clear
set_option maxRecDepth 20000 in
theorem ggL_law_X11_clear : GoodIn wsL_law wsX11_clear := goodIn_r _ [535, 505, 100, 101, 506, 507, 508, 5, 509, 510, 102, 511, 512, 513, 514, 515, 516, 517, 518, 825, 826, 827, 828, 829, 830, 831, 832, 833, 834, 835, 836, 837, 838, 839, 840, 841, 842, 843, 844, 845, 846, 847, 848, 849] (by decide +kernel) (by decide +kernel)
set_option maxRecDepth 20000 in
theorem gL_law_X11_clear : GoodIn wsL_law (wsV RL 88 RX11 yX11_clear wsX11_clear) := goodIn_app (goodIn_of _ (by decide +kernel)) ggL_law_X11_clear
set_option maxRecDepth 20000 in
theorem ggL_law_X10_fewest : GoodIn wsL_law wsX10_fewest := goodIn_r _ [539, 34, 16, 298, 540, 541, 542, 33, 543, 78, 79, 544, 545, 546, 57, 547, 313, 314, 315, 316, 62, 548, 549, 550, 551, 552, 235, 236, 237, 814, 815, 816, 817, 818, 819, 820, 821, 822, 823, 824, 850, 851, 852, 853, 854, 855, 856, 857, 866, 867, 874] (by decide +kernel) (by decide +kernel)
set_option maxRecDepth 20000 in
theorem gL_law_X10_fewest : GoodIn wsL_law (wsV RL 89 RX10 yX10_fewest wsX10_fewest) := goodIn_app (goodIn_of _ (by decide +kernel)) ggL_law_X10_fewest
set_option maxRecDepth 20000 in
theorem ggL_law_X11_fewest : GoodIn wsL_law wsX11_fewest := goodIn_r _ [556, 557, 558, 559, 5, 560, 103, 561, 562, 563, 564, 100, 825, 826, 827, 828, 829, 830, 831, 832, 833, 834, 835, 836, 837, 838, 839, 840, 841, 842, 843, 844, 845, 846, 847, 848, 849] (by decide +kernel) (by decide +kernel)
set_option maxRecDepth 20000 in
theorem gL_law_X11_fewest : GoodIn wsL_law (wsV RL 92 RX11 yX11_fewest wsX11_fewest) := goodIn_app (goodIn_of _ (by decide +kernel)) ggL_law_X11_fewest
set_option maxRecDepth 20000 in
theorem ggL_law_X10_held : GoodIn wsL_law wsX10_held := goodIn_r _ [568, 16, 569, 570, 219, 220, 221, 15, 222, 201, 185, 186, 2, 187, 571, 572, 573, 574, 38, 575, 576, 577, 37, 578, 84, 579, 580, 581, 582, 583, 584, 285, 286, 287, 53, 585, 586, 587, 588, 589, 590, 382, 153, 383, 234, 235, 236, 237, 384, 385, 386, 591, 592, 593, 594, 595, 596, 597, 598, 599, 232, 233, 238, 239, 240, 600, 601, 602, 814, 815, 816, 817, 818, 819, 820, 821, 822, 823, 824, 850, 851, 852, 853, 854, 855, 856, 857, 868, 869, 870, 871] (by decide +kernel) (by decide +kernel)
set_option maxRecDepth 20000 in
theorem gL_law_X10_held : GoodIn wsL_law (wsV RL 93 RX10 yX10_held wsX10_held) := goodIn_app (goodIn_of _ (by decide +kernel)) ggL_law_X10_held
set_option maxRecDepth 20000 in
theorem ggL_law_X11_held : GoodIn wsL_law wsX11_held := goodIn_r _ [606, 607, 608, 499, 609, 249, 250, 251, 5, 252, 206, 174, 175, 176, 610, 611, 612, 613, 99, 104, 105, 396, 397, 398, 262, 263, 264, 614, 615, 616, 617, 618, 619, 825, 826, 827, 828, 829, 830, 831, 832, 833, 834, 835, 836, 837, 838, 839, 840, 841, 842, 843, 844, 845, 846, 847, 848, 849] (by decide +kernel) (by decide +kernel)
set_option maxRecDepth 20000 in
theorem gL_law_X11_held : GoodIn wsL_law (wsV RL 97 RX11 yX11_held wsX11_held) := goodIn_app (goodIn_of _ (by decide +kernel)) ggL_law_X11_held
set_option maxRecDepth 20000 in
theorem ggL_law_X10_when : GoodIn wsL_law wsX10_when := goodIn_r _ [623, 16, 38, 219, 220, 221, 15, 222, 201, 185, 186, 2, 187, 575, 576, 577, 37, 578, 84, 579, 580, 581, 582, 583, 584, 285, 286, 287, 53, 624, 625, 626, 627, 595, 596, 597, 598, 599, 232, 153, 233, 234, 235, 236, 237, 238, 239, 240, 628, 586, 587, 588, 589, 590, 382, 383, 384, 385, 386, 814, 815, 816, 817, 818, 819, 820, 821, 822, 823, 824, 850, 851, 852, 853, 854, 855, 856, 857, 868, 869, 870, 871] (by decide +kernel) (by decide +kernel)
set_option maxRecDepth 20000 in
theorem gL_law_X10_when : GoodIn wsL_law (wsV RL 98 RX10 yX10_when wsX10_when) := goodIn_app (goodIn_of _ (by decide +kernel)) ggL_law_X10_when
set_option maxRecDepth 20000 in
theorem ggL_law_X11_when : GoodIn wsL_law wsX11_when := goodIn_r _ [632, 608, 499, 249, 250, 251, 5, 252, 206, 174, 175, 176, 610, 611, 612, 613, 99, 104, 105, 396, 397, 398, 262, 263, 264, 614, 615, 616, 825, 826, 827, 828, 829, 830, 831, 832, 833, 834, 835, 836, 837, 838, 839, 840, 841, 842, 843, 844, 845, 846, 847, 848, 849] (by decide +kernel) (by decide +kernel)
set_option maxRecDepth 20000 in
theorem gL_law_X11_when : GoodIn wsL_law (wsV RL 101 RX11 yX11_when wsX11_when) := goodIn_app (goodIn_of _ (by decide +kernel)) ggL_law_X11_when
set_option maxRecDepth 20000 in
theorem ggL_law_X10_went : GoodIn wsL_law wsX10_went := goodIn_r _ [636, 16, 269, 282, 42, 219, 220, 221, 15, 222, 201, 182, 183, 2, 184, 185, 186, 187, 284, 285, 286, 287, 53, 637, 638, 41, 639, 640, 232, 153, 233, 234, 235, 236, 237, 238, 239, 240, 641, 642, 382, 383, 384, 385, 386, 643, 644, 645, 646, 88, 647, 648, 242, 243, 244, 54, 649, 650, 651, 652, 653, 654, 655, 656, 814, 815, 816, 817, 818, 819, 820, 821, 822, 823, 824, 850, 851, 852, 853, 854, 855, 856, 857, 872] (by decide +kernel) (by decide +kernel)
set_option maxRecDepth 20000 in
theorem gL_law_X10_went : GoodIn wsL_law (wsV RL 102 RX10 yX10_went wsX10_went) := goodIn_app (goodIn_of _ (by decide +kernel)) ggL_law_X10_went
set_option maxRecDepth 20000 in
theorem ggL_law_X11_went : GoodIn wsL_law wsX11_went := goodIn_r _ [660, 661, 277, 99, 249, 250, 251, 5, 252, 206, 174, 175, 176, 207, 208, 209, 210, 662, 663, 664, 665, 262, 263, 264, 396, 397, 398, 666, 667, 668, 669, 825, 826, 827, 828, 829, 830, 831, 832, 833, 834, 835, 836, 837, 838, 839, 840, 841, 842, 843, 844, 845, 846, 847, 848, 849] (by decide +kernel) (by decide +kernel)
set_option maxRecDepth 20000 in
theorem gL_law_X11_went : GoodIn wsL_law (wsV RL 106 RX11 yX11_went wsX11_went) := goodIn_app (goodIn_of _ (by decide +kernel)) ggL_law_X11_went
