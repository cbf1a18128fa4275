set_option maxRecDepth 20000 in
theorem lwi_wsL_law_r26 : ∀ w ∈ wsL_law_r26, w ∈ lw_tbl := lwi_of [547, 548, 549, 910, 911, 912, 913, 914, 915, 916, 917, 919, 31, 920, 921, 922, 923, 924, 925, 926, 550, 551, 552, 553] (by decide +kernel)
set_option maxRecDepth 20000 in
theorem lwi_wsL_law_r27 : ∀ w ∈ wsL_law_r27, w ∈ lw_tbl := lwi_of [554, 555, 556, 557, 558, 927, 928, 929, 930, 559, 560, 561, 562, 563, 564, 565, 566, 567, 568, 569, 570, 571, 572, 89] (by decide +kernel)
set_option maxRecDepth 20000 in
theorem lwi_wsL_law_r28 : ∀ w ∈ wsL_law_r28, w ∈ lw_tbl := lwi_of [573, 574, 576, 10, 577, 578, 580, 11, 581, 931, 932, 933, 934, 935, 936, 938, 32, 939, 940, 942, 33, 943, 583, 584] (by decide +kernel)
set_option maxRecDepth 20000 in
theorem lwi_wsL_law_r29 : ∀ w ∈ wsL_law_r29, w ∈ lw_tbl := lwi_of [585, 586, 587, 588, 589, 590, 591, 592, 593, 594, 595, 596, 597, 598, 599, 600, 216, 601, 602, 603, 604, 97, 90, 605] (by decide +kernel)
set_option maxRecDepth 20000 in
theorem lwi_wsL_law_r30 : ∀ w ∈ wsL_law_r30, w ∈ lw_tbl := lwi_of [607, 12, 608, 609, 610, 611, 612, 613, 614, 615, 616, 617, 618, 619, 620, 621, 622, 623, 944, 945, 946, 947, 948, 949] (by decide +kernel)
set_option maxRecDepth 20000 in
theorem lwi_wsL_law_r31 : ∀ w ∈ wsL_law_r31, w ∈ lw_tbl := lwi_of [687, 950, 951, 952, 953, 955, 34, 956, 957, 958, 959, 960, 961, 963, 35, 964, 624, 625, 626, 627, 223, 965, 966, 967] (by decide +kernel)
set_option maxRecDepth 20000 in
theorem lwi_wsL_law_r32 : ∀ w ∈ wsL_law_r32, w ∈ lw_tbl := lwi_of [968, 690, 691, 628, 629, 630, 631, 969, 970, 971, 972, 632, 633, 634, 635, 100, 102, 636, 637, 638, 639, 640, 641, 642] (by decide +kernel)
set_option maxRecDepth 20000 in
theorem lwi_wsL_law_r33 : ∀ w ∈ wsL_law_r33, w ∈ lw_tbl := lwi_of [643, 973, 974, 975, 976, 977, 979, 36, 980, 644, 645, 646, 647, 648, 653, 127, 649, 651, 13, 652, 654, 656, 14, 657] (by decide +kernel)
set_option maxRecDepth 20000 in
theorem lwi_wsL_law_r34 : ∀ w ∈ wsL_law_r34, w ∈ lw_tbl := lwi_of [658, 659, 661, 15, 662, 663, 981, 982, 983, 984, 985, 694, 986, 988, 37, 989, 995, 990, 992, 38, 993, 994] (by decide +kernel)
set_option maxRecDepth 20000 in
theorem lwi_wsX100 : ∀ w ∈ wsX100, w ∈ lw_tbl := lwi_of [231, 233, 235, 237, 239, 241, 243, 245, 247, 249, 251] (by decide +kernel)
set_option maxRecDepth 20000 in
theorem lwi_wsX110 : ∀ w ∈ wsX110, w ∈ lw_tbl := lwi_of [695, 697, 699, 701, 703, 705, 707, 709, 711, 713, 715, 717, 719, 721, 723, 725, 727, 729, 731, 733, 735, 737, 739, 741, 743] (by decide +kernel)
set_option maxRecDepth 20000 in
theorem lwi_wsX40 : ∀ w ∈ wsX40, w ∈ lw_tbl := lwi_of [103, 105, 107, 109, 111, 113, 115, 117] (by decide +kernel)
set_option maxRecDepth 20000 in
theorem lwi_wsX60 : ∀ w ∈ wsX60, w ∈ lw_tbl := lwi_of [130, 132] (by decide +kernel)
