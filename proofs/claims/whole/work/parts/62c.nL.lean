set_option maxRecDepth 20000 in
theorem lwi_wsL_law_r26 : ∀ w ∈ wsL_law_r26, w ∈ lw_tbl := lwi_of [547, 548, 549, 912, 913, 914, 915, 916, 917, 918, 919, 921, 31, 922, 923, 924, 925, 926, 927, 928, 550, 551, 552, 553] (by decide +kernel)
set_option maxRecDepth 20000 in
theorem lwi_wsL_law_r27 : ∀ w ∈ wsL_law_r27, w ∈ lw_tbl := lwi_of [554, 555, 556, 557, 558, 929, 930, 931, 932, 559, 560, 561, 562, 563, 564, 565, 566, 567, 568, 569, 570, 571, 572, 573] (by decide +kernel)
set_option maxRecDepth 20000 in
theorem lwi_wsL_law_r28 : ∀ w ∈ wsL_law_r28, w ∈ lw_tbl := lwi_of [574, 90, 575, 576, 578, 10, 579, 580, 582, 11, 583, 933, 934, 935, 936, 937, 938, 940, 32, 941, 942, 944, 33, 945] (by decide +kernel)
set_option maxRecDepth 20000 in
theorem lwi_wsL_law_r29 : ∀ w ∈ wsL_law_r29, w ∈ lw_tbl := lwi_of [585, 586, 587, 588, 589, 590, 591, 592, 593, 594, 595, 596, 597, 598, 599, 600, 601, 602, 216, 603, 604, 605, 606, 97] (by decide +kernel)
set_option maxRecDepth 20000 in
theorem lwi_wsL_law_r30 : ∀ w ∈ wsL_law_r30, w ∈ lw_tbl := lwi_of [89, 607, 609, 12, 610, 611, 612, 613, 614, 615, 616, 617, 618, 619, 620, 621, 622, 623, 624, 625, 946, 947, 948, 949] (by decide +kernel)
set_option maxRecDepth 20000 in
theorem lwi_wsL_law_r31 : ∀ w ∈ wsL_law_r31, w ∈ lw_tbl := lwi_of [950, 951, 689, 952, 953, 954, 955, 957, 34, 958, 959, 960, 961, 962, 963, 965, 35, 966, 626, 627, 628, 629, 223, 967] (by decide +kernel)
set_option maxRecDepth 20000 in
theorem lwi_wsL_law_r32 : ∀ w ∈ wsL_law_r32, w ∈ lw_tbl := lwi_of [968, 969, 970, 692, 693, 630, 631, 632, 633, 971, 972, 973, 974, 634, 635, 636, 637, 100, 102, 638, 639, 640, 641, 642] (by decide +kernel)
set_option maxRecDepth 20000 in
theorem lwi_wsL_law_r33 : ∀ w ∈ wsL_law_r33, w ∈ lw_tbl := lwi_of [643, 644, 645, 975, 976, 977, 978, 979, 981, 36, 982, 646, 647, 648, 649, 650, 655, 127, 651, 653, 13, 654, 656, 658] (by decide +kernel)
set_option maxRecDepth 20000 in
theorem lwi_wsL_law_r34 : ∀ w ∈ wsL_law_r34, w ∈ lw_tbl := lwi_of [14, 659, 660, 661, 663, 15, 664, 665, 983, 984, 985, 986, 987, 696, 988, 990, 37, 991, 997, 992, 994, 38, 995, 996] (by decide +kernel)
set_option maxRecDepth 20000 in
theorem lwi_wsX100 : ∀ w ∈ wsX100, w ∈ lw_tbl := lwi_of [231, 233, 235, 237, 239, 241, 243, 245, 247, 249, 251] (by decide +kernel)
set_option maxRecDepth 20000 in
theorem lwi_wsX110 : ∀ w ∈ wsX110, w ∈ lw_tbl := lwi_of [697, 699, 701, 703, 705, 707, 709, 711, 713, 715, 717, 719, 721, 723, 725, 727, 729, 731, 733, 735, 737, 739, 741, 743, 745] (by decide +kernel)
set_option maxRecDepth 20000 in
theorem lwi_wsX40 : ∀ w ∈ wsX40, w ∈ lw_tbl := lwi_of [103, 105, 107, 109, 111, 113, 115, 117] (by decide +kernel)
set_option maxRecDepth 20000 in
theorem lwi_wsX60 : ∀ w ∈ wsX60, w ∈ lw_tbl := lwi_of [130, 132] (by decide +kernel)
