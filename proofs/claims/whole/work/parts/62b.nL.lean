set_option maxRecDepth 20000 in
theorem lwi_wsL_law_r13 : ∀ w ∈ wsL_law_r13, w ∈ lw_tbl := lwi_of [353, 814, 815, 816, 817, 818, 354, 355, 356, 357, 94, 358, 359, 360, 361, 99, 362, 364, 0, 365, 366, 367, 368, 369] (by decide +kernel)
set_option maxRecDepth 20000 in
theorem lwi_wsL_law_r14 : ∀ w ∈ wsL_law_r14, w ∈ lw_tbl := lwi_of [374, 370, 371, 372, 373, 375, 376, 377, 378, 819, 820, 821, 822, 679, 823, 825, 22, 826, 379, 380, 381, 382, 383, 384] (by decide +kernel)
set_option maxRecDepth 20000 in
theorem lwi_wsL_law_r15 : ∀ w ∈ wsL_law_r15, w ∈ lw_tbl := lwi_of [385, 386, 387, 827, 828, 829, 830, 834, 831, 832, 833, 388, 389, 390, 391, 835, 836, 837, 838, 392, 393, 394, 395, 839] (by decide +kernel)
set_option maxRecDepth 20000 in
theorem lwi_wsL_law_r16 : ∀ w ∈ wsL_law_r16, w ∈ lw_tbl := lwi_of [840, 841, 842, 396, 397, 398, 399, 843, 844, 845, 846, 400, 401, 402, 403, 404, 405, 406, 407, 101, 408, 409, 410, 411] (by decide +kernel)
set_option maxRecDepth 20000 in
theorem lwi_wsL_law_r17 : ∀ w ∈ wsL_law_r17, w ∈ lw_tbl := lwi_of [412, 413, 414, 847, 848, 849, 850, 680, 851, 853, 23, 854, 855, 856, 857, 415, 416, 417, 418, 419, 420, 421, 422, 858] (by decide +kernel)
set_option maxRecDepth 20000 in
theorem lwi_wsL_law_r18 : ∀ w ∈ wsL_law_r18, w ∈ lw_tbl := lwi_of [859, 860, 861, 423, 424, 425, 426, 427, 428, 429, 430, 141, 142, 143, 95, 88, 431, 432, 434, 1, 435, 85, 436, 438] (by decide +kernel)
set_option maxRecDepth 20000 in
theorem lwi_wsL_law_r19 : ∀ w ∈ wsL_law_r19, w ∈ lw_tbl := lwi_of [2, 439, 440, 442, 3, 443, 444, 445, 53, 446, 447, 448, 449, 450, 451, 452, 453, 454, 455, 456, 457, 458, 862, 863] (by decide +kernel)
set_option maxRecDepth 20000 in
theorem lwi_wsL_law_r20 : ∀ w ∈ wsL_law_r20, w ∈ lw_tbl := lwi_of [864, 865, 866, 868, 24, 869, 870, 871, 872, 459, 460, 461, 462, 463, 464, 465, 466, 159, 467, 469, 4, 470, 472, 474] (by decide +kernel)
set_option maxRecDepth 20000 in
theorem lwi_wsL_law_r21 : ∀ w ∈ wsL_law_r21, w ∈ lw_tbl := lwi_of [473, 54, 471, 475, 476, 477, 478, 479, 481, 5, 482, 483, 485, 6, 486, 873, 874, 875, 876, 877, 878, 879, 881, 25] (by decide +kernel)
set_option maxRecDepth 20000 in
theorem lwi_wsL_law_r22 : ∀ w ∈ wsL_law_r22, w ∈ lw_tbl := lwi_of [882, 683, 883, 885, 26, 886, 887, 888, 890, 27, 891, 892, 894, 28, 895, 487, 488, 489, 490, 491, 492, 493, 494, 495] (by decide +kernel)
set_option maxRecDepth 20000 in
theorem lwi_wsL_law_r23 : ∀ w ∈ wsL_law_r23, w ∈ lw_tbl := lwi_of [496, 497, 498, 499, 896, 897, 898, 899, 500, 501, 502, 503, 504, 505, 506, 507, 508, 509, 510, 511, 512, 514, 7, 515] (by decide +kernel)
set_option maxRecDepth 20000 in
theorem lwi_wsL_law_r24 : ∀ w ∈ wsL_law_r24, w ∈ lw_tbl := lwi_of [516, 900, 901, 902, 903, 904, 906, 29, 907, 908, 910, 30, 911, 517, 518, 519, 520, 521, 522, 523, 525, 8, 526, 527] (by decide +kernel)
set_option maxRecDepth 20000 in
theorem lwi_wsL_law_r25 : ∀ w ∈ wsL_law_r25, w ∈ lw_tbl := lwi_of [528, 529, 530, 84, 187, 81, 188, 189, 531, 532, 533, 534, 535, 536, 537, 538, 539, 540, 541, 542, 544, 9, 545, 546] (by decide +kernel)
