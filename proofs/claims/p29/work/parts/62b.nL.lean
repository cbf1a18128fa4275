set_option maxRecDepth 20000 in
theorem lwi_wsL_law_r13 : ∀ w ∈ wsL_law_r13, w ∈ lw_tbl := lwi_of [345, 346, 347, 67, 349, 350, 351, 352, 353, 354, 532, 533, 534, 535, 536, 537, 355, 356, 357, 358, 359, 360, 361, 362] (by decide +kernel)
set_option maxRecDepth 20000 in
theorem lwi_wsL_law_r14 : ∀ w ∈ wsL_law_r14, w ∈ lw_tbl := lwi_of [538, 539, 540, 319, 320, 321, 322, 327, 556, 557, 558, 363, 364, 365, 366, 367, 368, 369, 370, 106, 107, 108, 61, 55] (by decide +kernel)
set_option maxRecDepth 20000 in
theorem lwi_wsL_law_r15 : ∀ w ∈ wsL_law_r15, w ∈ lw_tbl := lwi_of [371, 372, 374, 1, 375, 52, 376, 378, 2, 379, 380, 382, 3, 383, 384, 385, 20, 386, 387, 388, 389, 390, 391, 392] (by decide +kernel)
set_option maxRecDepth 20000 in
theorem lwi_wsL_law_r16 : ∀ w ∈ wsL_law_r16, w ∈ lw_tbl := lwi_of [393, 394, 395, 396, 397, 398, 559, 560, 561, 562, 399, 400, 401, 402, 403, 404, 405, 407, 4, 408, 409, 410, 411, 412] (by decide +kernel)
set_option maxRecDepth 20000 in
theorem lwi_wsL_law_r17 : ∀ w ∈ wsL_law_r17, w ∈ lw_tbl := lwi_of [51, 151, 48, 152, 153, 413, 414, 415, 416, 417, 418, 419, 420, 421, 422, 423, 424, 426, 5, 427, 428, 429, 430, 431] (by decide +kernel)
set_option maxRecDepth 20000 in
theorem lwi_wsL_law_r18 : ∀ w ∈ wsL_law_r18, w ∈ lw_tbl := lwi_of [432, 433, 434, 435, 436, 437, 438, 439, 440, 563, 564, 565, 572, 573, 566, 567, 568, 569, 570, 571, 441, 442, 443, 444] (by decide +kernel)
set_option maxRecDepth 20000 in
theorem lwi_wsL_law_r19 : ∀ w ∈ wsL_law_r19, w ∈ lw_tbl := lwi_of [445, 446, 447, 448, 449, 451, 450, 21, 452, 453, 454, 455, 456, 457, 458, 459, 460, 180, 461, 462, 463, 464, 63, 56] (by decide +kernel)
set_option maxRecDepth 20000 in
theorem lwi_wsL_law_r20 : ∀ w ∈ wsL_law_r20, w ∈ lw_tbl := lwi_of [465, 467, 6, 468, 469, 470, 471, 472, 473, 474, 475, 480, 481, 482, 483, 278, 279, 280, 281, 49, 282, 283, 284] (by decide +kernel)
set_option maxRecDepth 20000 in
theorem lwi_wsX100 : ∀ w ∈ wsX100, w ∈ lw_tbl := lwi_of [194, 196, 198, 200, 202, 204, 206, 208, 210, 212, 214] (by decide +kernel)
set_option maxRecDepth 20000 in
theorem lwi_wsX40 : ∀ w ∈ wsX40, w ∈ lw_tbl := lwi_of [69, 71, 73, 75, 77, 79, 81, 83] (by decide +kernel)
set_option maxRecDepth 20000 in
theorem lwi_wsX60 : ∀ w ∈ wsX60, w ∈ lw_tbl := lwi_of [95, 97] (by decide +kernel)
set_option maxRecDepth 20000 in
theorem lwi_wsX70 : ∀ w ∈ wsX70, w ∈ lw_tbl := lwi_of [109, 111, 113] (by decide +kernel)
set_option maxRecDepth 20000 in
theorem lwi_wsX80 : ∀ w ∈ wsX80, w ∈ lw_tbl := lwi_of [124, 126, 128] (by decide +kernel)
