theorem lwi_of {big ws : List Cond} (ps : List Nat) (hp : ws = ps.filterMap (fun i => big[i]?)) : ∀ w ∈ ws, w ∈ big := by
  intro w hw
  rw [hp] at hw
  obtain ⟨i, -, hi⟩ := List.mem_filterMap.mp hw
  exact List.mem_of_getElem? hi
set_option maxRecDepth 20000 in
theorem lwi_wsL_law_r1 : ∀ w ∈ wsL_law_r1, w ∈ lw_tbl := lwi_of [55, 56, 40, 666, 667, 50, 998, 57, 58, 59, 60, 61, 62, 63, 64, 41, 220, 221, 222, 120, 121, 43, 224, 135] (by decide +kernel)
set_option maxRecDepth 20000 in
theorem lwi_wsL_law_r2 : ∀ w ∈ wsL_law_r2, w ∈ lw_tbl := lwi_of [136, 44, 225, 151, 152, 45, 226, 167, 168, 46, 227, 180, 181, 47, 228, 200, 201, 48, 229, 210, 211, 49, 230, 66] (by decide +kernel)
set_option maxRecDepth 20000 in
theorem lwi_wsL_law_r3 : ∀ w ∈ wsL_law_r3, w ∈ lw_tbl := lwi_of [67, 68, 79, 80, 83, 87, 92, 69, 70, 42, 93, 72, 73, 74, 75, 123, 124, 125, 126, 138, 139, 140, 154, 155] (by decide +kernel)
set_option maxRecDepth 20000 in
theorem lwi_wsL_law_r4 : ∀ w ∈ wsL_law_r4, w ∈ lw_tbl := lwi_of [156, 157, 158, 170, 171, 172, 173, 174, 183, 184, 185, 199, 186, 203, 204, 205, 206, 213, 214, 215, 668, 669, 670, 671] (by decide +kernel)
set_option maxRecDepth 20000 in
theorem lwi_wsL_law_r5 : ∀ w ∈ wsL_law_r5, w ∈ lw_tbl := lwi_of [672, 674, 675, 681, 682, 684, 685, 686, 687, 688, 690, 694, 695, 691, 254, 255, 256, 257, 128, 258, 259, 260, 261, 262] (by decide +kernel)
set_option maxRecDepth 20000 in
theorem lwi_wsL_law_r6 : ∀ w ∈ wsL_law_r6, w ∈ lw_tbl := lwi_of [263, 264, 265, 266, 267, 129, 748, 749, 750, 751, 752, 673, 268, 269, 270, 271, 753, 754, 755, 756, 272, 273, 274, 275] (by decide +kernel)
set_option maxRecDepth 20000 in
theorem lwi_wsL_law_r7 : ∀ w ∈ wsL_law_r7, w ∈ lw_tbl := lwi_of [276, 277, 278, 279, 280, 281, 282, 283, 284, 51, 285, 757, 758, 759, 760, 761, 763, 16, 764, 676, 677, 765, 767, 17] (by decide +kernel)
set_option maxRecDepth 20000 in
theorem lwi_wsL_law_r8 : ∀ w ∈ wsL_law_r8, w ∈ lw_tbl := lwi_of [768, 772, 773, 769, 770, 771, 774, 775, 776, 286, 287, 288, 289, 98, 290, 291, 292, 293, 294, 295, 296, 297, 298, 299] (by decide +kernel)
set_option maxRecDepth 20000 in
theorem lwi_wsL_law_r9 : ∀ w ∈ wsL_law_r9, w ∈ lw_tbl := lwi_of [300, 301, 302, 303, 304, 305, 306, 307, 308, 96, 777, 778, 779, 780, 678, 781, 782, 783, 784, 785, 787, 18, 788, 309] (by decide +kernel)
set_option maxRecDepth 20000 in
theorem lwi_wsL_law_r10 : ∀ w ∈ wsL_law_r10, w ∈ lw_tbl := lwi_of [310, 311, 312, 313, 314, 315, 316, 317, 318, 319, 320, 321, 322, 323, 324, 325, 326, 327, 331, 332, 52, 333, 328, 329] (by decide +kernel)
set_option maxRecDepth 20000 in
theorem lwi_wsL_law_r11 : ∀ w ∈ wsL_law_r11, w ∈ lw_tbl := lwi_of [330, 334, 335, 336, 337, 789, 790, 791, 792, 793, 795, 19, 796, 797, 799, 20, 800, 808, 801, 803, 21, 804, 805, 806] (by decide +kernel)
set_option maxRecDepth 20000 in
theorem lwi_wsL_law_r12 : ∀ w ∈ wsL_law_r12, w ∈ lw_tbl := lwi_of [807, 338, 339, 340, 341, 82, 342, 343, 344, 809, 810, 811, 812, 813, 345, 346, 347, 348, 86, 91, 349, 350, 351, 352] (by decide +kernel)
