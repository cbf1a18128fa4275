theorem lwi_of {big ws : List Cond} (ps : List Nat) (hp : ws = ps.filterMap (fun i => big[i]?)) : ∀ w ∈ ws, w ∈ big := by
  intro w hw
  rw [hp] at hw
  obtain ⟨i, -, hi⟩ := List.mem_filterMap.mp hw
  exact List.mem_of_getElem? hi
set_option maxRecDepth 20000 in
theorem lwi_wsL_law_r1 : ∀ w ∈ wsL_law_r1, w ∈ lw_tbl := lwi_of [22, 23, 8, 46, 574, 575, 576, 24, 25, 26, 27, 28, 29, 30, 31, 9, 184, 185, 186, 86, 87, 11, 187, 100] (by decide +kernel)
set_option maxRecDepth 20000 in
theorem lwi_wsL_law_r2 : ∀ w ∈ wsL_law_r2, w ∈ lw_tbl := lwi_of [101, 12, 188, 116, 117, 13, 189, 131, 132, 14, 190, 144, 145, 15, 191, 164, 165, 16, 192, 174, 175, 17, 193, 33] (by decide +kernel)
set_option maxRecDepth 20000 in
theorem lwi_wsL_law_r3 : ∀ w ∈ wsL_law_r3, w ∈ lw_tbl := lwi_of [34, 35, 47, 50, 54, 58, 36, 37, 10, 59, 39, 40, 41, 42, 89, 90, 91, 92, 103, 104, 105, 119, 120, 121] (by decide +kernel)
set_option maxRecDepth 20000 in
theorem lwi_wsL_law_r4 : ∀ w ∈ wsL_law_r4, w ∈ lw_tbl := lwi_of [122, 123, 134, 135, 136, 137, 138, 147, 148, 149, 163, 150, 167, 168, 169, 170, 177, 178, 179, 484, 485, 7, 486, 487] (by decide +kernel)
set_option maxRecDepth 20000 in
theorem lwi_wsL_law_r5 : ∀ w ∈ wsL_law_r5, w ∈ lw_tbl := lwi_of [491, 492, 493, 494, 495, 496, 488, 489, 490, 497, 498, 499, 500, 501, 502, 503, 93, 504, 505, 506, 507, 508, 509, 510] (by decide +kernel)
set_option maxRecDepth 20000 in
theorem lwi_wsL_law_r6 : ∀ w ∈ wsL_law_r6, w ∈ lw_tbl := lwi_of [511, 512, 513, 94, 514, 515, 516, 517, 518, 232, 233, 234, 235, 236, 237, 238, 239, 18, 240, 217, 218, 219, 220, 64] (by decide +kernel)
set_option maxRecDepth 20000 in
theorem lwi_wsL_law_r7 : ∀ w ∈ wsL_law_r7, w ∈ lw_tbl := lwi_of [221, 222, 223, 224, 225, 226, 227, 228, 229, 230, 231, 241, 242, 243, 244, 245, 246, 247, 248, 62, 519, 520, 521, 522] (by decide +kernel)
set_option maxRecDepth 20000 in
theorem lwi_wsL_law_r8 : ∀ w ∈ wsL_law_r8, w ∈ lw_tbl := lwi_of [523, 524, 525, 541, 542, 543, 249, 250, 251, 252, 253, 254, 255, 256, 257, 258, 259, 260, 261, 262, 263, 264, 265, 266] (by decide +kernel)
set_option maxRecDepth 20000 in
theorem lwi_wsL_law_r9 : ∀ w ∈ wsL_law_r9, w ∈ lw_tbl := lwi_of [267, 271, 272, 19, 273, 268, 269, 270, 274, 275, 276, 277, 529, 530, 531, 328, 329, 330, 331, 60, 323, 324, 325, 326] (by decide +kernel)
set_option maxRecDepth 20000 in
theorem lwi_wsL_law_r10 : ∀ w ∈ wsL_law_r10, w ∈ lw_tbl := lwi_of [311, 312, 313, 544, 545, 546, 547, 66, 68, 476, 477, 478, 479, 548, 549, 550, 551, 348, 290, 291, 292, 552, 553, 554] (by decide +kernel)
set_option maxRecDepth 20000 in
theorem lwi_wsL_law_r11 : ∀ w ∈ wsL_law_r11, w ∈ lw_tbl := lwi_of [555, 526, 527, 528, 294, 295, 296, 297, 57, 289, 298, 299, 300, 301, 65, 302, 304, 0, 305, 306, 307, 308, 309, 314] (by decide +kernel)
set_option maxRecDepth 20000 in
theorem lwi_wsL_law_r12 : ∀ w ∈ wsL_law_r12, w ∈ lw_tbl := lwi_of [310, 315, 316, 317, 318, 285, 286, 287, 288, 53, 293, 336, 337, 338, 339, 332, 333, 334, 335, 340, 341, 342, 343, 344] (by decide +kernel)
