set_option maxRecDepth 20000 in
theorem ggL_held_L_hand : GoodIn wsL_held wsL_hand := goodIn_r _ [5] (by decide +kernel) (by decide +kernel)
set_option maxRecDepth 20000 in
theorem gL_held_L_hand : GoodIn wsL_held (va_wsS RL 43 yL_hand wsL_hand) := goodIn_app (goodIn_of _ (by decide +kernel)) ggL_held_L_hand
set_option maxRecDepth 20000 in
theorem ggL_held_L_damp : GoodIn wsL_held wsL_damp := goodIn_r _ [8] (by decide +kernel) (by decide +kernel)
set_option maxRecDepth 20000 in
theorem gL_held_L_damp : GoodIn wsL_held (va_wsS RL 46 yL_damp wsL_damp) := goodIn_app (goodIn_of _ (by decide +kernel)) ggL_held_L_damp
set_option maxRecDepth 20000 in
theorem ggL_held_X10_held : GoodIn wsL_held wsX10_held := goodIn_r _ [13, 14, 15, 16, 17, 18, 19, 20, 21, 22, 23, 24, 12, 25, 26, 27, 28, 29, 30, 31, 32, 33, 34, 35, 36, 37, 38, 39, 40, 41, 42, 43, 44, 45, 46, 47, 48, 49, 50, 51, 52, 53, 54, 55, 56, 57, 58, 59, 60, 61, 62, 63, 64, 65, 66, 67, 68, 69, 70, 71, 72, 73, 74, 75, 76, 77, 78, 79, 89, 90, 91, 92, 93, 94, 95, 96, 97, 98, 99, 100, 101, 102, 103, 104, 105, 106, 107, 108, 109, 110, 111] (by decide +kernel) (by decide +kernel)
set_option maxRecDepth 20000 in
theorem gL_held_X10_held : GoodIn wsL_held (wsV RL 120 RX10 yX10_held wsX10_held) := goodIn_app (goodIn_of _ (by decide +kernel)) ggL_held_X10_held
set_option maxRecDepth 20000 in
theorem ggL_held_X10_when : GoodIn wsL_held wsX10_when := goodIn_r _ [83, 14, 30, 17, 18, 19, 20, 21, 22, 23, 24, 12, 25, 31, 32, 33, 34, 35, 36, 37, 38, 39, 40, 41, 42, 43, 44, 45, 46, 84, 85, 86, 87, 67, 68, 69, 70, 71, 72, 54, 73, 56, 57, 58, 59, 74, 75, 76, 88, 48, 49, 50, 51, 52, 53, 55, 60, 61, 62, 89, 90, 91, 92, 93, 94, 95, 96, 97, 98, 99, 100, 101, 102, 103, 104, 105, 106, 107, 108, 109, 110, 111] (by decide +kernel) (by decide +kernel)
set_option maxRecDepth 20000 in
theorem gL_held_X10_when : GoodIn wsL_held (wsV RL 127 RX10 yX10_when wsX10_when) := goodIn_app (goodIn_of _ (by decide +kernel)) ggL_held_X10_when
theorem dL_held_0 : decode cL_held 0 = .ok (.lconst 1, 1) := by decide +kernel
theorem dL_held_1 : decode cL_held 1 = .ok (.lstore 5, 2) := by decide +kernel
theorem dL_held_3 : decode cL_held 3 = .ok (.aload_n 1, 1) := by decide +kernel
theorem dL_held_4 : decode cL_held 4 = .ok (.iconst 1, 1) := by decide +kernel
theorem dL_held_5 : decode cL_held 5 = .ok (.iload_n 2, 1) := by decide +kernel
theorem dL_held_6 : decode cL_held 6 = .ok (.iadd, 1) := by decide +kernel
theorem dL_held_7 : decode cL_held 7 = .ok (.iaload, 1) := by decide +kernel
theorem dL_held_8 : decode cL_held 8 = .ok (.aload_n 1, 1) := by decide +kernel
theorem dL_held_9 : decode cL_held 9 = .ok (.bipush 11, 2) := by decide +kernel
theorem dL_held_11 : decode cL_held 11 = .ok (.iload_n 2, 1) := by decide +kernel
theorem dL_held_12 : decode cL_held 12 = .ok (.iadd, 1) := by decide +kernel
theorem dL_held_13 : decode cL_held 13 = .ok (.iaload, 1) := by decide +kernel
theorem dL_held_14 : decode cL_held 14 = .ok (.invokestatic 43, 3) := by decide +kernel
theorem dL_held_17 : decode cL_held 17 = .ok (.i2l, 1) := by decide +kernel
theorem dL_held_18 : decode cL_held 18 = .ok (.lstore 7, 2) := by decide +kernel
theorem dL_held_20 : decode cL_held 20 = .ok (.iconst 0, 1) := by decide +kernel
theorem dL_held_21 : decode cL_held 21 = .ok (.istore 9, 2) := by decide +kernel
theorem dL_held_23 : decode cL_held 23 = .ok (.lconst 0, 1) := by decide +kernel
theorem dL_held_24 : decode cL_held 24 = .ok (.lstore 10, 2) := by decide +kernel
theorem dL_held_26 : decode cL_held 26 = .ok (.iconst 0, 1) := by decide +kernel
theorem dL_held_27 : decode cL_held 27 = .ok (.istore 12, 2) := by decide +kernel
theorem dL_held_29 : decode cL_held 29 = .ok (.iload 12, 2) := by decide +kernel
theorem dL_held_31 : decode cL_held 31 = .ok (.iload_n 3, 1) := by decide +kernel
theorem dL_held_32 : decode cL_held 32 = .ok (.if_icmp .gt 176, 3) := by decide +kernel
theorem dL_held_35 : decode cL_held 35 = .ok (.lconst 0, 1) := by decide +kernel
theorem dL_held_36 : decode cL_held 36 = .ok (.lstore 10, 2) := by decide +kernel
theorem dL_held_38 : decode cL_held 38 = .ok (.iconst 0, 1) := by decide +kernel
theorem dL_held_39 : decode cL_held 39 = .ok (.istore 13, 2) := by decide +kernel
