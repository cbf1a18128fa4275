set_option maxRecDepth 20000 in
theorem ggL_months_L_after : GoodIn wsL_months wsL_after := goodIn_r _ [8, 9, 10, 11] (by decide +kernel) (by decide +kernel)
set_option maxRecDepth 20000 in
theorem gL_months_L_after : GoodIn wsL_months (va_wsS RL 135 yL_after wsL_after) := goodIn_app (goodIn_of _ (by decide +kernel)) ggL_months_L_after
set_option maxRecDepth 20000 in
theorem ggL_months_L_month : GoodIn wsL_months wsL_month := goodIn_r _ [14, 15, 16, 7, 17] (by decide +kernel) (by decide +kernel)
set_option maxRecDepth 20000 in
theorem gL_months_L_month : GoodIn wsL_months (va_wsS RL 90 yL_month wsL_month) := goodIn_app (goodIn_of _ (by decide +kernel)) ggL_months_L_month
set_option maxRecDepth 20000 in
theorem ggL_months_L_goes : GoodIn wsL_months wsL_goes := goodIn_r _ [20, 21, 22, 7, 23] (by decide +kernel) (by decide +kernel)
set_option maxRecDepth 20000 in
theorem gL_months_L_goes : GoodIn wsL_months (va_wsS RL 70 yL_goes wsL_goes) := goodIn_app (goodIn_of _ (by decide +kernel)) ggL_months_L_goes
set_option maxRecDepth 20000 in
theorem ggL_months_X10_months : GoodIn wsL_months wsX10_months := goodIn_r _ [28, 29, 30, 31, 32, 33, 27, 34, 35, 36, 37, 38, 39, 40, 41, 42, 43, 44, 45, 46, 47, 48, 49, 50, 51, 52, 53, 54, 55, 56, 57, 58, 59, 60, 61, 62, 63, 64, 65, 66, 67, 68, 69, 70, 71, 72, 73, 74, 75, 76, 77, 78, 79, 80, 81, 82, 83, 84, 85, 86, 87, 88, 89, 90, 91, 92, 93, 94, 95, 96, 97, 98, 99, 100, 101, 102, 103, 104, 105, 106, 107, 108, 109, 110, 111, 112, 113, 114, 115, 116, 117, 118, 119, 120, 121, 122, 123, 124, 125, 126, 127, 128, 129, 130, 131, 132, 133, 134, 135, 136, 137, 138, 139, 140, 141, 142, 143, 144, 145, 146, 147, 148] (by decide +kernel) (by decide +kernel)
set_option maxRecDepth 20000 in
theorem gL_months_X10_months : GoodIn wsL_months (wsV RL 130 RX10 yX10_months wsX10_months) := goodIn_app (goodIn_of _ (by decide +kernel)) ggL_months_X10_months
theorem dL_months_0 : decode cL_months 0 = .ok (.bipush 33, 2) := by decide +kernel
theorem dL_months_2 : decode cL_months 2 = .ok (.newarray .int, 2) := by decide +kernel
theorem dL_months_4 : decode cL_months 4 = .ok (.astore 5, 2) := by decide +kernel
theorem dL_months_6 : decode cL_months 6 = .ok (.iconst 0, 1) := by decide +kernel
theorem dL_months_7 : decode cL_months 7 = .ok (.istore 6, 2) := by decide +kernel
theorem dL_months_9 : decode cL_months 9 = .ok (.iload 6, 2) := by decide +kernel
theorem dL_months_11 : decode cL_months 11 = .ok (.bipush 33, 2) := by decide +kernel
theorem dL_months_13 : decode cL_months 13 = .ok (.if_icmp .ge 18, 3) := by decide +kernel
theorem dL_months_16 : decode cL_months 16 = .ok (.aload 5, 2) := by decide +kernel
theorem dL_months_18 : decode cL_months 18 = .ok (.iload 6, 2) := by decide +kernel
theorem dL_months_20 : decode cL_months 20 = .ok (.aload_n 1, 1) := by decide +kernel
theorem dL_months_21 : decode cL_months 21 = .ok (.iload 6, 2) := by decide +kernel
theorem dL_months_23 : decode cL_months 23 = .ok (.iaload, 1) := by decide +kernel
theorem dL_months_24 : decode cL_months 24 = .ok (.iastore, 1) := by decide +kernel
theorem dL_months_25 : decode cL_months 25 = .ok (.iinc 6 1, 3) := by decide +kernel
theorem dL_months_28 : decode cL_months 28 = .ok (.goto (-19), 3) := by decide +kernel
theorem dL_months_31 : decode cL_months 31 = .ok (.bipush 40, 2) := by decide +kernel
theorem dL_months_33 : decode cL_months 33 = .ok (.newarray .int, 2) := by decide +kernel
theorem dL_months_35 : decode cL_months 35 = .ok (.astore 6, 2) := by decide +kernel
theorem dL_months_37 : decode cL_months 37 = .ok (.iload 4, 2) := by decide +kernel
theorem dL_months_39 : decode cL_months 39 = .ok (.i2l, 1) := by decide +kernel
theorem dL_months_40 : decode cL_months 40 = .ok (.lstore 7, 2) := by decide +kernel
theorem dL_months_42 : decode cL_months 42 = .ok (.iconst 0, 1) := by decide +kernel
theorem dL_months_43 : decode cL_months 43 = .ok (.istore 9, 2) := by decide +kernel
theorem dL_months_45 : decode cL_months 45 = .ok (.iconst 0, 1) := by decide +kernel
theorem dL_months_46 : decode cL_months 46 = .ok (.istore 10, 2) := by decide +kernel
theorem dL_months_48 : decode cL_months 48 = .ok (.iload 10, 2) := by decide +kernel
theorem dL_months_50 : decode cL_months 50 = .ok (.iload_n 2, 1) := by decide +kernel
