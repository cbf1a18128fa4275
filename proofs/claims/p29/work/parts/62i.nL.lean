theorem dL_goes_76 : decode cL_goes 76 = .ok (.bipush 11, 2) := by decide +kernel
theorem dL_goes_78 : decode cL_goes 78 = .ok (.iload_n 2, 1) := by decide +kernel
theorem dL_goes_79 : decode cL_goes 79 = .ok (.iadd, 1) := by decide +kernel
theorem dL_goes_80 : decode cL_goes 80 = .ok (.iload 4, 2) := by decide +kernel
theorem dL_goes_82 : decode cL_goes 82 = .ok (.iastore, 1) := by decide +kernel
theorem dL_goes_83 : decode cL_goes 83 = .ok (.aload_n 0, 1) := by decide +kernel
theorem dL_goes_84 : decode cL_goes 84 = .ok (.bipush 21, 2) := by decide +kernel
theorem dL_goes_86 : decode cL_goes 86 = .ok (.iload_n 2, 1) := by decide +kernel
theorem dL_goes_87 : decode cL_goes 87 = .ok (.iadd, 1) := by decide +kernel
theorem dL_goes_88 : decode cL_goes 88 = .ok (.iload_n 3, 1) := by decide +kernel
theorem dL_goes_89 : decode cL_goes 89 = .ok (.iastore, 1) := by decide +kernel
theorem dL_goes_90 : decode cL_goes 90 = .ok (.return_, 1) := by decide +kernel
set_option maxRecDepth 20000 in
theorem ggL_month_L_damp : GoodIn wsL_month wsL_damp := goodIn_r _ [4] (by decide +kernel) (by decide +kernel)
set_option maxRecDepth 20000 in
theorem gL_month_L_damp : GoodIn wsL_month (va_wsS RL 46 yL_damp wsL_damp) := goodIn_app (goodIn_of _ (by decide +kernel)) ggL_month_L_damp
theorem dL_month_0 : decode cL_month 0 = .ok (.iconst 0, 1) := by decide +kernel
theorem dL_month_1 : decode cL_month 1 = .ok (.istore_n 1, 1) := by decide +kernel
theorem dL_month_2 : decode cL_month 2 = .ok (.iconst 0, 1) := by decide +kernel
theorem dL_month_3 : decode cL_month 3 = .ok (.istore_n 2, 1) := by decide +kernel
theorem dL_month_4 : decode cL_month 4 = .ok (.iload_n 2, 1) := by decide +kernel
theorem dL_month_5 : decode cL_month 5 = .ok (.aload_n 0, 1) := by decide +kernel
theorem dL_month_6 : decode cL_month 6 = .ok (.iconst 0, 1) := by decide +kernel
theorem dL_month_7 : decode cL_month 7 = .ok (.iaload, 1) := by decide +kernel
theorem dL_month_8 : decode cL_month 8 = .ok (.if_icmp .ge 54, 3) := by decide +kernel
theorem dL_month_11 : decode cL_month 11 = .ok (.aload_n 0, 1) := by decide +kernel
theorem dL_month_12 : decode cL_month 12 = .ok (.bipush 21, 2) := by decide +kernel
theorem dL_month_14 : decode cL_month 14 = .ok (.iload_n 2, 1) := by decide +kernel
theorem dL_month_15 : decode cL_month 15 = .ok (.iadd, 1) := by decide +kernel
theorem dL_month_16 : decode cL_month 16 = .ok (.iaload, 1) := by decide +kernel
theorem dL_month_17 : decode cL_month 17 = .ok (.ifCond .ge 6, 3) := by decide +kernel
theorem dL_month_20 : decode cL_month 20 = .ok (.goto 36, 3) := by decide +kernel
theorem dL_month_23 : decode cL_month 23 = .ok (.aload_n 0, 1) := by decide +kernel
theorem dL_month_24 : decode cL_month 24 = .ok (.iconst 1, 1) := by decide +kernel
theorem dL_month_25 : decode cL_month 25 = .ok (.iload_n 2, 1) := by decide +kernel
theorem dL_month_26 : decode cL_month 26 = .ok (.iadd, 1) := by decide +kernel
theorem dL_month_27 : decode cL_month 27 = .ok (.iaload, 1) := by decide +kernel
theorem dL_month_28 : decode cL_month 28 = .ok (.aload_n 0, 1) := by decide +kernel
theorem dL_month_29 : decode cL_month 29 = .ok (.bipush 11, 2) := by decide +kernel
theorem dL_month_31 : decode cL_month 31 = .ok (.iload_n 2, 1) := by decide +kernel
theorem dL_month_32 : decode cL_month 32 = .ok (.iadd, 1) := by decide +kernel
theorem dL_month_33 : decode cL_month 33 = .ok (.iaload, 1) := by decide +kernel
theorem dL_month_34 : decode cL_month 34 = .ok (.invokestatic 46, 3) := by decide +kernel
theorem dL_month_37 : decode cL_month 37 = .ok (.istore_n 3, 1) := by decide +kernel
theorem dL_month_38 : decode cL_month 38 = .ok (.iload_n 1, 1) := by decide +kernel
theorem dL_month_39 : decode cL_month 39 = .ok (.aload_n 0, 1) := by decide +kernel
theorem dL_month_40 : decode cL_month 40 = .ok (.bipush 11, 2) := by decide +kernel
theorem dL_month_42 : decode cL_month 42 = .ok (.iload_n 2, 1) := by decide +kernel
theorem dL_month_43 : decode cL_month 43 = .ok (.iadd, 1) := by decide +kernel
theorem dL_month_44 : decode cL_month 44 = .ok (.iaload, 1) := by decide +kernel
theorem dL_month_45 : decode cL_month 45 = .ok (.iload_n 3, 1) := by decide +kernel
theorem dL_month_46 : decode cL_month 46 = .ok (.isub, 1) := by decide +kernel
theorem dL_month_47 : decode cL_month 47 = .ok (.iadd, 1) := by decide +kernel
theorem dL_month_48 : decode cL_month 48 = .ok (.istore_n 1, 1) := by decide +kernel
theorem dL_month_49 : decode cL_month 49 = .ok (.aload_n 0, 1) := by decide +kernel
theorem dL_month_50 : decode cL_month 50 = .ok (.bipush 11, 2) := by decide +kernel
theorem dL_month_52 : decode cL_month 52 = .ok (.iload_n 2, 1) := by decide +kernel
theorem dL_month_53 : decode cL_month 53 = .ok (.iadd, 1) := by decide +kernel
theorem dL_month_54 : decode cL_month 54 = .ok (.iload_n 3, 1) := by decide +kernel
theorem dL_month_55 : decode cL_month 55 = .ok (.iastore, 1) := by decide +kernel
theorem dL_month_56 : decode cL_month 56 = .ok (.iinc 2 1, 3) := by decide +kernel
theorem dL_month_59 : decode cL_month 59 = .ok (.goto (-55), 3) := by decide +kernel
theorem dL_month_62 : decode cL_month 62 = .ok (.aload_n 0, 1) := by decide +kernel
theorem dL_month_63 : decode cL_month 63 = .ok (.bipush 32, 2) := by decide +kernel
theorem dL_month_65 : decode cL_month 65 = .ok (.dup2, 1) := by decide +kernel
theorem dL_month_66 : decode cL_month 66 = .ok (.iaload, 1) := by decide +kernel
theorem dL_month_67 : decode cL_month 67 = .ok (.iload_n 1, 1) := by decide +kernel
theorem dL_month_68 : decode cL_month 68 = .ok (.iadd, 1) := by decide +kernel
theorem dL_month_69 : decode cL_month 69 = .ok (.iastore, 1) := by decide +kernel
theorem dL_month_70 : decode cL_month 70 = .ok (.iload_n 1, 1) := by decide +kernel
theorem dL_month_71 : decode cL_month 71 = .ok (.ireturn, 1) := by decide +kernel
set_option maxRecDepth 20000 in
theorem ggL_june_L_add : GoodIn wsL_june wsL_add := goodIn_r _ [4] (by decide +kernel) (by decide +kernel)
set_option maxRecDepth 20000 in
theorem gL_june_L_add : GoodIn wsL_june (va_wsS RL 39 yL_add wsL_add) := goodIn_app (goodIn_of _ (by decide +kernel)) ggL_june_L_add
theorem dL_june_0 : decode cL_june 0 = .ok (.iconst 0, 1) := by decide +kernel
theorem dL_june_1 : decode cL_june 1 = .ok (.istore_n 2, 1) := by decide +kernel
theorem dL_june_2 : decode cL_june 2 = .ok (.aload_n 0, 1) := by decide +kernel
theorem dL_june_3 : decode cL_june 3 = .ok (.iconst 0, 1) := by decide +kernel
theorem dL_june_4 : decode cL_june 4 = .ok (.iaload, 1) := by decide +kernel
theorem dL_june_5 : decode cL_june 5 = .ok (.istore_n 3, 1) := by decide +kernel
theorem dL_june_6 : decode cL_june 6 = .ok (.iconst 0, 1) := by decide +kernel
theorem dL_june_7 : decode cL_june 7 = .ok (.istore 4, 2) := by decide +kernel
theorem dL_june_9 : decode cL_june 9 = .ok (.iload 4, 2) := by decide +kernel
theorem dL_june_11 : decode cL_june 11 = .ok (.bipush 6, 2) := by decide +kernel
theorem dL_june_13 : decode cL_june 13 = .ok (.if_icmp .ge 90, 3) := by decide +kernel
theorem dL_june_16 : decode cL_june 16 = .ok (.iconst 0, 1) := by decide +kernel
theorem dL_june_17 : decode cL_june 17 = .ok (.istore 5, 2) := by decide +kernel
theorem dL_june_19 : decode cL_june 19 = .ok (.iconst 0, 1) := by decide +kernel
theorem dL_june_20 : decode cL_june 20 = .ok (.istore 6, 2) := by decide +kernel
theorem dL_june_22 : decode cL_june 22 = .ok (.iload 6, 2) := by decide +kernel
theorem dL_june_24 : decode cL_june 24 = .ok (.iload_n 3, 1) := by decide +kernel
theorem dL_june_25 : decode cL_june 25 = .ok (.if_icmp .ge 43, 3) := by decide +kernel
theorem dL_june_28 : decode cL_june 28 = .ok (.iload 5, 2) := by decide +kernel
theorem dL_june_30 : decode cL_june 30 = .ok (.aload_n 0, 1) := by decide +kernel
theorem dL_june_31 : decode cL_june 31 = .ok (.bipush 21, 2) := by decide +kernel
theorem dL_june_33 : decode cL_june 33 = .ok (.iload 6, 2) := by decide +kernel
theorem dL_june_35 : decode cL_june 35 = .ok (.iadd, 1) := by decide +kernel
theorem dL_june_36 : decode cL_june 36 = .ok (.iaload, 1) := by decide +kernel
theorem dL_june_37 : decode cL_june 37 = .ok (.iload 4, 2) := by decide +kernel
theorem dL_june_39 : decode cL_june 39 = .ok (.if_icmp .ne 19, 3) := by decide +kernel
theorem dL_june_42 : decode cL_june 42 = .ok (.aload_n 0, 1) := by decide +kernel
