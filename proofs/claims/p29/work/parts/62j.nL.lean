theorem dL_june_43 : decode cL_june 43 = .ok (.bipush 11, 2) := by decide +kernel
theorem dL_june_45 : decode cL_june 45 = .ok (.iload 6, 2) := by decide +kernel
theorem dL_june_47 : decode cL_june 47 = .ok (.iadd, 1) := by decide +kernel
theorem dL_june_48 : decode cL_june 48 = .ok (.iaload, 1) := by decide +kernel
theorem dL_june_49 : decode cL_june 49 = .ok (.bipush 9, 2) := by decide +kernel
theorem dL_june_51 : decode cL_june 51 = .ok (.if_icmp .ne 7, 3) := by decide +kernel
theorem dL_june_54 : decode cL_june 54 = .ok (.iconst 1, 1) := by decide +kernel
theorem dL_june_55 : decode cL_june 55 = .ok (.goto 4, 3) := by decide +kernel
theorem dL_june_58 : decode cL_june 58 = .ok (.iconst 0, 1) := by decide +kernel
theorem dL_june_59 : decode cL_june 59 = .ok (.ior, 1) := by decide +kernel
theorem dL_june_60 : decode cL_june 60 = .ok (.istore 5, 2) := by decide +kernel
theorem dL_june_62 : decode cL_june 62 = .ok (.iinc 6 1, 3) := by decide +kernel
theorem dL_june_65 : decode cL_june 65 = .ok (.goto (-43), 3) := by decide +kernel
theorem dL_june_68 : decode cL_june 68 = .ok (.iload 5, 2) := by decide +kernel
theorem dL_june_70 : decode cL_june 70 = .ok (.ifCond .eq 27, 3) := by decide +kernel
theorem dL_june_73 : decode cL_june 73 = .ok (.aload_n 0, 1) := by decide +kernel
theorem dL_june_74 : decode cL_june 74 = .ok (.iconst 0, 1) := by decide +kernel
theorem dL_june_75 : decode cL_june 75 = .ok (.iaload, 1) := by decide +kernel
theorem dL_june_76 : decode cL_june 76 = .ok (.bipush 10, 2) := by decide +kernel
theorem dL_june_78 : decode cL_june 78 = .ok (.if_icmp .ne 6, 3) := by decide +kernel
theorem dL_june_81 : decode cL_june 81 = .ok (.goto 16, 3) := by decide +kernel
theorem dL_june_84 : decode cL_june 84 = .ok (.aload_n 0, 1) := by decide +kernel
theorem dL_june_85 : decode cL_june 85 = .ok (.aload_n 1, 1) := by decide +kernel
theorem dL_june_86 : decode cL_june 86 = .ok (.iconst 0, 1) := by decide +kernel
theorem dL_june_87 : decode cL_june 87 = .ok (.bipush 9, 2) := by decide +kernel
theorem dL_june_89 : decode cL_june 89 = .ok (.iload 4, 2) := by decide +kernel
theorem dL_june_91 : decode cL_june 91 = .ok (.invokestatic 39, 3) := by decide +kernel
theorem dL_june_94 : decode cL_june 94 = .ok (.iinc 2 1, 3) := by decide +kernel
theorem dL_june_97 : decode cL_june 97 = .ok (.iinc 4 1, 3) := by decide +kernel
theorem dL_june_100 : decode cL_june 100 = .ok (.goto (-91), 3) := by decide +kernel
theorem dL_june_103 : decode cL_june 103 = .ok (.iload_n 2, 1) := by decide +kernel
theorem dL_june_104 : decode cL_june 104 = .ok (.ireturn, 1) := by decide +kernel
set_option maxRecDepth 20000 in
theorem ggL_stands_X10_about : GoodIn wsL_stands wsX10_about := goodIn_r _ [5, 6, 7, 8, 9, 10, 11, 12, 13, 14, 4, 15, 16, 17, 18, 19, 20, 21, 22, 23, 24, 25, 26, 27, 28, 29, 30, 31, 32, 33, 34, 35, 36, 37, 38, 39, 40, 41, 42, 89, 90, 91, 92, 93, 94, 95, 96, 97, 98, 99, 100, 101, 102, 103, 104, 105, 106, 107] (by decide +kernel) (by decide +kernel)
set_option maxRecDepth 20000 in
theorem gL_stands_X10_about : GoodIn wsL_stands (wsV RL 49 RX10 yX10_about wsX10_about) := goodIn_app (goodIn_of _ (by decide +kernel)) ggL_stands_X10_about
set_option maxRecDepth 20000 in
theorem ggL_stands_L_hand : GoodIn wsL_stands wsL_hand := goodIn_r _ [46] (by decide +kernel) (by decide +kernel)
set_option maxRecDepth 20000 in
theorem gL_stands_L_hand : GoodIn wsL_stands (va_wsS RL 43 yL_hand wsL_hand) := goodIn_app (goodIn_of _ (by decide +kernel)) ggL_stands_L_hand
set_option maxRecDepth 20000 in
theorem ggL_stands_X10_owes : GoodIn wsL_stands wsX10_owes := goodIn_r _ [50, 6, 51, 52, 53, 4, 54, 55, 56, 57, 13, 14, 15, 58, 59, 60, 61, 62, 63, 89, 90, 91, 92, 93, 94, 95, 96, 97, 98, 99, 100, 101, 102, 103, 104, 105, 106, 107, 108] (by decide +kernel) (by decide +kernel)
set_option maxRecDepth 20000 in
theorem gL_stands_X10_owes : GoodIn wsL_stands (wsV RL 52 RX10 yX10_owes wsX10_owes) := goodIn_app (goodIn_of _ (by decide +kernel)) ggL_stands_X10_owes
