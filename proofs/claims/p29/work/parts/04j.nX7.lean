theorem dX7_init_0 : decode cX7_init 0 = .ok (.aload_n 0, 1) := by decide +kernel
theorem dX7_init_1 : decode cX7_init 1 = .ok (.invokespecial 3, 3) := by decide +kernel
theorem dX7_init_4 : decode cX7_init 4 = .ok (.return_, 1) := by decide +kernel
set_option maxRecDepth 20000 in
theorem ggX7_search_X4_worthBehindHand : GoodIn wsX7_search wsX4_worthBehindHand := goodIn_r _ [10, 11, 12, 13, 14, 15, 16, 17, 18, 19, 20, 21, 22, 23, 53, 54, 55, 56, 57, 58, 59, 60] (by decide +kernel) (by decide +kernel)
set_option maxRecDepth 20000 in
theorem gX7_search_X4_worthBehindHand : GoodIn wsX7_search (wsV RX7 30 RX4 yX4_worthBehindHand wsX4_worthBehindHand) := goodIn_app (goodIn_of _ (by decide +kernel)) ggX7_search_X4_worthBehindHand
set_option maxRecDepth 20000 in
theorem ggX7_search_X7_choose : GoodIn wsX7_search wsX7_choose := goodIn_r _ [28, 2, 5, 1, 29, 30, 31, 32, 27, 33, 3, 34, 35, 36, 37, 38, 39, 40, 41, 42, 43, 44, 45, 46, 47, 9, 48, 49, 24, 25, 26, 6, 7, 8, 10, 11, 12, 13, 14, 15, 16, 17, 18, 19, 20, 21, 22, 23, 50, 51, 52, 53, 54, 55, 56, 57, 58, 59, 60] (by decide +kernel) (by decide +kernel)
set_option maxRecDepth 20000 in
theorem gX7_search_X7_choose : GoodIn wsX7_search (wsV RX7 34 RX7 yX7_choose wsX7_choose) := goodIn_app (goodIn_of _ (by decide +kernel)) ggX7_search_X7_choose
theorem dX7_search_0 : decode cX7_search 0 = .ok (.aload_n 0, 1) := by decide +kernel
theorem dX7_search_1 : decode cX7_search 1 = .ok (.iload_n 2, 1) := by decide +kernel
theorem dX7_search_2 : decode cX7_search 2 = .ok (.putfield 9, 3) := by decide +kernel
theorem dX7_search_5 : decode cX7_search 5 = .ok (.aload_n 0, 1) := by decide +kernel
theorem dX7_search_6 : decode cX7_search 6 = .ok (.bipush 91, 2) := by decide +kernel
theorem dX7_search_8 : decode cX7_search 8 = .ok (.putfield 15, 3) := by decide +kernel
theorem dX7_search_11 : decode cX7_search 11 = .ok (.aload_n 0, 1) := by decide +kernel
theorem dX7_search_12 : decode cX7_search 12 = .ok (.iconst (-1), 1) := by decide +kernel
theorem dX7_search_13 : decode cX7_search 13 = .ok (.putfield 18, 3) := by decide +kernel
theorem dX7_search_16 : decode cX7_search 16 = .ok (.iconst 0, 1) := by decide +kernel
theorem dX7_search_17 : decode cX7_search 17 = .ok (.istore 4, 2) := by decide +kernel
theorem dX7_search_19 : decode cX7_search 19 = .ok (.iconst 0, 1) := by decide +kernel
theorem dX7_search_20 : decode cX7_search 20 = .ok (.istore 5, 2) := by decide +kernel
theorem dX7_search_22 : decode cX7_search 22 = .ok (.iload 5, 2) := by decide +kernel
theorem dX7_search_24 : decode cX7_search 24 = .ok (.aload_n 1, 1) := by decide +kernel
theorem dX7_search_25 : decode cX7_search 25 = .ok (.getfield 21, 3) := by decide +kernel
theorem dX7_search_28 : decode cX7_search 28 = .ok (.if_icmp .ge 31, 3) := by decide +kernel
theorem dX7_search_31 : decode cX7_search 31 = .ok (.aload_n 1, 1) := by decide +kernel
theorem dX7_search_32 : decode cX7_search 32 = .ok (.getfield 26, 3) := by decide +kernel
theorem dX7_search_35 : decode cX7_search 35 = .ok (.iload 5, 2) := by decide +kernel
theorem dX7_search_37 : decode cX7_search 37 = .ok (.iaload, 1) := by decide +kernel
theorem dX7_search_38 : decode cX7_search 38 = .ok (.iload_n 2, 1) := by decide +kernel
theorem dX7_search_39 : decode cX7_search 39 = .ok (.if_icmp .ne 14, 3) := by decide +kernel
theorem dX7_search_42 : decode cX7_search 42 = .ok (.iload 4, 2) := by decide +kernel
theorem dX7_search_44 : decode cX7_search 44 = .ok (.aload_n 1, 1) := by decide +kernel
theorem dX7_search_45 : decode cX7_search 45 = .ok (.iload 5, 2) := by decide +kernel
theorem dX7_search_47 : decode cX7_search 47 = .ok (.invokevirtual 30, 3) := by decide +kernel
theorem dX7_search_50 : decode cX7_search 50 = .ok (.iadd, 1) := by decide +kernel
theorem dX7_search_51 : decode cX7_search 51 = .ok (.istore 4, 2) := by decide +kernel
theorem dX7_search_53 : decode cX7_search 53 = .ok (.iinc 5 1, 3) := by decide +kernel
theorem dX7_search_56 : decode cX7_search 56 = .ok (.goto (-34), 3) := by decide +kernel
theorem dX7_search_59 : decode cX7_search 59 = .ok (.aload_n 0, 1) := by decide +kernel
theorem dX7_search_60 : decode cX7_search 60 = .ok (.aload_n 1, 1) := by decide +kernel
theorem dX7_search_61 : decode cX7_search 61 = .ok (.iconst 0, 1) := by decide +kernel
theorem dX7_search_62 : decode cX7_search 62 = .ok (.iconst 0, 1) := by decide +kernel
theorem dX7_search_63 : decode cX7_search 63 = .ok (.iconst 0, 1) := by decide +kernel
theorem dX7_search_64 : decode cX7_search 64 = .ok (.iload_n 3, 1) := by decide +kernel
theorem dX7_search_65 : decode cX7_search 65 = .ok (.iload 4, 2) := by decide +kernel
theorem dX7_search_67 : decode cX7_search 67 = .ok (.invokevirtual 34, 3) := by decide +kernel
theorem dX7_search_70 : decode cX7_search 70 = .ok (.return_, 1) := by decide +kernel
theorem dX7_worth_0 : decode cX7_worth 0 = .ok (.aload_n 0, 1) := by decide +kernel
theorem dX7_worth_1 : decode cX7_worth 1 = .ok (.getfield 18, 3) := by decide +kernel
theorem dX7_worth_4 : decode cX7_worth 4 = .ok (.iconst (-1), 1) := by decide +kernel
theorem dX7_worth_5 : decode cX7_worth 5 = .ok (.if_icmp .ne 7, 3) := by decide +kernel
theorem dX7_worth_8 : decode cX7_worth 8 = .ok (.iconst (-1), 1) := by decide +kernel
theorem dX7_worth_9 : decode cX7_worth 9 = .ok (.goto 7, 3) := by decide +kernel
theorem dX7_worth_12 : decode cX7_worth 12 = .ok (.aload_n 0, 1) := by decide +kernel
theorem dX7_worth_13 : decode cX7_worth 13 = .ok (.getfield 15, 3) := by decide +kernel
theorem dX7_worth_16 : decode cX7_worth 16 = .ok (.ireturn, 1) := by decide +kernel
theorem dX7_bits_0 : decode cX7_bits 0 = .ok (.aload_n 0, 1) := by decide +kernel
theorem dX7_bits_1 : decode cX7_bits 1 = .ok (.getfield 18, 3) := by decide +kernel
theorem dX7_bits_4 : decode cX7_bits 4 = .ok (.ireturn, 1) := by decide +kernel
set_option maxRecDepth 20000 in
theorem ggX7_choose_X7_keepIfBetter : GoodIn wsX7_choose wsX7_keepIfBetter := goodIn_r _ [9, 1, 10, 11, 12, 13, 8, 14, 15, 16, 17, 18, 19, 20, 21, 48, 49, 50] (by decide +kernel) (by decide +kernel)
set_option maxRecDepth 20000 in
theorem gX7_choose_X7_keepIfBetter : GoodIn wsX7_choose (wsV RX7 38 RX7 yX7_keepIfBetter wsX7_keepIfBetter) := goodIn_app (goodIn_of _ (by decide +kernel)) ggX7_choose_X7_keepIfBetter
set_option maxRecDepth 20000 in
theorem ggX7_choose_X4_knows : GoodIn wsX7_choose wsX4_knows := goodIn_r _ [26, 27, 51, 52, 53, 54, 55, 56, 57, 58] (by decide +kernel) (by decide +kernel)
set_option maxRecDepth 20000 in
theorem gX7_choose_X4_knows : GoodIn wsX7_choose (wsV RX7 42 RX4 yX4_knows wsX4_knows) := goodIn_app (goodIn_of _ (by decide +kernel)) ggX7_choose_X4_knows
set_option maxRecDepth 20000 in
theorem ggX7_choose_X7_choose : GoodIn wsX7_choose wsX7_choose := goodIn_r _ [0, 1, 2, 3, 4, 5, 6, 7, 8, 9, 10, 11, 12, 13, 14, 15, 16, 17, 18, 19, 20, 21, 22, 23, 24, 25, 26, 27, 28, 29, 30, 31, 32, 33, 34, 35, 36, 37, 38, 39, 40, 41, 42, 43, 44, 45, 46, 47, 48, 49, 50, 51, 52, 53, 54, 55, 56, 57, 58] (by decide +kernel) (by decide +kernel)
set_option maxRecDepth 20000 in
theorem gX7_choose_X7_choose : GoodIn wsX7_choose (wsV RX7 34 RX7 yX7_choose wsX7_choose) := goodIn_app (goodIn_of _ (by decide +kernel)) ggX7_choose_X7_choose
set_option maxRecDepth 20000 in
theorem ggX7_choose_X4_worthBehindHand : GoodIn wsX7_choose wsX4_worthBehindHand := goodIn_r _ [34, 35, 36, 37, 38, 39, 40, 41, 42, 43, 44, 45, 46, 47, 51, 52, 53, 54, 55, 56, 57, 58] (by decide +kernel) (by decide +kernel)
set_option maxRecDepth 20000 in
theorem gX7_choose_X4_worthBehindHand : GoodIn wsX7_choose (wsV RX7 30 RX4 yX4_worthBehindHand wsX4_worthBehindHand) := goodIn_app (goodIn_of _ (by decide +kernel)) ggX7_choose_X4_worthBehindHand
theorem dX7_choose_0 : decode cX7_choose 0 = .ok (.iload 4, 2) := by decide +kernel
theorem dX7_choose_2 : decode cX7_choose 2 = .ok (.aload_n 0, 1) := by decide +kernel
theorem dX7_choose_3 : decode cX7_choose 3 = .ok (.getfield 15, 3) := by decide +kernel
theorem dX7_choose_6 : decode cX7_choose 6 = .ok (.if_icmp .gt 10, 3) := by decide +kernel
theorem dX7_choose_9 : decode cX7_choose 9 = .ok (.iload 5, 2) := by decide +kernel
theorem dX7_choose_11 : decode cX7_choose 11 = .ok (.iload 6, 2) := by decide +kernel
theorem dX7_choose_13 : decode cX7_choose 13 = .ok (.if_icmp .le 4, 3) := by decide +kernel
theorem dX7_choose_16 : decode cX7_choose 16 = .ok (.return_, 1) := by decide +kernel
theorem dX7_choose_17 : decode cX7_choose 17 = .ok (.iload 5, 2) := by decide +kernel
theorem dX7_choose_19 : decode cX7_choose 19 = .ok (.ifCond .gt 11, 3) := by decide +kernel
theorem dX7_choose_22 : decode cX7_choose 22 = .ok (.aload_n 0, 1) := by decide +kernel
theorem dX7_choose_23 : decode cX7_choose 23 = .ok (.iload_n 3, 1) := by decide +kernel
theorem dX7_choose_24 : decode cX7_choose 24 = .ok (.iload 4, 2) := by decide +kernel
theorem dX7_choose_26 : decode cX7_choose 26 = .ok (.invokevirtual 38, 3) := by decide +kernel
theorem dX7_choose_29 : decode cX7_choose 29 = .ok (.return_, 1) := by decide +kernel
theorem dX7_choose_30 : decode cX7_choose 30 = .ok (.aload_n 1, 1) := by decide +kernel
theorem dX7_choose_31 : decode cX7_choose 31 = .ok (.iload_n 2, 1) := by decide +kernel
theorem dX7_choose_32 : decode cX7_choose 32 = .ok (.invokevirtual 42, 3) := by decide +kernel
theorem dX7_choose_35 : decode cX7_choose 35 = .ok (.ifCond .ne 4, 3) := by decide +kernel
theorem dX7_choose_38 : decode cX7_choose 38 = .ok (.return_, 1) := by decide +kernel
theorem dX7_choose_39 : decode cX7_choose 39 = .ok (.aload_n 1, 1) := by decide +kernel
theorem dX7_choose_40 : decode cX7_choose 40 = .ok (.getfield 26, 3) := by decide +kernel
theorem dX7_choose_43 : decode cX7_choose 43 = .ok (.iload_n 2, 1) := by decide +kernel
theorem dX7_choose_44 : decode cX7_choose 44 = .ok (.iaload, 1) := by decide +kernel
theorem dX7_choose_45 : decode cX7_choose 45 = .ok (.aload_n 0, 1) := by decide +kernel
theorem dX7_choose_46 : decode cX7_choose 46 = .ok (.getfield 9, 3) := by decide +kernel
theorem dX7_choose_49 : decode cX7_choose 49 = .ok (.if_icmp .eq 19, 3) := by decide +kernel
theorem dX7_choose_52 : decode cX7_choose 52 = .ok (.aload_n 0, 1) := by decide +kernel
theorem dX7_choose_53 : decode cX7_choose 53 = .ok (.aload_n 1, 1) := by decide +kernel
theorem dX7_choose_54 : decode cX7_choose 54 = .ok (.iload_n 2, 1) := by decide +kernel
theorem dX7_choose_55 : decode cX7_choose 55 = .ok (.iconst 1, 1) := by decide +kernel
theorem dX7_choose_56 : decode cX7_choose 56 = .ok (.iadd, 1) := by decide +kernel
theorem dX7_choose_57 : decode cX7_choose 57 = .ok (.iload_n 3, 1) := by decide +kernel
theorem dX7_choose_58 : decode cX7_choose 58 = .ok (.iload 4, 2) := by decide +kernel
theorem dX7_choose_60 : decode cX7_choose 60 = .ok (.iload 5, 2) := by decide +kernel
theorem dX7_choose_62 : decode cX7_choose 62 = .ok (.iload 6, 2) := by decide +kernel
theorem dX7_choose_64 : decode cX7_choose 64 = .ok (.invokevirtual 34, 3) := by decide +kernel
theorem dX7_choose_67 : decode cX7_choose 67 = .ok (.return_, 1) := by decide +kernel
theorem dX7_choose_68 : decode cX7_choose 68 = .ok (.aload_n 1, 1) := by decide +kernel
theorem dX7_choose_69 : decode cX7_choose 69 = .ok (.iload_n 2, 1) := by decide +kernel
theorem dX7_choose_70 : decode cX7_choose 70 = .ok (.invokevirtual 30, 3) := by decide +kernel
theorem dX7_choose_73 : decode cX7_choose 73 = .ok (.istore 7, 2) := by decide +kernel
theorem dX7_choose_75 : decode cX7_choose 75 = .ok (.aload_n 0, 1) := by decide +kernel
theorem dX7_choose_76 : decode cX7_choose 76 = .ok (.aload_n 1, 1) := by decide +kernel
theorem dX7_choose_77 : decode cX7_choose 77 = .ok (.iload_n 2, 1) := by decide +kernel
theorem dX7_choose_78 : decode cX7_choose 78 = .ok (.iconst 1, 1) := by decide +kernel
theorem dX7_choose_79 : decode cX7_choose 79 = .ok (.iadd, 1) := by decide +kernel
theorem dX7_choose_80 : decode cX7_choose 80 = .ok (.iload_n 3, 1) := by decide +kernel
theorem dX7_choose_81 : decode cX7_choose 81 = .ok (.iconst 1, 1) := by decide +kernel
theorem dX7_choose_82 : decode cX7_choose 82 = .ok (.iload_n 2, 1) := by decide +kernel
theorem dX7_choose_83 : decode cX7_choose 83 = .ok (.ishl, 1) := by decide +kernel
theorem dX7_choose_84 : decode cX7_choose 84 = .ok (.ior, 1) := by decide +kernel
theorem dX7_choose_85 : decode cX7_choose 85 = .ok (.iload 4, 2) := by decide +kernel
theorem dX7_choose_87 : decode cX7_choose 87 = .ok (.aload_n 1, 1) := by decide +kernel
theorem dX7_choose_88 : decode cX7_choose 88 = .ok (.getfield 46, 3) := by decide +kernel
theorem dX7_choose_91 : decode cX7_choose 91 = .ok (.iload_n 2, 1) := by decide +kernel
theorem dX7_choose_92 : decode cX7_choose 92 = .ok (.iaload, 1) := by decide +kernel
theorem dX7_choose_93 : decode cX7_choose 93 = .ok (.iadd, 1) := by decide +kernel
theorem dX7_choose_94 : decode cX7_choose 94 = .ok (.iload 5, 2) := by decide +kernel
theorem dX7_choose_96 : decode cX7_choose 96 = .ok (.iload 7, 2) := by decide +kernel
theorem dX7_choose_98 : decode cX7_choose 98 = .ok (.isub, 1) := by decide +kernel
theorem dX7_choose_99 : decode cX7_choose 99 = .ok (.iload 6, 2) := by decide +kernel
theorem dX7_choose_101 : decode cX7_choose 101 = .ok (.iload 7, 2) := by decide +kernel
theorem dX7_choose_103 : decode cX7_choose 103 = .ok (.isub, 1) := by decide +kernel
theorem dX7_choose_104 : decode cX7_choose 104 = .ok (.invokevirtual 34, 3) := by decide +kernel
theorem dX7_choose_107 : decode cX7_choose 107 = .ok (.aload_n 0, 1) := by decide +kernel
theorem dX7_choose_108 : decode cX7_choose 108 = .ok (.aload_n 1, 1) := by decide +kernel
theorem dX7_choose_109 : decode cX7_choose 109 = .ok (.iload_n 2, 1) := by decide +kernel
theorem dX7_choose_110 : decode cX7_choose 110 = .ok (.iconst 1, 1) := by decide +kernel
theorem dX7_choose_111 : decode cX7_choose 111 = .ok (.iadd, 1) := by decide +kernel
theorem dX7_choose_112 : decode cX7_choose 112 = .ok (.iload_n 3, 1) := by decide +kernel
theorem dX7_choose_113 : decode cX7_choose 113 = .ok (.iload 4, 2) := by decide +kernel
theorem dX7_choose_115 : decode cX7_choose 115 = .ok (.iload 5, 2) := by decide +kernel
theorem dX7_choose_117 : decode cX7_choose 117 = .ok (.iload 6, 2) := by decide +kernel
theorem dX7_choose_119 : decode cX7_choose 119 = .ok (.iload 7, 2) := by decide +kernel
theorem dX7_choose_121 : decode cX7_choose 121 = .ok (.isub, 1) := by decide +kernel
theorem dX7_choose_122 : decode cX7_choose 122 = .ok (.invokevirtual 34, 3) := by decide +kernel
theorem dX7_choose_125 : decode cX7_choose 125 = .ok (.return_, 1) := by decide +kernel
set_option maxRecDepth 20000 in
theorem ggX7_keepIfBetter_X7_isSmaller : GoodIn wsX7_keepIfBetter wsX7_isSmaller := goodIn_r _ [7, 2, 8, 9, 10, 11, 12, 13, 14, 15, 16, 17] (by decide +kernel) (by decide +kernel)
set_option maxRecDepth 20000 in
theorem gX7_keepIfBetter_X7_isSmaller : GoodIn wsX7_keepIfBetter (wsV RX7 49 RX7 yX7_isSmaller wsX7_isSmaller) := goodIn_app (goodIn_of _ (by decide +kernel)) ggX7_keepIfBetter_X7_isSmaller
theorem dX7_keepIfBetter_0 : decode cX7_keepIfBetter 0 = .ok (.iload_n 2, 1) := by decide +kernel
theorem dX7_keepIfBetter_1 : decode cX7_keepIfBetter 1 = .ok (.aload_n 0, 1) := by decide +kernel
theorem dX7_keepIfBetter_2 : decode cX7_keepIfBetter 2 = .ok (.getfield 15, 3) := by decide +kernel
theorem dX7_keepIfBetter_5 : decode cX7_keepIfBetter 5 = .ok (.if_icmp .lt 19, 3) := by decide +kernel
theorem dX7_keepIfBetter_8 : decode cX7_keepIfBetter 8 = .ok (.iload_n 2, 1) := by decide +kernel
theorem dX7_keepIfBetter_9 : decode cX7_keepIfBetter 9 = .ok (.aload_n 0, 1) := by decide +kernel
theorem dX7_keepIfBetter_10 : decode cX7_keepIfBetter 10 = .ok (.getfield 15, 3) := by decide +kernel
theorem dX7_keepIfBetter_13 : decode cX7_keepIfBetter 13 = .ok (.if_icmp .ne 21, 3) := by decide +kernel
theorem dX7_keepIfBetter_16 : decode cX7_keepIfBetter 16 = .ok (.aload_n 0, 1) := by decide +kernel
theorem dX7_keepIfBetter_17 : decode cX7_keepIfBetter 17 = .ok (.iload_n 1, 1) := by decide +kernel
theorem dX7_keepIfBetter_18 : decode cX7_keepIfBetter 18 = .ok (.invokevirtual 49, 3) := by decide +kernel
theorem dX7_keepIfBetter_21 : decode cX7_keepIfBetter 21 = .ok (.ifCond .eq 13, 3) := by decide +kernel
theorem dX7_keepIfBetter_24 : decode cX7_keepIfBetter 24 = .ok (.aload_n 0, 1) := by decide +kernel
theorem dX7_keepIfBetter_25 : decode cX7_keepIfBetter 25 = .ok (.iload_n 2, 1) := by decide +kernel
theorem dX7_keepIfBetter_26 : decode cX7_keepIfBetter 26 = .ok (.putfield 15, 3) := by decide +kernel
theorem dX7_keepIfBetter_29 : decode cX7_keepIfBetter 29 = .ok (.aload_n 0, 1) := by decide +kernel
theorem dX7_keepIfBetter_30 : decode cX7_keepIfBetter 30 = .ok (.iload_n 1, 1) := by decide +kernel
theorem dX7_keepIfBetter_31 : decode cX7_keepIfBetter 31 = .ok (.putfield 18, 3) := by decide +kernel
theorem dX7_keepIfBetter_34 : decode cX7_keepIfBetter 34 = .ok (.return_, 1) := by decide +kernel
set_option maxRecDepth 20000 in
theorem ggX7_isSmaller_J6_bitCount_0f7a4 : GoodIn wsX7_isSmaller wsJ6_bitCount_0f7a4 := goodIn_r _ [5, 6, 7, 8] (by decide +kernel) (by decide +kernel)
set_option maxRecDepth 20000 in
theorem gX7_isSmaller_J6_bitCount_0f7a4 : GoodIn wsX7_isSmaller (va_wsS RX7 52 yJ6_bitCount_0f7a4 wsJ6_bitCount_0f7a4) := goodIn_app (goodIn_of _ (by decide +kernel)) ggX7_isSmaller_J6_bitCount_0f7a4
theorem dX7_isSmaller_0 : decode cX7_isSmaller 0 = .ok (.iload_n 1, 1) := by decide +kernel
theorem dX7_isSmaller_1 : decode cX7_isSmaller 1 = .ok (.invokestatic 52, 3) := by decide +kernel
theorem dX7_isSmaller_4 : decode cX7_isSmaller 4 = .ok (.aload_n 0, 1) := by decide +kernel
theorem dX7_isSmaller_5 : decode cX7_isSmaller 5 = .ok (.getfield 18, 3) := by decide +kernel
theorem dX7_isSmaller_8 : decode cX7_isSmaller 8 = .ok (.invokestatic 52, 3) := by decide +kernel
theorem dX7_isSmaller_11 : decode cX7_isSmaller 11 = .ok (.isub, 1) := by decide +kernel
theorem dX7_isSmaller_12 : decode cX7_isSmaller 12 = .ok (.istore_n 2, 1) := by decide +kernel
theorem dX7_isSmaller_13 : decode cX7_isSmaller 13 = .ok (.iload_n 2, 1) := by decide +kernel
theorem dX7_isSmaller_14 : decode cX7_isSmaller 14 = .ok (.ifCond .lt 15, 3) := by decide +kernel
theorem dX7_isSmaller_17 : decode cX7_isSmaller 17 = .ok (.iload_n 2, 1) := by decide +kernel
theorem dX7_isSmaller_18 : decode cX7_isSmaller 18 = .ok (.ifCond .ne 15, 3) := by decide +kernel
theorem dX7_isSmaller_21 : decode cX7_isSmaller 21 = .ok (.iload_n 1, 1) := by decide +kernel
theorem dX7_isSmaller_22 : decode cX7_isSmaller 22 = .ok (.aload_n 0, 1) := by decide +kernel
theorem dX7_isSmaller_23 : decode cX7_isSmaller 23 = .ok (.getfield 18, 3) := by decide +kernel
theorem dX7_isSmaller_26 : decode cX7_isSmaller 26 = .ok (.if_icmp .ge 7, 3) := by decide +kernel
theorem dX7_isSmaller_29 : decode cX7_isSmaller 29 = .ok (.iconst 1, 1) := by decide +kernel
theorem dX7_isSmaller_30 : decode cX7_isSmaller 30 = .ok (.goto 4, 3) := by decide +kernel
theorem dX7_isSmaller_33 : decode cX7_isSmaller 33 = .ok (.iconst 0, 1) := by decide +kernel
theorem dX7_isSmaller_34 : decode cX7_isSmaller 34 = .ok (.ireturn, 1) := by decide +kernel
