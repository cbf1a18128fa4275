theorem dX8_init_0 : decode cX8_init 0 = .ok (.aload_n 0, 1) := by decide +kernel
theorem dX8_init_1 : decode cX8_init 1 = .ok (.invokespecial 3, 3) := by decide +kernel
theorem dX8_init_4 : decode cX8_init 4 = .ok (.aload_n 0, 1) := by decide +kernel
theorem dX8_init_5 : decode cX8_init 5 = .ok (.bipush 6, 2) := by decide +kernel
theorem dX8_init_7 : decode cX8_init 7 = .ok (.newarray .int, 2) := by decide +kernel
theorem dX8_init_9 : decode cX8_init 9 = .ok (.putfield 9, 3) := by decide +kernel
theorem dX8_init_12 : decode cX8_init 12 = .ok (.aload_n 0, 1) := by decide +kernel
theorem dX8_init_13 : decode cX8_init 13 = .ok (.bipush 6, 2) := by decide +kernel
theorem dX8_init_15 : decode cX8_init 15 = .ok (.newarray .int, 2) := by decide +kernel
theorem dX8_init_17 : decode cX8_init 17 = .ok (.putfield 15, 3) := by decide +kernel
theorem dX8_init_20 : decode cX8_init 20 = .ok (.return_, 1) := by decide +kernel
set_option maxRecDepth 20000 in
theorem ggX8_search_X8_goOn : GoodIn wsX8_search wsX8_goOn := goodIn_r _ [7, 2, 1, 8, 9, 10, 11, 12, 13, 14, 15, 16, 17, 18, 3, 4, 5, 6, 19, 20, 21, 22] (by decide +kernel) (by decide +kernel)
set_option maxRecDepth 20000 in
theorem gX8_search_X8_goOn : GoodIn wsX8_search (wsV RX8 22 RX8 yX8_goOn wsX8_goOn) := goodIn_app (goodIn_of _ (by decide +kernel)) ggX8_search_X8_goOn
theorem dX8_search_0 : decode cX8_search 0 = .ok (.aload_n 0, 1) := by decide +kernel
theorem dX8_search_1 : decode cX8_search 1 = .ok (.iconst 0, 1) := by decide +kernel
theorem dX8_search_2 : decode cX8_search 2 = .ok (.putfield 18, 3) := by decide +kernel
theorem dX8_search_5 : decode cX8_search 5 = .ok (.iconst 0, 1) := by decide +kernel
theorem dX8_search_6 : decode cX8_search 6 = .ok (.istore_n 2, 1) := by decide +kernel
theorem dX8_search_7 : decode cX8_search 7 = .ok (.iload_n 2, 1) := by decide +kernel
theorem dX8_search_8 : decode cX8_search 8 = .ok (.bipush 6, 2) := by decide +kernel
theorem dX8_search_10 : decode cX8_search 10 = .ok (.if_icmp .ge 25, 3) := by decide +kernel
theorem dX8_search_13 : decode cX8_search 13 = .ok (.aload_n 0, 1) := by decide +kernel
theorem dX8_search_14 : decode cX8_search 14 = .ok (.getfield 9, 3) := by decide +kernel
theorem dX8_search_17 : decode cX8_search 17 = .ok (.iconst 0, 1) := by decide +kernel
theorem dX8_search_18 : decode cX8_search 18 = .ok (.iload_n 2, 1) := by decide +kernel
theorem dX8_search_19 : decode cX8_search 19 = .ok (.iastore, 1) := by decide +kernel
theorem dX8_search_20 : decode cX8_search 20 = .ok (.aload_n 0, 1) := by decide +kernel
theorem dX8_search_21 : decode cX8_search 21 = .ok (.aload_n 1, 1) := by decide +kernel
theorem dX8_search_22 : decode cX8_search 22 = .ok (.iconst 1, 1) := by decide +kernel
theorem dX8_search_23 : decode cX8_search 23 = .ok (.iconst 1, 1) := by decide +kernel
theorem dX8_search_24 : decode cX8_search 24 = .ok (.iload_n 2, 1) := by decide +kernel
theorem dX8_search_25 : decode cX8_search 25 = .ok (.ishl, 1) := by decide +kernel
theorem dX8_search_26 : decode cX8_search 26 = .ok (.invokevirtual 22, 3) := by decide +kernel
theorem dX8_search_29 : decode cX8_search 29 = .ok (.iinc 2 1, 3) := by decide +kernel
theorem dX8_search_32 : decode cX8_search 32 = .ok (.goto (-25), 3) := by decide +kernel
theorem dX8_search_35 : decode cX8_search 35 = .ok (.return_, 1) := by decide +kernel
theorem dX8_isFound_0 : decode cX8_isFound 0 = .ok (.aload_n 0, 1) := by decide +kernel
theorem dX8_isFound_1 : decode cX8_isFound 1 = .ok (.getfield 18, 3) := by decide +kernel
theorem dX8_isFound_4 : decode cX8_isFound 4 = .ok (.ifCond .le 7, 3) := by decide +kernel
theorem dX8_isFound_7 : decode cX8_isFound 7 = .ok (.iconst 1, 1) := by decide +kernel
theorem dX8_isFound_8 : decode cX8_isFound 8 = .ok (.goto 4, 3) := by decide +kernel
theorem dX8_isFound_11 : decode cX8_isFound 11 = .ok (.iconst 0, 1) := by decide +kernel
theorem dX8_isFound_12 : decode cX8_isFound 12 = .ok (.ireturn, 1) := by decide +kernel
set_option maxRecDepth 20000 in
theorem ggX8_tell_X8_leastSum : GoodIn wsX8_tell wsX8_leastSum := goodIn_r _ [7, 1, 2, 8, 9, 10, 6, 11, 12, 13, 14, 15, 16, 17, 18, 19, 20, 21] (by decide +kernel) (by decide +kernel)
set_option maxRecDepth 20000 in
theorem gX8_tell_X8_leastSum : GoodIn wsX8_tell (wsV RX8 26 RX8 yX8_leastSum wsX8_leastSum) := goodIn_app (goodIn_of _ (by decide +kernel)) ggX8_tell_X8_leastSum
theorem dX8_tell_0 : decode cX8_tell 0 = .ok (.iload_n 2, 1) := by decide +kernel
theorem dX8_tell_1 : decode cX8_tell 1 = .ok (.ifCond .ne 8, 3) := by decide +kernel
theorem dX8_tell_4 : decode cX8_tell 4 = .ok (.aload_n 0, 1) := by decide +kernel
theorem dX8_tell_5 : decode cX8_tell 5 = .ok (.getfield 18, 3) := by decide +kernel
theorem dX8_tell_8 : decode cX8_tell 8 = .ok (.ireturn, 1) := by decide +kernel
theorem dX8_tell_9 : decode cX8_tell 9 = .ok (.iload_n 2, 1) := by decide +kernel
theorem dX8_tell_10 : decode cX8_tell 10 = .ok (.iconst 1, 1) := by decide +kernel
theorem dX8_tell_11 : decode cX8_tell 11 = .ok (.if_icmp .ne 9, 3) := by decide +kernel
theorem dX8_tell_14 : decode cX8_tell 14 = .ok (.aload_n 0, 1) := by decide +kernel
theorem dX8_tell_15 : decode cX8_tell 15 = .ok (.aload_n 1, 1) := by decide +kernel
theorem dX8_tell_16 : decode cX8_tell 16 = .ok (.invokevirtual 26, 3) := by decide +kernel
theorem dX8_tell_19 : decode cX8_tell 19 = .ok (.ireturn, 1) := by decide +kernel
theorem dX8_tell_20 : decode cX8_tell 20 = .ok (.iload_n 2, 1) := by decide +kernel
theorem dX8_tell_21 : decode cX8_tell 21 = .ok (.bipush 10, 2) := by decide +kernel
theorem dX8_tell_23 : decode cX8_tell 23 = .ok (.isub, 1) := by decide +kernel
theorem dX8_tell_24 : decode cX8_tell 24 = .ok (.istore_n 3, 1) := by decide +kernel
theorem dX8_tell_25 : decode cX8_tell 25 = .ok (.iload_n 3, 1) := by decide +kernel
theorem dX8_tell_26 : decode cX8_tell 26 = .ok (.ifCond .lt 20, 3) := by decide +kernel
theorem dX8_tell_29 : decode cX8_tell 29 = .ok (.iload_n 3, 1) := by decide +kernel
theorem dX8_tell_30 : decode cX8_tell 30 = .ok (.aload_n 0, 1) := by decide +kernel
theorem dX8_tell_31 : decode cX8_tell 31 = .ok (.getfield 18, 3) := by decide +kernel
theorem dX8_tell_34 : decode cX8_tell 34 = .ok (.if_icmp .ge 12, 3) := by decide +kernel
theorem dX8_tell_37 : decode cX8_tell 37 = .ok (.aload_n 0, 1) := by decide +kernel
theorem dX8_tell_38 : decode cX8_tell 38 = .ok (.getfield 15, 3) := by decide +kernel
theorem dX8_tell_41 : decode cX8_tell 41 = .ok (.iload_n 3, 1) := by decide +kernel
theorem dX8_tell_42 : decode cX8_tell 42 = .ok (.iaload, 1) := by decide +kernel
theorem dX8_tell_43 : decode cX8_tell 43 = .ok (.goto 4, 3) := by decide +kernel
theorem dX8_tell_46 : decode cX8_tell 46 = .ok (.iconst (-1), 1) := by decide +kernel
theorem dX8_tell_47 : decode cX8_tell 47 = .ok (.ireturn, 1) := by decide +kernel
set_option maxRecDepth 20000 in
theorem ggX8_takeOff_X8_leastSum : GoodIn wsX8_takeOff wsX8_leastSum := goodIn_r _ [7, 1, 2, 8, 9, 10, 6, 11, 12, 13, 14, 15, 16, 17, 31, 32, 33, 34] (by decide +kernel) (by decide +kernel)
set_option maxRecDepth 20000 in
theorem gX8_takeOff_X8_leastSum : GoodIn wsX8_takeOff (wsV RX8 26 RX8 yX8_leastSum wsX8_leastSum) := goodIn_app (goodIn_of _ (by decide +kernel)) ggX8_takeOff_X8_leastSum
set_option maxRecDepth 20000 in
theorem ggX8_takeOff_X8_behind : GoodIn wsX8_takeOff wsX8_behind := goodIn_r _ [11, 1, 2, 31, 32, 33] (by decide +kernel) (by decide +kernel)
set_option maxRecDepth 20000 in
theorem gX8_takeOff_X8_behind : GoodIn wsX8_takeOff (wsV RX8 30 RX8 yX8_behind wsX8_behind) := goodIn_app (goodIn_of _ (by decide +kernel)) ggX8_takeOff_X8_behind
set_option maxRecDepth 20000 in
theorem ggX8_takeOff_X1_lessen : GoodIn wsX8_takeOff wsX1_lessen := goodIn_r _ [21, 22, 23, 24, 25, 26, 13, 14, 15, 16, 17, 27, 28, 29, 30, 34] (by decide +kernel) (by decide +kernel)
set_option maxRecDepth 20000 in
theorem gX8_takeOff_X1_lessen : GoodIn wsX8_takeOff (wsV RX8 34 RX1 yX1_lessen wsX1_lessen) := goodIn_app (goodIn_of _ (by decide +kernel)) ggX8_takeOff_X1_lessen
theorem dX8_takeOff_0 : decode cX8_takeOff 0 = .ok (.aload_n 0, 1) := by decide +kernel
theorem dX8_takeOff_1 : decode cX8_takeOff 1 = .ok (.aload_n 1, 1) := by decide +kernel
theorem dX8_takeOff_2 : decode cX8_takeOff 2 = .ok (.invokevirtual 26, 3) := by decide +kernel
theorem dX8_takeOff_5 : decode cX8_takeOff 5 = .ok (.istore_n 2, 1) := by decide +kernel
theorem dX8_takeOff_6 : decode cX8_takeOff 6 = .ok (.iconst 0, 1) := by decide +kernel
theorem dX8_takeOff_7 : decode cX8_takeOff 7 = .ok (.istore_n 3, 1) := by decide +kernel
theorem dX8_takeOff_8 : decode cX8_takeOff 8 = .ok (.iload_n 3, 1) := by decide +kernel
theorem dX8_takeOff_9 : decode cX8_takeOff 9 = .ok (.aload_n 0, 1) := by decide +kernel
theorem dX8_takeOff_10 : decode cX8_takeOff 10 = .ok (.getfield 18, 3) := by decide +kernel
theorem dX8_takeOff_13 : decode cX8_takeOff 13 = .ok (.if_icmp .ge 25, 3) := by decide +kernel
theorem dX8_takeOff_16 : decode cX8_takeOff 16 = .ok (.aload_n 1, 1) := by decide +kernel
theorem dX8_takeOff_17 : decode cX8_takeOff 17 = .ok (.aload_n 0, 1) := by decide +kernel
theorem dX8_takeOff_18 : decode cX8_takeOff 18 = .ok (.getfield 15, 3) := by decide +kernel
theorem dX8_takeOff_21 : decode cX8_takeOff 21 = .ok (.iload_n 3, 1) := by decide +kernel
theorem dX8_takeOff_22 : decode cX8_takeOff 22 = .ok (.iaload, 1) := by decide +kernel
theorem dX8_takeOff_23 : decode cX8_takeOff 23 = .ok (.aload_n 0, 1) := by decide +kernel
theorem dX8_takeOff_24 : decode cX8_takeOff 24 = .ok (.iload_n 3, 1) := by decide +kernel
theorem dX8_takeOff_25 : decode cX8_takeOff 25 = .ok (.invokevirtual 30, 3) := by decide +kernel
theorem dX8_takeOff_28 : decode cX8_takeOff 28 = .ok (.iload_n 2, 1) := by decide +kernel
theorem dX8_takeOff_29 : decode cX8_takeOff 29 = .ok (.invokevirtual 34, 3) := by decide +kernel
theorem dX8_takeOff_32 : decode cX8_takeOff 32 = .ok (.iinc 3 1, 3) := by decide +kernel
theorem dX8_takeOff_35 : decode cX8_takeOff 35 = .ok (.goto (-27), 3) := by decide +kernel
theorem dX8_takeOff_38 : decode cX8_takeOff 38 = .ok (.iload_n 2, 1) := by decide +kernel
theorem dX8_takeOff_39 : decode cX8_takeOff 39 = .ok (.ireturn, 1) := by decide +kernel
set_option maxRecDepth 20000 in
theorem ggX8_goOn_X1_sum : GoodIn wsX8_goOn wsX1_sum := goodIn_r _ [12, 13, 21] (by decide +kernel) (by decide +kernel)
set_option maxRecDepth 20000 in
theorem gX8_goOn_X1_sum : GoodIn wsX8_goOn (wsV RX8 40 RX1 yX1_sum wsX1_sum) := goodIn_app (goodIn_of _ (by decide +kernel)) ggX8_goOn_X1_sum
set_option maxRecDepth 20000 in
theorem ggX8_goOn_X8_goOn : GoodIn wsX8_goOn wsX8_goOn := goodIn_r _ [0, 1, 2, 3, 4, 5, 6, 7, 8, 9, 10, 11, 12, 13, 14, 15, 16, 17, 18, 19, 20, 21] (by decide +kernel) (by decide +kernel)
set_option maxRecDepth 20000 in
theorem gX8_goOn_X8_goOn : GoodIn wsX8_goOn (wsV RX8 22 RX8 yX8_goOn wsX8_goOn) := goodIn_app (goodIn_of _ (by decide +kernel)) ggX8_goOn_X8_goOn
theorem dX8_goOn_0 : decode cX8_goOn 0 = .ok (.iload_n 2, 1) := by decide +kernel
theorem dX8_goOn_1 : decode cX8_goOn 1 = .ok (.iconst 1, 1) := by decide +kernel
theorem dX8_goOn_2 : decode cX8_goOn 2 = .ok (.if_icmp .lt 9, 3) := by decide +kernel
theorem dX8_goOn_5 : decode cX8_goOn 5 = .ok (.iload_n 2, 1) := by decide +kernel
theorem dX8_goOn_6 : decode cX8_goOn 6 = .ok (.bipush 6, 2) := by decide +kernel
theorem dX8_goOn_8 : decode cX8_goOn 8 = .ok (.if_icmp .le 4, 3) := by decide +kernel
theorem dX8_goOn_11 : decode cX8_goOn 11 = .ok (.return_, 1) := by decide +kernel
theorem dX8_goOn_12 : decode cX8_goOn 12 = .ok (.aload_n 0, 1) := by decide +kernel
theorem dX8_goOn_13 : decode cX8_goOn 13 = .ok (.getfield 9, 3) := by decide +kernel
theorem dX8_goOn_16 : decode cX8_goOn 16 = .ok (.iload_n 2, 1) := by decide +kernel
theorem dX8_goOn_17 : decode cX8_goOn 17 = .ok (.iconst 1, 1) := by decide +kernel
theorem dX8_goOn_18 : decode cX8_goOn 18 = .ok (.isub, 1) := by decide +kernel
theorem dX8_goOn_19 : decode cX8_goOn 19 = .ok (.iaload, 1) := by decide +kernel
theorem dX8_goOn_20 : decode cX8_goOn 20 = .ok (.istore 4, 2) := by decide +kernel
theorem dX8_goOn_22 : decode cX8_goOn 22 = .ok (.iload_n 2, 1) := by decide +kernel
theorem dX8_goOn_23 : decode cX8_goOn 23 = .ok (.iconst 1, 1) := by decide +kernel
theorem dX8_goOn_24 : decode cX8_goOn 24 = .ok (.if_icmp .le 45, 3) := by decide +kernel
theorem dX8_goOn_27 : decode cX8_goOn 27 = .ok (.iload_n 2, 1) := by decide +kernel
theorem dX8_goOn_28 : decode cX8_goOn 28 = .ok (.aload_n 0, 1) := by decide +kernel
theorem dX8_goOn_29 : decode cX8_goOn 29 = .ok (.getfield 18, 3) := by decide +kernel
theorem dX8_goOn_32 : decode cX8_goOn 32 = .ok (.if_icmp .le 37, 3) := by decide +kernel
theorem dX8_goOn_35 : decode cX8_goOn 35 = .ok (.aload_n 1, 1) := by decide +kernel
theorem dX8_goOn_36 : decode cX8_goOn 36 = .ok (.iload 4, 2) := by decide +kernel
theorem dX8_goOn_38 : decode cX8_goOn 38 = .ok (.aload_n 0, 1) := by decide +kernel
theorem dX8_goOn_39 : decode cX8_goOn 39 = .ok (.getfield 9, 3) := by decide +kernel
theorem dX8_goOn_42 : decode cX8_goOn 42 = .ok (.iconst 0, 1) := by decide +kernel
theorem dX8_goOn_43 : decode cX8_goOn 43 = .ok (.iaload, 1) := by decide +kernel
theorem dX8_goOn_44 : decode cX8_goOn 44 = .ok (.invokevirtual 40, 3) := by decide +kernel
theorem dX8_goOn_47 : decode cX8_goOn 47 = .ok (.ifCond .le 22, 3) := by decide +kernel
theorem dX8_goOn_50 : decode cX8_goOn 50 = .ok (.aload_n 0, 1) := by decide +kernel
theorem dX8_goOn_51 : decode cX8_goOn 51 = .ok (.getfield 9, 3) := by decide +kernel
theorem dX8_goOn_54 : decode cX8_goOn 54 = .ok (.iconst 0, 1) := by decide +kernel
theorem dX8_goOn_55 : decode cX8_goOn 55 = .ok (.aload_n 0, 1) := by decide +kernel
theorem dX8_goOn_56 : decode cX8_goOn 56 = .ok (.getfield 15, 3) := by decide +kernel
theorem dX8_goOn_59 : decode cX8_goOn 59 = .ok (.iconst 0, 1) := by decide +kernel
theorem dX8_goOn_60 : decode cX8_goOn 60 = .ok (.iload_n 2, 1) := by decide +kernel
theorem dX8_goOn_61 : decode cX8_goOn 61 = .ok (.invokestatic 44, 3) := by decide +kernel
theorem dX8_goOn_64 : decode cX8_goOn 64 = .ok (.aload_n 0, 1) := by decide +kernel
theorem dX8_goOn_65 : decode cX8_goOn 65 = .ok (.iload_n 2, 1) := by decide +kernel
theorem dX8_goOn_66 : decode cX8_goOn 66 = .ok (.putfield 18, 3) := by decide +kernel
theorem dX8_goOn_69 : decode cX8_goOn 69 = .ok (.iload_n 2, 1) := by decide +kernel
theorem dX8_goOn_70 : decode cX8_goOn 70 = .ok (.bipush 6, 2) := by decide +kernel
theorem dX8_goOn_72 : decode cX8_goOn 72 = .ok (.if_icmp .ne 4, 3) := by decide +kernel
theorem dX8_goOn_75 : decode cX8_goOn 75 = .ok (.return_, 1) := by decide +kernel
theorem dX8_goOn_76 : decode cX8_goOn 76 = .ok (.aload_n 0, 1) := by decide +kernel
theorem dX8_goOn_77 : decode cX8_goOn 77 = .ok (.getfield 9, 3) := by decide +kernel
theorem dX8_goOn_80 : decode cX8_goOn 80 = .ok (.iconst 0, 1) := by decide +kernel
theorem dX8_goOn_81 : decode cX8_goOn 81 = .ok (.iaload, 1) := by decide +kernel
theorem dX8_goOn_82 : decode cX8_goOn 82 = .ok (.iconst 1, 1) := by decide +kernel
theorem dX8_goOn_83 : decode cX8_goOn 83 = .ok (.iadd, 1) := by decide +kernel
theorem dX8_goOn_84 : decode cX8_goOn 84 = .ok (.istore 5, 2) := by decide +kernel
theorem dX8_goOn_86 : decode cX8_goOn 86 = .ok (.iload 5, 2) := by decide +kernel
theorem dX8_goOn_88 : decode cX8_goOn 88 = .ok (.bipush 6, 2) := by decide +kernel
theorem dX8_goOn_90 : decode cX8_goOn 90 = .ok (.if_icmp .ge 51, 3) := by decide +kernel
theorem dX8_goOn_93 : decode cX8_goOn 93 = .ok (.iload_n 3, 1) := by decide +kernel
theorem dX8_goOn_94 : decode cX8_goOn 94 = .ok (.iload 5, 2) := by decide +kernel
theorem dX8_goOn_96 : decode cX8_goOn 96 = .ok (.ishr, 1) := by decide +kernel
theorem dX8_goOn_97 : decode cX8_goOn 97 = .ok (.iconst 1, 1) := by decide +kernel
theorem dX8_goOn_98 : decode cX8_goOn 98 = .ok (.iand, 1) := by decide +kernel
theorem dX8_goOn_99 : decode cX8_goOn 99 = .ok (.ifCond .ne 36, 3) := by decide +kernel
theorem dX8_goOn_102 : decode cX8_goOn 102 = .ok (.aload_n 1, 1) := by decide +kernel
theorem dX8_goOn_103 : decode cX8_goOn 103 = .ok (.iload 4, 2) := by decide +kernel
theorem dX8_goOn_105 : decode cX8_goOn 105 = .ok (.iload 5, 2) := by decide +kernel
theorem dX8_goOn_107 : decode cX8_goOn 107 = .ok (.invokevirtual 40, 3) := by decide +kernel
theorem dX8_goOn_110 : decode cX8_goOn 110 = .ok (.ifCond .le 25, 3) := by decide +kernel
theorem dX8_goOn_113 : decode cX8_goOn 113 = .ok (.aload_n 0, 1) := by decide +kernel
theorem dX8_goOn_114 : decode cX8_goOn 114 = .ok (.getfield 9, 3) := by decide +kernel
theorem dX8_goOn_117 : decode cX8_goOn 117 = .ok (.iload_n 2, 1) := by decide +kernel
theorem dX8_goOn_118 : decode cX8_goOn 118 = .ok (.iload 5, 2) := by decide +kernel
theorem dX8_goOn_120 : decode cX8_goOn 120 = .ok (.iastore, 1) := by decide +kernel
theorem dX8_goOn_121 : decode cX8_goOn 121 = .ok (.aload_n 0, 1) := by decide +kernel
theorem dX8_goOn_122 : decode cX8_goOn 122 = .ok (.aload_n 1, 1) := by decide +kernel
theorem dX8_goOn_123 : decode cX8_goOn 123 = .ok (.iload_n 2, 1) := by decide +kernel
theorem dX8_goOn_124 : decode cX8_goOn 124 = .ok (.iconst 1, 1) := by decide +kernel
theorem dX8_goOn_125 : decode cX8_goOn 125 = .ok (.iadd, 1) := by decide +kernel
theorem dX8_goOn_126 : decode cX8_goOn 126 = .ok (.iload_n 3, 1) := by decide +kernel
theorem dX8_goOn_127 : decode cX8_goOn 127 = .ok (.iconst 1, 1) := by decide +kernel
theorem dX8_goOn_128 : decode cX8_goOn 128 = .ok (.iload 5, 2) := by decide +kernel
theorem dX8_goOn_130 : decode cX8_goOn 130 = .ok (.ishl, 1) := by decide +kernel
theorem dX8_goOn_131 : decode cX8_goOn 131 = .ok (.ior, 1) := by decide +kernel
theorem dX8_goOn_132 : decode cX8_goOn 132 = .ok (.invokevirtual 22, 3) := by decide +kernel
theorem dX8_goOn_135 : decode cX8_goOn 135 = .ok (.iinc 5 1, 3) := by decide +kernel
theorem dX8_goOn_138 : decode cX8_goOn 138 = .ok (.goto (-52), 3) := by decide +kernel
theorem dX8_goOn_141 : decode cX8_goOn 141 = .ok (.return_, 1) := by decide +kernel
set_option maxRecDepth 20000 in
theorem ggX8_leastSum_X8_behind : GoodIn wsX8_leastSum wsX8_behind := goodIn_r _ [7, 1, 2, 14, 15, 16] (by decide +kernel) (by decide +kernel)
set_option maxRecDepth 20000 in
theorem gX8_leastSum_X8_behind : GoodIn wsX8_leastSum (wsV RX8 30 RX8 yX8_behind wsX8_behind) := goodIn_app (goodIn_of _ (by decide +kernel)) ggX8_leastSum_X8_behind
set_option maxRecDepth 20000 in
theorem ggX8_leastSum_X1_sum : GoodIn wsX8_leastSum wsX1_sum := goodIn_r _ [12, 13, 17] (by decide +kernel) (by decide +kernel)
set_option maxRecDepth 20000 in
theorem gX8_leastSum_X1_sum : GoodIn wsX8_leastSum (wsV RX8 40 RX1 yX1_sum wsX1_sum) := goodIn_app (goodIn_of _ (by decide +kernel)) ggX8_leastSum_X1_sum
theorem dX8_leastSum_0 : decode cX8_leastSum 0 = .ok (.iconst (-1), 1) := by decide +kernel
theorem dX8_leastSum_1 : decode cX8_leastSum 1 = .ok (.istore_n 2, 1) := by decide +kernel
theorem dX8_leastSum_2 : decode cX8_leastSum 2 = .ok (.iconst 0, 1) := by decide +kernel
theorem dX8_leastSum_3 : decode cX8_leastSum 3 = .ok (.istore_n 3, 1) := by decide +kernel
theorem dX8_leastSum_4 : decode cX8_leastSum 4 = .ok (.iload_n 3, 1) := by decide +kernel
theorem dX8_leastSum_5 : decode cX8_leastSum 5 = .ok (.aload_n 0, 1) := by decide +kernel
theorem dX8_leastSum_6 : decode cX8_leastSum 6 = .ok (.getfield 18, 3) := by decide +kernel
theorem dX8_leastSum_9 : decode cX8_leastSum 9 = .ok (.if_icmp .ge 40, 3) := by decide +kernel
theorem dX8_leastSum_12 : decode cX8_leastSum 12 = .ok (.aload_n 1, 1) := by decide +kernel
theorem dX8_leastSum_13 : decode cX8_leastSum 13 = .ok (.aload_n 0, 1) := by decide +kernel
theorem dX8_leastSum_14 : decode cX8_leastSum 14 = .ok (.getfield 15, 3) := by decide +kernel
theorem dX8_leastSum_17 : decode cX8_leastSum 17 = .ok (.iload_n 3, 1) := by decide +kernel
theorem dX8_leastSum_18 : decode cX8_leastSum 18 = .ok (.iaload, 1) := by decide +kernel
theorem dX8_leastSum_19 : decode cX8_leastSum 19 = .ok (.aload_n 0, 1) := by decide +kernel
theorem dX8_leastSum_20 : decode cX8_leastSum 20 = .ok (.iload_n 3, 1) := by decide +kernel
theorem dX8_leastSum_21 : decode cX8_leastSum 21 = .ok (.invokevirtual 30, 3) := by decide +kernel
theorem dX8_leastSum_24 : decode cX8_leastSum 24 = .ok (.invokevirtual 40, 3) := by decide +kernel
theorem dX8_leastSum_27 : decode cX8_leastSum 27 = .ok (.istore 4, 2) := by decide +kernel
theorem dX8_leastSum_29 : decode cX8_leastSum 29 = .ok (.iload_n 2, 1) := by decide +kernel
theorem dX8_leastSum_30 : decode cX8_leastSum 30 = .ok (.iconst (-1), 1) := by decide +kernel
theorem dX8_leastSum_31 : decode cX8_leastSum 31 = .ok (.if_icmp .eq 9, 3) := by decide +kernel
theorem dX8_leastSum_34 : decode cX8_leastSum 34 = .ok (.iload 4, 2) := by decide +kernel
theorem dX8_leastSum_36 : decode cX8_leastSum 36 = .ok (.iload_n 2, 1) := by decide +kernel
theorem dX8_leastSum_37 : decode cX8_leastSum 37 = .ok (.if_icmp .ge 6, 3) := by decide +kernel
theorem dX8_leastSum_40 : decode cX8_leastSum 40 = .ok (.iload 4, 2) := by decide +kernel
theorem dX8_leastSum_42 : decode cX8_leastSum 42 = .ok (.istore_n 2, 1) := by decide +kernel
theorem dX8_leastSum_43 : decode cX8_leastSum 43 = .ok (.iinc 3 1, 3) := by decide +kernel
theorem dX8_leastSum_46 : decode cX8_leastSum 46 = .ok (.goto (-42), 3) := by decide +kernel
theorem dX8_leastSum_49 : decode cX8_leastSum 49 = .ok (.iload_n 2, 1) := by decide +kernel
theorem dX8_leastSum_50 : decode cX8_leastSum 50 = .ok (.ireturn, 1) := by decide +kernel
theorem dX8_behind_0 : decode cX8_behind 0 = .ok (.iload_n 1, 1) := by decide +kernel
theorem dX8_behind_1 : decode cX8_behind 1 = .ok (.iconst 1, 1) := by decide +kernel
theorem dX8_behind_2 : decode cX8_behind 2 = .ok (.iadd, 1) := by decide +kernel
theorem dX8_behind_3 : decode cX8_behind 3 = .ok (.aload_n 0, 1) := by decide +kernel
theorem dX8_behind_4 : decode cX8_behind 4 = .ok (.getfield 18, 3) := by decide +kernel
theorem dX8_behind_7 : decode cX8_behind 7 = .ok (.if_icmp .ge 14, 3) := by decide +kernel
theorem dX8_behind_10 : decode cX8_behind 10 = .ok (.aload_n 0, 1) := by decide +kernel
theorem dX8_behind_11 : decode cX8_behind 11 = .ok (.getfield 15, 3) := by decide +kernel
theorem dX8_behind_14 : decode cX8_behind 14 = .ok (.iload_n 1, 1) := by decide +kernel
theorem dX8_behind_15 : decode cX8_behind 15 = .ok (.iconst 1, 1) := by decide +kernel
theorem dX8_behind_16 : decode cX8_behind 16 = .ok (.iadd, 1) := by decide +kernel
theorem dX8_behind_17 : decode cX8_behind 17 = .ok (.iaload, 1) := by decide +kernel
theorem dX8_behind_18 : decode cX8_behind 18 = .ok (.goto 9, 3) := by decide +kernel
theorem dX8_behind_21 : decode cX8_behind 21 = .ok (.aload_n 0, 1) := by decide +kernel
theorem dX8_behind_22 : decode cX8_behind 22 = .ok (.getfield 15, 3) := by decide +kernel
theorem dX8_behind_25 : decode cX8_behind 25 = .ok (.iconst 0, 1) := by decide +kernel
theorem dX8_behind_26 : decode cX8_behind 26 = .ok (.iaload, 1) := by decide +kernel
theorem dX8_behind_27 : decode cX8_behind 27 = .ok (.ireturn, 1) := by decide +kernel
