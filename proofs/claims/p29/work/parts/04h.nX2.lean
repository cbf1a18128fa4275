theorem dX2_init_0 : decode cX2_init 0 = .ok (.aload_n 0, 1) := by decide +kernel
theorem dX2_init_1 : decode cX2_init 1 = .ok (.invokespecial 3, 3) := by decide +kernel
theorem dX2_init_4 : decode cX2_init 4 = .ok (.return_, 1) := by decide +kernel
theorem dX2_begin_0 : decode cX2_begin 0 = .ok (.aload_n 0, 1) := by decide +kernel
theorem dX2_begin_1 : decode cX2_begin 1 = .ok (.iload_n 1, 1) := by decide +kernel
theorem dX2_begin_2 : decode cX2_begin 2 = .ok (.i2l, 1) := by decide +kernel
theorem dX2_begin_3 : decode cX2_begin 3 = .ok (.putfield 9, 3) := by decide +kernel
theorem dX2_begin_6 : decode cX2_begin 6 = .ok (.return_, 1) := by decide +kernel
theorem dX2_seed_0 : decode cX2_seed 0 = .ok (.aload_n 0, 1) := by decide +kernel
theorem dX2_seed_1 : decode cX2_seed 1 = .ok (.getfield 9, 3) := by decide +kernel
theorem dX2_seed_4 : decode cX2_seed 4 = .ok (.l2i, 1) := by decide +kernel
theorem dX2_seed_5 : decode cX2_seed 5 = .ok (.ireturn, 1) := by decide +kernel
set_option maxRecDepth 20000 in
theorem ggX2_passMonth_X2_next : GoodIn wsX2_passMonth wsX2_next := goodIn_r _ [7, 8, 9, 10, 11, 70] (by decide +kernel) (by decide +kernel)
set_option maxRecDepth 20000 in
theorem gX2_passMonth_X2_next : GoodIn wsX2_passMonth (wsV RX2 15 RX2 yX2_next wsX2_next) := goodIn_app (goodIn_of _ (by decide +kernel)) ggX2_passMonth_X2_next
set_option maxRecDepth 20000 in
theorem ggX2_passMonth_X4_takeMould : GoodIn wsX2_passMonth wsX4_takeMould := goodIn_r _ [16, 17, 18, 19, 20, 21, 22, 23, 15, 24, 25, 26, 27, 28, 29, 30, 31, 32, 33, 34, 35, 36, 62, 63, 64, 65, 66, 67, 68, 69] (by decide +kernel) (by decide +kernel)
set_option maxRecDepth 20000 in
theorem gX2_passMonth_X4_takeMould : GoodIn wsX2_passMonth (wsV RX2 19 RX4 yX4_takeMould wsX4_takeMould) := goodIn_app (goodIn_of _ (by decide +kernel)) ggX2_passMonth_X4_takeMould
set_option maxRecDepth 20000 in
theorem ggX2_passMonth_X4_knows : GoodIn wsX2_passMonth wsX4_knows := goodIn_r _ [40, 17, 62, 63, 64, 65, 66, 67, 68, 69] (by decide +kernel) (by decide +kernel)
set_option maxRecDepth 20000 in
theorem gX2_passMonth_X4_knows : GoodIn wsX2_passMonth (wsV RX2 29 RX4 yX4_knows wsX4_knows) := goodIn_app (goodIn_of _ (by decide +kernel)) ggX2_passMonth_X4_knows
set_option maxRecDepth 20000 in
theorem ggX2_passMonth_X4_isAtBank : GoodIn wsX2_passMonth wsX4_isAtBank := goodIn_r _ [24, 25, 62, 63, 64, 65, 66, 67, 68, 69] (by decide +kernel) (by decide +kernel)
set_option maxRecDepth 20000 in
theorem gX2_passMonth_X4_isAtBank : GoodIn wsX2_passMonth (wsV RX2 33 RX4 yX4_isAtBank wsX4_isAtBank) := goodIn_app (goodIn_of _ (by decide +kernel)) ggX2_passMonth_X4_isAtBank
set_option maxRecDepth 20000 in
theorem ggX2_passMonth_X4_goByHand : GoodIn wsX2_passMonth wsX4_goByHand := goodIn_r _ [45, 46, 19, 25, 47, 48, 49, 15, 50, 18, 51, 52, 28, 53, 30, 31, 32, 33, 54, 55, 56, 57, 58, 59, 60, 61, 62, 63, 64, 65, 66, 67, 68, 69] (by decide +kernel) (by decide +kernel)
set_option maxRecDepth 20000 in
theorem gX2_passMonth_X4_goByHand : GoodIn wsX2_passMonth (wsV RX2 40 RX4 yX4_goByHand wsX4_goByHand) := goodIn_app (goodIn_of _ (by decide +kernel)) ggX2_passMonth_X4_goByHand
theorem dX2_passMonth_0 : decode cX2_passMonth 0 = .ok (.aload_n 0, 1) := by decide +kernel
theorem dX2_passMonth_1 : decode cX2_passMonth 1 = .ok (.bipush 10, 2) := by decide +kernel
theorem dX2_passMonth_3 : decode cX2_passMonth 3 = .ok (.invokevirtual 15, 3) := by decide +kernel
theorem dX2_passMonth_6 : decode cX2_passMonth 6 = .ok (.iload_n 2, 1) := by decide +kernel
theorem dX2_passMonth_7 : decode cX2_passMonth 7 = .ok (.if_icmp .ge 7, 3) := by decide +kernel
theorem dX2_passMonth_10 : decode cX2_passMonth 10 = .ok (.iconst 1, 1) := by decide +kernel
theorem dX2_passMonth_11 : decode cX2_passMonth 11 = .ok (.goto 4, 3) := by decide +kernel
theorem dX2_passMonth_14 : decode cX2_passMonth 14 = .ok (.iconst 0, 1) := by decide +kernel
theorem dX2_passMonth_15 : decode cX2_passMonth 15 = .ok (.istore_n 3, 1) := by decide +kernel
theorem dX2_passMonth_16 : decode cX2_passMonth 16 = .ok (.iload_n 3, 1) := by decide +kernel
theorem dX2_passMonth_17 : decode cX2_passMonth 17 = .ok (.ifCond .eq 8, 3) := by decide +kernel
theorem dX2_passMonth_20 : decode cX2_passMonth 20 = .ok (.aload_n 1, 1) := by decide +kernel
theorem dX2_passMonth_21 : decode cX2_passMonth 21 = .ok (.invokevirtual 19, 3) := by decide +kernel
theorem dX2_passMonth_24 : decode cX2_passMonth 24 = .ok (.pop, 1) := by decide +kernel
theorem dX2_passMonth_25 : decode cX2_passMonth 25 = .ok (.aload_n 1, 1) := by decide +kernel
theorem dX2_passMonth_26 : decode cX2_passMonth 26 = .ok (.getfield 25, 3) := by decide +kernel
theorem dX2_passMonth_29 : decode cX2_passMonth 29 = .ok (.ifCond .le 60, 3) := by decide +kernel
theorem dX2_passMonth_32 : decode cX2_passMonth 32 = .ok (.aload_n 0, 1) := by decide +kernel
theorem dX2_passMonth_33 : decode cX2_passMonth 33 = .ok (.aload_n 1, 1) := by decide +kernel
theorem dX2_passMonth_34 : decode cX2_passMonth 34 = .ok (.getfield 25, 3) := by decide +kernel
theorem dX2_passMonth_37 : decode cX2_passMonth 37 = .ok (.invokevirtual 15, 3) := by decide +kernel
theorem dX2_passMonth_40 : decode cX2_passMonth 40 = .ok (.istore 4, 2) := by decide +kernel
theorem dX2_passMonth_42 : decode cX2_passMonth 42 = .ok (.aload_n 0, 1) := by decide +kernel
theorem dX2_passMonth_43 : decode cX2_passMonth 43 = .ok (.bipush 6, 2) := by decide +kernel
theorem dX2_passMonth_45 : decode cX2_passMonth 45 = .ok (.invokevirtual 15, 3) := by decide +kernel
theorem dX2_passMonth_48 : decode cX2_passMonth 48 = .ok (.istore 5, 2) := by decide +kernel
theorem dX2_passMonth_50 : decode cX2_passMonth 50 = .ok (.aload_n 1, 1) := by decide +kernel
theorem dX2_passMonth_51 : decode cX2_passMonth 51 = .ok (.iload 4, 2) := by decide +kernel
theorem dX2_passMonth_53 : decode cX2_passMonth 53 = .ok (.invokevirtual 29, 3) := by decide +kernel
theorem dX2_passMonth_56 : decode cX2_passMonth 56 = .ok (.ifCond .eq 33, 3) := by decide +kernel
theorem dX2_passMonth_59 : decode cX2_passMonth 59 = .ok (.aload_n 1, 1) := by decide +kernel
theorem dX2_passMonth_60 : decode cX2_passMonth 60 = .ok (.iload 4, 2) := by decide +kernel
theorem dX2_passMonth_62 : decode cX2_passMonth 62 = .ok (.invokevirtual 33, 3) := by decide +kernel
theorem dX2_passMonth_65 : decode cX2_passMonth 65 = .ok (.ifCond .ne 24, 3) := by decide +kernel
theorem dX2_passMonth_68 : decode cX2_passMonth 68 = .ok (.aload_n 1, 1) := by decide +kernel
theorem dX2_passMonth_69 : decode cX2_passMonth 69 = .ok (.getfield 36, 3) := by decide +kernel
theorem dX2_passMonth_72 : decode cX2_passMonth 72 = .ok (.iload 4, 2) := by decide +kernel
theorem dX2_passMonth_74 : decode cX2_passMonth 74 = .ok (.iaload, 1) := by decide +kernel
theorem dX2_passMonth_75 : decode cX2_passMonth 75 = .ok (.iload 5, 2) := by decide +kernel
theorem dX2_passMonth_77 : decode cX2_passMonth 77 = .ok (.if_icmp .eq 12, 3) := by decide +kernel
theorem dX2_passMonth_80 : decode cX2_passMonth 80 = .ok (.aload_n 1, 1) := by decide +kernel
theorem dX2_passMonth_81 : decode cX2_passMonth 81 = .ok (.iload 4, 2) := by decide +kernel
theorem dX2_passMonth_83 : decode cX2_passMonth 83 = .ok (.iload 5, 2) := by decide +kernel
theorem dX2_passMonth_85 : decode cX2_passMonth 85 = .ok (.invokevirtual 40, 3) := by decide +kernel
theorem dX2_passMonth_88 : decode cX2_passMonth 88 = .ok (.pop, 1) := by decide +kernel
theorem dX2_passMonth_89 : decode cX2_passMonth 89 = .ok (.iload_n 3, 1) := by decide +kernel
theorem dX2_passMonth_90 : decode cX2_passMonth 90 = .ok (.ifCond .eq 7, 3) := by decide +kernel
theorem dX2_passMonth_93 : decode cX2_passMonth 93 = .ok (.iconst 1, 1) := by decide +kernel
theorem dX2_passMonth_94 : decode cX2_passMonth 94 = .ok (.goto 4, 3) := by decide +kernel
theorem dX2_passMonth_97 : decode cX2_passMonth 97 = .ok (.iconst 0, 1) := by decide +kernel
theorem dX2_passMonth_98 : decode cX2_passMonth 98 = .ok (.ireturn, 1) := by decide +kernel
theorem dX2_next_0 : decode cX2_next 0 = .ok (.aload_n 0, 1) := by decide +kernel
theorem dX2_next_1 : decode cX2_next 1 = .ok (.ldc2_w 44, 3) := by decide +kernel
theorem dX2_next_4 : decode cX2_next 4 = .ok (.aload_n 0, 1) := by decide +kernel
theorem dX2_next_5 : decode cX2_next 5 = .ok (.getfield 9, 3) := by decide +kernel
theorem dX2_next_8 : decode cX2_next 8 = .ok (.lmul, 1) := by decide +kernel
theorem dX2_next_9 : decode cX2_next 9 = .ok (.ldc2_w 46, 3) := by decide +kernel
theorem dX2_next_12 : decode cX2_next 12 = .ok (.ladd, 1) := by decide +kernel
theorem dX2_next_13 : decode cX2_next 13 = .ok (.ldc2_w 48, 3) := by decide +kernel
theorem dX2_next_16 : decode cX2_next 16 = .ok (.land, 1) := by decide +kernel
theorem dX2_next_17 : decode cX2_next 17 = .ok (.putfield 9, 3) := by decide +kernel
theorem dX2_next_20 : decode cX2_next 20 = .ok (.iload_n 1, 1) := by decide +kernel
theorem dX2_next_21 : decode cX2_next 21 = .ok (.ifCond .le 17, 3) := by decide +kernel
theorem dX2_next_24 : decode cX2_next 24 = .ok (.aload_n 0, 1) := by decide +kernel
theorem dX2_next_25 : decode cX2_next 25 = .ok (.getfield 9, 3) := by decide +kernel
theorem dX2_next_28 : decode cX2_next 28 = .ok (.bipush 16, 2) := by decide +kernel
theorem dX2_next_30 : decode cX2_next 30 = .ok (.lshr, 1) := by decide +kernel
theorem dX2_next_31 : decode cX2_next 31 = .ok (.iload_n 1, 1) := by decide +kernel
theorem dX2_next_32 : decode cX2_next 32 = .ok (.i2l, 1) := by decide +kernel
theorem dX2_next_33 : decode cX2_next 33 = .ok (.lrem, 1) := by decide +kernel
theorem dX2_next_34 : decode cX2_next 34 = .ok (.l2i, 1) := by decide +kernel
theorem dX2_next_35 : decode cX2_next 35 = .ok (.goto 4, 3) := by decide +kernel
theorem dX2_next_38 : decode cX2_next 38 = .ok (.iconst 0, 1) := by decide +kernel
theorem dX2_next_39 : decode cX2_next 39 = .ok (.ireturn, 1) := by decide +kernel
