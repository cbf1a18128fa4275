theorem dX9_init_0 : decode cX9_init 0 = .ok (.aload_n 0, 1) := by decide +kernel
theorem dX9_init_1 : decode cX9_init 1 = .ok (.invokespecial 3, 3) := by decide +kernel
theorem dX9_init_4 : decode cX9_init 4 = .ok (.aload_n 0, 1) := by decide +kernel
theorem dX9_init_5 : decode cX9_init 5 = .ok (.bipush 6, 2) := by decide +kernel
theorem dX9_init_7 : decode cX9_init 7 = .ok (.newarray .int, 2) := by decide +kernel
theorem dX9_init_9 : decode cX9_init 9 = .ok (.putfield 9, 3) := by decide +kernel
theorem dX9_init_12 : decode cX9_init 12 = .ok (.return_, 1) := by decide +kernel
set_option maxRecDepth 20000 in
theorem ggX9_orders_X9_ordersFrom : GoodIn wsX9_orders wsX9_ordersFrom := goodIn_r _ [4, 5, 6, 7, 8, 9, 10, 11, 12, 13, 14, 15, 1, 2, 3, 16, 17, 18, 19, 20, 21] (by decide +kernel) (by decide +kernel)
set_option maxRecDepth 20000 in
theorem gX9_orders_X9_ordersFrom : GoodIn wsX9_orders (va_wsS RX9 15 yX9_ordersFrom wsX9_ordersFrom) := goodIn_app (goodIn_of _ (by decide +kernel)) ggX9_orders_X9_ordersFrom
theorem dX9_orders_0 : decode cX9_orders 0 = .ok (.iload_n 0, 1) := by decide +kernel
theorem dX9_orders_1 : decode cX9_orders 1 = .ok (.bipush 9, 2) := by decide +kernel
theorem dX9_orders_3 : decode cX9_orders 3 = .ok (.iload_n 1, 1) := by decide +kernel
theorem dX9_orders_4 : decode cX9_orders 4 = .ok (.iload_n 2, 1) := by decide +kernel
theorem dX9_orders_5 : decode cX9_orders 5 = .ok (.iload_n 3, 1) := by decide +kernel
theorem dX9_orders_6 : decode cX9_orders 6 = .ok (.invokestatic 15, 3) := by decide +kernel
theorem dX9_orders_9 : decode cX9_orders 9 = .ok (.ireturn, 1) := by decide +kernel
set_option maxRecDepth 20000 in
theorem ggX9_ordersFrom_X5_behindHand : GoodIn wsX9_ordersFrom wsX5_behindHand := goodIn_r _ [4, 5, 6, 7, 8, 9, 10, 3, 11] (by decide +kernel) (by decide +kernel)
set_option maxRecDepth 20000 in
theorem gX9_ordersFrom_X5_behindHand : GoodIn wsX9_ordersFrom (va_wsS RX9 19 yX5_behindHand wsX5_behindHand) := goodIn_app (goodIn_of _ (by decide +kernel)) ggX9_ordersFrom_X5_behindHand
set_option maxRecDepth 20000 in
theorem ggX9_ordersFrom_X9_ordersFrom : GoodIn wsX9_ordersFrom wsX9_ordersFrom := goodIn_r _ [0, 1, 2, 3, 4, 5, 6, 7, 8, 9, 10, 11, 12, 13, 14, 15, 16, 17, 18, 19, 20] (by decide +kernel) (by decide +kernel)
set_option maxRecDepth 20000 in
theorem gX9_ordersFrom_X9_ordersFrom : GoodIn wsX9_ordersFrom (va_wsS RX9 15 yX9_ordersFrom wsX9_ordersFrom) := goodIn_app (goodIn_of _ (by decide +kernel)) ggX9_ordersFrom_X9_ordersFrom
set_option maxRecDepth 20000 in
theorem ggX9_ordersFrom_X5_behindDamp : GoodIn wsX9_ordersFrom wsX5_behindDamp := goodIn_r _ [17, 5, 6, 7, 8, 18, 19, 3, 20] (by decide +kernel) (by decide +kernel)
set_option maxRecDepth 20000 in
theorem gX9_ordersFrom_X5_behindDamp : GoodIn wsX9_ordersFrom (va_wsS RX9 25 yX5_behindDamp wsX5_behindDamp) := goodIn_app (goodIn_of _ (by decide +kernel)) ggX9_ordersFrom_X5_behindDamp
theorem dX9_ordersFrom_0 : decode cX9_ordersFrom 0 = .ok (.iload_n 2, 1) := by decide +kernel
theorem dX9_ordersFrom_1 : decode cX9_ordersFrom 1 = .ok (.ifCond .lt 24, 3) := by decide +kernel
theorem dX9_ordersFrom_4 : decode cX9_ordersFrom 4 = .ok (.iload_n 2, 1) := by decide +kernel
theorem dX9_ordersFrom_5 : decode cX9_ordersFrom 5 = .ok (.bipush 6, 2) := by decide +kernel
theorem dX9_ordersFrom_7 : decode cX9_ordersFrom 7 = .ok (.if_icmp .gt 18, 3) := by decide +kernel
theorem dX9_ordersFrom_10 : decode cX9_ordersFrom 10 = .ok (.iload_n 3, 1) := by decide +kernel
theorem dX9_ordersFrom_11 : decode cX9_ordersFrom 11 = .ok (.ifCond .lt 14, 3) := by decide +kernel
theorem dX9_ordersFrom_14 : decode cX9_ordersFrom 14 = .ok (.iload_n 3, 1) := by decide +kernel
theorem dX9_ordersFrom_15 : decode cX9_ordersFrom 15 = .ok (.iconst 4, 1) := by decide +kernel
theorem dX9_ordersFrom_16 : decode cX9_ordersFrom 16 = .ok (.if_icmp .gt 9, 3) := by decide +kernel
theorem dX9_ordersFrom_19 : decode cX9_ordersFrom 19 = .ok (.iload_n 1, 1) := by decide +kernel
theorem dX9_ordersFrom_20 : decode cX9_ordersFrom 20 = .ok (.iload 4, 2) := by decide +kernel
theorem dX9_ordersFrom_22 : decode cX9_ordersFrom 22 = .ok (.if_icmp .ge 5, 3) := by decide +kernel
theorem dX9_ordersFrom_25 : decode cX9_ordersFrom 25 = .ok (.iconst 0, 1) := by decide +kernel
theorem dX9_ordersFrom_26 : decode cX9_ordersFrom 26 = .ok (.ireturn, 1) := by decide +kernel
theorem dX9_ordersFrom_27 : decode cX9_ordersFrom 27 = .ok (.iload_n 2, 1) := by decide +kernel
theorem dX9_ordersFrom_28 : decode cX9_ordersFrom 28 = .ok (.ifCond .ne 19, 3) := by decide +kernel
theorem dX9_ordersFrom_31 : decode cX9_ordersFrom 31 = .ok (.iload_n 3, 1) := by decide +kernel
theorem dX9_ordersFrom_32 : decode cX9_ordersFrom 32 = .ok (.ifCond .ne 15, 3) := by decide +kernel
theorem dX9_ordersFrom_35 : decode cX9_ordersFrom 35 = .ok (.iload_n 1, 1) := by decide +kernel
theorem dX9_ordersFrom_36 : decode cX9_ordersFrom 36 = .ok (.iload 4, 2) := by decide +kernel
theorem dX9_ordersFrom_38 : decode cX9_ordersFrom 38 = .ok (.if_icmp .ne 7, 3) := by decide +kernel
theorem dX9_ordersFrom_41 : decode cX9_ordersFrom 41 = .ok (.iconst 1, 1) := by decide +kernel
theorem dX9_ordersFrom_42 : decode cX9_ordersFrom 42 = .ok (.goto 4, 3) := by decide +kernel
theorem dX9_ordersFrom_45 : decode cX9_ordersFrom 45 = .ok (.iconst 0, 1) := by decide +kernel
theorem dX9_ordersFrom_46 : decode cX9_ordersFrom 46 = .ok (.ireturn, 1) := by decide +kernel
theorem dX9_ordersFrom_47 : decode cX9_ordersFrom 47 = .ok (.iload_n 0, 1) := by decide +kernel
theorem dX9_ordersFrom_48 : decode cX9_ordersFrom 48 = .ok (.iload_n 0, 1) := by decide +kernel
theorem dX9_ordersFrom_49 : decode cX9_ordersFrom 49 = .ok (.iload_n 1, 1) := by decide +kernel
theorem dX9_ordersFrom_50 : decode cX9_ordersFrom 50 = .ok (.invokestatic 19, 3) := by decide +kernel
theorem dX9_ordersFrom_53 : decode cX9_ordersFrom 53 = .ok (.iload_n 2, 1) := by decide +kernel
theorem dX9_ordersFrom_54 : decode cX9_ordersFrom 54 = .ok (.iconst 1, 1) := by decide +kernel
theorem dX9_ordersFrom_55 : decode cX9_ordersFrom 55 = .ok (.isub, 1) := by decide +kernel
theorem dX9_ordersFrom_56 : decode cX9_ordersFrom 56 = .ok (.iload_n 3, 1) := by decide +kernel
theorem dX9_ordersFrom_57 : decode cX9_ordersFrom 57 = .ok (.iload 4, 2) := by decide +kernel
theorem dX9_ordersFrom_59 : decode cX9_ordersFrom 59 = .ok (.invokestatic 15, 3) := by decide +kernel
theorem dX9_ordersFrom_62 : decode cX9_ordersFrom 62 = .ok (.iload_n 0, 1) := by decide +kernel
theorem dX9_ordersFrom_63 : decode cX9_ordersFrom 63 = .ok (.iload_n 0, 1) := by decide +kernel
theorem dX9_ordersFrom_64 : decode cX9_ordersFrom 64 = .ok (.iload_n 1, 1) := by decide +kernel
theorem dX9_ordersFrom_65 : decode cX9_ordersFrom 65 = .ok (.invokestatic 25, 3) := by decide +kernel
theorem dX9_ordersFrom_68 : decode cX9_ordersFrom 68 = .ok (.iload_n 2, 1) := by decide +kernel
theorem dX9_ordersFrom_69 : decode cX9_ordersFrom 69 = .ok (.iload_n 3, 1) := by decide +kernel
theorem dX9_ordersFrom_70 : decode cX9_ordersFrom 70 = .ok (.iconst 1, 1) := by decide +kernel
theorem dX9_ordersFrom_71 : decode cX9_ordersFrom 71 = .ok (.isub, 1) := by decide +kernel
theorem dX9_ordersFrom_72 : decode cX9_ordersFrom 72 = .ok (.iload 4, 2) := by decide +kernel
theorem dX9_ordersFrom_74 : decode cX9_ordersFrom 74 = .ok (.invokestatic 15, 3) := by decide +kernel
theorem dX9_ordersFrom_77 : decode cX9_ordersFrom 77 = .ok (.iadd, 1) := by decide +kernel
theorem dX9_ordersFrom_78 : decode cX9_ordersFrom 78 = .ok (.ireturn, 1) := by decide +kernel
set_option maxRecDepth 20000 in
theorem ggX9_throughPeople_X4_tear : GoodIn wsX9_throughPeople wsX4_tear := goodIn_r _ [7, 8, 25, 26, 27, 28, 29, 30, 31, 32] (by decide +kernel) (by decide +kernel)
set_option maxRecDepth 20000 in
theorem gX9_throughPeople_X4_tear : GoodIn wsX9_throughPeople (wsV RX9 28 RX4 yX4_tear wsX4_tear) := goodIn_app (goodIn_of _ (by decide +kernel)) ggX9_throughPeople_X4_tear
set_option maxRecDepth 20000 in
theorem ggX9_throughPeople_X9_keepOnly : GoodIn wsX9_throughPeople wsX9_keepOnly := goodIn_r _ [13, 1, 24] (by decide +kernel) (by decide +kernel)
set_option maxRecDepth 20000 in
theorem gX9_throughPeople_X9_keepOnly : GoodIn wsX9_throughPeople (wsV RX9 33 RX9 yX9_keepOnly wsX9_keepOnly) := goodIn_app (goodIn_of _ (by decide +kernel)) ggX9_throughPeople_X9_keepOnly
set_option maxRecDepth 20000 in
theorem ggX9_throughPeople_X9_passOn : GoodIn wsX9_throughPeople wsX9_passOn := goodIn_r _ [17, 1, 24] (by decide +kernel) (by decide +kernel)
set_option maxRecDepth 20000 in
theorem gX9_throughPeople_X9_passOn : GoodIn wsX9_throughPeople (wsV RX9 37 RX9 yX9_passOn wsX9_passOn) := goodIn_app (goodIn_of _ (by decide +kernel)) ggX9_throughPeople_X9_passOn
set_option maxRecDepth 20000 in
theorem ggX9_throughPeople_X10_isPerson : GoodIn wsX9_throughPeople wsX10_isPerson := goodIn_r _ [20, 21, 22, 19, 23] (by decide +kernel) (by decide +kernel)
set_option maxRecDepth 20000 in
theorem gX9_throughPeople_X10_isPerson_n43 : GoodIn wsX9_throughPeople (wsX10_isPerson) := ggX9_throughPeople_X10_isPerson
theorem dX9_throughPeople_0 : decode cX9_throughPeople 0 = .ok (.iload 4, 2) := by decide +kernel
theorem dX9_throughPeople_2 : decode cX9_throughPeople 2 = .ok (.istore 5, 2) := by decide +kernel
theorem dX9_throughPeople_4 : decode cX9_throughPeople 4 = .ok (.iload 5, 2) := by decide +kernel
theorem dX9_throughPeople_6 : decode cX9_throughPeople 6 = .ok (.iconst 4, 1) := by decide +kernel
theorem dX9_throughPeople_7 : decode cX9_throughPeople 7 = .ok (.if_icmp .ge 22, 3) := by decide +kernel
theorem dX9_throughPeople_10 : decode cX9_throughPeople 10 = .ok (.aload_n 1, 1) := by decide +kernel
theorem dX9_throughPeople_11 : decode cX9_throughPeople 11 = .ok (.iload_n 2, 1) := by decide +kernel
theorem dX9_throughPeople_12 : decode cX9_throughPeople 12 = .ok (.iload 5, 2) := by decide +kernel
theorem dX9_throughPeople_14 : decode cX9_throughPeople 14 = .ok (.invokevirtual 28, 3) := by decide +kernel
theorem dX9_throughPeople_17 : decode cX9_throughPeople 17 = .ok (.iconst (-1), 1) := by decide +kernel
theorem dX9_throughPeople_18 : decode cX9_throughPeople 18 = .ok (.if_icmp .eq 5, 3) := by decide +kernel
theorem dX9_throughPeople_21 : decode cX9_throughPeople 21 = .ok (.iconst 0, 1) := by decide +kernel
theorem dX9_throughPeople_22 : decode cX9_throughPeople 22 = .ok (.ireturn, 1) := by decide +kernel
theorem dX9_throughPeople_23 : decode cX9_throughPeople 23 = .ok (.iinc 5 1, 3) := by decide +kernel
theorem dX9_throughPeople_26 : decode cX9_throughPeople 26 = .ok (.goto (-22), 3) := by decide +kernel
theorem dX9_throughPeople_29 : decode cX9_throughPeople 29 = .ok (.iconst 0, 1) := by decide +kernel
theorem dX9_throughPeople_30 : decode cX9_throughPeople 30 = .ok (.istore 5, 2) := by decide +kernel
theorem dX9_throughPeople_32 : decode cX9_throughPeople 32 = .ok (.iload 5, 2) := by decide +kernel
theorem dX9_throughPeople_34 : decode cX9_throughPeople 34 = .ok (.bipush 6, 2) := by decide +kernel
theorem dX9_throughPeople_36 : decode cX9_throughPeople 36 = .ok (.if_icmp .ge 27, 3) := by decide +kernel
theorem dX9_throughPeople_39 : decode cX9_throughPeople 39 = .ok (.aload_n 0, 1) := by decide +kernel
theorem dX9_throughPeople_40 : decode cX9_throughPeople 40 = .ok (.getfield 9, 3) := by decide +kernel
theorem dX9_throughPeople_43 : decode cX9_throughPeople 43 = .ok (.iload 5, 2) := by decide +kernel
theorem dX9_throughPeople_45 : decode cX9_throughPeople 45 = .ok (.iload 5, 2) := by decide +kernel
theorem dX9_throughPeople_47 : decode cX9_throughPeople 47 = .ok (.iload_n 3, 1) := by decide +kernel
theorem dX9_throughPeople_48 : decode cX9_throughPeople 48 = .ok (.if_icmp .ne 7, 3) := by decide +kernel
theorem dX9_throughPeople_51 : decode cX9_throughPeople 51 = .ok (.iconst 1, 1) := by decide +kernel
theorem dX9_throughPeople_52 : decode cX9_throughPeople 52 = .ok (.goto 4, 3) := by decide +kernel
theorem dX9_throughPeople_55 : decode cX9_throughPeople 55 = .ok (.iconst 0, 1) := by decide +kernel
theorem dX9_throughPeople_56 : decode cX9_throughPeople 56 = .ok (.iastore, 1) := by decide +kernel
theorem dX9_throughPeople_57 : decode cX9_throughPeople 57 = .ok (.iinc 5 1, 3) := by decide +kernel
theorem dX9_throughPeople_60 : decode cX9_throughPeople 60 = .ok (.goto (-28), 3) := by decide +kernel
theorem dX9_throughPeople_63 : decode cX9_throughPeople 63 = .ok (.iload 4, 2) := by decide +kernel
theorem dX9_throughPeople_65 : decode cX9_throughPeople 65 = .ok (.istore 5, 2) := by decide +kernel
theorem dX9_throughPeople_67 : decode cX9_throughPeople 67 = .ok (.iload 5, 2) := by decide +kernel
theorem dX9_throughPeople_69 : decode cX9_throughPeople 69 = .ok (.ifCond .le 32, 3) := by decide +kernel
theorem dX9_throughPeople_72 : decode cX9_throughPeople 72 = .ok (.iload 5, 2) := by decide +kernel
theorem dX9_throughPeople_74 : decode cX9_throughPeople 74 = .ok (.iconst 4, 1) := by decide +kernel
theorem dX9_throughPeople_75 : decode cX9_throughPeople 75 = .ok (.if_icmp .gt 16, 3) := by decide +kernel
theorem dX9_throughPeople_78 : decode cX9_throughPeople 78 = .ok (.aload_n 0, 1) := by decide +kernel
theorem dX9_throughPeople_79 : decode cX9_throughPeople 79 = .ok (.aload_n 1, 1) := by decide +kernel
theorem dX9_throughPeople_80 : decode cX9_throughPeople 80 = .ok (.iload_n 2, 1) := by decide +kernel
theorem dX9_throughPeople_81 : decode cX9_throughPeople 81 = .ok (.iload 5, 2) := by decide +kernel
theorem dX9_throughPeople_83 : decode cX9_throughPeople 83 = .ok (.iconst 1, 1) := by decide +kernel
theorem dX9_throughPeople_84 : decode cX9_throughPeople 84 = .ok (.isub, 1) := by decide +kernel
theorem dX9_throughPeople_85 : decode cX9_throughPeople 85 = .ok (.invokevirtual 28, 3) := by decide +kernel
theorem dX9_throughPeople_88 : decode cX9_throughPeople 88 = .ok (.invokevirtual 33, 3) := by decide +kernel
theorem dX9_throughPeople_91 : decode cX9_throughPeople 91 = .ok (.aload_n 0, 1) := by decide +kernel
theorem dX9_throughPeople_92 : decode cX9_throughPeople 92 = .ok (.invokevirtual 37, 3) := by decide +kernel
theorem dX9_throughPeople_95 : decode cX9_throughPeople 95 = .ok (.iinc 5 (-1), 3) := by decide +kernel
theorem dX9_throughPeople_98 : decode cX9_throughPeople 98 = .ok (.goto (-31), 3) := by decide +kernel
theorem dX9_throughPeople_101 : decode cX9_throughPeople 101 = .ok (.aload_n 1, 1) := by decide +kernel
theorem dX9_throughPeople_102 : decode cX9_throughPeople 102 = .ok (.getfield 40, 3) := by decide +kernel
theorem dX9_throughPeople_105 : decode cX9_throughPeople 105 = .ok (.iload_n 2, 1) := by decide +kernel
theorem dX9_throughPeople_106 : decode cX9_throughPeople 106 = .ok (.iaload, 1) := by decide +kernel
theorem dX9_throughPeople_107 : decode cX9_throughPeople 107 = .ok (.istore 5, 2) := by decide +kernel
theorem dX9_throughPeople_109 : decode cX9_throughPeople 109 = .ok (.iload 5, 2) := by decide +kernel
theorem dX9_throughPeople_111 : decode cX9_throughPeople 111 = .ok (.invokestatic 43, 3) := by decide +kernel
theorem dX9_throughPeople_114 : decode cX9_throughPeople 114 = .ok (.ifCond .eq 13, 3) := by decide +kernel
theorem dX9_throughPeople_117 : decode cX9_throughPeople 117 = .ok (.aload_n 0, 1) := by decide +kernel
theorem dX9_throughPeople_118 : decode cX9_throughPeople 118 = .ok (.getfield 9, 3) := by decide +kernel
theorem dX9_throughPeople_121 : decode cX9_throughPeople 121 = .ok (.iload 5, 2) := by decide +kernel
theorem dX9_throughPeople_123 : decode cX9_throughPeople 123 = .ok (.iaload, 1) := by decide +kernel
theorem dX9_throughPeople_124 : decode cX9_throughPeople 124 = .ok (.goto 4, 3) := by decide +kernel
theorem dX9_throughPeople_127 : decode cX9_throughPeople 127 = .ok (.iconst 0, 1) := by decide +kernel
theorem dX9_throughPeople_128 : decode cX9_throughPeople 128 = .ok (.ireturn, 1) := by decide +kernel
theorem dX9_keepOnly_0 : decode cX9_keepOnly 0 = .ok (.iconst 0, 1) := by decide +kernel
theorem dX9_keepOnly_1 : decode cX9_keepOnly 1 = .ok (.istore_n 2, 1) := by decide +kernel
theorem dX9_keepOnly_2 : decode cX9_keepOnly 2 = .ok (.iload_n 2, 1) := by decide +kernel
theorem dX9_keepOnly_3 : decode cX9_keepOnly 3 = .ok (.bipush 6, 2) := by decide +kernel
theorem dX9_keepOnly_5 : decode cX9_keepOnly 5 = .ok (.if_icmp .ge 21, 3) := by decide +kernel
theorem dX9_keepOnly_8 : decode cX9_keepOnly 8 = .ok (.iload_n 2, 1) := by decide +kernel
theorem dX9_keepOnly_9 : decode cX9_keepOnly 9 = .ok (.iload_n 1, 1) := by decide +kernel
theorem dX9_keepOnly_10 : decode cX9_keepOnly 10 = .ok (.if_icmp .eq 10, 3) := by decide +kernel
theorem dX9_keepOnly_13 : decode cX9_keepOnly 13 = .ok (.aload_n 0, 1) := by decide +kernel
theorem dX9_keepOnly_14 : decode cX9_keepOnly 14 = .ok (.getfield 9, 3) := by decide +kernel
theorem dX9_keepOnly_17 : decode cX9_keepOnly 17 = .ok (.iload_n 2, 1) := by decide +kernel
theorem dX9_keepOnly_18 : decode cX9_keepOnly 18 = .ok (.iconst 0, 1) := by decide +kernel
theorem dX9_keepOnly_19 : decode cX9_keepOnly 19 = .ok (.iastore, 1) := by decide +kernel
theorem dX9_keepOnly_20 : decode cX9_keepOnly 20 = .ok (.iinc 2 1, 3) := by decide +kernel
theorem dX9_keepOnly_23 : decode cX9_keepOnly 23 = .ok (.goto (-21), 3) := by decide +kernel
theorem dX9_keepOnly_26 : decode cX9_keepOnly 26 = .ok (.return_, 1) := by decide +kernel
theorem dX9_passOn_0 : decode cX9_passOn 0 = .ok (.iconst 0, 1) := by decide +kernel
theorem dX9_passOn_1 : decode cX9_passOn 1 = .ok (.istore_n 1, 1) := by decide +kernel
theorem dX9_passOn_2 : decode cX9_passOn 2 = .ok (.aload_n 0, 1) := by decide +kernel
theorem dX9_passOn_3 : decode cX9_passOn 3 = .ok (.getfield 9, 3) := by decide +kernel
theorem dX9_passOn_6 : decode cX9_passOn 6 = .ok (.astore_n 2, 1) := by decide +kernel
theorem dX9_passOn_7 : decode cX9_passOn 7 = .ok (.aload_n 2, 1) := by decide +kernel
theorem dX9_passOn_8 : decode cX9_passOn 8 = .ok (.arraylength, 1) := by decide +kernel
theorem dX9_passOn_9 : decode cX9_passOn 9 = .ok (.istore_n 3, 1) := by decide +kernel
theorem dX9_passOn_10 : decode cX9_passOn 10 = .ok (.iconst 0, 1) := by decide +kernel
theorem dX9_passOn_11 : decode cX9_passOn 11 = .ok (.istore 4, 2) := by decide +kernel
theorem dX9_passOn_13 : decode cX9_passOn 13 = .ok (.iload 4, 2) := by decide +kernel
theorem dX9_passOn_15 : decode cX9_passOn 15 = .ok (.iload_n 3, 1) := by decide +kernel
theorem dX9_passOn_16 : decode cX9_passOn 16 = .ok (.if_icmp .ge 20, 3) := by decide +kernel
theorem dX9_passOn_19 : decode cX9_passOn 19 = .ok (.aload_n 2, 1) := by decide +kernel
theorem dX9_passOn_20 : decode cX9_passOn 20 = .ok (.iload 4, 2) := by decide +kernel
theorem dX9_passOn_22 : decode cX9_passOn 22 = .ok (.iaload, 1) := by decide +kernel
theorem dX9_passOn_23 : decode cX9_passOn 23 = .ok (.istore 5, 2) := by decide +kernel
theorem dX9_passOn_25 : decode cX9_passOn 25 = .ok (.iload_n 1, 1) := by decide +kernel
theorem dX9_passOn_26 : decode cX9_passOn 26 = .ok (.iload 5, 2) := by decide +kernel
theorem dX9_passOn_28 : decode cX9_passOn 28 = .ok (.iadd, 1) := by decide +kernel
theorem dX9_passOn_29 : decode cX9_passOn 29 = .ok (.istore_n 1, 1) := by decide +kernel
theorem dX9_passOn_30 : decode cX9_passOn 30 = .ok (.iinc 4 1, 3) := by decide +kernel
theorem dX9_passOn_33 : decode cX9_passOn 33 = .ok (.goto (-20), 3) := by decide +kernel
theorem dX9_passOn_36 : decode cX9_passOn 36 = .ok (.iconst 0, 1) := by decide +kernel
theorem dX9_passOn_37 : decode cX9_passOn 37 = .ok (.istore_n 2, 1) := by decide +kernel
theorem dX9_passOn_38 : decode cX9_passOn 38 = .ok (.iload_n 2, 1) := by decide +kernel
theorem dX9_passOn_39 : decode cX9_passOn 39 = .ok (.bipush 6, 2) := by decide +kernel
theorem dX9_passOn_41 : decode cX9_passOn 41 = .ok (.if_icmp .ge 23, 3) := by decide +kernel
theorem dX9_passOn_44 : decode cX9_passOn 44 = .ok (.aload_n 0, 1) := by decide +kernel
theorem dX9_passOn_45 : decode cX9_passOn 45 = .ok (.getfield 9, 3) := by decide +kernel
theorem dX9_passOn_48 : decode cX9_passOn 48 = .ok (.iload_n 2, 1) := by decide +kernel
theorem dX9_passOn_49 : decode cX9_passOn 49 = .ok (.iload_n 1, 1) := by decide +kernel
theorem dX9_passOn_50 : decode cX9_passOn 50 = .ok (.aload_n 0, 1) := by decide +kernel
theorem dX9_passOn_51 : decode cX9_passOn 51 = .ok (.getfield 9, 3) := by decide +kernel
theorem dX9_passOn_54 : decode cX9_passOn 54 = .ok (.iload_n 2, 1) := by decide +kernel
theorem dX9_passOn_55 : decode cX9_passOn 55 = .ok (.iaload, 1) := by decide +kernel
theorem dX9_passOn_56 : decode cX9_passOn 56 = .ok (.isub, 1) := by decide +kernel
theorem dX9_passOn_57 : decode cX9_passOn 57 = .ok (.iastore, 1) := by decide +kernel
theorem dX9_passOn_58 : decode cX9_passOn 58 = .ok (.iinc 2 1, 3) := by decide +kernel
theorem dX9_passOn_61 : decode cX9_passOn 61 = .ok (.goto (-23), 3) := by decide +kernel
theorem dX9_passOn_64 : decode cX9_passOn 64 = .ok (.return_, 1) := by decide +kernel
