theorem dX0_init_0 : decode cX0_init 0 = .ok (.aload_n 0, 1) := by decide +kernel
theorem dX0_init_1 : decode cX0_init 1 = .ok (.invokespecial 3, 3) := by decide +kernel
theorem dX0_init_4 : decode cX0_init 4 = .ok (.aload_n 0, 1) := by decide +kernel
theorem dX0_init_5 : decode cX0_init 5 = .ok (.bipush 10, 2) := by decide +kernel
theorem dX0_init_7 : decode cX0_init 7 = .ok (.newarray .long, 2) := by decide +kernel
theorem dX0_init_9 : decode cX0_init 9 = .ok (.putfield 9, 3) := by decide +kernel
theorem dX0_init_12 : decode cX0_init 12 = .ok (.return_, 1) := by decide +kernel
set_option maxRecDepth 20000 in
theorem ggX0_begin_X4_isAtBank : GoodIn wsX0_begin wsX4_isAtBank := goodIn_r _ [11, 12, 17, 18, 19, 20, 21, 22, 23, 24] (by decide +kernel) (by decide +kernel)
set_option maxRecDepth 20000 in
theorem gX0_begin_X4_isAtBank : GoodIn wsX0_begin (wsV RX0 32 RX4 yX4_isAtBank wsX4_isAtBank) := goodIn_app (goodIn_of _ (by decide +kernel)) ggX0_begin_X4_isAtBank
theorem dX0_begin_0 : decode cX0_begin 0 = .ok (.iconst 0, 1) := by decide +kernel
theorem dX0_begin_1 : decode cX0_begin 1 = .ok (.istore 4, 2) := by decide +kernel
theorem dX0_begin_3 : decode cX0_begin 3 = .ok (.iload 4, 2) := by decide +kernel
theorem dX0_begin_5 : decode cX0_begin 5 = .ok (.bipush 9, 2) := by decide +kernel
theorem dX0_begin_7 : decode cX0_begin 7 = .ok (.if_icmp .gt 32, 3) := by decide +kernel
theorem dX0_begin_10 : decode cX0_begin 10 = .ok (.aload_n 0, 1) := by decide +kernel
theorem dX0_begin_11 : decode cX0_begin 11 = .ok (.getfield 9, 3) := by decide +kernel
theorem dX0_begin_14 : decode cX0_begin 14 = .ok (.iload 4, 2) := by decide +kernel
theorem dX0_begin_16 : decode cX0_begin 16 = .ok (.iload 4, 2) := by decide +kernel
theorem dX0_begin_18 : decode cX0_begin 18 = .ok (.aload_n 1, 1) := by decide +kernel
theorem dX0_begin_19 : decode cX0_begin 19 = .ok (.getfield 15, 3) := by decide +kernel
theorem dX0_begin_22 : decode cX0_begin 22 = .ok (.iload_n 2, 1) := by decide +kernel
theorem dX0_begin_23 : decode cX0_begin 23 = .ok (.iaload, 1) := by decide +kernel
theorem dX0_begin_24 : decode cX0_begin 24 = .ok (.if_icmp .ne 7, 3) := by decide +kernel
theorem dX0_begin_27 : decode cX0_begin 27 = .ok (.lconst 1, 1) := by decide +kernel
theorem dX0_begin_28 : decode cX0_begin 28 = .ok (.goto 4, 3) := by decide +kernel
theorem dX0_begin_31 : decode cX0_begin 31 = .ok (.lconst 0, 1) := by decide +kernel
theorem dX0_begin_32 : decode cX0_begin 32 = .ok (.lastore, 1) := by decide +kernel
theorem dX0_begin_33 : decode cX0_begin 33 = .ok (.iinc 4 1, 3) := by decide +kernel
theorem dX0_begin_36 : decode cX0_begin 36 = .ok (.goto (-33), 3) := by decide +kernel
theorem dX0_begin_39 : decode cX0_begin 39 = .ok (.aload_n 0, 1) := by decide +kernel
theorem dX0_begin_40 : decode cX0_begin 40 = .ok (.lconst 1, 1) := by decide +kernel
theorem dX0_begin_41 : decode cX0_begin 41 = .ok (.putfield 21, 3) := by decide +kernel
theorem dX0_begin_44 : decode cX0_begin 44 = .ok (.aload_n 0, 1) := by decide +kernel
theorem dX0_begin_45 : decode cX0_begin 45 = .ok (.aload_n 1, 1) := by decide +kernel
theorem dX0_begin_46 : decode cX0_begin 46 = .ok (.getfield 25, 3) := by decide +kernel
theorem dX0_begin_49 : decode cX0_begin 49 = .ok (.iload_n 2, 1) := by decide +kernel
theorem dX0_begin_50 : decode cX0_begin 50 = .ok (.iaload, 1) := by decide +kernel
theorem dX0_begin_51 : decode cX0_begin 51 = .ok (.putfield 28, 3) := by decide +kernel
theorem dX0_begin_54 : decode cX0_begin 54 = .ok (.aload_n 0, 1) := by decide +kernel
theorem dX0_begin_55 : decode cX0_begin 55 = .ok (.aload_n 1, 1) := by decide +kernel
theorem dX0_begin_56 : decode cX0_begin 56 = .ok (.iload_n 2, 1) := by decide +kernel
theorem dX0_begin_57 : decode cX0_begin 57 = .ok (.invokevirtual 32, 3) := by decide +kernel
theorem dX0_begin_60 : decode cX0_begin 60 = .ok (.ifCond .eq 7, 3) := by decide +kernel
theorem dX0_begin_63 : decode cX0_begin 63 = .ok (.iconst 0, 1) := by decide +kernel
theorem dX0_begin_64 : decode cX0_begin 64 = .ok (.goto 4, 3) := by decide +kernel
theorem dX0_begin_67 : decode cX0_begin 67 = .ok (.iload_n 3, 1) := by decide +kernel
theorem dX0_begin_68 : decode cX0_begin 68 = .ok (.putfield 36, 3) := by decide +kernel
theorem dX0_begin_71 : decode cX0_begin 71 = .ok (.return_, 1) := by decide +kernel
set_option maxRecDepth 20000 in
theorem ggX0_passMonth_X5_behindDamp : GoodIn wsX0_passMonth wsX5_behindDamp := goodIn_r _ [9, 10, 11, 12, 13, 14, 15, 8, 16] (by decide +kernel) (by decide +kernel)
set_option maxRecDepth 20000 in
theorem gX0_passMonth_X5_behindDamp : GoodIn wsX0_passMonth (va_wsS RX0 41 yX5_behindDamp wsX5_behindDamp) := goodIn_app (goodIn_of _ (by decide +kernel)) ggX0_passMonth_X5_behindDamp
theorem dX0_passMonth_0 : decode cX0_passMonth 0 = .ok (.aload_n 0, 1) := by decide +kernel
theorem dX0_passMonth_1 : decode cX0_passMonth 1 = .ok (.dup, 1) := by decide +kernel
theorem dX0_passMonth_2 : decode cX0_passMonth 2 = .ok (.getfield 21, 3) := by decide +kernel
theorem dX0_passMonth_5 : decode cX0_passMonth 5 = .ok (.ldc2_w 39, 3) := by decide +kernel
theorem dX0_passMonth_8 : decode cX0_passMonth 8 = .ok (.lmul, 1) := by decide +kernel
theorem dX0_passMonth_9 : decode cX0_passMonth 9 = .ok (.putfield 21, 3) := by decide +kernel
theorem dX0_passMonth_12 : decode cX0_passMonth 12 = .ok (.iconst 0, 1) := by decide +kernel
theorem dX0_passMonth_13 : decode cX0_passMonth 13 = .ok (.istore_n 1, 1) := by decide +kernel
theorem dX0_passMonth_14 : decode cX0_passMonth 14 = .ok (.iload_n 1, 1) := by decide +kernel
theorem dX0_passMonth_15 : decode cX0_passMonth 15 = .ok (.bipush 9, 2) := by decide +kernel
theorem dX0_passMonth_17 : decode cX0_passMonth 17 = .ok (.if_icmp .gt 55, 3) := by decide +kernel
theorem dX0_passMonth_20 : decode cX0_passMonth 20 = .ok (.aload_n 0, 1) := by decide +kernel
theorem dX0_passMonth_21 : decode cX0_passMonth 21 = .ok (.getfield 9, 3) := by decide +kernel
theorem dX0_passMonth_24 : decode cX0_passMonth 24 = .ok (.iload_n 1, 1) := by decide +kernel
theorem dX0_passMonth_25 : decode cX0_passMonth 25 = .ok (.laload, 1) := by decide +kernel
theorem dX0_passMonth_26 : decode cX0_passMonth 26 = .ok (.lstore_n 2, 1) := by decide +kernel
theorem dX0_passMonth_27 : decode cX0_passMonth 27 = .ok (.aload_n 0, 1) := by decide +kernel
theorem dX0_passMonth_28 : decode cX0_passMonth 28 = .ok (.getfield 9, 3) := by decide +kernel
theorem dX0_passMonth_31 : decode cX0_passMonth 31 = .ok (.iload_n 1, 1) := by decide +kernel
theorem dX0_passMonth_32 : decode cX0_passMonth 32 = .ok (.lload_n 2, 1) := by decide +kernel
theorem dX0_passMonth_33 : decode cX0_passMonth 33 = .ok (.bipush 10, 2) := by decide +kernel
theorem dX0_passMonth_35 : decode cX0_passMonth 35 = .ok (.aload_n 0, 1) := by decide +kernel
theorem dX0_passMonth_36 : decode cX0_passMonth 36 = .ok (.getfield 36, 3) := by decide +kernel
theorem dX0_passMonth_39 : decode cX0_passMonth 39 = .ok (.isub, 1) := by decide +kernel
theorem dX0_passMonth_40 : decode cX0_passMonth 40 = .ok (.i2l, 1) := by decide +kernel
theorem dX0_passMonth_41 : decode cX0_passMonth 41 = .ok (.lmul, 1) := by decide +kernel
theorem dX0_passMonth_42 : decode cX0_passMonth 42 = .ok (.lastore, 1) := by decide +kernel
theorem dX0_passMonth_43 : decode cX0_passMonth 43 = .ok (.aload_n 0, 1) := by decide +kernel
theorem dX0_passMonth_44 : decode cX0_passMonth 44 = .ok (.getfield 9, 3) := by decide +kernel
theorem dX0_passMonth_47 : decode cX0_passMonth 47 = .ok (.aload_n 0, 1) := by decide +kernel
theorem dX0_passMonth_48 : decode cX0_passMonth 48 = .ok (.getfield 28, 3) := by decide +kernel
theorem dX0_passMonth_51 : decode cX0_passMonth 51 = .ok (.iload_n 1, 1) := by decide +kernel
theorem dX0_passMonth_52 : decode cX0_passMonth 52 = .ok (.invokestatic 41, 3) := by decide +kernel
theorem dX0_passMonth_55 : decode cX0_passMonth 55 = .ok (.dup2, 1) := by decide +kernel
theorem dX0_passMonth_56 : decode cX0_passMonth 56 = .ok (.laload, 1) := by decide +kernel
theorem dX0_passMonth_57 : decode cX0_passMonth 57 = .ok (.lload_n 2, 1) := by decide +kernel
theorem dX0_passMonth_58 : decode cX0_passMonth 58 = .ok (.aload_n 0, 1) := by decide +kernel
theorem dX0_passMonth_59 : decode cX0_passMonth 59 = .ok (.getfield 36, 3) := by decide +kernel
theorem dX0_passMonth_62 : decode cX0_passMonth 62 = .ok (.i2l, 1) := by decide +kernel
theorem dX0_passMonth_63 : decode cX0_passMonth 63 = .ok (.lmul, 1) := by decide +kernel
theorem dX0_passMonth_64 : decode cX0_passMonth 64 = .ok (.ladd, 1) := by decide +kernel
theorem dX0_passMonth_65 : decode cX0_passMonth 65 = .ok (.lastore, 1) := by decide +kernel
theorem dX0_passMonth_66 : decode cX0_passMonth 66 = .ok (.iinc 1 1, 3) := by decide +kernel
theorem dX0_passMonth_69 : decode cX0_passMonth 69 = .ok (.goto (-55), 3) := by decide +kernel
theorem dX0_passMonth_72 : decode cX0_passMonth 72 = .ok (.return_, 1) := by decide +kernel
set_option maxRecDepth 20000 in
theorem ggX0_meanInLowestTerms_X0_worthOfAll : GoodIn wsX0_meanInLowestTerms wsX0_worthOfAll := goodIn_r _ [6, 7, 8, 9, 10, 11, 12, 13, 14, 15, 16, 17, 18, 19, 23, 24, 25, 26] (by decide +kernel) (by decide +kernel)
set_option maxRecDepth 20000 in
theorem gX0_meanInLowestTerms_X0_worthOfAll : GoodIn wsX0_meanInLowestTerms (wsV RX0 47 RX0 yX0_worthOfAll wsX0_worthOfAll) := goodIn_app (goodIn_of _ (by decide +kernel)) ggX0_meanInLowestTerms_X0_worthOfAll
set_option maxRecDepth 20000 in
theorem ggX0_meanInLowestTerms_X0_commonDivisor : GoodIn wsX0_meanInLowestTerms wsX0_commonDivisor := goodIn_r _ [22] (by decide +kernel) (by decide +kernel)
set_option maxRecDepth 20000 in
theorem gX0_meanInLowestTerms_X0_commonDivisor : GoodIn wsX0_meanInLowestTerms (va_wsS RX0 51 yX0_commonDivisor wsX0_commonDivisor) := goodIn_app (goodIn_of _ (by decide +kernel)) ggX0_meanInLowestTerms_X0_commonDivisor
theorem dX0_meanInLowestTerms_0 : decode cX0_meanInLowestTerms 0 = .ok (.aload_n 0, 1) := by decide +kernel
theorem dX0_meanInLowestTerms_1 : decode cX0_meanInLowestTerms 1 = .ok (.invokevirtual 47, 3) := by decide +kernel
theorem dX0_meanInLowestTerms_4 : decode cX0_meanInLowestTerms 4 = .ok (.lstore_n 2, 1) := by decide +kernel
theorem dX0_meanInLowestTerms_5 : decode cX0_meanInLowestTerms 5 = .ok (.lload_n 2, 1) := by decide +kernel
theorem dX0_meanInLowestTerms_6 : decode cX0_meanInLowestTerms 6 = .ok (.aload_n 0, 1) := by decide +kernel
theorem dX0_meanInLowestTerms_7 : decode cX0_meanInLowestTerms 7 = .ok (.getfield 21, 3) := by decide +kernel
theorem dX0_meanInLowestTerms_10 : decode cX0_meanInLowestTerms 10 = .ok (.invokestatic 51, 3) := by decide +kernel
theorem dX0_meanInLowestTerms_13 : decode cX0_meanInLowestTerms 13 = .ok (.lstore 4, 2) := by decide +kernel
theorem dX0_meanInLowestTerms_15 : decode cX0_meanInLowestTerms 15 = .ok (.lload 4, 2) := by decide +kernel
theorem dX0_meanInLowestTerms_17 : decode cX0_meanInLowestTerms 17 = .ok (.lconst 0, 1) := by decide +kernel
theorem dX0_meanInLowestTerms_18 : decode cX0_meanInLowestTerms 18 = .ok (.lcmp, 1) := by decide +kernel
theorem dX0_meanInLowestTerms_19 : decode cX0_meanInLowestTerms 19 = .ok (.ifCond .ne 5, 3) := by decide +kernel
theorem dX0_meanInLowestTerms_22 : decode cX0_meanInLowestTerms 22 = .ok (.lconst 0, 1) := by decide +kernel
theorem dX0_meanInLowestTerms_23 : decode cX0_meanInLowestTerms 23 = .ok (.lreturn, 1) := by decide +kernel
theorem dX0_meanInLowestTerms_24 : decode cX0_meanInLowestTerms 24 = .ok (.iload_n 1, 1) := by decide +kernel
theorem dX0_meanInLowestTerms_25 : decode cX0_meanInLowestTerms 25 = .ok (.ifCond .ne 10, 3) := by decide +kernel
theorem dX0_meanInLowestTerms_28 : decode cX0_meanInLowestTerms 28 = .ok (.lload_n 2, 1) := by decide +kernel
theorem dX0_meanInLowestTerms_29 : decode cX0_meanInLowestTerms 29 = .ok (.lload 4, 2) := by decide +kernel
theorem dX0_meanInLowestTerms_31 : decode cX0_meanInLowestTerms 31 = .ok (.ldiv, 1) := by decide +kernel
theorem dX0_meanInLowestTerms_32 : decode cX0_meanInLowestTerms 32 = .ok (.goto 10, 3) := by decide +kernel
theorem dX0_meanInLowestTerms_35 : decode cX0_meanInLowestTerms 35 = .ok (.aload_n 0, 1) := by decide +kernel
theorem dX0_meanInLowestTerms_36 : decode cX0_meanInLowestTerms 36 = .ok (.getfield 21, 3) := by decide +kernel
theorem dX0_meanInLowestTerms_39 : decode cX0_meanInLowestTerms 39 = .ok (.lload 4, 2) := by decide +kernel
theorem dX0_meanInLowestTerms_41 : decode cX0_meanInLowestTerms 41 = .ok (.ldiv, 1) := by decide +kernel
theorem dX0_meanInLowestTerms_42 : decode cX0_meanInLowestTerms 42 = .ok (.lreturn, 1) := by decide +kernel
set_option maxRecDepth 20000 in
theorem ggX0_lastMonthOfNoLess_X0_worthOfAll : GoodIn wsX0_lastMonthOfNoLess wsX0_worthOfAll := goodIn_r _ [6, 7, 8, 9, 10, 11, 12, 13, 14, 15, 16, 17, 18, 19, 32, 33, 34, 35] (by decide +kernel) (by decide +kernel)
set_option maxRecDepth 20000 in
theorem gX0_lastMonthOfNoLess_X0_worthOfAll : GoodIn wsX0_lastMonthOfNoLess (wsV RX0 47 RX0 yX0_worthOfAll wsX0_worthOfAll) := goodIn_app (goodIn_of _ (by decide +kernel)) ggX0_lastMonthOfNoLess_X0_worthOfAll
set_option maxRecDepth 20000 in
theorem ggX0_lastMonthOfNoLess_X0_passMonth : GoodIn wsX0_lastMonthOfNoLess wsX0_passMonth := goodIn_r _ [23, 1, 24, 7, 25, 8, 26, 27, 11, 28, 13, 14, 15, 16, 29, 30, 31, 32, 33, 34, 35] (by decide +kernel) (by decide +kernel)
set_option maxRecDepth 20000 in
theorem gX0_lastMonthOfNoLess_X0_passMonth : GoodIn wsX0_lastMonthOfNoLess (wsV RX0 55 RX0 yX0_passMonth wsX0_passMonth) := goodIn_app (goodIn_of _ (by decide +kernel)) ggX0_lastMonthOfNoLess_X0_passMonth
theorem dX0_lastMonthOfNoLess_0 : decode cX0_lastMonthOfNoLess 0 = .ok (.aload_n 0, 1) := by decide +kernel
theorem dX0_lastMonthOfNoLess_1 : decode cX0_lastMonthOfNoLess 1 = .ok (.invokevirtual 47, 3) := by decide +kernel
theorem dX0_lastMonthOfNoLess_4 : decode cX0_lastMonthOfNoLess 4 = .ok (.lstore_n 2, 1) := by decide +kernel
theorem dX0_lastMonthOfNoLess_5 : decode cX0_lastMonthOfNoLess 5 = .ok (.iconst 0, 1) := by decide +kernel
theorem dX0_lastMonthOfNoLess_6 : decode cX0_lastMonthOfNoLess 6 = .ok (.istore 4, 2) := by decide +kernel
theorem dX0_lastMonthOfNoLess_8 : decode cX0_lastMonthOfNoLess 8 = .ok (.iconst 1, 1) := by decide +kernel
theorem dX0_lastMonthOfNoLess_9 : decode cX0_lastMonthOfNoLess 9 = .ok (.istore 5, 2) := by decide +kernel
theorem dX0_lastMonthOfNoLess_11 : decode cX0_lastMonthOfNoLess 11 = .ok (.iload 5, 2) := by decide +kernel
theorem dX0_lastMonthOfNoLess_13 : decode cX0_lastMonthOfNoLess 13 = .ok (.iload_n 1, 1) := by decide +kernel
theorem dX0_lastMonthOfNoLess_14 : decode cX0_lastMonthOfNoLess 14 = .ok (.if_icmp .gt 31, 3) := by decide +kernel
theorem dX0_lastMonthOfNoLess_17 : decode cX0_lastMonthOfNoLess 17 = .ok (.aload_n 0, 1) := by decide +kernel
theorem dX0_lastMonthOfNoLess_18 : decode cX0_lastMonthOfNoLess 18 = .ok (.invokevirtual 55, 3) := by decide +kernel
theorem dX0_lastMonthOfNoLess_21 : decode cX0_lastMonthOfNoLess 21 = .ok (.aload_n 0, 1) := by decide +kernel
theorem dX0_lastMonthOfNoLess_22 : decode cX0_lastMonthOfNoLess 22 = .ok (.invokevirtual 47, 3) := by decide +kernel
theorem dX0_lastMonthOfNoLess_25 : decode cX0_lastMonthOfNoLess 25 = .ok (.lload_n 2, 1) := by decide +kernel
theorem dX0_lastMonthOfNoLess_26 : decode cX0_lastMonthOfNoLess 26 = .ok (.aload_n 0, 1) := by decide +kernel
theorem dX0_lastMonthOfNoLess_27 : decode cX0_lastMonthOfNoLess 27 = .ok (.getfield 21, 3) := by decide +kernel
theorem dX0_lastMonthOfNoLess_30 : decode cX0_lastMonthOfNoLess 30 = .ok (.lmul, 1) := by decide +kernel
theorem dX0_lastMonthOfNoLess_31 : decode cX0_lastMonthOfNoLess 31 = .ok (.lcmp, 1) := by decide +kernel
theorem dX0_lastMonthOfNoLess_32 : decode cX0_lastMonthOfNoLess 32 = .ok (.ifCond .lt 7, 3) := by decide +kernel
theorem dX0_lastMonthOfNoLess_35 : decode cX0_lastMonthOfNoLess 35 = .ok (.iload 5, 2) := by decide +kernel
theorem dX0_lastMonthOfNoLess_37 : decode cX0_lastMonthOfNoLess 37 = .ok (.istore 4, 2) := by decide +kernel
theorem dX0_lastMonthOfNoLess_39 : decode cX0_lastMonthOfNoLess 39 = .ok (.iinc 5 1, 3) := by decide +kernel
theorem dX0_lastMonthOfNoLess_42 : decode cX0_lastMonthOfNoLess 42 = .ok (.goto (-31), 3) := by decide +kernel
theorem dX0_lastMonthOfNoLess_45 : decode cX0_lastMonthOfNoLess 45 = .ok (.iload 4, 2) := by decide +kernel
theorem dX0_lastMonthOfNoLess_47 : decode cX0_lastMonthOfNoLess 47 = .ok (.ireturn, 1) := by decide +kernel
set_option maxRecDepth 20000 in
theorem ggX0_worthOfAll_X5_behindHand : GoodIn wsX0_worthOfAll wsX5_behindHand := goodIn_r _ [6, 7, 8, 9, 10, 11, 12, 5, 13] (by decide +kernel) (by decide +kernel)
set_option maxRecDepth 20000 in
theorem gX0_worthOfAll_X5_behindHand : GoodIn wsX0_worthOfAll (va_wsS RX0 58 yX5_behindHand wsX5_behindHand) := goodIn_app (goodIn_of _ (by decide +kernel)) ggX0_worthOfAll_X5_behindHand
theorem dX0_worthOfAll_0 : decode cX0_worthOfAll 0 = .ok (.lconst 0, 1) := by decide +kernel
theorem dX0_worthOfAll_1 : decode cX0_worthOfAll 1 = .ok (.lstore_n 1, 1) := by decide +kernel
theorem dX0_worthOfAll_2 : decode cX0_worthOfAll 2 = .ok (.iconst 0, 1) := by decide +kernel
theorem dX0_worthOfAll_3 : decode cX0_worthOfAll 3 = .ok (.istore_n 3, 1) := by decide +kernel
theorem dX0_worthOfAll_4 : decode cX0_worthOfAll 4 = .ok (.iload_n 3, 1) := by decide +kernel
theorem dX0_worthOfAll_5 : decode cX0_worthOfAll 5 = .ok (.bipush 9, 2) := by decide +kernel
theorem dX0_worthOfAll_7 : decode cX0_worthOfAll 7 = .ok (.if_icmp .gt 28, 3) := by decide +kernel
theorem dX0_worthOfAll_10 : decode cX0_worthOfAll 10 = .ok (.lload_n 1, 1) := by decide +kernel
theorem dX0_worthOfAll_11 : decode cX0_worthOfAll 11 = .ok (.aload_n 0, 1) := by decide +kernel
theorem dX0_worthOfAll_12 : decode cX0_worthOfAll 12 = .ok (.getfield 9, 3) := by decide +kernel
theorem dX0_worthOfAll_15 : decode cX0_worthOfAll 15 = .ok (.iload_n 3, 1) := by decide +kernel
theorem dX0_worthOfAll_16 : decode cX0_worthOfAll 16 = .ok (.laload, 1) := by decide +kernel
theorem dX0_worthOfAll_17 : decode cX0_worthOfAll 17 = .ok (.aload_n 0, 1) := by decide +kernel
theorem dX0_worthOfAll_18 : decode cX0_worthOfAll 18 = .ok (.getfield 28, 3) := by decide +kernel
theorem dX0_worthOfAll_21 : decode cX0_worthOfAll 21 = .ok (.iload_n 3, 1) := by decide +kernel
theorem dX0_worthOfAll_22 : decode cX0_worthOfAll 22 = .ok (.invokestatic 58, 3) := by decide +kernel
theorem dX0_worthOfAll_25 : decode cX0_worthOfAll 25 = .ok (.i2l, 1) := by decide +kernel
theorem dX0_worthOfAll_26 : decode cX0_worthOfAll 26 = .ok (.lmul, 1) := by decide +kernel
theorem dX0_worthOfAll_27 : decode cX0_worthOfAll 27 = .ok (.ladd, 1) := by decide +kernel
theorem dX0_worthOfAll_28 : decode cX0_worthOfAll 28 = .ok (.lstore_n 1, 1) := by decide +kernel
theorem dX0_worthOfAll_29 : decode cX0_worthOfAll 29 = .ok (.iinc 3 1, 3) := by decide +kernel
theorem dX0_worthOfAll_32 : decode cX0_worthOfAll 32 = .ok (.goto (-28), 3) := by decide +kernel
theorem dX0_worthOfAll_35 : decode cX0_worthOfAll 35 = .ok (.lload_n 1, 1) := by decide +kernel
theorem dX0_worthOfAll_36 : decode cX0_worthOfAll 36 = .ok (.lreturn, 1) := by decide +kernel
theorem dX0_commonDivisor_0 : decode cX0_commonDivisor 0 = .ok (.lload_n 0, 1) := by decide +kernel
theorem dX0_commonDivisor_1 : decode cX0_commonDivisor 1 = .ok (.lstore 4, 2) := by decide +kernel
theorem dX0_commonDivisor_3 : decode cX0_commonDivisor 3 = .ok (.lload_n 2, 1) := by decide +kernel
theorem dX0_commonDivisor_4 : decode cX0_commonDivisor 4 = .ok (.lstore 6, 2) := by decide +kernel
theorem dX0_commonDivisor_6 : decode cX0_commonDivisor 6 = .ok (.iconst 0, 1) := by decide +kernel
theorem dX0_commonDivisor_7 : decode cX0_commonDivisor 7 = .ok (.istore 8, 2) := by decide +kernel
theorem dX0_commonDivisor_9 : decode cX0_commonDivisor 9 = .ok (.iload 8, 2) := by decide +kernel
theorem dX0_commonDivisor_11 : decode cX0_commonDivisor 11 = .ok (.bipush 100, 2) := by decide +kernel
theorem dX0_commonDivisor_13 : decode cX0_commonDivisor 13 = .ok (.if_icmp .ge 31, 3) := by decide +kernel
theorem dX0_commonDivisor_16 : decode cX0_commonDivisor 16 = .ok (.lload 6, 2) := by decide +kernel
theorem dX0_commonDivisor_18 : decode cX0_commonDivisor 18 = .ok (.lconst 0, 1) := by decide +kernel
theorem dX0_commonDivisor_19 : decode cX0_commonDivisor 19 = .ok (.lcmp, 1) := by decide +kernel
theorem dX0_commonDivisor_20 : decode cX0_commonDivisor 20 = .ok (.ifCond .eq 24, 3) := by decide +kernel
theorem dX0_commonDivisor_23 : decode cX0_commonDivisor 23 = .ok (.lload 4, 2) := by decide +kernel
theorem dX0_commonDivisor_25 : decode cX0_commonDivisor 25 = .ok (.lload 6, 2) := by decide +kernel
theorem dX0_commonDivisor_27 : decode cX0_commonDivisor 27 = .ok (.lrem, 1) := by decide +kernel
theorem dX0_commonDivisor_28 : decode cX0_commonDivisor 28 = .ok (.lstore 9, 2) := by decide +kernel
theorem dX0_commonDivisor_30 : decode cX0_commonDivisor 30 = .ok (.lload 6, 2) := by decide +kernel
theorem dX0_commonDivisor_32 : decode cX0_commonDivisor 32 = .ok (.lstore 4, 2) := by decide +kernel
theorem dX0_commonDivisor_34 : decode cX0_commonDivisor 34 = .ok (.lload 9, 2) := by decide +kernel
theorem dX0_commonDivisor_36 : decode cX0_commonDivisor 36 = .ok (.lstore 6, 2) := by decide +kernel
theorem dX0_commonDivisor_38 : decode cX0_commonDivisor 38 = .ok (.iinc 8 1, 3) := by decide +kernel
theorem dX0_commonDivisor_41 : decode cX0_commonDivisor 41 = .ok (.goto (-32), 3) := by decide +kernel
theorem dX0_commonDivisor_44 : decode cX0_commonDivisor 44 = .ok (.lload 4, 2) := by decide +kernel
theorem dX0_commonDivisor_46 : decode cX0_commonDivisor 46 = .ok (.lreturn, 1) := by decide +kernel
