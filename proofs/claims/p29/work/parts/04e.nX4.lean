set_option maxRecDepth 20000 in
theorem ggX4_init_X1_init : GoodIn wsX4_init wsX1_init := goodIn_r _ [14, 15, 2, 3, 4, 16, 25] (by decide +kernel) (by decide +kernel)
set_option maxRecDepth 20000 in
theorem gX4_init_X1_init_n26 : GoodIn wsX4_init (wsX1_init) := ggX4_init_X1_init
theorem dX4_init_0 : decode cX4_init 0 = .ok (.aload_n 0, 1) := by decide +kernel
theorem dX4_init_1 : decode cX4_init 1 = .ok (.invokespecial 3, 3) := by decide +kernel
theorem dX4_init_4 : decode cX4_init 4 = .ok (.aload_n 0, 1) := by decide +kernel
theorem dX4_init_5 : decode cX4_init 5 = .ok (.bipush 10, 2) := by decide +kernel
theorem dX4_init_7 : decode cX4_init 7 = .ok (.newarray .int, 2) := by decide +kernel
theorem dX4_init_9 : decode cX4_init 9 = .ok (.putfield 9, 3) := by decide +kernel
theorem dX4_init_12 : decode cX4_init 12 = .ok (.aload_n 0, 1) := by decide +kernel
theorem dX4_init_13 : decode cX4_init 13 = .ok (.bipush 10, 2) := by decide +kernel
theorem dX4_init_15 : decode cX4_init 15 = .ok (.newarray .int, 2) := by decide +kernel
theorem dX4_init_17 : decode cX4_init 17 = .ok (.putfield 15, 3) := by decide +kernel
theorem dX4_init_20 : decode cX4_init 20 = .ok (.aload_n 0, 1) := by decide +kernel
theorem dX4_init_21 : decode cX4_init 21 = .ok (.bipush 10, 2) := by decide +kernel
theorem dX4_init_23 : decode cX4_init 23 = .ok (.newarray .int, 2) := by decide +kernel
theorem dX4_init_25 : decode cX4_init 25 = .ok (.putfield 18, 3) := by decide +kernel
theorem dX4_init_28 : decode cX4_init 28 = .ok (.aload_n 0, 1) := by decide +kernel
theorem dX4_init_29 : decode cX4_init 29 = .ok (.bipush 40, 2) := by decide +kernel
theorem dX4_init_31 : decode cX4_init 31 = .ok (.newarray .int, 2) := by decide +kernel
theorem dX4_init_33 : decode cX4_init 33 = .ok (.putfield 21, 3) := by decide +kernel
theorem dX4_init_36 : decode cX4_init 36 = .ok (.aload_n 0, 1) := by decide +kernel
theorem dX4_init_37 : decode cX4_init 37 = .ok (.new 24, 3) := by decide +kernel
theorem dX4_init_40 : decode cX4_init 40 = .ok (.dup, 1) := by decide +kernel
theorem dX4_init_41 : decode cX4_init 41 = .ok (.invokespecial 26, 3) := by decide +kernel
theorem dX4_init_44 : decode cX4_init 44 = .ok (.putfield 27, 3) := by decide +kernel
theorem dX4_init_47 : decode cX4_init 47 = .ok (.return_, 1) := by decide +kernel
set_option maxRecDepth 20000 in
theorem ggX4_copyFrom_X1_copyFrom : GoodIn wsX4_copyFrom wsX1_copyFrom := goodIn_r _ [17, 18, 19, 3, 4, 5, 28] (by decide +kernel) (by decide +kernel)
set_option maxRecDepth 20000 in
theorem gX4_copyFrom_X1_copyFrom : GoodIn wsX4_copyFrom (wsV RX4 37 RX1 yX1_copyFrom wsX1_copyFrom) := goodIn_app (goodIn_of _ (by decide +kernel)) ggX4_copyFrom_X1_copyFrom
theorem dX4_copyFrom_0 : decode cX4_copyFrom 0 = .ok (.aload_n 1, 1) := by decide +kernel
theorem dX4_copyFrom_1 : decode cX4_copyFrom 1 = .ok (.getfield 9, 3) := by decide +kernel
theorem dX4_copyFrom_4 : decode cX4_copyFrom 4 = .ok (.iconst 0, 1) := by decide +kernel
theorem dX4_copyFrom_5 : decode cX4_copyFrom 5 = .ok (.aload_n 0, 1) := by decide +kernel
theorem dX4_copyFrom_6 : decode cX4_copyFrom 6 = .ok (.getfield 9, 3) := by decide +kernel
theorem dX4_copyFrom_9 : decode cX4_copyFrom 9 = .ok (.iconst 0, 1) := by decide +kernel
theorem dX4_copyFrom_10 : decode cX4_copyFrom 10 = .ok (.bipush 10, 2) := by decide +kernel
theorem dX4_copyFrom_12 : decode cX4_copyFrom 12 = .ok (.invokestatic 31, 3) := by decide +kernel
theorem dX4_copyFrom_15 : decode cX4_copyFrom 15 = .ok (.aload_n 1, 1) := by decide +kernel
theorem dX4_copyFrom_16 : decode cX4_copyFrom 16 = .ok (.getfield 15, 3) := by decide +kernel
theorem dX4_copyFrom_19 : decode cX4_copyFrom 19 = .ok (.iconst 0, 1) := by decide +kernel
theorem dX4_copyFrom_20 : decode cX4_copyFrom 20 = .ok (.aload_n 0, 1) := by decide +kernel
theorem dX4_copyFrom_21 : decode cX4_copyFrom 21 = .ok (.getfield 15, 3) := by decide +kernel
theorem dX4_copyFrom_24 : decode cX4_copyFrom 24 = .ok (.iconst 0, 1) := by decide +kernel
theorem dX4_copyFrom_25 : decode cX4_copyFrom 25 = .ok (.bipush 10, 2) := by decide +kernel
theorem dX4_copyFrom_27 : decode cX4_copyFrom 27 = .ok (.invokestatic 31, 3) := by decide +kernel
theorem dX4_copyFrom_30 : decode cX4_copyFrom 30 = .ok (.aload_n 1, 1) := by decide +kernel
theorem dX4_copyFrom_31 : decode cX4_copyFrom 31 = .ok (.getfield 18, 3) := by decide +kernel
theorem dX4_copyFrom_34 : decode cX4_copyFrom 34 = .ok (.iconst 0, 1) := by decide +kernel
theorem dX4_copyFrom_35 : decode cX4_copyFrom 35 = .ok (.aload_n 0, 1) := by decide +kernel
theorem dX4_copyFrom_36 : decode cX4_copyFrom 36 = .ok (.getfield 18, 3) := by decide +kernel
theorem dX4_copyFrom_39 : decode cX4_copyFrom 39 = .ok (.iconst 0, 1) := by decide +kernel
theorem dX4_copyFrom_40 : decode cX4_copyFrom 40 = .ok (.bipush 10, 2) := by decide +kernel
theorem dX4_copyFrom_42 : decode cX4_copyFrom 42 = .ok (.invokestatic 31, 3) := by decide +kernel
theorem dX4_copyFrom_45 : decode cX4_copyFrom 45 = .ok (.aload_n 1, 1) := by decide +kernel
theorem dX4_copyFrom_46 : decode cX4_copyFrom 46 = .ok (.getfield 21, 3) := by decide +kernel
theorem dX4_copyFrom_49 : decode cX4_copyFrom 49 = .ok (.iconst 0, 1) := by decide +kernel
theorem dX4_copyFrom_50 : decode cX4_copyFrom 50 = .ok (.aload_n 0, 1) := by decide +kernel
theorem dX4_copyFrom_51 : decode cX4_copyFrom 51 = .ok (.getfield 21, 3) := by decide +kernel
theorem dX4_copyFrom_54 : decode cX4_copyFrom 54 = .ok (.iconst 0, 1) := by decide +kernel
theorem dX4_copyFrom_55 : decode cX4_copyFrom 55 = .ok (.bipush 40, 2) := by decide +kernel
theorem dX4_copyFrom_57 : decode cX4_copyFrom 57 = .ok (.invokestatic 31, 3) := by decide +kernel
theorem dX4_copyFrom_60 : decode cX4_copyFrom 60 = .ok (.aload_n 0, 1) := by decide +kernel
theorem dX4_copyFrom_61 : decode cX4_copyFrom 61 = .ok (.getfield 27, 3) := by decide +kernel
theorem dX4_copyFrom_64 : decode cX4_copyFrom 64 = .ok (.aload_n 1, 1) := by decide +kernel
theorem dX4_copyFrom_65 : decode cX4_copyFrom 65 = .ok (.getfield 27, 3) := by decide +kernel
theorem dX4_copyFrom_68 : decode cX4_copyFrom 68 = .ok (.invokevirtual 37, 3) := by decide +kernel
theorem dX4_copyFrom_71 : decode cX4_copyFrom 71 = .ok (.aload_n 0, 1) := by decide +kernel
theorem dX4_copyFrom_72 : decode cX4_copyFrom 72 = .ok (.aload_n 1, 1) := by decide +kernel
theorem dX4_copyFrom_73 : decode cX4_copyFrom 73 = .ok (.getfield 41, 3) := by decide +kernel
theorem dX4_copyFrom_76 : decode cX4_copyFrom 76 = .ok (.putfield 41, 3) := by decide +kernel
theorem dX4_copyFrom_79 : decode cX4_copyFrom 79 = .ok (.aload_n 0, 1) := by decide +kernel
theorem dX4_copyFrom_80 : decode cX4_copyFrom 80 = .ok (.aload_n 1, 1) := by decide +kernel
theorem dX4_copyFrom_81 : decode cX4_copyFrom 81 = .ok (.getfield 45, 3) := by decide +kernel
theorem dX4_copyFrom_84 : decode cX4_copyFrom 84 = .ok (.putfield 45, 3) := by decide +kernel
theorem dX4_copyFrom_87 : decode cX4_copyFrom 87 = .ok (.aload_n 0, 1) := by decide +kernel
theorem dX4_copyFrom_88 : decode cX4_copyFrom 88 = .ok (.aload_n 1, 1) := by decide +kernel
theorem dX4_copyFrom_89 : decode cX4_copyFrom 89 = .ok (.getfield 48, 3) := by decide +kernel
theorem dX4_copyFrom_92 : decode cX4_copyFrom 92 = .ok (.putfield 48, 3) := by decide +kernel
theorem dX4_copyFrom_95 : decode cX4_copyFrom 95 = .ok (.return_, 1) := by decide +kernel
theorem dX4_knows_0 : decode cX4_knows 0 = .ok (.iload_n 1, 1) := by decide +kernel
theorem dX4_knows_1 : decode cX4_knows 1 = .ok (.ifCond .lt 15, 3) := by decide +kernel
theorem dX4_knows_4 : decode cX4_knows 4 = .ok (.iload_n 1, 1) := by decide +kernel
theorem dX4_knows_5 : decode cX4_knows 5 = .ok (.aload_n 0, 1) := by decide +kernel
theorem dX4_knows_6 : decode cX4_knows 6 = .ok (.getfield 41, 3) := by decide +kernel
theorem dX4_knows_9 : decode cX4_knows 9 = .ok (.if_icmp .ge 7, 3) := by decide +kernel
theorem dX4_knows_12 : decode cX4_knows 12 = .ok (.iconst 1, 1) := by decide +kernel
theorem dX4_knows_13 : decode cX4_knows 13 = .ok (.goto 4, 3) := by decide +kernel
theorem dX4_knows_16 : decode cX4_knows 16 = .ok (.iconst 0, 1) := by decide +kernel
theorem dX4_knows_17 : decode cX4_knows 17 = .ok (.ireturn, 1) := by decide +kernel
theorem dX4_isAtBank_0 : decode cX4_isAtBank 0 = .ok (.aload_n 0, 1) := by decide +kernel
theorem dX4_isAtBank_1 : decode cX4_isAtBank 1 = .ok (.getfield 18, 3) := by decide +kernel
theorem dX4_isAtBank_4 : decode cX4_isAtBank 4 = .ok (.iload_n 1, 1) := by decide +kernel
theorem dX4_isAtBank_5 : decode cX4_isAtBank 5 = .ok (.iaload, 1) := by decide +kernel
theorem dX4_isAtBank_6 : decode cX4_isAtBank 6 = .ok (.iconst (-1), 1) := by decide +kernel
theorem dX4_isAtBank_7 : decode cX4_isAtBank 7 = .ok (.if_icmp .ne 7, 3) := by decide +kernel
theorem dX4_isAtBank_10 : decode cX4_isAtBank 10 = .ok (.iconst 1, 1) := by decide +kernel
theorem dX4_isAtBank_11 : decode cX4_isAtBank 11 = .ok (.goto 4, 3) := by decide +kernel
theorem dX4_isAtBank_14 : decode cX4_isAtBank 14 = .ok (.iconst 0, 1) := by decide +kernel
theorem dX4_isAtBank_15 : decode cX4_isAtBank 15 = .ok (.ireturn, 1) := by decide +kernel
theorem dX4_add_0 : decode cX4_add 0 = .ok (.aload_n 0, 1) := by decide +kernel
theorem dX4_add_1 : decode cX4_add 1 = .ok (.getfield 41, 3) := by decide +kernel
theorem dX4_add_4 : decode cX4_add 4 = .ok (.bipush 10, 2) := by decide +kernel
theorem dX4_add_6 : decode cX4_add 6 = .ok (.if_icmp .lt 5, 3) := by decide +kernel
theorem dX4_add_9 : decode cX4_add 9 = .ok (.iconst (-1), 1) := by decide +kernel
theorem dX4_add_10 : decode cX4_add 10 = .ok (.ireturn, 1) := by decide +kernel
theorem dX4_add_11 : decode cX4_add 11 = .ok (.aload_n 0, 1) := by decide +kernel
theorem dX4_add_12 : decode cX4_add 12 = .ok (.getfield 41, 3) := by decide +kernel
theorem dX4_add_15 : decode cX4_add 15 = .ok (.istore 4, 2) := by decide +kernel
theorem dX4_add_17 : decode cX4_add 17 = .ok (.aload_n 0, 1) := by decide +kernel
theorem dX4_add_18 : decode cX4_add 18 = .ok (.getfield 9, 3) := by decide +kernel
theorem dX4_add_21 : decode cX4_add 21 = .ok (.iload 4, 2) := by decide +kernel
theorem dX4_add_23 : decode cX4_add 23 = .ok (.iload_n 1, 1) := by decide +kernel
theorem dX4_add_24 : decode cX4_add 24 = .ok (.iastore, 1) := by decide +kernel
theorem dX4_add_25 : decode cX4_add 25 = .ok (.aload_n 0, 1) := by decide +kernel
theorem dX4_add_26 : decode cX4_add 26 = .ok (.getfield 15, 3) := by decide +kernel
theorem dX4_add_29 : decode cX4_add 29 = .ok (.iload 4, 2) := by decide +kernel
theorem dX4_add_31 : decode cX4_add 31 = .ok (.iload_n 2, 1) := by decide +kernel
theorem dX4_add_32 : decode cX4_add 32 = .ok (.iastore, 1) := by decide +kernel
theorem dX4_add_33 : decode cX4_add 33 = .ok (.aload_n 0, 1) := by decide +kernel
theorem dX4_add_34 : decode cX4_add 34 = .ok (.getfield 18, 3) := by decide +kernel
theorem dX4_add_37 : decode cX4_add 37 = .ok (.iload 4, 2) := by decide +kernel
theorem dX4_add_39 : decode cX4_add 39 = .ok (.iload_n 3, 1) := by decide +kernel
theorem dX4_add_40 : decode cX4_add 40 = .ok (.iastore, 1) := by decide +kernel
theorem dX4_add_41 : decode cX4_add 41 = .ok (.iconst 0, 1) := by decide +kernel
theorem dX4_add_42 : decode cX4_add 42 = .ok (.istore 5, 2) := by decide +kernel
theorem dX4_add_44 : decode cX4_add 44 = .ok (.iload 5, 2) := by decide +kernel
theorem dX4_add_46 : decode cX4_add 46 = .ok (.iconst 4, 1) := by decide +kernel
theorem dX4_add_47 : decode cX4_add 47 = .ok (.if_icmp .ge 22, 3) := by decide +kernel
theorem dX4_add_50 : decode cX4_add 50 = .ok (.aload_n 0, 1) := by decide +kernel
theorem dX4_add_51 : decode cX4_add 51 = .ok (.getfield 21, 3) := by decide +kernel
theorem dX4_add_54 : decode cX4_add 54 = .ok (.iload 4, 2) := by decide +kernel
theorem dX4_add_56 : decode cX4_add 56 = .ok (.iconst 4, 1) := by decide +kernel
theorem dX4_add_57 : decode cX4_add 57 = .ok (.imul, 1) := by decide +kernel
theorem dX4_add_58 : decode cX4_add 58 = .ok (.iload 5, 2) := by decide +kernel
theorem dX4_add_60 : decode cX4_add 60 = .ok (.iadd, 1) := by decide +kernel
theorem dX4_add_61 : decode cX4_add 61 = .ok (.iconst (-1), 1) := by decide +kernel
theorem dX4_add_62 : decode cX4_add 62 = .ok (.iastore, 1) := by decide +kernel
theorem dX4_add_63 : decode cX4_add 63 = .ok (.iinc 5 1, 3) := by decide +kernel
theorem dX4_add_66 : decode cX4_add 66 = .ok (.goto (-22), 3) := by decide +kernel
theorem dX4_add_69 : decode cX4_add 69 = .ok (.aload_n 0, 1) := by decide +kernel
theorem dX4_add_70 : decode cX4_add 70 = .ok (.dup, 1) := by decide +kernel
theorem dX4_add_71 : decode cX4_add 71 = .ok (.getfield 41, 3) := by decide +kernel
theorem dX4_add_74 : decode cX4_add 74 = .ok (.iconst 1, 1) := by decide +kernel
theorem dX4_add_75 : decode cX4_add 75 = .ok (.iadd, 1) := by decide +kernel
theorem dX4_add_76 : decode cX4_add 76 = .ok (.putfield 41, 3) := by decide +kernel
theorem dX4_add_79 : decode cX4_add 79 = .ok (.iload 4, 2) := by decide +kernel
theorem dX4_add_81 : decode cX4_add 81 = .ok (.ireturn, 1) := by decide +kernel
set_option maxRecDepth 20000 in
theorem ggX4_worthBehindHand_X5_behindHand : GoodIn wsX4_worthBehindHand wsX5_behindHand := goodIn_r _ [6, 7, 8, 9, 10, 11, 12, 5, 13] (by decide +kernel) (by decide +kernel)
set_option maxRecDepth 20000 in
theorem gX4_worthBehindHand_X5_behindHand : GoodIn wsX4_worthBehindHand (va_wsS RX4 51 yX5_behindHand wsX5_behindHand) := goodIn_app (goodIn_of _ (by decide +kernel)) ggX4_worthBehindHand_X5_behindHand
theorem dX4_worthBehindHand_0 : decode cX4_worthBehindHand 0 = .ok (.aload_n 0, 1) := by decide +kernel
theorem dX4_worthBehindHand_1 : decode cX4_worthBehindHand 1 = .ok (.getfield 9, 3) := by decide +kernel
theorem dX4_worthBehindHand_4 : decode cX4_worthBehindHand 4 = .ok (.iload_n 1, 1) := by decide +kernel
theorem dX4_worthBehindHand_5 : decode cX4_worthBehindHand 5 = .ok (.iaload, 1) := by decide +kernel
theorem dX4_worthBehindHand_6 : decode cX4_worthBehindHand 6 = .ok (.aload_n 0, 1) := by decide +kernel
theorem dX4_worthBehindHand_7 : decode cX4_worthBehindHand 7 = .ok (.getfield 15, 3) := by decide +kernel
theorem dX4_worthBehindHand_10 : decode cX4_worthBehindHand 10 = .ok (.iload_n 1, 1) := by decide +kernel
theorem dX4_worthBehindHand_11 : decode cX4_worthBehindHand 11 = .ok (.iaload, 1) := by decide +kernel
theorem dX4_worthBehindHand_12 : decode cX4_worthBehindHand 12 = .ok (.invokestatic 51, 3) := by decide +kernel
theorem dX4_worthBehindHand_15 : decode cX4_worthBehindHand 15 = .ok (.ireturn, 1) := by decide +kernel
theorem dX4_tear_0 : decode cX4_tear 0 = .ok (.aload_n 0, 1) := by decide +kernel
theorem dX4_tear_1 : decode cX4_tear 1 = .ok (.getfield 21, 3) := by decide +kernel
theorem dX4_tear_4 : decode cX4_tear 4 = .ok (.iload_n 1, 1) := by decide +kernel
theorem dX4_tear_5 : decode cX4_tear 5 = .ok (.iconst 4, 1) := by decide +kernel
theorem dX4_tear_6 : decode cX4_tear 6 = .ok (.imul, 1) := by decide +kernel
theorem dX4_tear_7 : decode cX4_tear 7 = .ok (.iload_n 2, 1) := by decide +kernel
theorem dX4_tear_8 : decode cX4_tear 8 = .ok (.iadd, 1) := by decide +kernel
theorem dX4_tear_9 : decode cX4_tear 9 = .ok (.iaload, 1) := by decide +kernel
theorem dX4_tear_10 : decode cX4_tear 10 = .ok (.ireturn, 1) := by decide +kernel
set_option maxRecDepth 20000 in
theorem ggX4_tellOf_X4_worthBehindHand : GoodIn wsX4_tellOf wsX4_worthBehindHand := goodIn_r _ [8, 1, 2, 9, 10, 11, 12, 13, 14, 15, 16, 17, 18, 19, 25, 26, 27, 28, 29, 30, 31, 32] (by decide +kernel) (by decide +kernel)
set_option maxRecDepth 20000 in
theorem gX4_tellOf_X4_worthBehindHand : GoodIn wsX4_tellOf (wsV RX4 57 RX4 yX4_worthBehindHand wsX4_worthBehindHand) := goodIn_app (goodIn_of _ (by decide +kernel)) ggX4_tellOf_X4_worthBehindHand
set_option maxRecDepth 20000 in
theorem ggX4_tellOf_X4_tear : GoodIn wsX4_tellOf wsX4_tear := goodIn_r _ [23, 24, 25, 26, 27, 28, 29, 30, 31, 32] (by decide +kernel) (by decide +kernel)
set_option maxRecDepth 20000 in
theorem gX4_tellOf_X4_tear : GoodIn wsX4_tellOf (wsV RX4 61 RX4 yX4_tear wsX4_tear) := goodIn_app (goodIn_of _ (by decide +kernel)) ggX4_tellOf_X4_tear
theorem dX4_tellOf_0 : decode cX4_tellOf 0 = .ok (.iload_n 2, 1) := by decide +kernel
theorem dX4_tellOf_1 : decode cX4_tellOf 1 = .ok (.tableswitch 58 0 3 #[31, 38, 45, 52], 31) := by decide +kernel
theorem dX4_tellOf_32 : decode cX4_tellOf 32 = .ok (.aload_n 0, 1) := by decide +kernel
theorem dX4_tellOf_33 : decode cX4_tellOf 33 = .ok (.getfield 9, 3) := by decide +kernel
theorem dX4_tellOf_36 : decode cX4_tellOf 36 = .ok (.iload_n 1, 1) := by decide +kernel
theorem dX4_tellOf_37 : decode cX4_tellOf 37 = .ok (.iaload, 1) := by decide +kernel
theorem dX4_tellOf_38 : decode cX4_tellOf 38 = .ok (.ireturn, 1) := by decide +kernel
theorem dX4_tellOf_39 : decode cX4_tellOf 39 = .ok (.aload_n 0, 1) := by decide +kernel
theorem dX4_tellOf_40 : decode cX4_tellOf 40 = .ok (.getfield 15, 3) := by decide +kernel
theorem dX4_tellOf_43 : decode cX4_tellOf 43 = .ok (.iload_n 1, 1) := by decide +kernel
theorem dX4_tellOf_44 : decode cX4_tellOf 44 = .ok (.iaload, 1) := by decide +kernel
theorem dX4_tellOf_45 : decode cX4_tellOf 45 = .ok (.ireturn, 1) := by decide +kernel
theorem dX4_tellOf_46 : decode cX4_tellOf 46 = .ok (.aload_n 0, 1) := by decide +kernel
theorem dX4_tellOf_47 : decode cX4_tellOf 47 = .ok (.getfield 18, 3) := by decide +kernel
theorem dX4_tellOf_50 : decode cX4_tellOf 50 = .ok (.iload_n 1, 1) := by decide +kernel
theorem dX4_tellOf_51 : decode cX4_tellOf 51 = .ok (.iaload, 1) := by decide +kernel
theorem dX4_tellOf_52 : decode cX4_tellOf 52 = .ok (.ireturn, 1) := by decide +kernel
theorem dX4_tellOf_53 : decode cX4_tellOf 53 = .ok (.aload_n 0, 1) := by decide +kernel
theorem dX4_tellOf_54 : decode cX4_tellOf 54 = .ok (.iload_n 1, 1) := by decide +kernel
theorem dX4_tellOf_55 : decode cX4_tellOf 55 = .ok (.invokevirtual 57, 3) := by decide +kernel
theorem dX4_tellOf_58 : decode cX4_tellOf 58 = .ok (.ireturn, 1) := by decide +kernel
theorem dX4_tellOf_59 : decode cX4_tellOf 59 = .ok (.aload_n 0, 1) := by decide +kernel
theorem dX4_tellOf_60 : decode cX4_tellOf 60 = .ok (.iload_n 1, 1) := by decide +kernel
theorem dX4_tellOf_61 : decode cX4_tellOf 61 = .ok (.iload_n 2, 1) := by decide +kernel
theorem dX4_tellOf_62 : decode cX4_tellOf 62 = .ok (.iconst 4, 1) := by decide +kernel
theorem dX4_tellOf_63 : decode cX4_tellOf 63 = .ok (.isub, 1) := by decide +kernel
theorem dX4_tellOf_64 : decode cX4_tellOf 64 = .ok (.invokevirtual 61, 3) := by decide +kernel
theorem dX4_tellOf_67 : decode cX4_tellOf 67 = .ok (.ireturn, 1) := by decide +kernel
set_option maxRecDepth 20000 in
theorem ggX4_goByHand_X4_worthBehindHand : GoodIn wsX4_goByHand wsX4_worthBehindHand := goodIn_r _ [8, 9, 2, 10, 11, 12, 13, 14, 15, 16, 17, 18, 19, 20, 26, 27, 28, 29, 30, 31, 32, 33] (by decide +kernel) (by decide +kernel)
set_option maxRecDepth 20000 in
theorem gX4_goByHand_X4_worthBehindHand : GoodIn wsX4_goByHand (wsV RX4 57 RX4 yX4_worthBehindHand wsX4_worthBehindHand) := goodIn_app (goodIn_of _ (by decide +kernel)) ggX4_goByHand_X4_worthBehindHand
set_option maxRecDepth 20000 in
theorem ggX4_goByHand_X4_tearOff : GoodIn wsX4_goByHand wsX4_tearOff := goodIn_r _ [24, 25, 26, 27, 28, 29, 30, 31, 32, 33] (by decide +kernel) (by decide +kernel)
set_option maxRecDepth 20000 in
theorem gX4_goByHand_X4_tearOff : GoodIn wsX4_goByHand (wsV RX4 64 RX4 yX4_tearOff wsX4_tearOff) := goodIn_app (goodIn_of _ (by decide +kernel)) ggX4_goByHand_X4_tearOff
theorem dX4_goByHand_0 : decode cX4_goByHand 0 = .ok (.aload_n 0, 1) := by decide +kernel
theorem dX4_goByHand_1 : decode cX4_goByHand 1 = .ok (.iload_n 1, 1) := by decide +kernel
theorem dX4_goByHand_2 : decode cX4_goByHand 2 = .ok (.invokevirtual 57, 3) := by decide +kernel
theorem dX4_goByHand_5 : decode cX4_goByHand 5 = .ok (.istore_n 3, 1) := by decide +kernel
theorem dX4_goByHand_6 : decode cX4_goByHand 6 = .ok (.aload_n 0, 1) := by decide +kernel
theorem dX4_goByHand_7 : decode cX4_goByHand 7 = .ok (.dup, 1) := by decide +kernel
theorem dX4_goByHand_8 : decode cX4_goByHand 8 = .ok (.getfield 45, 3) := by decide +kernel
theorem dX4_goByHand_11 : decode cX4_goByHand 11 = .ok (.aload_n 0, 1) := by decide +kernel
theorem dX4_goByHand_12 : decode cX4_goByHand 12 = .ok (.getfield 15, 3) := by decide +kernel
theorem dX4_goByHand_15 : decode cX4_goByHand 15 = .ok (.iload_n 1, 1) := by decide +kernel
theorem dX4_goByHand_16 : decode cX4_goByHand 16 = .ok (.iaload, 1) := by decide +kernel
theorem dX4_goByHand_17 : decode cX4_goByHand 17 = .ok (.iload_n 3, 1) := by decide +kernel
theorem dX4_goByHand_18 : decode cX4_goByHand 18 = .ok (.isub, 1) := by decide +kernel
theorem dX4_goByHand_19 : decode cX4_goByHand 19 = .ok (.iadd, 1) := by decide +kernel
theorem dX4_goByHand_20 : decode cX4_goByHand 20 = .ok (.putfield 45, 3) := by decide +kernel
theorem dX4_goByHand_23 : decode cX4_goByHand 23 = .ok (.aload_n 0, 1) := by decide +kernel
theorem dX4_goByHand_24 : decode cX4_goByHand 24 = .ok (.getfield 15, 3) := by decide +kernel
theorem dX4_goByHand_27 : decode cX4_goByHand 27 = .ok (.iload_n 1, 1) := by decide +kernel
theorem dX4_goByHand_28 : decode cX4_goByHand 28 = .ok (.iload_n 3, 1) := by decide +kernel
theorem dX4_goByHand_29 : decode cX4_goByHand 29 = .ok (.iastore, 1) := by decide +kernel
theorem dX4_goByHand_30 : decode cX4_goByHand 30 = .ok (.aload_n 0, 1) := by decide +kernel
theorem dX4_goByHand_31 : decode cX4_goByHand 31 = .ok (.iload_n 1, 1) := by decide +kernel
theorem dX4_goByHand_32 : decode cX4_goByHand 32 = .ok (.aload_n 0, 1) := by decide +kernel
theorem dX4_goByHand_33 : decode cX4_goByHand 33 = .ok (.getfield 18, 3) := by decide +kernel
theorem dX4_goByHand_36 : decode cX4_goByHand 36 = .ok (.iload_n 1, 1) := by decide +kernel
theorem dX4_goByHand_37 : decode cX4_goByHand 37 = .ok (.iaload, 1) := by decide +kernel
theorem dX4_goByHand_38 : decode cX4_goByHand 38 = .ok (.invokevirtual 64, 3) := by decide +kernel
theorem dX4_goByHand_41 : decode cX4_goByHand 41 = .ok (.aload_n 0, 1) := by decide +kernel
theorem dX4_goByHand_42 : decode cX4_goByHand 42 = .ok (.getfield 18, 3) := by decide +kernel
theorem dX4_goByHand_45 : decode cX4_goByHand 45 = .ok (.iload_n 1, 1) := by decide +kernel
theorem dX4_goByHand_46 : decode cX4_goByHand 46 = .ok (.iload_n 2, 1) := by decide +kernel
theorem dX4_goByHand_47 : decode cX4_goByHand 47 = .ok (.iastore, 1) := by decide +kernel
theorem dX4_goByHand_48 : decode cX4_goByHand 48 = .ok (.iload_n 3, 1) := by decide +kernel
theorem dX4_goByHand_49 : decode cX4_goByHand 49 = .ok (.ireturn, 1) := by decide +kernel
theorem dX4_tearOff_0 : decode cX4_tearOff 0 = .ok (.iload_n 1, 1) := by decide +kernel
theorem dX4_tearOff_1 : decode cX4_tearOff 1 = .ok (.iconst 4, 1) := by decide +kernel
theorem dX4_tearOff_2 : decode cX4_tearOff 2 = .ok (.imul, 1) := by decide +kernel
theorem dX4_tearOff_3 : decode cX4_tearOff 3 = .ok (.istore_n 3, 1) := by decide +kernel
theorem dX4_tearOff_4 : decode cX4_tearOff 4 = .ok (.iconst 3, 1) := by decide +kernel
theorem dX4_tearOff_5 : decode cX4_tearOff 5 = .ok (.istore 4, 2) := by decide +kernel
theorem dX4_tearOff_7 : decode cX4_tearOff 7 = .ok (.iload 4, 2) := by decide +kernel
theorem dX4_tearOff_9 : decode cX4_tearOff 9 = .ok (.ifCond .le 29, 3) := by decide +kernel
theorem dX4_tearOff_12 : decode cX4_tearOff 12 = .ok (.aload_n 0, 1) := by decide +kernel
theorem dX4_tearOff_13 : decode cX4_tearOff 13 = .ok (.getfield 21, 3) := by decide +kernel
theorem dX4_tearOff_16 : decode cX4_tearOff 16 = .ok (.iload_n 3, 1) := by decide +kernel
theorem dX4_tearOff_17 : decode cX4_tearOff 17 = .ok (.iload 4, 2) := by decide +kernel
theorem dX4_tearOff_19 : decode cX4_tearOff 19 = .ok (.iadd, 1) := by decide +kernel
theorem dX4_tearOff_20 : decode cX4_tearOff 20 = .ok (.aload_n 0, 1) := by decide +kernel
theorem dX4_tearOff_21 : decode cX4_tearOff 21 = .ok (.getfield 21, 3) := by decide +kernel
theorem dX4_tearOff_24 : decode cX4_tearOff 24 = .ok (.iload_n 3, 1) := by decide +kernel
theorem dX4_tearOff_25 : decode cX4_tearOff 25 = .ok (.iload 4, 2) := by decide +kernel
theorem dX4_tearOff_27 : decode cX4_tearOff 27 = .ok (.iadd, 1) := by decide +kernel
theorem dX4_tearOff_28 : decode cX4_tearOff 28 = .ok (.iconst 1, 1) := by decide +kernel
theorem dX4_tearOff_29 : decode cX4_tearOff 29 = .ok (.isub, 1) := by decide +kernel
theorem dX4_tearOff_30 : decode cX4_tearOff 30 = .ok (.iaload, 1) := by decide +kernel
theorem dX4_tearOff_31 : decode cX4_tearOff 31 = .ok (.iastore, 1) := by decide +kernel
theorem dX4_tearOff_32 : decode cX4_tearOff 32 = .ok (.iinc 4 (-1), 3) := by decide +kernel
theorem dX4_tearOff_35 : decode cX4_tearOff 35 = .ok (.goto (-28), 3) := by decide +kernel
theorem dX4_tearOff_38 : decode cX4_tearOff 38 = .ok (.aload_n 0, 1) := by decide +kernel
theorem dX4_tearOff_39 : decode cX4_tearOff 39 = .ok (.getfield 21, 3) := by decide +kernel
theorem dX4_tearOff_42 : decode cX4_tearOff 42 = .ok (.iload_n 3, 1) := by decide +kernel
theorem dX4_tearOff_43 : decode cX4_tearOff 43 = .ok (.iload_n 2, 1) := by decide +kernel
theorem dX4_tearOff_44 : decode cX4_tearOff 44 = .ok (.iastore, 1) := by decide +kernel
theorem dX4_tearOff_45 : decode cX4_tearOff 45 = .ok (.return_, 1) := by decide +kernel
set_option maxRecDepth 20000 in
theorem ggX4_takeMould_X4_isAtBank : GoodIn wsX4_takeMould wsX4_isAtBank := goodIn_r _ [9, 10, 22, 23, 24, 25, 26, 27, 28, 29] (by decide +kernel) (by decide +kernel)
set_option maxRecDepth 20000 in
theorem gX4_takeMould_X4_isAtBank : GoodIn wsX4_takeMould (wsV RX4 68 RX4 yX4_isAtBank wsX4_isAtBank) := goodIn_app (goodIn_of _ (by decide +kernel)) ggX4_takeMould_X4_isAtBank
set_option maxRecDepth 20000 in
theorem ggX4_takeMould_X5_behindDamp : GoodIn wsX4_takeMould wsX5_behindDamp := goodIn_r _ [14, 15, 16, 17, 18, 19, 20, 13, 21] (by decide +kernel) (by decide +kernel)
set_option maxRecDepth 20000 in
theorem gX4_takeMould_X5_behindDamp : GoodIn wsX4_takeMould (va_wsS RX4 72 yX5_behindDamp wsX5_behindDamp) := goodIn_app (goodIn_of _ (by decide +kernel)) ggX4_takeMould_X5_behindDamp
theorem dX4_takeMould_0 : decode cX4_takeMould 0 = .ok (.iconst 0, 1) := by decide +kernel
theorem dX4_takeMould_1 : decode cX4_takeMould 1 = .ok (.istore_n 1, 1) := by decide +kernel
theorem dX4_takeMould_2 : decode cX4_takeMould 2 = .ok (.iconst 0, 1) := by decide +kernel
theorem dX4_takeMould_3 : decode cX4_takeMould 3 = .ok (.istore_n 2, 1) := by decide +kernel
theorem dX4_takeMould_4 : decode cX4_takeMould 4 = .ok (.iload_n 2, 1) := by decide +kernel
theorem dX4_takeMould_5 : decode cX4_takeMould 5 = .ok (.aload_n 0, 1) := by decide +kernel
theorem dX4_takeMould_6 : decode cX4_takeMould 6 = .ok (.getfield 41, 3) := by decide +kernel
theorem dX4_takeMould_9 : decode cX4_takeMould 9 = .ok (.if_icmp .ge 51, 3) := by decide +kernel
theorem dX4_takeMould_12 : decode cX4_takeMould 12 = .ok (.aload_n 0, 1) := by decide +kernel
theorem dX4_takeMould_13 : decode cX4_takeMould 13 = .ok (.iload_n 2, 1) := by decide +kernel
theorem dX4_takeMould_14 : decode cX4_takeMould 14 = .ok (.invokevirtual 68, 3) := by decide +kernel
theorem dX4_takeMould_17 : decode cX4_takeMould 17 = .ok (.ifCond .ne 37, 3) := by decide +kernel
theorem dX4_takeMould_20 : decode cX4_takeMould 20 = .ok (.aload_n 0, 1) := by decide +kernel
theorem dX4_takeMould_21 : decode cX4_takeMould 21 = .ok (.getfield 9, 3) := by decide +kernel
theorem dX4_takeMould_24 : decode cX4_takeMould 24 = .ok (.iload_n 2, 1) := by decide +kernel
theorem dX4_takeMould_25 : decode cX4_takeMould 25 = .ok (.iaload, 1) := by decide +kernel
theorem dX4_takeMould_26 : decode cX4_takeMould 26 = .ok (.aload_n 0, 1) := by decide +kernel
theorem dX4_takeMould_27 : decode cX4_takeMould 27 = .ok (.getfield 15, 3) := by decide +kernel
theorem dX4_takeMould_30 : decode cX4_takeMould 30 = .ok (.iload_n 2, 1) := by decide +kernel
theorem dX4_takeMould_31 : decode cX4_takeMould 31 = .ok (.iaload, 1) := by decide +kernel
theorem dX4_takeMould_32 : decode cX4_takeMould 32 = .ok (.invokestatic 72, 3) := by decide +kernel
theorem dX4_takeMould_35 : decode cX4_takeMould 35 = .ok (.istore_n 3, 1) := by decide +kernel
theorem dX4_takeMould_36 : decode cX4_takeMould 36 = .ok (.iload_n 1, 1) := by decide +kernel
theorem dX4_takeMould_37 : decode cX4_takeMould 37 = .ok (.aload_n 0, 1) := by decide +kernel
theorem dX4_takeMould_38 : decode cX4_takeMould 38 = .ok (.getfield 15, 3) := by decide +kernel
theorem dX4_takeMould_41 : decode cX4_takeMould 41 = .ok (.iload_n 2, 1) := by decide +kernel
theorem dX4_takeMould_42 : decode cX4_takeMould 42 = .ok (.iaload, 1) := by decide +kernel
theorem dX4_takeMould_43 : decode cX4_takeMould 43 = .ok (.iload_n 3, 1) := by decide +kernel
theorem dX4_takeMould_44 : decode cX4_takeMould 44 = .ok (.isub, 1) := by decide +kernel
theorem dX4_takeMould_45 : decode cX4_takeMould 45 = .ok (.iadd, 1) := by decide +kernel
theorem dX4_takeMould_46 : decode cX4_takeMould 46 = .ok (.istore_n 1, 1) := by decide +kernel
theorem dX4_takeMould_47 : decode cX4_takeMould 47 = .ok (.aload_n 0, 1) := by decide +kernel
theorem dX4_takeMould_48 : decode cX4_takeMould 48 = .ok (.getfield 15, 3) := by decide +kernel
theorem dX4_takeMould_51 : decode cX4_takeMould 51 = .ok (.iload_n 2, 1) := by decide +kernel
theorem dX4_takeMould_52 : decode cX4_takeMould 52 = .ok (.iload_n 3, 1) := by decide +kernel
theorem dX4_takeMould_53 : decode cX4_takeMould 53 = .ok (.iastore, 1) := by decide +kernel
theorem dX4_takeMould_54 : decode cX4_takeMould 54 = .ok (.iinc 2 1, 3) := by decide +kernel
theorem dX4_takeMould_57 : decode cX4_takeMould 57 = .ok (.goto (-53), 3) := by decide +kernel
theorem dX4_takeMould_60 : decode cX4_takeMould 60 = .ok (.aload_n 0, 1) := by decide +kernel
theorem dX4_takeMould_61 : decode cX4_takeMould 61 = .ok (.dup, 1) := by decide +kernel
theorem dX4_takeMould_62 : decode cX4_takeMould 62 = .ok (.getfield 48, 3) := by decide +kernel
theorem dX4_takeMould_65 : decode cX4_takeMould 65 = .ok (.iload_n 1, 1) := by decide +kernel
theorem dX4_takeMould_66 : decode cX4_takeMould 66 = .ok (.iadd, 1) := by decide +kernel
theorem dX4_takeMould_67 : decode cX4_takeMould 67 = .ok (.putfield 48, 3) := by decide +kernel
theorem dX4_takeMould_70 : decode cX4_takeMould 70 = .ok (.iload_n 1, 1) := by decide +kernel
theorem dX4_takeMould_71 : decode cX4_takeMould 71 = .ok (.ireturn, 1) := by decide +kernel
set_option maxRecDepth 20000 in
theorem ggX4_ownersOfWholeFronds_X4_isAtBank : GoodIn wsX4_ownersOfWholeFronds wsX4_isAtBank := goodIn_r _ [8, 3, 9, 10, 11, 12, 13, 14, 15, 16] (by decide +kernel) (by decide +kernel)
set_option maxRecDepth 20000 in
theorem gX4_ownersOfWholeFronds_X4_isAtBank : GoodIn wsX4_ownersOfWholeFronds (wsV RX4 68 RX4 yX4_isAtBank wsX4_isAtBank) := goodIn_app (goodIn_of _ (by decide +kernel)) ggX4_ownersOfWholeFronds_X4_isAtBank
theorem dX4_ownersOfWholeFronds_0 : decode cX4_ownersOfWholeFronds 0 = .ok (.iconst 0, 1) := by decide +kernel
theorem dX4_ownersOfWholeFronds_1 : decode cX4_ownersOfWholeFronds 1 = .ok (.istore_n 1, 1) := by decide +kernel
theorem dX4_ownersOfWholeFronds_2 : decode cX4_ownersOfWholeFronds 2 = .ok (.iconst 0, 1) := by decide +kernel
theorem dX4_ownersOfWholeFronds_3 : decode cX4_ownersOfWholeFronds 3 = .ok (.istore_n 2, 1) := by decide +kernel
theorem dX4_ownersOfWholeFronds_4 : decode cX4_ownersOfWholeFronds 4 = .ok (.iload_n 2, 1) := by decide +kernel
theorem dX4_ownersOfWholeFronds_5 : decode cX4_ownersOfWholeFronds 5 = .ok (.aload_n 0, 1) := by decide +kernel
theorem dX4_ownersOfWholeFronds_6 : decode cX4_ownersOfWholeFronds 6 = .ok (.getfield 41, 3) := by decide +kernel
theorem dX4_ownersOfWholeFronds_9 : decode cX4_ownersOfWholeFronds 9 = .ok (.if_icmp .ge 39, 3) := by decide +kernel
theorem dX4_ownersOfWholeFronds_12 : decode cX4_ownersOfWholeFronds 12 = .ok (.aload_n 0, 1) := by decide +kernel
theorem dX4_ownersOfWholeFronds_13 : decode cX4_ownersOfWholeFronds 13 = .ok (.getfield 15, 3) := by decide +kernel
theorem dX4_ownersOfWholeFronds_16 : decode cX4_ownersOfWholeFronds 16 = .ok (.iload_n 2, 1) := by decide +kernel
theorem dX4_ownersOfWholeFronds_17 : decode cX4_ownersOfWholeFronds 17 = .ok (.iaload, 1) := by decide +kernel
theorem dX4_ownersOfWholeFronds_18 : decode cX4_ownersOfWholeFronds 18 = .ok (.bipush 9, 2) := by decide +kernel
theorem dX4_ownersOfWholeFronds_20 : decode cX4_ownersOfWholeFronds 20 = .ok (.if_icmp .ne 22, 3) := by decide +kernel
theorem dX4_ownersOfWholeFronds_23 : decode cX4_ownersOfWholeFronds 23 = .ok (.aload_n 0, 1) := by decide +kernel
theorem dX4_ownersOfWholeFronds_24 : decode cX4_ownersOfWholeFronds 24 = .ok (.iload_n 2, 1) := by decide +kernel
theorem dX4_ownersOfWholeFronds_25 : decode cX4_ownersOfWholeFronds 25 = .ok (.invokevirtual 68, 3) := by decide +kernel
theorem dX4_ownersOfWholeFronds_28 : decode cX4_ownersOfWholeFronds 28 = .ok (.ifCond .ne 14, 3) := by decide +kernel
theorem dX4_ownersOfWholeFronds_31 : decode cX4_ownersOfWholeFronds 31 = .ok (.iload_n 1, 1) := by decide +kernel
theorem dX4_ownersOfWholeFronds_32 : decode cX4_ownersOfWholeFronds 32 = .ok (.iconst 1, 1) := by decide +kernel
theorem dX4_ownersOfWholeFronds_33 : decode cX4_ownersOfWholeFronds 33 = .ok (.aload_n 0, 1) := by decide +kernel
theorem dX4_ownersOfWholeFronds_34 : decode cX4_ownersOfWholeFronds 34 = .ok (.getfield 18, 3) := by decide +kernel
theorem dX4_ownersOfWholeFronds_37 : decode cX4_ownersOfWholeFronds 37 = .ok (.iload_n 2, 1) := by decide +kernel
theorem dX4_ownersOfWholeFronds_38 : decode cX4_ownersOfWholeFronds 38 = .ok (.iaload, 1) := by decide +kernel
theorem dX4_ownersOfWholeFronds_39 : decode cX4_ownersOfWholeFronds 39 = .ok (.ishl, 1) := by decide +kernel
theorem dX4_ownersOfWholeFronds_40 : decode cX4_ownersOfWholeFronds 40 = .ok (.ior, 1) := by decide +kernel
theorem dX4_ownersOfWholeFronds_41 : decode cX4_ownersOfWholeFronds 41 = .ok (.istore_n 1, 1) := by decide +kernel
theorem dX4_ownersOfWholeFronds_42 : decode cX4_ownersOfWholeFronds 42 = .ok (.iinc 2 1, 3) := by decide +kernel
theorem dX4_ownersOfWholeFronds_45 : decode cX4_ownersOfWholeFronds 45 = .ok (.goto (-41), 3) := by decide +kernel
theorem dX4_ownersOfWholeFronds_48 : decode cX4_ownersOfWholeFronds 48 = .ok (.iload_n 1, 1) := by decide +kernel
theorem dX4_ownersOfWholeFronds_49 : decode cX4_ownersOfWholeFronds 49 = .ok (.ireturn, 1) := by decide +kernel
theorem dX4_leafletsOfAll_0 : decode cX4_leafletsOfAll 0 = .ok (.iconst 0, 1) := by decide +kernel
theorem dX4_leafletsOfAll_1 : decode cX4_leafletsOfAll 1 = .ok (.istore_n 1, 1) := by decide +kernel
theorem dX4_leafletsOfAll_2 : decode cX4_leafletsOfAll 2 = .ok (.iconst 0, 1) := by decide +kernel
theorem dX4_leafletsOfAll_3 : decode cX4_leafletsOfAll 3 = .ok (.istore_n 2, 1) := by decide +kernel
theorem dX4_leafletsOfAll_4 : decode cX4_leafletsOfAll 4 = .ok (.iload_n 2, 1) := by decide +kernel
theorem dX4_leafletsOfAll_5 : decode cX4_leafletsOfAll 5 = .ok (.aload_n 0, 1) := by decide +kernel
theorem dX4_leafletsOfAll_6 : decode cX4_leafletsOfAll 6 = .ok (.getfield 41, 3) := by decide +kernel
theorem dX4_leafletsOfAll_9 : decode cX4_leafletsOfAll 9 = .ok (.if_icmp .ge 18, 3) := by decide +kernel
theorem dX4_leafletsOfAll_12 : decode cX4_leafletsOfAll 12 = .ok (.iload_n 1, 1) := by decide +kernel
theorem dX4_leafletsOfAll_13 : decode cX4_leafletsOfAll 13 = .ok (.aload_n 0, 1) := by decide +kernel
theorem dX4_leafletsOfAll_14 : decode cX4_leafletsOfAll 14 = .ok (.getfield 15, 3) := by decide +kernel
theorem dX4_leafletsOfAll_17 : decode cX4_leafletsOfAll 17 = .ok (.iload_n 2, 1) := by decide +kernel
theorem dX4_leafletsOfAll_18 : decode cX4_leafletsOfAll 18 = .ok (.iaload, 1) := by decide +kernel
theorem dX4_leafletsOfAll_19 : decode cX4_leafletsOfAll 19 = .ok (.iadd, 1) := by decide +kernel
theorem dX4_leafletsOfAll_20 : decode cX4_leafletsOfAll 20 = .ok (.istore_n 1, 1) := by decide +kernel
theorem dX4_leafletsOfAll_21 : decode cX4_leafletsOfAll 21 = .ok (.iinc 2 1, 3) := by decide +kernel
theorem dX4_leafletsOfAll_24 : decode cX4_leafletsOfAll 24 = .ok (.goto (-20), 3) := by decide +kernel
theorem dX4_leafletsOfAll_27 : decode cX4_leafletsOfAll 27 = .ok (.iload_n 1, 1) := by decide +kernel
theorem dX4_leafletsOfAll_28 : decode cX4_leafletsOfAll 28 = .ok (.ireturn, 1) := by decide +kernel
set_option maxRecDepth 20000 in
theorem ggX4_frondsAtBank_X4_isAtBank : GoodIn wsX4_frondsAtBank wsX4_isAtBank := goodIn_r _ [6, 7, 8, 9, 10, 11, 12, 13, 14, 15] (by decide +kernel) (by decide +kernel)
set_option maxRecDepth 20000 in
theorem gX4_frondsAtBank_X4_isAtBank : GoodIn wsX4_frondsAtBank (wsV RX4 68 RX4 yX4_isAtBank wsX4_isAtBank) := goodIn_app (goodIn_of _ (by decide +kernel)) ggX4_frondsAtBank_X4_isAtBank
theorem dX4_frondsAtBank_0 : decode cX4_frondsAtBank 0 = .ok (.iconst 0, 1) := by decide +kernel
theorem dX4_frondsAtBank_1 : decode cX4_frondsAtBank 1 = .ok (.istore_n 1, 1) := by decide +kernel
theorem dX4_frondsAtBank_2 : decode cX4_frondsAtBank 2 = .ok (.iconst 0, 1) := by decide +kernel
theorem dX4_frondsAtBank_3 : decode cX4_frondsAtBank 3 = .ok (.istore_n 2, 1) := by decide +kernel
theorem dX4_frondsAtBank_4 : decode cX4_frondsAtBank 4 = .ok (.iload_n 2, 1) := by decide +kernel
theorem dX4_frondsAtBank_5 : decode cX4_frondsAtBank 5 = .ok (.aload_n 0, 1) := by decide +kernel
theorem dX4_frondsAtBank_6 : decode cX4_frondsAtBank 6 = .ok (.getfield 41, 3) := by decide +kernel
theorem dX4_frondsAtBank_9 : decode cX4_frondsAtBank 9 = .ok (.if_icmp .ge 20, 3) := by decide +kernel
theorem dX4_frondsAtBank_12 : decode cX4_frondsAtBank 12 = .ok (.aload_n 0, 1) := by decide +kernel
theorem dX4_frondsAtBank_13 : decode cX4_frondsAtBank 13 = .ok (.iload_n 2, 1) := by decide +kernel
theorem dX4_frondsAtBank_14 : decode cX4_frondsAtBank 14 = .ok (.invokevirtual 68, 3) := by decide +kernel
theorem dX4_frondsAtBank_17 : decode cX4_frondsAtBank 17 = .ok (.ifCond .eq 6, 3) := by decide +kernel
theorem dX4_frondsAtBank_20 : decode cX4_frondsAtBank 20 = .ok (.iinc 1 1, 3) := by decide +kernel
theorem dX4_frondsAtBank_23 : decode cX4_frondsAtBank 23 = .ok (.iinc 2 1, 3) := by decide +kernel
theorem dX4_frondsAtBank_26 : decode cX4_frondsAtBank 26 = .ok (.goto (-22), 3) := by decide +kernel
theorem dX4_frondsAtBank_29 : decode cX4_frondsAtBank 29 = .ok (.iload_n 1, 1) := by decide +kernel
theorem dX4_frondsAtBank_30 : decode cX4_frondsAtBank 30 = .ok (.ireturn, 1) := by decide +kernel
