theorem dX3_init_0 : decode cX3_init 0 = .ok (.aload_n 0, 1) := by decide +kernel
theorem dX3_init_1 : decode cX3_init 1 = .ok (.invokespecial 3, 3) := by decide +kernel
theorem dX3_init_4 : decode cX3_init 4 = .ok (.aload_n 0, 1) := by decide +kernel
theorem dX3_init_5 : decode cX3_init 5 = .ok (.bipush 64, 2) := by decide +kernel
theorem dX3_init_7 : decode cX3_init 7 = .ok (.newarray .int, 2) := by decide +kernel
theorem dX3_init_9 : decode cX3_init 9 = .ok (.putfield 11, 3) := by decide +kernel
theorem dX3_init_12 : decode cX3_init 12 = .ok (.aload_n 0, 1) := by decide +kernel
theorem dX3_init_13 : decode cX3_init 13 = .ok (.bipush 64, 2) := by decide +kernel
theorem dX3_init_15 : decode cX3_init 15 = .ok (.newarray .int, 2) := by decide +kernel
theorem dX3_init_17 : decode cX3_init 17 = .ok (.putfield 15, 3) := by decide +kernel
theorem dX3_init_20 : decode cX3_init 20 = .ok (.return_, 1) := by decide +kernel
set_option maxRecDepth 20000 in
theorem ggX3_most_X1_balance : GoodIn wsX3_most wsX1_balance := goodIn_r _ [7, 8, 9, 10, 6, 11, 12, 24] (by decide +kernel) (by decide +kernel)
set_option maxRecDepth 20000 in
theorem gX3_most_X1_balance : GoodIn wsX3_most (wsV RX3 18 RX1 yX1_balance wsX1_balance) := goodIn_app (goodIn_of _ (by decide +kernel)) ggX3_most_X1_balance
set_option maxRecDepth 20000 in
theorem ggX3_most_X3_mostWithin : GoodIn wsX3_most wsX3_mostWithin := goodIn_r _ [17, 2, 18, 19, 20, 21, 1, 22, 23] (by decide +kernel) (by decide +kernel)
set_option maxRecDepth 20000 in
theorem gX3_most_X3_mostWithin : GoodIn wsX3_most (wsV RX3 24 RX3 yX3_mostWithin wsX3_mostWithin) := goodIn_app (goodIn_of _ (by decide +kernel)) ggX3_most_X3_mostWithin
theorem dX3_most_0 : decode cX3_most 0 = .ok (.iconst 0, 1) := by decide +kernel
theorem dX3_most_1 : decode cX3_most 1 = .ok (.istore_n 2, 1) := by decide +kernel
theorem dX3_most_2 : decode cX3_most 2 = .ok (.iload_n 2, 1) := by decide +kernel
theorem dX3_most_3 : decode cX3_most 3 = .ok (.bipush 6, 2) := by decide +kernel
theorem dX3_most_5 : decode cX3_most 5 = .ok (.if_icmp .ge 55, 3) := by decide +kernel
theorem dX3_most_8 : decode cX3_most 8 = .ok (.aload_n 1, 1) := by decide +kernel
theorem dX3_most_9 : decode cX3_most 9 = .ok (.iload_n 2, 1) := by decide +kernel
theorem dX3_most_10 : decode cX3_most 10 = .ok (.invokevirtual 18, 3) := by decide +kernel
theorem dX3_most_13 : decode cX3_most 13 = .ok (.istore_n 3, 1) := by decide +kernel
theorem dX3_most_14 : decode cX3_most 14 = .ok (.iconst 1, 1) := by decide +kernel
theorem dX3_most_15 : decode cX3_most 15 = .ok (.iload_n 2, 1) := by decide +kernel
theorem dX3_most_16 : decode cX3_most 16 = .ok (.ishl, 1) := by decide +kernel
theorem dX3_most_17 : decode cX3_most 17 = .ok (.istore 4, 2) := by decide +kernel
theorem dX3_most_19 : decode cX3_most 19 = .ok (.iconst 0, 1) := by decide +kernel
theorem dX3_most_20 : decode cX3_most 20 = .ok (.istore 5, 2) := by decide +kernel
theorem dX3_most_22 : decode cX3_most 22 = .ok (.iload 5, 2) := by decide +kernel
theorem dX3_most_24 : decode cX3_most 24 = .ok (.iload 4, 2) := by decide +kernel
theorem dX3_most_26 : decode cX3_most 26 = .ok (.if_icmp .ge 28, 3) := by decide +kernel
theorem dX3_most_29 : decode cX3_most 29 = .ok (.aload_n 0, 1) := by decide +kernel
theorem dX3_most_30 : decode cX3_most 30 = .ok (.getfield 11, 3) := by decide +kernel
theorem dX3_most_33 : decode cX3_most 33 = .ok (.iload 4, 2) := by decide +kernel
theorem dX3_most_35 : decode cX3_most 35 = .ok (.iload 5, 2) := by decide +kernel
theorem dX3_most_37 : decode cX3_most 37 = .ok (.iadd, 1) := by decide +kernel
theorem dX3_most_38 : decode cX3_most 38 = .ok (.aload_n 0, 1) := by decide +kernel
theorem dX3_most_39 : decode cX3_most 39 = .ok (.getfield 11, 3) := by decide +kernel
theorem dX3_most_42 : decode cX3_most 42 = .ok (.iload 5, 2) := by decide +kernel
theorem dX3_most_44 : decode cX3_most 44 = .ok (.iaload, 1) := by decide +kernel
theorem dX3_most_45 : decode cX3_most 45 = .ok (.iload_n 3, 1) := by decide +kernel
theorem dX3_most_46 : decode cX3_most 46 = .ok (.iadd, 1) := by decide +kernel
theorem dX3_most_47 : decode cX3_most 47 = .ok (.iastore, 1) := by decide +kernel
theorem dX3_most_48 : decode cX3_most 48 = .ok (.iinc 5 1, 3) := by decide +kernel
theorem dX3_most_51 : decode cX3_most 51 = .ok (.goto (-29), 3) := by decide +kernel
theorem dX3_most_54 : decode cX3_most 54 = .ok (.iinc 2 1, 3) := by decide +kernel
theorem dX3_most_57 : decode cX3_most 57 = .ok (.goto (-55), 3) := by decide +kernel
theorem dX3_most_60 : decode cX3_most 60 = .ok (.iconst 1, 1) := by decide +kernel
theorem dX3_most_61 : decode cX3_most 61 = .ok (.istore_n 2, 1) := by decide +kernel
theorem dX3_most_62 : decode cX3_most 62 = .ok (.iload_n 2, 1) := by decide +kernel
theorem dX3_most_63 : decode cX3_most 63 = .ok (.bipush 64, 2) := by decide +kernel
theorem dX3_most_65 : decode cX3_most 65 = .ok (.if_icmp .ge 20, 3) := by decide +kernel
theorem dX3_most_68 : decode cX3_most 68 = .ok (.aload_n 0, 1) := by decide +kernel
theorem dX3_most_69 : decode cX3_most 69 = .ok (.getfield 15, 3) := by decide +kernel
theorem dX3_most_72 : decode cX3_most 72 = .ok (.iload_n 2, 1) := by decide +kernel
theorem dX3_most_73 : decode cX3_most 73 = .ok (.aload_n 0, 1) := by decide +kernel
theorem dX3_most_74 : decode cX3_most 74 = .ok (.iload_n 2, 1) := by decide +kernel
theorem dX3_most_75 : decode cX3_most 75 = .ok (.invokevirtual 24, 3) := by decide +kernel
theorem dX3_most_78 : decode cX3_most 78 = .ok (.iastore, 1) := by decide +kernel
theorem dX3_most_79 : decode cX3_most 79 = .ok (.iinc 2 1, 3) := by decide +kernel
theorem dX3_most_82 : decode cX3_most 82 = .ok (.goto (-20), 3) := by decide +kernel
theorem dX3_most_85 : decode cX3_most 85 = .ok (.aload_n 0, 1) := by decide +kernel
theorem dX3_most_86 : decode cX3_most 86 = .ok (.getfield 15, 3) := by decide +kernel
theorem dX3_most_89 : decode cX3_most 89 = .ok (.bipush 63, 2) := by decide +kernel
theorem dX3_most_91 : decode cX3_most 91 = .ok (.iaload, 1) := by decide +kernel
theorem dX3_most_92 : decode cX3_most 92 = .ok (.ireturn, 1) := by decide +kernel
theorem dX3_mostWithin_0 : decode cX3_mostWithin 0 = .ok (.iconst 0, 1) := by decide +kernel
theorem dX3_mostWithin_1 : decode cX3_mostWithin 1 = .ok (.istore_n 2, 1) := by decide +kernel
theorem dX3_mostWithin_2 : decode cX3_mostWithin 2 = .ok (.iconst 0, 1) := by decide +kernel
theorem dX3_mostWithin_3 : decode cX3_mostWithin 3 = .ok (.istore_n 3, 1) := by decide +kernel
theorem dX3_mostWithin_4 : decode cX3_mostWithin 4 = .ok (.iload_n 3, 1) := by decide +kernel
theorem dX3_mostWithin_5 : decode cX3_mostWithin 5 = .ok (.bipush 6, 2) := by decide +kernel
theorem dX3_mostWithin_7 : decode cX3_mostWithin 7 = .ok (.if_icmp .ge 32, 3) := by decide +kernel
theorem dX3_mostWithin_10 : decode cX3_mostWithin 10 = .ok (.iload_n 1, 1) := by decide +kernel
theorem dX3_mostWithin_11 : decode cX3_mostWithin 11 = .ok (.iload_n 3, 1) := by decide +kernel
theorem dX3_mostWithin_12 : decode cX3_mostWithin 12 = .ok (.ishr, 1) := by decide +kernel
theorem dX3_mostWithin_13 : decode cX3_mostWithin 13 = .ok (.iconst 1, 1) := by decide +kernel
theorem dX3_mostWithin_14 : decode cX3_mostWithin 14 = .ok (.iand, 1) := by decide +kernel
theorem dX3_mostWithin_15 : decode cX3_mostWithin 15 = .ok (.ifCond .eq 18, 3) := by decide +kernel
theorem dX3_mostWithin_18 : decode cX3_mostWithin 18 = .ok (.iload_n 2, 1) := by decide +kernel
theorem dX3_mostWithin_19 : decode cX3_mostWithin 19 = .ok (.aload_n 0, 1) := by decide +kernel
theorem dX3_mostWithin_20 : decode cX3_mostWithin 20 = .ok (.getfield 15, 3) := by decide +kernel
theorem dX3_mostWithin_23 : decode cX3_mostWithin 23 = .ok (.iload_n 1, 1) := by decide +kernel
theorem dX3_mostWithin_24 : decode cX3_mostWithin 24 = .ok (.iconst 1, 1) := by decide +kernel
theorem dX3_mostWithin_25 : decode cX3_mostWithin 25 = .ok (.iload_n 3, 1) := by decide +kernel
theorem dX3_mostWithin_26 : decode cX3_mostWithin 26 = .ok (.ishl, 1) := by decide +kernel
theorem dX3_mostWithin_27 : decode cX3_mostWithin 27 = .ok (.ixor, 1) := by decide +kernel
theorem dX3_mostWithin_28 : decode cX3_mostWithin 28 = .ok (.iaload, 1) := by decide +kernel
theorem dX3_mostWithin_29 : decode cX3_mostWithin 29 = .ok (.invokestatic 27, 3) := by decide +kernel
theorem dX3_mostWithin_32 : decode cX3_mostWithin 32 = .ok (.istore_n 2, 1) := by decide +kernel
theorem dX3_mostWithin_33 : decode cX3_mostWithin 33 = .ok (.iinc 3 1, 3) := by decide +kernel
theorem dX3_mostWithin_36 : decode cX3_mostWithin 36 = .ok (.goto (-32), 3) := by decide +kernel
theorem dX3_mostWithin_39 : decode cX3_mostWithin 39 = .ok (.aload_n 0, 1) := by decide +kernel
theorem dX3_mostWithin_40 : decode cX3_mostWithin 40 = .ok (.getfield 11, 3) := by decide +kernel
theorem dX3_mostWithin_43 : decode cX3_mostWithin 43 = .ok (.iload_n 1, 1) := by decide +kernel
theorem dX3_mostWithin_44 : decode cX3_mostWithin 44 = .ok (.iaload, 1) := by decide +kernel
theorem dX3_mostWithin_45 : decode cX3_mostWithin 45 = .ok (.ifCond .ne 9, 3) := by decide +kernel
theorem dX3_mostWithin_48 : decode cX3_mostWithin 48 = .ok (.iload_n 2, 1) := by decide +kernel
theorem dX3_mostWithin_49 : decode cX3_mostWithin 49 = .ok (.iconst 1, 1) := by decide +kernel
theorem dX3_mostWithin_50 : decode cX3_mostWithin 50 = .ok (.iadd, 1) := by decide +kernel
theorem dX3_mostWithin_51 : decode cX3_mostWithin 51 = .ok (.goto 4, 3) := by decide +kernel
theorem dX3_mostWithin_54 : decode cX3_mostWithin 54 = .ok (.iload_n 2, 1) := by decide +kernel
theorem dX3_mostWithin_55 : decode cX3_mostWithin 55 = .ok (.ireturn, 1) := by decide +kernel
