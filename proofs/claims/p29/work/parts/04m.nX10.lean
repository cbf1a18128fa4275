set_option maxRecDepth 20000 in
theorem ggX10_init_X4_init : GoodIn wsX10_init wsX4_init := goodIn_r _ [39, 40, 2, 3, 41, 42, 43, 44, 45, 46, 47, 48, 49, 50, 51, 52, 53, 83, 84, 85, 86, 87, 88, 89, 90, 118] (by decide +kernel) (by decide +kernel)
set_option maxRecDepth 20000 in
theorem gX10_init_X4_init_n9 : GoodIn wsX10_init (wsX4_init) := ggX10_init_X4_init
set_option maxRecDepth 20000 in
theorem ggX10_init_X6_init : GoodIn wsX10_init wsX6_init := goodIn_r _ [55, 56, 2, 3, 41, 57, 102, 103] (by decide +kernel) (by decide +kernel)
set_option maxRecDepth 20000 in
theorem gX10_init_X6_init_n24 : GoodIn wsX10_init (wsX6_init) := ggX10_init_X6_init
set_option maxRecDepth 20000 in
theorem ggX10_init_X7_init : GoodIn wsX10_init wsX7_init := goodIn_r _ [59, 60, 2, 3] (by decide +kernel) (by decide +kernel)
set_option maxRecDepth 20000 in
theorem gX10_init_X7_init_n31 : GoodIn wsX10_init (wsX7_init) := ggX10_init_X7_init
set_option maxRecDepth 20000 in
theorem ggX10_init_X8_init : GoodIn wsX10_init wsX8_init := goodIn_r _ [62, 63, 2, 3, 41, 64, 65, 107, 108, 109] (by decide +kernel) (by decide +kernel)
set_option maxRecDepth 20000 in
theorem gX10_init_X8_init_n38 : GoodIn wsX10_init (wsX8_init) := ggX10_init_X8_init
set_option maxRecDepth 20000 in
theorem ggX10_init_X3_init : GoodIn wsX10_init wsX3_init := goodIn_r _ [67, 68, 2, 3, 41, 69, 70, 110, 111] (by decide +kernel) (by decide +kernel)
set_option maxRecDepth 20000 in
theorem gX10_init_X3_init_n45 : GoodIn wsX10_init (wsX3_init) := ggX10_init_X3_init
set_option maxRecDepth 20000 in
theorem ggX10_init_X0_init : GoodIn wsX10_init wsX0_init := goodIn_r _ [72, 73, 2, 3, 74, 75, 112, 113, 114, 115] (by decide +kernel) (by decide +kernel)
set_option maxRecDepth 20000 in
theorem gX10_init_X0_init_n52 : GoodIn wsX10_init (wsX0_init) := ggX10_init_X0_init
set_option maxRecDepth 20000 in
theorem ggX10_init_X9_init : GoodIn wsX10_init wsX9_init := goodIn_r _ [77, 78, 2, 3, 41, 79, 116] (by decide +kernel) (by decide +kernel)
set_option maxRecDepth 20000 in
theorem gX10_init_X9_init_n59 : GoodIn wsX10_init (wsX9_init) := ggX10_init_X9_init
set_option maxRecDepth 20000 in
theorem ggX10_init_X2_init : GoodIn wsX10_init wsX2_init := goodIn_r _ [81, 82, 2, 3] (by decide +kernel) (by decide +kernel)
set_option maxRecDepth 20000 in
theorem gX10_init_X2_init_n66 : GoodIn wsX10_init (wsX2_init) := ggX10_init_X2_init
theorem dX10_init_0 : decode cX10_init 0 = .ok (.aload_n 0, 1) := by decide +kernel
theorem dX10_init_1 : decode cX10_init 1 = .ok (.invokespecial 1, 3) := by decide +kernel
theorem dX10_init_4 : decode cX10_init 4 = .ok (.aload_n 0, 1) := by decide +kernel
theorem dX10_init_5 : decode cX10_init 5 = .ok (.new 7, 3) := by decide +kernel
theorem dX10_init_8 : decode cX10_init 8 = .ok (.dup, 1) := by decide +kernel
theorem dX10_init_9 : decode cX10_init 9 = .ok (.invokespecial 9, 3) := by decide +kernel
theorem dX10_init_12 : decode cX10_init 12 = .ok (.putfield 10, 3) := by decide +kernel
theorem dX10_init_15 : decode cX10_init 15 = .ok (.aload_n 0, 1) := by decide +kernel
theorem dX10_init_16 : decode cX10_init 16 = .ok (.new 7, 3) := by decide +kernel
theorem dX10_init_19 : decode cX10_init 19 = .ok (.dup, 1) := by decide +kernel
theorem dX10_init_20 : decode cX10_init 20 = .ok (.invokespecial 9, 3) := by decide +kernel
theorem dX10_init_23 : decode cX10_init 23 = .ok (.putfield 16, 3) := by decide +kernel
theorem dX10_init_26 : decode cX10_init 26 = .ok (.aload_n 0, 1) := by decide +kernel
theorem dX10_init_27 : decode cX10_init 27 = .ok (.new 7, 3) := by decide +kernel
theorem dX10_init_30 : decode cX10_init 30 = .ok (.dup, 1) := by decide +kernel
theorem dX10_init_31 : decode cX10_init 31 = .ok (.invokespecial 9, 3) := by decide +kernel
theorem dX10_init_34 : decode cX10_init 34 = .ok (.putfield 19, 3) := by decide +kernel
theorem dX10_init_37 : decode cX10_init 37 = .ok (.aload_n 0, 1) := by decide +kernel
theorem dX10_init_38 : decode cX10_init 38 = .ok (.new 22, 3) := by decide +kernel
theorem dX10_init_41 : decode cX10_init 41 = .ok (.dup, 1) := by decide +kernel
theorem dX10_init_42 : decode cX10_init 42 = .ok (.invokespecial 24, 3) := by decide +kernel
theorem dX10_init_45 : decode cX10_init 45 = .ok (.putfield 25, 3) := by decide +kernel
theorem dX10_init_48 : decode cX10_init 48 = .ok (.aload_n 0, 1) := by decide +kernel
theorem dX10_init_49 : decode cX10_init 49 = .ok (.new 29, 3) := by decide +kernel
theorem dX10_init_52 : decode cX10_init 52 = .ok (.dup, 1) := by decide +kernel
theorem dX10_init_53 : decode cX10_init 53 = .ok (.invokespecial 31, 3) := by decide +kernel
theorem dX10_init_56 : decode cX10_init 56 = .ok (.putfield 32, 3) := by decide +kernel
theorem dX10_init_59 : decode cX10_init 59 = .ok (.aload_n 0, 1) := by decide +kernel
theorem dX10_init_60 : decode cX10_init 60 = .ok (.new 36, 3) := by decide +kernel
theorem dX10_init_63 : decode cX10_init 63 = .ok (.dup, 1) := by decide +kernel
theorem dX10_init_64 : decode cX10_init 64 = .ok (.invokespecial 38, 3) := by decide +kernel
theorem dX10_init_67 : decode cX10_init 67 = .ok (.putfield 39, 3) := by decide +kernel
theorem dX10_init_70 : decode cX10_init 70 = .ok (.aload_n 0, 1) := by decide +kernel
theorem dX10_init_71 : decode cX10_init 71 = .ok (.new 43, 3) := by decide +kernel
theorem dX10_init_74 : decode cX10_init 74 = .ok (.dup, 1) := by decide +kernel
theorem dX10_init_75 : decode cX10_init 75 = .ok (.invokespecial 45, 3) := by decide +kernel
theorem dX10_init_78 : decode cX10_init 78 = .ok (.putfield 46, 3) := by decide +kernel
theorem dX10_init_81 : decode cX10_init 81 = .ok (.aload_n 0, 1) := by decide +kernel
theorem dX10_init_82 : decode cX10_init 82 = .ok (.new 50, 3) := by decide +kernel
theorem dX10_init_85 : decode cX10_init 85 = .ok (.dup, 1) := by decide +kernel
theorem dX10_init_86 : decode cX10_init 86 = .ok (.invokespecial 52, 3) := by decide +kernel
theorem dX10_init_89 : decode cX10_init 89 = .ok (.putfield 53, 3) := by decide +kernel
theorem dX10_init_92 : decode cX10_init 92 = .ok (.aload_n 0, 1) := by decide +kernel
theorem dX10_init_93 : decode cX10_init 93 = .ok (.new 57, 3) := by decide +kernel
theorem dX10_init_96 : decode cX10_init 96 = .ok (.dup, 1) := by decide +kernel
theorem dX10_init_97 : decode cX10_init 97 = .ok (.invokespecial 59, 3) := by decide +kernel
theorem dX10_init_100 : decode cX10_init 100 = .ok (.putfield 60, 3) := by decide +kernel
theorem dX10_init_103 : decode cX10_init 103 = .ok (.aload_n 0, 1) := by decide +kernel
theorem dX10_init_104 : decode cX10_init 104 = .ok (.new 64, 3) := by decide +kernel
theorem dX10_init_107 : decode cX10_init 107 = .ok (.dup, 1) := by decide +kernel
theorem dX10_init_108 : decode cX10_init 108 = .ok (.invokespecial 66, 3) := by decide +kernel
theorem dX10_init_111 : decode cX10_init 111 = .ok (.putfield 67, 3) := by decide +kernel
theorem dX10_init_114 : decode cX10_init 114 = .ok (.return_, 1) := by decide +kernel
set_option maxRecDepth 20000 in
theorem ggX10_letters_X6_lettersIn : GoodIn wsX10_letters wsX6_lettersIn := goodIn_r _ [6, 7, 8, 5, 9] (by decide +kernel) (by decide +kernel)
set_option maxRecDepth 20000 in
theorem gX10_letters_X6_lettersIn : GoodIn wsX10_letters (va_wsS RX10 71 yX6_lettersIn wsX6_lettersIn) := goodIn_app (goodIn_of _ (by decide +kernel)) ggX10_letters_X6_lettersIn
set_option maxRecDepth 20000 in
theorem ggX10_letters_X6_write : GoodIn wsX10_letters wsX6_write := goodIn_r _ [13, 14, 15, 7, 8, 5, 9, 27, 28] (by decide +kernel) (by decide +kernel)
set_option maxRecDepth 20000 in
theorem gX10_letters_X6_write : GoodIn wsX10_letters (wsV RX10 79 RX6 yX6_write wsX6_write) := goodIn_app (goodIn_of _ (by decide +kernel)) ggX10_letters_X6_write
theorem dX10_letters_0 : decode cX10_letters 0 = .ok (.lload_n 1, 1) := by decide +kernel
theorem dX10_letters_1 : decode cX10_letters 1 = .ok (.invokestatic 71, 3) := by decide +kernel
theorem dX10_letters_4 : decode cX10_letters 4 = .ok (.istore_n 3, 1) := by decide +kernel
theorem dX10_letters_5 : decode cX10_letters 5 = .ok (.iload_n 3, 1) := by decide +kernel
theorem dX10_letters_6 : decode cX10_letters 6 = .ok (.iconst (-1), 1) := by decide +kernel
theorem dX10_letters_7 : decode cX10_letters 7 = .ok (.if_icmp .ne 6, 3) := by decide +kernel
theorem dX10_letters_10 : decode cX10_letters 10 = .ok (.bipush (-102), 2) := by decide +kernel
theorem dX10_letters_12 : decode cX10_letters 12 = .ok (.ireturn, 1) := by decide +kernel
theorem dX10_letters_13 : decode cX10_letters 13 = .ok (.aload_n 0, 1) := by decide +kernel
theorem dX10_letters_14 : decode cX10_letters 14 = .ok (.getfield 25, 3) := by decide +kernel
theorem dX10_letters_17 : decode cX10_letters 17 = .ok (.getfield 75, 3) := by decide +kernel
theorem dX10_letters_20 : decode cX10_letters 20 = .ok (.iload_n 3, 1) := by decide +kernel
theorem dX10_letters_21 : decode cX10_letters 21 = .ok (.iadd, 1) := by decide +kernel
theorem dX10_letters_22 : decode cX10_letters 22 = .ok (.bipush 22, 2) := by decide +kernel
theorem dX10_letters_24 : decode cX10_letters 24 = .ok (.if_icmp .le 6, 3) := by decide +kernel
theorem dX10_letters_27 : decode cX10_letters 27 = .ok (.bipush (-104), 2) := by decide +kernel
theorem dX10_letters_29 : decode cX10_letters 29 = .ok (.ireturn, 1) := by decide +kernel
theorem dX10_letters_30 : decode cX10_letters 30 = .ok (.aload_n 0, 1) := by decide +kernel
theorem dX10_letters_31 : decode cX10_letters 31 = .ok (.getfield 25, 3) := by decide +kernel
theorem dX10_letters_34 : decode cX10_letters 34 = .ok (.lload_n 1, 1) := by decide +kernel
theorem dX10_letters_35 : decode cX10_letters 35 = .ok (.iload_n 3, 1) := by decide +kernel
theorem dX10_letters_36 : decode cX10_letters 36 = .ok (.invokevirtual 79, 3) := by decide +kernel
theorem dX10_letters_39 : decode cX10_letters 39 = .ok (.aload_n 0, 1) := by decide +kernel
theorem dX10_letters_40 : decode cX10_letters 40 = .ok (.getfield 25, 3) := by decide +kernel
theorem dX10_letters_43 : decode cX10_letters 43 = .ok (.getfield 75, 3) := by decide +kernel
theorem dX10_letters_46 : decode cX10_letters 46 = .ok (.ireturn, 1) := by decide +kernel
theorem dX10_blank_0 : decode cX10_blank 0 = .ok (.aload_n 0, 1) := by decide +kernel
theorem dX10_blank_1 : decode cX10_blank 1 = .ok (.getfield 25, 3) := by decide +kernel
theorem dX10_blank_4 : decode cX10_blank 4 = .ok (.getfield 75, 3) := by decide +kernel
theorem dX10_blank_7 : decode cX10_blank 7 = .ok (.istore_n 1, 1) := by decide +kernel
theorem dX10_blank_8 : decode cX10_blank 8 = .ok (.aload_n 0, 1) := by decide +kernel
theorem dX10_blank_9 : decode cX10_blank 9 = .ok (.getfield 25, 3) := by decide +kernel
theorem dX10_blank_12 : decode cX10_blank 12 = .ok (.iconst 0, 1) := by decide +kernel
theorem dX10_blank_13 : decode cX10_blank 13 = .ok (.putfield 75, 3) := by decide +kernel
theorem dX10_blank_16 : decode cX10_blank 16 = .ok (.iload_n 1, 1) := by decide +kernel
theorem dX10_blank_17 : decode cX10_blank 17 = .ok (.ireturn, 1) := by decide +kernel
set_option maxRecDepth 20000 in
theorem ggX10_fault_X6_firstFault : GoodIn wsX10_fault wsX6_firstFault := goodIn_r _ [6, 7, 8, 9, 10, 5, 11, 12, 13, 14, 15, 27, 28] (by decide +kernel) (by decide +kernel)
set_option maxRecDepth 20000 in
theorem gX10_fault_X6_firstFault : GoodIn wsX10_fault (wsV RX10 83 RX6 yX6_firstFault wsX6_firstFault) := goodIn_app (goodIn_of _ (by decide +kernel)) ggX10_fault_X6_firstFault
theorem dX10_fault_0 : decode cX10_fault 0 = .ok (.aload_n 0, 1) := by decide +kernel
theorem dX10_fault_1 : decode cX10_fault 1 = .ok (.getfield 25, 3) := by decide +kernel
theorem dX10_fault_4 : decode cX10_fault 4 = .ok (.invokevirtual 83, 3) := by decide +kernel
theorem dX10_fault_7 : decode cX10_fault 7 = .ok (.ireturn, 1) := by decide +kernel
set_option maxRecDepth 20000 in
theorem ggX10_book_X10_isPerson : GoodIn wsX10_book wsX10_isPerson := goodIn_r _ [8, 9, 10, 7, 11] (by decide +kernel) (by decide +kernel)
set_option maxRecDepth 20000 in
theorem gX10_book_X10_isPerson : GoodIn wsX10_book (va_wsS RX10 87 yX10_isPerson wsX10_isPerson) := goodIn_app (goodIn_of _ (by decide +kernel)) ggX10_book_X10_isPerson
set_option maxRecDepth 20000 in
theorem ggX10_book_X6_frondsOfBook : GoodIn wsX10_book wsX6_frondsOfBook := goodIn_r _ [16, 17, 18, 19, 20, 21, 15, 22, 23, 24, 25, 26, 27, 28, 29, 63, 64] (by decide +kernel) (by decide +kernel)
set_option maxRecDepth 20000 in
theorem gX10_book_X6_frondsOfBook : GoodIn wsX10_book (wsV RX10 91 RX6 yX6_frondsOfBook wsX6_frondsOfBook) := goodIn_app (goodIn_of _ (by decide +kernel)) ggX10_book_X6_frondsOfBook
set_option maxRecDepth 20000 in
theorem ggX10_book_X6_readInto : GoodIn wsX10_book wsX6_readInto := goodIn_r _ [33, 17, 18, 23, 24, 15, 25, 34, 35, 36, 37, 38, 39, 40, 41, 42, 43, 26, 27, 28, 29, 63, 64, 55, 56, 57, 58, 59, 60, 61, 62] (by decide +kernel) (by decide +kernel)
set_option maxRecDepth 20000 in
theorem gX10_book_X6_readInto : GoodIn wsX10_book (wsV RX10 95 RX6 yX6_readInto wsX6_readInto) := goodIn_app (goodIn_of _ (by decide +kernel)) ggX10_book_X6_readInto
theorem dX10_book_0 : decode cX10_book 0 = .ok (.iload_n 1, 1) := by decide +kernel
theorem dX10_book_1 : decode cX10_book 1 = .ok (.invokestatic 87, 3) := by decide +kernel
theorem dX10_book_4 : decode cX10_book 4 = .ok (.ifCond .ne 6, 3) := by decide +kernel
theorem dX10_book_7 : decode cX10_book 7 = .ok (.bipush (-101), 2) := by decide +kernel
theorem dX10_book_9 : decode cX10_book 9 = .ok (.ireturn, 1) := by decide +kernel
theorem dX10_book_10 : decode cX10_book 10 = .ok (.aload_n 0, 1) := by decide +kernel
theorem dX10_book_11 : decode cX10_book 11 = .ok (.getfield 25, 3) := by decide +kernel
theorem dX10_book_14 : decode cX10_book 14 = .ok (.invokevirtual 91, 3) := by decide +kernel
theorem dX10_book_17 : decode cX10_book 17 = .ok (.istore_n 2, 1) := by decide +kernel
theorem dX10_book_18 : decode cX10_book 18 = .ok (.iload_n 2, 1) := by decide +kernel
theorem dX10_book_19 : decode cX10_book 19 = .ok (.iconst (-1), 1) := by decide +kernel
theorem dX10_book_20 : decode cX10_book 20 = .ok (.if_icmp .ne 6, 3) := by decide +kernel
theorem dX10_book_23 : decode cX10_book 23 = .ok (.bipush (-103), 2) := by decide +kernel
theorem dX10_book_25 : decode cX10_book 25 = .ok (.ireturn, 1) := by decide +kernel
theorem dX10_book_26 : decode cX10_book 26 = .ok (.aload_n 0, 1) := by decide +kernel
theorem dX10_book_27 : decode cX10_book 27 = .ok (.getfield 10, 3) := by decide +kernel
theorem dX10_book_30 : decode cX10_book 30 = .ok (.getfield 94, 3) := by decide +kernel
theorem dX10_book_33 : decode cX10_book 33 = .ok (.iload_n 2, 1) := by decide +kernel
theorem dX10_book_34 : decode cX10_book 34 = .ok (.iadd, 1) := by decide +kernel
theorem dX10_book_35 : decode cX10_book 35 = .ok (.bipush 10, 2) := by decide +kernel
theorem dX10_book_37 : decode cX10_book 37 = .ok (.if_icmp .le 6, 3) := by decide +kernel
theorem dX10_book_40 : decode cX10_book 40 = .ok (.bipush (-104), 2) := by decide +kernel
theorem dX10_book_42 : decode cX10_book 42 = .ok (.ireturn, 1) := by decide +kernel
theorem dX10_book_43 : decode cX10_book 43 = .ok (.aload_n 0, 1) := by decide +kernel
theorem dX10_book_44 : decode cX10_book 44 = .ok (.getfield 25, 3) := by decide +kernel
theorem dX10_book_47 : decode cX10_book 47 = .ok (.aload_n 0, 1) := by decide +kernel
theorem dX10_book_48 : decode cX10_book 48 = .ok (.getfield 10, 3) := by decide +kernel
theorem dX10_book_51 : decode cX10_book 51 = .ok (.iload_n 1, 1) := by decide +kernel
theorem dX10_book_52 : decode cX10_book 52 = .ok (.invokevirtual 95, 3) := by decide +kernel
theorem dX10_book_55 : decode cX10_book 55 = .ok (.aload_n 0, 1) := by decide +kernel
theorem dX10_book_56 : decode cX10_book 56 = .ok (.getfield 25, 3) := by decide +kernel
theorem dX10_book_59 : decode cX10_book 59 = .ok (.iconst 0, 1) := by decide +kernel
theorem dX10_book_60 : decode cX10_book 60 = .ok (.putfield 75, 3) := by decide +kernel
theorem dX10_book_63 : decode cX10_book 63 = .ok (.iload_n 2, 1) := by decide +kernel
theorem dX10_book_64 : decode cX10_book 64 = .ok (.ireturn, 1) := by decide +kernel
set_option maxRecDepth 20000 in
theorem ggX10_about_X4_knows : GoodIn wsX10_about wsX4_knows := goodIn_r _ [6, 7, 50, 51, 52, 53, 54, 55, 56, 57] (by decide +kernel) (by decide +kernel)
set_option maxRecDepth 20000 in
theorem gX10_about_X4_knows : GoodIn wsX10_about (wsV RX10 99 RX4 yX4_knows wsX4_knows) := goodIn_app (goodIn_of _ (by decide +kernel)) ggX10_about_X4_knows
set_option maxRecDepth 20000 in
theorem ggX10_about_X10_isWithin : GoodIn wsX10_about wsX10_isWithin := goodIn_r _ [11] (by decide +kernel) (by decide +kernel)
set_option maxRecDepth 20000 in
theorem gX10_about_X10_isWithin : GoodIn wsX10_about (va_wsS RX10 102 yX10_isWithin wsX10_isWithin) := goodIn_app (goodIn_of _ (by decide +kernel)) ggX10_about_X10_isWithin
set_option maxRecDepth 20000 in
theorem ggX10_about_X4_tellOf : GoodIn wsX10_about wsX4_tellOf := goodIn_r _ [15, 16, 17, 18, 19, 20, 21, 5, 22, 23, 24, 25, 26, 27, 28, 29, 30, 31, 32, 33, 34, 35, 36, 37, 38, 50, 51, 52, 53, 54, 55, 56, 57] (by decide +kernel) (by decide +kernel)
set_option maxRecDepth 20000 in
theorem gX10_about_X4_tellOf : GoodIn wsX10_about (wsV RX10 106 RX4 yX4_tellOf wsX4_tellOf) := goodIn_app (goodIn_of _ (by decide +kernel)) ggX10_about_X4_tellOf
theorem dX10_about_0 : decode cX10_about 0 = .ok (.aload_n 0, 1) := by decide +kernel
theorem dX10_about_1 : decode cX10_about 1 = .ok (.getfield 10, 3) := by decide +kernel
theorem dX10_about_4 : decode cX10_about 4 = .ok (.iload_n 1, 1) := by decide +kernel
theorem dX10_about_5 : decode cX10_about 5 = .ok (.invokevirtual 99, 3) := by decide +kernel
theorem dX10_about_8 : decode cX10_about 8 = .ok (.ifCond .ne 6, 3) := by decide +kernel
theorem dX10_about_11 : decode cX10_about 11 = .ok (.bipush (-101), 2) := by decide +kernel
theorem dX10_about_13 : decode cX10_about 13 = .ok (.ireturn, 1) := by decide +kernel
theorem dX10_about_14 : decode cX10_about 14 = .ok (.iload_n 2, 1) := by decide +kernel
theorem dX10_about_15 : decode cX10_about 15 = .ok (.iconst 0, 1) := by decide +kernel
theorem dX10_about_16 : decode cX10_about 16 = .ok (.bipush 7, 2) := by decide +kernel
theorem dX10_about_18 : decode cX10_about 18 = .ok (.invokestatic 102, 3) := by decide +kernel
theorem dX10_about_21 : decode cX10_about 21 = .ok (.ifCond .ne 6, 3) := by decide +kernel
theorem dX10_about_24 : decode cX10_about 24 = .ok (.bipush (-102), 2) := by decide +kernel
theorem dX10_about_26 : decode cX10_about 26 = .ok (.ireturn, 1) := by decide +kernel
theorem dX10_about_27 : decode cX10_about 27 = .ok (.aload_n 0, 1) := by decide +kernel
theorem dX10_about_28 : decode cX10_about 28 = .ok (.getfield 10, 3) := by decide +kernel
theorem dX10_about_31 : decode cX10_about 31 = .ok (.iload_n 1, 1) := by decide +kernel
theorem dX10_about_32 : decode cX10_about 32 = .ok (.iload_n 2, 1) := by decide +kernel
theorem dX10_about_33 : decode cX10_about 33 = .ok (.invokevirtual 106, 3) := by decide +kernel
theorem dX10_about_36 : decode cX10_about 36 = .ok (.ireturn, 1) := by decide +kernel
set_option maxRecDepth 20000 in
theorem ggX10_as_X4_knows : GoodIn wsX10_as wsX4_knows := goodIn_r _ [7, 8, 28, 29, 30, 31, 32, 33, 34, 35] (by decide +kernel) (by decide +kernel)
set_option maxRecDepth 20000 in
theorem gX10_as_X4_knows : GoodIn wsX10_as (wsV RX10 99 RX4 yX4_knows wsX4_knows) := goodIn_app (goodIn_of _ (by decide +kernel)) ggX10_as_X4_knows
set_option maxRecDepth 20000 in
theorem ggX10_as_X10_isWithin : GoodIn wsX10_as wsX10_isWithin := goodIn_r _ [12] (by decide +kernel) (by decide +kernel)
set_option maxRecDepth 20000 in
theorem gX10_as_X10_isWithin : GoodIn wsX10_as (va_wsS RX10 102 yX10_isWithin wsX10_isWithin) := goodIn_app (goodIn_of _ (by decide +kernel)) ggX10_as_X10_isWithin
set_option maxRecDepth 20000 in
theorem ggX10_as_X5_isAlso : GoodIn wsX10_as wsX5_isAlso := goodIn_r _ [16] (by decide +kernel) (by decide +kernel)
set_option maxRecDepth 20000 in
theorem gX10_as_X5_isAlso : GoodIn wsX10_as (va_wsS RX10 116 yX5_isAlso wsX5_isAlso) := goodIn_app (goodIn_of _ (by decide +kernel)) ggX10_as_X5_isAlso
theorem dX10_as_0 : decode cX10_as 0 = .ok (.aload_n 0, 1) := by decide +kernel
theorem dX10_as_1 : decode cX10_as 1 = .ok (.getfield 10, 3) := by decide +kernel
theorem dX10_as_4 : decode cX10_as 4 = .ok (.iload_n 1, 1) := by decide +kernel
theorem dX10_as_5 : decode cX10_as 5 = .ok (.invokevirtual 99, 3) := by decide +kernel
theorem dX10_as_8 : decode cX10_as 8 = .ok (.ifCond .ne 6, 3) := by decide +kernel
theorem dX10_as_11 : decode cX10_as 11 = .ok (.bipush (-101), 2) := by decide +kernel
theorem dX10_as_13 : decode cX10_as 13 = .ok (.ireturn, 1) := by decide +kernel
theorem dX10_as_14 : decode cX10_as 14 = .ok (.iload_n 2, 1) := by decide +kernel
theorem dX10_as_15 : decode cX10_as 15 = .ok (.iconst 0, 1) := by decide +kernel
theorem dX10_as_16 : decode cX10_as 16 = .ok (.iconst 4, 1) := by decide +kernel
theorem dX10_as_17 : decode cX10_as 17 = .ok (.invokestatic 102, 3) := by decide +kernel
theorem dX10_as_20 : decode cX10_as 20 = .ok (.ifCond .ne 6, 3) := by decide +kernel
theorem dX10_as_23 : decode cX10_as 23 = .ok (.bipush (-102), 2) := by decide +kernel
theorem dX10_as_25 : decode cX10_as 25 = .ok (.ireturn, 1) := by decide +kernel
theorem dX10_as_26 : decode cX10_as 26 = .ok (.aload_n 0, 1) := by decide +kernel
theorem dX10_as_27 : decode cX10_as 27 = .ok (.getfield 10, 3) := by decide +kernel
theorem dX10_as_30 : decode cX10_as 30 = .ok (.getfield 112, 3) := by decide +kernel
theorem dX10_as_33 : decode cX10_as 33 = .ok (.iload_n 1, 1) := by decide +kernel
theorem dX10_as_34 : decode cX10_as 34 = .ok (.iaload, 1) := by decide +kernel
theorem dX10_as_35 : decode cX10_as 35 = .ok (.iload_n 2, 1) := by decide +kernel
theorem dX10_as_36 : decode cX10_as 36 = .ok (.invokestatic 116, 3) := by decide +kernel
theorem dX10_as_39 : decode cX10_as 39 = .ok (.ifCond .eq 7, 3) := by decide +kernel
theorem dX10_as_42 : decode cX10_as 42 = .ok (.iload_n 1, 1) := by decide +kernel
theorem dX10_as_43 : decode cX10_as 43 = .ok (.goto 4, 3) := by decide +kernel
theorem dX10_as_46 : decode cX10_as 46 = .ok (.iconst (-1), 1) := by decide +kernel
theorem dX10_as_47 : decode cX10_as 47 = .ok (.ireturn, 1) := by decide +kernel
set_option maxRecDepth 20000 in
theorem ggX10_snap_X4_knows : GoodIn wsX10_snap wsX4_knows := goodIn_r _ [9, 10, 38, 39, 40, 41, 42, 43, 44, 45] (by decide +kernel) (by decide +kernel)
set_option maxRecDepth 20000 in
theorem gX10_snap_X4_knows : GoodIn wsX10_snap (wsV RX10 99 RX4 yX4_knows wsX4_knows) := goodIn_app (goodIn_of _ (by decide +kernel)) ggX10_snap_X4_knows
set_option maxRecDepth 20000 in
theorem ggX10_snap_X10_isWithin : GoodIn wsX10_snap wsX10_isWithin := goodIn_r _ [14] (by decide +kernel) (by decide +kernel)
set_option maxRecDepth 20000 in
theorem gX10_snap_X10_isWithin : GoodIn wsX10_snap (va_wsS RX10 102 yX10_isWithin wsX10_isWithin) := goodIn_app (goodIn_of _ (by decide +kernel)) ggX10_snap_X10_isWithin
set_option maxRecDepth 20000 in
theorem ggX10_snap_X4_isAtBank : GoodIn wsX10_snap wsX4_isAtBank := goodIn_r _ [18, 19, 38, 39, 40, 41, 42, 43, 44, 45] (by decide +kernel) (by decide +kernel)
set_option maxRecDepth 20000 in
theorem gX10_snap_X4_isAtBank : GoodIn wsX10_snap (wsV RX10 120 RX4 yX4_isAtBank wsX4_isAtBank) := goodIn_app (goodIn_of _ (by decide +kernel)) ggX10_snap_X4_isAtBank
set_option maxRecDepth 20000 in
theorem ggX10_snap_X4_add : GoodIn wsX10_snap wsX4_add := goodIn_r _ [23, 10, 24, 25, 19, 26, 38, 39, 40, 41, 42, 43, 44, 45] (by decide +kernel) (by decide +kernel)
set_option maxRecDepth 20000 in
theorem gX10_snap_X4_add : GoodIn wsX10_snap (wsV RX10 129 RX4 yX4_add wsX4_add) := goodIn_app (goodIn_of _ (by decide +kernel)) ggX10_snap_X4_add
theorem dX10_snap_0 : decode cX10_snap 0 = .ok (.aload_n 0, 1) := by decide +kernel
theorem dX10_snap_1 : decode cX10_snap 1 = .ok (.getfield 10, 3) := by decide +kernel
theorem dX10_snap_4 : decode cX10_snap 4 = .ok (.iload_n 1, 1) := by decide +kernel
theorem dX10_snap_5 : decode cX10_snap 5 = .ok (.invokevirtual 99, 3) := by decide +kernel
theorem dX10_snap_8 : decode cX10_snap 8 = .ok (.ifCond .ne 6, 3) := by decide +kernel
theorem dX10_snap_11 : decode cX10_snap 11 = .ok (.bipush (-101), 2) := by decide +kernel
theorem dX10_snap_13 : decode cX10_snap 13 = .ok (.ireturn, 1) := by decide +kernel
theorem dX10_snap_14 : decode cX10_snap 14 = .ok (.iload_n 2, 1) := by decide +kernel
theorem dX10_snap_15 : decode cX10_snap 15 = .ok (.iconst 1, 1) := by decide +kernel
theorem dX10_snap_16 : decode cX10_snap 16 = .ok (.bipush 8, 2) := by decide +kernel
theorem dX10_snap_18 : decode cX10_snap 18 = .ok (.invokestatic 102, 3) := by decide +kernel
theorem dX10_snap_21 : decode cX10_snap 21 = .ok (.ifCond .ne 6, 3) := by decide +kernel
theorem dX10_snap_24 : decode cX10_snap 24 = .ok (.bipush (-102), 2) := by decide +kernel
theorem dX10_snap_26 : decode cX10_snap 26 = .ok (.ireturn, 1) := by decide +kernel
theorem dX10_snap_27 : decode cX10_snap 27 = .ok (.aload_n 0, 1) := by decide +kernel
theorem dX10_snap_28 : decode cX10_snap 28 = .ok (.getfield 10, 3) := by decide +kernel
theorem dX10_snap_31 : decode cX10_snap 31 = .ok (.iload_n 1, 1) := by decide +kernel
theorem dX10_snap_32 : decode cX10_snap 32 = .ok (.invokevirtual 120, 3) := by decide +kernel
theorem dX10_snap_35 : decode cX10_snap 35 = .ok (.ifCond .ne 16, 3) := by decide +kernel
theorem dX10_snap_38 : decode cX10_snap 38 = .ok (.aload_n 0, 1) := by decide +kernel
theorem dX10_snap_39 : decode cX10_snap 39 = .ok (.getfield 10, 3) := by decide +kernel
theorem dX10_snap_42 : decode cX10_snap 42 = .ok (.getfield 123, 3) := by decide +kernel
theorem dX10_snap_45 : decode cX10_snap 45 = .ok (.iload_n 1, 1) := by decide +kernel
theorem dX10_snap_46 : decode cX10_snap 46 = .ok (.iaload, 1) := by decide +kernel
theorem dX10_snap_47 : decode cX10_snap 47 = .ok (.iload_n 2, 1) := by decide +kernel
theorem dX10_snap_48 : decode cX10_snap 48 = .ok (.if_icmp .gt 6, 3) := by decide +kernel
theorem dX10_snap_51 : decode cX10_snap 51 = .ok (.bipush (-103), 2) := by decide +kernel
theorem dX10_snap_53 : decode cX10_snap 53 = .ok (.ireturn, 1) := by decide +kernel
theorem dX10_snap_54 : decode cX10_snap 54 = .ok (.aload_n 0, 1) := by decide +kernel
theorem dX10_snap_55 : decode cX10_snap 55 = .ok (.getfield 10, 3) := by decide +kernel
theorem dX10_snap_58 : decode cX10_snap 58 = .ok (.getfield 94, 3) := by decide +kernel
theorem dX10_snap_61 : decode cX10_snap 61 = .ok (.bipush 10, 2) := by decide +kernel
theorem dX10_snap_63 : decode cX10_snap 63 = .ok (.if_icmp .lt 6, 3) := by decide +kernel
theorem dX10_snap_66 : decode cX10_snap 66 = .ok (.bipush (-104), 2) := by decide +kernel
theorem dX10_snap_68 : decode cX10_snap 68 = .ok (.ireturn, 1) := by decide +kernel
theorem dX10_snap_69 : decode cX10_snap 69 = .ok (.aload_n 0, 1) := by decide +kernel
theorem dX10_snap_70 : decode cX10_snap 70 = .ok (.getfield 10, 3) := by decide +kernel
theorem dX10_snap_73 : decode cX10_snap 73 = .ok (.getfield 123, 3) := by decide +kernel
theorem dX10_snap_76 : decode cX10_snap 76 = .ok (.iload_n 1, 1) := by decide +kernel
theorem dX10_snap_77 : decode cX10_snap 77 = .ok (.dup2, 1) := by decide +kernel
theorem dX10_snap_78 : decode cX10_snap 78 = .ok (.iaload, 1) := by decide +kernel
theorem dX10_snap_79 : decode cX10_snap 79 = .ok (.iload_n 2, 1) := by decide +kernel
theorem dX10_snap_80 : decode cX10_snap 80 = .ok (.isub, 1) := by decide +kernel
theorem dX10_snap_81 : decode cX10_snap 81 = .ok (.iastore, 1) := by decide +kernel
theorem dX10_snap_82 : decode cX10_snap 82 = .ok (.aload_n 0, 1) := by decide +kernel
theorem dX10_snap_83 : decode cX10_snap 83 = .ok (.getfield 10, 3) := by decide +kernel
theorem dX10_snap_86 : decode cX10_snap 86 = .ok (.iconst 0, 1) := by decide +kernel
theorem dX10_snap_87 : decode cX10_snap 87 = .ok (.iload_n 2, 1) := by decide +kernel
theorem dX10_snap_88 : decode cX10_snap 88 = .ok (.aload_n 0, 1) := by decide +kernel
theorem dX10_snap_89 : decode cX10_snap 89 = .ok (.getfield 10, 3) := by decide +kernel
theorem dX10_snap_92 : decode cX10_snap 92 = .ok (.getfield 126, 3) := by decide +kernel
theorem dX10_snap_95 : decode cX10_snap 95 = .ok (.iload_n 1, 1) := by decide +kernel
theorem dX10_snap_96 : decode cX10_snap 96 = .ok (.iaload, 1) := by decide +kernel
theorem dX10_snap_97 : decode cX10_snap 97 = .ok (.invokevirtual 129, 3) := by decide +kernel
theorem dX10_snap_100 : decode cX10_snap 100 = .ok (.ireturn, 1) := by decide +kernel
set_option maxRecDepth 20000 in
theorem ggX10_pay_X4_knows : GoodIn wsX10_pay wsX4_knows := goodIn_r _ [8, 9, 75, 76, 77, 78, 79, 80, 81, 82] (by decide +kernel) (by decide +kernel)
set_option maxRecDepth 20000 in
theorem gX10_pay_X4_knows : GoodIn wsX10_pay (wsV RX10 99 RX4 yX4_knows wsX4_knows) := goodIn_app (goodIn_of _ (by decide +kernel)) ggX10_pay_X4_knows
set_option maxRecDepth 20000 in
theorem ggX10_pay_X10_isPerson : GoodIn wsX10_pay wsX10_isPerson := goodIn_r _ [13, 14, 15, 12, 16] (by decide +kernel) (by decide +kernel)
set_option maxRecDepth 20000 in
theorem gX10_pay_X10_isPerson : GoodIn wsX10_pay (va_wsS RX10 87 yX10_isPerson wsX10_isPerson) := goodIn_app (goodIn_of _ (by decide +kernel)) ggX10_pay_X10_isPerson
set_option maxRecDepth 20000 in
theorem ggX10_pay_X4_isAtBank : GoodIn wsX10_pay wsX4_isAtBank := goodIn_r _ [20, 21, 75, 76, 77, 78, 79, 80, 81, 82] (by decide +kernel) (by decide +kernel)
set_option maxRecDepth 20000 in
theorem gX10_pay_X4_isAtBank : GoodIn wsX10_pay (wsV RX10 120 RX4 yX4_isAtBank wsX4_isAtBank) := goodIn_app (goodIn_of _ (by decide +kernel)) ggX10_pay_X4_isAtBank
set_option maxRecDepth 20000 in
theorem ggX10_pay_X4_goByHand : GoodIn wsX10_pay wsX4_goByHand := goodIn_r _ [25, 26, 27, 21, 28, 29, 30, 7, 31, 32, 33, 34, 35, 36, 37, 38, 39, 40, 41, 42, 43, 44, 45, 46, 47, 48, 75, 76, 77, 78, 79, 80, 81, 82] (by decide +kernel) (by decide +kernel)
set_option maxRecDepth 20000 in
theorem gX10_pay_X4_goByHand : GoodIn wsX10_pay (wsV RX10 133 RX4 yX4_goByHand wsX4_goByHand) := goodIn_app (goodIn_of _ (by decide +kernel)) ggX10_pay_X4_goByHand
set_option maxRecDepth 20000 in
theorem ggX10_pay_X1_lessen : GoodIn wsX10_pay wsX1_lessen := goodIn_r _ [53, 54, 38, 39, 40, 55, 56, 57, 52, 58, 59, 60, 61, 62, 63, 83] (by decide +kernel) (by decide +kernel)
set_option maxRecDepth 20000 in
theorem gX10_pay_X1_lessen : GoodIn wsX10_pay (wsV RX10 140 RX1 yX1_lessen wsX1_lessen) := goodIn_app (goodIn_of _ (by decide +kernel)) ggX10_pay_X1_lessen
theorem dX10_pay_0 : decode cX10_pay 0 = .ok (.aload_n 0, 1) := by decide +kernel
theorem dX10_pay_1 : decode cX10_pay 1 = .ok (.getfield 10, 3) := by decide +kernel
theorem dX10_pay_4 : decode cX10_pay 4 = .ok (.iload_n 1, 1) := by decide +kernel
theorem dX10_pay_5 : decode cX10_pay 5 = .ok (.invokevirtual 99, 3) := by decide +kernel
theorem dX10_pay_8 : decode cX10_pay 8 = .ok (.ifCond .eq 10, 3) := by decide +kernel
theorem dX10_pay_11 : decode cX10_pay 11 = .ok (.iload_n 2, 1) := by decide +kernel
theorem dX10_pay_12 : decode cX10_pay 12 = .ok (.invokestatic 87, 3) := by decide +kernel
theorem dX10_pay_15 : decode cX10_pay 15 = .ok (.ifCond .ne 6, 3) := by decide +kernel
theorem dX10_pay_18 : decode cX10_pay 18 = .ok (.bipush (-101), 2) := by decide +kernel
theorem dX10_pay_20 : decode cX10_pay 20 = .ok (.ireturn, 1) := by decide +kernel
theorem dX10_pay_21 : decode cX10_pay 21 = .ok (.aload_n 0, 1) := by decide +kernel
theorem dX10_pay_22 : decode cX10_pay 22 = .ok (.getfield 10, 3) := by decide +kernel
theorem dX10_pay_25 : decode cX10_pay 25 = .ok (.iload_n 1, 1) := by decide +kernel
theorem dX10_pay_26 : decode cX10_pay 26 = .ok (.invokevirtual 120, 3) := by decide +kernel
theorem dX10_pay_29 : decode cX10_pay 29 = .ok (.ifCond .ne 16, 3) := by decide +kernel
theorem dX10_pay_32 : decode cX10_pay 32 = .ok (.aload_n 0, 1) := by decide +kernel
theorem dX10_pay_33 : decode cX10_pay 33 = .ok (.getfield 10, 3) := by decide +kernel
theorem dX10_pay_36 : decode cX10_pay 36 = .ok (.getfield 126, 3) := by decide +kernel
theorem dX10_pay_39 : decode cX10_pay 39 = .ok (.iload_n 1, 1) := by decide +kernel
theorem dX10_pay_40 : decode cX10_pay 40 = .ok (.iaload, 1) := by decide +kernel
theorem dX10_pay_41 : decode cX10_pay 41 = .ok (.iload_n 2, 1) := by decide +kernel
theorem dX10_pay_42 : decode cX10_pay 42 = .ok (.if_icmp .ne 6, 3) := by decide +kernel
theorem dX10_pay_45 : decode cX10_pay 45 = .ok (.bipush (-103), 2) := by decide +kernel
theorem dX10_pay_47 : decode cX10_pay 47 = .ok (.ireturn, 1) := by decide +kernel
theorem dX10_pay_48 : decode cX10_pay 48 = .ok (.aload_n 0, 1) := by decide +kernel
theorem dX10_pay_49 : decode cX10_pay 49 = .ok (.getfield 10, 3) := by decide +kernel
theorem dX10_pay_52 : decode cX10_pay 52 = .ok (.getfield 126, 3) := by decide +kernel
theorem dX10_pay_55 : decode cX10_pay 55 = .ok (.iload_n 1, 1) := by decide +kernel
theorem dX10_pay_56 : decode cX10_pay 56 = .ok (.iaload, 1) := by decide +kernel
theorem dX10_pay_57 : decode cX10_pay 57 = .ok (.istore_n 3, 1) := by decide +kernel
theorem dX10_pay_58 : decode cX10_pay 58 = .ok (.aload_n 0, 1) := by decide +kernel
theorem dX10_pay_59 : decode cX10_pay 59 = .ok (.getfield 10, 3) := by decide +kernel
theorem dX10_pay_62 : decode cX10_pay 62 = .ok (.iload_n 1, 1) := by decide +kernel
theorem dX10_pay_63 : decode cX10_pay 63 = .ok (.iload_n 2, 1) := by decide +kernel
theorem dX10_pay_64 : decode cX10_pay 64 = .ok (.invokevirtual 133, 3) := by decide +kernel
theorem dX10_pay_67 : decode cX10_pay 67 = .ok (.istore 4, 2) := by decide +kernel
theorem dX10_pay_69 : decode cX10_pay 69 = .ok (.aload_n 0, 1) := by decide +kernel
theorem dX10_pay_70 : decode cX10_pay 70 = .ok (.getfield 10, 3) := by decide +kernel
theorem dX10_pay_73 : decode cX10_pay 73 = .ok (.getfield 136, 3) := by decide +kernel
theorem dX10_pay_76 : decode cX10_pay 76 = .ok (.iload_n 3, 1) := by decide +kernel
theorem dX10_pay_77 : decode cX10_pay 77 = .ok (.iload_n 2, 1) := by decide +kernel
theorem dX10_pay_78 : decode cX10_pay 78 = .ok (.iload 4, 2) := by decide +kernel
theorem dX10_pay_80 : decode cX10_pay 80 = .ok (.invokevirtual 140, 3) := by decide +kernel
theorem dX10_pay_83 : decode cX10_pay 83 = .ok (.iload 4, 2) := by decide +kernel
theorem dX10_pay_85 : decode cX10_pay 85 = .ok (.ireturn, 1) := by decide +kernel
set_option maxRecDepth 20000 in
theorem ggX10_debt_X10_areTwo : GoodIn wsX10_debt wsX10_areTwo := goodIn_r _ [6, 7, 8, 5, 9, 10, 11, 12] (by decide +kernel) (by decide +kernel)
set_option maxRecDepth 20000 in
theorem gX10_debt_X10_areTwo : GoodIn wsX10_debt (va_wsS RX10 146 yX10_areTwo wsX10_areTwo) := goodIn_app (goodIn_of _ (by decide +kernel)) ggX10_debt_X10_areTwo
set_option maxRecDepth 20000 in
theorem ggX10_debt_X10_isWithin : GoodIn wsX10_debt wsX10_isWithin := goodIn_r _ [12] (by decide +kernel) (by decide +kernel)
set_option maxRecDepth 20000 in
theorem gX10_debt_X10_isWithin : GoodIn wsX10_debt (va_wsS RX10 102 yX10_isWithin wsX10_isWithin) := goodIn_app (goodIn_of _ (by decide +kernel)) ggX10_debt_X10_isWithin
set_option maxRecDepth 20000 in
theorem ggX10_debt_X1_sum : GoodIn wsX10_debt wsX1_sum := goodIn_r _ [17, 18, 42] (by decide +kernel) (by decide +kernel)
set_option maxRecDepth 20000 in
theorem gX10_debt_X1_sum : GoodIn wsX10_debt (wsV RX10 149 RX1 yX1_sum wsX1_sum) := goodIn_app (goodIn_of _ (by decide +kernel)) ggX10_debt_X1_sum
set_option maxRecDepth 20000 in
theorem ggX10_debt_X1_put : GoodIn wsX10_debt wsX1_put := goodIn_r _ [22, 18, 42] (by decide +kernel) (by decide +kernel)
set_option maxRecDepth 20000 in
theorem gX10_debt_X1_put : GoodIn wsX10_debt (wsV RX10 152 RX1 yX1_put wsX1_put) := goodIn_app (goodIn_of _ (by decide +kernel)) ggX10_debt_X1_put
theorem dX10_debt_0 : decode cX10_debt 0 = .ok (.iload_n 1, 1) := by decide +kernel
theorem dX10_debt_1 : decode cX10_debt 1 = .ok (.iload_n 2, 1) := by decide +kernel
theorem dX10_debt_2 : decode cX10_debt 2 = .ok (.invokestatic 146, 3) := by decide +kernel
theorem dX10_debt_5 : decode cX10_debt 5 = .ok (.ifCond .ne 6, 3) := by decide +kernel
theorem dX10_debt_8 : decode cX10_debt 8 = .ok (.bipush (-101), 2) := by decide +kernel
theorem dX10_debt_10 : decode cX10_debt 10 = .ok (.ireturn, 1) := by decide +kernel
theorem dX10_debt_11 : decode cX10_debt 11 = .ok (.iload_n 3, 1) := by decide +kernel
theorem dX10_debt_12 : decode cX10_debt 12 = .ok (.iconst 0, 1) := by decide +kernel
theorem dX10_debt_13 : decode cX10_debt 13 = .ok (.bipush 99, 2) := by decide +kernel
theorem dX10_debt_15 : decode cX10_debt 15 = .ok (.invokestatic 102, 3) := by decide +kernel
theorem dX10_debt_18 : decode cX10_debt 18 = .ok (.ifCond .ne 6, 3) := by decide +kernel
theorem dX10_debt_21 : decode cX10_debt 21 = .ok (.bipush (-102), 2) := by decide +kernel
theorem dX10_debt_23 : decode cX10_debt 23 = .ok (.ireturn, 1) := by decide +kernel
theorem dX10_debt_24 : decode cX10_debt 24 = .ok (.aload_n 0, 1) := by decide +kernel
theorem dX10_debt_25 : decode cX10_debt 25 = .ok (.getfield 10, 3) := by decide +kernel
theorem dX10_debt_28 : decode cX10_debt 28 = .ok (.getfield 136, 3) := by decide +kernel
theorem dX10_debt_31 : decode cX10_debt 31 = .ok (.iload_n 1, 1) := by decide +kernel
theorem dX10_debt_32 : decode cX10_debt 32 = .ok (.iload_n 2, 1) := by decide +kernel
theorem dX10_debt_33 : decode cX10_debt 33 = .ok (.invokevirtual 149, 3) := by decide +kernel
theorem dX10_debt_36 : decode cX10_debt 36 = .ok (.istore 4, 2) := by decide +kernel
theorem dX10_debt_38 : decode cX10_debt 38 = .ok (.aload_n 0, 1) := by decide +kernel
theorem dX10_debt_39 : decode cX10_debt 39 = .ok (.getfield 10, 3) := by decide +kernel
theorem dX10_debt_42 : decode cX10_debt 42 = .ok (.getfield 136, 3) := by decide +kernel
theorem dX10_debt_45 : decode cX10_debt 45 = .ok (.iload_n 1, 1) := by decide +kernel
theorem dX10_debt_46 : decode cX10_debt 46 = .ok (.iload_n 2, 1) := by decide +kernel
theorem dX10_debt_47 : decode cX10_debt 47 = .ok (.iload_n 3, 1) := by decide +kernel
theorem dX10_debt_48 : decode cX10_debt 48 = .ok (.invokevirtual 152, 3) := by decide +kernel
theorem dX10_debt_51 : decode cX10_debt 51 = .ok (.iload 4, 2) := by decide +kernel
theorem dX10_debt_53 : decode cX10_debt 53 = .ok (.ireturn, 1) := by decide +kernel
set_option maxRecDepth 20000 in
theorem ggX10_owes_X10_areTwo : GoodIn wsX10_owes wsX10_areTwo := goodIn_r _ [6, 7, 8, 5, 9, 10, 11, 12] (by decide +kernel) (by decide +kernel)
set_option maxRecDepth 20000 in
theorem gX10_owes_X10_areTwo : GoodIn wsX10_owes (va_wsS RX10 146 yX10_areTwo wsX10_areTwo) := goodIn_app (goodIn_of _ (by decide +kernel)) ggX10_owes_X10_areTwo
set_option maxRecDepth 20000 in
theorem ggX10_owes_X1_sum : GoodIn wsX10_owes wsX1_sum := goodIn_r _ [17, 18, 38] (by decide +kernel) (by decide +kernel)
set_option maxRecDepth 20000 in
theorem gX10_owes_X1_sum : GoodIn wsX10_owes (wsV RX10 149 RX1 yX1_sum wsX1_sum) := goodIn_app (goodIn_of _ (by decide +kernel)) ggX10_owes_X1_sum
theorem dX10_owes_0 : decode cX10_owes 0 = .ok (.iload_n 1, 1) := by decide +kernel
theorem dX10_owes_1 : decode cX10_owes 1 = .ok (.iload_n 2, 1) := by decide +kernel
theorem dX10_owes_2 : decode cX10_owes 2 = .ok (.invokestatic 146, 3) := by decide +kernel
theorem dX10_owes_5 : decode cX10_owes 5 = .ok (.ifCond .eq 18, 3) := by decide +kernel
theorem dX10_owes_8 : decode cX10_owes 8 = .ok (.aload_n 0, 1) := by decide +kernel
theorem dX10_owes_9 : decode cX10_owes 9 = .ok (.getfield 10, 3) := by decide +kernel
theorem dX10_owes_12 : decode cX10_owes 12 = .ok (.getfield 136, 3) := by decide +kernel
theorem dX10_owes_15 : decode cX10_owes 15 = .ok (.iload_n 1, 1) := by decide +kernel
theorem dX10_owes_16 : decode cX10_owes 16 = .ok (.iload_n 2, 1) := by decide +kernel
theorem dX10_owes_17 : decode cX10_owes 17 = .ok (.invokevirtual 149, 3) := by decide +kernel
theorem dX10_owes_20 : decode cX10_owes 20 = .ok (.goto 5, 3) := by decide +kernel
theorem dX10_owes_23 : decode cX10_owes 23 = .ok (.bipush (-101), 2) := by decide +kernel
theorem dX10_owes_25 : decode cX10_owes 25 = .ok (.ireturn, 1) := by decide +kernel
set_option maxRecDepth 20000 in
theorem ggX10_bank_X4_knows : GoodIn wsX10_bank wsX4_knows := goodIn_r _ [6, 7, 51, 52, 53, 54, 55, 56, 57, 58] (by decide +kernel) (by decide +kernel)
set_option maxRecDepth 20000 in
theorem gX10_bank_X4_knows : GoodIn wsX10_bank (wsV RX10 99 RX4 yX4_knows wsX4_knows) := goodIn_app (goodIn_of _ (by decide +kernel)) ggX10_bank_X4_knows
set_option maxRecDepth 20000 in
theorem ggX10_bank_X4_isAtBank : GoodIn wsX10_bank wsX4_isAtBank := goodIn_r _ [11, 12, 51, 52, 53, 54, 55, 56, 57, 58] (by decide +kernel) (by decide +kernel)
set_option maxRecDepth 20000 in
theorem gX10_bank_X4_isAtBank : GoodIn wsX10_bank (wsV RX10 120 RX4 yX4_isAtBank wsX4_isAtBank) := goodIn_app (goodIn_of _ (by decide +kernel)) ggX10_bank_X4_isAtBank
set_option maxRecDepth 20000 in
theorem ggX10_bank_X4_goByHand : GoodIn wsX10_bank wsX4_goByHand := goodIn_r _ [16, 17, 18, 12, 19, 20, 21, 5, 22, 23, 24, 25, 26, 27, 28, 29, 30, 31, 32, 33, 34, 35, 36, 37, 38, 39, 51, 52, 53, 54, 55, 56, 57, 58] (by decide +kernel) (by decide +kernel)
set_option maxRecDepth 20000 in
theorem gX10_bank_X4_goByHand : GoodIn wsX10_bank (wsV RX10 133 RX4 yX4_goByHand wsX4_goByHand) := goodIn_app (goodIn_of _ (by decide +kernel)) ggX10_bank_X4_goByHand
theorem dX10_bank_0 : decode cX10_bank 0 = .ok (.aload_n 0, 1) := by decide +kernel
theorem dX10_bank_1 : decode cX10_bank 1 = .ok (.getfield 10, 3) := by decide +kernel
theorem dX10_bank_4 : decode cX10_bank 4 = .ok (.iload_n 1, 1) := by decide +kernel
theorem dX10_bank_5 : decode cX10_bank 5 = .ok (.invokevirtual 99, 3) := by decide +kernel
theorem dX10_bank_8 : decode cX10_bank 8 = .ok (.ifCond .ne 6, 3) := by decide +kernel
theorem dX10_bank_11 : decode cX10_bank 11 = .ok (.bipush (-101), 2) := by decide +kernel
theorem dX10_bank_13 : decode cX10_bank 13 = .ok (.ireturn, 1) := by decide +kernel
theorem dX10_bank_14 : decode cX10_bank 14 = .ok (.aload_n 0, 1) := by decide +kernel
theorem dX10_bank_15 : decode cX10_bank 15 = .ok (.getfield 10, 3) := by decide +kernel
theorem dX10_bank_18 : decode cX10_bank 18 = .ok (.iload_n 1, 1) := by decide +kernel
theorem dX10_bank_19 : decode cX10_bank 19 = .ok (.invokevirtual 120, 3) := by decide +kernel
theorem dX10_bank_22 : decode cX10_bank 22 = .ok (.ifCond .eq 8, 3) := by decide +kernel
theorem dX10_bank_25 : decode cX10_bank 25 = .ok (.bipush (-103), 2) := by decide +kernel
theorem dX10_bank_27 : decode cX10_bank 27 = .ok (.goto 12, 3) := by decide +kernel
theorem dX10_bank_30 : decode cX10_bank 30 = .ok (.aload_n 0, 1) := by decide +kernel
theorem dX10_bank_31 : decode cX10_bank 31 = .ok (.getfield 10, 3) := by decide +kernel
theorem dX10_bank_34 : decode cX10_bank 34 = .ok (.iload_n 1, 1) := by decide +kernel
theorem dX10_bank_35 : decode cX10_bank 35 = .ok (.iconst (-1), 1) := by decide +kernel
theorem dX10_bank_36 : decode cX10_bank 36 = .ok (.invokevirtual 133, 3) := by decide +kernel
theorem dX10_bank_39 : decode cX10_bank 39 = .ok (.ireturn, 1) := by decide +kernel
set_option maxRecDepth 20000 in
theorem ggX10_fetch_X4_knows : GoodIn wsX10_fetch wsX4_knows := goodIn_r _ [8, 9, 33, 34, 35, 36, 37, 38, 39, 40] (by decide +kernel) (by decide +kernel)
set_option maxRecDepth 20000 in
theorem gX10_fetch_X4_knows : GoodIn wsX10_fetch (wsV RX10 99 RX4 yX4_knows wsX4_knows) := goodIn_app (goodIn_of _ (by decide +kernel)) ggX10_fetch_X4_knows
set_option maxRecDepth 20000 in
theorem ggX10_fetch_X10_isPerson : GoodIn wsX10_fetch wsX10_isPerson := goodIn_r _ [13, 14, 15, 12, 16] (by decide +kernel) (by decide +kernel)
set_option maxRecDepth 20000 in
theorem gX10_fetch_X10_isPerson : GoodIn wsX10_fetch (va_wsS RX10 87 yX10_isPerson wsX10_isPerson) := goodIn_app (goodIn_of _ (by decide +kernel)) ggX10_fetch_X10_isPerson
set_option maxRecDepth 20000 in
theorem ggX10_fetch_X4_isAtBank : GoodIn wsX10_fetch wsX4_isAtBank := goodIn_r _ [20, 21, 33, 34, 35, 36, 37, 38, 39, 40] (by decide +kernel) (by decide +kernel)
set_option maxRecDepth 20000 in
theorem gX10_fetch_X4_isAtBank : GoodIn wsX10_fetch (wsV RX10 120 RX4 yX4_isAtBank wsX4_isAtBank) := goodIn_app (goodIn_of _ (by decide +kernel)) ggX10_fetch_X4_isAtBank
theorem dX10_fetch_0 : decode cX10_fetch 0 = .ok (.aload_n 0, 1) := by decide +kernel
theorem dX10_fetch_1 : decode cX10_fetch 1 = .ok (.getfield 10, 3) := by decide +kernel
theorem dX10_fetch_4 : decode cX10_fetch 4 = .ok (.iload_n 1, 1) := by decide +kernel
theorem dX10_fetch_5 : decode cX10_fetch 5 = .ok (.invokevirtual 99, 3) := by decide +kernel
theorem dX10_fetch_8 : decode cX10_fetch 8 = .ok (.ifCond .eq 10, 3) := by decide +kernel
theorem dX10_fetch_11 : decode cX10_fetch 11 = .ok (.iload_n 2, 1) := by decide +kernel
theorem dX10_fetch_12 : decode cX10_fetch 12 = .ok (.invokestatic 87, 3) := by decide +kernel
theorem dX10_fetch_15 : decode cX10_fetch 15 = .ok (.ifCond .ne 6, 3) := by decide +kernel
theorem dX10_fetch_18 : decode cX10_fetch 18 = .ok (.bipush (-101), 2) := by decide +kernel
theorem dX10_fetch_20 : decode cX10_fetch 20 = .ok (.ireturn, 1) := by decide +kernel
theorem dX10_fetch_21 : decode cX10_fetch 21 = .ok (.aload_n 0, 1) := by decide +kernel
theorem dX10_fetch_22 : decode cX10_fetch 22 = .ok (.getfield 10, 3) := by decide +kernel
theorem dX10_fetch_25 : decode cX10_fetch 25 = .ok (.iload_n 1, 1) := by decide +kernel
theorem dX10_fetch_26 : decode cX10_fetch 26 = .ok (.invokevirtual 120, 3) := by decide +kernel
theorem dX10_fetch_29 : decode cX10_fetch 29 = .ok (.ifCond .ne 6, 3) := by decide +kernel
theorem dX10_fetch_32 : decode cX10_fetch 32 = .ok (.bipush (-103), 2) := by decide +kernel
theorem dX10_fetch_34 : decode cX10_fetch 34 = .ok (.ireturn, 1) := by decide +kernel
theorem dX10_fetch_35 : decode cX10_fetch 35 = .ok (.aload_n 0, 1) := by decide +kernel
theorem dX10_fetch_36 : decode cX10_fetch 36 = .ok (.getfield 10, 3) := by decide +kernel
theorem dX10_fetch_39 : decode cX10_fetch 39 = .ok (.getfield 126, 3) := by decide +kernel
theorem dX10_fetch_42 : decode cX10_fetch 42 = .ok (.iload_n 1, 1) := by decide +kernel
theorem dX10_fetch_43 : decode cX10_fetch 43 = .ok (.iload_n 2, 1) := by decide +kernel
theorem dX10_fetch_44 : decode cX10_fetch 44 = .ok (.iastore, 1) := by decide +kernel
theorem dX10_fetch_45 : decode cX10_fetch 45 = .ok (.aload_n 0, 1) := by decide +kernel
theorem dX10_fetch_46 : decode cX10_fetch 46 = .ok (.getfield 10, 3) := by decide +kernel
theorem dX10_fetch_49 : decode cX10_fetch 49 = .ok (.getfield 123, 3) := by decide +kernel
theorem dX10_fetch_52 : decode cX10_fetch 52 = .ok (.iload_n 1, 1) := by decide +kernel
theorem dX10_fetch_53 : decode cX10_fetch 53 = .ok (.iaload, 1) := by decide +kernel
theorem dX10_fetch_54 : decode cX10_fetch 54 = .ok (.ireturn, 1) := by decide +kernel
set_option maxRecDepth 20000 in
theorem ggX10_month_X4_takeMould : GoodIn wsX10_month wsX4_takeMould := goodIn_r _ [6, 7, 8, 9, 10, 11, 12, 13, 5, 14, 15, 16, 17, 18, 19, 20, 21, 22, 23, 24, 25, 26, 38, 39, 40, 41, 42, 43, 44, 45] (by decide +kernel) (by decide +kernel)
set_option maxRecDepth 20000 in
theorem gX10_month_X4_takeMould : GoodIn wsX10_month (wsV RX10 155 RX4 yX4_takeMould wsX4_takeMould) := goodIn_app (goodIn_of _ (by decide +kernel)) ggX10_month_X4_takeMould
theorem dX10_month_0 : decode cX10_month 0 = .ok (.iload_n 1, 1) := by decide +kernel
theorem dX10_month_1 : decode cX10_month 1 = .ok (.ifCond .eq 13, 3) := by decide +kernel
theorem dX10_month_4 : decode cX10_month 4 = .ok (.aload_n 0, 1) := by decide +kernel
theorem dX10_month_5 : decode cX10_month 5 = .ok (.getfield 10, 3) := by decide +kernel
theorem dX10_month_8 : decode cX10_month 8 = .ok (.invokevirtual 155, 3) := by decide +kernel
theorem dX10_month_11 : decode cX10_month 11 = .ok (.goto 4, 3) := by decide +kernel
theorem dX10_month_14 : decode cX10_month 14 = .ok (.iconst 0, 1) := by decide +kernel
theorem dX10_month_15 : decode cX10_month 15 = .ok (.ireturn, 1) := by decide +kernel
set_option maxRecDepth 20000 in
theorem ggX10_june_X4_ownersOfWholeFronds : GoodIn wsX10_june wsX4_ownersOfWholeFronds := goodIn_r _ [7, 8, 9, 10, 11, 12, 13, 6, 14, 32, 33, 34, 35, 36, 37, 38, 39] (by decide +kernel) (by decide +kernel)
set_option maxRecDepth 20000 in
theorem gX10_june_X4_ownersOfWholeFronds : GoodIn wsX10_june (wsV RX10 158 RX4 yX4_ownersOfWholeFronds wsX4_ownersOfWholeFronds) := goodIn_app (goodIn_of _ (by decide +kernel)) ggX10_june_X4_ownersOfWholeFronds
set_option maxRecDepth 20000 in
theorem ggX10_june_X4_add : GoodIn wsX10_june wsX4_add := goodIn_r _ [18, 8, 19, 9, 10, 20, 32, 33, 34, 35, 36, 37, 38, 39] (by decide +kernel) (by decide +kernel)
set_option maxRecDepth 20000 in
theorem gX10_june_X4_add : GoodIn wsX10_june (wsV RX10 129 RX4 yX4_add wsX4_add) := goodIn_app (goodIn_of _ (by decide +kernel)) ggX10_june_X4_add
theorem dX10_june_0 : decode cX10_june 0 = .ok (.aload_n 0, 1) := by decide +kernel
theorem dX10_june_1 : decode cX10_june 1 = .ok (.getfield 10, 3) := by decide +kernel
theorem dX10_june_4 : decode cX10_june 4 = .ok (.getfield 94, 3) := by decide +kernel
theorem dX10_june_7 : decode cX10_june 7 = .ok (.istore_n 1, 1) := by decide +kernel
theorem dX10_june_8 : decode cX10_june 8 = .ok (.aload_n 0, 1) := by decide +kernel
theorem dX10_june_9 : decode cX10_june 9 = .ok (.getfield 10, 3) := by decide +kernel
theorem dX10_june_12 : decode cX10_june 12 = .ok (.invokevirtual 158, 3) := by decide +kernel
theorem dX10_june_15 : decode cX10_june 15 = .ok (.istore_n 2, 1) := by decide +kernel
theorem dX10_june_16 : decode cX10_june 16 = .ok (.iconst 0, 1) := by decide +kernel
theorem dX10_june_17 : decode cX10_june 17 = .ok (.istore_n 3, 1) := by decide +kernel
theorem dX10_june_18 : decode cX10_june 18 = .ok (.iload_n 3, 1) := by decide +kernel
theorem dX10_june_19 : decode cX10_june 19 = .ok (.bipush 6, 2) := by decide +kernel
theorem dX10_june_21 : decode cX10_june 21 = .ok (.if_icmp .ge 29, 3) := by decide +kernel
theorem dX10_june_24 : decode cX10_june 24 = .ok (.iload_n 2, 1) := by decide +kernel
theorem dX10_june_25 : decode cX10_june 25 = .ok (.iload_n 3, 1) := by decide +kernel
theorem dX10_june_26 : decode cX10_june 26 = .ok (.ishr, 1) := by decide +kernel
theorem dX10_june_27 : decode cX10_june 27 = .ok (.iconst 1, 1) := by decide +kernel
theorem dX10_june_28 : decode cX10_june 28 = .ok (.iand, 1) := by decide +kernel
theorem dX10_june_29 : decode cX10_june 29 = .ok (.ifCond .eq 15, 3) := by decide +kernel
theorem dX10_june_32 : decode cX10_june 32 = .ok (.aload_n 0, 1) := by decide +kernel
theorem dX10_june_33 : decode cX10_june 33 = .ok (.getfield 10, 3) := by decide +kernel
theorem dX10_june_36 : decode cX10_june 36 = .ok (.iconst 0, 1) := by decide +kernel
theorem dX10_june_37 : decode cX10_june 37 = .ok (.bipush 9, 2) := by decide +kernel
theorem dX10_june_39 : decode cX10_june 39 = .ok (.iload_n 3, 1) := by decide +kernel
theorem dX10_june_40 : decode cX10_june 40 = .ok (.invokevirtual 129, 3) := by decide +kernel
theorem dX10_june_43 : decode cX10_june 43 = .ok (.pop, 1) := by decide +kernel
theorem dX10_june_44 : decode cX10_june 44 = .ok (.iinc 3 1, 3) := by decide +kernel
theorem dX10_june_47 : decode cX10_june 47 = .ok (.goto (-29), 3) := by decide +kernel
theorem dX10_june_50 : decode cX10_june 50 = .ok (.aload_n 0, 1) := by decide +kernel
theorem dX10_june_51 : decode cX10_june 51 = .ok (.getfield 10, 3) := by decide +kernel
theorem dX10_june_54 : decode cX10_june 54 = .ok (.getfield 94, 3) := by decide +kernel
theorem dX10_june_57 : decode cX10_june 57 = .ok (.iload_n 1, 1) := by decide +kernel
theorem dX10_june_58 : decode cX10_june 58 = .ok (.isub, 1) := by decide +kernel
theorem dX10_june_59 : decode cX10_june 59 = .ok (.ireturn, 1) := by decide +kernel
set_option maxRecDepth 20000 in
theorem ggX10_least_X10_isPerson : GoodIn wsX10_least wsX10_isPerson := goodIn_r _ [6, 7, 8, 5, 9] (by decide +kernel) (by decide +kernel)
set_option maxRecDepth 20000 in
theorem gX10_least_X10_isPerson : GoodIn wsX10_least (va_wsS RX10 87 yX10_isPerson wsX10_isPerson) := goodIn_app (goodIn_of _ (by decide +kernel)) ggX10_least_X10_isPerson
set_option maxRecDepth 20000 in
theorem ggX10_least_X10_isWithin : GoodIn wsX10_least wsX10_isWithin := goodIn_r _ [9] (by decide +kernel) (by decide +kernel)
set_option maxRecDepth 20000 in
theorem gX10_least_X10_isWithin : GoodIn wsX10_least (va_wsS RX10 102 yX10_isWithin wsX10_isWithin) := goodIn_app (goodIn_of _ (by decide +kernel)) ggX10_least_X10_isWithin
set_option maxRecDepth 20000 in
theorem ggX10_least_X7_search : GoodIn wsX10_least wsX7_search := goodIn_r _ [14, 15, 16, 17, 18, 19, 20, 21, 22, 23, 24, 25, 26, 27, 28, 29, 30, 31, 32, 33, 34, 35, 36, 37, 38, 39, 40, 13, 41, 42, 43, 44, 45, 46, 47, 48, 49, 50, 51, 52, 53, 54, 55, 56, 57, 58, 59, 60, 61, 62, 82, 83, 84, 85, 86, 87, 88, 89, 90, 91, 92] (by decide +kernel) (by decide +kernel)
set_option maxRecDepth 20000 in
theorem gX10_least_X7_search : GoodIn wsX10_least (wsV RX10 161 RX7 yX7_search wsX7_search) := goodIn_app (goodIn_of _ (by decide +kernel)) ggX10_least_X7_search
set_option maxRecDepth 20000 in
theorem ggX10_least_X7_worth : GoodIn wsX10_least wsX7_worth := goodIn_r _ [66, 17, 16, 82, 83, 84] (by decide +kernel) (by decide +kernel)
set_option maxRecDepth 20000 in
theorem gX10_least_X7_worth : GoodIn wsX10_least (wsV RX10 165 RX7 yX7_worth wsX7_worth) := goodIn_app (goodIn_of _ (by decide +kernel)) ggX10_least_X7_worth
set_option maxRecDepth 20000 in
theorem ggX10_least_X7_bits : GoodIn wsX10_least wsX7_bits := goodIn_r _ [70, 17, 82, 83, 84] (by decide +kernel) (by decide +kernel)
set_option maxRecDepth 20000 in
theorem gX10_least_X7_bits : GoodIn wsX10_least (wsV RX10 168 RX7 yX7_bits wsX7_bits) := goodIn_app (goodIn_of _ (by decide +kernel)) ggX10_least_X7_bits
theorem dX10_least_0 : decode cX10_least 0 = .ok (.iload_n 1, 1) := by decide +kernel
theorem dX10_least_1 : decode cX10_least 1 = .ok (.invokestatic 87, 3) := by decide +kernel
theorem dX10_least_4 : decode cX10_least 4 = .ok (.ifCond .ne 6, 3) := by decide +kernel
theorem dX10_least_7 : decode cX10_least 7 = .ok (.bipush (-101), 2) := by decide +kernel
theorem dX10_least_9 : decode cX10_least 9 = .ok (.ireturn, 1) := by decide +kernel
theorem dX10_least_10 : decode cX10_least 10 = .ok (.iload_n 2, 1) := by decide +kernel
theorem dX10_least_11 : decode cX10_least 11 = .ok (.iconst 1, 1) := by decide +kernel
theorem dX10_least_12 : decode cX10_least 12 = .ok (.bipush 99, 2) := by decide +kernel
theorem dX10_least_14 : decode cX10_least 14 = .ok (.invokestatic 102, 3) := by decide +kernel
theorem dX10_least_17 : decode cX10_least 17 = .ok (.ifCond .eq 12, 3) := by decide +kernel
theorem dX10_least_20 : decode cX10_least 20 = .ok (.iload_n 3, 1) := by decide +kernel
theorem dX10_least_21 : decode cX10_least 21 = .ok (.iconst 0, 1) := by decide +kernel
theorem dX10_least_22 : decode cX10_least 22 = .ok (.iconst 1, 1) := by decide +kernel
theorem dX10_least_23 : decode cX10_least 23 = .ok (.invokestatic 102, 3) := by decide +kernel
theorem dX10_least_26 : decode cX10_least 26 = .ok (.ifCond .ne 6, 3) := by decide +kernel
theorem dX10_least_29 : decode cX10_least 29 = .ok (.bipush (-102), 2) := by decide +kernel
theorem dX10_least_31 : decode cX10_least 31 = .ok (.ireturn, 1) := by decide +kernel
theorem dX10_least_32 : decode cX10_least 32 = .ok (.aload_n 0, 1) := by decide +kernel
theorem dX10_least_33 : decode cX10_least 33 = .ok (.getfield 32, 3) := by decide +kernel
theorem dX10_least_36 : decode cX10_least 36 = .ok (.aload_n 0, 1) := by decide +kernel
theorem dX10_least_37 : decode cX10_least 37 = .ok (.getfield 10, 3) := by decide +kernel
theorem dX10_least_40 : decode cX10_least 40 = .ok (.iload_n 1, 1) := by decide +kernel
theorem dX10_least_41 : decode cX10_least 41 = .ok (.iload_n 2, 1) := by decide +kernel
theorem dX10_least_42 : decode cX10_least 42 = .ok (.invokevirtual 161, 3) := by decide +kernel
theorem dX10_least_45 : decode cX10_least 45 = .ok (.iload_n 3, 1) := by decide +kernel
theorem dX10_least_46 : decode cX10_least 46 = .ok (.ifCond .ne 13, 3) := by decide +kernel
theorem dX10_least_49 : decode cX10_least 49 = .ok (.aload_n 0, 1) := by decide +kernel
theorem dX10_least_50 : decode cX10_least 50 = .ok (.getfield 32, 3) := by decide +kernel
theorem dX10_least_53 : decode cX10_least 53 = .ok (.invokevirtual 165, 3) := by decide +kernel
theorem dX10_least_56 : decode cX10_least 56 = .ok (.goto 10, 3) := by decide +kernel
theorem dX10_least_59 : decode cX10_least 59 = .ok (.aload_n 0, 1) := by decide +kernel
theorem dX10_least_60 : decode cX10_least 60 = .ok (.getfield 32, 3) := by decide +kernel
theorem dX10_least_63 : decode cX10_least 63 = .ok (.invokevirtual 168, 3) := by decide +kernel
theorem dX10_least_66 : decode cX10_least 66 = .ok (.ireturn, 1) := by decide +kernel
set_option maxRecDepth 20000 in
theorem ggX10_held_X4_knows : GoodIn wsX10_held wsX4_knows := goodIn_r _ [8, 9, 79, 80, 81, 82, 83, 84, 85, 86] (by decide +kernel) (by decide +kernel)
set_option maxRecDepth 20000 in
theorem gX10_held_X4_knows : GoodIn wsX10_held (wsV RX10 99 RX4 yX4_knows wsX4_knows) := goodIn_app (goodIn_of _ (by decide +kernel)) ggX10_held_X4_knows
set_option maxRecDepth 20000 in
theorem ggX10_held_X10_isWithin : GoodIn wsX10_held wsX10_isWithin := goodIn_r _ [13] (by decide +kernel) (by decide +kernel)
set_option maxRecDepth 20000 in
theorem gX10_held_X10_isWithin : GoodIn wsX10_held (va_wsS RX10 102 yX10_isWithin wsX10_isWithin) := goodIn_app (goodIn_of _ (by decide +kernel)) ggX10_held_X10_isWithin
set_option maxRecDepth 20000 in
theorem ggX10_held_X10_meanOf : GoodIn wsX10_held wsX10_meanOf := goodIn_r _ [17, 18, 1, 19, 20, 21, 22, 23, 24, 25, 26, 27, 28, 29, 30, 31, 32, 7, 33, 34, 35, 36, 37, 38, 39, 40, 41, 42, 43, 44, 45, 46, 47, 48, 49, 50, 51, 52, 53, 54, 55, 56, 57, 58, 59, 60, 61, 62, 63, 64, 65, 66, 67, 68, 69, 70, 71, 72, 73, 74, 75, 76, 77, 78, 87, 88, 89, 90, 79, 80, 81, 82, 83, 84, 85, 86] (by decide +kernel) (by decide +kernel)
set_option maxRecDepth 20000 in
theorem gX10_held_X10_meanOf : GoodIn wsX10_held (wsV RX10 193 RX10 yX10_meanOf wsX10_meanOf) := goodIn_app (goodIn_of _ (by decide +kernel)) ggX10_held_X10_meanOf
theorem dX10_held_0 : decode cX10_held 0 = .ok (.aload_n 0, 1) := by decide +kernel
theorem dX10_held_1 : decode cX10_held 1 = .ok (.getfield 10, 3) := by decide +kernel
theorem dX10_held_4 : decode cX10_held 4 = .ok (.iload_n 1, 1) := by decide +kernel
theorem dX10_held_5 : decode cX10_held 5 = .ok (.invokevirtual 99, 3) := by decide +kernel
theorem dX10_held_8 : decode cX10_held 8 = .ok (.ifCond .ne 7, 3) := by decide +kernel
theorem dX10_held_11 : decode cX10_held 11 = .ok (.ldc2_w 189, 3) := by decide +kernel
theorem dX10_held_14 : decode cX10_held 14 = .ok (.lreturn, 1) := by decide +kernel
theorem dX10_held_15 : decode cX10_held 15 = .ok (.iload_n 2, 1) := by decide +kernel
theorem dX10_held_16 : decode cX10_held 16 = .ok (.iconst 0, 1) := by decide +kernel
theorem dX10_held_17 : decode cX10_held 17 = .ok (.bipush 9, 2) := by decide +kernel
theorem dX10_held_19 : decode cX10_held 19 = .ok (.invokestatic 102, 3) := by decide +kernel
theorem dX10_held_22 : decode cX10_held 22 = .ok (.ifCond .eq 23, 3) := by decide +kernel
theorem dX10_held_25 : decode cX10_held 25 = .ok (.iload_n 3, 1) := by decide +kernel
theorem dX10_held_26 : decode cX10_held 26 = .ok (.iconst 0, 1) := by decide +kernel
theorem dX10_held_27 : decode cX10_held 27 = .ok (.bipush 10, 2) := by decide +kernel
theorem dX10_held_29 : decode cX10_held 29 = .ok (.invokestatic 102, 3) := by decide +kernel
theorem dX10_held_32 : decode cX10_held 32 = .ok (.ifCond .eq 13, 3) := by decide +kernel
theorem dX10_held_35 : decode cX10_held 35 = .ok (.iload 4, 2) := by decide +kernel
theorem dX10_held_37 : decode cX10_held 37 = .ok (.iconst 0, 1) := by decide +kernel
theorem dX10_held_38 : decode cX10_held 38 = .ok (.iconst 1, 1) := by decide +kernel
theorem dX10_held_39 : decode cX10_held 39 = .ok (.invokestatic 102, 3) := by decide +kernel
theorem dX10_held_42 : decode cX10_held 42 = .ok (.ifCond .ne 7, 3) := by decide +kernel
theorem dX10_held_45 : decode cX10_held 45 = .ok (.ldc2_w 191, 3) := by decide +kernel
theorem dX10_held_48 : decode cX10_held 48 = .ok (.lreturn, 1) := by decide +kernel
theorem dX10_held_49 : decode cX10_held 49 = .ok (.aload_n 0, 1) := by decide +kernel
theorem dX10_held_50 : decode cX10_held 50 = .ok (.iload_n 1, 1) := by decide +kernel
theorem dX10_held_51 : decode cX10_held 51 = .ok (.iload_n 2, 1) := by decide +kernel
theorem dX10_held_52 : decode cX10_held 52 = .ok (.iload_n 3, 1) := by decide +kernel
theorem dX10_held_53 : decode cX10_held 53 = .ok (.iload 4, 2) := by decide +kernel
theorem dX10_held_55 : decode cX10_held 55 = .ok (.invokevirtual 193, 3) := by decide +kernel
theorem dX10_held_58 : decode cX10_held 58 = .ok (.lreturn, 1) := by decide +kernel
set_option maxRecDepth 20000 in
theorem ggX10_when_X4_knows : GoodIn wsX10_when wsX4_knows := goodIn_r _ [7, 8, 70, 71, 72, 73, 74, 75, 76, 77] (by decide +kernel) (by decide +kernel)
set_option maxRecDepth 20000 in
theorem gX10_when_X4_knows : GoodIn wsX10_when (wsV RX10 99 RX4 yX4_knows wsX4_knows) := goodIn_app (goodIn_of _ (by decide +kernel)) ggX10_when_X4_knows
set_option maxRecDepth 20000 in
theorem ggX10_when_X10_isWithin : GoodIn wsX10_when wsX10_isWithin := goodIn_r _ [12] (by decide +kernel) (by decide +kernel)
set_option maxRecDepth 20000 in
theorem gX10_when_X10_isWithin : GoodIn wsX10_when (va_wsS RX10 102 yX10_isWithin wsX10_isWithin) := goodIn_app (goodIn_of _ (by decide +kernel)) ggX10_when_X10_isWithin
set_option maxRecDepth 20000 in
theorem ggX10_when_X0_begin : GoodIn wsX10_when wsX0_begin := goodIn_r _ [17, 18, 19, 20, 21, 22, 23, 24, 25, 26, 6, 27, 28, 78, 79, 80, 81, 70, 71, 72, 73, 74, 75, 76, 77] (by decide +kernel) (by decide +kernel)
set_option maxRecDepth 20000 in
theorem gX10_when_X0_begin : GoodIn wsX10_when (wsV RX10 197 RX0 yX0_begin wsX0_begin) := goodIn_app (goodIn_of _ (by decide +kernel)) ggX10_when_X0_begin
set_option maxRecDepth 20000 in
theorem ggX10_when_X0_lastMonthOfNoLess : GoodIn wsX10_when wsX0_lastMonthOfNoLess := goodIn_r _ [32, 20, 33, 34, 35, 16, 36, 18, 22, 37, 38, 39, 40, 41, 42, 43, 44, 45, 46, 47, 48, 49, 50, 51, 52, 23, 53, 54, 55, 56, 57, 58, 78, 79, 80, 81] (by decide +kernel) (by decide +kernel)
set_option maxRecDepth 20000 in
theorem gX10_when_X0_lastMonthOfNoLess : GoodIn wsX10_when (wsV RX10 200 RX0 yX0_lastMonthOfNoLess wsX0_lastMonthOfNoLess) := goodIn_app (goodIn_of _ (by decide +kernel)) ggX10_when_X0_lastMonthOfNoLess
theorem dX10_when_0 : decode cX10_when 0 = .ok (.aload_n 0, 1) := by decide +kernel
theorem dX10_when_1 : decode cX10_when 1 = .ok (.getfield 10, 3) := by decide +kernel
theorem dX10_when_4 : decode cX10_when 4 = .ok (.iload_n 1, 1) := by decide +kernel
theorem dX10_when_5 : decode cX10_when 5 = .ok (.invokevirtual 99, 3) := by decide +kernel
theorem dX10_when_8 : decode cX10_when 8 = .ok (.ifCond .ne 6, 3) := by decide +kernel
theorem dX10_when_11 : decode cX10_when 11 = .ok (.bipush (-101), 2) := by decide +kernel
theorem dX10_when_13 : decode cX10_when 13 = .ok (.ireturn, 1) := by decide +kernel
theorem dX10_when_14 : decode cX10_when 14 = .ok (.iload_n 2, 1) := by decide +kernel
theorem dX10_when_15 : decode cX10_when 15 = .ok (.iconst 0, 1) := by decide +kernel
theorem dX10_when_16 : decode cX10_when 16 = .ok (.bipush 9, 2) := by decide +kernel
theorem dX10_when_18 : decode cX10_when 18 = .ok (.invokestatic 102, 3) := by decide +kernel
theorem dX10_when_21 : decode cX10_when 21 = .ok (.ifCond .eq 13, 3) := by decide +kernel
theorem dX10_when_24 : decode cX10_when 24 = .ok (.iload_n 3, 1) := by decide +kernel
theorem dX10_when_25 : decode cX10_when 25 = .ok (.iconst 0, 1) := by decide +kernel
theorem dX10_when_26 : decode cX10_when 26 = .ok (.bipush 10, 2) := by decide +kernel
theorem dX10_when_28 : decode cX10_when 28 = .ok (.invokestatic 102, 3) := by decide +kernel
theorem dX10_when_31 : decode cX10_when 31 = .ok (.ifCond .ne 6, 3) := by decide +kernel
theorem dX10_when_34 : decode cX10_when 34 = .ok (.bipush (-102), 2) := by decide +kernel
theorem dX10_when_36 : decode cX10_when 36 = .ok (.ireturn, 1) := by decide +kernel
theorem dX10_when_37 : decode cX10_when 37 = .ok (.aload_n 0, 1) := by decide +kernel
theorem dX10_when_38 : decode cX10_when 38 = .ok (.getfield 53, 3) := by decide +kernel
theorem dX10_when_41 : decode cX10_when 41 = .ok (.aload_n 0, 1) := by decide +kernel
theorem dX10_when_42 : decode cX10_when 42 = .ok (.getfield 10, 3) := by decide +kernel
theorem dX10_when_45 : decode cX10_when 45 = .ok (.iload_n 1, 1) := by decide +kernel
theorem dX10_when_46 : decode cX10_when 46 = .ok (.iload_n 3, 1) := by decide +kernel
theorem dX10_when_47 : decode cX10_when 47 = .ok (.invokevirtual 197, 3) := by decide +kernel
theorem dX10_when_50 : decode cX10_when 50 = .ok (.aload_n 0, 1) := by decide +kernel
theorem dX10_when_51 : decode cX10_when 51 = .ok (.getfield 53, 3) := by decide +kernel
theorem dX10_when_54 : decode cX10_when 54 = .ok (.iload_n 2, 1) := by decide +kernel
theorem dX10_when_55 : decode cX10_when 55 = .ok (.invokevirtual 200, 3) := by decide +kernel
theorem dX10_when_58 : decode cX10_when 58 = .ok (.ireturn, 1) := by decide +kernel
set_option maxRecDepth 20000 in
theorem ggX10_months_X10_isWithin : GoodIn wsX10_months wsX10_isWithin := goodIn_r _ [7] (by decide +kernel) (by decide +kernel)
set_option maxRecDepth 20000 in
theorem gX10_months_X10_isWithin : GoodIn wsX10_months (va_wsS RX10 102 yX10_isWithin wsX10_isWithin) := goodIn_app (goodIn_of _ (by decide +kernel)) ggX10_months_X10_isWithin
set_option maxRecDepth 20000 in
theorem ggX10_months_X4_copyFrom : GoodIn wsX10_months wsX4_copyFrom := goodIn_r _ [12, 13, 14, 15, 16, 17, 18, 19, 20, 21, 22, 23, 24, 25, 26, 27, 28, 29, 30, 31, 112, 113, 114, 115, 116, 117, 118, 119, 120] (by decide +kernel) (by decide +kernel)
set_option maxRecDepth 20000 in
theorem gX10_months_X4_copyFrom : GoodIn wsX10_months (wsV RX10 212 RX4 yX4_copyFrom wsX4_copyFrom) := goodIn_app (goodIn_of _ (by decide +kernel)) ggX10_months_X4_copyFrom
set_option maxRecDepth 20000 in
theorem ggX10_months_X2_begin : GoodIn wsX10_months wsX2_begin := goodIn_r _ [36, 37, 121] (by decide +kernel) (by decide +kernel)
set_option maxRecDepth 20000 in
theorem gX10_months_X2_begin : GoodIn wsX10_months (wsV RX10 216 RX2 yX2_begin wsX2_begin) := goodIn_app (goodIn_of _ (by decide +kernel)) ggX10_months_X2_begin
set_option maxRecDepth 20000 in
theorem ggX10_months_X2_passMonth : GoodIn wsX10_months wsX2_passMonth := goodIn_r _ [41, 42, 43, 44, 45, 46, 35, 47, 48, 37, 49, 50, 51, 52, 53, 11, 54, 22, 13, 18, 24, 55, 56, 57, 58, 19, 59, 60, 61, 62, 63, 64, 65, 66, 67, 68, 69, 70, 71, 72, 73, 74, 75, 76, 77, 78, 23, 79, 80, 81, 82, 83, 84, 85, 86, 87, 88, 89, 90, 91, 92, 20, 112, 113, 114, 115, 116, 117, 118, 119, 121] (by decide +kernel) (by decide +kernel)
set_option maxRecDepth 20000 in
theorem gX10_months_X2_passMonth : GoodIn wsX10_months (wsV RX10 219 RX2 yX2_passMonth wsX2_passMonth) := goodIn_app (goodIn_of _ (by decide +kernel)) ggX10_months_X2_passMonth
set_option maxRecDepth 20000 in
theorem ggX10_months_X4_leafletsOfAll : GoodIn wsX10_months wsX4_leafletsOfAll := goodIn_r _ [96, 22, 18, 112, 113, 114, 115, 116, 117, 118, 119] (by decide +kernel) (by decide +kernel)
set_option maxRecDepth 20000 in
theorem gX10_months_X4_leafletsOfAll : GoodIn wsX10_months (wsV RX10 223 RX4 yX4_leafletsOfAll wsX4_leafletsOfAll) := goodIn_app (goodIn_of _ (by decide +kernel)) ggX10_months_X4_leafletsOfAll
set_option maxRecDepth 20000 in
theorem ggX10_months_X2_seed : GoodIn wsX10_months wsX2_seed := goodIn_r _ [100, 37, 121] (by decide +kernel) (by decide +kernel)
set_option maxRecDepth 20000 in
theorem gX10_months_X2_seed : GoodIn wsX10_months (wsV RX10 226 RX2 yX2_seed wsX2_seed) := goodIn_app (goodIn_of _ (by decide +kernel)) ggX10_months_X2_seed
theorem dX10_months_0 : decode cX10_months 0 = .ok (.iload_n 1, 1) := by decide +kernel
theorem dX10_months_1 : decode cX10_months 1 = .ok (.iconst 1, 1) := by decide +kernel
theorem dX10_months_2 : decode cX10_months 2 = .ok (.bipush 60, 2) := by decide +kernel
theorem dX10_months_4 : decode cX10_months 4 = .ok (.invokestatic 102, 3) := by decide +kernel
theorem dX10_months_7 : decode cX10_months 7 = .ok (.ifCond .eq 27, 3) := by decide +kernel
theorem dX10_months_10 : decode cX10_months 10 = .ok (.iload_n 2, 1) := by decide +kernel
theorem dX10_months_11 : decode cX10_months 11 = .ok (.iconst 0, 1) := by decide +kernel
theorem dX10_months_12 : decode cX10_months 12 = .ok (.bipush 10, 2) := by decide +kernel
theorem dX10_months_14 : decode cX10_months 14 = .ok (.invokestatic 102, 3) := by decide +kernel
theorem dX10_months_17 : decode cX10_months 17 = .ok (.ifCond .eq 17, 3) := by decide +kernel
theorem dX10_months_20 : decode cX10_months 20 = .ok (.iload_n 3, 1) := by decide +kernel
theorem dX10_months_21 : decode cX10_months 21 = .ok (.ifCond .lt 13, 3) := by decide +kernel
theorem dX10_months_24 : decode cX10_months 24 = .ok (.iload 4, 2) := by decide +kernel
theorem dX10_months_26 : decode cX10_months 26 = .ok (.iconst 0, 1) := by decide +kernel
theorem dX10_months_27 : decode cX10_months 27 = .ok (.iconst 2, 1) := by decide +kernel
theorem dX10_months_28 : decode cX10_months 28 = .ok (.invokestatic 102, 3) := by decide +kernel
theorem dX10_months_31 : decode cX10_months 31 = .ok (.ifCond .ne 6, 3) := by decide +kernel
theorem dX10_months_34 : decode cX10_months 34 = .ok (.bipush (-102), 2) := by decide +kernel
theorem dX10_months_36 : decode cX10_months 36 = .ok (.ireturn, 1) := by decide +kernel
theorem dX10_months_37 : decode cX10_months 37 = .ok (.aload_n 0, 1) := by decide +kernel
theorem dX10_months_38 : decode cX10_months 38 = .ok (.getfield 19, 3) := by decide +kernel
theorem dX10_months_41 : decode cX10_months 41 = .ok (.aload_n 0, 1) := by decide +kernel
theorem dX10_months_42 : decode cX10_months 42 = .ok (.getfield 10, 3) := by decide +kernel
theorem dX10_months_45 : decode cX10_months 45 = .ok (.invokevirtual 212, 3) := by decide +kernel
theorem dX10_months_48 : decode cX10_months 48 = .ok (.aload_n 0, 1) := by decide +kernel
theorem dX10_months_49 : decode cX10_months 49 = .ok (.getfield 67, 3) := by decide +kernel
theorem dX10_months_52 : decode cX10_months 52 = .ok (.iload_n 3, 1) := by decide +kernel
theorem dX10_months_53 : decode cX10_months 53 = .ok (.invokevirtual 216, 3) := by decide +kernel
theorem dX10_months_56 : decode cX10_months 56 = .ok (.iconst 0, 1) := by decide +kernel
theorem dX10_months_57 : decode cX10_months 57 = .ok (.istore 5, 2) := by decide +kernel
theorem dX10_months_59 : decode cX10_months 59 = .ok (.iconst 0, 1) := by decide +kernel
theorem dX10_months_60 : decode cX10_months 60 = .ok (.istore 6, 2) := by decide +kernel
theorem dX10_months_62 : decode cX10_months 62 = .ok (.iload 6, 2) := by decide +kernel
theorem dX10_months_64 : decode cX10_months 64 = .ok (.iload_n 1, 1) := by decide +kernel
theorem dX10_months_65 : decode cX10_months 65 = .ok (.if_icmp .ge 26, 3) := by decide +kernel
theorem dX10_months_68 : decode cX10_months 68 = .ok (.iload 5, 2) := by decide +kernel
theorem dX10_months_70 : decode cX10_months 70 = .ok (.aload_n 0, 1) := by decide +kernel
theorem dX10_months_71 : decode cX10_months 71 = .ok (.getfield 67, 3) := by decide +kernel
theorem dX10_months_74 : decode cX10_months 74 = .ok (.aload_n 0, 1) := by decide +kernel
theorem dX10_months_75 : decode cX10_months 75 = .ok (.getfield 19, 3) := by decide +kernel
theorem dX10_months_78 : decode cX10_months 78 = .ok (.iload_n 2, 1) := by decide +kernel
theorem dX10_months_79 : decode cX10_months 79 = .ok (.invokevirtual 219, 3) := by decide +kernel
theorem dX10_months_82 : decode cX10_months 82 = .ok (.iadd, 1) := by decide +kernel
theorem dX10_months_83 : decode cX10_months 83 = .ok (.istore 5, 2) := by decide +kernel
theorem dX10_months_85 : decode cX10_months 85 = .ok (.iinc 6 1, 3) := by decide +kernel
theorem dX10_months_88 : decode cX10_months 88 = .ok (.goto (-26), 3) := by decide +kernel
theorem dX10_months_91 : decode cX10_months 91 = .ok (.iload 4, 2) := by decide +kernel
theorem dX10_months_93 : decode cX10_months 93 = .ok (.ifCond .ne 11, 3) := by decide +kernel
theorem dX10_months_96 : decode cX10_months 96 = .ok (.aload_n 0, 1) := by decide +kernel
theorem dX10_months_97 : decode cX10_months 97 = .ok (.getfield 19, 3) := by decide +kernel
theorem dX10_months_100 : decode cX10_months 100 = .ok (.invokevirtual 223, 3) := by decide +kernel
theorem dX10_months_103 : decode cX10_months 103 = .ok (.ireturn, 1) := by decide +kernel
theorem dX10_months_104 : decode cX10_months 104 = .ok (.iload 4, 2) := by decide +kernel
theorem dX10_months_106 : decode cX10_months 106 = .ok (.iconst 1, 1) := by decide +kernel
theorem dX10_months_107 : decode cX10_months 107 = .ok (.if_icmp .ne 8, 3) := by decide +kernel
theorem dX10_months_110 : decode cX10_months 110 = .ok (.iload 5, 2) := by decide +kernel
theorem dX10_months_112 : decode cX10_months 112 = .ok (.goto 10, 3) := by decide +kernel
theorem dX10_months_115 : decode cX10_months 115 = .ok (.aload_n 0, 1) := by decide +kernel
theorem dX10_months_116 : decode cX10_months 116 = .ok (.getfield 67, 3) := by decide +kernel
theorem dX10_months_119 : decode cX10_months 119 = .ok (.invokevirtual 226, 3) := by decide +kernel
theorem dX10_months_122 : decode cX10_months 122 = .ok (.ireturn, 1) := by decide +kernel
set_option maxRecDepth 20000 in
theorem ggX10_count_X4_leafletsOfAll : GoodIn wsX10_count wsX4_leafletsOfAll := goodIn_r _ [12, 13, 14, 41, 42, 43, 44, 45, 46, 47, 48] (by decide +kernel) (by decide +kernel)
set_option maxRecDepth 20000 in
theorem gX10_count_X4_leafletsOfAll : GoodIn wsX10_count (wsV RX10 223 RX4 yX4_leafletsOfAll wsX4_leafletsOfAll) := goodIn_app (goodIn_of _ (by decide +kernel)) ggX10_count_X4_leafletsOfAll
set_option maxRecDepth 20000 in
theorem ggX10_count_X4_frondsAtBank : GoodIn wsX10_count wsX4_frondsAtBank := goodIn_r _ [18, 13, 19, 20, 21, 11, 22, 23, 41, 42, 43, 44, 45, 46, 47, 48] (by decide +kernel) (by decide +kernel)
set_option maxRecDepth 20000 in
theorem gX10_count_X4_frondsAtBank : GoodIn wsX10_count (wsV RX10 239 RX4 yX4_frondsAtBank wsX4_frondsAtBank) := goodIn_app (goodIn_of _ (by decide +kernel)) ggX10_count_X4_frondsAtBank
set_option maxRecDepth 20000 in
theorem ggX10_count_X1_total : GoodIn wsX10_count wsX1_total := goodIn_r _ [28, 29, 51] (by decide +kernel) (by decide +kernel)
set_option maxRecDepth 20000 in
theorem gX10_count_X1_total : GoodIn wsX10_count (wsV RX10 242 RX1 yX1_total wsX1_total) := goodIn_app (goodIn_of _ (by decide +kernel)) ggX10_count_X1_total
theorem dX10_count_0 : decode cX10_count 0 = .ok (.iload_n 1, 1) := by decide +kernel
theorem dX10_count_1 : decode cX10_count 1 = .ok (.tableswitch 102 0 6 #[43, 51, 59, 67, 75, 83, 91], 43) := by decide +kernel
theorem dX10_count_44 : decode cX10_count 44 = .ok (.aload_n 0, 1) := by decide +kernel
theorem dX10_count_45 : decode cX10_count 45 = .ok (.getfield 10, 3) := by decide +kernel
theorem dX10_count_48 : decode cX10_count 48 = .ok (.getfield 94, 3) := by decide +kernel
theorem dX10_count_51 : decode cX10_count 51 = .ok (.ireturn, 1) := by decide +kernel
theorem dX10_count_52 : decode cX10_count 52 = .ok (.aload_n 0, 1) := by decide +kernel
theorem dX10_count_53 : decode cX10_count 53 = .ok (.getfield 10, 3) := by decide +kernel
theorem dX10_count_56 : decode cX10_count 56 = .ok (.invokevirtual 223, 3) := by decide +kernel
theorem dX10_count_59 : decode cX10_count 59 = .ok (.ireturn, 1) := by decide +kernel
theorem dX10_count_60 : decode cX10_count 60 = .ok (.aload_n 0, 1) := by decide +kernel
theorem dX10_count_61 : decode cX10_count 61 = .ok (.getfield 10, 3) := by decide +kernel
theorem dX10_count_64 : decode cX10_count 64 = .ok (.getfield 233, 3) := by decide +kernel
theorem dX10_count_67 : decode cX10_count 67 = .ok (.ireturn, 1) := by decide +kernel
theorem dX10_count_68 : decode cX10_count 68 = .ok (.aload_n 0, 1) := by decide +kernel
theorem dX10_count_69 : decode cX10_count 69 = .ok (.getfield 10, 3) := by decide +kernel
theorem dX10_count_72 : decode cX10_count 72 = .ok (.getfield 236, 3) := by decide +kernel
theorem dX10_count_75 : decode cX10_count 75 = .ok (.ireturn, 1) := by decide +kernel
theorem dX10_count_76 : decode cX10_count 76 = .ok (.aload_n 0, 1) := by decide +kernel
theorem dX10_count_77 : decode cX10_count 77 = .ok (.getfield 10, 3) := by decide +kernel
theorem dX10_count_80 : decode cX10_count 80 = .ok (.invokevirtual 239, 3) := by decide +kernel
theorem dX10_count_83 : decode cX10_count 83 = .ok (.ireturn, 1) := by decide +kernel
theorem dX10_count_84 : decode cX10_count 84 = .ok (.aload_n 0, 1) := by decide +kernel
theorem dX10_count_85 : decode cX10_count 85 = .ok (.getfield 25, 3) := by decide +kernel
theorem dX10_count_88 : decode cX10_count 88 = .ok (.getfield 75, 3) := by decide +kernel
theorem dX10_count_91 : decode cX10_count 91 = .ok (.ireturn, 1) := by decide +kernel
theorem dX10_count_92 : decode cX10_count 92 = .ok (.aload_n 0, 1) := by decide +kernel
theorem dX10_count_93 : decode cX10_count 93 = .ok (.getfield 10, 3) := by decide +kernel
theorem dX10_count_96 : decode cX10_count 96 = .ok (.getfield 136, 3) := by decide +kernel
theorem dX10_count_99 : decode cX10_count 99 = .ok (.invokevirtual 242, 3) := by decide +kernel
theorem dX10_count_102 : decode cX10_count 102 = .ok (.ireturn, 1) := by decide +kernel
theorem dX10_count_103 : decode cX10_count 103 = .ok (.bipush (-102), 2) := by decide +kernel
theorem dX10_count_105 : decode cX10_count 105 = .ok (.ireturn, 1) := by decide +kernel
set_option maxRecDepth 20000 in
theorem ggX10_meanOf_X0_begin : GoodIn wsX10_meanOf wsX0_begin := goodIn_r _ [7, 8, 9, 10, 11, 12, 13, 14, 15, 16, 17, 18, 19, 64, 65, 66, 67, 68, 69, 70, 71, 72, 73, 74, 75] (by decide +kernel) (by decide +kernel)
set_option maxRecDepth 20000 in
theorem gX10_meanOf_X0_begin : GoodIn wsX10_meanOf (wsV RX10 197 RX0 yX0_begin wsX0_begin) := goodIn_app (goodIn_of _ (by decide +kernel)) ggX10_meanOf_X0_begin
set_option maxRecDepth 20000 in
theorem ggX10_meanOf_X0_passMonth : GoodIn wsX10_meanOf wsX0_passMonth := goodIn_r _ [23, 10, 24, 8, 13, 12, 25, 26, 27, 28, 29, 30, 31, 32, 33, 34, 35, 64, 65, 66, 67] (by decide +kernel) (by decide +kernel)
set_option maxRecDepth 20000 in
theorem gX10_meanOf_X0_passMonth : GoodIn wsX10_meanOf (wsV RX10 268 RX0 yX0_passMonth wsX0_passMonth) := goodIn_app (goodIn_of _ (by decide +kernel)) ggX10_meanOf_X0_passMonth
set_option maxRecDepth 20000 in
theorem ggX10_meanOf_X0_meanInLowestTerms : GoodIn wsX10_meanOf wsX0_meanInLowestTerms := goodIn_r _ [39, 10, 40, 41, 42, 6, 43, 8, 12, 44, 45, 27, 46, 29, 30, 31, 32, 47, 48, 49, 50, 51, 52, 64, 65, 66, 67] (by decide +kernel) (by decide +kernel)
set_option maxRecDepth 20000 in
theorem gX10_meanOf_X0_meanInLowestTerms : GoodIn wsX10_meanOf (wsV RX10 270 RX0 yX0_meanInLowestTerms wsX0_meanInLowestTerms) := goodIn_app (goodIn_of _ (by decide +kernel)) ggX10_meanOf_X0_meanInLowestTerms
theorem dX10_meanOf_0 : decode cX10_meanOf 0 = .ok (.aload_n 0, 1) := by decide +kernel
theorem dX10_meanOf_1 : decode cX10_meanOf 1 = .ok (.getfield 53, 3) := by decide +kernel
theorem dX10_meanOf_4 : decode cX10_meanOf 4 = .ok (.aload_n 0, 1) := by decide +kernel
theorem dX10_meanOf_5 : decode cX10_meanOf 5 = .ok (.getfield 10, 3) := by decide +kernel
theorem dX10_meanOf_8 : decode cX10_meanOf 8 = .ok (.iload_n 1, 1) := by decide +kernel
theorem dX10_meanOf_9 : decode cX10_meanOf 9 = .ok (.iload_n 3, 1) := by decide +kernel
theorem dX10_meanOf_10 : decode cX10_meanOf 10 = .ok (.invokevirtual 197, 3) := by decide +kernel
theorem dX10_meanOf_13 : decode cX10_meanOf 13 = .ok (.iconst 0, 1) := by decide +kernel
theorem dX10_meanOf_14 : decode cX10_meanOf 14 = .ok (.istore 5, 2) := by decide +kernel
theorem dX10_meanOf_16 : decode cX10_meanOf 16 = .ok (.iload 5, 2) := by decide +kernel
theorem dX10_meanOf_18 : decode cX10_meanOf 18 = .ok (.iload_n 2, 1) := by decide +kernel
theorem dX10_meanOf_19 : decode cX10_meanOf 19 = .ok (.if_icmp .ge 16, 3) := by decide +kernel
theorem dX10_meanOf_22 : decode cX10_meanOf 22 = .ok (.aload_n 0, 1) := by decide +kernel
theorem dX10_meanOf_23 : decode cX10_meanOf 23 = .ok (.getfield 53, 3) := by decide +kernel
theorem dX10_meanOf_26 : decode cX10_meanOf 26 = .ok (.invokevirtual 268, 3) := by decide +kernel
theorem dX10_meanOf_29 : decode cX10_meanOf 29 = .ok (.iinc 5 1, 3) := by decide +kernel
theorem dX10_meanOf_32 : decode cX10_meanOf 32 = .ok (.goto (-16), 3) := by decide +kernel
theorem dX10_meanOf_35 : decode cX10_meanOf 35 = .ok (.aload_n 0, 1) := by decide +kernel
theorem dX10_meanOf_36 : decode cX10_meanOf 36 = .ok (.getfield 53, 3) := by decide +kernel
theorem dX10_meanOf_39 : decode cX10_meanOf 39 = .ok (.iload 4, 2) := by decide +kernel
theorem dX10_meanOf_41 : decode cX10_meanOf 41 = .ok (.invokevirtual 270, 3) := by decide +kernel
theorem dX10_meanOf_44 : decode cX10_meanOf 44 = .ok (.lreturn, 1) := by decide +kernel
set_option maxRecDepth 20000 in
theorem ggX10_areTwo_X10_isPerson : GoodIn wsX10_areTwo wsX10_isPerson := goodIn_r _ [4, 5, 6, 3, 7] (by decide +kernel) (by decide +kernel)
set_option maxRecDepth 20000 in
theorem gX10_areTwo_X10_isPerson : GoodIn wsX10_areTwo (va_wsS RX10 87 yX10_isPerson wsX10_isPerson) := goodIn_app (goodIn_of _ (by decide +kernel)) ggX10_areTwo_X10_isPerson
theorem dX10_areTwo_0 : decode cX10_areTwo 0 = .ok (.iload_n 0, 1) := by decide +kernel
theorem dX10_areTwo_1 : decode cX10_areTwo 1 = .ok (.invokestatic 87, 3) := by decide +kernel
theorem dX10_areTwo_4 : decode cX10_areTwo 4 = .ok (.ifCond .eq 19, 3) := by decide +kernel
theorem dX10_areTwo_7 : decode cX10_areTwo 7 = .ok (.iload_n 1, 1) := by decide +kernel
theorem dX10_areTwo_8 : decode cX10_areTwo 8 = .ok (.invokestatic 87, 3) := by decide +kernel
theorem dX10_areTwo_11 : decode cX10_areTwo 11 = .ok (.ifCond .eq 12, 3) := by decide +kernel
theorem dX10_areTwo_14 : decode cX10_areTwo 14 = .ok (.iload_n 0, 1) := by decide +kernel
theorem dX10_areTwo_15 : decode cX10_areTwo 15 = .ok (.iload_n 1, 1) := by decide +kernel
theorem dX10_areTwo_16 : decode cX10_areTwo 16 = .ok (.if_icmp .eq 7, 3) := by decide +kernel
theorem dX10_areTwo_19 : decode cX10_areTwo 19 = .ok (.iconst 1, 1) := by decide +kernel
theorem dX10_areTwo_20 : decode cX10_areTwo 20 = .ok (.goto 4, 3) := by decide +kernel
theorem dX10_areTwo_23 : decode cX10_areTwo 23 = .ok (.iconst 0, 1) := by decide +kernel
theorem dX10_areTwo_24 : decode cX10_areTwo 24 = .ok (.ireturn, 1) := by decide +kernel
