theorem dX6_init_0 : decode cX6_init 0 = .ok (.aload_n 0, 1) := by decide +kernel
theorem dX6_init_1 : decode cX6_init 1 = .ok (.invokespecial 3, 3) := by decide +kernel
theorem dX6_init_4 : decode cX6_init 4 = .ok (.aload_n 0, 1) := by decide +kernel
theorem dX6_init_5 : decode cX6_init 5 = .ok (.bipush 22, 2) := by decide +kernel
theorem dX6_init_7 : decode cX6_init 7 = .ok (.newarray .int, 2) := by decide +kernel
theorem dX6_init_9 : decode cX6_init 9 = .ok (.putfield 9, 3) := by decide +kernel
theorem dX6_init_12 : decode cX6_init 12 = .ok (.return_, 1) := by decide +kernel
set_option maxRecDepth 20000 in
theorem ggX6_lettersIn_X6_codeIn : GoodIn wsX6_lettersIn wsX6_codeIn := goodIn_r _ [4] (by decide +kernel) (by decide +kernel)
set_option maxRecDepth 20000 in
theorem gX6_lettersIn_X6_codeIn : GoodIn wsX6_lettersIn (va_wsS RX6 15 yX6_codeIn wsX6_codeIn) := goodIn_app (goodIn_of _ (by decide +kernel)) ggX6_lettersIn_X6_codeIn
theorem dX6_lettersIn_0 : decode cX6_lettersIn 0 = .ok (.iconst 0, 1) := by decide +kernel
theorem dX6_lettersIn_1 : decode cX6_lettersIn 1 = .ok (.istore_n 2, 1) := by decide +kernel
theorem dX6_lettersIn_2 : decode cX6_lettersIn 2 = .ok (.iconst 0, 1) := by decide +kernel
theorem dX6_lettersIn_3 : decode cX6_lettersIn 3 = .ok (.istore_n 3, 1) := by decide +kernel
theorem dX6_lettersIn_4 : decode cX6_lettersIn 4 = .ok (.iconst 0, 1) := by decide +kernel
theorem dX6_lettersIn_5 : decode cX6_lettersIn 5 = .ok (.istore 4, 2) := by decide +kernel
theorem dX6_lettersIn_7 : decode cX6_lettersIn 7 = .ok (.iload 4, 2) := by decide +kernel
theorem dX6_lettersIn_9 : decode cX6_lettersIn 9 = .ok (.bipush 8, 2) := by decide +kernel
theorem dX6_lettersIn_11 : decode cX6_lettersIn 11 = .ok (.if_icmp .ge 48, 3) := by decide +kernel
theorem dX6_lettersIn_14 : decode cX6_lettersIn 14 = .ok (.lload_n 0, 1) := by decide +kernel
theorem dX6_lettersIn_15 : decode cX6_lettersIn 15 = .ok (.iload 4, 2) := by decide +kernel
theorem dX6_lettersIn_17 : decode cX6_lettersIn 17 = .ok (.invokestatic 15, 3) := by decide +kernel
theorem dX6_lettersIn_20 : decode cX6_lettersIn 20 = .ok (.istore 5, 2) := by decide +kernel
theorem dX6_lettersIn_22 : decode cX6_lettersIn 22 = .ok (.iload 5, 2) := by decide +kernel
theorem dX6_lettersIn_24 : decode cX6_lettersIn 24 = .ok (.bipush 126, 2) := by decide +kernel
theorem dX6_lettersIn_26 : decode cX6_lettersIn 26 = .ok (.if_icmp .gt 12, 3) := by decide +kernel
theorem dX6_lettersIn_29 : decode cX6_lettersIn 29 = .ok (.iload_n 3, 1) := by decide +kernel
theorem dX6_lettersIn_30 : decode cX6_lettersIn 30 = .ok (.ifCond .eq 10, 3) := by decide +kernel
theorem dX6_lettersIn_33 : decode cX6_lettersIn 33 = .ok (.iload 5, 2) := by decide +kernel
theorem dX6_lettersIn_35 : decode cX6_lettersIn 35 = .ok (.ifCond .eq 5, 3) := by decide +kernel
theorem dX6_lettersIn_38 : decode cX6_lettersIn 38 = .ok (.iconst (-1), 1) := by decide +kernel
theorem dX6_lettersIn_39 : decode cX6_lettersIn 39 = .ok (.ireturn, 1) := by decide +kernel
theorem dX6_lettersIn_40 : decode cX6_lettersIn 40 = .ok (.iload 5, 2) := by decide +kernel
theorem dX6_lettersIn_42 : decode cX6_lettersIn 42 = .ok (.ifCond .ne 8, 3) := by decide +kernel
theorem dX6_lettersIn_45 : decode cX6_lettersIn 45 = .ok (.iconst 1, 1) := by decide +kernel
theorem dX6_lettersIn_46 : decode cX6_lettersIn 46 = .ok (.istore_n 3, 1) := by decide +kernel
theorem dX6_lettersIn_47 : decode cX6_lettersIn 47 = .ok (.goto 6, 3) := by decide +kernel
theorem dX6_lettersIn_50 : decode cX6_lettersIn 50 = .ok (.iinc 2 1, 3) := by decide +kernel
theorem dX6_lettersIn_53 : decode cX6_lettersIn 53 = .ok (.iinc 4 1, 3) := by decide +kernel
theorem dX6_lettersIn_56 : decode cX6_lettersIn 56 = .ok (.goto (-49), 3) := by decide +kernel
theorem dX6_lettersIn_59 : decode cX6_lettersIn 59 = .ok (.iload_n 2, 1) := by decide +kernel
theorem dX6_lettersIn_60 : decode cX6_lettersIn 60 = .ok (.ireturn, 1) := by decide +kernel
theorem dX6_codeIn_0 : decode cX6_codeIn 0 = .ok (.lload_n 0, 1) := by decide +kernel
theorem dX6_codeIn_1 : decode cX6_codeIn 1 = .ok (.bipush 8, 2) := by decide +kernel
theorem dX6_codeIn_3 : decode cX6_codeIn 3 = .ok (.iload_n 2, 1) := by decide +kernel
theorem dX6_codeIn_4 : decode cX6_codeIn 4 = .ok (.imul, 1) := by decide +kernel
theorem dX6_codeIn_5 : decode cX6_codeIn 5 = .ok (.lushr, 1) := by decide +kernel
theorem dX6_codeIn_6 : decode cX6_codeIn 6 = .ok (.l2i, 1) := by decide +kernel
theorem dX6_codeIn_7 : decode cX6_codeIn 7 = .ok (.sipush 255, 3) := by decide +kernel
theorem dX6_codeIn_10 : decode cX6_codeIn 10 = .ok (.iand, 1) := by decide +kernel
theorem dX6_codeIn_11 : decode cX6_codeIn 11 = .ok (.ireturn, 1) := by decide +kernel
set_option maxRecDepth 20000 in
theorem ggX6_write_X6_codeIn : GoodIn wsX6_write wsX6_codeIn := goodIn_r _ [6] (by decide +kernel) (by decide +kernel)
set_option maxRecDepth 20000 in
theorem gX6_write_X6_codeIn : GoodIn wsX6_write (va_wsS RX6 15 yX6_codeIn wsX6_codeIn) := goodIn_app (goodIn_of _ (by decide +kernel)) ggX6_write_X6_codeIn
theorem dX6_write_0 : decode cX6_write 0 = .ok (.iconst 0, 1) := by decide +kernel
theorem dX6_write_1 : decode cX6_write 1 = .ok (.istore 4, 2) := by decide +kernel
theorem dX6_write_3 : decode cX6_write 3 = .ok (.iload 4, 2) := by decide +kernel
theorem dX6_write_5 : decode cX6_write 5 = .ok (.iload_n 3, 1) := by decide +kernel
theorem dX6_write_6 : decode cX6_write 6 = .ok (.if_icmp .ge 43, 3) := by decide +kernel
theorem dX6_write_9 : decode cX6_write 9 = .ok (.aload_n 0, 1) := by decide +kernel
theorem dX6_write_10 : decode cX6_write 10 = .ok (.getfield 19, 3) := by decide +kernel
theorem dX6_write_13 : decode cX6_write 13 = .ok (.bipush 22, 2) := by decide +kernel
theorem dX6_write_15 : decode cX6_write 15 = .ok (.if_icmp .ge 34, 3) := by decide +kernel
theorem dX6_write_18 : decode cX6_write 18 = .ok (.aload_n 0, 1) := by decide +kernel
theorem dX6_write_19 : decode cX6_write 19 = .ok (.getfield 9, 3) := by decide +kernel
theorem dX6_write_22 : decode cX6_write 22 = .ok (.aload_n 0, 1) := by decide +kernel
theorem dX6_write_23 : decode cX6_write 23 = .ok (.getfield 19, 3) := by decide +kernel
theorem dX6_write_26 : decode cX6_write 26 = .ok (.lload_n 1, 1) := by decide +kernel
theorem dX6_write_27 : decode cX6_write 27 = .ok (.iload 4, 2) := by decide +kernel
theorem dX6_write_29 : decode cX6_write 29 = .ok (.invokestatic 15, 3) := by decide +kernel
theorem dX6_write_32 : decode cX6_write 32 = .ok (.iastore, 1) := by decide +kernel
theorem dX6_write_33 : decode cX6_write 33 = .ok (.aload_n 0, 1) := by decide +kernel
theorem dX6_write_34 : decode cX6_write 34 = .ok (.dup, 1) := by decide +kernel
theorem dX6_write_35 : decode cX6_write 35 = .ok (.getfield 19, 3) := by decide +kernel
theorem dX6_write_38 : decode cX6_write 38 = .ok (.iconst 1, 1) := by decide +kernel
theorem dX6_write_39 : decode cX6_write 39 = .ok (.iadd, 1) := by decide +kernel
theorem dX6_write_40 : decode cX6_write 40 = .ok (.putfield 19, 3) := by decide +kernel
theorem dX6_write_43 : decode cX6_write 43 = .ok (.iinc 4 1, 3) := by decide +kernel
theorem dX6_write_46 : decode cX6_write 46 = .ok (.goto (-43), 3) := by decide +kernel
theorem dX6_write_49 : decode cX6_write 49 = .ok (.return_, 1) := by decide +kernel
set_option maxRecDepth 20000 in
theorem ggX6_firstFault_X6_isDigit : GoodIn wsX6_firstFault wsX6_isDigit := goodIn_r _ [6] (by decide +kernel) (by decide +kernel)
set_option maxRecDepth 20000 in
theorem gX6_firstFault_X6_isDigit : GoodIn wsX6_firstFault (va_wsS RX6 23 yX6_isDigit wsX6_isDigit) := goodIn_app (goodIn_of _ (by decide +kernel)) ggX6_firstFault_X6_isDigit
set_option maxRecDepth 20000 in
theorem ggX6_firstFault_X5_ofLetter : GoodIn wsX6_firstFault wsX5_ofLetter := goodIn_r _ [10] (by decide +kernel) (by decide +kernel)
set_option maxRecDepth 20000 in
theorem gX6_firstFault_X5_ofLetter : GoodIn wsX6_firstFault (va_wsS RX6 27 yX5_ofLetter wsX5_ofLetter) := goodIn_app (goodIn_of _ (by decide +kernel)) ggX6_firstFault_X5_ofLetter
theorem dX6_firstFault_0 : decode cX6_firstFault 0 = .ok (.iconst 0, 1) := by decide +kernel
theorem dX6_firstFault_1 : decode cX6_firstFault 1 = .ok (.istore_n 1, 1) := by decide +kernel
theorem dX6_firstFault_2 : decode cX6_firstFault 2 = .ok (.iconst 0, 1) := by decide +kernel
theorem dX6_firstFault_3 : decode cX6_firstFault 3 = .ok (.istore_n 2, 1) := by decide +kernel
theorem dX6_firstFault_4 : decode cX6_firstFault 4 = .ok (.iconst 0, 1) := by decide +kernel
theorem dX6_firstFault_5 : decode cX6_firstFault 5 = .ok (.istore_n 3, 1) := by decide +kernel
theorem dX6_firstFault_6 : decode cX6_firstFault 6 = .ok (.iload_n 3, 1) := by decide +kernel
theorem dX6_firstFault_7 : decode cX6_firstFault 7 = .ok (.aload_n 0, 1) := by decide +kernel
theorem dX6_firstFault_8 : decode cX6_firstFault 8 = .ok (.getfield 19, 3) := by decide +kernel
theorem dX6_firstFault_11 : decode cX6_firstFault 11 = .ok (.if_icmp .ge 61, 3) := by decide +kernel
theorem dX6_firstFault_14 : decode cX6_firstFault 14 = .ok (.iload_n 1, 1) := by decide +kernel
theorem dX6_firstFault_15 : decode cX6_firstFault 15 = .ok (.bipush 10, 2) := by decide +kernel
theorem dX6_firstFault_17 : decode cX6_firstFault 17 = .ok (.if_icmp .ne 5, 3) := by decide +kernel
theorem dX6_firstFault_20 : decode cX6_firstFault 20 = .ok (.iload_n 3, 1) := by decide +kernel
theorem dX6_firstFault_21 : decode cX6_firstFault 21 = .ok (.ireturn, 1) := by decide +kernel
theorem dX6_firstFault_22 : decode cX6_firstFault 22 = .ok (.aload_n 0, 1) := by decide +kernel
theorem dX6_firstFault_23 : decode cX6_firstFault 23 = .ok (.getfield 9, 3) := by decide +kernel
theorem dX6_firstFault_26 : decode cX6_firstFault 26 = .ok (.iload_n 3, 1) := by decide +kernel
theorem dX6_firstFault_27 : decode cX6_firstFault 27 = .ok (.iaload, 1) := by decide +kernel
theorem dX6_firstFault_28 : decode cX6_firstFault 28 = .ok (.invokestatic 23, 3) := by decide +kernel
theorem dX6_firstFault_31 : decode cX6_firstFault 31 = .ok (.ifCond .eq 11, 3) := by decide +kernel
theorem dX6_firstFault_34 : decode cX6_firstFault 34 = .ok (.iinc 1 1, 3) := by decide +kernel
theorem dX6_firstFault_37 : decode cX6_firstFault 37 = .ok (.iconst 0, 1) := by decide +kernel
theorem dX6_firstFault_38 : decode cX6_firstFault 38 = .ok (.istore_n 2, 1) := by decide +kernel
theorem dX6_firstFault_39 : decode cX6_firstFault 39 = .ok (.goto 27, 3) := by decide +kernel
theorem dX6_firstFault_42 : decode cX6_firstFault 42 = .ok (.iload_n 2, 1) := by decide +kernel
theorem dX6_firstFault_43 : decode cX6_firstFault 43 = .ok (.ifCond .ne 21, 3) := by decide +kernel
theorem dX6_firstFault_46 : decode cX6_firstFault 46 = .ok (.aload_n 0, 1) := by decide +kernel
theorem dX6_firstFault_47 : decode cX6_firstFault 47 = .ok (.getfield 9, 3) := by decide +kernel
theorem dX6_firstFault_50 : decode cX6_firstFault 50 = .ok (.iload_n 3, 1) := by decide +kernel
theorem dX6_firstFault_51 : decode cX6_firstFault 51 = .ok (.iaload, 1) := by decide +kernel
theorem dX6_firstFault_52 : decode cX6_firstFault 52 = .ok (.invokestatic 27, 3) := by decide +kernel
theorem dX6_firstFault_55 : decode cX6_firstFault 55 = .ok (.iconst (-1), 1) := by decide +kernel
theorem dX6_firstFault_56 : decode cX6_firstFault 56 = .ok (.if_icmp .eq 8, 3) := by decide +kernel
theorem dX6_firstFault_59 : decode cX6_firstFault 59 = .ok (.iconst 1, 1) := by decide +kernel
theorem dX6_firstFault_60 : decode cX6_firstFault 60 = .ok (.istore_n 2, 1) := by decide +kernel
theorem dX6_firstFault_61 : decode cX6_firstFault 61 = .ok (.goto 5, 3) := by decide +kernel
theorem dX6_firstFault_64 : decode cX6_firstFault 64 = .ok (.iload_n 3, 1) := by decide +kernel
theorem dX6_firstFault_65 : decode cX6_firstFault 65 = .ok (.ireturn, 1) := by decide +kernel
theorem dX6_firstFault_66 : decode cX6_firstFault 66 = .ok (.iinc 3 1, 3) := by decide +kernel
theorem dX6_firstFault_69 : decode cX6_firstFault 69 = .ok (.goto (-63), 3) := by decide +kernel
theorem dX6_firstFault_72 : decode cX6_firstFault 72 = .ok (.aload_n 0, 1) := by decide +kernel
theorem dX6_firstFault_73 : decode cX6_firstFault 73 = .ok (.getfield 19, 3) := by decide +kernel
theorem dX6_firstFault_76 : decode cX6_firstFault 76 = .ok (.ireturn, 1) := by decide +kernel
set_option maxRecDepth 20000 in
theorem ggX6_frondsOfBook_X6_firstFault : GoodIn wsX6_frondsOfBook wsX6_firstFault := goodIn_r _ [7, 1, 2, 8, 9, 6, 10, 11, 12, 13, 14, 15, 16] (by decide +kernel) (by decide +kernel)
set_option maxRecDepth 20000 in
theorem gX6_frondsOfBook_X6_firstFault : GoodIn wsX6_frondsOfBook (wsV RX6 33 RX6 yX6_firstFault wsX6_firstFault) := goodIn_app (goodIn_of _ (by decide +kernel)) ggX6_frondsOfBook_X6_firstFault
set_option maxRecDepth 20000 in
theorem ggX6_frondsOfBook_X6_isDigit : GoodIn wsX6_frondsOfBook wsX6_isDigit := goodIn_r _ [10] (by decide +kernel) (by decide +kernel)
set_option maxRecDepth 20000 in
theorem gX6_frondsOfBook_X6_isDigit : GoodIn wsX6_frondsOfBook (va_wsS RX6 23 yX6_isDigit wsX6_isDigit) := goodIn_app (goodIn_of _ (by decide +kernel)) ggX6_frondsOfBook_X6_isDigit
theorem dX6_frondsOfBook_0 : decode cX6_frondsOfBook 0 = .ok (.aload_n 0, 1) := by decide +kernel
theorem dX6_frondsOfBook_1 : decode cX6_frondsOfBook 1 = .ok (.getfield 19, 3) := by decide +kernel
theorem dX6_frondsOfBook_4 : decode cX6_frondsOfBook 4 = .ok (.ifCond .eq 31, 3) := by decide +kernel
theorem dX6_frondsOfBook_7 : decode cX6_frondsOfBook 7 = .ok (.aload_n 0, 1) := by decide +kernel
theorem dX6_frondsOfBook_8 : decode cX6_frondsOfBook 8 = .ok (.invokevirtual 33, 3) := by decide +kernel
theorem dX6_frondsOfBook_11 : decode cX6_frondsOfBook 11 = .ok (.aload_n 0, 1) := by decide +kernel
theorem dX6_frondsOfBook_12 : decode cX6_frondsOfBook 12 = .ok (.getfield 19, 3) := by decide +kernel
theorem dX6_frondsOfBook_15 : decode cX6_frondsOfBook 15 = .ok (.if_icmp .lt 20, 3) := by decide +kernel
theorem dX6_frondsOfBook_18 : decode cX6_frondsOfBook 18 = .ok (.aload_n 0, 1) := by decide +kernel
theorem dX6_frondsOfBook_19 : decode cX6_frondsOfBook 19 = .ok (.getfield 9, 3) := by decide +kernel
theorem dX6_frondsOfBook_22 : decode cX6_frondsOfBook 22 = .ok (.aload_n 0, 1) := by decide +kernel
theorem dX6_frondsOfBook_23 : decode cX6_frondsOfBook 23 = .ok (.getfield 19, 3) := by decide +kernel
theorem dX6_frondsOfBook_26 : decode cX6_frondsOfBook 26 = .ok (.iconst 1, 1) := by decide +kernel
theorem dX6_frondsOfBook_27 : decode cX6_frondsOfBook 27 = .ok (.isub, 1) := by decide +kernel
theorem dX6_frondsOfBook_28 : decode cX6_frondsOfBook 28 = .ok (.iaload, 1) := by decide +kernel
theorem dX6_frondsOfBook_29 : decode cX6_frondsOfBook 29 = .ok (.invokestatic 23, 3) := by decide +kernel
theorem dX6_frondsOfBook_32 : decode cX6_frondsOfBook 32 = .ok (.ifCond .ne 5, 3) := by decide +kernel
theorem dX6_frondsOfBook_35 : decode cX6_frondsOfBook 35 = .ok (.iconst (-1), 1) := by decide +kernel
theorem dX6_frondsOfBook_36 : decode cX6_frondsOfBook 36 = .ok (.ireturn, 1) := by decide +kernel
theorem dX6_frondsOfBook_37 : decode cX6_frondsOfBook 37 = .ok (.iconst 0, 1) := by decide +kernel
theorem dX6_frondsOfBook_38 : decode cX6_frondsOfBook 38 = .ok (.istore_n 1, 1) := by decide +kernel
theorem dX6_frondsOfBook_39 : decode cX6_frondsOfBook 39 = .ok (.iconst 0, 1) := by decide +kernel
theorem dX6_frondsOfBook_40 : decode cX6_frondsOfBook 40 = .ok (.istore_n 2, 1) := by decide +kernel
theorem dX6_frondsOfBook_41 : decode cX6_frondsOfBook 41 = .ok (.iload_n 2, 1) := by decide +kernel
theorem dX6_frondsOfBook_42 : decode cX6_frondsOfBook 42 = .ok (.aload_n 0, 1) := by decide +kernel
theorem dX6_frondsOfBook_43 : decode cX6_frondsOfBook 43 = .ok (.getfield 19, 3) := by decide +kernel
theorem dX6_frondsOfBook_46 : decode cX6_frondsOfBook 46 = .ok (.if_icmp .ge 24, 3) := by decide +kernel
theorem dX6_frondsOfBook_49 : decode cX6_frondsOfBook 49 = .ok (.aload_n 0, 1) := by decide +kernel
theorem dX6_frondsOfBook_50 : decode cX6_frondsOfBook 50 = .ok (.getfield 9, 3) := by decide +kernel
theorem dX6_frondsOfBook_53 : decode cX6_frondsOfBook 53 = .ok (.iload_n 2, 1) := by decide +kernel
theorem dX6_frondsOfBook_54 : decode cX6_frondsOfBook 54 = .ok (.iaload, 1) := by decide +kernel
theorem dX6_frondsOfBook_55 : decode cX6_frondsOfBook 55 = .ok (.invokestatic 23, 3) := by decide +kernel
theorem dX6_frondsOfBook_58 : decode cX6_frondsOfBook 58 = .ok (.ifCond .eq 6, 3) := by decide +kernel
theorem dX6_frondsOfBook_61 : decode cX6_frondsOfBook 61 = .ok (.iinc 1 1, 3) := by decide +kernel
theorem dX6_frondsOfBook_64 : decode cX6_frondsOfBook 64 = .ok (.iinc 2 1, 3) := by decide +kernel
theorem dX6_frondsOfBook_67 : decode cX6_frondsOfBook 67 = .ok (.goto (-26), 3) := by decide +kernel
theorem dX6_frondsOfBook_70 : decode cX6_frondsOfBook 70 = .ok (.iload_n 1, 1) := by decide +kernel
theorem dX6_frondsOfBook_71 : decode cX6_frondsOfBook 71 = .ok (.ireturn, 1) := by decide +kernel
set_option maxRecDepth 20000 in
theorem ggX6_readInto_X6_isDigit : GoodIn wsX6_readInto wsX6_isDigit := goodIn_r _ [6] (by decide +kernel) (by decide +kernel)
set_option maxRecDepth 20000 in
theorem gX6_readInto_X6_isDigit : GoodIn wsX6_readInto (va_wsS RX6 23 yX6_isDigit wsX6_isDigit) := goodIn_app (goodIn_of _ (by decide +kernel)) ggX6_readInto_X6_isDigit
set_option maxRecDepth 20000 in
theorem ggX6_readInto_X4_add : GoodIn wsX6_readInto wsX4_add := goodIn_r _ [11, 12, 13, 14, 15, 16, 23, 24, 25, 26, 27, 28, 29, 30] (by decide +kernel) (by decide +kernel)
set_option maxRecDepth 20000 in
theorem gX6_readInto_X4_add : GoodIn wsX6_readInto (wsV RX6 37 RX4 yX4_add wsX4_add) := goodIn_app (goodIn_of _ (by decide +kernel)) ggX6_readInto_X4_add
set_option maxRecDepth 20000 in
theorem ggX6_readInto_X5_ofLetter : GoodIn wsX6_readInto wsX5_ofLetter := goodIn_r _ [20] (by decide +kernel) (by decide +kernel)
set_option maxRecDepth 20000 in
theorem gX6_readInto_X5_ofLetter : GoodIn wsX6_readInto (va_wsS RX6 27 yX5_ofLetter wsX5_ofLetter) := goodIn_app (goodIn_of _ (by decide +kernel)) ggX6_readInto_X5_ofLetter
theorem dX6_readInto_0 : decode cX6_readInto 0 = .ok (.iconst 0, 1) := by decide +kernel
theorem dX6_readInto_1 : decode cX6_readInto 1 = .ok (.istore_n 3, 1) := by decide +kernel
theorem dX6_readInto_2 : decode cX6_readInto 2 = .ok (.iconst 0, 1) := by decide +kernel
theorem dX6_readInto_3 : decode cX6_readInto 3 = .ok (.istore 4, 2) := by decide +kernel
theorem dX6_readInto_5 : decode cX6_readInto 5 = .ok (.iload 4, 2) := by decide +kernel
theorem dX6_readInto_7 : decode cX6_readInto 7 = .ok (.aload_n 0, 1) := by decide +kernel
theorem dX6_readInto_8 : decode cX6_readInto 8 = .ok (.getfield 19, 3) := by decide +kernel
theorem dX6_readInto_11 : decode cX6_readInto 11 = .ok (.if_icmp .ge 55, 3) := by decide +kernel
theorem dX6_readInto_14 : decode cX6_readInto 14 = .ok (.aload_n 0, 1) := by decide +kernel
theorem dX6_readInto_15 : decode cX6_readInto 15 = .ok (.getfield 9, 3) := by decide +kernel
theorem dX6_readInto_18 : decode cX6_readInto 18 = .ok (.iload 4, 2) := by decide +kernel
theorem dX6_readInto_20 : decode cX6_readInto 20 = .ok (.iaload, 1) := by decide +kernel
theorem dX6_readInto_21 : decode cX6_readInto 21 = .ok (.invokestatic 23, 3) := by decide +kernel
theorem dX6_readInto_24 : decode cX6_readInto 24 = .ok (.ifCond .eq 25, 3) := by decide +kernel
theorem dX6_readInto_27 : decode cX6_readInto 27 = .ok (.aload_n 1, 1) := by decide +kernel
theorem dX6_readInto_28 : decode cX6_readInto 28 = .ok (.iload_n 3, 1) := by decide +kernel
theorem dX6_readInto_29 : decode cX6_readInto 29 = .ok (.aload_n 0, 1) := by decide +kernel
theorem dX6_readInto_30 : decode cX6_readInto 30 = .ok (.getfield 9, 3) := by decide +kernel
theorem dX6_readInto_33 : decode cX6_readInto 33 = .ok (.iload 4, 2) := by decide +kernel
theorem dX6_readInto_35 : decode cX6_readInto 35 = .ok (.iaload, 1) := by decide +kernel
theorem dX6_readInto_36 : decode cX6_readInto 36 = .ok (.bipush 48, 2) := by decide +kernel
theorem dX6_readInto_38 : decode cX6_readInto 38 = .ok (.isub, 1) := by decide +kernel
theorem dX6_readInto_39 : decode cX6_readInto 39 = .ok (.iload_n 2, 1) := by decide +kernel
theorem dX6_readInto_40 : decode cX6_readInto 40 = .ok (.invokevirtual 37, 3) := by decide +kernel
theorem dX6_readInto_43 : decode cX6_readInto 43 = .ok (.pop, 1) := by decide +kernel
theorem dX6_readInto_44 : decode cX6_readInto 44 = .ok (.iconst 0, 1) := by decide +kernel
theorem dX6_readInto_45 : decode cX6_readInto 45 = .ok (.istore_n 3, 1) := by decide +kernel
theorem dX6_readInto_46 : decode cX6_readInto 46 = .ok (.goto 14, 3) := by decide +kernel
theorem dX6_readInto_49 : decode cX6_readInto 49 = .ok (.aload_n 0, 1) := by decide +kernel
theorem dX6_readInto_50 : decode cX6_readInto 50 = .ok (.getfield 9, 3) := by decide +kernel
theorem dX6_readInto_53 : decode cX6_readInto 53 = .ok (.iload 4, 2) := by decide +kernel
theorem dX6_readInto_55 : decode cX6_readInto 55 = .ok (.iaload, 1) := by decide +kernel
theorem dX6_readInto_56 : decode cX6_readInto 56 = .ok (.invokestatic 27, 3) := by decide +kernel
theorem dX6_readInto_59 : decode cX6_readInto 59 = .ok (.istore_n 3, 1) := by decide +kernel
theorem dX6_readInto_60 : decode cX6_readInto 60 = .ok (.iinc 4 1, 3) := by decide +kernel
theorem dX6_readInto_63 : decode cX6_readInto 63 = .ok (.goto (-58), 3) := by decide +kernel
theorem dX6_readInto_66 : decode cX6_readInto 66 = .ok (.return_, 1) := by decide +kernel
theorem dX6_isDigit_0 : decode cX6_isDigit 0 = .ok (.iload_n 0, 1) := by decide +kernel
theorem dX6_isDigit_1 : decode cX6_isDigit 1 = .ok (.bipush 48, 2) := by decide +kernel
theorem dX6_isDigit_3 : decode cX6_isDigit 3 = .ok (.if_icmp .lt 13, 3) := by decide +kernel
theorem dX6_isDigit_6 : decode cX6_isDigit 6 = .ok (.iload_n 0, 1) := by decide +kernel
theorem dX6_isDigit_7 : decode cX6_isDigit 7 = .ok (.bipush 57, 2) := by decide +kernel
theorem dX6_isDigit_9 : decode cX6_isDigit 9 = .ok (.if_icmp .gt 7, 3) := by decide +kernel
theorem dX6_isDigit_12 : decode cX6_isDigit 12 = .ok (.iconst 1, 1) := by decide +kernel
theorem dX6_isDigit_13 : decode cX6_isDigit 13 = .ok (.goto 4, 3) := by decide +kernel
theorem dX6_isDigit_16 : decode cX6_isDigit 16 = .ok (.iconst 0, 1) := by decide +kernel
theorem dX6_isDigit_17 : decode cX6_isDigit 17 = .ok (.ireturn, 1) := by decide +kernel
