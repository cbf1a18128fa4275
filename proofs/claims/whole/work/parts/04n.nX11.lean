theorem dX11_init_0 : decode cX11_init 0 = .ok (.aload_n 0, 1) := by decide +kernel
theorem dX11_init_1 : decode cX11_init 1 = .ok (.invokespecial 1, 3) := by decide +kernel
theorem dX11_init_4 : decode cX11_init 4 = .ok (.aload_n 0, 1) := by decide +kernel
theorem dX11_init_5 : decode cX11_init 5 = .ok (.bipush 22, 2) := by decide +kernel
theorem dX11_init_7 : decode cX11_init 7 = .ok (.newarray .int, 2) := by decide +kernel
theorem dX11_init_9 : decode cX11_init 9 = .ok (.putfield 7, 3) := by decide +kernel
theorem dX11_init_12 : decode cX11_init 12 = .ok (.aload_n 0, 1) := by decide +kernel
theorem dX11_init_13 : decode cX11_init 13 = .ok (.bipush 10, 2) := by decide +kernel
theorem dX11_init_15 : decode cX11_init 15 = .ok (.newarray .int, 2) := by decide +kernel
theorem dX11_init_17 : decode cX11_init 17 = .ok (.putfield 13, 3) := by decide +kernel
theorem dX11_init_20 : decode cX11_init 20 = .ok (.aload_n 0, 1) := by decide +kernel
theorem dX11_init_21 : decode cX11_init 21 = .ok (.bipush 10, 2) := by decide +kernel
theorem dX11_init_23 : decode cX11_init 23 = .ok (.newarray .int, 2) := by decide +kernel
theorem dX11_init_25 : decode cX11_init 25 = .ok (.putfield 16, 3) := by decide +kernel
theorem dX11_init_28 : decode cX11_init 28 = .ok (.aload_n 0, 1) := by decide +kernel
theorem dX11_init_29 : decode cX11_init 29 = .ok (.bipush 80, 2) := by decide +kernel
theorem dX11_init_31 : decode cX11_init 31 = .ok (.newarray .int, 2) := by decide +kernel
theorem dX11_init_33 : decode cX11_init 33 = .ok (.putfield 19, 3) := by decide +kernel
theorem dX11_init_36 : decode cX11_init 36 = .ok (.aload_n 0, 1) := by decide +kernel
theorem dX11_init_37 : decode cX11_init 37 = .ok (.bipush 36, 2) := by decide +kernel
theorem dX11_init_39 : decode cX11_init 39 = .ok (.newarray .int, 2) := by decide +kernel
theorem dX11_init_41 : decode cX11_init 41 = .ok (.putfield 22, 3) := by decide +kernel
theorem dX11_init_44 : decode cX11_init 44 = .ok (.aload_n 0, 1) := by decide +kernel
theorem dX11_init_45 : decode cX11_init 45 = .ok (.bipush 6, 2) := by decide +kernel
theorem dX11_init_47 : decode cX11_init 47 = .ok (.newarray .int, 2) := by decide +kernel
theorem dX11_init_49 : decode cX11_init 49 = .ok (.putfield 25, 3) := by decide +kernel
theorem dX11_init_52 : decode cX11_init 52 = .ok (.aload_n 0, 1) := by decide +kernel
theorem dX11_init_53 : decode cX11_init 53 = .ok (.bipush 6, 2) := by decide +kernel
theorem dX11_init_55 : decode cX11_init 55 = .ok (.newarray .int, 2) := by decide +kernel
theorem dX11_init_57 : decode cX11_init 57 = .ok (.putfield 28, 3) := by decide +kernel
theorem dX11_init_60 : decode cX11_init 60 = .ok (.aload_n 0, 1) := by decide +kernel
theorem dX11_init_61 : decode cX11_init 61 = .ok (.bipush 64, 2) := by decide +kernel
theorem dX11_init_63 : decode cX11_init 63 = .ok (.newarray .int, 2) := by decide +kernel
theorem dX11_init_65 : decode cX11_init 65 = .ok (.putfield 31, 3) := by decide +kernel
theorem dX11_init_68 : decode cX11_init 68 = .ok (.aload_n 0, 1) := by decide +kernel
theorem dX11_init_69 : decode cX11_init 69 = .ok (.bipush 10, 2) := by decide +kernel
theorem dX11_init_71 : decode cX11_init 71 = .ok (.newarray .long, 2) := by decide +kernel
theorem dX11_init_73 : decode cX11_init 73 = .ok (.putfield 34, 3) := by decide +kernel
theorem dX11_init_76 : decode cX11_init 76 = .ok (.aload_n 0, 1) := by decide +kernel
theorem dX11_init_77 : decode cX11_init 77 = .ok (.bipush 10, 2) := by decide +kernel
theorem dX11_init_79 : decode cX11_init 79 = .ok (.newarray .long, 2) := by decide +kernel
theorem dX11_init_81 : decode cX11_init 81 = .ok (.putfield 38, 3) := by decide +kernel
theorem dX11_init_84 : decode cX11_init 84 = .ok (.aload_n 0, 1) := by decide +kernel
theorem dX11_init_85 : decode cX11_init 85 = .ok (.bipush 80, 2) := by decide +kernel
theorem dX11_init_87 : decode cX11_init 87 = .ok (.newarray .int, 2) := by decide +kernel
theorem dX11_init_89 : decode cX11_init 89 = .ok (.putfield 41, 3) := by decide +kernel
theorem dX11_init_92 : decode cX11_init 92 = .ok (.aload_n 0, 1) := by decide +kernel
theorem dX11_init_93 : decode cX11_init 93 = .ok (.bipush 80, 2) := by decide +kernel
theorem dX11_init_95 : decode cX11_init 95 = .ok (.newarray .int, 2) := by decide +kernel
theorem dX11_init_97 : decode cX11_init 97 = .ok (.putfield 44, 3) := by decide +kernel
theorem dX11_init_100 : decode cX11_init 100 = .ok (.aload_n 0, 1) := by decide +kernel
theorem dX11_init_101 : decode cX11_init 101 = .ok (.bipush 36, 2) := by decide +kernel
theorem dX11_init_103 : decode cX11_init 103 = .ok (.newarray .int, 2) := by decide +kernel
theorem dX11_init_105 : decode cX11_init 105 = .ok (.putfield 47, 3) := by decide +kernel
theorem dX11_init_108 : decode cX11_init 108 = .ok (.aload_n 0, 1) := by decide +kernel
theorem dX11_init_109 : decode cX11_init 109 = .ok (.iconst (-1), 1) := by decide +kernel
theorem dX11_init_110 : decode cX11_init 110 = .ok (.putfield 50, 3) := by decide +kernel
theorem dX11_init_113 : decode cX11_init 113 = .ok (.return_, 1) := by decide +kernel
theorem dX11_in_0 : decode cX11_in 0 = .ok (.lload_n 0, 1) := by decide +kernel
theorem dX11_in_1 : decode cX11_in 1 = .ok (.lload_n 2, 1) := by decide +kernel
theorem dX11_in_2 : decode cX11_in 2 = .ok (.lcmp, 1) := by decide +kernel
theorem dX11_in_3 : decode cX11_in 3 = .ok (.ifCond .lt 14, 3) := by decide +kernel
theorem dX11_in_6 : decode cX11_in 6 = .ok (.lload_n 0, 1) := by decide +kernel
theorem dX11_in_7 : decode cX11_in 7 = .ok (.lload 4, 2) := by decide +kernel
theorem dX11_in_9 : decode cX11_in 9 = .ok (.lcmp, 1) := by decide +kernel
theorem dX11_in_10 : decode cX11_in 10 = .ok (.ifCond .gt 7, 3) := by decide +kernel
theorem dX11_in_13 : decode cX11_in 13 = .ok (.iconst 1, 1) := by decide +kernel
theorem dX11_in_14 : decode cX11_in 14 = .ok (.goto 4, 3) := by decide +kernel
theorem dX11_in_17 : decode cX11_in 17 = .ok (.iconst 0, 1) := by decide +kernel
theorem dX11_in_18 : decode cX11_in 18 = .ok (.ireturn, 1) := by decide +kernel
theorem dX11_letters_0 : decode cX11_letters 0 = .ok (.iconst 0, 1) := by decide +kernel
theorem dX11_letters_1 : decode cX11_letters 1 = .ok (.istore_n 3, 1) := by decide +kernel
theorem dX11_letters_2 : decode cX11_letters 2 = .ok (.iconst 1, 1) := by decide +kernel
theorem dX11_letters_3 : decode cX11_letters 3 = .ok (.istore 4, 2) := by decide +kernel
theorem dX11_letters_5 : decode cX11_letters 5 = .ok (.lload_n 1, 1) := by decide +kernel
theorem dX11_letters_6 : decode cX11_letters 6 = .ok (.lstore 5, 2) := by decide +kernel
theorem dX11_letters_8 : decode cX11_letters 8 = .ok (.iconst 0, 1) := by decide +kernel
theorem dX11_letters_9 : decode cX11_letters 9 = .ok (.istore 7, 2) := by decide +kernel
theorem dX11_letters_11 : decode cX11_letters 11 = .ok (.iload 7, 2) := by decide +kernel
theorem dX11_letters_13 : decode cX11_letters 13 = .ok (.bipush 8, 2) := by decide +kernel
theorem dX11_letters_15 : decode cX11_letters 15 = .ok (.if_icmp .ge 68, 3) := by decide +kernel
theorem dX11_letters_18 : decode cX11_letters 18 = .ok (.lload 5, 2) := by decide +kernel
theorem dX11_letters_20 : decode cX11_letters 20 = .ok (.ldc2_w 54, 3) := by decide +kernel
theorem dX11_letters_23 : decode cX11_letters 23 = .ok (.land, 1) := by decide +kernel
theorem dX11_letters_24 : decode cX11_letters 24 = .ok (.l2i, 1) := by decide +kernel
theorem dX11_letters_25 : decode cX11_letters 25 = .ok (.istore 8, 2) := by decide +kernel
theorem dX11_letters_27 : decode cX11_letters 27 = .ok (.lload 5, 2) := by decide +kernel
theorem dX11_letters_29 : decode cX11_letters 29 = .ok (.bipush 8, 2) := by decide +kernel
theorem dX11_letters_31 : decode cX11_letters 31 = .ok (.lushr, 1) := by decide +kernel
theorem dX11_letters_32 : decode cX11_letters 32 = .ok (.lstore 5, 2) := by decide +kernel
theorem dX11_letters_34 : decode cX11_letters 34 = .ok (.iload 4, 2) := by decide +kernel
theorem dX11_letters_36 : decode cX11_letters 36 = .ok (.ifCond .eq 25, 3) := by decide +kernel
theorem dX11_letters_39 : decode cX11_letters 39 = .ok (.iload 8, 2) := by decide +kernel
theorem dX11_letters_41 : decode cX11_letters 41 = .ok (.bipush 126, 2) := by decide +kernel
theorem dX11_letters_43 : decode cX11_letters 43 = .ok (.if_icmp .gt 18, 3) := by decide +kernel
theorem dX11_letters_46 : decode cX11_letters 46 = .ok (.iload 8, 2) := by decide +kernel
theorem dX11_letters_48 : decode cX11_letters 48 = .ok (.ifCond .eq 9, 3) := by decide +kernel
theorem dX11_letters_51 : decode cX11_letters 51 = .ok (.iload_n 3, 1) := by decide +kernel
theorem dX11_letters_52 : decode cX11_letters 52 = .ok (.iload 7, 2) := by decide +kernel
theorem dX11_letters_54 : decode cX11_letters 54 = .ok (.if_icmp .ne 7, 3) := by decide +kernel
theorem dX11_letters_57 : decode cX11_letters 57 = .ok (.iconst 1, 1) := by decide +kernel
theorem dX11_letters_58 : decode cX11_letters 58 = .ok (.goto 4, 3) := by decide +kernel
theorem dX11_letters_61 : decode cX11_letters 61 = .ok (.iconst 0, 1) := by decide +kernel
theorem dX11_letters_62 : decode cX11_letters 62 = .ok (.istore 4, 2) := by decide +kernel
theorem dX11_letters_64 : decode cX11_letters 64 = .ok (.iload_n 3, 1) := by decide +kernel
theorem dX11_letters_65 : decode cX11_letters 65 = .ok (.iload 8, 2) := by decide +kernel
theorem dX11_letters_67 : decode cX11_letters 67 = .ok (.ifCond .le 7, 3) := by decide +kernel
theorem dX11_letters_70 : decode cX11_letters 70 = .ok (.iconst 1, 1) := by decide +kernel
theorem dX11_letters_71 : decode cX11_letters 71 = .ok (.goto 4, 3) := by decide +kernel
theorem dX11_letters_74 : decode cX11_letters 74 = .ok (.iconst 0, 1) := by decide +kernel
theorem dX11_letters_75 : decode cX11_letters 75 = .ok (.iadd, 1) := by decide +kernel
theorem dX11_letters_76 : decode cX11_letters 76 = .ok (.istore_n 3, 1) := by decide +kernel
theorem dX11_letters_77 : decode cX11_letters 77 = .ok (.iinc 7 1, 3) := by decide +kernel
theorem dX11_letters_80 : decode cX11_letters 80 = .ok (.goto (-69), 3) := by decide +kernel
theorem dX11_letters_83 : decode cX11_letters 83 = .ok (.iload 4, 2) := by decide +kernel
theorem dX11_letters_85 : decode cX11_letters 85 = .ok (.ifCond .ne 6, 3) := by decide +kernel
theorem dX11_letters_88 : decode cX11_letters 88 = .ok (.bipush (-102), 2) := by decide +kernel
theorem dX11_letters_90 : decode cX11_letters 90 = .ok (.ireturn, 1) := by decide +kernel
theorem dX11_letters_91 : decode cX11_letters 91 = .ok (.aload_n 0, 1) := by decide +kernel
theorem dX11_letters_92 : decode cX11_letters 92 = .ok (.getfield 56, 3) := by decide +kernel
theorem dX11_letters_95 : decode cX11_letters 95 = .ok (.iload_n 3, 1) := by decide +kernel
theorem dX11_letters_96 : decode cX11_letters 96 = .ok (.iadd, 1) := by decide +kernel
theorem dX11_letters_97 : decode cX11_letters 97 = .ok (.bipush 22, 2) := by decide +kernel
theorem dX11_letters_99 : decode cX11_letters 99 = .ok (.if_icmp .le 6, 3) := by decide +kernel
theorem dX11_letters_102 : decode cX11_letters 102 = .ok (.bipush (-104), 2) := by decide +kernel
theorem dX11_letters_104 : decode cX11_letters 104 = .ok (.ireturn, 1) := by decide +kernel
theorem dX11_letters_105 : decode cX11_letters 105 = .ok (.iconst 0, 1) := by decide +kernel
theorem dX11_letters_106 : decode cX11_letters 106 = .ok (.istore 7, 2) := by decide +kernel
theorem dX11_letters_108 : decode cX11_letters 108 = .ok (.iload 7, 2) := by decide +kernel
theorem dX11_letters_110 : decode cX11_letters 110 = .ok (.iload_n 3, 1) := by decide +kernel
theorem dX11_letters_111 : decode cX11_letters 111 = .ok (.if_icmp .ge 40, 3) := by decide +kernel
theorem dX11_letters_114 : decode cX11_letters 114 = .ok (.aload_n 0, 1) := by decide +kernel
theorem dX11_letters_115 : decode cX11_letters 115 = .ok (.getfield 7, 3) := by decide +kernel
theorem dX11_letters_118 : decode cX11_letters 118 = .ok (.aload_n 0, 1) := by decide +kernel
theorem dX11_letters_119 : decode cX11_letters 119 = .ok (.getfield 56, 3) := by decide +kernel
theorem dX11_letters_122 : decode cX11_letters 122 = .ok (.lload_n 1, 1) := by decide +kernel
theorem dX11_letters_123 : decode cX11_letters 123 = .ok (.bipush 8, 2) := by decide +kernel
theorem dX11_letters_125 : decode cX11_letters 125 = .ok (.iload 7, 2) := by decide +kernel
theorem dX11_letters_127 : decode cX11_letters 127 = .ok (.imul, 1) := by decide +kernel
theorem dX11_letters_128 : decode cX11_letters 128 = .ok (.lushr, 1) := by decide +kernel
theorem dX11_letters_129 : decode cX11_letters 129 = .ok (.ldc2_w 54, 3) := by decide +kernel
theorem dX11_letters_132 : decode cX11_letters 132 = .ok (.land, 1) := by decide +kernel
theorem dX11_letters_133 : decode cX11_letters 133 = .ok (.l2i, 1) := by decide +kernel
theorem dX11_letters_134 : decode cX11_letters 134 = .ok (.iastore, 1) := by decide +kernel
theorem dX11_letters_135 : decode cX11_letters 135 = .ok (.aload_n 0, 1) := by decide +kernel
theorem dX11_letters_136 : decode cX11_letters 136 = .ok (.dup, 1) := by decide +kernel
theorem dX11_letters_137 : decode cX11_letters 137 = .ok (.getfield 56, 3) := by decide +kernel
theorem dX11_letters_140 : decode cX11_letters 140 = .ok (.iconst 1, 1) := by decide +kernel
theorem dX11_letters_141 : decode cX11_letters 141 = .ok (.iadd, 1) := by decide +kernel
theorem dX11_letters_142 : decode cX11_letters 142 = .ok (.putfield 56, 3) := by decide +kernel
theorem dX11_letters_145 : decode cX11_letters 145 = .ok (.iinc 7 1, 3) := by decide +kernel
theorem dX11_letters_148 : decode cX11_letters 148 = .ok (.goto (-40), 3) := by decide +kernel
theorem dX11_letters_151 : decode cX11_letters 151 = .ok (.aload_n 0, 1) := by decide +kernel
theorem dX11_letters_152 : decode cX11_letters 152 = .ok (.getfield 56, 3) := by decide +kernel
theorem dX11_letters_155 : decode cX11_letters 155 = .ok (.ireturn, 1) := by decide +kernel
theorem dX11_blank_0 : decode cX11_blank 0 = .ok (.aload_n 0, 1) := by decide +kernel
theorem dX11_blank_1 : decode cX11_blank 1 = .ok (.getfield 56, 3) := by decide +kernel
theorem dX11_blank_4 : decode cX11_blank 4 = .ok (.istore_n 1, 1) := by decide +kernel
theorem dX11_blank_5 : decode cX11_blank 5 = .ok (.aload_n 0, 1) := by decide +kernel
theorem dX11_blank_6 : decode cX11_blank 6 = .ok (.iconst 0, 1) := by decide +kernel
theorem dX11_blank_7 : decode cX11_blank 7 = .ok (.putfield 56, 3) := by decide +kernel
theorem dX11_blank_10 : decode cX11_blank 10 = .ok (.iload_n 1, 1) := by decide +kernel
theorem dX11_blank_11 : decode cX11_blank 11 = .ok (.ireturn, 1) := by decide +kernel
theorem dX11_kindOf_0 : decode cX11_kindOf 0 = .ok (.iload_n 0, 1) := by decide +kernel
theorem dX11_kindOf_1 : decode cX11_kindOf 1 = .ok (.bipush 98, 2) := by decide +kernel
theorem dX11_kindOf_3 : decode cX11_kindOf 3 = .ok (.if_icmp .ne 7, 3) := by decide +kernel
theorem dX11_kindOf_6 : decode cX11_kindOf 6 = .ok (.iconst 1, 1) := by decide +kernel
theorem dX11_kindOf_7 : decode cX11_kindOf 7 = .ok (.goto 34, 3) := by decide +kernel
theorem dX11_kindOf_10 : decode cX11_kindOf 10 = .ok (.iload_n 0, 1) := by decide +kernel
theorem dX11_kindOf_11 : decode cX11_kindOf 11 = .ok (.bipush 109, 2) := by decide +kernel
theorem dX11_kindOf_13 : decode cX11_kindOf 13 = .ok (.if_icmp .ne 7, 3) := by decide +kernel
theorem dX11_kindOf_16 : decode cX11_kindOf 16 = .ok (.iconst 2, 1) := by decide +kernel
theorem dX11_kindOf_17 : decode cX11_kindOf 17 = .ok (.goto 24, 3) := by decide +kernel
theorem dX11_kindOf_20 : decode cX11_kindOf 20 = .ok (.iload_n 0, 1) := by decide +kernel
theorem dX11_kindOf_21 : decode cX11_kindOf 21 = .ok (.bipush 112, 2) := by decide +kernel
theorem dX11_kindOf_23 : decode cX11_kindOf 23 = .ok (.if_icmp .ne 7, 3) := by decide +kernel
theorem dX11_kindOf_26 : decode cX11_kindOf 26 = .ok (.iconst 3, 1) := by decide +kernel
theorem dX11_kindOf_27 : decode cX11_kindOf 27 = .ok (.goto 14, 3) := by decide +kernel
theorem dX11_kindOf_30 : decode cX11_kindOf 30 = .ok (.iload_n 0, 1) := by decide +kernel
theorem dX11_kindOf_31 : decode cX11_kindOf 31 = .ok (.bipush 119, 2) := by decide +kernel
theorem dX11_kindOf_33 : decode cX11_kindOf 33 = .ok (.if_icmp .ne 7, 3) := by decide +kernel
theorem dX11_kindOf_36 : decode cX11_kindOf 36 = .ok (.iconst 4, 1) := by decide +kernel
theorem dX11_kindOf_37 : decode cX11_kindOf 37 = .ok (.goto 4, 3) := by decide +kernel
theorem dX11_kindOf_40 : decode cX11_kindOf 40 = .ok (.iconst (-1), 1) := by decide +kernel
theorem dX11_kindOf_41 : decode cX11_kindOf 41 = .ok (.ireturn, 1) := by decide +kernel
set_option maxRecDepth 20000 in
theorem ggX11_go_X11_kindOf : GoodIn wsX11_go wsX11_kindOf := goodIn_r _ [10] (by decide +kernel) (by decide +kernel)
set_option maxRecDepth 20000 in
theorem gX11_go_X11_kindOf : GoodIn wsX11_go (va_wsS RX11 66 yX11_kindOf wsX11_kindOf) := goodIn_app (goodIn_of _ (by decide +kernel)) ggX11_go_X11_kindOf
set_option maxRecDepth 20000 in
theorem ggX11_go_X11_in : GoodIn wsX11_go wsX11_in := goodIn_r _ [13] (by decide +kernel) (by decide +kernel)
set_option maxRecDepth 20000 in
theorem gX11_go_X11_in : GoodIn wsX11_go (va_wsS RX11 74 yX11_in wsX11_in) := goodIn_app (goodIn_of _ (by decide +kernel)) ggX11_go_X11_in
theorem dX11_go_0 : decode cX11_go 0 = .ok (.aload_n 0, 1) := by decide +kernel
theorem dX11_go_1 : decode cX11_go 1 = .ok (.getfield 59, 3) := by decide +kernel
theorem dX11_go_4 : decode cX11_go 4 = .ok (.bipush 10, 2) := by decide +kernel
theorem dX11_go_6 : decode cX11_go 6 = .ok (.if_icmp .ne 5, 3) := by decide +kernel
theorem dX11_go_9 : decode cX11_go 9 = .ok (.iconst 0, 1) := by decide +kernel
theorem dX11_go_10 : decode cX11_go 10 = .ok (.ireturn, 1) := by decide +kernel
theorem dX11_go_11 : decode cX11_go 11 = .ok (.aload_n 0, 1) := by decide +kernel
theorem dX11_go_12 : decode cX11_go 12 = .ok (.getfield 62, 3) := by decide +kernel
theorem dX11_go_15 : decode cX11_go 15 = .ok (.ifCond .ne 31, 3) := by decide +kernel
theorem dX11_go_18 : decode cX11_go 18 = .ok (.iload_n 1, 1) := by decide +kernel
theorem dX11_go_19 : decode cX11_go 19 = .ok (.invokestatic 66, 3) := by decide +kernel
theorem dX11_go_22 : decode cX11_go 22 = .ok (.iconst (-1), 1) := by decide +kernel
theorem dX11_go_23 : decode cX11_go 23 = .ok (.if_icmp .eq 23, 3) := by decide +kernel
theorem dX11_go_26 : decode cX11_go 26 = .ok (.aload_n 0, 1) := by decide +kernel
theorem dX11_go_27 : decode cX11_go 27 = .ok (.getfield 13, 3) := by decide +kernel
theorem dX11_go_30 : decode cX11_go 30 = .ok (.aload_n 0, 1) := by decide +kernel
theorem dX11_go_31 : decode cX11_go 31 = .ok (.getfield 59, 3) := by decide +kernel
theorem dX11_go_34 : decode cX11_go 34 = .ok (.iload_n 1, 1) := by decide +kernel
theorem dX11_go_35 : decode cX11_go 35 = .ok (.invokestatic 66, 3) := by decide +kernel
theorem dX11_go_38 : decode cX11_go 38 = .ok (.iastore, 1) := by decide +kernel
theorem dX11_go_39 : decode cX11_go 39 = .ok (.aload_n 0, 1) := by decide +kernel
theorem dX11_go_40 : decode cX11_go 40 = .ok (.iconst 1, 1) := by decide +kernel
theorem dX11_go_41 : decode cX11_go 41 = .ok (.putfield 62, 3) := by decide +kernel
theorem dX11_go_44 : decode cX11_go 44 = .ok (.iconst 1, 1) := by decide +kernel
theorem dX11_go_45 : decode cX11_go 45 = .ok (.ireturn, 1) := by decide +kernel
theorem dX11_go_46 : decode cX11_go 46 = .ok (.iload_n 1, 1) := by decide +kernel
theorem dX11_go_47 : decode cX11_go 47 = .ok (.i2l, 1) := by decide +kernel
theorem dX11_go_48 : decode cX11_go 48 = .ok (.ldc2_w 70, 3) := by decide +kernel
theorem dX11_go_51 : decode cX11_go 51 = .ok (.ldc2_w 72, 3) := by decide +kernel
theorem dX11_go_54 : decode cX11_go 54 = .ok (.invokestatic 74, 3) := by decide +kernel
theorem dX11_go_57 : decode cX11_go 57 = .ok (.ifCond .ne 5, 3) := by decide +kernel
theorem dX11_go_60 : decode cX11_go 60 = .ok (.iconst 0, 1) := by decide +kernel
theorem dX11_go_61 : decode cX11_go 61 = .ok (.ireturn, 1) := by decide +kernel
theorem dX11_go_62 : decode cX11_go 62 = .ok (.aload_n 0, 1) := by decide +kernel
theorem dX11_go_63 : decode cX11_go 63 = .ok (.getfield 13, 3) := by decide +kernel
theorem dX11_go_66 : decode cX11_go 66 = .ok (.aload_n 0, 1) := by decide +kernel
theorem dX11_go_67 : decode cX11_go 67 = .ok (.getfield 59, 3) := by decide +kernel
theorem dX11_go_70 : decode cX11_go 70 = .ok (.aload_n 0, 1) := by decide +kernel
theorem dX11_go_71 : decode cX11_go 71 = .ok (.getfield 62, 3) := by decide +kernel
theorem dX11_go_74 : decode cX11_go 74 = .ok (.ifCond .eq 15, 3) := by decide +kernel
theorem dX11_go_77 : decode cX11_go 77 = .ok (.aload_n 0, 1) := by decide +kernel
theorem dX11_go_78 : decode cX11_go 78 = .ok (.getfield 13, 3) := by decide +kernel
theorem dX11_go_81 : decode cX11_go 81 = .ok (.aload_n 0, 1) := by decide +kernel
theorem dX11_go_82 : decode cX11_go 82 = .ok (.getfield 59, 3) := by decide +kernel
theorem dX11_go_85 : decode cX11_go 85 = .ok (.iaload, 1) := by decide +kernel
theorem dX11_go_86 : decode cX11_go 86 = .ok (.goto 4, 3) := by decide +kernel
theorem dX11_go_89 : decode cX11_go 89 = .ok (.iconst 0, 1) := by decide +kernel
theorem dX11_go_90 : decode cX11_go 90 = .ok (.iastore, 1) := by decide +kernel
theorem dX11_go_91 : decode cX11_go 91 = .ok (.aload_n 0, 1) := by decide +kernel
theorem dX11_go_92 : decode cX11_go 92 = .ok (.getfield 16, 3) := by decide +kernel
theorem dX11_go_95 : decode cX11_go 95 = .ok (.aload_n 0, 1) := by decide +kernel
theorem dX11_go_96 : decode cX11_go 96 = .ok (.getfield 59, 3) := by decide +kernel
theorem dX11_go_99 : decode cX11_go 99 = .ok (.iload_n 1, 1) := by decide +kernel
theorem dX11_go_100 : decode cX11_go 100 = .ok (.bipush 48, 2) := by decide +kernel
theorem dX11_go_102 : decode cX11_go 102 = .ok (.isub, 1) := by decide +kernel
theorem dX11_go_103 : decode cX11_go 103 = .ok (.iastore, 1) := by decide +kernel
theorem dX11_go_104 : decode cX11_go 104 = .ok (.aload_n 0, 1) := by decide +kernel
theorem dX11_go_105 : decode cX11_go 105 = .ok (.dup, 1) := by decide +kernel
theorem dX11_go_106 : decode cX11_go 106 = .ok (.getfield 59, 3) := by decide +kernel
theorem dX11_go_109 : decode cX11_go 109 = .ok (.iconst 1, 1) := by decide +kernel
theorem dX11_go_110 : decode cX11_go 110 = .ok (.iadd, 1) := by decide +kernel
theorem dX11_go_111 : decode cX11_go 111 = .ok (.putfield 59, 3) := by decide +kernel
theorem dX11_go_114 : decode cX11_go 114 = .ok (.aload_n 0, 1) := by decide +kernel
theorem dX11_go_115 : decode cX11_go 115 = .ok (.iconst 0, 1) := by decide +kernel
theorem dX11_go_116 : decode cX11_go 116 = .ok (.putfield 62, 3) := by decide +kernel
theorem dX11_go_119 : decode cX11_go 119 = .ok (.iconst 1, 1) := by decide +kernel
theorem dX11_go_120 : decode cX11_go 120 = .ok (.ireturn, 1) := by decide +kernel
set_option maxRecDepth 20000 in
theorem ggX11_faultOf_X11_go : GoodIn wsX11_faultOf wsX11_go := goodIn_r _ [9, 1, 2, 10, 11, 12, 13, 14, 15, 8, 16, 17, 18, 19, 20, 21, 22, 23, 24, 25, 26, 27, 28, 29, 30, 31, 32, 33, 34, 35, 36, 37, 38, 39, 40, 41, 42, 43, 44] (by decide +kernel) (by decide +kernel)
set_option maxRecDepth 20000 in
theorem gX11_faultOf_X11_go : GoodIn wsX11_faultOf (wsV RX11 78 RX11 yX11_go wsX11_go) := goodIn_app (goodIn_of _ (by decide +kernel)) ggX11_faultOf_X11_go
theorem dX11_faultOf_0 : decode cX11_faultOf 0 = .ok (.aload_n 0, 1) := by decide +kernel
theorem dX11_faultOf_1 : decode cX11_faultOf 1 = .ok (.iconst 0, 1) := by decide +kernel
theorem dX11_faultOf_2 : decode cX11_faultOf 2 = .ok (.putfield 59, 3) := by decide +kernel
theorem dX11_faultOf_5 : decode cX11_faultOf 5 = .ok (.aload_n 0, 1) := by decide +kernel
theorem dX11_faultOf_6 : decode cX11_faultOf 6 = .ok (.iconst 0, 1) := by decide +kernel
theorem dX11_faultOf_7 : decode cX11_faultOf 7 = .ok (.putfield 62, 3) := by decide +kernel
theorem dX11_faultOf_10 : decode cX11_faultOf 10 = .ok (.iconst 0, 1) := by decide +kernel
theorem dX11_faultOf_11 : decode cX11_faultOf 11 = .ok (.istore_n 1, 1) := by decide +kernel
theorem dX11_faultOf_12 : decode cX11_faultOf 12 = .ok (.iload_n 1, 1) := by decide +kernel
theorem dX11_faultOf_13 : decode cX11_faultOf 13 = .ok (.aload_n 0, 1) := by decide +kernel
theorem dX11_faultOf_14 : decode cX11_faultOf 14 = .ok (.getfield 56, 3) := by decide +kernel
theorem dX11_faultOf_17 : decode cX11_faultOf 17 = .ok (.if_icmp .ge 22, 3) := by decide +kernel
theorem dX11_faultOf_20 : decode cX11_faultOf 20 = .ok (.aload_n 0, 1) := by decide +kernel
theorem dX11_faultOf_21 : decode cX11_faultOf 21 = .ok (.aload_n 0, 1) := by decide +kernel
theorem dX11_faultOf_22 : decode cX11_faultOf 22 = .ok (.getfield 7, 3) := by decide +kernel
theorem dX11_faultOf_25 : decode cX11_faultOf 25 = .ok (.iload_n 1, 1) := by decide +kernel
theorem dX11_faultOf_26 : decode cX11_faultOf 26 = .ok (.iaload, 1) := by decide +kernel
theorem dX11_faultOf_27 : decode cX11_faultOf 27 = .ok (.invokevirtual 78, 3) := by decide +kernel
theorem dX11_faultOf_30 : decode cX11_faultOf 30 = .ok (.ifCond .eq 9, 3) := by decide +kernel
theorem dX11_faultOf_33 : decode cX11_faultOf 33 = .ok (.iinc 1 1, 3) := by decide +kernel
theorem dX11_faultOf_36 : decode cX11_faultOf 36 = .ok (.goto (-24), 3) := by decide +kernel
theorem dX11_faultOf_39 : decode cX11_faultOf 39 = .ok (.iload_n 1, 1) := by decide +kernel
theorem dX11_faultOf_40 : decode cX11_faultOf 40 = .ok (.ireturn, 1) := by decide +kernel
set_option maxRecDepth 20000 in
theorem ggX11_fault_X11_faultOf : GoodIn wsX11_fault wsX11_faultOf := goodIn_r _ [5, 6, 7, 8, 9, 10, 11, 12, 4, 13, 14, 15, 16, 17, 18, 19, 20, 21, 22, 23, 24, 25, 26, 27, 28, 29, 30, 31, 32, 33, 34, 35, 36, 37, 38, 39, 40, 41, 42, 43, 44, 45, 46, 47, 48] (by decide +kernel) (by decide +kernel)
set_option maxRecDepth 20000 in
theorem gX11_fault_X11_faultOf : GoodIn wsX11_fault (wsV RX11 82 RX11 yX11_faultOf wsX11_faultOf) := goodIn_app (goodIn_of _ (by decide +kernel)) ggX11_fault_X11_faultOf
theorem dX11_fault_0 : decode cX11_fault 0 = .ok (.aload_n 0, 1) := by decide +kernel
theorem dX11_fault_1 : decode cX11_fault 1 = .ok (.invokevirtual 82, 3) := by decide +kernel
theorem dX11_fault_4 : decode cX11_fault 4 = .ok (.ireturn, 1) := by decide +kernel
set_option maxRecDepth 20000 in
theorem ggX11_isPerson_X11_in : GoodIn wsX11_isPerson wsX11_in := goodIn_r _ [5] (by decide +kernel) (by decide +kernel)
set_option maxRecDepth 20000 in
theorem gX11_isPerson_X11_in : GoodIn wsX11_isPerson (va_wsS RX11 74 yX11_in wsX11_in) := goodIn_app (goodIn_of _ (by decide +kernel)) ggX11_isPerson_X11_in
theorem dX11_isPerson_0 : decode cX11_isPerson 0 = .ok (.iload_n 0, 1) := by decide +kernel
theorem dX11_isPerson_1 : decode cX11_isPerson 1 = .ok (.i2l, 1) := by decide +kernel
theorem dX11_isPerson_2 : decode cX11_isPerson 2 = .ok (.lconst 0, 1) := by decide +kernel
theorem dX11_isPerson_3 : decode cX11_isPerson 3 = .ok (.ldc2_w 86, 3) := by decide +kernel
theorem dX11_isPerson_6 : decode cX11_isPerson 6 = .ok (.invokestatic 74, 3) := by decide +kernel
theorem dX11_isPerson_9 : decode cX11_isPerson 9 = .ok (.ireturn, 1) := by decide +kernel
set_option maxRecDepth 20000 in
theorem ggX11_isFrond_X11_in : GoodIn wsX11_isFrond wsX11_in := goodIn_r _ [5] (by decide +kernel) (by decide +kernel)
set_option maxRecDepth 20000 in
theorem gX11_isFrond_X11_in : GoodIn wsX11_isFrond (va_wsS RX11 74 yX11_in wsX11_in) := goodIn_app (goodIn_of _ (by decide +kernel)) ggX11_isFrond_X11_in
theorem dX11_isFrond_0 : decode cX11_isFrond 0 = .ok (.iload_n 1, 1) := by decide +kernel
theorem dX11_isFrond_1 : decode cX11_isFrond 1 = .ok (.i2l, 1) := by decide +kernel
theorem dX11_isFrond_2 : decode cX11_isFrond 2 = .ok (.lconst 0, 1) := by decide +kernel
theorem dX11_isFrond_3 : decode cX11_isFrond 3 = .ok (.aload_n 0, 1) := by decide +kernel
theorem dX11_isFrond_4 : decode cX11_isFrond 4 = .ok (.getfield 88, 3) := by decide +kernel
theorem dX11_isFrond_7 : decode cX11_isFrond 7 = .ok (.iconst 1, 1) := by decide +kernel
theorem dX11_isFrond_8 : decode cX11_isFrond 8 = .ok (.isub, 1) := by decide +kernel
theorem dX11_isFrond_9 : decode cX11_isFrond 9 = .ok (.i2l, 1) := by decide +kernel
theorem dX11_isFrond_10 : decode cX11_isFrond 10 = .ok (.invokestatic 74, 3) := by decide +kernel
theorem dX11_isFrond_13 : decode cX11_isFrond 13 = .ok (.ireturn, 1) := by decide +kernel
theorem dX11_begin_0 : decode cX11_begin 0 = .ok (.bipush 8, 2) := by decide +kernel
theorem dX11_begin_2 : decode cX11_begin 2 = .ok (.aload_n 0, 1) := by decide +kernel
theorem dX11_begin_3 : decode cX11_begin 3 = .ok (.getfield 88, 3) := by decide +kernel
theorem dX11_begin_6 : decode cX11_begin 6 = .ok (.imul, 1) := by decide +kernel
theorem dX11_begin_7 : decode cX11_begin 7 = .ok (.istore 4, 2) := by decide +kernel
theorem dX11_begin_9 : decode cX11_begin 9 = .ok (.aload_n 0, 1) := by decide +kernel
theorem dX11_begin_10 : decode cX11_begin 10 = .ok (.getfield 19, 3) := by decide +kernel
theorem dX11_begin_13 : decode cX11_begin 13 = .ok (.iload 4, 2) := by decide +kernel
theorem dX11_begin_15 : decode cX11_begin 15 = .ok (.iload_n 1, 1) := by decide +kernel
theorem dX11_begin_16 : decode cX11_begin 16 = .ok (.iastore, 1) := by decide +kernel
theorem dX11_begin_17 : decode cX11_begin 17 = .ok (.aload_n 0, 1) := by decide +kernel
theorem dX11_begin_18 : decode cX11_begin 18 = .ok (.getfield 19, 3) := by decide +kernel
theorem dX11_begin_21 : decode cX11_begin 21 = .ok (.iload 4, 2) := by decide +kernel
theorem dX11_begin_23 : decode cX11_begin 23 = .ok (.iconst 1, 1) := by decide +kernel
theorem dX11_begin_24 : decode cX11_begin 24 = .ok (.iadd, 1) := by decide +kernel
theorem dX11_begin_25 : decode cX11_begin 25 = .ok (.iload_n 2, 1) := by decide +kernel
theorem dX11_begin_26 : decode cX11_begin 26 = .ok (.iastore, 1) := by decide +kernel
theorem dX11_begin_27 : decode cX11_begin 27 = .ok (.aload_n 0, 1) := by decide +kernel
theorem dX11_begin_28 : decode cX11_begin 28 = .ok (.getfield 19, 3) := by decide +kernel
theorem dX11_begin_31 : decode cX11_begin 31 = .ok (.iload 4, 2) := by decide +kernel
theorem dX11_begin_33 : decode cX11_begin 33 = .ok (.iconst 2, 1) := by decide +kernel
theorem dX11_begin_34 : decode cX11_begin 34 = .ok (.iadd, 1) := by decide +kernel
theorem dX11_begin_35 : decode cX11_begin 35 = .ok (.iload_n 3, 1) := by decide +kernel
theorem dX11_begin_36 : decode cX11_begin 36 = .ok (.iastore, 1) := by decide +kernel
theorem dX11_begin_37 : decode cX11_begin 37 = .ok (.iconst 4, 1) := by decide +kernel
theorem dX11_begin_38 : decode cX11_begin 38 = .ok (.istore 5, 2) := by decide +kernel
theorem dX11_begin_40 : decode cX11_begin 40 = .ok (.iload 5, 2) := by decide +kernel
theorem dX11_begin_42 : decode cX11_begin 42 = .ok (.bipush 8, 2) := by decide +kernel
theorem dX11_begin_44 : decode cX11_begin 44 = .ok (.if_icmp .ge 20, 3) := by decide +kernel
theorem dX11_begin_47 : decode cX11_begin 47 = .ok (.aload_n 0, 1) := by decide +kernel
theorem dX11_begin_48 : decode cX11_begin 48 = .ok (.getfield 19, 3) := by decide +kernel
theorem dX11_begin_51 : decode cX11_begin 51 = .ok (.iload 4, 2) := by decide +kernel
theorem dX11_begin_53 : decode cX11_begin 53 = .ok (.iload 5, 2) := by decide +kernel
theorem dX11_begin_55 : decode cX11_begin 55 = .ok (.iadd, 1) := by decide +kernel
theorem dX11_begin_56 : decode cX11_begin 56 = .ok (.iconst (-1), 1) := by decide +kernel
theorem dX11_begin_57 : decode cX11_begin 57 = .ok (.iastore, 1) := by decide +kernel
theorem dX11_begin_58 : decode cX11_begin 58 = .ok (.iinc 5 1, 3) := by decide +kernel
theorem dX11_begin_61 : decode cX11_begin 61 = .ok (.goto (-21), 3) := by decide +kernel
theorem dX11_begin_64 : decode cX11_begin 64 = .ok (.aload_n 0, 1) := by decide +kernel
theorem dX11_begin_65 : decode cX11_begin 65 = .ok (.dup, 1) := by decide +kernel
theorem dX11_begin_66 : decode cX11_begin 66 = .ok (.getfield 88, 3) := by decide +kernel
theorem dX11_begin_69 : decode cX11_begin 69 = .ok (.iconst 1, 1) := by decide +kernel
theorem dX11_begin_70 : decode cX11_begin 70 = .ok (.iadd, 1) := by decide +kernel
theorem dX11_begin_71 : decode cX11_begin 71 = .ok (.putfield 88, 3) := by decide +kernel
theorem dX11_begin_74 : decode cX11_begin 74 = .ok (.aload_n 0, 1) := by decide +kernel
theorem dX11_begin_75 : decode cX11_begin 75 = .ok (.getfield 88, 3) := by decide +kernel
theorem dX11_begin_78 : decode cX11_begin 78 = .ok (.iconst 1, 1) := by decide +kernel
theorem dX11_begin_79 : decode cX11_begin 79 = .ok (.isub, 1) := by decide +kernel
theorem dX11_begin_80 : decode cX11_begin 80 = .ok (.ireturn, 1) := by decide +kernel
set_option maxRecDepth 20000 in
theorem ggX11_book_X11_isPerson : GoodIn wsX11_book wsX11_isPerson := goodIn_r _ [10, 11, 12, 13, 9, 14] (by decide +kernel) (by decide +kernel)
set_option maxRecDepth 20000 in
theorem gX11_book_X11_isPerson : GoodIn wsX11_book (va_wsS RX11 91 yX11_isPerson wsX11_isPerson) := goodIn_app (goodIn_of _ (by decide +kernel)) ggX11_book_X11_isPerson
set_option maxRecDepth 20000 in
theorem ggX11_book_X11_faultOf : GoodIn wsX11_book wsX11_faultOf := goodIn_r _ [18, 3, 2, 1, 19, 20, 21, 22, 9, 23, 5, 24, 25, 6, 26, 27, 28, 12, 13, 14, 34, 35, 36, 37, 38, 39, 40, 41, 42, 43, 44, 45, 46, 47, 48, 49, 50, 51, 52, 53, 54, 55, 56, 57, 58] (by decide +kernel) (by decide +kernel)
set_option maxRecDepth 20000 in
theorem gX11_book_X11_faultOf : GoodIn wsX11_book (wsV RX11 82 RX11 yX11_faultOf wsX11_faultOf) := goodIn_app (goodIn_of _ (by decide +kernel)) ggX11_book_X11_faultOf
set_option maxRecDepth 20000 in
theorem ggX11_book_X11_begin : GoodIn wsX11_book wsX11_begin := goodIn_r _ [32, 4, 33, 34, 35, 36, 37, 38, 39, 40, 41, 42, 43, 44, 45, 46, 47, 48, 49, 50, 51, 52, 53, 54, 55, 56, 57, 58] (by decide +kernel) (by decide +kernel)
set_option maxRecDepth 20000 in
theorem gX11_book_X11_begin : GoodIn wsX11_book (wsV RX11 94 RX11 yX11_begin wsX11_begin) := goodIn_app (goodIn_of _ (by decide +kernel)) ggX11_book_X11_begin
theorem dX11_book_0 : decode cX11_book 0 = .ok (.iload_n 1, 1) := by decide +kernel
theorem dX11_book_1 : decode cX11_book 1 = .ok (.invokestatic 91, 3) := by decide +kernel
theorem dX11_book_4 : decode cX11_book 4 = .ok (.ifCond .ne 6, 3) := by decide +kernel
theorem dX11_book_7 : decode cX11_book 7 = .ok (.bipush (-101), 2) := by decide +kernel
theorem dX11_book_9 : decode cX11_book 9 = .ok (.ireturn, 1) := by decide +kernel
theorem dX11_book_10 : decode cX11_book 10 = .ok (.aload_n 0, 1) := by decide +kernel
theorem dX11_book_11 : decode cX11_book 11 = .ok (.invokevirtual 82, 3) := by decide +kernel
theorem dX11_book_14 : decode cX11_book 14 = .ok (.aload_n 0, 1) := by decide +kernel
theorem dX11_book_15 : decode cX11_book 15 = .ok (.getfield 56, 3) := by decide +kernel
theorem dX11_book_18 : decode cX11_book 18 = .ok (.if_icmp .lt 17, 3) := by decide +kernel
theorem dX11_book_21 : decode cX11_book 21 = .ok (.aload_n 0, 1) := by decide +kernel
theorem dX11_book_22 : decode cX11_book 22 = .ok (.getfield 62, 3) := by decide +kernel
theorem dX11_book_25 : decode cX11_book 25 = .ok (.ifCond .ne 10, 3) := by decide +kernel
theorem dX11_book_28 : decode cX11_book 28 = .ok (.aload_n 0, 1) := by decide +kernel
theorem dX11_book_29 : decode cX11_book 29 = .ok (.getfield 59, 3) := by decide +kernel
theorem dX11_book_32 : decode cX11_book 32 = .ok (.ifCond .ne 6, 3) := by decide +kernel
theorem dX11_book_35 : decode cX11_book 35 = .ok (.bipush (-103), 2) := by decide +kernel
theorem dX11_book_37 : decode cX11_book 37 = .ok (.ireturn, 1) := by decide +kernel
theorem dX11_book_38 : decode cX11_book 38 = .ok (.aload_n 0, 1) := by decide +kernel
theorem dX11_book_39 : decode cX11_book 39 = .ok (.getfield 88, 3) := by decide +kernel
theorem dX11_book_42 : decode cX11_book 42 = .ok (.aload_n 0, 1) := by decide +kernel
theorem dX11_book_43 : decode cX11_book 43 = .ok (.getfield 59, 3) := by decide +kernel
theorem dX11_book_46 : decode cX11_book 46 = .ok (.iadd, 1) := by decide +kernel
theorem dX11_book_47 : decode cX11_book 47 = .ok (.bipush 10, 2) := by decide +kernel
theorem dX11_book_49 : decode cX11_book 49 = .ok (.if_icmp .le 6, 3) := by decide +kernel
theorem dX11_book_52 : decode cX11_book 52 = .ok (.bipush (-104), 2) := by decide +kernel
theorem dX11_book_54 : decode cX11_book 54 = .ok (.ireturn, 1) := by decide +kernel
theorem dX11_book_55 : decode cX11_book 55 = .ok (.iconst 0, 1) := by decide +kernel
theorem dX11_book_56 : decode cX11_book 56 = .ok (.istore_n 2, 1) := by decide +kernel
theorem dX11_book_57 : decode cX11_book 57 = .ok (.iload_n 2, 1) := by decide +kernel
theorem dX11_book_58 : decode cX11_book 58 = .ok (.aload_n 0, 1) := by decide +kernel
theorem dX11_book_59 : decode cX11_book 59 = .ok (.getfield 59, 3) := by decide +kernel
theorem dX11_book_62 : decode cX11_book 62 = .ok (.if_icmp .ge 27, 3) := by decide +kernel
theorem dX11_book_65 : decode cX11_book 65 = .ok (.aload_n 0, 1) := by decide +kernel
theorem dX11_book_66 : decode cX11_book 66 = .ok (.aload_n 0, 1) := by decide +kernel
theorem dX11_book_67 : decode cX11_book 67 = .ok (.getfield 13, 3) := by decide +kernel
theorem dX11_book_70 : decode cX11_book 70 = .ok (.iload_n 2, 1) := by decide +kernel
theorem dX11_book_71 : decode cX11_book 71 = .ok (.iaload, 1) := by decide +kernel
theorem dX11_book_72 : decode cX11_book 72 = .ok (.aload_n 0, 1) := by decide +kernel
theorem dX11_book_73 : decode cX11_book 73 = .ok (.getfield 16, 3) := by decide +kernel
theorem dX11_book_76 : decode cX11_book 76 = .ok (.iload_n 2, 1) := by decide +kernel
theorem dX11_book_77 : decode cX11_book 77 = .ok (.iaload, 1) := by decide +kernel
theorem dX11_book_78 : decode cX11_book 78 = .ok (.iload_n 1, 1) := by decide +kernel
theorem dX11_book_79 : decode cX11_book 79 = .ok (.invokevirtual 94, 3) := by decide +kernel
theorem dX11_book_82 : decode cX11_book 82 = .ok (.istore_n 3, 1) := by decide +kernel
theorem dX11_book_83 : decode cX11_book 83 = .ok (.iinc 2 1, 3) := by decide +kernel
theorem dX11_book_86 : decode cX11_book 86 = .ok (.goto (-29), 3) := by decide +kernel
theorem dX11_book_89 : decode cX11_book 89 = .ok (.aload_n 0, 1) := by decide +kernel
theorem dX11_book_90 : decode cX11_book 90 = .ok (.iconst 0, 1) := by decide +kernel
theorem dX11_book_91 : decode cX11_book 91 = .ok (.putfield 56, 3) := by decide +kernel
theorem dX11_book_94 : decode cX11_book 94 = .ok (.aload_n 0, 1) := by decide +kernel
theorem dX11_book_95 : decode cX11_book 95 = .ok (.getfield 59, 3) := by decide +kernel
theorem dX11_book_98 : decode cX11_book 98 = .ok (.ireturn, 1) := by decide +kernel
theorem dX11_byHand_0 : decode cX11_byHand 0 = .ok (.iload_n 0, 1) := by decide +kernel
theorem dX11_byHand_1 : decode cX11_byHand 1 = .ok (.iconst 1, 1) := by decide +kernel
theorem dX11_byHand_2 : decode cX11_byHand 2 = .ok (.if_icmp .ne 7, 3) := by decide +kernel
theorem dX11_byHand_5 : decode cX11_byHand 5 = .ok (.iconst 2, 1) := by decide +kernel
theorem dX11_byHand_6 : decode cX11_byHand 6 = .ok (.goto 38, 3) := by decide +kernel
theorem dX11_byHand_9 : decode cX11_byHand 9 = .ok (.iload_n 0, 1) := by decide +kernel
theorem dX11_byHand_10 : decode cX11_byHand 10 = .ok (.iconst 4, 1) := by decide +kernel
theorem dX11_byHand_11 : decode cX11_byHand 11 = .ok (.if_icmp .ne 7, 3) := by decide +kernel
theorem dX11_byHand_14 : decode cX11_byHand 14 = .ok (.iconst 3, 1) := by decide +kernel
theorem dX11_byHand_15 : decode cX11_byHand 15 = .ok (.goto 29, 3) := by decide +kernel
theorem dX11_byHand_18 : decode cX11_byHand 18 = .ok (.iload_n 0, 1) := by decide +kernel
theorem dX11_byHand_19 : decode cX11_byHand 19 = .ok (.iconst 2, 1) := by decide +kernel
theorem dX11_byHand_20 : decode cX11_byHand 20 = .ok (.if_icmp .ne 8, 3) := by decide +kernel
theorem dX11_byHand_23 : decode cX11_byHand 23 = .ok (.iload_n 1, 1) := by decide +kernel
theorem dX11_byHand_24 : decode cX11_byHand 24 = .ok (.iconst 5, 1) := by decide +kernel
theorem dX11_byHand_25 : decode cX11_byHand 25 = .ok (.if_icmp .gt 14, 3) := by decide +kernel
theorem dX11_byHand_28 : decode cX11_byHand 28 = .ok (.iload_n 0, 1) := by decide +kernel
theorem dX11_byHand_29 : decode cX11_byHand 29 = .ok (.iconst 3, 1) := by decide +kernel
theorem dX11_byHand_30 : decode cX11_byHand 30 = .ok (.if_icmp .ne 13, 3) := by decide +kernel
theorem dX11_byHand_33 : decode cX11_byHand 33 = .ok (.iload_n 1, 1) := by decide +kernel
theorem dX11_byHand_34 : decode cX11_byHand 34 = .ok (.bipush 9, 2) := by decide +kernel
theorem dX11_byHand_36 : decode cX11_byHand 36 = .ok (.if_icmp .ne 7, 3) := by decide +kernel
theorem dX11_byHand_39 : decode cX11_byHand 39 = .ok (.iconst 0, 1) := by decide +kernel
theorem dX11_byHand_40 : decode cX11_byHand 40 = .ok (.goto 4, 3) := by decide +kernel
theorem dX11_byHand_43 : decode cX11_byHand 43 = .ok (.iconst 1, 1) := by decide +kernel
theorem dX11_byHand_44 : decode cX11_byHand 44 = .ok (.istore_n 2, 1) := by decide +kernel
theorem dX11_byHand_45 : decode cX11_byHand 45 = .ok (.iload_n 1, 1) := by decide +kernel
theorem dX11_byHand_46 : decode cX11_byHand 46 = .ok (.iload_n 2, 1) := by decide +kernel
theorem dX11_byHand_47 : decode cX11_byHand 47 = .ok (.if_icmp .le 9, 3) := by decide +kernel
theorem dX11_byHand_50 : decode cX11_byHand 50 = .ok (.iload_n 1, 1) := by decide +kernel
theorem dX11_byHand_51 : decode cX11_byHand 51 = .ok (.iload_n 2, 1) := by decide +kernel
theorem dX11_byHand_52 : decode cX11_byHand 52 = .ok (.isub, 1) := by decide +kernel
theorem dX11_byHand_53 : decode cX11_byHand 53 = .ok (.goto 4, 3) := by decide +kernel
theorem dX11_byHand_56 : decode cX11_byHand 56 = .ok (.iconst 0, 1) := by decide +kernel
theorem dX11_byHand_57 : decode cX11_byHand 57 = .ok (.ireturn, 1) := by decide +kernel
theorem dX11_byMould_0 : decode cX11_byMould 0 = .ok (.iload_n 0, 1) := by decide +kernel
theorem dX11_byMould_1 : decode cX11_byMould 1 = .ok (.iconst 3, 1) := by decide +kernel
theorem dX11_byMould_2 : decode cX11_byMould 2 = .ok (.if_icmp .ne 7, 3) := by decide +kernel
theorem dX11_byMould_5 : decode cX11_byMould 5 = .ok (.iconst 0, 1) := by decide +kernel
theorem dX11_byMould_6 : decode cX11_byMould 6 = .ok (.goto 13, 3) := by decide +kernel
theorem dX11_byMould_9 : decode cX11_byMould 9 = .ok (.iload_n 0, 1) := by decide +kernel
theorem dX11_byMould_10 : decode cX11_byMould 10 = .ok (.iconst 4, 1) := by decide +kernel
theorem dX11_byMould_11 : decode cX11_byMould 11 = .ok (.if_icmp .ne 7, 3) := by decide +kernel
theorem dX11_byMould_14 : decode cX11_byMould 14 = .ok (.iconst 2, 1) := by decide +kernel
theorem dX11_byMould_15 : decode cX11_byMould 15 = .ok (.goto 4, 3) := by decide +kernel
theorem dX11_byMould_18 : decode cX11_byMould 18 = .ok (.iconst 1, 1) := by decide +kernel
theorem dX11_byMould_19 : decode cX11_byMould 19 = .ok (.istore_n 2, 1) := by decide +kernel
theorem dX11_byMould_20 : decode cX11_byMould 20 = .ok (.iload_n 1, 1) := by decide +kernel
theorem dX11_byMould_21 : decode cX11_byMould 21 = .ok (.iload_n 2, 1) := by decide +kernel
theorem dX11_byMould_22 : decode cX11_byMould 22 = .ok (.if_icmp .le 9, 3) := by decide +kernel
theorem dX11_byMould_25 : decode cX11_byMould 25 = .ok (.iload_n 1, 1) := by decide +kernel
theorem dX11_byMould_26 : decode cX11_byMould 26 = .ok (.iload_n 2, 1) := by decide +kernel
theorem dX11_byMould_27 : decode cX11_byMould 27 = .ok (.isub, 1) := by decide +kernel
theorem dX11_byMould_28 : decode cX11_byMould 28 = .ok (.goto 4, 3) := by decide +kernel
theorem dX11_byMould_31 : decode cX11_byMould 31 = .ok (.iconst 0, 1) := by decide +kernel
theorem dX11_byMould_32 : decode cX11_byMould 32 = .ok (.ireturn, 1) := by decide +kernel
set_option maxRecDepth 20000 in
theorem ggX11_worth_X11_byHand : GoodIn wsX11_worth wsX11_byHand := goodIn_r _ [5] (by decide +kernel) (by decide +kernel)
set_option maxRecDepth 20000 in
theorem gX11_worth_X11_byHand : GoodIn wsX11_worth (va_wsS RX11 98 yX11_byHand wsX11_byHand) := goodIn_app (goodIn_of _ (by decide +kernel)) ggX11_worth_X11_byHand
theorem dX11_worth_0 : decode cX11_worth 0 = .ok (.aload_n 0, 1) := by decide +kernel
theorem dX11_worth_1 : decode cX11_worth 1 = .ok (.getfield 19, 3) := by decide +kernel
theorem dX11_worth_4 : decode cX11_worth 4 = .ok (.bipush 8, 2) := by decide +kernel
theorem dX11_worth_6 : decode cX11_worth 6 = .ok (.iload_n 1, 1) := by decide +kernel
theorem dX11_worth_7 : decode cX11_worth 7 = .ok (.imul, 1) := by decide +kernel
theorem dX11_worth_8 : decode cX11_worth 8 = .ok (.iaload, 1) := by decide +kernel
theorem dX11_worth_9 : decode cX11_worth 9 = .ok (.aload_n 0, 1) := by decide +kernel
theorem dX11_worth_10 : decode cX11_worth 10 = .ok (.getfield 19, 3) := by decide +kernel
theorem dX11_worth_13 : decode cX11_worth 13 = .ok (.bipush 8, 2) := by decide +kernel
theorem dX11_worth_15 : decode cX11_worth 15 = .ok (.iload_n 1, 1) := by decide +kernel
theorem dX11_worth_16 : decode cX11_worth 16 = .ok (.imul, 1) := by decide +kernel
theorem dX11_worth_17 : decode cX11_worth 17 = .ok (.iconst 1, 1) := by decide +kernel
theorem dX11_worth_18 : decode cX11_worth 18 = .ok (.iadd, 1) := by decide +kernel
theorem dX11_worth_19 : decode cX11_worth 19 = .ok (.iaload, 1) := by decide +kernel
theorem dX11_worth_20 : decode cX11_worth 20 = .ok (.invokestatic 98, 3) := by decide +kernel
theorem dX11_worth_23 : decode cX11_worth 23 = .ok (.ireturn, 1) := by decide +kernel
set_option maxRecDepth 20000 in
theorem ggX11_tell_X11_worth : GoodIn wsX11_tell wsX11_worth := goodIn_r _ [7, 2, 8, 9, 6, 10, 14, 15, 16, 17, 18, 19, 20, 21, 22, 23, 24, 25, 26, 27, 28, 29, 30, 31, 32, 33, 34, 35, 36, 37, 38] (by decide +kernel) (by decide +kernel)
set_option maxRecDepth 20000 in
theorem gX11_tell_X11_worth : GoodIn wsX11_tell (wsV RX11 102 RX11 yX11_worth wsX11_worth) := goodIn_app (goodIn_of _ (by decide +kernel)) ggX11_tell_X11_worth
set_option maxRecDepth 20000 in
theorem ggX11_tell_X11_in : GoodIn wsX11_tell wsX11_in := goodIn_r _ [13] (by decide +kernel) (by decide +kernel)
set_option maxRecDepth 20000 in
theorem gX11_tell_X11_in : GoodIn wsX11_tell (va_wsS RX11 74 yX11_in wsX11_in) := goodIn_app (goodIn_of _ (by decide +kernel)) ggX11_tell_X11_in
theorem dX11_tell_0 : decode cX11_tell 0 = .ok (.iload_n 2, 1) := by decide +kernel
theorem dX11_tell_1 : decode cX11_tell 1 = .ok (.iconst 3, 1) := by decide +kernel
theorem dX11_tell_2 : decode cX11_tell 2 = .ok (.if_icmp .ne 11, 3) := by decide +kernel
theorem dX11_tell_5 : decode cX11_tell 5 = .ok (.aload_n 0, 1) := by decide +kernel
theorem dX11_tell_6 : decode cX11_tell 6 = .ok (.iload_n 1, 1) := by decide +kernel
theorem dX11_tell_7 : decode cX11_tell 7 = .ok (.invokevirtual 102, 3) := by decide +kernel
theorem dX11_tell_10 : decode cX11_tell 10 = .ok (.goto 31, 3) := by decide +kernel
theorem dX11_tell_13 : decode cX11_tell 13 = .ok (.iload_n 2, 1) := by decide +kernel
theorem dX11_tell_14 : decode cX11_tell 14 = .ok (.i2l, 1) := by decide +kernel
theorem dX11_tell_15 : decode cX11_tell 15 = .ok (.lconst 0, 1) := by decide +kernel
theorem dX11_tell_16 : decode cX11_tell 16 = .ok (.ldc2_w 105, 3) := by decide +kernel
theorem dX11_tell_19 : decode cX11_tell 19 = .ok (.invokestatic 74, 3) := by decide +kernel
theorem dX11_tell_22 : decode cX11_tell 22 = .ok (.ifCond .eq 17, 3) := by decide +kernel
theorem dX11_tell_25 : decode cX11_tell 25 = .ok (.aload_n 0, 1) := by decide +kernel
theorem dX11_tell_26 : decode cX11_tell 26 = .ok (.getfield 19, 3) := by decide +kernel
theorem dX11_tell_29 : decode cX11_tell 29 = .ok (.bipush 8, 2) := by decide +kernel
theorem dX11_tell_31 : decode cX11_tell 31 = .ok (.iload_n 1, 1) := by decide +kernel
theorem dX11_tell_32 : decode cX11_tell 32 = .ok (.imul, 1) := by decide +kernel
theorem dX11_tell_33 : decode cX11_tell 33 = .ok (.iload_n 2, 1) := by decide +kernel
theorem dX11_tell_34 : decode cX11_tell 34 = .ok (.iadd, 1) := by decide +kernel
theorem dX11_tell_35 : decode cX11_tell 35 = .ok (.iaload, 1) := by decide +kernel
theorem dX11_tell_36 : decode cX11_tell 36 = .ok (.goto 5, 3) := by decide +kernel
theorem dX11_tell_39 : decode cX11_tell 39 = .ok (.bipush (-102), 2) := by decide +kernel
theorem dX11_tell_41 : decode cX11_tell 41 = .ok (.ireturn, 1) := by decide +kernel
set_option maxRecDepth 20000 in
theorem ggX11_about_X11_isFrond : GoodIn wsX11_about wsX11_isFrond := goodIn_r _ [5, 6, 7, 8, 4, 9, 23, 24, 25, 26, 27, 28, 29, 30, 31, 32, 33, 34, 35, 36, 37, 38, 39, 40, 41, 42, 43, 44, 45, 46, 47] (by decide +kernel) (by decide +kernel)
set_option maxRecDepth 20000 in
theorem gX11_about_X11_isFrond : GoodIn wsX11_about (wsV RX11 107 RX11 yX11_isFrond wsX11_isFrond) := goodIn_app (goodIn_of _ (by decide +kernel)) ggX11_about_X11_isFrond
set_option maxRecDepth 20000 in
theorem ggX11_about_X11_tell : GoodIn wsX11_about wsX11_tell := goodIn_r _ [13, 14, 15, 16, 17, 18, 4, 19, 20, 21, 22, 7, 8, 9, 23, 24, 25, 26, 27, 28, 29, 30, 31, 32, 33, 34, 35, 36, 37, 38, 39, 40, 41, 42, 43, 44, 45, 46, 47] (by decide +kernel) (by decide +kernel)
set_option maxRecDepth 20000 in
theorem gX11_about_X11_tell : GoodIn wsX11_about (wsV RX11 110 RX11 yX11_tell wsX11_tell) := goodIn_app (goodIn_of _ (by decide +kernel)) ggX11_about_X11_tell
theorem dX11_about_0 : decode cX11_about 0 = .ok (.aload_n 0, 1) := by decide +kernel
theorem dX11_about_1 : decode cX11_about 1 = .ok (.iload_n 1, 1) := by decide +kernel
theorem dX11_about_2 : decode cX11_about 2 = .ok (.invokevirtual 107, 3) := by decide +kernel
theorem dX11_about_5 : decode cX11_about 5 = .ok (.ifCond .eq 12, 3) := by decide +kernel
theorem dX11_about_8 : decode cX11_about 8 = .ok (.aload_n 0, 1) := by decide +kernel
theorem dX11_about_9 : decode cX11_about 9 = .ok (.iload_n 1, 1) := by decide +kernel
theorem dX11_about_10 : decode cX11_about 10 = .ok (.iload_n 2, 1) := by decide +kernel
theorem dX11_about_11 : decode cX11_about 11 = .ok (.invokevirtual 110, 3) := by decide +kernel
theorem dX11_about_14 : decode cX11_about 14 = .ok (.goto 5, 3) := by decide +kernel
theorem dX11_about_17 : decode cX11_about 17 = .ok (.bipush (-101), 2) := by decide +kernel
theorem dX11_about_19 : decode cX11_about 19 = .ok (.ireturn, 1) := by decide +kernel
set_option maxRecDepth 20000 in
theorem ggX11_as_X11_isFrond : GoodIn wsX11_as wsX11_isFrond := goodIn_r _ [7, 8, 9, 10, 6, 11, 12, 13, 14, 15, 16, 17, 18, 19, 20, 21, 22, 23, 24, 25, 26, 27, 28, 29, 30, 31, 32, 33, 34, 35, 36] (by decide +kernel) (by decide +kernel)
set_option maxRecDepth 20000 in
theorem gX11_as_X11_isFrond : GoodIn wsX11_as (wsV RX11 107 RX11 yX11_isFrond wsX11_isFrond) := goodIn_app (goodIn_of _ (by decide +kernel)) ggX11_as_X11_isFrond
set_option maxRecDepth 20000 in
theorem ggX11_as_X11_in : GoodIn wsX11_as wsX11_in := goodIn_r _ [11] (by decide +kernel) (by decide +kernel)
set_option maxRecDepth 20000 in
theorem gX11_as_X11_in : GoodIn wsX11_as (va_wsS RX11 74 yX11_in wsX11_in) := goodIn_app (goodIn_of _ (by decide +kernel)) ggX11_as_X11_in
theorem dX11_as_0 : decode cX11_as 0 = .ok (.aload_n 0, 1) := by decide +kernel
theorem dX11_as_1 : decode cX11_as 1 = .ok (.iload_n 1, 1) := by decide +kernel
theorem dX11_as_2 : decode cX11_as 2 = .ok (.invokevirtual 107, 3) := by decide +kernel
theorem dX11_as_5 : decode cX11_as 5 = .ok (.ifCond .ne 6, 3) := by decide +kernel
theorem dX11_as_8 : decode cX11_as 8 = .ok (.bipush (-101), 2) := by decide +kernel
theorem dX11_as_10 : decode cX11_as 10 = .ok (.ireturn, 1) := by decide +kernel
theorem dX11_as_11 : decode cX11_as 11 = .ok (.iload_n 2, 1) := by decide +kernel
theorem dX11_as_12 : decode cX11_as 12 = .ok (.i2l, 1) := by decide +kernel
theorem dX11_as_13 : decode cX11_as 13 = .ok (.lconst 0, 1) := by decide +kernel
theorem dX11_as_14 : decode cX11_as 14 = .ok (.ldc2_w 113, 3) := by decide +kernel
theorem dX11_as_17 : decode cX11_as 17 = .ok (.invokestatic 74, 3) := by decide +kernel
theorem dX11_as_20 : decode cX11_as 20 = .ok (.ifCond .ne 6, 3) := by decide +kernel
theorem dX11_as_23 : decode cX11_as 23 = .ok (.bipush (-102), 2) := by decide +kernel
theorem dX11_as_25 : decode cX11_as 25 = .ok (.ireturn, 1) := by decide +kernel
theorem dX11_as_26 : decode cX11_as 26 = .ok (.aload_n 0, 1) := by decide +kernel
theorem dX11_as_27 : decode cX11_as 27 = .ok (.getfield 19, 3) := by decide +kernel
theorem dX11_as_30 : decode cX11_as 30 = .ok (.bipush 8, 2) := by decide +kernel
theorem dX11_as_32 : decode cX11_as 32 = .ok (.iload_n 1, 1) := by decide +kernel
theorem dX11_as_33 : decode cX11_as 33 = .ok (.imul, 1) := by decide +kernel
theorem dX11_as_34 : decode cX11_as 34 = .ok (.iaload, 1) := by decide +kernel
theorem dX11_as_35 : decode cX11_as 35 = .ok (.istore_n 3, 1) := by decide +kernel
theorem dX11_as_36 : decode cX11_as 36 = .ok (.iload_n 2, 1) := by decide +kernel
theorem dX11_as_37 : decode cX11_as 37 = .ok (.ifCond .eq 18, 3) := by decide +kernel
theorem dX11_as_40 : decode cX11_as 40 = .ok (.iload_n 2, 1) := by decide +kernel
theorem dX11_as_41 : decode cX11_as 41 = .ok (.iload_n 3, 1) := by decide +kernel
theorem dX11_as_42 : decode cX11_as 42 = .ok (.if_icmp .eq 13, 3) := by decide +kernel
theorem dX11_as_45 : decode cX11_as 45 = .ok (.iload_n 2, 1) := by decide +kernel
theorem dX11_as_46 : decode cX11_as 46 = .ok (.iconst 1, 1) := by decide +kernel
theorem dX11_as_47 : decode cX11_as 47 = .ok (.if_icmp .ne 12, 3) := by decide +kernel
theorem dX11_as_50 : decode cX11_as 50 = .ok (.iload_n 3, 1) := by decide +kernel
theorem dX11_as_51 : decode cX11_as 51 = .ok (.iconst 4, 1) := by decide +kernel
theorem dX11_as_52 : decode cX11_as 52 = .ok (.if_icmp .ne 7, 3) := by decide +kernel
theorem dX11_as_55 : decode cX11_as 55 = .ok (.iconst 1, 1) := by decide +kernel
theorem dX11_as_56 : decode cX11_as 56 = .ok (.goto 4, 3) := by decide +kernel
theorem dX11_as_59 : decode cX11_as 59 = .ok (.iconst 0, 1) := by decide +kernel
theorem dX11_as_60 : decode cX11_as 60 = .ok (.istore 4, 2) := by decide +kernel
theorem dX11_as_62 : decode cX11_as 62 = .ok (.iload 4, 2) := by decide +kernel
theorem dX11_as_64 : decode cX11_as 64 = .ok (.ifCond .eq 7, 3) := by decide +kernel
theorem dX11_as_67 : decode cX11_as 67 = .ok (.iload_n 1, 1) := by decide +kernel
theorem dX11_as_68 : decode cX11_as 68 = .ok (.goto 4, 3) := by decide +kernel
theorem dX11_as_71 : decode cX11_as 71 = .ok (.iconst (-1), 1) := by decide +kernel
theorem dX11_as_72 : decode cX11_as 72 = .ok (.ireturn, 1) := by decide +kernel
set_option maxRecDepth 20000 in
theorem ggX11_snap_X11_isFrond : GoodIn wsX11_snap wsX11_isFrond := goodIn_r _ [8, 3, 9, 10, 7, 11, 16, 17, 18, 19, 20, 21, 22, 23, 24, 25, 26, 27, 28, 29, 30, 31, 32, 33, 34, 35, 36, 37, 38, 39, 40] (by decide +kernel) (by decide +kernel)
set_option maxRecDepth 20000 in
theorem gX11_snap_X11_isFrond : GoodIn wsX11_snap (wsV RX11 107 RX11 yX11_isFrond wsX11_isFrond) := goodIn_app (goodIn_of _ (by decide +kernel)) ggX11_snap_X11_isFrond
set_option maxRecDepth 20000 in
theorem ggX11_snap_X11_in : GoodIn wsX11_snap wsX11_in := goodIn_r _ [11] (by decide +kernel) (by decide +kernel)
set_option maxRecDepth 20000 in
theorem gX11_snap_X11_in : GoodIn wsX11_snap (va_wsS RX11 74 yX11_in wsX11_in) := goodIn_app (goodIn_of _ (by decide +kernel)) ggX11_snap_X11_in
set_option maxRecDepth 20000 in
theorem ggX11_snap_X11_begin : GoodIn wsX11_snap wsX11_begin := goodIn_r _ [15, 3, 2, 16, 17, 18, 19, 20, 21, 22, 23, 24, 25, 26, 27, 28, 29, 30, 31, 32, 33, 34, 35, 36, 37, 38, 39, 40] (by decide +kernel) (by decide +kernel)
set_option maxRecDepth 20000 in
theorem gX11_snap_X11_begin : GoodIn wsX11_snap (wsV RX11 94 RX11 yX11_begin wsX11_begin) := goodIn_app (goodIn_of _ (by decide +kernel)) ggX11_snap_X11_begin
theorem dX11_snap_0 : decode cX11_snap 0 = .ok (.aload_n 0, 1) := by decide +kernel
theorem dX11_snap_1 : decode cX11_snap 1 = .ok (.iload_n 1, 1) := by decide +kernel
theorem dX11_snap_2 : decode cX11_snap 2 = .ok (.invokevirtual 107, 3) := by decide +kernel
theorem dX11_snap_5 : decode cX11_snap 5 = .ok (.ifCond .ne 6, 3) := by decide +kernel
theorem dX11_snap_8 : decode cX11_snap 8 = .ok (.bipush (-101), 2) := by decide +kernel
theorem dX11_snap_10 : decode cX11_snap 10 = .ok (.ireturn, 1) := by decide +kernel
theorem dX11_snap_11 : decode cX11_snap 11 = .ok (.iload_n 2, 1) := by decide +kernel
theorem dX11_snap_12 : decode cX11_snap 12 = .ok (.i2l, 1) := by decide +kernel
theorem dX11_snap_13 : decode cX11_snap 13 = .ok (.lconst 1, 1) := by decide +kernel
theorem dX11_snap_14 : decode cX11_snap 14 = .ok (.ldc2_w 115, 3) := by decide +kernel
theorem dX11_snap_17 : decode cX11_snap 17 = .ok (.invokestatic 74, 3) := by decide +kernel
theorem dX11_snap_20 : decode cX11_snap 20 = .ok (.ifCond .ne 6, 3) := by decide +kernel
theorem dX11_snap_23 : decode cX11_snap 23 = .ok (.bipush (-102), 2) := by decide +kernel
theorem dX11_snap_25 : decode cX11_snap 25 = .ok (.ireturn, 1) := by decide +kernel
theorem dX11_snap_26 : decode cX11_snap 26 = .ok (.aload_n 0, 1) := by decide +kernel
theorem dX11_snap_27 : decode cX11_snap 27 = .ok (.getfield 19, 3) := by decide +kernel
theorem dX11_snap_30 : decode cX11_snap 30 = .ok (.bipush 8, 2) := by decide +kernel
theorem dX11_snap_32 : decode cX11_snap 32 = .ok (.iload_n 1, 1) := by decide +kernel
theorem dX11_snap_33 : decode cX11_snap 33 = .ok (.imul, 1) := by decide +kernel
theorem dX11_snap_34 : decode cX11_snap 34 = .ok (.iconst 2, 1) := by decide +kernel
theorem dX11_snap_35 : decode cX11_snap 35 = .ok (.iadd, 1) := by decide +kernel
theorem dX11_snap_36 : decode cX11_snap 36 = .ok (.iaload, 1) := by decide +kernel
theorem dX11_snap_37 : decode cX11_snap 37 = .ok (.iconst (-1), 1) := by decide +kernel
theorem dX11_snap_38 : decode cX11_snap 38 = .ok (.if_icmp .eq 18, 3) := by decide +kernel
theorem dX11_snap_41 : decode cX11_snap 41 = .ok (.aload_n 0, 1) := by decide +kernel
theorem dX11_snap_42 : decode cX11_snap 42 = .ok (.getfield 19, 3) := by decide +kernel
theorem dX11_snap_45 : decode cX11_snap 45 = .ok (.bipush 8, 2) := by decide +kernel
theorem dX11_snap_47 : decode cX11_snap 47 = .ok (.iload_n 1, 1) := by decide +kernel
theorem dX11_snap_48 : decode cX11_snap 48 = .ok (.imul, 1) := by decide +kernel
theorem dX11_snap_49 : decode cX11_snap 49 = .ok (.iconst 1, 1) := by decide +kernel
theorem dX11_snap_50 : decode cX11_snap 50 = .ok (.iadd, 1) := by decide +kernel
theorem dX11_snap_51 : decode cX11_snap 51 = .ok (.iaload, 1) := by decide +kernel
theorem dX11_snap_52 : decode cX11_snap 52 = .ok (.iload_n 2, 1) := by decide +kernel
theorem dX11_snap_53 : decode cX11_snap 53 = .ok (.if_icmp .gt 6, 3) := by decide +kernel
theorem dX11_snap_56 : decode cX11_snap 56 = .ok (.bipush (-103), 2) := by decide +kernel
theorem dX11_snap_58 : decode cX11_snap 58 = .ok (.ireturn, 1) := by decide +kernel
theorem dX11_snap_59 : decode cX11_snap 59 = .ok (.aload_n 0, 1) := by decide +kernel
theorem dX11_snap_60 : decode cX11_snap 60 = .ok (.getfield 88, 3) := by decide +kernel
theorem dX11_snap_63 : decode cX11_snap 63 = .ok (.bipush 10, 2) := by decide +kernel
theorem dX11_snap_65 : decode cX11_snap 65 = .ok (.if_icmp .ne 6, 3) := by decide +kernel
theorem dX11_snap_68 : decode cX11_snap 68 = .ok (.bipush (-104), 2) := by decide +kernel
theorem dX11_snap_70 : decode cX11_snap 70 = .ok (.ireturn, 1) := by decide +kernel
theorem dX11_snap_71 : decode cX11_snap 71 = .ok (.aload_n 0, 1) := by decide +kernel
theorem dX11_snap_72 : decode cX11_snap 72 = .ok (.getfield 19, 3) := by decide +kernel
theorem dX11_snap_75 : decode cX11_snap 75 = .ok (.bipush 8, 2) := by decide +kernel
theorem dX11_snap_77 : decode cX11_snap 77 = .ok (.iload_n 1, 1) := by decide +kernel
theorem dX11_snap_78 : decode cX11_snap 78 = .ok (.imul, 1) := by decide +kernel
theorem dX11_snap_79 : decode cX11_snap 79 = .ok (.iconst 1, 1) := by decide +kernel
theorem dX11_snap_80 : decode cX11_snap 80 = .ok (.iadd, 1) := by decide +kernel
theorem dX11_snap_81 : decode cX11_snap 81 = .ok (.dup2, 1) := by decide +kernel
theorem dX11_snap_82 : decode cX11_snap 82 = .ok (.iaload, 1) := by decide +kernel
theorem dX11_snap_83 : decode cX11_snap 83 = .ok (.iload_n 2, 1) := by decide +kernel
theorem dX11_snap_84 : decode cX11_snap 84 = .ok (.isub, 1) := by decide +kernel
theorem dX11_snap_85 : decode cX11_snap 85 = .ok (.iastore, 1) := by decide +kernel
theorem dX11_snap_86 : decode cX11_snap 86 = .ok (.aload_n 0, 1) := by decide +kernel
theorem dX11_snap_87 : decode cX11_snap 87 = .ok (.iconst 0, 1) := by decide +kernel
theorem dX11_snap_88 : decode cX11_snap 88 = .ok (.iload_n 2, 1) := by decide +kernel
theorem dX11_snap_89 : decode cX11_snap 89 = .ok (.aload_n 0, 1) := by decide +kernel
theorem dX11_snap_90 : decode cX11_snap 90 = .ok (.getfield 19, 3) := by decide +kernel
theorem dX11_snap_93 : decode cX11_snap 93 = .ok (.bipush 8, 2) := by decide +kernel
theorem dX11_snap_95 : decode cX11_snap 95 = .ok (.iload_n 1, 1) := by decide +kernel
theorem dX11_snap_96 : decode cX11_snap 96 = .ok (.imul, 1) := by decide +kernel
theorem dX11_snap_97 : decode cX11_snap 97 = .ok (.iconst 2, 1) := by decide +kernel
theorem dX11_snap_98 : decode cX11_snap 98 = .ok (.iadd, 1) := by decide +kernel
theorem dX11_snap_99 : decode cX11_snap 99 = .ok (.iaload, 1) := by decide +kernel
theorem dX11_snap_100 : decode cX11_snap 100 = .ok (.invokevirtual 94, 3) := by decide +kernel
theorem dX11_snap_103 : decode cX11_snap 103 = .ok (.ireturn, 1) := by decide +kernel
set_option maxRecDepth 20000 in
theorem ggX11_hand_X11_worth : GoodIn wsX11_hand wsX11_worth := goodIn_r _ [6, 1, 7, 8, 5, 9, 10, 11, 12, 13, 14, 15, 16, 17, 18, 19, 20, 21, 22, 23, 24, 25, 26, 27, 28, 29, 30, 31, 32, 33, 34] (by decide +kernel) (by decide +kernel)
set_option maxRecDepth 20000 in
theorem gX11_hand_X11_worth : GoodIn wsX11_hand (wsV RX11 102 RX11 yX11_worth wsX11_worth) := goodIn_app (goodIn_of _ (by decide +kernel)) ggX11_hand_X11_worth
theorem dX11_hand_0 : decode cX11_hand 0 = .ok (.bipush 8, 2) := by decide +kernel
theorem dX11_hand_2 : decode cX11_hand 2 = .ok (.iload_n 1, 1) := by decide +kernel
theorem dX11_hand_3 : decode cX11_hand 3 = .ok (.imul, 1) := by decide +kernel
theorem dX11_hand_4 : decode cX11_hand 4 = .ok (.istore_n 3, 1) := by decide +kernel
theorem dX11_hand_5 : decode cX11_hand 5 = .ok (.aload_n 0, 1) := by decide +kernel
theorem dX11_hand_6 : decode cX11_hand 6 = .ok (.getfield 19, 3) := by decide +kernel
theorem dX11_hand_9 : decode cX11_hand 9 = .ok (.iload_n 3, 1) := by decide +kernel
theorem dX11_hand_10 : decode cX11_hand 10 = .ok (.iconst 1, 1) := by decide +kernel
theorem dX11_hand_11 : decode cX11_hand 11 = .ok (.iadd, 1) := by decide +kernel
theorem dX11_hand_12 : decode cX11_hand 12 = .ok (.iaload, 1) := by decide +kernel
theorem dX11_hand_13 : decode cX11_hand 13 = .ok (.istore 4, 2) := by decide +kernel
theorem dX11_hand_15 : decode cX11_hand 15 = .ok (.aload_n 0, 1) := by decide +kernel
theorem dX11_hand_16 : decode cX11_hand 16 = .ok (.getfield 19, 3) := by decide +kernel
theorem dX11_hand_19 : decode cX11_hand 19 = .ok (.iload_n 3, 1) := by decide +kernel
theorem dX11_hand_20 : decode cX11_hand 20 = .ok (.iconst 1, 1) := by decide +kernel
theorem dX11_hand_21 : decode cX11_hand 21 = .ok (.iadd, 1) := by decide +kernel
theorem dX11_hand_22 : decode cX11_hand 22 = .ok (.aload_n 0, 1) := by decide +kernel
theorem dX11_hand_23 : decode cX11_hand 23 = .ok (.iload_n 1, 1) := by decide +kernel
theorem dX11_hand_24 : decode cX11_hand 24 = .ok (.invokevirtual 102, 3) := by decide +kernel
theorem dX11_hand_27 : decode cX11_hand 27 = .ok (.iastore, 1) := by decide +kernel
theorem dX11_hand_28 : decode cX11_hand 28 = .ok (.bipush 7, 2) := by decide +kernel
theorem dX11_hand_30 : decode cX11_hand 30 = .ok (.istore 5, 2) := by decide +kernel
theorem dX11_hand_32 : decode cX11_hand 32 = .ok (.iload 5, 2) := by decide +kernel
theorem dX11_hand_34 : decode cX11_hand 34 = .ok (.iconst 4, 1) := by decide +kernel
theorem dX11_hand_35 : decode cX11_hand 35 = .ok (.if_icmp .le 29, 3) := by decide +kernel
theorem dX11_hand_38 : decode cX11_hand 38 = .ok (.aload_n 0, 1) := by decide +kernel
theorem dX11_hand_39 : decode cX11_hand 39 = .ok (.getfield 19, 3) := by decide +kernel
theorem dX11_hand_42 : decode cX11_hand 42 = .ok (.iload_n 3, 1) := by decide +kernel
theorem dX11_hand_43 : decode cX11_hand 43 = .ok (.iload 5, 2) := by decide +kernel
theorem dX11_hand_45 : decode cX11_hand 45 = .ok (.iadd, 1) := by decide +kernel
theorem dX11_hand_46 : decode cX11_hand 46 = .ok (.aload_n 0, 1) := by decide +kernel
theorem dX11_hand_47 : decode cX11_hand 47 = .ok (.getfield 19, 3) := by decide +kernel
theorem dX11_hand_50 : decode cX11_hand 50 = .ok (.iload_n 3, 1) := by decide +kernel
theorem dX11_hand_51 : decode cX11_hand 51 = .ok (.iload 5, 2) := by decide +kernel
theorem dX11_hand_53 : decode cX11_hand 53 = .ok (.iadd, 1) := by decide +kernel
theorem dX11_hand_54 : decode cX11_hand 54 = .ok (.iconst 1, 1) := by decide +kernel
theorem dX11_hand_55 : decode cX11_hand 55 = .ok (.isub, 1) := by decide +kernel
theorem dX11_hand_56 : decode cX11_hand 56 = .ok (.iaload, 1) := by decide +kernel
theorem dX11_hand_57 : decode cX11_hand 57 = .ok (.iastore, 1) := by decide +kernel
theorem dX11_hand_58 : decode cX11_hand 58 = .ok (.iinc 5 (-1), 3) := by decide +kernel
theorem dX11_hand_61 : decode cX11_hand 61 = .ok (.goto (-29), 3) := by decide +kernel
theorem dX11_hand_64 : decode cX11_hand 64 = .ok (.aload_n 0, 1) := by decide +kernel
theorem dX11_hand_65 : decode cX11_hand 65 = .ok (.getfield 19, 3) := by decide +kernel
theorem dX11_hand_68 : decode cX11_hand 68 = .ok (.iload_n 3, 1) := by decide +kernel
theorem dX11_hand_69 : decode cX11_hand 69 = .ok (.iconst 4, 1) := by decide +kernel
theorem dX11_hand_70 : decode cX11_hand 70 = .ok (.iadd, 1) := by decide +kernel
theorem dX11_hand_71 : decode cX11_hand 71 = .ok (.aload_n 0, 1) := by decide +kernel
theorem dX11_hand_72 : decode cX11_hand 72 = .ok (.getfield 19, 3) := by decide +kernel
theorem dX11_hand_75 : decode cX11_hand 75 = .ok (.iload_n 3, 1) := by decide +kernel
theorem dX11_hand_76 : decode cX11_hand 76 = .ok (.iconst 2, 1) := by decide +kernel
theorem dX11_hand_77 : decode cX11_hand 77 = .ok (.iadd, 1) := by decide +kernel
theorem dX11_hand_78 : decode cX11_hand 78 = .ok (.iaload, 1) := by decide +kernel
theorem dX11_hand_79 : decode cX11_hand 79 = .ok (.iastore, 1) := by decide +kernel
theorem dX11_hand_80 : decode cX11_hand 80 = .ok (.aload_n 0, 1) := by decide +kernel
theorem dX11_hand_81 : decode cX11_hand 81 = .ok (.getfield 19, 3) := by decide +kernel
theorem dX11_hand_84 : decode cX11_hand 84 = .ok (.iload_n 3, 1) := by decide +kernel
theorem dX11_hand_85 : decode cX11_hand 85 = .ok (.iconst 2, 1) := by decide +kernel
theorem dX11_hand_86 : decode cX11_hand 86 = .ok (.iadd, 1) := by decide +kernel
theorem dX11_hand_87 : decode cX11_hand 87 = .ok (.iload_n 2, 1) := by decide +kernel
theorem dX11_hand_88 : decode cX11_hand 88 = .ok (.iastore, 1) := by decide +kernel
theorem dX11_hand_89 : decode cX11_hand 89 = .ok (.iload 4, 2) := by decide +kernel
theorem dX11_hand_91 : decode cX11_hand 91 = .ok (.aload_n 0, 1) := by decide +kernel
theorem dX11_hand_92 : decode cX11_hand 92 = .ok (.getfield 19, 3) := by decide +kernel
theorem dX11_hand_95 : decode cX11_hand 95 = .ok (.iload_n 3, 1) := by decide +kernel
theorem dX11_hand_96 : decode cX11_hand 96 = .ok (.iconst 1, 1) := by decide +kernel
theorem dX11_hand_97 : decode cX11_hand 97 = .ok (.iadd, 1) := by decide +kernel
theorem dX11_hand_98 : decode cX11_hand 98 = .ok (.iaload, 1) := by decide +kernel
theorem dX11_hand_99 : decode cX11_hand 99 = .ok (.isub, 1) := by decide +kernel
theorem dX11_hand_100 : decode cX11_hand 100 = .ok (.ireturn, 1) := by decide +kernel
set_option maxRecDepth 20000 in
theorem ggX11_pay_X11_isFrond : GoodIn wsX11_pay wsX11_isFrond := goodIn_r _ [8, 9, 10, 11, 7, 12, 28, 29, 30, 31, 32, 33, 34, 35, 36, 37, 38, 39, 40, 41, 42, 43, 44, 45, 46, 47, 48, 49, 50, 51, 52] (by decide +kernel) (by decide +kernel)
set_option maxRecDepth 20000 in
theorem gX11_pay_X11_isFrond : GoodIn wsX11_pay (wsV RX11 107 RX11 yX11_isFrond wsX11_isFrond) := goodIn_app (goodIn_of _ (by decide +kernel)) ggX11_pay_X11_isFrond
set_option maxRecDepth 20000 in
theorem ggX11_pay_X11_isPerson : GoodIn wsX11_pay wsX11_isPerson := goodIn_r _ [15, 16, 10, 11, 7, 12] (by decide +kernel) (by decide +kernel)
set_option maxRecDepth 20000 in
theorem gX11_pay_X11_isPerson : GoodIn wsX11_pay (va_wsS RX11 91 yX11_isPerson wsX11_isPerson) := goodIn_app (goodIn_of _ (by decide +kernel)) ggX11_pay_X11_isPerson
set_option maxRecDepth 20000 in
theorem ggX11_pay_X11_hand : GoodIn wsX11_pay wsX11_hand := goodIn_r _ [20, 1, 21, 22, 23, 7, 24, 25, 26, 27, 28, 29, 30, 31, 32, 33, 34, 35, 36, 37, 38, 39, 40, 41, 42, 43, 44, 45, 46, 47, 48, 49, 50, 51, 52] (by decide +kernel) (by decide +kernel)
set_option maxRecDepth 20000 in
theorem gX11_pay_X11_hand : GoodIn wsX11_pay (wsV RX11 117 RX11 yX11_hand wsX11_hand) := goodIn_app (goodIn_of _ (by decide +kernel)) ggX11_pay_X11_hand
theorem dX11_pay_0 : decode cX11_pay 0 = .ok (.aload_n 0, 1) := by decide +kernel
theorem dX11_pay_1 : decode cX11_pay 1 = .ok (.iload_n 1, 1) := by decide +kernel
theorem dX11_pay_2 : decode cX11_pay 2 = .ok (.invokevirtual 107, 3) := by decide +kernel
theorem dX11_pay_5 : decode cX11_pay 5 = .ok (.ifCond .eq 10, 3) := by decide +kernel
theorem dX11_pay_8 : decode cX11_pay 8 = .ok (.iload_n 2, 1) := by decide +kernel
theorem dX11_pay_9 : decode cX11_pay 9 = .ok (.invokestatic 91, 3) := by decide +kernel
theorem dX11_pay_12 : decode cX11_pay 12 = .ok (.ifCond .ne 6, 3) := by decide +kernel
theorem dX11_pay_15 : decode cX11_pay 15 = .ok (.bipush (-101), 2) := by decide +kernel
theorem dX11_pay_17 : decode cX11_pay 17 = .ok (.ireturn, 1) := by decide +kernel
theorem dX11_pay_18 : decode cX11_pay 18 = .ok (.aload_n 0, 1) := by decide +kernel
theorem dX11_pay_19 : decode cX11_pay 19 = .ok (.getfield 19, 3) := by decide +kernel
theorem dX11_pay_22 : decode cX11_pay 22 = .ok (.bipush 8, 2) := by decide +kernel
theorem dX11_pay_24 : decode cX11_pay 24 = .ok (.iload_n 1, 1) := by decide +kernel
theorem dX11_pay_25 : decode cX11_pay 25 = .ok (.imul, 1) := by decide +kernel
theorem dX11_pay_26 : decode cX11_pay 26 = .ok (.iconst 2, 1) := by decide +kernel
theorem dX11_pay_27 : decode cX11_pay 27 = .ok (.iadd, 1) := by decide +kernel
theorem dX11_pay_28 : decode cX11_pay 28 = .ok (.iaload, 1) := by decide +kernel
theorem dX11_pay_29 : decode cX11_pay 29 = .ok (.istore_n 3, 1) := by decide +kernel
theorem dX11_pay_30 : decode cX11_pay 30 = .ok (.iload_n 3, 1) := by decide +kernel
theorem dX11_pay_31 : decode cX11_pay 31 = .ok (.iconst (-1), 1) := by decide +kernel
theorem dX11_pay_32 : decode cX11_pay 32 = .ok (.if_icmp .eq 8, 3) := by decide +kernel
theorem dX11_pay_35 : decode cX11_pay 35 = .ok (.iload_n 3, 1) := by decide +kernel
theorem dX11_pay_36 : decode cX11_pay 36 = .ok (.iload_n 2, 1) := by decide +kernel
theorem dX11_pay_37 : decode cX11_pay 37 = .ok (.if_icmp .ne 6, 3) := by decide +kernel
theorem dX11_pay_40 : decode cX11_pay 40 = .ok (.bipush (-103), 2) := by decide +kernel
theorem dX11_pay_42 : decode cX11_pay 42 = .ok (.ireturn, 1) := by decide +kernel
theorem dX11_pay_43 : decode cX11_pay 43 = .ok (.aload_n 0, 1) := by decide +kernel
theorem dX11_pay_44 : decode cX11_pay 44 = .ok (.iload_n 1, 1) := by decide +kernel
theorem dX11_pay_45 : decode cX11_pay 45 = .ok (.iload_n 2, 1) := by decide +kernel
theorem dX11_pay_46 : decode cX11_pay 46 = .ok (.invokevirtual 117, 3) := by decide +kernel
theorem dX11_pay_49 : decode cX11_pay 49 = .ok (.istore 4, 2) := by decide +kernel
theorem dX11_pay_51 : decode cX11_pay 51 = .ok (.aload_n 0, 1) := by decide +kernel
theorem dX11_pay_52 : decode cX11_pay 52 = .ok (.dup, 1) := by decide +kernel
theorem dX11_pay_53 : decode cX11_pay 53 = .ok (.getfield 120, 3) := by decide +kernel
theorem dX11_pay_56 : decode cX11_pay 56 = .ok (.iload 4, 2) := by decide +kernel
theorem dX11_pay_58 : decode cX11_pay 58 = .ok (.iadd, 1) := by decide +kernel
theorem dX11_pay_59 : decode cX11_pay 59 = .ok (.putfield 120, 3) := by decide +kernel
theorem dX11_pay_62 : decode cX11_pay 62 = .ok (.aload_n 0, 1) := by decide +kernel
theorem dX11_pay_63 : decode cX11_pay 63 = .ok (.getfield 19, 3) := by decide +kernel
theorem dX11_pay_66 : decode cX11_pay 66 = .ok (.bipush 8, 2) := by decide +kernel
theorem dX11_pay_68 : decode cX11_pay 68 = .ok (.iload_n 1, 1) := by decide +kernel
theorem dX11_pay_69 : decode cX11_pay 69 = .ok (.imul, 1) := by decide +kernel
theorem dX11_pay_70 : decode cX11_pay 70 = .ok (.iconst 1, 1) := by decide +kernel
theorem dX11_pay_71 : decode cX11_pay 71 = .ok (.iadd, 1) := by decide +kernel
theorem dX11_pay_72 : decode cX11_pay 72 = .ok (.iaload, 1) := by decide +kernel
theorem dX11_pay_73 : decode cX11_pay 73 = .ok (.istore 5, 2) := by decide +kernel
theorem dX11_pay_75 : decode cX11_pay 75 = .ok (.aload_n 0, 1) := by decide +kernel
theorem dX11_pay_76 : decode cX11_pay 76 = .ok (.getfield 22, 3) := by decide +kernel
theorem dX11_pay_79 : decode cX11_pay 79 = .ok (.bipush 6, 2) := by decide +kernel
theorem dX11_pay_81 : decode cX11_pay 81 = .ok (.iload_n 3, 1) := by decide +kernel
theorem dX11_pay_82 : decode cX11_pay 82 = .ok (.imul, 1) := by decide +kernel
theorem dX11_pay_83 : decode cX11_pay 83 = .ok (.iload_n 2, 1) := by decide +kernel
theorem dX11_pay_84 : decode cX11_pay 84 = .ok (.iadd, 1) := by decide +kernel
theorem dX11_pay_85 : decode cX11_pay 85 = .ok (.iaload, 1) := by decide +kernel
theorem dX11_pay_86 : decode cX11_pay 86 = .ok (.iload 5, 2) := by decide +kernel
theorem dX11_pay_88 : decode cX11_pay 88 = .ok (.isub, 1) := by decide +kernel
theorem dX11_pay_89 : decode cX11_pay 89 = .ok (.istore 6, 2) := by decide +kernel
theorem dX11_pay_91 : decode cX11_pay 91 = .ok (.aload_n 0, 1) := by decide +kernel
theorem dX11_pay_92 : decode cX11_pay 92 = .ok (.getfield 22, 3) := by decide +kernel
theorem dX11_pay_95 : decode cX11_pay 95 = .ok (.bipush 6, 2) := by decide +kernel
theorem dX11_pay_97 : decode cX11_pay 97 = .ok (.iload_n 3, 1) := by decide +kernel
theorem dX11_pay_98 : decode cX11_pay 98 = .ok (.imul, 1) := by decide +kernel
theorem dX11_pay_99 : decode cX11_pay 99 = .ok (.iload_n 2, 1) := by decide +kernel
theorem dX11_pay_100 : decode cX11_pay 100 = .ok (.iadd, 1) := by decide +kernel
theorem dX11_pay_101 : decode cX11_pay 101 = .ok (.iload 6, 2) := by decide +kernel
theorem dX11_pay_103 : decode cX11_pay 103 = .ok (.ifCond .ge 7, 3) := by decide +kernel
theorem dX11_pay_106 : decode cX11_pay 106 = .ok (.iconst 0, 1) := by decide +kernel
theorem dX11_pay_107 : decode cX11_pay 107 = .ok (.goto 5, 3) := by decide +kernel
theorem dX11_pay_110 : decode cX11_pay 110 = .ok (.iload 6, 2) := by decide +kernel
theorem dX11_pay_112 : decode cX11_pay 112 = .ok (.iastore, 1) := by decide +kernel
theorem dX11_pay_113 : decode cX11_pay 113 = .ok (.iload 5, 2) := by decide +kernel
theorem dX11_pay_115 : decode cX11_pay 115 = .ok (.ireturn, 1) := by decide +kernel
set_option maxRecDepth 20000 in
theorem ggX11_arePair_X11_isPerson : GoodIn wsX11_arePair wsX11_isPerson := goodIn_r _ [4, 5, 6, 7, 3, 8] (by decide +kernel) (by decide +kernel)
set_option maxRecDepth 20000 in
theorem gX11_arePair_X11_isPerson : GoodIn wsX11_arePair (va_wsS RX11 91 yX11_isPerson wsX11_isPerson) := goodIn_app (goodIn_of _ (by decide +kernel)) ggX11_arePair_X11_isPerson
theorem dX11_arePair_0 : decode cX11_arePair 0 = .ok (.iload_n 0, 1) := by decide +kernel
theorem dX11_arePair_1 : decode cX11_arePair 1 = .ok (.invokestatic 91, 3) := by decide +kernel
theorem dX11_arePair_4 : decode cX11_arePair 4 = .ok (.ifCond .eq 19, 3) := by decide +kernel
theorem dX11_arePair_7 : decode cX11_arePair 7 = .ok (.iload_n 1, 1) := by decide +kernel
theorem dX11_arePair_8 : decode cX11_arePair 8 = .ok (.invokestatic 91, 3) := by decide +kernel
theorem dX11_arePair_11 : decode cX11_arePair 11 = .ok (.ifCond .eq 12, 3) := by decide +kernel
theorem dX11_arePair_14 : decode cX11_arePair 14 = .ok (.iload_n 0, 1) := by decide +kernel
theorem dX11_arePair_15 : decode cX11_arePair 15 = .ok (.iload_n 1, 1) := by decide +kernel
theorem dX11_arePair_16 : decode cX11_arePair 16 = .ok (.if_icmp .eq 7, 3) := by decide +kernel
theorem dX11_arePair_19 : decode cX11_arePair 19 = .ok (.iconst 1, 1) := by decide +kernel
theorem dX11_arePair_20 : decode cX11_arePair 20 = .ok (.goto 4, 3) := by decide +kernel
theorem dX11_arePair_23 : decode cX11_arePair 23 = .ok (.iconst 0, 1) := by decide +kernel
theorem dX11_arePair_24 : decode cX11_arePair 24 = .ok (.ireturn, 1) := by decide +kernel
set_option maxRecDepth 20000 in
theorem ggX11_debt_X11_arePair : GoodIn wsX11_debt wsX11_arePair := goodIn_r _ [6, 7, 8, 5, 9, 10, 11, 12, 13] (by decide +kernel) (by decide +kernel)
set_option maxRecDepth 20000 in
theorem gX11_debt_X11_arePair : GoodIn wsX11_debt (va_wsS RX11 123 yX11_arePair wsX11_arePair) := goodIn_app (goodIn_of _ (by decide +kernel)) ggX11_debt_X11_arePair
set_option maxRecDepth 20000 in
theorem ggX11_debt_X11_in : GoodIn wsX11_debt wsX11_in := goodIn_r _ [13] (by decide +kernel) (by decide +kernel)
set_option maxRecDepth 20000 in
theorem gX11_debt_X11_in : GoodIn wsX11_debt (va_wsS RX11 74 yX11_in wsX11_in) := goodIn_app (goodIn_of _ (by decide +kernel)) ggX11_debt_X11_in
theorem dX11_debt_0 : decode cX11_debt 0 = .ok (.iload_n 1, 1) := by decide +kernel
theorem dX11_debt_1 : decode cX11_debt 1 = .ok (.iload_n 2, 1) := by decide +kernel
theorem dX11_debt_2 : decode cX11_debt 2 = .ok (.invokestatic 123, 3) := by decide +kernel
theorem dX11_debt_5 : decode cX11_debt 5 = .ok (.ifCond .ne 6, 3) := by decide +kernel
theorem dX11_debt_8 : decode cX11_debt 8 = .ok (.bipush (-101), 2) := by decide +kernel
theorem dX11_debt_10 : decode cX11_debt 10 = .ok (.ireturn, 1) := by decide +kernel
theorem dX11_debt_11 : decode cX11_debt 11 = .ok (.iload_n 3, 1) := by decide +kernel
theorem dX11_debt_12 : decode cX11_debt 12 = .ok (.i2l, 1) := by decide +kernel
theorem dX11_debt_13 : decode cX11_debt 13 = .ok (.lconst 0, 1) := by decide +kernel
theorem dX11_debt_14 : decode cX11_debt 14 = .ok (.ldc2_w 127, 3) := by decide +kernel
theorem dX11_debt_17 : decode cX11_debt 17 = .ok (.invokestatic 74, 3) := by decide +kernel
theorem dX11_debt_20 : decode cX11_debt 20 = .ok (.ifCond .ne 6, 3) := by decide +kernel
theorem dX11_debt_23 : decode cX11_debt 23 = .ok (.bipush (-102), 2) := by decide +kernel
theorem dX11_debt_25 : decode cX11_debt 25 = .ok (.ireturn, 1) := by decide +kernel
theorem dX11_debt_26 : decode cX11_debt 26 = .ok (.aload_n 0, 1) := by decide +kernel
theorem dX11_debt_27 : decode cX11_debt 27 = .ok (.getfield 22, 3) := by decide +kernel
theorem dX11_debt_30 : decode cX11_debt 30 = .ok (.bipush 6, 2) := by decide +kernel
theorem dX11_debt_32 : decode cX11_debt 32 = .ok (.iload_n 1, 1) := by decide +kernel
theorem dX11_debt_33 : decode cX11_debt 33 = .ok (.imul, 1) := by decide +kernel
theorem dX11_debt_34 : decode cX11_debt 34 = .ok (.iload_n 2, 1) := by decide +kernel
theorem dX11_debt_35 : decode cX11_debt 35 = .ok (.iadd, 1) := by decide +kernel
theorem dX11_debt_36 : decode cX11_debt 36 = .ok (.iaload, 1) := by decide +kernel
theorem dX11_debt_37 : decode cX11_debt 37 = .ok (.istore 4, 2) := by decide +kernel
theorem dX11_debt_39 : decode cX11_debt 39 = .ok (.aload_n 0, 1) := by decide +kernel
theorem dX11_debt_40 : decode cX11_debt 40 = .ok (.getfield 22, 3) := by decide +kernel
theorem dX11_debt_43 : decode cX11_debt 43 = .ok (.bipush 6, 2) := by decide +kernel
theorem dX11_debt_45 : decode cX11_debt 45 = .ok (.iload_n 1, 1) := by decide +kernel
theorem dX11_debt_46 : decode cX11_debt 46 = .ok (.imul, 1) := by decide +kernel
theorem dX11_debt_47 : decode cX11_debt 47 = .ok (.iload_n 2, 1) := by decide +kernel
theorem dX11_debt_48 : decode cX11_debt 48 = .ok (.iadd, 1) := by decide +kernel
theorem dX11_debt_49 : decode cX11_debt 49 = .ok (.iload_n 3, 1) := by decide +kernel
theorem dX11_debt_50 : decode cX11_debt 50 = .ok (.iastore, 1) := by decide +kernel
theorem dX11_debt_51 : decode cX11_debt 51 = .ok (.iload 4, 2) := by decide +kernel
theorem dX11_debt_53 : decode cX11_debt 53 = .ok (.ireturn, 1) := by decide +kernel
set_option maxRecDepth 20000 in
theorem ggX11_owes_X11_arePair : GoodIn wsX11_owes wsX11_arePair := goodIn_r _ [5, 6, 7, 4, 8, 9, 10, 11, 12] (by decide +kernel) (by decide +kernel)
set_option maxRecDepth 20000 in
theorem gX11_owes_X11_arePair : GoodIn wsX11_owes (va_wsS RX11 123 yX11_arePair wsX11_arePair) := goodIn_app (goodIn_of _ (by decide +kernel)) ggX11_owes_X11_arePair
theorem dX11_owes_0 : decode cX11_owes 0 = .ok (.iload_n 1, 1) := by decide +kernel
theorem dX11_owes_1 : decode cX11_owes 1 = .ok (.iload_n 2, 1) := by decide +kernel
theorem dX11_owes_2 : decode cX11_owes 2 = .ok (.invokestatic 123, 3) := by decide +kernel
theorem dX11_owes_5 : decode cX11_owes 5 = .ok (.ifCond .eq 17, 3) := by decide +kernel
theorem dX11_owes_8 : decode cX11_owes 8 = .ok (.aload_n 0, 1) := by decide +kernel
theorem dX11_owes_9 : decode cX11_owes 9 = .ok (.getfield 22, 3) := by decide +kernel
theorem dX11_owes_12 : decode cX11_owes 12 = .ok (.bipush 6, 2) := by decide +kernel
theorem dX11_owes_14 : decode cX11_owes 14 = .ok (.iload_n 1, 1) := by decide +kernel
theorem dX11_owes_15 : decode cX11_owes 15 = .ok (.imul, 1) := by decide +kernel
theorem dX11_owes_16 : decode cX11_owes 16 = .ok (.iload_n 2, 1) := by decide +kernel
theorem dX11_owes_17 : decode cX11_owes 17 = .ok (.iadd, 1) := by decide +kernel
theorem dX11_owes_18 : decode cX11_owes 18 = .ok (.iaload, 1) := by decide +kernel
theorem dX11_owes_19 : decode cX11_owes 19 = .ok (.goto 5, 3) := by decide +kernel
theorem dX11_owes_22 : decode cX11_owes 22 = .ok (.bipush (-101), 2) := by decide +kernel
theorem dX11_owes_24 : decode cX11_owes 24 = .ok (.ireturn, 1) := by decide +kernel
set_option maxRecDepth 20000 in
theorem ggX11_bank_X11_isFrond : GoodIn wsX11_bank wsX11_isFrond := goodIn_r _ [7, 8, 9, 10, 6, 11, 23, 24, 25, 26, 27, 28, 29, 30, 31, 32, 33, 34, 35, 36, 37, 38, 39, 40, 41, 42, 43, 44, 45, 46, 47] (by decide +kernel) (by decide +kernel)
set_option maxRecDepth 20000 in
theorem gX11_bank_X11_isFrond : GoodIn wsX11_bank (wsV RX11 107 RX11 yX11_isFrond wsX11_isFrond) := goodIn_app (goodIn_of _ (by decide +kernel)) ggX11_bank_X11_isFrond
set_option maxRecDepth 20000 in
theorem ggX11_bank_X11_hand : GoodIn wsX11_bank wsX11_hand := goodIn_r _ [15, 1, 16, 17, 18, 6, 19, 20, 21, 22, 23, 24, 25, 26, 27, 28, 29, 30, 31, 32, 33, 34, 35, 36, 37, 38, 39, 40, 41, 42, 43, 44, 45, 46, 47] (by decide +kernel) (by decide +kernel)
set_option maxRecDepth 20000 in
theorem gX11_bank_X11_hand : GoodIn wsX11_bank (wsV RX11 117 RX11 yX11_hand wsX11_hand) := goodIn_app (goodIn_of _ (by decide +kernel)) ggX11_bank_X11_hand
theorem dX11_bank_0 : decode cX11_bank 0 = .ok (.aload_n 0, 1) := by decide +kernel
theorem dX11_bank_1 : decode cX11_bank 1 = .ok (.iload_n 1, 1) := by decide +kernel
theorem dX11_bank_2 : decode cX11_bank 2 = .ok (.invokevirtual 107, 3) := by decide +kernel
theorem dX11_bank_5 : decode cX11_bank 5 = .ok (.ifCond .ne 6, 3) := by decide +kernel
theorem dX11_bank_8 : decode cX11_bank 8 = .ok (.bipush (-101), 2) := by decide +kernel
theorem dX11_bank_10 : decode cX11_bank 10 = .ok (.ireturn, 1) := by decide +kernel
theorem dX11_bank_11 : decode cX11_bank 11 = .ok (.aload_n 0, 1) := by decide +kernel
theorem dX11_bank_12 : decode cX11_bank 12 = .ok (.getfield 19, 3) := by decide +kernel
theorem dX11_bank_15 : decode cX11_bank 15 = .ok (.bipush 8, 2) := by decide +kernel
theorem dX11_bank_17 : decode cX11_bank 17 = .ok (.iload_n 1, 1) := by decide +kernel
theorem dX11_bank_18 : decode cX11_bank 18 = .ok (.imul, 1) := by decide +kernel
theorem dX11_bank_19 : decode cX11_bank 19 = .ok (.iconst 2, 1) := by decide +kernel
theorem dX11_bank_20 : decode cX11_bank 20 = .ok (.iadd, 1) := by decide +kernel
theorem dX11_bank_21 : decode cX11_bank 21 = .ok (.iaload, 1) := by decide +kernel
theorem dX11_bank_22 : decode cX11_bank 22 = .ok (.iconst (-1), 1) := by decide +kernel
theorem dX11_bank_23 : decode cX11_bank 23 = .ok (.if_icmp .ne 6, 3) := by decide +kernel
theorem dX11_bank_26 : decode cX11_bank 26 = .ok (.bipush (-103), 2) := by decide +kernel
theorem dX11_bank_28 : decode cX11_bank 28 = .ok (.ireturn, 1) := by decide +kernel
theorem dX11_bank_29 : decode cX11_bank 29 = .ok (.aload_n 0, 1) := by decide +kernel
theorem dX11_bank_30 : decode cX11_bank 30 = .ok (.iload_n 1, 1) := by decide +kernel
theorem dX11_bank_31 : decode cX11_bank 31 = .ok (.iconst (-1), 1) := by decide +kernel
theorem dX11_bank_32 : decode cX11_bank 32 = .ok (.invokevirtual 117, 3) := by decide +kernel
theorem dX11_bank_35 : decode cX11_bank 35 = .ok (.istore_n 2, 1) := by decide +kernel
theorem dX11_bank_36 : decode cX11_bank 36 = .ok (.aload_n 0, 1) := by decide +kernel
theorem dX11_bank_37 : decode cX11_bank 37 = .ok (.dup, 1) := by decide +kernel
theorem dX11_bank_38 : decode cX11_bank 38 = .ok (.getfield 120, 3) := by decide +kernel
theorem dX11_bank_41 : decode cX11_bank 41 = .ok (.iload_n 2, 1) := by decide +kernel
theorem dX11_bank_42 : decode cX11_bank 42 = .ok (.iadd, 1) := by decide +kernel
theorem dX11_bank_43 : decode cX11_bank 43 = .ok (.putfield 120, 3) := by decide +kernel
theorem dX11_bank_46 : decode cX11_bank 46 = .ok (.aload_n 0, 1) := by decide +kernel
theorem dX11_bank_47 : decode cX11_bank 47 = .ok (.getfield 19, 3) := by decide +kernel
theorem dX11_bank_50 : decode cX11_bank 50 = .ok (.bipush 8, 2) := by decide +kernel
theorem dX11_bank_52 : decode cX11_bank 52 = .ok (.iload_n 1, 1) := by decide +kernel
theorem dX11_bank_53 : decode cX11_bank 53 = .ok (.imul, 1) := by decide +kernel
theorem dX11_bank_54 : decode cX11_bank 54 = .ok (.iconst 1, 1) := by decide +kernel
theorem dX11_bank_55 : decode cX11_bank 55 = .ok (.iadd, 1) := by decide +kernel
theorem dX11_bank_56 : decode cX11_bank 56 = .ok (.iaload, 1) := by decide +kernel
theorem dX11_bank_57 : decode cX11_bank 57 = .ok (.ireturn, 1) := by decide +kernel
set_option maxRecDepth 20000 in
theorem ggX11_fetch_X11_isFrond : GoodIn wsX11_fetch wsX11_isFrond := goodIn_r _ [6, 7, 8, 9, 5, 10, 15, 16, 17, 18, 19, 20, 21, 22, 23, 24, 25, 26, 27, 28, 29, 30, 31, 32, 33, 34, 35, 36, 37, 38, 39] (by decide +kernel) (by decide +kernel)
set_option maxRecDepth 20000 in
theorem gX11_fetch_X11_isFrond : GoodIn wsX11_fetch (wsV RX11 107 RX11 yX11_isFrond wsX11_isFrond) := goodIn_app (goodIn_of _ (by decide +kernel)) ggX11_fetch_X11_isFrond
set_option maxRecDepth 20000 in
theorem ggX11_fetch_X11_isPerson : GoodIn wsX11_fetch wsX11_isPerson := goodIn_r _ [13, 14, 8, 9, 5, 10] (by decide +kernel) (by decide +kernel)
set_option maxRecDepth 20000 in
theorem gX11_fetch_X11_isPerson : GoodIn wsX11_fetch (va_wsS RX11 91 yX11_isPerson wsX11_isPerson) := goodIn_app (goodIn_of _ (by decide +kernel)) ggX11_fetch_X11_isPerson
theorem dX11_fetch_0 : decode cX11_fetch 0 = .ok (.aload_n 0, 1) := by decide +kernel
theorem dX11_fetch_1 : decode cX11_fetch 1 = .ok (.iload_n 1, 1) := by decide +kernel
theorem dX11_fetch_2 : decode cX11_fetch 2 = .ok (.invokevirtual 107, 3) := by decide +kernel
theorem dX11_fetch_5 : decode cX11_fetch 5 = .ok (.ifCond .eq 10, 3) := by decide +kernel
theorem dX11_fetch_8 : decode cX11_fetch 8 = .ok (.iload_n 2, 1) := by decide +kernel
theorem dX11_fetch_9 : decode cX11_fetch 9 = .ok (.invokestatic 91, 3) := by decide +kernel
theorem dX11_fetch_12 : decode cX11_fetch 12 = .ok (.ifCond .ne 6, 3) := by decide +kernel
theorem dX11_fetch_15 : decode cX11_fetch 15 = .ok (.bipush (-101), 2) := by decide +kernel
theorem dX11_fetch_17 : decode cX11_fetch 17 = .ok (.ireturn, 1) := by decide +kernel
theorem dX11_fetch_18 : decode cX11_fetch 18 = .ok (.aload_n 0, 1) := by decide +kernel
theorem dX11_fetch_19 : decode cX11_fetch 19 = .ok (.getfield 19, 3) := by decide +kernel
theorem dX11_fetch_22 : decode cX11_fetch 22 = .ok (.bipush 8, 2) := by decide +kernel
theorem dX11_fetch_24 : decode cX11_fetch 24 = .ok (.iload_n 1, 1) := by decide +kernel
theorem dX11_fetch_25 : decode cX11_fetch 25 = .ok (.imul, 1) := by decide +kernel
theorem dX11_fetch_26 : decode cX11_fetch 26 = .ok (.iconst 2, 1) := by decide +kernel
theorem dX11_fetch_27 : decode cX11_fetch 27 = .ok (.iadd, 1) := by decide +kernel
theorem dX11_fetch_28 : decode cX11_fetch 28 = .ok (.iaload, 1) := by decide +kernel
theorem dX11_fetch_29 : decode cX11_fetch 29 = .ok (.iconst (-1), 1) := by decide +kernel
theorem dX11_fetch_30 : decode cX11_fetch 30 = .ok (.if_icmp .eq 6, 3) := by decide +kernel
theorem dX11_fetch_33 : decode cX11_fetch 33 = .ok (.bipush (-103), 2) := by decide +kernel
theorem dX11_fetch_35 : decode cX11_fetch 35 = .ok (.ireturn, 1) := by decide +kernel
theorem dX11_fetch_36 : decode cX11_fetch 36 = .ok (.aload_n 0, 1) := by decide +kernel
theorem dX11_fetch_37 : decode cX11_fetch 37 = .ok (.getfield 19, 3) := by decide +kernel
theorem dX11_fetch_40 : decode cX11_fetch 40 = .ok (.bipush 8, 2) := by decide +kernel
theorem dX11_fetch_42 : decode cX11_fetch 42 = .ok (.iload_n 1, 1) := by decide +kernel
theorem dX11_fetch_43 : decode cX11_fetch 43 = .ok (.imul, 1) := by decide +kernel
theorem dX11_fetch_44 : decode cX11_fetch 44 = .ok (.iconst 2, 1) := by decide +kernel
theorem dX11_fetch_45 : decode cX11_fetch 45 = .ok (.iadd, 1) := by decide +kernel
theorem dX11_fetch_46 : decode cX11_fetch 46 = .ok (.iload_n 2, 1) := by decide +kernel
theorem dX11_fetch_47 : decode cX11_fetch 47 = .ok (.iastore, 1) := by decide +kernel
theorem dX11_fetch_48 : decode cX11_fetch 48 = .ok (.aload_n 0, 1) := by decide +kernel
theorem dX11_fetch_49 : decode cX11_fetch 49 = .ok (.getfield 19, 3) := by decide +kernel
theorem dX11_fetch_52 : decode cX11_fetch 52 = .ok (.bipush 8, 2) := by decide +kernel
theorem dX11_fetch_54 : decode cX11_fetch 54 = .ok (.iload_n 1, 1) := by decide +kernel
theorem dX11_fetch_55 : decode cX11_fetch 55 = .ok (.imul, 1) := by decide +kernel
theorem dX11_fetch_56 : decode cX11_fetch 56 = .ok (.iconst 1, 1) := by decide +kernel
theorem dX11_fetch_57 : decode cX11_fetch 57 = .ok (.iadd, 1) := by decide +kernel
theorem dX11_fetch_58 : decode cX11_fetch 58 = .ok (.iaload, 1) := by decide +kernel
theorem dX11_fetch_59 : decode cX11_fetch 59 = .ok (.ireturn, 1) := by decide +kernel
set_option maxRecDepth 20000 in
theorem ggX11_mould_X11_byMould : GoodIn wsX11_mould wsX11_byMould := goodIn_r _ [6] (by decide +kernel) (by decide +kernel)
set_option maxRecDepth 20000 in
theorem gX11_mould_X11_byMould : GoodIn wsX11_mould (va_wsS RX11 129 yX11_byMould wsX11_byMould) := goodIn_app (goodIn_of _ (by decide +kernel)) ggX11_mould_X11_byMould
theorem dX11_mould_0 : decode cX11_mould 0 = .ok (.iconst 0, 1) := by decide +kernel
theorem dX11_mould_1 : decode cX11_mould 1 = .ok (.istore_n 1, 1) := by decide +kernel
theorem dX11_mould_2 : decode cX11_mould 2 = .ok (.iconst 0, 1) := by decide +kernel
theorem dX11_mould_3 : decode cX11_mould 3 = .ok (.istore_n 2, 1) := by decide +kernel
theorem dX11_mould_4 : decode cX11_mould 4 = .ok (.iload_n 2, 1) := by decide +kernel
theorem dX11_mould_5 : decode cX11_mould 5 = .ok (.aload_n 0, 1) := by decide +kernel
theorem dX11_mould_6 : decode cX11_mould 6 = .ok (.getfield 88, 3) := by decide +kernel
theorem dX11_mould_9 : decode cX11_mould 9 = .ok (.if_icmp .ge 80, 3) := by decide +kernel
theorem dX11_mould_12 : decode cX11_mould 12 = .ok (.aload_n 0, 1) := by decide +kernel
theorem dX11_mould_13 : decode cX11_mould 13 = .ok (.getfield 19, 3) := by decide +kernel
theorem dX11_mould_16 : decode cX11_mould 16 = .ok (.bipush 8, 2) := by decide +kernel
theorem dX11_mould_18 : decode cX11_mould 18 = .ok (.iload_n 2, 1) := by decide +kernel
theorem dX11_mould_19 : decode cX11_mould 19 = .ok (.imul, 1) := by decide +kernel
theorem dX11_mould_20 : decode cX11_mould 20 = .ok (.iconst 1, 1) := by decide +kernel
theorem dX11_mould_21 : decode cX11_mould 21 = .ok (.iadd, 1) := by decide +kernel
theorem dX11_mould_22 : decode cX11_mould 22 = .ok (.iaload, 1) := by decide +kernel
theorem dX11_mould_23 : decode cX11_mould 23 = .ok (.istore_n 3, 1) := by decide +kernel
theorem dX11_mould_24 : decode cX11_mould 24 = .ok (.aload_n 0, 1) := by decide +kernel
theorem dX11_mould_25 : decode cX11_mould 25 = .ok (.getfield 19, 3) := by decide +kernel
theorem dX11_mould_28 : decode cX11_mould 28 = .ok (.bipush 8, 2) := by decide +kernel
theorem dX11_mould_30 : decode cX11_mould 30 = .ok (.iload_n 2, 1) := by decide +kernel
theorem dX11_mould_31 : decode cX11_mould 31 = .ok (.imul, 1) := by decide +kernel
theorem dX11_mould_32 : decode cX11_mould 32 = .ok (.iconst 1, 1) := by decide +kernel
theorem dX11_mould_33 : decode cX11_mould 33 = .ok (.iadd, 1) := by decide +kernel
theorem dX11_mould_34 : decode cX11_mould 34 = .ok (.aload_n 0, 1) := by decide +kernel
theorem dX11_mould_35 : decode cX11_mould 35 = .ok (.getfield 19, 3) := by decide +kernel
theorem dX11_mould_38 : decode cX11_mould 38 = .ok (.bipush 8, 2) := by decide +kernel
theorem dX11_mould_40 : decode cX11_mould 40 = .ok (.iload_n 2, 1) := by decide +kernel
theorem dX11_mould_41 : decode cX11_mould 41 = .ok (.imul, 1) := by decide +kernel
theorem dX11_mould_42 : decode cX11_mould 42 = .ok (.iconst 2, 1) := by decide +kernel
theorem dX11_mould_43 : decode cX11_mould 43 = .ok (.iadd, 1) := by decide +kernel
theorem dX11_mould_44 : decode cX11_mould 44 = .ok (.iaload, 1) := by decide +kernel
theorem dX11_mould_45 : decode cX11_mould 45 = .ok (.iconst (-1), 1) := by decide +kernel
theorem dX11_mould_46 : decode cX11_mould 46 = .ok (.if_icmp .ne 7, 3) := by decide +kernel
theorem dX11_mould_49 : decode cX11_mould 49 = .ok (.iload_n 3, 1) := by decide +kernel
theorem dX11_mould_50 : decode cX11_mould 50 = .ok (.goto 16, 3) := by decide +kernel
theorem dX11_mould_53 : decode cX11_mould 53 = .ok (.aload_n 0, 1) := by decide +kernel
theorem dX11_mould_54 : decode cX11_mould 54 = .ok (.getfield 19, 3) := by decide +kernel
theorem dX11_mould_57 : decode cX11_mould 57 = .ok (.bipush 8, 2) := by decide +kernel
theorem dX11_mould_59 : decode cX11_mould 59 = .ok (.iload_n 2, 1) := by decide +kernel
theorem dX11_mould_60 : decode cX11_mould 60 = .ok (.imul, 1) := by decide +kernel
theorem dX11_mould_61 : decode cX11_mould 61 = .ok (.iaload, 1) := by decide +kernel
theorem dX11_mould_62 : decode cX11_mould 62 = .ok (.iload_n 3, 1) := by decide +kernel
theorem dX11_mould_63 : decode cX11_mould 63 = .ok (.invokestatic 129, 3) := by decide +kernel
theorem dX11_mould_66 : decode cX11_mould 66 = .ok (.iastore, 1) := by decide +kernel
theorem dX11_mould_67 : decode cX11_mould 67 = .ok (.iload_n 1, 1) := by decide +kernel
theorem dX11_mould_68 : decode cX11_mould 68 = .ok (.iload_n 3, 1) := by decide +kernel
theorem dX11_mould_69 : decode cX11_mould 69 = .ok (.aload_n 0, 1) := by decide +kernel
theorem dX11_mould_70 : decode cX11_mould 70 = .ok (.getfield 19, 3) := by decide +kernel
theorem dX11_mould_73 : decode cX11_mould 73 = .ok (.bipush 8, 2) := by decide +kernel
theorem dX11_mould_75 : decode cX11_mould 75 = .ok (.iload_n 2, 1) := by decide +kernel
theorem dX11_mould_76 : decode cX11_mould 76 = .ok (.imul, 1) := by decide +kernel
theorem dX11_mould_77 : decode cX11_mould 77 = .ok (.iconst 1, 1) := by decide +kernel
theorem dX11_mould_78 : decode cX11_mould 78 = .ok (.iadd, 1) := by decide +kernel
theorem dX11_mould_79 : decode cX11_mould 79 = .ok (.iaload, 1) := by decide +kernel
theorem dX11_mould_80 : decode cX11_mould 80 = .ok (.isub, 1) := by decide +kernel
theorem dX11_mould_81 : decode cX11_mould 81 = .ok (.iadd, 1) := by decide +kernel
theorem dX11_mould_82 : decode cX11_mould 82 = .ok (.istore_n 1, 1) := by decide +kernel
theorem dX11_mould_83 : decode cX11_mould 83 = .ok (.iinc 2 1, 3) := by decide +kernel
theorem dX11_mould_86 : decode cX11_mould 86 = .ok (.goto (-82), 3) := by decide +kernel
theorem dX11_mould_89 : decode cX11_mould 89 = .ok (.iload_n 1, 1) := by decide +kernel
theorem dX11_mould_90 : decode cX11_mould 90 = .ok (.ireturn, 1) := by decide +kernel
set_option maxRecDepth 20000 in
theorem ggX11_month_X11_mould : GoodIn wsX11_month wsX11_mould := goodIn_r _ [6, 7, 8, 9, 10, 5, 11, 12, 13, 14, 15, 16, 17, 18, 19, 20, 21, 22, 23, 24, 25, 26, 27, 28, 29, 30, 31, 32, 33, 34, 35, 36] (by decide +kernel) (by decide +kernel)
set_option maxRecDepth 20000 in
theorem gX11_month_X11_mould : GoodIn wsX11_month (wsV RX11 132 RX11 yX11_mould wsX11_mould) := goodIn_app (goodIn_of _ (by decide +kernel)) ggX11_month_X11_mould
theorem dX11_month_0 : decode cX11_month 0 = .ok (.iconst 0, 1) := by decide +kernel
theorem dX11_month_1 : decode cX11_month 1 = .ok (.istore_n 2, 1) := by decide +kernel
theorem dX11_month_2 : decode cX11_month 2 = .ok (.iload_n 1, 1) := by decide +kernel
theorem dX11_month_3 : decode cX11_month 3 = .ok (.ifCond .eq 8, 3) := by decide +kernel
theorem dX11_month_6 : decode cX11_month 6 = .ok (.aload_n 0, 1) := by decide +kernel
theorem dX11_month_7 : decode cX11_month 7 = .ok (.invokevirtual 132, 3) := by decide +kernel
theorem dX11_month_10 : decode cX11_month 10 = .ok (.istore_n 2, 1) := by decide +kernel
theorem dX11_month_11 : decode cX11_month 11 = .ok (.aload_n 0, 1) := by decide +kernel
theorem dX11_month_12 : decode cX11_month 12 = .ok (.dup, 1) := by decide +kernel
theorem dX11_month_13 : decode cX11_month 13 = .ok (.getfield 135, 3) := by decide +kernel
theorem dX11_month_16 : decode cX11_month 16 = .ok (.iload_n 2, 1) := by decide +kernel
theorem dX11_month_17 : decode cX11_month 17 = .ok (.iadd, 1) := by decide +kernel
theorem dX11_month_18 : decode cX11_month 18 = .ok (.putfield 135, 3) := by decide +kernel
theorem dX11_month_21 : decode cX11_month 21 = .ok (.iload_n 2, 1) := by decide +kernel
theorem dX11_month_22 : decode cX11_month 22 = .ok (.ireturn, 1) := by decide +kernel
set_option maxRecDepth 20000 in
theorem ggX11_june_X11_begin : GoodIn wsX11_june wsX11_begin := goodIn_r _ [7, 1, 2, 8, 9, 10, 11, 12, 13, 14, 15, 16, 17, 18, 19, 20, 21, 22, 23, 24, 25, 26, 27, 28, 29, 30, 31, 32] (by decide +kernel) (by decide +kernel)
set_option maxRecDepth 20000 in
theorem gX11_june_X11_begin : GoodIn wsX11_june (wsV RX11 94 RX11 yX11_begin wsX11_begin) := goodIn_app (goodIn_of _ (by decide +kernel)) ggX11_june_X11_begin
theorem dX11_june_0 : decode cX11_june 0 = .ok (.aload_n 0, 1) := by decide +kernel
theorem dX11_june_1 : decode cX11_june 1 = .ok (.getfield 88, 3) := by decide +kernel
theorem dX11_june_4 : decode cX11_june 4 = .ok (.istore_n 1, 1) := by decide +kernel
theorem dX11_june_5 : decode cX11_june 5 = .ok (.iconst 0, 1) := by decide +kernel
theorem dX11_june_6 : decode cX11_june 6 = .ok (.istore_n 2, 1) := by decide +kernel
theorem dX11_june_7 : decode cX11_june 7 = .ok (.iload_n 2, 1) := by decide +kernel
theorem dX11_june_8 : decode cX11_june 8 = .ok (.bipush 6, 2) := by decide +kernel
theorem dX11_june_10 : decode cX11_june 10 = .ok (.if_icmp .ge 92, 3) := by decide +kernel
theorem dX11_june_13 : decode cX11_june 13 = .ok (.iconst 0, 1) := by decide +kernel
theorem dX11_june_14 : decode cX11_june 14 = .ok (.istore_n 3, 1) := by decide +kernel
theorem dX11_june_15 : decode cX11_june 15 = .ok (.iconst 0, 1) := by decide +kernel
theorem dX11_june_16 : decode cX11_june 16 = .ok (.istore 4, 2) := by decide +kernel
theorem dX11_june_18 : decode cX11_june 18 = .ok (.iload 4, 2) := by decide +kernel
theorem dX11_june_20 : decode cX11_june 20 = .ok (.iload_n 1, 1) := by decide +kernel
theorem dX11_june_21 : decode cX11_june 21 = .ok (.if_icmp .ge 52, 3) := by decide +kernel
theorem dX11_june_24 : decode cX11_june 24 = .ok (.iload_n 3, 1) := by decide +kernel
theorem dX11_june_25 : decode cX11_june 25 = .ok (.ifCond .ne 36, 3) := by decide +kernel
theorem dX11_june_28 : decode cX11_june 28 = .ok (.aload_n 0, 1) := by decide +kernel
theorem dX11_june_29 : decode cX11_june 29 = .ok (.getfield 19, 3) := by decide +kernel
theorem dX11_june_32 : decode cX11_june 32 = .ok (.bipush 8, 2) := by decide +kernel
theorem dX11_june_34 : decode cX11_june 34 = .ok (.iload 4, 2) := by decide +kernel
theorem dX11_june_36 : decode cX11_june 36 = .ok (.imul, 1) := by decide +kernel
theorem dX11_june_37 : decode cX11_june 37 = .ok (.iconst 2, 1) := by decide +kernel
theorem dX11_june_38 : decode cX11_june 38 = .ok (.iadd, 1) := by decide +kernel
theorem dX11_june_39 : decode cX11_june 39 = .ok (.iaload, 1) := by decide +kernel
theorem dX11_june_40 : decode cX11_june 40 = .ok (.iload_n 2, 1) := by decide +kernel
theorem dX11_june_41 : decode cX11_june 41 = .ok (.if_icmp .ne 24, 3) := by decide +kernel
theorem dX11_june_44 : decode cX11_june 44 = .ok (.aload_n 0, 1) := by decide +kernel
theorem dX11_june_45 : decode cX11_june 45 = .ok (.getfield 19, 3) := by decide +kernel
theorem dX11_june_48 : decode cX11_june 48 = .ok (.bipush 8, 2) := by decide +kernel
theorem dX11_june_50 : decode cX11_june 50 = .ok (.iload 4, 2) := by decide +kernel
theorem dX11_june_52 : decode cX11_june 52 = .ok (.imul, 1) := by decide +kernel
theorem dX11_june_53 : decode cX11_june 53 = .ok (.iconst 1, 1) := by decide +kernel
theorem dX11_june_54 : decode cX11_june 54 = .ok (.iadd, 1) := by decide +kernel
theorem dX11_june_55 : decode cX11_june 55 = .ok (.iaload, 1) := by decide +kernel
theorem dX11_june_56 : decode cX11_june 56 = .ok (.bipush 9, 2) := by decide +kernel
theorem dX11_june_58 : decode cX11_june 58 = .ok (.if_icmp .ne 7, 3) := by decide +kernel
theorem dX11_june_61 : decode cX11_june 61 = .ok (.iconst 1, 1) := by decide +kernel
theorem dX11_june_62 : decode cX11_june 62 = .ok (.goto 4, 3) := by decide +kernel
theorem dX11_june_65 : decode cX11_june 65 = .ok (.iconst 0, 1) := by decide +kernel
theorem dX11_june_66 : decode cX11_june 66 = .ok (.istore_n 3, 1) := by decide +kernel
theorem dX11_june_67 : decode cX11_june 67 = .ok (.iinc 4 1, 3) := by decide +kernel
theorem dX11_june_70 : decode cX11_june 70 = .ok (.goto (-52), 3) := by decide +kernel
theorem dX11_june_73 : decode cX11_june 73 = .ok (.iload_n 3, 1) := by decide +kernel
theorem dX11_june_74 : decode cX11_june 74 = .ok (.ifCond .eq 22, 3) := by decide +kernel
theorem dX11_june_77 : decode cX11_june 77 = .ok (.aload_n 0, 1) := by decide +kernel
theorem dX11_june_78 : decode cX11_june 78 = .ok (.getfield 88, 3) := by decide +kernel
theorem dX11_june_81 : decode cX11_june 81 = .ok (.bipush 10, 2) := by decide +kernel
theorem dX11_june_83 : decode cX11_june 83 = .ok (.if_icmp .ge 13, 3) := by decide +kernel
theorem dX11_june_86 : decode cX11_june 86 = .ok (.aload_n 0, 1) := by decide +kernel
theorem dX11_june_87 : decode cX11_june 87 = .ok (.iconst 0, 1) := by decide +kernel
theorem dX11_june_88 : decode cX11_june 88 = .ok (.bipush 9, 2) := by decide +kernel
theorem dX11_june_90 : decode cX11_june 90 = .ok (.iload_n 2, 1) := by decide +kernel
theorem dX11_june_91 : decode cX11_june 91 = .ok (.invokevirtual 94, 3) := by decide +kernel
theorem dX11_june_94 : decode cX11_june 94 = .ok (.istore 4, 2) := by decide +kernel
theorem dX11_june_96 : decode cX11_june 96 = .ok (.iinc 2 1, 3) := by decide +kernel
theorem dX11_june_99 : decode cX11_june 99 = .ok (.goto (-92), 3) := by decide +kernel
theorem dX11_june_102 : decode cX11_june 102 = .ok (.aload_n 0, 1) := by decide +kernel
theorem dX11_june_103 : decode cX11_june 103 = .ok (.getfield 88, 3) := by decide +kernel
theorem dX11_june_106 : decode cX11_june 106 = .ok (.iload_n 1, 1) := by decide +kernel
theorem dX11_june_107 : decode cX11_june 107 = .ok (.isub, 1) := by decide +kernel
theorem dX11_june_108 : decode cX11_june 108 = .ok (.ireturn, 1) := by decide +kernel
theorem dX11_ones_0 : decode cX11_ones 0 = .ok (.iconst 0, 1) := by decide +kernel
theorem dX11_ones_1 : decode cX11_ones 1 = .ok (.istore_n 1, 1) := by decide +kernel
theorem dX11_ones_2 : decode cX11_ones 2 = .ok (.iconst 0, 1) := by decide +kernel
theorem dX11_ones_3 : decode cX11_ones 3 = .ok (.istore_n 2, 1) := by decide +kernel
theorem dX11_ones_4 : decode cX11_ones 4 = .ok (.iload_n 2, 1) := by decide +kernel
theorem dX11_ones_5 : decode cX11_ones 5 = .ok (.bipush 10, 2) := by decide +kernel
theorem dX11_ones_7 : decode cX11_ones 7 = .ok (.if_icmp .ge 17, 3) := by decide +kernel
theorem dX11_ones_10 : decode cX11_ones 10 = .ok (.iload_n 1, 1) := by decide +kernel
theorem dX11_ones_11 : decode cX11_ones 11 = .ok (.iload_n 0, 1) := by decide +kernel
theorem dX11_ones_12 : decode cX11_ones 12 = .ok (.iload_n 2, 1) := by decide +kernel
theorem dX11_ones_13 : decode cX11_ones 13 = .ok (.ishr, 1) := by decide +kernel
theorem dX11_ones_14 : decode cX11_ones 14 = .ok (.iconst 1, 1) := by decide +kernel
theorem dX11_ones_15 : decode cX11_ones 15 = .ok (.iand, 1) := by decide +kernel
theorem dX11_ones_16 : decode cX11_ones 16 = .ok (.iadd, 1) := by decide +kernel
theorem dX11_ones_17 : decode cX11_ones 17 = .ok (.istore_n 1, 1) := by decide +kernel
theorem dX11_ones_18 : decode cX11_ones 18 = .ok (.iinc 2 1, 3) := by decide +kernel
theorem dX11_ones_21 : decode cX11_ones 21 = .ok (.goto (-17), 3) := by decide +kernel
theorem dX11_ones_24 : decode cX11_ones 24 = .ok (.iload_n 1, 1) := by decide +kernel
theorem dX11_ones_25 : decode cX11_ones 25 = .ok (.ireturn, 1) := by decide +kernel
set_option maxRecDepth 20000 in
theorem ggX11_leastOf_X11_worth : GoodIn wsX11_leastOf wsX11_worth := goodIn_r _ [7, 2, 8, 9, 6, 10, 14, 15, 16, 17, 18, 19, 20, 21, 22, 23, 24, 25, 26, 27, 28, 29, 30, 31, 32, 33, 34, 35, 36, 37, 38] (by decide +kernel) (by decide +kernel)
set_option maxRecDepth 20000 in
theorem gX11_leastOf_X11_worth : GoodIn wsX11_leastOf (wsV RX11 102 RX11 yX11_worth wsX11_worth) := goodIn_app (goodIn_of _ (by decide +kernel)) ggX11_leastOf_X11_worth
set_option maxRecDepth 20000 in
theorem ggX11_leastOf_X11_ones : GoodIn wsX11_leastOf wsX11_ones := goodIn_r _ [13] (by decide +kernel) (by decide +kernel)
set_option maxRecDepth 20000 in
theorem gX11_leastOf_X11_ones : GoodIn wsX11_leastOf (va_wsS RX11 138 yX11_ones wsX11_ones) := goodIn_app (goodIn_of _ (by decide +kernel)) ggX11_leastOf_X11_ones
theorem dX11_leastOf_0 : decode cX11_leastOf 0 = .ok (.iconst (-1), 1) := by decide +kernel
theorem dX11_leastOf_1 : decode cX11_leastOf 1 = .ok (.istore 4, 2) := by decide +kernel
theorem dX11_leastOf_3 : decode cX11_leastOf 3 = .ok (.iconst 0, 1) := by decide +kernel
theorem dX11_leastOf_4 : decode cX11_leastOf 4 = .ok (.istore 5, 2) := by decide +kernel
theorem dX11_leastOf_6 : decode cX11_leastOf 6 = .ok (.iconst 0, 1) := by decide +kernel
theorem dX11_leastOf_7 : decode cX11_leastOf 7 = .ok (.istore 6, 2) := by decide +kernel
theorem dX11_leastOf_9 : decode cX11_leastOf 9 = .ok (.iload 6, 2) := by decide +kernel
theorem dX11_leastOf_11 : decode cX11_leastOf 11 = .ok (.iconst 1, 1) := by decide +kernel
theorem dX11_leastOf_12 : decode cX11_leastOf 12 = .ok (.aload_n 0, 1) := by decide +kernel
theorem dX11_leastOf_13 : decode cX11_leastOf 13 = .ok (.getfield 88, 3) := by decide +kernel
theorem dX11_leastOf_16 : decode cX11_leastOf 16 = .ok (.ishl, 1) := by decide +kernel
theorem dX11_leastOf_17 : decode cX11_leastOf 17 = .ok (.if_icmp .ge 167, 3) := by decide +kernel
theorem dX11_leastOf_20 : decode cX11_leastOf 20 = .ok (.iconst 0, 1) := by decide +kernel
theorem dX11_leastOf_21 : decode cX11_leastOf 21 = .ok (.istore 7, 2) := by decide +kernel
theorem dX11_leastOf_23 : decode cX11_leastOf 23 = .ok (.iconst 0, 1) := by decide +kernel
theorem dX11_leastOf_24 : decode cX11_leastOf 24 = .ok (.istore 8, 2) := by decide +kernel
theorem dX11_leastOf_26 : decode cX11_leastOf 26 = .ok (.iconst 1, 1) := by decide +kernel
theorem dX11_leastOf_27 : decode cX11_leastOf 27 = .ok (.istore 9, 2) := by decide +kernel
theorem dX11_leastOf_29 : decode cX11_leastOf 29 = .ok (.iconst 0, 1) := by decide +kernel
theorem dX11_leastOf_30 : decode cX11_leastOf 30 = .ok (.istore 10, 2) := by decide +kernel
theorem dX11_leastOf_32 : decode cX11_leastOf 32 = .ok (.iload 10, 2) := by decide +kernel
theorem dX11_leastOf_34 : decode cX11_leastOf 34 = .ok (.aload_n 0, 1) := by decide +kernel
theorem dX11_leastOf_35 : decode cX11_leastOf 35 = .ok (.getfield 88, 3) := by decide +kernel
theorem dX11_leastOf_38 : decode cX11_leastOf 38 = .ok (.if_icmp .ge 76, 3) := by decide +kernel
theorem dX11_leastOf_41 : decode cX11_leastOf 41 = .ok (.iload 6, 2) := by decide +kernel
theorem dX11_leastOf_43 : decode cX11_leastOf 43 = .ok (.iload 10, 2) := by decide +kernel
theorem dX11_leastOf_45 : decode cX11_leastOf 45 = .ok (.ishr, 1) := by decide +kernel
theorem dX11_leastOf_46 : decode cX11_leastOf 46 = .ok (.iconst 1, 1) := by decide +kernel
theorem dX11_leastOf_47 : decode cX11_leastOf 47 = .ok (.iand, 1) := by decide +kernel
theorem dX11_leastOf_48 : decode cX11_leastOf 48 = .ok (.iconst 1, 1) := by decide +kernel
theorem dX11_leastOf_49 : decode cX11_leastOf 49 = .ok (.if_icmp .ne 59, 3) := by decide +kernel
theorem dX11_leastOf_52 : decode cX11_leastOf 52 = .ok (.iload 9, 2) := by decide +kernel
theorem dX11_leastOf_54 : decode cX11_leastOf 54 = .ok (.ifCond .eq 23, 3) := by decide +kernel
theorem dX11_leastOf_57 : decode cX11_leastOf 57 = .ok (.aload_n 0, 1) := by decide +kernel
theorem dX11_leastOf_58 : decode cX11_leastOf 58 = .ok (.getfield 19, 3) := by decide +kernel
theorem dX11_leastOf_61 : decode cX11_leastOf 61 = .ok (.bipush 8, 2) := by decide +kernel
theorem dX11_leastOf_63 : decode cX11_leastOf 63 = .ok (.iload 10, 2) := by decide +kernel
theorem dX11_leastOf_65 : decode cX11_leastOf 65 = .ok (.imul, 1) := by decide +kernel
theorem dX11_leastOf_66 : decode cX11_leastOf 66 = .ok (.iconst 2, 1) := by decide +kernel
theorem dX11_leastOf_67 : decode cX11_leastOf 67 = .ok (.iadd, 1) := by decide +kernel
theorem dX11_leastOf_68 : decode cX11_leastOf 68 = .ok (.iaload, 1) := by decide +kernel
theorem dX11_leastOf_69 : decode cX11_leastOf 69 = .ok (.iload_n 1, 1) := by decide +kernel
theorem dX11_leastOf_70 : decode cX11_leastOf 70 = .ok (.if_icmp .ne 7, 3) := by decide +kernel
theorem dX11_leastOf_73 : decode cX11_leastOf 73 = .ok (.iconst 1, 1) := by decide +kernel
theorem dX11_leastOf_74 : decode cX11_leastOf 74 = .ok (.goto 4, 3) := by decide +kernel
theorem dX11_leastOf_77 : decode cX11_leastOf 77 = .ok (.iconst 0, 1) := by decide +kernel
theorem dX11_leastOf_78 : decode cX11_leastOf 78 = .ok (.istore 9, 2) := by decide +kernel
theorem dX11_leastOf_80 : decode cX11_leastOf 80 = .ok (.iload 7, 2) := by decide +kernel
theorem dX11_leastOf_82 : decode cX11_leastOf 82 = .ok (.aload_n 0, 1) := by decide +kernel
theorem dX11_leastOf_83 : decode cX11_leastOf 83 = .ok (.getfield 19, 3) := by decide +kernel
theorem dX11_leastOf_86 : decode cX11_leastOf 86 = .ok (.bipush 8, 2) := by decide +kernel
theorem dX11_leastOf_88 : decode cX11_leastOf 88 = .ok (.iload 10, 2) := by decide +kernel
theorem dX11_leastOf_90 : decode cX11_leastOf 90 = .ok (.imul, 1) := by decide +kernel
theorem dX11_leastOf_91 : decode cX11_leastOf 91 = .ok (.iconst 1, 1) := by decide +kernel
theorem dX11_leastOf_92 : decode cX11_leastOf 92 = .ok (.iadd, 1) := by decide +kernel
theorem dX11_leastOf_93 : decode cX11_leastOf 93 = .ok (.iaload, 1) := by decide +kernel
theorem dX11_leastOf_94 : decode cX11_leastOf 94 = .ok (.iadd, 1) := by decide +kernel
theorem dX11_leastOf_95 : decode cX11_leastOf 95 = .ok (.istore 7, 2) := by decide +kernel
theorem dX11_leastOf_97 : decode cX11_leastOf 97 = .ok (.iload 8, 2) := by decide +kernel
theorem dX11_leastOf_99 : decode cX11_leastOf 99 = .ok (.aload_n 0, 1) := by decide +kernel
theorem dX11_leastOf_100 : decode cX11_leastOf 100 = .ok (.iload 10, 2) := by decide +kernel
theorem dX11_leastOf_102 : decode cX11_leastOf 102 = .ok (.invokevirtual 102, 3) := by decide +kernel
theorem dX11_leastOf_105 : decode cX11_leastOf 105 = .ok (.iadd, 1) := by decide +kernel
theorem dX11_leastOf_106 : decode cX11_leastOf 106 = .ok (.istore 8, 2) := by decide +kernel
theorem dX11_leastOf_108 : decode cX11_leastOf 108 = .ok (.iinc 10 1, 3) := by decide +kernel
theorem dX11_leastOf_111 : decode cX11_leastOf 111 = .ok (.goto (-79), 3) := by decide +kernel
theorem dX11_leastOf_114 : decode cX11_leastOf 114 = .ok (.iload 4, 2) := by decide +kernel
theorem dX11_leastOf_116 : decode cX11_leastOf 116 = .ok (.iconst (-1), 1) := by decide +kernel
theorem dX11_leastOf_117 : decode cX11_leastOf 117 = .ok (.if_icmp .eq 30, 3) := by decide +kernel
theorem dX11_leastOf_120 : decode cX11_leastOf 120 = .ok (.iload 7, 2) := by decide +kernel
theorem dX11_leastOf_122 : decode cX11_leastOf 122 = .ok (.iload 5, 2) := by decide +kernel
theorem dX11_leastOf_124 : decode cX11_leastOf 124 = .ok (.if_icmp .lt 23, 3) := by decide +kernel
theorem dX11_leastOf_127 : decode cX11_leastOf 127 = .ok (.iload 7, 2) := by decide +kernel
theorem dX11_leastOf_129 : decode cX11_leastOf 129 = .ok (.iload 5, 2) := by decide +kernel
theorem dX11_leastOf_131 : decode cX11_leastOf 131 = .ok (.if_icmp .ne 20, 3) := by decide +kernel
theorem dX11_leastOf_134 : decode cX11_leastOf 134 = .ok (.iload 6, 2) := by decide +kernel
theorem dX11_leastOf_136 : decode cX11_leastOf 136 = .ok (.invokestatic 138, 3) := by decide +kernel
theorem dX11_leastOf_139 : decode cX11_leastOf 139 = .ok (.iload 4, 2) := by decide +kernel
theorem dX11_leastOf_141 : decode cX11_leastOf 141 = .ok (.invokestatic 138, 3) := by decide +kernel
theorem dX11_leastOf_144 : decode cX11_leastOf 144 = .ok (.if_icmp .ge 7, 3) := by decide +kernel
theorem dX11_leastOf_147 : decode cX11_leastOf 147 = .ok (.iconst 1, 1) := by decide +kernel
theorem dX11_leastOf_148 : decode cX11_leastOf 148 = .ok (.goto 4, 3) := by decide +kernel
theorem dX11_leastOf_151 : decode cX11_leastOf 151 = .ok (.iconst 0, 1) := by decide +kernel
theorem dX11_leastOf_152 : decode cX11_leastOf 152 = .ok (.istore 10, 2) := by decide +kernel
theorem dX11_leastOf_154 : decode cX11_leastOf 154 = .ok (.iload 9, 2) := by decide +kernel
theorem dX11_leastOf_156 : decode cX11_leastOf 156 = .ok (.ifCond .eq 22, 3) := by decide +kernel
theorem dX11_leastOf_159 : decode cX11_leastOf 159 = .ok (.iload 8, 2) := by decide +kernel
theorem dX11_leastOf_161 : decode cX11_leastOf 161 = .ok (.iload_n 2, 1) := by decide +kernel
theorem dX11_leastOf_162 : decode cX11_leastOf 162 = .ok (.if_icmp .lt 16, 3) := by decide +kernel
theorem dX11_leastOf_165 : decode cX11_leastOf 165 = .ok (.iload 10, 2) := by decide +kernel
theorem dX11_leastOf_167 : decode cX11_leastOf 167 = .ok (.ifCond .eq 11, 3) := by decide +kernel
theorem dX11_leastOf_170 : decode cX11_leastOf 170 = .ok (.iload 6, 2) := by decide +kernel
theorem dX11_leastOf_172 : decode cX11_leastOf 172 = .ok (.istore 4, 2) := by decide +kernel
theorem dX11_leastOf_174 : decode cX11_leastOf 174 = .ok (.iload 7, 2) := by decide +kernel
theorem dX11_leastOf_176 : decode cX11_leastOf 176 = .ok (.istore 5, 2) := by decide +kernel
theorem dX11_leastOf_178 : decode cX11_leastOf 178 = .ok (.iinc 6 1, 3) := by decide +kernel
theorem dX11_leastOf_181 : decode cX11_leastOf 181 = .ok (.goto (-172), 3) := by decide +kernel
theorem dX11_leastOf_184 : decode cX11_leastOf 184 = .ok (.iload 4, 2) := by decide +kernel
theorem dX11_leastOf_186 : decode cX11_leastOf 186 = .ok (.iconst (-1), 1) := by decide +kernel
theorem dX11_leastOf_187 : decode cX11_leastOf 187 = .ok (.if_icmp .eq 8, 3) := by decide +kernel
theorem dX11_leastOf_190 : decode cX11_leastOf 190 = .ok (.iload_n 3, 1) := by decide +kernel
theorem dX11_leastOf_191 : decode cX11_leastOf 191 = .ok (.iconst 1, 1) := by decide +kernel
theorem dX11_leastOf_192 : decode cX11_leastOf 192 = .ok (.if_icmp .ne 8, 3) := by decide +kernel
theorem dX11_leastOf_195 : decode cX11_leastOf 195 = .ok (.iload 4, 2) := by decide +kernel
theorem dX11_leastOf_197 : decode cX11_leastOf 197 = .ok (.goto 5, 3) := by decide +kernel
theorem dX11_leastOf_200 : decode cX11_leastOf 200 = .ok (.iload 5, 2) := by decide +kernel
theorem dX11_leastOf_202 : decode cX11_leastOf 202 = .ok (.ireturn, 1) := by decide +kernel
set_option maxRecDepth 20000 in
theorem ggX11_least_X11_isPerson : GoodIn wsX11_least wsX11_isPerson := goodIn_r _ [5, 6, 7, 8, 4, 9] (by decide +kernel) (by decide +kernel)
set_option maxRecDepth 20000 in
theorem gX11_least_X11_isPerson : GoodIn wsX11_least (va_wsS RX11 91 yX11_isPerson wsX11_isPerson) := goodIn_app (goodIn_of _ (by decide +kernel)) ggX11_least_X11_isPerson
set_option maxRecDepth 20000 in
theorem ggX11_least_X11_in : GoodIn wsX11_least wsX11_in := goodIn_r _ [9] (by decide +kernel) (by decide +kernel)
set_option maxRecDepth 20000 in
theorem gX11_least_X11_in : GoodIn wsX11_least (va_wsS RX11 74 yX11_in wsX11_in) := goodIn_app (goodIn_of _ (by decide +kernel)) ggX11_least_X11_in
set_option maxRecDepth 20000 in
theorem ggX11_least_X11_leastOf : GoodIn wsX11_least wsX11_leastOf := goodIn_r _ [13, 14, 15, 16, 17, 18, 4, 19, 20, 21, 22, 23, 24, 25, 26, 27, 28, 29, 30, 31, 32, 33, 34, 35, 36, 37, 38, 39, 40, 41, 42, 43, 44, 45, 46, 47, 48, 49, 50] (by decide +kernel) (by decide +kernel)
set_option maxRecDepth 20000 in
theorem gX11_least_X11_leastOf : GoodIn wsX11_least (wsV RX11 141 RX11 yX11_leastOf wsX11_leastOf) := goodIn_app (goodIn_of _ (by decide +kernel)) ggX11_least_X11_leastOf
theorem dX11_least_0 : decode cX11_least 0 = .ok (.iload_n 1, 1) := by decide +kernel
theorem dX11_least_1 : decode cX11_least 1 = .ok (.invokestatic 91, 3) := by decide +kernel
theorem dX11_least_4 : decode cX11_least 4 = .ok (.ifCond .ne 6, 3) := by decide +kernel
theorem dX11_least_7 : decode cX11_least 7 = .ok (.bipush (-101), 2) := by decide +kernel
theorem dX11_least_9 : decode cX11_least 9 = .ok (.ireturn, 1) := by decide +kernel
theorem dX11_least_10 : decode cX11_least 10 = .ok (.iload_n 2, 1) := by decide +kernel
theorem dX11_least_11 : decode cX11_least 11 = .ok (.i2l, 1) := by decide +kernel
theorem dX11_least_12 : decode cX11_least 12 = .ok (.lconst 1, 1) := by decide +kernel
theorem dX11_least_13 : decode cX11_least 13 = .ok (.ldc2_w 127, 3) := by decide +kernel
theorem dX11_least_16 : decode cX11_least 16 = .ok (.invokestatic 74, 3) := by decide +kernel
theorem dX11_least_19 : decode cX11_least 19 = .ok (.ifCond .eq 23, 3) := by decide +kernel
theorem dX11_least_22 : decode cX11_least 22 = .ok (.iload_n 3, 1) := by decide +kernel
theorem dX11_least_23 : decode cX11_least 23 = .ok (.i2l, 1) := by decide +kernel
theorem dX11_least_24 : decode cX11_least 24 = .ok (.lconst 0, 1) := by decide +kernel
theorem dX11_least_25 : decode cX11_least 25 = .ok (.lconst 1, 1) := by decide +kernel
theorem dX11_least_26 : decode cX11_least 26 = .ok (.invokestatic 74, 3) := by decide +kernel
theorem dX11_least_29 : decode cX11_least 29 = .ok (.ifCond .eq 13, 3) := by decide +kernel
theorem dX11_least_32 : decode cX11_least 32 = .ok (.aload_n 0, 1) := by decide +kernel
theorem dX11_least_33 : decode cX11_least 33 = .ok (.iload_n 1, 1) := by decide +kernel
theorem dX11_least_34 : decode cX11_least 34 = .ok (.iload_n 2, 1) := by decide +kernel
theorem dX11_least_35 : decode cX11_least 35 = .ok (.iload_n 3, 1) := by decide +kernel
theorem dX11_least_36 : decode cX11_least 36 = .ok (.invokevirtual 141, 3) := by decide +kernel
theorem dX11_least_39 : decode cX11_least 39 = .ok (.goto 5, 3) := by decide +kernel
theorem dX11_least_42 : decode cX11_least 42 = .ok (.bipush (-102), 2) := by decide +kernel
theorem dX11_least_44 : decode cX11_least 44 = .ok (.ireturn, 1) := by decide +kernel
theorem dX11_isRing_0 : decode cX11_isRing 0 = .ok (.iconst 1, 1) := by decide +kernel
theorem dX11_isRing_1 : decode cX11_isRing 1 = .ok (.istore_n 2, 1) := by decide +kernel
theorem dX11_isRing_2 : decode cX11_isRing 2 = .ok (.iconst 0, 1) := by decide +kernel
theorem dX11_isRing_3 : decode cX11_isRing 3 = .ok (.istore_n 3, 1) := by decide +kernel
theorem dX11_isRing_4 : decode cX11_isRing 4 = .ok (.iconst 0, 1) := by decide +kernel
theorem dX11_isRing_5 : decode cX11_isRing 5 = .ok (.istore 4, 2) := by decide +kernel
theorem dX11_isRing_7 : decode cX11_isRing 7 = .ok (.iload 4, 2) := by decide +kernel
theorem dX11_isRing_9 : decode cX11_isRing 9 = .ok (.iload_n 1, 1) := by decide +kernel
theorem dX11_isRing_10 : decode cX11_isRing 10 = .ok (.if_icmp .ge 91, 3) := by decide +kernel
theorem dX11_isRing_13 : decode cX11_isRing 13 = .ok (.iload_n 2, 1) := by decide +kernel
theorem dX11_isRing_14 : decode cX11_isRing 14 = .ok (.ifCond .eq 67, 3) := by decide +kernel
theorem dX11_isRing_17 : decode cX11_isRing 17 = .ok (.iload_n 3, 1) := by decide +kernel
theorem dX11_isRing_18 : decode cX11_isRing 18 = .ok (.aload_n 0, 1) := by decide +kernel
theorem dX11_isRing_19 : decode cX11_isRing 19 = .ok (.getfield 28, 3) := by decide +kernel
theorem dX11_isRing_22 : decode cX11_isRing 22 = .ok (.iload 4, 2) := by decide +kernel
theorem dX11_isRing_24 : decode cX11_isRing 24 = .ok (.iaload, 1) := by decide +kernel
theorem dX11_isRing_25 : decode cX11_isRing 25 = .ok (.ishr, 1) := by decide +kernel
theorem dX11_isRing_26 : decode cX11_isRing 26 = .ok (.iconst 1, 1) := by decide +kernel
theorem dX11_isRing_27 : decode cX11_isRing 27 = .ok (.iand, 1) := by decide +kernel
theorem dX11_isRing_28 : decode cX11_isRing 28 = .ok (.ifCond .ne 53, 3) := by decide +kernel
theorem dX11_isRing_31 : decode cX11_isRing 31 = .ok (.aload_n 0, 1) := by decide +kernel
theorem dX11_isRing_32 : decode cX11_isRing 32 = .ok (.getfield 28, 3) := by decide +kernel
theorem dX11_isRing_35 : decode cX11_isRing 35 = .ok (.iload 4, 2) := by decide +kernel
theorem dX11_isRing_37 : decode cX11_isRing 37 = .ok (.iaload, 1) := by decide +kernel
theorem dX11_isRing_38 : decode cX11_isRing 38 = .ok (.aload_n 0, 1) := by decide +kernel
theorem dX11_isRing_39 : decode cX11_isRing 39 = .ok (.getfield 28, 3) := by decide +kernel
theorem dX11_isRing_42 : decode cX11_isRing 42 = .ok (.iconst 0, 1) := by decide +kernel
theorem dX11_isRing_43 : decode cX11_isRing 43 = .ok (.iaload, 1) := by decide +kernel
theorem dX11_isRing_44 : decode cX11_isRing 44 = .ok (.if_icmp .lt 37, 3) := by decide +kernel
theorem dX11_isRing_47 : decode cX11_isRing 47 = .ok (.aload_n 0, 1) := by decide +kernel
theorem dX11_isRing_48 : decode cX11_isRing 48 = .ok (.getfield 22, 3) := by decide +kernel
theorem dX11_isRing_51 : decode cX11_isRing 51 = .ok (.bipush 6, 2) := by decide +kernel
theorem dX11_isRing_53 : decode cX11_isRing 53 = .ok (.aload_n 0, 1) := by decide +kernel
theorem dX11_isRing_54 : decode cX11_isRing 54 = .ok (.getfield 28, 3) := by decide +kernel
theorem dX11_isRing_57 : decode cX11_isRing 57 = .ok (.iload 4, 2) := by decide +kernel
theorem dX11_isRing_59 : decode cX11_isRing 59 = .ok (.iaload, 1) := by decide +kernel
theorem dX11_isRing_60 : decode cX11_isRing 60 = .ok (.imul, 1) := by decide +kernel
theorem dX11_isRing_61 : decode cX11_isRing 61 = .ok (.aload_n 0, 1) := by decide +kernel
theorem dX11_isRing_62 : decode cX11_isRing 62 = .ok (.getfield 28, 3) := by decide +kernel
theorem dX11_isRing_65 : decode cX11_isRing 65 = .ok (.iload 4, 2) := by decide +kernel
theorem dX11_isRing_67 : decode cX11_isRing 67 = .ok (.iconst 1, 1) := by decide +kernel
theorem dX11_isRing_68 : decode cX11_isRing 68 = .ok (.iadd, 1) := by decide +kernel
theorem dX11_isRing_69 : decode cX11_isRing 69 = .ok (.iload_n 1, 1) := by decide +kernel
theorem dX11_isRing_70 : decode cX11_isRing 70 = .ok (.irem, 1) := by decide +kernel
theorem dX11_isRing_71 : decode cX11_isRing 71 = .ok (.iaload, 1) := by decide +kernel
theorem dX11_isRing_72 : decode cX11_isRing 72 = .ok (.iadd, 1) := by decide +kernel
theorem dX11_isRing_73 : decode cX11_isRing 73 = .ok (.iaload, 1) := by decide +kernel
theorem dX11_isRing_74 : decode cX11_isRing 74 = .ok (.ifCond .le 7, 3) := by decide +kernel
theorem dX11_isRing_77 : decode cX11_isRing 77 = .ok (.iconst 1, 1) := by decide +kernel
theorem dX11_isRing_78 : decode cX11_isRing 78 = .ok (.goto 4, 3) := by decide +kernel
theorem dX11_isRing_81 : decode cX11_isRing 81 = .ok (.iconst 0, 1) := by decide +kernel
theorem dX11_isRing_82 : decode cX11_isRing 82 = .ok (.istore_n 2, 1) := by decide +kernel
theorem dX11_isRing_83 : decode cX11_isRing 83 = .ok (.iload_n 3, 1) := by decide +kernel
theorem dX11_isRing_84 : decode cX11_isRing 84 = .ok (.iconst 1, 1) := by decide +kernel
theorem dX11_isRing_85 : decode cX11_isRing 85 = .ok (.aload_n 0, 1) := by decide +kernel
theorem dX11_isRing_86 : decode cX11_isRing 86 = .ok (.getfield 28, 3) := by decide +kernel
theorem dX11_isRing_89 : decode cX11_isRing 89 = .ok (.iload 4, 2) := by decide +kernel
theorem dX11_isRing_91 : decode cX11_isRing 91 = .ok (.iaload, 1) := by decide +kernel
theorem dX11_isRing_92 : decode cX11_isRing 92 = .ok (.ishl, 1) := by decide +kernel
theorem dX11_isRing_93 : decode cX11_isRing 93 = .ok (.ior, 1) := by decide +kernel
theorem dX11_isRing_94 : decode cX11_isRing 94 = .ok (.istore_n 3, 1) := by decide +kernel
theorem dX11_isRing_95 : decode cX11_isRing 95 = .ok (.iinc 4 1, 3) := by decide +kernel
theorem dX11_isRing_98 : decode cX11_isRing 98 = .ok (.goto (-91), 3) := by decide +kernel
theorem dX11_isRing_101 : decode cX11_isRing 101 = .ok (.iload_n 2, 1) := by decide +kernel
theorem dX11_isRing_102 : decode cX11_isRing 102 = .ok (.ireturn, 1) := by decide +kernel
set_option maxRecDepth 20000 in
theorem ggX11_layRing_X11_isRing : GoodIn wsX11_layRing wsX11_isRing := goodIn_r _ [9, 3, 10, 11, 12, 13, 14, 15, 16, 17, 18, 19, 20, 21, 22, 23, 24, 25, 26, 27, 28, 29, 30, 31, 32, 33, 34, 35] (by decide +kernel) (by decide +kernel)
set_option maxRecDepth 20000 in
theorem gX11_layRing_X11_isRing : GoodIn wsX11_layRing (wsV RX11 148 RX11 yX11_isRing wsX11_isRing) := goodIn_app (goodIn_of _ (by decide +kernel)) ggX11_layRing_X11_isRing
theorem dX11_layRing_0 : decode cX11_layRing 0 = .ok (.aload_n 0, 1) := by decide +kernel
theorem dX11_layRing_1 : decode cX11_layRing 1 = .ok (.iconst 0, 1) := by decide +kernel
theorem dX11_layRing_2 : decode cX11_layRing 2 = .ok (.putfield 144, 3) := by decide +kernel
theorem dX11_layRing_5 : decode cX11_layRing 5 = .ok (.ldc 147, 2) := by decide +kernel
theorem dX11_layRing_7 : decode cX11_layRing 7 = .ok (.istore_n 1, 1) := by decide +kernel
theorem dX11_layRing_8 : decode cX11_layRing 8 = .ok (.bipush 6, 2) := by decide +kernel
theorem dX11_layRing_10 : decode cX11_layRing 10 = .ok (.istore_n 2, 1) := by decide +kernel
theorem dX11_layRing_11 : decode cX11_layRing 11 = .ok (.iload_n 2, 1) := by decide +kernel
theorem dX11_layRing_12 : decode cX11_layRing 12 = .ok (.iconst 1, 1) := by decide +kernel
theorem dX11_layRing_13 : decode cX11_layRing 13 = .ok (.if_icmp .le 121, 3) := by decide +kernel
theorem dX11_layRing_16 : decode cX11_layRing 16 = .ok (.aload_n 0, 1) := by decide +kernel
theorem dX11_layRing_17 : decode cX11_layRing 17 = .ok (.getfield 144, 3) := by decide +kernel
theorem dX11_layRing_20 : decode cX11_layRing 20 = .ok (.ifCond .ne 114, 3) := by decide +kernel
theorem dX11_layRing_23 : decode cX11_layRing 23 = .ok (.iconst 0, 1) := by decide +kernel
theorem dX11_layRing_24 : decode cX11_layRing 24 = .ok (.istore_n 3, 1) := by decide +kernel
theorem dX11_layRing_25 : decode cX11_layRing 25 = .ok (.iload_n 3, 1) := by decide +kernel
theorem dX11_layRing_26 : decode cX11_layRing 26 = .ok (.iload_n 1, 1) := by decide +kernel
theorem dX11_layRing_27 : decode cX11_layRing 27 = .ok (.if_icmp .ge 96, 3) := by decide +kernel
theorem dX11_layRing_30 : decode cX11_layRing 30 = .ok (.aload_n 0, 1) := by decide +kernel
theorem dX11_layRing_31 : decode cX11_layRing 31 = .ok (.getfield 144, 3) := by decide +kernel
theorem dX11_layRing_34 : decode cX11_layRing 34 = .ok (.ifCond .ne 89, 3) := by decide +kernel
theorem dX11_layRing_37 : decode cX11_layRing 37 = .ok (.iload_n 3, 1) := by decide +kernel
theorem dX11_layRing_38 : decode cX11_layRing 38 = .ok (.istore 4, 2) := by decide +kernel
theorem dX11_layRing_40 : decode cX11_layRing 40 = .ok (.iload_n 2, 1) := by decide +kernel
theorem dX11_layRing_41 : decode cX11_layRing 41 = .ok (.iconst 1, 1) := by decide +kernel
theorem dX11_layRing_42 : decode cX11_layRing 42 = .ok (.isub, 1) := by decide +kernel
theorem dX11_layRing_43 : decode cX11_layRing 43 = .ok (.istore 5, 2) := by decide +kernel
theorem dX11_layRing_45 : decode cX11_layRing 45 = .ok (.iload 5, 2) := by decide +kernel
theorem dX11_layRing_47 : decode cX11_layRing 47 = .ok (.ifCond .lt 28, 3) := by decide +kernel
theorem dX11_layRing_50 : decode cX11_layRing 50 = .ok (.aload_n 0, 1) := by decide +kernel
theorem dX11_layRing_51 : decode cX11_layRing 51 = .ok (.getfield 28, 3) := by decide +kernel
theorem dX11_layRing_54 : decode cX11_layRing 54 = .ok (.iload 5, 2) := by decide +kernel
theorem dX11_layRing_56 : decode cX11_layRing 56 = .ok (.iload 4, 2) := by decide +kernel
theorem dX11_layRing_58 : decode cX11_layRing 58 = .ok (.bipush 6, 2) := by decide +kernel
theorem dX11_layRing_60 : decode cX11_layRing 60 = .ok (.irem, 1) := by decide +kernel
theorem dX11_layRing_61 : decode cX11_layRing 61 = .ok (.iastore, 1) := by decide +kernel
theorem dX11_layRing_62 : decode cX11_layRing 62 = .ok (.iload 4, 2) := by decide +kernel
theorem dX11_layRing_64 : decode cX11_layRing 64 = .ok (.bipush 6, 2) := by decide +kernel
theorem dX11_layRing_66 : decode cX11_layRing 66 = .ok (.idiv, 1) := by decide +kernel
theorem dX11_layRing_67 : decode cX11_layRing 67 = .ok (.istore 4, 2) := by decide +kernel
theorem dX11_layRing_69 : decode cX11_layRing 69 = .ok (.iinc 5 (-1), 3) := by decide +kernel
theorem dX11_layRing_72 : decode cX11_layRing 72 = .ok (.goto (-27), 3) := by decide +kernel
theorem dX11_layRing_75 : decode cX11_layRing 75 = .ok (.aload_n 0, 1) := by decide +kernel
theorem dX11_layRing_76 : decode cX11_layRing 76 = .ok (.iload_n 2, 1) := by decide +kernel
theorem dX11_layRing_77 : decode cX11_layRing 77 = .ok (.invokevirtual 148, 3) := by decide +kernel
theorem dX11_layRing_80 : decode cX11_layRing 80 = .ok (.ifCond .eq 37, 3) := by decide +kernel
theorem dX11_layRing_83 : decode cX11_layRing 83 = .ok (.aload_n 0, 1) := by decide +kernel
theorem dX11_layRing_84 : decode cX11_layRing 84 = .ok (.iload_n 2, 1) := by decide +kernel
theorem dX11_layRing_85 : decode cX11_layRing 85 = .ok (.putfield 144, 3) := by decide +kernel
theorem dX11_layRing_88 : decode cX11_layRing 88 = .ok (.iconst 0, 1) := by decide +kernel
theorem dX11_layRing_89 : decode cX11_layRing 89 = .ok (.istore 5, 2) := by decide +kernel
theorem dX11_layRing_91 : decode cX11_layRing 91 = .ok (.iload 5, 2) := by decide +kernel
theorem dX11_layRing_93 : decode cX11_layRing 93 = .ok (.iload_n 2, 1) := by decide +kernel
theorem dX11_layRing_94 : decode cX11_layRing 94 = .ok (.if_icmp .ge 23, 3) := by decide +kernel
theorem dX11_layRing_97 : decode cX11_layRing 97 = .ok (.aload_n 0, 1) := by decide +kernel
theorem dX11_layRing_98 : decode cX11_layRing 98 = .ok (.getfield 25, 3) := by decide +kernel
theorem dX11_layRing_101 : decode cX11_layRing 101 = .ok (.iload 5, 2) := by decide +kernel
theorem dX11_layRing_103 : decode cX11_layRing 103 = .ok (.aload_n 0, 1) := by decide +kernel
theorem dX11_layRing_104 : decode cX11_layRing 104 = .ok (.getfield 28, 3) := by decide +kernel
theorem dX11_layRing_107 : decode cX11_layRing 107 = .ok (.iload 5, 2) := by decide +kernel
theorem dX11_layRing_109 : decode cX11_layRing 109 = .ok (.iaload, 1) := by decide +kernel
theorem dX11_layRing_110 : decode cX11_layRing 110 = .ok (.iastore, 1) := by decide +kernel
theorem dX11_layRing_111 : decode cX11_layRing 111 = .ok (.iinc 5 1, 3) := by decide +kernel
theorem dX11_layRing_114 : decode cX11_layRing 114 = .ok (.goto (-23), 3) := by decide +kernel
theorem dX11_layRing_117 : decode cX11_layRing 117 = .ok (.iinc 3 1, 3) := by decide +kernel
theorem dX11_layRing_120 : decode cX11_layRing 120 = .ok (.goto (-95), 3) := by decide +kernel
theorem dX11_layRing_123 : decode cX11_layRing 123 = .ok (.iload_n 1, 1) := by decide +kernel
theorem dX11_layRing_124 : decode cX11_layRing 124 = .ok (.bipush 6, 2) := by decide +kernel
theorem dX11_layRing_126 : decode cX11_layRing 126 = .ok (.idiv, 1) := by decide +kernel
theorem dX11_layRing_127 : decode cX11_layRing 127 = .ok (.istore_n 1, 1) := by decide +kernel
theorem dX11_layRing_128 : decode cX11_layRing 128 = .ok (.iinc 2 (-1), 3) := by decide +kernel
theorem dX11_layRing_131 : decode cX11_layRing 131 = .ok (.goto (-120), 3) := by decide +kernel
theorem dX11_layRing_134 : decode cX11_layRing 134 = .ok (.return_, 1) := by decide +kernel
theorem dX11_ringLeast_0 : decode cX11_ringLeast 0 = .ok (.bipush 100, 2) := by decide +kernel
theorem dX11_ringLeast_2 : decode cX11_ringLeast 2 = .ok (.istore_n 1, 1) := by decide +kernel
theorem dX11_ringLeast_3 : decode cX11_ringLeast 3 = .ok (.iconst 0, 1) := by decide +kernel
theorem dX11_ringLeast_4 : decode cX11_ringLeast 4 = .ok (.istore_n 2, 1) := by decide +kernel
theorem dX11_ringLeast_5 : decode cX11_ringLeast 5 = .ok (.iload_n 2, 1) := by decide +kernel
theorem dX11_ringLeast_6 : decode cX11_ringLeast 6 = .ok (.aload_n 0, 1) := by decide +kernel
theorem dX11_ringLeast_7 : decode cX11_ringLeast 7 = .ok (.getfield 144, 3) := by decide +kernel
theorem dX11_ringLeast_10 : decode cX11_ringLeast 10 = .ok (.if_icmp .ge 49, 3) := by decide +kernel
theorem dX11_ringLeast_13 : decode cX11_ringLeast 13 = .ok (.aload_n 0, 1) := by decide +kernel
theorem dX11_ringLeast_14 : decode cX11_ringLeast 14 = .ok (.getfield 22, 3) := by decide +kernel
theorem dX11_ringLeast_17 : decode cX11_ringLeast 17 = .ok (.bipush 6, 2) := by decide +kernel
theorem dX11_ringLeast_19 : decode cX11_ringLeast 19 = .ok (.aload_n 0, 1) := by decide +kernel
theorem dX11_ringLeast_20 : decode cX11_ringLeast 20 = .ok (.getfield 25, 3) := by decide +kernel
theorem dX11_ringLeast_23 : decode cX11_ringLeast 23 = .ok (.iload_n 2, 1) := by decide +kernel
theorem dX11_ringLeast_24 : decode cX11_ringLeast 24 = .ok (.iaload, 1) := by decide +kernel
theorem dX11_ringLeast_25 : decode cX11_ringLeast 25 = .ok (.imul, 1) := by decide +kernel
theorem dX11_ringLeast_26 : decode cX11_ringLeast 26 = .ok (.aload_n 0, 1) := by decide +kernel
theorem dX11_ringLeast_27 : decode cX11_ringLeast 27 = .ok (.getfield 25, 3) := by decide +kernel
theorem dX11_ringLeast_30 : decode cX11_ringLeast 30 = .ok (.iload_n 2, 1) := by decide +kernel
theorem dX11_ringLeast_31 : decode cX11_ringLeast 31 = .ok (.iconst 1, 1) := by decide +kernel
theorem dX11_ringLeast_32 : decode cX11_ringLeast 32 = .ok (.iadd, 1) := by decide +kernel
theorem dX11_ringLeast_33 : decode cX11_ringLeast 33 = .ok (.aload_n 0, 1) := by decide +kernel
theorem dX11_ringLeast_34 : decode cX11_ringLeast 34 = .ok (.getfield 144, 3) := by decide +kernel
theorem dX11_ringLeast_37 : decode cX11_ringLeast 37 = .ok (.irem, 1) := by decide +kernel
theorem dX11_ringLeast_38 : decode cX11_ringLeast 38 = .ok (.iaload, 1) := by decide +kernel
theorem dX11_ringLeast_39 : decode cX11_ringLeast 39 = .ok (.iadd, 1) := by decide +kernel
theorem dX11_ringLeast_40 : decode cX11_ringLeast 40 = .ok (.iaload, 1) := by decide +kernel
theorem dX11_ringLeast_41 : decode cX11_ringLeast 41 = .ok (.istore_n 3, 1) := by decide +kernel
theorem dX11_ringLeast_42 : decode cX11_ringLeast 42 = .ok (.iload_n 3, 1) := by decide +kernel
theorem dX11_ringLeast_43 : decode cX11_ringLeast 43 = .ok (.iload_n 1, 1) := by decide +kernel
theorem dX11_ringLeast_44 : decode cX11_ringLeast 44 = .ok (.if_icmp .ge 7, 3) := by decide +kernel
theorem dX11_ringLeast_47 : decode cX11_ringLeast 47 = .ok (.iload_n 3, 1) := by decide +kernel
theorem dX11_ringLeast_48 : decode cX11_ringLeast 48 = .ok (.goto 4, 3) := by decide +kernel
theorem dX11_ringLeast_51 : decode cX11_ringLeast 51 = .ok (.iload_n 1, 1) := by decide +kernel
theorem dX11_ringLeast_52 : decode cX11_ringLeast 52 = .ok (.istore_n 1, 1) := by decide +kernel
theorem dX11_ringLeast_53 : decode cX11_ringLeast 53 = .ok (.iinc 2 1, 3) := by decide +kernel
theorem dX11_ringLeast_56 : decode cX11_ringLeast 56 = .ok (.goto (-51), 3) := by decide +kernel
theorem dX11_ringLeast_59 : decode cX11_ringLeast 59 = .ok (.aload_n 0, 1) := by decide +kernel
theorem dX11_ringLeast_60 : decode cX11_ringLeast 60 = .ok (.getfield 144, 3) := by decide +kernel
theorem dX11_ringLeast_63 : decode cX11_ringLeast 63 = .ok (.ifCond .ne 7, 3) := by decide +kernel
theorem dX11_ringLeast_66 : decode cX11_ringLeast 66 = .ok (.iconst (-1), 1) := by decide +kernel
theorem dX11_ringLeast_67 : decode cX11_ringLeast 67 = .ok (.goto 4, 3) := by decide +kernel
theorem dX11_ringLeast_70 : decode cX11_ringLeast 70 = .ok (.iload_n 1, 1) := by decide +kernel
theorem dX11_ringLeast_71 : decode cX11_ringLeast 71 = .ok (.ireturn, 1) := by decide +kernel
set_option maxRecDepth 20000 in
theorem ggX11_tellRing_X11_layRing : GoodIn wsX11_tellRing wsX11_layRing := goodIn_r _ [7, 1, 8, 9, 2, 10, 11, 12, 6, 13, 14, 19, 20, 21, 22, 23, 24, 25, 26, 27, 28, 29, 30, 31, 32, 33, 34, 35, 36, 37, 38, 39, 40, 41, 42, 43] (by decide +kernel) (by decide +kernel)
set_option maxRecDepth 20000 in
theorem gX11_tellRing_X11_layRing : GoodIn wsX11_tellRing (wsV RX11 151 RX11 yX11_layRing wsX11_layRing) := goodIn_app (goodIn_of _ (by decide +kernel)) ggX11_tellRing_X11_layRing
set_option maxRecDepth 20000 in
theorem ggX11_tellRing_X11_ringLeast : GoodIn wsX11_tellRing wsX11_ringLeast := goodIn_r _ [18, 1, 14, 2, 19, 20, 21, 22, 23, 24, 25, 26, 27, 28, 29, 30, 31, 32, 33, 34, 35, 36, 37, 38, 39, 40, 41, 42, 43] (by decide +kernel) (by decide +kernel)
set_option maxRecDepth 20000 in
theorem gX11_tellRing_X11_ringLeast : GoodIn wsX11_tellRing (wsV RX11 154 RX11 yX11_ringLeast wsX11_ringLeast) := goodIn_app (goodIn_of _ (by decide +kernel)) ggX11_tellRing_X11_ringLeast
theorem dX11_tellRing_0 : decode cX11_tellRing 0 = .ok (.aload_n 0, 1) := by decide +kernel
theorem dX11_tellRing_1 : decode cX11_tellRing 1 = .ok (.invokevirtual 151, 3) := by decide +kernel
theorem dX11_tellRing_4 : decode cX11_tellRing 4 = .ok (.iload_n 1, 1) := by decide +kernel
theorem dX11_tellRing_5 : decode cX11_tellRing 5 = .ok (.iconst 2, 1) := by decide +kernel
theorem dX11_tellRing_6 : decode cX11_tellRing 6 = .ok (.if_icmp .ge 19, 3) := by decide +kernel
theorem dX11_tellRing_9 : decode cX11_tellRing 9 = .ok (.iload_n 1, 1) := by decide +kernel
theorem dX11_tellRing_10 : decode cX11_tellRing 10 = .ok (.ifCond .ne 10, 3) := by decide +kernel
theorem dX11_tellRing_13 : decode cX11_tellRing 13 = .ok (.aload_n 0, 1) := by decide +kernel
theorem dX11_tellRing_14 : decode cX11_tellRing 14 = .ok (.getfield 144, 3) := by decide +kernel
theorem dX11_tellRing_17 : decode cX11_tellRing 17 = .ok (.goto 7, 3) := by decide +kernel
theorem dX11_tellRing_20 : decode cX11_tellRing 20 = .ok (.aload_n 0, 1) := by decide +kernel
theorem dX11_tellRing_21 : decode cX11_tellRing 21 = .ok (.invokevirtual 154, 3) := by decide +kernel
theorem dX11_tellRing_24 : decode cX11_tellRing 24 = .ok (.ireturn, 1) := by decide +kernel
theorem dX11_tellRing_25 : decode cX11_tellRing 25 = .ok (.iload_n 1, 1) := by decide +kernel
theorem dX11_tellRing_26 : decode cX11_tellRing 26 = .ok (.bipush 10, 2) := by decide +kernel
theorem dX11_tellRing_28 : decode cX11_tellRing 28 = .ok (.isub, 1) := by decide +kernel
theorem dX11_tellRing_29 : decode cX11_tellRing 29 = .ok (.aload_n 0, 1) := by decide +kernel
theorem dX11_tellRing_30 : decode cX11_tellRing 30 = .ok (.getfield 144, 3) := by decide +kernel
theorem dX11_tellRing_33 : decode cX11_tellRing 33 = .ok (.if_icmp .ge 15, 3) := by decide +kernel
theorem dX11_tellRing_36 : decode cX11_tellRing 36 = .ok (.aload_n 0, 1) := by decide +kernel
theorem dX11_tellRing_37 : decode cX11_tellRing 37 = .ok (.getfield 25, 3) := by decide +kernel
theorem dX11_tellRing_40 : decode cX11_tellRing 40 = .ok (.iload_n 1, 1) := by decide +kernel
theorem dX11_tellRing_41 : decode cX11_tellRing 41 = .ok (.bipush 10, 2) := by decide +kernel
theorem dX11_tellRing_43 : decode cX11_tellRing 43 = .ok (.isub, 1) := by decide +kernel
theorem dX11_tellRing_44 : decode cX11_tellRing 44 = .ok (.iaload, 1) := by decide +kernel
theorem dX11_tellRing_45 : decode cX11_tellRing 45 = .ok (.goto 4, 3) := by decide +kernel
theorem dX11_tellRing_48 : decode cX11_tellRing 48 = .ok (.iconst (-1), 1) := by decide +kernel
theorem dX11_tellRing_49 : decode cX11_tellRing 49 = .ok (.ireturn, 1) := by decide +kernel
set_option maxRecDepth 20000 in
theorem ggX11_ring_X11_in : GoodIn wsX11_ring wsX11_in := goodIn_r _ [6] (by decide +kernel) (by decide +kernel)
set_option maxRecDepth 20000 in
theorem gX11_ring_X11_in : GoodIn wsX11_ring (va_wsS RX11 74 yX11_in wsX11_in) := goodIn_app (goodIn_of _ (by decide +kernel)) ggX11_ring_X11_in
set_option maxRecDepth 20000 in
theorem ggX11_ring_X11_tellRing : GoodIn wsX11_ring wsX11_tellRing := goodIn_r _ [10, 11, 12, 13, 14, 15, 5, 16, 17, 18, 19, 20, 21, 22, 23, 24, 25, 26, 27, 28, 29, 30, 31, 32, 33, 34, 35, 36, 37, 38, 39, 40, 41, 42, 43, 44, 45, 46, 47, 48, 49, 50, 51, 52] (by decide +kernel) (by decide +kernel)
set_option maxRecDepth 20000 in
theorem gX11_ring_X11_tellRing : GoodIn wsX11_ring (wsV RX11 161 RX11 yX11_tellRing wsX11_tellRing) := goodIn_app (goodIn_of _ (by decide +kernel)) ggX11_ring_X11_tellRing
theorem dX11_ring_0 : decode cX11_ring 0 = .ok (.iload_n 1, 1) := by decide +kernel
theorem dX11_ring_1 : decode cX11_ring 1 = .ok (.i2l, 1) := by decide +kernel
theorem dX11_ring_2 : decode cX11_ring 2 = .ok (.lconst 0, 1) := by decide +kernel
theorem dX11_ring_3 : decode cX11_ring 3 = .ok (.lconst 1, 1) := by decide +kernel
theorem dX11_ring_4 : decode cX11_ring 4 = .ok (.invokestatic 74, 3) := by decide +kernel
theorem dX11_ring_7 : decode cX11_ring 7 = .ok (.ifCond .ne 17, 3) := by decide +kernel
theorem dX11_ring_10 : decode cX11_ring 10 = .ok (.iload_n 1, 1) := by decide +kernel
theorem dX11_ring_11 : decode cX11_ring 11 = .ok (.i2l, 1) := by decide +kernel
theorem dX11_ring_12 : decode cX11_ring 12 = .ok (.ldc2_w 157, 3) := by decide +kernel
theorem dX11_ring_15 : decode cX11_ring 15 = .ok (.ldc2_w 159, 3) := by decide +kernel
theorem dX11_ring_18 : decode cX11_ring 18 = .ok (.invokestatic 74, 3) := by decide +kernel
theorem dX11_ring_21 : decode cX11_ring 21 = .ok (.ifCond .eq 11, 3) := by decide +kernel
theorem dX11_ring_24 : decode cX11_ring 24 = .ok (.aload_n 0, 1) := by decide +kernel
theorem dX11_ring_25 : decode cX11_ring 25 = .ok (.iload_n 1, 1) := by decide +kernel
theorem dX11_ring_26 : decode cX11_ring 26 = .ok (.invokevirtual 161, 3) := by decide +kernel
theorem dX11_ring_29 : decode cX11_ring 29 = .ok (.goto 5, 3) := by decide +kernel
theorem dX11_ring_32 : decode cX11_ring 32 = .ok (.bipush (-102), 2) := by decide +kernel
theorem dX11_ring_34 : decode cX11_ring 34 = .ok (.ireturn, 1) := by decide +kernel
set_option maxRecDepth 20000 in
theorem ggX11_clear_X11_layRing : GoodIn wsX11_clear wsX11_layRing := goodIn_r _ [8, 1, 9, 10, 3, 11, 12, 13, 7, 14, 2, 19, 20, 21, 22, 23, 24, 25, 26, 27, 28, 29, 30, 31, 32, 33, 34, 35, 36, 37, 38, 39, 40, 41, 42, 43] (by decide +kernel) (by decide +kernel)
set_option maxRecDepth 20000 in
theorem gX11_clear_X11_layRing : GoodIn wsX11_clear (wsV RX11 151 RX11 yX11_layRing wsX11_layRing) := goodIn_app (goodIn_of _ (by decide +kernel)) ggX11_clear_X11_layRing
set_option maxRecDepth 20000 in
theorem ggX11_clear_X11_ringLeast : GoodIn wsX11_clear wsX11_ringLeast := goodIn_r _ [18, 1, 2, 3, 19, 20, 21, 22, 23, 24, 25, 26, 27, 28, 29, 30, 31, 32, 33, 34, 35, 36, 37, 38, 39, 40, 41, 42, 43] (by decide +kernel) (by decide +kernel)
set_option maxRecDepth 20000 in
theorem gX11_clear_X11_ringLeast : GoodIn wsX11_clear (wsV RX11 154 RX11 yX11_ringLeast wsX11_ringLeast) := goodIn_app (goodIn_of _ (by decide +kernel)) ggX11_clear_X11_ringLeast
theorem dX11_clear_0 : decode cX11_clear 0 = .ok (.aload_n 0, 1) := by decide +kernel
theorem dX11_clear_1 : decode cX11_clear 1 = .ok (.invokevirtual 151, 3) := by decide +kernel
theorem dX11_clear_4 : decode cX11_clear 4 = .ok (.aload_n 0, 1) := by decide +kernel
theorem dX11_clear_5 : decode cX11_clear 5 = .ok (.getfield 144, 3) := by decide +kernel
theorem dX11_clear_8 : decode cX11_clear 8 = .ok (.ifCond .ne 6, 3) := by decide +kernel
theorem dX11_clear_11 : decode cX11_clear 11 = .ok (.bipush (-103), 2) := by decide +kernel
theorem dX11_clear_13 : decode cX11_clear 13 = .ok (.ireturn, 1) := by decide +kernel
theorem dX11_clear_14 : decode cX11_clear 14 = .ok (.aload_n 0, 1) := by decide +kernel
theorem dX11_clear_15 : decode cX11_clear 15 = .ok (.invokevirtual 154, 3) := by decide +kernel
theorem dX11_clear_18 : decode cX11_clear 18 = .ok (.istore_n 1, 1) := by decide +kernel
theorem dX11_clear_19 : decode cX11_clear 19 = .ok (.iconst 0, 1) := by decide +kernel
theorem dX11_clear_20 : decode cX11_clear 20 = .ok (.istore_n 2, 1) := by decide +kernel
theorem dX11_clear_21 : decode cX11_clear 21 = .ok (.iload_n 2, 1) := by decide +kernel
theorem dX11_clear_22 : decode cX11_clear 22 = .ok (.aload_n 0, 1) := by decide +kernel
theorem dX11_clear_23 : decode cX11_clear 23 = .ok (.getfield 144, 3) := by decide +kernel
theorem dX11_clear_26 : decode cX11_clear 26 = .ok (.if_icmp .ge 41, 3) := by decide +kernel
theorem dX11_clear_29 : decode cX11_clear 29 = .ok (.aload_n 0, 1) := by decide +kernel
theorem dX11_clear_30 : decode cX11_clear 30 = .ok (.getfield 22, 3) := by decide +kernel
theorem dX11_clear_33 : decode cX11_clear 33 = .ok (.bipush 6, 2) := by decide +kernel
theorem dX11_clear_35 : decode cX11_clear 35 = .ok (.aload_n 0, 1) := by decide +kernel
theorem dX11_clear_36 : decode cX11_clear 36 = .ok (.getfield 25, 3) := by decide +kernel
theorem dX11_clear_39 : decode cX11_clear 39 = .ok (.iload_n 2, 1) := by decide +kernel
theorem dX11_clear_40 : decode cX11_clear 40 = .ok (.iaload, 1) := by decide +kernel
theorem dX11_clear_41 : decode cX11_clear 41 = .ok (.imul, 1) := by decide +kernel
theorem dX11_clear_42 : decode cX11_clear 42 = .ok (.aload_n 0, 1) := by decide +kernel
theorem dX11_clear_43 : decode cX11_clear 43 = .ok (.getfield 25, 3) := by decide +kernel
theorem dX11_clear_46 : decode cX11_clear 46 = .ok (.iload_n 2, 1) := by decide +kernel
theorem dX11_clear_47 : decode cX11_clear 47 = .ok (.iconst 1, 1) := by decide +kernel
theorem dX11_clear_48 : decode cX11_clear 48 = .ok (.iadd, 1) := by decide +kernel
theorem dX11_clear_49 : decode cX11_clear 49 = .ok (.aload_n 0, 1) := by decide +kernel
theorem dX11_clear_50 : decode cX11_clear 50 = .ok (.getfield 144, 3) := by decide +kernel
theorem dX11_clear_53 : decode cX11_clear 53 = .ok (.irem, 1) := by decide +kernel
theorem dX11_clear_54 : decode cX11_clear 54 = .ok (.iaload, 1) := by decide +kernel
theorem dX11_clear_55 : decode cX11_clear 55 = .ok (.iadd, 1) := by decide +kernel
theorem dX11_clear_56 : decode cX11_clear 56 = .ok (.dup2, 1) := by decide +kernel
theorem dX11_clear_57 : decode cX11_clear 57 = .ok (.iaload, 1) := by decide +kernel
theorem dX11_clear_58 : decode cX11_clear 58 = .ok (.iload_n 1, 1) := by decide +kernel
theorem dX11_clear_59 : decode cX11_clear 59 = .ok (.isub, 1) := by decide +kernel
theorem dX11_clear_60 : decode cX11_clear 60 = .ok (.iastore, 1) := by decide +kernel
theorem dX11_clear_61 : decode cX11_clear 61 = .ok (.iinc 2 1, 3) := by decide +kernel
theorem dX11_clear_64 : decode cX11_clear 64 = .ok (.goto (-43), 3) := by decide +kernel
theorem dX11_clear_67 : decode cX11_clear 67 = .ok (.iload_n 1, 1) := by decide +kernel
theorem dX11_clear_68 : decode cX11_clear 68 = .ok (.ireturn, 1) := by decide +kernel
theorem dX11_balance_0 : decode cX11_balance 0 = .ok (.iconst 0, 1) := by decide +kernel
theorem dX11_balance_1 : decode cX11_balance 1 = .ok (.istore_n 2, 1) := by decide +kernel
theorem dX11_balance_2 : decode cX11_balance 2 = .ok (.iconst 0, 1) := by decide +kernel
theorem dX11_balance_3 : decode cX11_balance 3 = .ok (.istore_n 3, 1) := by decide +kernel
theorem dX11_balance_4 : decode cX11_balance 4 = .ok (.iload_n 3, 1) := by decide +kernel
theorem dX11_balance_5 : decode cX11_balance 5 = .ok (.bipush 36, 2) := by decide +kernel
theorem dX11_balance_7 : decode cX11_balance 7 = .ok (.if_icmp .ge 59, 3) := by decide +kernel
theorem dX11_balance_10 : decode cX11_balance 10 = .ok (.iload_n 2, 1) := by decide +kernel
theorem dX11_balance_11 : decode cX11_balance 11 = .ok (.iload_n 1, 1) := by decide +kernel
theorem dX11_balance_12 : decode cX11_balance 12 = .ok (.iload_n 3, 1) := by decide +kernel
theorem dX11_balance_13 : decode cX11_balance 13 = .ok (.bipush 6, 2) := by decide +kernel
theorem dX11_balance_15 : decode cX11_balance 15 = .ok (.idiv, 1) := by decide +kernel
theorem dX11_balance_16 : decode cX11_balance 16 = .ok (.ishr, 1) := by decide +kernel
theorem dX11_balance_17 : decode cX11_balance 17 = .ok (.iconst 1, 1) := by decide +kernel
theorem dX11_balance_18 : decode cX11_balance 18 = .ok (.iand, 1) := by decide +kernel
theorem dX11_balance_19 : decode cX11_balance 19 = .ok (.iconst 1, 1) := by decide +kernel
theorem dX11_balance_20 : decode cX11_balance 20 = .ok (.if_icmp .ne 12, 3) := by decide +kernel
theorem dX11_balance_23 : decode cX11_balance 23 = .ok (.aload_n 0, 1) := by decide +kernel
theorem dX11_balance_24 : decode cX11_balance 24 = .ok (.getfield 22, 3) := by decide +kernel
theorem dX11_balance_27 : decode cX11_balance 27 = .ok (.iload_n 3, 1) := by decide +kernel
theorem dX11_balance_28 : decode cX11_balance 28 = .ok (.iaload, 1) := by decide +kernel
theorem dX11_balance_29 : decode cX11_balance 29 = .ok (.goto 4, 3) := by decide +kernel
theorem dX11_balance_32 : decode cX11_balance 32 = .ok (.iconst 0, 1) := by decide +kernel
theorem dX11_balance_33 : decode cX11_balance 33 = .ok (.iadd, 1) := by decide +kernel
theorem dX11_balance_34 : decode cX11_balance 34 = .ok (.istore_n 2, 1) := by decide +kernel
theorem dX11_balance_35 : decode cX11_balance 35 = .ok (.iload_n 2, 1) := by decide +kernel
theorem dX11_balance_36 : decode cX11_balance 36 = .ok (.iload_n 1, 1) := by decide +kernel
theorem dX11_balance_37 : decode cX11_balance 37 = .ok (.iload_n 3, 1) := by decide +kernel
theorem dX11_balance_38 : decode cX11_balance 38 = .ok (.bipush 6, 2) := by decide +kernel
theorem dX11_balance_40 : decode cX11_balance 40 = .ok (.irem, 1) := by decide +kernel
theorem dX11_balance_41 : decode cX11_balance 41 = .ok (.ishr, 1) := by decide +kernel
theorem dX11_balance_42 : decode cX11_balance 42 = .ok (.iconst 1, 1) := by decide +kernel
theorem dX11_balance_43 : decode cX11_balance 43 = .ok (.iand, 1) := by decide +kernel
theorem dX11_balance_44 : decode cX11_balance 44 = .ok (.iconst 1, 1) := by decide +kernel
theorem dX11_balance_45 : decode cX11_balance 45 = .ok (.if_icmp .ne 12, 3) := by decide +kernel
theorem dX11_balance_48 : decode cX11_balance 48 = .ok (.aload_n 0, 1) := by decide +kernel
theorem dX11_balance_49 : decode cX11_balance 49 = .ok (.getfield 22, 3) := by decide +kernel
theorem dX11_balance_52 : decode cX11_balance 52 = .ok (.iload_n 3, 1) := by decide +kernel
theorem dX11_balance_53 : decode cX11_balance 53 = .ok (.iaload, 1) := by decide +kernel
theorem dX11_balance_54 : decode cX11_balance 54 = .ok (.goto 4, 3) := by decide +kernel
theorem dX11_balance_57 : decode cX11_balance 57 = .ok (.iconst 0, 1) := by decide +kernel
theorem dX11_balance_58 : decode cX11_balance 58 = .ok (.isub, 1) := by decide +kernel
theorem dX11_balance_59 : decode cX11_balance 59 = .ok (.istore_n 2, 1) := by decide +kernel
theorem dX11_balance_60 : decode cX11_balance 60 = .ok (.iinc 3 1, 3) := by decide +kernel
theorem dX11_balance_63 : decode cX11_balance 63 = .ok (.goto (-59), 3) := by decide +kernel
theorem dX11_balance_66 : decode cX11_balance 66 = .ok (.iload_n 2, 1) := by decide +kernel
theorem dX11_balance_67 : decode cX11_balance 67 = .ok (.ireturn, 1) := by decide +kernel
set_option maxRecDepth 20000 in
theorem ggX11_fewestOf_X11_balance : GoodIn wsX11_fewestOf wsX11_balance := goodIn_r _ [6, 7, 8, 9, 10, 11, 12, 13, 14, 15, 16, 17, 18, 19, 20, 21, 22, 23, 24, 25, 26, 27, 28, 29, 30, 31, 32] (by decide +kernel) (by decide +kernel)
set_option maxRecDepth 20000 in
theorem gX11_fewestOf_X11_balance : GoodIn wsX11_fewestOf (wsV RX11 164 RX11 yX11_balance wsX11_balance) := goodIn_app (goodIn_of _ (by decide +kernel)) ggX11_fewestOf_X11_balance
theorem dX11_fewestOf_0 : decode cX11_fewestOf 0 = .ok (.aload_n 0, 1) := by decide +kernel
theorem dX11_fewestOf_1 : decode cX11_fewestOf 1 = .ok (.getfield 31, 3) := by decide +kernel
theorem dX11_fewestOf_4 : decode cX11_fewestOf 4 = .ok (.iconst 0, 1) := by decide +kernel
theorem dX11_fewestOf_5 : decode cX11_fewestOf 5 = .ok (.iconst 0, 1) := by decide +kernel
theorem dX11_fewestOf_6 : decode cX11_fewestOf 6 = .ok (.iastore, 1) := by decide +kernel
theorem dX11_fewestOf_7 : decode cX11_fewestOf 7 = .ok (.iconst 1, 1) := by decide +kernel
theorem dX11_fewestOf_8 : decode cX11_fewestOf 8 = .ok (.istore_n 1, 1) := by decide +kernel
theorem dX11_fewestOf_9 : decode cX11_fewestOf 9 = .ok (.iload_n 1, 1) := by decide +kernel
theorem dX11_fewestOf_10 : decode cX11_fewestOf 10 = .ok (.bipush 64, 2) := by decide +kernel
theorem dX11_fewestOf_12 : decode cX11_fewestOf 12 = .ok (.if_icmp .ge 76, 3) := by decide +kernel
theorem dX11_fewestOf_15 : decode cX11_fewestOf 15 = .ok (.aload_n 0, 1) := by decide +kernel
theorem dX11_fewestOf_16 : decode cX11_fewestOf 16 = .ok (.getfield 31, 3) := by decide +kernel
theorem dX11_fewestOf_19 : decode cX11_fewestOf 19 = .ok (.iload_n 1, 1) := by decide +kernel
theorem dX11_fewestOf_20 : decode cX11_fewestOf 20 = .ok (.iconst (-1), 1) := by decide +kernel
theorem dX11_fewestOf_21 : decode cX11_fewestOf 21 = .ok (.iastore, 1) := by decide +kernel
theorem dX11_fewestOf_22 : decode cX11_fewestOf 22 = .ok (.iload_n 1, 1) := by decide +kernel
theorem dX11_fewestOf_23 : decode cX11_fewestOf 23 = .ok (.istore_n 2, 1) := by decide +kernel
theorem dX11_fewestOf_24 : decode cX11_fewestOf 24 = .ok (.iload_n 2, 1) := by decide +kernel
theorem dX11_fewestOf_25 : decode cX11_fewestOf 25 = .ok (.ifCond .le 57, 3) := by decide +kernel
theorem dX11_fewestOf_28 : decode cX11_fewestOf 28 = .ok (.aload_n 0, 1) := by decide +kernel
theorem dX11_fewestOf_29 : decode cX11_fewestOf 29 = .ok (.getfield 31, 3) := by decide +kernel
theorem dX11_fewestOf_32 : decode cX11_fewestOf 32 = .ok (.iload_n 1, 1) := by decide +kernel
theorem dX11_fewestOf_33 : decode cX11_fewestOf 33 = .ok (.iload_n 2, 1) := by decide +kernel
theorem dX11_fewestOf_34 : decode cX11_fewestOf 34 = .ok (.iconst (-1), 1) := by decide +kernel
theorem dX11_fewestOf_35 : decode cX11_fewestOf 35 = .ok (.ixor, 1) := by decide +kernel
theorem dX11_fewestOf_36 : decode cX11_fewestOf 36 = .ok (.iand, 1) := by decide +kernel
theorem dX11_fewestOf_37 : decode cX11_fewestOf 37 = .ok (.iaload, 1) := by decide +kernel
theorem dX11_fewestOf_38 : decode cX11_fewestOf 38 = .ok (.istore_n 3, 1) := by decide +kernel
theorem dX11_fewestOf_39 : decode cX11_fewestOf 39 = .ok (.iload_n 3, 1) := by decide +kernel
theorem dX11_fewestOf_40 : decode cX11_fewestOf 40 = .ok (.iconst (-1), 1) := by decide +kernel
theorem dX11_fewestOf_41 : decode cX11_fewestOf 41 = .ok (.if_icmp .eq 32, 3) := by decide +kernel
theorem dX11_fewestOf_44 : decode cX11_fewestOf 44 = .ok (.aload_n 0, 1) := by decide +kernel
theorem dX11_fewestOf_45 : decode cX11_fewestOf 45 = .ok (.iload_n 2, 1) := by decide +kernel
theorem dX11_fewestOf_46 : decode cX11_fewestOf 46 = .ok (.invokevirtual 164, 3) := by decide +kernel
theorem dX11_fewestOf_49 : decode cX11_fewestOf 49 = .ok (.ifCond .ne 24, 3) := by decide +kernel
theorem dX11_fewestOf_52 : decode cX11_fewestOf 52 = .ok (.iload_n 3, 1) := by decide +kernel
theorem dX11_fewestOf_53 : decode cX11_fewestOf 53 = .ok (.iconst 1, 1) := by decide +kernel
theorem dX11_fewestOf_54 : decode cX11_fewestOf 54 = .ok (.iadd, 1) := by decide +kernel
theorem dX11_fewestOf_55 : decode cX11_fewestOf 55 = .ok (.aload_n 0, 1) := by decide +kernel
theorem dX11_fewestOf_56 : decode cX11_fewestOf 56 = .ok (.getfield 31, 3) := by decide +kernel
theorem dX11_fewestOf_59 : decode cX11_fewestOf 59 = .ok (.iload_n 1, 1) := by decide +kernel
theorem dX11_fewestOf_60 : decode cX11_fewestOf 60 = .ok (.iaload, 1) := by decide +kernel
theorem dX11_fewestOf_61 : decode cX11_fewestOf 61 = .ok (.if_icmp .le 12, 3) := by decide +kernel
theorem dX11_fewestOf_64 : decode cX11_fewestOf 64 = .ok (.aload_n 0, 1) := by decide +kernel
theorem dX11_fewestOf_65 : decode cX11_fewestOf 65 = .ok (.getfield 31, 3) := by decide +kernel
theorem dX11_fewestOf_68 : decode cX11_fewestOf 68 = .ok (.iload_n 1, 1) := by decide +kernel
theorem dX11_fewestOf_69 : decode cX11_fewestOf 69 = .ok (.iload_n 3, 1) := by decide +kernel
theorem dX11_fewestOf_70 : decode cX11_fewestOf 70 = .ok (.iconst 1, 1) := by decide +kernel
theorem dX11_fewestOf_71 : decode cX11_fewestOf 71 = .ok (.iadd, 1) := by decide +kernel
theorem dX11_fewestOf_72 : decode cX11_fewestOf 72 = .ok (.iastore, 1) := by decide +kernel
theorem dX11_fewestOf_73 : decode cX11_fewestOf 73 = .ok (.iload_n 2, 1) := by decide +kernel
theorem dX11_fewestOf_74 : decode cX11_fewestOf 74 = .ok (.iconst 1, 1) := by decide +kernel
theorem dX11_fewestOf_75 : decode cX11_fewestOf 75 = .ok (.isub, 1) := by decide +kernel
theorem dX11_fewestOf_76 : decode cX11_fewestOf 76 = .ok (.iload_n 1, 1) := by decide +kernel
theorem dX11_fewestOf_77 : decode cX11_fewestOf 77 = .ok (.iand, 1) := by decide +kernel
theorem dX11_fewestOf_78 : decode cX11_fewestOf 78 = .ok (.istore_n 2, 1) := by decide +kernel
theorem dX11_fewestOf_79 : decode cX11_fewestOf 79 = .ok (.goto (-55), 3) := by decide +kernel
theorem dX11_fewestOf_82 : decode cX11_fewestOf 82 = .ok (.iinc 1 1, 3) := by decide +kernel
theorem dX11_fewestOf_85 : decode cX11_fewestOf 85 = .ok (.goto (-76), 3) := by decide +kernel
theorem dX11_fewestOf_88 : decode cX11_fewestOf 88 = .ok (.bipush 6, 2) := by decide +kernel
theorem dX11_fewestOf_90 : decode cX11_fewestOf 90 = .ok (.aload_n 0, 1) := by decide +kernel
theorem dX11_fewestOf_91 : decode cX11_fewestOf 91 = .ok (.getfield 31, 3) := by decide +kernel
theorem dX11_fewestOf_94 : decode cX11_fewestOf 94 = .ok (.bipush 63, 2) := by decide +kernel
theorem dX11_fewestOf_96 : decode cX11_fewestOf 96 = .ok (.iaload, 1) := by decide +kernel
theorem dX11_fewestOf_97 : decode cX11_fewestOf 97 = .ok (.isub, 1) := by decide +kernel
theorem dX11_fewestOf_98 : decode cX11_fewestOf 98 = .ok (.ireturn, 1) := by decide +kernel
set_option maxRecDepth 20000 in
theorem ggX11_fewest_X11_fewestOf : GoodIn wsX11_fewest wsX11_fewestOf := goodIn_r _ [5, 6, 7, 8, 9, 4, 10, 11, 12, 13, 14, 15, 16, 17, 18, 19, 20, 21, 22, 23, 24, 25, 26, 27, 28, 29, 30, 31, 32, 33, 34, 35, 36] (by decide +kernel) (by decide +kernel)
set_option maxRecDepth 20000 in
theorem gX11_fewest_X11_fewestOf : GoodIn wsX11_fewest (wsV RX11 167 RX11 yX11_fewestOf wsX11_fewestOf) := goodIn_app (goodIn_of _ (by decide +kernel)) ggX11_fewest_X11_fewestOf
theorem dX11_fewest_0 : decode cX11_fewest 0 = .ok (.aload_n 0, 1) := by decide +kernel
theorem dX11_fewest_1 : decode cX11_fewest 1 = .ok (.invokevirtual 167, 3) := by decide +kernel
theorem dX11_fewest_4 : decode cX11_fewest 4 = .ok (.ireturn, 1) := by decide +kernel
set_option maxRecDepth 20000 in
theorem ggX11_heldUp_X11_byMould : GoodIn wsX11_heldUp wsX11_byMould := goodIn_r _ [7] (by decide +kernel) (by decide +kernel)
set_option maxRecDepth 20000 in
theorem gX11_heldUp_X11_byMould : GoodIn wsX11_heldUp (va_wsS RX11 129 yX11_byMould wsX11_byMould) := goodIn_app (goodIn_of _ (by decide +kernel)) ggX11_heldUp_X11_byMould
set_option maxRecDepth 20000 in
theorem ggX11_heldUp_X11_byHand : GoodIn wsX11_heldUp wsX11_byHand := goodIn_r _ [10] (by decide +kernel) (by decide +kernel)
set_option maxRecDepth 20000 in
theorem gX11_heldUp_X11_byHand : GoodIn wsX11_heldUp (va_wsS RX11 98 yX11_byHand wsX11_byHand) := goodIn_app (goodIn_of _ (by decide +kernel)) ggX11_heldUp_X11_byHand
theorem dX11_heldUp_0 : decode cX11_heldUp 0 = .ok (.aload_n 0, 1) := by decide +kernel
theorem dX11_heldUp_1 : decode cX11_heldUp 1 = .ok (.getfield 19, 3) := by decide +kernel
theorem dX11_heldUp_4 : decode cX11_heldUp 4 = .ok (.bipush 8, 2) := by decide +kernel
theorem dX11_heldUp_6 : decode cX11_heldUp 6 = .ok (.iload_n 1, 1) := by decide +kernel
theorem dX11_heldUp_7 : decode cX11_heldUp 7 = .ok (.imul, 1) := by decide +kernel
theorem dX11_heldUp_8 : decode cX11_heldUp 8 = .ok (.iaload, 1) := by decide +kernel
theorem dX11_heldUp_9 : decode cX11_heldUp 9 = .ok (.istore 4, 2) := by decide +kernel
theorem dX11_heldUp_11 : decode cX11_heldUp 11 = .ok (.aload_n 0, 1) := by decide +kernel
theorem dX11_heldUp_12 : decode cX11_heldUp 12 = .ok (.getfield 19, 3) := by decide +kernel
theorem dX11_heldUp_15 : decode cX11_heldUp 15 = .ok (.bipush 8, 2) := by decide +kernel
theorem dX11_heldUp_17 : decode cX11_heldUp 17 = .ok (.iload_n 1, 1) := by decide +kernel
theorem dX11_heldUp_18 : decode cX11_heldUp 18 = .ok (.imul, 1) := by decide +kernel
theorem dX11_heldUp_19 : decode cX11_heldUp 19 = .ok (.iconst 2, 1) := by decide +kernel
theorem dX11_heldUp_20 : decode cX11_heldUp 20 = .ok (.iadd, 1) := by decide +kernel
theorem dX11_heldUp_21 : decode cX11_heldUp 21 = .ok (.iaload, 1) := by decide +kernel
theorem dX11_heldUp_22 : decode cX11_heldUp 22 = .ok (.iconst (-1), 1) := by decide +kernel
theorem dX11_heldUp_23 : decode cX11_heldUp 23 = .ok (.if_icmp .ne 7, 3) := by decide +kernel
theorem dX11_heldUp_26 : decode cX11_heldUp 26 = .ok (.iconst 1, 1) := by decide +kernel
theorem dX11_heldUp_27 : decode cX11_heldUp 27 = .ok (.goto 4, 3) := by decide +kernel
theorem dX11_heldUp_30 : decode cX11_heldUp 30 = .ok (.iconst 0, 1) := by decide +kernel
theorem dX11_heldUp_31 : decode cX11_heldUp 31 = .ok (.istore 5, 2) := by decide +kernel
theorem dX11_heldUp_33 : decode cX11_heldUp 33 = .ok (.iconst 0, 1) := by decide +kernel
theorem dX11_heldUp_34 : decode cX11_heldUp 34 = .ok (.istore 6, 2) := by decide +kernel
theorem dX11_heldUp_36 : decode cX11_heldUp 36 = .ok (.iload 6, 2) := by decide +kernel
theorem dX11_heldUp_38 : decode cX11_heldUp 38 = .ok (.bipush 10, 2) := by decide +kernel
theorem dX11_heldUp_40 : decode cX11_heldUp 40 = .ok (.if_icmp .ge 37, 3) := by decide +kernel
theorem dX11_heldUp_43 : decode cX11_heldUp 43 = .ok (.aload_n 0, 1) := by decide +kernel
theorem dX11_heldUp_44 : decode cX11_heldUp 44 = .ok (.getfield 34, 3) := by decide +kernel
theorem dX11_heldUp_47 : decode cX11_heldUp 47 = .ok (.iload 6, 2) := by decide +kernel
theorem dX11_heldUp_49 : decode cX11_heldUp 49 = .ok (.iload 6, 2) := by decide +kernel
theorem dX11_heldUp_51 : decode cX11_heldUp 51 = .ok (.aload_n 0, 1) := by decide +kernel
theorem dX11_heldUp_52 : decode cX11_heldUp 52 = .ok (.getfield 19, 3) := by decide +kernel
theorem dX11_heldUp_55 : decode cX11_heldUp 55 = .ok (.bipush 8, 2) := by decide +kernel
theorem dX11_heldUp_57 : decode cX11_heldUp 57 = .ok (.iload_n 1, 1) := by decide +kernel
theorem dX11_heldUp_58 : decode cX11_heldUp 58 = .ok (.imul, 1) := by decide +kernel
theorem dX11_heldUp_59 : decode cX11_heldUp 59 = .ok (.iconst 1, 1) := by decide +kernel
theorem dX11_heldUp_60 : decode cX11_heldUp 60 = .ok (.iadd, 1) := by decide +kernel
theorem dX11_heldUp_61 : decode cX11_heldUp 61 = .ok (.iaload, 1) := by decide +kernel
theorem dX11_heldUp_62 : decode cX11_heldUp 62 = .ok (.if_icmp .ne 7, 3) := by decide +kernel
theorem dX11_heldUp_65 : decode cX11_heldUp 65 = .ok (.lconst 1, 1) := by decide +kernel
theorem dX11_heldUp_66 : decode cX11_heldUp 66 = .ok (.goto 4, 3) := by decide +kernel
theorem dX11_heldUp_69 : decode cX11_heldUp 69 = .ok (.lconst 0, 1) := by decide +kernel
theorem dX11_heldUp_70 : decode cX11_heldUp 70 = .ok (.lastore, 1) := by decide +kernel
theorem dX11_heldUp_71 : decode cX11_heldUp 71 = .ok (.iinc 6 1, 3) := by decide +kernel
theorem dX11_heldUp_74 : decode cX11_heldUp 74 = .ok (.goto (-38), 3) := by decide +kernel
theorem dX11_heldUp_77 : decode cX11_heldUp 77 = .ok (.iconst 0, 1) := by decide +kernel
theorem dX11_heldUp_78 : decode cX11_heldUp 78 = .ok (.istore 6, 2) := by decide +kernel
theorem dX11_heldUp_80 : decode cX11_heldUp 80 = .ok (.iload 6, 2) := by decide +kernel
theorem dX11_heldUp_82 : decode cX11_heldUp 82 = .ok (.iload_n 2, 1) := by decide +kernel
theorem dX11_heldUp_83 : decode cX11_heldUp 83 = .ok (.if_icmp .ge 141, 3) := by decide +kernel
theorem dX11_heldUp_86 : decode cX11_heldUp 86 = .ok (.iconst 0, 1) := by decide +kernel
theorem dX11_heldUp_87 : decode cX11_heldUp 87 = .ok (.istore 7, 2) := by decide +kernel
theorem dX11_heldUp_89 : decode cX11_heldUp 89 = .ok (.iload 7, 2) := by decide +kernel
theorem dX11_heldUp_91 : decode cX11_heldUp 91 = .ok (.bipush 10, 2) := by decide +kernel
theorem dX11_heldUp_93 : decode cX11_heldUp 93 = .ok (.if_icmp .ge 17, 3) := by decide +kernel
theorem dX11_heldUp_96 : decode cX11_heldUp 96 = .ok (.aload_n 0, 1) := by decide +kernel
theorem dX11_heldUp_97 : decode cX11_heldUp 97 = .ok (.getfield 38, 3) := by decide +kernel
theorem dX11_heldUp_100 : decode cX11_heldUp 100 = .ok (.iload 7, 2) := by decide +kernel
theorem dX11_heldUp_102 : decode cX11_heldUp 102 = .ok (.lconst 0, 1) := by decide +kernel
theorem dX11_heldUp_103 : decode cX11_heldUp 103 = .ok (.lastore, 1) := by decide +kernel
theorem dX11_heldUp_104 : decode cX11_heldUp 104 = .ok (.iinc 7 1, 3) := by decide +kernel
theorem dX11_heldUp_107 : decode cX11_heldUp 107 = .ok (.goto (-18), 3) := by decide +kernel
theorem dX11_heldUp_110 : decode cX11_heldUp 110 = .ok (.iconst 0, 1) := by decide +kernel
theorem dX11_heldUp_111 : decode cX11_heldUp 111 = .ok (.istore 7, 2) := by decide +kernel
theorem dX11_heldUp_113 : decode cX11_heldUp 113 = .ok (.iload 7, 2) := by decide +kernel
theorem dX11_heldUp_115 : decode cX11_heldUp 115 = .ok (.bipush 10, 2) := by decide +kernel
theorem dX11_heldUp_117 : decode cX11_heldUp 117 = .ok (.if_icmp .ge 71, 3) := by decide +kernel
theorem dX11_heldUp_120 : decode cX11_heldUp 120 = .ok (.iload 5, 2) := by decide +kernel
theorem dX11_heldUp_122 : decode cX11_heldUp 122 = .ok (.ifCond .eq 8, 3) := by decide +kernel
theorem dX11_heldUp_125 : decode cX11_heldUp 125 = .ok (.iload 7, 2) := by decide +kernel
theorem dX11_heldUp_127 : decode cX11_heldUp 127 = .ok (.goto 10, 3) := by decide +kernel
theorem dX11_heldUp_130 : decode cX11_heldUp 130 = .ok (.iload 4, 2) := by decide +kernel
theorem dX11_heldUp_132 : decode cX11_heldUp 132 = .ok (.iload 7, 2) := by decide +kernel
theorem dX11_heldUp_134 : decode cX11_heldUp 134 = .ok (.invokestatic 129, 3) := by decide +kernel
theorem dX11_heldUp_137 : decode cX11_heldUp 137 = .ok (.istore 8, 2) := by decide +kernel
theorem dX11_heldUp_139 : decode cX11_heldUp 139 = .ok (.aload_n 0, 1) := by decide +kernel
theorem dX11_heldUp_140 : decode cX11_heldUp 140 = .ok (.getfield 38, 3) := by decide +kernel
theorem dX11_heldUp_143 : decode cX11_heldUp 143 = .ok (.iload 8, 2) := by decide +kernel
theorem dX11_heldUp_145 : decode cX11_heldUp 145 = .ok (.dup2, 1) := by decide +kernel
theorem dX11_heldUp_146 : decode cX11_heldUp 146 = .ok (.laload, 1) := by decide +kernel
theorem dX11_heldUp_147 : decode cX11_heldUp 147 = .ok (.aload_n 0, 1) := by decide +kernel
theorem dX11_heldUp_148 : decode cX11_heldUp 148 = .ok (.getfield 34, 3) := by decide +kernel
theorem dX11_heldUp_151 : decode cX11_heldUp 151 = .ok (.iload 7, 2) := by decide +kernel
theorem dX11_heldUp_153 : decode cX11_heldUp 153 = .ok (.laload, 1) := by decide +kernel
theorem dX11_heldUp_154 : decode cX11_heldUp 154 = .ok (.iload_n 3, 1) := by decide +kernel
theorem dX11_heldUp_155 : decode cX11_heldUp 155 = .ok (.i2l, 1) := by decide +kernel
theorem dX11_heldUp_156 : decode cX11_heldUp 156 = .ok (.lmul, 1) := by decide +kernel
theorem dX11_heldUp_157 : decode cX11_heldUp 157 = .ok (.ladd, 1) := by decide +kernel
theorem dX11_heldUp_158 : decode cX11_heldUp 158 = .ok (.lastore, 1) := by decide +kernel
theorem dX11_heldUp_159 : decode cX11_heldUp 159 = .ok (.aload_n 0, 1) := by decide +kernel
theorem dX11_heldUp_160 : decode cX11_heldUp 160 = .ok (.getfield 38, 3) := by decide +kernel
theorem dX11_heldUp_163 : decode cX11_heldUp 163 = .ok (.iload 7, 2) := by decide +kernel
theorem dX11_heldUp_165 : decode cX11_heldUp 165 = .ok (.dup2, 1) := by decide +kernel
theorem dX11_heldUp_166 : decode cX11_heldUp 166 = .ok (.laload, 1) := by decide +kernel
theorem dX11_heldUp_167 : decode cX11_heldUp 167 = .ok (.aload_n 0, 1) := by decide +kernel
theorem dX11_heldUp_168 : decode cX11_heldUp 168 = .ok (.getfield 34, 3) := by decide +kernel
theorem dX11_heldUp_171 : decode cX11_heldUp 171 = .ok (.iload 7, 2) := by decide +kernel
theorem dX11_heldUp_173 : decode cX11_heldUp 173 = .ok (.laload, 1) := by decide +kernel
theorem dX11_heldUp_174 : decode cX11_heldUp 174 = .ok (.bipush 10, 2) := by decide +kernel
theorem dX11_heldUp_176 : decode cX11_heldUp 176 = .ok (.iload_n 3, 1) := by decide +kernel
theorem dX11_heldUp_177 : decode cX11_heldUp 177 = .ok (.isub, 1) := by decide +kernel
theorem dX11_heldUp_178 : decode cX11_heldUp 178 = .ok (.i2l, 1) := by decide +kernel
theorem dX11_heldUp_179 : decode cX11_heldUp 179 = .ok (.lmul, 1) := by decide +kernel
theorem dX11_heldUp_180 : decode cX11_heldUp 180 = .ok (.ladd, 1) := by decide +kernel
theorem dX11_heldUp_181 : decode cX11_heldUp 181 = .ok (.lastore, 1) := by decide +kernel
theorem dX11_heldUp_182 : decode cX11_heldUp 182 = .ok (.iinc 7 1, 3) := by decide +kernel
theorem dX11_heldUp_185 : decode cX11_heldUp 185 = .ok (.goto (-72), 3) := by decide +kernel
theorem dX11_heldUp_188 : decode cX11_heldUp 188 = .ok (.iconst 0, 1) := by decide +kernel
theorem dX11_heldUp_189 : decode cX11_heldUp 189 = .ok (.istore 7, 2) := by decide +kernel
theorem dX11_heldUp_191 : decode cX11_heldUp 191 = .ok (.iload 7, 2) := by decide +kernel
theorem dX11_heldUp_193 : decode cX11_heldUp 193 = .ok (.bipush 10, 2) := by decide +kernel
theorem dX11_heldUp_195 : decode cX11_heldUp 195 = .ok (.if_icmp .ge 23, 3) := by decide +kernel
theorem dX11_heldUp_198 : decode cX11_heldUp 198 = .ok (.aload_n 0, 1) := by decide +kernel
theorem dX11_heldUp_199 : decode cX11_heldUp 199 = .ok (.getfield 34, 3) := by decide +kernel
theorem dX11_heldUp_202 : decode cX11_heldUp 202 = .ok (.iload 7, 2) := by decide +kernel
theorem dX11_heldUp_204 : decode cX11_heldUp 204 = .ok (.aload_n 0, 1) := by decide +kernel
theorem dX11_heldUp_205 : decode cX11_heldUp 205 = .ok (.getfield 38, 3) := by decide +kernel
theorem dX11_heldUp_208 : decode cX11_heldUp 208 = .ok (.iload 7, 2) := by decide +kernel
theorem dX11_heldUp_210 : decode cX11_heldUp 210 = .ok (.laload, 1) := by decide +kernel
theorem dX11_heldUp_211 : decode cX11_heldUp 211 = .ok (.lastore, 1) := by decide +kernel
theorem dX11_heldUp_212 : decode cX11_heldUp 212 = .ok (.iinc 7 1, 3) := by decide +kernel
theorem dX11_heldUp_215 : decode cX11_heldUp 215 = .ok (.goto (-24), 3) := by decide +kernel
theorem dX11_heldUp_218 : decode cX11_heldUp 218 = .ok (.iinc 6 1, 3) := by decide +kernel
theorem dX11_heldUp_221 : decode cX11_heldUp 221 = .ok (.goto (-141), 3) := by decide +kernel
theorem dX11_heldUp_224 : decode cX11_heldUp 224 = .ok (.lconst 0, 1) := by decide +kernel
theorem dX11_heldUp_225 : decode cX11_heldUp 225 = .ok (.lstore 6, 2) := by decide +kernel
theorem dX11_heldUp_227 : decode cX11_heldUp 227 = .ok (.iconst 0, 1) := by decide +kernel
theorem dX11_heldUp_228 : decode cX11_heldUp 228 = .ok (.istore 8, 2) := by decide +kernel
theorem dX11_heldUp_230 : decode cX11_heldUp 230 = .ok (.iload 8, 2) := by decide +kernel
theorem dX11_heldUp_232 : decode cX11_heldUp 232 = .ok (.bipush 10, 2) := by decide +kernel
theorem dX11_heldUp_234 : decode cX11_heldUp 234 = .ok (.if_icmp .ge 30, 3) := by decide +kernel
theorem dX11_heldUp_237 : decode cX11_heldUp 237 = .ok (.lload 6, 2) := by decide +kernel
theorem dX11_heldUp_239 : decode cX11_heldUp 239 = .ok (.aload_n 0, 1) := by decide +kernel
theorem dX11_heldUp_240 : decode cX11_heldUp 240 = .ok (.getfield 34, 3) := by decide +kernel
theorem dX11_heldUp_243 : decode cX11_heldUp 243 = .ok (.iload 8, 2) := by decide +kernel
theorem dX11_heldUp_245 : decode cX11_heldUp 245 = .ok (.laload, 1) := by decide +kernel
theorem dX11_heldUp_246 : decode cX11_heldUp 246 = .ok (.iload 4, 2) := by decide +kernel
theorem dX11_heldUp_248 : decode cX11_heldUp 248 = .ok (.iload 8, 2) := by decide +kernel
theorem dX11_heldUp_250 : decode cX11_heldUp 250 = .ok (.invokestatic 98, 3) := by decide +kernel
theorem dX11_heldUp_253 : decode cX11_heldUp 253 = .ok (.i2l, 1) := by decide +kernel
theorem dX11_heldUp_254 : decode cX11_heldUp 254 = .ok (.lmul, 1) := by decide +kernel
theorem dX11_heldUp_255 : decode cX11_heldUp 255 = .ok (.ladd, 1) := by decide +kernel
theorem dX11_heldUp_256 : decode cX11_heldUp 256 = .ok (.lstore 6, 2) := by decide +kernel
theorem dX11_heldUp_258 : decode cX11_heldUp 258 = .ok (.iinc 8 1, 3) := by decide +kernel
theorem dX11_heldUp_261 : decode cX11_heldUp 261 = .ok (.goto (-31), 3) := by decide +kernel
theorem dX11_heldUp_264 : decode cX11_heldUp 264 = .ok (.lload 6, 2) := by decide +kernel
theorem dX11_heldUp_266 : decode cX11_heldUp 266 = .ok (.lreturn, 1) := by decide +kernel
theorem dX11_power_0 : decode cX11_power 0 = .ok (.lconst 1, 1) := by decide +kernel
theorem dX11_power_1 : decode cX11_power 1 = .ok (.lstore_n 1, 1) := by decide +kernel
theorem dX11_power_2 : decode cX11_power 2 = .ok (.iconst 0, 1) := by decide +kernel
theorem dX11_power_3 : decode cX11_power 3 = .ok (.istore_n 3, 1) := by decide +kernel
theorem dX11_power_4 : decode cX11_power 4 = .ok (.iload_n 3, 1) := by decide +kernel
theorem dX11_power_5 : decode cX11_power 5 = .ok (.iload_n 0, 1) := by decide +kernel
theorem dX11_power_6 : decode cX11_power 6 = .ok (.if_icmp .ge 15, 3) := by decide +kernel
theorem dX11_power_9 : decode cX11_power 9 = .ok (.lload_n 1, 1) := by decide +kernel
theorem dX11_power_10 : decode cX11_power 10 = .ok (.ldc2_w 157, 3) := by decide +kernel
theorem dX11_power_13 : decode cX11_power 13 = .ok (.lmul, 1) := by decide +kernel
theorem dX11_power_14 : decode cX11_power 14 = .ok (.lstore_n 1, 1) := by decide +kernel
theorem dX11_power_15 : decode cX11_power 15 = .ok (.iinc 3 1, 3) := by decide +kernel
theorem dX11_power_18 : decode cX11_power 18 = .ok (.goto (-14), 3) := by decide +kernel
theorem dX11_power_21 : decode cX11_power 21 = .ok (.lload_n 1, 1) := by decide +kernel
theorem dX11_power_22 : decode cX11_power 22 = .ok (.lreturn, 1) := by decide +kernel
theorem dX11_term_0 : decode cX11_term 0 = .ok (.lload_n 0, 1) := by decide +kernel
theorem dX11_term_1 : decode cX11_term 1 = .ok (.lstore 5, 2) := by decide +kernel
theorem dX11_term_3 : decode cX11_term 3 = .ok (.lload_n 2, 1) := by decide +kernel
theorem dX11_term_4 : decode cX11_term 4 = .ok (.lstore 7, 2) := by decide +kernel
theorem dX11_term_6 : decode cX11_term 6 = .ok (.lload 5, 2) := by decide +kernel
theorem dX11_term_8 : decode cX11_term 8 = .ok (.lconst 0, 1) := by decide +kernel
theorem dX11_term_9 : decode cX11_term 9 = .ok (.lcmp, 1) := by decide +kernel
theorem dX11_term_10 : decode cX11_term 10 = .ok (.ifCond .eq 21, 3) := by decide +kernel
theorem dX11_term_13 : decode cX11_term 13 = .ok (.lload 7, 2) := by decide +kernel
theorem dX11_term_15 : decode cX11_term 15 = .ok (.lload 5, 2) := by decide +kernel
theorem dX11_term_17 : decode cX11_term 17 = .ok (.lrem, 1) := by decide +kernel
theorem dX11_term_18 : decode cX11_term 18 = .ok (.lstore 9, 2) := by decide +kernel
theorem dX11_term_20 : decode cX11_term 20 = .ok (.lload 5, 2) := by decide +kernel
theorem dX11_term_22 : decode cX11_term 22 = .ok (.lstore 7, 2) := by decide +kernel
theorem dX11_term_24 : decode cX11_term 24 = .ok (.lload 9, 2) := by decide +kernel
theorem dX11_term_26 : decode cX11_term 26 = .ok (.lstore 5, 2) := by decide +kernel
theorem dX11_term_28 : decode cX11_term 28 = .ok (.goto (-22), 3) := by decide +kernel
theorem dX11_term_31 : decode cX11_term 31 = .ok (.iload 4, 2) := by decide +kernel
theorem dX11_term_33 : decode cX11_term 33 = .ok (.ifCond .ne 10, 3) := by decide +kernel
theorem dX11_term_36 : decode cX11_term 36 = .ok (.lload_n 0, 1) := by decide +kernel
theorem dX11_term_37 : decode cX11_term 37 = .ok (.lload 7, 2) := by decide +kernel
theorem dX11_term_39 : decode cX11_term 39 = .ok (.ldiv, 1) := by decide +kernel
theorem dX11_term_40 : decode cX11_term 40 = .ok (.goto 7, 3) := by decide +kernel
theorem dX11_term_43 : decode cX11_term 43 = .ok (.lload_n 2, 1) := by decide +kernel
theorem dX11_term_44 : decode cX11_term 44 = .ok (.lload 7, 2) := by decide +kernel
theorem dX11_term_46 : decode cX11_term 46 = .ok (.ldiv, 1) := by decide +kernel
theorem dX11_term_47 : decode cX11_term 47 = .ok (.lreturn, 1) := by decide +kernel
set_option maxRecDepth 20000 in
theorem ggX11_held_X11_isFrond : GoodIn wsX11_held wsX11_isFrond := goodIn_r _ [9, 10, 11, 12, 8, 13, 33, 34, 35, 36, 37, 38, 39, 40, 41, 42, 43, 44, 45, 46, 47, 48, 49, 50, 51, 52, 53, 54, 55, 56, 57] (by decide +kernel) (by decide +kernel)
set_option maxRecDepth 20000 in
theorem gX11_held_X11_isFrond : GoodIn wsX11_held (wsV RX11 107 RX11 yX11_isFrond wsX11_isFrond) := goodIn_app (goodIn_of _ (by decide +kernel)) ggX11_held_X11_isFrond
set_option maxRecDepth 20000 in
theorem ggX11_held_X11_in : GoodIn wsX11_held wsX11_in := goodIn_r _ [13] (by decide +kernel) (by decide +kernel)
set_option maxRecDepth 20000 in
theorem gX11_held_X11_in : GoodIn wsX11_held (va_wsS RX11 74 yX11_in wsX11_in) := goodIn_app (goodIn_of _ (by decide +kernel)) ggX11_held_X11_in
set_option maxRecDepth 20000 in
theorem ggX11_held_X11_heldUp : GoodIn wsX11_held wsX11_heldUp := goodIn_r _ [17, 18, 19, 20, 21, 22, 8, 23, 24, 25, 26, 33, 34, 35, 36, 37, 38, 39, 40, 41, 42, 43, 44, 45, 46, 47, 48, 49, 50, 51, 52, 53, 54, 55, 56, 57] (by decide +kernel) (by decide +kernel)
set_option maxRecDepth 20000 in
theorem gX11_held_X11_heldUp : GoodIn wsX11_held (wsV RX11 176 RX11 yX11_heldUp wsX11_heldUp) := goodIn_app (goodIn_of _ (by decide +kernel)) ggX11_held_X11_heldUp
set_option maxRecDepth 20000 in
theorem ggX11_held_X11_power : GoodIn wsX11_held wsX11_power := goodIn_r _ [29, 3] (by decide +kernel) (by decide +kernel)
set_option maxRecDepth 20000 in
theorem gX11_held_X11_power : GoodIn wsX11_held (va_wsS RX11 180 yX11_power wsX11_power) := goodIn_app (goodIn_of _ (by decide +kernel)) ggX11_held_X11_power
set_option maxRecDepth 20000 in
theorem ggX11_held_X11_term : GoodIn wsX11_held wsX11_term := goodIn_r _ [32] (by decide +kernel) (by decide +kernel)
set_option maxRecDepth 20000 in
theorem gX11_held_X11_term : GoodIn wsX11_held (va_wsS RX11 184 yX11_term wsX11_term) := goodIn_app (goodIn_of _ (by decide +kernel)) ggX11_held_X11_term
theorem dX11_held_0 : decode cX11_held 0 = .ok (.aload_n 0, 1) := by decide +kernel
theorem dX11_held_1 : decode cX11_held 1 = .ok (.iload_n 1, 1) := by decide +kernel
theorem dX11_held_2 : decode cX11_held 2 = .ok (.invokevirtual 107, 3) := by decide +kernel
theorem dX11_held_5 : decode cX11_held 5 = .ok (.ifCond .ne 7, 3) := by decide +kernel
theorem dX11_held_8 : decode cX11_held 8 = .ok (.ldc2_w 170, 3) := by decide +kernel
theorem dX11_held_11 : decode cX11_held 11 = .ok (.lreturn, 1) := by decide +kernel
theorem dX11_held_12 : decode cX11_held 12 = .ok (.iload_n 2, 1) := by decide +kernel
theorem dX11_held_13 : decode cX11_held 13 = .ok (.i2l, 1) := by decide +kernel
theorem dX11_held_14 : decode cX11_held 14 = .ok (.lconst 0, 1) := by decide +kernel
theorem dX11_held_15 : decode cX11_held 15 = .ok (.ldc2_w 172, 3) := by decide +kernel
theorem dX11_held_18 : decode cX11_held 18 = .ok (.invokestatic 74, 3) := by decide +kernel
theorem dX11_held_21 : decode cX11_held 21 = .ok (.ifCond .eq 26, 3) := by decide +kernel
theorem dX11_held_24 : decode cX11_held 24 = .ok (.iload_n 3, 1) := by decide +kernel
theorem dX11_held_25 : decode cX11_held 25 = .ok (.i2l, 1) := by decide +kernel
theorem dX11_held_26 : decode cX11_held 26 = .ok (.lconst 0, 1) := by decide +kernel
theorem dX11_held_27 : decode cX11_held 27 = .ok (.ldc2_w 157, 3) := by decide +kernel
theorem dX11_held_30 : decode cX11_held 30 = .ok (.invokestatic 74, 3) := by decide +kernel
theorem dX11_held_33 : decode cX11_held 33 = .ok (.ifCond .eq 14, 3) := by decide +kernel
theorem dX11_held_36 : decode cX11_held 36 = .ok (.iload 4, 2) := by decide +kernel
theorem dX11_held_38 : decode cX11_held 38 = .ok (.i2l, 1) := by decide +kernel
theorem dX11_held_39 : decode cX11_held 39 = .ok (.lconst 0, 1) := by decide +kernel
theorem dX11_held_40 : decode cX11_held 40 = .ok (.lconst 1, 1) := by decide +kernel
theorem dX11_held_41 : decode cX11_held 41 = .ok (.invokestatic 74, 3) := by decide +kernel
theorem dX11_held_44 : decode cX11_held 44 = .ok (.ifCond .ne 7, 3) := by decide +kernel
theorem dX11_held_47 : decode cX11_held 47 = .ok (.ldc2_w 174, 3) := by decide +kernel
theorem dX11_held_50 : decode cX11_held 50 = .ok (.lreturn, 1) := by decide +kernel
theorem dX11_held_51 : decode cX11_held 51 = .ok (.aload_n 0, 1) := by decide +kernel
theorem dX11_held_52 : decode cX11_held 52 = .ok (.iload_n 1, 1) := by decide +kernel
theorem dX11_held_53 : decode cX11_held 53 = .ok (.iload_n 2, 1) := by decide +kernel
theorem dX11_held_54 : decode cX11_held 54 = .ok (.iload_n 3, 1) := by decide +kernel
theorem dX11_held_55 : decode cX11_held 55 = .ok (.invokevirtual 176, 3) := by decide +kernel
theorem dX11_held_58 : decode cX11_held 58 = .ok (.iload_n 2, 1) := by decide +kernel
theorem dX11_held_59 : decode cX11_held 59 = .ok (.invokestatic 180, 3) := by decide +kernel
theorem dX11_held_62 : decode cX11_held 62 = .ok (.iload 4, 2) := by decide +kernel
theorem dX11_held_64 : decode cX11_held 64 = .ok (.invokestatic 184, 3) := by decide +kernel
theorem dX11_held_67 : decode cX11_held 67 = .ok (.lreturn, 1) := by decide +kernel
set_option maxRecDepth 20000 in
theorem ggX11_when_X11_isFrond : GoodIn wsX11_when wsX11_isFrond := goodIn_r _ [7, 8, 9, 10, 6, 11, 28, 29, 30, 31, 32, 33, 34, 35, 36, 37, 38, 39, 40, 41, 42, 43, 44, 45, 46, 47, 48, 49, 50, 51, 52] (by decide +kernel) (by decide +kernel)
set_option maxRecDepth 20000 in
theorem gX11_when_X11_isFrond : GoodIn wsX11_when (wsV RX11 107 RX11 yX11_isFrond wsX11_isFrond) := goodIn_app (goodIn_of _ (by decide +kernel)) ggX11_when_X11_isFrond
set_option maxRecDepth 20000 in
theorem ggX11_when_X11_in : GoodIn wsX11_when wsX11_in := goodIn_r _ [11] (by decide +kernel) (by decide +kernel)
set_option maxRecDepth 20000 in
theorem gX11_when_X11_in : GoodIn wsX11_when (va_wsS RX11 74 yX11_in wsX11_in) := goodIn_app (goodIn_of _ (by decide +kernel)) ggX11_when_X11_in
set_option maxRecDepth 20000 in
theorem ggX11_when_X11_heldUp : GoodIn wsX11_when wsX11_heldUp := goodIn_r _ [15, 16, 17, 18, 19, 20, 6, 21, 22, 23, 24, 28, 29, 30, 31, 32, 33, 34, 35, 36, 37, 38, 39, 40, 41, 42, 43, 44, 45, 46, 47, 48, 49, 50, 51, 52] (by decide +kernel) (by decide +kernel)
set_option maxRecDepth 20000 in
theorem gX11_when_X11_heldUp : GoodIn wsX11_when (wsV RX11 176 RX11 yX11_heldUp wsX11_heldUp) := goodIn_app (goodIn_of _ (by decide +kernel)) ggX11_when_X11_heldUp
set_option maxRecDepth 20000 in
theorem ggX11_when_X11_power : GoodIn wsX11_when wsX11_power := goodIn_r _ [27, 2] (by decide +kernel) (by decide +kernel)
set_option maxRecDepth 20000 in
theorem gX11_when_X11_power : GoodIn wsX11_when (va_wsS RX11 180 yX11_power wsX11_power) := goodIn_app (goodIn_of _ (by decide +kernel)) ggX11_when_X11_power
theorem dX11_when_0 : decode cX11_when 0 = .ok (.aload_n 0, 1) := by decide +kernel
theorem dX11_when_1 : decode cX11_when 1 = .ok (.iload_n 1, 1) := by decide +kernel
theorem dX11_when_2 : decode cX11_when 2 = .ok (.invokevirtual 107, 3) := by decide +kernel
theorem dX11_when_5 : decode cX11_when 5 = .ok (.ifCond .ne 6, 3) := by decide +kernel
theorem dX11_when_8 : decode cX11_when 8 = .ok (.bipush (-101), 2) := by decide +kernel
theorem dX11_when_10 : decode cX11_when 10 = .ok (.ireturn, 1) := by decide +kernel
theorem dX11_when_11 : decode cX11_when 11 = .ok (.iload_n 2, 1) := by decide +kernel
theorem dX11_when_12 : decode cX11_when 12 = .ok (.i2l, 1) := by decide +kernel
theorem dX11_when_13 : decode cX11_when 13 = .ok (.lconst 0, 1) := by decide +kernel
theorem dX11_when_14 : decode cX11_when 14 = .ok (.ldc2_w 172, 3) := by decide +kernel
theorem dX11_when_17 : decode cX11_when 17 = .ok (.invokestatic 74, 3) := by decide +kernel
theorem dX11_when_20 : decode cX11_when 20 = .ok (.ifCond .eq 15, 3) := by decide +kernel
theorem dX11_when_23 : decode cX11_when 23 = .ok (.iload_n 3, 1) := by decide +kernel
theorem dX11_when_24 : decode cX11_when 24 = .ok (.i2l, 1) := by decide +kernel
theorem dX11_when_25 : decode cX11_when 25 = .ok (.lconst 0, 1) := by decide +kernel
theorem dX11_when_26 : decode cX11_when 26 = .ok (.ldc2_w 157, 3) := by decide +kernel
theorem dX11_when_29 : decode cX11_when 29 = .ok (.invokestatic 74, 3) := by decide +kernel
theorem dX11_when_32 : decode cX11_when 32 = .ok (.ifCond .ne 6, 3) := by decide +kernel
theorem dX11_when_35 : decode cX11_when 35 = .ok (.bipush (-102), 2) := by decide +kernel
theorem dX11_when_37 : decode cX11_when 37 = .ok (.ireturn, 1) := by decide +kernel
theorem dX11_when_38 : decode cX11_when 38 = .ok (.aload_n 0, 1) := by decide +kernel
theorem dX11_when_39 : decode cX11_when 39 = .ok (.iload_n 1, 1) := by decide +kernel
theorem dX11_when_40 : decode cX11_when 40 = .ok (.iconst 0, 1) := by decide +kernel
theorem dX11_when_41 : decode cX11_when 41 = .ok (.iload_n 3, 1) := by decide +kernel
theorem dX11_when_42 : decode cX11_when 42 = .ok (.invokevirtual 176, 3) := by decide +kernel
theorem dX11_when_45 : decode cX11_when 45 = .ok (.lstore 4, 2) := by decide +kernel
theorem dX11_when_47 : decode cX11_when 47 = .ok (.iconst 0, 1) := by decide +kernel
theorem dX11_when_48 : decode cX11_when 48 = .ok (.istore 6, 2) := by decide +kernel
theorem dX11_when_50 : decode cX11_when 50 = .ok (.iconst 1, 1) := by decide +kernel
theorem dX11_when_51 : decode cX11_when 51 = .ok (.istore 7, 2) := by decide +kernel
theorem dX11_when_53 : decode cX11_when 53 = .ok (.iload 7, 2) := by decide +kernel
theorem dX11_when_55 : decode cX11_when 55 = .ok (.iload_n 2, 1) := by decide +kernel
theorem dX11_when_56 : decode cX11_when 56 = .ok (.if_icmp .gt 38, 3) := by decide +kernel
theorem dX11_when_59 : decode cX11_when 59 = .ok (.aload_n 0, 1) := by decide +kernel
theorem dX11_when_60 : decode cX11_when 60 = .ok (.iload_n 1, 1) := by decide +kernel
theorem dX11_when_61 : decode cX11_when 61 = .ok (.iload 7, 2) := by decide +kernel
theorem dX11_when_63 : decode cX11_when 63 = .ok (.iload_n 3, 1) := by decide +kernel
theorem dX11_when_64 : decode cX11_when 64 = .ok (.invokevirtual 176, 3) := by decide +kernel
theorem dX11_when_67 : decode cX11_when 67 = .ok (.lload 4, 2) := by decide +kernel
theorem dX11_when_69 : decode cX11_when 69 = .ok (.iload 7, 2) := by decide +kernel
theorem dX11_when_71 : decode cX11_when 71 = .ok (.invokestatic 180, 3) := by decide +kernel
theorem dX11_when_74 : decode cX11_when 74 = .ok (.lmul, 1) := by decide +kernel
theorem dX11_when_75 : decode cX11_when 75 = .ok (.lcmp, 1) := by decide +kernel
theorem dX11_when_76 : decode cX11_when 76 = .ok (.ifCond .lt 8, 3) := by decide +kernel
theorem dX11_when_79 : decode cX11_when 79 = .ok (.iload 7, 2) := by decide +kernel
theorem dX11_when_81 : decode cX11_when 81 = .ok (.goto 5, 3) := by decide +kernel
theorem dX11_when_84 : decode cX11_when 84 = .ok (.iload 6, 2) := by decide +kernel
theorem dX11_when_86 : decode cX11_when 86 = .ok (.istore 6, 2) := by decide +kernel
theorem dX11_when_88 : decode cX11_when 88 = .ok (.iinc 7 1, 3) := by decide +kernel
theorem dX11_when_91 : decode cX11_when 91 = .ok (.goto (-38), 3) := by decide +kernel
theorem dX11_when_94 : decode cX11_when 94 = .ok (.iload 6, 2) := by decide +kernel
theorem dX11_when_96 : decode cX11_when 96 = .ok (.ireturn, 1) := by decide +kernel
set_option maxRecDepth 20000 in
theorem ggX11_orders_X11_byHand : GoodIn wsX11_orders wsX11_byHand := goodIn_r _ [5] (by decide +kernel) (by decide +kernel)
set_option maxRecDepth 20000 in
theorem gX11_orders_X11_byHand : GoodIn wsX11_orders (va_wsS RX11 98 yX11_byHand wsX11_byHand) := goodIn_app (goodIn_of _ (by decide +kernel)) ggX11_orders_X11_byHand
set_option maxRecDepth 20000 in
theorem ggX11_orders_X11_byMould : GoodIn wsX11_orders wsX11_byMould := goodIn_r _ [8] (by decide +kernel) (by decide +kernel)
set_option maxRecDepth 20000 in
theorem gX11_orders_X11_byMould : GoodIn wsX11_orders (va_wsS RX11 129 yX11_byMould wsX11_byMould) := goodIn_app (goodIn_of _ (by decide +kernel)) ggX11_orders_X11_byMould
theorem dX11_orders_0 : decode cX11_orders 0 = .ok (.aload_n 0, 1) := by decide +kernel
theorem dX11_orders_1 : decode cX11_orders 1 = .ok (.getfield 19, 3) := by decide +kernel
theorem dX11_orders_4 : decode cX11_orders 4 = .ok (.bipush 8, 2) := by decide +kernel
theorem dX11_orders_6 : decode cX11_orders 6 = .ok (.iload_n 1, 1) := by decide +kernel
theorem dX11_orders_7 : decode cX11_orders 7 = .ok (.imul, 1) := by decide +kernel
theorem dX11_orders_8 : decode cX11_orders 8 = .ok (.iaload, 1) := by decide +kernel
theorem dX11_orders_9 : decode cX11_orders 9 = .ok (.istore 4, 2) := by decide +kernel
theorem dX11_orders_11 : decode cX11_orders 11 = .ok (.iload_n 2, 1) := by decide +kernel
theorem dX11_orders_12 : decode cX11_orders 12 = .ok (.iload_n 3, 1) := by decide +kernel
theorem dX11_orders_13 : decode cX11_orders 13 = .ok (.iadd, 1) := by decide +kernel
theorem dX11_orders_14 : decode cX11_orders 14 = .ok (.istore 5, 2) := by decide +kernel
theorem dX11_orders_16 : decode cX11_orders 16 = .ok (.iconst 0, 1) := by decide +kernel
theorem dX11_orders_17 : decode cX11_orders 17 = .ok (.istore 6, 2) := by decide +kernel
theorem dX11_orders_19 : decode cX11_orders 19 = .ok (.iconst 0, 1) := by decide +kernel
theorem dX11_orders_20 : decode cX11_orders 20 = .ok (.istore 7, 2) := by decide +kernel
theorem dX11_orders_22 : decode cX11_orders 22 = .ok (.iload 7, 2) := by decide +kernel
theorem dX11_orders_24 : decode cX11_orders 24 = .ok (.iconst 1, 1) := by decide +kernel
theorem dX11_orders_25 : decode cX11_orders 25 = .ok (.iload 5, 2) := by decide +kernel
theorem dX11_orders_27 : decode cX11_orders 27 = .ok (.ishl, 1) := by decide +kernel
theorem dX11_orders_28 : decode cX11_orders 28 = .ok (.if_icmp .ge 121, 3) := by decide +kernel
theorem dX11_orders_31 : decode cX11_orders 31 = .ok (.bipush 9, 2) := by decide +kernel
theorem dX11_orders_33 : decode cX11_orders 33 = .ok (.istore 8, 2) := by decide +kernel
theorem dX11_orders_35 : decode cX11_orders 35 = .ok (.iconst 0, 1) := by decide +kernel
theorem dX11_orders_36 : decode cX11_orders 36 = .ok (.istore 9, 2) := by decide +kernel
theorem dX11_orders_38 : decode cX11_orders 38 = .ok (.iconst 0, 1) := by decide +kernel
theorem dX11_orders_39 : decode cX11_orders 39 = .ok (.istore 10, 2) := by decide +kernel
theorem dX11_orders_41 : decode cX11_orders 41 = .ok (.iload 10, 2) := by decide +kernel
theorem dX11_orders_43 : decode cX11_orders 43 = .ok (.iload 5, 2) := by decide +kernel
theorem dX11_orders_45 : decode cX11_orders 45 = .ok (.if_icmp .ge 66, 3) := by decide +kernel
theorem dX11_orders_48 : decode cX11_orders 48 = .ok (.iload 7, 2) := by decide +kernel
theorem dX11_orders_50 : decode cX11_orders 50 = .ok (.iload 10, 2) := by decide +kernel
theorem dX11_orders_52 : decode cX11_orders 52 = .ok (.ishr, 1) := by decide +kernel
theorem dX11_orders_53 : decode cX11_orders 53 = .ok (.iconst 1, 1) := by decide +kernel
theorem dX11_orders_54 : decode cX11_orders 54 = .ok (.iand, 1) := by decide +kernel
theorem dX11_orders_55 : decode cX11_orders 55 = .ok (.iconst 1, 1) := by decide +kernel
theorem dX11_orders_56 : decode cX11_orders 56 = .ok (.if_icmp .ne 7, 3) := by decide +kernel
theorem dX11_orders_59 : decode cX11_orders 59 = .ok (.iconst 1, 1) := by decide +kernel
theorem dX11_orders_60 : decode cX11_orders 60 = .ok (.goto 4, 3) := by decide +kernel
theorem dX11_orders_63 : decode cX11_orders 63 = .ok (.iconst 0, 1) := by decide +kernel
theorem dX11_orders_64 : decode cX11_orders 64 = .ok (.istore 11, 2) := by decide +kernel
theorem dX11_orders_66 : decode cX11_orders 66 = .ok (.iload 9, 2) := by decide +kernel
theorem dX11_orders_68 : decode cX11_orders 68 = .ok (.iload 11, 2) := by decide +kernel
theorem dX11_orders_70 : decode cX11_orders 70 = .ok (.ifCond .eq 7, 3) := by decide +kernel
theorem dX11_orders_73 : decode cX11_orders 73 = .ok (.iconst 1, 1) := by decide +kernel
theorem dX11_orders_74 : decode cX11_orders 74 = .ok (.goto 4, 3) := by decide +kernel
theorem dX11_orders_77 : decode cX11_orders 77 = .ok (.iconst 0, 1) := by decide +kernel
theorem dX11_orders_78 : decode cX11_orders 78 = .ok (.iadd, 1) := by decide +kernel
theorem dX11_orders_79 : decode cX11_orders 79 = .ok (.istore 9, 2) := by decide +kernel
theorem dX11_orders_81 : decode cX11_orders 81 = .ok (.iload 11, 2) := by decide +kernel
theorem dX11_orders_83 : decode cX11_orders 83 = .ok (.ifCond .eq 13, 3) := by decide +kernel
theorem dX11_orders_86 : decode cX11_orders 86 = .ok (.iload 4, 2) := by decide +kernel
theorem dX11_orders_88 : decode cX11_orders 88 = .ok (.iload 8, 2) := by decide +kernel
theorem dX11_orders_90 : decode cX11_orders 90 = .ok (.invokestatic 98, 3) := by decide +kernel
theorem dX11_orders_93 : decode cX11_orders 93 = .ok (.goto 10, 3) := by decide +kernel
theorem dX11_orders_96 : decode cX11_orders 96 = .ok (.iload 4, 2) := by decide +kernel
theorem dX11_orders_98 : decode cX11_orders 98 = .ok (.iload 8, 2) := by decide +kernel
theorem dX11_orders_100 : decode cX11_orders 100 = .ok (.invokestatic 129, 3) := by decide +kernel
theorem dX11_orders_103 : decode cX11_orders 103 = .ok (.istore 8, 2) := by decide +kernel
theorem dX11_orders_105 : decode cX11_orders 105 = .ok (.iinc 10 1, 3) := by decide +kernel
theorem dX11_orders_108 : decode cX11_orders 108 = .ok (.goto (-67), 3) := by decide +kernel
theorem dX11_orders_111 : decode cX11_orders 111 = .ok (.iload 6, 2) := by decide +kernel
theorem dX11_orders_113 : decode cX11_orders 113 = .ok (.iload 9, 2) := by decide +kernel
theorem dX11_orders_115 : decode cX11_orders 115 = .ok (.iload_n 2, 1) := by decide +kernel
theorem dX11_orders_116 : decode cX11_orders 116 = .ok (.if_icmp .ne 23, 3) := by decide +kernel
theorem dX11_orders_119 : decode cX11_orders 119 = .ok (.iload 8, 2) := by decide +kernel
theorem dX11_orders_121 : decode cX11_orders 121 = .ok (.aload_n 0, 1) := by decide +kernel
theorem dX11_orders_122 : decode cX11_orders 122 = .ok (.getfield 19, 3) := by decide +kernel
theorem dX11_orders_125 : decode cX11_orders 125 = .ok (.bipush 8, 2) := by decide +kernel
theorem dX11_orders_127 : decode cX11_orders 127 = .ok (.iload_n 1, 1) := by decide +kernel
theorem dX11_orders_128 : decode cX11_orders 128 = .ok (.imul, 1) := by decide +kernel
theorem dX11_orders_129 : decode cX11_orders 129 = .ok (.iconst 1, 1) := by decide +kernel
theorem dX11_orders_130 : decode cX11_orders 130 = .ok (.iadd, 1) := by decide +kernel
theorem dX11_orders_131 : decode cX11_orders 131 = .ok (.iaload, 1) := by decide +kernel
theorem dX11_orders_132 : decode cX11_orders 132 = .ok (.if_icmp .ne 7, 3) := by decide +kernel
theorem dX11_orders_135 : decode cX11_orders 135 = .ok (.iconst 1, 1) := by decide +kernel
theorem dX11_orders_136 : decode cX11_orders 136 = .ok (.goto 4, 3) := by decide +kernel
theorem dX11_orders_139 : decode cX11_orders 139 = .ok (.iconst 0, 1) := by decide +kernel
theorem dX11_orders_140 : decode cX11_orders 140 = .ok (.iadd, 1) := by decide +kernel
theorem dX11_orders_141 : decode cX11_orders 141 = .ok (.istore 6, 2) := by decide +kernel
theorem dX11_orders_143 : decode cX11_orders 143 = .ok (.iinc 7 1, 3) := by decide +kernel
theorem dX11_orders_146 : decode cX11_orders 146 = .ok (.goto (-124), 3) := by decide +kernel
theorem dX11_orders_149 : decode cX11_orders 149 = .ok (.iload 6, 2) := by decide +kernel
theorem dX11_orders_151 : decode cX11_orders 151 = .ok (.ireturn, 1) := by decide +kernel
theorem dX11_walks_0 : decode cX11_walks 0 = .ok (.iconst 1, 1) := by decide +kernel
theorem dX11_walks_1 : decode cX11_walks 1 = .ok (.istore 4, 2) := by decide +kernel
theorem dX11_walks_3 : decode cX11_walks 3 = .ok (.iconst 0, 1) := by decide +kernel
theorem dX11_walks_4 : decode cX11_walks 4 = .ok (.istore 5, 2) := by decide +kernel
theorem dX11_walks_6 : decode cX11_walks 6 = .ok (.iload 5, 2) := by decide +kernel
theorem dX11_walks_8 : decode cX11_walks 8 = .ok (.iload_n 3, 1) := by decide +kernel
theorem dX11_walks_9 : decode cX11_walks 9 = .ok (.if_icmp .ge 16, 3) := by decide +kernel
theorem dX11_walks_12 : decode cX11_walks 12 = .ok (.iload 4, 2) := by decide +kernel
theorem dX11_walks_14 : decode cX11_walks 14 = .ok (.bipush 6, 2) := by decide +kernel
theorem dX11_walks_16 : decode cX11_walks 16 = .ok (.imul, 1) := by decide +kernel
theorem dX11_walks_17 : decode cX11_walks 17 = .ok (.istore 4, 2) := by decide +kernel
theorem dX11_walks_19 : decode cX11_walks 19 = .ok (.iinc 5 1, 3) := by decide +kernel
theorem dX11_walks_22 : decode cX11_walks 22 = .ok (.goto (-16), 3) := by decide +kernel
theorem dX11_walks_25 : decode cX11_walks 25 = .ok (.iconst 0, 1) := by decide +kernel
theorem dX11_walks_26 : decode cX11_walks 26 = .ok (.istore 5, 2) := by decide +kernel
theorem dX11_walks_28 : decode cX11_walks 28 = .ok (.iconst 0, 1) := by decide +kernel
theorem dX11_walks_29 : decode cX11_walks 29 = .ok (.istore 6, 2) := by decide +kernel
theorem dX11_walks_31 : decode cX11_walks 31 = .ok (.iload 6, 2) := by decide +kernel
theorem dX11_walks_33 : decode cX11_walks 33 = .ok (.iload 4, 2) := by decide +kernel
theorem dX11_walks_35 : decode cX11_walks 35 = .ok (.if_icmp .ge 207, 3) := by decide +kernel
theorem dX11_walks_38 : decode cX11_walks 38 = .ok (.iload 6, 2) := by decide +kernel
theorem dX11_walks_40 : decode cX11_walks 40 = .ok (.istore 7, 2) := by decide +kernel
theorem dX11_walks_42 : decode cX11_walks 42 = .ok (.iload_n 2, 1) := by decide +kernel
theorem dX11_walks_43 : decode cX11_walks 43 = .ok (.istore 8, 2) := by decide +kernel
theorem dX11_walks_45 : decode cX11_walks 45 = .ok (.iconst (-1), 1) := by decide +kernel
theorem dX11_walks_46 : decode cX11_walks 46 = .ok (.istore 9, 2) := by decide +kernel
theorem dX11_walks_48 : decode cX11_walks 48 = .ok (.iconst (-1), 1) := by decide +kernel
theorem dX11_walks_49 : decode cX11_walks 49 = .ok (.istore 10, 2) := by decide +kernel
theorem dX11_walks_51 : decode cX11_walks 51 = .ok (.iconst (-1), 1) := by decide +kernel
theorem dX11_walks_52 : decode cX11_walks 52 = .ok (.istore 11, 2) := by decide +kernel
theorem dX11_walks_54 : decode cX11_walks 54 = .ok (.iconst (-1), 1) := by decide +kernel
theorem dX11_walks_55 : decode cX11_walks 55 = .ok (.istore 12, 2) := by decide +kernel
theorem dX11_walks_57 : decode cX11_walks 57 = .ok (.iconst 1, 1) := by decide +kernel
theorem dX11_walks_58 : decode cX11_walks 58 = .ok (.istore 13, 2) := by decide +kernel
theorem dX11_walks_60 : decode cX11_walks 60 = .ok (.iconst 0, 1) := by decide +kernel
theorem dX11_walks_61 : decode cX11_walks 61 = .ok (.istore 14, 2) := by decide +kernel
theorem dX11_walks_63 : decode cX11_walks 63 = .ok (.iload 14, 2) := by decide +kernel
theorem dX11_walks_65 : decode cX11_walks 65 = .ok (.iload_n 3, 1) := by decide +kernel
theorem dX11_walks_66 : decode cX11_walks 66 = .ok (.if_icmp .ge 61, 3) := by decide +kernel
theorem dX11_walks_69 : decode cX11_walks 69 = .ok (.iload 11, 2) := by decide +kernel
theorem dX11_walks_71 : decode cX11_walks 71 = .ok (.istore 12, 2) := by decide +kernel
theorem dX11_walks_73 : decode cX11_walks 73 = .ok (.iload 10, 2) := by decide +kernel
theorem dX11_walks_75 : decode cX11_walks 75 = .ok (.istore 11, 2) := by decide +kernel
theorem dX11_walks_77 : decode cX11_walks 77 = .ok (.iload 9, 2) := by decide +kernel
theorem dX11_walks_79 : decode cX11_walks 79 = .ok (.istore 10, 2) := by decide +kernel
theorem dX11_walks_81 : decode cX11_walks 81 = .ok (.iload 8, 2) := by decide +kernel
theorem dX11_walks_83 : decode cX11_walks 83 = .ok (.istore 9, 2) := by decide +kernel
theorem dX11_walks_85 : decode cX11_walks 85 = .ok (.iload 13, 2) := by decide +kernel
theorem dX11_walks_87 : decode cX11_walks 87 = .ok (.ifCond .eq 17, 3) := by decide +kernel
theorem dX11_walks_90 : decode cX11_walks 90 = .ok (.iload 7, 2) := by decide +kernel
theorem dX11_walks_92 : decode cX11_walks 92 = .ok (.bipush 6, 2) := by decide +kernel
theorem dX11_walks_94 : decode cX11_walks 94 = .ok (.irem, 1) := by decide +kernel
theorem dX11_walks_95 : decode cX11_walks 95 = .ok (.iload 8, 2) := by decide +kernel
theorem dX11_walks_97 : decode cX11_walks 97 = .ok (.if_icmp .eq 7, 3) := by decide +kernel
theorem dX11_walks_100 : decode cX11_walks 100 = .ok (.iconst 1, 1) := by decide +kernel
theorem dX11_walks_101 : decode cX11_walks 101 = .ok (.goto 4, 3) := by decide +kernel
theorem dX11_walks_104 : decode cX11_walks 104 = .ok (.iconst 0, 1) := by decide +kernel
theorem dX11_walks_105 : decode cX11_walks 105 = .ok (.istore 13, 2) := by decide +kernel
theorem dX11_walks_107 : decode cX11_walks 107 = .ok (.iload 7, 2) := by decide +kernel
theorem dX11_walks_109 : decode cX11_walks 109 = .ok (.bipush 6, 2) := by decide +kernel
theorem dX11_walks_111 : decode cX11_walks 111 = .ok (.irem, 1) := by decide +kernel
theorem dX11_walks_112 : decode cX11_walks 112 = .ok (.istore 8, 2) := by decide +kernel
theorem dX11_walks_114 : decode cX11_walks 114 = .ok (.iload 7, 2) := by decide +kernel
theorem dX11_walks_116 : decode cX11_walks 116 = .ok (.bipush 6, 2) := by decide +kernel
theorem dX11_walks_118 : decode cX11_walks 118 = .ok (.idiv, 1) := by decide +kernel
theorem dX11_walks_119 : decode cX11_walks 119 = .ok (.istore 7, 2) := by decide +kernel
theorem dX11_walks_121 : decode cX11_walks 121 = .ok (.iinc 14 1, 3) := by decide +kernel
theorem dX11_walks_124 : decode cX11_walks 124 = .ok (.goto (-61), 3) := by decide +kernel
theorem dX11_walks_127 : decode cX11_walks 127 = .ok (.iload 13, 2) := by decide +kernel
theorem dX11_walks_129 : decode cX11_walks 129 = .ok (.ifCond .eq 55, 3) := by decide +kernel
theorem dX11_walks_132 : decode cX11_walks 132 = .ok (.iload 8, 2) := by decide +kernel
theorem dX11_walks_134 : decode cX11_walks 134 = .ok (.aload_n 0, 1) := by decide +kernel
theorem dX11_walks_135 : decode cX11_walks 135 = .ok (.getfield 19, 3) := by decide +kernel
theorem dX11_walks_138 : decode cX11_walks 138 = .ok (.bipush 8, 2) := by decide +kernel
theorem dX11_walks_140 : decode cX11_walks 140 = .ok (.iload_n 1, 1) := by decide +kernel
theorem dX11_walks_141 : decode cX11_walks 141 = .ok (.imul, 1) := by decide +kernel
theorem dX11_walks_142 : decode cX11_walks 142 = .ok (.iconst 2, 1) := by decide +kernel
theorem dX11_walks_143 : decode cX11_walks 143 = .ok (.iadd, 1) := by decide +kernel
theorem dX11_walks_144 : decode cX11_walks 144 = .ok (.iaload, 1) := by decide +kernel
theorem dX11_walks_145 : decode cX11_walks 145 = .ok (.if_icmp .ne 39, 3) := by decide +kernel
theorem dX11_walks_148 : decode cX11_walks 148 = .ok (.iload 9, 2) := by decide +kernel
theorem dX11_walks_150 : decode cX11_walks 150 = .ok (.aload_n 0, 1) := by decide +kernel
theorem dX11_walks_151 : decode cX11_walks 151 = .ok (.getfield 19, 3) := by decide +kernel
theorem dX11_walks_154 : decode cX11_walks 154 = .ok (.bipush 8, 2) := by decide +kernel
theorem dX11_walks_156 : decode cX11_walks 156 = .ok (.iload_n 1, 1) := by decide +kernel
theorem dX11_walks_157 : decode cX11_walks 157 = .ok (.imul, 1) := by decide +kernel
theorem dX11_walks_158 : decode cX11_walks 158 = .ok (.iconst 4, 1) := by decide +kernel
theorem dX11_walks_159 : decode cX11_walks 159 = .ok (.iadd, 1) := by decide +kernel
theorem dX11_walks_160 : decode cX11_walks 160 = .ok (.iaload, 1) := by decide +kernel
theorem dX11_walks_161 : decode cX11_walks 161 = .ok (.if_icmp .ne 23, 3) := by decide +kernel
theorem dX11_walks_164 : decode cX11_walks 164 = .ok (.iload 10, 2) := by decide +kernel
theorem dX11_walks_166 : decode cX11_walks 166 = .ok (.aload_n 0, 1) := by decide +kernel
theorem dX11_walks_167 : decode cX11_walks 167 = .ok (.getfield 19, 3) := by decide +kernel
theorem dX11_walks_170 : decode cX11_walks 170 = .ok (.bipush 8, 2) := by decide +kernel
theorem dX11_walks_172 : decode cX11_walks 172 = .ok (.iload_n 1, 1) := by decide +kernel
theorem dX11_walks_173 : decode cX11_walks 173 = .ok (.imul, 1) := by decide +kernel
theorem dX11_walks_174 : decode cX11_walks 174 = .ok (.iconst 5, 1) := by decide +kernel
theorem dX11_walks_175 : decode cX11_walks 175 = .ok (.iadd, 1) := by decide +kernel
theorem dX11_walks_176 : decode cX11_walks 176 = .ok (.iaload, 1) := by decide +kernel
theorem dX11_walks_177 : decode cX11_walks 177 = .ok (.if_icmp .ne 7, 3) := by decide +kernel
theorem dX11_walks_180 : decode cX11_walks 180 = .ok (.iconst 1, 1) := by decide +kernel
theorem dX11_walks_181 : decode cX11_walks 181 = .ok (.goto 4, 3) := by decide +kernel
theorem dX11_walks_184 : decode cX11_walks 184 = .ok (.iconst 0, 1) := by decide +kernel
theorem dX11_walks_185 : decode cX11_walks 185 = .ok (.istore 13, 2) := by decide +kernel
theorem dX11_walks_187 : decode cX11_walks 187 = .ok (.iload 5, 2) := by decide +kernel
theorem dX11_walks_189 : decode cX11_walks 189 = .ok (.iload 13, 2) := by decide +kernel
theorem dX11_walks_191 : decode cX11_walks 191 = .ok (.ifCond .eq 41, 3) := by decide +kernel
theorem dX11_walks_194 : decode cX11_walks 194 = .ok (.iload 11, 2) := by decide +kernel
theorem dX11_walks_196 : decode cX11_walks 196 = .ok (.aload_n 0, 1) := by decide +kernel
theorem dX11_walks_197 : decode cX11_walks 197 = .ok (.getfield 19, 3) := by decide +kernel
theorem dX11_walks_200 : decode cX11_walks 200 = .ok (.bipush 8, 2) := by decide +kernel
theorem dX11_walks_202 : decode cX11_walks 202 = .ok (.iload_n 1, 1) := by decide +kernel
theorem dX11_walks_203 : decode cX11_walks 203 = .ok (.imul, 1) := by decide +kernel
theorem dX11_walks_204 : decode cX11_walks 204 = .ok (.bipush 6, 2) := by decide +kernel
theorem dX11_walks_206 : decode cX11_walks 206 = .ok (.iadd, 1) := by decide +kernel
theorem dX11_walks_207 : decode cX11_walks 207 = .ok (.iaload, 1) := by decide +kernel
theorem dX11_walks_208 : decode cX11_walks 208 = .ok (.if_icmp .ne 24, 3) := by decide +kernel
theorem dX11_walks_211 : decode cX11_walks 211 = .ok (.iload 12, 2) := by decide +kernel
theorem dX11_walks_213 : decode cX11_walks 213 = .ok (.aload_n 0, 1) := by decide +kernel
theorem dX11_walks_214 : decode cX11_walks 214 = .ok (.getfield 19, 3) := by decide +kernel
theorem dX11_walks_217 : decode cX11_walks 217 = .ok (.bipush 8, 2) := by decide +kernel
theorem dX11_walks_219 : decode cX11_walks 219 = .ok (.iload_n 1, 1) := by decide +kernel
theorem dX11_walks_220 : decode cX11_walks 220 = .ok (.imul, 1) := by decide +kernel
theorem dX11_walks_221 : decode cX11_walks 221 = .ok (.bipush 7, 2) := by decide +kernel
theorem dX11_walks_223 : decode cX11_walks 223 = .ok (.iadd, 1) := by decide +kernel
theorem dX11_walks_224 : decode cX11_walks 224 = .ok (.iaload, 1) := by decide +kernel
theorem dX11_walks_225 : decode cX11_walks 225 = .ok (.if_icmp .ne 7, 3) := by decide +kernel
theorem dX11_walks_228 : decode cX11_walks 228 = .ok (.iconst 1, 1) := by decide +kernel
theorem dX11_walks_229 : decode cX11_walks 229 = .ok (.goto 4, 3) := by decide +kernel
theorem dX11_walks_232 : decode cX11_walks 232 = .ok (.iconst 0, 1) := by decide +kernel
theorem dX11_walks_233 : decode cX11_walks 233 = .ok (.iadd, 1) := by decide +kernel
theorem dX11_walks_234 : decode cX11_walks 234 = .ok (.istore 5, 2) := by decide +kernel
theorem dX11_walks_236 : decode cX11_walks 236 = .ok (.iinc 6 1, 3) := by decide +kernel
theorem dX11_walks_239 : decode cX11_walks 239 = .ok (.goto (-208), 3) := by decide +kernel
theorem dX11_walks_242 : decode cX11_walks 242 = .ok (.iload 5, 2) := by decide +kernel
theorem dX11_walks_244 : decode cX11_walks 244 = .ok (.ireturn, 1) := by decide +kernel
set_option maxRecDepth 20000 in
theorem ggX11_went_X11_isFrond : GoodIn wsX11_went wsX11_isFrond := goodIn_r _ [8, 9, 10, 11, 7, 12, 31, 32, 33, 34, 35, 36, 37, 38, 39, 40, 41, 42, 43, 44, 45, 46, 47, 48, 49, 50, 51, 52, 53, 54, 55] (by decide +kernel) (by decide +kernel)
set_option maxRecDepth 20000 in
theorem gX11_went_X11_isFrond : GoodIn wsX11_went (wsV RX11 107 RX11 yX11_isFrond wsX11_isFrond) := goodIn_app (goodIn_of _ (by decide +kernel)) ggX11_went_X11_isFrond
set_option maxRecDepth 20000 in
theorem ggX11_went_X11_isPerson : GoodIn wsX11_went wsX11_isPerson := goodIn_r _ [15, 16, 10, 11, 7, 12] (by decide +kernel) (by decide +kernel)
set_option maxRecDepth 20000 in
theorem gX11_went_X11_isPerson : GoodIn wsX11_went (va_wsS RX11 91 yX11_isPerson wsX11_isPerson) := goodIn_app (goodIn_of _ (by decide +kernel)) ggX11_went_X11_isPerson
set_option maxRecDepth 20000 in
theorem ggX11_went_X11_in : GoodIn wsX11_went wsX11_in := goodIn_r _ [12] (by decide +kernel) (by decide +kernel)
set_option maxRecDepth 20000 in
theorem gX11_went_X11_in : GoodIn wsX11_went (va_wsS RX11 74 yX11_in wsX11_in) := goodIn_app (goodIn_of _ (by decide +kernel)) ggX11_went_X11_in
set_option maxRecDepth 20000 in
theorem ggX11_went_X11_orders : GoodIn wsX11_went wsX11_orders := goodIn_r _ [20, 3, 21, 22, 7, 23, 24, 25, 26, 31, 32, 33, 34, 35, 36, 37, 38, 39, 40, 41, 42, 43, 44, 45, 46, 47, 48, 49, 50, 51, 52, 53, 54, 55] (by decide +kernel) (by decide +kernel)
set_option maxRecDepth 20000 in
theorem gX11_went_X11_orders : GoodIn wsX11_went (wsV RX11 190 RX11 yX11_orders wsX11_orders) := goodIn_app (goodIn_of _ (by decide +kernel)) ggX11_went_X11_orders
set_option maxRecDepth 20000 in
theorem ggX11_went_X11_walks : GoodIn wsX11_went wsX11_walks := goodIn_r _ [30, 3, 31, 32, 33, 34, 35, 36, 37, 38, 39, 40, 41, 42, 43, 44, 45, 46, 47, 48, 49, 50, 51, 52, 53, 54, 55] (by decide +kernel) (by decide +kernel)
set_option maxRecDepth 20000 in
theorem gX11_went_X11_walks : GoodIn wsX11_went (wsV RX11 193 RX11 yX11_walks wsX11_walks) := goodIn_app (goodIn_of _ (by decide +kernel)) ggX11_went_X11_walks
theorem dX11_went_0 : decode cX11_went 0 = .ok (.aload_n 0, 1) := by decide +kernel
theorem dX11_went_1 : decode cX11_went 1 = .ok (.iload_n 1, 1) := by decide +kernel
theorem dX11_went_2 : decode cX11_went 2 = .ok (.invokevirtual 107, 3) := by decide +kernel
theorem dX11_went_5 : decode cX11_went 5 = .ok (.ifCond .eq 10, 3) := by decide +kernel
theorem dX11_went_8 : decode cX11_went 8 = .ok (.iload_n 2, 1) := by decide +kernel
theorem dX11_went_9 : decode cX11_went 9 = .ok (.invokestatic 91, 3) := by decide +kernel
theorem dX11_went_12 : decode cX11_went 12 = .ok (.ifCond .ne 6, 3) := by decide +kernel
theorem dX11_went_15 : decode cX11_went 15 = .ok (.bipush (-101), 2) := by decide +kernel
theorem dX11_went_17 : decode cX11_went 17 = .ok (.ireturn, 1) := by decide +kernel
theorem dX11_went_18 : decode cX11_went 18 = .ok (.iload_n 3, 1) := by decide +kernel
theorem dX11_went_19 : decode cX11_went 19 = .ok (.i2l, 1) := by decide +kernel
theorem dX11_went_20 : decode cX11_went 20 = .ok (.lconst 0, 1) := by decide +kernel
theorem dX11_went_21 : decode cX11_went 21 = .ok (.ldc2_w 188, 3) := by decide +kernel
theorem dX11_went_24 : decode cX11_went 24 = .ok (.invokestatic 74, 3) := by decide +kernel
theorem dX11_went_27 : decode cX11_went 27 = .ok (.ifCond .eq 16, 3) := by decide +kernel
theorem dX11_went_30 : decode cX11_went 30 = .ok (.iload 4, 2) := by decide +kernel
theorem dX11_went_32 : decode cX11_went 32 = .ok (.i2l, 1) := by decide +kernel
theorem dX11_went_33 : decode cX11_went 33 = .ok (.lconst 0, 1) := by decide +kernel
theorem dX11_went_34 : decode cX11_went 34 = .ok (.ldc2_w 113, 3) := by decide +kernel
theorem dX11_went_37 : decode cX11_went 37 = .ok (.invokestatic 74, 3) := by decide +kernel
theorem dX11_went_40 : decode cX11_went 40 = .ok (.ifCond .ne 6, 3) := by decide +kernel
theorem dX11_went_43 : decode cX11_went 43 = .ok (.bipush (-102), 2) := by decide +kernel
theorem dX11_went_45 : decode cX11_went 45 = .ok (.ireturn, 1) := by decide +kernel
theorem dX11_went_46 : decode cX11_went 46 = .ok (.aload_n 0, 1) := by decide +kernel
theorem dX11_went_47 : decode cX11_went 47 = .ok (.getfield 19, 3) := by decide +kernel
theorem dX11_went_50 : decode cX11_went 50 = .ok (.bipush 8, 2) := by decide +kernel
theorem dX11_went_52 : decode cX11_went 52 = .ok (.iload_n 1, 1) := by decide +kernel
theorem dX11_went_53 : decode cX11_went 53 = .ok (.imul, 1) := by decide +kernel
theorem dX11_went_54 : decode cX11_went 54 = .ok (.iconst 2, 1) := by decide +kernel
theorem dX11_went_55 : decode cX11_went 55 = .ok (.iadd, 1) := by decide +kernel
theorem dX11_went_56 : decode cX11_went 56 = .ok (.iaload, 1) := by decide +kernel
theorem dX11_went_57 : decode cX11_went 57 = .ok (.iconst (-1), 1) := by decide +kernel
theorem dX11_went_58 : decode cX11_went 58 = .ok (.if_icmp .ne 8, 3) := by decide +kernel
theorem dX11_went_61 : decode cX11_went 61 = .ok (.bipush (-103), 2) := by decide +kernel
theorem dX11_went_63 : decode cX11_went 63 = .ok (.goto 19, 3) := by decide +kernel
theorem dX11_went_66 : decode cX11_went 66 = .ok (.aload_n 0, 1) := by decide +kernel
theorem dX11_went_67 : decode cX11_went 67 = .ok (.iload_n 1, 1) := by decide +kernel
theorem dX11_went_68 : decode cX11_went 68 = .ok (.iload_n 3, 1) := by decide +kernel
theorem dX11_went_69 : decode cX11_went 69 = .ok (.iload 4, 2) := by decide +kernel
theorem dX11_went_71 : decode cX11_went 71 = .ok (.invokevirtual 190, 3) := by decide +kernel
theorem dX11_went_74 : decode cX11_went 74 = .ok (.aload_n 0, 1) := by decide +kernel
theorem dX11_went_75 : decode cX11_went 75 = .ok (.iload_n 1, 1) := by decide +kernel
theorem dX11_went_76 : decode cX11_went 76 = .ok (.iload_n 2, 1) := by decide +kernel
theorem dX11_went_77 : decode cX11_went 77 = .ok (.iload_n 3, 1) := by decide +kernel
theorem dX11_went_78 : decode cX11_went 78 = .ok (.invokevirtual 193, 3) := by decide +kernel
theorem dX11_went_81 : decode cX11_went 81 = .ok (.imul, 1) := by decide +kernel
theorem dX11_went_82 : decode cX11_went 82 = .ok (.ireturn, 1) := by decide +kernel
theorem dX11_draw_0 : decode cX11_draw 0 = .ok (.aload_n 0, 1) := by decide +kernel
theorem dX11_draw_1 : decode cX11_draw 1 = .ok (.ldc2_w 196, 3) := by decide +kernel
theorem dX11_draw_4 : decode cX11_draw 4 = .ok (.aload_n 0, 1) := by decide +kernel
theorem dX11_draw_5 : decode cX11_draw 5 = .ok (.getfield 198, 3) := by decide +kernel
theorem dX11_draw_8 : decode cX11_draw 8 = .ok (.i2l, 1) := by decide +kernel
theorem dX11_draw_9 : decode cX11_draw 9 = .ok (.lmul, 1) := by decide +kernel
theorem dX11_draw_10 : decode cX11_draw 10 = .ok (.ldc2_w 201, 3) := by decide +kernel
theorem dX11_draw_13 : decode cX11_draw 13 = .ok (.ladd, 1) := by decide +kernel
theorem dX11_draw_14 : decode cX11_draw 14 = .ok (.ldc2_w 203, 3) := by decide +kernel
theorem dX11_draw_17 : decode cX11_draw 17 = .ok (.land, 1) := by decide +kernel
theorem dX11_draw_18 : decode cX11_draw 18 = .ok (.l2i, 1) := by decide +kernel
theorem dX11_draw_19 : decode cX11_draw 19 = .ok (.putfield 198, 3) := by decide +kernel
theorem dX11_draw_22 : decode cX11_draw 22 = .ok (.aload_n 0, 1) := by decide +kernel
theorem dX11_draw_23 : decode cX11_draw 23 = .ok (.getfield 198, 3) := by decide +kernel
theorem dX11_draw_26 : decode cX11_draw 26 = .ok (.ldc 205, 2) := by decide +kernel
theorem dX11_draw_28 : decode cX11_draw 28 = .ok (.idiv, 1) := by decide +kernel
theorem dX11_draw_29 : decode cX11_draw 29 = .ok (.iload_n 1, 1) := by decide +kernel
theorem dX11_draw_30 : decode cX11_draw 30 = .ok (.irem, 1) := by decide +kernel
theorem dX11_draw_31 : decode cX11_draw 31 = .ok (.ireturn, 1) := by decide +kernel
theorem dX11_together_0 : decode cX11_together 0 = .ok (.iconst 0, 1) := by decide +kernel
theorem dX11_together_1 : decode cX11_together 1 = .ok (.istore_n 1, 1) := by decide +kernel
theorem dX11_together_2 : decode cX11_together 2 = .ok (.iconst 0, 1) := by decide +kernel
theorem dX11_together_3 : decode cX11_together 3 = .ok (.istore_n 2, 1) := by decide +kernel
theorem dX11_together_4 : decode cX11_together 4 = .ok (.iload_n 2, 1) := by decide +kernel
theorem dX11_together_5 : decode cX11_together 5 = .ok (.aload_n 0, 1) := by decide +kernel
theorem dX11_together_6 : decode cX11_together 6 = .ok (.getfield 88, 3) := by decide +kernel
theorem dX11_together_9 : decode cX11_together 9 = .ok (.if_icmp .ge 23, 3) := by decide +kernel
theorem dX11_together_12 : decode cX11_together 12 = .ok (.iload_n 1, 1) := by decide +kernel
theorem dX11_together_13 : decode cX11_together 13 = .ok (.aload_n 0, 1) := by decide +kernel
theorem dX11_together_14 : decode cX11_together 14 = .ok (.getfield 19, 3) := by decide +kernel
theorem dX11_together_17 : decode cX11_together 17 = .ok (.bipush 8, 2) := by decide +kernel
theorem dX11_together_19 : decode cX11_together 19 = .ok (.iload_n 2, 1) := by decide +kernel
theorem dX11_together_20 : decode cX11_together 20 = .ok (.imul, 1) := by decide +kernel
theorem dX11_together_21 : decode cX11_together 21 = .ok (.iconst 1, 1) := by decide +kernel
theorem dX11_together_22 : decode cX11_together 22 = .ok (.iadd, 1) := by decide +kernel
theorem dX11_together_23 : decode cX11_together 23 = .ok (.iaload, 1) := by decide +kernel
theorem dX11_together_24 : decode cX11_together 24 = .ok (.iadd, 1) := by decide +kernel
theorem dX11_together_25 : decode cX11_together 25 = .ok (.istore_n 1, 1) := by decide +kernel
theorem dX11_together_26 : decode cX11_together 26 = .ok (.iinc 2 1, 3) := by decide +kernel
theorem dX11_together_29 : decode cX11_together 29 = .ok (.goto (-25), 3) := by decide +kernel
theorem dX11_together_32 : decode cX11_together 32 = .ok (.iload_n 1, 1) := by decide +kernel
theorem dX11_together_33 : decode cX11_together 33 = .ok (.ireturn, 1) := by decide +kernel
theorem dX11_copy_0 : decode cX11_copy 0 = .ok (.iconst 0, 1) := by decide +kernel
theorem dX11_copy_1 : decode cX11_copy 1 = .ok (.istore_n 2, 1) := by decide +kernel
theorem dX11_copy_2 : decode cX11_copy 2 = .ok (.iload_n 2, 1) := by decide +kernel
theorem dX11_copy_3 : decode cX11_copy 3 = .ok (.aload_n 0, 1) := by decide +kernel
theorem dX11_copy_4 : decode cX11_copy 4 = .ok (.arraylength, 1) := by decide +kernel
theorem dX11_copy_5 : decode cX11_copy 5 = .ok (.if_icmp .ge 15, 3) := by decide +kernel
theorem dX11_copy_8 : decode cX11_copy 8 = .ok (.aload_n 1, 1) := by decide +kernel
theorem dX11_copy_9 : decode cX11_copy 9 = .ok (.iload_n 2, 1) := by decide +kernel
theorem dX11_copy_10 : decode cX11_copy 10 = .ok (.aload_n 0, 1) := by decide +kernel
theorem dX11_copy_11 : decode cX11_copy 11 = .ok (.iload_n 2, 1) := by decide +kernel
theorem dX11_copy_12 : decode cX11_copy 12 = .ok (.iaload, 1) := by decide +kernel
theorem dX11_copy_13 : decode cX11_copy 13 = .ok (.iastore, 1) := by decide +kernel
theorem dX11_copy_14 : decode cX11_copy 14 = .ok (.iinc 2 1, 3) := by decide +kernel
theorem dX11_copy_17 : decode cX11_copy 17 = .ok (.goto (-15), 3) := by decide +kernel
theorem dX11_copy_20 : decode cX11_copy 20 = .ok (.return_, 1) := by decide +kernel
set_option maxRecDepth 20000 in
theorem ggX11_months_X11_in : GoodIn wsX11_months wsX11_in := goodIn_r _ [11] (by decide +kernel) (by decide +kernel)
set_option maxRecDepth 20000 in
theorem gX11_months_X11_in : GoodIn wsX11_months (va_wsS RX11 74 yX11_in wsX11_in) := goodIn_app (goodIn_of _ (by decide +kernel)) ggX11_months_X11_in
set_option maxRecDepth 20000 in
theorem ggX11_months_X11_copy : GoodIn wsX11_months wsX11_copy := goodIn_r _ [14] (by decide +kernel) (by decide +kernel)
set_option maxRecDepth 20000 in
theorem gX11_months_X11_copy : GoodIn wsX11_months (va_wsS RX11 210 yX11_copy wsX11_copy) := goodIn_app (goodIn_of _ (by decide +kernel)) ggX11_months_X11_copy
set_option maxRecDepth 20000 in
theorem ggX11_months_X11_draw : GoodIn wsX11_months wsX11_draw := goodIn_r _ [18, 19, 6, 20, 21, 22, 45, 46, 47, 48, 49, 50, 51, 52, 53, 54, 55, 56, 57, 58, 59, 60, 61, 62, 63, 64, 65, 66, 67, 68, 69] (by decide +kernel) (by decide +kernel)
set_option maxRecDepth 20000 in
theorem gX11_months_X11_draw : GoodIn wsX11_months (wsV RX11 214 RX11 yX11_draw wsX11_draw) := goodIn_app (goodIn_of _ (by decide +kernel)) ggX11_months_X11_draw
set_option maxRecDepth 20000 in
theorem ggX11_months_X11_mould : GoodIn wsX11_months wsX11_mould := goodIn_r _ [26, 7, 4, 27, 28, 10, 29, 45, 46, 47, 48, 49, 50, 51, 52, 53, 54, 55, 56, 57, 58, 59, 60, 61, 62, 63, 64, 65, 66, 67, 68, 69] (by decide +kernel) (by decide +kernel)
set_option maxRecDepth 20000 in
theorem gX11_months_X11_mould : GoodIn wsX11_months (wsV RX11 132 RX11 yX11_mould wsX11_mould) := goodIn_app (goodIn_of _ (by decide +kernel)) ggX11_months_X11_mould
set_option maxRecDepth 20000 in
theorem ggX11_months_X11_hand : GoodIn wsX11_months wsX11_hand := goodIn_r _ [33, 4, 34, 35, 36, 10, 37, 38, 39, 40, 45, 46, 47, 48, 49, 50, 51, 52, 53, 54, 55, 56, 57, 58, 59, 60, 61, 62, 63, 64, 65, 66, 67, 68, 69] (by decide +kernel) (by decide +kernel)
set_option maxRecDepth 20000 in
theorem gX11_months_X11_hand : GoodIn wsX11_months (wsV RX11 117 RX11 yX11_hand wsX11_hand) := goodIn_app (goodIn_of _ (by decide +kernel)) ggX11_months_X11_hand
set_option maxRecDepth 20000 in
theorem ggX11_months_X11_together : GoodIn wsX11_months wsX11_together := goodIn_r _ [44, 7, 4, 45, 46, 47, 48, 49, 50, 51, 52, 53, 54, 55, 56, 57, 58, 59, 60, 61, 62, 63, 64, 65, 66, 67, 68, 69] (by decide +kernel) (by decide +kernel)
set_option maxRecDepth 20000 in
theorem gX11_months_X11_together : GoodIn wsX11_months (wsV RX11 217 RX11 yX11_together wsX11_together) := goodIn_app (goodIn_of _ (by decide +kernel)) ggX11_months_X11_together
theorem dX11_months_0 : decode cX11_months 0 = .ok (.iload_n 1, 1) := by decide +kernel
theorem dX11_months_1 : decode cX11_months 1 = .ok (.i2l, 1) := by decide +kernel
theorem dX11_months_2 : decode cX11_months 2 = .ok (.lconst 1, 1) := by decide +kernel
theorem dX11_months_3 : decode cX11_months 3 = .ok (.ldc2_w 206, 3) := by decide +kernel
theorem dX11_months_6 : decode cX11_months 6 = .ok (.invokestatic 74, 3) := by decide +kernel
theorem dX11_months_9 : decode cX11_months 9 = .ok (.ifCond .eq 32, 3) := by decide +kernel
theorem dX11_months_12 : decode cX11_months 12 = .ok (.iload_n 2, 1) := by decide +kernel
theorem dX11_months_13 : decode cX11_months 13 = .ok (.i2l, 1) := by decide +kernel
theorem dX11_months_14 : decode cX11_months 14 = .ok (.lconst 0, 1) := by decide +kernel
theorem dX11_months_15 : decode cX11_months 15 = .ok (.ldc2_w 157, 3) := by decide +kernel
theorem dX11_months_18 : decode cX11_months 18 = .ok (.invokestatic 74, 3) := by decide +kernel
theorem dX11_months_21 : decode cX11_months 21 = .ok (.ifCond .eq 20, 3) := by decide +kernel
theorem dX11_months_24 : decode cX11_months 24 = .ok (.iload_n 3, 1) := by decide +kernel
theorem dX11_months_25 : decode cX11_months 25 = .ok (.ifCond .lt 16, 3) := by decide +kernel
theorem dX11_months_28 : decode cX11_months 28 = .ok (.iload 4, 2) := by decide +kernel
theorem dX11_months_30 : decode cX11_months 30 = .ok (.i2l, 1) := by decide +kernel
theorem dX11_months_31 : decode cX11_months 31 = .ok (.lconst 0, 1) := by decide +kernel
theorem dX11_months_32 : decode cX11_months 32 = .ok (.ldc2_w 208, 3) := by decide +kernel
theorem dX11_months_35 : decode cX11_months 35 = .ok (.invokestatic 74, 3) := by decide +kernel
theorem dX11_months_38 : decode cX11_months 38 = .ok (.ifCond .ne 6, 3) := by decide +kernel
theorem dX11_months_41 : decode cX11_months 41 = .ok (.bipush (-102), 2) := by decide +kernel
theorem dX11_months_43 : decode cX11_months 43 = .ok (.ireturn, 1) := by decide +kernel
theorem dX11_months_44 : decode cX11_months 44 = .ok (.aload_n 0, 1) := by decide +kernel
theorem dX11_months_45 : decode cX11_months 45 = .ok (.getfield 19, 3) := by decide +kernel
theorem dX11_months_48 : decode cX11_months 48 = .ok (.aload_n 0, 1) := by decide +kernel
theorem dX11_months_49 : decode cX11_months 49 = .ok (.getfield 41, 3) := by decide +kernel
theorem dX11_months_52 : decode cX11_months 52 = .ok (.invokestatic 210, 3) := by decide +kernel
theorem dX11_months_55 : decode cX11_months 55 = .ok (.aload_n 0, 1) := by decide +kernel
theorem dX11_months_56 : decode cX11_months 56 = .ok (.iload_n 3, 1) := by decide +kernel
theorem dX11_months_57 : decode cX11_months 57 = .ok (.putfield 198, 3) := by decide +kernel
theorem dX11_months_60 : decode cX11_months 60 = .ok (.iconst 0, 1) := by decide +kernel
theorem dX11_months_61 : decode cX11_months 61 = .ok (.istore 5, 2) := by decide +kernel
theorem dX11_months_63 : decode cX11_months 63 = .ok (.iconst 0, 1) := by decide +kernel
theorem dX11_months_64 : decode cX11_months 64 = .ok (.istore 6, 2) := by decide +kernel
theorem dX11_months_66 : decode cX11_months 66 = .ok (.iload 6, 2) := by decide +kernel
theorem dX11_months_68 : decode cX11_months 68 = .ok (.iload_n 1, 1) := by decide +kernel
theorem dX11_months_69 : decode cX11_months 69 = .ok (.if_icmp .ge 112, 3) := by decide +kernel
theorem dX11_months_72 : decode cX11_months 72 = .ok (.aload_n 0, 1) := by decide +kernel
theorem dX11_months_73 : decode cX11_months 73 = .ok (.bipush 10, 2) := by decide +kernel
theorem dX11_months_75 : decode cX11_months 75 = .ok (.invokevirtual 214, 3) := by decide +kernel
theorem dX11_months_78 : decode cX11_months 78 = .ok (.iload_n 2, 1) := by decide +kernel
theorem dX11_months_79 : decode cX11_months 79 = .ok (.if_icmp .ge 12, 3) := by decide +kernel
theorem dX11_months_82 : decode cX11_months 82 = .ok (.aload_n 0, 1) := by decide +kernel
theorem dX11_months_83 : decode cX11_months 83 = .ok (.invokevirtual 132, 3) := by decide +kernel
theorem dX11_months_86 : decode cX11_months 86 = .ok (.istore 7, 2) := by decide +kernel
theorem dX11_months_88 : decode cX11_months 88 = .ok (.iinc 5 1, 3) := by decide +kernel
theorem dX11_months_91 : decode cX11_months 91 = .ok (.aload_n 0, 1) := by decide +kernel
theorem dX11_months_92 : decode cX11_months 92 = .ok (.getfield 88, 3) := by decide +kernel
theorem dX11_months_95 : decode cX11_months 95 = .ok (.ifCond .le 80, 3) := by decide +kernel
theorem dX11_months_98 : decode cX11_months 98 = .ok (.aload_n 0, 1) := by decide +kernel
theorem dX11_months_99 : decode cX11_months 99 = .ok (.aload_n 0, 1) := by decide +kernel
theorem dX11_months_100 : decode cX11_months 100 = .ok (.getfield 88, 3) := by decide +kernel
theorem dX11_months_103 : decode cX11_months 103 = .ok (.invokevirtual 214, 3) := by decide +kernel
theorem dX11_months_106 : decode cX11_months 106 = .ok (.istore 7, 2) := by decide +kernel
theorem dX11_months_108 : decode cX11_months 108 = .ok (.aload_n 0, 1) := by decide +kernel
theorem dX11_months_109 : decode cX11_months 109 = .ok (.bipush 6, 2) := by decide +kernel
theorem dX11_months_111 : decode cX11_months 111 = .ok (.invokevirtual 214, 3) := by decide +kernel
theorem dX11_months_114 : decode cX11_months 114 = .ok (.istore 8, 2) := by decide +kernel
theorem dX11_months_116 : decode cX11_months 116 = .ok (.aload_n 0, 1) := by decide +kernel
theorem dX11_months_117 : decode cX11_months 117 = .ok (.getfield 19, 3) := by decide +kernel
theorem dX11_months_120 : decode cX11_months 120 = .ok (.bipush 8, 2) := by decide +kernel
theorem dX11_months_122 : decode cX11_months 122 = .ok (.iload 7, 2) := by decide +kernel
theorem dX11_months_124 : decode cX11_months 124 = .ok (.imul, 1) := by decide +kernel
theorem dX11_months_125 : decode cX11_months 125 = .ok (.iconst 2, 1) := by decide +kernel
theorem dX11_months_126 : decode cX11_months 126 = .ok (.iadd, 1) := by decide +kernel
theorem dX11_months_127 : decode cX11_months 127 = .ok (.iaload, 1) := by decide +kernel
theorem dX11_months_128 : decode cX11_months 128 = .ok (.iconst (-1), 1) := by decide +kernel
theorem dX11_months_129 : decode cX11_months 129 = .ok (.if_icmp .eq 24, 3) := by decide +kernel
theorem dX11_months_132 : decode cX11_months 132 = .ok (.aload_n 0, 1) := by decide +kernel
theorem dX11_months_133 : decode cX11_months 133 = .ok (.getfield 19, 3) := by decide +kernel
theorem dX11_months_136 : decode cX11_months 136 = .ok (.bipush 8, 2) := by decide +kernel
theorem dX11_months_138 : decode cX11_months 138 = .ok (.iload 7, 2) := by decide +kernel
theorem dX11_months_140 : decode cX11_months 140 = .ok (.imul, 1) := by decide +kernel
theorem dX11_months_141 : decode cX11_months 141 = .ok (.iconst 2, 1) := by decide +kernel
theorem dX11_months_142 : decode cX11_months 142 = .ok (.iadd, 1) := by decide +kernel
theorem dX11_months_143 : decode cX11_months 143 = .ok (.iaload, 1) := by decide +kernel
theorem dX11_months_144 : decode cX11_months 144 = .ok (.iload 8, 2) := by decide +kernel
theorem dX11_months_146 : decode cX11_months 146 = .ok (.if_icmp .eq 7, 3) := by decide +kernel
theorem dX11_months_149 : decode cX11_months 149 = .ok (.iconst 1, 1) := by decide +kernel
theorem dX11_months_150 : decode cX11_months 150 = .ok (.goto 4, 3) := by decide +kernel
theorem dX11_months_153 : decode cX11_months 153 = .ok (.iconst 0, 1) := by decide +kernel
theorem dX11_months_154 : decode cX11_months 154 = .ok (.istore 9, 2) := by decide +kernel
theorem dX11_months_156 : decode cX11_months 156 = .ok (.iload 9, 2) := by decide +kernel
theorem dX11_months_158 : decode cX11_months 158 = .ok (.ifCond .eq 14, 3) := by decide +kernel
theorem dX11_months_161 : decode cX11_months 161 = .ok (.aload_n 0, 1) := by decide +kernel
theorem dX11_months_162 : decode cX11_months 162 = .ok (.iload 7, 2) := by decide +kernel
theorem dX11_months_164 : decode cX11_months 164 = .ok (.iload 8, 2) := by decide +kernel
theorem dX11_months_166 : decode cX11_months 166 = .ok (.invokevirtual 117, 3) := by decide +kernel
theorem dX11_months_169 : decode cX11_months 169 = .ok (.goto 4, 3) := by decide +kernel
theorem dX11_months_172 : decode cX11_months 172 = .ok (.iconst 0, 1) := by decide +kernel
theorem dX11_months_173 : decode cX11_months 173 = .ok (.istore 10, 2) := by decide +kernel
theorem dX11_months_175 : decode cX11_months 175 = .ok (.iinc 6 1, 3) := by decide +kernel
theorem dX11_months_178 : decode cX11_months 178 = .ok (.goto (-112), 3) := by decide +kernel
theorem dX11_months_181 : decode cX11_months 181 = .ok (.aload_n 0, 1) := by decide +kernel
theorem dX11_months_182 : decode cX11_months 182 = .ok (.invokevirtual 217, 3) := by decide +kernel
theorem dX11_months_185 : decode cX11_months 185 = .ok (.istore 6, 2) := by decide +kernel
theorem dX11_months_187 : decode cX11_months 187 = .ok (.aload_n 0, 1) := by decide +kernel
theorem dX11_months_188 : decode cX11_months 188 = .ok (.getfield 41, 3) := by decide +kernel
theorem dX11_months_191 : decode cX11_months 191 = .ok (.aload_n 0, 1) := by decide +kernel
theorem dX11_months_192 : decode cX11_months 192 = .ok (.getfield 19, 3) := by decide +kernel
theorem dX11_months_195 : decode cX11_months 195 = .ok (.invokestatic 210, 3) := by decide +kernel
theorem dX11_months_198 : decode cX11_months 198 = .ok (.iload 4, 2) := by decide +kernel
theorem dX11_months_200 : decode cX11_months 200 = .ok (.ifCond .ne 8, 3) := by decide +kernel
theorem dX11_months_203 : decode cX11_months 203 = .ok (.iload 6, 2) := by decide +kernel
theorem dX11_months_205 : decode cX11_months 205 = .ok (.goto 18, 3) := by decide +kernel
theorem dX11_months_208 : decode cX11_months 208 = .ok (.iload 4, 2) := by decide +kernel
theorem dX11_months_210 : decode cX11_months 210 = .ok (.iconst 1, 1) := by decide +kernel
theorem dX11_months_211 : decode cX11_months 211 = .ok (.if_icmp .ne 8, 3) := by decide +kernel
theorem dX11_months_214 : decode cX11_months 214 = .ok (.iload 5, 2) := by decide +kernel
theorem dX11_months_216 : decode cX11_months 216 = .ok (.goto 7, 3) := by decide +kernel
theorem dX11_months_219 : decode cX11_months 219 = .ok (.aload_n 0, 1) := by decide +kernel
theorem dX11_months_220 : decode cX11_months 220 = .ok (.getfield 198, 3) := by decide +kernel
theorem dX11_months_223 : decode cX11_months 223 = .ok (.ireturn, 1) := by decide +kernel
set_option maxRecDepth 20000 in
theorem ggX11_image_X11_copy : GoodIn wsX11_image wsX11_copy := goodIn_r _ [14] (by decide +kernel) (by decide +kernel)
set_option maxRecDepth 20000 in
theorem gX11_image_X11_copy : GoodIn wsX11_image (va_wsS RX11 210 yX11_copy wsX11_copy) := goodIn_app (goodIn_of _ (by decide +kernel)) ggX11_image_X11_copy
theorem dX11_image_0 : decode cX11_image 0 = .ok (.aload_n 0, 1) := by decide +kernel
theorem dX11_image_1 : decode cX11_image 1 = .ok (.getfield 19, 3) := by decide +kernel
theorem dX11_image_4 : decode cX11_image 4 = .ok (.aload_n 0, 1) := by decide +kernel
theorem dX11_image_5 : decode cX11_image 5 = .ok (.getfield 44, 3) := by decide +kernel
theorem dX11_image_8 : decode cX11_image 8 = .ok (.invokestatic 210, 3) := by decide +kernel
theorem dX11_image_11 : decode cX11_image 11 = .ok (.aload_n 0, 1) := by decide +kernel
theorem dX11_image_12 : decode cX11_image 12 = .ok (.getfield 22, 3) := by decide +kernel
theorem dX11_image_15 : decode cX11_image 15 = .ok (.aload_n 0, 1) := by decide +kernel
theorem dX11_image_16 : decode cX11_image 16 = .ok (.getfield 47, 3) := by decide +kernel
theorem dX11_image_19 : decode cX11_image 19 = .ok (.invokestatic 210, 3) := by decide +kernel
theorem dX11_image_22 : decode cX11_image 22 = .ok (.aload_n 0, 1) := by decide +kernel
theorem dX11_image_23 : decode cX11_image 23 = .ok (.aload_n 0, 1) := by decide +kernel
theorem dX11_image_24 : decode cX11_image 24 = .ok (.getfield 120, 3) := by decide +kernel
theorem dX11_image_27 : decode cX11_image 27 = .ok (.putfield 220, 3) := by decide +kernel
theorem dX11_image_30 : decode cX11_image 30 = .ok (.aload_n 0, 1) := by decide +kernel
theorem dX11_image_31 : decode cX11_image 31 = .ok (.aload_n 0, 1) := by decide +kernel
theorem dX11_image_32 : decode cX11_image 32 = .ok (.getfield 135, 3) := by decide +kernel
theorem dX11_image_35 : decode cX11_image 35 = .ok (.putfield 223, 3) := by decide +kernel
theorem dX11_image_38 : decode cX11_image 38 = .ok (.aload_n 0, 1) := by decide +kernel
theorem dX11_image_39 : decode cX11_image 39 = .ok (.aload_n 0, 1) := by decide +kernel
theorem dX11_image_40 : decode cX11_image 40 = .ok (.getfield 88, 3) := by decide +kernel
theorem dX11_image_43 : decode cX11_image 43 = .ok (.putfield 50, 3) := by decide +kernel
theorem dX11_image_46 : decode cX11_image 46 = .ok (.aload_n 0, 1) := by decide +kernel
theorem dX11_image_47 : decode cX11_image 47 = .ok (.getfield 88, 3) := by decide +kernel
theorem dX11_image_50 : decode cX11_image 50 = .ok (.ireturn, 1) := by decide +kernel
set_option maxRecDepth 20000 in
theorem ggX11_restore_X11_copy : GoodIn wsX11_restore wsX11_copy := goodIn_r _ [14] (by decide +kernel) (by decide +kernel)
set_option maxRecDepth 20000 in
theorem gX11_restore_X11_copy : GoodIn wsX11_restore (va_wsS RX11 210 yX11_copy wsX11_copy) := goodIn_app (goodIn_of _ (by decide +kernel)) ggX11_restore_X11_copy
theorem dX11_restore_0 : decode cX11_restore 0 = .ok (.aload_n 0, 1) := by decide +kernel
theorem dX11_restore_1 : decode cX11_restore 1 = .ok (.getfield 50, 3) := by decide +kernel
theorem dX11_restore_4 : decode cX11_restore 4 = .ok (.iconst (-1), 1) := by decide +kernel
theorem dX11_restore_5 : decode cX11_restore 5 = .ok (.if_icmp .ne 6, 3) := by decide +kernel
theorem dX11_restore_8 : decode cX11_restore 8 = .ok (.bipush (-103), 2) := by decide +kernel
theorem dX11_restore_10 : decode cX11_restore 10 = .ok (.ireturn, 1) := by decide +kernel
theorem dX11_restore_11 : decode cX11_restore 11 = .ok (.aload_n 0, 1) := by decide +kernel
theorem dX11_restore_12 : decode cX11_restore 12 = .ok (.getfield 44, 3) := by decide +kernel
theorem dX11_restore_15 : decode cX11_restore 15 = .ok (.aload_n 0, 1) := by decide +kernel
theorem dX11_restore_16 : decode cX11_restore 16 = .ok (.getfield 19, 3) := by decide +kernel
theorem dX11_restore_19 : decode cX11_restore 19 = .ok (.invokestatic 210, 3) := by decide +kernel
theorem dX11_restore_22 : decode cX11_restore 22 = .ok (.aload_n 0, 1) := by decide +kernel
theorem dX11_restore_23 : decode cX11_restore 23 = .ok (.getfield 47, 3) := by decide +kernel
theorem dX11_restore_26 : decode cX11_restore 26 = .ok (.aload_n 0, 1) := by decide +kernel
theorem dX11_restore_27 : decode cX11_restore 27 = .ok (.getfield 22, 3) := by decide +kernel
theorem dX11_restore_30 : decode cX11_restore 30 = .ok (.invokestatic 210, 3) := by decide +kernel
theorem dX11_restore_33 : decode cX11_restore 33 = .ok (.aload_n 0, 1) := by decide +kernel
theorem dX11_restore_34 : decode cX11_restore 34 = .ok (.aload_n 0, 1) := by decide +kernel
theorem dX11_restore_35 : decode cX11_restore 35 = .ok (.getfield 220, 3) := by decide +kernel
theorem dX11_restore_38 : decode cX11_restore 38 = .ok (.putfield 120, 3) := by decide +kernel
theorem dX11_restore_41 : decode cX11_restore 41 = .ok (.aload_n 0, 1) := by decide +kernel
theorem dX11_restore_42 : decode cX11_restore 42 = .ok (.aload_n 0, 1) := by decide +kernel
theorem dX11_restore_43 : decode cX11_restore 43 = .ok (.getfield 223, 3) := by decide +kernel
theorem dX11_restore_46 : decode cX11_restore 46 = .ok (.putfield 135, 3) := by decide +kernel
theorem dX11_restore_49 : decode cX11_restore 49 = .ok (.aload_n 0, 1) := by decide +kernel
theorem dX11_restore_50 : decode cX11_restore 50 = .ok (.aload_n 0, 1) := by decide +kernel
theorem dX11_restore_51 : decode cX11_restore 51 = .ok (.getfield 50, 3) := by decide +kernel
theorem dX11_restore_54 : decode cX11_restore 54 = .ok (.putfield 88, 3) := by decide +kernel
theorem dX11_restore_57 : decode cX11_restore 57 = .ok (.aload_n 0, 1) := by decide +kernel
theorem dX11_restore_58 : decode cX11_restore 58 = .ok (.getfield 88, 3) := by decide +kernel
theorem dX11_restore_61 : decode cX11_restore 61 = .ok (.ireturn, 1) := by decide +kernel
set_option maxRecDepth 20000 in
theorem ggX11_countOf_X11_together : GoodIn wsX11_countOf wsX11_together := goodIn_r _ [11, 1, 2, 12, 13, 14, 15, 16, 17, 18, 19, 20, 21, 22, 23, 24, 25, 26, 27, 28, 29, 30, 31, 32, 33, 34, 35, 36] (by decide +kernel) (by decide +kernel)
set_option maxRecDepth 20000 in
theorem gX11_countOf_X11_together : GoodIn wsX11_countOf (wsV RX11 217 RX11 yX11_together wsX11_together) := goodIn_app (goodIn_of _ (by decide +kernel)) ggX11_countOf_X11_together
theorem dX11_countOf_0 : decode cX11_countOf 0 = .ok (.iconst 0, 1) := by decide +kernel
theorem dX11_countOf_1 : decode cX11_countOf 1 = .ok (.istore_n 2, 1) := by decide +kernel
theorem dX11_countOf_2 : decode cX11_countOf 2 = .ok (.iconst 0, 1) := by decide +kernel
theorem dX11_countOf_3 : decode cX11_countOf 3 = .ok (.istore_n 3, 1) := by decide +kernel
theorem dX11_countOf_4 : decode cX11_countOf 4 = .ok (.iconst 0, 1) := by decide +kernel
theorem dX11_countOf_5 : decode cX11_countOf 5 = .ok (.istore 4, 2) := by decide +kernel
theorem dX11_countOf_7 : decode cX11_countOf 7 = .ok (.iload 4, 2) := by decide +kernel
theorem dX11_countOf_9 : decode cX11_countOf 9 = .ok (.aload_n 0, 1) := by decide +kernel
theorem dX11_countOf_10 : decode cX11_countOf 10 = .ok (.getfield 88, 3) := by decide +kernel
theorem dX11_countOf_13 : decode cX11_countOf 13 = .ok (.if_icmp .ge 33, 3) := by decide +kernel
theorem dX11_countOf_16 : decode cX11_countOf 16 = .ok (.iload_n 2, 1) := by decide +kernel
theorem dX11_countOf_17 : decode cX11_countOf 17 = .ok (.aload_n 0, 1) := by decide +kernel
theorem dX11_countOf_18 : decode cX11_countOf 18 = .ok (.getfield 19, 3) := by decide +kernel
theorem dX11_countOf_21 : decode cX11_countOf 21 = .ok (.bipush 8, 2) := by decide +kernel
theorem dX11_countOf_23 : decode cX11_countOf 23 = .ok (.iload 4, 2) := by decide +kernel
theorem dX11_countOf_25 : decode cX11_countOf 25 = .ok (.imul, 1) := by decide +kernel
theorem dX11_countOf_26 : decode cX11_countOf 26 = .ok (.iconst 2, 1) := by decide +kernel
theorem dX11_countOf_27 : decode cX11_countOf 27 = .ok (.iadd, 1) := by decide +kernel
theorem dX11_countOf_28 : decode cX11_countOf 28 = .ok (.iaload, 1) := by decide +kernel
theorem dX11_countOf_29 : decode cX11_countOf 29 = .ok (.iconst (-1), 1) := by decide +kernel
theorem dX11_countOf_30 : decode cX11_countOf 30 = .ok (.if_icmp .ne 7, 3) := by decide +kernel
theorem dX11_countOf_33 : decode cX11_countOf 33 = .ok (.iconst 1, 1) := by decide +kernel
theorem dX11_countOf_34 : decode cX11_countOf 34 = .ok (.goto 4, 3) := by decide +kernel
theorem dX11_countOf_37 : decode cX11_countOf 37 = .ok (.iconst 0, 1) := by decide +kernel
theorem dX11_countOf_38 : decode cX11_countOf 38 = .ok (.iadd, 1) := by decide +kernel
theorem dX11_countOf_39 : decode cX11_countOf 39 = .ok (.istore_n 2, 1) := by decide +kernel
theorem dX11_countOf_40 : decode cX11_countOf 40 = .ok (.iinc 4 1, 3) := by decide +kernel
theorem dX11_countOf_43 : decode cX11_countOf 43 = .ok (.goto (-36), 3) := by decide +kernel
theorem dX11_countOf_46 : decode cX11_countOf 46 = .ok (.iconst 0, 1) := by decide +kernel
theorem dX11_countOf_47 : decode cX11_countOf 47 = .ok (.istore 4, 2) := by decide +kernel
theorem dX11_countOf_49 : decode cX11_countOf 49 = .ok (.iload 4, 2) := by decide +kernel
theorem dX11_countOf_51 : decode cX11_countOf 51 = .ok (.bipush 36, 2) := by decide +kernel
theorem dX11_countOf_53 : decode cX11_countOf 53 = .ok (.if_icmp .ge 19, 3) := by decide +kernel
theorem dX11_countOf_56 : decode cX11_countOf 56 = .ok (.iload_n 3, 1) := by decide +kernel
theorem dX11_countOf_57 : decode cX11_countOf 57 = .ok (.aload_n 0, 1) := by decide +kernel
theorem dX11_countOf_58 : decode cX11_countOf 58 = .ok (.getfield 22, 3) := by decide +kernel
theorem dX11_countOf_61 : decode cX11_countOf 61 = .ok (.iload 4, 2) := by decide +kernel
theorem dX11_countOf_63 : decode cX11_countOf 63 = .ok (.iaload, 1) := by decide +kernel
theorem dX11_countOf_64 : decode cX11_countOf 64 = .ok (.iadd, 1) := by decide +kernel
theorem dX11_countOf_65 : decode cX11_countOf 65 = .ok (.istore_n 3, 1) := by decide +kernel
theorem dX11_countOf_66 : decode cX11_countOf 66 = .ok (.iinc 4 1, 3) := by decide +kernel
theorem dX11_countOf_69 : decode cX11_countOf 69 = .ok (.goto (-20), 3) := by decide +kernel
theorem dX11_countOf_72 : decode cX11_countOf 72 = .ok (.iload_n 1, 1) := by decide +kernel
theorem dX11_countOf_73 : decode cX11_countOf 73 = .ok (.tableswitch 72 0 6 #[43, 48, 53, 58, 63, 65, 70], 43) := by decide +kernel
theorem dX11_countOf_116 : decode cX11_countOf 116 = .ok (.aload_n 0, 1) := by decide +kernel
theorem dX11_countOf_117 : decode cX11_countOf 117 = .ok (.getfield 88, 3) := by decide +kernel
theorem dX11_countOf_120 : decode cX11_countOf 120 = .ok (.ireturn, 1) := by decide +kernel
theorem dX11_countOf_121 : decode cX11_countOf 121 = .ok (.aload_n 0, 1) := by decide +kernel
theorem dX11_countOf_122 : decode cX11_countOf 122 = .ok (.invokevirtual 217, 3) := by decide +kernel
theorem dX11_countOf_125 : decode cX11_countOf 125 = .ok (.ireturn, 1) := by decide +kernel
theorem dX11_countOf_126 : decode cX11_countOf 126 = .ok (.aload_n 0, 1) := by decide +kernel
theorem dX11_countOf_127 : decode cX11_countOf 127 = .ok (.getfield 120, 3) := by decide +kernel
theorem dX11_countOf_130 : decode cX11_countOf 130 = .ok (.ireturn, 1) := by decide +kernel
theorem dX11_countOf_131 : decode cX11_countOf 131 = .ok (.aload_n 0, 1) := by decide +kernel
theorem dX11_countOf_132 : decode cX11_countOf 132 = .ok (.getfield 135, 3) := by decide +kernel
theorem dX11_countOf_135 : decode cX11_countOf 135 = .ok (.ireturn, 1) := by decide +kernel
theorem dX11_countOf_136 : decode cX11_countOf 136 = .ok (.iload_n 2, 1) := by decide +kernel
theorem dX11_countOf_137 : decode cX11_countOf 137 = .ok (.ireturn, 1) := by decide +kernel
theorem dX11_countOf_138 : decode cX11_countOf 138 = .ok (.aload_n 0, 1) := by decide +kernel
theorem dX11_countOf_139 : decode cX11_countOf 139 = .ok (.getfield 56, 3) := by decide +kernel
theorem dX11_countOf_142 : decode cX11_countOf 142 = .ok (.ireturn, 1) := by decide +kernel
theorem dX11_countOf_143 : decode cX11_countOf 143 = .ok (.iload_n 3, 1) := by decide +kernel
theorem dX11_countOf_144 : decode cX11_countOf 144 = .ok (.ireturn, 1) := by decide +kernel
theorem dX11_countOf_145 : decode cX11_countOf 145 = .ok (.bipush (-102), 2) := by decide +kernel
theorem dX11_countOf_147 : decode cX11_countOf 147 = .ok (.ireturn, 1) := by decide +kernel
set_option maxRecDepth 20000 in
theorem ggX11_count_X11_countOf : GoodIn wsX11_count wsX11_countOf := goodIn_r _ [5, 6, 7, 8, 9, 10, 11, 12, 13, 14, 4, 15, 16, 17, 18, 19, 20, 21, 22, 23, 24, 25, 26, 27, 28, 29, 30, 31, 32, 33, 34, 35, 36, 37, 38, 39, 40] (by decide +kernel) (by decide +kernel)
set_option maxRecDepth 20000 in
theorem gX11_count_X11_countOf : GoodIn wsX11_count (wsV RX11 226 RX11 yX11_countOf wsX11_countOf) := goodIn_app (goodIn_of _ (by decide +kernel)) ggX11_count_X11_countOf
theorem dX11_count_0 : decode cX11_count 0 = .ok (.aload_n 0, 1) := by decide +kernel
theorem dX11_count_1 : decode cX11_count 1 = .ok (.iload_n 1, 1) := by decide +kernel
theorem dX11_count_2 : decode cX11_count 2 = .ok (.invokevirtual 226, 3) := by decide +kernel
theorem dX11_count_5 : decode cX11_count 5 = .ok (.ireturn, 1) := by decide +kernel
theorem dX11_say_0 : decode cX11_say 0 = .ok (.aload_n 0, 1) := by decide +kernel
theorem dX11_say_1 : decode cX11_say 1 = .ok (.ldc2_w 229, 3) := by decide +kernel
theorem dX11_say_4 : decode cX11_say 4 = .ok (.aload_n 0, 1) := by decide +kernel
theorem dX11_say_5 : decode cX11_say 5 = .ok (.getfield 231, 3) := by decide +kernel
theorem dX11_say_8 : decode cX11_say 8 = .ok (.lmul, 1) := by decide +kernel
theorem dX11_say_9 : decode cX11_say 9 = .ok (.lload_n 1, 1) := by decide +kernel
theorem dX11_say_10 : decode cX11_say 10 = .ok (.ladd, 1) := by decide +kernel
theorem dX11_say_11 : decode cX11_say 11 = .ok (.putfield 231, 3) := by decide +kernel
theorem dX11_say_14 : decode cX11_say 14 = .ok (.return_, 1) := by decide +kernel
set_option maxRecDepth 20000 in
theorem ggX11_sayFrond_X11_tell : GoodIn wsX11_sayFrond wsX11_tell := goodIn_r _ [6, 7, 8, 9, 10, 11, 5, 12, 13, 14, 15, 16, 17, 18, 37, 38, 39, 40, 41, 42, 43, 44, 45, 46, 47, 48, 49, 50, 51, 52, 53, 54, 55, 56, 57, 58, 59, 60, 61] (by decide +kernel) (by decide +kernel)
set_option maxRecDepth 20000 in
theorem gX11_sayFrond_X11_tell : GoodIn wsX11_sayFrond (wsV RX11 110 RX11 yX11_tell wsX11_tell) := goodIn_app (goodIn_of _ (by decide +kernel)) ggX11_sayFrond_X11_tell
set_option maxRecDepth 20000 in
theorem ggX11_sayFrond_X11_say : GoodIn wsX11_sayFrond wsX11_say := goodIn_r _ [22, 23, 24, 37, 38, 39, 40, 41, 42, 43, 44, 45, 46, 47, 48, 49, 50, 51, 52, 53, 54, 55, 56, 57, 58, 59, 60, 61] (by decide +kernel) (by decide +kernel)
set_option maxRecDepth 20000 in
theorem gX11_sayFrond_X11_say : GoodIn wsX11_sayFrond (wsV RX11 235 RX11 yX11_say wsX11_say) := goodIn_app (goodIn_of _ (by decide +kernel)) ggX11_sayFrond_X11_say
set_option maxRecDepth 20000 in
theorem ggX11_sayFrond_X11_heldUp : GoodIn wsX11_sayFrond wsX11_heldUp := goodIn_r _ [28, 8, 29, 30, 31, 32, 5, 33, 13, 14, 15, 37, 38, 39, 40, 41, 42, 43, 44, 45, 46, 47, 48, 49, 50, 51, 52, 53, 54, 55, 56, 57, 58, 59, 60, 61] (by decide +kernel) (by decide +kernel)
set_option maxRecDepth 20000 in
theorem gX11_sayFrond_X11_heldUp : GoodIn wsX11_sayFrond (wsV RX11 176 RX11 yX11_heldUp wsX11_heldUp) := goodIn_app (goodIn_of _ (by decide +kernel)) ggX11_sayFrond_X11_heldUp
set_option maxRecDepth 20000 in
theorem ggX11_sayFrond_X11_term : GoodIn wsX11_sayFrond wsX11_term := goodIn_r _ [36] (by decide +kernel) (by decide +kernel)
set_option maxRecDepth 20000 in
theorem gX11_sayFrond_X11_term : GoodIn wsX11_sayFrond (va_wsS RX11 184 yX11_term wsX11_term) := goodIn_app (goodIn_of _ (by decide +kernel)) ggX11_sayFrond_X11_term
theorem dX11_sayFrond_0 : decode cX11_sayFrond 0 = .ok (.iconst 0, 1) := by decide +kernel
theorem dX11_sayFrond_1 : decode cX11_sayFrond 1 = .ok (.istore_n 2, 1) := by decide +kernel
theorem dX11_sayFrond_2 : decode cX11_sayFrond 2 = .ok (.iload_n 2, 1) := by decide +kernel
theorem dX11_sayFrond_3 : decode cX11_sayFrond 3 = .ok (.bipush 8, 2) := by decide +kernel
theorem dX11_sayFrond_5 : decode cX11_sayFrond 5 = .ok (.if_icmp .ge 20, 3) := by decide +kernel
theorem dX11_sayFrond_8 : decode cX11_sayFrond 8 = .ok (.aload_n 0, 1) := by decide +kernel
theorem dX11_sayFrond_9 : decode cX11_sayFrond 9 = .ok (.aload_n 0, 1) := by decide +kernel
theorem dX11_sayFrond_10 : decode cX11_sayFrond 10 = .ok (.iload_n 1, 1) := by decide +kernel
theorem dX11_sayFrond_11 : decode cX11_sayFrond 11 = .ok (.iload_n 2, 1) := by decide +kernel
theorem dX11_sayFrond_12 : decode cX11_sayFrond 12 = .ok (.invokevirtual 110, 3) := by decide +kernel
theorem dX11_sayFrond_15 : decode cX11_sayFrond 15 = .ok (.i2l, 1) := by decide +kernel
theorem dX11_sayFrond_16 : decode cX11_sayFrond 16 = .ok (.invokevirtual 235, 3) := by decide +kernel
theorem dX11_sayFrond_19 : decode cX11_sayFrond 19 = .ok (.iinc 2 1, 3) := by decide +kernel
theorem dX11_sayFrond_22 : decode cX11_sayFrond 22 = .ok (.goto (-20), 3) := by decide +kernel
theorem dX11_sayFrond_25 : decode cX11_sayFrond 25 = .ok (.aload_n 0, 1) := by decide +kernel
theorem dX11_sayFrond_26 : decode cX11_sayFrond 26 = .ok (.aload_n 0, 1) := by decide +kernel
theorem dX11_sayFrond_27 : decode cX11_sayFrond 27 = .ok (.iload_n 1, 1) := by decide +kernel
theorem dX11_sayFrond_28 : decode cX11_sayFrond 28 = .ok (.iconst 3, 1) := by decide +kernel
theorem dX11_sayFrond_29 : decode cX11_sayFrond 29 = .ok (.iconst 5, 1) := by decide +kernel
theorem dX11_sayFrond_30 : decode cX11_sayFrond 30 = .ok (.invokevirtual 176, 3) := by decide +kernel
theorem dX11_sayFrond_33 : decode cX11_sayFrond 33 = .ok (.ldc2_w 239, 3) := by decide +kernel
theorem dX11_sayFrond_36 : decode cX11_sayFrond 36 = .ok (.iconst 0, 1) := by decide +kernel
theorem dX11_sayFrond_37 : decode cX11_sayFrond 37 = .ok (.invokestatic 184, 3) := by decide +kernel
theorem dX11_sayFrond_40 : decode cX11_sayFrond 40 = .ok (.invokevirtual 235, 3) := by decide +kernel
theorem dX11_sayFrond_43 : decode cX11_sayFrond 43 = .ok (.aload_n 0, 1) := by decide +kernel
theorem dX11_sayFrond_44 : decode cX11_sayFrond 44 = .ok (.aload_n 0, 1) := by decide +kernel
theorem dX11_sayFrond_45 : decode cX11_sayFrond 45 = .ok (.iload_n 1, 1) := by decide +kernel
theorem dX11_sayFrond_46 : decode cX11_sayFrond 46 = .ok (.iconst 3, 1) := by decide +kernel
theorem dX11_sayFrond_47 : decode cX11_sayFrond 47 = .ok (.iconst 5, 1) := by decide +kernel
theorem dX11_sayFrond_48 : decode cX11_sayFrond 48 = .ok (.invokevirtual 176, 3) := by decide +kernel
theorem dX11_sayFrond_51 : decode cX11_sayFrond 51 = .ok (.ldc2_w 239, 3) := by decide +kernel
theorem dX11_sayFrond_54 : decode cX11_sayFrond 54 = .ok (.iconst 1, 1) := by decide +kernel
theorem dX11_sayFrond_55 : decode cX11_sayFrond 55 = .ok (.invokestatic 184, 3) := by decide +kernel
theorem dX11_sayFrond_58 : decode cX11_sayFrond 58 = .ok (.invokevirtual 235, 3) := by decide +kernel
theorem dX11_sayFrond_61 : decode cX11_sayFrond 61 = .ok (.return_, 1) := by decide +kernel
set_option maxRecDepth 20000 in
theorem ggX11_digest_X11_sayFrond : GoodIn wsX11_digest wsX11_sayFrond := goodIn_r _ [11, 12, 13, 14, 15, 10, 16, 17, 18, 19, 20, 21, 22, 23, 24, 25, 26, 27, 28, 29, 30, 31, 32, 33, 2, 34, 35, 36, 37, 38, 39, 40, 41, 42, 43, 44, 45, 92, 93, 94, 95, 96, 97, 98, 99, 100, 101, 102, 103, 104, 105, 106, 107, 108, 109, 110, 111, 112, 113, 114, 115, 116] (by decide +kernel) (by decide +kernel)
set_option maxRecDepth 20000 in
theorem gX11_digest_X11_sayFrond : GoodIn wsX11_digest (wsV RX11 243 RX11 yX11_sayFrond wsX11_sayFrond) := goodIn_app (goodIn_of _ (by decide +kernel)) ggX11_digest_X11_sayFrond
set_option maxRecDepth 20000 in
theorem ggX11_digest_X11_say : GoodIn wsX11_digest wsX11_say := goodIn_r _ [32, 33, 2, 92, 93, 94, 95, 96, 97, 98, 99, 100, 101, 102, 103, 104, 105, 106, 107, 108, 109, 110, 111, 112, 113, 114, 115, 116] (by decide +kernel) (by decide +kernel)
set_option maxRecDepth 20000 in
theorem gX11_digest_X11_say : GoodIn wsX11_digest (wsV RX11 235 RX11 yX11_say wsX11_say) := goodIn_app (goodIn_of _ (by decide +kernel)) ggX11_digest_X11_say
set_option maxRecDepth 20000 in
theorem ggX11_digest_X11_tellRing : GoodIn wsX11_digest wsX11_tellRing := goodIn_r _ [49, 50, 51, 52, 53, 54, 10, 55, 56, 57, 58, 59, 60, 61, 4, 62, 63, 64, 65, 92, 93, 94, 95, 96, 97, 98, 99, 100, 101, 102, 103, 104, 105, 106, 107, 108, 109, 110, 111, 112, 113, 114, 115, 116] (by decide +kernel) (by decide +kernel)
set_option maxRecDepth 20000 in
theorem gX11_digest_X11_tellRing : GoodIn wsX11_digest (wsV RX11 161 RX11 yX11_tellRing wsX11_tellRing) := goodIn_app (goodIn_of _ (by decide +kernel)) ggX11_digest_X11_tellRing
set_option maxRecDepth 20000 in
theorem ggX11_digest_X11_fewestOf : GoodIn wsX11_digest wsX11_fewestOf := goodIn_r _ [69, 70, 71, 72, 73, 10, 74, 4, 92, 93, 94, 95, 96, 97, 98, 99, 100, 101, 102, 103, 104, 105, 106, 107, 108, 109, 110, 111, 112, 113, 114, 115, 116] (by decide +kernel) (by decide +kernel)
set_option maxRecDepth 20000 in
theorem gX11_digest_X11_fewestOf : GoodIn wsX11_digest (wsV RX11 167 RX11 yX11_fewestOf wsX11_fewestOf) := goodIn_app (goodIn_of _ (by decide +kernel)) ggX11_digest_X11_fewestOf
set_option maxRecDepth 20000 in
theorem ggX11_digest_X11_leastOf : GoodIn wsX11_digest wsX11_leastOf := goodIn_r _ [78, 3, 18, 19, 20, 21, 10, 22, 23, 24, 25, 79, 80, 81, 92, 93, 94, 95, 96, 97, 98, 99, 100, 101, 102, 103, 104, 105, 106, 107, 108, 109, 110, 111, 112, 113, 114, 115, 116] (by decide +kernel) (by decide +kernel)
set_option maxRecDepth 20000 in
theorem gX11_digest_X11_leastOf : GoodIn wsX11_digest (wsV RX11 141 RX11 yX11_leastOf wsX11_leastOf) := goodIn_app (goodIn_of _ (by decide +kernel)) ggX11_digest_X11_leastOf
set_option maxRecDepth 20000 in
theorem ggX11_digest_X11_countOf : GoodIn wsX11_digest wsX11_countOf := goodIn_r _ [85, 3, 18, 4, 86, 87, 5, 88, 89, 90, 10, 91, 92, 93, 94, 95, 96, 97, 98, 99, 100, 101, 102, 103, 104, 105, 106, 107, 108, 109, 110, 111, 112, 113, 114, 115, 116] (by decide +kernel) (by decide +kernel)
set_option maxRecDepth 20000 in
theorem gX11_digest_X11_countOf : GoodIn wsX11_digest (wsV RX11 226 RX11 yX11_countOf wsX11_countOf) := goodIn_app (goodIn_of _ (by decide +kernel)) ggX11_digest_X11_countOf
theorem dX11_digest_0 : decode cX11_digest 0 = .ok (.aload_n 0, 1) := by decide +kernel
theorem dX11_digest_1 : decode cX11_digest 1 = .ok (.ldc2_w 241, 3) := by decide +kernel
theorem dX11_digest_4 : decode cX11_digest 4 = .ok (.putfield 231, 3) := by decide +kernel
theorem dX11_digest_7 : decode cX11_digest 7 = .ok (.iconst 0, 1) := by decide +kernel
theorem dX11_digest_8 : decode cX11_digest 8 = .ok (.istore_n 1, 1) := by decide +kernel
theorem dX11_digest_9 : decode cX11_digest 9 = .ok (.iload_n 1, 1) := by decide +kernel
theorem dX11_digest_10 : decode cX11_digest 10 = .ok (.aload_n 0, 1) := by decide +kernel
theorem dX11_digest_11 : decode cX11_digest 11 = .ok (.getfield 88, 3) := by decide +kernel
theorem dX11_digest_14 : decode cX11_digest 14 = .ok (.if_icmp .ge 14, 3) := by decide +kernel
theorem dX11_digest_17 : decode cX11_digest 17 = .ok (.aload_n 0, 1) := by decide +kernel
theorem dX11_digest_18 : decode cX11_digest 18 = .ok (.iload_n 1, 1) := by decide +kernel
theorem dX11_digest_19 : decode cX11_digest 19 = .ok (.invokevirtual 243, 3) := by decide +kernel
theorem dX11_digest_22 : decode cX11_digest 22 = .ok (.iinc 1 1, 3) := by decide +kernel
theorem dX11_digest_25 : decode cX11_digest 25 = .ok (.goto (-16), 3) := by decide +kernel
theorem dX11_digest_28 : decode cX11_digest 28 = .ok (.iconst 0, 1) := by decide +kernel
theorem dX11_digest_29 : decode cX11_digest 29 = .ok (.istore_n 1, 1) := by decide +kernel
theorem dX11_digest_30 : decode cX11_digest 30 = .ok (.iload_n 1, 1) := by decide +kernel
theorem dX11_digest_31 : decode cX11_digest 31 = .ok (.bipush 36, 2) := by decide +kernel
theorem dX11_digest_33 : decode cX11_digest 33 = .ok (.if_icmp .ge 31, 3) := by decide +kernel
theorem dX11_digest_36 : decode cX11_digest 36 = .ok (.iload_n 1, 1) := by decide +kernel
theorem dX11_digest_37 : decode cX11_digest 37 = .ok (.bipush 6, 2) := by decide +kernel
theorem dX11_digest_39 : decode cX11_digest 39 = .ok (.idiv, 1) := by decide +kernel
theorem dX11_digest_40 : decode cX11_digest 40 = .ok (.iload_n 1, 1) := by decide +kernel
theorem dX11_digest_41 : decode cX11_digest 41 = .ok (.bipush 6, 2) := by decide +kernel
theorem dX11_digest_43 : decode cX11_digest 43 = .ok (.irem, 1) := by decide +kernel
theorem dX11_digest_44 : decode cX11_digest 44 = .ok (.if_icmp .eq 14, 3) := by decide +kernel
theorem dX11_digest_47 : decode cX11_digest 47 = .ok (.aload_n 0, 1) := by decide +kernel
theorem dX11_digest_48 : decode cX11_digest 48 = .ok (.aload_n 0, 1) := by decide +kernel
theorem dX11_digest_49 : decode cX11_digest 49 = .ok (.getfield 22, 3) := by decide +kernel
theorem dX11_digest_52 : decode cX11_digest 52 = .ok (.iload_n 1, 1) := by decide +kernel
theorem dX11_digest_53 : decode cX11_digest 53 = .ok (.iaload, 1) := by decide +kernel
theorem dX11_digest_54 : decode cX11_digest 54 = .ok (.i2l, 1) := by decide +kernel
theorem dX11_digest_55 : decode cX11_digest 55 = .ok (.invokevirtual 235, 3) := by decide +kernel
theorem dX11_digest_58 : decode cX11_digest 58 = .ok (.iinc 1 1, 3) := by decide +kernel
theorem dX11_digest_61 : decode cX11_digest 61 = .ok (.goto (-31), 3) := by decide +kernel
theorem dX11_digest_64 : decode cX11_digest 64 = .ok (.iconst 0, 1) := by decide +kernel
theorem dX11_digest_65 : decode cX11_digest 65 = .ok (.istore_n 1, 1) := by decide +kernel
theorem dX11_digest_66 : decode cX11_digest 66 = .ok (.iload_n 1, 1) := by decide +kernel
theorem dX11_digest_67 : decode cX11_digest 67 = .ok (.bipush 16, 2) := by decide +kernel
theorem dX11_digest_69 : decode cX11_digest 69 = .ok (.if_icmp .ge 30, 3) := by decide +kernel
theorem dX11_digest_72 : decode cX11_digest 72 = .ok (.iload_n 1, 1) := by decide +kernel
theorem dX11_digest_73 : decode cX11_digest 73 = .ok (.iconst 2, 1) := by decide +kernel
theorem dX11_digest_74 : decode cX11_digest 74 = .ok (.if_icmp .lt 9, 3) := by decide +kernel
theorem dX11_digest_77 : decode cX11_digest 77 = .ok (.iload_n 1, 1) := by decide +kernel
theorem dX11_digest_78 : decode cX11_digest 78 = .ok (.bipush 9, 2) := by decide +kernel
theorem dX11_digest_80 : decode cX11_digest 80 = .ok (.if_icmp .le 13, 3) := by decide +kernel
theorem dX11_digest_83 : decode cX11_digest 83 = .ok (.aload_n 0, 1) := by decide +kernel
theorem dX11_digest_84 : decode cX11_digest 84 = .ok (.aload_n 0, 1) := by decide +kernel
theorem dX11_digest_85 : decode cX11_digest 85 = .ok (.iload_n 1, 1) := by decide +kernel
theorem dX11_digest_86 : decode cX11_digest 86 = .ok (.invokevirtual 161, 3) := by decide +kernel
theorem dX11_digest_89 : decode cX11_digest 89 = .ok (.i2l, 1) := by decide +kernel
theorem dX11_digest_90 : decode cX11_digest 90 = .ok (.invokevirtual 235, 3) := by decide +kernel
theorem dX11_digest_93 : decode cX11_digest 93 = .ok (.iinc 1 1, 3) := by decide +kernel
theorem dX11_digest_96 : decode cX11_digest 96 = .ok (.goto (-30), 3) := by decide +kernel
theorem dX11_digest_99 : decode cX11_digest 99 = .ok (.aload_n 0, 1) := by decide +kernel
theorem dX11_digest_100 : decode cX11_digest 100 = .ok (.aload_n 0, 1) := by decide +kernel
theorem dX11_digest_101 : decode cX11_digest 101 = .ok (.invokevirtual 167, 3) := by decide +kernel
theorem dX11_digest_104 : decode cX11_digest 104 = .ok (.i2l, 1) := by decide +kernel
theorem dX11_digest_105 : decode cX11_digest 105 = .ok (.invokevirtual 235, 3) := by decide +kernel
theorem dX11_digest_108 : decode cX11_digest 108 = .ok (.iconst 0, 1) := by decide +kernel
theorem dX11_digest_109 : decode cX11_digest 109 = .ok (.istore_n 1, 1) := by decide +kernel
theorem dX11_digest_110 : decode cX11_digest 110 = .ok (.iload_n 1, 1) := by decide +kernel
theorem dX11_digest_111 : decode cX11_digest 111 = .ok (.bipush 6, 2) := by decide +kernel
theorem dX11_digest_113 : decode cX11_digest 113 = .ok (.if_icmp .ge 35, 3) := by decide +kernel
theorem dX11_digest_116 : decode cX11_digest 116 = .ok (.aload_n 0, 1) := by decide +kernel
theorem dX11_digest_117 : decode cX11_digest 117 = .ok (.aload_n 0, 1) := by decide +kernel
theorem dX11_digest_118 : decode cX11_digest 118 = .ok (.iload_n 1, 1) := by decide +kernel
theorem dX11_digest_119 : decode cX11_digest 119 = .ok (.bipush 7, 2) := by decide +kernel
theorem dX11_digest_121 : decode cX11_digest 121 = .ok (.iconst 0, 1) := by decide +kernel
theorem dX11_digest_122 : decode cX11_digest 122 = .ok (.invokevirtual 141, 3) := by decide +kernel
theorem dX11_digest_125 : decode cX11_digest 125 = .ok (.i2l, 1) := by decide +kernel
theorem dX11_digest_126 : decode cX11_digest 126 = .ok (.invokevirtual 235, 3) := by decide +kernel
theorem dX11_digest_129 : decode cX11_digest 129 = .ok (.aload_n 0, 1) := by decide +kernel
theorem dX11_digest_130 : decode cX11_digest 130 = .ok (.aload_n 0, 1) := by decide +kernel
theorem dX11_digest_131 : decode cX11_digest 131 = .ok (.iload_n 1, 1) := by decide +kernel
theorem dX11_digest_132 : decode cX11_digest 132 = .ok (.bipush 7, 2) := by decide +kernel
theorem dX11_digest_134 : decode cX11_digest 134 = .ok (.iconst 1, 1) := by decide +kernel
theorem dX11_digest_135 : decode cX11_digest 135 = .ok (.invokevirtual 141, 3) := by decide +kernel
theorem dX11_digest_138 : decode cX11_digest 138 = .ok (.i2l, 1) := by decide +kernel
theorem dX11_digest_139 : decode cX11_digest 139 = .ok (.invokevirtual 235, 3) := by decide +kernel
theorem dX11_digest_142 : decode cX11_digest 142 = .ok (.iinc 1 1, 3) := by decide +kernel
theorem dX11_digest_145 : decode cX11_digest 145 = .ok (.goto (-35), 3) := by decide +kernel
theorem dX11_digest_148 : decode cX11_digest 148 = .ok (.iconst 0, 1) := by decide +kernel
theorem dX11_digest_149 : decode cX11_digest 149 = .ok (.istore_n 1, 1) := by decide +kernel
theorem dX11_digest_150 : decode cX11_digest 150 = .ok (.iload_n 1, 1) := by decide +kernel
theorem dX11_digest_151 : decode cX11_digest 151 = .ok (.aload_n 0, 1) := by decide +kernel
theorem dX11_digest_152 : decode cX11_digest 152 = .ok (.getfield 56, 3) := by decide +kernel
theorem dX11_digest_155 : decode cX11_digest 155 = .ok (.if_icmp .ge 20, 3) := by decide +kernel
theorem dX11_digest_158 : decode cX11_digest 158 = .ok (.aload_n 0, 1) := by decide +kernel
theorem dX11_digest_159 : decode cX11_digest 159 = .ok (.aload_n 0, 1) := by decide +kernel
theorem dX11_digest_160 : decode cX11_digest 160 = .ok (.getfield 7, 3) := by decide +kernel
theorem dX11_digest_163 : decode cX11_digest 163 = .ok (.iload_n 1, 1) := by decide +kernel
theorem dX11_digest_164 : decode cX11_digest 164 = .ok (.iaload, 1) := by decide +kernel
theorem dX11_digest_165 : decode cX11_digest 165 = .ok (.i2l, 1) := by decide +kernel
theorem dX11_digest_166 : decode cX11_digest 166 = .ok (.invokevirtual 235, 3) := by decide +kernel
theorem dX11_digest_169 : decode cX11_digest 169 = .ok (.iinc 1 1, 3) := by decide +kernel
theorem dX11_digest_172 : decode cX11_digest 172 = .ok (.goto (-22), 3) := by decide +kernel
theorem dX11_digest_175 : decode cX11_digest 175 = .ok (.iconst 0, 1) := by decide +kernel
theorem dX11_digest_176 : decode cX11_digest 176 = .ok (.istore_n 1, 1) := by decide +kernel
theorem dX11_digest_177 : decode cX11_digest 177 = .ok (.iload_n 1, 1) := by decide +kernel
theorem dX11_digest_178 : decode cX11_digest 178 = .ok (.bipush 7, 2) := by decide +kernel
theorem dX11_digest_180 : decode cX11_digest 180 = .ok (.if_icmp .ge 19, 3) := by decide +kernel
theorem dX11_digest_183 : decode cX11_digest 183 = .ok (.aload_n 0, 1) := by decide +kernel
theorem dX11_digest_184 : decode cX11_digest 184 = .ok (.aload_n 0, 1) := by decide +kernel
theorem dX11_digest_185 : decode cX11_digest 185 = .ok (.iload_n 1, 1) := by decide +kernel
theorem dX11_digest_186 : decode cX11_digest 186 = .ok (.invokevirtual 226, 3) := by decide +kernel
theorem dX11_digest_189 : decode cX11_digest 189 = .ok (.i2l, 1) := by decide +kernel
theorem dX11_digest_190 : decode cX11_digest 190 = .ok (.invokevirtual 235, 3) := by decide +kernel
theorem dX11_digest_193 : decode cX11_digest 193 = .ok (.iinc 1 1, 3) := by decide +kernel
theorem dX11_digest_196 : decode cX11_digest 196 = .ok (.goto (-19), 3) := by decide +kernel
theorem dX11_digest_199 : decode cX11_digest 199 = .ok (.aload_n 0, 1) := by decide +kernel
theorem dX11_digest_200 : decode cX11_digest 200 = .ok (.getfield 231, 3) := by decide +kernel
theorem dX11_digest_203 : decode cX11_digest 203 = .ok (.lreturn, 1) := by decide +kernel
