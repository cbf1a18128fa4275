theorem dL_add_53 : decode cL_add 53 = .ok (.aload_n 0, 1) := by decide +kernel
theorem dL_add_54 : decode cL_add 54 = .ok (.iconst 0, 1) := by decide +kernel
theorem dL_add_55 : decode cL_add 55 = .ok (.dup2, 1) := by decide +kernel
theorem dL_add_56 : decode cL_add 56 = .ok (.iaload, 1) := by decide +kernel
theorem dL_add_57 : decode cL_add 57 = .ok (.iconst 1, 1) := by decide +kernel
theorem dL_add_58 : decode cL_add 58 = .ok (.iadd, 1) := by decide +kernel
theorem dL_add_59 : decode cL_add 59 = .ok (.iastore, 1) := by decide +kernel
theorem dL_add_60 : decode cL_add 60 = .ok (.return_, 1) := by decide +kernel
theorem dL_hand_0 : decode cL_hand 0 = .ok (.iload_n 0, 1) := by decide +kernel
theorem dL_hand_1 : decode cL_hand 1 = .ok (.ifCond .ne 7, 3) := by decide +kernel
theorem dL_hand_4 : decode cL_hand 4 = .ok (.iconst 1, 1) := by decide +kernel
theorem dL_hand_5 : decode cL_hand 5 = .ok (.goto 50, 3) := by decide +kernel
theorem dL_hand_8 : decode cL_hand 8 = .ok (.iload_n 0, 1) := by decide +kernel
theorem dL_hand_9 : decode cL_hand 9 = .ok (.iconst 1, 1) := by decide +kernel
theorem dL_hand_10 : decode cL_hand 10 = .ok (.if_icmp .ne 7, 3) := by decide +kernel
theorem dL_hand_13 : decode cL_hand 13 = .ok (.iconst 2, 1) := by decide +kernel
theorem dL_hand_14 : decode cL_hand 14 = .ok (.goto 41, 3) := by decide +kernel
theorem dL_hand_17 : decode cL_hand 17 = .ok (.iload_n 0, 1) := by decide +kernel
theorem dL_hand_18 : decode cL_hand 18 = .ok (.iconst 4, 1) := by decide +kernel
theorem dL_hand_19 : decode cL_hand 19 = .ok (.if_icmp .ne 7, 3) := by decide +kernel
theorem dL_hand_22 : decode cL_hand 22 = .ok (.iconst 3, 1) := by decide +kernel
theorem dL_hand_23 : decode cL_hand 23 = .ok (.goto 32, 3) := by decide +kernel
theorem dL_hand_26 : decode cL_hand 26 = .ok (.iload_n 0, 1) := by decide +kernel
theorem dL_hand_27 : decode cL_hand 27 = .ok (.iconst 2, 1) := by decide +kernel
theorem dL_hand_28 : decode cL_hand 28 = .ok (.if_icmp .ne 16, 3) := by decide +kernel
theorem dL_hand_31 : decode cL_hand 31 = .ok (.iload_n 1, 1) := by decide +kernel
theorem dL_hand_32 : decode cL_hand 32 = .ok (.iconst 5, 1) := by decide +kernel
theorem dL_hand_33 : decode cL_hand 33 = .ok (.if_icmp .le 7, 3) := by decide +kernel
theorem dL_hand_36 : decode cL_hand 36 = .ok (.iconst 0, 1) := by decide +kernel
theorem dL_hand_37 : decode cL_hand 37 = .ok (.goto 18, 3) := by decide +kernel
theorem dL_hand_40 : decode cL_hand 40 = .ok (.iconst 1, 1) := by decide +kernel
theorem dL_hand_41 : decode cL_hand 41 = .ok (.goto 14, 3) := by decide +kernel
theorem dL_hand_44 : decode cL_hand 44 = .ok (.iload_n 1, 1) := by decide +kernel
theorem dL_hand_45 : decode cL_hand 45 = .ok (.bipush 9, 2) := by decide +kernel
theorem dL_hand_47 : decode cL_hand 47 = .ok (.if_icmp .ne 7, 3) := by decide +kernel
theorem dL_hand_50 : decode cL_hand 50 = .ok (.iconst 0, 1) := by decide +kernel
theorem dL_hand_51 : decode cL_hand 51 = .ok (.goto 4, 3) := by decide +kernel
theorem dL_hand_54 : decode cL_hand 54 = .ok (.iconst 1, 1) := by decide +kernel
theorem dL_hand_55 : decode cL_hand 55 = .ok (.istore_n 2, 1) := by decide +kernel
theorem dL_hand_56 : decode cL_hand 56 = .ok (.iload_n 1, 1) := by decide +kernel
theorem dL_hand_57 : decode cL_hand 57 = .ok (.iload_n 2, 1) := by decide +kernel
theorem dL_hand_58 : decode cL_hand 58 = .ok (.if_icmp .le 9, 3) := by decide +kernel
theorem dL_hand_61 : decode cL_hand 61 = .ok (.iload_n 1, 1) := by decide +kernel
theorem dL_hand_62 : decode cL_hand 62 = .ok (.iload_n 2, 1) := by decide +kernel
theorem dL_hand_63 : decode cL_hand 63 = .ok (.isub, 1) := by decide +kernel
theorem dL_hand_64 : decode cL_hand 64 = .ok (.goto 4, 3) := by decide +kernel
theorem dL_hand_67 : decode cL_hand 67 = .ok (.iconst 0, 1) := by decide +kernel
theorem dL_hand_68 : decode cL_hand 68 = .ok (.ireturn, 1) := by decide +kernel
theorem dL_damp_0 : decode cL_damp 0 = .ok (.iload_n 0, 1) := by decide +kernel
theorem dL_damp_1 : decode cL_damp 1 = .ok (.iconst 3, 1) := by decide +kernel
theorem dL_damp_2 : decode cL_damp 2 = .ok (.if_icmp .ne 7, 3) := by decide +kernel
theorem dL_damp_5 : decode cL_damp 5 = .ok (.iconst 0, 1) := by decide +kernel
theorem dL_damp_6 : decode cL_damp 6 = .ok (.goto 13, 3) := by decide +kernel
theorem dL_damp_9 : decode cL_damp 9 = .ok (.iload_n 0, 1) := by decide +kernel
theorem dL_damp_10 : decode cL_damp 10 = .ok (.iconst 4, 1) := by decide +kernel
theorem dL_damp_11 : decode cL_damp 11 = .ok (.if_icmp .ne 7, 3) := by decide +kernel
theorem dL_damp_14 : decode cL_damp 14 = .ok (.iconst 2, 1) := by decide +kernel
theorem dL_damp_15 : decode cL_damp 15 = .ok (.goto 4, 3) := by decide +kernel
theorem dL_damp_18 : decode cL_damp 18 = .ok (.iconst 1, 1) := by decide +kernel
theorem dL_damp_19 : decode cL_damp 19 = .ok (.istore_n 2, 1) := by decide +kernel
theorem dL_damp_20 : decode cL_damp 20 = .ok (.iload_n 1, 1) := by decide +kernel
theorem dL_damp_21 : decode cL_damp 21 = .ok (.iload_n 2, 1) := by decide +kernel
theorem dL_damp_22 : decode cL_damp 22 = .ok (.if_icmp .le 9, 3) := by decide +kernel
theorem dL_damp_25 : decode cL_damp 25 = .ok (.iload_n 1, 1) := by decide +kernel
theorem dL_damp_26 : decode cL_damp 26 = .ok (.iload_n 2, 1) := by decide +kernel
theorem dL_damp_27 : decode cL_damp 27 = .ok (.isub, 1) := by decide +kernel
theorem dL_damp_28 : decode cL_damp 28 = .ok (.goto 4, 3) := by decide +kernel
theorem dL_damp_31 : decode cL_damp 31 = .ok (.iconst 0, 1) := by decide +kernel
theorem dL_damp_32 : decode cL_damp 32 = .ok (.ireturn, 1) := by decide +kernel
set_option maxRecDepth 20000 in
theorem ggL_goes_L_hand : GoodIn wsL_goes wsL_hand := goodIn_r _ [4] (by decide +kernel) (by decide +kernel)
set_option maxRecDepth 20000 in
theorem gL_goes_L_hand : GoodIn wsL_goes (va_wsS RL 43 yL_hand wsL_hand) := goodIn_app (goodIn_of _ (by decide +kernel)) ggL_goes_L_hand
theorem dL_goes_0 : decode cL_goes 0 = .ok (.iconst 3, 1) := by decide +kernel
theorem dL_goes_1 : decode cL_goes 1 = .ok (.istore 4, 2) := by decide +kernel
theorem dL_goes_3 : decode cL_goes 3 = .ok (.iload 4, 2) := by decide +kernel
theorem dL_goes_5 : decode cL_goes 5 = .ok (.ifCond .le 27, 3) := by decide +kernel
theorem dL_goes_8 : decode cL_goes 8 = .ok (.aload_n 1, 1) := by decide +kernel
theorem dL_goes_9 : decode cL_goes 9 = .ok (.iconst 4, 1) := by decide +kernel
theorem dL_goes_10 : decode cL_goes 10 = .ok (.iload_n 2, 1) := by decide +kernel
theorem dL_goes_11 : decode cL_goes 11 = .ok (.imul, 1) := by decide +kernel
theorem dL_goes_12 : decode cL_goes 12 = .ok (.iload 4, 2) := by decide +kernel
theorem dL_goes_14 : decode cL_goes 14 = .ok (.iadd, 1) := by decide +kernel
theorem dL_goes_15 : decode cL_goes 15 = .ok (.aload_n 1, 1) := by decide +kernel
theorem dL_goes_16 : decode cL_goes 16 = .ok (.iconst 4, 1) := by decide +kernel
theorem dL_goes_17 : decode cL_goes 17 = .ok (.iload_n 2, 1) := by decide +kernel
theorem dL_goes_18 : decode cL_goes 18 = .ok (.imul, 1) := by decide +kernel
theorem dL_goes_19 : decode cL_goes 19 = .ok (.iload 4, 2) := by decide +kernel
theorem dL_goes_21 : decode cL_goes 21 = .ok (.iadd, 1) := by decide +kernel
theorem dL_goes_22 : decode cL_goes 22 = .ok (.iconst 1, 1) := by decide +kernel
theorem dL_goes_23 : decode cL_goes 23 = .ok (.isub, 1) := by decide +kernel
theorem dL_goes_24 : decode cL_goes 24 = .ok (.iaload, 1) := by decide +kernel
theorem dL_goes_25 : decode cL_goes 25 = .ok (.iastore, 1) := by decide +kernel
theorem dL_goes_26 : decode cL_goes 26 = .ok (.iinc 4 (-1), 3) := by decide +kernel
theorem dL_goes_29 : decode cL_goes 29 = .ok (.goto (-26), 3) := by decide +kernel
theorem dL_goes_32 : decode cL_goes 32 = .ok (.aload_n 1, 1) := by decide +kernel
theorem dL_goes_33 : decode cL_goes 33 = .ok (.iconst 4, 1) := by decide +kernel
theorem dL_goes_34 : decode cL_goes 34 = .ok (.iload_n 2, 1) := by decide +kernel
theorem dL_goes_35 : decode cL_goes 35 = .ok (.imul, 1) := by decide +kernel
theorem dL_goes_36 : decode cL_goes 36 = .ok (.aload_n 0, 1) := by decide +kernel
theorem dL_goes_37 : decode cL_goes 37 = .ok (.bipush 21, 2) := by decide +kernel
theorem dL_goes_39 : decode cL_goes 39 = .ok (.iload_n 2, 1) := by decide +kernel
theorem dL_goes_40 : decode cL_goes 40 = .ok (.iadd, 1) := by decide +kernel
theorem dL_goes_41 : decode cL_goes 41 = .ok (.iaload, 1) := by decide +kernel
theorem dL_goes_42 : decode cL_goes 42 = .ok (.iastore, 1) := by decide +kernel
theorem dL_goes_43 : decode cL_goes 43 = .ok (.aload_n 0, 1) := by decide +kernel
theorem dL_goes_44 : decode cL_goes 44 = .ok (.iconst 1, 1) := by decide +kernel
theorem dL_goes_45 : decode cL_goes 45 = .ok (.iload_n 2, 1) := by decide +kernel
theorem dL_goes_46 : decode cL_goes 46 = .ok (.iadd, 1) := by decide +kernel
theorem dL_goes_47 : decode cL_goes 47 = .ok (.iaload, 1) := by decide +kernel
theorem dL_goes_48 : decode cL_goes 48 = .ok (.aload_n 0, 1) := by decide +kernel
theorem dL_goes_49 : decode cL_goes 49 = .ok (.bipush 11, 2) := by decide +kernel
theorem dL_goes_51 : decode cL_goes 51 = .ok (.iload_n 2, 1) := by decide +kernel
theorem dL_goes_52 : decode cL_goes 52 = .ok (.iadd, 1) := by decide +kernel
theorem dL_goes_53 : decode cL_goes 53 = .ok (.iaload, 1) := by decide +kernel
theorem dL_goes_54 : decode cL_goes 54 = .ok (.invokestatic 43, 3) := by decide +kernel
theorem dL_goes_57 : decode cL_goes 57 = .ok (.istore 4, 2) := by decide +kernel
theorem dL_goes_59 : decode cL_goes 59 = .ok (.aload_n 0, 1) := by decide +kernel
theorem dL_goes_60 : decode cL_goes 60 = .ok (.bipush 31, 2) := by decide +kernel
theorem dL_goes_62 : decode cL_goes 62 = .ok (.dup2, 1) := by decide +kernel
theorem dL_goes_63 : decode cL_goes 63 = .ok (.iaload, 1) := by decide +kernel
theorem dL_goes_64 : decode cL_goes 64 = .ok (.aload_n 0, 1) := by decide +kernel
theorem dL_goes_65 : decode cL_goes 65 = .ok (.bipush 11, 2) := by decide +kernel
theorem dL_goes_67 : decode cL_goes 67 = .ok (.iload_n 2, 1) := by decide +kernel
theorem dL_goes_68 : decode cL_goes 68 = .ok (.iadd, 1) := by decide +kernel
theorem dL_goes_69 : decode cL_goes 69 = .ok (.iaload, 1) := by decide +kernel
theorem dL_goes_70 : decode cL_goes 70 = .ok (.iload 4, 2) := by decide +kernel
theorem dL_goes_72 : decode cL_goes 72 = .ok (.isub, 1) := by decide +kernel
theorem dL_goes_73 : decode cL_goes 73 = .ok (.iadd, 1) := by decide +kernel
theorem dL_goes_74 : decode cL_goes 74 = .ok (.iastore, 1) := by decide +kernel
theorem dL_goes_75 : decode cL_goes 75 = .ok (.aload_n 0, 1) := by decide +kernel
