theorem dX5_isAlso_0 : decode cX5_isAlso 0 = .ok (.iload_n 1, 1) := by decide +kernel
theorem dX5_isAlso_1 : decode cX5_isAlso 1 = .ok (.ifCond .eq 18, 3) := by decide +kernel
theorem dX5_isAlso_4 : decode cX5_isAlso 4 = .ok (.iload_n 1, 1) := by decide +kernel
theorem dX5_isAlso_5 : decode cX5_isAlso 5 = .ok (.iload_n 0, 1) := by decide +kernel
theorem dX5_isAlso_6 : decode cX5_isAlso 6 = .ok (.if_icmp .eq 13, 3) := by decide +kernel
theorem dX5_isAlso_9 : decode cX5_isAlso 9 = .ok (.iload_n 1, 1) := by decide +kernel
theorem dX5_isAlso_10 : decode cX5_isAlso 10 = .ok (.iconst 1, 1) := by decide +kernel
theorem dX5_isAlso_11 : decode cX5_isAlso 11 = .ok (.if_icmp .ne 12, 3) := by decide +kernel
theorem dX5_isAlso_14 : decode cX5_isAlso 14 = .ok (.iload_n 0, 1) := by decide +kernel
theorem dX5_isAlso_15 : decode cX5_isAlso 15 = .ok (.iconst 4, 1) := by decide +kernel
theorem dX5_isAlso_16 : decode cX5_isAlso 16 = .ok (.if_icmp .ne 7, 3) := by decide +kernel
theorem dX5_isAlso_19 : decode cX5_isAlso 19 = .ok (.iconst 1, 1) := by decide +kernel
theorem dX5_isAlso_20 : decode cX5_isAlso 20 = .ok (.goto 4, 3) := by decide +kernel
theorem dX5_isAlso_23 : decode cX5_isAlso 23 = .ok (.iconst 0, 1) := by decide +kernel
theorem dX5_isAlso_24 : decode cX5_isAlso 24 = .ok (.ireturn, 1) := by decide +kernel
theorem dX5_ofLetter_0 : decode cX5_ofLetter 0 = .ok (.iload_n 0, 1) := by decide +kernel
theorem dX5_ofLetter_1 : decode cX5_ofLetter 1 = .ok (.lookupswitch 51 #[(98, 43), (109, 45), (112, 47), (119, 49)], 43) := by decide +kernel
theorem dX5_ofLetter_44 : decode cX5_ofLetter 44 = .ok (.iconst 1, 1) := by decide +kernel
theorem dX5_ofLetter_45 : decode cX5_ofLetter 45 = .ok (.ireturn, 1) := by decide +kernel
theorem dX5_ofLetter_46 : decode cX5_ofLetter 46 = .ok (.iconst 2, 1) := by decide +kernel
theorem dX5_ofLetter_47 : decode cX5_ofLetter 47 = .ok (.ireturn, 1) := by decide +kernel
theorem dX5_ofLetter_48 : decode cX5_ofLetter 48 = .ok (.iconst 3, 1) := by decide +kernel
theorem dX5_ofLetter_49 : decode cX5_ofLetter 49 = .ok (.ireturn, 1) := by decide +kernel
theorem dX5_ofLetter_50 : decode cX5_ofLetter 50 = .ok (.iconst 4, 1) := by decide +kernel
theorem dX5_ofLetter_51 : decode cX5_ofLetter 51 = .ok (.ireturn, 1) := by decide +kernel
theorem dX5_ofLetter_52 : decode cX5_ofLetter 52 = .ok (.iconst (-1), 1) := by decide +kernel
theorem dX5_ofLetter_53 : decode cX5_ofLetter 53 = .ok (.ireturn, 1) := by decide +kernel
set_option maxRecDepth 20000 in
theorem ggX5_behindHand_X5_lossByHand : GoodIn wsX5_behindHand wsX5_lossByHand := goodIn_r _ [8] (by decide +kernel) (by decide +kernel)
set_option maxRecDepth 20000 in
theorem gX5_behindHand_X5_lossByHand : GoodIn wsX5_behindHand (va_wsS RX5 11 yX5_lossByHand wsX5_lossByHand) := goodIn_app (goodIn_of _ (by decide +kernel)) ggX5_behindHand_X5_lossByHand
theorem dX5_behindHand_0 : decode cX5_behindHand 0 = .ok (.iconst 0, 1) := by decide +kernel
theorem dX5_behindHand_1 : decode cX5_behindHand 1 = .ok (.iload_n 1, 1) := by decide +kernel
theorem dX5_behindHand_2 : decode cX5_behindHand 2 = .ok (.iload_n 0, 1) := by decide +kernel
theorem dX5_behindHand_3 : decode cX5_behindHand 3 = .ok (.iload_n 1, 1) := by decide +kernel
theorem dX5_behindHand_4 : decode cX5_behindHand 4 = .ok (.invokestatic 11, 3) := by decide +kernel
theorem dX5_behindHand_7 : decode cX5_behindHand 7 = .ok (.isub, 1) := by decide +kernel
theorem dX5_behindHand_8 : decode cX5_behindHand 8 = .ok (.invokestatic 15, 3) := by decide +kernel
theorem dX5_behindHand_11 : decode cX5_behindHand 11 = .ok (.ireturn, 1) := by decide +kernel
theorem dX5_lossByHand_0 : decode cX5_lossByHand 0 = .ok (.iload_n 0, 1) := by decide +kernel
theorem dX5_lossByHand_1 : decode cX5_lossByHand 1 = .ok (.tableswitch 58 1 4 #[31, 33, 44, 56], 31) := by decide +kernel
theorem dX5_lossByHand_32 : decode cX5_lossByHand 32 = .ok (.iconst 2, 1) := by decide +kernel
theorem dX5_lossByHand_33 : decode cX5_lossByHand 33 = .ok (.ireturn, 1) := by decide +kernel
theorem dX5_lossByHand_34 : decode cX5_lossByHand 34 = .ok (.iload_n 1, 1) := by decide +kernel
theorem dX5_lossByHand_35 : decode cX5_lossByHand 35 = .ok (.iconst 5, 1) := by decide +kernel
theorem dX5_lossByHand_36 : decode cX5_lossByHand 36 = .ok (.if_icmp .le 7, 3) := by decide +kernel
theorem dX5_lossByHand_39 : decode cX5_lossByHand 39 = .ok (.iconst 0, 1) := by decide +kernel
theorem dX5_lossByHand_40 : decode cX5_lossByHand 40 = .ok (.goto 4, 3) := by decide +kernel
theorem dX5_lossByHand_43 : decode cX5_lossByHand 43 = .ok (.iconst 1, 1) := by decide +kernel
theorem dX5_lossByHand_44 : decode cX5_lossByHand 44 = .ok (.ireturn, 1) := by decide +kernel
theorem dX5_lossByHand_45 : decode cX5_lossByHand 45 = .ok (.iload_n 1, 1) := by decide +kernel
theorem dX5_lossByHand_46 : decode cX5_lossByHand 46 = .ok (.bipush 9, 2) := by decide +kernel
theorem dX5_lossByHand_48 : decode cX5_lossByHand 48 = .ok (.if_icmp .ne 7, 3) := by decide +kernel
theorem dX5_lossByHand_51 : decode cX5_lossByHand 51 = .ok (.iconst 0, 1) := by decide +kernel
theorem dX5_lossByHand_52 : decode cX5_lossByHand 52 = .ok (.goto 4, 3) := by decide +kernel
theorem dX5_lossByHand_55 : decode cX5_lossByHand 55 = .ok (.iconst 1, 1) := by decide +kernel
theorem dX5_lossByHand_56 : decode cX5_lossByHand 56 = .ok (.ireturn, 1) := by decide +kernel
theorem dX5_lossByHand_57 : decode cX5_lossByHand 57 = .ok (.iconst 3, 1) := by decide +kernel
theorem dX5_lossByHand_58 : decode cX5_lossByHand 58 = .ok (.ireturn, 1) := by decide +kernel
theorem dX5_lossByHand_59 : decode cX5_lossByHand 59 = .ok (.iconst 1, 1) := by decide +kernel
theorem dX5_lossByHand_60 : decode cX5_lossByHand 60 = .ok (.ireturn, 1) := by decide +kernel
set_option maxRecDepth 20000 in
theorem ggX5_behindDamp_X5_lossByMould : GoodIn wsX5_behindDamp wsX5_lossByMould := goodIn_r _ [8] (by decide +kernel) (by decide +kernel)
set_option maxRecDepth 20000 in
theorem gX5_behindDamp_X5_lossByMould : GoodIn wsX5_behindDamp (va_wsS RX5 20 yX5_lossByMould wsX5_lossByMould) := goodIn_app (goodIn_of _ (by decide +kernel)) ggX5_behindDamp_X5_lossByMould
theorem dX5_behindDamp_0 : decode cX5_behindDamp 0 = .ok (.iconst 0, 1) := by decide +kernel
theorem dX5_behindDamp_1 : decode cX5_behindDamp 1 = .ok (.iload_n 1, 1) := by decide +kernel
theorem dX5_behindDamp_2 : decode cX5_behindDamp 2 = .ok (.iload_n 0, 1) := by decide +kernel
theorem dX5_behindDamp_3 : decode cX5_behindDamp 3 = .ok (.invokestatic 20, 3) := by decide +kernel
theorem dX5_behindDamp_6 : decode cX5_behindDamp 6 = .ok (.isub, 1) := by decide +kernel
theorem dX5_behindDamp_7 : decode cX5_behindDamp 7 = .ok (.invokestatic 15, 3) := by decide +kernel
theorem dX5_behindDamp_10 : decode cX5_behindDamp 10 = .ok (.ireturn, 1) := by decide +kernel
theorem dX5_lossByMould_0 : decode cX5_lossByMould 0 = .ok (.iload_n 0, 1) := by decide +kernel
theorem dX5_lossByMould_1 : decode cX5_lossByMould 1 = .ok (.iconst 3, 1) := by decide +kernel
theorem dX5_lossByMould_2 : decode cX5_lossByMould 2 = .ok (.if_icmp .ne 5, 3) := by decide +kernel
theorem dX5_lossByMould_5 : decode cX5_lossByMould 5 = .ok (.iconst 0, 1) := by decide +kernel
theorem dX5_lossByMould_6 : decode cX5_lossByMould 6 = .ok (.ireturn, 1) := by decide +kernel
theorem dX5_lossByMould_7 : decode cX5_lossByMould 7 = .ok (.iload_n 0, 1) := by decide +kernel
theorem dX5_lossByMould_8 : decode cX5_lossByMould 8 = .ok (.iconst 4, 1) := by decide +kernel
theorem dX5_lossByMould_9 : decode cX5_lossByMould 9 = .ok (.if_icmp .ne 7, 3) := by decide +kernel
theorem dX5_lossByMould_12 : decode cX5_lossByMould 12 = .ok (.iconst 2, 1) := by decide +kernel
theorem dX5_lossByMould_13 : decode cX5_lossByMould 13 = .ok (.goto 4, 3) := by decide +kernel
theorem dX5_lossByMould_16 : decode cX5_lossByMould 16 = .ok (.iconst 1, 1) := by decide +kernel
theorem dX5_lossByMould_17 : decode cX5_lossByMould 17 = .ok (.ireturn, 1) := by decide +kernel
