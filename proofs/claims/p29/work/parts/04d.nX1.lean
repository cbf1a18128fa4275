theorem dX1_init_0 : decode cX1_init 0 = .ok (.aload_n 0, 1) := by decide +kernel
theorem dX1_init_1 : decode cX1_init 1 = .ok (.invokespecial 3, 3) := by decide +kernel
theorem dX1_init_4 : decode cX1_init 4 = .ok (.aload_n 0, 1) := by decide +kernel
theorem dX1_init_5 : decode cX1_init 5 = .ok (.bipush 36, 2) := by decide +kernel
theorem dX1_init_7 : decode cX1_init 7 = .ok (.newarray .int, 2) := by decide +kernel
theorem dX1_init_9 : decode cX1_init 9 = .ok (.putfield 9, 3) := by decide +kernel
theorem dX1_init_12 : decode cX1_init 12 = .ok (.return_, 1) := by decide +kernel
theorem dX1_sum_0 : decode cX1_sum 0 = .ok (.aload_n 0, 1) := by decide +kernel
theorem dX1_sum_1 : decode cX1_sum 1 = .ok (.getfield 9, 3) := by decide +kernel
theorem dX1_sum_4 : decode cX1_sum 4 = .ok (.iload_n 1, 1) := by decide +kernel
theorem dX1_sum_5 : decode cX1_sum 5 = .ok (.bipush 6, 2) := by decide +kernel
theorem dX1_sum_7 : decode cX1_sum 7 = .ok (.imul, 1) := by decide +kernel
theorem dX1_sum_8 : decode cX1_sum 8 = .ok (.iload_n 2, 1) := by decide +kernel
theorem dX1_sum_9 : decode cX1_sum 9 = .ok (.iadd, 1) := by decide +kernel
theorem dX1_sum_10 : decode cX1_sum 10 = .ok (.iaload, 1) := by decide +kernel
theorem dX1_sum_11 : decode cX1_sum 11 = .ok (.ireturn, 1) := by decide +kernel
theorem dX1_put_0 : decode cX1_put 0 = .ok (.aload_n 0, 1) := by decide +kernel
theorem dX1_put_1 : decode cX1_put 1 = .ok (.getfield 9, 3) := by decide +kernel
theorem dX1_put_4 : decode cX1_put 4 = .ok (.iload_n 1, 1) := by decide +kernel
theorem dX1_put_5 : decode cX1_put 5 = .ok (.bipush 6, 2) := by decide +kernel
theorem dX1_put_7 : decode cX1_put 7 = .ok (.imul, 1) := by decide +kernel
theorem dX1_put_8 : decode cX1_put 8 = .ok (.iload_n 2, 1) := by decide +kernel
theorem dX1_put_9 : decode cX1_put 9 = .ok (.iadd, 1) := by decide +kernel
theorem dX1_put_10 : decode cX1_put 10 = .ok (.iload_n 3, 1) := by decide +kernel
theorem dX1_put_11 : decode cX1_put 11 = .ok (.iastore, 1) := by decide +kernel
theorem dX1_put_12 : decode cX1_put 12 = .ok (.return_, 1) := by decide +kernel
set_option maxRecDepth 20000 in
theorem ggX1_lessen_X1_sum : GoodIn wsX1_lessen wsX1_sum := goodIn_r _ [9, 10, 15] (by decide +kernel) (by decide +kernel)
set_option maxRecDepth 20000 in
theorem gX1_lessen_X1_sum : GoodIn wsX1_lessen (wsV RX1 15 RX1 yX1_sum wsX1_sum) := goodIn_app (goodIn_of _ (by decide +kernel)) ggX1_lessen_X1_sum
set_option maxRecDepth 20000 in
theorem ggX1_lessen_X1_put : GoodIn wsX1_lessen wsX1_put := goodIn_r _ [14, 10, 15] (by decide +kernel) (by decide +kernel)
set_option maxRecDepth 20000 in
theorem gX1_lessen_X1_put : GoodIn wsX1_lessen (wsV RX1 24 RX1 yX1_put wsX1_put) := goodIn_app (goodIn_of _ (by decide +kernel)) ggX1_lessen_X1_put
theorem dX1_lessen_0 : decode cX1_lessen 0 = .ok (.aload_n 0, 1) := by decide +kernel
theorem dX1_lessen_1 : decode cX1_lessen 1 = .ok (.iload_n 1, 1) := by decide +kernel
theorem dX1_lessen_2 : decode cX1_lessen 2 = .ok (.iload_n 2, 1) := by decide +kernel
theorem dX1_lessen_3 : decode cX1_lessen 3 = .ok (.iconst 0, 1) := by decide +kernel
theorem dX1_lessen_4 : decode cX1_lessen 4 = .ok (.aload_n 0, 1) := by decide +kernel
theorem dX1_lessen_5 : decode cX1_lessen 5 = .ok (.iload_n 1, 1) := by decide +kernel
theorem dX1_lessen_6 : decode cX1_lessen 6 = .ok (.iload_n 2, 1) := by decide +kernel
theorem dX1_lessen_7 : decode cX1_lessen 7 = .ok (.invokevirtual 15, 3) := by decide +kernel
theorem dX1_lessen_10 : decode cX1_lessen 10 = .ok (.iload_n 3, 1) := by decide +kernel
theorem dX1_lessen_11 : decode cX1_lessen 11 = .ok (.isub, 1) := by decide +kernel
theorem dX1_lessen_12 : decode cX1_lessen 12 = .ok (.invokestatic 19, 3) := by decide +kernel
theorem dX1_lessen_15 : decode cX1_lessen 15 = .ok (.invokevirtual 24, 3) := by decide +kernel
theorem dX1_lessen_18 : decode cX1_lessen 18 = .ok (.return_, 1) := by decide +kernel
theorem dX1_total_0 : decode cX1_total 0 = .ok (.iconst 0, 1) := by decide +kernel
theorem dX1_total_1 : decode cX1_total 1 = .ok (.istore_n 1, 1) := by decide +kernel
theorem dX1_total_2 : decode cX1_total 2 = .ok (.aload_n 0, 1) := by decide +kernel
theorem dX1_total_3 : decode cX1_total 3 = .ok (.getfield 9, 3) := by decide +kernel
theorem dX1_total_6 : decode cX1_total 6 = .ok (.astore_n 2, 1) := by decide +kernel
theorem dX1_total_7 : decode cX1_total 7 = .ok (.aload_n 2, 1) := by decide +kernel
theorem dX1_total_8 : decode cX1_total 8 = .ok (.arraylength, 1) := by decide +kernel
theorem dX1_total_9 : decode cX1_total 9 = .ok (.istore_n 3, 1) := by decide +kernel
theorem dX1_total_10 : decode cX1_total 10 = .ok (.iconst 0, 1) := by decide +kernel
theorem dX1_total_11 : decode cX1_total 11 = .ok (.istore 4, 2) := by decide +kernel
theorem dX1_total_13 : decode cX1_total 13 = .ok (.iload 4, 2) := by decide +kernel
theorem dX1_total_15 : decode cX1_total 15 = .ok (.iload_n 3, 1) := by decide +kernel
theorem dX1_total_16 : decode cX1_total 16 = .ok (.if_icmp .ge 20, 3) := by decide +kernel
theorem dX1_total_19 : decode cX1_total 19 = .ok (.aload_n 2, 1) := by decide +kernel
theorem dX1_total_20 : decode cX1_total 20 = .ok (.iload 4, 2) := by decide +kernel
theorem dX1_total_22 : decode cX1_total 22 = .ok (.iaload, 1) := by decide +kernel
theorem dX1_total_23 : decode cX1_total 23 = .ok (.istore 5, 2) := by decide +kernel
theorem dX1_total_25 : decode cX1_total 25 = .ok (.iload_n 1, 1) := by decide +kernel
theorem dX1_total_26 : decode cX1_total 26 = .ok (.iload 5, 2) := by decide +kernel
theorem dX1_total_28 : decode cX1_total 28 = .ok (.iadd, 1) := by decide +kernel
theorem dX1_total_29 : decode cX1_total 29 = .ok (.istore_n 1, 1) := by decide +kernel
theorem dX1_total_30 : decode cX1_total 30 = .ok (.iinc 4 1, 3) := by decide +kernel
theorem dX1_total_33 : decode cX1_total 33 = .ok (.goto (-20), 3) := by decide +kernel
theorem dX1_total_36 : decode cX1_total 36 = .ok (.iload_n 1, 1) := by decide +kernel
theorem dX1_total_37 : decode cX1_total 37 = .ok (.ireturn, 1) := by decide +kernel
theorem dX1_copyFrom_0 : decode cX1_copyFrom 0 = .ok (.aload_n 1, 1) := by decide +kernel
theorem dX1_copyFrom_1 : decode cX1_copyFrom 1 = .ok (.getfield 9, 3) := by decide +kernel
theorem dX1_copyFrom_4 : decode cX1_copyFrom 4 = .ok (.iconst 0, 1) := by decide +kernel
theorem dX1_copyFrom_5 : decode cX1_copyFrom 5 = .ok (.aload_n 0, 1) := by decide +kernel
theorem dX1_copyFrom_6 : decode cX1_copyFrom 6 = .ok (.getfield 9, 3) := by decide +kernel
theorem dX1_copyFrom_9 : decode cX1_copyFrom 9 = .ok (.iconst 0, 1) := by decide +kernel
theorem dX1_copyFrom_10 : decode cX1_copyFrom 10 = .ok (.bipush 36, 2) := by decide +kernel
theorem dX1_copyFrom_12 : decode cX1_copyFrom 12 = .ok (.invokestatic 28, 3) := by decide +kernel
theorem dX1_copyFrom_15 : decode cX1_copyFrom 15 = .ok (.return_, 1) := by decide +kernel
