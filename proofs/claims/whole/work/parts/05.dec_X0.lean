theorem dX0_init_0 : decode cX0_init 0 = .ok (.aload_n 0, 1) := by decide +kernel
theorem dX0_init_1 : decode cX0_init 1 = .ok (.invokespecial 3, 3) := by decide +kernel
theorem dX0_init_4 : decode cX0_init 4 = .ok (.aload_n 0, 1) := by decide +kernel
theorem dX0_init_5 : decode cX0_init 5 = .ok (.bipush 6, 2) := by decide +kernel
theorem dX0_init_7 : decode cX0_init 7 = .ok (.newarray .int, 2) := by decide +kernel
theorem dX0_init_9 : decode cX0_init 9 = .ok (.putfield 9, 3) := by decide +kernel
theorem dX0_init_12 : decode cX0_init 12 = .ok (.aload_n 0, 1) := by decide +kernel
theorem dX0_init_13 : decode cX0_init 13 = .ok (.bipush 6, 2) := by decide +kernel
theorem dX0_init_15 : decode cX0_init 15 = .ok (.newarray .int, 2) := by decide +kernel
theorem dX0_init_17 : decode cX0_init 17 = .ok (.putfield 15, 3) := by decide +kernel
theorem dX0_init_20 : decode cX0_init 20 = .ok (.aload_n 0, 1) := by decide +kernel
theorem dX0_init_21 : decode cX0_init 21 = .ok (.bipush 6, 2) := by decide +kernel
theorem dX0_init_23 : decode cX0_init 23 = .ok (.newarray .int, 2) := by decide +kernel
theorem dX0_init_25 : decode cX0_init 25 = .ok (.putfield 18, 3) := by decide +kernel
theorem dX0_init_28 : decode cX0_init 28 = .ok (.return_, 1) := by decide +kernel
theorem dX0_has_0 : decode cX0_has 0 = .ok (.iload_n 1, 1) := by decide +kernel
theorem dX0_has_1 : decode cX0_has 1 = .ok (.ifCond .lt 15, 3) := by decide +kernel
theorem dX0_has_4 : decode cX0_has 4 = .ok (.iload_n 1, 1) := by decide +kernel
theorem dX0_has_5 : decode cX0_has 5 = .ok (.aload_n 0, 1) := by decide +kernel
theorem dX0_has_6 : decode cX0_has 6 = .ok (.getfield 21, 3) := by decide +kernel
theorem dX0_has_9 : decode cX0_has 9 = .ok (.if_icmp .ge 7, 3) := by decide +kernel
theorem dX0_has_12 : decode cX0_has 12 = .ok (.iconst 1, 1) := by decide +kernel
theorem dX0_has_13 : decode cX0_has 13 = .ok (.goto 4, 3) := by decide +kernel
theorem dX0_has_16 : decode cX0_has 16 = .ok (.iconst 0, 1) := by decide +kernel
theorem dX0_has_17 : decode cX0_has 17 = .ok (.ireturn, 1) := by decide +kernel
theorem dX0_likeThat_0 : decode cX0_likeThat 0 = .ok (.aload_n 1, 1) := by decide +kernel
theorem dX0_likeThat_1 : decode cX0_likeThat 1 = .ok (.getfield 9, 3) := by decide +kernel
theorem dX0_likeThat_4 : decode cX0_likeThat 4 = .ok (.iconst 0, 1) := by decide +kernel
theorem dX0_likeThat_5 : decode cX0_likeThat 5 = .ok (.aload_n 0, 1) := by decide +kernel
theorem dX0_likeThat_6 : decode cX0_likeThat 6 = .ok (.getfield 9, 3) := by decide +kernel
theorem dX0_likeThat_9 : decode cX0_likeThat 9 = .ok (.iconst 0, 1) := by decide +kernel
theorem dX0_likeThat_10 : decode cX0_likeThat 10 = .ok (.bipush 6, 2) := by decide +kernel
theorem dX0_likeThat_12 : decode cX0_likeThat 12 = .ok (.invokestatic 25, 3) := by decide +kernel
theorem dX0_likeThat_15 : decode cX0_likeThat 15 = .ok (.aload_n 1, 1) := by decide +kernel
theorem dX0_likeThat_16 : decode cX0_likeThat 16 = .ok (.getfield 15, 3) := by decide +kernel
theorem dX0_likeThat_19 : decode cX0_likeThat 19 = .ok (.iconst 0, 1) := by decide +kernel
theorem dX0_likeThat_20 : decode cX0_likeThat 20 = .ok (.aload_n 0, 1) := by decide +kernel
theorem dX0_likeThat_21 : decode cX0_likeThat 21 = .ok (.getfield 15, 3) := by decide +kernel
theorem dX0_likeThat_24 : decode cX0_likeThat 24 = .ok (.iconst 0, 1) := by decide +kernel
theorem dX0_likeThat_25 : decode cX0_likeThat 25 = .ok (.bipush 6, 2) := by decide +kernel
theorem dX0_likeThat_27 : decode cX0_likeThat 27 = .ok (.invokestatic 25, 3) := by decide +kernel
theorem dX0_likeThat_30 : decode cX0_likeThat 30 = .ok (.aload_n 1, 1) := by decide +kernel
theorem dX0_likeThat_31 : decode cX0_likeThat 31 = .ok (.getfield 18, 3) := by decide +kernel
theorem dX0_likeThat_34 : decode cX0_likeThat 34 = .ok (.iconst 0, 1) := by decide +kernel
theorem dX0_likeThat_35 : decode cX0_likeThat 35 = .ok (.aload_n 0, 1) := by decide +kernel
theorem dX0_likeThat_36 : decode cX0_likeThat 36 = .ok (.getfield 18, 3) := by decide +kernel
theorem dX0_likeThat_39 : decode cX0_likeThat 39 = .ok (.iconst 0, 1) := by decide +kernel
theorem dX0_likeThat_40 : decode cX0_likeThat 40 = .ok (.bipush 6, 2) := by decide +kernel
theorem dX0_likeThat_42 : decode cX0_likeThat 42 = .ok (.invokestatic 25, 3) := by decide +kernel
theorem dX0_likeThat_45 : decode cX0_likeThat 45 = .ok (.aload_n 0, 1) := by decide +kernel
theorem dX0_likeThat_46 : decode cX0_likeThat 46 = .ok (.aload_n 1, 1) := by decide +kernel
theorem dX0_likeThat_47 : decode cX0_likeThat 47 = .ok (.getfield 21, 3) := by decide +kernel
theorem dX0_likeThat_50 : decode cX0_likeThat 50 = .ok (.putfield 21, 3) := by decide +kernel
theorem dX0_likeThat_53 : decode cX0_likeThat 53 = .ok (.return_, 1) := by decide +kernel
theorem dX0_become_0 : decode cX0_become 0 = .ok (.iload_n 2, 1) := by decide +kernel
theorem dX0_become_1 : decode cX0_become 1 = .ok (.ifCond .ne 13, 3) := by decide +kernel
theorem dX0_become_4 : decode cX0_become 4 = .ok (.aload_n 0, 1) := by decide +kernel
theorem dX0_become_5 : decode cX0_become 5 = .ok (.getfield 9, 3) := by decide +kernel
theorem dX0_become_8 : decode cX0_become 8 = .ok (.iload_n 1, 1) := by decide +kernel
theorem dX0_become_9 : decode cX0_become 9 = .ok (.iload_n 3, 1) := by decide +kernel
theorem dX0_become_10 : decode cX0_become 10 = .ok (.iastore, 1) := by decide +kernel
theorem dX0_become_11 : decode cX0_become 11 = .ok (.goto 25, 3) := by decide +kernel
theorem dX0_become_14 : decode cX0_become 14 = .ok (.iload_n 2, 1) := by decide +kernel
theorem dX0_become_15 : decode cX0_become 15 = .ok (.iconst 1, 1) := by decide +kernel
theorem dX0_become_16 : decode cX0_become 16 = .ok (.if_icmp .ne 13, 3) := by decide +kernel
theorem dX0_become_19 : decode cX0_become 19 = .ok (.aload_n 0, 1) := by decide +kernel
theorem dX0_become_20 : decode cX0_become 20 = .ok (.getfield 15, 3) := by decide +kernel
theorem dX0_become_23 : decode cX0_become 23 = .ok (.iload_n 1, 1) := by decide +kernel
theorem dX0_become_24 : decode cX0_become 24 = .ok (.iload_n 3, 1) := by decide +kernel
theorem dX0_become_25 : decode cX0_become 25 = .ok (.iastore, 1) := by decide +kernel
theorem dX0_become_26 : decode cX0_become 26 = .ok (.goto 10, 3) := by decide +kernel
theorem dX0_become_29 : decode cX0_become 29 = .ok (.aload_n 0, 1) := by decide +kernel
theorem dX0_become_30 : decode cX0_become 30 = .ok (.getfield 18, 3) := by decide +kernel
theorem dX0_become_33 : decode cX0_become 33 = .ok (.iload_n 1, 1) := by decide +kernel
theorem dX0_become_34 : decode cX0_become 34 = .ok (.iload_n 3, 1) := by decide +kernel
theorem dX0_become_35 : decode cX0_become 35 = .ok (.iastore, 1) := by decide +kernel
theorem dX0_become_36 : decode cX0_become 36 = .ok (.return_, 1) := by decide +kernel
theorem dX0_turnToCoin_0 : decode cX0_turnToCoin 0 = .ok (.aload_n 0, 1) := by decide +kernel
theorem dX0_turnToCoin_1 : decode cX0_turnToCoin 1 = .ok (.getfield 15, 3) := by decide +kernel
theorem dX0_turnToCoin_4 : decode cX0_turnToCoin 4 = .ok (.iload_n 1, 1) := by decide +kernel
theorem dX0_turnToCoin_5 : decode cX0_turnToCoin 5 = .ok (.dup2, 1) := by decide +kernel
theorem dX0_turnToCoin_6 : decode cX0_turnToCoin 6 = .ok (.iaload, 1) := by decide +kernel
theorem dX0_turnToCoin_7 : decode cX0_turnToCoin 7 = .ok (.iload_n 2, 1) := by decide +kernel
theorem dX0_turnToCoin_8 : decode cX0_turnToCoin 8 = .ok (.isub, 1) := by decide +kernel
theorem dX0_turnToCoin_9 : decode cX0_turnToCoin 9 = .ok (.iastore, 1) := by decide +kernel
theorem dX0_turnToCoin_10 : decode cX0_turnToCoin 10 = .ok (.aload_n 0, 1) := by decide +kernel
theorem dX0_turnToCoin_11 : decode cX0_turnToCoin 11 = .ok (.getfield 18, 3) := by decide +kernel
theorem dX0_turnToCoin_14 : decode cX0_turnToCoin 14 = .ok (.iload_n 1, 1) := by decide +kernel
theorem dX0_turnToCoin_15 : decode cX0_turnToCoin 15 = .ok (.dup2, 1) := by decide +kernel
theorem dX0_turnToCoin_16 : decode cX0_turnToCoin 16 = .ok (.iaload, 1) := by decide +kernel
theorem dX0_turnToCoin_17 : decode cX0_turnToCoin 17 = .ok (.iload_n 2, 1) := by decide +kernel
theorem dX0_turnToCoin_18 : decode cX0_turnToCoin 18 = .ok (.iadd, 1) := by decide +kernel
theorem dX0_turnToCoin_19 : decode cX0_turnToCoin 19 = .ok (.iastore, 1) := by decide +kernel
theorem dX0_turnToCoin_20 : decode cX0_turnToCoin 20 = .ok (.return_, 1) := by decide +kernel
theorem dX0_sum_0 : decode cX0_sum 0 = .ok (.iconst 0, 1) := by decide +kernel
theorem dX0_sum_1 : decode cX0_sum 1 = .ok (.istore_n 2, 1) := by decide +kernel
theorem dX0_sum_2 : decode cX0_sum 2 = .ok (.iconst 0, 1) := by decide +kernel
theorem dX0_sum_3 : decode cX0_sum 3 = .ok (.istore_n 3, 1) := by decide +kernel
theorem dX0_sum_4 : decode cX0_sum 4 = .ok (.iload_n 3, 1) := by decide +kernel
theorem dX0_sum_5 : decode cX0_sum 5 = .ok (.aload_n 0, 1) := by decide +kernel
theorem dX0_sum_6 : decode cX0_sum 6 = .ok (.getfield 21, 3) := by decide +kernel
theorem dX0_sum_9 : decode cX0_sum 9 = .ok (.if_icmp .ge 15, 3) := by decide +kernel
theorem dX0_sum_12 : decode cX0_sum 12 = .ok (.iload_n 2, 1) := by decide +kernel
theorem dX0_sum_13 : decode cX0_sum 13 = .ok (.aload_n 1, 1) := by decide +kernel
theorem dX0_sum_14 : decode cX0_sum 14 = .ok (.iload_n 3, 1) := by decide +kernel
theorem dX0_sum_15 : decode cX0_sum 15 = .ok (.iaload, 1) := by decide +kernel
theorem dX0_sum_16 : decode cX0_sum 16 = .ok (.iadd, 1) := by decide +kernel
theorem dX0_sum_17 : decode cX0_sum 17 = .ok (.istore_n 2, 1) := by decide +kernel
theorem dX0_sum_18 : decode cX0_sum 18 = .ok (.iinc 3 1, 3) := by decide +kernel
theorem dX0_sum_21 : decode cX0_sum 21 = .ok (.goto (-17), 3) := by decide +kernel
theorem dX0_sum_24 : decode cX0_sum 24 = .ok (.iload_n 2, 1) := by decide +kernel
theorem dX0_sum_25 : decode cX0_sum 25 = .ok (.ireturn, 1) := by decide +kernel
theorem dX0_worth_0 : decode cX0_worth 0 = .ok (.iload_n 0, 1) := by decide +kernel
theorem dX0_worth_1 : decode cX0_worth 1 = .ok (.ifCond .ne 5, 3) := by decide +kernel
theorem dX0_worth_4 : decode cX0_worth 4 = .ok (.iload_n 1, 1) := by decide +kernel
theorem dX0_worth_5 : decode cX0_worth 5 = .ok (.ireturn, 1) := by decide +kernel
theorem dX0_worth_6 : decode cX0_worth 6 = .ok (.iload_n 1, 1) := by decide +kernel
theorem dX0_worth_7 : decode cX0_worth 7 = .ok (.iconst 5, 1) := by decide +kernel
theorem dX0_worth_8 : decode cX0_worth 8 = .ok (.iadd, 1) := by decide +kernel
theorem dX0_worth_9 : decode cX0_worth 9 = .ok (.istore_n 2, 1) := by decide +kernel
theorem dX0_worth_10 : decode cX0_worth 10 = .ok (.iload_n 0, 1) := by decide +kernel
theorem dX0_worth_11 : decode cX0_worth 11 = .ok (.iconst 2, 1) := by decide +kernel
theorem dX0_worth_12 : decode cX0_worth 12 = .ok (.if_icmp .ne 9, 3) := by decide +kernel
theorem dX0_worth_15 : decode cX0_worth 15 = .ok (.iconst 2, 1) := by decide +kernel
theorem dX0_worth_16 : decode cX0_worth 16 = .ok (.iload_n 2, 1) := by decide +kernel
theorem dX0_worth_17 : decode cX0_worth 17 = .ok (.imul, 1) := by decide +kernel
theorem dX0_worth_18 : decode cX0_worth 18 = .ok (.goto 4, 3) := by decide +kernel
theorem dX0_worth_21 : decode cX0_worth 21 = .ok (.iload_n 2, 1) := by decide +kernel
theorem dX0_worth_22 : decode cX0_worth 22 = .ok (.ireturn, 1) := by decide +kernel
theorem dX0_wealth_0 : decode cX0_wealth 0 = .ok (.aload_n 0, 1) := by decide +kernel
theorem dX0_wealth_1 : decode cX0_wealth 1 = .ok (.getfield 15, 3) := by decide +kernel
theorem dX0_wealth_4 : decode cX0_wealth 4 = .ok (.iload_n 1, 1) := by decide +kernel
theorem dX0_wealth_5 : decode cX0_wealth 5 = .ok (.iaload, 1) := by decide +kernel
theorem dX0_wealth_6 : decode cX0_wealth 6 = .ok (.aload_n 0, 1) := by decide +kernel
theorem dX0_wealth_7 : decode cX0_wealth 7 = .ok (.getfield 18, 3) := by decide +kernel
theorem dX0_wealth_10 : decode cX0_wealth 10 = .ok (.iload_n 1, 1) := by decide +kernel
theorem dX0_wealth_11 : decode cX0_wealth 11 = .ok (.iaload, 1) := by decide +kernel
theorem dX0_wealth_12 : decode cX0_wealth 12 = .ok (.iadd, 1) := by decide +kernel
theorem dX0_wealth_13 : decode cX0_wealth 13 = .ok (.ireturn, 1) := by decide +kernel
theorem dX0_wealthWhenPaid_0 : decode cX0_wealthWhenPaid 0 = .ok (.aload_n 0, 1) := by decide +kernel
theorem dX0_wealthWhenPaid_1 : decode cX0_wealthWhenPaid 1 = .ok (.getfield 15, 3) := by decide +kernel
theorem dX0_wealthWhenPaid_4 : decode cX0_wealthWhenPaid 4 = .ok (.iload_n 1, 1) := by decide +kernel
theorem dX0_wealthWhenPaid_5 : decode cX0_wealthWhenPaid 5 = .ok (.iaload, 1) := by decide +kernel
theorem dX0_wealthWhenPaid_6 : decode cX0_wealthWhenPaid 6 = .ok (.aload_n 0, 1) := by decide +kernel
theorem dX0_wealthWhenPaid_7 : decode cX0_wealthWhenPaid 7 = .ok (.getfield 18, 3) := by decide +kernel
theorem dX0_wealthWhenPaid_10 : decode cX0_wealthWhenPaid 10 = .ok (.iload_n 1, 1) := by decide +kernel
theorem dX0_wealthWhenPaid_11 : decode cX0_wealthWhenPaid 11 = .ok (.iaload, 1) := by decide +kernel
theorem dX0_wealthWhenPaid_12 : decode cX0_wealthWhenPaid 12 = .ok (.iadd, 1) := by decide +kernel
theorem dX0_wealthWhenPaid_13 : decode cX0_wealthWhenPaid 13 = .ok (.iload_n 2, 1) := by decide +kernel
theorem dX0_wealthWhenPaid_14 : decode cX0_wealthWhenPaid 14 = .ok (.isub, 1) := by decide +kernel
theorem dX0_wealthWhenPaid_15 : decode cX0_wealthWhenPaid 15 = .ok (.istore_n 3, 1) := by decide +kernel
theorem dX0_wealthWhenPaid_16 : decode cX0_wealthWhenPaid 16 = .ok (.iload_n 3, 1) := by decide +kernel
theorem dX0_wealthWhenPaid_17 : decode cX0_wealthWhenPaid 17 = .ok (.ifCond .le 7, 3) := by decide +kernel
theorem dX0_wealthWhenPaid_20 : decode cX0_wealthWhenPaid 20 = .ok (.iload_n 3, 1) := by decide +kernel
theorem dX0_wealthWhenPaid_21 : decode cX0_wealthWhenPaid 21 = .ok (.goto 4, 3) := by decide +kernel
theorem dX0_wealthWhenPaid_24 : decode cX0_wealthWhenPaid 24 = .ok (.iconst 0, 1) := by decide +kernel
theorem dX0_wealthWhenPaid_25 : decode cX0_wealthWhenPaid 25 = .ok (.ireturn, 1) := by decide +kernel
set_option maxRecDepth 20000 in
theorem ggX0_worthOf_X0_wealth : GoodIn wsX0_worthOf wsX0_wealth := goodIn_r _ [6, 7, 8, 12, 13, 14, 15] (by decide +kernel) (by decide +kernel)
set_option maxRecDepth 20000 in
theorem gX0_worthOf_X0_wealth : GoodIn wsX0_worthOf (wsV RX0 31 RX0 yX0_wealth wsX0_wealth) := goodIn_app (goodIn_of _ (by decide +kernel)) ggX0_worthOf_X0_wealth
set_option maxRecDepth 20000 in
theorem ggX0_worthOf_X0_worth : GoodIn wsX0_worthOf wsX0_worth := goodIn_r _ [11] (by decide +kernel) (by decide +kernel)
set_option maxRecDepth 20000 in
theorem gX0_worthOf_X0_worth : GoodIn wsX0_worthOf (va_wsS RX0 35 yX0_worth wsX0_worth) := goodIn_app (goodIn_of _ (by decide +kernel)) ggX0_worthOf_X0_worth
theorem dX0_worthOf_0 : decode cX0_worthOf 0 = .ok (.aload_n 0, 1) := by decide +kernel
theorem dX0_worthOf_1 : decode cX0_worthOf 1 = .ok (.getfield 9, 3) := by decide +kernel
theorem dX0_worthOf_4 : decode cX0_worthOf 4 = .ok (.iload_n 1, 1) := by decide +kernel
theorem dX0_worthOf_5 : decode cX0_worthOf 5 = .ok (.iaload, 1) := by decide +kernel
theorem dX0_worthOf_6 : decode cX0_worthOf 6 = .ok (.aload_n 0, 1) := by decide +kernel
theorem dX0_worthOf_7 : decode cX0_worthOf 7 = .ok (.iload_n 1, 1) := by decide +kernel
theorem dX0_worthOf_8 : decode cX0_worthOf 8 = .ok (.invokevirtual 31, 3) := by decide +kernel
theorem dX0_worthOf_11 : decode cX0_worthOf 11 = .ok (.invokestatic 35, 3) := by decide +kernel
theorem dX0_worthOf_14 : decode cX0_worthOf 14 = .ok (.ireturn, 1) := by decide +kernel
set_option maxRecDepth 20000 in
theorem ggX0_worthOfAll_X0_worthOf : GoodIn wsX0_worthOfAll wsX0_worthOf := goodIn_r _ [6, 7, 8, 9, 10, 5, 11, 12, 13, 14, 15, 16, 17, 18, 19, 20] (by decide +kernel) (by decide +kernel)
set_option maxRecDepth 20000 in
theorem gX0_worthOfAll_X0_worthOf : GoodIn wsX0_worthOfAll (wsV RX0 39 RX0 yX0_worthOf wsX0_worthOf) := goodIn_app (goodIn_of _ (by decide +kernel)) ggX0_worthOfAll_X0_worthOf
theorem dX0_worthOfAll_0 : decode cX0_worthOfAll 0 = .ok (.iconst 0, 1) := by decide +kernel
theorem dX0_worthOfAll_1 : decode cX0_worthOfAll 1 = .ok (.istore_n 1, 1) := by decide +kernel
theorem dX0_worthOfAll_2 : decode cX0_worthOfAll 2 = .ok (.iconst 0, 1) := by decide +kernel
theorem dX0_worthOfAll_3 : decode cX0_worthOfAll 3 = .ok (.istore_n 2, 1) := by decide +kernel
theorem dX0_worthOfAll_4 : decode cX0_worthOfAll 4 = .ok (.iload_n 2, 1) := by decide +kernel
theorem dX0_worthOfAll_5 : decode cX0_worthOfAll 5 = .ok (.aload_n 0, 1) := by decide +kernel
theorem dX0_worthOfAll_6 : decode cX0_worthOfAll 6 = .ok (.getfield 21, 3) := by decide +kernel
theorem dX0_worthOfAll_9 : decode cX0_worthOfAll 9 = .ok (.if_icmp .ge 17, 3) := by decide +kernel
theorem dX0_worthOfAll_12 : decode cX0_worthOfAll 12 = .ok (.iload_n 1, 1) := by decide +kernel
theorem dX0_worthOfAll_13 : decode cX0_worthOfAll 13 = .ok (.aload_n 0, 1) := by decide +kernel
theorem dX0_worthOfAll_14 : decode cX0_worthOfAll 14 = .ok (.iload_n 2, 1) := by decide +kernel
theorem dX0_worthOfAll_15 : decode cX0_worthOfAll 15 = .ok (.invokevirtual 39, 3) := by decide +kernel
theorem dX0_worthOfAll_18 : decode cX0_worthOfAll 18 = .ok (.iadd, 1) := by decide +kernel
theorem dX0_worthOfAll_19 : decode cX0_worthOfAll 19 = .ok (.istore_n 1, 1) := by decide +kernel
theorem dX0_worthOfAll_20 : decode cX0_worthOfAll 20 = .ok (.iinc 2 1, 3) := by decide +kernel
theorem dX0_worthOfAll_23 : decode cX0_worthOfAll 23 = .ok (.goto (-19), 3) := by decide +kernel
theorem dX0_worthOfAll_26 : decode cX0_worthOfAll 26 = .ok (.iload_n 1, 1) := by decide +kernel
theorem dX0_worthOfAll_27 : decode cX0_worthOfAll 27 = .ok (.ireturn, 1) := by decide +kernel
set_option maxRecDepth 20000 in
theorem ggX0_richest_X0_worthOf : GoodIn wsX0_richest wsX0_worthOf := goodIn_r _ [6, 7, 8, 9, 10, 5, 11, 12, 13, 14, 15, 16, 17, 18, 19, 20] (by decide +kernel) (by decide +kernel)
set_option maxRecDepth 20000 in
theorem gX0_richest_X0_worthOf : GoodIn wsX0_richest (wsV RX0 39 RX0 yX0_worthOf wsX0_worthOf) := goodIn_app (goodIn_of _ (by decide +kernel)) ggX0_richest_X0_worthOf
theorem dX0_richest_0 : decode cX0_richest 0 = .ok (.iconst 0, 1) := by decide +kernel
theorem dX0_richest_1 : decode cX0_richest 1 = .ok (.istore_n 1, 1) := by decide +kernel
theorem dX0_richest_2 : decode cX0_richest 2 = .ok (.iconst 1, 1) := by decide +kernel
theorem dX0_richest_3 : decode cX0_richest 3 = .ok (.istore_n 2, 1) := by decide +kernel
theorem dX0_richest_4 : decode cX0_richest 4 = .ok (.iload_n 2, 1) := by decide +kernel
theorem dX0_richest_5 : decode cX0_richest 5 = .ok (.aload_n 0, 1) := by decide +kernel
theorem dX0_richest_6 : decode cX0_richest 6 = .ok (.getfield 21, 3) := by decide +kernel
theorem dX0_richest_9 : decode cX0_richest 9 = .ok (.if_icmp .ge 24, 3) := by decide +kernel
theorem dX0_richest_12 : decode cX0_richest 12 = .ok (.aload_n 0, 1) := by decide +kernel
theorem dX0_richest_13 : decode cX0_richest 13 = .ok (.iload_n 2, 1) := by decide +kernel
theorem dX0_richest_14 : decode cX0_richest 14 = .ok (.invokevirtual 39, 3) := by decide +kernel
theorem dX0_richest_17 : decode cX0_richest 17 = .ok (.aload_n 0, 1) := by decide +kernel
theorem dX0_richest_18 : decode cX0_richest 18 = .ok (.iload_n 1, 1) := by decide +kernel
theorem dX0_richest_19 : decode cX0_richest 19 = .ok (.invokevirtual 39, 3) := by decide +kernel
theorem dX0_richest_22 : decode cX0_richest 22 = .ok (.if_icmp .le 5, 3) := by decide +kernel
theorem dX0_richest_25 : decode cX0_richest 25 = .ok (.iload_n 2, 1) := by decide +kernel
theorem dX0_richest_26 : decode cX0_richest 26 = .ok (.istore_n 1, 1) := by decide +kernel
theorem dX0_richest_27 : decode cX0_richest 27 = .ok (.iinc 2 1, 3) := by decide +kernel
theorem dX0_richest_30 : decode cX0_richest 30 = .ok (.goto (-26), 3) := by decide +kernel
theorem dX0_richest_33 : decode cX0_richest 33 = .ok (.iload_n 1, 1) := by decide +kernel
theorem dX0_richest_34 : decode cX0_richest 34 = .ok (.ireturn, 1) := by decide +kernel
theorem dX0_mayPoint_0 : decode cX0_mayPoint 0 = .ok (.aload_n 0, 1) := by decide +kernel
theorem dX0_mayPoint_1 : decode cX0_mayPoint 1 = .ok (.getfield 15, 3) := by decide +kernel
theorem dX0_mayPoint_4 : decode cX0_mayPoint 4 = .ok (.iload_n 2, 1) := by decide +kernel
theorem dX0_mayPoint_5 : decode cX0_mayPoint 5 = .ok (.iaload, 1) := by decide +kernel
theorem dX0_mayPoint_6 : decode cX0_mayPoint 6 = .ok (.aload_n 0, 1) := by decide +kernel
theorem dX0_mayPoint_7 : decode cX0_mayPoint 7 = .ok (.getfield 15, 3) := by decide +kernel
theorem dX0_mayPoint_10 : decode cX0_mayPoint 10 = .ok (.iload_n 1, 1) := by decide +kernel
theorem dX0_mayPoint_11 : decode cX0_mayPoint 11 = .ok (.iaload, 1) := by decide +kernel
theorem dX0_mayPoint_12 : decode cX0_mayPoint 12 = .ok (.if_icmp .le 7, 3) := by decide +kernel
theorem dX0_mayPoint_15 : decode cX0_mayPoint 15 = .ok (.iconst 1, 1) := by decide +kernel
theorem dX0_mayPoint_16 : decode cX0_mayPoint 16 = .ok (.goto 4, 3) := by decide +kernel
theorem dX0_mayPoint_19 : decode cX0_mayPoint 19 = .ok (.iconst 0, 1) := by decide +kernel
theorem dX0_mayPoint_20 : decode cX0_mayPoint 20 = .ok (.ireturn, 1) := by decide +kernel
set_option maxRecDepth 20000 in
theorem ggX0_changes_X0_wealth : GoodIn wsX0_changes wsX0_wealth := goodIn_r _ [6, 7, 8, 16, 17, 18, 19] (by decide +kernel) (by decide +kernel)
set_option maxRecDepth 20000 in
theorem gX0_changes_X0_wealth : GoodIn wsX0_changes (wsV RX0 31 RX0 yX0_wealth wsX0_wealth) := goodIn_app (goodIn_of _ (by decide +kernel)) ggX0_changes_X0_wealth
set_option maxRecDepth 20000 in
theorem ggX0_changes_X0_worth : GoodIn wsX0_changes wsX0_worth := goodIn_r _ [11] (by decide +kernel) (by decide +kernel)
set_option maxRecDepth 20000 in
theorem gX0_changes_X0_worth : GoodIn wsX0_changes (va_wsS RX0 35 yX0_worth wsX0_worth) := goodIn_app (goodIn_of _ (by decide +kernel)) ggX0_changes_X0_worth
set_option maxRecDepth 20000 in
theorem ggX0_changes_X0_wealthWhenPaid : GoodIn wsX0_changes wsX0_wealthWhenPaid := goodIn_r _ [15, 7, 8, 16, 17, 18, 19] (by decide +kernel) (by decide +kernel)
set_option maxRecDepth 20000 in
theorem gX0_changes_X0_wealthWhenPaid : GoodIn wsX0_changes (wsV RX0 42 RX0 yX0_wealthWhenPaid wsX0_wealthWhenPaid) := goodIn_app (goodIn_of _ (by decide +kernel)) ggX0_changes_X0_wealthWhenPaid
theorem dX0_changes_0 : decode cX0_changes 0 = .ok (.iload_n 1, 1) := by decide +kernel
theorem dX0_changes_1 : decode cX0_changes 1 = .ok (.iload_n 2, 1) := by decide +kernel
theorem dX0_changes_2 : decode cX0_changes 2 = .ok (.if_icmp .eq 39, 3) := by decide +kernel
theorem dX0_changes_5 : decode cX0_changes 5 = .ok (.aload_n 0, 1) := by decide +kernel
theorem dX0_changes_6 : decode cX0_changes 6 = .ok (.getfield 9, 3) := by decide +kernel
theorem dX0_changes_9 : decode cX0_changes 9 = .ok (.iload_n 2, 1) := by decide +kernel
theorem dX0_changes_10 : decode cX0_changes 10 = .ok (.iaload, 1) := by decide +kernel
theorem dX0_changes_11 : decode cX0_changes 11 = .ok (.aload_n 0, 1) := by decide +kernel
theorem dX0_changes_12 : decode cX0_changes 12 = .ok (.iload_n 1, 1) := by decide +kernel
theorem dX0_changes_13 : decode cX0_changes 13 = .ok (.invokevirtual 31, 3) := by decide +kernel
theorem dX0_changes_16 : decode cX0_changes 16 = .ok (.invokestatic 35, 3) := by decide +kernel
theorem dX0_changes_19 : decode cX0_changes 19 = .ok (.aload_n 0, 1) := by decide +kernel
theorem dX0_changes_20 : decode cX0_changes 20 = .ok (.getfield 9, 3) := by decide +kernel
theorem dX0_changes_23 : decode cX0_changes 23 = .ok (.iload_n 2, 1) := by decide +kernel
theorem dX0_changes_24 : decode cX0_changes 24 = .ok (.iaload, 1) := by decide +kernel
theorem dX0_changes_25 : decode cX0_changes 25 = .ok (.aload_n 0, 1) := by decide +kernel
theorem dX0_changes_26 : decode cX0_changes 26 = .ok (.iload_n 2, 1) := by decide +kernel
theorem dX0_changes_27 : decode cX0_changes 27 = .ok (.iload_n 3, 1) := by decide +kernel
theorem dX0_changes_28 : decode cX0_changes 28 = .ok (.invokevirtual 42, 3) := by decide +kernel
theorem dX0_changes_31 : decode cX0_changes 31 = .ok (.invokestatic 35, 3) := by decide +kernel
theorem dX0_changes_34 : decode cX0_changes 34 = .ok (.if_icmp .le 7, 3) := by decide +kernel
theorem dX0_changes_37 : decode cX0_changes 37 = .ok (.iconst 1, 1) := by decide +kernel
theorem dX0_changes_38 : decode cX0_changes 38 = .ok (.goto 4, 3) := by decide +kernel
theorem dX0_changes_41 : decode cX0_changes 41 = .ok (.iconst 0, 1) := by decide +kernel
theorem dX0_changes_42 : decode cX0_changes 42 = .ok (.ireturn, 1) := by decide +kernel
set_option maxRecDepth 20000 in
theorem ggX0_payer_X0_changes : GoodIn wsX0_payer wsX0_changes := goodIn_r _ [5, 6, 7, 8, 9, 4, 10, 11, 12, 13, 14, 15, 16, 17, 18, 19, 20, 21, 22, 23] (by decide +kernel) (by decide +kernel)
set_option maxRecDepth 20000 in
theorem gX0_payer_X0_changes : GoodIn wsX0_payer (wsV RX0 45 RX0 yX0_changes wsX0_changes) := goodIn_app (goodIn_of _ (by decide +kernel)) ggX0_payer_X0_changes
theorem dX0_payer_0 : decode cX0_payer 0 = .ok (.aload_n 0, 1) := by decide +kernel
theorem dX0_payer_1 : decode cX0_payer 1 = .ok (.iload_n 1, 1) := by decide +kernel
theorem dX0_payer_2 : decode cX0_payer 2 = .ok (.iload_n 2, 1) := by decide +kernel
theorem dX0_payer_3 : decode cX0_payer 3 = .ok (.iload_n 3, 1) := by decide +kernel
theorem dX0_payer_4 : decode cX0_payer 4 = .ok (.invokevirtual 45, 3) := by decide +kernel
theorem dX0_payer_7 : decode cX0_payer 7 = .ok (.ifCond .eq 7, 3) := by decide +kernel
theorem dX0_payer_10 : decode cX0_payer 10 = .ok (.iload_n 1, 1) := by decide +kernel
theorem dX0_payer_11 : decode cX0_payer 11 = .ok (.goto 4, 3) := by decide +kernel
theorem dX0_payer_14 : decode cX0_payer 14 = .ok (.iload_n 2, 1) := by decide +kernel
theorem dX0_payer_15 : decode cX0_payer 15 = .ok (.ireturn, 1) := by decide +kernel
set_option maxRecDepth 20000 in
theorem ggX0_worthAtEnd_X0_changes : GoodIn wsX0_worthAtEnd wsX0_changes := goodIn_r _ [6, 1, 7, 8, 9, 5, 10, 11, 12, 13, 14, 15, 16, 17, 18, 19, 20, 21, 22, 23] (by decide +kernel) (by decide +kernel)
set_option maxRecDepth 20000 in
theorem gX0_worthAtEnd_X0_changes : GoodIn wsX0_worthAtEnd (wsV RX0 45 RX0 yX0_changes wsX0_changes) := goodIn_app (goodIn_of _ (by decide +kernel)) ggX0_worthAtEnd_X0_changes
set_option maxRecDepth 20000 in
theorem ggX0_worthAtEnd_X0_wealthWhenPaid : GoodIn wsX0_worthAtEnd wsX0_wealthWhenPaid := goodIn_r _ [19, 11, 12, 20, 21, 22, 23] (by decide +kernel) (by decide +kernel)
set_option maxRecDepth 20000 in
theorem gX0_worthAtEnd_X0_wealthWhenPaid : GoodIn wsX0_worthAtEnd (wsV RX0 42 RX0 yX0_wealthWhenPaid wsX0_wealthWhenPaid) := goodIn_app (goodIn_of _ (by decide +kernel)) ggX0_worthAtEnd_X0_wealthWhenPaid
set_option maxRecDepth 20000 in
theorem ggX0_worthAtEnd_X0_wealth : GoodIn wsX0_worthAtEnd wsX0_wealth := goodIn_r _ [10, 11, 12, 20, 21, 22, 23] (by decide +kernel) (by decide +kernel)
set_option maxRecDepth 20000 in
theorem gX0_worthAtEnd_X0_wealth : GoodIn wsX0_worthAtEnd (wsV RX0 31 RX0 yX0_wealth wsX0_wealth) := goodIn_app (goodIn_of _ (by decide +kernel)) ggX0_worthAtEnd_X0_wealth
set_option maxRecDepth 20000 in
theorem ggX0_worthAtEnd_X0_worth : GoodIn wsX0_worthAtEnd wsX0_worth := goodIn_r _ [15] (by decide +kernel) (by decide +kernel)
set_option maxRecDepth 20000 in
theorem gX0_worthAtEnd_X0_worth : GoodIn wsX0_worthAtEnd (va_wsS RX0 35 yX0_worth wsX0_worth) := goodIn_app (goodIn_of _ (by decide +kernel)) ggX0_worthAtEnd_X0_worth
theorem dX0_worthAtEnd_0 : decode cX0_worthAtEnd 0 = .ok (.iload_n 1, 1) := by decide +kernel
theorem dX0_worthAtEnd_1 : decode cX0_worthAtEnd 1 = .ok (.iload_n 2, 1) := by decide +kernel
theorem dX0_worthAtEnd_2 : decode cX0_worthAtEnd 2 = .ok (.if_icmp .eq 13, 3) := by decide +kernel
theorem dX0_worthAtEnd_5 : decode cX0_worthAtEnd 5 = .ok (.aload_n 0, 1) := by decide +kernel
theorem dX0_worthAtEnd_6 : decode cX0_worthAtEnd 6 = .ok (.iload_n 1, 1) := by decide +kernel
theorem dX0_worthAtEnd_7 : decode cX0_worthAtEnd 7 = .ok (.iload_n 2, 1) := by decide +kernel
theorem dX0_worthAtEnd_8 : decode cX0_worthAtEnd 8 = .ok (.iload_n 3, 1) := by decide +kernel
theorem dX0_worthAtEnd_9 : decode cX0_worthAtEnd 9 = .ok (.invokevirtual 45, 3) := by decide +kernel
theorem dX0_worthAtEnd_12 : decode cX0_worthAtEnd 12 = .ok (.ifCond .eq 7, 3) := by decide +kernel
theorem dX0_worthAtEnd_15 : decode cX0_worthAtEnd 15 = .ok (.iconst 1, 1) := by decide +kernel
theorem dX0_worthAtEnd_16 : decode cX0_worthAtEnd 16 = .ok (.goto 4, 3) := by decide +kernel
theorem dX0_worthAtEnd_19 : decode cX0_worthAtEnd 19 = .ok (.iconst 0, 1) := by decide +kernel
theorem dX0_worthAtEnd_20 : decode cX0_worthAtEnd 20 = .ok (.istore 4, 2) := by decide +kernel
theorem dX0_worthAtEnd_22 : decode cX0_worthAtEnd 22 = .ok (.aload_n 0, 1) := by decide +kernel
theorem dX0_worthAtEnd_23 : decode cX0_worthAtEnd 23 = .ok (.getfield 9, 3) := by decide +kernel
theorem dX0_worthAtEnd_26 : decode cX0_worthAtEnd 26 = .ok (.iload_n 1, 1) := by decide +kernel
theorem dX0_worthAtEnd_27 : decode cX0_worthAtEnd 27 = .ok (.iaload, 1) := by decide +kernel
theorem dX0_worthAtEnd_28 : decode cX0_worthAtEnd 28 = .ok (.iload 4, 2) := by decide +kernel
theorem dX0_worthAtEnd_30 : decode cX0_worthAtEnd 30 = .ok (.ifCond .eq 12, 3) := by decide +kernel
theorem dX0_worthAtEnd_33 : decode cX0_worthAtEnd 33 = .ok (.aload_n 0, 1) := by decide +kernel
theorem dX0_worthAtEnd_34 : decode cX0_worthAtEnd 34 = .ok (.iload_n 2, 1) := by decide +kernel
theorem dX0_worthAtEnd_35 : decode cX0_worthAtEnd 35 = .ok (.iload_n 3, 1) := by decide +kernel
theorem dX0_worthAtEnd_36 : decode cX0_worthAtEnd 36 = .ok (.invokevirtual 42, 3) := by decide +kernel
theorem dX0_worthAtEnd_39 : decode cX0_worthAtEnd 39 = .ok (.goto 8, 3) := by decide +kernel
theorem dX0_worthAtEnd_42 : decode cX0_worthAtEnd 42 = .ok (.aload_n 0, 1) := by decide +kernel
theorem dX0_worthAtEnd_43 : decode cX0_worthAtEnd 43 = .ok (.iload_n 1, 1) := by decide +kernel
theorem dX0_worthAtEnd_44 : decode cX0_worthAtEnd 44 = .ok (.invokevirtual 31, 3) := by decide +kernel
theorem dX0_worthAtEnd_47 : decode cX0_worthAtEnd 47 = .ok (.invokestatic 35, 3) := by decide +kernel
theorem dX0_worthAtEnd_50 : decode cX0_worthAtEnd 50 = .ok (.ireturn, 1) := by decide +kernel
set_option maxRecDepth 20000 in
theorem ggX0_chosenBy_X0_worthAtEnd : GoodIn wsX0_chosenBy wsX0_worthAtEnd := goodIn_r _ [6, 7, 8, 9, 10, 5, 11, 12, 13, 14, 15, 16, 17, 18, 19, 20, 21, 22, 23, 24, 29, 30, 31, 32] (by decide +kernel) (by decide +kernel)
set_option maxRecDepth 20000 in
theorem gX0_chosenBy_X0_worthAtEnd : GoodIn wsX0_chosenBy (wsV RX0 49 RX0 yX0_worthAtEnd wsX0_worthAtEnd) := goodIn_app (goodIn_of _ (by decide +kernel)) ggX0_chosenBy_X0_worthAtEnd
set_option maxRecDepth 20000 in
theorem ggX0_chosenBy_X0_mayPoint : GoodIn wsX0_chosenBy wsX0_mayPoint := goodIn_r _ [28, 16, 29, 30, 31, 32] (by decide +kernel) (by decide +kernel)
set_option maxRecDepth 20000 in
theorem gX0_chosenBy_X0_mayPoint : GoodIn wsX0_chosenBy (wsV RX0 53 RX0 yX0_mayPoint wsX0_mayPoint) := goodIn_app (goodIn_of _ (by decide +kernel)) ggX0_chosenBy_X0_mayPoint
theorem dX0_chosenBy_0 : decode cX0_chosenBy 0 = .ok (.iload_n 1, 1) := by decide +kernel
theorem dX0_chosenBy_1 : decode cX0_chosenBy 1 = .ok (.istore_n 3, 1) := by decide +kernel
theorem dX0_chosenBy_2 : decode cX0_chosenBy 2 = .ok (.aload_n 0, 1) := by decide +kernel
theorem dX0_chosenBy_3 : decode cX0_chosenBy 3 = .ok (.iload_n 1, 1) := by decide +kernel
theorem dX0_chosenBy_4 : decode cX0_chosenBy 4 = .ok (.iload_n 1, 1) := by decide +kernel
theorem dX0_chosenBy_5 : decode cX0_chosenBy 5 = .ok (.iload_n 2, 1) := by decide +kernel
theorem dX0_chosenBy_6 : decode cX0_chosenBy 6 = .ok (.invokevirtual 49, 3) := by decide +kernel
theorem dX0_chosenBy_9 : decode cX0_chosenBy 9 = .ok (.istore 4, 2) := by decide +kernel
theorem dX0_chosenBy_11 : decode cX0_chosenBy 11 = .ok (.iconst 0, 1) := by decide +kernel
theorem dX0_chosenBy_12 : decode cX0_chosenBy 12 = .ok (.istore 5, 2) := by decide +kernel
theorem dX0_chosenBy_14 : decode cX0_chosenBy 14 = .ok (.iload 5, 2) := by decide +kernel
theorem dX0_chosenBy_16 : decode cX0_chosenBy 16 = .ok (.aload_n 0, 1) := by decide +kernel
theorem dX0_chosenBy_17 : decode cX0_chosenBy 17 = .ok (.getfield 21, 3) := by decide +kernel
theorem dX0_chosenBy_20 : decode cX0_chosenBy 20 = .ok (.if_icmp .ge 45, 3) := by decide +kernel
theorem dX0_chosenBy_23 : decode cX0_chosenBy 23 = .ok (.aload_n 0, 1) := by decide +kernel
theorem dX0_chosenBy_24 : decode cX0_chosenBy 24 = .ok (.iload_n 1, 1) := by decide +kernel
theorem dX0_chosenBy_25 : decode cX0_chosenBy 25 = .ok (.iload 5, 2) := by decide +kernel
theorem dX0_chosenBy_27 : decode cX0_chosenBy 27 = .ok (.invokevirtual 53, 3) := by decide +kernel
theorem dX0_chosenBy_30 : decode cX0_chosenBy 30 = .ok (.ifCond .eq 29, 3) := by decide +kernel
theorem dX0_chosenBy_33 : decode cX0_chosenBy 33 = .ok (.aload_n 0, 1) := by decide +kernel
theorem dX0_chosenBy_34 : decode cX0_chosenBy 34 = .ok (.iload_n 1, 1) := by decide +kernel
theorem dX0_chosenBy_35 : decode cX0_chosenBy 35 = .ok (.iload 5, 2) := by decide +kernel
theorem dX0_chosenBy_37 : decode cX0_chosenBy 37 = .ok (.iload_n 2, 1) := by decide +kernel
theorem dX0_chosenBy_38 : decode cX0_chosenBy 38 = .ok (.invokevirtual 49, 3) := by decide +kernel
theorem dX0_chosenBy_41 : decode cX0_chosenBy 41 = .ok (.iload 4, 2) := by decide +kernel
theorem dX0_chosenBy_43 : decode cX0_chosenBy 43 = .ok (.if_icmp .le 16, 3) := by decide +kernel
theorem dX0_chosenBy_46 : decode cX0_chosenBy 46 = .ok (.iload 5, 2) := by decide +kernel
theorem dX0_chosenBy_48 : decode cX0_chosenBy 48 = .ok (.istore_n 3, 1) := by decide +kernel
theorem dX0_chosenBy_49 : decode cX0_chosenBy 49 = .ok (.aload_n 0, 1) := by decide +kernel
theorem dX0_chosenBy_50 : decode cX0_chosenBy 50 = .ok (.iload_n 1, 1) := by decide +kernel
theorem dX0_chosenBy_51 : decode cX0_chosenBy 51 = .ok (.iload 5, 2) := by decide +kernel
theorem dX0_chosenBy_53 : decode cX0_chosenBy 53 = .ok (.iload_n 2, 1) := by decide +kernel
theorem dX0_chosenBy_54 : decode cX0_chosenBy 54 = .ok (.invokevirtual 49, 3) := by decide +kernel
theorem dX0_chosenBy_57 : decode cX0_chosenBy 57 = .ok (.istore 4, 2) := by decide +kernel
theorem dX0_chosenBy_59 : decode cX0_chosenBy 59 = .ok (.iinc 5 1, 3) := by decide +kernel
theorem dX0_chosenBy_62 : decode cX0_chosenBy 62 = .ok (.goto (-48), 3) := by decide +kernel
theorem dX0_chosenBy_65 : decode cX0_chosenBy 65 = .ok (.iload_n 3, 1) := by decide +kernel
theorem dX0_chosenBy_66 : decode cX0_chosenBy 66 = .ok (.ireturn, 1) := by decide +kernel
set_option maxRecDepth 20000 in
theorem ggX0_isFair_X0_payer : GoodIn wsX0_isFair wsX0_payer := goodIn_r _ [5, 6, 7, 8, 4, 9, 10, 11, 12, 13, 14, 15, 16, 17, 18, 19, 20, 21, 22, 23, 33, 34, 35, 36] (by decide +kernel) (by decide +kernel)
set_option maxRecDepth 20000 in
theorem gX0_isFair_X0_payer : GoodIn wsX0_isFair (wsV RX0 57 RX0 yX0_payer wsX0_payer) := goodIn_app (goodIn_of _ (by decide +kernel)) ggX0_isFair_X0_payer
set_option maxRecDepth 20000 in
theorem ggX0_isFair_X0_richest : GoodIn wsX0_isFair wsX0_richest := goodIn_r _ [27, 28, 29, 30, 31, 4, 32, 10, 11, 12, 13, 14, 15, 16, 17, 18, 19, 33, 34, 35, 36] (by decide +kernel) (by decide +kernel)
set_option maxRecDepth 20000 in
theorem gX0_isFair_X0_richest : GoodIn wsX0_isFair (wsV RX0 60 RX0 yX0_richest wsX0_richest) := goodIn_app (goodIn_of _ (by decide +kernel)) ggX0_isFair_X0_richest
theorem dX0_isFair_0 : decode cX0_isFair 0 = .ok (.aload_n 0, 1) := by decide +kernel
theorem dX0_isFair_1 : decode cX0_isFair 1 = .ok (.iload_n 1, 1) := by decide +kernel
theorem dX0_isFair_2 : decode cX0_isFair 2 = .ok (.iload_n 2, 1) := by decide +kernel
theorem dX0_isFair_3 : decode cX0_isFair 3 = .ok (.iload_n 3, 1) := by decide +kernel
theorem dX0_isFair_4 : decode cX0_isFair 4 = .ok (.invokevirtual 57, 3) := by decide +kernel
theorem dX0_isFair_7 : decode cX0_isFair 7 = .ok (.aload_n 0, 1) := by decide +kernel
theorem dX0_isFair_8 : decode cX0_isFair 8 = .ok (.invokevirtual 60, 3) := by decide +kernel
theorem dX0_isFair_11 : decode cX0_isFair 11 = .ok (.if_icmp .ne 7, 3) := by decide +kernel
theorem dX0_isFair_14 : decode cX0_isFair 14 = .ok (.iconst 1, 1) := by decide +kernel
theorem dX0_isFair_15 : decode cX0_isFair 15 = .ok (.goto 4, 3) := by decide +kernel
theorem dX0_isFair_18 : decode cX0_isFair 18 = .ok (.iconst 0, 1) := by decide +kernel
theorem dX0_isFair_19 : decode cX0_isFair 19 = .ok (.ireturn, 1) := by decide +kernel
set_option maxRecDepth 20000 in
theorem ggX0_isPointedAt_X0_chosenBy : GoodIn wsX0_isPointedAt wsX0_chosenBy := goodIn_r _ [6, 1, 7, 8, 9, 5, 10, 11, 12, 13, 14, 15, 16, 17, 18, 19, 20, 21, 22, 23, 24, 25, 26, 27, 28, 29, 30, 31, 32, 33, 34, 35, 36] (by decide +kernel) (by decide +kernel)
set_option maxRecDepth 20000 in
theorem gX0_isPointedAt_X0_chosenBy : GoodIn wsX0_isPointedAt (wsV RX0 64 RX0 yX0_chosenBy wsX0_chosenBy) := goodIn_app (goodIn_of _ (by decide +kernel)) ggX0_isPointedAt_X0_chosenBy
theorem dX0_isPointedAt_0 : decode cX0_isPointedAt 0 = .ok (.iconst 0, 1) := by decide +kernel
theorem dX0_isPointedAt_1 : decode cX0_isPointedAt 1 = .ok (.istore_n 3, 1) := by decide +kernel
theorem dX0_isPointedAt_2 : decode cX0_isPointedAt 2 = .ok (.iload_n 3, 1) := by decide +kernel
theorem dX0_isPointedAt_3 : decode cX0_isPointedAt 3 = .ok (.aload_n 0, 1) := by decide +kernel
theorem dX0_isPointedAt_4 : decode cX0_isPointedAt 4 = .ok (.getfield 21, 3) := by decide +kernel
theorem dX0_isPointedAt_7 : decode cX0_isPointedAt 7 = .ok (.if_icmp .ge 26, 3) := by decide +kernel
theorem dX0_isPointedAt_10 : decode cX0_isPointedAt 10 = .ok (.iload_n 3, 1) := by decide +kernel
theorem dX0_isPointedAt_11 : decode cX0_isPointedAt 11 = .ok (.iload_n 1, 1) := by decide +kernel
theorem dX0_isPointedAt_12 : decode cX0_isPointedAt 12 = .ok (.if_icmp .eq 15, 3) := by decide +kernel
theorem dX0_isPointedAt_15 : decode cX0_isPointedAt 15 = .ok (.aload_n 0, 1) := by decide +kernel
theorem dX0_isPointedAt_16 : decode cX0_isPointedAt 16 = .ok (.iload_n 3, 1) := by decide +kernel
theorem dX0_isPointedAt_17 : decode cX0_isPointedAt 17 = .ok (.iload_n 2, 1) := by decide +kernel
theorem dX0_isPointedAt_18 : decode cX0_isPointedAt 18 = .ok (.invokevirtual 64, 3) := by decide +kernel
theorem dX0_isPointedAt_21 : decode cX0_isPointedAt 21 = .ok (.iload_n 1, 1) := by decide +kernel
theorem dX0_isPointedAt_22 : decode cX0_isPointedAt 22 = .ok (.if_icmp .ne 5, 3) := by decide +kernel
theorem dX0_isPointedAt_25 : decode cX0_isPointedAt 25 = .ok (.iconst 1, 1) := by decide +kernel
theorem dX0_isPointedAt_26 : decode cX0_isPointedAt 26 = .ok (.ireturn, 1) := by decide +kernel
theorem dX0_isPointedAt_27 : decode cX0_isPointedAt 27 = .ok (.iinc 3 1, 3) := by decide +kernel
theorem dX0_isPointedAt_30 : decode cX0_isPointedAt 30 = .ok (.goto (-28), 3) := by decide +kernel
theorem dX0_isPointedAt_33 : decode cX0_isPointedAt 33 = .ok (.iconst 0, 1) := by decide +kernel
theorem dX0_isPointedAt_34 : decode cX0_isPointedAt 34 = .ok (.ireturn, 1) := by decide +kernel
set_option maxRecDepth 20000 in
theorem ggX0_carryOut_X0_changes : GoodIn wsX0_carryOut wsX0_changes := goodIn_r _ [5, 6, 7, 8, 9, 4, 10, 11, 12, 13, 14, 15, 16, 17, 18, 19, 32, 33, 34, 35] (by decide +kernel) (by decide +kernel)
set_option maxRecDepth 20000 in
theorem gX0_carryOut_X0_changes : GoodIn wsX0_carryOut (wsV RX0 45 RX0 yX0_changes wsX0_changes) := goodIn_app (goodIn_of _ (by decide +kernel)) ggX0_carryOut_X0_changes
set_option maxRecDepth 20000 in
theorem ggX0_carryOut_X0_exchange : GoodIn wsX0_carryOut wsX0_exchange := goodIn_r _ [23, 11, 12, 32, 33, 34, 35] (by decide +kernel) (by decide +kernel)
set_option maxRecDepth 20000 in
theorem gX0_carryOut_X0_exchange : GoodIn wsX0_carryOut (wsV RX0 67 RX0 yX0_exchange wsX0_exchange) := goodIn_app (goodIn_of _ (by decide +kernel)) ggX0_carryOut_X0_exchange
set_option maxRecDepth 20000 in
theorem ggX0_carryOut_X0_pay : GoodIn wsX0_carryOut wsX0_pay := goodIn_r _ [27, 12, 28, 29, 30, 31, 11, 32, 33, 34, 35] (by decide +kernel) (by decide +kernel)
set_option maxRecDepth 20000 in
theorem gX0_carryOut_X0_pay : GoodIn wsX0_carryOut (wsV RX0 71 RX0 yX0_pay wsX0_pay) := goodIn_app (goodIn_of _ (by decide +kernel)) ggX0_carryOut_X0_pay
theorem dX0_carryOut_0 : decode cX0_carryOut 0 = .ok (.aload_n 0, 1) := by decide +kernel
theorem dX0_carryOut_1 : decode cX0_carryOut 1 = .ok (.iload_n 1, 1) := by decide +kernel
theorem dX0_carryOut_2 : decode cX0_carryOut 2 = .ok (.iload_n 2, 1) := by decide +kernel
theorem dX0_carryOut_3 : decode cX0_carryOut 3 = .ok (.iload_n 3, 1) := by decide +kernel
theorem dX0_carryOut_4 : decode cX0_carryOut 4 = .ok (.invokevirtual 45, 3) := by decide +kernel
theorem dX0_carryOut_7 : decode cX0_carryOut 7 = .ok (.istore 4, 2) := by decide +kernel
theorem dX0_carryOut_9 : decode cX0_carryOut 9 = .ok (.iload 4, 2) := by decide +kernel
