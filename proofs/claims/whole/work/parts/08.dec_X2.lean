theorem dX2_init_0 : decode cX2_init 0 = .ok (.aload_n 0, 1) := by decide +kernel
theorem dX2_init_1 : decode cX2_init 1 = .ok (.invokespecial 3, 3) := by decide +kernel
theorem dX2_init_4 : decode cX2_init 4 = .ok (.aload_n 0, 1) := by decide +kernel
theorem dX2_init_5 : decode cX2_init 5 = .ok (.iconst 4, 1) := by decide +kernel
theorem dX2_init_6 : decode cX2_init 6 = .ok (.bipush 60, 2) := by decide +kernel
theorem dX2_init_8 : decode cX2_init 8 = .ok (.multianewarray 9 2, 4) := by decide +kernel
theorem dX2_init_12 : decode cX2_init 12 = .ok (.putfield 11, 3) := by decide +kernel
theorem dX2_init_15 : decode cX2_init 15 = .ok (.aload_n 0, 1) := by decide +kernel
theorem dX2_init_16 : decode cX2_init 16 = .ok (.iconst 4, 1) := by decide +kernel
theorem dX2_init_17 : decode cX2_init 17 = .ok (.newarray .int, 2) := by decide +kernel
theorem dX2_init_19 : decode cX2_init 19 = .ok (.dup, 1) := by decide +kernel
theorem dX2_init_20 : decode cX2_init 20 = .ok (.iconst 0, 1) := by decide +kernel
theorem dX2_init_21 : decode cX2_init 21 = .ok (.iconst (-1), 1) := by decide +kernel
theorem dX2_init_22 : decode cX2_init 22 = .ok (.iastore, 1) := by decide +kernel
theorem dX2_init_23 : decode cX2_init 23 = .ok (.dup, 1) := by decide +kernel
theorem dX2_init_24 : decode cX2_init 24 = .ok (.iconst 1, 1) := by decide +kernel
theorem dX2_init_25 : decode cX2_init 25 = .ok (.iconst (-1), 1) := by decide +kernel
theorem dX2_init_26 : decode cX2_init 26 = .ok (.iastore, 1) := by decide +kernel
theorem dX2_init_27 : decode cX2_init 27 = .ok (.dup, 1) := by decide +kernel
theorem dX2_init_28 : decode cX2_init 28 = .ok (.iconst 2, 1) := by decide +kernel
theorem dX2_init_29 : decode cX2_init 29 = .ok (.iconst (-1), 1) := by decide +kernel
theorem dX2_init_30 : decode cX2_init 30 = .ok (.iastore, 1) := by decide +kernel
theorem dX2_init_31 : decode cX2_init 31 = .ok (.dup, 1) := by decide +kernel
theorem dX2_init_32 : decode cX2_init 32 = .ok (.iconst 3, 1) := by decide +kernel
theorem dX2_init_33 : decode cX2_init 33 = .ok (.iconst (-1), 1) := by decide +kernel
theorem dX2_init_34 : decode cX2_init 34 = .ok (.iastore, 1) := by decide +kernel
theorem dX2_init_35 : decode cX2_init 35 = .ok (.putfield 16, 3) := by decide +kernel
theorem dX2_init_38 : decode cX2_init 38 = .ok (.aload_n 0, 1) := by decide +kernel
theorem dX2_init_39 : decode cX2_init 39 = .ok (.iconst 4, 1) := by decide +kernel
theorem dX2_init_40 : decode cX2_init 40 = .ok (.newarray .int, 2) := by decide +kernel
theorem dX2_init_42 : decode cX2_init 42 = .ok (.putfield 20, 3) := by decide +kernel
theorem dX2_init_45 : decode cX2_init 45 = .ok (.return_, 1) := by decide +kernel
theorem dX2_isSheet_0 : decode cX2_isSheet 0 = .ok (.iload_n 0, 1) := by decide +kernel
theorem dX2_isSheet_1 : decode cX2_isSheet 1 = .ok (.ifCond .lt 12, 3) := by decide +kernel
theorem dX2_isSheet_4 : decode cX2_isSheet 4 = .ok (.iload_n 0, 1) := by decide +kernel
theorem dX2_isSheet_5 : decode cX2_isSheet 5 = .ok (.iconst 4, 1) := by decide +kernel
theorem dX2_isSheet_6 : decode cX2_isSheet 6 = .ok (.if_icmp .ge 7, 3) := by decide +kernel
theorem dX2_isSheet_9 : decode cX2_isSheet 9 = .ok (.iconst 1, 1) := by decide +kernel
theorem dX2_isSheet_10 : decode cX2_isSheet 10 = .ok (.goto 4, 3) := by decide +kernel
theorem dX2_isSheet_13 : decode cX2_isSheet 13 = .ok (.iconst 0, 1) := by decide +kernel
theorem dX2_isSheet_14 : decode cX2_isSheet 14 = .ok (.ireturn, 1) := by decide +kernel
theorem dX2_isLane_0 : decode cX2_isLane 0 = .ok (.iload_n 0, 1) := by decide +kernel
theorem dX2_isLane_1 : decode cX2_isLane 1 = .ok (.ifCond .lt 12, 3) := by decide +kernel
theorem dX2_isLane_4 : decode cX2_isLane 4 = .ok (.iload_n 0, 1) := by decide +kernel
theorem dX2_isLane_5 : decode cX2_isLane 5 = .ok (.iconst 2, 1) := by decide +kernel
theorem dX2_isLane_6 : decode cX2_isLane 6 = .ok (.if_icmp .gt 7, 3) := by decide +kernel
theorem dX2_isLane_9 : decode cX2_isLane 9 = .ok (.iconst 1, 1) := by decide +kernel
theorem dX2_isLane_10 : decode cX2_isLane 10 = .ok (.goto 4, 3) := by decide +kernel
theorem dX2_isLane_13 : decode cX2_isLane 13 = .ok (.iconst 0, 1) := by decide +kernel
theorem dX2_isLane_14 : decode cX2_isLane 14 = .ok (.ireturn, 1) := by decide +kernel
theorem dX2_isNothing_0 : decode cX2_isNothing 0 = .ok (.aload_n 0, 1) := by decide +kernel
theorem dX2_isNothing_1 : decode cX2_isNothing 1 = .ok (.getfield 16, 3) := by decide +kernel
theorem dX2_isNothing_4 : decode cX2_isNothing 4 = .ok (.iload_n 1, 1) := by decide +kernel
theorem dX2_isNothing_5 : decode cX2_isNothing 5 = .ok (.iaload, 1) := by decide +kernel
theorem dX2_isNothing_6 : decode cX2_isNothing 6 = .ok (.iconst (-1), 1) := by decide +kernel
theorem dX2_isNothing_7 : decode cX2_isNothing 7 = .ok (.if_icmp .ne 7, 3) := by decide +kernel
theorem dX2_isNothing_10 : decode cX2_isNothing 10 = .ok (.iconst 1, 1) := by decide +kernel
theorem dX2_isNothing_11 : decode cX2_isNothing 11 = .ok (.goto 4, 3) := by decide +kernel
theorem dX2_isNothing_14 : decode cX2_isNothing 14 = .ok (.iconst 0, 1) := by decide +kernel
theorem dX2_isNothing_15 : decode cX2_isNothing 15 = .ok (.ireturn, 1) := by decide +kernel
theorem dX2_renew_0 : decode cX2_renew 0 = .ok (.iconst 0, 1) := by decide +kernel
theorem dX2_renew_1 : decode cX2_renew 1 = .ok (.istore 4, 2) := by decide +kernel
theorem dX2_renew_3 : decode cX2_renew 3 = .ok (.iload 4, 2) := by decide +kernel
theorem dX2_renew_5 : decode cX2_renew 5 = .ok (.bipush 60, 2) := by decide +kernel
theorem dX2_renew_7 : decode cX2_renew 7 = .ok (.if_icmp .ge 19, 3) := by decide +kernel
theorem dX2_renew_10 : decode cX2_renew 10 = .ok (.aload_n 0, 1) := by decide +kernel
theorem dX2_renew_11 : decode cX2_renew 11 = .ok (.getfield 11, 3) := by decide +kernel
theorem dX2_renew_14 : decode cX2_renew 14 = .ok (.iload_n 1, 1) := by decide +kernel
theorem dX2_renew_15 : decode cX2_renew 15 = .ok (.aaload, 1) := by decide +kernel
theorem dX2_renew_16 : decode cX2_renew 16 = .ok (.iload 4, 2) := by decide +kernel
theorem dX2_renew_18 : decode cX2_renew 18 = .ok (.iconst 0, 1) := by decide +kernel
theorem dX2_renew_19 : decode cX2_renew 19 = .ok (.iastore, 1) := by decide +kernel
theorem dX2_renew_20 : decode cX2_renew 20 = .ok (.iinc 4 1, 3) := by decide +kernel
theorem dX2_renew_23 : decode cX2_renew 23 = .ok (.goto (-20), 3) := by decide +kernel
theorem dX2_renew_26 : decode cX2_renew 26 = .ok (.aload_n 0, 1) := by decide +kernel
theorem dX2_renew_27 : decode cX2_renew 27 = .ok (.getfield 16, 3) := by decide +kernel
theorem dX2_renew_30 : decode cX2_renew 30 = .ok (.iload_n 1, 1) := by decide +kernel
theorem dX2_renew_31 : decode cX2_renew 31 = .ok (.iload_n 2, 1) := by decide +kernel
theorem dX2_renew_32 : decode cX2_renew 32 = .ok (.iastore, 1) := by decide +kernel
theorem dX2_renew_33 : decode cX2_renew 33 = .ok (.aload_n 0, 1) := by decide +kernel
theorem dX2_renew_34 : decode cX2_renew 34 = .ok (.getfield 20, 3) := by decide +kernel
theorem dX2_renew_37 : decode cX2_renew 37 = .ok (.iload_n 1, 1) := by decide +kernel
theorem dX2_renew_38 : decode cX2_renew 38 = .ok (.iload_n 3, 1) := by decide +kernel
theorem dX2_renew_39 : decode cX2_renew 39 = .ok (.iastore, 1) := by decide +kernel
theorem dX2_renew_40 : decode cX2_renew 40 = .ok (.return_, 1) := by decide +kernel
theorem dX2_drop_0 : decode cX2_drop 0 = .ok (.aload_n 0, 1) := by decide +kernel
theorem dX2_drop_1 : decode cX2_drop 1 = .ok (.getfield 16, 3) := by decide +kernel
theorem dX2_drop_4 : decode cX2_drop 4 = .ok (.iload_n 1, 1) := by decide +kernel
theorem dX2_drop_5 : decode cX2_drop 5 = .ok (.iconst (-1), 1) := by decide +kernel
theorem dX2_drop_6 : decode cX2_drop 6 = .ok (.iastore, 1) := by decide +kernel
theorem dX2_drop_7 : decode cX2_drop 7 = .ok (.aload_n 0, 1) := by decide +kernel
theorem dX2_drop_8 : decode cX2_drop 8 = .ok (.getfield 20, 3) := by decide +kernel
theorem dX2_drop_11 : decode cX2_drop 11 = .ok (.iload_n 1, 1) := by decide +kernel
theorem dX2_drop_12 : decode cX2_drop 12 = .ok (.iconst 0, 1) := by decide +kernel
theorem dX2_drop_13 : decode cX2_drop 13 = .ok (.iastore, 1) := by decide +kernel
theorem dX2_drop_14 : decode cX2_drop 14 = .ok (.return_, 1) := by decide +kernel
set_option maxRecDepth 20000 in
theorem ggX2_laneFault_X2_isNothing : GoodIn wsX2_laneFault wsX2_isNothing := goodIn_r _ [6, 1, 7, 8, 9] (by decide +kernel) (by decide +kernel)
set_option maxRecDepth 20000 in
theorem gX2_laneFault_X2_isNothing : GoodIn wsX2_laneFault (wsV RX2 23 RX2 yX2_isNothing wsX2_isNothing) := goodIn_app (goodIn_of _ (by decide +kernel)) ggX2_laneFault_X2_isNothing
theorem dX2_laneFault_0 : decode cX2_laneFault 0 = .ok (.aload_n 0, 1) := by decide +kernel
theorem dX2_laneFault_1 : decode cX2_laneFault 1 = .ok (.iload_n 1, 1) := by decide +kernel
theorem dX2_laneFault_2 : decode cX2_laneFault 2 = .ok (.invokevirtual 23, 3) := by decide +kernel
theorem dX2_laneFault_5 : decode cX2_laneFault 5 = .ok (.ifCond .eq 5, 3) := by decide +kernel
theorem dX2_laneFault_8 : decode cX2_laneFault 8 = .ok (.iconst 1, 1) := by decide +kernel
theorem dX2_laneFault_9 : decode cX2_laneFault 9 = .ok (.ireturn, 1) := by decide +kernel
theorem dX2_laneFault_10 : decode cX2_laneFault 10 = .ok (.aload_n 0, 1) := by decide +kernel
theorem dX2_laneFault_11 : decode cX2_laneFault 11 = .ok (.getfield 16, 3) := by decide +kernel
theorem dX2_laneFault_14 : decode cX2_laneFault 14 = .ok (.iload_n 1, 1) := by decide +kernel
theorem dX2_laneFault_15 : decode cX2_laneFault 15 = .ok (.iaload, 1) := by decide +kernel
theorem dX2_laneFault_16 : decode cX2_laneFault 16 = .ok (.iload_n 2, 1) := by decide +kernel
theorem dX2_laneFault_17 : decode cX2_laneFault 17 = .ok (.if_icmp .ne 7, 3) := by decide +kernel
theorem dX2_laneFault_20 : decode cX2_laneFault 20 = .ok (.iconst 0, 1) := by decide +kernel
theorem dX2_laneFault_21 : decode cX2_laneFault 21 = .ok (.goto 4, 3) := by decide +kernel
theorem dX2_laneFault_24 : decode cX2_laneFault 24 = .ok (.iconst 2, 1) := by decide +kernel
theorem dX2_laneFault_25 : decode cX2_laneFault 25 = .ok (.ireturn, 1) := by decide +kernel
theorem dX2_cellFault_0 : decode cX2_cellFault 0 = .ok (.iload_n 2, 1) := by decide +kernel
theorem dX2_cellFault_1 : decode cX2_cellFault 1 = .ok (.ifCond .lt 17, 3) := by decide +kernel
theorem dX2_cellFault_4 : decode cX2_cellFault 4 = .ok (.iload_n 2, 1) := by decide +kernel
theorem dX2_cellFault_5 : decode cX2_cellFault 5 = .ok (.aload_n 0, 1) := by decide +kernel
theorem dX2_cellFault_6 : decode cX2_cellFault 6 = .ok (.getfield 20, 3) := by decide +kernel
theorem dX2_cellFault_9 : decode cX2_cellFault 9 = .ok (.iload_n 1, 1) := by decide +kernel
theorem dX2_cellFault_10 : decode cX2_cellFault 10 = .ok (.iaload, 1) := by decide +kernel
theorem dX2_cellFault_11 : decode cX2_cellFault 11 = .ok (.if_icmp .ge 7, 3) := by decide +kernel
theorem dX2_cellFault_14 : decode cX2_cellFault 14 = .ok (.iconst 0, 1) := by decide +kernel
theorem dX2_cellFault_15 : decode cX2_cellFault 15 = .ok (.goto 4, 3) := by decide +kernel
theorem dX2_cellFault_18 : decode cX2_cellFault 18 = .ok (.iconst 3, 1) := by decide +kernel
theorem dX2_cellFault_19 : decode cX2_cellFault 19 = .ok (.ireturn, 1) := by decide +kernel
theorem dX2_spanFault_0 : decode cX2_spanFault 0 = .ok (.iload_n 2, 1) := by decide +kernel
theorem dX2_spanFault_1 : decode cX2_spanFault 1 = .ok (.ifCond .lt 33, 3) := by decide +kernel
theorem dX2_spanFault_4 : decode cX2_spanFault 4 = .ok (.iload_n 2, 1) := by decide +kernel
theorem dX2_spanFault_5 : decode cX2_spanFault 5 = .ok (.aload_n 0, 1) := by decide +kernel
theorem dX2_spanFault_6 : decode cX2_spanFault 6 = .ok (.getfield 20, 3) := by decide +kernel
theorem dX2_spanFault_9 : decode cX2_spanFault 9 = .ok (.iload_n 1, 1) := by decide +kernel
theorem dX2_spanFault_10 : decode cX2_spanFault 10 = .ok (.iaload, 1) := by decide +kernel
theorem dX2_spanFault_11 : decode cX2_spanFault 11 = .ok (.if_icmp .gt 23, 3) := by decide +kernel
theorem dX2_spanFault_14 : decode cX2_spanFault 14 = .ok (.iload_n 3, 1) := by decide +kernel
theorem dX2_spanFault_15 : decode cX2_spanFault 15 = .ok (.ifCond .lt 19, 3) := by decide +kernel
theorem dX2_spanFault_18 : decode cX2_spanFault 18 = .ok (.iload_n 3, 1) := by decide +kernel
theorem dX2_spanFault_19 : decode cX2_spanFault 19 = .ok (.aload_n 0, 1) := by decide +kernel
theorem dX2_spanFault_20 : decode cX2_spanFault 20 = .ok (.getfield 20, 3) := by decide +kernel
theorem dX2_spanFault_23 : decode cX2_spanFault 23 = .ok (.iload_n 1, 1) := by decide +kernel
theorem dX2_spanFault_24 : decode cX2_spanFault 24 = .ok (.iaload, 1) := by decide +kernel
theorem dX2_spanFault_25 : decode cX2_spanFault 25 = .ok (.iload_n 2, 1) := by decide +kernel
theorem dX2_spanFault_26 : decode cX2_spanFault 26 = .ok (.isub, 1) := by decide +kernel
theorem dX2_spanFault_27 : decode cX2_spanFault 27 = .ok (.if_icmp .gt 7, 3) := by decide +kernel
theorem dX2_spanFault_30 : decode cX2_spanFault 30 = .ok (.iconst 1, 1) := by decide +kernel
theorem dX2_spanFault_31 : decode cX2_spanFault 31 = .ok (.goto 4, 3) := by decide +kernel
theorem dX2_spanFault_34 : decode cX2_spanFault 34 = .ok (.iconst 0, 1) := by decide +kernel
theorem dX2_spanFault_35 : decode cX2_spanFault 35 = .ok (.istore 4, 2) := by decide +kernel
theorem dX2_spanFault_37 : decode cX2_spanFault 37 = .ok (.iload 4, 2) := by decide +kernel
theorem dX2_spanFault_39 : decode cX2_spanFault 39 = .ok (.ifCond .eq 7, 3) := by decide +kernel
theorem dX2_spanFault_42 : decode cX2_spanFault 42 = .ok (.iconst 0, 1) := by decide +kernel
theorem dX2_spanFault_43 : decode cX2_spanFault 43 = .ok (.goto 4, 3) := by decide +kernel
theorem dX2_spanFault_46 : decode cX2_spanFault 46 = .ok (.iconst 3, 1) := by decide +kernel
theorem dX2_spanFault_47 : decode cX2_spanFault 47 = .ok (.ireturn, 1) := by decide +kernel
set_option maxRecDepth 20000 in
theorem ggX2_write_X2_cut : GoodIn wsX2_write wsX2_cut := goodIn_r _ [6] (by decide +kernel) (by decide +kernel)
set_option maxRecDepth 20000 in
theorem gX2_write_X2_cut : GoodIn wsX2_write (va_wsS RX2 27 yX2_cut wsX2_cut) := goodIn_app (goodIn_of _ (by decide +kernel)) ggX2_write_X2_cut
theorem dX2_write_0 : decode cX2_write 0 = .ok (.aload_n 0, 1) := by decide +kernel
theorem dX2_write_1 : decode cX2_write 1 = .ok (.getfield 11, 3) := by decide +kernel
theorem dX2_write_4 : decode cX2_write 4 = .ok (.iload_n 1, 1) := by decide +kernel
theorem dX2_write_5 : decode cX2_write 5 = .ok (.aaload, 1) := by decide +kernel
theorem dX2_write_6 : decode cX2_write 6 = .ok (.iload_n 2, 1) := by decide +kernel
theorem dX2_write_7 : decode cX2_write 7 = .ok (.aload_n 0, 1) := by decide +kernel
theorem dX2_write_8 : decode cX2_write 8 = .ok (.getfield 16, 3) := by decide +kernel
theorem dX2_write_11 : decode cX2_write 11 = .ok (.iload_n 1, 1) := by decide +kernel
theorem dX2_write_12 : decode cX2_write 12 = .ok (.iaload, 1) := by decide +kernel
theorem dX2_write_13 : decode cX2_write 13 = .ok (.iload_n 3, 1) := by decide +kernel
theorem dX2_write_14 : decode cX2_write 14 = .ok (.invokestatic 27, 3) := by decide +kernel
theorem dX2_write_17 : decode cX2_write 17 = .ok (.iastore, 1) := by decide +kernel
theorem dX2_write_18 : decode cX2_write 18 = .ok (.return_, 1) := by decide +kernel
theorem dX2_cut_0 : decode cX2_cut 0 = .ok (.iload_n 0, 1) := by decide +kernel
theorem dX2_cut_1 : decode cX2_cut 1 = .ok (.ifCond .ne 6, 3) := by decide +kernel
theorem dX2_cut_4 : decode cX2_cut 4 = .ok (.iload_n 1, 1) := by decide +kernel
theorem dX2_cut_5 : decode cX2_cut 5 = .ok (.i2b, 1) := by decide +kernel
theorem dX2_cut_6 : decode cX2_cut 6 = .ok (.ireturn, 1) := by decide +kernel
theorem dX2_cut_7 : decode cX2_cut 7 = .ok (.iload_n 0, 1) := by decide +kernel
theorem dX2_cut_8 : decode cX2_cut 8 = .ok (.iconst 1, 1) := by decide +kernel
theorem dX2_cut_9 : decode cX2_cut 9 = .ok (.if_icmp .ne 8, 3) := by decide +kernel
theorem dX2_cut_12 : decode cX2_cut 12 = .ok (.iload_n 1, 1) := by decide +kernel
theorem dX2_cut_13 : decode cX2_cut 13 = .ok (.i2s, 1) := by decide +kernel
theorem dX2_cut_14 : decode cX2_cut 14 = .ok (.goto 4, 3) := by decide +kernel
theorem dX2_cut_17 : decode cX2_cut 17 = .ok (.iload_n 1, 1) := by decide +kernel
theorem dX2_cut_18 : decode cX2_cut 18 = .ok (.ireturn, 1) := by decide +kernel
