theorem dX4_yearOfPairs_127 : decode cX4_yearOfPairs 127 = .ok (.goto (-87), 3) := by decide +kernel
theorem dX4_yearOfPairs_130 : decode cX4_yearOfPairs 130 = .ok (.aload_n 0, 1) := by decide +kernel
theorem dX4_yearOfPairs_131 : decode cX4_yearOfPairs 131 = .ok (.getfield 24, 3) := by decide +kernel
theorem dX4_yearOfPairs_134 : decode cX4_yearOfPairs 134 = .ok (.iload 5, 2) := by decide +kernel
theorem dX4_yearOfPairs_136 : decode cX4_yearOfPairs 136 = .ok (.invokevirtual 225, 3) := by decide +kernel
theorem dX4_yearOfPairs_139 : decode cX4_yearOfPairs 139 = .ok (.ireturn, 1) := by decide +kernel
set_option maxRecDepth 20000 in
theorem ggX4_areHouses_X0_has : GoodIn wsX4_areHouses wsX0_has := goodIn_r _ [7, 8, 19, 20, 21, 22] (by decide +kernel) (by decide +kernel)
set_option maxRecDepth 20000 in
theorem gX4_areHouses_X0_has : GoodIn wsX4_areHouses (wsV RX4 75 RX0 yX0_has wsX0_has) := goodIn_app (goodIn_of _ (by decide +kernel)) ggX4_areHouses_X0_has
theorem dX4_areHouses_0 : decode cX4_areHouses 0 = .ok (.iconst 0, 1) := by decide +kernel
theorem dX4_areHouses_1 : decode cX4_areHouses 1 = .ok (.istore 4, 2) := by decide +kernel
theorem dX4_areHouses_3 : decode cX4_areHouses 3 = .ok (.iload 4, 2) := by decide +kernel
theorem dX4_areHouses_5 : decode cX4_areHouses 5 = .ok (.iload_n 3, 1) := by decide +kernel
theorem dX4_areHouses_6 : decode cX4_areHouses 6 = .ok (.if_icmp .ge 35, 3) := by decide +kernel
theorem dX4_areHouses_9 : decode cX4_areHouses 9 = .ok (.aload_n 0, 1) := by decide +kernel
theorem dX4_areHouses_10 : decode cX4_areHouses 10 = .ok (.getfield 12, 3) := by decide +kernel
theorem dX4_areHouses_13 : decode cX4_areHouses 13 = .ok (.aload_n 0, 1) := by decide +kernel
theorem dX4_areHouses_14 : decode cX4_areHouses 14 = .ok (.getfield 38, 3) := by decide +kernel
theorem dX4_areHouses_17 : decode cX4_areHouses 17 = .ok (.getfield 168, 3) := by decide +kernel
theorem dX4_areHouses_20 : decode cX4_areHouses 20 = .ok (.iload_n 1, 1) := by decide +kernel
theorem dX4_areHouses_21 : decode cX4_areHouses 21 = .ok (.aaload, 1) := by decide +kernel
theorem dX4_areHouses_22 : decode cX4_areHouses 22 = .ok (.iload_n 2, 1) := by decide +kernel
theorem dX4_areHouses_23 : decode cX4_areHouses 23 = .ok (.iload 4, 2) := by decide +kernel
theorem dX4_areHouses_25 : decode cX4_areHouses 25 = .ok (.iadd, 1) := by decide +kernel
theorem dX4_areHouses_26 : decode cX4_areHouses 26 = .ok (.iaload, 1) := by decide +kernel
theorem dX4_areHouses_27 : decode cX4_areHouses 27 = .ok (.invokevirtual 75, 3) := by decide +kernel
theorem dX4_areHouses_30 : decode cX4_areHouses 30 = .ok (.ifCond .ne 5, 3) := by decide +kernel
theorem dX4_areHouses_33 : decode cX4_areHouses 33 = .ok (.iconst 0, 1) := by decide +kernel
theorem dX4_areHouses_34 : decode cX4_areHouses 34 = .ok (.ireturn, 1) := by decide +kernel
theorem dX4_areHouses_35 : decode cX4_areHouses 35 = .ok (.iinc 4 1, 3) := by decide +kernel
theorem dX4_areHouses_38 : decode cX4_areHouses 38 = .ok (.goto (-35), 3) := by decide +kernel
theorem dX4_areHouses_41 : decode cX4_areHouses 41 = .ok (.iconst 1, 1) := by decide +kernel
theorem dX4_areHouses_42 : decode cX4_areHouses 42 = .ok (.ireturn, 1) := by decide +kernel
set_option maxRecDepth 20000 in
theorem ggX4_possible_X0_likeThat : GoodIn wsX4_possible wsX0_likeThat := goodIn_r _ [8, 9, 10, 11, 12, 13, 14, 15, 16, 64, 65, 66, 67] (by decide +kernel) (by decide +kernel)
set_option maxRecDepth 20000 in
theorem gX4_possible_X0_likeThat : GoodIn wsX4_possible (wsV RX4 131 RX0 yX0_likeThat wsX0_likeThat) := goodIn_app (goodIn_of _ (by decide +kernel)) ggX4_possible_X0_likeThat
set_option maxRecDepth 20000 in
theorem ggX4_possible_X0_become : GoodIn wsX4_possible wsX0_become := goodIn_r _ [20, 9, 14, 15, 64, 65, 66, 67] (by decide +kernel) (by decide +kernel)
set_option maxRecDepth 20000 in
theorem gX4_possible_X0_become : GoodIn wsX4_possible (wsV RX4 91 RX0 yX0_become wsX0_become) := goodIn_app (goodIn_of _ (by decide +kernel)) ggX4_possible_X0_become
set_option maxRecDepth 20000 in
theorem ggX4_possible_X1_holdIn : GoodIn wsX4_possible wsX1_holdIn := goodIn_r _ [25, 26, 27, 28, 29, 30, 31, 32, 7, 33, 16, 34, 35, 36, 37, 9, 38, 39, 40, 41, 42, 43, 44, 45, 14, 15, 46, 47, 48, 49, 50, 51, 52, 53, 54, 55, 56, 68, 69, 70, 71, 64, 65, 66, 67] (by decide +kernel) (by decide +kernel)
set_option maxRecDepth 20000 in
theorem gX4_possible_X1_holdIn : GoodIn wsX4_possible (wsV RX4 228 RX1 yX1_holdIn wsX1_holdIn) := goodIn_app (goodIn_of _ (by decide +kernel)) ggX4_possible_X1_holdIn
theorem dX4_possible_0 : decode cX4_possible 0 = .ok (.iconst 0, 1) := by decide +kernel
theorem dX4_possible_1 : decode cX4_possible 1 = .ok (.istore 4, 2) := by decide +kernel
theorem dX4_possible_3 : decode cX4_possible 3 = .ok (.aload_n 0, 1) := by decide +kernel
theorem dX4_possible_4 : decode cX4_possible 4 = .ok (.getfield 18, 3) := by decide +kernel
theorem dX4_possible_7 : decode cX4_possible 7 = .ok (.aload_n 0, 1) := by decide +kernel
theorem dX4_possible_8 : decode cX4_possible 8 = .ok (.getfield 12, 3) := by decide +kernel
theorem dX4_possible_11 : decode cX4_possible 11 = .ok (.invokevirtual 131, 3) := by decide +kernel
theorem dX4_possible_14 : decode cX4_possible 14 = .ok (.iconst 0, 1) := by decide +kernel
theorem dX4_possible_15 : decode cX4_possible 15 = .ok (.istore 5, 2) := by decide +kernel
theorem dX4_possible_17 : decode cX4_possible 17 = .ok (.iload 5, 2) := by decide +kernel
theorem dX4_possible_19 : decode cX4_possible 19 = .ok (.iload_n 3, 1) := by decide +kernel
theorem dX4_possible_20 : decode cX4_possible 20 = .ok (.if_icmp .ge 43, 3) := by decide +kernel
theorem dX4_possible_23 : decode cX4_possible 23 = .ok (.aload_n 0, 1) := by decide +kernel
theorem dX4_possible_24 : decode cX4_possible 24 = .ok (.getfield 18, 3) := by decide +kernel
theorem dX4_possible_27 : decode cX4_possible 27 = .ok (.iload_n 1, 1) := by decide +kernel
theorem dX4_possible_28 : decode cX4_possible 28 = .ok (.iload_n 2, 1) := by decide +kernel
theorem dX4_possible_29 : decode cX4_possible 29 = .ok (.iload 5, 2) := by decide +kernel
theorem dX4_possible_31 : decode cX4_possible 31 = .ok (.invokevirtual 91, 3) := by decide +kernel
theorem dX4_possible_34 : decode cX4_possible 34 = .ok (.aload_n 0, 1) := by decide +kernel
theorem dX4_possible_35 : decode cX4_possible 35 = .ok (.getfield 31, 3) := by decide +kernel
theorem dX4_possible_38 : decode cX4_possible 38 = .ok (.aload_n 0, 1) := by decide +kernel
theorem dX4_possible_39 : decode cX4_possible 39 = .ok (.getfield 18, 3) := by decide +kernel
theorem dX4_possible_42 : decode cX4_possible 42 = .ok (.invokevirtual 228, 3) := by decide +kernel
theorem dX4_possible_45 : decode cX4_possible 45 = .ok (.ifCond .eq 12, 3) := by decide +kernel
theorem dX4_possible_48 : decode cX4_possible 48 = .ok (.iload 4, 2) := by decide +kernel
theorem dX4_possible_50 : decode cX4_possible 50 = .ok (.iconst 1, 1) := by decide +kernel
theorem dX4_possible_51 : decode cX4_possible 51 = .ok (.iload 5, 2) := by decide +kernel
theorem dX4_possible_53 : decode cX4_possible 53 = .ok (.ishl, 1) := by decide +kernel
theorem dX4_possible_54 : decode cX4_possible 54 = .ok (.ior, 1) := by decide +kernel
theorem dX4_possible_55 : decode cX4_possible 55 = .ok (.istore 4, 2) := by decide +kernel
theorem dX4_possible_57 : decode cX4_possible 57 = .ok (.iinc 5 1, 3) := by decide +kernel
theorem dX4_possible_60 : decode cX4_possible 60 = .ok (.goto (-43), 3) := by decide +kernel
theorem dX4_possible_63 : decode cX4_possible 63 = .ok (.iload 4, 2) := by decide +kernel
theorem dX4_possible_65 : decode cX4_possible 65 = .ok (.ireturn, 1) := by decide +kernel
theorem dX4_commonPart_0 : decode cX4_commonPart 0 = .ok (.iload_n 1, 1) := by decide +kernel
theorem dX4_commonPart_1 : decode cX4_commonPart 1 = .ok (.istore_n 2, 1) := by decide +kernel
theorem dX4_commonPart_2 : decode cX4_commonPart 2 = .ok (.iload_n 2, 1) := by decide +kernel
theorem dX4_commonPart_3 : decode cX4_commonPart 3 = .ok (.iconst 1, 1) := by decide +kernel
theorem dX4_commonPart_4 : decode cX4_commonPart 4 = .ok (.if_icmp .le 23, 3) := by decide +kernel
theorem dX4_commonPart_7 : decode cX4_commonPart 7 = .ok (.iload_n 0, 1) := by decide +kernel
theorem dX4_commonPart_8 : decode cX4_commonPart 8 = .ok (.iload_n 2, 1) := by decide +kernel
theorem dX4_commonPart_9 : decode cX4_commonPart 9 = .ok (.irem, 1) := by decide +kernel
theorem dX4_commonPart_10 : decode cX4_commonPart 10 = .ok (.ifCond .ne 11, 3) := by decide +kernel
theorem dX4_commonPart_13 : decode cX4_commonPart 13 = .ok (.iload_n 1, 1) := by decide +kernel
theorem dX4_commonPart_14 : decode cX4_commonPart 14 = .ok (.iload_n 2, 1) := by decide +kernel
theorem dX4_commonPart_15 : decode cX4_commonPart 15 = .ok (.irem, 1) := by decide +kernel
theorem dX4_commonPart_16 : decode cX4_commonPart 16 = .ok (.ifCond .ne 5, 3) := by decide +kernel
theorem dX4_commonPart_19 : decode cX4_commonPart 19 = .ok (.iload_n 2, 1) := by decide +kernel
theorem dX4_commonPart_20 : decode cX4_commonPart 20 = .ok (.ireturn, 1) := by decide +kernel
theorem dX4_commonPart_21 : decode cX4_commonPart 21 = .ok (.iinc 2 (-1), 3) := by decide +kernel
theorem dX4_commonPart_24 : decode cX4_commonPart 24 = .ok (.goto (-22), 3) := by decide +kernel
theorem dX4_commonPart_27 : decode cX4_commonPart 27 = .ok (.iconst 1, 1) := by decide +kernel
theorem dX4_commonPart_28 : decode cX4_commonPart 28 = .ok (.ireturn, 1) := by decide +kernel
theorem dX4_leave_0 : decode cX4_leave 0 = .ok (.aload_n 0, 1) := by decide +kernel
theorem dX4_leave_1 : decode cX4_leave 1 = .ok (.bipush 31, 2) := by decide +kernel
theorem dX4_leave_3 : decode cX4_leave 3 = .ok (.aload_n 0, 1) := by decide +kernel
theorem dX4_leave_4 : decode cX4_leave 4 = .ok (.getfield 197, 3) := by decide +kernel
theorem dX4_leave_7 : decode cX4_leave 7 = .ok (.imul, 1) := by decide +kernel
theorem dX4_leave_8 : decode cX4_leave 8 = .ok (.iload_n 1, 1) := by decide +kernel
theorem dX4_leave_9 : decode cX4_leave 9 = .ok (.iadd, 1) := by decide +kernel
theorem dX4_leave_10 : decode cX4_leave 10 = .ok (.putfield 197, 3) := by decide +kernel
theorem dX4_leave_13 : decode cX4_leave 13 = .ok (.return_, 1) := by decide +kernel
set_option maxRecDepth 20000 in
theorem ggX4_houseTelling_X4_leave : GoodIn wsX4_houseTelling wsX4_leave := goodIn_r _ [6, 7, 8, 9, 10, 11, 12, 13, 14] (by decide +kernel) (by decide +kernel)
set_option maxRecDepth 20000 in
theorem gX4_houseTelling_X4_leave : GoodIn wsX4_houseTelling (wsV RX4 232 RX4 yX4_leave wsX4_leave) := goodIn_app (goodIn_of _ (by decide +kernel)) ggX4_houseTelling_X4_leave
theorem dX4_houseTelling_0 : decode cX4_houseTelling 0 = .ok (.aload_n 0, 1) := by decide +kernel
theorem dX4_houseTelling_1 : decode cX4_houseTelling 1 = .ok (.iconst 1, 1) := by decide +kernel
theorem dX4_houseTelling_2 : decode cX4_houseTelling 2 = .ok (.invokevirtual 232, 3) := by decide +kernel
theorem dX4_houseTelling_5 : decode cX4_houseTelling 5 = .ok (.aload_n 0, 1) := by decide +kernel
theorem dX4_houseTelling_6 : decode cX4_houseTelling 6 = .ok (.getfield 12, 3) := by decide +kernel
theorem dX4_houseTelling_9 : decode cX4_houseTelling 9 = .ok (.getfield 82, 3) := by decide +kernel
theorem dX4_houseTelling_12 : decode cX4_houseTelling 12 = .ok (.iload_n 1, 1) := by decide +kernel
theorem dX4_houseTelling_13 : decode cX4_houseTelling 13 = .ok (.iaload, 1) := by decide +kernel
theorem dX4_houseTelling_14 : decode cX4_houseTelling 14 = .ok (.ireturn, 1) := by decide +kernel
set_option maxRecDepth 20000 in
theorem ggX4_kinTelling_X4_leave : GoodIn wsX4_kinTelling wsX4_leave := goodIn_r _ [5, 6, 12, 13, 14, 15, 16, 17, 18] (by decide +kernel) (by decide +kernel)
set_option maxRecDepth 20000 in
theorem gX4_kinTelling_X4_leave : GoodIn wsX4_kinTelling (wsV RX4 232 RX4 yX4_leave wsX4_leave) := goodIn_app (goodIn_of _ (by decide +kernel)) ggX4_kinTelling_X4_leave
set_option maxRecDepth 20000 in
theorem ggX4_kinTelling_X4_houseTelling : GoodIn wsX4_kinTelling wsX4_houseTelling := goodIn_r _ [10, 11, 1, 2, 3, 4, 5, 6, 12, 13, 14, 15, 16, 17, 18, 19, 20, 21, 22] (by decide +kernel) (by decide +kernel)
set_option maxRecDepth 20000 in
theorem gX4_kinTelling_X4_houseTelling : GoodIn wsX4_kinTelling (wsV RX4 187 RX4 yX4_houseTelling wsX4_houseTelling) := goodIn_app (goodIn_of _ (by decide +kernel)) ggX4_kinTelling_X4_houseTelling
theorem dX4_kinTelling_0 : decode cX4_kinTelling 0 = .ok (.aload_n 0, 1) := by decide +kernel
theorem dX4_kinTelling_1 : decode cX4_kinTelling 1 = .ok (.iconst 2, 1) := by decide +kernel
theorem dX4_kinTelling_2 : decode cX4_kinTelling 2 = .ok (.invokevirtual 232, 3) := by decide +kernel
theorem dX4_kinTelling_5 : decode cX4_kinTelling 5 = .ok (.aload_n 0, 1) := by decide +kernel
theorem dX4_kinTelling_6 : decode cX4_kinTelling 6 = .ok (.iload_n 1, 1) := by decide +kernel
theorem dX4_kinTelling_7 : decode cX4_kinTelling 7 = .ok (.invokevirtual 187, 3) := by decide +kernel
theorem dX4_kinTelling_10 : decode cX4_kinTelling 10 = .ok (.bipush 100, 2) := by decide +kernel
theorem dX4_kinTelling_12 : decode cX4_kinTelling 12 = .ok (.iadd, 1) := by decide +kernel
theorem dX4_kinTelling_13 : decode cX4_kinTelling 13 = .ok (.ireturn, 1) := by decide +kernel
set_option maxRecDepth 20000 in
theorem ggX4_templeTelling_X4_leave : GoodIn wsX4_templeTelling wsX4_leave := goodIn_r _ [5, 6, 16, 17, 18, 19, 20, 21, 22] (by decide +kernel) (by decide +kernel)
set_option maxRecDepth 20000 in
theorem gX4_templeTelling_X4_leave : GoodIn wsX4_templeTelling (wsV RX4 232 RX4 yX4_leave wsX4_leave) := goodIn_app (goodIn_of _ (by decide +kernel)) ggX4_templeTelling_X4_leave
set_option maxRecDepth 20000 in
theorem ggX4_templeTelling_X4_kinTelling : GoodIn wsX4_templeTelling wsX4_kinTelling := goodIn_r _ [10, 1, 2, 3, 4, 5, 6, 11, 12, 13, 14, 15, 16, 17, 18, 19, 20, 21, 22, 23, 24, 25, 26] (by decide +kernel) (by decide +kernel)
set_option maxRecDepth 20000 in
theorem gX4_templeTelling_X4_kinTelling : GoodIn wsX4_templeTelling (wsV RX4 184 RX4 yX4_kinTelling wsX4_kinTelling) := goodIn_app (goodIn_of _ (by decide +kernel)) ggX4_templeTelling_X4_kinTelling
set_option maxRecDepth 20000 in
theorem ggX4_templeTelling_X4_houseTelling : GoodIn wsX4_templeTelling wsX4_houseTelling := goodIn_r _ [14, 15, 1, 2, 3, 4, 5, 6, 16, 17, 18, 19, 20, 21, 22, 23, 24, 25, 26] (by decide +kernel) (by decide +kernel)
set_option maxRecDepth 20000 in
theorem gX4_templeTelling_X4_houseTelling : GoodIn wsX4_templeTelling (wsV RX4 187 RX4 yX4_houseTelling wsX4_houseTelling) := goodIn_app (goodIn_of _ (by decide +kernel)) ggX4_templeTelling_X4_houseTelling
theorem dX4_templeTelling_0 : decode cX4_templeTelling 0 = .ok (.aload_n 0, 1) := by decide +kernel
theorem dX4_templeTelling_1 : decode cX4_templeTelling 1 = .ok (.iconst 3, 1) := by decide +kernel
theorem dX4_templeTelling_2 : decode cX4_templeTelling 2 = .ok (.invokevirtual 232, 3) := by decide +kernel
theorem dX4_templeTelling_5 : decode cX4_templeTelling 5 = .ok (.aload_n 0, 1) := by decide +kernel
theorem dX4_templeTelling_6 : decode cX4_templeTelling 6 = .ok (.iload_n 1, 1) := by decide +kernel
theorem dX4_templeTelling_7 : decode cX4_templeTelling 7 = .ok (.invokevirtual 184, 3) := by decide +kernel
theorem dX4_templeTelling_10 : decode cX4_templeTelling 10 = .ok (.istore_n 2, 1) := by decide +kernel
theorem dX4_templeTelling_11 : decode cX4_templeTelling 11 = .ok (.iload_n 2, 1) := by decide +kernel
theorem dX4_templeTelling_12 : decode cX4_templeTelling 12 = .ok (.aload_n 0, 1) := by decide +kernel
theorem dX4_templeTelling_13 : decode cX4_templeTelling 13 = .ok (.iload_n 1, 1) := by decide +kernel
theorem dX4_templeTelling_14 : decode cX4_templeTelling 14 = .ok (.invokevirtual 187, 3) := by decide +kernel
theorem dX4_templeTelling_17 : decode cX4_templeTelling 17 = .ok (.iadd, 1) := by decide +kernel
theorem dX4_templeTelling_18 : decode cX4_templeTelling 18 = .ok (.ireturn, 1) := by decide +kernel
set_option maxRecDepth 20000 in
theorem ggX4_lentSeal_X4_leave : GoodIn wsX4_lentSeal wsX4_leave := goodIn_r _ [5, 6, 7, 8, 9, 10, 11, 12, 13] (by decide +kernel) (by decide +kernel)
set_option maxRecDepth 20000 in
theorem gX4_lentSeal_X4_leave : GoodIn wsX4_lentSeal (wsV RX4 232 RX4 yX4_leave wsX4_leave) := goodIn_app (goodIn_of _ (by decide +kernel)) ggX4_lentSeal_X4_leave
theorem dX4_lentSeal_0 : decode cX4_lentSeal 0 = .ok (.aload_n 0, 1) := by decide +kernel
theorem dX4_lentSeal_1 : decode cX4_lentSeal 1 = .ok (.iconst 4, 1) := by decide +kernel
theorem dX4_lentSeal_2 : decode cX4_lentSeal 2 = .ok (.invokevirtual 232, 3) := by decide +kernel
theorem dX4_lentSeal_5 : decode cX4_lentSeal 5 = .ok (.iload_n 1, 1) := by decide +kernel
theorem dX4_lentSeal_6 : decode cX4_lentSeal 6 = .ok (.ireturn, 1) := by decide +kernel
set_option maxRecDepth 20000 in
theorem ggX4_templeSeal_X4_leave : GoodIn wsX4_templeSeal wsX4_leave := goodIn_r _ [5, 6, 7, 8, 9, 10, 11, 12, 13] (by decide +kernel) (by decide +kernel)
set_option maxRecDepth 20000 in
theorem gX4_templeSeal_X4_leave : GoodIn wsX4_templeSeal (wsV RX4 232 RX4 yX4_leave wsX4_leave) := goodIn_app (goodIn_of _ (by decide +kernel)) ggX4_templeSeal_X4_leave
theorem dX4_templeSeal_0 : decode cX4_templeSeal 0 = .ok (.aload_n 0, 1) := by decide +kernel
theorem dX4_templeSeal_1 : decode cX4_templeSeal 1 = .ok (.iconst 5, 1) := by decide +kernel
theorem dX4_templeSeal_2 : decode cX4_templeSeal 2 = .ok (.invokevirtual 232, 3) := by decide +kernel
theorem dX4_templeSeal_5 : decode cX4_templeSeal 5 = .ok (.bipush 90, 2) := by decide +kernel
theorem dX4_templeSeal_7 : decode cX4_templeSeal 7 = .ok (.ireturn, 1) := by decide +kernel
