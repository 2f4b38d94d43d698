theorem dX5_hide_14 : decode cX5_hide 14 = .ok (.getfield 13, 3) := by decide +kernel
theorem dX5_hide_17 : decode cX5_hide 17 = .ok (.iload_n 1, 1) := by decide +kernel
theorem dX5_hide_18 : decode cX5_hide 18 = .ok (.iaload, 1) := by decide +kernel
theorem dX5_hide_19 : decode cX5_hide 19 = .ok (.i2l, 1) := by decide +kernel
theorem dX5_hide_20 : decode cX5_hide 20 = .ok (.invokestatic 71, 3) := by decide +kernel
theorem dX5_hide_23 : decode cX5_hide 23 = .ok (.ifCond .ne 6, 3) := by decide +kernel
theorem dX5_hide_26 : decode cX5_hide 26 = .ok (.bipush (-2), 2) := by decide +kernel
theorem dX5_hide_28 : decode cX5_hide 28 = .ok (.ireturn, 1) := by decide +kernel
theorem dX5_hide_29 : decode cX5_hide 29 = .ok (.aload_n 0, 1) := by decide +kernel
theorem dX5_hide_30 : decode cX5_hide 30 = .ok (.getfield 13, 3) := by decide +kernel
theorem dX5_hide_33 : decode cX5_hide 33 = .ok (.iload_n 1, 1) := by decide +kernel
theorem dX5_hide_34 : decode cX5_hide 34 = .ok (.dup2, 1) := by decide +kernel
theorem dX5_hide_35 : decode cX5_hide 35 = .ok (.iaload, 1) := by decide +kernel
theorem dX5_hide_36 : decode cX5_hide 36 = .ok (.iload_n 2, 1) := by decide +kernel
theorem dX5_hide_37 : decode cX5_hide 37 = .ok (.isub, 1) := by decide +kernel
theorem dX5_hide_38 : decode cX5_hide 38 = .ok (.iastore, 1) := by decide +kernel
theorem dX5_hide_39 : decode cX5_hide 39 = .ok (.aload_n 0, 1) := by decide +kernel
theorem dX5_hide_40 : decode cX5_hide 40 = .ok (.getfield 16, 3) := by decide +kernel
theorem dX5_hide_43 : decode cX5_hide 43 = .ok (.iload_n 1, 1) := by decide +kernel
theorem dX5_hide_44 : decode cX5_hide 44 = .ok (.dup2, 1) := by decide +kernel
theorem dX5_hide_45 : decode cX5_hide 45 = .ok (.iaload, 1) := by decide +kernel
theorem dX5_hide_46 : decode cX5_hide 46 = .ok (.iload_n 2, 1) := by decide +kernel
theorem dX5_hide_47 : decode cX5_hide 47 = .ok (.iadd, 1) := by decide +kernel
theorem dX5_hide_48 : decode cX5_hide 48 = .ok (.iastore, 1) := by decide +kernel
theorem dX5_hide_49 : decode cX5_hide 49 = .ok (.aload_n 0, 1) := by decide +kernel
theorem dX5_hide_50 : decode cX5_hide 50 = .ok (.getfield 13, 3) := by decide +kernel
theorem dX5_hide_53 : decode cX5_hide 53 = .ok (.iload_n 1, 1) := by decide +kernel
theorem dX5_hide_54 : decode cX5_hide 54 = .ok (.iaload, 1) := by decide +kernel
theorem dX5_hide_55 : decode cX5_hide 55 = .ok (.ireturn, 1) := by decide +kernel
theorem dX5_landLeft_0 : decode cX5_landLeft 0 = .ok (.iload_n 2, 1) := by decide +kernel
theorem dX5_landLeft_1 : decode cX5_landLeft 1 = .ok (.iload_n 1, 1) := by decide +kernel
theorem dX5_landLeft_2 : decode cX5_landLeft 2 = .ok (.if_icmp .le 9, 3) := by decide +kernel
theorem dX5_landLeft_5 : decode cX5_landLeft 5 = .ok (.iload_n 2, 1) := by decide +kernel
theorem dX5_landLeft_6 : decode cX5_landLeft 6 = .ok (.iload_n 1, 1) := by decide +kernel
theorem dX5_landLeft_7 : decode cX5_landLeft 7 = .ok (.isub, 1) := by decide +kernel
theorem dX5_landLeft_8 : decode cX5_landLeft 8 = .ok (.goto 4, 3) := by decide +kernel
theorem dX5_landLeft_11 : decode cX5_landLeft 11 = .ok (.iconst 0, 1) := by decide +kernel
theorem dX5_landLeft_12 : decode cX5_landLeft 12 = .ok (.istore_n 3, 1) := by decide +kernel
theorem dX5_landLeft_13 : decode cX5_landLeft 13 = .ok (.iload_n 3, 1) := by decide +kernel
theorem dX5_landLeft_14 : decode cX5_landLeft 14 = .ok (.iload_n 0, 1) := by decide +kernel
theorem dX5_landLeft_15 : decode cX5_landLeft 15 = .ok (.if_icmp .le 7, 3) := by decide +kernel
theorem dX5_landLeft_18 : decode cX5_landLeft 18 = .ok (.iconst 0, 1) := by decide +kernel
theorem dX5_landLeft_19 : decode cX5_landLeft 19 = .ok (.goto 6, 3) := by decide +kernel
theorem dX5_landLeft_22 : decode cX5_landLeft 22 = .ok (.iload_n 0, 1) := by decide +kernel
theorem dX5_landLeft_23 : decode cX5_landLeft 23 = .ok (.iload_n 3, 1) := by decide +kernel
theorem dX5_landLeft_24 : decode cX5_landLeft 24 = .ok (.isub, 1) := by decide +kernel
theorem dX5_landLeft_25 : decode cX5_landLeft 25 = .ok (.ireturn, 1) := by decide +kernel
theorem dX5_coinLeft_0 : decode cX5_coinLeft 0 = .ok (.iload_n 1, 1) := by decide +kernel
theorem dX5_coinLeft_1 : decode cX5_coinLeft 1 = .ok (.iload_n 0, 1) := by decide +kernel
theorem dX5_coinLeft_2 : decode cX5_coinLeft 2 = .ok (.if_icmp .le 7, 3) := by decide +kernel
theorem dX5_coinLeft_5 : decode cX5_coinLeft 5 = .ok (.iconst 0, 1) := by decide +kernel
theorem dX5_coinLeft_6 : decode cX5_coinLeft 6 = .ok (.goto 6, 3) := by decide +kernel
theorem dX5_coinLeft_9 : decode cX5_coinLeft 9 = .ok (.iload_n 0, 1) := by decide +kernel
theorem dX5_coinLeft_10 : decode cX5_coinLeft 10 = .ok (.iload_n 1, 1) := by decide +kernel
theorem dX5_coinLeft_11 : decode cX5_coinLeft 11 = .ok (.isub, 1) := by decide +kernel
theorem dX5_coinLeft_12 : decode cX5_coinLeft 12 = .ok (.ireturn, 1) := by decide +kernel
set_option maxRecDepth 20000 in
theorem ggX5_worthPaid_X5_landLeft : GoodIn wsX5_worthPaid wsX5_landLeft := goodIn_r _ [6] (by decide +kernel) (by decide +kernel)
set_option maxRecDepth 20000 in
theorem gX5_worthPaid_X5_landLeft : GoodIn wsX5_worthPaid (va_wsS RX5 133 yX5_landLeft wsX5_landLeft) := goodIn_app (goodIn_of _ (by decide +kernel)) ggX5_worthPaid_X5_landLeft
set_option maxRecDepth 20000 in
theorem ggX5_worthPaid_X5_coinLeft : GoodIn wsX5_worthPaid wsX5_coinLeft := goodIn_r _ [9] (by decide +kernel) (by decide +kernel)
set_option maxRecDepth 20000 in
theorem gX5_worthPaid_X5_coinLeft : GoodIn wsX5_worthPaid (va_wsS RX5 136 yX5_coinLeft wsX5_coinLeft) := goodIn_app (goodIn_of _ (by decide +kernel)) ggX5_worthPaid_X5_coinLeft
set_option maxRecDepth 20000 in
theorem ggX5_worthPaid_X5_worthTo : GoodIn wsX5_worthPaid wsX5_worthTo := goodIn_r _ [13, 14, 15, 16, 17, 18, 19, 20, 21, 22, 23, 24, 25, 26, 27, 28, 29, 30, 31, 32, 33, 34, 35, 36, 37, 38, 39] (by decide +kernel) (by decide +kernel)
set_option maxRecDepth 20000 in
theorem gX5_worthPaid_X5_worthTo : GoodIn wsX5_worthPaid (wsV RX5 121 RX5 yX5_worthTo wsX5_worthTo) := goodIn_app (goodIn_of _ (by decide +kernel)) ggX5_worthPaid_X5_worthTo
theorem dX5_worthPaid_0 : decode cX5_worthPaid 0 = .ok (.aload_n 0, 1) := by decide +kernel
theorem dX5_worthPaid_1 : decode cX5_worthPaid 1 = .ok (.iload_n 1, 1) := by decide +kernel
theorem dX5_worthPaid_2 : decode cX5_worthPaid 2 = .ok (.aload_n 0, 1) := by decide +kernel
theorem dX5_worthPaid_3 : decode cX5_worthPaid 3 = .ok (.getfield 13, 3) := by decide +kernel
theorem dX5_worthPaid_6 : decode cX5_worthPaid 6 = .ok (.iload_n 2, 1) := by decide +kernel
theorem dX5_worthPaid_7 : decode cX5_worthPaid 7 = .ok (.iaload, 1) := by decide +kernel
theorem dX5_worthPaid_8 : decode cX5_worthPaid 8 = .ok (.aload_n 0, 1) := by decide +kernel
theorem dX5_worthPaid_9 : decode cX5_worthPaid 9 = .ok (.getfield 16, 3) := by decide +kernel
theorem dX5_worthPaid_12 : decode cX5_worthPaid 12 = .ok (.iload_n 2, 1) := by decide +kernel
theorem dX5_worthPaid_13 : decode cX5_worthPaid 13 = .ok (.iaload, 1) := by decide +kernel
theorem dX5_worthPaid_14 : decode cX5_worthPaid 14 = .ok (.iload_n 3, 1) := by decide +kernel
theorem dX5_worthPaid_15 : decode cX5_worthPaid 15 = .ok (.invokestatic 133, 3) := by decide +kernel
theorem dX5_worthPaid_18 : decode cX5_worthPaid 18 = .ok (.aload_n 0, 1) := by decide +kernel
theorem dX5_worthPaid_19 : decode cX5_worthPaid 19 = .ok (.getfield 16, 3) := by decide +kernel
theorem dX5_worthPaid_22 : decode cX5_worthPaid 22 = .ok (.iload_n 2, 1) := by decide +kernel
theorem dX5_worthPaid_23 : decode cX5_worthPaid 23 = .ok (.iaload, 1) := by decide +kernel
theorem dX5_worthPaid_24 : decode cX5_worthPaid 24 = .ok (.iload_n 3, 1) := by decide +kernel
theorem dX5_worthPaid_25 : decode cX5_worthPaid 25 = .ok (.invokestatic 136, 3) := by decide +kernel
theorem dX5_worthPaid_28 : decode cX5_worthPaid 28 = .ok (.invokevirtual 121, 3) := by decide +kernel
theorem dX5_worthPaid_31 : decode cX5_worthPaid 31 = .ok (.ireturn, 1) := by decide +kernel
theorem dX5_mayPoint_0 : decode cX5_mayPoint 0 = .ok (.aload_n 0, 1) := by decide +kernel
theorem dX5_mayPoint_1 : decode cX5_mayPoint 1 = .ok (.getfield 13, 3) := by decide +kernel
theorem dX5_mayPoint_4 : decode cX5_mayPoint 4 = .ok (.iload_n 2, 1) := by decide +kernel
theorem dX5_mayPoint_5 : decode cX5_mayPoint 5 = .ok (.iaload, 1) := by decide +kernel
theorem dX5_mayPoint_6 : decode cX5_mayPoint 6 = .ok (.aload_n 0, 1) := by decide +kernel
theorem dX5_mayPoint_7 : decode cX5_mayPoint 7 = .ok (.getfield 13, 3) := by decide +kernel
theorem dX5_mayPoint_10 : decode cX5_mayPoint 10 = .ok (.iload_n 1, 1) := by decide +kernel
theorem dX5_mayPoint_11 : decode cX5_mayPoint 11 = .ok (.iaload, 1) := by decide +kernel
theorem dX5_mayPoint_12 : decode cX5_mayPoint 12 = .ok (.if_icmp .le 7, 3) := by decide +kernel
theorem dX5_mayPoint_15 : decode cX5_mayPoint 15 = .ok (.iconst 1, 1) := by decide +kernel
theorem dX5_mayPoint_16 : decode cX5_mayPoint 16 = .ok (.goto 4, 3) := by decide +kernel
theorem dX5_mayPoint_19 : decode cX5_mayPoint 19 = .ok (.iconst 0, 1) := by decide +kernel
theorem dX5_mayPoint_20 : decode cX5_mayPoint 20 = .ok (.ireturn, 1) := by decide +kernel
set_option maxRecDepth 20000 in
theorem ggX5_doesChange_X5_worthTo : GoodIn wsX5_doesChange wsX5_worthTo := goodIn_r _ [7, 8, 19, 20, 21, 22, 23, 24, 25, 26, 27, 28, 29, 30, 31, 32, 33, 34, 35, 36, 37, 38, 39, 40, 41, 42, 43] (by decide +kernel) (by decide +kernel)
set_option maxRecDepth 20000 in
theorem gX5_doesChange_X5_worthTo : GoodIn wsX5_doesChange (wsV RX5 121 RX5 yX5_worthTo wsX5_worthTo) := goodIn_app (goodIn_of _ (by decide +kernel)) ggX5_doesChange_X5_worthTo
set_option maxRecDepth 20000 in
theorem ggX5_doesChange_X5_worthPaid : GoodIn wsX5_doesChange wsX5_worthPaid := goodIn_r _ [12, 1, 2, 13, 14, 6, 15, 16, 17, 18, 3, 4, 5, 7, 8, 19, 20, 21, 22, 23, 24, 25, 26, 27, 28, 29, 30, 31, 32, 33, 34, 35, 36, 37, 38, 39, 40, 41, 42, 43] (by decide +kernel) (by decide +kernel)
set_option maxRecDepth 20000 in
theorem gX5_doesChange_X5_worthPaid : GoodIn wsX5_doesChange (wsV RX5 139 RX5 yX5_worthPaid wsX5_worthPaid) := goodIn_app (goodIn_of _ (by decide +kernel)) ggX5_doesChange_X5_worthPaid
theorem dX5_doesChange_0 : decode cX5_doesChange 0 = .ok (.aload_n 0, 1) := by decide +kernel
theorem dX5_doesChange_1 : decode cX5_doesChange 1 = .ok (.iload_n 2, 1) := by decide +kernel
theorem dX5_doesChange_2 : decode cX5_doesChange 2 = .ok (.aload_n 0, 1) := by decide +kernel
theorem dX5_doesChange_3 : decode cX5_doesChange 3 = .ok (.getfield 13, 3) := by decide +kernel
theorem dX5_doesChange_6 : decode cX5_doesChange 6 = .ok (.iload_n 1, 1) := by decide +kernel
theorem dX5_doesChange_7 : decode cX5_doesChange 7 = .ok (.iaload, 1) := by decide +kernel
theorem dX5_doesChange_8 : decode cX5_doesChange 8 = .ok (.aload_n 0, 1) := by decide +kernel
theorem dX5_doesChange_9 : decode cX5_doesChange 9 = .ok (.getfield 16, 3) := by decide +kernel
theorem dX5_doesChange_12 : decode cX5_doesChange 12 = .ok (.iload_n 1, 1) := by decide +kernel
theorem dX5_doesChange_13 : decode cX5_doesChange 13 = .ok (.iaload, 1) := by decide +kernel
theorem dX5_doesChange_14 : decode cX5_doesChange 14 = .ok (.invokevirtual 121, 3) := by decide +kernel
theorem dX5_doesChange_17 : decode cX5_doesChange 17 = .ok (.aload_n 0, 1) := by decide +kernel
theorem dX5_doesChange_18 : decode cX5_doesChange 18 = .ok (.iload_n 2, 1) := by decide +kernel
theorem dX5_doesChange_19 : decode cX5_doesChange 19 = .ok (.iload_n 2, 1) := by decide +kernel
theorem dX5_doesChange_20 : decode cX5_doesChange 20 = .ok (.iload_n 3, 1) := by decide +kernel
theorem dX5_doesChange_21 : decode cX5_doesChange 21 = .ok (.invokevirtual 139, 3) := by decide +kernel
theorem dX5_doesChange_24 : decode cX5_doesChange 24 = .ok (.if_icmp .le 7, 3) := by decide +kernel
theorem dX5_doesChange_27 : decode cX5_doesChange 27 = .ok (.iconst 1, 1) := by decide +kernel
theorem dX5_doesChange_28 : decode cX5_doesChange 28 = .ok (.goto 4, 3) := by decide +kernel
theorem dX5_doesChange_31 : decode cX5_doesChange 31 = .ok (.iconst 0, 1) := by decide +kernel
theorem dX5_doesChange_32 : decode cX5_doesChange 32 = .ok (.ireturn, 1) := by decide +kernel
set_option maxRecDepth 20000 in
theorem ggX5_answer_X5_noHouse : GoodIn wsX5_answer wsX5_noHouse := goodIn_r _ [5, 6, 7, 8, 4, 9, 39, 40, 41, 42, 43, 44, 45, 46, 47, 48, 49, 50, 51, 52, 53, 54, 55, 56, 57, 58, 59, 60, 61, 62, 63] (by decide +kernel) (by decide +kernel)
set_option maxRecDepth 20000 in
theorem gX5_answer_X5_noHouse : GoodIn wsX5_answer (wsV RX5 125 RX5 yX5_noHouse wsX5_noHouse) := goodIn_app (goodIn_of _ (by decide +kernel)) ggX5_answer_X5_noHouse
set_option maxRecDepth 20000 in
theorem ggX5_answer_X5_mayPoint : GoodIn wsX5_answer wsX5_mayPoint := goodIn_r _ [13, 14, 39, 40, 41, 42, 43, 44, 45, 46, 47, 48, 49, 50, 51, 52, 53, 54, 55, 56, 57, 58, 59, 60, 61, 62, 63] (by decide +kernel) (by decide +kernel)
set_option maxRecDepth 20000 in
theorem gX5_answer_X5_mayPoint : GoodIn wsX5_answer (wsV RX5 142 RX5 yX5_mayPoint wsX5_mayPoint) := goodIn_app (goodIn_of _ (by decide +kernel)) ggX5_answer_X5_mayPoint
set_option maxRecDepth 20000 in
theorem ggX5_answer_X5_noCost : GoodIn wsX5_answer wsX5_noCost := goodIn_r _ [17, 18, 7, 8, 4, 9] (by decide +kernel) (by decide +kernel)
set_option maxRecDepth 20000 in
theorem gX5_answer_X5_noCost : GoodIn wsX5_answer (va_wsS RX5 145 yX5_noCost wsX5_noCost) := goodIn_app (goodIn_of _ (by decide +kernel)) ggX5_answer_X5_noCost
set_option maxRecDepth 20000 in
theorem ggX5_answer_X5_doesChange : GoodIn wsX5_answer wsX5_doesChange := goodIn_r _ [22, 14, 23, 24, 25, 26, 4, 27, 28, 29, 30, 31, 32, 33, 34, 35, 36, 37, 38, 39, 40, 41, 42, 43, 44, 45, 46, 47, 48, 49, 50, 51, 52, 53, 54, 55, 56, 57, 58, 59, 60, 61, 62, 63] (by decide +kernel) (by decide +kernel)
set_option maxRecDepth 20000 in
theorem gX5_answer_X5_doesChange : GoodIn wsX5_answer (wsV RX5 148 RX5 yX5_doesChange wsX5_doesChange) := goodIn_app (goodIn_of _ (by decide +kernel)) ggX5_answer_X5_doesChange
theorem dX5_answer_0 : decode cX5_answer 0 = .ok (.aload_n 0, 1) := by decide +kernel
theorem dX5_answer_1 : decode cX5_answer 1 = .ok (.iload_n 1, 1) := by decide +kernel
theorem dX5_answer_2 : decode cX5_answer 2 = .ok (.invokevirtual 125, 3) := by decide +kernel
theorem dX5_answer_5 : decode cX5_answer 5 = .ok (.ifCond .ne 16, 3) := by decide +kernel
theorem dX5_answer_8 : decode cX5_answer 8 = .ok (.aload_n 0, 1) := by decide +kernel
theorem dX5_answer_9 : decode cX5_answer 9 = .ok (.iload_n 2, 1) := by decide +kernel
theorem dX5_answer_10 : decode cX5_answer 10 = .ok (.invokevirtual 125, 3) := by decide +kernel
theorem dX5_answer_13 : decode cX5_answer 13 = .ok (.ifCond .ne 8, 3) := by decide +kernel
theorem dX5_answer_16 : decode cX5_answer 16 = .ok (.iload_n 1, 1) := by decide +kernel
theorem dX5_answer_17 : decode cX5_answer 17 = .ok (.iload_n 2, 1) := by decide +kernel
theorem dX5_answer_18 : decode cX5_answer 18 = .ok (.if_icmp .ne 5, 3) := by decide +kernel
theorem dX5_answer_21 : decode cX5_answer 21 = .ok (.iconst (-1), 1) := by decide +kernel
theorem dX5_answer_22 : decode cX5_answer 22 = .ok (.ireturn, 1) := by decide +kernel
theorem dX5_answer_23 : decode cX5_answer 23 = .ok (.aload_n 0, 1) := by decide +kernel
theorem dX5_answer_24 : decode cX5_answer 24 = .ok (.iload_n 1, 1) := by decide +kernel
theorem dX5_answer_25 : decode cX5_answer 25 = .ok (.iload_n 2, 1) := by decide +kernel
theorem dX5_answer_26 : decode cX5_answer 26 = .ok (.invokevirtual 142, 3) := by decide +kernel
theorem dX5_answer_29 : decode cX5_answer 29 = .ok (.ifCond .ne 6, 3) := by decide +kernel
theorem dX5_answer_32 : decode cX5_answer 32 = .ok (.bipush (-3), 2) := by decide +kernel
theorem dX5_answer_34 : decode cX5_answer 34 = .ok (.ireturn, 1) := by decide +kernel
theorem dX5_answer_35 : decode cX5_answer 35 = .ok (.iload_n 3, 1) := by decide +kernel
theorem dX5_answer_36 : decode cX5_answer 36 = .ok (.invokestatic 145, 3) := by decide +kernel
theorem dX5_answer_39 : decode cX5_answer 39 = .ok (.ifCond .eq 6, 3) := by decide +kernel
theorem dX5_answer_42 : decode cX5_answer 42 = .ok (.bipush (-2), 2) := by decide +kernel
theorem dX5_answer_44 : decode cX5_answer 44 = .ok (.ireturn, 1) := by decide +kernel
theorem dX5_answer_45 : decode cX5_answer 45 = .ok (.aload_n 0, 1) := by decide +kernel
theorem dX5_answer_46 : decode cX5_answer 46 = .ok (.iload_n 1, 1) := by decide +kernel
theorem dX5_answer_47 : decode cX5_answer 47 = .ok (.iload_n 2, 1) := by decide +kernel
theorem dX5_answer_48 : decode cX5_answer 48 = .ok (.iload_n 3, 1) := by decide +kernel
theorem dX5_answer_49 : decode cX5_answer 49 = .ok (.invokevirtual 148, 3) := by decide +kernel
theorem dX5_answer_52 : decode cX5_answer 52 = .ok (.ifCond .eq 7, 3) := by decide +kernel
theorem dX5_answer_55 : decode cX5_answer 55 = .ok (.iconst 1, 1) := by decide +kernel
theorem dX5_answer_56 : decode cX5_answer 56 = .ok (.goto 4, 3) := by decide +kernel
theorem dX5_answer_59 : decode cX5_answer 59 = .ok (.iconst 0, 1) := by decide +kernel
theorem dX5_answer_60 : decode cX5_answer 60 = .ok (.ireturn, 1) := by decide +kernel
set_option maxRecDepth 20000 in
theorem ggX5_worthBy_X5_worthPaid : GoodIn wsX5_worthBy wsX5_worthPaid := goodIn_r _ [5, 6, 7, 8, 9, 4, 10, 11, 12, 13, 14, 15, 16, 17, 18, 27, 28, 29, 30, 31, 32, 33, 34, 35, 36, 37, 38, 39, 40, 41, 42, 43, 44, 45, 46, 47, 48, 49, 50, 51] (by decide +kernel) (by decide +kernel)
set_option maxRecDepth 20000 in
theorem gX5_worthBy_X5_worthPaid : GoodIn wsX5_worthBy (wsV RX5 139 RX5 yX5_worthPaid wsX5_worthPaid) := goodIn_app (goodIn_of _ (by decide +kernel)) ggX5_worthBy_X5_worthPaid
set_option maxRecDepth 20000 in
theorem ggX5_worthBy_X5_doesChange : GoodIn wsX5_worthBy wsX5_doesChange := goodIn_r _ [22, 6, 7, 14, 15, 16, 4, 17, 18, 1, 2, 3, 5, 8, 9, 10, 11, 12, 13, 27, 28, 29, 30, 31, 32, 33, 34, 35, 36, 37, 38, 39, 40, 41, 42, 43, 44, 45, 46, 47, 48, 49, 50, 51] (by decide +kernel) (by decide +kernel)
set_option maxRecDepth 20000 in
theorem gX5_worthBy_X5_doesChange : GoodIn wsX5_worthBy (wsV RX5 148 RX5 yX5_doesChange wsX5_doesChange) := goodIn_app (goodIn_of _ (by decide +kernel)) ggX5_worthBy_X5_doesChange
set_option maxRecDepth 20000 in
theorem ggX5_worthBy_X5_worthOf : GoodIn wsX5_worthBy wsX5_worthOf := goodIn_r _ [26, 6, 7, 14, 15, 16, 4, 17, 18, 27, 28, 29, 30, 31, 32, 33, 34, 35, 36, 37, 38, 39, 40, 41, 42, 43, 44, 45, 46, 47, 48, 49, 50, 51] (by decide +kernel) (by decide +kernel)
set_option maxRecDepth 20000 in
theorem gX5_worthBy_X5_worthOf : GoodIn wsX5_worthBy (wsV RX5 128 RX5 yX5_worthOf wsX5_worthOf) := goodIn_app (goodIn_of _ (by decide +kernel)) ggX5_worthBy_X5_worthOf
theorem dX5_worthBy_0 : decode cX5_worthBy 0 = .ok (.iload_n 1, 1) := by decide +kernel
theorem dX5_worthBy_1 : decode cX5_worthBy 1 = .ok (.iload_n 2, 1) := by decide +kernel
theorem dX5_worthBy_2 : decode cX5_worthBy 2 = .ok (.if_icmp .ne 13, 3) := by decide +kernel
theorem dX5_worthBy_5 : decode cX5_worthBy 5 = .ok (.aload_n 0, 1) := by decide +kernel
theorem dX5_worthBy_6 : decode cX5_worthBy 6 = .ok (.iload_n 1, 1) := by decide +kernel
theorem dX5_worthBy_7 : decode cX5_worthBy 7 = .ok (.iload_n 1, 1) := by decide +kernel
theorem dX5_worthBy_8 : decode cX5_worthBy 8 = .ok (.iload_n 3, 1) := by decide +kernel
theorem dX5_worthBy_9 : decode cX5_worthBy 9 = .ok (.invokevirtual 139, 3) := by decide +kernel
theorem dX5_worthBy_12 : decode cX5_worthBy 12 = .ok (.goto 28, 3) := by decide +kernel
theorem dX5_worthBy_15 : decode cX5_worthBy 15 = .ok (.aload_n 0, 1) := by decide +kernel
theorem dX5_worthBy_16 : decode cX5_worthBy 16 = .ok (.iload_n 1, 1) := by decide +kernel
theorem dX5_worthBy_17 : decode cX5_worthBy 17 = .ok (.iload_n 2, 1) := by decide +kernel
theorem dX5_worthBy_18 : decode cX5_worthBy 18 = .ok (.iload_n 3, 1) := by decide +kernel
theorem dX5_worthBy_19 : decode cX5_worthBy 19 = .ok (.invokevirtual 148, 3) := by decide +kernel
theorem dX5_worthBy_22 : decode cX5_worthBy 22 = .ok (.ifCond .eq 13, 3) := by decide +kernel
theorem dX5_worthBy_25 : decode cX5_worthBy 25 = .ok (.aload_n 0, 1) := by decide +kernel
theorem dX5_worthBy_26 : decode cX5_worthBy 26 = .ok (.iload_n 1, 1) := by decide +kernel
theorem dX5_worthBy_27 : decode cX5_worthBy 27 = .ok (.iload_n 2, 1) := by decide +kernel
theorem dX5_worthBy_28 : decode cX5_worthBy 28 = .ok (.iload_n 3, 1) := by decide +kernel
theorem dX5_worthBy_29 : decode cX5_worthBy 29 = .ok (.invokevirtual 139, 3) := by decide +kernel
theorem dX5_worthBy_32 : decode cX5_worthBy 32 = .ok (.goto 8, 3) := by decide +kernel
theorem dX5_worthBy_35 : decode cX5_worthBy 35 = .ok (.aload_n 0, 1) := by decide +kernel
theorem dX5_worthBy_36 : decode cX5_worthBy 36 = .ok (.iload_n 1, 1) := by decide +kernel
theorem dX5_worthBy_37 : decode cX5_worthBy 37 = .ok (.invokevirtual 128, 3) := by decide +kernel
theorem dX5_worthBy_40 : decode cX5_worthBy 40 = .ok (.ireturn, 1) := by decide +kernel
set_option maxRecDepth 20000 in
theorem ggX5_choiceOf_X5_mayPoint : GoodIn wsX5_choiceOf wsX5_mayPoint := goodIn_r _ [6, 7, 36, 37, 38, 39, 40, 41, 42, 43, 44, 45, 46, 47, 48, 49, 50, 51, 52, 53, 54, 55, 56, 57, 58, 59, 60] (by decide +kernel) (by decide +kernel)
set_option maxRecDepth 20000 in
theorem gX5_choiceOf_X5_mayPoint : GoodIn wsX5_choiceOf (wsV RX5 142 RX5 yX5_mayPoint wsX5_mayPoint) := goodIn_app (goodIn_of _ (by decide +kernel)) ggX5_choiceOf_X5_mayPoint
set_option maxRecDepth 20000 in
theorem ggX5_choiceOf_X5_worthBy : GoodIn wsX5_choiceOf wsX5_worthBy := goodIn_r _ [11, 12, 13, 14, 5, 15, 7, 16, 17, 18, 19, 20, 21, 22, 23, 24, 25, 26, 27, 28, 29, 30, 31, 32, 33, 34, 35, 36, 37, 38, 39, 40, 41, 42, 43, 44, 45, 46, 47, 48, 49, 50, 51, 52, 53, 54, 55, 56, 57, 58, 59, 60] (by decide +kernel) (by decide +kernel)
set_option maxRecDepth 20000 in
theorem gX5_choiceOf_X5_worthBy : GoodIn wsX5_choiceOf (wsV RX5 152 RX5 yX5_worthBy wsX5_worthBy) := goodIn_app (goodIn_of _ (by decide +kernel)) ggX5_choiceOf_X5_worthBy
theorem dX5_choiceOf_0 : decode cX5_choiceOf 0 = .ok (.iload_n 1, 1) := by decide +kernel
theorem dX5_choiceOf_1 : decode cX5_choiceOf 1 = .ok (.istore_n 3, 1) := by decide +kernel
theorem dX5_choiceOf_2 : decode cX5_choiceOf 2 = .ok (.iconst 0, 1) := by decide +kernel
theorem dX5_choiceOf_3 : decode cX5_choiceOf 3 = .ok (.istore 4, 2) := by decide +kernel
theorem dX5_choiceOf_5 : decode cX5_choiceOf 5 = .ok (.iload 4, 2) := by decide +kernel
theorem dX5_choiceOf_7 : decode cX5_choiceOf 7 = .ok (.aload_n 0, 1) := by decide +kernel
theorem dX5_choiceOf_8 : decode cX5_choiceOf 8 = .ok (.getfield 68, 3) := by decide +kernel
theorem dX5_choiceOf_11 : decode cX5_choiceOf 11 = .ok (.if_icmp .ge 62, 3) := by decide +kernel
theorem dX5_choiceOf_14 : decode cX5_choiceOf 14 = .ok (.iload 4, 2) := by decide +kernel
theorem dX5_choiceOf_16 : decode cX5_choiceOf 16 = .ok (.iload_n 1, 1) := by decide +kernel
theorem dX5_choiceOf_17 : decode cX5_choiceOf 17 = .ok (.if_icmp .eq 17, 3) := by decide +kernel
theorem dX5_choiceOf_20 : decode cX5_choiceOf 20 = .ok (.aload_n 0, 1) := by decide +kernel
theorem dX5_choiceOf_21 : decode cX5_choiceOf 21 = .ok (.iload_n 1, 1) := by decide +kernel
theorem dX5_choiceOf_22 : decode cX5_choiceOf 22 = .ok (.iload 4, 2) := by decide +kernel
theorem dX5_choiceOf_24 : decode cX5_choiceOf 24 = .ok (.invokevirtual 142, 3) := by decide +kernel
theorem dX5_choiceOf_27 : decode cX5_choiceOf 27 = .ok (.ifCond .eq 7, 3) := by decide +kernel
theorem dX5_choiceOf_30 : decode cX5_choiceOf 30 = .ok (.iconst 1, 1) := by decide +kernel
theorem dX5_choiceOf_31 : decode cX5_choiceOf 31 = .ok (.goto 4, 3) := by decide +kernel
theorem dX5_choiceOf_34 : decode cX5_choiceOf 34 = .ok (.iconst 0, 1) := by decide +kernel
theorem dX5_choiceOf_35 : decode cX5_choiceOf 35 = .ok (.istore 5, 2) := by decide +kernel
theorem dX5_choiceOf_37 : decode cX5_choiceOf 37 = .ok (.iload 5, 2) := by decide +kernel
theorem dX5_choiceOf_39 : decode cX5_choiceOf 39 = .ok (.ifCond .eq 26, 3) := by decide +kernel
theorem dX5_choiceOf_42 : decode cX5_choiceOf 42 = .ok (.aload_n 0, 1) := by decide +kernel
theorem dX5_choiceOf_43 : decode cX5_choiceOf 43 = .ok (.iload_n 1, 1) := by decide +kernel
theorem dX5_choiceOf_44 : decode cX5_choiceOf 44 = .ok (.iload 4, 2) := by decide +kernel
theorem dX5_choiceOf_46 : decode cX5_choiceOf 46 = .ok (.iload_n 2, 1) := by decide +kernel
theorem dX5_choiceOf_47 : decode cX5_choiceOf 47 = .ok (.invokevirtual 152, 3) := by decide +kernel
theorem dX5_choiceOf_50 : decode cX5_choiceOf 50 = .ok (.aload_n 0, 1) := by decide +kernel
theorem dX5_choiceOf_51 : decode cX5_choiceOf 51 = .ok (.iload_n 1, 1) := by decide +kernel
theorem dX5_choiceOf_52 : decode cX5_choiceOf 52 = .ok (.iload_n 3, 1) := by decide +kernel
theorem dX5_choiceOf_53 : decode cX5_choiceOf 53 = .ok (.iload_n 2, 1) := by decide +kernel
theorem dX5_choiceOf_54 : decode cX5_choiceOf 54 = .ok (.invokevirtual 152, 3) := by decide +kernel
theorem dX5_choiceOf_57 : decode cX5_choiceOf 57 = .ok (.if_icmp .le 8, 3) := by decide +kernel
theorem dX5_choiceOf_60 : decode cX5_choiceOf 60 = .ok (.iload 4, 2) := by decide +kernel
theorem dX5_choiceOf_62 : decode cX5_choiceOf 62 = .ok (.goto 4, 3) := by decide +kernel
theorem dX5_choiceOf_65 : decode cX5_choiceOf 65 = .ok (.iload_n 3, 1) := by decide +kernel
theorem dX5_choiceOf_66 : decode cX5_choiceOf 66 = .ok (.istore_n 3, 1) := by decide +kernel
theorem dX5_choiceOf_67 : decode cX5_choiceOf 67 = .ok (.iinc 4 1, 3) := by decide +kernel
theorem dX5_choiceOf_70 : decode cX5_choiceOf 70 = .ok (.goto (-65), 3) := by decide +kernel
theorem dX5_choiceOf_73 : decode cX5_choiceOf 73 = .ok (.iload_n 3, 1) := by decide +kernel
theorem dX5_choiceOf_74 : decode cX5_choiceOf 74 = .ok (.ireturn, 1) := by decide +kernel
set_option maxRecDepth 20000 in
theorem ggX5_payerOf_X5_doesChange : GoodIn wsX5_payerOf wsX5_doesChange := goodIn_r _ [5, 6, 7, 8, 9, 10, 4, 11, 12, 13, 14, 15, 16, 17, 18, 19, 20, 21, 22, 23, 24, 25, 26, 27, 28, 29, 30, 31, 32, 33, 34, 35, 36, 37, 38, 39, 40, 41, 42, 43, 44, 45, 46, 47] (by decide +kernel) (by decide +kernel)
set_option maxRecDepth 20000 in
theorem gX5_payerOf_X5_doesChange : GoodIn wsX5_payerOf (wsV RX5 148 RX5 yX5_doesChange wsX5_doesChange) := goodIn_app (goodIn_of _ (by decide +kernel)) ggX5_payerOf_X5_doesChange
theorem dX5_payerOf_0 : decode cX5_payerOf 0 = .ok (.iload_n 1, 1) := by decide +kernel
theorem dX5_payerOf_1 : decode cX5_payerOf 1 = .ok (.iload_n 2, 1) := by decide +kernel
theorem dX5_payerOf_2 : decode cX5_payerOf 2 = .ok (.if_icmp .eq 13, 3) := by decide +kernel
theorem dX5_payerOf_5 : decode cX5_payerOf 5 = .ok (.aload_n 0, 1) := by decide +kernel
theorem dX5_payerOf_6 : decode cX5_payerOf 6 = .ok (.iload_n 1, 1) := by decide +kernel
theorem dX5_payerOf_7 : decode cX5_payerOf 7 = .ok (.iload_n 2, 1) := by decide +kernel
theorem dX5_payerOf_8 : decode cX5_payerOf 8 = .ok (.iload_n 3, 1) := by decide +kernel
theorem dX5_payerOf_9 : decode cX5_payerOf 9 = .ok (.invokevirtual 148, 3) := by decide +kernel
theorem dX5_payerOf_12 : decode cX5_payerOf 12 = .ok (.ifCond .eq 7, 3) := by decide +kernel
theorem dX5_payerOf_15 : decode cX5_payerOf 15 = .ok (.iload_n 1, 1) := by decide +kernel
theorem dX5_payerOf_16 : decode cX5_payerOf 16 = .ok (.goto 4, 3) := by decide +kernel
theorem dX5_payerOf_19 : decode cX5_payerOf 19 = .ok (.iload_n 2, 1) := by decide +kernel
theorem dX5_payerOf_20 : decode cX5_payerOf 20 = .ok (.ireturn, 1) := by decide +kernel
set_option maxRecDepth 20000 in
theorem ggX5_richest_X5_worthOf : GoodIn wsX5_richest wsX5_worthOf := goodIn_r _ [6, 7, 8, 9, 10, 11, 5, 12, 13, 14, 15, 16, 17, 18, 19, 20, 21, 22, 23, 24, 25, 26, 27, 28, 29, 30, 31, 32, 33, 34, 35, 36, 37, 38] (by decide +kernel) (by decide +kernel)
set_option maxRecDepth 20000 in
theorem gX5_richest_X5_worthOf : GoodIn wsX5_richest (wsV RX5 128 RX5 yX5_worthOf wsX5_worthOf) := goodIn_app (goodIn_of _ (by decide +kernel)) ggX5_richest_X5_worthOf
theorem dX5_richest_0 : decode cX5_richest 0 = .ok (.iconst 0, 1) := by decide +kernel
theorem dX5_richest_1 : decode cX5_richest 1 = .ok (.istore_n 1, 1) := by decide +kernel
theorem dX5_richest_2 : decode cX5_richest 2 = .ok (.iconst 1, 1) := by decide +kernel
theorem dX5_richest_3 : decode cX5_richest 3 = .ok (.istore_n 2, 1) := by decide +kernel
theorem dX5_richest_4 : decode cX5_richest 4 = .ok (.iload_n 2, 1) := by decide +kernel
theorem dX5_richest_5 : decode cX5_richest 5 = .ok (.aload_n 0, 1) := by decide +kernel
theorem dX5_richest_6 : decode cX5_richest 6 = .ok (.getfield 68, 3) := by decide +kernel
theorem dX5_richest_9 : decode cX5_richest 9 = .ok (.if_icmp .ge 28, 3) := by decide +kernel
theorem dX5_richest_12 : decode cX5_richest 12 = .ok (.aload_n 0, 1) := by decide +kernel
theorem dX5_richest_13 : decode cX5_richest 13 = .ok (.iload_n 2, 1) := by decide +kernel
theorem dX5_richest_14 : decode cX5_richest 14 = .ok (.invokevirtual 128, 3) := by decide +kernel
theorem dX5_richest_17 : decode cX5_richest 17 = .ok (.aload_n 0, 1) := by decide +kernel
theorem dX5_richest_18 : decode cX5_richest 18 = .ok (.iload_n 1, 1) := by decide +kernel
theorem dX5_richest_19 : decode cX5_richest 19 = .ok (.invokevirtual 128, 3) := by decide +kernel
theorem dX5_richest_22 : decode cX5_richest 22 = .ok (.if_icmp .le 7, 3) := by decide +kernel
theorem dX5_richest_25 : decode cX5_richest 25 = .ok (.iload_n 2, 1) := by decide +kernel
theorem dX5_richest_26 : decode cX5_richest 26 = .ok (.goto 4, 3) := by decide +kernel
theorem dX5_richest_29 : decode cX5_richest 29 = .ok (.iload_n 1, 1) := by decide +kernel
theorem dX5_richest_30 : decode cX5_richest 30 = .ok (.istore_n 1, 1) := by decide +kernel
theorem dX5_richest_31 : decode cX5_richest 31 = .ok (.iinc 2 1, 3) := by decide +kernel
theorem dX5_richest_34 : decode cX5_richest 34 = .ok (.goto (-30), 3) := by decide +kernel
theorem dX5_richest_37 : decode cX5_richest 37 = .ok (.iload_n 1, 1) := by decide +kernel
theorem dX5_richest_38 : decode cX5_richest 38 = .ok (.ireturn, 1) := by decide +kernel
set_option maxRecDepth 20000 in
theorem ggX5_isFair_X5_payerOf : GoodIn wsX5_isFair wsX5_payerOf := goodIn_r _ [5, 6, 7, 8, 4, 9, 10, 11, 12, 13, 14, 15, 16, 17, 18, 19, 20, 21, 22, 23, 24, 25, 26, 36, 37, 38, 39, 40, 41, 42, 43, 44, 45, 46, 47, 48, 49, 50, 51, 52, 53, 54, 55, 56, 57, 58, 59, 60] (by decide +kernel) (by decide +kernel)
set_option maxRecDepth 20000 in
theorem gX5_isFair_X5_payerOf : GoodIn wsX5_isFair (wsV RX5 155 RX5 yX5_payerOf wsX5_payerOf) := goodIn_app (goodIn_of _ (by decide +kernel)) ggX5_isFair_X5_payerOf
set_option maxRecDepth 20000 in
theorem ggX5_isFair_X5_richest : GoodIn wsX5_isFair wsX5_richest := goodIn_r _ [30, 31, 32, 33, 34, 4, 35, 10, 11, 12, 13, 14, 15, 16, 36, 37, 38, 39, 40, 41, 42, 43, 44, 45, 46, 47, 48, 49, 50, 51, 52, 53, 54, 55, 56, 57, 58, 59, 60] (by decide +kernel) (by decide +kernel)
set_option maxRecDepth 20000 in
theorem gX5_isFair_X5_richest : GoodIn wsX5_isFair (wsV RX5 158 RX5 yX5_richest wsX5_richest) := goodIn_app (goodIn_of _ (by decide +kernel)) ggX5_isFair_X5_richest
theorem dX5_isFair_0 : decode cX5_isFair 0 = .ok (.aload_n 0, 1) := by decide +kernel
theorem dX5_isFair_1 : decode cX5_isFair 1 = .ok (.iload_n 1, 1) := by decide +kernel
theorem dX5_isFair_2 : decode cX5_isFair 2 = .ok (.iload_n 2, 1) := by decide +kernel
theorem dX5_isFair_3 : decode cX5_isFair 3 = .ok (.iload_n 3, 1) := by decide +kernel
theorem dX5_isFair_4 : decode cX5_isFair 4 = .ok (.invokevirtual 155, 3) := by decide +kernel
theorem dX5_isFair_7 : decode cX5_isFair 7 = .ok (.aload_n 0, 1) := by decide +kernel
theorem dX5_isFair_8 : decode cX5_isFair 8 = .ok (.invokevirtual 158, 3) := by decide +kernel
theorem dX5_isFair_11 : decode cX5_isFair 11 = .ok (.if_icmp .ne 7, 3) := by decide +kernel
theorem dX5_isFair_14 : decode cX5_isFair 14 = .ok (.iconst 1, 1) := by decide +kernel
theorem dX5_isFair_15 : decode cX5_isFair 15 = .ok (.goto 4, 3) := by decide +kernel
theorem dX5_isFair_18 : decode cX5_isFair 18 = .ok (.iconst 0, 1) := by decide +kernel
theorem dX5_isFair_19 : decode cX5_isFair 19 = .ok (.ireturn, 1) := by decide +kernel
set_option maxRecDepth 20000 in
theorem ggX5_choice_X5_noHouse : GoodIn wsX5_choice wsX5_noHouse := goodIn_r _ [5, 6, 7, 8, 4, 9, 63, 64, 65, 66, 67, 68, 69, 70, 71, 72, 73, 74, 75, 76, 77, 78, 79, 80, 81, 82, 83, 84, 85, 86, 87] (by decide +kernel) (by decide +kernel)
set_option maxRecDepth 20000 in
theorem gX5_choice_X5_noHouse : GoodIn wsX5_choice (wsV RX5 125 RX5 yX5_noHouse wsX5_noHouse) := goodIn_app (goodIn_of _ (by decide +kernel)) ggX5_choice_X5_noHouse
set_option maxRecDepth 20000 in
theorem ggX5_choice_X5_noCost : GoodIn wsX5_choice wsX5_noCost := goodIn_r _ [12, 13, 7, 8, 4, 9] (by decide +kernel) (by decide +kernel)
set_option maxRecDepth 20000 in
theorem gX5_choice_X5_noCost : GoodIn wsX5_choice (va_wsS RX5 145 yX5_noCost wsX5_noCost) := goodIn_app (goodIn_of _ (by decide +kernel)) ggX5_choice_X5_noCost
set_option maxRecDepth 20000 in
theorem ggX5_choice_X5_choiceOf : GoodIn wsX5_choice wsX5_choiceOf := goodIn_r _ [17, 6, 18, 19, 20, 4, 21, 22, 23, 24, 25, 26, 27, 28, 29, 30, 31, 32, 33, 34, 35, 36, 37, 38, 39, 40, 41, 42, 43, 44, 45, 46, 47, 48, 49, 50, 63, 64, 65, 66, 67, 68, 69, 70, 71, 72, 73, 74, 75, 76, 77, 78, 79, 80, 81, 82, 83, 84, 85, 86, 87] (by decide +kernel) (by decide +kernel)
set_option maxRecDepth 20000 in
theorem gX5_choice_X5_choiceOf : GoodIn wsX5_choice (wsV RX5 162 RX5 yX5_choiceOf wsX5_choiceOf) := goodIn_app (goodIn_of _ (by decide +kernel)) ggX5_choice_X5_choiceOf
set_option maxRecDepth 20000 in
theorem ggX5_choice_X5_worthBy : GoodIn wsX5_choice wsX5_worthBy := goodIn_r _ [26, 27, 28, 29, 4, 30, 22, 31, 32, 33, 34, 35, 36, 37, 38, 39, 40, 41, 42, 43, 44, 45, 46, 47, 48, 49, 50, 63, 64, 65, 66, 67, 68, 69, 70, 71, 72, 73, 74, 75, 76, 77, 78, 79, 80, 81, 82, 83, 84, 85, 86, 87] (by decide +kernel) (by decide +kernel)
set_option maxRecDepth 20000 in
theorem gX5_choice_X5_worthBy : GoodIn wsX5_choice (wsV RX5 152 RX5 yX5_worthBy wsX5_worthBy) := goodIn_app (goodIn_of _ (by decide +kernel)) ggX5_choice_X5_worthBy
set_option maxRecDepth 20000 in
theorem ggX5_choice_X5_payerOf : GoodIn wsX5_choice wsX5_payerOf := goodIn_r _ [54, 43, 44, 45, 4, 46, 22, 31, 38, 39, 40, 41, 42, 27, 28, 29, 30, 32, 33, 34, 35, 36, 37, 63, 64, 65, 66, 67, 68, 69, 70, 71, 72, 73, 74, 75, 76, 77, 78, 79, 80, 81, 82, 83, 84, 85, 86, 87] (by decide +kernel) (by decide +kernel)
set_option maxRecDepth 20000 in
theorem gX5_choice_X5_payerOf : GoodIn wsX5_choice (wsV RX5 155 RX5 yX5_payerOf wsX5_payerOf) := goodIn_app (goodIn_of _ (by decide +kernel)) ggX5_choice_X5_payerOf
set_option maxRecDepth 20000 in
theorem ggX5_choice_X5_isFair : GoodIn wsX5_choice wsX5_isFair := goodIn_r _ [58, 51, 52, 53, 4, 54, 43, 44, 45, 46, 22, 31, 38, 39, 40, 41, 42, 27, 28, 29, 30, 32, 33, 34, 35, 36, 37, 59, 60, 61, 62, 6, 47, 48, 49, 50, 63, 64, 65, 66, 67, 68, 69, 70, 71, 72, 73, 74, 75, 76, 77, 78, 79, 80, 81, 82, 83, 84, 85, 86, 87] (by decide +kernel) (by decide +kernel)
set_option maxRecDepth 20000 in
theorem gX5_choice_X5_isFair : GoodIn wsX5_choice (wsV RX5 165 RX5 yX5_isFair wsX5_isFair) := goodIn_app (goodIn_of _ (by decide +kernel)) ggX5_choice_X5_isFair
theorem dX5_choice_0 : decode cX5_choice 0 = .ok (.aload_n 0, 1) := by decide +kernel
theorem dX5_choice_1 : decode cX5_choice 1 = .ok (.iload_n 1, 1) := by decide +kernel
theorem dX5_choice_2 : decode cX5_choice 2 = .ok (.invokevirtual 125, 3) := by decide +kernel
theorem dX5_choice_5 : decode cX5_choice 5 = .ok (.ifCond .eq 5, 3) := by decide +kernel
theorem dX5_choice_8 : decode cX5_choice 8 = .ok (.iconst (-1), 1) := by decide +kernel
theorem dX5_choice_9 : decode cX5_choice 9 = .ok (.ireturn, 1) := by decide +kernel
theorem dX5_choice_10 : decode cX5_choice 10 = .ok (.iload_n 2, 1) := by decide +kernel
theorem dX5_choice_11 : decode cX5_choice 11 = .ok (.invokestatic 145, 3) := by decide +kernel
theorem dX5_choice_14 : decode cX5_choice 14 = .ok (.ifCond .eq 6, 3) := by decide +kernel
theorem dX5_choice_17 : decode cX5_choice 17 = .ok (.bipush (-2), 2) := by decide +kernel
theorem dX5_choice_19 : decode cX5_choice 19 = .ok (.ireturn, 1) := by decide +kernel
theorem dX5_choice_20 : decode cX5_choice 20 = .ok (.aload_n 0, 1) := by decide +kernel
theorem dX5_choice_21 : decode cX5_choice 21 = .ok (.iload_n 1, 1) := by decide +kernel
theorem dX5_choice_22 : decode cX5_choice 22 = .ok (.iload_n 2, 1) := by decide +kernel
theorem dX5_choice_23 : decode cX5_choice 23 = .ok (.invokevirtual 162, 3) := by decide +kernel
theorem dX5_choice_26 : decode cX5_choice 26 = .ok (.istore 4, 2) := by decide +kernel
theorem dX5_choice_28 : decode cX5_choice 28 = .ok (.iload_n 3, 1) := by decide +kernel
theorem dX5_choice_29 : decode cX5_choice 29 = .ok (.tableswitch 69 0 3 #[31, 34, 43, 52], 31) := by decide +kernel
theorem dX5_choice_60 : decode cX5_choice 60 = .ok (.iload 4, 2) := by decide +kernel
theorem dX5_choice_62 : decode cX5_choice 62 = .ok (.ireturn, 1) := by decide +kernel
theorem dX5_choice_63 : decode cX5_choice 63 = .ok (.aload_n 0, 1) := by decide +kernel
theorem dX5_choice_64 : decode cX5_choice 64 = .ok (.iload_n 1, 1) := by decide +kernel
theorem dX5_choice_65 : decode cX5_choice 65 = .ok (.iload 4, 2) := by decide +kernel
