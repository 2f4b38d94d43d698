theorem dX4_choice_103 : decode cX4_choice 103 = .ok (.iload_n 1, 1) := by decide +kernel
theorem dX4_choice_104 : decode cX4_choice 104 = .ok (.iload 4, 2) := by decide +kernel
theorem dX4_choice_106 : decode cX4_choice 106 = .ok (.iload_n 2, 1) := by decide +kernel
theorem dX4_choice_107 : decode cX4_choice 107 = .ok (.invokevirtual 118, 3) := by decide +kernel
theorem dX4_choice_110 : decode cX4_choice 110 = .ok (.ifCond .eq 7, 3) := by decide +kernel
theorem dX4_choice_113 : decode cX4_choice 113 = .ok (.iconst 1, 1) := by decide +kernel
theorem dX4_choice_114 : decode cX4_choice 114 = .ok (.goto 4, 3) := by decide +kernel
theorem dX4_choice_117 : decode cX4_choice 117 = .ok (.iconst 0, 1) := by decide +kernel
theorem dX4_choice_118 : decode cX4_choice 118 = .ok (.ireturn, 1) := by decide +kernel
set_option maxRecDepth 20000 in
theorem ggX4_year_X2_isSheet : GoodIn wsX4_year wsX2_isSheet := goodIn_r _ [7] (by decide +kernel) (by decide +kernel)
set_option maxRecDepth 20000 in
theorem gX4_year_X2_isSheet : GoodIn wsX4_year (va_wsS RX4 46 yX2_isSheet wsX2_isSheet) := goodIn_app (goodIn_of _ (by decide +kernel)) ggX4_year_X2_isSheet
set_option maxRecDepth 20000 in
theorem ggX4_year_X4_isCost : GoodIn wsX4_year wsX4_isCost := goodIn_r _ [11] (by decide +kernel) (by decide +kernel)
set_option maxRecDepth 20000 in
theorem gX4_year_X4_isCost : GoodIn wsX4_year (va_wsS RX4 102 yX4_isCost wsX4_isCost) := goodIn_app (goodIn_of _ (by decide +kernel)) ggX4_year_X4_isCost
set_option maxRecDepth 20000 in
theorem ggX4_year_X2_isLane : GoodIn wsX4_year wsX2_isLane := goodIn_r _ [14] (by decide +kernel) (by decide +kernel)
set_option maxRecDepth 20000 in
theorem gX4_year_X2_isLane : GoodIn wsX4_year (va_wsS RX4 50 yX2_isLane wsX2_isLane) := goodIn_app (goodIn_of _ (by decide +kernel)) ggX4_year_X2_isLane
set_option maxRecDepth 20000 in
theorem ggX4_year_X3_isAsked : GoodIn wsX4_year wsX3_isAsked := goodIn_r _ [18, 19, 20, 17, 21] (by decide +kernel) (by decide +kernel)
set_option maxRecDepth 20000 in
theorem gX4_year_X3_isAsked : GoodIn wsX4_year (va_wsS RX4 121 yX3_isAsked wsX3_isAsked) := goodIn_app (goodIn_of _ (by decide +kernel)) ggX4_year_X3_isAsked
set_option maxRecDepth 20000 in
theorem ggX4_year_X2_laneFault : GoodIn wsX4_year wsX2_laneFault := goodIn_r _ [25, 26, 27, 28, 29, 6, 30, 155, 156, 157] (by decide +kernel) (by decide +kernel)
set_option maxRecDepth 20000 in
theorem gX4_year_X2_laneFault : GoodIn wsX4_year (wsV RX4 53 RX2 yX2_laneFault wsX2_laneFault) := goodIn_app (goodIn_of _ (by decide +kernel)) ggX4_year_X2_laneFault
set_option maxRecDepth 20000 in
theorem ggX4_year_X2_spanFault : GoodIn wsX4_year wsX2_spanFault := goodIn_r _ [34, 35, 155, 156, 157] (by decide +kernel) (by decide +kernel)
set_option maxRecDepth 20000 in
theorem gX4_year_X2_spanFault : GoodIn wsX4_year (wsV RX4 57 RX2 yX2_spanFault wsX2_spanFault) := goodIn_app (goodIn_of _ (by decide +kernel)) ggX4_year_X2_spanFault
set_option maxRecDepth 20000 in
theorem ggX4_year_X4_failed : GoodIn wsX4_year wsX4_failed := goodIn_r _ [39, 1, 144, 145, 146, 147, 148, 149, 150] (by decide +kernel) (by decide +kernel)
set_option maxRecDepth 20000 in
theorem gX4_year_X4_failed : GoodIn wsX4_year (wsV RX4 61 RX4 yX4_failed wsX4_failed) := goodIn_app (goodIn_of _ (by decide +kernel)) ggX4_year_X4_failed
set_option maxRecDepth 20000 in
theorem ggX4_year_X4_yearOfPairs : GoodIn wsX4_year wsX4_yearOfPairs := goodIn_r _ [43, 3, 44, 2, 45, 46, 47, 10, 48, 49, 50, 51, 52, 53, 54, 55, 56, 57, 17, 58, 59, 60, 61, 62, 63, 64, 65, 66, 67, 68, 69, 70, 71, 72, 73, 74, 75, 76, 77, 78, 79, 80, 81, 82, 83, 84, 85, 86, 87, 88, 89, 90, 91, 92, 93, 94, 95, 96, 97, 98, 99, 100, 101, 102, 103, 104, 105, 106, 107, 108, 109, 110, 111, 112, 113, 114, 115, 116, 117, 118, 119, 120, 121, 122, 123, 124, 125, 126, 127, 128, 129, 130, 131, 132, 133, 134, 135, 136, 137, 138, 139, 140, 141, 142, 143, 144, 145, 146, 147, 148, 149, 150, 155, 156, 157, 158, 159, 160, 161, 151, 152, 153, 154] (by decide +kernel) (by decide +kernel)
set_option maxRecDepth 20000 in
theorem gX4_year_X4_yearOfPairs : GoodIn wsX4_year (wsV RX4 124 RX4 yX4_yearOfPairs wsX4_yearOfPairs) := goodIn_app (goodIn_of _ (by decide +kernel)) ggX4_year_X4_yearOfPairs
theorem dX4_year_0 : decode cX4_year 0 = .ok (.aload_n 0, 1) := by decide +kernel
theorem dX4_year_1 : decode cX4_year 1 = .ok (.iconst 0, 1) := by decide +kernel
theorem dX4_year_2 : decode cX4_year 2 = .ok (.putfield 42, 3) := by decide +kernel
theorem dX4_year_5 : decode cX4_year 5 = .ok (.iload_n 2, 1) := by decide +kernel
theorem dX4_year_6 : decode cX4_year 6 = .ok (.invokestatic 46, 3) := by decide +kernel
theorem dX4_year_9 : decode cX4_year 9 = .ok (.ifCond .ne 5, 3) := by decide +kernel
theorem dX4_year_12 : decode cX4_year 12 = .ok (.iconst (-1), 1) := by decide +kernel
theorem dX4_year_13 : decode cX4_year 13 = .ok (.ireturn, 1) := by decide +kernel
theorem dX4_year_14 : decode cX4_year 14 = .ok (.iload_n 1, 1) := by decide +kernel
theorem dX4_year_15 : decode cX4_year 15 = .ok (.invokestatic 102, 3) := by decide +kernel
theorem dX4_year_18 : decode cX4_year 18 = .ok (.ifCond .eq 30, 3) := by decide +kernel
theorem dX4_year_21 : decode cX4_year 21 = .ok (.iload_n 3, 1) := by decide +kernel
theorem dX4_year_22 : decode cX4_year 22 = .ok (.invokestatic 50, 3) := by decide +kernel
theorem dX4_year_25 : decode cX4_year 25 = .ok (.ifCond .eq 23, 3) := by decide +kernel
theorem dX4_year_28 : decode cX4_year 28 = .ok (.iload 5, 2) := by decide +kernel
theorem dX4_year_30 : decode cX4_year 30 = .ok (.ifCond .lt 18, 3) := by decide +kernel
theorem dX4_year_33 : decode cX4_year 33 = .ok (.iload 5, 2) := by decide +kernel
theorem dX4_year_35 : decode cX4_year 35 = .ok (.bipush 20, 2) := by decide +kernel
theorem dX4_year_37 : decode cX4_year 37 = .ok (.if_icmp .gt 11, 3) := by decide +kernel
theorem dX4_year_40 : decode cX4_year 40 = .ok (.iload 6, 2) := by decide +kernel
theorem dX4_year_42 : decode cX4_year 42 = .ok (.invokestatic 121, 3) := by decide +kernel
theorem dX4_year_45 : decode cX4_year 45 = .ok (.ifCond .ne 6, 3) := by decide +kernel
theorem dX4_year_48 : decode cX4_year 48 = .ok (.bipush (-2), 2) := by decide +kernel
theorem dX4_year_50 : decode cX4_year 50 = .ok (.ireturn, 1) := by decide +kernel
theorem dX4_year_51 : decode cX4_year 51 = .ok (.aload_n 0, 1) := by decide +kernel
theorem dX4_year_52 : decode cX4_year 52 = .ok (.getfield 12, 3) := by decide +kernel
theorem dX4_year_55 : decode cX4_year 55 = .ok (.getfield 72, 3) := by decide +kernel
theorem dX4_year_58 : decode cX4_year 58 = .ok (.ifCond .ne 6, 3) := by decide +kernel
theorem dX4_year_61 : decode cX4_year 61 = .ok (.bipush (-3), 2) := by decide +kernel
theorem dX4_year_63 : decode cX4_year 63 = .ok (.ireturn, 1) := by decide +kernel
theorem dX4_year_64 : decode cX4_year 64 = .ok (.aload_n 0, 1) := by decide +kernel
theorem dX4_year_65 : decode cX4_year 65 = .ok (.getfield 38, 3) := by decide +kernel
theorem dX4_year_68 : decode cX4_year 68 = .ok (.iload_n 2, 1) := by decide +kernel
theorem dX4_year_69 : decode cX4_year 69 = .ok (.iload_n 3, 1) := by decide +kernel
theorem dX4_year_70 : decode cX4_year 70 = .ok (.invokevirtual 53, 3) := by decide +kernel
theorem dX4_year_73 : decode cX4_year 73 = .ok (.istore 7, 2) := by decide +kernel
theorem dX4_year_75 : decode cX4_year 75 = .ok (.iload 7, 2) := by decide +kernel
theorem dX4_year_77 : decode cX4_year 77 = .ok (.ifCond .ne 19, 3) := by decide +kernel
theorem dX4_year_80 : decode cX4_year 80 = .ok (.aload_n 0, 1) := by decide +kernel
theorem dX4_year_81 : decode cX4_year 81 = .ok (.getfield 38, 3) := by decide +kernel
theorem dX4_year_84 : decode cX4_year 84 = .ok (.iload_n 2, 1) := by decide +kernel
theorem dX4_year_85 : decode cX4_year 85 = .ok (.iload 4, 2) := by decide +kernel
theorem dX4_year_87 : decode cX4_year 87 = .ok (.iconst 2, 1) := by decide +kernel
theorem dX4_year_88 : decode cX4_year 88 = .ok (.iload 5, 2) := by decide +kernel
theorem dX4_year_90 : decode cX4_year 90 = .ok (.imul, 1) := by decide +kernel
theorem dX4_year_91 : decode cX4_year 91 = .ok (.invokevirtual 57, 3) := by decide +kernel
theorem dX4_year_94 : decode cX4_year 94 = .ok (.istore 7, 2) := by decide +kernel
theorem dX4_year_96 : decode cX4_year 96 = .ok (.iload 7, 2) := by decide +kernel
theorem dX4_year_98 : decode cX4_year 98 = .ok (.ifCond .eq 10, 3) := by decide +kernel
theorem dX4_year_101 : decode cX4_year 101 = .ok (.aload_n 0, 1) := by decide +kernel
theorem dX4_year_102 : decode cX4_year 102 = .ok (.iload 7, 2) := by decide +kernel
theorem dX4_year_104 : decode cX4_year 104 = .ok (.invokevirtual 61, 3) := by decide +kernel
theorem dX4_year_107 : decode cX4_year 107 = .ok (.ireturn, 1) := by decide +kernel
theorem dX4_year_108 : decode cX4_year 108 = .ok (.aload_n 0, 1) := by decide +kernel
theorem dX4_year_109 : decode cX4_year 109 = .ok (.iload_n 1, 1) := by decide +kernel
theorem dX4_year_110 : decode cX4_year 110 = .ok (.iload_n 2, 1) := by decide +kernel
theorem dX4_year_111 : decode cX4_year 111 = .ok (.iload 4, 2) := by decide +kernel
theorem dX4_year_113 : decode cX4_year 113 = .ok (.iload 5, 2) := by decide +kernel
theorem dX4_year_115 : decode cX4_year 115 = .ok (.iload 6, 2) := by decide +kernel
theorem dX4_year_117 : decode cX4_year 117 = .ok (.invokevirtual 124, 3) := by decide +kernel
theorem dX4_year_120 : decode cX4_year 120 = .ok (.ireturn, 1) := by decide +kernel
set_option maxRecDepth 20000 in
theorem ggX4_name_X0_has : GoodIn wsX4_name wsX0_has := goodIn_r _ [6, 7, 69, 70, 71, 72] (by decide +kernel) (by decide +kernel)
set_option maxRecDepth 20000 in
theorem gX4_name_X0_has : GoodIn wsX4_name (wsV RX4 75 RX0 yX0_has wsX0_has) := goodIn_app (goodIn_of _ (by decide +kernel)) ggX4_name_X0_has
set_option maxRecDepth 20000 in
theorem ggX4_name_X4_isCost : GoodIn wsX4_name wsX4_isCost := goodIn_r _ [11] (by decide +kernel) (by decide +kernel)
set_option maxRecDepth 20000 in
theorem gX4_name_X4_isCost : GoodIn wsX4_name (va_wsS RX4 102 yX4_isCost wsX4_isCost) := goodIn_app (goodIn_of _ (by decide +kernel)) ggX4_name_X4_isCost
set_option maxRecDepth 20000 in
theorem ggX4_name_X0_chosenBy : GoodIn wsX4_name wsX0_chosenBy := goodIn_r _ [15, 7, 16, 17, 18, 5, 19, 20, 21, 22, 23, 24, 25, 26, 27, 28, 29, 30, 31, 32, 33, 34, 35, 36, 37, 38, 39, 40, 41, 69, 70, 71, 72] (by decide +kernel) (by decide +kernel)
set_option maxRecDepth 20000 in
theorem gX4_name_X0_chosenBy : GoodIn wsX4_name (wsV RX4 109 RX0 yX0_chosenBy wsX0_chosenBy) := goodIn_app (goodIn_of _ (by decide +kernel)) ggX4_name_X0_chosenBy
set_option maxRecDepth 20000 in
theorem ggX4_name_X0_payer : GoodIn wsX4_name wsX0_payer := goodIn_r _ [45, 21, 22, 23, 5, 24, 20, 25, 26, 27, 28, 29, 30, 31, 32, 33, 34, 35, 36, 37, 69, 70, 71, 72] (by decide +kernel) (by decide +kernel)
set_option maxRecDepth 20000 in
theorem gX4_name_X0_payer : GoodIn wsX4_name (wsV RX4 115 RX0 yX0_payer wsX0_payer) := goodIn_app (goodIn_of _ (by decide +kernel)) ggX4_name_X0_payer
set_option maxRecDepth 20000 in
theorem ggX4_name_X0_carryOut : GoodIn wsX4_name wsX0_carryOut := goodIn_r _ [49, 21, 22, 23, 5, 24, 20, 25, 26, 27, 28, 29, 30, 31, 32, 33, 34, 35, 36, 37, 50, 51, 52, 53, 54, 55, 56, 57, 58, 59, 60, 61, 69, 70, 71, 72] (by decide +kernel) (by decide +kernel)
set_option maxRecDepth 20000 in
theorem gX4_name_X0_carryOut : GoodIn wsX4_name (wsV RX4 128 RX0 yX0_carryOut wsX0_carryOut) := goodIn_app (goodIn_of _ (by decide +kernel)) ggX4_name_X0_carryOut
theorem dX4_name_0 : decode cX4_name 0 = .ok (.aload_n 0, 1) := by decide +kernel
theorem dX4_name_1 : decode cX4_name 1 = .ok (.getfield 12, 3) := by decide +kernel
theorem dX4_name_4 : decode cX4_name 4 = .ok (.iload_n 1, 1) := by decide +kernel
theorem dX4_name_5 : decode cX4_name 5 = .ok (.invokevirtual 75, 3) := by decide +kernel
theorem dX4_name_8 : decode cX4_name 8 = .ok (.ifCond .ne 5, 3) := by decide +kernel
theorem dX4_name_11 : decode cX4_name 11 = .ok (.iconst (-1), 1) := by decide +kernel
theorem dX4_name_12 : decode cX4_name 12 = .ok (.ireturn, 1) := by decide +kernel
theorem dX4_name_13 : decode cX4_name 13 = .ok (.iload_n 2, 1) := by decide +kernel
theorem dX4_name_14 : decode cX4_name 14 = .ok (.invokestatic 102, 3) := by decide +kernel
theorem dX4_name_17 : decode cX4_name 17 = .ok (.ifCond .ne 6, 3) := by decide +kernel
theorem dX4_name_20 : decode cX4_name 20 = .ok (.bipush (-2), 2) := by decide +kernel
theorem dX4_name_22 : decode cX4_name 22 = .ok (.ireturn, 1) := by decide +kernel
theorem dX4_name_23 : decode cX4_name 23 = .ok (.aload_n 0, 1) := by decide +kernel
theorem dX4_name_24 : decode cX4_name 24 = .ok (.getfield 12, 3) := by decide +kernel
theorem dX4_name_27 : decode cX4_name 27 = .ok (.iload_n 1, 1) := by decide +kernel
theorem dX4_name_28 : decode cX4_name 28 = .ok (.iload_n 2, 1) := by decide +kernel
theorem dX4_name_29 : decode cX4_name 29 = .ok (.invokevirtual 109, 3) := by decide +kernel
theorem dX4_name_32 : decode cX4_name 32 = .ok (.istore_n 3, 1) := by decide +kernel
theorem dX4_name_33 : decode cX4_name 33 = .ok (.aload_n 0, 1) := by decide +kernel
theorem dX4_name_34 : decode cX4_name 34 = .ok (.getfield 12, 3) := by decide +kernel
theorem dX4_name_37 : decode cX4_name 37 = .ok (.iload_n 1, 1) := by decide +kernel
theorem dX4_name_38 : decode cX4_name 38 = .ok (.iload_n 3, 1) := by decide +kernel
theorem dX4_name_39 : decode cX4_name 39 = .ok (.iload_n 2, 1) := by decide +kernel
theorem dX4_name_40 : decode cX4_name 40 = .ok (.invokevirtual 115, 3) := by decide +kernel
theorem dX4_name_43 : decode cX4_name 43 = .ok (.istore 4, 2) := by decide +kernel
theorem dX4_name_45 : decode cX4_name 45 = .ok (.aload_n 0, 1) := by decide +kernel
theorem dX4_name_46 : decode cX4_name 46 = .ok (.getfield 12, 3) := by decide +kernel
theorem dX4_name_49 : decode cX4_name 49 = .ok (.iload_n 1, 1) := by decide +kernel
theorem dX4_name_50 : decode cX4_name 50 = .ok (.iload_n 3, 1) := by decide +kernel
theorem dX4_name_51 : decode cX4_name 51 = .ok (.iload_n 2, 1) := by decide +kernel
theorem dX4_name_52 : decode cX4_name 52 = .ok (.invokevirtual 128, 3) := by decide +kernel
theorem dX4_name_55 : decode cX4_name 55 = .ok (.iload 4, 2) := by decide +kernel
theorem dX4_name_57 : decode cX4_name 57 = .ok (.ireturn, 1) := by decide +kernel
set_option maxRecDepth 20000 in
theorem ggX4_safe_X0_has : GoodIn wsX4_safe wsX0_has := goodIn_r _ [7, 8, 66, 67, 68, 69] (by decide +kernel) (by decide +kernel)
set_option maxRecDepth 20000 in
theorem gX4_safe_X0_has : GoodIn wsX4_safe (wsV RX4 75 RX0 yX0_has wsX0_has) := goodIn_app (goodIn_of _ (by decide +kernel)) ggX4_safe_X0_has
set_option maxRecDepth 20000 in
theorem ggX4_safe_X4_isCost : GoodIn wsX4_safe wsX4_isCost := goodIn_r _ [12] (by decide +kernel) (by decide +kernel)
set_option maxRecDepth 20000 in
theorem gX4_safe_X4_isCost : GoodIn wsX4_safe (va_wsS RX4 102 yX4_isCost wsX4_isCost) := goodIn_app (goodIn_of _ (by decide +kernel)) ggX4_safe_X4_isCost
set_option maxRecDepth 20000 in
theorem ggX4_safe_X0_likeThat : GoodIn wsX4_safe wsX0_likeThat := goodIn_r _ [16, 17, 18, 19, 20, 21, 22, 23, 8, 66, 67, 68, 69] (by decide +kernel) (by decide +kernel)
set_option maxRecDepth 20000 in
theorem gX4_safe_X0_likeThat : GoodIn wsX4_safe (wsV RX4 131 RX0 yX0_likeThat wsX0_likeThat) := goodIn_app (goodIn_of _ (by decide +kernel)) ggX4_safe_X0_likeThat
set_option maxRecDepth 20000 in
theorem ggX4_safe_X0_isPointedAt : GoodIn wsX4_safe wsX0_isPointedAt := goodIn_r _ [27, 8, 28, 29, 30, 6, 31, 32, 33, 34, 35, 17, 36, 37, 38, 39, 40, 41, 42, 43, 22, 23, 44, 45, 46, 47, 48, 49, 50, 51, 52, 53, 54, 66, 67, 68, 69] (by decide +kernel) (by decide +kernel)
set_option maxRecDepth 20000 in
theorem gX4_safe_X0_isPointedAt : GoodIn wsX4_safe (wsV RX4 135 RX0 yX0_isPointedAt wsX0_isPointedAt) := goodIn_app (goodIn_of _ (by decide +kernel)) ggX4_safe_X0_isPointedAt
set_option maxRecDepth 20000 in
theorem ggX4_safe_X0_turnToCoin : GoodIn wsX4_safe wsX0_turnToCoin := goodIn_r _ [58, 22, 23, 66, 67, 68, 69] (by decide +kernel) (by decide +kernel)
set_option maxRecDepth 20000 in
theorem gX4_safe_X0_turnToCoin : GoodIn wsX4_safe (wsV RX4 94 RX0 yX0_turnToCoin wsX0_turnToCoin) := goodIn_app (goodIn_of _ (by decide +kernel)) ggX4_safe_X0_turnToCoin
theorem dX4_safe_0 : decode cX4_safe 0 = .ok (.aload_n 0, 1) := by decide +kernel
theorem dX4_safe_1 : decode cX4_safe 1 = .ok (.getfield 12, 3) := by decide +kernel
theorem dX4_safe_4 : decode cX4_safe 4 = .ok (.iload_n 1, 1) := by decide +kernel
theorem dX4_safe_5 : decode cX4_safe 5 = .ok (.invokevirtual 75, 3) := by decide +kernel
theorem dX4_safe_8 : decode cX4_safe 8 = .ok (.ifCond .ne 5, 3) := by decide +kernel
theorem dX4_safe_11 : decode cX4_safe 11 = .ok (.iconst (-1), 1) := by decide +kernel
theorem dX4_safe_12 : decode cX4_safe 12 = .ok (.ireturn, 1) := by decide +kernel
theorem dX4_safe_13 : decode cX4_safe 13 = .ok (.iload_n 2, 1) := by decide +kernel
theorem dX4_safe_14 : decode cX4_safe 14 = .ok (.invokestatic 102, 3) := by decide +kernel
theorem dX4_safe_17 : decode cX4_safe 17 = .ok (.ifCond .ne 6, 3) := by decide +kernel
theorem dX4_safe_20 : decode cX4_safe 20 = .ok (.bipush (-2), 2) := by decide +kernel
theorem dX4_safe_22 : decode cX4_safe 22 = .ok (.ireturn, 1) := by decide +kernel
theorem dX4_safe_23 : decode cX4_safe 23 = .ok (.aload_n 0, 1) := by decide +kernel
theorem dX4_safe_24 : decode cX4_safe 24 = .ok (.getfield 18, 3) := by decide +kernel
theorem dX4_safe_27 : decode cX4_safe 27 = .ok (.aload_n 0, 1) := by decide +kernel
theorem dX4_safe_28 : decode cX4_safe 28 = .ok (.getfield 12, 3) := by decide +kernel
theorem dX4_safe_31 : decode cX4_safe 31 = .ok (.invokevirtual 131, 3) := by decide +kernel
theorem dX4_safe_34 : decode cX4_safe 34 = .ok (.aload_n 0, 1) := by decide +kernel
theorem dX4_safe_35 : decode cX4_safe 35 = .ok (.getfield 12, 3) := by decide +kernel
theorem dX4_safe_38 : decode cX4_safe 38 = .ok (.getfield 82, 3) := by decide +kernel
theorem dX4_safe_41 : decode cX4_safe 41 = .ok (.iload_n 1, 1) := by decide +kernel
theorem dX4_safe_42 : decode cX4_safe 42 = .ok (.iaload, 1) := by decide +kernel
theorem dX4_safe_43 : decode cX4_safe 43 = .ok (.istore_n 3, 1) := by decide +kernel
theorem dX4_safe_44 : decode cX4_safe 44 = .ok (.iconst 0, 1) := by decide +kernel
theorem dX4_safe_45 : decode cX4_safe 45 = .ok (.istore 4, 2) := by decide +kernel
theorem dX4_safe_47 : decode cX4_safe 47 = .ok (.iload 4, 2) := by decide +kernel
theorem dX4_safe_49 : decode cX4_safe 49 = .ok (.iload_n 3, 1) := by decide +kernel
theorem dX4_safe_50 : decode cX4_safe 50 = .ok (.if_icmp .gt 33, 3) := by decide +kernel
theorem dX4_safe_53 : decode cX4_safe 53 = .ok (.aload_n 0, 1) := by decide +kernel
theorem dX4_safe_54 : decode cX4_safe 54 = .ok (.getfield 18, 3) := by decide +kernel
theorem dX4_safe_57 : decode cX4_safe 57 = .ok (.iload_n 1, 1) := by decide +kernel
theorem dX4_safe_58 : decode cX4_safe 58 = .ok (.iload_n 2, 1) := by decide +kernel
theorem dX4_safe_59 : decode cX4_safe 59 = .ok (.invokevirtual 135, 3) := by decide +kernel
theorem dX4_safe_62 : decode cX4_safe 62 = .ok (.ifCond .ne 6, 3) := by decide +kernel
theorem dX4_safe_65 : decode cX4_safe 65 = .ok (.iload 4, 2) := by decide +kernel
theorem dX4_safe_67 : decode cX4_safe 67 = .ok (.ireturn, 1) := by decide +kernel
theorem dX4_safe_68 : decode cX4_safe 68 = .ok (.aload_n 0, 1) := by decide +kernel
theorem dX4_safe_69 : decode cX4_safe 69 = .ok (.getfield 18, 3) := by decide +kernel
theorem dX4_safe_72 : decode cX4_safe 72 = .ok (.iload_n 1, 1) := by decide +kernel
theorem dX4_safe_73 : decode cX4_safe 73 = .ok (.iconst 1, 1) := by decide +kernel
theorem dX4_safe_74 : decode cX4_safe 74 = .ok (.invokevirtual 94, 3) := by decide +kernel
theorem dX4_safe_77 : decode cX4_safe 77 = .ok (.iinc 4 1, 3) := by decide +kernel
theorem dX4_safe_80 : decode cX4_safe 80 = .ok (.goto (-33), 3) := by decide +kernel
theorem dX4_safe_83 : decode cX4_safe 83 = .ok (.bipush (-9), 2) := by decide +kernel
theorem dX4_safe_85 : decode cX4_safe 85 = .ok (.ireturn, 1) := by decide +kernel
set_option maxRecDepth 20000 in
theorem ggX4_reading_X0_has : GoodIn wsX4_reading wsX0_has := goodIn_r _ [7, 8, 33, 34, 35, 36] (by decide +kernel) (by decide +kernel)
set_option maxRecDepth 20000 in
theorem gX4_reading_X0_has : GoodIn wsX4_reading (wsV RX4 75 RX0 yX0_has wsX0_has) := goodIn_app (goodIn_of _ (by decide +kernel)) ggX4_reading_X0_has
set_option maxRecDepth 20000 in
theorem ggX4_reading_X4_isCost : GoodIn wsX4_reading wsX4_isCost := goodIn_r _ [12] (by decide +kernel) (by decide +kernel)
set_option maxRecDepth 20000 in
theorem gX4_reading_X4_isCost : GoodIn wsX4_reading (va_wsS RX4 102 yX4_isCost wsX4_isCost) := goodIn_app (goodIn_of _ (by decide +kernel)) ggX4_reading_X4_isCost
set_option maxRecDepth 20000 in
theorem ggX4_reading_X1_add : GoodIn wsX4_reading wsX1_add := goodIn_r _ [17, 18, 19, 20, 21, 29, 30, 31, 32] (by decide +kernel) (by decide +kernel)
set_option maxRecDepth 20000 in
theorem gX4_reading_X1_add : GoodIn wsX4_reading (wsV RX4 141 RX1 yX1_add wsX1_add) := goodIn_app (goodIn_of _ (by decide +kernel)) ggX4_reading_X1_add
theorem dX4_reading_0 : decode cX4_reading 0 = .ok (.aload_n 0, 1) := by decide +kernel
theorem dX4_reading_1 : decode cX4_reading 1 = .ok (.getfield 12, 3) := by decide +kernel
theorem dX4_reading_4 : decode cX4_reading 4 = .ok (.iload_n 1, 1) := by decide +kernel
theorem dX4_reading_5 : decode cX4_reading 5 = .ok (.invokevirtual 75, 3) := by decide +kernel
theorem dX4_reading_8 : decode cX4_reading 8 = .ok (.ifCond .eq 14, 3) := by decide +kernel
theorem dX4_reading_11 : decode cX4_reading 11 = .ok (.aload_n 0, 1) := by decide +kernel
theorem dX4_reading_12 : decode cX4_reading 12 = .ok (.getfield 12, 3) := by decide +kernel
theorem dX4_reading_15 : decode cX4_reading 15 = .ok (.iload_n 3, 1) := by decide +kernel
theorem dX4_reading_16 : decode cX4_reading 16 = .ok (.invokevirtual 75, 3) := by decide +kernel
theorem dX4_reading_19 : decode cX4_reading 19 = .ok (.ifCond .ne 5, 3) := by decide +kernel
theorem dX4_reading_22 : decode cX4_reading 22 = .ok (.iconst (-1), 1) := by decide +kernel
theorem dX4_reading_23 : decode cX4_reading 23 = .ok (.ireturn, 1) := by decide +kernel
theorem dX4_reading_24 : decode cX4_reading 24 = .ok (.iload_n 2, 1) := by decide +kernel
theorem dX4_reading_25 : decode cX4_reading 25 = .ok (.invokestatic 102, 3) := by decide +kernel
theorem dX4_reading_28 : decode cX4_reading 28 = .ok (.ifCond .ne 6, 3) := by decide +kernel
theorem dX4_reading_31 : decode cX4_reading 31 = .ok (.bipush (-2), 2) := by decide +kernel
theorem dX4_reading_33 : decode cX4_reading 33 = .ok (.ireturn, 1) := by decide +kernel
theorem dX4_reading_34 : decode cX4_reading 34 = .ok (.aload_n 0, 1) := by decide +kernel
theorem dX4_reading_35 : decode cX4_reading 35 = .ok (.getfield 31, 3) := by decide +kernel
theorem dX4_reading_38 : decode cX4_reading 38 = .ok (.getfield 138, 3) := by decide +kernel
theorem dX4_reading_41 : decode cX4_reading 41 = .ok (.bipush 8, 2) := by decide +kernel
theorem dX4_reading_43 : decode cX4_reading 43 = .ok (.if_icmp .lt 6, 3) := by decide +kernel
theorem dX4_reading_46 : decode cX4_reading 46 = .ok (.bipush (-4), 2) := by decide +kernel
theorem dX4_reading_48 : decode cX4_reading 48 = .ok (.ireturn, 1) := by decide +kernel
theorem dX4_reading_49 : decode cX4_reading 49 = .ok (.aload_n 0, 1) := by decide +kernel
theorem dX4_reading_50 : decode cX4_reading 50 = .ok (.getfield 31, 3) := by decide +kernel
theorem dX4_reading_53 : decode cX4_reading 53 = .ok (.iload_n 1, 1) := by decide +kernel
theorem dX4_reading_54 : decode cX4_reading 54 = .ok (.iload_n 2, 1) := by decide +kernel
theorem dX4_reading_55 : decode cX4_reading 55 = .ok (.iload_n 3, 1) := by decide +kernel
theorem dX4_reading_56 : decode cX4_reading 56 = .ok (.invokevirtual 141, 3) := by decide +kernel
theorem dX4_reading_59 : decode cX4_reading 59 = .ok (.ireturn, 1) := by decide +kernel
theorem dX4_back_0 : decode cX4_back 0 = .ok (.iload_n 1, 1) := by decide +kernel
theorem dX4_back_1 : decode cX4_back 1 = .ok (.ifCond .lt 14, 3) := by decide +kernel
theorem dX4_back_4 : decode cX4_back 4 = .ok (.iload_n 1, 1) := by decide +kernel
theorem dX4_back_5 : decode cX4_back 5 = .ok (.aload_n 0, 1) := by decide +kernel
theorem dX4_back_6 : decode cX4_back 6 = .ok (.getfield 31, 3) := by decide +kernel
theorem dX4_back_9 : decode cX4_back 9 = .ok (.getfield 138, 3) := by decide +kernel
theorem dX4_back_12 : decode cX4_back 12 = .ok (.if_icmp .le 6, 3) := by decide +kernel
theorem dX4_back_15 : decode cX4_back 15 = .ok (.bipush (-2), 2) := by decide +kernel
theorem dX4_back_17 : decode cX4_back 17 = .ok (.ireturn, 1) := by decide +kernel
theorem dX4_back_18 : decode cX4_back 18 = .ok (.aload_n 0, 1) := by decide +kernel
theorem dX4_back_19 : decode cX4_back 19 = .ok (.getfield 31, 3) := by decide +kernel
theorem dX4_back_22 : decode cX4_back 22 = .ok (.dup, 1) := by decide +kernel
theorem dX4_back_23 : decode cX4_back 23 = .ok (.getfield 138, 3) := by decide +kernel
theorem dX4_back_26 : decode cX4_back 26 = .ok (.iload_n 1, 1) := by decide +kernel
theorem dX4_back_27 : decode cX4_back 27 = .ok (.isub, 1) := by decide +kernel
theorem dX4_back_28 : decode cX4_back 28 = .ok (.putfield 138, 3) := by decide +kernel
theorem dX4_back_31 : decode cX4_back 31 = .ok (.aload_n 0, 1) := by decide +kernel
theorem dX4_back_32 : decode cX4_back 32 = .ok (.getfield 31, 3) := by decide +kernel
theorem dX4_back_35 : decode cX4_back 35 = .ok (.getfield 138, 3) := by decide +kernel
theorem dX4_back_38 : decode cX4_back 38 = .ok (.ireturn, 1) := by decide +kernel
set_option maxRecDepth 20000 in
theorem ggX4_lands_X0_has : GoodIn wsX4_lands wsX0_has := goodIn_r _ [6, 7, 73, 74, 75, 76] (by decide +kernel) (by decide +kernel)
set_option maxRecDepth 20000 in
theorem gX4_lands_X0_has : GoodIn wsX4_lands (wsV RX4 75 RX0 yX0_has wsX0_has) := goodIn_app (goodIn_of _ (by decide +kernel)) ggX4_lands_X0_has
set_option maxRecDepth 20000 in
theorem ggX4_lands_X4_possible : GoodIn wsX4_lands wsX4_possible := goodIn_r _ [12, 13, 1, 14, 15, 16, 17, 5, 18, 19, 20, 21, 22, 23, 24, 25, 7, 26, 27, 28, 29, 30, 31, 32, 33, 34, 35, 36, 37, 38, 39, 40, 41, 42, 43, 44, 45, 46, 47, 48, 49, 50, 51, 52, 53, 54, 55, 56, 57, 58, 59, 60, 61, 62, 63, 64, 65, 66, 67, 68, 69, 70, 71, 72, 73, 74, 75, 76, 77, 78, 79, 80] (by decide +kernel) (by decide +kernel)
set_option maxRecDepth 20000 in
theorem gX4_lands_X4_possible : GoodIn wsX4_lands (wsV RX4 144 RX4 yX4_possible wsX4_possible) := goodIn_app (goodIn_of _ (by decide +kernel)) ggX4_lands_X4_possible
theorem dX4_lands_0 : decode cX4_lands 0 = .ok (.aload_n 0, 1) := by decide +kernel
theorem dX4_lands_1 : decode cX4_lands 1 = .ok (.getfield 12, 3) := by decide +kernel
theorem dX4_lands_4 : decode cX4_lands 4 = .ok (.iload_n 1, 1) := by decide +kernel
theorem dX4_lands_5 : decode cX4_lands 5 = .ok (.invokevirtual 75, 3) := by decide +kernel
theorem dX4_lands_8 : decode cX4_lands 8 = .ok (.ifCond .eq 14, 3) := by decide +kernel
theorem dX4_lands_11 : decode cX4_lands 11 = .ok (.aload_n 0, 1) := by decide +kernel
theorem dX4_lands_12 : decode cX4_lands 12 = .ok (.iload_n 1, 1) := by decide +kernel
theorem dX4_lands_13 : decode cX4_lands 13 = .ok (.iconst 1, 1) := by decide +kernel
theorem dX4_lands_14 : decode cX4_lands 14 = .ok (.bipush 10, 2) := by decide +kernel
theorem dX4_lands_16 : decode cX4_lands 16 = .ok (.invokevirtual 144, 3) := by decide +kernel
theorem dX4_lands_19 : decode cX4_lands 19 = .ok (.goto 4, 3) := by decide +kernel
theorem dX4_lands_22 : decode cX4_lands 22 = .ok (.iconst (-1), 1) := by decide +kernel
theorem dX4_lands_23 : decode cX4_lands 23 = .ok (.ireturn, 1) := by decide +kernel
set_option maxRecDepth 20000 in
theorem ggX4_coins_X0_has : GoodIn wsX4_coins wsX0_has := goodIn_r _ [6, 7, 73, 74, 75, 76] (by decide +kernel) (by decide +kernel)
set_option maxRecDepth 20000 in
theorem gX4_coins_X0_has : GoodIn wsX4_coins (wsV RX4 75 RX0 yX0_has wsX0_has) := goodIn_app (goodIn_of _ (by decide +kernel)) ggX4_coins_X0_has
set_option maxRecDepth 20000 in
theorem ggX4_coins_X4_possible : GoodIn wsX4_coins wsX4_possible := goodIn_r _ [12, 13, 1, 14, 15, 16, 17, 5, 18, 19, 20, 21, 22, 23, 24, 25, 7, 26, 27, 28, 29, 30, 31, 32, 33, 34, 35, 36, 37, 38, 39, 40, 41, 42, 43, 44, 45, 46, 47, 48, 49, 50, 51, 52, 53, 54, 55, 56, 57, 58, 59, 60, 61, 62, 63, 64, 65, 66, 67, 68, 69, 70, 71, 72, 73, 74, 75, 76, 77, 78, 79, 80] (by decide +kernel) (by decide +kernel)
set_option maxRecDepth 20000 in
theorem gX4_coins_X4_possible : GoodIn wsX4_coins (wsV RX4 144 RX4 yX4_possible wsX4_possible) := goodIn_app (goodIn_of _ (by decide +kernel)) ggX4_coins_X4_possible
theorem dX4_coins_0 : decode cX4_coins 0 = .ok (.aload_n 0, 1) := by decide +kernel
theorem dX4_coins_1 : decode cX4_coins 1 = .ok (.getfield 12, 3) := by decide +kernel
theorem dX4_coins_4 : decode cX4_coins 4 = .ok (.iload_n 1, 1) := by decide +kernel
theorem dX4_coins_5 : decode cX4_coins 5 = .ok (.invokevirtual 75, 3) := by decide +kernel
theorem dX4_coins_8 : decode cX4_coins 8 = .ok (.ifCond .eq 14, 3) := by decide +kernel
theorem dX4_coins_11 : decode cX4_coins 11 = .ok (.aload_n 0, 1) := by decide +kernel
theorem dX4_coins_12 : decode cX4_coins 12 = .ok (.iload_n 1, 1) := by decide +kernel
theorem dX4_coins_13 : decode cX4_coins 13 = .ok (.iconst 2, 1) := by decide +kernel
theorem dX4_coins_14 : decode cX4_coins 14 = .ok (.bipush 10, 2) := by decide +kernel
theorem dX4_coins_16 : decode cX4_coins 16 = .ok (.invokevirtual 144, 3) := by decide +kernel
theorem dX4_coins_19 : decode cX4_coins 19 = .ok (.goto 4, 3) := by decide +kernel
theorem dX4_coins_22 : decode cX4_coins 22 = .ok (.iconst (-1), 1) := by decide +kernel
theorem dX4_coins_23 : decode cX4_coins 23 = .ok (.ireturn, 1) := by decide +kernel
set_option maxRecDepth 20000 in
theorem ggX4_kinds_X0_has : GoodIn wsX4_kinds wsX0_has := goodIn_r _ [6, 7, 73, 74, 75, 76] (by decide +kernel) (by decide +kernel)
set_option maxRecDepth 20000 in
theorem gX4_kinds_X0_has : GoodIn wsX4_kinds (wsV RX4 75 RX0 yX0_has wsX0_has) := goodIn_app (goodIn_of _ (by decide +kernel)) ggX4_kinds_X0_has
set_option maxRecDepth 20000 in
theorem ggX4_kinds_X4_possible : GoodIn wsX4_kinds wsX4_possible := goodIn_r _ [12, 13, 1, 14, 15, 16, 17, 5, 18, 19, 20, 21, 22, 23, 24, 25, 7, 26, 27, 28, 29, 30, 31, 32, 33, 34, 35, 36, 37, 38, 39, 40, 41, 42, 43, 44, 45, 46, 47, 48, 49, 50, 51, 52, 53, 54, 55, 56, 57, 58, 59, 60, 61, 62, 63, 64, 65, 66, 67, 68, 69, 70, 71, 72, 73, 74, 75, 76, 77, 78, 79, 80] (by decide +kernel) (by decide +kernel)
set_option maxRecDepth 20000 in
theorem gX4_kinds_X4_possible : GoodIn wsX4_kinds (wsV RX4 144 RX4 yX4_possible wsX4_possible) := goodIn_app (goodIn_of _ (by decide +kernel)) ggX4_kinds_X4_possible
theorem dX4_kinds_0 : decode cX4_kinds 0 = .ok (.aload_n 0, 1) := by decide +kernel
theorem dX4_kinds_1 : decode cX4_kinds 1 = .ok (.getfield 12, 3) := by decide +kernel
theorem dX4_kinds_4 : decode cX4_kinds 4 = .ok (.iload_n 1, 1) := by decide +kernel
theorem dX4_kinds_5 : decode cX4_kinds 5 = .ok (.invokevirtual 75, 3) := by decide +kernel
theorem dX4_kinds_8 : decode cX4_kinds 8 = .ok (.ifCond .eq 13, 3) := by decide +kernel
theorem dX4_kinds_11 : decode cX4_kinds 11 = .ok (.aload_n 0, 1) := by decide +kernel
theorem dX4_kinds_12 : decode cX4_kinds 12 = .ok (.iload_n 1, 1) := by decide +kernel
theorem dX4_kinds_13 : decode cX4_kinds 13 = .ok (.iconst 0, 1) := by decide +kernel
theorem dX4_kinds_14 : decode cX4_kinds 14 = .ok (.iconst 3, 1) := by decide +kernel
theorem dX4_kinds_15 : decode cX4_kinds 15 = .ok (.invokevirtual 144, 3) := by decide +kernel
theorem dX4_kinds_18 : decode cX4_kinds 18 = .ok (.goto 4, 3) := by decide +kernel
theorem dX4_kinds_21 : decode cX4_kinds 21 = .ok (.iconst (-1), 1) := by decide +kernel
theorem dX4_kinds_22 : decode cX4_kinds 22 = .ok (.ireturn, 1) := by decide +kernel
set_option maxRecDepth 20000 in
theorem ggX4_odds_X4_isCost : GoodIn wsX4_odds wsX4_isCost := goodIn_r _ [6] (by decide +kernel) (by decide +kernel)
set_option maxRecDepth 20000 in
theorem gX4_odds_X4_isCost : GoodIn wsX4_odds (va_wsS RX4 102 yX4_isCost wsX4_isCost) := goodIn_app (goodIn_of _ (by decide +kernel)) ggX4_odds_X4_isCost
set_option maxRecDepth 20000 in
theorem ggX4_odds_X0_chosenBy : GoodIn wsX4_odds wsX0_chosenBy := goodIn_r _ [11, 12, 13, 14, 15, 10, 16, 17, 18, 19, 20, 21, 22, 23, 24, 25, 26, 27, 28, 29, 30, 31, 32, 33, 34, 35, 36, 37, 38, 65, 66, 67, 68] (by decide +kernel) (by decide +kernel)
set_option maxRecDepth 20000 in
theorem gX4_odds_X0_chosenBy : GoodIn wsX4_odds (wsV RX4 109 RX0 yX0_chosenBy wsX0_chosenBy) := goodIn_app (goodIn_of _ (by decide +kernel)) ggX4_odds_X0_chosenBy
set_option maxRecDepth 20000 in
theorem ggX4_odds_X0_isFair : GoodIn wsX4_odds wsX0_isFair := goodIn_r _ [42, 43, 44, 45, 10, 46, 18, 19, 20, 21, 17, 22, 23, 24, 25, 26, 27, 28, 29, 30, 31, 32, 33, 34, 47, 48, 49, 50, 12, 51, 52, 53, 54, 65, 66, 67, 68] (by decide +kernel) (by decide +kernel)
set_option maxRecDepth 20000 in
theorem gX4_odds_X0_isFair : GoodIn wsX4_odds (wsV RX4 118 RX0 yX0_isFair wsX0_isFair) := goodIn_app (goodIn_of _ (by decide +kernel)) ggX4_odds_X0_isFair
set_option maxRecDepth 20000 in
theorem ggX4_odds_X4_commonPart : GoodIn wsX4_odds wsX4_commonPart := goodIn_r _ [57] (by decide +kernel) (by decide +kernel)
set_option maxRecDepth 20000 in
theorem gX4_odds_X4_commonPart : GoodIn wsX4_odds (va_wsS RX4 149 yX4_commonPart wsX4_commonPart) := goodIn_app (goodIn_of _ (by decide +kernel)) ggX4_odds_X4_commonPart
theorem dX4_odds_0 : decode cX4_odds 0 = .ok (.aload_n 0, 1) := by decide +kernel
theorem dX4_odds_1 : decode cX4_odds 1 = .ok (.getfield 12, 3) := by decide +kernel
theorem dX4_odds_4 : decode cX4_odds 4 = .ok (.getfield 72, 3) := by decide +kernel
theorem dX4_odds_7 : decode cX4_odds 7 = .ok (.ifCond .eq 19, 3) := by decide +kernel
theorem dX4_odds_10 : decode cX4_odds 10 = .ok (.iload_n 1, 1) := by decide +kernel
theorem dX4_odds_11 : decode cX4_odds 11 = .ok (.invokestatic 102, 3) := by decide +kernel
theorem dX4_odds_14 : decode cX4_odds 14 = .ok (.ifCond .eq 12, 3) := by decide +kernel
theorem dX4_odds_17 : decode cX4_odds 17 = .ok (.iload_n 2, 1) := by decide +kernel
theorem dX4_odds_18 : decode cX4_odds 18 = .ok (.ifCond .lt 8, 3) := by decide +kernel
theorem dX4_odds_21 : decode cX4_odds 21 = .ok (.iload_n 2, 1) := by decide +kernel
theorem dX4_odds_22 : decode cX4_odds 22 = .ok (.iconst 1, 1) := by decide +kernel
theorem dX4_odds_23 : decode cX4_odds 23 = .ok (.if_icmp .le 7, 3) := by decide +kernel
theorem dX4_odds_26 : decode cX4_odds 26 = .ok (.ldc2_w 147, 3) := by decide +kernel
theorem dX4_odds_29 : decode cX4_odds 29 = .ok (.lreturn, 1) := by decide +kernel
theorem dX4_odds_30 : decode cX4_odds 30 = .ok (.iconst 0, 1) := by decide +kernel
theorem dX4_odds_31 : decode cX4_odds 31 = .ok (.istore_n 3, 1) := by decide +kernel
theorem dX4_odds_32 : decode cX4_odds 32 = .ok (.iconst 0, 1) := by decide +kernel
theorem dX4_odds_33 : decode cX4_odds 33 = .ok (.istore 4, 2) := by decide +kernel
theorem dX4_odds_35 : decode cX4_odds 35 = .ok (.iload 4, 2) := by decide +kernel
theorem dX4_odds_37 : decode cX4_odds 37 = .ok (.aload_n 0, 1) := by decide +kernel
theorem dX4_odds_38 : decode cX4_odds 38 = .ok (.getfield 12, 3) := by decide +kernel
theorem dX4_odds_41 : decode cX4_odds 41 = .ok (.getfield 72, 3) := by decide +kernel
theorem dX4_odds_44 : decode cX4_odds 44 = .ok (.if_icmp .ge 35, 3) := by decide +kernel
theorem dX4_odds_47 : decode cX4_odds 47 = .ok (.aload_n 0, 1) := by decide +kernel
theorem dX4_odds_48 : decode cX4_odds 48 = .ok (.getfield 12, 3) := by decide +kernel
theorem dX4_odds_51 : decode cX4_odds 51 = .ok (.iload 4, 2) := by decide +kernel
theorem dX4_odds_53 : decode cX4_odds 53 = .ok (.aload_n 0, 1) := by decide +kernel
theorem dX4_odds_54 : decode cX4_odds 54 = .ok (.getfield 12, 3) := by decide +kernel
theorem dX4_odds_57 : decode cX4_odds 57 = .ok (.iload 4, 2) := by decide +kernel
theorem dX4_odds_59 : decode cX4_odds 59 = .ok (.iload_n 1, 1) := by decide +kernel
