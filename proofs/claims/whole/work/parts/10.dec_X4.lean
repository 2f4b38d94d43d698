set_option maxRecDepth 20000 in
theorem ggX4_init_X0_init : GoodIn wsX4_init wsX0_init := goodIn_r _ [22, 23, 2, 3, 24, 25, 26, 27, 47, 48, 49, 50] (by decide +kernel) (by decide +kernel)
set_option maxRecDepth 20000 in
theorem gX4_init_X0_init_n11 : GoodIn wsX4_init (wsX0_init) := ggX4_init_X0_init
set_option maxRecDepth 20000 in
theorem ggX4_init_X3_init : GoodIn wsX4_init wsX3_init := goodIn_r _ [29, 30, 2, 3, 31, 5, 6, 32, 24, 33, 21, 22, 23, 25, 26, 27, 47, 48, 49, 50, 58, 59, 60, 61] (by decide +kernel) (by decide +kernel)
set_option maxRecDepth 20000 in
theorem gX4_init_X3_init_n23 : GoodIn wsX4_init (wsX3_init) := ggX4_init_X3_init
set_option maxRecDepth 20000 in
theorem ggX4_init_X1_init : GoodIn wsX4_init wsX1_init := goodIn_r _ [35, 36, 2, 3, 24, 37, 38, 39, 62, 63, 64, 65] (by decide +kernel) (by decide +kernel)
set_option maxRecDepth 20000 in
theorem gX4_init_X1_init_n30 : GoodIn wsX4_init (wsX1_init) := ggX4_init_X1_init
set_option maxRecDepth 20000 in
theorem ggX4_init_X2_init : GoodIn wsX4_init wsX2_init := goodIn_r _ [41, 42, 2, 3, 43, 24, 44, 45, 46, 66, 67, 68] (by decide +kernel) (by decide +kernel)
set_option maxRecDepth 20000 in
theorem gX4_init_X2_init_n37 : GoodIn wsX4_init (wsX2_init) := ggX4_init_X2_init
theorem dX4_init_0 : decode cX4_init 0 = .ok (.aload_n 0, 1) := by decide +kernel
theorem dX4_init_1 : decode cX4_init 1 = .ok (.invokespecial 3, 3) := by decide +kernel
theorem dX4_init_4 : decode cX4_init 4 = .ok (.aload_n 0, 1) := by decide +kernel
theorem dX4_init_5 : decode cX4_init 5 = .ok (.new 9, 3) := by decide +kernel
theorem dX4_init_8 : decode cX4_init 8 = .ok (.dup, 1) := by decide +kernel
theorem dX4_init_9 : decode cX4_init 9 = .ok (.invokespecial 11, 3) := by decide +kernel
theorem dX4_init_12 : decode cX4_init 12 = .ok (.putfield 12, 3) := by decide +kernel
theorem dX4_init_15 : decode cX4_init 15 = .ok (.aload_n 0, 1) := by decide +kernel
theorem dX4_init_16 : decode cX4_init 16 = .ok (.new 9, 3) := by decide +kernel
theorem dX4_init_19 : decode cX4_init 19 = .ok (.dup, 1) := by decide +kernel
theorem dX4_init_20 : decode cX4_init 20 = .ok (.invokespecial 11, 3) := by decide +kernel
theorem dX4_init_23 : decode cX4_init 23 = .ok (.putfield 18, 3) := by decide +kernel
theorem dX4_init_26 : decode cX4_init 26 = .ok (.aload_n 0, 1) := by decide +kernel
theorem dX4_init_27 : decode cX4_init 27 = .ok (.new 21, 3) := by decide +kernel
theorem dX4_init_30 : decode cX4_init 30 = .ok (.dup, 1) := by decide +kernel
theorem dX4_init_31 : decode cX4_init 31 = .ok (.invokespecial 23, 3) := by decide +kernel
theorem dX4_init_34 : decode cX4_init 34 = .ok (.putfield 24, 3) := by decide +kernel
theorem dX4_init_37 : decode cX4_init 37 = .ok (.aload_n 0, 1) := by decide +kernel
theorem dX4_init_38 : decode cX4_init 38 = .ok (.new 28, 3) := by decide +kernel
theorem dX4_init_41 : decode cX4_init 41 = .ok (.dup, 1) := by decide +kernel
theorem dX4_init_42 : decode cX4_init 42 = .ok (.invokespecial 30, 3) := by decide +kernel
theorem dX4_init_45 : decode cX4_init 45 = .ok (.putfield 31, 3) := by decide +kernel
theorem dX4_init_48 : decode cX4_init 48 = .ok (.aload_n 0, 1) := by decide +kernel
theorem dX4_init_49 : decode cX4_init 49 = .ok (.new 35, 3) := by decide +kernel
theorem dX4_init_52 : decode cX4_init 52 = .ok (.dup, 1) := by decide +kernel
theorem dX4_init_53 : decode cX4_init 53 = .ok (.invokespecial 37, 3) := by decide +kernel
theorem dX4_init_56 : decode cX4_init 56 = .ok (.putfield 38, 3) := by decide +kernel
theorem dX4_init_59 : decode cX4_init 59 = .ok (.return_, 1) := by decide +kernel
set_option maxRecDepth 20000 in
theorem ggX4_city_X2_isSheet : GoodIn wsX4_city wsX2_isSheet := goodIn_r _ [7] (by decide +kernel) (by decide +kernel)
set_option maxRecDepth 20000 in
theorem gX4_city_X2_isSheet : GoodIn wsX4_city (va_wsS RX4 46 yX2_isSheet wsX2_isSheet) := goodIn_app (goodIn_of _ (by decide +kernel)) ggX4_city_X2_isSheet
set_option maxRecDepth 20000 in
theorem ggX4_city_X2_isLane : GoodIn wsX4_city wsX2_isLane := goodIn_r _ [10] (by decide +kernel) (by decide +kernel)
set_option maxRecDepth 20000 in
theorem gX4_city_X2_isLane : GoodIn wsX4_city (va_wsS RX4 50 yX2_isLane wsX2_isLane) := goodIn_app (goodIn_of _ (by decide +kernel)) ggX4_city_X2_isLane
set_option maxRecDepth 20000 in
theorem ggX4_city_X2_laneFault : GoodIn wsX4_city wsX2_laneFault := goodIn_r _ [14, 15, 16, 17, 18, 6, 19, 60, 61, 62] (by decide +kernel) (by decide +kernel)
set_option maxRecDepth 20000 in
theorem gX4_city_X2_laneFault : GoodIn wsX4_city (wsV RX4 53 RX2 yX2_laneFault wsX2_laneFault) := goodIn_app (goodIn_of _ (by decide +kernel)) ggX4_city_X2_laneFault
set_option maxRecDepth 20000 in
theorem ggX4_city_X2_spanFault : GoodIn wsX4_city wsX2_spanFault := goodIn_r _ [23, 24, 60, 61, 62] (by decide +kernel) (by decide +kernel)
set_option maxRecDepth 20000 in
theorem gX4_city_X2_spanFault : GoodIn wsX4_city (wsV RX4 57 RX2 yX2_spanFault wsX2_spanFault) := goodIn_app (goodIn_of _ (by decide +kernel)) ggX4_city_X2_spanFault
set_option maxRecDepth 20000 in
theorem ggX4_city_X4_failed : GoodIn wsX4_city wsX4_failed := goodIn_r _ [29, 1, 49, 50, 51, 52, 53, 54, 55] (by decide +kernel) (by decide +kernel)
set_option maxRecDepth 20000 in
theorem gX4_city_X4_failed : GoodIn wsX4_city (wsV RX4 61 RX4 yX4_failed wsX4_failed) := goodIn_app (goodIn_of _ (by decide +kernel)) ggX4_city_X4_failed
set_option maxRecDepth 20000 in
theorem ggX4_city_X4_firstFault : GoodIn wsX4_city wsX4_firstFault := goodIn_r _ [33, 2, 34, 35, 28, 36, 49, 50, 51, 52, 53, 54, 55, 60, 61, 62] (by decide +kernel) (by decide +kernel)
set_option maxRecDepth 20000 in
theorem gX4_city_X4_firstFault : GoodIn wsX4_city (wsV RX4 65 RX4 yX4_firstFault wsX4_firstFault) := goodIn_app (goodIn_of _ (by decide +kernel)) ggX4_city_X4_firstFault
set_option maxRecDepth 20000 in
theorem ggX4_city_X4_settle : GoodIn wsX4_city wsX4_settle := goodIn_r _ [40, 2, 41, 42, 43, 44, 3, 45, 46, 47, 28, 48, 49, 50, 51, 52, 53, 54, 55, 60, 61, 62, 56, 57, 58, 59, 63, 64, 65, 66] (by decide +kernel) (by decide +kernel)
set_option maxRecDepth 20000 in
theorem gX4_city_X4_settle : GoodIn wsX4_city (wsV RX4 68 RX4 yX4_settle wsX4_settle) := goodIn_app (goodIn_of _ (by decide +kernel)) ggX4_city_X4_settle
theorem dX4_city_0 : decode cX4_city 0 = .ok (.aload_n 0, 1) := by decide +kernel
theorem dX4_city_1 : decode cX4_city 1 = .ok (.iconst 0, 1) := by decide +kernel
theorem dX4_city_2 : decode cX4_city 2 = .ok (.putfield 42, 3) := by decide +kernel
theorem dX4_city_5 : decode cX4_city 5 = .ok (.iload_n 1, 1) := by decide +kernel
theorem dX4_city_6 : decode cX4_city 6 = .ok (.invokestatic 46, 3) := by decide +kernel
theorem dX4_city_9 : decode cX4_city 9 = .ok (.ifCond .ne 5, 3) := by decide +kernel
theorem dX4_city_12 : decode cX4_city 12 = .ok (.iconst (-1), 1) := by decide +kernel
theorem dX4_city_13 : decode cX4_city 13 = .ok (.ireturn, 1) := by decide +kernel
theorem dX4_city_14 : decode cX4_city 14 = .ok (.iload_n 2, 1) := by decide +kernel
theorem dX4_city_15 : decode cX4_city 15 = .ok (.invokestatic 50, 3) := by decide +kernel
theorem dX4_city_18 : decode cX4_city 18 = .ok (.ifCond .ne 6, 3) := by decide +kernel
theorem dX4_city_21 : decode cX4_city 21 = .ok (.bipush (-2), 2) := by decide +kernel
theorem dX4_city_23 : decode cX4_city 23 = .ok (.ireturn, 1) := by decide +kernel
theorem dX4_city_24 : decode cX4_city 24 = .ok (.aload_n 0, 1) := by decide +kernel
theorem dX4_city_25 : decode cX4_city 25 = .ok (.getfield 38, 3) := by decide +kernel
theorem dX4_city_28 : decode cX4_city 28 = .ok (.iload_n 1, 1) := by decide +kernel
theorem dX4_city_29 : decode cX4_city 29 = .ok (.iload_n 2, 1) := by decide +kernel
theorem dX4_city_30 : decode cX4_city 30 = .ok (.invokevirtual 53, 3) := by decide +kernel
theorem dX4_city_33 : decode cX4_city 33 = .ok (.istore 5, 2) := by decide +kernel
theorem dX4_city_35 : decode cX4_city 35 = .ok (.iload 5, 2) := by decide +kernel
theorem dX4_city_37 : decode cX4_city 37 = .ok (.ifCond .ne 25, 3) := by decide +kernel
theorem dX4_city_40 : decode cX4_city 40 = .ok (.iload 4, 2) := by decide +kernel
theorem dX4_city_42 : decode cX4_city 42 = .ok (.ifCond .ge 7, 3) := by decide +kernel
theorem dX4_city_45 : decode cX4_city 45 = .ok (.iconst 4, 1) := by decide +kernel
theorem dX4_city_46 : decode cX4_city 46 = .ok (.goto 14, 3) := by decide +kernel
theorem dX4_city_49 : decode cX4_city 49 = .ok (.aload_n 0, 1) := by decide +kernel
theorem dX4_city_50 : decode cX4_city 50 = .ok (.getfield 38, 3) := by decide +kernel
theorem dX4_city_53 : decode cX4_city 53 = .ok (.iload_n 1, 1) := by decide +kernel
theorem dX4_city_54 : decode cX4_city 54 = .ok (.iload_n 3, 1) := by decide +kernel
theorem dX4_city_55 : decode cX4_city 55 = .ok (.iload 4, 2) := by decide +kernel
theorem dX4_city_57 : decode cX4_city 57 = .ok (.invokevirtual 57, 3) := by decide +kernel
theorem dX4_city_60 : decode cX4_city 60 = .ok (.istore 5, 2) := by decide +kernel
theorem dX4_city_62 : decode cX4_city 62 = .ok (.iload 5, 2) := by decide +kernel
theorem dX4_city_64 : decode cX4_city 64 = .ok (.ifCond .eq 10, 3) := by decide +kernel
theorem dX4_city_67 : decode cX4_city 67 = .ok (.aload_n 0, 1) := by decide +kernel
theorem dX4_city_68 : decode cX4_city 68 = .ok (.iload 5, 2) := by decide +kernel
theorem dX4_city_70 : decode cX4_city 70 = .ok (.invokevirtual 61, 3) := by decide +kernel
theorem dX4_city_73 : decode cX4_city 73 = .ok (.ireturn, 1) := by decide +kernel
theorem dX4_city_74 : decode cX4_city 74 = .ok (.aload_n 0, 1) := by decide +kernel
theorem dX4_city_75 : decode cX4_city 75 = .ok (.iload_n 1, 1) := by decide +kernel
theorem dX4_city_76 : decode cX4_city 76 = .ok (.iload_n 3, 1) := by decide +kernel
theorem dX4_city_77 : decode cX4_city 77 = .ok (.iload 4, 2) := by decide +kernel
theorem dX4_city_79 : decode cX4_city 79 = .ok (.invokevirtual 65, 3) := by decide +kernel
theorem dX4_city_82 : decode cX4_city 82 = .ok (.istore 6, 2) := by decide +kernel
theorem dX4_city_84 : decode cX4_city 84 = .ok (.iload 6, 2) := by decide +kernel
theorem dX4_city_86 : decode cX4_city 86 = .ok (.bipush (-9), 2) := by decide +kernel
theorem dX4_city_88 : decode cX4_city 88 = .ok (.if_icmp .eq 9, 3) := by decide +kernel
theorem dX4_city_91 : decode cX4_city 91 = .ok (.bipush (-100), 2) := by decide +kernel
theorem dX4_city_93 : decode cX4_city 93 = .ok (.iload 6, 2) := by decide +kernel
theorem dX4_city_95 : decode cX4_city 95 = .ok (.isub, 1) := by decide +kernel
theorem dX4_city_96 : decode cX4_city 96 = .ok (.ireturn, 1) := by decide +kernel
theorem dX4_city_97 : decode cX4_city 97 = .ok (.aload_n 0, 1) := by decide +kernel
theorem dX4_city_98 : decode cX4_city 98 = .ok (.iload_n 1, 1) := by decide +kernel
theorem dX4_city_99 : decode cX4_city 99 = .ok (.iload_n 3, 1) := by decide +kernel
theorem dX4_city_100 : decode cX4_city 100 = .ok (.iload 4, 2) := by decide +kernel
theorem dX4_city_102 : decode cX4_city 102 = .ok (.invokevirtual 68, 3) := by decide +kernel
theorem dX4_city_105 : decode cX4_city 105 = .ok (.aload_n 0, 1) := by decide +kernel
theorem dX4_city_106 : decode cX4_city 106 = .ok (.getfield 12, 3) := by decide +kernel
theorem dX4_city_109 : decode cX4_city 109 = .ok (.getfield 72, 3) := by decide +kernel
theorem dX4_city_112 : decode cX4_city 112 = .ok (.ireturn, 1) := by decide +kernel
set_option maxRecDepth 20000 in
theorem ggX4_ofHouse_X0_has : GoodIn wsX4_ofHouse wsX0_has := goodIn_r _ [6, 7, 29, 30, 31, 32] (by decide +kernel) (by decide +kernel)
set_option maxRecDepth 20000 in
theorem gX4_ofHouse_X0_has : GoodIn wsX4_ofHouse (wsV RX4 75 RX0 yX0_has wsX0_has) := goodIn_app (goodIn_of _ (by decide +kernel)) ggX4_ofHouse_X0_has
set_option maxRecDepth 20000 in
theorem ggX4_ofHouse_X0_worthOf : GoodIn wsX4_ofHouse wsX0_worthOf := goodIn_r _ [11, 12, 13, 14, 15, 5, 16, 17, 18, 19, 20, 21, 29, 30, 31, 32] (by decide +kernel) (by decide +kernel)
set_option maxRecDepth 20000 in
theorem gX4_ofHouse_X0_worthOf : GoodIn wsX4_ofHouse (wsV RX4 88 RX0 yX0_worthOf wsX0_worthOf) := goodIn_app (goodIn_of _ (by decide +kernel)) ggX4_ofHouse_X0_worthOf
theorem dX4_ofHouse_0 : decode cX4_ofHouse 0 = .ok (.aload_n 0, 1) := by decide +kernel
theorem dX4_ofHouse_1 : decode cX4_ofHouse 1 = .ok (.getfield 12, 3) := by decide +kernel
theorem dX4_ofHouse_4 : decode cX4_ofHouse 4 = .ok (.iload_n 1, 1) := by decide +kernel
theorem dX4_ofHouse_5 : decode cX4_ofHouse 5 = .ok (.invokevirtual 75, 3) := by decide +kernel
theorem dX4_ofHouse_8 : decode cX4_ofHouse 8 = .ok (.ifCond .ne 5, 3) := by decide +kernel
theorem dX4_ofHouse_11 : decode cX4_ofHouse 11 = .ok (.iconst (-1), 1) := by decide +kernel
theorem dX4_ofHouse_12 : decode cX4_ofHouse 12 = .ok (.ireturn, 1) := by decide +kernel
theorem dX4_ofHouse_13 : decode cX4_ofHouse 13 = .ok (.iload_n 2, 1) := by decide +kernel
theorem dX4_ofHouse_14 : decode cX4_ofHouse 14 = .ok (.tableswitch 69 0 3 #[30, 40, 50, 60], 30) := by decide +kernel
theorem dX4_ofHouse_44 : decode cX4_ofHouse 44 = .ok (.aload_n 0, 1) := by decide +kernel
theorem dX4_ofHouse_45 : decode cX4_ofHouse 45 = .ok (.getfield 12, 3) := by decide +kernel
theorem dX4_ofHouse_48 : decode cX4_ofHouse 48 = .ok (.getfield 78, 3) := by decide +kernel
theorem dX4_ofHouse_51 : decode cX4_ofHouse 51 = .ok (.iload_n 1, 1) := by decide +kernel
theorem dX4_ofHouse_52 : decode cX4_ofHouse 52 = .ok (.iaload, 1) := by decide +kernel
theorem dX4_ofHouse_53 : decode cX4_ofHouse 53 = .ok (.ireturn, 1) := by decide +kernel
theorem dX4_ofHouse_54 : decode cX4_ofHouse 54 = .ok (.aload_n 0, 1) := by decide +kernel
theorem dX4_ofHouse_55 : decode cX4_ofHouse 55 = .ok (.getfield 12, 3) := by decide +kernel
theorem dX4_ofHouse_58 : decode cX4_ofHouse 58 = .ok (.getfield 82, 3) := by decide +kernel
theorem dX4_ofHouse_61 : decode cX4_ofHouse 61 = .ok (.iload_n 1, 1) := by decide +kernel
theorem dX4_ofHouse_62 : decode cX4_ofHouse 62 = .ok (.iaload, 1) := by decide +kernel
theorem dX4_ofHouse_63 : decode cX4_ofHouse 63 = .ok (.ireturn, 1) := by decide +kernel
theorem dX4_ofHouse_64 : decode cX4_ofHouse 64 = .ok (.aload_n 0, 1) := by decide +kernel
theorem dX4_ofHouse_65 : decode cX4_ofHouse 65 = .ok (.getfield 12, 3) := by decide +kernel
theorem dX4_ofHouse_68 : decode cX4_ofHouse 68 = .ok (.getfield 85, 3) := by decide +kernel
theorem dX4_ofHouse_71 : decode cX4_ofHouse 71 = .ok (.iload_n 1, 1) := by decide +kernel
theorem dX4_ofHouse_72 : decode cX4_ofHouse 72 = .ok (.iaload, 1) := by decide +kernel
theorem dX4_ofHouse_73 : decode cX4_ofHouse 73 = .ok (.ireturn, 1) := by decide +kernel
theorem dX4_ofHouse_74 : decode cX4_ofHouse 74 = .ok (.aload_n 0, 1) := by decide +kernel
theorem dX4_ofHouse_75 : decode cX4_ofHouse 75 = .ok (.getfield 12, 3) := by decide +kernel
theorem dX4_ofHouse_78 : decode cX4_ofHouse 78 = .ok (.iload_n 1, 1) := by decide +kernel
theorem dX4_ofHouse_79 : decode cX4_ofHouse 79 = .ok (.invokevirtual 88, 3) := by decide +kernel
theorem dX4_ofHouse_82 : decode cX4_ofHouse 82 = .ok (.ireturn, 1) := by decide +kernel
theorem dX4_ofHouse_83 : decode cX4_ofHouse 83 = .ok (.bipush (-2), 2) := by decide +kernel
theorem dX4_ofHouse_85 : decode cX4_ofHouse 85 = .ok (.ireturn, 1) := by decide +kernel
set_option maxRecDepth 20000 in
theorem ggX4_endow_X0_has : GoodIn wsX4_endow wsX0_has := goodIn_r _ [6, 7, 22, 23, 24, 25] (by decide +kernel) (by decide +kernel)
set_option maxRecDepth 20000 in
theorem gX4_endow_X0_has : GoodIn wsX4_endow (wsV RX4 75 RX0 yX0_has wsX0_has) := goodIn_app (goodIn_of _ (by decide +kernel)) ggX4_endow_X0_has
set_option maxRecDepth 20000 in
theorem ggX4_endow_X0_become : GoodIn wsX4_endow wsX0_become := goodIn_r _ [11, 12, 13, 14, 22, 23, 24, 25] (by decide +kernel) (by decide +kernel)
set_option maxRecDepth 20000 in
theorem gX4_endow_X0_become : GoodIn wsX4_endow (wsV RX4 91 RX0 yX0_become wsX0_become) := goodIn_app (goodIn_of _ (by decide +kernel)) ggX4_endow_X0_become
theorem dX4_endow_0 : decode cX4_endow 0 = .ok (.aload_n 0, 1) := by decide +kernel
theorem dX4_endow_1 : decode cX4_endow 1 = .ok (.getfield 12, 3) := by decide +kernel
theorem dX4_endow_4 : decode cX4_endow 4 = .ok (.iload_n 1, 1) := by decide +kernel
theorem dX4_endow_5 : decode cX4_endow 5 = .ok (.invokevirtual 75, 3) := by decide +kernel
theorem dX4_endow_8 : decode cX4_endow 8 = .ok (.ifCond .ne 5, 3) := by decide +kernel
theorem dX4_endow_11 : decode cX4_endow 11 = .ok (.iconst (-1), 1) := by decide +kernel
theorem dX4_endow_12 : decode cX4_endow 12 = .ok (.ireturn, 1) := by decide +kernel
theorem dX4_endow_13 : decode cX4_endow 13 = .ok (.iload_n 2, 1) := by decide +kernel
theorem dX4_endow_14 : decode cX4_endow 14 = .ok (.iconst 1, 1) := by decide +kernel
theorem dX4_endow_15 : decode cX4_endow 15 = .ok (.if_icmp .eq 8, 3) := by decide +kernel
theorem dX4_endow_18 : decode cX4_endow 18 = .ok (.iload_n 2, 1) := by decide +kernel
theorem dX4_endow_19 : decode cX4_endow 19 = .ok (.iconst 2, 1) := by decide +kernel
theorem dX4_endow_20 : decode cX4_endow 20 = .ok (.if_icmp .ne 13, 3) := by decide +kernel
theorem dX4_endow_23 : decode cX4_endow 23 = .ok (.iload_n 3, 1) := by decide +kernel
theorem dX4_endow_24 : decode cX4_endow 24 = .ok (.ifCond .lt 9, 3) := by decide +kernel
theorem dX4_endow_27 : decode cX4_endow 27 = .ok (.iload_n 3, 1) := by decide +kernel
theorem dX4_endow_28 : decode cX4_endow 28 = .ok (.bipush 18, 2) := by decide +kernel
theorem dX4_endow_30 : decode cX4_endow 30 = .ok (.if_icmp .le 6, 3) := by decide +kernel
theorem dX4_endow_33 : decode cX4_endow 33 = .ok (.bipush (-2), 2) := by decide +kernel
theorem dX4_endow_35 : decode cX4_endow 35 = .ok (.ireturn, 1) := by decide +kernel
theorem dX4_endow_36 : decode cX4_endow 36 = .ok (.iload_n 2, 1) := by decide +kernel
theorem dX4_endow_37 : decode cX4_endow 37 = .ok (.iconst 1, 1) := by decide +kernel
theorem dX4_endow_38 : decode cX4_endow 38 = .ok (.if_icmp .ne 15, 3) := by decide +kernel
theorem dX4_endow_41 : decode cX4_endow 41 = .ok (.aload_n 0, 1) := by decide +kernel
theorem dX4_endow_42 : decode cX4_endow 42 = .ok (.getfield 12, 3) := by decide +kernel
theorem dX4_endow_45 : decode cX4_endow 45 = .ok (.getfield 82, 3) := by decide +kernel
theorem dX4_endow_48 : decode cX4_endow 48 = .ok (.iload_n 1, 1) := by decide +kernel
theorem dX4_endow_49 : decode cX4_endow 49 = .ok (.iaload, 1) := by decide +kernel
theorem dX4_endow_50 : decode cX4_endow 50 = .ok (.goto 12, 3) := by decide +kernel
theorem dX4_endow_53 : decode cX4_endow 53 = .ok (.aload_n 0, 1) := by decide +kernel
theorem dX4_endow_54 : decode cX4_endow 54 = .ok (.getfield 12, 3) := by decide +kernel
theorem dX4_endow_57 : decode cX4_endow 57 = .ok (.getfield 85, 3) := by decide +kernel
theorem dX4_endow_60 : decode cX4_endow 60 = .ok (.iload_n 1, 1) := by decide +kernel
theorem dX4_endow_61 : decode cX4_endow 61 = .ok (.iaload, 1) := by decide +kernel
theorem dX4_endow_62 : decode cX4_endow 62 = .ok (.istore 4, 2) := by decide +kernel
theorem dX4_endow_64 : decode cX4_endow 64 = .ok (.aload_n 0, 1) := by decide +kernel
theorem dX4_endow_65 : decode cX4_endow 65 = .ok (.getfield 12, 3) := by decide +kernel
theorem dX4_endow_68 : decode cX4_endow 68 = .ok (.iload_n 1, 1) := by decide +kernel
theorem dX4_endow_69 : decode cX4_endow 69 = .ok (.iload_n 2, 1) := by decide +kernel
theorem dX4_endow_70 : decode cX4_endow 70 = .ok (.iload_n 3, 1) := by decide +kernel
theorem dX4_endow_71 : decode cX4_endow 71 = .ok (.invokevirtual 91, 3) := by decide +kernel
theorem dX4_endow_74 : decode cX4_endow 74 = .ok (.iload 4, 2) := by decide +kernel
theorem dX4_endow_76 : decode cX4_endow 76 = .ok (.ireturn, 1) := by decide +kernel
set_option maxRecDepth 20000 in
theorem ggX4_hide_X0_has : GoodIn wsX4_hide wsX0_has := goodIn_r _ [6, 7, 21, 22, 23, 24] (by decide +kernel) (by decide +kernel)
set_option maxRecDepth 20000 in
theorem gX4_hide_X0_has : GoodIn wsX4_hide (wsV RX4 75 RX0 yX0_has wsX0_has) := goodIn_app (goodIn_of _ (by decide +kernel)) ggX4_hide_X0_has
set_option maxRecDepth 20000 in
theorem ggX4_hide_X0_turnToCoin : GoodIn wsX4_hide wsX0_turnToCoin := goodIn_r _ [11, 12, 13, 21, 22, 23, 24] (by decide +kernel) (by decide +kernel)
set_option maxRecDepth 20000 in
theorem gX4_hide_X0_turnToCoin : GoodIn wsX4_hide (wsV RX4 94 RX0 yX0_turnToCoin wsX0_turnToCoin) := goodIn_app (goodIn_of _ (by decide +kernel)) ggX4_hide_X0_turnToCoin
theorem dX4_hide_0 : decode cX4_hide 0 = .ok (.aload_n 0, 1) := by decide +kernel
theorem dX4_hide_1 : decode cX4_hide 1 = .ok (.getfield 12, 3) := by decide +kernel
theorem dX4_hide_4 : decode cX4_hide 4 = .ok (.iload_n 1, 1) := by decide +kernel
theorem dX4_hide_5 : decode cX4_hide 5 = .ok (.invokevirtual 75, 3) := by decide +kernel
theorem dX4_hide_8 : decode cX4_hide 8 = .ok (.ifCond .ne 5, 3) := by decide +kernel
theorem dX4_hide_11 : decode cX4_hide 11 = .ok (.iconst (-1), 1) := by decide +kernel
theorem dX4_hide_12 : decode cX4_hide 12 = .ok (.ireturn, 1) := by decide +kernel
theorem dX4_hide_13 : decode cX4_hide 13 = .ok (.iload_n 2, 1) := by decide +kernel
theorem dX4_hide_14 : decode cX4_hide 14 = .ok (.ifCond .lt 16, 3) := by decide +kernel
theorem dX4_hide_17 : decode cX4_hide 17 = .ok (.iload_n 2, 1) := by decide +kernel
theorem dX4_hide_18 : decode cX4_hide 18 = .ok (.aload_n 0, 1) := by decide +kernel
theorem dX4_hide_19 : decode cX4_hide 19 = .ok (.getfield 12, 3) := by decide +kernel
theorem dX4_hide_22 : decode cX4_hide 22 = .ok (.getfield 82, 3) := by decide +kernel
theorem dX4_hide_25 : decode cX4_hide 25 = .ok (.iload_n 1, 1) := by decide +kernel
theorem dX4_hide_26 : decode cX4_hide 26 = .ok (.iaload, 1) := by decide +kernel
theorem dX4_hide_27 : decode cX4_hide 27 = .ok (.if_icmp .le 6, 3) := by decide +kernel
theorem dX4_hide_30 : decode cX4_hide 30 = .ok (.bipush (-2), 2) := by decide +kernel
theorem dX4_hide_32 : decode cX4_hide 32 = .ok (.ireturn, 1) := by decide +kernel
theorem dX4_hide_33 : decode cX4_hide 33 = .ok (.aload_n 0, 1) := by decide +kernel
theorem dX4_hide_34 : decode cX4_hide 34 = .ok (.getfield 12, 3) := by decide +kernel
theorem dX4_hide_37 : decode cX4_hide 37 = .ok (.iload_n 1, 1) := by decide +kernel
theorem dX4_hide_38 : decode cX4_hide 38 = .ok (.iload_n 2, 1) := by decide +kernel
theorem dX4_hide_39 : decode cX4_hide 39 = .ok (.invokevirtual 94, 3) := by decide +kernel
theorem dX4_hide_42 : decode cX4_hide 42 = .ok (.aload_n 0, 1) := by decide +kernel
theorem dX4_hide_43 : decode cX4_hide 43 = .ok (.getfield 12, 3) := by decide +kernel
theorem dX4_hide_46 : decode cX4_hide 46 = .ok (.getfield 82, 3) := by decide +kernel
theorem dX4_hide_49 : decode cX4_hide 49 = .ok (.iload_n 1, 1) := by decide +kernel
theorem dX4_hide_50 : decode cX4_hide 50 = .ok (.iaload, 1) := by decide +kernel
theorem dX4_hide_51 : decode cX4_hide 51 = .ok (.ireturn, 1) := by decide +kernel
set_option maxRecDepth 20000 in
theorem ggX4_answer_X0_has : GoodIn wsX4_answer wsX0_has := goodIn_r _ [6, 7, 41, 42, 43, 44] (by decide +kernel) (by decide +kernel)
set_option maxRecDepth 20000 in
theorem gX4_answer_X0_has : GoodIn wsX4_answer (wsV RX4 75 RX0 yX0_has wsX0_has) := goodIn_app (goodIn_of _ (by decide +kernel)) ggX4_answer_X0_has
set_option maxRecDepth 20000 in
theorem ggX4_answer_X0_mayPoint : GoodIn wsX4_answer wsX0_mayPoint := goodIn_r _ [11, 12, 41, 42, 43, 44] (by decide +kernel) (by decide +kernel)
set_option maxRecDepth 20000 in
theorem gX4_answer_X0_mayPoint : GoodIn wsX4_answer (wsV RX4 98 RX0 yX0_mayPoint wsX0_mayPoint) := goodIn_app (goodIn_of _ (by decide +kernel)) ggX4_answer_X0_mayPoint
set_option maxRecDepth 20000 in
theorem ggX4_answer_X4_isCost : GoodIn wsX4_answer wsX4_isCost := goodIn_r _ [16] (by decide +kernel) (by decide +kernel)
set_option maxRecDepth 20000 in
theorem gX4_answer_X4_isCost : GoodIn wsX4_answer (va_wsS RX4 102 yX4_isCost wsX4_isCost) := goodIn_app (goodIn_of _ (by decide +kernel)) ggX4_answer_X4_isCost
set_option maxRecDepth 20000 in
theorem ggX4_answer_X0_changes : GoodIn wsX4_answer wsX0_changes := goodIn_r _ [20, 21, 22, 23, 24, 5, 25, 12, 26, 27, 28, 29, 30, 31, 32, 33, 41, 42, 43, 44] (by decide +kernel) (by decide +kernel)
set_option maxRecDepth 20000 in
theorem gX4_answer_X0_changes : GoodIn wsX4_answer (wsV RX4 105 RX0 yX0_changes wsX0_changes) := goodIn_app (goodIn_of _ (by decide +kernel)) ggX4_answer_X0_changes
theorem dX4_answer_0 : decode cX4_answer 0 = .ok (.aload_n 0, 1) := by decide +kernel
theorem dX4_answer_1 : decode cX4_answer 1 = .ok (.getfield 12, 3) := by decide +kernel
theorem dX4_answer_4 : decode cX4_answer 4 = .ok (.iload_n 1, 1) := by decide +kernel
theorem dX4_answer_5 : decode cX4_answer 5 = .ok (.invokevirtual 75, 3) := by decide +kernel
theorem dX4_answer_8 : decode cX4_answer 8 = .ok (.ifCond .eq 19, 3) := by decide +kernel
theorem dX4_answer_11 : decode cX4_answer 11 = .ok (.aload_n 0, 1) := by decide +kernel
theorem dX4_answer_12 : decode cX4_answer 12 = .ok (.getfield 12, 3) := by decide +kernel
theorem dX4_answer_15 : decode cX4_answer 15 = .ok (.iload_n 2, 1) := by decide +kernel
theorem dX4_answer_16 : decode cX4_answer 16 = .ok (.invokevirtual 75, 3) := by decide +kernel
theorem dX4_answer_19 : decode cX4_answer 19 = .ok (.ifCond .eq 8, 3) := by decide +kernel
theorem dX4_answer_22 : decode cX4_answer 22 = .ok (.iload_n 1, 1) := by decide +kernel
theorem dX4_answer_23 : decode cX4_answer 23 = .ok (.iload_n 2, 1) := by decide +kernel
theorem dX4_answer_24 : decode cX4_answer 24 = .ok (.if_icmp .ne 5, 3) := by decide +kernel
theorem dX4_answer_27 : decode cX4_answer 27 = .ok (.iconst (-1), 1) := by decide +kernel
theorem dX4_answer_28 : decode cX4_answer 28 = .ok (.ireturn, 1) := by decide +kernel
theorem dX4_answer_29 : decode cX4_answer 29 = .ok (.aload_n 0, 1) := by decide +kernel
theorem dX4_answer_30 : decode cX4_answer 30 = .ok (.getfield 12, 3) := by decide +kernel
theorem dX4_answer_33 : decode cX4_answer 33 = .ok (.iload_n 1, 1) := by decide +kernel
theorem dX4_answer_34 : decode cX4_answer 34 = .ok (.iload_n 2, 1) := by decide +kernel
theorem dX4_answer_35 : decode cX4_answer 35 = .ok (.invokevirtual 98, 3) := by decide +kernel
theorem dX4_answer_38 : decode cX4_answer 38 = .ok (.ifCond .ne 6, 3) := by decide +kernel
theorem dX4_answer_41 : decode cX4_answer 41 = .ok (.bipush (-3), 2) := by decide +kernel
theorem dX4_answer_43 : decode cX4_answer 43 = .ok (.ireturn, 1) := by decide +kernel
theorem dX4_answer_44 : decode cX4_answer 44 = .ok (.iload_n 3, 1) := by decide +kernel
theorem dX4_answer_45 : decode cX4_answer 45 = .ok (.invokestatic 102, 3) := by decide +kernel
theorem dX4_answer_48 : decode cX4_answer 48 = .ok (.ifCond .ne 6, 3) := by decide +kernel
theorem dX4_answer_51 : decode cX4_answer 51 = .ok (.bipush (-2), 2) := by decide +kernel
theorem dX4_answer_53 : decode cX4_answer 53 = .ok (.ireturn, 1) := by decide +kernel
theorem dX4_answer_54 : decode cX4_answer 54 = .ok (.aload_n 0, 1) := by decide +kernel
theorem dX4_answer_55 : decode cX4_answer 55 = .ok (.getfield 12, 3) := by decide +kernel
theorem dX4_answer_58 : decode cX4_answer 58 = .ok (.iload_n 1, 1) := by decide +kernel
theorem dX4_answer_59 : decode cX4_answer 59 = .ok (.iload_n 2, 1) := by decide +kernel
theorem dX4_answer_60 : decode cX4_answer 60 = .ok (.iload_n 3, 1) := by decide +kernel
theorem dX4_answer_61 : decode cX4_answer 61 = .ok (.invokevirtual 105, 3) := by decide +kernel
theorem dX4_answer_64 : decode cX4_answer 64 = .ok (.ifCond .eq 7, 3) := by decide +kernel
theorem dX4_answer_67 : decode cX4_answer 67 = .ok (.iconst 1, 1) := by decide +kernel
theorem dX4_answer_68 : decode cX4_answer 68 = .ok (.goto 4, 3) := by decide +kernel
theorem dX4_answer_71 : decode cX4_answer 71 = .ok (.iconst 0, 1) := by decide +kernel
theorem dX4_answer_72 : decode cX4_answer 72 = .ok (.ireturn, 1) := by decide +kernel
set_option maxRecDepth 20000 in
theorem ggX4_choice_X0_has : GoodIn wsX4_choice wsX0_has := goodIn_r _ [6, 7, 67, 68, 69, 70] (by decide +kernel) (by decide +kernel)
set_option maxRecDepth 20000 in
theorem gX4_choice_X0_has : GoodIn wsX4_choice (wsV RX4 75 RX0 yX0_has wsX0_has) := goodIn_app (goodIn_of _ (by decide +kernel)) ggX4_choice_X0_has
set_option maxRecDepth 20000 in
theorem ggX4_choice_X4_isCost : GoodIn wsX4_choice wsX4_isCost := goodIn_r _ [11] (by decide +kernel) (by decide +kernel)
set_option maxRecDepth 20000 in
theorem gX4_choice_X4_isCost : GoodIn wsX4_choice (va_wsS RX4 102 yX4_isCost wsX4_isCost) := goodIn_app (goodIn_of _ (by decide +kernel)) ggX4_choice_X4_isCost
set_option maxRecDepth 20000 in
theorem ggX4_choice_X0_chosenBy : GoodIn wsX4_choice wsX0_chosenBy := goodIn_r _ [15, 7, 16, 17, 18, 5, 19, 20, 21, 22, 23, 24, 25, 26, 27, 28, 29, 30, 31, 32, 33, 34, 35, 36, 37, 38, 39, 40, 41, 67, 68, 69, 70] (by decide +kernel) (by decide +kernel)
set_option maxRecDepth 20000 in
theorem gX4_choice_X0_chosenBy : GoodIn wsX4_choice (wsV RX4 109 RX0 yX0_chosenBy wsX0_chosenBy) := goodIn_app (goodIn_of _ (by decide +kernel)) ggX4_choice_X0_chosenBy
set_option maxRecDepth 20000 in
theorem ggX4_choice_X0_worthAtEnd : GoodIn wsX4_choice wsX0_worthAtEnd := goodIn_r _ [19, 20, 21, 22, 23, 5, 24, 25, 26, 27, 28, 29, 30, 31, 32, 33, 34, 35, 36, 37, 67, 68, 69, 70] (by decide +kernel) (by decide +kernel)
set_option maxRecDepth 20000 in
theorem gX4_choice_X0_worthAtEnd : GoodIn wsX4_choice (wsV RX4 112 RX0 yX0_worthAtEnd wsX0_worthAtEnd) := goodIn_app (goodIn_of _ (by decide +kernel)) ggX4_choice_X0_worthAtEnd
set_option maxRecDepth 20000 in
theorem ggX4_choice_X0_payer : GoodIn wsX4_choice wsX0_payer := goodIn_r _ [46, 21, 22, 23, 5, 24, 20, 25, 26, 27, 28, 29, 30, 31, 32, 33, 34, 35, 36, 37, 67, 68, 69, 70] (by decide +kernel) (by decide +kernel)
set_option maxRecDepth 20000 in
theorem gX4_choice_X0_payer : GoodIn wsX4_choice (wsV RX4 115 RX0 yX0_payer wsX0_payer) := goodIn_app (goodIn_of _ (by decide +kernel)) ggX4_choice_X0_payer
set_option maxRecDepth 20000 in
theorem ggX4_choice_X0_isFair : GoodIn wsX4_choice wsX0_isFair := goodIn_r _ [50, 51, 44, 45, 5, 46, 21, 22, 23, 24, 20, 25, 26, 27, 28, 29, 30, 31, 32, 33, 34, 35, 36, 37, 52, 53, 54, 55, 7, 56, 57, 58, 59, 67, 68, 69, 70] (by decide +kernel) (by decide +kernel)
set_option maxRecDepth 20000 in
theorem gX4_choice_X0_isFair : GoodIn wsX4_choice (wsV RX4 118 RX0 yX0_isFair wsX0_isFair) := goodIn_app (goodIn_of _ (by decide +kernel)) ggX4_choice_X0_isFair
theorem dX4_choice_0 : decode cX4_choice 0 = .ok (.aload_n 0, 1) := by decide +kernel
theorem dX4_choice_1 : decode cX4_choice 1 = .ok (.getfield 12, 3) := by decide +kernel
theorem dX4_choice_4 : decode cX4_choice 4 = .ok (.iload_n 1, 1) := by decide +kernel
theorem dX4_choice_5 : decode cX4_choice 5 = .ok (.invokevirtual 75, 3) := by decide +kernel
theorem dX4_choice_8 : decode cX4_choice 8 = .ok (.ifCond .ne 5, 3) := by decide +kernel
theorem dX4_choice_11 : decode cX4_choice 11 = .ok (.iconst (-1), 1) := by decide +kernel
theorem dX4_choice_12 : decode cX4_choice 12 = .ok (.ireturn, 1) := by decide +kernel
theorem dX4_choice_13 : decode cX4_choice 13 = .ok (.iload_n 2, 1) := by decide +kernel
theorem dX4_choice_14 : decode cX4_choice 14 = .ok (.invokestatic 102, 3) := by decide +kernel
theorem dX4_choice_17 : decode cX4_choice 17 = .ok (.ifCond .eq 12, 3) := by decide +kernel
theorem dX4_choice_20 : decode cX4_choice 20 = .ok (.iload_n 3, 1) := by decide +kernel
theorem dX4_choice_21 : decode cX4_choice 21 = .ok (.ifCond .lt 8, 3) := by decide +kernel
theorem dX4_choice_24 : decode cX4_choice 24 = .ok (.iload_n 3, 1) := by decide +kernel
theorem dX4_choice_25 : decode cX4_choice 25 = .ok (.iconst 3, 1) := by decide +kernel
theorem dX4_choice_26 : decode cX4_choice 26 = .ok (.if_icmp .le 6, 3) := by decide +kernel
theorem dX4_choice_29 : decode cX4_choice 29 = .ok (.bipush (-2), 2) := by decide +kernel
theorem dX4_choice_31 : decode cX4_choice 31 = .ok (.ireturn, 1) := by decide +kernel
theorem dX4_choice_32 : decode cX4_choice 32 = .ok (.aload_n 0, 1) := by decide +kernel
theorem dX4_choice_33 : decode cX4_choice 33 = .ok (.getfield 12, 3) := by decide +kernel
theorem dX4_choice_36 : decode cX4_choice 36 = .ok (.iload_n 1, 1) := by decide +kernel
theorem dX4_choice_37 : decode cX4_choice 37 = .ok (.iload_n 2, 1) := by decide +kernel
theorem dX4_choice_38 : decode cX4_choice 38 = .ok (.invokevirtual 109, 3) := by decide +kernel
theorem dX4_choice_41 : decode cX4_choice 41 = .ok (.istore 4, 2) := by decide +kernel
theorem dX4_choice_43 : decode cX4_choice 43 = .ok (.iload_n 3, 1) := by decide +kernel
theorem dX4_choice_44 : decode cX4_choice 44 = .ok (.tableswitch 55 0 2 #[28, 31, 43], 28) := by decide +kernel
theorem dX4_choice_72 : decode cX4_choice 72 = .ok (.iload 4, 2) := by decide +kernel
theorem dX4_choice_74 : decode cX4_choice 74 = .ok (.ireturn, 1) := by decide +kernel
theorem dX4_choice_75 : decode cX4_choice 75 = .ok (.aload_n 0, 1) := by decide +kernel
theorem dX4_choice_76 : decode cX4_choice 76 = .ok (.getfield 12, 3) := by decide +kernel
theorem dX4_choice_79 : decode cX4_choice 79 = .ok (.iload_n 1, 1) := by decide +kernel
theorem dX4_choice_80 : decode cX4_choice 80 = .ok (.iload 4, 2) := by decide +kernel
theorem dX4_choice_82 : decode cX4_choice 82 = .ok (.iload_n 2, 1) := by decide +kernel
theorem dX4_choice_83 : decode cX4_choice 83 = .ok (.invokevirtual 112, 3) := by decide +kernel
theorem dX4_choice_86 : decode cX4_choice 86 = .ok (.ireturn, 1) := by decide +kernel
theorem dX4_choice_87 : decode cX4_choice 87 = .ok (.aload_n 0, 1) := by decide +kernel
theorem dX4_choice_88 : decode cX4_choice 88 = .ok (.getfield 12, 3) := by decide +kernel
theorem dX4_choice_91 : decode cX4_choice 91 = .ok (.iload_n 1, 1) := by decide +kernel
theorem dX4_choice_92 : decode cX4_choice 92 = .ok (.iload 4, 2) := by decide +kernel
theorem dX4_choice_94 : decode cX4_choice 94 = .ok (.iload_n 2, 1) := by decide +kernel
theorem dX4_choice_95 : decode cX4_choice 95 = .ok (.invokevirtual 115, 3) := by decide +kernel
theorem dX4_choice_98 : decode cX4_choice 98 = .ok (.ireturn, 1) := by decide +kernel
theorem dX4_choice_99 : decode cX4_choice 99 = .ok (.aload_n 0, 1) := by decide +kernel
theorem dX4_choice_100 : decode cX4_choice 100 = .ok (.getfield 12, 3) := by decide +kernel
