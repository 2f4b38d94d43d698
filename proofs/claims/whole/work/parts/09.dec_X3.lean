set_option maxRecDepth 20000 in
theorem ggX3_init_X0_init : GoodIn wsX3_init wsX0_init := goodIn_r _ [11, 12, 2, 3, 8, 13, 14, 15, 16, 17, 18, 19] (by decide +kernel) (by decide +kernel)
set_option maxRecDepth 20000 in
theorem gX3_init_X0_init_n11 : GoodIn wsX3_init (wsX0_init) := ggX3_init_X0_init
theorem dX3_init_0 : decode cX3_init 0 = .ok (.aload_n 0, 1) := by decide +kernel
theorem dX3_init_1 : decode cX3_init 1 = .ok (.invokespecial 3, 3) := by decide +kernel
theorem dX3_init_4 : decode cX3_init 4 = .ok (.aload_n 0, 1) := by decide +kernel
theorem dX3_init_5 : decode cX3_init 5 = .ok (.new 9, 3) := by decide +kernel
theorem dX3_init_8 : decode cX3_init 8 = .ok (.dup, 1) := by decide +kernel
theorem dX3_init_9 : decode cX3_init 9 = .ok (.invokespecial 11, 3) := by decide +kernel
theorem dX3_init_12 : decode cX3_init 12 = .ok (.putfield 12, 3) := by decide +kernel
theorem dX3_init_15 : decode cX3_init 15 = .ok (.aload_n 0, 1) := by decide +kernel
theorem dX3_init_16 : decode cX3_init 16 = .ok (.bipush 6, 2) := by decide +kernel
theorem dX3_init_18 : decode cX3_init 18 = .ok (.newarray .int, 2) := by decide +kernel
theorem dX3_init_20 : decode cX3_init 20 = .ok (.putfield 18, 3) := by decide +kernel
theorem dX3_init_23 : decode cX3_init 23 = .ok (.return_, 1) := by decide +kernel
set_option maxRecDepth 20000 in
theorem ggX3_isAsked_X3_isOfOne : GoodIn wsX3_isAsked wsX3_isOfOne := goodIn_r _ [4] (by decide +kernel) (by decide +kernel)
set_option maxRecDepth 20000 in
theorem gX3_isAsked_X3_isOfOne : GoodIn wsX3_isAsked (va_wsS RX3 22 yX3_isOfOne wsX3_isOfOne) := goodIn_app (goodIn_of _ (by decide +kernel)) ggX3_isAsked_X3_isOfOne
theorem dX3_isAsked_0 : decode cX3_isAsked 0 = .ok (.iload_n 0, 1) := by decide +kernel
theorem dX3_isAsked_1 : decode cX3_isAsked 1 = .ok (.ifCond .lt 8, 3) := by decide +kernel
theorem dX3_isAsked_4 : decode cX3_isAsked 4 = .ok (.iload_n 0, 1) := by decide +kernel
theorem dX3_isAsked_5 : decode cX3_isAsked 5 = .ok (.iconst 3, 1) := by decide +kernel
theorem dX3_isAsked_6 : decode cX3_isAsked 6 = .ok (.if_icmp .le 21, 3) := by decide +kernel
theorem dX3_isAsked_9 : decode cX3_isAsked 9 = .ok (.iload_n 0, 1) := by decide +kernel
theorem dX3_isAsked_10 : decode cX3_isAsked 10 = .ok (.bipush 10, 2) := by decide +kernel
theorem dX3_isAsked_12 : decode cX3_isAsked 12 = .ok (.invokestatic 22, 3) := by decide +kernel
theorem dX3_isAsked_15 : decode cX3_isAsked 15 = .ok (.ifCond .ne 12, 3) := by decide +kernel
theorem dX3_isAsked_18 : decode cX3_isAsked 18 = .ok (.iload_n 0, 1) := by decide +kernel
theorem dX3_isAsked_19 : decode cX3_isAsked 19 = .ok (.bipush 20, 2) := by decide +kernel
theorem dX3_isAsked_21 : decode cX3_isAsked 21 = .ok (.invokestatic 22, 3) := by decide +kernel
theorem dX3_isAsked_24 : decode cX3_isAsked 24 = .ok (.ifCond .eq 7, 3) := by decide +kernel
theorem dX3_isAsked_27 : decode cX3_isAsked 27 = .ok (.iconst 1, 1) := by decide +kernel
theorem dX3_isAsked_28 : decode cX3_isAsked 28 = .ok (.goto 4, 3) := by decide +kernel
theorem dX3_isAsked_31 : decode cX3_isAsked 31 = .ok (.iconst 0, 1) := by decide +kernel
theorem dX3_isAsked_32 : decode cX3_isAsked 32 = .ok (.ireturn, 1) := by decide +kernel
theorem dX3_isOfOne_0 : decode cX3_isOfOne 0 = .ok (.iload_n 0, 1) := by decide +kernel
theorem dX3_isOfOne_1 : decode cX3_isOfOne 1 = .ok (.iload_n 1, 1) := by decide +kernel
theorem dX3_isOfOne_2 : decode cX3_isOfOne 2 = .ok (.if_icmp .lt 15, 3) := by decide +kernel
theorem dX3_isOfOne_5 : decode cX3_isOfOne 5 = .ok (.iload_n 0, 1) := by decide +kernel
theorem dX3_isOfOne_6 : decode cX3_isOfOne 6 = .ok (.iload_n 1, 1) := by decide +kernel
theorem dX3_isOfOne_7 : decode cX3_isOfOne 7 = .ok (.bipush 6, 2) := by decide +kernel
theorem dX3_isOfOne_9 : decode cX3_isOfOne 9 = .ok (.iadd, 1) := by decide +kernel
theorem dX3_isOfOne_10 : decode cX3_isOfOne 10 = .ok (.if_icmp .ge 7, 3) := by decide +kernel
theorem dX3_isOfOne_13 : decode cX3_isOfOne 13 = .ok (.iconst 1, 1) := by decide +kernel
theorem dX3_isOfOne_14 : decode cX3_isOfOne 14 = .ok (.goto 4, 3) := by decide +kernel
theorem dX3_isOfOne_17 : decode cX3_isOfOne 17 = .ok (.iconst 0, 1) := by decide +kernel
theorem dX3_isOfOne_18 : decode cX3_isOfOne 18 = .ok (.ireturn, 1) := by decide +kernel
set_option maxRecDepth 20000 in
theorem ggX3_begin_X0_likeThat : GoodIn wsX3_begin wsX0_likeThat := goodIn_r _ [9, 10, 11, 12, 13, 14, 15, 16, 17, 22, 23, 24, 25] (by decide +kernel) (by decide +kernel)
set_option maxRecDepth 20000 in
theorem gX3_begin_X0_likeThat : GoodIn wsX3_begin (wsV RX3 26 RX0 yX0_likeThat wsX0_likeThat) := goodIn_app (goodIn_of _ (by decide +kernel)) ggX3_begin_X0_likeThat
theorem dX3_begin_0 : decode cX3_begin 0 = .ok (.aload_n 0, 1) := by decide +kernel
theorem dX3_begin_1 : decode cX3_begin 1 = .ok (.getfield 12, 3) := by decide +kernel
theorem dX3_begin_4 : decode cX3_begin 4 = .ok (.aload_n 1, 1) := by decide +kernel
theorem dX3_begin_5 : decode cX3_begin 5 = .ok (.invokevirtual 26, 3) := by decide +kernel
theorem dX3_begin_8 : decode cX3_begin 8 = .ok (.iconst 0, 1) := by decide +kernel
theorem dX3_begin_9 : decode cX3_begin 9 = .ok (.istore_n 2, 1) := by decide +kernel
theorem dX3_begin_10 : decode cX3_begin 10 = .ok (.iload_n 2, 1) := by decide +kernel
theorem dX3_begin_11 : decode cX3_begin 11 = .ok (.bipush 6, 2) := by decide +kernel
theorem dX3_begin_13 : decode cX3_begin 13 = .ok (.if_icmp .ge 16, 3) := by decide +kernel
theorem dX3_begin_16 : decode cX3_begin 16 = .ok (.aload_n 0, 1) := by decide +kernel
theorem dX3_begin_17 : decode cX3_begin 17 = .ok (.getfield 18, 3) := by decide +kernel
theorem dX3_begin_20 : decode cX3_begin 20 = .ok (.iload_n 2, 1) := by decide +kernel
theorem dX3_begin_21 : decode cX3_begin 21 = .ok (.iconst 0, 1) := by decide +kernel
theorem dX3_begin_22 : decode cX3_begin 22 = .ok (.iastore, 1) := by decide +kernel
theorem dX3_begin_23 : decode cX3_begin 23 = .ok (.iinc 2 1, 3) := by decide +kernel
theorem dX3_begin_26 : decode cX3_begin 26 = .ok (.goto (-16), 3) := by decide +kernel
theorem dX3_begin_29 : decode cX3_begin 29 = .ok (.aload_n 0, 1) := by decide +kernel
theorem dX3_begin_30 : decode cX3_begin 30 = .ok (.iconst 0, 1) := by decide +kernel
theorem dX3_begin_31 : decode cX3_begin 31 = .ok (.putfield 30, 3) := by decide +kernel
theorem dX3_begin_34 : decode cX3_begin 34 = .ok (.aload_n 0, 1) := by decide +kernel
theorem dX3_begin_35 : decode cX3_begin 35 = .ok (.iconst 0, 1) := by decide +kernel
theorem dX3_begin_36 : decode cX3_begin 36 = .ok (.putfield 34, 3) := by decide +kernel
theorem dX3_begin_39 : decode cX3_begin 39 = .ok (.return_, 1) := by decide +kernel
set_option maxRecDepth 20000 in
theorem ggX3_pass_X0_changes : GoodIn wsX3_pass wsX0_changes := goodIn_r _ [9, 10, 11, 12, 13, 8, 14, 15, 16, 17, 18, 19, 20, 21, 22, 23, 63, 64, 65, 66] (by decide +kernel) (by decide +kernel)
set_option maxRecDepth 20000 in
theorem gX3_pass_X0_changes : GoodIn wsX3_pass (wsV RX3 37 RX0 yX0_changes wsX0_changes) := goodIn_app (goodIn_of _ (by decide +kernel)) ggX3_pass_X0_changes
set_option maxRecDepth 20000 in
theorem ggX3_pass_X0_isFair : GoodIn wsX3_pass wsX0_isFair := goodIn_r _ [27, 28, 29, 30, 8, 31, 32, 6, 7, 9, 10, 11, 12, 13, 14, 15, 16, 17, 18, 19, 20, 21, 22, 23, 33, 34, 35, 36, 37, 38, 39, 40, 41, 63, 64, 65, 66] (by decide +kernel) (by decide +kernel)
set_option maxRecDepth 20000 in
theorem gX3_pass_X0_isFair : GoodIn wsX3_pass (wsV RX3 41 RX0 yX0_isFair wsX0_isFair) := goodIn_app (goodIn_of _ (by decide +kernel)) ggX3_pass_X0_isFair
set_option maxRecDepth 20000 in
theorem ggX3_pass_X0_payer : GoodIn wsX3_pass wsX0_payer := goodIn_r _ [31, 32, 6, 7, 8, 9, 10, 11, 12, 13, 14, 15, 16, 17, 18, 19, 20, 21, 22, 23, 63, 64, 65, 66] (by decide +kernel) (by decide +kernel)
set_option maxRecDepth 20000 in
theorem gX3_pass_X0_payer : GoodIn wsX3_pass (wsV RX3 44 RX0 yX0_payer wsX0_payer) := goodIn_app (goodIn_of _ (by decide +kernel)) ggX3_pass_X0_payer
set_option maxRecDepth 20000 in
theorem ggX3_pass_X0_carryOut : GoodIn wsX3_pass wsX0_carryOut := goodIn_r _ [46, 32, 6, 7, 8, 9, 10, 11, 12, 13, 14, 15, 16, 17, 18, 19, 20, 21, 22, 23, 47, 48, 49, 50, 51, 52, 53, 54, 55, 56, 57, 58, 63, 64, 65, 66] (by decide +kernel) (by decide +kernel)
set_option maxRecDepth 20000 in
theorem gX3_pass_X0_carryOut : GoodIn wsX3_pass (wsV RX3 48 RX0 yX0_carryOut wsX0_carryOut) := goodIn_app (goodIn_of _ (by decide +kernel)) ggX3_pass_X0_carryOut
theorem dX3_pass_0 : decode cX3_pass 0 = .ok (.aload_n 0, 1) := by decide +kernel
theorem dX3_pass_1 : decode cX3_pass 1 = .ok (.getfield 12, 3) := by decide +kernel
theorem dX3_pass_4 : decode cX3_pass 4 = .ok (.iload_n 1, 1) := by decide +kernel
theorem dX3_pass_5 : decode cX3_pass 5 = .ok (.iload_n 2, 1) := by decide +kernel
theorem dX3_pass_6 : decode cX3_pass 6 = .ok (.iload_n 3, 1) := by decide +kernel
theorem dX3_pass_7 : decode cX3_pass 7 = .ok (.invokevirtual 37, 3) := by decide +kernel
theorem dX3_pass_10 : decode cX3_pass 10 = .ok (.ifCond .eq 13, 3) := by decide +kernel
theorem dX3_pass_13 : decode cX3_pass 13 = .ok (.aload_n 0, 1) := by decide +kernel
theorem dX3_pass_14 : decode cX3_pass 14 = .ok (.dup, 1) := by decide +kernel
theorem dX3_pass_15 : decode cX3_pass 15 = .ok (.getfield 30, 3) := by decide +kernel
theorem dX3_pass_18 : decode cX3_pass 18 = .ok (.iconst 1, 1) := by decide +kernel
theorem dX3_pass_19 : decode cX3_pass 19 = .ok (.iadd, 1) := by decide +kernel
theorem dX3_pass_20 : decode cX3_pass 20 = .ok (.putfield 30, 3) := by decide +kernel
theorem dX3_pass_23 : decode cX3_pass 23 = .ok (.aload_n 0, 1) := by decide +kernel
theorem dX3_pass_24 : decode cX3_pass 24 = .ok (.getfield 12, 3) := by decide +kernel
theorem dX3_pass_27 : decode cX3_pass 27 = .ok (.iload_n 1, 1) := by decide +kernel
theorem dX3_pass_28 : decode cX3_pass 28 = .ok (.iload_n 2, 1) := by decide +kernel
theorem dX3_pass_29 : decode cX3_pass 29 = .ok (.iload_n 3, 1) := by decide +kernel
theorem dX3_pass_30 : decode cX3_pass 30 = .ok (.invokevirtual 41, 3) := by decide +kernel
theorem dX3_pass_33 : decode cX3_pass 33 = .ok (.ifCond .eq 13, 3) := by decide +kernel
theorem dX3_pass_36 : decode cX3_pass 36 = .ok (.aload_n 0, 1) := by decide +kernel
theorem dX3_pass_37 : decode cX3_pass 37 = .ok (.dup, 1) := by decide +kernel
theorem dX3_pass_38 : decode cX3_pass 38 = .ok (.getfield 34, 3) := by decide +kernel
theorem dX3_pass_41 : decode cX3_pass 41 = .ok (.iconst 1, 1) := by decide +kernel
theorem dX3_pass_42 : decode cX3_pass 42 = .ok (.iadd, 1) := by decide +kernel
theorem dX3_pass_43 : decode cX3_pass 43 = .ok (.putfield 34, 3) := by decide +kernel
theorem dX3_pass_46 : decode cX3_pass 46 = .ok (.aload_n 0, 1) := by decide +kernel
theorem dX3_pass_47 : decode cX3_pass 47 = .ok (.getfield 18, 3) := by decide +kernel
theorem dX3_pass_50 : decode cX3_pass 50 = .ok (.aload_n 0, 1) := by decide +kernel
theorem dX3_pass_51 : decode cX3_pass 51 = .ok (.getfield 12, 3) := by decide +kernel
theorem dX3_pass_54 : decode cX3_pass 54 = .ok (.iload_n 1, 1) := by decide +kernel
theorem dX3_pass_55 : decode cX3_pass 55 = .ok (.iload_n 2, 1) := by decide +kernel
theorem dX3_pass_56 : decode cX3_pass 56 = .ok (.iload_n 3, 1) := by decide +kernel
theorem dX3_pass_57 : decode cX3_pass 57 = .ok (.invokevirtual 44, 3) := by decide +kernel
theorem dX3_pass_60 : decode cX3_pass 60 = .ok (.dup2, 1) := by decide +kernel
theorem dX3_pass_61 : decode cX3_pass 61 = .ok (.iaload, 1) := by decide +kernel
theorem dX3_pass_62 : decode cX3_pass 62 = .ok (.iconst 1, 1) := by decide +kernel
theorem dX3_pass_63 : decode cX3_pass 63 = .ok (.iadd, 1) := by decide +kernel
theorem dX3_pass_64 : decode cX3_pass 64 = .ok (.iastore, 1) := by decide +kernel
theorem dX3_pass_65 : decode cX3_pass 65 = .ok (.aload_n 0, 1) := by decide +kernel
theorem dX3_pass_66 : decode cX3_pass 66 = .ok (.getfield 12, 3) := by decide +kernel
theorem dX3_pass_69 : decode cX3_pass 69 = .ok (.iload_n 1, 1) := by decide +kernel
theorem dX3_pass_70 : decode cX3_pass 70 = .ok (.iload_n 2, 1) := by decide +kernel
theorem dX3_pass_71 : decode cX3_pass 71 = .ok (.iload_n 3, 1) := by decide +kernel
theorem dX3_pass_72 : decode cX3_pass 72 = .ok (.invokevirtual 48, 3) := by decide +kernel
theorem dX3_pass_75 : decode cX3_pass 75 = .ok (.return_, 1) := by decide +kernel
set_option maxRecDepth 20000 in
theorem ggX3_result_X0_worthOfAll : GoodIn wsX3_result wsX0_worthOfAll := goodIn_r _ [9, 10, 11, 12, 13, 8, 14, 15, 16, 17, 18, 19, 20, 21, 22, 23, 24, 38, 39, 40, 41] (by decide +kernel) (by decide +kernel)
set_option maxRecDepth 20000 in
theorem gX3_result_X0_worthOfAll : GoodIn wsX3_result (wsV RX3 52 RX0 yX0_worthOfAll wsX0_worthOfAll) := goodIn_app (goodIn_of _ (by decide +kernel)) ggX3_result_X0_worthOfAll
set_option maxRecDepth 20000 in
theorem ggX3_result_X3_ofOne : GoodIn wsX3_result wsX3_ofOne := goodIn_r _ [29, 1, 30, 31, 32, 8, 33, 10, 34, 35, 36, 37, 38, 39, 40, 41] (by decide +kernel) (by decide +kernel)
set_option maxRecDepth 20000 in
theorem gX3_result_X3_ofOne : GoodIn wsX3_result (wsV RX3 56 RX3 yX3_ofOne wsX3_ofOne) := goodIn_app (goodIn_of _ (by decide +kernel)) ggX3_result_X3_ofOne
theorem dX3_result_0 : decode cX3_result 0 = .ok (.iload_n 1, 1) := by decide +kernel
theorem dX3_result_1 : decode cX3_result 1 = .ok (.tableswitch 52 0 3 #[31, 39, 42, 47], 31) := by decide +kernel
theorem dX3_result_32 : decode cX3_result 32 = .ok (.aload_n 0, 1) := by decide +kernel
theorem dX3_result_33 : decode cX3_result 33 = .ok (.getfield 12, 3) := by decide +kernel
theorem dX3_result_36 : decode cX3_result 36 = .ok (.invokevirtual 52, 3) := by decide +kernel
theorem dX3_result_39 : decode cX3_result 39 = .ok (.ireturn, 1) := by decide +kernel
theorem dX3_result_40 : decode cX3_result 40 = .ok (.bipush (-9), 2) := by decide +kernel
theorem dX3_result_42 : decode cX3_result 42 = .ok (.ireturn, 1) := by decide +kernel
theorem dX3_result_43 : decode cX3_result 43 = .ok (.aload_n 0, 1) := by decide +kernel
theorem dX3_result_44 : decode cX3_result 44 = .ok (.getfield 30, 3) := by decide +kernel
theorem dX3_result_47 : decode cX3_result 47 = .ok (.ireturn, 1) := by decide +kernel
theorem dX3_result_48 : decode cX3_result 48 = .ok (.aload_n 0, 1) := by decide +kernel
theorem dX3_result_49 : decode cX3_result 49 = .ok (.getfield 34, 3) := by decide +kernel
theorem dX3_result_52 : decode cX3_result 52 = .ok (.ireturn, 1) := by decide +kernel
theorem dX3_result_53 : decode cX3_result 53 = .ok (.iload_n 1, 1) := by decide +kernel
theorem dX3_result_54 : decode cX3_result 54 = .ok (.bipush 20, 2) := by decide +kernel
theorem dX3_result_56 : decode cX3_result 56 = .ok (.if_icmp .lt 18, 3) := by decide +kernel
theorem dX3_result_59 : decode cX3_result 59 = .ok (.aload_n 0, 1) := by decide +kernel
theorem dX3_result_60 : decode cX3_result 60 = .ok (.aload_n 0, 1) := by decide +kernel
theorem dX3_result_61 : decode cX3_result 61 = .ok (.getfield 18, 3) := by decide +kernel
theorem dX3_result_64 : decode cX3_result 64 = .ok (.iload_n 1, 1) := by decide +kernel
theorem dX3_result_65 : decode cX3_result 65 = .ok (.bipush 20, 2) := by decide +kernel
theorem dX3_result_67 : decode cX3_result 67 = .ok (.isub, 1) := by decide +kernel
theorem dX3_result_68 : decode cX3_result 68 = .ok (.invokevirtual 56, 3) := by decide +kernel
theorem dX3_result_71 : decode cX3_result 71 = .ok (.goto 18, 3) := by decide +kernel
theorem dX3_result_74 : decode cX3_result 74 = .ok (.aload_n 0, 1) := by decide +kernel
theorem dX3_result_75 : decode cX3_result 75 = .ok (.aload_n 0, 1) := by decide +kernel
theorem dX3_result_76 : decode cX3_result 76 = .ok (.getfield 12, 3) := by decide +kernel
theorem dX3_result_79 : decode cX3_result 79 = .ok (.getfield 60, 3) := by decide +kernel
theorem dX3_result_82 : decode cX3_result 82 = .ok (.iload_n 1, 1) := by decide +kernel
theorem dX3_result_83 : decode cX3_result 83 = .ok (.bipush 10, 2) := by decide +kernel
theorem dX3_result_85 : decode cX3_result 85 = .ok (.isub, 1) := by decide +kernel
theorem dX3_result_86 : decode cX3_result 86 = .ok (.invokevirtual 56, 3) := by decide +kernel
theorem dX3_result_89 : decode cX3_result 89 = .ok (.ireturn, 1) := by decide +kernel
set_option maxRecDepth 20000 in
theorem ggX3_ofOne_X0_has : GoodIn wsX3_ofOne wsX0_has := goodIn_r _ [6, 7, 12, 13, 14, 15] (by decide +kernel) (by decide +kernel)
set_option maxRecDepth 20000 in
theorem gX3_ofOne_X0_has : GoodIn wsX3_ofOne (wsV RX3 63 RX0 yX0_has wsX0_has) := goodIn_app (goodIn_of _ (by decide +kernel)) ggX3_ofOne_X0_has
theorem dX3_ofOne_0 : decode cX3_ofOne 0 = .ok (.aload_n 0, 1) := by decide +kernel
theorem dX3_ofOne_1 : decode cX3_ofOne 1 = .ok (.getfield 12, 3) := by decide +kernel
theorem dX3_ofOne_4 : decode cX3_ofOne 4 = .ok (.iload_n 2, 1) := by decide +kernel
theorem dX3_ofOne_5 : decode cX3_ofOne 5 = .ok (.invokevirtual 63, 3) := by decide +kernel
theorem dX3_ofOne_8 : decode cX3_ofOne 8 = .ok (.ifCond .eq 9, 3) := by decide +kernel
theorem dX3_ofOne_11 : decode cX3_ofOne 11 = .ok (.aload_n 1, 1) := by decide +kernel
theorem dX3_ofOne_12 : decode cX3_ofOne 12 = .ok (.iload_n 2, 1) := by decide +kernel
theorem dX3_ofOne_13 : decode cX3_ofOne 13 = .ok (.iaload, 1) := by decide +kernel
theorem dX3_ofOne_14 : decode cX3_ofOne 14 = .ok (.goto 5, 3) := by decide +kernel
theorem dX3_ofOne_17 : decode cX3_ofOne 17 = .ok (.bipush (-9), 2) := by decide +kernel
theorem dX3_ofOne_19 : decode cX3_ofOne 19 = .ok (.ireturn, 1) := by decide +kernel
