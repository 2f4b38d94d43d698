theorem dX5_tell_33 : decode cX5_tell 33 = .ok (.invokevirtual 231, 3) := by decide +kernel
theorem dX5_tell_36 : decode cX5_tell 36 = .ok (.aload_n 0, 1) := by decide +kernel
theorem dX5_tell_37 : decode cX5_tell 37 = .ok (.iconst 1, 1) := by decide +kernel
theorem dX5_tell_38 : decode cX5_tell 38 = .ok (.invokevirtual 231, 3) := by decide +kernel
theorem dX5_tell_41 : decode cX5_tell 41 = .ok (.iload_n 2, 1) := by decide +kernel
theorem dX5_tell_42 : decode cX5_tell 42 = .ok (.iconst 2, 1) := by decide +kernel
theorem dX5_tell_43 : decode cX5_tell 43 = .ok (.if_icmp .ne 8, 3) := by decide +kernel
theorem dX5_tell_46 : decode cX5_tell 46 = .ok (.aload_n 0, 1) := by decide +kernel
theorem dX5_tell_47 : decode cX5_tell 47 = .ok (.iconst 1, 1) := by decide +kernel
theorem dX5_tell_48 : decode cX5_tell 48 = .ok (.invokevirtual 231, 3) := by decide +kernel
theorem dX5_tell_51 : decode cX5_tell 51 = .ok (.aload_n 0, 1) := by decide +kernel
theorem dX5_tell_52 : decode cX5_tell 52 = .ok (.getfield 13, 3) := by decide +kernel
theorem dX5_tell_55 : decode cX5_tell 55 = .ok (.iload_n 1, 1) := by decide +kernel
theorem dX5_tell_56 : decode cX5_tell 56 = .ok (.iaload, 1) := by decide +kernel
theorem dX5_tell_57 : decode cX5_tell 57 = .ok (.istore_n 3, 1) := by decide +kernel
theorem dX5_tell_58 : decode cX5_tell 58 = .ok (.iload_n 2, 1) := by decide +kernel
theorem dX5_tell_59 : decode cX5_tell 59 = .ok (.ifCond .ne 7, 3) := by decide +kernel
theorem dX5_tell_62 : decode cX5_tell 62 = .ok (.iload_n 3, 1) := by decide +kernel
theorem dX5_tell_63 : decode cX5_tell 63 = .ok (.goto 21, 3) := by decide +kernel
theorem dX5_tell_66 : decode cX5_tell 66 = .ok (.iload_n 2, 1) := by decide +kernel
theorem dX5_tell_67 : decode cX5_tell 67 = .ok (.iconst 1, 1) := by decide +kernel
theorem dX5_tell_68 : decode cX5_tell 68 = .ok (.if_icmp .ne 10, 3) := by decide +kernel
theorem dX5_tell_71 : decode cX5_tell 71 = .ok (.iload_n 3, 1) := by decide +kernel
theorem dX5_tell_72 : decode cX5_tell 72 = .ok (.bipush 100, 2) := by decide +kernel
theorem dX5_tell_74 : decode cX5_tell 74 = .ok (.iadd, 1) := by decide +kernel
theorem dX5_tell_75 : decode cX5_tell 75 = .ok (.goto 9, 3) := by decide +kernel
theorem dX5_tell_78 : decode cX5_tell 78 = .ok (.iconst 2, 1) := by decide +kernel
theorem dX5_tell_79 : decode cX5_tell 79 = .ok (.iload_n 3, 1) := by decide +kernel
theorem dX5_tell_80 : decode cX5_tell 80 = .ok (.imul, 1) := by decide +kernel
theorem dX5_tell_81 : decode cX5_tell 81 = .ok (.bipush 100, 2) := by decide +kernel
theorem dX5_tell_83 : decode cX5_tell 83 = .ok (.iadd, 1) := by decide +kernel
theorem dX5_tell_84 : decode cX5_tell 84 = .ok (.ireturn, 1) := by decide +kernel
set_option maxRecDepth 20000 in
theorem ggX5_seal_X5_noHouse : GoodIn wsX5_seal wsX5_noHouse := goodIn_r _ [6, 7, 8, 9, 5, 10, 16, 17, 18, 19, 20, 21, 22, 23, 24, 25, 26, 27, 28, 29, 30, 31, 32, 33, 34, 35, 36, 37, 38, 39, 40] (by decide +kernel) (by decide +kernel)
set_option maxRecDepth 20000 in
theorem gX5_seal_X5_noHouse : GoodIn wsX5_seal (wsV RX5 125 RX5 yX5_noHouse wsX5_noHouse) := goodIn_app (goodIn_of _ (by decide +kernel)) ggX5_seal_X5_noHouse
set_option maxRecDepth 20000 in
theorem ggX5_seal_X5_traced : GoodIn wsX5_seal wsX5_traced := goodIn_r _ [14, 15, 16, 17, 18, 19, 20, 21, 22, 23, 24, 25, 26, 27, 28, 29, 30, 31, 32, 33, 34, 35, 36, 37, 38, 39, 40] (by decide +kernel) (by decide +kernel)
set_option maxRecDepth 20000 in
theorem gX5_seal_X5_traced : GoodIn wsX5_seal (wsV RX5 231 RX5 yX5_traced wsX5_traced) := goodIn_app (goodIn_of _ (by decide +kernel)) ggX5_seal_X5_traced
theorem dX5_seal_0 : decode cX5_seal 0 = .ok (.aload_n 0, 1) := by decide +kernel
theorem dX5_seal_1 : decode cX5_seal 1 = .ok (.iload_n 1, 1) := by decide +kernel
theorem dX5_seal_2 : decode cX5_seal 2 = .ok (.invokevirtual 125, 3) := by decide +kernel
theorem dX5_seal_5 : decode cX5_seal 5 = .ok (.ifCond .eq 5, 3) := by decide +kernel
theorem dX5_seal_8 : decode cX5_seal 8 = .ok (.iconst (-1), 1) := by decide +kernel
theorem dX5_seal_9 : decode cX5_seal 9 = .ok (.ireturn, 1) := by decide +kernel
theorem dX5_seal_10 : decode cX5_seal 10 = .ok (.aload_n 0, 1) := by decide +kernel
theorem dX5_seal_11 : decode cX5_seal 11 = .ok (.aload_n 0, 1) := by decide +kernel
theorem dX5_seal_12 : decode cX5_seal 12 = .ok (.getfield 7, 3) := by decide +kernel
theorem dX5_seal_15 : decode cX5_seal 15 = .ok (.iload_n 1, 1) := by decide +kernel
theorem dX5_seal_16 : decode cX5_seal 16 = .ok (.iaload, 1) := by decide +kernel
theorem dX5_seal_17 : decode cX5_seal 17 = .ok (.iconst 2, 1) := by decide +kernel
theorem dX5_seal_18 : decode cX5_seal 18 = .ok (.if_icmp .ne 7, 3) := by decide +kernel
theorem dX5_seal_21 : decode cX5_seal 21 = .ok (.iconst 5, 1) := by decide +kernel
theorem dX5_seal_22 : decode cX5_seal 22 = .ok (.goto 4, 3) := by decide +kernel
theorem dX5_seal_25 : decode cX5_seal 25 = .ok (.iconst 4, 1) := by decide +kernel
theorem dX5_seal_26 : decode cX5_seal 26 = .ok (.invokevirtual 231, 3) := by decide +kernel
theorem dX5_seal_29 : decode cX5_seal 29 = .ok (.aload_n 0, 1) := by decide +kernel
theorem dX5_seal_30 : decode cX5_seal 30 = .ok (.getfield 7, 3) := by decide +kernel
theorem dX5_seal_33 : decode cX5_seal 33 = .ok (.iload_n 1, 1) := by decide +kernel
theorem dX5_seal_34 : decode cX5_seal 34 = .ok (.iaload, 1) := by decide +kernel
theorem dX5_seal_35 : decode cX5_seal 35 = .ok (.iconst 2, 1) := by decide +kernel
theorem dX5_seal_36 : decode cX5_seal 36 = .ok (.if_icmp .ne 8, 3) := by decide +kernel
theorem dX5_seal_39 : decode cX5_seal 39 = .ok (.bipush 90, 2) := by decide +kernel
theorem dX5_seal_41 : decode cX5_seal 41 = .ok (.goto 4, 3) := by decide +kernel
theorem dX5_seal_44 : decode cX5_seal 44 = .ok (.iload_n 1, 1) := by decide +kernel
theorem dX5_seal_45 : decode cX5_seal 45 = .ok (.ireturn, 1) := by decide +kernel
set_option maxRecDepth 20000 in
theorem ggX5_as_X5_noHouse : GoodIn wsX5_as wsX5_noHouse := goodIn_r _ [7, 8, 9, 10, 6, 11, 21, 22, 23, 24, 25, 26, 27, 28, 29, 30, 31, 32, 33, 34, 35, 36, 37, 38, 39, 40, 41, 42, 43, 44, 45] (by decide +kernel) (by decide +kernel)
set_option maxRecDepth 20000 in
theorem gX5_as_X5_noHouse : GoodIn wsX5_as (wsV RX5 125 RX5 yX5_noHouse wsX5_noHouse) := goodIn_app (goodIn_of _ (by decide +kernel)) ggX5_as_X5_noHouse
set_option maxRecDepth 20000 in
theorem ggX5_as_X5_refused : GoodIn wsX5_as wsX5_refused := goodIn_r _ [15, 16, 21, 22, 23, 24, 25, 26, 27, 28, 29, 30, 31, 32, 33, 34, 35, 36, 37, 38, 39, 40, 41, 42, 43, 44, 45] (by decide +kernel) (by decide +kernel)
set_option maxRecDepth 20000 in
theorem gX5_as_X5_refused : GoodIn wsX5_as (wsV RX5 106 RX5 yX5_refused wsX5_refused) := goodIn_app (goodIn_of _ (by decide +kernel)) ggX5_as_X5_refused
set_option maxRecDepth 20000 in
theorem ggX5_as_X5_in : GoodIn wsX5_as wsX5_in := goodIn_r _ [11] (by decide +kernel) (by decide +kernel)
set_option maxRecDepth 20000 in
theorem gX5_as_X5_in : GoodIn wsX5_as (va_wsS RX5 71 yX5_in wsX5_in) := goodIn_app (goodIn_of _ (by decide +kernel)) ggX5_as_X5_in
set_option maxRecDepth 20000 in
theorem ggX5_as_X5_failed : GoodIn wsX5_as wsX5_failed := goodIn_r _ [20, 16, 21, 22, 23, 24, 25, 26, 27, 28, 29, 30, 31, 32, 33, 34, 35, 36, 37, 38, 39, 40, 41, 42, 43, 44, 45] (by decide +kernel) (by decide +kernel)
set_option maxRecDepth 20000 in
theorem gX5_as_X5_failed : GoodIn wsX5_as (wsV RX5 94 RX5 yX5_failed wsX5_failed) := goodIn_app (goodIn_of _ (by decide +kernel)) ggX5_as_X5_failed
theorem dX5_as_0 : decode cX5_as 0 = .ok (.aload_n 0, 1) := by decide +kernel
theorem dX5_as_1 : decode cX5_as 1 = .ok (.iload_n 1, 1) := by decide +kernel
theorem dX5_as_2 : decode cX5_as 2 = .ok (.invokevirtual 125, 3) := by decide +kernel
theorem dX5_as_5 : decode cX5_as 5 = .ok (.ifCond .eq 9, 3) := by decide +kernel
theorem dX5_as_8 : decode cX5_as 8 = .ok (.aload_n 0, 1) := by decide +kernel
theorem dX5_as_9 : decode cX5_as 9 = .ok (.iconst (-1), 1) := by decide +kernel
theorem dX5_as_10 : decode cX5_as 10 = .ok (.invokevirtual 106, 3) := by decide +kernel
theorem dX5_as_13 : decode cX5_as 13 = .ok (.ireturn, 1) := by decide +kernel
theorem dX5_as_14 : decode cX5_as 14 = .ok (.iload_n 2, 1) := by decide +kernel
theorem dX5_as_15 : decode cX5_as 15 = .ok (.i2l, 1) := by decide +kernel
theorem dX5_as_16 : decode cX5_as 16 = .ok (.lconst 0, 1) := by decide +kernel
theorem dX5_as_17 : decode cX5_as 17 = .ok (.ldc2_w 109, 3) := by decide +kernel
theorem dX5_as_20 : decode cX5_as 20 = .ok (.invokestatic 71, 3) := by decide +kernel
theorem dX5_as_23 : decode cX5_as 23 = .ok (.ifCond .ne 10, 3) := by decide +kernel
theorem dX5_as_26 : decode cX5_as 26 = .ok (.aload_n 0, 1) := by decide +kernel
theorem dX5_as_27 : decode cX5_as 27 = .ok (.bipush (-2), 2) := by decide +kernel
theorem dX5_as_29 : decode cX5_as 29 = .ok (.invokevirtual 106, 3) := by decide +kernel
theorem dX5_as_32 : decode cX5_as 32 = .ok (.ireturn, 1) := by decide +kernel
theorem dX5_as_33 : decode cX5_as 33 = .ok (.aload_n 0, 1) := by decide +kernel
theorem dX5_as_34 : decode cX5_as 34 = .ok (.getfield 7, 3) := by decide +kernel
theorem dX5_as_37 : decode cX5_as 37 = .ok (.iload_n 1, 1) := by decide +kernel
theorem dX5_as_38 : decode cX5_as 38 = .ok (.iaload, 1) := by decide +kernel
theorem dX5_as_39 : decode cX5_as 39 = .ok (.iload_n 2, 1) := by decide +kernel
theorem dX5_as_40 : decode cX5_as 40 = .ok (.if_icmp .lt 11, 3) := by decide +kernel
theorem dX5_as_43 : decode cX5_as 43 = .ok (.aload_n 0, 1) := by decide +kernel
theorem dX5_as_44 : decode cX5_as 44 = .ok (.iconst 1, 1) := by decide +kernel
theorem dX5_as_45 : decode cX5_as 45 = .ok (.invokevirtual 106, 3) := by decide +kernel
theorem dX5_as_48 : decode cX5_as 48 = .ok (.goto 8, 3) := by decide +kernel
theorem dX5_as_51 : decode cX5_as 51 = .ok (.aload_n 0, 1) := by decide +kernel
theorem dX5_as_52 : decode cX5_as 52 = .ok (.iconst 2, 1) := by decide +kernel
theorem dX5_as_53 : decode cX5_as 53 = .ok (.invokevirtual 94, 3) := by decide +kernel
theorem dX5_as_56 : decode cX5_as 56 = .ok (.ireturn, 1) := by decide +kernel
theorem dX5_trace_0 : decode cX5_trace 0 = .ok (.aload_n 0, 1) := by decide +kernel
theorem dX5_trace_1 : decode cX5_trace 1 = .ok (.getfield 228, 3) := by decide +kernel
theorem dX5_trace_4 : decode cX5_trace 4 = .ok (.ireturn, 1) := by decide +kernel
theorem dX5_fault_0 : decode cX5_fault 0 = .ok (.aload_n 0, 1) := by decide +kernel
theorem dX5_fault_1 : decode cX5_fault 1 = .ok (.getfield 60, 3) := by decide +kernel
theorem dX5_fault_4 : decode cX5_fault 4 = .ok (.ireturn, 1) := by decide +kernel
theorem dX5_sumOf_0 : decode cX5_sumOf 0 = .ok (.iconst 0, 1) := by decide +kernel
theorem dX5_sumOf_1 : decode cX5_sumOf 1 = .ok (.istore_n 2, 1) := by decide +kernel
theorem dX5_sumOf_2 : decode cX5_sumOf 2 = .ok (.iconst 0, 1) := by decide +kernel
theorem dX5_sumOf_3 : decode cX5_sumOf 3 = .ok (.istore_n 3, 1) := by decide +kernel
theorem dX5_sumOf_4 : decode cX5_sumOf 4 = .ok (.iload_n 3, 1) := by decide +kernel
theorem dX5_sumOf_5 : decode cX5_sumOf 5 = .ok (.aload_n 0, 1) := by decide +kernel
theorem dX5_sumOf_6 : decode cX5_sumOf 6 = .ok (.getfield 68, 3) := by decide +kernel
theorem dX5_sumOf_9 : decode cX5_sumOf 9 = .ok (.if_icmp .ge 31, 3) := by decide +kernel
theorem dX5_sumOf_12 : decode cX5_sumOf 12 = .ok (.iload_n 2, 1) := by decide +kernel
theorem dX5_sumOf_13 : decode cX5_sumOf 13 = .ok (.iload_n 1, 1) := by decide +kernel
theorem dX5_sumOf_14 : decode cX5_sumOf 14 = .ok (.ifCond .eq 12, 3) := by decide +kernel
theorem dX5_sumOf_17 : decode cX5_sumOf 17 = .ok (.aload_n 0, 1) := by decide +kernel
theorem dX5_sumOf_18 : decode cX5_sumOf 18 = .ok (.getfield 13, 3) := by decide +kernel
theorem dX5_sumOf_21 : decode cX5_sumOf 21 = .ok (.iload_n 3, 1) := by decide +kernel
theorem dX5_sumOf_22 : decode cX5_sumOf 22 = .ok (.iaload, 1) := by decide +kernel
theorem dX5_sumOf_23 : decode cX5_sumOf 23 = .ok (.goto 9, 3) := by decide +kernel
theorem dX5_sumOf_26 : decode cX5_sumOf 26 = .ok (.aload_n 0, 1) := by decide +kernel
theorem dX5_sumOf_27 : decode cX5_sumOf 27 = .ok (.getfield 16, 3) := by decide +kernel
theorem dX5_sumOf_30 : decode cX5_sumOf 30 = .ok (.iload_n 3, 1) := by decide +kernel
theorem dX5_sumOf_31 : decode cX5_sumOf 31 = .ok (.iaload, 1) := by decide +kernel
theorem dX5_sumOf_32 : decode cX5_sumOf 32 = .ok (.iadd, 1) := by decide +kernel
theorem dX5_sumOf_33 : decode cX5_sumOf 33 = .ok (.istore_n 2, 1) := by decide +kernel
theorem dX5_sumOf_34 : decode cX5_sumOf 34 = .ok (.iinc 3 1, 3) := by decide +kernel
theorem dX5_sumOf_37 : decode cX5_sumOf 37 = .ok (.goto (-33), 3) := by decide +kernel
theorem dX5_sumOf_40 : decode cX5_sumOf 40 = .ok (.iload_n 2, 1) := by decide +kernel
theorem dX5_sumOf_41 : decode cX5_sumOf 41 = .ok (.ireturn, 1) := by decide +kernel
set_option maxRecDepth 20000 in
theorem ggX5_many_X5_sumOf : GoodIn wsX5_many wsX5_sumOf := goodIn_r _ [7, 1, 8, 9, 10, 11, 12, 13, 14, 15, 16, 17, 18, 19, 20, 21, 22, 23, 24, 25, 26, 27, 28, 29, 30, 31, 32, 33, 34] (by decide +kernel) (by decide +kernel)
set_option maxRecDepth 20000 in
theorem gX5_many_X5_sumOf : GoodIn wsX5_many (wsV RX5 235 RX5 yX5_sumOf wsX5_sumOf) := goodIn_app (goodIn_of _ (by decide +kernel)) ggX5_many_X5_sumOf
theorem dX5_many_0 : decode cX5_many 0 = .ok (.iload_n 1, 1) := by decide +kernel
theorem dX5_many_1 : decode cX5_many 1 = .ok (.tableswitch 53 0 3 #[31, 36, 42, 48], 31) := by decide +kernel
theorem dX5_many_32 : decode cX5_many 32 = .ok (.aload_n 0, 1) := by decide +kernel
theorem dX5_many_33 : decode cX5_many 33 = .ok (.getfield 68, 3) := by decide +kernel
theorem dX5_many_36 : decode cX5_many 36 = .ok (.ireturn, 1) := by decide +kernel
theorem dX5_many_37 : decode cX5_many 37 = .ok (.aload_n 0, 1) := by decide +kernel
theorem dX5_many_38 : decode cX5_many 38 = .ok (.iconst 1, 1) := by decide +kernel
theorem dX5_many_39 : decode cX5_many 39 = .ok (.invokevirtual 235, 3) := by decide +kernel
theorem dX5_many_42 : decode cX5_many 42 = .ok (.ireturn, 1) := by decide +kernel
theorem dX5_many_43 : decode cX5_many 43 = .ok (.aload_n 0, 1) := by decide +kernel
theorem dX5_many_44 : decode cX5_many 44 = .ok (.iconst 0, 1) := by decide +kernel
theorem dX5_many_45 : decode cX5_many 45 = .ok (.invokevirtual 235, 3) := by decide +kernel
theorem dX5_many_48 : decode cX5_many 48 = .ok (.ireturn, 1) := by decide +kernel
theorem dX5_many_49 : decode cX5_many 49 = .ok (.aload_n 0, 1) := by decide +kernel
theorem dX5_many_50 : decode cX5_many 50 = .ok (.getfield 118, 3) := by decide +kernel
theorem dX5_many_53 : decode cX5_many 53 = .ok (.ireturn, 1) := by decide +kernel
theorem dX5_many_54 : decode cX5_many 54 = .ok (.bipush (-2), 2) := by decide +kernel
theorem dX5_many_56 : decode cX5_many 56 = .ok (.ireturn, 1) := by decide +kernel
