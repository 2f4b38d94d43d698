theorem dX4_as_6 : decode cX4_as 6 = .ok (.getfield 12, 3) := by decide +kernel
theorem dX4_as_9 : decode cX4_as 9 = .ok (.iload_n 1, 1) := by decide +kernel
theorem dX4_as_10 : decode cX4_as 10 = .ok (.invokevirtual 75, 3) := by decide +kernel
theorem dX4_as_13 : decode cX4_as 13 = .ok (.ifCond .ne 5, 3) := by decide +kernel
theorem dX4_as_16 : decode cX4_as 16 = .ok (.iconst (-1), 1) := by decide +kernel
theorem dX4_as_17 : decode cX4_as 17 = .ok (.ireturn, 1) := by decide +kernel
theorem dX4_as_18 : decode cX4_as 18 = .ok (.iload_n 2, 1) := by decide +kernel
theorem dX4_as_19 : decode cX4_as 19 = .ok (.ifCond .lt 8, 3) := by decide +kernel
theorem dX4_as_22 : decode cX4_as 22 = .ok (.iload_n 2, 1) := by decide +kernel
theorem dX4_as_23 : decode cX4_as 23 = .ok (.iconst 3, 1) := by decide +kernel
theorem dX4_as_24 : decode cX4_as 24 = .ok (.if_icmp .lt 6, 3) := by decide +kernel
theorem dX4_as_27 : decode cX4_as 27 = .ok (.bipush (-2), 2) := by decide +kernel
theorem dX4_as_29 : decode cX4_as 29 = .ok (.ireturn, 1) := by decide +kernel
theorem dX4_as_30 : decode cX4_as 30 = .ok (.aload_n 0, 1) := by decide +kernel
theorem dX4_as_31 : decode cX4_as 31 = .ok (.getfield 12, 3) := by decide +kernel
theorem dX4_as_34 : decode cX4_as 34 = .ok (.getfield 78, 3) := by decide +kernel
theorem dX4_as_37 : decode cX4_as 37 = .ok (.iload_n 1, 1) := by decide +kernel
theorem dX4_as_38 : decode cX4_as 38 = .ok (.iaload, 1) := by decide +kernel
theorem dX4_as_39 : decode cX4_as 39 = .ok (.iload_n 2, 1) := by decide +kernel
theorem dX4_as_40 : decode cX4_as 40 = .ok (.if_icmp .lt 7, 3) := by decide +kernel
theorem dX4_as_43 : decode cX4_as 43 = .ok (.iconst 1, 1) := by decide +kernel
theorem dX4_as_44 : decode cX4_as 44 = .ok (.goto 8, 3) := by decide +kernel
theorem dX4_as_47 : decode cX4_as 47 = .ok (.aload_n 0, 1) := by decide +kernel
theorem dX4_as_48 : decode cX4_as 48 = .ok (.iconst 2, 1) := by decide +kernel
theorem dX4_as_49 : decode cX4_as 49 = .ok (.invokevirtual 61, 3) := by decide +kernel
theorem dX4_as_52 : decode cX4_as 52 = .ok (.ireturn, 1) := by decide +kernel
theorem dX4_trace_0 : decode cX4_trace 0 = .ok (.aload_n 0, 1) := by decide +kernel
theorem dX4_trace_1 : decode cX4_trace 1 = .ok (.getfield 197, 3) := by decide +kernel
theorem dX4_trace_4 : decode cX4_trace 4 = .ok (.ireturn, 1) := by decide +kernel
theorem dX4_fault_0 : decode cX4_fault 0 = .ok (.aload_n 0, 1) := by decide +kernel
theorem dX4_fault_1 : decode cX4_fault 1 = .ok (.getfield 42, 3) := by decide +kernel
theorem dX4_fault_4 : decode cX4_fault 4 = .ok (.ireturn, 1) := by decide +kernel
set_option maxRecDepth 20000 in
theorem ggX4_many_X0_sum : GoodIn wsX4_many wsX0_sum := goodIn_r _ [7, 8, 16, 17, 18, 19] (by decide +kernel) (by decide +kernel)
set_option maxRecDepth 20000 in
theorem gX4_many_X0_sum : GoodIn wsX4_many (wsV RX4 200 RX0 yX0_sum wsX0_sum) := goodIn_app (goodIn_of _ (by decide +kernel)) ggX4_many_X0_sum
theorem dX4_many_0 : decode cX4_many 0 = .ok (.iload_n 1, 1) := by decide +kernel
theorem dX4_many_1 : decode cX4_many 1 = .ok (.tableswitch 77 0 3 #[31, 39, 54, 69], 31) := by decide +kernel
theorem dX4_many_32 : decode cX4_many 32 = .ok (.aload_n 0, 1) := by decide +kernel
theorem dX4_many_33 : decode cX4_many 33 = .ok (.getfield 12, 3) := by decide +kernel
theorem dX4_many_36 : decode cX4_many 36 = .ok (.getfield 72, 3) := by decide +kernel
theorem dX4_many_39 : decode cX4_many 39 = .ok (.ireturn, 1) := by decide +kernel
theorem dX4_many_40 : decode cX4_many 40 = .ok (.aload_n 0, 1) := by decide +kernel
theorem dX4_many_41 : decode cX4_many 41 = .ok (.getfield 12, 3) := by decide +kernel
theorem dX4_many_44 : decode cX4_many 44 = .ok (.aload_n 0, 1) := by decide +kernel
theorem dX4_many_45 : decode cX4_many 45 = .ok (.getfield 12, 3) := by decide +kernel
theorem dX4_many_48 : decode cX4_many 48 = .ok (.getfield 82, 3) := by decide +kernel
theorem dX4_many_51 : decode cX4_many 51 = .ok (.invokevirtual 200, 3) := by decide +kernel
theorem dX4_many_54 : decode cX4_many 54 = .ok (.ireturn, 1) := by decide +kernel
theorem dX4_many_55 : decode cX4_many 55 = .ok (.aload_n 0, 1) := by decide +kernel
theorem dX4_many_56 : decode cX4_many 56 = .ok (.getfield 12, 3) := by decide +kernel
theorem dX4_many_59 : decode cX4_many 59 = .ok (.aload_n 0, 1) := by decide +kernel
theorem dX4_many_60 : decode cX4_many 60 = .ok (.getfield 12, 3) := by decide +kernel
theorem dX4_many_63 : decode cX4_many 63 = .ok (.getfield 85, 3) := by decide +kernel
theorem dX4_many_66 : decode cX4_many 66 = .ok (.invokevirtual 200, 3) := by decide +kernel
theorem dX4_many_69 : decode cX4_many 69 = .ok (.ireturn, 1) := by decide +kernel
theorem dX4_many_70 : decode cX4_many 70 = .ok (.aload_n 0, 1) := by decide +kernel
theorem dX4_many_71 : decode cX4_many 71 = .ok (.getfield 31, 3) := by decide +kernel
theorem dX4_many_74 : decode cX4_many 74 = .ok (.getfield 138, 3) := by decide +kernel
theorem dX4_many_77 : decode cX4_many 77 = .ok (.ireturn, 1) := by decide +kernel
theorem dX4_many_78 : decode cX4_many 78 = .ok (.bipush (-2), 2) := by decide +kernel
theorem dX4_many_80 : decode cX4_many 80 = .ok (.ireturn, 1) := by decide +kernel
theorem dX4_isCost_0 : decode cX4_isCost 0 = .ok (.iload_n 0, 1) := by decide +kernel
theorem dX4_isCost_1 : decode cX4_isCost 1 = .ok (.ifCond .lt 13, 3) := by decide +kernel
theorem dX4_isCost_4 : decode cX4_isCost 4 = .ok (.iload_n 0, 1) := by decide +kernel
theorem dX4_isCost_5 : decode cX4_isCost 5 = .ok (.bipush 9, 2) := by decide +kernel
theorem dX4_isCost_7 : decode cX4_isCost 7 = .ok (.if_icmp .gt 7, 3) := by decide +kernel
theorem dX4_isCost_10 : decode cX4_isCost 10 = .ok (.iconst 1, 1) := by decide +kernel
theorem dX4_isCost_11 : decode cX4_isCost 11 = .ok (.goto 4, 3) := by decide +kernel
theorem dX4_isCost_14 : decode cX4_isCost 14 = .ok (.iconst 0, 1) := by decide +kernel
theorem dX4_isCost_15 : decode cX4_isCost 15 = .ok (.ireturn, 1) := by decide +kernel
theorem dX4_failed_0 : decode cX4_failed 0 = .ok (.aload_n 0, 1) := by decide +kernel
theorem dX4_failed_1 : decode cX4_failed 1 = .ok (.iload_n 1, 1) := by decide +kernel
theorem dX4_failed_2 : decode cX4_failed 2 = .ok (.putfield 42, 3) := by decide +kernel
theorem dX4_failed_5 : decode cX4_failed 5 = .ok (.bipush (-10), 2) := by decide +kernel
theorem dX4_failed_7 : decode cX4_failed 7 = .ok (.iload_n 1, 1) := by decide +kernel
theorem dX4_failed_8 : decode cX4_failed 8 = .ok (.isub, 1) := by decide +kernel
theorem dX4_failed_9 : decode cX4_failed 9 = .ok (.ireturn, 1) := by decide +kernel
set_option maxRecDepth 20000 in
theorem ggX4_firstFault_X4_goesOn : GoodIn wsX4_firstFault wsX4_goesOn := goodIn_r _ [5] (by decide +kernel) (by decide +kernel)
set_option maxRecDepth 20000 in
theorem gX4_firstFault_X4_goesOn : GoodIn wsX4_firstFault (va_wsS RX4 204 yX4_goesOn wsX4_goesOn) := goodIn_app (goodIn_of _ (by decide +kernel)) ggX4_firstFault_X4_goesOn
theorem dX4_firstFault_0 : decode cX4_firstFault 0 = .ok (.iconst 0, 1) := by decide +kernel
theorem dX4_firstFault_1 : decode cX4_firstFault 1 = .ok (.istore 4, 2) := by decide +kernel
theorem dX4_firstFault_3 : decode cX4_firstFault 3 = .ok (.iload 4, 2) := by decide +kernel
theorem dX4_firstFault_5 : decode cX4_firstFault 5 = .ok (.iload_n 3, 1) := by decide +kernel
theorem dX4_firstFault_6 : decode cX4_firstFault 6 = .ok (.if_icmp .ge 34, 3) := by decide +kernel
theorem dX4_firstFault_9 : decode cX4_firstFault 9 = .ok (.iload 4, 2) := by decide +kernel
theorem dX4_firstFault_11 : decode cX4_firstFault 11 = .ok (.aload_n 0, 1) := by decide +kernel
theorem dX4_firstFault_12 : decode cX4_firstFault 12 = .ok (.getfield 38, 3) := by decide +kernel
theorem dX4_firstFault_15 : decode cX4_firstFault 15 = .ok (.getfield 168, 3) := by decide +kernel
theorem dX4_firstFault_18 : decode cX4_firstFault 18 = .ok (.iload_n 1, 1) := by decide +kernel
theorem dX4_firstFault_19 : decode cX4_firstFault 19 = .ok (.aaload, 1) := by decide +kernel
theorem dX4_firstFault_20 : decode cX4_firstFault 20 = .ok (.iload_n 2, 1) := by decide +kernel
theorem dX4_firstFault_21 : decode cX4_firstFault 21 = .ok (.iload 4, 2) := by decide +kernel
theorem dX4_firstFault_23 : decode cX4_firstFault 23 = .ok (.iadd, 1) := by decide +kernel
theorem dX4_firstFault_24 : decode cX4_firstFault 24 = .ok (.iaload, 1) := by decide +kernel
theorem dX4_firstFault_25 : decode cX4_firstFault 25 = .ok (.invokestatic 204, 3) := by decide +kernel
theorem dX4_firstFault_28 : decode cX4_firstFault 28 = .ok (.ifCond .ne 6, 3) := by decide +kernel
theorem dX4_firstFault_31 : decode cX4_firstFault 31 = .ok (.iload 4, 2) := by decide +kernel
theorem dX4_firstFault_33 : decode cX4_firstFault 33 = .ok (.ireturn, 1) := by decide +kernel
theorem dX4_firstFault_34 : decode cX4_firstFault 34 = .ok (.iinc 4 1, 3) := by decide +kernel
theorem dX4_firstFault_37 : decode cX4_firstFault 37 = .ok (.goto (-34), 3) := by decide +kernel
theorem dX4_firstFault_40 : decode cX4_firstFault 40 = .ok (.iload_n 3, 1) := by decide +kernel
theorem dX4_firstFault_41 : decode cX4_firstFault 41 = .ok (.bipush 8, 2) := by decide +kernel
theorem dX4_firstFault_43 : decode cX4_firstFault 43 = .ok (.if_icmp .le 14, 3) := by decide +kernel
theorem dX4_firstFault_46 : decode cX4_firstFault 46 = .ok (.iload_n 3, 1) := by decide +kernel
theorem dX4_firstFault_47 : decode cX4_firstFault 47 = .ok (.iconst 4, 1) := by decide +kernel
theorem dX4_firstFault_48 : decode cX4_firstFault 48 = .ok (.irem, 1) := by decide +kernel
theorem dX4_firstFault_49 : decode cX4_firstFault 49 = .ok (.iconst 1, 1) := by decide +kernel
theorem dX4_firstFault_50 : decode cX4_firstFault 50 = .ok (.if_icmp .ne 7, 3) := by decide +kernel
theorem dX4_firstFault_53 : decode cX4_firstFault 53 = .ok (.iconst 1, 1) := by decide +kernel
theorem dX4_firstFault_54 : decode cX4_firstFault 54 = .ok (.goto 4, 3) := by decide +kernel
theorem dX4_firstFault_57 : decode cX4_firstFault 57 = .ok (.iconst 0, 1) := by decide +kernel
theorem dX4_firstFault_58 : decode cX4_firstFault 58 = .ok (.istore 4, 2) := by decide +kernel
theorem dX4_firstFault_60 : decode cX4_firstFault 60 = .ok (.iload 4, 2) := by decide +kernel
theorem dX4_firstFault_62 : decode cX4_firstFault 62 = .ok (.ifCond .eq 8, 3) := by decide +kernel
theorem dX4_firstFault_65 : decode cX4_firstFault 65 = .ok (.bipush (-9), 2) := by decide +kernel
theorem dX4_firstFault_67 : decode cX4_firstFault 67 = .ok (.goto 4, 3) := by decide +kernel
theorem dX4_firstFault_70 : decode cX4_firstFault 70 = .ok (.iload_n 3, 1) := by decide +kernel
theorem dX4_firstFault_71 : decode cX4_firstFault 71 = .ok (.ireturn, 1) := by decide +kernel
theorem dX4_goesOn_0 : decode cX4_goesOn 0 = .ok (.iload_n 0, 1) := by decide +kernel
theorem dX4_goesOn_1 : decode cX4_goesOn 1 = .ok (.ifCond .ne 15, 3) := by decide +kernel
theorem dX4_goesOn_4 : decode cX4_goesOn 4 = .ok (.iload_n 1, 1) := by decide +kernel
theorem dX4_goesOn_5 : decode cX4_goesOn 5 = .ok (.bipush 113, 2) := by decide +kernel
theorem dX4_goesOn_7 : decode cX4_goesOn 7 = .ok (.if_icmp .ne 7, 3) := by decide +kernel
theorem dX4_goesOn_10 : decode cX4_goesOn 10 = .ok (.iconst 1, 1) := by decide +kernel
theorem dX4_goesOn_11 : decode cX4_goesOn 11 = .ok (.goto 4, 3) := by decide +kernel
theorem dX4_goesOn_14 : decode cX4_goesOn 14 = .ok (.iconst 0, 1) := by decide +kernel
theorem dX4_goesOn_15 : decode cX4_goesOn 15 = .ok (.ireturn, 1) := by decide +kernel
theorem dX4_goesOn_16 : decode cX4_goesOn 16 = .ok (.iload_n 0, 1) := by decide +kernel
theorem dX4_goesOn_17 : decode cX4_goesOn 17 = .ok (.iconst 1, 1) := by decide +kernel
theorem dX4_goesOn_18 : decode cX4_goesOn 18 = .ok (.isub, 1) := by decide +kernel
theorem dX4_goesOn_19 : decode cX4_goesOn 19 = .ok (.iconst 4, 1) := by decide +kernel
theorem dX4_goesOn_20 : decode cX4_goesOn 20 = .ok (.irem, 1) := by decide +kernel
theorem dX4_goesOn_21 : decode cX4_goesOn 21 = .ok (.lookupswitch 69 #[(0, 27), (1, 45)], 27) := by decide +kernel
theorem dX4_goesOn_48 : decode cX4_goesOn 48 = .ok (.iload_n 1, 1) := by decide +kernel
theorem dX4_goesOn_49 : decode cX4_goesOn 49 = .ok (.bipush 59, 2) := by decide +kernel
theorem dX4_goesOn_51 : decode cX4_goesOn 51 = .ok (.if_icmp .ne 13, 3) := by decide +kernel
theorem dX4_goesOn_54 : decode cX4_goesOn 54 = .ok (.iload_n 0, 1) := by decide +kernel
theorem dX4_goesOn_55 : decode cX4_goesOn 55 = .ok (.bipush 24, 2) := by decide +kernel
theorem dX4_goesOn_57 : decode cX4_goesOn 57 = .ok (.if_icmp .ge 7, 3) := by decide +kernel
theorem dX4_goesOn_60 : decode cX4_goesOn 60 = .ok (.iconst 1, 1) := by decide +kernel
theorem dX4_goesOn_61 : decode cX4_goesOn 61 = .ok (.goto 4, 3) := by decide +kernel
theorem dX4_goesOn_64 : decode cX4_goesOn 64 = .ok (.iconst 0, 1) := by decide +kernel
theorem dX4_goesOn_65 : decode cX4_goesOn 65 = .ok (.ireturn, 1) := by decide +kernel
theorem dX4_goesOn_66 : decode cX4_goesOn 66 = .ok (.iload_n 1, 1) := by decide +kernel
theorem dX4_goesOn_67 : decode cX4_goesOn 67 = .ok (.bipush 104, 2) := by decide +kernel
theorem dX4_goesOn_69 : decode cX4_goesOn 69 = .ok (.if_icmp .eq 15, 3) := by decide +kernel
theorem dX4_goesOn_72 : decode cX4_goesOn 72 = .ok (.iload_n 1, 1) := by decide +kernel
theorem dX4_goesOn_73 : decode cX4_goesOn 73 = .ok (.bipush 107, 2) := by decide +kernel
theorem dX4_goesOn_75 : decode cX4_goesOn 75 = .ok (.if_icmp .eq 9, 3) := by decide +kernel
theorem dX4_goesOn_78 : decode cX4_goesOn 78 = .ok (.iload_n 1, 1) := by decide +kernel
theorem dX4_goesOn_79 : decode cX4_goesOn 79 = .ok (.bipush 116, 2) := by decide +kernel
theorem dX4_goesOn_81 : decode cX4_goesOn 81 = .ok (.if_icmp .ne 7, 3) := by decide +kernel
theorem dX4_goesOn_84 : decode cX4_goesOn 84 = .ok (.iconst 1, 1) := by decide +kernel
theorem dX4_goesOn_85 : decode cX4_goesOn 85 = .ok (.goto 4, 3) := by decide +kernel
theorem dX4_goesOn_88 : decode cX4_goesOn 88 = .ok (.iconst 0, 1) := by decide +kernel
theorem dX4_goesOn_89 : decode cX4_goesOn 89 = .ok (.ireturn, 1) := by decide +kernel
theorem dX4_goesOn_90 : decode cX4_goesOn 90 = .ok (.iload_n 1, 1) := by decide +kernel
theorem dX4_goesOn_91 : decode cX4_goesOn 91 = .ok (.bipush 48, 2) := by decide +kernel
theorem dX4_goesOn_93 : decode cX4_goesOn 93 = .ok (.if_icmp .lt 13, 3) := by decide +kernel
theorem dX4_goesOn_96 : decode cX4_goesOn 96 = .ok (.iload_n 1, 1) := by decide +kernel
theorem dX4_goesOn_97 : decode cX4_goesOn 97 = .ok (.bipush 57, 2) := by decide +kernel
theorem dX4_goesOn_99 : decode cX4_goesOn 99 = .ok (.if_icmp .gt 7, 3) := by decide +kernel
theorem dX4_goesOn_102 : decode cX4_goesOn 102 = .ok (.iconst 1, 1) := by decide +kernel
theorem dX4_goesOn_103 : decode cX4_goesOn 103 = .ok (.goto 4, 3) := by decide +kernel
theorem dX4_goesOn_106 : decode cX4_goesOn 106 = .ok (.iconst 0, 1) := by decide +kernel
theorem dX4_goesOn_107 : decode cX4_goesOn 107 = .ok (.ireturn, 1) := by decide +kernel
set_option maxRecDepth 20000 in
theorem ggX4_settle_X4_kindOf : GoodIn wsX4_settle wsX4_kindOf := goodIn_r _ [11] (by decide +kernel) (by decide +kernel)
set_option maxRecDepth 20000 in
theorem gX4_settle_X4_kindOf : GoodIn wsX4_settle (va_wsS RX4 212 yX4_kindOf wsX4_kindOf) := goodIn_app (goodIn_of _ (by decide +kernel)) ggX4_settle_X4_kindOf
theorem dX4_settle_0 : decode cX4_settle 0 = .ok (.aload_n 0, 1) := by decide +kernel
theorem dX4_settle_1 : decode cX4_settle 1 = .ok (.getfield 38, 3) := by decide +kernel
theorem dX4_settle_4 : decode cX4_settle 4 = .ok (.getfield 168, 3) := by decide +kernel
theorem dX4_settle_7 : decode cX4_settle 7 = .ok (.iload_n 1, 1) := by decide +kernel
theorem dX4_settle_8 : decode cX4_settle 8 = .ok (.aaload, 1) := by decide +kernel
theorem dX4_settle_9 : decode cX4_settle 9 = .ok (.astore 4, 2) := by decide +kernel
theorem dX4_settle_11 : decode cX4_settle 11 = .ok (.iload_n 3, 1) := by decide +kernel
theorem dX4_settle_12 : decode cX4_settle 12 = .ok (.iconst 1, 1) := by decide +kernel
theorem dX4_settle_13 : decode cX4_settle 13 = .ok (.isub, 1) := by decide +kernel
theorem dX4_settle_14 : decode cX4_settle 14 = .ok (.iconst 4, 1) := by decide +kernel
theorem dX4_settle_15 : decode cX4_settle 15 = .ok (.idiv, 1) := by decide +kernel
theorem dX4_settle_16 : decode cX4_settle 16 = .ok (.bipush 6, 2) := by decide +kernel
theorem dX4_settle_18 : decode cX4_settle 18 = .ok (.invokestatic 207, 3) := by decide +kernel
theorem dX4_settle_21 : decode cX4_settle 21 = .ok (.istore 5, 2) := by decide +kernel
theorem dX4_settle_23 : decode cX4_settle 23 = .ok (.iconst 0, 1) := by decide +kernel
theorem dX4_settle_24 : decode cX4_settle 24 = .ok (.istore 6, 2) := by decide +kernel
theorem dX4_settle_26 : decode cX4_settle 26 = .ok (.iload 6, 2) := by decide +kernel
theorem dX4_settle_28 : decode cX4_settle 28 = .ok (.iload 5, 2) := by decide +kernel
theorem dX4_settle_30 : decode cX4_settle 30 = .ok (.if_icmp .ge 77, 3) := by decide +kernel
theorem dX4_settle_33 : decode cX4_settle 33 = .ok (.iload_n 2, 1) := by decide +kernel
theorem dX4_settle_34 : decode cX4_settle 34 = .ok (.iconst 2, 1) := by decide +kernel
theorem dX4_settle_35 : decode cX4_settle 35 = .ok (.iadd, 1) := by decide +kernel
theorem dX4_settle_36 : decode cX4_settle 36 = .ok (.iconst 4, 1) := by decide +kernel
theorem dX4_settle_37 : decode cX4_settle 37 = .ok (.iload 6, 2) := by decide +kernel
theorem dX4_settle_39 : decode cX4_settle 39 = .ok (.imul, 1) := by decide +kernel
theorem dX4_settle_40 : decode cX4_settle 40 = .ok (.iadd, 1) := by decide +kernel
theorem dX4_settle_41 : decode cX4_settle 41 = .ok (.istore 7, 2) := by decide +kernel
theorem dX4_settle_43 : decode cX4_settle 43 = .ok (.aload_n 0, 1) := by decide +kernel
theorem dX4_settle_44 : decode cX4_settle 44 = .ok (.getfield 12, 3) := by decide +kernel
theorem dX4_settle_47 : decode cX4_settle 47 = .ok (.getfield 78, 3) := by decide +kernel
theorem dX4_settle_50 : decode cX4_settle 50 = .ok (.iload 6, 2) := by decide +kernel
theorem dX4_settle_52 : decode cX4_settle 52 = .ok (.aload 4, 2) := by decide +kernel
theorem dX4_settle_54 : decode cX4_settle 54 = .ok (.iload 7, 2) := by decide +kernel
theorem dX4_settle_56 : decode cX4_settle 56 = .ok (.iaload, 1) := by decide +kernel
theorem dX4_settle_57 : decode cX4_settle 57 = .ok (.invokestatic 212, 3) := by decide +kernel
theorem dX4_settle_60 : decode cX4_settle 60 = .ok (.iastore, 1) := by decide +kernel
theorem dX4_settle_61 : decode cX4_settle 61 = .ok (.aload_n 0, 1) := by decide +kernel
theorem dX4_settle_62 : decode cX4_settle 62 = .ok (.getfield 12, 3) := by decide +kernel
theorem dX4_settle_65 : decode cX4_settle 65 = .ok (.getfield 82, 3) := by decide +kernel
theorem dX4_settle_68 : decode cX4_settle 68 = .ok (.iload 6, 2) := by decide +kernel
theorem dX4_settle_70 : decode cX4_settle 70 = .ok (.aload 4, 2) := by decide +kernel
theorem dX4_settle_72 : decode cX4_settle 72 = .ok (.iload 7, 2) := by decide +kernel
theorem dX4_settle_74 : decode cX4_settle 74 = .ok (.iconst 1, 1) := by decide +kernel
theorem dX4_settle_75 : decode cX4_settle 75 = .ok (.iadd, 1) := by decide +kernel
theorem dX4_settle_76 : decode cX4_settle 76 = .ok (.iaload, 1) := by decide +kernel
theorem dX4_settle_77 : decode cX4_settle 77 = .ok (.bipush 48, 2) := by decide +kernel
theorem dX4_settle_79 : decode cX4_settle 79 = .ok (.isub, 1) := by decide +kernel
theorem dX4_settle_80 : decode cX4_settle 80 = .ok (.iastore, 1) := by decide +kernel
theorem dX4_settle_81 : decode cX4_settle 81 = .ok (.aload_n 0, 1) := by decide +kernel
theorem dX4_settle_82 : decode cX4_settle 82 = .ok (.getfield 12, 3) := by decide +kernel
theorem dX4_settle_85 : decode cX4_settle 85 = .ok (.getfield 85, 3) := by decide +kernel
theorem dX4_settle_88 : decode cX4_settle 88 = .ok (.iload 6, 2) := by decide +kernel
theorem dX4_settle_90 : decode cX4_settle 90 = .ok (.aload 4, 2) := by decide +kernel
theorem dX4_settle_92 : decode cX4_settle 92 = .ok (.iload 7, 2) := by decide +kernel
theorem dX4_settle_94 : decode cX4_settle 94 = .ok (.iconst 2, 1) := by decide +kernel
theorem dX4_settle_95 : decode cX4_settle 95 = .ok (.iadd, 1) := by decide +kernel
theorem dX4_settle_96 : decode cX4_settle 96 = .ok (.iaload, 1) := by decide +kernel
theorem dX4_settle_97 : decode cX4_settle 97 = .ok (.bipush 48, 2) := by decide +kernel
theorem dX4_settle_99 : decode cX4_settle 99 = .ok (.isub, 1) := by decide +kernel
theorem dX4_settle_100 : decode cX4_settle 100 = .ok (.iastore, 1) := by decide +kernel
theorem dX4_settle_101 : decode cX4_settle 101 = .ok (.iinc 6 1, 3) := by decide +kernel
theorem dX4_settle_104 : decode cX4_settle 104 = .ok (.goto (-78), 3) := by decide +kernel
theorem dX4_settle_107 : decode cX4_settle 107 = .ok (.aload_n 0, 1) := by decide +kernel
theorem dX4_settle_108 : decode cX4_settle 108 = .ok (.getfield 12, 3) := by decide +kernel
theorem dX4_settle_111 : decode cX4_settle 111 = .ok (.iload 5, 2) := by decide +kernel
theorem dX4_settle_113 : decode cX4_settle 113 = .ok (.putfield 72, 3) := by decide +kernel
theorem dX4_settle_116 : decode cX4_settle 116 = .ok (.aload_n 0, 1) := by decide +kernel
theorem dX4_settle_117 : decode cX4_settle 117 = .ok (.getfield 31, 3) := by decide +kernel
theorem dX4_settle_120 : decode cX4_settle 120 = .ok (.iconst 0, 1) := by decide +kernel
theorem dX4_settle_121 : decode cX4_settle 121 = .ok (.putfield 138, 3) := by decide +kernel
theorem dX4_settle_124 : decode cX4_settle 124 = .ok (.return_, 1) := by decide +kernel
theorem dX4_kindOf_0 : decode cX4_kindOf 0 = .ok (.iload_n 0, 1) := by decide +kernel
theorem dX4_kindOf_1 : decode cX4_kindOf 1 = .ok (.bipush 116, 2) := by decide +kernel
theorem dX4_kindOf_3 : decode cX4_kindOf 3 = .ok (.if_icmp .ne 5, 3) := by decide +kernel
theorem dX4_kindOf_6 : decode cX4_kindOf 6 = .ok (.iconst 2, 1) := by decide +kernel
theorem dX4_kindOf_7 : decode cX4_kindOf 7 = .ok (.ireturn, 1) := by decide +kernel
theorem dX4_kindOf_8 : decode cX4_kindOf 8 = .ok (.iload_n 0, 1) := by decide +kernel
theorem dX4_kindOf_9 : decode cX4_kindOf 9 = .ok (.bipush 107, 2) := by decide +kernel
theorem dX4_kindOf_11 : decode cX4_kindOf 11 = .ok (.if_icmp .ne 7, 3) := by decide +kernel
theorem dX4_kindOf_14 : decode cX4_kindOf 14 = .ok (.iconst 1, 1) := by decide +kernel
theorem dX4_kindOf_15 : decode cX4_kindOf 15 = .ok (.goto 4, 3) := by decide +kernel
theorem dX4_kindOf_18 : decode cX4_kindOf 18 = .ok (.iconst 0, 1) := by decide +kernel
theorem dX4_kindOf_19 : decode cX4_kindOf 19 = .ok (.ireturn, 1) := by decide +kernel
set_option maxRecDepth 20000 in
theorem ggX4_yearOfPairs_X4_areHouses : GoodIn wsX4_yearOfPairs wsX4_areHouses := goodIn_r _ [8, 3, 1, 9, 10, 11, 12, 13, 14, 105, 106, 107, 108, 109, 110, 111, 112, 113, 114, 119, 120, 121, 122] (by decide +kernel) (by decide +kernel)
set_option maxRecDepth 20000 in
theorem gX4_yearOfPairs_X4_areHouses : GoodIn wsX4_yearOfPairs (wsV RX4 215 RX4 yX4_areHouses wsX4_areHouses) := goodIn_app (goodIn_of _ (by decide +kernel)) ggX4_yearOfPairs_X4_areHouses
set_option maxRecDepth 20000 in
theorem ggX4_yearOfPairs_X3_begin : GoodIn wsX4_yearOfPairs wsX3_begin := goodIn_r _ [19, 20, 21, 22, 23, 24, 25, 26, 12, 27, 28, 29, 30, 31, 32, 33, 34, 14, 115, 116, 117, 118, 119, 120, 121, 122] (by decide +kernel) (by decide +kernel)
set_option maxRecDepth 20000 in
theorem gX4_yearOfPairs_X3_begin : GoodIn wsX4_yearOfPairs (wsV RX4 218 RX3 yX3_begin wsX3_begin) := goodIn_app (goodIn_of _ (by decide +kernel)) ggX4_yearOfPairs_X3_begin
set_option maxRecDepth 20000 in
theorem ggX4_yearOfPairs_X0_mayPoint : GoodIn wsX4_yearOfPairs wsX0_mayPoint := goodIn_r _ [38, 33, 119, 120, 121, 122] (by decide +kernel) (by decide +kernel)
set_option maxRecDepth 20000 in
theorem gX4_yearOfPairs_X0_mayPoint : GoodIn wsX4_yearOfPairs (wsV RX4 98 RX0 yX0_mayPoint wsX0_mayPoint) := goodIn_app (goodIn_of _ (by decide +kernel)) ggX4_yearOfPairs_X0_mayPoint
set_option maxRecDepth 20000 in
theorem ggX4_yearOfPairs_X3_pass : GoodIn wsX4_yearOfPairs wsX3_pass := goodIn_r _ [42, 20, 22, 23, 21, 43, 44, 45, 12, 46, 28, 47, 48, 49, 50, 33, 34, 51, 52, 53, 54, 55, 56, 57, 58, 59, 60, 61, 62, 63, 64, 65, 66, 67, 68, 69, 70, 14, 71, 72, 73, 74, 75, 76, 77, 78, 79, 80, 81, 82, 83, 84, 85, 86, 87, 88, 89, 90, 91, 115, 116, 117, 118, 119, 120, 121, 122] (by decide +kernel) (by decide +kernel)
set_option maxRecDepth 20000 in
theorem gX4_yearOfPairs_X3_pass : GoodIn wsX4_yearOfPairs (wsV RX4 222 RX3 yX3_pass wsX3_pass) := goodIn_app (goodIn_of _ (by decide +kernel)) ggX4_yearOfPairs_X3_pass
set_option maxRecDepth 20000 in
theorem ggX4_yearOfPairs_X3_result : GoodIn wsX4_yearOfPairs wsX3_result := goodIn_r _ [95, 20, 22, 23, 21, 96, 97, 98, 12, 99, 14, 71, 72, 73, 74, 28, 47, 48, 49, 50, 33, 34, 51, 52, 53, 100, 101, 102, 18, 103, 104, 10, 11, 13, 115, 116, 117, 118, 119, 120, 121, 122] (by decide +kernel) (by decide +kernel)
set_option maxRecDepth 20000 in
theorem gX4_yearOfPairs_X3_result : GoodIn wsX4_yearOfPairs (wsV RX4 225 RX3 yX3_result wsX3_result) := goodIn_app (goodIn_of _ (by decide +kernel)) ggX4_yearOfPairs_X3_result
theorem dX4_yearOfPairs_0 : decode cX4_yearOfPairs 0 = .ok (.aload_n 0, 1) := by decide +kernel
theorem dX4_yearOfPairs_1 : decode cX4_yearOfPairs 1 = .ok (.iload_n 2, 1) := by decide +kernel
theorem dX4_yearOfPairs_2 : decode cX4_yearOfPairs 2 = .ok (.iload_n 3, 1) := by decide +kernel
theorem dX4_yearOfPairs_3 : decode cX4_yearOfPairs 3 = .ok (.iconst 2, 1) := by decide +kernel
theorem dX4_yearOfPairs_4 : decode cX4_yearOfPairs 4 = .ok (.iload 4, 2) := by decide +kernel
theorem dX4_yearOfPairs_6 : decode cX4_yearOfPairs 6 = .ok (.imul, 1) := by decide +kernel
theorem dX4_yearOfPairs_7 : decode cX4_yearOfPairs 7 = .ok (.invokevirtual 215, 3) := by decide +kernel
theorem dX4_yearOfPairs_10 : decode cX4_yearOfPairs 10 = .ok (.ifCond .ne 5, 3) := by decide +kernel
theorem dX4_yearOfPairs_13 : decode cX4_yearOfPairs 13 = .ok (.iconst (-1), 1) := by decide +kernel
theorem dX4_yearOfPairs_14 : decode cX4_yearOfPairs 14 = .ok (.ireturn, 1) := by decide +kernel
theorem dX4_yearOfPairs_15 : decode cX4_yearOfPairs 15 = .ok (.aload_n 0, 1) := by decide +kernel
theorem dX4_yearOfPairs_16 : decode cX4_yearOfPairs 16 = .ok (.getfield 38, 3) := by decide +kernel
theorem dX4_yearOfPairs_19 : decode cX4_yearOfPairs 19 = .ok (.getfield 168, 3) := by decide +kernel
theorem dX4_yearOfPairs_22 : decode cX4_yearOfPairs 22 = .ok (.iload_n 2, 1) := by decide +kernel
theorem dX4_yearOfPairs_23 : decode cX4_yearOfPairs 23 = .ok (.aaload, 1) := by decide +kernel
theorem dX4_yearOfPairs_24 : decode cX4_yearOfPairs 24 = .ok (.astore 6, 2) := by decide +kernel
theorem dX4_yearOfPairs_26 : decode cX4_yearOfPairs 26 = .ok (.aload_n 0, 1) := by decide +kernel
theorem dX4_yearOfPairs_27 : decode cX4_yearOfPairs 27 = .ok (.getfield 24, 3) := by decide +kernel
theorem dX4_yearOfPairs_30 : decode cX4_yearOfPairs 30 = .ok (.aload_n 0, 1) := by decide +kernel
theorem dX4_yearOfPairs_31 : decode cX4_yearOfPairs 31 = .ok (.getfield 12, 3) := by decide +kernel
theorem dX4_yearOfPairs_34 : decode cX4_yearOfPairs 34 = .ok (.invokevirtual 218, 3) := by decide +kernel
theorem dX4_yearOfPairs_37 : decode cX4_yearOfPairs 37 = .ok (.iconst 0, 1) := by decide +kernel
theorem dX4_yearOfPairs_38 : decode cX4_yearOfPairs 38 = .ok (.istore 7, 2) := by decide +kernel
theorem dX4_yearOfPairs_40 : decode cX4_yearOfPairs 40 = .ok (.iload 7, 2) := by decide +kernel
theorem dX4_yearOfPairs_42 : decode cX4_yearOfPairs 42 = .ok (.iload 4, 2) := by decide +kernel
theorem dX4_yearOfPairs_44 : decode cX4_yearOfPairs 44 = .ok (.if_icmp .ge 86, 3) := by decide +kernel
theorem dX4_yearOfPairs_47 : decode cX4_yearOfPairs 47 = .ok (.aload 6, 2) := by decide +kernel
theorem dX4_yearOfPairs_49 : decode cX4_yearOfPairs 49 = .ok (.iload_n 3, 1) := by decide +kernel
theorem dX4_yearOfPairs_50 : decode cX4_yearOfPairs 50 = .ok (.iconst 2, 1) := by decide +kernel
theorem dX4_yearOfPairs_51 : decode cX4_yearOfPairs 51 = .ok (.iload 7, 2) := by decide +kernel
theorem dX4_yearOfPairs_53 : decode cX4_yearOfPairs 53 = .ok (.imul, 1) := by decide +kernel
theorem dX4_yearOfPairs_54 : decode cX4_yearOfPairs 54 = .ok (.iadd, 1) := by decide +kernel
theorem dX4_yearOfPairs_55 : decode cX4_yearOfPairs 55 = .ok (.iaload, 1) := by decide +kernel
theorem dX4_yearOfPairs_56 : decode cX4_yearOfPairs 56 = .ok (.istore 8, 2) := by decide +kernel
theorem dX4_yearOfPairs_58 : decode cX4_yearOfPairs 58 = .ok (.aload 6, 2) := by decide +kernel
theorem dX4_yearOfPairs_60 : decode cX4_yearOfPairs 60 = .ok (.iload_n 3, 1) := by decide +kernel
theorem dX4_yearOfPairs_61 : decode cX4_yearOfPairs 61 = .ok (.iconst 2, 1) := by decide +kernel
theorem dX4_yearOfPairs_62 : decode cX4_yearOfPairs 62 = .ok (.iload 7, 2) := by decide +kernel
theorem dX4_yearOfPairs_64 : decode cX4_yearOfPairs 64 = .ok (.imul, 1) := by decide +kernel
theorem dX4_yearOfPairs_65 : decode cX4_yearOfPairs 65 = .ok (.iadd, 1) := by decide +kernel
theorem dX4_yearOfPairs_66 : decode cX4_yearOfPairs 66 = .ok (.iconst 1, 1) := by decide +kernel
theorem dX4_yearOfPairs_67 : decode cX4_yearOfPairs 67 = .ok (.iadd, 1) := by decide +kernel
theorem dX4_yearOfPairs_68 : decode cX4_yearOfPairs 68 = .ok (.iaload, 1) := by decide +kernel
theorem dX4_yearOfPairs_69 : decode cX4_yearOfPairs 69 = .ok (.istore 9, 2) := by decide +kernel
theorem dX4_yearOfPairs_71 : decode cX4_yearOfPairs 71 = .ok (.iload 8, 2) := by decide +kernel
theorem dX4_yearOfPairs_73 : decode cX4_yearOfPairs 73 = .ok (.iload 9, 2) := by decide +kernel
theorem dX4_yearOfPairs_75 : decode cX4_yearOfPairs 75 = .ok (.if_icmp .eq 37, 3) := by decide +kernel
theorem dX4_yearOfPairs_78 : decode cX4_yearOfPairs 78 = .ok (.aload_n 0, 1) := by decide +kernel
theorem dX4_yearOfPairs_79 : decode cX4_yearOfPairs 79 = .ok (.getfield 24, 3) := by decide +kernel
theorem dX4_yearOfPairs_82 : decode cX4_yearOfPairs 82 = .ok (.getfield 221, 3) := by decide +kernel
theorem dX4_yearOfPairs_85 : decode cX4_yearOfPairs 85 = .ok (.iload 8, 2) := by decide +kernel
theorem dX4_yearOfPairs_87 : decode cX4_yearOfPairs 87 = .ok (.iload 9, 2) := by decide +kernel
theorem dX4_yearOfPairs_89 : decode cX4_yearOfPairs 89 = .ok (.invokevirtual 98, 3) := by decide +kernel
theorem dX4_yearOfPairs_92 : decode cX4_yearOfPairs 92 = .ok (.ifCond .ne 20, 3) := by decide +kernel
theorem dX4_yearOfPairs_95 : decode cX4_yearOfPairs 95 = .ok (.iload 5, 2) := by decide +kernel
theorem dX4_yearOfPairs_97 : decode cX4_yearOfPairs 97 = .ok (.iconst 1, 1) := by decide +kernel
theorem dX4_yearOfPairs_98 : decode cX4_yearOfPairs 98 = .ok (.if_icmp .ne 8, 3) := by decide +kernel
theorem dX4_yearOfPairs_101 : decode cX4_yearOfPairs 101 = .ok (.iload 7, 2) := by decide +kernel
theorem dX4_yearOfPairs_103 : decode cX4_yearOfPairs 103 = .ok (.goto 8, 3) := by decide +kernel
theorem dX4_yearOfPairs_106 : decode cX4_yearOfPairs 106 = .ok (.bipush (-100), 2) := by decide +kernel
theorem dX4_yearOfPairs_108 : decode cX4_yearOfPairs 108 = .ok (.iload 7, 2) := by decide +kernel
theorem dX4_yearOfPairs_110 : decode cX4_yearOfPairs 110 = .ok (.isub, 1) := by decide +kernel
theorem dX4_yearOfPairs_111 : decode cX4_yearOfPairs 111 = .ok (.ireturn, 1) := by decide +kernel
theorem dX4_yearOfPairs_112 : decode cX4_yearOfPairs 112 = .ok (.aload_n 0, 1) := by decide +kernel
theorem dX4_yearOfPairs_113 : decode cX4_yearOfPairs 113 = .ok (.getfield 24, 3) := by decide +kernel
theorem dX4_yearOfPairs_116 : decode cX4_yearOfPairs 116 = .ok (.iload 8, 2) := by decide +kernel
theorem dX4_yearOfPairs_118 : decode cX4_yearOfPairs 118 = .ok (.iload 9, 2) := by decide +kernel
theorem dX4_yearOfPairs_120 : decode cX4_yearOfPairs 120 = .ok (.iload_n 1, 1) := by decide +kernel
theorem dX4_yearOfPairs_121 : decode cX4_yearOfPairs 121 = .ok (.invokevirtual 222, 3) := by decide +kernel
theorem dX4_yearOfPairs_124 : decode cX4_yearOfPairs 124 = .ok (.iinc 7 1, 3) := by decide +kernel
