theorem dX5_choice_67 : decode cX5_choice 67 = .ok (.iload_n 2, 1) := by decide +kernel
theorem dX5_choice_68 : decode cX5_choice 68 = .ok (.invokevirtual 152, 3) := by decide +kernel
theorem dX5_choice_71 : decode cX5_choice 71 = .ok (.ireturn, 1) := by decide +kernel
theorem dX5_choice_72 : decode cX5_choice 72 = .ok (.aload_n 0, 1) := by decide +kernel
theorem dX5_choice_73 : decode cX5_choice 73 = .ok (.iload_n 1, 1) := by decide +kernel
theorem dX5_choice_74 : decode cX5_choice 74 = .ok (.iload 4, 2) := by decide +kernel
theorem dX5_choice_76 : decode cX5_choice 76 = .ok (.iload_n 2, 1) := by decide +kernel
theorem dX5_choice_77 : decode cX5_choice 77 = .ok (.invokevirtual 155, 3) := by decide +kernel
theorem dX5_choice_80 : decode cX5_choice 80 = .ok (.ireturn, 1) := by decide +kernel
theorem dX5_choice_81 : decode cX5_choice 81 = .ok (.aload_n 0, 1) := by decide +kernel
theorem dX5_choice_82 : decode cX5_choice 82 = .ok (.iload_n 1, 1) := by decide +kernel
theorem dX5_choice_83 : decode cX5_choice 83 = .ok (.iload 4, 2) := by decide +kernel
theorem dX5_choice_85 : decode cX5_choice 85 = .ok (.iload_n 2, 1) := by decide +kernel
theorem dX5_choice_86 : decode cX5_choice 86 = .ok (.invokevirtual 165, 3) := by decide +kernel
theorem dX5_choice_89 : decode cX5_choice 89 = .ok (.ifCond .eq 7, 3) := by decide +kernel
theorem dX5_choice_92 : decode cX5_choice 92 = .ok (.iconst 1, 1) := by decide +kernel
theorem dX5_choice_93 : decode cX5_choice 93 = .ok (.goto 4, 3) := by decide +kernel
theorem dX5_choice_96 : decode cX5_choice 96 = .ok (.iconst 0, 1) := by decide +kernel
theorem dX5_choice_97 : decode cX5_choice 97 = .ok (.ireturn, 1) := by decide +kernel
theorem dX5_choice_98 : decode cX5_choice 98 = .ok (.bipush (-2), 2) := by decide +kernel
theorem dX5_choice_100 : decode cX5_choice 100 = .ok (.ireturn, 1) := by decide +kernel
theorem dX5_keep_0 : decode cX5_keep 0 = .ok (.iconst 0, 1) := by decide +kernel
theorem dX5_keep_1 : decode cX5_keep 1 = .ok (.istore_n 1, 1) := by decide +kernel
theorem dX5_keep_2 : decode cX5_keep 2 = .ok (.iload_n 1, 1) := by decide +kernel
theorem dX5_keep_3 : decode cX5_keep 3 = .ok (.bipush 6, 2) := by decide +kernel
theorem dX5_keep_5 : decode cX5_keep 5 = .ok (.if_icmp .ge 33, 3) := by decide +kernel
theorem dX5_keep_8 : decode cX5_keep 8 = .ok (.aload_n 0, 1) := by decide +kernel
theorem dX5_keep_9 : decode cX5_keep 9 = .ok (.getfield 28, 3) := by decide +kernel
theorem dX5_keep_12 : decode cX5_keep 12 = .ok (.iload_n 1, 1) := by decide +kernel
theorem dX5_keep_13 : decode cX5_keep 13 = .ok (.aload_n 0, 1) := by decide +kernel
theorem dX5_keep_14 : decode cX5_keep 14 = .ok (.getfield 13, 3) := by decide +kernel
theorem dX5_keep_17 : decode cX5_keep 17 = .ok (.iload_n 1, 1) := by decide +kernel
theorem dX5_keep_18 : decode cX5_keep 18 = .ok (.iaload, 1) := by decide +kernel
theorem dX5_keep_19 : decode cX5_keep 19 = .ok (.iastore, 1) := by decide +kernel
theorem dX5_keep_20 : decode cX5_keep 20 = .ok (.aload_n 0, 1) := by decide +kernel
theorem dX5_keep_21 : decode cX5_keep 21 = .ok (.getfield 31, 3) := by decide +kernel
theorem dX5_keep_24 : decode cX5_keep 24 = .ok (.iload_n 1, 1) := by decide +kernel
theorem dX5_keep_25 : decode cX5_keep 25 = .ok (.aload_n 0, 1) := by decide +kernel
theorem dX5_keep_26 : decode cX5_keep 26 = .ok (.getfield 16, 3) := by decide +kernel
theorem dX5_keep_29 : decode cX5_keep 29 = .ok (.iload_n 1, 1) := by decide +kernel
theorem dX5_keep_30 : decode cX5_keep 30 = .ok (.iaload, 1) := by decide +kernel
theorem dX5_keep_31 : decode cX5_keep 31 = .ok (.iastore, 1) := by decide +kernel
theorem dX5_keep_32 : decode cX5_keep 32 = .ok (.iinc 1 1, 3) := by decide +kernel
theorem dX5_keep_35 : decode cX5_keep 35 = .ok (.goto (-33), 3) := by decide +kernel
theorem dX5_keep_38 : decode cX5_keep 38 = .ok (.return_, 1) := by decide +kernel
theorem dX5_putBack_0 : decode cX5_putBack 0 = .ok (.iconst 0, 1) := by decide +kernel
theorem dX5_putBack_1 : decode cX5_putBack 1 = .ok (.istore_n 1, 1) := by decide +kernel
theorem dX5_putBack_2 : decode cX5_putBack 2 = .ok (.iload_n 1, 1) := by decide +kernel
theorem dX5_putBack_3 : decode cX5_putBack 3 = .ok (.bipush 6, 2) := by decide +kernel
theorem dX5_putBack_5 : decode cX5_putBack 5 = .ok (.if_icmp .ge 33, 3) := by decide +kernel
theorem dX5_putBack_8 : decode cX5_putBack 8 = .ok (.aload_n 0, 1) := by decide +kernel
theorem dX5_putBack_9 : decode cX5_putBack 9 = .ok (.getfield 13, 3) := by decide +kernel
theorem dX5_putBack_12 : decode cX5_putBack 12 = .ok (.iload_n 1, 1) := by decide +kernel
theorem dX5_putBack_13 : decode cX5_putBack 13 = .ok (.aload_n 0, 1) := by decide +kernel
theorem dX5_putBack_14 : decode cX5_putBack 14 = .ok (.getfield 28, 3) := by decide +kernel
theorem dX5_putBack_17 : decode cX5_putBack 17 = .ok (.iload_n 1, 1) := by decide +kernel
theorem dX5_putBack_18 : decode cX5_putBack 18 = .ok (.iaload, 1) := by decide +kernel
theorem dX5_putBack_19 : decode cX5_putBack 19 = .ok (.iastore, 1) := by decide +kernel
theorem dX5_putBack_20 : decode cX5_putBack 20 = .ok (.aload_n 0, 1) := by decide +kernel
theorem dX5_putBack_21 : decode cX5_putBack 21 = .ok (.getfield 16, 3) := by decide +kernel
theorem dX5_putBack_24 : decode cX5_putBack 24 = .ok (.iload_n 1, 1) := by decide +kernel
theorem dX5_putBack_25 : decode cX5_putBack 25 = .ok (.aload_n 0, 1) := by decide +kernel
theorem dX5_putBack_26 : decode cX5_putBack 26 = .ok (.getfield 31, 3) := by decide +kernel
theorem dX5_putBack_29 : decode cX5_putBack 29 = .ok (.iload_n 1, 1) := by decide +kernel
theorem dX5_putBack_30 : decode cX5_putBack 30 = .ok (.iaload, 1) := by decide +kernel
theorem dX5_putBack_31 : decode cX5_putBack 31 = .ok (.iastore, 1) := by decide +kernel
theorem dX5_putBack_32 : decode cX5_putBack 32 = .ok (.iinc 1 1, 3) := by decide +kernel
theorem dX5_putBack_35 : decode cX5_putBack 35 = .ok (.goto (-33), 3) := by decide +kernel
theorem dX5_putBack_38 : decode cX5_putBack 38 = .ok (.return_, 1) := by decide +kernel
set_option maxRecDepth 20000 in
theorem ggX5_pay_X5_landLeft : GoodIn wsX5_pay wsX5_landLeft := goodIn_r _ [6] (by decide +kernel) (by decide +kernel)
set_option maxRecDepth 20000 in
theorem gX5_pay_X5_landLeft : GoodIn wsX5_pay (va_wsS RX5 133 yX5_landLeft wsX5_landLeft) := goodIn_app (goodIn_of _ (by decide +kernel)) ggX5_pay_X5_landLeft
set_option maxRecDepth 20000 in
theorem ggX5_pay_X5_coinLeft : GoodIn wsX5_pay wsX5_coinLeft := goodIn_r _ [9] (by decide +kernel) (by decide +kernel)
set_option maxRecDepth 20000 in
theorem gX5_pay_X5_coinLeft : GoodIn wsX5_pay (va_wsS RX5 136 yX5_coinLeft wsX5_coinLeft) := goodIn_app (goodIn_of _ (by decide +kernel)) ggX5_pay_X5_coinLeft
theorem dX5_pay_0 : decode cX5_pay 0 = .ok (.aload_n 0, 1) := by decide +kernel
theorem dX5_pay_1 : decode cX5_pay 1 = .ok (.getfield 13, 3) := by decide +kernel
theorem dX5_pay_4 : decode cX5_pay 4 = .ok (.iload_n 1, 1) := by decide +kernel
theorem dX5_pay_5 : decode cX5_pay 5 = .ok (.aload_n 0, 1) := by decide +kernel
theorem dX5_pay_6 : decode cX5_pay 6 = .ok (.getfield 13, 3) := by decide +kernel
theorem dX5_pay_9 : decode cX5_pay 9 = .ok (.iload_n 1, 1) := by decide +kernel
theorem dX5_pay_10 : decode cX5_pay 10 = .ok (.iaload, 1) := by decide +kernel
theorem dX5_pay_11 : decode cX5_pay 11 = .ok (.aload_n 0, 1) := by decide +kernel
theorem dX5_pay_12 : decode cX5_pay 12 = .ok (.getfield 16, 3) := by decide +kernel
theorem dX5_pay_15 : decode cX5_pay 15 = .ok (.iload_n 1, 1) := by decide +kernel
theorem dX5_pay_16 : decode cX5_pay 16 = .ok (.iaload, 1) := by decide +kernel
theorem dX5_pay_17 : decode cX5_pay 17 = .ok (.iload_n 2, 1) := by decide +kernel
theorem dX5_pay_18 : decode cX5_pay 18 = .ok (.invokestatic 133, 3) := by decide +kernel
theorem dX5_pay_21 : decode cX5_pay 21 = .ok (.iastore, 1) := by decide +kernel
theorem dX5_pay_22 : decode cX5_pay 22 = .ok (.aload_n 0, 1) := by decide +kernel
theorem dX5_pay_23 : decode cX5_pay 23 = .ok (.getfield 16, 3) := by decide +kernel
theorem dX5_pay_26 : decode cX5_pay 26 = .ok (.iload_n 1, 1) := by decide +kernel
theorem dX5_pay_27 : decode cX5_pay 27 = .ok (.aload_n 0, 1) := by decide +kernel
theorem dX5_pay_28 : decode cX5_pay 28 = .ok (.getfield 16, 3) := by decide +kernel
theorem dX5_pay_31 : decode cX5_pay 31 = .ok (.iload_n 1, 1) := by decide +kernel
theorem dX5_pay_32 : decode cX5_pay 32 = .ok (.iaload, 1) := by decide +kernel
theorem dX5_pay_33 : decode cX5_pay 33 = .ok (.iload_n 2, 1) := by decide +kernel
theorem dX5_pay_34 : decode cX5_pay 34 = .ok (.invokestatic 136, 3) := by decide +kernel
theorem dX5_pay_37 : decode cX5_pay 37 = .ok (.iastore, 1) := by decide +kernel
theorem dX5_pay_38 : decode cX5_pay 38 = .ok (.return_, 1) := by decide +kernel
set_option maxRecDepth 20000 in
theorem ggX5_goPair_X5_payerOf : GoodIn wsX5_goPair wsX5_payerOf := goodIn_r _ [10, 11, 12, 13, 9, 14, 2, 3, 15, 16, 17, 18, 19, 20, 21, 22, 23, 24, 25, 26, 27, 28, 29, 43, 44, 45, 46, 47, 48, 49, 50, 51, 52, 53, 54, 55, 56, 57, 58, 59, 60, 61, 62, 63, 64, 65, 66, 67] (by decide +kernel) (by decide +kernel)
set_option maxRecDepth 20000 in
theorem gX5_goPair_X5_payerOf : GoodIn wsX5_goPair (wsV RX5 155 RX5 yX5_payerOf wsX5_payerOf) := goodIn_app (goodIn_of _ (by decide +kernel)) ggX5_goPair_X5_payerOf
set_option maxRecDepth 20000 in
theorem ggX5_goPair_X5_richest : GoodIn wsX5_goPair wsX5_richest := goodIn_r _ [33, 34, 35, 36, 37, 9, 38, 2, 3, 15, 16, 17, 18, 19, 43, 44, 45, 46, 47, 48, 49, 50, 51, 52, 53, 54, 55, 56, 57, 58, 59, 60, 61, 62, 63, 64, 65, 66, 67] (by decide +kernel) (by decide +kernel)
set_option maxRecDepth 20000 in
theorem gX5_goPair_X5_richest : GoodIn wsX5_goPair (wsV RX5 158 RX5 yX5_richest wsX5_richest) := goodIn_app (goodIn_of _ (by decide +kernel)) ggX5_goPair_X5_richest
set_option maxRecDepth 20000 in
theorem ggX5_goPair_X5_pay : GoodIn wsX5_goPair wsX5_pay := goodIn_r _ [42, 2, 3, 24, 25, 9, 26, 27, 28, 29, 43, 44, 45, 46, 47, 48, 49, 50, 51, 52, 53, 54, 55, 56, 57, 58, 59, 60, 61, 62, 63, 64, 65, 66, 67] (by decide +kernel) (by decide +kernel)
set_option maxRecDepth 20000 in
theorem gX5_goPair_X5_pay : GoodIn wsX5_goPair (wsV RX5 174 RX5 yX5_pay wsX5_pay) := goodIn_app (goodIn_of _ (by decide +kernel)) ggX5_goPair_X5_pay
theorem dX5_goPair_0 : decode cX5_goPair 0 = .ok (.aload_n 0, 1) := by decide +kernel
theorem dX5_goPair_1 : decode cX5_goPair 1 = .ok (.iload_n 1, 1) := by decide +kernel
theorem dX5_goPair_2 : decode cX5_goPair 2 = .ok (.iload_n 2, 1) := by decide +kernel
theorem dX5_goPair_3 : decode cX5_goPair 3 = .ok (.iload_n 3, 1) := by decide +kernel
theorem dX5_goPair_4 : decode cX5_goPair 4 = .ok (.invokevirtual 155, 3) := by decide +kernel
theorem dX5_goPair_7 : decode cX5_goPair 7 = .ok (.istore 4, 2) := by decide +kernel
theorem dX5_goPair_9 : decode cX5_goPair 9 = .ok (.aload_n 0, 1) := by decide +kernel
theorem dX5_goPair_10 : decode cX5_goPair 10 = .ok (.dup, 1) := by decide +kernel
theorem dX5_goPair_11 : decode cX5_goPair 11 = .ok (.getfield 168, 3) := by decide +kernel
theorem dX5_goPair_14 : decode cX5_goPair 14 = .ok (.iload 4, 2) := by decide +kernel
theorem dX5_goPair_16 : decode cX5_goPair 16 = .ok (.aload_n 0, 1) := by decide +kernel
theorem dX5_goPair_17 : decode cX5_goPair 17 = .ok (.invokevirtual 158, 3) := by decide +kernel
theorem dX5_goPair_20 : decode cX5_goPair 20 = .ok (.if_icmp .ne 7, 3) := by decide +kernel
theorem dX5_goPair_23 : decode cX5_goPair 23 = .ok (.iconst 1, 1) := by decide +kernel
theorem dX5_goPair_24 : decode cX5_goPair 24 = .ok (.goto 4, 3) := by decide +kernel
theorem dX5_goPair_27 : decode cX5_goPair 27 = .ok (.iconst 0, 1) := by decide +kernel
theorem dX5_goPair_28 : decode cX5_goPair 28 = .ok (.iadd, 1) := by decide +kernel
theorem dX5_goPair_29 : decode cX5_goPair 29 = .ok (.putfield 168, 3) := by decide +kernel
theorem dX5_goPair_32 : decode cX5_goPair 32 = .ok (.iload_n 1, 1) := by decide +kernel
theorem dX5_goPair_33 : decode cX5_goPair 33 = .ok (.iload_n 2, 1) := by decide +kernel
theorem dX5_goPair_34 : decode cX5_goPair 34 = .ok (.if_icmp .eq 75, 3) := by decide +kernel
theorem dX5_goPair_37 : decode cX5_goPair 37 = .ok (.iload 4, 2) := by decide +kernel
theorem dX5_goPair_39 : decode cX5_goPair 39 = .ok (.iload_n 1, 1) := by decide +kernel
theorem dX5_goPair_40 : decode cX5_goPair 40 = .ok (.if_icmp .ne 69, 3) := by decide +kernel
theorem dX5_goPair_43 : decode cX5_goPair 43 = .ok (.aload_n 0, 1) := by decide +kernel
theorem dX5_goPair_44 : decode cX5_goPair 44 = .ok (.getfield 13, 3) := by decide +kernel
theorem dX5_goPair_47 : decode cX5_goPair 47 = .ok (.iload_n 1, 1) := by decide +kernel
theorem dX5_goPair_48 : decode cX5_goPair 48 = .ok (.iaload, 1) := by decide +kernel
theorem dX5_goPair_49 : decode cX5_goPair 49 = .ok (.istore 5, 2) := by decide +kernel
theorem dX5_goPair_51 : decode cX5_goPair 51 = .ok (.aload_n 0, 1) := by decide +kernel
theorem dX5_goPair_52 : decode cX5_goPair 52 = .ok (.getfield 16, 3) := by decide +kernel
theorem dX5_goPair_55 : decode cX5_goPair 55 = .ok (.iload_n 1, 1) := by decide +kernel
theorem dX5_goPair_56 : decode cX5_goPair 56 = .ok (.iaload, 1) := by decide +kernel
theorem dX5_goPair_57 : decode cX5_goPair 57 = .ok (.istore 6, 2) := by decide +kernel
theorem dX5_goPair_59 : decode cX5_goPair 59 = .ok (.aload_n 0, 1) := by decide +kernel
theorem dX5_goPair_60 : decode cX5_goPair 60 = .ok (.getfield 13, 3) := by decide +kernel
theorem dX5_goPair_63 : decode cX5_goPair 63 = .ok (.iload_n 1, 1) := by decide +kernel
theorem dX5_goPair_64 : decode cX5_goPair 64 = .ok (.aload_n 0, 1) := by decide +kernel
theorem dX5_goPair_65 : decode cX5_goPair 65 = .ok (.getfield 13, 3) := by decide +kernel
theorem dX5_goPair_68 : decode cX5_goPair 68 = .ok (.iload_n 2, 1) := by decide +kernel
theorem dX5_goPair_69 : decode cX5_goPair 69 = .ok (.iaload, 1) := by decide +kernel
theorem dX5_goPair_70 : decode cX5_goPair 70 = .ok (.iastore, 1) := by decide +kernel
theorem dX5_goPair_71 : decode cX5_goPair 71 = .ok (.aload_n 0, 1) := by decide +kernel
theorem dX5_goPair_72 : decode cX5_goPair 72 = .ok (.getfield 16, 3) := by decide +kernel
theorem dX5_goPair_75 : decode cX5_goPair 75 = .ok (.iload_n 1, 1) := by decide +kernel
theorem dX5_goPair_76 : decode cX5_goPair 76 = .ok (.aload_n 0, 1) := by decide +kernel
theorem dX5_goPair_77 : decode cX5_goPair 77 = .ok (.getfield 16, 3) := by decide +kernel
theorem dX5_goPair_80 : decode cX5_goPair 80 = .ok (.iload_n 2, 1) := by decide +kernel
theorem dX5_goPair_81 : decode cX5_goPair 81 = .ok (.iaload, 1) := by decide +kernel
theorem dX5_goPair_82 : decode cX5_goPair 82 = .ok (.iastore, 1) := by decide +kernel
theorem dX5_goPair_83 : decode cX5_goPair 83 = .ok (.aload_n 0, 1) := by decide +kernel
theorem dX5_goPair_84 : decode cX5_goPair 84 = .ok (.getfield 13, 3) := by decide +kernel
theorem dX5_goPair_87 : decode cX5_goPair 87 = .ok (.iload_n 2, 1) := by decide +kernel
theorem dX5_goPair_88 : decode cX5_goPair 88 = .ok (.iload 5, 2) := by decide +kernel
theorem dX5_goPair_90 : decode cX5_goPair 90 = .ok (.iastore, 1) := by decide +kernel
theorem dX5_goPair_91 : decode cX5_goPair 91 = .ok (.aload_n 0, 1) := by decide +kernel
theorem dX5_goPair_92 : decode cX5_goPair 92 = .ok (.getfield 16, 3) := by decide +kernel
theorem dX5_goPair_95 : decode cX5_goPair 95 = .ok (.iload_n 2, 1) := by decide +kernel
theorem dX5_goPair_96 : decode cX5_goPair 96 = .ok (.iload 6, 2) := by decide +kernel
theorem dX5_goPair_98 : decode cX5_goPair 98 = .ok (.iastore, 1) := by decide +kernel
theorem dX5_goPair_99 : decode cX5_goPair 99 = .ok (.aload_n 0, 1) := by decide +kernel
theorem dX5_goPair_100 : decode cX5_goPair 100 = .ok (.dup, 1) := by decide +kernel
theorem dX5_goPair_101 : decode cX5_goPair 101 = .ok (.getfield 171, 3) := by decide +kernel
theorem dX5_goPair_104 : decode cX5_goPair 104 = .ok (.iconst 1, 1) := by decide +kernel
theorem dX5_goPair_105 : decode cX5_goPair 105 = .ok (.iadd, 1) := by decide +kernel
theorem dX5_goPair_106 : decode cX5_goPair 106 = .ok (.putfield 171, 3) := by decide +kernel
theorem dX5_goPair_109 : decode cX5_goPair 109 = .ok (.aload_n 0, 1) := by decide +kernel
theorem dX5_goPair_110 : decode cX5_goPair 110 = .ok (.iload 4, 2) := by decide +kernel
theorem dX5_goPair_112 : decode cX5_goPair 112 = .ok (.iload_n 3, 1) := by decide +kernel
theorem dX5_goPair_113 : decode cX5_goPair 113 = .ok (.invokevirtual 174, 3) := by decide +kernel
theorem dX5_goPair_116 : decode cX5_goPair 116 = .ok (.aload_n 0, 1) := by decide +kernel
theorem dX5_goPair_117 : decode cX5_goPair 117 = .ok (.getfield 34, 3) := by decide +kernel
theorem dX5_goPair_120 : decode cX5_goPair 120 = .ok (.iload 4, 2) := by decide +kernel
theorem dX5_goPair_122 : decode cX5_goPair 122 = .ok (.dup2, 1) := by decide +kernel
theorem dX5_goPair_123 : decode cX5_goPair 123 = .ok (.iaload, 1) := by decide +kernel
theorem dX5_goPair_124 : decode cX5_goPair 124 = .ok (.iconst 1, 1) := by decide +kernel
theorem dX5_goPair_125 : decode cX5_goPair 125 = .ok (.iadd, 1) := by decide +kernel
theorem dX5_goPair_126 : decode cX5_goPair 126 = .ok (.iastore, 1) := by decide +kernel
theorem dX5_goPair_127 : decode cX5_goPair 127 = .ok (.iload 4, 2) := by decide +kernel
theorem dX5_goPair_129 : decode cX5_goPair 129 = .ok (.ireturn, 1) := by decide +kernel
set_option maxRecDepth 20000 in
theorem ggX5_goYear_X5_mayPoint : GoodIn wsX5_goYear wsX5_mayPoint := goodIn_r _ [10, 11, 53, 54, 55, 56, 57, 58, 59, 60, 61, 62, 63, 64, 65, 66, 67, 68, 69, 70, 71, 72, 73, 74, 75, 76, 77] (by decide +kernel) (by decide +kernel)
set_option maxRecDepth 20000 in
theorem gX5_goYear_X5_mayPoint : GoodIn wsX5_goYear (wsV RX5 142 RX5 yX5_mayPoint wsX5_mayPoint) := goodIn_app (goodIn_of _ (by decide +kernel)) ggX5_goYear_X5_mayPoint
set_option maxRecDepth 20000 in
theorem ggX5_goYear_X5_goPair : GoodIn wsX5_goYear wsX5_goPair := goodIn_r _ [15, 3, 11, 16, 2, 4, 17, 18, 19, 9, 20, 21, 22, 23, 24, 25, 26, 27, 28, 29, 30, 31, 32, 33, 34, 35, 36, 37, 38, 39, 40, 41, 42, 43, 44, 45, 46, 47, 48, 49, 50, 51, 52, 53, 54, 55, 56, 57, 58, 59, 60, 61, 62, 63, 64, 65, 66, 67, 68, 69, 70, 71, 72, 73, 74, 75, 76, 77] (by decide +kernel) (by decide +kernel)
set_option maxRecDepth 20000 in
theorem gX5_goYear_X5_goPair : GoodIn wsX5_goYear (wsV RX5 181 RX5 yX5_goPair wsX5_goPair) := goodIn_app (goodIn_of _ (by decide +kernel)) ggX5_goYear_X5_goPair
theorem dX5_goYear_0 : decode cX5_goYear 0 = .ok (.aload_n 0, 1) := by decide +kernel
theorem dX5_goYear_1 : decode cX5_goYear 1 = .ok (.bipush (-9), 2) := by decide +kernel
theorem dX5_goYear_3 : decode cX5_goYear 3 = .ok (.putfield 178, 3) := by decide +kernel
theorem dX5_goYear_6 : decode cX5_goYear 6 = .ok (.aload_n 0, 1) := by decide +kernel
theorem dX5_goYear_7 : decode cX5_goYear 7 = .ok (.iconst 0, 1) := by decide +kernel
theorem dX5_goYear_8 : decode cX5_goYear 8 = .ok (.putfield 171, 3) := by decide +kernel
theorem dX5_goYear_11 : decode cX5_goYear 11 = .ok (.aload_n 0, 1) := by decide +kernel
theorem dX5_goYear_12 : decode cX5_goYear 12 = .ok (.iconst 0, 1) := by decide +kernel
theorem dX5_goYear_13 : decode cX5_goYear 13 = .ok (.putfield 168, 3) := by decide +kernel
theorem dX5_goYear_16 : decode cX5_goYear 16 = .ok (.iconst 0, 1) := by decide +kernel
theorem dX5_goYear_17 : decode cX5_goYear 17 = .ok (.istore 4, 2) := by decide +kernel
theorem dX5_goYear_19 : decode cX5_goYear 19 = .ok (.iload 4, 2) := by decide +kernel
theorem dX5_goYear_21 : decode cX5_goYear 21 = .ok (.bipush 6, 2) := by decide +kernel
theorem dX5_goYear_23 : decode cX5_goYear 23 = .ok (.if_icmp .ge 17, 3) := by decide +kernel
theorem dX5_goYear_26 : decode cX5_goYear 26 = .ok (.aload_n 0, 1) := by decide +kernel
theorem dX5_goYear_27 : decode cX5_goYear 27 = .ok (.getfield 34, 3) := by decide +kernel
theorem dX5_goYear_30 : decode cX5_goYear 30 = .ok (.iload 4, 2) := by decide +kernel
theorem dX5_goYear_32 : decode cX5_goYear 32 = .ok (.iconst 0, 1) := by decide +kernel
theorem dX5_goYear_33 : decode cX5_goYear 33 = .ok (.iastore, 1) := by decide +kernel
theorem dX5_goYear_34 : decode cX5_goYear 34 = .ok (.iinc 4 1, 3) := by decide +kernel
theorem dX5_goYear_37 : decode cX5_goYear 37 = .ok (.goto (-18), 3) := by decide +kernel
theorem dX5_goYear_40 : decode cX5_goYear 40 = .ok (.iconst 0, 1) := by decide +kernel
theorem dX5_goYear_41 : decode cX5_goYear 41 = .ok (.istore 4, 2) := by decide +kernel
theorem dX5_goYear_43 : decode cX5_goYear 43 = .ok (.iload 4, 2) := by decide +kernel
theorem dX5_goYear_45 : decode cX5_goYear 45 = .ok (.iload_n 3, 1) := by decide +kernel
theorem dX5_goYear_46 : decode cX5_goYear 46 = .ok (.if_icmp .ge 81, 3) := by decide +kernel
theorem dX5_goYear_49 : decode cX5_goYear 49 = .ok (.aload_n 0, 1) := by decide +kernel
theorem dX5_goYear_50 : decode cX5_goYear 50 = .ok (.getfield 178, 3) := by decide +kernel
theorem dX5_goYear_53 : decode cX5_goYear 53 = .ok (.ifCond .ge 74, 3) := by decide +kernel
theorem dX5_goYear_56 : decode cX5_goYear 56 = .ok (.aload_n 0, 1) := by decide +kernel
theorem dX5_goYear_57 : decode cX5_goYear 57 = .ok (.getfield 52, 3) := by decide +kernel
theorem dX5_goYear_60 : decode cX5_goYear 60 = .ok (.iload_n 2, 1) := by decide +kernel
theorem dX5_goYear_61 : decode cX5_goYear 61 = .ok (.iconst 2, 1) := by decide +kernel
theorem dX5_goYear_62 : decode cX5_goYear 62 = .ok (.iload 4, 2) := by decide +kernel
theorem dX5_goYear_64 : decode cX5_goYear 64 = .ok (.imul, 1) := by decide +kernel
theorem dX5_goYear_65 : decode cX5_goYear 65 = .ok (.iadd, 1) := by decide +kernel
theorem dX5_goYear_66 : decode cX5_goYear 66 = .ok (.iaload, 1) := by decide +kernel
theorem dX5_goYear_67 : decode cX5_goYear 67 = .ok (.istore 5, 2) := by decide +kernel
theorem dX5_goYear_69 : decode cX5_goYear 69 = .ok (.aload_n 0, 1) := by decide +kernel
theorem dX5_goYear_70 : decode cX5_goYear 70 = .ok (.getfield 52, 3) := by decide +kernel
theorem dX5_goYear_73 : decode cX5_goYear 73 = .ok (.iload_n 2, 1) := by decide +kernel
theorem dX5_goYear_74 : decode cX5_goYear 74 = .ok (.iconst 2, 1) := by decide +kernel
theorem dX5_goYear_75 : decode cX5_goYear 75 = .ok (.iload 4, 2) := by decide +kernel
theorem dX5_goYear_77 : decode cX5_goYear 77 = .ok (.imul, 1) := by decide +kernel
theorem dX5_goYear_78 : decode cX5_goYear 78 = .ok (.iadd, 1) := by decide +kernel
theorem dX5_goYear_79 : decode cX5_goYear 79 = .ok (.iconst 1, 1) := by decide +kernel
theorem dX5_goYear_80 : decode cX5_goYear 80 = .ok (.iadd, 1) := by decide +kernel
theorem dX5_goYear_81 : decode cX5_goYear 81 = .ok (.iaload, 1) := by decide +kernel
theorem dX5_goYear_82 : decode cX5_goYear 82 = .ok (.istore 6, 2) := by decide +kernel
theorem dX5_goYear_84 : decode cX5_goYear 84 = .ok (.iload 5, 2) := by decide +kernel
theorem dX5_goYear_86 : decode cX5_goYear 86 = .ok (.iload 6, 2) := by decide +kernel
theorem dX5_goYear_88 : decode cX5_goYear 88 = .ok (.if_icmp .eq 23, 3) := by decide +kernel
theorem dX5_goYear_91 : decode cX5_goYear 91 = .ok (.aload_n 0, 1) := by decide +kernel
theorem dX5_goYear_92 : decode cX5_goYear 92 = .ok (.iload 5, 2) := by decide +kernel
theorem dX5_goYear_94 : decode cX5_goYear 94 = .ok (.iload 6, 2) := by decide +kernel
theorem dX5_goYear_96 : decode cX5_goYear 96 = .ok (.invokevirtual 142, 3) := by decide +kernel
theorem dX5_goYear_99 : decode cX5_goYear 99 = .ok (.ifCond .ne 12, 3) := by decide +kernel
theorem dX5_goYear_102 : decode cX5_goYear 102 = .ok (.aload_n 0, 1) := by decide +kernel
theorem dX5_goYear_103 : decode cX5_goYear 103 = .ok (.iload 4, 2) := by decide +kernel
theorem dX5_goYear_105 : decode cX5_goYear 105 = .ok (.putfield 178, 3) := by decide +kernel
theorem dX5_goYear_108 : decode cX5_goYear 108 = .ok (.goto 13, 3) := by decide +kernel
theorem dX5_goYear_111 : decode cX5_goYear 111 = .ok (.aload_n 0, 1) := by decide +kernel
theorem dX5_goYear_112 : decode cX5_goYear 112 = .ok (.iload 5, 2) := by decide +kernel
theorem dX5_goYear_114 : decode cX5_goYear 114 = .ok (.iload 6, 2) := by decide +kernel
theorem dX5_goYear_116 : decode cX5_goYear 116 = .ok (.iload_n 1, 1) := by decide +kernel
theorem dX5_goYear_117 : decode cX5_goYear 117 = .ok (.invokevirtual 181, 3) := by decide +kernel
theorem dX5_goYear_120 : decode cX5_goYear 120 = .ok (.pop, 1) := by decide +kernel
theorem dX5_goYear_121 : decode cX5_goYear 121 = .ok (.iinc 4 1, 3) := by decide +kernel
theorem dX5_goYear_124 : decode cX5_goYear 124 = .ok (.goto (-81), 3) := by decide +kernel
theorem dX5_goYear_127 : decode cX5_goYear 127 = .ok (.return_, 1) := by decide +kernel
set_option maxRecDepth 20000 in
theorem ggX5_worthOfAll_X5_worthOf : GoodIn wsX5_worthOfAll wsX5_worthOf := goodIn_r _ [6, 7, 8, 9, 10, 11, 5, 12, 13, 14, 15, 16, 17, 18, 19, 20, 21, 22, 23, 24, 25, 26, 27, 28, 29, 30, 31, 32, 33, 34, 35, 36, 37, 38] (by decide +kernel) (by decide +kernel)
set_option maxRecDepth 20000 in
theorem gX5_worthOfAll_X5_worthOf : GoodIn wsX5_worthOfAll (wsV RX5 128 RX5 yX5_worthOf wsX5_worthOf) := goodIn_app (goodIn_of _ (by decide +kernel)) ggX5_worthOfAll_X5_worthOf
theorem dX5_worthOfAll_0 : decode cX5_worthOfAll 0 = .ok (.iconst 0, 1) := by decide +kernel
theorem dX5_worthOfAll_1 : decode cX5_worthOfAll 1 = .ok (.istore_n 1, 1) := by decide +kernel
theorem dX5_worthOfAll_2 : decode cX5_worthOfAll 2 = .ok (.iconst 0, 1) := by decide +kernel
theorem dX5_worthOfAll_3 : decode cX5_worthOfAll 3 = .ok (.istore_n 2, 1) := by decide +kernel
theorem dX5_worthOfAll_4 : decode cX5_worthOfAll 4 = .ok (.iload_n 2, 1) := by decide +kernel
theorem dX5_worthOfAll_5 : decode cX5_worthOfAll 5 = .ok (.aload_n 0, 1) := by decide +kernel
theorem dX5_worthOfAll_6 : decode cX5_worthOfAll 6 = .ok (.getfield 68, 3) := by decide +kernel
theorem dX5_worthOfAll_9 : decode cX5_worthOfAll 9 = .ok (.if_icmp .ge 17, 3) := by decide +kernel
theorem dX5_worthOfAll_12 : decode cX5_worthOfAll 12 = .ok (.iload_n 1, 1) := by decide +kernel
theorem dX5_worthOfAll_13 : decode cX5_worthOfAll 13 = .ok (.aload_n 0, 1) := by decide +kernel
theorem dX5_worthOfAll_14 : decode cX5_worthOfAll 14 = .ok (.iload_n 2, 1) := by decide +kernel
theorem dX5_worthOfAll_15 : decode cX5_worthOfAll 15 = .ok (.invokevirtual 128, 3) := by decide +kernel
theorem dX5_worthOfAll_18 : decode cX5_worthOfAll 18 = .ok (.iadd, 1) := by decide +kernel
theorem dX5_worthOfAll_19 : decode cX5_worthOfAll 19 = .ok (.istore_n 1, 1) := by decide +kernel
theorem dX5_worthOfAll_20 : decode cX5_worthOfAll 20 = .ok (.iinc 2 1, 3) := by decide +kernel
theorem dX5_worthOfAll_23 : decode cX5_worthOfAll 23 = .ok (.goto (-19), 3) := by decide +kernel
theorem dX5_worthOfAll_26 : decode cX5_worthOfAll 26 = .ok (.iload_n 1, 1) := by decide +kernel
theorem dX5_worthOfAll_27 : decode cX5_worthOfAll 27 = .ok (.ireturn, 1) := by decide +kernel
set_option maxRecDepth 20000 in
theorem ggX5_yearBy_X5_worthOfAll : GoodIn wsX5_yearBy wsX5_worthOfAll := goodIn_r _ [10, 11, 12, 13, 14, 9, 15, 4, 16, 17, 18, 19, 20, 21, 29, 30, 31, 32, 33, 34, 35, 36, 37, 38, 39, 40, 41, 42, 43, 44, 45, 46, 47, 48, 49, 50, 51, 52, 53] (by decide +kernel) (by decide +kernel)
set_option maxRecDepth 20000 in
theorem gX5_yearBy_X5_worthOfAll : GoodIn wsX5_yearBy (wsV RX5 184 RX5 yX5_worthOfAll wsX5_worthOfAll) := goodIn_app (goodIn_of _ (by decide +kernel)) ggX5_yearBy_X5_worthOfAll
set_option maxRecDepth 20000 in
theorem ggX5_yearBy_X5_noHouse : GoodIn wsX5_yearBy wsX5_noHouse := goodIn_r _ [25, 11, 26, 27, 9, 28, 29, 30, 31, 32, 33, 34, 35, 36, 37, 38, 39, 40, 41, 42, 43, 44, 45, 46, 47, 48, 49, 50, 51, 52, 53] (by decide +kernel) (by decide +kernel)
set_option maxRecDepth 20000 in
theorem gX5_yearBy_X5_noHouse : GoodIn wsX5_yearBy (wsV RX5 125 RX5 yX5_noHouse wsX5_noHouse) := goodIn_app (goodIn_of _ (by decide +kernel)) ggX5_yearBy_X5_noHouse
theorem dX5_yearBy_0 : decode cX5_yearBy 0 = .ok (.iload_n 1, 1) := by decide +kernel
theorem dX5_yearBy_1 : decode cX5_yearBy 1 = .ok (.iconst 1, 1) := by decide +kernel
theorem dX5_yearBy_2 : decode cX5_yearBy 2 = .ok (.if_icmp .ne 8, 3) := by decide +kernel
theorem dX5_yearBy_5 : decode cX5_yearBy 5 = .ok (.aload_n 0, 1) := by decide +kernel
theorem dX5_yearBy_6 : decode cX5_yearBy 6 = .ok (.getfield 178, 3) := by decide +kernel
theorem dX5_yearBy_9 : decode cX5_yearBy 9 = .ok (.ireturn, 1) := by decide +kernel
theorem dX5_yearBy_10 : decode cX5_yearBy 10 = .ok (.aload_n 0, 1) := by decide +kernel
theorem dX5_yearBy_11 : decode cX5_yearBy 11 = .ok (.getfield 178, 3) := by decide +kernel
theorem dX5_yearBy_14 : decode cX5_yearBy 14 = .ok (.ifCond .lt 11, 3) := by decide +kernel
theorem dX5_yearBy_17 : decode cX5_yearBy 17 = .ok (.bipush (-100), 2) := by decide +kernel
theorem dX5_yearBy_19 : decode cX5_yearBy 19 = .ok (.aload_n 0, 1) := by decide +kernel
theorem dX5_yearBy_20 : decode cX5_yearBy 20 = .ok (.getfield 178, 3) := by decide +kernel
theorem dX5_yearBy_23 : decode cX5_yearBy 23 = .ok (.isub, 1) := by decide +kernel
theorem dX5_yearBy_24 : decode cX5_yearBy 24 = .ok (.ireturn, 1) := by decide +kernel
theorem dX5_yearBy_25 : decode cX5_yearBy 25 = .ok (.iload_n 1, 1) := by decide +kernel
theorem dX5_yearBy_26 : decode cX5_yearBy 26 = .ok (.bipush 10, 2) := by decide +kernel
theorem dX5_yearBy_28 : decode cX5_yearBy 28 = .ok (.if_icmp .ge 31, 3) := by decide +kernel
theorem dX5_yearBy_31 : decode cX5_yearBy 31 = .ok (.iload_n 1, 1) := by decide +kernel
theorem dX5_yearBy_32 : decode cX5_yearBy 32 = .ok (.ifCond .ne 10, 3) := by decide +kernel
theorem dX5_yearBy_35 : decode cX5_yearBy 35 = .ok (.aload_n 0, 1) := by decide +kernel
theorem dX5_yearBy_36 : decode cX5_yearBy 36 = .ok (.invokevirtual 184, 3) := by decide +kernel
theorem dX5_yearBy_39 : decode cX5_yearBy 39 = .ok (.goto 19, 3) := by decide +kernel
theorem dX5_yearBy_42 : decode cX5_yearBy 42 = .ok (.iload_n 1, 1) := by decide +kernel
theorem dX5_yearBy_43 : decode cX5_yearBy 43 = .ok (.iconst 2, 1) := by decide +kernel
theorem dX5_yearBy_44 : decode cX5_yearBy 44 = .ok (.if_icmp .ne 10, 3) := by decide +kernel
theorem dX5_yearBy_47 : decode cX5_yearBy 47 = .ok (.aload_n 0, 1) := by decide +kernel
theorem dX5_yearBy_48 : decode cX5_yearBy 48 = .ok (.getfield 171, 3) := by decide +kernel
theorem dX5_yearBy_51 : decode cX5_yearBy 51 = .ok (.goto 7, 3) := by decide +kernel
theorem dX5_yearBy_54 : decode cX5_yearBy 54 = .ok (.aload_n 0, 1) := by decide +kernel
theorem dX5_yearBy_55 : decode cX5_yearBy 55 = .ok (.getfield 168, 3) := by decide +kernel
theorem dX5_yearBy_58 : decode cX5_yearBy 58 = .ok (.ireturn, 1) := by decide +kernel
theorem dX5_yearBy_59 : decode cX5_yearBy 59 = .ok (.iload_n 1, 1) := by decide +kernel
theorem dX5_yearBy_60 : decode cX5_yearBy 60 = .ok (.bipush 10, 2) := by decide +kernel
theorem dX5_yearBy_62 : decode cX5_yearBy 62 = .ok (.irem, 1) := by decide +kernel
theorem dX5_yearBy_63 : decode cX5_yearBy 63 = .ok (.istore_n 2, 1) := by decide +kernel
theorem dX5_yearBy_64 : decode cX5_yearBy 64 = .ok (.aload_n 0, 1) := by decide +kernel
theorem dX5_yearBy_65 : decode cX5_yearBy 65 = .ok (.iload_n 2, 1) := by decide +kernel
theorem dX5_yearBy_66 : decode cX5_yearBy 66 = .ok (.invokevirtual 125, 3) := by decide +kernel
theorem dX5_yearBy_69 : decode cX5_yearBy 69 = .ok (.ifCond .eq 8, 3) := by decide +kernel
theorem dX5_yearBy_72 : decode cX5_yearBy 72 = .ok (.bipush (-9), 2) := by decide +kernel
theorem dX5_yearBy_74 : decode cX5_yearBy 74 = .ok (.goto 24, 3) := by decide +kernel
theorem dX5_yearBy_77 : decode cX5_yearBy 77 = .ok (.iload_n 1, 1) := by decide +kernel
theorem dX5_yearBy_78 : decode cX5_yearBy 78 = .ok (.bipush 20, 2) := by decide +kernel
theorem dX5_yearBy_80 : decode cX5_yearBy 80 = .ok (.if_icmp .ge 12, 3) := by decide +kernel
theorem dX5_yearBy_83 : decode cX5_yearBy 83 = .ok (.aload_n 0, 1) := by decide +kernel
theorem dX5_yearBy_84 : decode cX5_yearBy 84 = .ok (.getfield 13, 3) := by decide +kernel
theorem dX5_yearBy_87 : decode cX5_yearBy 87 = .ok (.iload_n 2, 1) := by decide +kernel
theorem dX5_yearBy_88 : decode cX5_yearBy 88 = .ok (.iaload, 1) := by decide +kernel
