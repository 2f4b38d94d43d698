theorem dX5_init_0 : decode cX5_init 0 = .ok (.aload_n 0, 1) := by decide +kernel
theorem dX5_init_1 : decode cX5_init 1 = .ok (.invokespecial 1, 3) := by decide +kernel
theorem dX5_init_4 : decode cX5_init 4 = .ok (.aload_n 0, 1) := by decide +kernel
theorem dX5_init_5 : decode cX5_init 5 = .ok (.bipush 6, 2) := by decide +kernel
theorem dX5_init_7 : decode cX5_init 7 = .ok (.newarray .int, 2) := by decide +kernel
theorem dX5_init_9 : decode cX5_init 9 = .ok (.putfield 7, 3) := by decide +kernel
theorem dX5_init_12 : decode cX5_init 12 = .ok (.aload_n 0, 1) := by decide +kernel
theorem dX5_init_13 : decode cX5_init 13 = .ok (.bipush 6, 2) := by decide +kernel
theorem dX5_init_15 : decode cX5_init 15 = .ok (.newarray .int, 2) := by decide +kernel
theorem dX5_init_17 : decode cX5_init 17 = .ok (.putfield 13, 3) := by decide +kernel
theorem dX5_init_20 : decode cX5_init 20 = .ok (.aload_n 0, 1) := by decide +kernel
theorem dX5_init_21 : decode cX5_init 21 = .ok (.bipush 6, 2) := by decide +kernel
theorem dX5_init_23 : decode cX5_init 23 = .ok (.newarray .int, 2) := by decide +kernel
theorem dX5_init_25 : decode cX5_init 25 = .ok (.putfield 16, 3) := by decide +kernel
theorem dX5_init_28 : decode cX5_init 28 = .ok (.aload_n 0, 1) := by decide +kernel
theorem dX5_init_29 : decode cX5_init 29 = .ok (.bipush 6, 2) := by decide +kernel
theorem dX5_init_31 : decode cX5_init 31 = .ok (.newarray .int, 2) := by decide +kernel
theorem dX5_init_33 : decode cX5_init 33 = .ok (.putfield 19, 3) := by decide +kernel
theorem dX5_init_36 : decode cX5_init 36 = .ok (.aload_n 0, 1) := by decide +kernel
theorem dX5_init_37 : decode cX5_init 37 = .ok (.bipush 6, 2) := by decide +kernel
theorem dX5_init_39 : decode cX5_init 39 = .ok (.newarray .int, 2) := by decide +kernel
theorem dX5_init_41 : decode cX5_init 41 = .ok (.putfield 22, 3) := by decide +kernel
theorem dX5_init_44 : decode cX5_init 44 = .ok (.aload_n 0, 1) := by decide +kernel
theorem dX5_init_45 : decode cX5_init 45 = .ok (.bipush 6, 2) := by decide +kernel
theorem dX5_init_47 : decode cX5_init 47 = .ok (.newarray .int, 2) := by decide +kernel
theorem dX5_init_49 : decode cX5_init 49 = .ok (.putfield 25, 3) := by decide +kernel
theorem dX5_init_52 : decode cX5_init 52 = .ok (.aload_n 0, 1) := by decide +kernel
theorem dX5_init_53 : decode cX5_init 53 = .ok (.bipush 6, 2) := by decide +kernel
theorem dX5_init_55 : decode cX5_init 55 = .ok (.newarray .int, 2) := by decide +kernel
theorem dX5_init_57 : decode cX5_init 57 = .ok (.putfield 28, 3) := by decide +kernel
theorem dX5_init_60 : decode cX5_init 60 = .ok (.aload_n 0, 1) := by decide +kernel
theorem dX5_init_61 : decode cX5_init 61 = .ok (.bipush 6, 2) := by decide +kernel
theorem dX5_init_63 : decode cX5_init 63 = .ok (.newarray .int, 2) := by decide +kernel
theorem dX5_init_65 : decode cX5_init 65 = .ok (.putfield 31, 3) := by decide +kernel
theorem dX5_init_68 : decode cX5_init 68 = .ok (.aload_n 0, 1) := by decide +kernel
theorem dX5_init_69 : decode cX5_init 69 = .ok (.bipush 6, 2) := by decide +kernel
theorem dX5_init_71 : decode cX5_init 71 = .ok (.newarray .int, 2) := by decide +kernel
theorem dX5_init_73 : decode cX5_init 73 = .ok (.putfield 34, 3) := by decide +kernel
theorem dX5_init_76 : decode cX5_init 76 = .ok (.aload_n 0, 1) := by decide +kernel
theorem dX5_init_77 : decode cX5_init 77 = .ok (.bipush 8, 2) := by decide +kernel
theorem dX5_init_79 : decode cX5_init 79 = .ok (.newarray .int, 2) := by decide +kernel
theorem dX5_init_81 : decode cX5_init 81 = .ok (.putfield 37, 3) := by decide +kernel
theorem dX5_init_84 : decode cX5_init 84 = .ok (.aload_n 0, 1) := by decide +kernel
theorem dX5_init_85 : decode cX5_init 85 = .ok (.bipush 8, 2) := by decide +kernel
theorem dX5_init_87 : decode cX5_init 87 = .ok (.newarray .int, 2) := by decide +kernel
theorem dX5_init_89 : decode cX5_init 89 = .ok (.putfield 40, 3) := by decide +kernel
theorem dX5_init_92 : decode cX5_init 92 = .ok (.aload_n 0, 1) := by decide +kernel
theorem dX5_init_93 : decode cX5_init 93 = .ok (.bipush 8, 2) := by decide +kernel
theorem dX5_init_95 : decode cX5_init 95 = .ok (.newarray .int, 2) := by decide +kernel
theorem dX5_init_97 : decode cX5_init 97 = .ok (.putfield 43, 3) := by decide +kernel
theorem dX5_init_100 : decode cX5_init 100 = .ok (.aload_n 0, 1) := by decide +kernel
theorem dX5_init_101 : decode cX5_init 101 = .ok (.iconst 4, 1) := by decide +kernel
theorem dX5_init_102 : decode cX5_init 102 = .ok (.newarray .int, 2) := by decide +kernel
theorem dX5_init_104 : decode cX5_init 104 = .ok (.putfield 46, 3) := by decide +kernel
theorem dX5_init_107 : decode cX5_init 107 = .ok (.aload_n 0, 1) := by decide +kernel
theorem dX5_init_108 : decode cX5_init 108 = .ok (.iconst 4, 1) := by decide +kernel
theorem dX5_init_109 : decode cX5_init 109 = .ok (.newarray .int, 2) := by decide +kernel
theorem dX5_init_111 : decode cX5_init 111 = .ok (.putfield 49, 3) := by decide +kernel
theorem dX5_init_114 : decode cX5_init 114 = .ok (.aload_n 0, 1) := by decide +kernel
theorem dX5_init_115 : decode cX5_init 115 = .ok (.sipush 240, 3) := by decide +kernel
theorem dX5_init_118 : decode cX5_init 118 = .ok (.newarray .int, 2) := by decide +kernel
theorem dX5_init_120 : decode cX5_init 120 = .ok (.putfield 52, 3) := by decide +kernel
theorem dX5_init_123 : decode cX5_init 123 = .ok (.aload_n 0, 1) := by decide +kernel
theorem dX5_init_124 : decode cX5_init 124 = .ok (.bipush 60, 2) := by decide +kernel
theorem dX5_init_126 : decode cX5_init 126 = .ok (.newarray .int, 2) := by decide +kernel
theorem dX5_init_128 : decode cX5_init 128 = .ok (.putfield 55, 3) := by decide +kernel
theorem dX5_init_131 : decode cX5_init 131 = .ok (.iconst 0, 1) := by decide +kernel
theorem dX5_init_132 : decode cX5_init 132 = .ok (.istore_n 1, 1) := by decide +kernel
theorem dX5_init_133 : decode cX5_init 133 = .ok (.iload_n 1, 1) := by decide +kernel
theorem dX5_init_134 : decode cX5_init 134 = .ok (.iconst 4, 1) := by decide +kernel
theorem dX5_init_135 : decode cX5_init 135 = .ok (.if_icmp .ge 16, 3) := by decide +kernel
theorem dX5_init_138 : decode cX5_init 138 = .ok (.aload_n 0, 1) := by decide +kernel
theorem dX5_init_139 : decode cX5_init 139 = .ok (.getfield 46, 3) := by decide +kernel
theorem dX5_init_142 : decode cX5_init 142 = .ok (.iload_n 1, 1) := by decide +kernel
theorem dX5_init_143 : decode cX5_init 143 = .ok (.iconst (-1), 1) := by decide +kernel
theorem dX5_init_144 : decode cX5_init 144 = .ok (.iastore, 1) := by decide +kernel
theorem dX5_init_145 : decode cX5_init 145 = .ok (.iinc 1 1, 3) := by decide +kernel
theorem dX5_init_148 : decode cX5_init 148 = .ok (.goto (-15), 3) := by decide +kernel
theorem dX5_init_151 : decode cX5_init 151 = .ok (.return_, 1) := by decide +kernel
theorem dX5_in_0 : decode cX5_in 0 = .ok (.lload_n 0, 1) := by decide +kernel
theorem dX5_in_1 : decode cX5_in 1 = .ok (.lload_n 2, 1) := by decide +kernel
theorem dX5_in_2 : decode cX5_in 2 = .ok (.lcmp, 1) := by decide +kernel
theorem dX5_in_3 : decode cX5_in 3 = .ok (.ifCond .lt 14, 3) := by decide +kernel
theorem dX5_in_6 : decode cX5_in 6 = .ok (.lload_n 0, 1) := by decide +kernel
theorem dX5_in_7 : decode cX5_in 7 = .ok (.lload 4, 2) := by decide +kernel
theorem dX5_in_9 : decode cX5_in 9 = .ok (.lcmp, 1) := by decide +kernel
theorem dX5_in_10 : decode cX5_in 10 = .ok (.ifCond .gt 7, 3) := by decide +kernel
theorem dX5_in_13 : decode cX5_in 13 = .ok (.iconst 1, 1) := by decide +kernel
theorem dX5_in_14 : decode cX5_in 14 = .ok (.goto 4, 3) := by decide +kernel
theorem dX5_in_17 : decode cX5_in 17 = .ok (.iconst 0, 1) := by decide +kernel
theorem dX5_in_18 : decode cX5_in 18 = .ok (.ireturn, 1) := by decide +kernel
theorem dX5_lost_0 : decode cX5_lost 0 = .ok (.ldc2_w 58, 3) := by decide +kernel
theorem dX5_lost_3 : decode cX5_lost 3 = .ok (.lreturn, 1) := by decide +kernel
theorem dX5_share_0 : decode cX5_share 0 = .ok (.lload_n 0, 1) := by decide +kernel
theorem dX5_share_1 : decode cX5_share 1 = .ok (.lstore 5, 2) := by decide +kernel
theorem dX5_share_3 : decode cX5_share 3 = .ok (.lload_n 2, 1) := by decide +kernel
theorem dX5_share_4 : decode cX5_share 4 = .ok (.lstore 7, 2) := by decide +kernel
theorem dX5_share_6 : decode cX5_share 6 = .ok (.lload 7, 2) := by decide +kernel
theorem dX5_share_8 : decode cX5_share 8 = .ok (.lconst 0, 1) := by decide +kernel
theorem dX5_share_9 : decode cX5_share 9 = .ok (.lcmp, 1) := by decide +kernel
theorem dX5_share_10 : decode cX5_share 10 = .ok (.ifCond .eq 21, 3) := by decide +kernel
theorem dX5_share_13 : decode cX5_share 13 = .ok (.lload 5, 2) := by decide +kernel
theorem dX5_share_15 : decode cX5_share 15 = .ok (.lload 7, 2) := by decide +kernel
theorem dX5_share_17 : decode cX5_share 17 = .ok (.lrem, 1) := by decide +kernel
theorem dX5_share_18 : decode cX5_share 18 = .ok (.lstore 9, 2) := by decide +kernel
theorem dX5_share_20 : decode cX5_share 20 = .ok (.lload 7, 2) := by decide +kernel
theorem dX5_share_22 : decode cX5_share 22 = .ok (.lstore 5, 2) := by decide +kernel
theorem dX5_share_24 : decode cX5_share 24 = .ok (.lload 9, 2) := by decide +kernel
theorem dX5_share_26 : decode cX5_share 26 = .ok (.lstore 7, 2) := by decide +kernel
theorem dX5_share_28 : decode cX5_share 28 = .ok (.goto (-22), 3) := by decide +kernel
theorem dX5_share_31 : decode cX5_share 31 = .ok (.iload 4, 2) := by decide +kernel
theorem dX5_share_33 : decode cX5_share 33 = .ok (.ifCond .ne 7, 3) := by decide +kernel
theorem dX5_share_36 : decode cX5_share 36 = .ok (.lload_n 0, 1) := by decide +kernel
theorem dX5_share_37 : decode cX5_share 37 = .ok (.goto 4, 3) := by decide +kernel
theorem dX5_share_40 : decode cX5_share 40 = .ok (.lload_n 2, 1) := by decide +kernel
theorem dX5_share_41 : decode cX5_share 41 = .ok (.lload 5, 2) := by decide +kernel
theorem dX5_share_43 : decode cX5_share 43 = .ok (.ldiv, 1) := by decide +kernel
theorem dX5_share_44 : decode cX5_share 44 = .ok (.lreturn, 1) := by decide +kernel
theorem dX5_refused_0 : decode cX5_refused 0 = .ok (.aload_n 0, 1) := by decide +kernel
theorem dX5_refused_1 : decode cX5_refused 1 = .ok (.iconst 0, 1) := by decide +kernel
theorem dX5_refused_2 : decode cX5_refused 2 = .ok (.putfield 60, 3) := by decide +kernel
theorem dX5_refused_5 : decode cX5_refused 5 = .ok (.iload_n 1, 1) := by decide +kernel
theorem dX5_refused_6 : decode cX5_refused 6 = .ok (.ireturn, 1) := by decide +kernel
theorem dX5_failed_0 : decode cX5_failed 0 = .ok (.aload_n 0, 1) := by decide +kernel
theorem dX5_failed_1 : decode cX5_failed 1 = .ok (.iload_n 1, 1) := by decide +kernel
theorem dX5_failed_2 : decode cX5_failed 2 = .ok (.putfield 60, 3) := by decide +kernel
theorem dX5_failed_5 : decode cX5_failed 5 = .ok (.bipush (-10), 2) := by decide +kernel
theorem dX5_failed_7 : decode cX5_failed 7 = .ok (.iload_n 1, 1) := by decide +kernel
theorem dX5_failed_8 : decode cX5_failed 8 = .ok (.isub, 1) := by decide +kernel
theorem dX5_failed_9 : decode cX5_failed 9 = .ok (.ireturn, 1) := by decide +kernel
set_option maxRecDepth 20000 in
theorem ggX5_failedLong_X5_lost : GoodIn wsX5_failedLong wsX5_lost := goodIn_r _ [5, 6] (by decide +kernel) (by decide +kernel)
set_option maxRecDepth 20000 in
theorem gX5_failedLong_X5_lost : GoodIn wsX5_failedLong (va_wsS RX5 64 yX5_lost wsX5_lost) := goodIn_app (goodIn_of _ (by decide +kernel)) ggX5_failedLong_X5_lost
theorem dX5_failedLong_0 : decode cX5_failedLong 0 = .ok (.aload_n 0, 1) := by decide +kernel
theorem dX5_failedLong_1 : decode cX5_failedLong 1 = .ok (.iload_n 1, 1) := by decide +kernel
theorem dX5_failedLong_2 : decode cX5_failedLong 2 = .ok (.putfield 60, 3) := by decide +kernel
theorem dX5_failedLong_5 : decode cX5_failedLong 5 = .ok (.invokestatic 64, 3) := by decide +kernel
theorem dX5_failedLong_8 : decode cX5_failedLong 8 = .ok (.lreturn, 1) := by decide +kernel
set_option maxRecDepth 20000 in
theorem ggX5_noHouse_X5_in : GoodIn wsX5_noHouse wsX5_in := goodIn_r _ [5] (by decide +kernel) (by decide +kernel)
set_option maxRecDepth 20000 in
theorem gX5_noHouse_X5_in : GoodIn wsX5_noHouse (va_wsS RX5 71 yX5_in wsX5_in) := goodIn_app (goodIn_of _ (by decide +kernel)) ggX5_noHouse_X5_in
theorem dX5_noHouse_0 : decode cX5_noHouse 0 = .ok (.iload_n 1, 1) := by decide +kernel
theorem dX5_noHouse_1 : decode cX5_noHouse 1 = .ok (.i2l, 1) := by decide +kernel
theorem dX5_noHouse_2 : decode cX5_noHouse 2 = .ok (.lconst 0, 1) := by decide +kernel
theorem dX5_noHouse_3 : decode cX5_noHouse 3 = .ok (.aload_n 0, 1) := by decide +kernel
theorem dX5_noHouse_4 : decode cX5_noHouse 4 = .ok (.getfield 68, 3) := by decide +kernel
theorem dX5_noHouse_7 : decode cX5_noHouse 7 = .ok (.i2l, 1) := by decide +kernel
theorem dX5_noHouse_8 : decode cX5_noHouse 8 = .ok (.lconst 1, 1) := by decide +kernel
theorem dX5_noHouse_9 : decode cX5_noHouse 9 = .ok (.lsub, 1) := by decide +kernel
theorem dX5_noHouse_10 : decode cX5_noHouse 10 = .ok (.invokestatic 71, 3) := by decide +kernel
theorem dX5_noHouse_13 : decode cX5_noHouse 13 = .ok (.ifCond .ne 7, 3) := by decide +kernel
theorem dX5_noHouse_16 : decode cX5_noHouse 16 = .ok (.iconst 1, 1) := by decide +kernel
theorem dX5_noHouse_17 : decode cX5_noHouse 17 = .ok (.goto 4, 3) := by decide +kernel
theorem dX5_noHouse_20 : decode cX5_noHouse 20 = .ok (.iconst 0, 1) := by decide +kernel
theorem dX5_noHouse_21 : decode cX5_noHouse 21 = .ok (.ireturn, 1) := by decide +kernel
set_option maxRecDepth 20000 in
theorem ggX5_noCost_X5_in : GoodIn wsX5_noCost wsX5_in := goodIn_r _ [5] (by decide +kernel) (by decide +kernel)
set_option maxRecDepth 20000 in
theorem gX5_noCost_X5_in : GoodIn wsX5_noCost (va_wsS RX5 71 yX5_in wsX5_in) := goodIn_app (goodIn_of _ (by decide +kernel)) ggX5_noCost_X5_in
theorem dX5_noCost_0 : decode cX5_noCost 0 = .ok (.iload_n 0, 1) := by decide +kernel
theorem dX5_noCost_1 : decode cX5_noCost 1 = .ok (.i2l, 1) := by decide +kernel
theorem dX5_noCost_2 : decode cX5_noCost 2 = .ok (.lconst 0, 1) := by decide +kernel
theorem dX5_noCost_3 : decode cX5_noCost 3 = .ok (.ldc2_w 75, 3) := by decide +kernel
theorem dX5_noCost_6 : decode cX5_noCost 6 = .ok (.invokestatic 71, 3) := by decide +kernel
theorem dX5_noCost_9 : decode cX5_noCost 9 = .ok (.ifCond .ne 7, 3) := by decide +kernel
theorem dX5_noCost_12 : decode cX5_noCost 12 = .ok (.iconst 1, 1) := by decide +kernel
theorem dX5_noCost_13 : decode cX5_noCost 13 = .ok (.goto 4, 3) := by decide +kernel
theorem dX5_noCost_16 : decode cX5_noCost 16 = .ok (.iconst 0, 1) := by decide +kernel
theorem dX5_noCost_17 : decode cX5_noCost 17 = .ok (.ireturn, 1) := by decide +kernel
theorem dX5_codeAt_0 : decode cX5_codeAt 0 = .ok (.aload_n 0, 1) := by decide +kernel
theorem dX5_codeAt_1 : decode cX5_codeAt 1 = .ok (.getfield 77, 3) := by decide +kernel
theorem dX5_codeAt_4 : decode cX5_codeAt 4 = .ok (.iload_n 2, 1) := by decide +kernel
theorem dX5_codeAt_5 : decode cX5_codeAt 5 = .ok (.if_icmp .ge 17, 3) := by decide +kernel
theorem dX5_codeAt_8 : decode cX5_codeAt 8 = .ok (.aload_n 0, 1) := by decide +kernel
theorem dX5_codeAt_9 : decode cX5_codeAt 9 = .ok (.getfield 52, 3) := by decide +kernel
theorem dX5_codeAt_12 : decode cX5_codeAt 12 = .ok (.iload_n 1, 1) := by decide +kernel
theorem dX5_codeAt_13 : decode cX5_codeAt 13 = .ok (.aload_n 0, 1) := by decide +kernel
theorem dX5_codeAt_14 : decode cX5_codeAt 14 = .ok (.getfield 77, 3) := by decide +kernel
theorem dX5_codeAt_17 : decode cX5_codeAt 17 = .ok (.iadd, 1) := by decide +kernel
theorem dX5_codeAt_18 : decode cX5_codeAt 18 = .ok (.iaload, 1) := by decide +kernel
theorem dX5_codeAt_19 : decode cX5_codeAt 19 = .ok (.goto 5, 3) := by decide +kernel
theorem dX5_codeAt_22 : decode cX5_codeAt 22 = .ok (.bipush (-9), 2) := by decide +kernel
theorem dX5_codeAt_24 : decode cX5_codeAt 24 = .ok (.ireturn, 1) := by decide +kernel
set_option maxRecDepth 20000 in
theorem ggX5_figure_X5_codeAt : GoodIn wsX5_figure wsX5_codeAt := goodIn_r _ [7, 2, 8, 12, 13, 14, 15, 16, 17, 18, 19, 20, 21, 22, 23, 24, 25, 26, 27, 28, 29, 30, 31, 32, 33, 34, 35, 36] (by decide +kernel) (by decide +kernel)
set_option maxRecDepth 20000 in
theorem gX5_figure_X5_codeAt : GoodIn wsX5_figure (wsV RX5 80 RX5 yX5_codeAt wsX5_codeAt) := goodIn_app (goodIn_of _ (by decide +kernel)) ggX5_figure_X5_codeAt
set_option maxRecDepth 20000 in
theorem ggX5_figure_X5_in : GoodIn wsX5_figure wsX5_in := goodIn_r _ [11] (by decide +kernel) (by decide +kernel)
set_option maxRecDepth 20000 in
theorem gX5_figure_X5_in : GoodIn wsX5_figure (va_wsS RX5 71 yX5_in wsX5_in) := goodIn_app (goodIn_of _ (by decide +kernel)) ggX5_figure_X5_in
theorem dX5_figure_0 : decode cX5_figure 0 = .ok (.aload_n 0, 1) := by decide +kernel
theorem dX5_figure_1 : decode cX5_figure 1 = .ok (.iload_n 1, 1) := by decide +kernel
theorem dX5_figure_2 : decode cX5_figure 2 = .ok (.iload_n 2, 1) := by decide +kernel
theorem dX5_figure_3 : decode cX5_figure 3 = .ok (.invokevirtual 80, 3) := by decide +kernel
theorem dX5_figure_6 : decode cX5_figure 6 = .ok (.bipush 48, 2) := by decide +kernel
theorem dX5_figure_8 : decode cX5_figure 8 = .ok (.isub, 1) := by decide +kernel
theorem dX5_figure_9 : decode cX5_figure 9 = .ok (.istore_n 3, 1) := by decide +kernel
theorem dX5_figure_10 : decode cX5_figure 10 = .ok (.iload_n 3, 1) := by decide +kernel
theorem dX5_figure_11 : decode cX5_figure 11 = .ok (.i2l, 1) := by decide +kernel
theorem dX5_figure_12 : decode cX5_figure 12 = .ok (.lconst 0, 1) := by decide +kernel
theorem dX5_figure_13 : decode cX5_figure 13 = .ok (.ldc2_w 75, 3) := by decide +kernel
theorem dX5_figure_16 : decode cX5_figure 16 = .ok (.invokestatic 71, 3) := by decide +kernel
theorem dX5_figure_19 : decode cX5_figure 19 = .ok (.istore 4, 2) := by decide +kernel
theorem dX5_figure_21 : decode cX5_figure 21 = .ok (.aload_n 0, 1) := by decide +kernel
theorem dX5_figure_22 : decode cX5_figure 22 = .ok (.dup, 1) := by decide +kernel
theorem dX5_figure_23 : decode cX5_figure 23 = .ok (.getfield 77, 3) := by decide +kernel
theorem dX5_figure_26 : decode cX5_figure 26 = .ok (.iload 4, 2) := by decide +kernel
theorem dX5_figure_28 : decode cX5_figure 28 = .ok (.ifCond .eq 7, 3) := by decide +kernel
theorem dX5_figure_31 : decode cX5_figure 31 = .ok (.iconst 1, 1) := by decide +kernel
theorem dX5_figure_32 : decode cX5_figure 32 = .ok (.goto 4, 3) := by decide +kernel
theorem dX5_figure_35 : decode cX5_figure 35 = .ok (.iconst 0, 1) := by decide +kernel
theorem dX5_figure_36 : decode cX5_figure 36 = .ok (.iadd, 1) := by decide +kernel
theorem dX5_figure_37 : decode cX5_figure 37 = .ok (.putfield 77, 3) := by decide +kernel
theorem dX5_figure_40 : decode cX5_figure 40 = .ok (.iload 4, 2) := by decide +kernel
theorem dX5_figure_42 : decode cX5_figure 42 = .ok (.ifCond .eq 7, 3) := by decide +kernel
theorem dX5_figure_45 : decode cX5_figure 45 = .ok (.iload_n 3, 1) := by decide +kernel
theorem dX5_figure_46 : decode cX5_figure 46 = .ok (.goto 5, 3) := by decide +kernel
theorem dX5_figure_49 : decode cX5_figure 49 = .ok (.bipush (-9), 2) := by decide +kernel
theorem dX5_figure_51 : decode cX5_figure 51 = .ok (.ireturn, 1) := by decide +kernel
set_option maxRecDepth 20000 in
theorem ggX5_readsHouse_X5_codeAt : GoodIn wsX5_readsHouse wsX5_codeAt := goodIn_r _ [10, 2, 11, 20, 21, 22, 23, 24, 25, 26, 27, 28, 29, 30, 31, 32, 33, 34, 35, 36, 37, 38, 39, 40, 41, 42, 43, 44] (by decide +kernel) (by decide +kernel)
set_option maxRecDepth 20000 in
theorem gX5_readsHouse_X5_codeAt : GoodIn wsX5_readsHouse (wsV RX5 80 RX5 yX5_codeAt wsX5_codeAt) := goodIn_app (goodIn_of _ (by decide +kernel)) ggX5_readsHouse_X5_codeAt
set_option maxRecDepth 20000 in
theorem ggX5_readsHouse_X5_figure : GoodIn wsX5_readsHouse wsX5_figure := goodIn_r _ [15, 16, 2, 6, 7, 8, 9, 10, 11, 17, 18, 19, 20, 21, 22, 23, 24, 25, 26, 27, 28, 29, 30, 31, 32, 33, 34, 35, 36, 37, 38, 39, 40, 41, 42, 43, 44] (by decide +kernel) (by decide +kernel)
set_option maxRecDepth 20000 in
theorem gX5_readsHouse_X5_figure : GoodIn wsX5_readsHouse (wsV RX5 87 RX5 yX5_figure wsX5_figure) := goodIn_app (goodIn_of _ (by decide +kernel)) ggX5_readsHouse_X5_figure
theorem dX5_readsHouse_0 : decode cX5_readsHouse 0 = .ok (.aload_n 0, 1) := by decide +kernel
theorem dX5_readsHouse_1 : decode cX5_readsHouse 1 = .ok (.getfield 84, 3) := by decide +kernel
theorem dX5_readsHouse_4 : decode cX5_readsHouse 4 = .ok (.bipush 6, 2) := by decide +kernel
theorem dX5_readsHouse_6 : decode cX5_readsHouse 6 = .ok (.if_icmp .eq 14, 3) := by decide +kernel
theorem dX5_readsHouse_9 : decode cX5_readsHouse 9 = .ok (.aload_n 0, 1) := by decide +kernel
theorem dX5_readsHouse_10 : decode cX5_readsHouse 10 = .ok (.iload_n 1, 1) := by decide +kernel
theorem dX5_readsHouse_11 : decode cX5_readsHouse 11 = .ok (.iload_n 2, 1) := by decide +kernel
theorem dX5_readsHouse_12 : decode cX5_readsHouse 12 = .ok (.invokevirtual 80, 3) := by decide +kernel
theorem dX5_readsHouse_15 : decode cX5_readsHouse 15 = .ok (.bipush 59, 2) := by decide +kernel
theorem dX5_readsHouse_17 : decode cX5_readsHouse 17 = .ok (.if_icmp .eq 5, 3) := by decide +kernel
theorem dX5_readsHouse_20 : decode cX5_readsHouse 20 = .ok (.iconst 0, 1) := by decide +kernel
theorem dX5_readsHouse_21 : decode cX5_readsHouse 21 = .ok (.ireturn, 1) := by decide +kernel
theorem dX5_readsHouse_22 : decode cX5_readsHouse 22 = .ok (.aload_n 0, 1) := by decide +kernel
theorem dX5_readsHouse_23 : decode cX5_readsHouse 23 = .ok (.dup, 1) := by decide +kernel
theorem dX5_readsHouse_24 : decode cX5_readsHouse 24 = .ok (.getfield 77, 3) := by decide +kernel
theorem dX5_readsHouse_27 : decode cX5_readsHouse 27 = .ok (.iconst 1, 1) := by decide +kernel
theorem dX5_readsHouse_28 : decode cX5_readsHouse 28 = .ok (.iadd, 1) := by decide +kernel
theorem dX5_readsHouse_29 : decode cX5_readsHouse 29 = .ok (.putfield 77, 3) := by decide +kernel
theorem dX5_readsHouse_32 : decode cX5_readsHouse 32 = .ok (.aload_n 0, 1) := by decide +kernel
theorem dX5_readsHouse_33 : decode cX5_readsHouse 33 = .ok (.iload_n 1, 1) := by decide +kernel
theorem dX5_readsHouse_34 : decode cX5_readsHouse 34 = .ok (.iload_n 2, 1) := by decide +kernel
theorem dX5_readsHouse_35 : decode cX5_readsHouse 35 = .ok (.invokevirtual 80, 3) := by decide +kernel
theorem dX5_readsHouse_38 : decode cX5_readsHouse 38 = .ok (.istore_n 3, 1) := by decide +kernel
theorem dX5_readsHouse_39 : decode cX5_readsHouse 39 = .ok (.iload_n 3, 1) := by decide +kernel
theorem dX5_readsHouse_40 : decode cX5_readsHouse 40 = .ok (.bipush 104, 2) := by decide +kernel
theorem dX5_readsHouse_42 : decode cX5_readsHouse 42 = .ok (.if_icmp .eq 17, 3) := by decide +kernel
theorem dX5_readsHouse_45 : decode cX5_readsHouse 45 = .ok (.iload_n 3, 1) := by decide +kernel
theorem dX5_readsHouse_46 : decode cX5_readsHouse 46 = .ok (.bipush 107, 2) := by decide +kernel
theorem dX5_readsHouse_48 : decode cX5_readsHouse 48 = .ok (.if_icmp .eq 11, 3) := by decide +kernel
theorem dX5_readsHouse_51 : decode cX5_readsHouse 51 = .ok (.iload_n 3, 1) := by decide +kernel
theorem dX5_readsHouse_52 : decode cX5_readsHouse 52 = .ok (.bipush 116, 2) := by decide +kernel
theorem dX5_readsHouse_54 : decode cX5_readsHouse 54 = .ok (.if_icmp .eq 5, 3) := by decide +kernel
theorem dX5_readsHouse_57 : decode cX5_readsHouse 57 = .ok (.iconst 0, 1) := by decide +kernel
theorem dX5_readsHouse_58 : decode cX5_readsHouse 58 = .ok (.ireturn, 1) := by decide +kernel
theorem dX5_readsHouse_59 : decode cX5_readsHouse 59 = .ok (.aload_n 0, 1) := by decide +kernel
theorem dX5_readsHouse_60 : decode cX5_readsHouse 60 = .ok (.dup, 1) := by decide +kernel
theorem dX5_readsHouse_61 : decode cX5_readsHouse 61 = .ok (.getfield 77, 3) := by decide +kernel
theorem dX5_readsHouse_64 : decode cX5_readsHouse 64 = .ok (.iconst 1, 1) := by decide +kernel
theorem dX5_readsHouse_65 : decode cX5_readsHouse 65 = .ok (.iadd, 1) := by decide +kernel
theorem dX5_readsHouse_66 : decode cX5_readsHouse 66 = .ok (.putfield 77, 3) := by decide +kernel
theorem dX5_readsHouse_69 : decode cX5_readsHouse 69 = .ok (.aload_n 0, 1) := by decide +kernel
theorem dX5_readsHouse_70 : decode cX5_readsHouse 70 = .ok (.iload_n 1, 1) := by decide +kernel
theorem dX5_readsHouse_71 : decode cX5_readsHouse 71 = .ok (.iload_n 2, 1) := by decide +kernel
theorem dX5_readsHouse_72 : decode cX5_readsHouse 72 = .ok (.invokevirtual 87, 3) := by decide +kernel
theorem dX5_readsHouse_75 : decode cX5_readsHouse 75 = .ok (.istore 4, 2) := by decide +kernel
theorem dX5_readsHouse_77 : decode cX5_readsHouse 77 = .ok (.iload 4, 2) := by decide +kernel
theorem dX5_readsHouse_79 : decode cX5_readsHouse 79 = .ok (.ifCond .ge 8, 3) := by decide +kernel
theorem dX5_readsHouse_82 : decode cX5_readsHouse 82 = .ok (.bipush (-9), 2) := by decide +kernel
theorem dX5_readsHouse_84 : decode cX5_readsHouse 84 = .ok (.goto 9, 3) := by decide +kernel
theorem dX5_readsHouse_87 : decode cX5_readsHouse 87 = .ok (.aload_n 0, 1) := by decide +kernel
theorem dX5_readsHouse_88 : decode cX5_readsHouse 88 = .ok (.iload_n 1, 1) := by decide +kernel
theorem dX5_readsHouse_89 : decode cX5_readsHouse 89 = .ok (.iload_n 2, 1) := by decide +kernel
theorem dX5_readsHouse_90 : decode cX5_readsHouse 90 = .ok (.invokevirtual 87, 3) := by decide +kernel
theorem dX5_readsHouse_93 : decode cX5_readsHouse 93 = .ok (.istore 5, 2) := by decide +kernel
theorem dX5_readsHouse_95 : decode cX5_readsHouse 95 = .ok (.iload 5, 2) := by decide +kernel
theorem dX5_readsHouse_97 : decode cX5_readsHouse 97 = .ok (.ifCond .ge 5, 3) := by decide +kernel
theorem dX5_readsHouse_100 : decode cX5_readsHouse 100 = .ok (.iconst 0, 1) := by decide +kernel
theorem dX5_readsHouse_101 : decode cX5_readsHouse 101 = .ok (.ireturn, 1) := by decide +kernel
theorem dX5_readsHouse_102 : decode cX5_readsHouse 102 = .ok (.aload_n 0, 1) := by decide +kernel
theorem dX5_readsHouse_103 : decode cX5_readsHouse 103 = .ok (.getfield 19, 3) := by decide +kernel
theorem dX5_readsHouse_106 : decode cX5_readsHouse 106 = .ok (.aload_n 0, 1) := by decide +kernel
theorem dX5_readsHouse_107 : decode cX5_readsHouse 107 = .ok (.getfield 84, 3) := by decide +kernel
theorem dX5_readsHouse_110 : decode cX5_readsHouse 110 = .ok (.iload_n 3, 1) := by decide +kernel
theorem dX5_readsHouse_111 : decode cX5_readsHouse 111 = .ok (.bipush 104, 2) := by decide +kernel
theorem dX5_readsHouse_113 : decode cX5_readsHouse 113 = .ok (.if_icmp .ne 7, 3) := by decide +kernel
theorem dX5_readsHouse_116 : decode cX5_readsHouse 116 = .ok (.iconst 0, 1) := by decide +kernel
theorem dX5_readsHouse_117 : decode cX5_readsHouse 117 = .ok (.goto 14, 3) := by decide +kernel
theorem dX5_readsHouse_120 : decode cX5_readsHouse 120 = .ok (.iload_n 3, 1) := by decide +kernel
theorem dX5_readsHouse_121 : decode cX5_readsHouse 121 = .ok (.bipush 107, 2) := by decide +kernel
theorem dX5_readsHouse_123 : decode cX5_readsHouse 123 = .ok (.if_icmp .ne 7, 3) := by decide +kernel
theorem dX5_readsHouse_126 : decode cX5_readsHouse 126 = .ok (.iconst 1, 1) := by decide +kernel
theorem dX5_readsHouse_127 : decode cX5_readsHouse 127 = .ok (.goto 4, 3) := by decide +kernel
theorem dX5_readsHouse_130 : decode cX5_readsHouse 130 = .ok (.iconst 2, 1) := by decide +kernel
theorem dX5_readsHouse_131 : decode cX5_readsHouse 131 = .ok (.iastore, 1) := by decide +kernel
theorem dX5_readsHouse_132 : decode cX5_readsHouse 132 = .ok (.aload_n 0, 1) := by decide +kernel
theorem dX5_readsHouse_133 : decode cX5_readsHouse 133 = .ok (.getfield 22, 3) := by decide +kernel
theorem dX5_readsHouse_136 : decode cX5_readsHouse 136 = .ok (.aload_n 0, 1) := by decide +kernel
theorem dX5_readsHouse_137 : decode cX5_readsHouse 137 = .ok (.getfield 84, 3) := by decide +kernel
theorem dX5_readsHouse_140 : decode cX5_readsHouse 140 = .ok (.iload 4, 2) := by decide +kernel
theorem dX5_readsHouse_142 : decode cX5_readsHouse 142 = .ok (.iastore, 1) := by decide +kernel
theorem dX5_readsHouse_143 : decode cX5_readsHouse 143 = .ok (.aload_n 0, 1) := by decide +kernel
theorem dX5_readsHouse_144 : decode cX5_readsHouse 144 = .ok (.getfield 25, 3) := by decide +kernel
theorem dX5_readsHouse_147 : decode cX5_readsHouse 147 = .ok (.aload_n 0, 1) := by decide +kernel
theorem dX5_readsHouse_148 : decode cX5_readsHouse 148 = .ok (.getfield 84, 3) := by decide +kernel
theorem dX5_readsHouse_151 : decode cX5_readsHouse 151 = .ok (.iload 5, 2) := by decide +kernel
theorem dX5_readsHouse_153 : decode cX5_readsHouse 153 = .ok (.iastore, 1) := by decide +kernel
theorem dX5_readsHouse_154 : decode cX5_readsHouse 154 = .ok (.aload_n 0, 1) := by decide +kernel
theorem dX5_readsHouse_155 : decode cX5_readsHouse 155 = .ok (.dup, 1) := by decide +kernel
theorem dX5_readsHouse_156 : decode cX5_readsHouse 156 = .ok (.getfield 84, 3) := by decide +kernel
theorem dX5_readsHouse_159 : decode cX5_readsHouse 159 = .ok (.iconst 1, 1) := by decide +kernel
theorem dX5_readsHouse_160 : decode cX5_readsHouse 160 = .ok (.iadd, 1) := by decide +kernel
theorem dX5_readsHouse_161 : decode cX5_readsHouse 161 = .ok (.putfield 84, 3) := by decide +kernel
theorem dX5_readsHouse_164 : decode cX5_readsHouse 164 = .ok (.iconst 1, 1) := by decide +kernel
theorem dX5_readsHouse_165 : decode cX5_readsHouse 165 = .ok (.ireturn, 1) := by decide +kernel
set_option maxRecDepth 20000 in
theorem ggX5_readsCity_X5_codeAt : GoodIn wsX5_readsCity wsX5_codeAt := goodIn_r _ [7, 1, 8, 24, 25, 26, 27, 28, 29, 30, 31, 32, 33, 34, 35, 36, 37, 38, 39, 40, 41, 42, 43, 44, 45, 46, 47, 48] (by decide +kernel) (by decide +kernel)
set_option maxRecDepth 20000 in
theorem gX5_readsCity_X5_codeAt : GoodIn wsX5_readsCity (wsV RX5 80 RX5 yX5_codeAt wsX5_codeAt) := goodIn_app (goodIn_of _ (by decide +kernel)) ggX5_readsCity_X5_codeAt
set_option maxRecDepth 20000 in
theorem ggX5_readsCity_X5_readsHouse : GoodIn wsX5_readsCity wsX5_readsHouse := goodIn_r _ [12, 2, 1, 13, 14, 15, 3, 4, 5, 6, 7, 8, 16, 17, 18, 19, 20, 21, 22, 23, 24, 25, 26, 27, 28, 29, 30, 31, 32, 33, 34, 35, 36, 37, 38, 39, 40, 41, 42, 43, 44, 45, 46, 47, 48] (by decide +kernel) (by decide +kernel)
set_option maxRecDepth 20000 in
theorem gX5_readsCity_X5_readsHouse : GoodIn wsX5_readsCity (wsV RX5 90 RX5 yX5_readsHouse wsX5_readsHouse) := goodIn_app (goodIn_of _ (by decide +kernel)) ggX5_readsCity_X5_readsHouse
theorem dX5_readsCity_0 : decode cX5_readsCity 0 = .ok (.aload_n 0, 1) := by decide +kernel
theorem dX5_readsCity_1 : decode cX5_readsCity 1 = .ok (.iconst 0, 1) := by decide +kernel
theorem dX5_readsCity_2 : decode cX5_readsCity 2 = .ok (.putfield 77, 3) := by decide +kernel
theorem dX5_readsCity_5 : decode cX5_readsCity 5 = .ok (.aload_n 0, 1) := by decide +kernel
theorem dX5_readsCity_6 : decode cX5_readsCity 6 = .ok (.iconst 0, 1) := by decide +kernel
theorem dX5_readsCity_7 : decode cX5_readsCity 7 = .ok (.putfield 84, 3) := by decide +kernel
theorem dX5_readsCity_10 : decode cX5_readsCity 10 = .ok (.aload_n 0, 1) := by decide +kernel
theorem dX5_readsCity_11 : decode cX5_readsCity 11 = .ok (.iload_n 1, 1) := by decide +kernel
theorem dX5_readsCity_12 : decode cX5_readsCity 12 = .ok (.iload_n 2, 1) := by decide +kernel
theorem dX5_readsCity_13 : decode cX5_readsCity 13 = .ok (.invokevirtual 80, 3) := by decide +kernel
theorem dX5_readsCity_16 : decode cX5_readsCity 16 = .ok (.bipush 113, 2) := by decide +kernel
theorem dX5_readsCity_18 : decode cX5_readsCity 18 = .ok (.if_icmp .ne 7, 3) := by decide +kernel
theorem dX5_readsCity_21 : decode cX5_readsCity 21 = .ok (.iconst 1, 1) := by decide +kernel
theorem dX5_readsCity_22 : decode cX5_readsCity 22 = .ok (.goto 4, 3) := by decide +kernel
theorem dX5_readsCity_25 : decode cX5_readsCity 25 = .ok (.iconst 0, 1) := by decide +kernel
theorem dX5_readsCity_26 : decode cX5_readsCity 26 = .ok (.istore_n 3, 1) := by decide +kernel
