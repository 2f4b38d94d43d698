theorem dX5_readsCity_27 : decode cX5_readsCity 27 = .ok (.aload_n 0, 1) := by decide +kernel
theorem dX5_readsCity_28 : decode cX5_readsCity 28 = .ok (.dup, 1) := by decide +kernel
theorem dX5_readsCity_29 : decode cX5_readsCity 29 = .ok (.getfield 77, 3) := by decide +kernel
theorem dX5_readsCity_32 : decode cX5_readsCity 32 = .ok (.iload_n 3, 1) := by decide +kernel
theorem dX5_readsCity_33 : decode cX5_readsCity 33 = .ok (.ifCond .eq 7, 3) := by decide +kernel
theorem dX5_readsCity_36 : decode cX5_readsCity 36 = .ok (.iconst 1, 1) := by decide +kernel
theorem dX5_readsCity_37 : decode cX5_readsCity 37 = .ok (.goto 4, 3) := by decide +kernel
theorem dX5_readsCity_40 : decode cX5_readsCity 40 = .ok (.iconst 0, 1) := by decide +kernel
theorem dX5_readsCity_41 : decode cX5_readsCity 41 = .ok (.iadd, 1) := by decide +kernel
theorem dX5_readsCity_42 : decode cX5_readsCity 42 = .ok (.putfield 77, 3) := by decide +kernel
theorem dX5_readsCity_45 : decode cX5_readsCity 45 = .ok (.iload_n 3, 1) := by decide +kernel
theorem dX5_readsCity_46 : decode cX5_readsCity 46 = .ok (.ifCond .eq 29, 3) := by decide +kernel
theorem dX5_readsCity_49 : decode cX5_readsCity 49 = .ok (.aload_n 0, 1) := by decide +kernel
theorem dX5_readsCity_50 : decode cX5_readsCity 50 = .ok (.getfield 84, 3) := by decide +kernel
theorem dX5_readsCity_53 : decode cX5_readsCity 53 = .ok (.iconst 2, 1) := by decide +kernel
theorem dX5_readsCity_54 : decode cX5_readsCity 54 = .ok (.if_icmp .lt 11, 3) := by decide +kernel
theorem dX5_readsCity_57 : decode cX5_readsCity 57 = .ok (.aload_n 0, 1) := by decide +kernel
theorem dX5_readsCity_58 : decode cX5_readsCity 58 = .ok (.getfield 77, 3) := by decide +kernel
theorem dX5_readsCity_61 : decode cX5_readsCity 61 = .ok (.iload_n 2, 1) := by decide +kernel
theorem dX5_readsCity_62 : decode cX5_readsCity 62 = .ok (.if_icmp .ge 13, 3) := by decide +kernel
theorem dX5_readsCity_65 : decode cX5_readsCity 65 = .ok (.aload_n 0, 1) := by decide +kernel
theorem dX5_readsCity_66 : decode cX5_readsCity 66 = .ok (.iload_n 1, 1) := by decide +kernel
theorem dX5_readsCity_67 : decode cX5_readsCity 67 = .ok (.iload_n 2, 1) := by decide +kernel
theorem dX5_readsCity_68 : decode cX5_readsCity 68 = .ok (.invokevirtual 90, 3) := by decide +kernel
theorem dX5_readsCity_71 : decode cX5_readsCity 71 = .ok (.istore_n 3, 1) := by decide +kernel
theorem dX5_readsCity_72 : decode cX5_readsCity 72 = .ok (.goto (-27), 3) := by decide +kernel
theorem dX5_readsCity_75 : decode cX5_readsCity 75 = .ok (.iload_n 3, 1) := by decide +kernel
theorem dX5_readsCity_76 : decode cX5_readsCity 76 = .ok (.ireturn, 1) := by decide +kernel
set_option maxRecDepth 20000 in
theorem ggX5_cellsBarred_X5_failed : GoodIn wsX5_cellsBarred wsX5_failed := goodIn_r _ [7, 8, 12, 13, 14, 15, 16, 17, 18, 19, 20, 21, 22, 23, 24, 25, 26, 27, 28, 29, 30, 31, 32, 33, 34, 35, 36] (by decide +kernel) (by decide +kernel)
set_option maxRecDepth 20000 in
theorem gX5_cellsBarred_X5_failed : GoodIn wsX5_cellsBarred (wsV RX5 94 RX5 yX5_failed wsX5_failed) := goodIn_app (goodIn_of _ (by decide +kernel)) ggX5_cellsBarred_X5_failed
set_option maxRecDepth 20000 in
theorem ggX5_cellsBarred_X5_isBeyond : GoodIn wsX5_cellsBarred wsX5_isBeyond := goodIn_r _ [11] (by decide +kernel) (by decide +kernel)
set_option maxRecDepth 20000 in
theorem gX5_cellsBarred_X5_isBeyond : GoodIn wsX5_cellsBarred (va_wsS RX5 98 yX5_isBeyond wsX5_isBeyond) := goodIn_app (goodIn_of _ (by decide +kernel)) ggX5_cellsBarred_X5_isBeyond
theorem dX5_cellsBarred_0 : decode cX5_cellsBarred 0 = .ok (.aload_n 0, 1) := by decide +kernel
theorem dX5_cellsBarred_1 : decode cX5_cellsBarred 1 = .ok (.getfield 46, 3) := by decide +kernel
theorem dX5_cellsBarred_4 : decode cX5_cellsBarred 4 = .ok (.iload_n 1, 1) := by decide +kernel
theorem dX5_cellsBarred_5 : decode cX5_cellsBarred 5 = .ok (.iaload, 1) := by decide +kernel
theorem dX5_cellsBarred_6 : decode cX5_cellsBarred 6 = .ok (.ifCond .lt 19, 3) := by decide +kernel
theorem dX5_cellsBarred_9 : decode cX5_cellsBarred 9 = .ok (.aload_n 0, 1) := by decide +kernel
theorem dX5_cellsBarred_10 : decode cX5_cellsBarred 10 = .ok (.getfield 49, 3) := by decide +kernel
theorem dX5_cellsBarred_13 : decode cX5_cellsBarred 13 = .ok (.iload_n 1, 1) := by decide +kernel
theorem dX5_cellsBarred_14 : decode cX5_cellsBarred 14 = .ok (.iaload, 1) := by decide +kernel
theorem dX5_cellsBarred_15 : decode cX5_cellsBarred 15 = .ok (.iload_n 2, 1) := by decide +kernel
theorem dX5_cellsBarred_16 : decode cX5_cellsBarred 16 = .ok (.if_icmp .eq 9, 3) := by decide +kernel
theorem dX5_cellsBarred_19 : decode cX5_cellsBarred 19 = .ok (.aload_n 0, 1) := by decide +kernel
theorem dX5_cellsBarred_20 : decode cX5_cellsBarred 20 = .ok (.iconst 2, 1) := by decide +kernel
theorem dX5_cellsBarred_21 : decode cX5_cellsBarred 21 = .ok (.invokevirtual 94, 3) := by decide +kernel
theorem dX5_cellsBarred_24 : decode cX5_cellsBarred 24 = .ok (.ireturn, 1) := by decide +kernel
theorem dX5_cellsBarred_25 : decode cX5_cellsBarred 25 = .ok (.aload_n 0, 1) := by decide +kernel
theorem dX5_cellsBarred_26 : decode cX5_cellsBarred 26 = .ok (.getfield 46, 3) := by decide +kernel
theorem dX5_cellsBarred_29 : decode cX5_cellsBarred 29 = .ok (.iload_n 1, 1) := by decide +kernel
theorem dX5_cellsBarred_30 : decode cX5_cellsBarred 30 = .ok (.iaload, 1) := by decide +kernel
theorem dX5_cellsBarred_31 : decode cX5_cellsBarred 31 = .ok (.ifCond .ge 9, 3) := by decide +kernel
theorem dX5_cellsBarred_34 : decode cX5_cellsBarred 34 = .ok (.aload_n 0, 1) := by decide +kernel
theorem dX5_cellsBarred_35 : decode cX5_cellsBarred 35 = .ok (.iconst 1, 1) := by decide +kernel
theorem dX5_cellsBarred_36 : decode cX5_cellsBarred 36 = .ok (.invokevirtual 94, 3) := by decide +kernel
theorem dX5_cellsBarred_39 : decode cX5_cellsBarred 39 = .ok (.ireturn, 1) := by decide +kernel
theorem dX5_cellsBarred_40 : decode cX5_cellsBarred 40 = .ok (.lload 4, 2) := by decide +kernel
theorem dX5_cellsBarred_42 : decode cX5_cellsBarred 42 = .ok (.lconst 0, 1) := by decide +kernel
theorem dX5_cellsBarred_43 : decode cX5_cellsBarred 43 = .ok (.lcmp, 1) := by decide +kernel
theorem dX5_cellsBarred_44 : decode cX5_cellsBarred 44 = .ok (.ifCond .ge 9, 3) := by decide +kernel
theorem dX5_cellsBarred_47 : decode cX5_cellsBarred 47 = .ok (.aload_n 0, 1) := by decide +kernel
theorem dX5_cellsBarred_48 : decode cX5_cellsBarred 48 = .ok (.iconst 4, 1) := by decide +kernel
theorem dX5_cellsBarred_49 : decode cX5_cellsBarred 49 = .ok (.invokevirtual 94, 3) := by decide +kernel
theorem dX5_cellsBarred_52 : decode cX5_cellsBarred 52 = .ok (.ireturn, 1) := by decide +kernel
theorem dX5_cellsBarred_53 : decode cX5_cellsBarred 53 = .ok (.iload_n 3, 1) := by decide +kernel
theorem dX5_cellsBarred_54 : decode cX5_cellsBarred 54 = .ok (.lload 4, 2) := by decide +kernel
theorem dX5_cellsBarred_56 : decode cX5_cellsBarred 56 = .ok (.aload_n 0, 1) := by decide +kernel
theorem dX5_cellsBarred_57 : decode cX5_cellsBarred 57 = .ok (.getfield 46, 3) := by decide +kernel
theorem dX5_cellsBarred_60 : decode cX5_cellsBarred 60 = .ok (.iload_n 1, 1) := by decide +kernel
theorem dX5_cellsBarred_61 : decode cX5_cellsBarred 61 = .ok (.iaload, 1) := by decide +kernel
theorem dX5_cellsBarred_62 : decode cX5_cellsBarred 62 = .ok (.invokestatic 98, 3) := by decide +kernel
theorem dX5_cellsBarred_65 : decode cX5_cellsBarred 65 = .ok (.ifCond .eq 11, 3) := by decide +kernel
theorem dX5_cellsBarred_68 : decode cX5_cellsBarred 68 = .ok (.aload_n 0, 1) := by decide +kernel
theorem dX5_cellsBarred_69 : decode cX5_cellsBarred 69 = .ok (.iconst 3, 1) := by decide +kernel
theorem dX5_cellsBarred_70 : decode cX5_cellsBarred 70 = .ok (.invokevirtual 94, 3) := by decide +kernel
theorem dX5_cellsBarred_73 : decode cX5_cellsBarred 73 = .ok (.goto 4, 3) := by decide +kernel
theorem dX5_cellsBarred_76 : decode cX5_cellsBarred 76 = .ok (.iconst 0, 1) := by decide +kernel
theorem dX5_cellsBarred_77 : decode cX5_cellsBarred 77 = .ok (.ireturn, 1) := by decide +kernel
set_option maxRecDepth 20000 in
theorem ggX5_city_X5_noSheet : GoodIn wsX5_city wsX5_noSheet := goodIn_r _ [15, 16, 17, 18, 14, 19] (by decide +kernel) (by decide +kernel)
set_option maxRecDepth 20000 in
theorem gX5_city_X5_noSheet : GoodIn wsX5_city (va_wsS RX5 102 yX5_noSheet wsX5_noSheet) := goodIn_app (goodIn_of _ (by decide +kernel)) ggX5_city_X5_noSheet
set_option maxRecDepth 20000 in
theorem ggX5_city_X5_refused : GoodIn wsX5_city wsX5_refused := goodIn_r _ [23, 24, 56, 57, 58, 59, 60, 61, 62, 63, 64, 65, 66, 67, 68, 69, 70, 71, 72, 73, 74, 75, 76, 77, 78, 79, 80] (by decide +kernel) (by decide +kernel)
set_option maxRecDepth 20000 in
theorem gX5_city_X5_refused : GoodIn wsX5_city (wsV RX5 106 RX5 yX5_refused wsX5_refused) := goodIn_app (goodIn_of _ (by decide +kernel)) ggX5_city_X5_refused
set_option maxRecDepth 20000 in
theorem ggX5_city_X5_in : GoodIn wsX5_city wsX5_in := goodIn_r _ [19] (by decide +kernel) (by decide +kernel)
set_option maxRecDepth 20000 in
theorem gX5_city_X5_in : GoodIn wsX5_city (va_wsS RX5 71 yX5_in wsX5_in) := goodIn_app (goodIn_of _ (by decide +kernel)) ggX5_city_X5_in
set_option maxRecDepth 20000 in
theorem ggX5_city_X5_cellsBarred : GoodIn wsX5_city wsX5_cellsBarred := goodIn_r _ [28, 29, 30, 31, 32, 33, 14, 34, 24, 35, 36, 37, 56, 57, 58, 59, 60, 61, 62, 63, 64, 65, 66, 67, 68, 69, 70, 71, 72, 73, 74, 75, 76, 77, 78, 79, 80] (by decide +kernel) (by decide +kernel)
set_option maxRecDepth 20000 in
theorem gX5_city_X5_cellsBarred : GoodIn wsX5_city (wsV RX5 111 RX5 yX5_cellsBarred wsX5_cellsBarred) := goodIn_app (goodIn_of _ (by decide +kernel)) ggX5_city_X5_cellsBarred
set_option maxRecDepth 20000 in
theorem ggX5_city_X5_readsCity : GoodIn wsX5_city wsX5_readsCity := goodIn_r _ [41, 2, 3, 42, 43, 44, 14, 45, 46, 47, 48, 49, 50, 6, 8, 10, 51, 52, 53, 54, 55, 17, 18, 19, 56, 57, 58, 59, 60, 61, 62, 63, 64, 65, 66, 67, 68, 69, 70, 71, 72, 73, 74, 75, 76, 77, 78, 79, 80] (by decide +kernel) (by decide +kernel)
set_option maxRecDepth 20000 in
theorem gX5_city_X5_readsCity : GoodIn wsX5_city (wsV RX5 115 RX5 yX5_readsCity wsX5_readsCity) := goodIn_app (goodIn_of _ (by decide +kernel)) ggX5_city_X5_readsCity
theorem dX5_city_0 : decode cX5_city 0 = .ok (.iload_n 1, 1) := by decide +kernel
theorem dX5_city_1 : decode cX5_city 1 = .ok (.invokestatic 102, 3) := by decide +kernel
theorem dX5_city_4 : decode cX5_city 4 = .ok (.ifCond .eq 9, 3) := by decide +kernel
theorem dX5_city_7 : decode cX5_city 7 = .ok (.aload_n 0, 1) := by decide +kernel
theorem dX5_city_8 : decode cX5_city 8 = .ok (.iconst (-1), 1) := by decide +kernel
theorem dX5_city_9 : decode cX5_city 9 = .ok (.invokevirtual 106, 3) := by decide +kernel
theorem dX5_city_12 : decode cX5_city 12 = .ok (.ireturn, 1) := by decide +kernel
theorem dX5_city_13 : decode cX5_city 13 = .ok (.iload_n 2, 1) := by decide +kernel
theorem dX5_city_14 : decode cX5_city 14 = .ok (.i2l, 1) := by decide +kernel
theorem dX5_city_15 : decode cX5_city 15 = .ok (.lconst 0, 1) := by decide +kernel
theorem dX5_city_16 : decode cX5_city 16 = .ok (.ldc2_w 109, 3) := by decide +kernel
theorem dX5_city_19 : decode cX5_city 19 = .ok (.invokestatic 71, 3) := by decide +kernel
theorem dX5_city_22 : decode cX5_city 22 = .ok (.ifCond .ne 10, 3) := by decide +kernel
theorem dX5_city_25 : decode cX5_city 25 = .ok (.aload_n 0, 1) := by decide +kernel
theorem dX5_city_26 : decode cX5_city 26 = .ok (.bipush (-2), 2) := by decide +kernel
theorem dX5_city_28 : decode cX5_city 28 = .ok (.invokevirtual 106, 3) := by decide +kernel
theorem dX5_city_31 : decode cX5_city 31 = .ok (.ireturn, 1) := by decide +kernel
theorem dX5_city_32 : decode cX5_city 32 = .ok (.aload_n 0, 1) := by decide +kernel
theorem dX5_city_33 : decode cX5_city 33 = .ok (.iload_n 1, 1) := by decide +kernel
theorem dX5_city_34 : decode cX5_city 34 = .ok (.iload_n 2, 1) := by decide +kernel
theorem dX5_city_35 : decode cX5_city 35 = .ok (.iload_n 3, 1) := by decide +kernel
theorem dX5_city_36 : decode cX5_city 36 = .ok (.iload 4, 2) := by decide +kernel
theorem dX5_city_38 : decode cX5_city 38 = .ok (.i2l, 1) := by decide +kernel
theorem dX5_city_39 : decode cX5_city 39 = .ok (.invokevirtual 111, 3) := by decide +kernel
theorem dX5_city_42 : decode cX5_city 42 = .ok (.istore 5, 2) := by decide +kernel
theorem dX5_city_44 : decode cX5_city 44 = .ok (.iload 5, 2) := by decide +kernel
theorem dX5_city_46 : decode cX5_city 46 = .ok (.ifCond .ge 6, 3) := by decide +kernel
theorem dX5_city_49 : decode cX5_city 49 = .ok (.iload 5, 2) := by decide +kernel
theorem dX5_city_51 : decode cX5_city 51 = .ok (.ireturn, 1) := by decide +kernel
theorem dX5_city_52 : decode cX5_city 52 = .ok (.aload_n 0, 1) := by decide +kernel
theorem dX5_city_53 : decode cX5_city 53 = .ok (.bipush 60, 2) := by decide +kernel
theorem dX5_city_55 : decode cX5_city 55 = .ok (.iload_n 1, 1) := by decide +kernel
theorem dX5_city_56 : decode cX5_city 56 = .ok (.imul, 1) := by decide +kernel
theorem dX5_city_57 : decode cX5_city 57 = .ok (.iload_n 3, 1) := by decide +kernel
theorem dX5_city_58 : decode cX5_city 58 = .ok (.iadd, 1) := by decide +kernel
theorem dX5_city_59 : decode cX5_city 59 = .ok (.iload 4, 2) := by decide +kernel
theorem dX5_city_61 : decode cX5_city 61 = .ok (.invokevirtual 115, 3) := by decide +kernel
theorem dX5_city_64 : decode cX5_city 64 = .ok (.ifCond .ne 15, 3) := by decide +kernel
theorem dX5_city_67 : decode cX5_city 67 = .ok (.aload_n 0, 1) := by decide +kernel
theorem dX5_city_68 : decode cX5_city 68 = .ok (.bipush (-100), 2) := by decide +kernel
theorem dX5_city_70 : decode cX5_city 70 = .ok (.aload_n 0, 1) := by decide +kernel
theorem dX5_city_71 : decode cX5_city 71 = .ok (.getfield 77, 3) := by decide +kernel
theorem dX5_city_74 : decode cX5_city 74 = .ok (.isub, 1) := by decide +kernel
theorem dX5_city_75 : decode cX5_city 75 = .ok (.invokevirtual 106, 3) := by decide +kernel
theorem dX5_city_78 : decode cX5_city 78 = .ok (.ireturn, 1) := by decide +kernel
theorem dX5_city_79 : decode cX5_city 79 = .ok (.aload_n 0, 1) := by decide +kernel
theorem dX5_city_80 : decode cX5_city 80 = .ok (.aload_n 0, 1) := by decide +kernel
theorem dX5_city_81 : decode cX5_city 81 = .ok (.getfield 84, 3) := by decide +kernel
theorem dX5_city_84 : decode cX5_city 84 = .ok (.putfield 68, 3) := by decide +kernel
theorem dX5_city_87 : decode cX5_city 87 = .ok (.iconst 0, 1) := by decide +kernel
theorem dX5_city_88 : decode cX5_city 88 = .ok (.istore 6, 2) := by decide +kernel
theorem dX5_city_90 : decode cX5_city 90 = .ok (.iload 6, 2) := by decide +kernel
theorem dX5_city_92 : decode cX5_city 92 = .ok (.aload_n 0, 1) := by decide +kernel
theorem dX5_city_93 : decode cX5_city 93 = .ok (.getfield 68, 3) := by decide +kernel
theorem dX5_city_96 : decode cX5_city 96 = .ok (.if_icmp .ge 51, 3) := by decide +kernel
theorem dX5_city_99 : decode cX5_city 99 = .ok (.aload_n 0, 1) := by decide +kernel
theorem dX5_city_100 : decode cX5_city 100 = .ok (.getfield 7, 3) := by decide +kernel
theorem dX5_city_103 : decode cX5_city 103 = .ok (.iload 6, 2) := by decide +kernel
theorem dX5_city_105 : decode cX5_city 105 = .ok (.aload_n 0, 1) := by decide +kernel
theorem dX5_city_106 : decode cX5_city 106 = .ok (.getfield 19, 3) := by decide +kernel
theorem dX5_city_109 : decode cX5_city 109 = .ok (.iload 6, 2) := by decide +kernel
theorem dX5_city_111 : decode cX5_city 111 = .ok (.iaload, 1) := by decide +kernel
theorem dX5_city_112 : decode cX5_city 112 = .ok (.iastore, 1) := by decide +kernel
theorem dX5_city_113 : decode cX5_city 113 = .ok (.aload_n 0, 1) := by decide +kernel
theorem dX5_city_114 : decode cX5_city 114 = .ok (.getfield 13, 3) := by decide +kernel
theorem dX5_city_117 : decode cX5_city 117 = .ok (.iload 6, 2) := by decide +kernel
theorem dX5_city_119 : decode cX5_city 119 = .ok (.aload_n 0, 1) := by decide +kernel
theorem dX5_city_120 : decode cX5_city 120 = .ok (.getfield 22, 3) := by decide +kernel
theorem dX5_city_123 : decode cX5_city 123 = .ok (.iload 6, 2) := by decide +kernel
theorem dX5_city_125 : decode cX5_city 125 = .ok (.iaload, 1) := by decide +kernel
theorem dX5_city_126 : decode cX5_city 126 = .ok (.iastore, 1) := by decide +kernel
theorem dX5_city_127 : decode cX5_city 127 = .ok (.aload_n 0, 1) := by decide +kernel
theorem dX5_city_128 : decode cX5_city 128 = .ok (.getfield 16, 3) := by decide +kernel
theorem dX5_city_131 : decode cX5_city 131 = .ok (.iload 6, 2) := by decide +kernel
theorem dX5_city_133 : decode cX5_city 133 = .ok (.aload_n 0, 1) := by decide +kernel
theorem dX5_city_134 : decode cX5_city 134 = .ok (.getfield 25, 3) := by decide +kernel
theorem dX5_city_137 : decode cX5_city 137 = .ok (.iload 6, 2) := by decide +kernel
theorem dX5_city_139 : decode cX5_city 139 = .ok (.iaload, 1) := by decide +kernel
theorem dX5_city_140 : decode cX5_city 140 = .ok (.iastore, 1) := by decide +kernel
theorem dX5_city_141 : decode cX5_city 141 = .ok (.iinc 6 1, 3) := by decide +kernel
theorem dX5_city_144 : decode cX5_city 144 = .ok (.goto (-54), 3) := by decide +kernel
theorem dX5_city_147 : decode cX5_city 147 = .ok (.aload_n 0, 1) := by decide +kernel
theorem dX5_city_148 : decode cX5_city 148 = .ok (.iconst 0, 1) := by decide +kernel
theorem dX5_city_149 : decode cX5_city 149 = .ok (.putfield 118, 3) := by decide +kernel
theorem dX5_city_152 : decode cX5_city 152 = .ok (.aload_n 0, 1) := by decide +kernel
theorem dX5_city_153 : decode cX5_city 153 = .ok (.aload_n 0, 1) := by decide +kernel
theorem dX5_city_154 : decode cX5_city 154 = .ok (.getfield 68, 3) := by decide +kernel
theorem dX5_city_157 : decode cX5_city 157 = .ok (.invokevirtual 106, 3) := by decide +kernel
theorem dX5_city_160 : decode cX5_city 160 = .ok (.ireturn, 1) := by decide +kernel
theorem dX5_worthTo_0 : decode cX5_worthTo 0 = .ok (.iload_n 2, 1) := by decide +kernel
theorem dX5_worthTo_1 : decode cX5_worthTo 1 = .ok (.iload_n 3, 1) := by decide +kernel
theorem dX5_worthTo_2 : decode cX5_worthTo 2 = .ok (.iadd, 1) := by decide +kernel
theorem dX5_worthTo_3 : decode cX5_worthTo 3 = .ok (.istore 4, 2) := by decide +kernel
theorem dX5_worthTo_5 : decode cX5_worthTo 5 = .ok (.aload_n 0, 1) := by decide +kernel
theorem dX5_worthTo_6 : decode cX5_worthTo 6 = .ok (.getfield 7, 3) := by decide +kernel
theorem dX5_worthTo_9 : decode cX5_worthTo 9 = .ok (.iload_n 1, 1) := by decide +kernel
theorem dX5_worthTo_10 : decode cX5_worthTo 10 = .ok (.iaload, 1) := by decide +kernel
theorem dX5_worthTo_11 : decode cX5_worthTo 11 = .ok (.ifCond .ne 8, 3) := by decide +kernel
theorem dX5_worthTo_14 : decode cX5_worthTo 14 = .ok (.iload 4, 2) := by decide +kernel
theorem dX5_worthTo_16 : decode cX5_worthTo 16 = .ok (.goto 26, 3) := by decide +kernel
theorem dX5_worthTo_19 : decode cX5_worthTo 19 = .ok (.aload_n 0, 1) := by decide +kernel
theorem dX5_worthTo_20 : decode cX5_worthTo 20 = .ok (.getfield 7, 3) := by decide +kernel
theorem dX5_worthTo_23 : decode cX5_worthTo 23 = .ok (.iload_n 1, 1) := by decide +kernel
theorem dX5_worthTo_24 : decode cX5_worthTo 24 = .ok (.iaload, 1) := by decide +kernel
theorem dX5_worthTo_25 : decode cX5_worthTo 25 = .ok (.iconst 1, 1) := by decide +kernel
theorem dX5_worthTo_26 : decode cX5_worthTo 26 = .ok (.if_icmp .ne 10, 3) := by decide +kernel
theorem dX5_worthTo_29 : decode cX5_worthTo 29 = .ok (.iload 4, 2) := by decide +kernel
theorem dX5_worthTo_31 : decode cX5_worthTo 31 = .ok (.iconst 5, 1) := by decide +kernel
theorem dX5_worthTo_32 : decode cX5_worthTo 32 = .ok (.iadd, 1) := by decide +kernel
theorem dX5_worthTo_33 : decode cX5_worthTo 33 = .ok (.goto 9, 3) := by decide +kernel
theorem dX5_worthTo_36 : decode cX5_worthTo 36 = .ok (.iconst 2, 1) := by decide +kernel
theorem dX5_worthTo_37 : decode cX5_worthTo 37 = .ok (.iload 4, 2) := by decide +kernel
theorem dX5_worthTo_39 : decode cX5_worthTo 39 = .ok (.iconst 5, 1) := by decide +kernel
theorem dX5_worthTo_40 : decode cX5_worthTo 40 = .ok (.iadd, 1) := by decide +kernel
theorem dX5_worthTo_41 : decode cX5_worthTo 41 = .ok (.imul, 1) := by decide +kernel
theorem dX5_worthTo_42 : decode cX5_worthTo 42 = .ok (.ireturn, 1) := by decide +kernel
set_option maxRecDepth 20000 in
theorem ggX5_worthOf_X5_worthTo : GoodIn wsX5_worthOf wsX5_worthTo := goodIn_r _ [7, 8, 9, 10, 11, 12, 13, 14, 15, 16, 17, 18, 19, 20, 21, 22, 23, 24, 25, 26, 27, 28, 29, 30, 31, 32, 33] (by decide +kernel) (by decide +kernel)
set_option maxRecDepth 20000 in
theorem gX5_worthOf_X5_worthTo : GoodIn wsX5_worthOf (wsV RX5 121 RX5 yX5_worthTo wsX5_worthTo) := goodIn_app (goodIn_of _ (by decide +kernel)) ggX5_worthOf_X5_worthTo
theorem dX5_worthOf_0 : decode cX5_worthOf 0 = .ok (.aload_n 0, 1) := by decide +kernel
theorem dX5_worthOf_1 : decode cX5_worthOf 1 = .ok (.iload_n 1, 1) := by decide +kernel
theorem dX5_worthOf_2 : decode cX5_worthOf 2 = .ok (.aload_n 0, 1) := by decide +kernel
theorem dX5_worthOf_3 : decode cX5_worthOf 3 = .ok (.getfield 13, 3) := by decide +kernel
theorem dX5_worthOf_6 : decode cX5_worthOf 6 = .ok (.iload_n 1, 1) := by decide +kernel
theorem dX5_worthOf_7 : decode cX5_worthOf 7 = .ok (.iaload, 1) := by decide +kernel
theorem dX5_worthOf_8 : decode cX5_worthOf 8 = .ok (.aload_n 0, 1) := by decide +kernel
theorem dX5_worthOf_9 : decode cX5_worthOf 9 = .ok (.getfield 16, 3) := by decide +kernel
theorem dX5_worthOf_12 : decode cX5_worthOf 12 = .ok (.iload_n 1, 1) := by decide +kernel
theorem dX5_worthOf_13 : decode cX5_worthOf 13 = .ok (.iaload, 1) := by decide +kernel
theorem dX5_worthOf_14 : decode cX5_worthOf 14 = .ok (.invokevirtual 121, 3) := by decide +kernel
theorem dX5_worthOf_17 : decode cX5_worthOf 17 = .ok (.ireturn, 1) := by decide +kernel
set_option maxRecDepth 20000 in
theorem ggX5_ofHouse_X5_noHouse : GoodIn wsX5_ofHouse wsX5_noHouse := goodIn_r _ [8, 9, 10, 11, 7, 12, 21, 22, 23, 24, 25, 26, 27, 28, 29, 30, 31, 32, 33, 34, 35, 36, 37, 38, 39, 40, 41, 42, 43, 44, 45] (by decide +kernel) (by decide +kernel)
set_option maxRecDepth 20000 in
theorem gX5_ofHouse_X5_noHouse : GoodIn wsX5_ofHouse (wsV RX5 125 RX5 yX5_noHouse wsX5_noHouse) := goodIn_app (goodIn_of _ (by decide +kernel)) ggX5_ofHouse_X5_noHouse
set_option maxRecDepth 20000 in
theorem ggX5_ofHouse_X5_worthOf : GoodIn wsX5_ofHouse wsX5_worthOf := goodIn_r _ [16, 2, 3, 17, 18, 19, 7, 20, 1, 21, 22, 23, 24, 25, 26, 27, 28, 29, 30, 31, 32, 33, 34, 35, 36, 37, 38, 39, 40, 41, 42, 43, 44, 45] (by decide +kernel) (by decide +kernel)
set_option maxRecDepth 20000 in
theorem gX5_ofHouse_X5_worthOf : GoodIn wsX5_ofHouse (wsV RX5 128 RX5 yX5_worthOf wsX5_worthOf) := goodIn_app (goodIn_of _ (by decide +kernel)) ggX5_ofHouse_X5_worthOf
theorem dX5_ofHouse_0 : decode cX5_ofHouse 0 = .ok (.aload_n 0, 1) := by decide +kernel
theorem dX5_ofHouse_1 : decode cX5_ofHouse 1 = .ok (.iload_n 1, 1) := by decide +kernel
theorem dX5_ofHouse_2 : decode cX5_ofHouse 2 = .ok (.invokevirtual 125, 3) := by decide +kernel
theorem dX5_ofHouse_5 : decode cX5_ofHouse 5 = .ok (.ifCond .eq 5, 3) := by decide +kernel
theorem dX5_ofHouse_8 : decode cX5_ofHouse 8 = .ok (.iconst (-1), 1) := by decide +kernel
theorem dX5_ofHouse_9 : decode cX5_ofHouse 9 = .ok (.ireturn, 1) := by decide +kernel
theorem dX5_ofHouse_10 : decode cX5_ofHouse 10 = .ok (.iload_n 2, 1) := by decide +kernel
theorem dX5_ofHouse_11 : decode cX5_ofHouse 11 = .ok (.tableswitch 56 0 3 #[29, 36, 43, 50], 29) := by decide +kernel
theorem dX5_ofHouse_40 : decode cX5_ofHouse 40 = .ok (.aload_n 0, 1) := by decide +kernel
theorem dX5_ofHouse_41 : decode cX5_ofHouse 41 = .ok (.getfield 7, 3) := by decide +kernel
theorem dX5_ofHouse_44 : decode cX5_ofHouse 44 = .ok (.iload_n 1, 1) := by decide +kernel
theorem dX5_ofHouse_45 : decode cX5_ofHouse 45 = .ok (.iaload, 1) := by decide +kernel
theorem dX5_ofHouse_46 : decode cX5_ofHouse 46 = .ok (.ireturn, 1) := by decide +kernel
theorem dX5_ofHouse_47 : decode cX5_ofHouse 47 = .ok (.aload_n 0, 1) := by decide +kernel
theorem dX5_ofHouse_48 : decode cX5_ofHouse 48 = .ok (.getfield 13, 3) := by decide +kernel
theorem dX5_ofHouse_51 : decode cX5_ofHouse 51 = .ok (.iload_n 1, 1) := by decide +kernel
theorem dX5_ofHouse_52 : decode cX5_ofHouse 52 = .ok (.iaload, 1) := by decide +kernel
theorem dX5_ofHouse_53 : decode cX5_ofHouse 53 = .ok (.ireturn, 1) := by decide +kernel
theorem dX5_ofHouse_54 : decode cX5_ofHouse 54 = .ok (.aload_n 0, 1) := by decide +kernel
theorem dX5_ofHouse_55 : decode cX5_ofHouse 55 = .ok (.getfield 16, 3) := by decide +kernel
theorem dX5_ofHouse_58 : decode cX5_ofHouse 58 = .ok (.iload_n 1, 1) := by decide +kernel
theorem dX5_ofHouse_59 : decode cX5_ofHouse 59 = .ok (.iaload, 1) := by decide +kernel
theorem dX5_ofHouse_60 : decode cX5_ofHouse 60 = .ok (.ireturn, 1) := by decide +kernel
theorem dX5_ofHouse_61 : decode cX5_ofHouse 61 = .ok (.aload_n 0, 1) := by decide +kernel
theorem dX5_ofHouse_62 : decode cX5_ofHouse 62 = .ok (.iload_n 1, 1) := by decide +kernel
theorem dX5_ofHouse_63 : decode cX5_ofHouse 63 = .ok (.invokevirtual 128, 3) := by decide +kernel
theorem dX5_ofHouse_66 : decode cX5_ofHouse 66 = .ok (.ireturn, 1) := by decide +kernel
theorem dX5_ofHouse_67 : decode cX5_ofHouse 67 = .ok (.bipush (-2), 2) := by decide +kernel
theorem dX5_ofHouse_69 : decode cX5_ofHouse 69 = .ok (.ireturn, 1) := by decide +kernel
set_option maxRecDepth 20000 in
theorem ggX5_endow_X5_noHouse : GoodIn wsX5_endow wsX5_noHouse := goodIn_r _ [9, 10, 11, 12, 8, 13, 14, 15, 16, 17, 18, 19, 20, 21, 22, 23, 24, 25, 26, 27, 28, 29, 30, 31, 32, 33, 34, 35, 36, 37, 38] (by decide +kernel) (by decide +kernel)
set_option maxRecDepth 20000 in
theorem gX5_endow_X5_noHouse : GoodIn wsX5_endow (wsV RX5 125 RX5 yX5_noHouse wsX5_noHouse) := goodIn_app (goodIn_of _ (by decide +kernel)) ggX5_endow_X5_noHouse
set_option maxRecDepth 20000 in
theorem ggX5_endow_X5_in : GoodIn wsX5_endow wsX5_in := goodIn_r _ [13] (by decide +kernel) (by decide +kernel)
set_option maxRecDepth 20000 in
theorem gX5_endow_X5_in : GoodIn wsX5_endow (va_wsS RX5 71 yX5_in wsX5_in) := goodIn_app (goodIn_of _ (by decide +kernel)) ggX5_endow_X5_in
theorem dX5_endow_0 : decode cX5_endow 0 = .ok (.aload_n 0, 1) := by decide +kernel
theorem dX5_endow_1 : decode cX5_endow 1 = .ok (.iload_n 1, 1) := by decide +kernel
theorem dX5_endow_2 : decode cX5_endow 2 = .ok (.invokevirtual 125, 3) := by decide +kernel
theorem dX5_endow_5 : decode cX5_endow 5 = .ok (.ifCond .eq 5, 3) := by decide +kernel
theorem dX5_endow_8 : decode cX5_endow 8 = .ok (.iconst (-1), 1) := by decide +kernel
theorem dX5_endow_9 : decode cX5_endow 9 = .ok (.ireturn, 1) := by decide +kernel
theorem dX5_endow_10 : decode cX5_endow 10 = .ok (.iload_n 2, 1) := by decide +kernel
theorem dX5_endow_11 : decode cX5_endow 11 = .ok (.i2l, 1) := by decide +kernel
theorem dX5_endow_12 : decode cX5_endow 12 = .ok (.lconst 1, 1) := by decide +kernel
theorem dX5_endow_13 : decode cX5_endow 13 = .ok (.ldc2_w 109, 3) := by decide +kernel
theorem dX5_endow_16 : decode cX5_endow 16 = .ok (.invokestatic 71, 3) := by decide +kernel
theorem dX5_endow_19 : decode cX5_endow 19 = .ok (.ifCond .eq 15, 3) := by decide +kernel
theorem dX5_endow_22 : decode cX5_endow 22 = .ok (.iload_n 3, 1) := by decide +kernel
theorem dX5_endow_23 : decode cX5_endow 23 = .ok (.i2l, 1) := by decide +kernel
theorem dX5_endow_24 : decode cX5_endow 24 = .ok (.lconst 0, 1) := by decide +kernel
theorem dX5_endow_25 : decode cX5_endow 25 = .ok (.ldc2_w 131, 3) := by decide +kernel
theorem dX5_endow_28 : decode cX5_endow 28 = .ok (.invokestatic 71, 3) := by decide +kernel
theorem dX5_endow_31 : decode cX5_endow 31 = .ok (.ifCond .ne 6, 3) := by decide +kernel
theorem dX5_endow_34 : decode cX5_endow 34 = .ok (.bipush (-2), 2) := by decide +kernel
theorem dX5_endow_36 : decode cX5_endow 36 = .ok (.ireturn, 1) := by decide +kernel
theorem dX5_endow_37 : decode cX5_endow 37 = .ok (.iload_n 2, 1) := by decide +kernel
theorem dX5_endow_38 : decode cX5_endow 38 = .ok (.iconst 1, 1) := by decide +kernel
theorem dX5_endow_39 : decode cX5_endow 39 = .ok (.if_icmp .ne 12, 3) := by decide +kernel
theorem dX5_endow_42 : decode cX5_endow 42 = .ok (.aload_n 0, 1) := by decide +kernel
theorem dX5_endow_43 : decode cX5_endow 43 = .ok (.getfield 13, 3) := by decide +kernel
theorem dX5_endow_46 : decode cX5_endow 46 = .ok (.iload_n 1, 1) := by decide +kernel
theorem dX5_endow_47 : decode cX5_endow 47 = .ok (.iaload, 1) := by decide +kernel
theorem dX5_endow_48 : decode cX5_endow 48 = .ok (.goto 9, 3) := by decide +kernel
theorem dX5_endow_51 : decode cX5_endow 51 = .ok (.aload_n 0, 1) := by decide +kernel
theorem dX5_endow_52 : decode cX5_endow 52 = .ok (.getfield 16, 3) := by decide +kernel
theorem dX5_endow_55 : decode cX5_endow 55 = .ok (.iload_n 1, 1) := by decide +kernel
theorem dX5_endow_56 : decode cX5_endow 56 = .ok (.iaload, 1) := by decide +kernel
theorem dX5_endow_57 : decode cX5_endow 57 = .ok (.istore 4, 2) := by decide +kernel
theorem dX5_endow_59 : decode cX5_endow 59 = .ok (.aload_n 0, 1) := by decide +kernel
theorem dX5_endow_60 : decode cX5_endow 60 = .ok (.getfield 13, 3) := by decide +kernel
theorem dX5_endow_63 : decode cX5_endow 63 = .ok (.iload_n 1, 1) := by decide +kernel
theorem dX5_endow_64 : decode cX5_endow 64 = .ok (.iload_n 2, 1) := by decide +kernel
theorem dX5_endow_65 : decode cX5_endow 65 = .ok (.iconst 1, 1) := by decide +kernel
theorem dX5_endow_66 : decode cX5_endow 66 = .ok (.if_icmp .ne 7, 3) := by decide +kernel
theorem dX5_endow_69 : decode cX5_endow 69 = .ok (.iload_n 3, 1) := by decide +kernel
theorem dX5_endow_70 : decode cX5_endow 70 = .ok (.goto 9, 3) := by decide +kernel
theorem dX5_endow_73 : decode cX5_endow 73 = .ok (.aload_n 0, 1) := by decide +kernel
theorem dX5_endow_74 : decode cX5_endow 74 = .ok (.getfield 13, 3) := by decide +kernel
theorem dX5_endow_77 : decode cX5_endow 77 = .ok (.iload_n 1, 1) := by decide +kernel
theorem dX5_endow_78 : decode cX5_endow 78 = .ok (.iaload, 1) := by decide +kernel
theorem dX5_endow_79 : decode cX5_endow 79 = .ok (.iastore, 1) := by decide +kernel
theorem dX5_endow_80 : decode cX5_endow 80 = .ok (.aload_n 0, 1) := by decide +kernel
theorem dX5_endow_81 : decode cX5_endow 81 = .ok (.getfield 16, 3) := by decide +kernel
theorem dX5_endow_84 : decode cX5_endow 84 = .ok (.iload_n 1, 1) := by decide +kernel
theorem dX5_endow_85 : decode cX5_endow 85 = .ok (.iload_n 2, 1) := by decide +kernel
theorem dX5_endow_86 : decode cX5_endow 86 = .ok (.iconst 2, 1) := by decide +kernel
theorem dX5_endow_87 : decode cX5_endow 87 = .ok (.if_icmp .ne 7, 3) := by decide +kernel
theorem dX5_endow_90 : decode cX5_endow 90 = .ok (.iload_n 3, 1) := by decide +kernel
theorem dX5_endow_91 : decode cX5_endow 91 = .ok (.goto 9, 3) := by decide +kernel
theorem dX5_endow_94 : decode cX5_endow 94 = .ok (.aload_n 0, 1) := by decide +kernel
theorem dX5_endow_95 : decode cX5_endow 95 = .ok (.getfield 16, 3) := by decide +kernel
theorem dX5_endow_98 : decode cX5_endow 98 = .ok (.iload_n 1, 1) := by decide +kernel
theorem dX5_endow_99 : decode cX5_endow 99 = .ok (.iaload, 1) := by decide +kernel
theorem dX5_endow_100 : decode cX5_endow 100 = .ok (.iastore, 1) := by decide +kernel
theorem dX5_endow_101 : decode cX5_endow 101 = .ok (.iload 4, 2) := by decide +kernel
theorem dX5_endow_103 : decode cX5_endow 103 = .ok (.ireturn, 1) := by decide +kernel
set_option maxRecDepth 20000 in
theorem ggX5_hide_X5_noHouse : GoodIn wsX5_hide wsX5_noHouse := goodIn_r _ [7, 8, 9, 10, 6, 11, 12, 13, 14, 15, 16, 17, 18, 19, 20, 21, 22, 23, 24, 25, 26, 27, 28, 29, 30, 31, 32, 33, 34, 35, 36] (by decide +kernel) (by decide +kernel)
set_option maxRecDepth 20000 in
theorem gX5_hide_X5_noHouse : GoodIn wsX5_hide (wsV RX5 125 RX5 yX5_noHouse wsX5_noHouse) := goodIn_app (goodIn_of _ (by decide +kernel)) ggX5_hide_X5_noHouse
set_option maxRecDepth 20000 in
theorem ggX5_hide_X5_in : GoodIn wsX5_hide wsX5_in := goodIn_r _ [11] (by decide +kernel) (by decide +kernel)
set_option maxRecDepth 20000 in
theorem gX5_hide_X5_in : GoodIn wsX5_hide (va_wsS RX5 71 yX5_in wsX5_in) := goodIn_app (goodIn_of _ (by decide +kernel)) ggX5_hide_X5_in
theorem dX5_hide_0 : decode cX5_hide 0 = .ok (.aload_n 0, 1) := by decide +kernel
theorem dX5_hide_1 : decode cX5_hide 1 = .ok (.iload_n 1, 1) := by decide +kernel
theorem dX5_hide_2 : decode cX5_hide 2 = .ok (.invokevirtual 125, 3) := by decide +kernel
theorem dX5_hide_5 : decode cX5_hide 5 = .ok (.ifCond .eq 5, 3) := by decide +kernel
theorem dX5_hide_8 : decode cX5_hide 8 = .ok (.iconst (-1), 1) := by decide +kernel
theorem dX5_hide_9 : decode cX5_hide 9 = .ok (.ireturn, 1) := by decide +kernel
theorem dX5_hide_10 : decode cX5_hide 10 = .ok (.iload_n 2, 1) := by decide +kernel
theorem dX5_hide_11 : decode cX5_hide 11 = .ok (.i2l, 1) := by decide +kernel
theorem dX5_hide_12 : decode cX5_hide 12 = .ok (.lconst 0, 1) := by decide +kernel
theorem dX5_hide_13 : decode cX5_hide 13 = .ok (.aload_n 0, 1) := by decide +kernel
