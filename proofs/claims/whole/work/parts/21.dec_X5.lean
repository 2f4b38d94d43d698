set_option maxRecDepth 20000 in
theorem gX5_lose_X5_noSheet : GoodIn wsX5_lose (va_wsS RX5 102 yX5_noSheet wsX5_noSheet) := goodIn_app (goodIn_of _ (by decide +kernel)) ggX5_lose_X5_noSheet
theorem dX5_lose_0 : decode cX5_lose 0 = .ok (.iload_n 1, 1) := by decide +kernel
theorem dX5_lose_1 : decode cX5_lose 1 = .ok (.invokestatic 102, 3) := by decide +kernel
theorem dX5_lose_4 : decode cX5_lose 4 = .ok (.ifCond .eq 5, 3) := by decide +kernel
theorem dX5_lose_7 : decode cX5_lose 7 = .ok (.iconst (-1), 1) := by decide +kernel
theorem dX5_lose_8 : decode cX5_lose 8 = .ok (.ireturn, 1) := by decide +kernel
theorem dX5_lose_9 : decode cX5_lose 9 = .ok (.aload_n 0, 1) := by decide +kernel
theorem dX5_lose_10 : decode cX5_lose 10 = .ok (.getfield 46, 3) := by decide +kernel
theorem dX5_lose_13 : decode cX5_lose 13 = .ok (.iload_n 1, 1) := by decide +kernel
theorem dX5_lose_14 : decode cX5_lose 14 = .ok (.iaload, 1) := by decide +kernel
theorem dX5_lose_15 : decode cX5_lose 15 = .ok (.ifCond .ge 7, 3) := by decide +kernel
theorem dX5_lose_18 : decode cX5_lose 18 = .ok (.iconst 0, 1) := by decide +kernel
theorem dX5_lose_19 : decode cX5_lose 19 = .ok (.goto 4, 3) := by decide +kernel
theorem dX5_lose_22 : decode cX5_lose 22 = .ok (.iconst 1, 1) := by decide +kernel
theorem dX5_lose_23 : decode cX5_lose 23 = .ok (.istore_n 2, 1) := by decide +kernel
theorem dX5_lose_24 : decode cX5_lose 24 = .ok (.aload_n 0, 1) := by decide +kernel
theorem dX5_lose_25 : decode cX5_lose 25 = .ok (.getfield 46, 3) := by decide +kernel
theorem dX5_lose_28 : decode cX5_lose 28 = .ok (.iload_n 1, 1) := by decide +kernel
theorem dX5_lose_29 : decode cX5_lose 29 = .ok (.iconst (-1), 1) := by decide +kernel
theorem dX5_lose_30 : decode cX5_lose 30 = .ok (.iastore, 1) := by decide +kernel
theorem dX5_lose_31 : decode cX5_lose 31 = .ok (.iload_n 2, 1) := by decide +kernel
theorem dX5_lose_32 : decode cX5_lose 32 = .ok (.ireturn, 1) := by decide +kernel
set_option maxRecDepth 20000 in
theorem ggX5_noCell_X5_in : GoodIn wsX5_noCell wsX5_in := goodIn_r _ [5] (by decide +kernel) (by decide +kernel)
set_option maxRecDepth 20000 in
theorem gX5_noCell_X5_in : GoodIn wsX5_noCell (va_wsS RX5 71 yX5_in wsX5_in) := goodIn_app (goodIn_of _ (by decide +kernel)) ggX5_noCell_X5_in
theorem dX5_noCell_0 : decode cX5_noCell 0 = .ok (.aload_n 0, 1) := by decide +kernel
theorem dX5_noCell_1 : decode cX5_noCell 1 = .ok (.getfield 46, 3) := by decide +kernel
theorem dX5_noCell_4 : decode cX5_noCell 4 = .ok (.iload_n 1, 1) := by decide +kernel
theorem dX5_noCell_5 : decode cX5_noCell 5 = .ok (.iaload, 1) := by decide +kernel
theorem dX5_noCell_6 : decode cX5_noCell 6 = .ok (.ifCond .ge 7, 3) := by decide +kernel
theorem dX5_noCell_9 : decode cX5_noCell 9 = .ok (.iconst 1, 1) := by decide +kernel
theorem dX5_noCell_10 : decode cX5_noCell 10 = .ok (.goto 26, 3) := by decide +kernel
theorem dX5_noCell_13 : decode cX5_noCell 13 = .ok (.iload_n 2, 1) := by decide +kernel
theorem dX5_noCell_14 : decode cX5_noCell 14 = .ok (.i2l, 1) := by decide +kernel
theorem dX5_noCell_15 : decode cX5_noCell 15 = .ok (.lconst 0, 1) := by decide +kernel
theorem dX5_noCell_16 : decode cX5_noCell 16 = .ok (.aload_n 0, 1) := by decide +kernel
theorem dX5_noCell_17 : decode cX5_noCell 17 = .ok (.getfield 46, 3) := by decide +kernel
theorem dX5_noCell_20 : decode cX5_noCell 20 = .ok (.iload_n 1, 1) := by decide +kernel
theorem dX5_noCell_21 : decode cX5_noCell 21 = .ok (.iaload, 1) := by decide +kernel
theorem dX5_noCell_22 : decode cX5_noCell 22 = .ok (.i2l, 1) := by decide +kernel
theorem dX5_noCell_23 : decode cX5_noCell 23 = .ok (.lconst 1, 1) := by decide +kernel
theorem dX5_noCell_24 : decode cX5_noCell 24 = .ok (.lsub, 1) := by decide +kernel
theorem dX5_noCell_25 : decode cX5_noCell 25 = .ok (.invokestatic 71, 3) := by decide +kernel
theorem dX5_noCell_28 : decode cX5_noCell 28 = .ok (.ifCond .eq 7, 3) := by decide +kernel
theorem dX5_noCell_31 : decode cX5_noCell 31 = .ok (.iconst 0, 1) := by decide +kernel
theorem dX5_noCell_32 : decode cX5_noCell 32 = .ok (.goto 4, 3) := by decide +kernel
theorem dX5_noCell_35 : decode cX5_noCell 35 = .ok (.iconst 3, 1) := by decide +kernel
theorem dX5_noCell_36 : decode cX5_noCell 36 = .ok (.ireturn, 1) := by decide +kernel
set_option maxRecDepth 20000 in
theorem ggX5_put_X5_noSheet : GoodIn wsX5_put wsX5_noSheet := goodIn_r _ [6, 7, 8, 9, 5, 10] (by decide +kernel) (by decide +kernel)
set_option maxRecDepth 20000 in
theorem gX5_put_X5_noSheet : GoodIn wsX5_put (va_wsS RX5 102 yX5_noSheet wsX5_noSheet) := goodIn_app (goodIn_of _ (by decide +kernel)) ggX5_put_X5_noSheet
set_option maxRecDepth 20000 in
theorem ggX5_put_X5_refused : GoodIn wsX5_put wsX5_refused := goodIn_r _ [14, 15, 25, 26, 27, 28, 29, 30, 31, 32, 33, 34, 35, 36, 37, 38, 39, 40, 41, 42, 43, 44, 45, 46, 47, 48, 49] (by decide +kernel) (by decide +kernel)
set_option maxRecDepth 20000 in
theorem gX5_put_X5_refused : GoodIn wsX5_put (wsV RX5 106 RX5 yX5_refused wsX5_refused) := goodIn_app (goodIn_of _ (by decide +kernel)) ggX5_put_X5_refused
set_option maxRecDepth 20000 in
theorem ggX5_put_X5_noCell : GoodIn wsX5_put wsX5_noCell := goodIn_r _ [19, 20, 8, 9, 5, 10, 25, 26, 27, 28, 29, 30, 31, 32, 33, 34, 35, 36, 37, 38, 39, 40, 41, 42, 43, 44, 45, 46, 47, 48, 49] (by decide +kernel) (by decide +kernel)
set_option maxRecDepth 20000 in
theorem gX5_put_X5_noCell : GoodIn wsX5_put (wsV RX5 221 RX5 yX5_noCell wsX5_noCell) := goodIn_app (goodIn_of _ (by decide +kernel)) ggX5_put_X5_noCell
set_option maxRecDepth 20000 in
theorem ggX5_put_X5_failed : GoodIn wsX5_put wsX5_failed := goodIn_r _ [24, 15, 25, 26, 27, 28, 29, 30, 31, 32, 33, 34, 35, 36, 37, 38, 39, 40, 41, 42, 43, 44, 45, 46, 47, 48, 49] (by decide +kernel) (by decide +kernel)
set_option maxRecDepth 20000 in
theorem gX5_put_X5_failed : GoodIn wsX5_put (wsV RX5 94 RX5 yX5_failed wsX5_failed) := goodIn_app (goodIn_of _ (by decide +kernel)) ggX5_put_X5_failed
theorem dX5_put_0 : decode cX5_put 0 = .ok (.iload_n 1, 1) := by decide +kernel
theorem dX5_put_1 : decode cX5_put 1 = .ok (.invokestatic 102, 3) := by decide +kernel
theorem dX5_put_4 : decode cX5_put 4 = .ok (.ifCond .eq 9, 3) := by decide +kernel
theorem dX5_put_7 : decode cX5_put 7 = .ok (.aload_n 0, 1) := by decide +kernel
theorem dX5_put_8 : decode cX5_put 8 = .ok (.iconst (-1), 1) := by decide +kernel
theorem dX5_put_9 : decode cX5_put 9 = .ok (.invokevirtual 106, 3) := by decide +kernel
theorem dX5_put_12 : decode cX5_put 12 = .ok (.ireturn, 1) := by decide +kernel
theorem dX5_put_13 : decode cX5_put 13 = .ok (.aload_n 0, 1) := by decide +kernel
theorem dX5_put_14 : decode cX5_put 14 = .ok (.iload_n 1, 1) := by decide +kernel
theorem dX5_put_15 : decode cX5_put 15 = .ok (.iload_n 2, 1) := by decide +kernel
theorem dX5_put_16 : decode cX5_put 16 = .ok (.invokevirtual 221, 3) := by decide +kernel
theorem dX5_put_19 : decode cX5_put 19 = .ok (.ifCond .le 14, 3) := by decide +kernel
theorem dX5_put_22 : decode cX5_put 22 = .ok (.aload_n 0, 1) := by decide +kernel
theorem dX5_put_23 : decode cX5_put 23 = .ok (.aload_n 0, 1) := by decide +kernel
theorem dX5_put_24 : decode cX5_put 24 = .ok (.iload_n 1, 1) := by decide +kernel
theorem dX5_put_25 : decode cX5_put 25 = .ok (.iload_n 2, 1) := by decide +kernel
theorem dX5_put_26 : decode cX5_put 26 = .ok (.invokevirtual 221, 3) := by decide +kernel
theorem dX5_put_29 : decode cX5_put 29 = .ok (.invokevirtual 94, 3) := by decide +kernel
theorem dX5_put_32 : decode cX5_put 32 = .ok (.ireturn, 1) := by decide +kernel
theorem dX5_put_33 : decode cX5_put 33 = .ok (.aload_n 0, 1) := by decide +kernel
theorem dX5_put_34 : decode cX5_put 34 = .ok (.getfield 52, 3) := by decide +kernel
theorem dX5_put_37 : decode cX5_put 37 = .ok (.bipush 60, 2) := by decide +kernel
theorem dX5_put_39 : decode cX5_put 39 = .ok (.iload_n 1, 1) := by decide +kernel
theorem dX5_put_40 : decode cX5_put 40 = .ok (.imul, 1) := by decide +kernel
theorem dX5_put_41 : decode cX5_put 41 = .ok (.iload_n 2, 1) := by decide +kernel
theorem dX5_put_42 : decode cX5_put 42 = .ok (.iadd, 1) := by decide +kernel
theorem dX5_put_43 : decode cX5_put 43 = .ok (.aload_n 0, 1) := by decide +kernel
theorem dX5_put_44 : decode cX5_put 44 = .ok (.getfield 49, 3) := by decide +kernel
theorem dX5_put_47 : decode cX5_put 47 = .ok (.iload_n 1, 1) := by decide +kernel
theorem dX5_put_48 : decode cX5_put 48 = .ok (.iaload, 1) := by decide +kernel
theorem dX5_put_49 : decode cX5_put 49 = .ok (.ifCond .ne 8, 3) := by decide +kernel
theorem dX5_put_52 : decode cX5_put 52 = .ok (.iload_n 3, 1) := by decide +kernel
theorem dX5_put_53 : decode cX5_put 53 = .ok (.i2b, 1) := by decide +kernel
theorem dX5_put_54 : decode cX5_put 54 = .ok (.goto 19, 3) := by decide +kernel
theorem dX5_put_57 : decode cX5_put 57 = .ok (.aload_n 0, 1) := by decide +kernel
theorem dX5_put_58 : decode cX5_put 58 = .ok (.getfield 49, 3) := by decide +kernel
theorem dX5_put_61 : decode cX5_put 61 = .ok (.iload_n 1, 1) := by decide +kernel
theorem dX5_put_62 : decode cX5_put 62 = .ok (.iaload, 1) := by decide +kernel
theorem dX5_put_63 : decode cX5_put 63 = .ok (.iconst 1, 1) := by decide +kernel
theorem dX5_put_64 : decode cX5_put 64 = .ok (.if_icmp .ne 8, 3) := by decide +kernel
theorem dX5_put_67 : decode cX5_put 67 = .ok (.iload_n 3, 1) := by decide +kernel
theorem dX5_put_68 : decode cX5_put 68 = .ok (.i2s, 1) := by decide +kernel
theorem dX5_put_69 : decode cX5_put 69 = .ok (.goto 4, 3) := by decide +kernel
theorem dX5_put_72 : decode cX5_put 72 = .ok (.iload_n 3, 1) := by decide +kernel
theorem dX5_put_73 : decode cX5_put 73 = .ok (.iastore, 1) := by decide +kernel
theorem dX5_put_74 : decode cX5_put 74 = .ok (.aload_n 0, 1) := by decide +kernel
theorem dX5_put_75 : decode cX5_put 75 = .ok (.iconst 1, 1) := by decide +kernel
theorem dX5_put_76 : decode cX5_put 76 = .ok (.invokevirtual 106, 3) := by decide +kernel
theorem dX5_put_79 : decode cX5_put 79 = .ok (.ireturn, 1) := by decide +kernel
set_option maxRecDepth 20000 in
theorem ggX5_cell_X5_noSheet : GoodIn wsX5_cell wsX5_noSheet := goodIn_r _ [9, 10, 11, 12, 8, 13] (by decide +kernel) (by decide +kernel)
set_option maxRecDepth 20000 in
theorem gX5_cell_X5_noSheet : GoodIn wsX5_cell (va_wsS RX5 102 yX5_noSheet wsX5_noSheet) := goodIn_app (goodIn_of _ (by decide +kernel)) ggX5_cell_X5_noSheet
set_option maxRecDepth 20000 in
theorem ggX5_cell_X5_in : GoodIn wsX5_cell wsX5_in := goodIn_r _ [13] (by decide +kernel) (by decide +kernel)
set_option maxRecDepth 20000 in
theorem gX5_cell_X5_in : GoodIn wsX5_cell (va_wsS RX5 71 yX5_in wsX5_in) := goodIn_app (goodIn_of _ (by decide +kernel)) ggX5_cell_X5_in
set_option maxRecDepth 20000 in
theorem ggX5_cell_X5_lost : GoodIn wsX5_cell wsX5_lost := goodIn_r _ [16, 17] (by decide +kernel) (by decide +kernel)
set_option maxRecDepth 20000 in
theorem gX5_cell_X5_lost : GoodIn wsX5_cell (va_wsS RX5 64 yX5_lost wsX5_lost) := goodIn_app (goodIn_of _ (by decide +kernel)) ggX5_cell_X5_lost
set_option maxRecDepth 20000 in
theorem ggX5_cell_X5_failedLong : GoodIn wsX5_cell wsX5_failedLong := goodIn_r _ [21, 1, 14, 15, 8, 16, 17, 26, 27, 28, 29, 30, 31, 32, 33, 34, 35, 36, 37, 38, 39, 40, 41, 42, 43, 44, 45, 46, 47, 48, 49, 50] (by decide +kernel) (by decide +kernel)
set_option maxRecDepth 20000 in
theorem gX5_cell_X5_failedLong : GoodIn wsX5_cell (wsV RX5 224 RX5 yX5_failedLong wsX5_failedLong) := goodIn_app (goodIn_of _ (by decide +kernel)) ggX5_cell_X5_failedLong
set_option maxRecDepth 20000 in
theorem ggX5_cell_X5_noCell : GoodIn wsX5_cell wsX5_noCell := goodIn_r _ [25, 3, 11, 12, 8, 13, 26, 27, 28, 29, 30, 31, 32, 33, 34, 35, 36, 37, 38, 39, 40, 41, 42, 43, 44, 45, 46, 47, 48, 49, 50] (by decide +kernel) (by decide +kernel)
set_option maxRecDepth 20000 in
theorem gX5_cell_X5_noCell : GoodIn wsX5_cell (wsV RX5 221 RX5 yX5_noCell wsX5_noCell) := goodIn_app (goodIn_of _ (by decide +kernel)) ggX5_cell_X5_noCell
theorem dX5_cell_0 : decode cX5_cell 0 = .ok (.aload_n 0, 1) := by decide +kernel
theorem dX5_cell_1 : decode cX5_cell 1 = .ok (.iconst 0, 1) := by decide +kernel
theorem dX5_cell_2 : decode cX5_cell 2 = .ok (.putfield 60, 3) := by decide +kernel
theorem dX5_cell_5 : decode cX5_cell 5 = .ok (.iload_n 1, 1) := by decide +kernel
theorem dX5_cell_6 : decode cX5_cell 6 = .ok (.invokestatic 102, 3) := by decide +kernel
theorem dX5_cell_9 : decode cX5_cell 9 = .ok (.ifCond .ne 15, 3) := by decide +kernel
theorem dX5_cell_12 : decode cX5_cell 12 = .ok (.iload_n 3, 1) := by decide +kernel
theorem dX5_cell_13 : decode cX5_cell 13 = .ok (.i2l, 1) := by decide +kernel
theorem dX5_cell_14 : decode cX5_cell 14 = .ok (.lconst 0, 1) := by decide +kernel
theorem dX5_cell_15 : decode cX5_cell 15 = .ok (.ldc2_w 109, 3) := by decide +kernel
theorem dX5_cell_18 : decode cX5_cell 18 = .ok (.invokestatic 71, 3) := by decide +kernel
theorem dX5_cell_21 : decode cX5_cell 21 = .ok (.ifCond .ne 7, 3) := by decide +kernel
theorem dX5_cell_24 : decode cX5_cell 24 = .ok (.invokestatic 64, 3) := by decide +kernel
theorem dX5_cell_27 : decode cX5_cell 27 = .ok (.lreturn, 1) := by decide +kernel
theorem dX5_cell_28 : decode cX5_cell 28 = .ok (.aload_n 0, 1) := by decide +kernel
theorem dX5_cell_29 : decode cX5_cell 29 = .ok (.getfield 46, 3) := by decide +kernel
theorem dX5_cell_32 : decode cX5_cell 32 = .ok (.iload_n 1, 1) := by decide +kernel
theorem dX5_cell_33 : decode cX5_cell 33 = .ok (.iaload, 1) := by decide +kernel
theorem dX5_cell_34 : decode cX5_cell 34 = .ok (.ifCond .lt 19, 3) := by decide +kernel
theorem dX5_cell_37 : decode cX5_cell 37 = .ok (.aload_n 0, 1) := by decide +kernel
theorem dX5_cell_38 : decode cX5_cell 38 = .ok (.getfield 49, 3) := by decide +kernel
theorem dX5_cell_41 : decode cX5_cell 41 = .ok (.iload_n 1, 1) := by decide +kernel
theorem dX5_cell_42 : decode cX5_cell 42 = .ok (.iaload, 1) := by decide +kernel
theorem dX5_cell_43 : decode cX5_cell 43 = .ok (.iload_n 3, 1) := by decide +kernel
theorem dX5_cell_44 : decode cX5_cell 44 = .ok (.if_icmp .eq 9, 3) := by decide +kernel
theorem dX5_cell_47 : decode cX5_cell 47 = .ok (.aload_n 0, 1) := by decide +kernel
theorem dX5_cell_48 : decode cX5_cell 48 = .ok (.iconst 2, 1) := by decide +kernel
theorem dX5_cell_49 : decode cX5_cell 49 = .ok (.invokevirtual 224, 3) := by decide +kernel
theorem dX5_cell_52 : decode cX5_cell 52 = .ok (.lreturn, 1) := by decide +kernel
theorem dX5_cell_53 : decode cX5_cell 53 = .ok (.aload_n 0, 1) := by decide +kernel
theorem dX5_cell_54 : decode cX5_cell 54 = .ok (.iload_n 1, 1) := by decide +kernel
theorem dX5_cell_55 : decode cX5_cell 55 = .ok (.iload_n 2, 1) := by decide +kernel
theorem dX5_cell_56 : decode cX5_cell 56 = .ok (.invokevirtual 221, 3) := by decide +kernel
theorem dX5_cell_59 : decode cX5_cell 59 = .ok (.ifCond .le 16, 3) := by decide +kernel
theorem dX5_cell_62 : decode cX5_cell 62 = .ok (.aload_n 0, 1) := by decide +kernel
theorem dX5_cell_63 : decode cX5_cell 63 = .ok (.aload_n 0, 1) := by decide +kernel
theorem dX5_cell_64 : decode cX5_cell 64 = .ok (.iload_n 1, 1) := by decide +kernel
theorem dX5_cell_65 : decode cX5_cell 65 = .ok (.iload_n 2, 1) := by decide +kernel
theorem dX5_cell_66 : decode cX5_cell 66 = .ok (.invokevirtual 221, 3) := by decide +kernel
theorem dX5_cell_69 : decode cX5_cell 69 = .ok (.invokevirtual 224, 3) := by decide +kernel
theorem dX5_cell_72 : decode cX5_cell 72 = .ok (.goto 15, 3) := by decide +kernel
theorem dX5_cell_75 : decode cX5_cell 75 = .ok (.aload_n 0, 1) := by decide +kernel
theorem dX5_cell_76 : decode cX5_cell 76 = .ok (.getfield 52, 3) := by decide +kernel
theorem dX5_cell_79 : decode cX5_cell 79 = .ok (.bipush 60, 2) := by decide +kernel
theorem dX5_cell_81 : decode cX5_cell 81 = .ok (.iload_n 1, 1) := by decide +kernel
theorem dX5_cell_82 : decode cX5_cell 82 = .ok (.imul, 1) := by decide +kernel
theorem dX5_cell_83 : decode cX5_cell 83 = .ok (.iload_n 2, 1) := by decide +kernel
theorem dX5_cell_84 : decode cX5_cell 84 = .ok (.iadd, 1) := by decide +kernel
theorem dX5_cell_85 : decode cX5_cell 85 = .ok (.iaload, 1) := by decide +kernel
theorem dX5_cell_86 : decode cX5_cell 86 = .ok (.i2l, 1) := by decide +kernel
theorem dX5_cell_87 : decode cX5_cell 87 = .ok (.lreturn, 1) := by decide +kernel
theorem dX5_isBeyond_0 : decode cX5_isBeyond 0 = .ok (.iload_n 0, 1) := by decide +kernel
theorem dX5_isBeyond_1 : decode cX5_isBeyond 1 = .ok (.ifCond .lt 19, 3) := by decide +kernel
theorem dX5_isBeyond_4 : decode cX5_isBeyond 4 = .ok (.lload_n 1, 1) := by decide +kernel
theorem dX5_isBeyond_5 : decode cX5_isBeyond 5 = .ok (.lconst 0, 1) := by decide +kernel
theorem dX5_isBeyond_6 : decode cX5_isBeyond 6 = .ok (.lcmp, 1) := by decide +kernel
theorem dX5_isBeyond_7 : decode cX5_isBeyond 7 = .ok (.ifCond .lt 13, 3) := by decide +kernel
theorem dX5_isBeyond_10 : decode cX5_isBeyond 10 = .ok (.iload_n 0, 1) := by decide +kernel
theorem dX5_isBeyond_11 : decode cX5_isBeyond 11 = .ok (.i2l, 1) := by decide +kernel
theorem dX5_isBeyond_12 : decode cX5_isBeyond 12 = .ok (.lload_n 1, 1) := by decide +kernel
theorem dX5_isBeyond_13 : decode cX5_isBeyond 13 = .ok (.ladd, 1) := by decide +kernel
theorem dX5_isBeyond_14 : decode cX5_isBeyond 14 = .ok (.iload_n 3, 1) := by decide +kernel
theorem dX5_isBeyond_15 : decode cX5_isBeyond 15 = .ok (.i2l, 1) := by decide +kernel
theorem dX5_isBeyond_16 : decode cX5_isBeyond 16 = .ok (.lcmp, 1) := by decide +kernel
theorem dX5_isBeyond_17 : decode cX5_isBeyond 17 = .ok (.ifCond .le 7, 3) := by decide +kernel
theorem dX5_isBeyond_20 : decode cX5_isBeyond 20 = .ok (.iconst 1, 1) := by decide +kernel
theorem dX5_isBeyond_21 : decode cX5_isBeyond 21 = .ok (.goto 4, 3) := by decide +kernel
theorem dX5_isBeyond_24 : decode cX5_isBeyond 24 = .ok (.iconst 0, 1) := by decide +kernel
theorem dX5_isBeyond_25 : decode cX5_isBeyond 25 = .ok (.ireturn, 1) := by decide +kernel
set_option maxRecDepth 20000 in
theorem ggX5_copy_X5_noSheet : GoodIn wsX5_copy wsX5_noSheet := goodIn_r _ [8, 9, 10, 11, 7, 12] (by decide +kernel) (by decide +kernel)
set_option maxRecDepth 20000 in
theorem gX5_copy_X5_noSheet : GoodIn wsX5_copy (va_wsS RX5 102 yX5_noSheet wsX5_noSheet) := goodIn_app (goodIn_of _ (by decide +kernel)) ggX5_copy_X5_noSheet
set_option maxRecDepth 20000 in
theorem ggX5_copy_X5_refused : GoodIn wsX5_copy wsX5_refused := goodIn_r _ [16, 17, 25, 26, 27, 28, 29, 30, 31, 32, 33, 34, 35, 36, 37, 38, 39, 40, 41, 42, 43, 44, 45, 46, 47, 48, 49] (by decide +kernel) (by decide +kernel)
set_option maxRecDepth 20000 in
theorem gX5_copy_X5_refused : GoodIn wsX5_copy (wsV RX5 106 RX5 yX5_refused wsX5_refused) := goodIn_app (goodIn_of _ (by decide +kernel)) ggX5_copy_X5_refused
set_option maxRecDepth 20000 in
theorem ggX5_copy_X5_failed : GoodIn wsX5_copy wsX5_failed := goodIn_r _ [21, 17, 25, 26, 27, 28, 29, 30, 31, 32, 33, 34, 35, 36, 37, 38, 39, 40, 41, 42, 43, 44, 45, 46, 47, 48, 49] (by decide +kernel) (by decide +kernel)
set_option maxRecDepth 20000 in
theorem gX5_copy_X5_failed : GoodIn wsX5_copy (wsV RX5 94 RX5 yX5_failed wsX5_failed) := goodIn_app (goodIn_of _ (by decide +kernel)) ggX5_copy_X5_failed
set_option maxRecDepth 20000 in
theorem ggX5_copy_X5_isBeyond : GoodIn wsX5_copy wsX5_isBeyond := goodIn_r _ [24] (by decide +kernel) (by decide +kernel)
set_option maxRecDepth 20000 in
theorem gX5_copy_X5_isBeyond : GoodIn wsX5_copy (va_wsS RX5 98 yX5_isBeyond wsX5_isBeyond) := goodIn_app (goodIn_of _ (by decide +kernel)) ggX5_copy_X5_isBeyond
theorem dX5_copy_0 : decode cX5_copy 0 = .ok (.iload_n 1, 1) := by decide +kernel
theorem dX5_copy_1 : decode cX5_copy 1 = .ok (.invokestatic 102, 3) := by decide +kernel
theorem dX5_copy_4 : decode cX5_copy 4 = .ok (.ifCond .ne 10, 3) := by decide +kernel
theorem dX5_copy_7 : decode cX5_copy 7 = .ok (.iload_n 3, 1) := by decide +kernel
theorem dX5_copy_8 : decode cX5_copy 8 = .ok (.invokestatic 102, 3) := by decide +kernel
theorem dX5_copy_11 : decode cX5_copy 11 = .ok (.ifCond .eq 9, 3) := by decide +kernel
theorem dX5_copy_14 : decode cX5_copy 14 = .ok (.aload_n 0, 1) := by decide +kernel
theorem dX5_copy_15 : decode cX5_copy 15 = .ok (.iconst (-1), 1) := by decide +kernel
theorem dX5_copy_16 : decode cX5_copy 16 = .ok (.invokevirtual 106, 3) := by decide +kernel
theorem dX5_copy_19 : decode cX5_copy 19 = .ok (.ireturn, 1) := by decide +kernel
theorem dX5_copy_20 : decode cX5_copy 20 = .ok (.aload_n 0, 1) := by decide +kernel
theorem dX5_copy_21 : decode cX5_copy 21 = .ok (.getfield 46, 3) := by decide +kernel
theorem dX5_copy_24 : decode cX5_copy 24 = .ok (.iload_n 1, 1) := by decide +kernel
theorem dX5_copy_25 : decode cX5_copy 25 = .ok (.iaload, 1) := by decide +kernel
theorem dX5_copy_26 : decode cX5_copy 26 = .ok (.ifCond .lt 12, 3) := by decide +kernel
theorem dX5_copy_29 : decode cX5_copy 29 = .ok (.aload_n 0, 1) := by decide +kernel
theorem dX5_copy_30 : decode cX5_copy 30 = .ok (.getfield 46, 3) := by decide +kernel
theorem dX5_copy_33 : decode cX5_copy 33 = .ok (.iload_n 3, 1) := by decide +kernel
theorem dX5_copy_34 : decode cX5_copy 34 = .ok (.iaload, 1) := by decide +kernel
theorem dX5_copy_35 : decode cX5_copy 35 = .ok (.ifCond .ge 9, 3) := by decide +kernel
theorem dX5_copy_38 : decode cX5_copy 38 = .ok (.aload_n 0, 1) := by decide +kernel
theorem dX5_copy_39 : decode cX5_copy 39 = .ok (.iconst 1, 1) := by decide +kernel
theorem dX5_copy_40 : decode cX5_copy 40 = .ok (.invokevirtual 94, 3) := by decide +kernel
theorem dX5_copy_43 : decode cX5_copy 43 = .ok (.ireturn, 1) := by decide +kernel
theorem dX5_copy_44 : decode cX5_copy 44 = .ok (.aload_n 0, 1) := by decide +kernel
theorem dX5_copy_45 : decode cX5_copy 45 = .ok (.getfield 49, 3) := by decide +kernel
theorem dX5_copy_48 : decode cX5_copy 48 = .ok (.iload_n 1, 1) := by decide +kernel
theorem dX5_copy_49 : decode cX5_copy 49 = .ok (.iaload, 1) := by decide +kernel
theorem dX5_copy_50 : decode cX5_copy 50 = .ok (.aload_n 0, 1) := by decide +kernel
theorem dX5_copy_51 : decode cX5_copy 51 = .ok (.getfield 49, 3) := by decide +kernel
theorem dX5_copy_54 : decode cX5_copy 54 = .ok (.iload_n 3, 1) := by decide +kernel
theorem dX5_copy_55 : decode cX5_copy 55 = .ok (.iaload, 1) := by decide +kernel
theorem dX5_copy_56 : decode cX5_copy 56 = .ok (.if_icmp .eq 9, 3) := by decide +kernel
theorem dX5_copy_59 : decode cX5_copy 59 = .ok (.aload_n 0, 1) := by decide +kernel
theorem dX5_copy_60 : decode cX5_copy 60 = .ok (.iconst 2, 1) := by decide +kernel
theorem dX5_copy_61 : decode cX5_copy 61 = .ok (.invokevirtual 94, 3) := by decide +kernel
theorem dX5_copy_64 : decode cX5_copy 64 = .ok (.ireturn, 1) := by decide +kernel
theorem dX5_copy_65 : decode cX5_copy 65 = .ok (.iload_n 2, 1) := by decide +kernel
theorem dX5_copy_66 : decode cX5_copy 66 = .ok (.iload 5, 2) := by decide +kernel
theorem dX5_copy_68 : decode cX5_copy 68 = .ok (.i2l, 1) := by decide +kernel
theorem dX5_copy_69 : decode cX5_copy 69 = .ok (.aload_n 0, 1) := by decide +kernel
theorem dX5_copy_70 : decode cX5_copy 70 = .ok (.getfield 46, 3) := by decide +kernel
theorem dX5_copy_73 : decode cX5_copy 73 = .ok (.iload_n 1, 1) := by decide +kernel
theorem dX5_copy_74 : decode cX5_copy 74 = .ok (.iaload, 1) := by decide +kernel
theorem dX5_copy_75 : decode cX5_copy 75 = .ok (.invokestatic 98, 3) := by decide +kernel
theorem dX5_copy_78 : decode cX5_copy 78 = .ok (.ifCond .ne 20, 3) := by decide +kernel
theorem dX5_copy_81 : decode cX5_copy 81 = .ok (.iload 4, 2) := by decide +kernel
theorem dX5_copy_83 : decode cX5_copy 83 = .ok (.iload 5, 2) := by decide +kernel
theorem dX5_copy_85 : decode cX5_copy 85 = .ok (.i2l, 1) := by decide +kernel
theorem dX5_copy_86 : decode cX5_copy 86 = .ok (.aload_n 0, 1) := by decide +kernel
theorem dX5_copy_87 : decode cX5_copy 87 = .ok (.getfield 46, 3) := by decide +kernel
theorem dX5_copy_90 : decode cX5_copy 90 = .ok (.iload_n 3, 1) := by decide +kernel
theorem dX5_copy_91 : decode cX5_copy 91 = .ok (.iaload, 1) := by decide +kernel
theorem dX5_copy_92 : decode cX5_copy 92 = .ok (.invokestatic 98, 3) := by decide +kernel
theorem dX5_copy_95 : decode cX5_copy 95 = .ok (.ifCond .eq 9, 3) := by decide +kernel
theorem dX5_copy_98 : decode cX5_copy 98 = .ok (.aload_n 0, 1) := by decide +kernel
theorem dX5_copy_99 : decode cX5_copy 99 = .ok (.iconst 3, 1) := by decide +kernel
theorem dX5_copy_100 : decode cX5_copy 100 = .ok (.invokevirtual 94, 3) := by decide +kernel
theorem dX5_copy_103 : decode cX5_copy 103 = .ok (.ireturn, 1) := by decide +kernel
theorem dX5_copy_104 : decode cX5_copy 104 = .ok (.iconst 0, 1) := by decide +kernel
theorem dX5_copy_105 : decode cX5_copy 105 = .ok (.istore 6, 2) := by decide +kernel
theorem dX5_copy_107 : decode cX5_copy 107 = .ok (.iload 6, 2) := by decide +kernel
theorem dX5_copy_109 : decode cX5_copy 109 = .ok (.iload 5, 2) := by decide +kernel
theorem dX5_copy_111 : decode cX5_copy 111 = .ok (.if_icmp .ge 30, 3) := by decide +kernel
theorem dX5_copy_114 : decode cX5_copy 114 = .ok (.aload_n 0, 1) := by decide +kernel
theorem dX5_copy_115 : decode cX5_copy 115 = .ok (.getfield 55, 3) := by decide +kernel
theorem dX5_copy_118 : decode cX5_copy 118 = .ok (.iload 6, 2) := by decide +kernel
theorem dX5_copy_120 : decode cX5_copy 120 = .ok (.aload_n 0, 1) := by decide +kernel
theorem dX5_copy_121 : decode cX5_copy 121 = .ok (.getfield 52, 3) := by decide +kernel
theorem dX5_copy_124 : decode cX5_copy 124 = .ok (.bipush 60, 2) := by decide +kernel
theorem dX5_copy_126 : decode cX5_copy 126 = .ok (.iload_n 1, 1) := by decide +kernel
theorem dX5_copy_127 : decode cX5_copy 127 = .ok (.imul, 1) := by decide +kernel
theorem dX5_copy_128 : decode cX5_copy 128 = .ok (.iload_n 2, 1) := by decide +kernel
theorem dX5_copy_129 : decode cX5_copy 129 = .ok (.iadd, 1) := by decide +kernel
theorem dX5_copy_130 : decode cX5_copy 130 = .ok (.iload 6, 2) := by decide +kernel
theorem dX5_copy_132 : decode cX5_copy 132 = .ok (.iadd, 1) := by decide +kernel
theorem dX5_copy_133 : decode cX5_copy 133 = .ok (.iaload, 1) := by decide +kernel
theorem dX5_copy_134 : decode cX5_copy 134 = .ok (.iastore, 1) := by decide +kernel
theorem dX5_copy_135 : decode cX5_copy 135 = .ok (.iinc 6 1, 3) := by decide +kernel
theorem dX5_copy_138 : decode cX5_copy 138 = .ok (.goto (-31), 3) := by decide +kernel
theorem dX5_copy_141 : decode cX5_copy 141 = .ok (.iconst 0, 1) := by decide +kernel
theorem dX5_copy_142 : decode cX5_copy 142 = .ok (.istore 6, 2) := by decide +kernel
theorem dX5_copy_144 : decode cX5_copy 144 = .ok (.iload 6, 2) := by decide +kernel
theorem dX5_copy_146 : decode cX5_copy 146 = .ok (.iload 5, 2) := by decide +kernel
theorem dX5_copy_148 : decode cX5_copy 148 = .ok (.if_icmp .ge 31, 3) := by decide +kernel
theorem dX5_copy_151 : decode cX5_copy 151 = .ok (.aload_n 0, 1) := by decide +kernel
theorem dX5_copy_152 : decode cX5_copy 152 = .ok (.getfield 52, 3) := by decide +kernel
theorem dX5_copy_155 : decode cX5_copy 155 = .ok (.bipush 60, 2) := by decide +kernel
theorem dX5_copy_157 : decode cX5_copy 157 = .ok (.iload_n 3, 1) := by decide +kernel
theorem dX5_copy_158 : decode cX5_copy 158 = .ok (.imul, 1) := by decide +kernel
theorem dX5_copy_159 : decode cX5_copy 159 = .ok (.iload 4, 2) := by decide +kernel
theorem dX5_copy_161 : decode cX5_copy 161 = .ok (.iadd, 1) := by decide +kernel
theorem dX5_copy_162 : decode cX5_copy 162 = .ok (.iload 6, 2) := by decide +kernel
theorem dX5_copy_164 : decode cX5_copy 164 = .ok (.iadd, 1) := by decide +kernel
theorem dX5_copy_165 : decode cX5_copy 165 = .ok (.aload_n 0, 1) := by decide +kernel
theorem dX5_copy_166 : decode cX5_copy 166 = .ok (.getfield 55, 3) := by decide +kernel
theorem dX5_copy_169 : decode cX5_copy 169 = .ok (.iload 6, 2) := by decide +kernel
theorem dX5_copy_171 : decode cX5_copy 171 = .ok (.iaload, 1) := by decide +kernel
theorem dX5_copy_172 : decode cX5_copy 172 = .ok (.iastore, 1) := by decide +kernel
theorem dX5_copy_173 : decode cX5_copy 173 = .ok (.iinc 6 1, 3) := by decide +kernel
theorem dX5_copy_176 : decode cX5_copy 176 = .ok (.goto (-32), 3) := by decide +kernel
theorem dX5_copy_179 : decode cX5_copy 179 = .ok (.aload_n 0, 1) := by decide +kernel
theorem dX5_copy_180 : decode cX5_copy 180 = .ok (.iload 5, 2) := by decide +kernel
theorem dX5_copy_182 : decode cX5_copy 182 = .ok (.invokevirtual 106, 3) := by decide +kernel
theorem dX5_copy_185 : decode cX5_copy 185 = .ok (.ireturn, 1) := by decide +kernel
theorem dX5_traced_0 : decode cX5_traced 0 = .ok (.aload_n 0, 1) := by decide +kernel
theorem dX5_traced_1 : decode cX5_traced 1 = .ok (.bipush 31, 2) := by decide +kernel
theorem dX5_traced_3 : decode cX5_traced 3 = .ok (.aload_n 0, 1) := by decide +kernel
theorem dX5_traced_4 : decode cX5_traced 4 = .ok (.getfield 228, 3) := by decide +kernel
theorem dX5_traced_7 : decode cX5_traced 7 = .ok (.imul, 1) := by decide +kernel
theorem dX5_traced_8 : decode cX5_traced 8 = .ok (.iload_n 1, 1) := by decide +kernel
theorem dX5_traced_9 : decode cX5_traced 9 = .ok (.iadd, 1) := by decide +kernel
theorem dX5_traced_10 : decode cX5_traced 10 = .ok (.putfield 228, 3) := by decide +kernel
theorem dX5_traced_13 : decode cX5_traced 13 = .ok (.return_, 1) := by decide +kernel
set_option maxRecDepth 20000 in
theorem ggX5_tell_X5_noHouse : GoodIn wsX5_tell wsX5_noHouse := goodIn_r _ [7, 8, 9, 10, 6, 11, 17, 18, 19, 20, 21, 22, 23, 24, 25, 26, 27, 28, 29, 30, 31, 32, 33, 34, 35, 36, 37, 38, 39, 40, 41] (by decide +kernel) (by decide +kernel)
set_option maxRecDepth 20000 in
theorem gX5_tell_X5_noHouse : GoodIn wsX5_tell (wsV RX5 125 RX5 yX5_noHouse wsX5_noHouse) := goodIn_app (goodIn_of _ (by decide +kernel)) ggX5_tell_X5_noHouse
set_option maxRecDepth 20000 in
theorem ggX5_tell_X5_traced : GoodIn wsX5_tell wsX5_traced := goodIn_r _ [15, 16, 17, 18, 19, 20, 21, 22, 23, 24, 25, 26, 27, 28, 29, 30, 31, 32, 33, 34, 35, 36, 37, 38, 39, 40, 41] (by decide +kernel) (by decide +kernel)
set_option maxRecDepth 20000 in
theorem gX5_tell_X5_traced : GoodIn wsX5_tell (wsV RX5 231 RX5 yX5_traced wsX5_traced) := goodIn_app (goodIn_of _ (by decide +kernel)) ggX5_tell_X5_traced
theorem dX5_tell_0 : decode cX5_tell 0 = .ok (.aload_n 0, 1) := by decide +kernel
theorem dX5_tell_1 : decode cX5_tell 1 = .ok (.iload_n 1, 1) := by decide +kernel
theorem dX5_tell_2 : decode cX5_tell 2 = .ok (.invokevirtual 125, 3) := by decide +kernel
theorem dX5_tell_5 : decode cX5_tell 5 = .ok (.ifCond .eq 5, 3) := by decide +kernel
theorem dX5_tell_8 : decode cX5_tell 8 = .ok (.iconst (-1), 1) := by decide +kernel
theorem dX5_tell_9 : decode cX5_tell 9 = .ok (.ireturn, 1) := by decide +kernel
theorem dX5_tell_10 : decode cX5_tell 10 = .ok (.aload_n 0, 1) := by decide +kernel
theorem dX5_tell_11 : decode cX5_tell 11 = .ok (.getfield 7, 3) := by decide +kernel
theorem dX5_tell_14 : decode cX5_tell 14 = .ok (.iload_n 1, 1) := by decide +kernel
theorem dX5_tell_15 : decode cX5_tell 15 = .ok (.iaload, 1) := by decide +kernel
theorem dX5_tell_16 : decode cX5_tell 16 = .ok (.istore_n 2, 1) := by decide +kernel
theorem dX5_tell_17 : decode cX5_tell 17 = .ok (.iload_n 2, 1) := by decide +kernel
theorem dX5_tell_18 : decode cX5_tell 18 = .ok (.iconst 2, 1) := by decide +kernel
theorem dX5_tell_19 : decode cX5_tell 19 = .ok (.if_icmp .ne 8, 3) := by decide +kernel
theorem dX5_tell_22 : decode cX5_tell 22 = .ok (.aload_n 0, 1) := by decide +kernel
theorem dX5_tell_23 : decode cX5_tell 23 = .ok (.iconst 3, 1) := by decide +kernel
theorem dX5_tell_24 : decode cX5_tell 24 = .ok (.invokevirtual 231, 3) := by decide +kernel
theorem dX5_tell_27 : decode cX5_tell 27 = .ok (.iload_n 2, 1) := by decide +kernel
theorem dX5_tell_28 : decode cX5_tell 28 = .ok (.ifCond .le 8, 3) := by decide +kernel
theorem dX5_tell_31 : decode cX5_tell 31 = .ok (.aload_n 0, 1) := by decide +kernel
theorem dX5_tell_32 : decode cX5_tell 32 = .ok (.iconst 2, 1) := by decide +kernel
