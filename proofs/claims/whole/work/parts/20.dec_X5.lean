theorem dX5_back_0 : decode cX5_back 0 = .ok (.iload_n 1, 1) := by decide +kernel
theorem dX5_back_1 : decode cX5_back 1 = .ok (.i2l, 1) := by decide +kernel
theorem dX5_back_2 : decode cX5_back 2 = .ok (.lconst 0, 1) := by decide +kernel
theorem dX5_back_3 : decode cX5_back 3 = .ok (.aload_n 0, 1) := by decide +kernel
theorem dX5_back_4 : decode cX5_back 4 = .ok (.getfield 118, 3) := by decide +kernel
theorem dX5_back_7 : decode cX5_back 7 = .ok (.i2l, 1) := by decide +kernel
theorem dX5_back_8 : decode cX5_back 8 = .ok (.invokestatic 71, 3) := by decide +kernel
theorem dX5_back_11 : decode cX5_back 11 = .ok (.ifCond .ne 6, 3) := by decide +kernel
theorem dX5_back_14 : decode cX5_back 14 = .ok (.bipush (-2), 2) := by decide +kernel
theorem dX5_back_16 : decode cX5_back 16 = .ok (.ireturn, 1) := by decide +kernel
theorem dX5_back_17 : decode cX5_back 17 = .ok (.aload_n 0, 1) := by decide +kernel
theorem dX5_back_18 : decode cX5_back 18 = .ok (.dup, 1) := by decide +kernel
theorem dX5_back_19 : decode cX5_back 19 = .ok (.getfield 118, 3) := by decide +kernel
theorem dX5_back_22 : decode cX5_back 22 = .ok (.iload_n 1, 1) := by decide +kernel
theorem dX5_back_23 : decode cX5_back 23 = .ok (.isub, 1) := by decide +kernel
theorem dX5_back_24 : decode cX5_back 24 = .ok (.putfield 118, 3) := by decide +kernel
theorem dX5_back_27 : decode cX5_back 27 = .ok (.aload_n 0, 1) := by decide +kernel
theorem dX5_back_28 : decode cX5_back 28 = .ok (.getfield 118, 3) := by decide +kernel
theorem dX5_back_31 : decode cX5_back 31 = .ok (.ireturn, 1) := by decide +kernel
set_option maxRecDepth 20000 in
theorem ggX5_areSo_X5_choiceOf : GoodIn wsX5_areSo wsX5_choiceOf := goodIn_r _ [9, 10, 11, 12, 13, 8, 14, 15, 16, 17, 18, 19, 20, 21, 22, 23, 24, 25, 26, 27, 28, 29, 30, 31, 32, 33, 34, 35, 36, 37, 38, 39, 40, 41, 42, 43, 44, 45, 46, 47, 48, 49, 50, 51, 52, 53, 54, 55, 56, 57, 58, 59, 60, 61, 62, 63, 64, 65, 66, 67, 68] (by decide +kernel) (by decide +kernel)
set_option maxRecDepth 20000 in
theorem gX5_areSo_X5_choiceOf : GoodIn wsX5_areSo (wsV RX5 162 RX5 yX5_choiceOf wsX5_choiceOf) := goodIn_app (goodIn_of _ (by decide +kernel)) ggX5_areSo_X5_choiceOf
theorem dX5_areSo_0 : decode cX5_areSo 0 = .ok (.iconst 1, 1) := by decide +kernel
theorem dX5_areSo_1 : decode cX5_areSo 1 = .ok (.istore_n 1, 1) := by decide +kernel
theorem dX5_areSo_2 : decode cX5_areSo 2 = .ok (.iconst 0, 1) := by decide +kernel
theorem dX5_areSo_3 : decode cX5_areSo 3 = .ok (.istore_n 2, 1) := by decide +kernel
theorem dX5_areSo_4 : decode cX5_areSo 4 = .ok (.iload_n 2, 1) := by decide +kernel
theorem dX5_areSo_5 : decode cX5_areSo 5 = .ok (.aload_n 0, 1) := by decide +kernel
theorem dX5_areSo_6 : decode cX5_areSo 6 = .ok (.getfield 118, 3) := by decide +kernel
theorem dX5_areSo_9 : decode cX5_areSo 9 = .ok (.if_icmp .ge 44, 3) := by decide +kernel
theorem dX5_areSo_12 : decode cX5_areSo 12 = .ok (.iload_n 1, 1) := by decide +kernel
theorem dX5_areSo_13 : decode cX5_areSo 13 = .ok (.ifCond .eq 32, 3) := by decide +kernel
theorem dX5_areSo_16 : decode cX5_areSo 16 = .ok (.aload_n 0, 1) := by decide +kernel
theorem dX5_areSo_17 : decode cX5_areSo 17 = .ok (.aload_n 0, 1) := by decide +kernel
theorem dX5_areSo_18 : decode cX5_areSo 18 = .ok (.getfield 37, 3) := by decide +kernel
theorem dX5_areSo_21 : decode cX5_areSo 21 = .ok (.iload_n 2, 1) := by decide +kernel
theorem dX5_areSo_22 : decode cX5_areSo 22 = .ok (.iaload, 1) := by decide +kernel
theorem dX5_areSo_23 : decode cX5_areSo 23 = .ok (.aload_n 0, 1) := by decide +kernel
theorem dX5_areSo_24 : decode cX5_areSo 24 = .ok (.getfield 40, 3) := by decide +kernel
theorem dX5_areSo_27 : decode cX5_areSo 27 = .ok (.iload_n 2, 1) := by decide +kernel
theorem dX5_areSo_28 : decode cX5_areSo 28 = .ok (.iaload, 1) := by decide +kernel
theorem dX5_areSo_29 : decode cX5_areSo 29 = .ok (.invokevirtual 162, 3) := by decide +kernel
theorem dX5_areSo_32 : decode cX5_areSo 32 = .ok (.aload_n 0, 1) := by decide +kernel
theorem dX5_areSo_33 : decode cX5_areSo 33 = .ok (.getfield 43, 3) := by decide +kernel
theorem dX5_areSo_36 : decode cX5_areSo 36 = .ok (.iload_n 2, 1) := by decide +kernel
theorem dX5_areSo_37 : decode cX5_areSo 37 = .ok (.iaload, 1) := by decide +kernel
theorem dX5_areSo_38 : decode cX5_areSo 38 = .ok (.if_icmp .ne 7, 3) := by decide +kernel
theorem dX5_areSo_41 : decode cX5_areSo 41 = .ok (.iconst 1, 1) := by decide +kernel
theorem dX5_areSo_42 : decode cX5_areSo 42 = .ok (.goto 4, 3) := by decide +kernel
theorem dX5_areSo_45 : decode cX5_areSo 45 = .ok (.iconst 0, 1) := by decide +kernel
theorem dX5_areSo_46 : decode cX5_areSo 46 = .ok (.istore_n 1, 1) := by decide +kernel
theorem dX5_areSo_47 : decode cX5_areSo 47 = .ok (.iinc 2 1, 3) := by decide +kernel
theorem dX5_areSo_50 : decode cX5_areSo 50 = .ok (.goto (-46), 3) := by decide +kernel
theorem dX5_areSo_53 : decode cX5_areSo 53 = .ok (.iload_n 1, 1) := by decide +kernel
theorem dX5_areSo_54 : decode cX5_areSo 54 = .ok (.ireturn, 1) := by decide +kernel
set_option maxRecDepth 20000 in
theorem ggX5_lands_X5_noHouse : GoodIn wsX5_lands wsX5_noHouse := goodIn_r _ [6, 7, 8, 9, 5, 10, 55, 56, 57, 58, 59, 60, 61, 62, 63, 64, 65, 66, 67, 68, 69, 70, 71, 72, 73, 74, 75, 76, 77, 78, 79] (by decide +kernel) (by decide +kernel)
set_option maxRecDepth 20000 in
theorem gX5_lands_X5_noHouse : GoodIn wsX5_lands (wsV RX5 125 RX5 yX5_noHouse wsX5_noHouse) := goodIn_app (goodIn_of _ (by decide +kernel)) ggX5_lands_X5_noHouse
set_option maxRecDepth 20000 in
theorem ggX5_lands_X5_areSo : GoodIn wsX5_lands wsX5_areSo := goodIn_r _ [14, 15, 16, 17, 18, 19, 20, 21, 5, 22, 7, 23, 24, 25, 26, 1, 27, 28, 29, 30, 31, 32, 33, 34, 35, 36, 37, 38, 39, 40, 41, 42, 43, 44, 45, 46, 47, 48, 49, 50, 51, 52, 53, 54, 55, 56, 57, 58, 59, 60, 61, 62, 63, 64, 65, 66, 67, 68, 69, 70, 71, 72, 73, 74, 75, 76, 77, 78, 79] (by decide +kernel) (by decide +kernel)
set_option maxRecDepth 20000 in
theorem gX5_lands_X5_areSo : GoodIn wsX5_lands (wsV RX5 213 RX5 yX5_areSo wsX5_areSo) := goodIn_app (goodIn_of _ (by decide +kernel)) ggX5_lands_X5_areSo
theorem dX5_lands_0 : decode cX5_lands 0 = .ok (.aload_n 0, 1) := by decide +kernel
theorem dX5_lands_1 : decode cX5_lands 1 = .ok (.iload_n 1, 1) := by decide +kernel
theorem dX5_lands_2 : decode cX5_lands 2 = .ok (.invokevirtual 125, 3) := by decide +kernel
theorem dX5_lands_5 : decode cX5_lands 5 = .ok (.ifCond .eq 5, 3) := by decide +kernel
theorem dX5_lands_8 : decode cX5_lands 8 = .ok (.iconst (-1), 1) := by decide +kernel
theorem dX5_lands_9 : decode cX5_lands 9 = .ok (.ireturn, 1) := by decide +kernel
theorem dX5_lands_10 : decode cX5_lands 10 = .ok (.aload_n 0, 1) := by decide +kernel
theorem dX5_lands_11 : decode cX5_lands 11 = .ok (.getfield 13, 3) := by decide +kernel
theorem dX5_lands_14 : decode cX5_lands 14 = .ok (.iload_n 1, 1) := by decide +kernel
theorem dX5_lands_15 : decode cX5_lands 15 = .ok (.iaload, 1) := by decide +kernel
theorem dX5_lands_16 : decode cX5_lands 16 = .ok (.istore_n 2, 1) := by decide +kernel
theorem dX5_lands_17 : decode cX5_lands 17 = .ok (.iconst 0, 1) := by decide +kernel
theorem dX5_lands_18 : decode cX5_lands 18 = .ok (.istore_n 3, 1) := by decide +kernel
theorem dX5_lands_19 : decode cX5_lands 19 = .ok (.iconst 0, 1) := by decide +kernel
theorem dX5_lands_20 : decode cX5_lands 20 = .ok (.istore 4, 2) := by decide +kernel
theorem dX5_lands_22 : decode cX5_lands 22 = .ok (.iload 4, 2) := by decide +kernel
theorem dX5_lands_24 : decode cX5_lands 24 = .ok (.bipush 10, 2) := by decide +kernel
theorem dX5_lands_26 : decode cX5_lands 26 = .ok (.if_icmp .ge 35, 3) := by decide +kernel
theorem dX5_lands_29 : decode cX5_lands 29 = .ok (.aload_n 0, 1) := by decide +kernel
theorem dX5_lands_30 : decode cX5_lands 30 = .ok (.getfield 13, 3) := by decide +kernel
theorem dX5_lands_33 : decode cX5_lands 33 = .ok (.iload_n 1, 1) := by decide +kernel
theorem dX5_lands_34 : decode cX5_lands 34 = .ok (.iload 4, 2) := by decide +kernel
theorem dX5_lands_36 : decode cX5_lands 36 = .ok (.iastore, 1) := by decide +kernel
theorem dX5_lands_37 : decode cX5_lands 37 = .ok (.iload_n 3, 1) := by decide +kernel
theorem dX5_lands_38 : decode cX5_lands 38 = .ok (.aload_n 0, 1) := by decide +kernel
theorem dX5_lands_39 : decode cX5_lands 39 = .ok (.invokevirtual 213, 3) := by decide +kernel
theorem dX5_lands_42 : decode cX5_lands 42 = .ok (.ifCond .eq 10, 3) := by decide +kernel
theorem dX5_lands_45 : decode cX5_lands 45 = .ok (.iconst 1, 1) := by decide +kernel
theorem dX5_lands_46 : decode cX5_lands 46 = .ok (.iload 4, 2) := by decide +kernel
theorem dX5_lands_48 : decode cX5_lands 48 = .ok (.ishl, 1) := by decide +kernel
theorem dX5_lands_49 : decode cX5_lands 49 = .ok (.goto 4, 3) := by decide +kernel
theorem dX5_lands_52 : decode cX5_lands 52 = .ok (.iconst 0, 1) := by decide +kernel
theorem dX5_lands_53 : decode cX5_lands 53 = .ok (.ior, 1) := by decide +kernel
theorem dX5_lands_54 : decode cX5_lands 54 = .ok (.istore_n 3, 1) := by decide +kernel
theorem dX5_lands_55 : decode cX5_lands 55 = .ok (.iinc 4 1, 3) := by decide +kernel
theorem dX5_lands_58 : decode cX5_lands 58 = .ok (.goto (-36), 3) := by decide +kernel
theorem dX5_lands_61 : decode cX5_lands 61 = .ok (.aload_n 0, 1) := by decide +kernel
theorem dX5_lands_62 : decode cX5_lands 62 = .ok (.getfield 13, 3) := by decide +kernel
theorem dX5_lands_65 : decode cX5_lands 65 = .ok (.iload_n 1, 1) := by decide +kernel
theorem dX5_lands_66 : decode cX5_lands 66 = .ok (.iload_n 2, 1) := by decide +kernel
theorem dX5_lands_67 : decode cX5_lands 67 = .ok (.iastore, 1) := by decide +kernel
theorem dX5_lands_68 : decode cX5_lands 68 = .ok (.iload_n 3, 1) := by decide +kernel
theorem dX5_lands_69 : decode cX5_lands 69 = .ok (.ireturn, 1) := by decide +kernel
set_option maxRecDepth 20000 in
theorem ggX5_coins_X5_noHouse : GoodIn wsX5_coins wsX5_noHouse := goodIn_r _ [6, 7, 8, 9, 5, 10, 55, 56, 57, 58, 59, 60, 61, 62, 63, 64, 65, 66, 67, 68, 69, 70, 71, 72, 73, 74, 75, 76, 77, 78, 79] (by decide +kernel) (by decide +kernel)
set_option maxRecDepth 20000 in
theorem gX5_coins_X5_noHouse : GoodIn wsX5_coins (wsV RX5 125 RX5 yX5_noHouse wsX5_noHouse) := goodIn_app (goodIn_of _ (by decide +kernel)) ggX5_coins_X5_noHouse
set_option maxRecDepth 20000 in
theorem ggX5_coins_X5_areSo : GoodIn wsX5_coins wsX5_areSo := goodIn_r _ [14, 15, 16, 17, 18, 19, 20, 21, 5, 22, 7, 23, 24, 25, 26, 27, 28, 29, 30, 31, 32, 33, 34, 35, 1, 36, 37, 38, 39, 40, 41, 42, 43, 44, 45, 46, 47, 48, 49, 50, 51, 52, 53, 54, 55, 56, 57, 58, 59, 60, 61, 62, 63, 64, 65, 66, 67, 68, 69, 70, 71, 72, 73, 74, 75, 76, 77, 78, 79] (by decide +kernel) (by decide +kernel)
set_option maxRecDepth 20000 in
theorem gX5_coins_X5_areSo : GoodIn wsX5_coins (wsV RX5 213 RX5 yX5_areSo wsX5_areSo) := goodIn_app (goodIn_of _ (by decide +kernel)) ggX5_coins_X5_areSo
theorem dX5_coins_0 : decode cX5_coins 0 = .ok (.aload_n 0, 1) := by decide +kernel
theorem dX5_coins_1 : decode cX5_coins 1 = .ok (.iload_n 1, 1) := by decide +kernel
theorem dX5_coins_2 : decode cX5_coins 2 = .ok (.invokevirtual 125, 3) := by decide +kernel
theorem dX5_coins_5 : decode cX5_coins 5 = .ok (.ifCond .eq 5, 3) := by decide +kernel
theorem dX5_coins_8 : decode cX5_coins 8 = .ok (.iconst (-1), 1) := by decide +kernel
theorem dX5_coins_9 : decode cX5_coins 9 = .ok (.ireturn, 1) := by decide +kernel
theorem dX5_coins_10 : decode cX5_coins 10 = .ok (.aload_n 0, 1) := by decide +kernel
theorem dX5_coins_11 : decode cX5_coins 11 = .ok (.getfield 16, 3) := by decide +kernel
theorem dX5_coins_14 : decode cX5_coins 14 = .ok (.iload_n 1, 1) := by decide +kernel
theorem dX5_coins_15 : decode cX5_coins 15 = .ok (.iaload, 1) := by decide +kernel
theorem dX5_coins_16 : decode cX5_coins 16 = .ok (.istore_n 2, 1) := by decide +kernel
theorem dX5_coins_17 : decode cX5_coins 17 = .ok (.iconst 0, 1) := by decide +kernel
theorem dX5_coins_18 : decode cX5_coins 18 = .ok (.istore_n 3, 1) := by decide +kernel
theorem dX5_coins_19 : decode cX5_coins 19 = .ok (.iconst 0, 1) := by decide +kernel
theorem dX5_coins_20 : decode cX5_coins 20 = .ok (.istore 4, 2) := by decide +kernel
theorem dX5_coins_22 : decode cX5_coins 22 = .ok (.iload 4, 2) := by decide +kernel
theorem dX5_coins_24 : decode cX5_coins 24 = .ok (.bipush 10, 2) := by decide +kernel
theorem dX5_coins_26 : decode cX5_coins 26 = .ok (.if_icmp .ge 35, 3) := by decide +kernel
theorem dX5_coins_29 : decode cX5_coins 29 = .ok (.aload_n 0, 1) := by decide +kernel
theorem dX5_coins_30 : decode cX5_coins 30 = .ok (.getfield 16, 3) := by decide +kernel
theorem dX5_coins_33 : decode cX5_coins 33 = .ok (.iload_n 1, 1) := by decide +kernel
theorem dX5_coins_34 : decode cX5_coins 34 = .ok (.iload 4, 2) := by decide +kernel
theorem dX5_coins_36 : decode cX5_coins 36 = .ok (.iastore, 1) := by decide +kernel
theorem dX5_coins_37 : decode cX5_coins 37 = .ok (.iload_n 3, 1) := by decide +kernel
theorem dX5_coins_38 : decode cX5_coins 38 = .ok (.aload_n 0, 1) := by decide +kernel
theorem dX5_coins_39 : decode cX5_coins 39 = .ok (.invokevirtual 213, 3) := by decide +kernel
theorem dX5_coins_42 : decode cX5_coins 42 = .ok (.ifCond .eq 10, 3) := by decide +kernel
theorem dX5_coins_45 : decode cX5_coins 45 = .ok (.iconst 1, 1) := by decide +kernel
theorem dX5_coins_46 : decode cX5_coins 46 = .ok (.iload 4, 2) := by decide +kernel
theorem dX5_coins_48 : decode cX5_coins 48 = .ok (.ishl, 1) := by decide +kernel
theorem dX5_coins_49 : decode cX5_coins 49 = .ok (.goto 4, 3) := by decide +kernel
theorem dX5_coins_52 : decode cX5_coins 52 = .ok (.iconst 0, 1) := by decide +kernel
theorem dX5_coins_53 : decode cX5_coins 53 = .ok (.ior, 1) := by decide +kernel
theorem dX5_coins_54 : decode cX5_coins 54 = .ok (.istore_n 3, 1) := by decide +kernel
theorem dX5_coins_55 : decode cX5_coins 55 = .ok (.iinc 4 1, 3) := by decide +kernel
theorem dX5_coins_58 : decode cX5_coins 58 = .ok (.goto (-36), 3) := by decide +kernel
theorem dX5_coins_61 : decode cX5_coins 61 = .ok (.aload_n 0, 1) := by decide +kernel
theorem dX5_coins_62 : decode cX5_coins 62 = .ok (.getfield 16, 3) := by decide +kernel
theorem dX5_coins_65 : decode cX5_coins 65 = .ok (.iload_n 1, 1) := by decide +kernel
theorem dX5_coins_66 : decode cX5_coins 66 = .ok (.iload_n 2, 1) := by decide +kernel
theorem dX5_coins_67 : decode cX5_coins 67 = .ok (.iastore, 1) := by decide +kernel
theorem dX5_coins_68 : decode cX5_coins 68 = .ok (.iload_n 3, 1) := by decide +kernel
theorem dX5_coins_69 : decode cX5_coins 69 = .ok (.ireturn, 1) := by decide +kernel
set_option maxRecDepth 20000 in
theorem ggX5_kinds_X5_noHouse : GoodIn wsX5_kinds wsX5_noHouse := goodIn_r _ [6, 7, 8, 9, 5, 10, 55, 56, 57, 58, 59, 60, 61, 62, 63, 64, 65, 66, 67, 68, 69, 70, 71, 72, 73, 74, 75, 76, 77, 78, 79] (by decide +kernel) (by decide +kernel)
set_option maxRecDepth 20000 in
theorem gX5_kinds_X5_noHouse : GoodIn wsX5_kinds (wsV RX5 125 RX5 yX5_noHouse wsX5_noHouse) := goodIn_app (goodIn_of _ (by decide +kernel)) ggX5_kinds_X5_noHouse
set_option maxRecDepth 20000 in
theorem ggX5_kinds_X5_areSo : GoodIn wsX5_kinds wsX5_areSo := goodIn_r _ [14, 15, 16, 17, 18, 19, 20, 21, 5, 22, 7, 23, 24, 25, 26, 27, 28, 29, 30, 31, 32, 33, 34, 35, 36, 37, 38, 39, 40, 41, 42, 43, 44, 45, 46, 1, 47, 48, 49, 50, 51, 52, 53, 54, 55, 56, 57, 58, 59, 60, 61, 62, 63, 64, 65, 66, 67, 68, 69, 70, 71, 72, 73, 74, 75, 76, 77, 78, 79] (by decide +kernel) (by decide +kernel)
set_option maxRecDepth 20000 in
theorem gX5_kinds_X5_areSo : GoodIn wsX5_kinds (wsV RX5 213 RX5 yX5_areSo wsX5_areSo) := goodIn_app (goodIn_of _ (by decide +kernel)) ggX5_kinds_X5_areSo
theorem dX5_kinds_0 : decode cX5_kinds 0 = .ok (.aload_n 0, 1) := by decide +kernel
theorem dX5_kinds_1 : decode cX5_kinds 1 = .ok (.iload_n 1, 1) := by decide +kernel
theorem dX5_kinds_2 : decode cX5_kinds 2 = .ok (.invokevirtual 125, 3) := by decide +kernel
theorem dX5_kinds_5 : decode cX5_kinds 5 = .ok (.ifCond .eq 5, 3) := by decide +kernel
theorem dX5_kinds_8 : decode cX5_kinds 8 = .ok (.iconst (-1), 1) := by decide +kernel
theorem dX5_kinds_9 : decode cX5_kinds 9 = .ok (.ireturn, 1) := by decide +kernel
theorem dX5_kinds_10 : decode cX5_kinds 10 = .ok (.aload_n 0, 1) := by decide +kernel
theorem dX5_kinds_11 : decode cX5_kinds 11 = .ok (.getfield 7, 3) := by decide +kernel
theorem dX5_kinds_14 : decode cX5_kinds 14 = .ok (.iload_n 1, 1) := by decide +kernel
theorem dX5_kinds_15 : decode cX5_kinds 15 = .ok (.iaload, 1) := by decide +kernel
theorem dX5_kinds_16 : decode cX5_kinds 16 = .ok (.istore_n 2, 1) := by decide +kernel
theorem dX5_kinds_17 : decode cX5_kinds 17 = .ok (.iconst 0, 1) := by decide +kernel
theorem dX5_kinds_18 : decode cX5_kinds 18 = .ok (.istore_n 3, 1) := by decide +kernel
theorem dX5_kinds_19 : decode cX5_kinds 19 = .ok (.iconst 0, 1) := by decide +kernel
theorem dX5_kinds_20 : decode cX5_kinds 20 = .ok (.istore 4, 2) := by decide +kernel
theorem dX5_kinds_22 : decode cX5_kinds 22 = .ok (.iload 4, 2) := by decide +kernel
theorem dX5_kinds_24 : decode cX5_kinds 24 = .ok (.iconst 3, 1) := by decide +kernel
theorem dX5_kinds_25 : decode cX5_kinds 25 = .ok (.if_icmp .ge 35, 3) := by decide +kernel
theorem dX5_kinds_28 : decode cX5_kinds 28 = .ok (.aload_n 0, 1) := by decide +kernel
theorem dX5_kinds_29 : decode cX5_kinds 29 = .ok (.getfield 7, 3) := by decide +kernel
theorem dX5_kinds_32 : decode cX5_kinds 32 = .ok (.iload_n 1, 1) := by decide +kernel
theorem dX5_kinds_33 : decode cX5_kinds 33 = .ok (.iload 4, 2) := by decide +kernel
theorem dX5_kinds_35 : decode cX5_kinds 35 = .ok (.iastore, 1) := by decide +kernel
theorem dX5_kinds_36 : decode cX5_kinds 36 = .ok (.iload_n 3, 1) := by decide +kernel
theorem dX5_kinds_37 : decode cX5_kinds 37 = .ok (.aload_n 0, 1) := by decide +kernel
theorem dX5_kinds_38 : decode cX5_kinds 38 = .ok (.invokevirtual 213, 3) := by decide +kernel
theorem dX5_kinds_41 : decode cX5_kinds 41 = .ok (.ifCond .eq 10, 3) := by decide +kernel
theorem dX5_kinds_44 : decode cX5_kinds 44 = .ok (.iconst 1, 1) := by decide +kernel
theorem dX5_kinds_45 : decode cX5_kinds 45 = .ok (.iload 4, 2) := by decide +kernel
theorem dX5_kinds_47 : decode cX5_kinds 47 = .ok (.ishl, 1) := by decide +kernel
theorem dX5_kinds_48 : decode cX5_kinds 48 = .ok (.goto 4, 3) := by decide +kernel
theorem dX5_kinds_51 : decode cX5_kinds 51 = .ok (.iconst 0, 1) := by decide +kernel
theorem dX5_kinds_52 : decode cX5_kinds 52 = .ok (.ior, 1) := by decide +kernel
theorem dX5_kinds_53 : decode cX5_kinds 53 = .ok (.istore_n 3, 1) := by decide +kernel
theorem dX5_kinds_54 : decode cX5_kinds 54 = .ok (.iinc 4 1, 3) := by decide +kernel
theorem dX5_kinds_57 : decode cX5_kinds 57 = .ok (.goto (-35), 3) := by decide +kernel
theorem dX5_kinds_60 : decode cX5_kinds 60 = .ok (.aload_n 0, 1) := by decide +kernel
theorem dX5_kinds_61 : decode cX5_kinds 61 = .ok (.getfield 7, 3) := by decide +kernel
theorem dX5_kinds_64 : decode cX5_kinds 64 = .ok (.iload_n 1, 1) := by decide +kernel
theorem dX5_kinds_65 : decode cX5_kinds 65 = .ok (.iload_n 2, 1) := by decide +kernel
theorem dX5_kinds_66 : decode cX5_kinds 66 = .ok (.iastore, 1) := by decide +kernel
theorem dX5_kinds_67 : decode cX5_kinds 67 = .ok (.iload_n 3, 1) := by decide +kernel
theorem dX5_kinds_68 : decode cX5_kinds 68 = .ok (.ireturn, 1) := by decide +kernel
set_option maxRecDepth 20000 in
theorem ggX5_odds_X5_noCost : GoodIn wsX5_odds wsX5_noCost := goodIn_r _ [5, 6, 7, 8, 4, 9] (by decide +kernel) (by decide +kernel)
set_option maxRecDepth 20000 in
theorem gX5_odds_X5_noCost : GoodIn wsX5_odds (va_wsS RX5 145 yX5_noCost wsX5_noCost) := goodIn_app (goodIn_of _ (by decide +kernel)) ggX5_odds_X5_noCost
set_option maxRecDepth 20000 in
theorem ggX5_odds_X5_in : GoodIn wsX5_odds wsX5_in := goodIn_r _ [9] (by decide +kernel) (by decide +kernel)
set_option maxRecDepth 20000 in
theorem gX5_odds_X5_in : GoodIn wsX5_odds (va_wsS RX5 71 yX5_in wsX5_in) := goodIn_app (goodIn_of _ (by decide +kernel)) ggX5_odds_X5_in
set_option maxRecDepth 20000 in
theorem ggX5_odds_X5_lost : GoodIn wsX5_odds wsX5_lost := goodIn_r _ [12, 13] (by decide +kernel) (by decide +kernel)
set_option maxRecDepth 20000 in
theorem gX5_odds_X5_lost : GoodIn wsX5_odds (va_wsS RX5 64 yX5_lost wsX5_lost) := goodIn_app (goodIn_of _ (by decide +kernel)) ggX5_odds_X5_lost
set_option maxRecDepth 20000 in
theorem ggX5_odds_X5_choiceOf : GoodIn wsX5_odds wsX5_choiceOf := goodIn_r _ [17, 1, 18, 19, 20, 4, 21, 22, 23, 24, 25, 26, 27, 28, 29, 30, 31, 32, 33, 34, 35, 36, 37, 38, 39, 40, 41, 42, 43, 44, 45, 46, 47, 48, 49, 50, 66, 67, 68, 69, 70, 71, 72, 73, 74, 75, 76, 77, 78, 79, 80, 81, 82, 83, 84, 85, 86, 87, 88, 89, 90] (by decide +kernel) (by decide +kernel)
set_option maxRecDepth 20000 in
theorem gX5_odds_X5_choiceOf : GoodIn wsX5_odds (wsV RX5 162 RX5 yX5_choiceOf wsX5_choiceOf) := goodIn_app (goodIn_of _ (by decide +kernel)) ggX5_odds_X5_choiceOf
set_option maxRecDepth 20000 in
theorem ggX5_odds_X5_isFair : GoodIn wsX5_odds wsX5_isFair := goodIn_r _ [54, 55, 56, 57, 4, 58, 43, 44, 45, 46, 22, 31, 38, 39, 40, 41, 42, 27, 28, 29, 30, 32, 33, 34, 35, 36, 37, 59, 60, 61, 62, 1, 47, 48, 49, 50, 66, 67, 68, 69, 70, 71, 72, 73, 74, 75, 76, 77, 78, 79, 80, 81, 82, 83, 84, 85, 86, 87, 88, 89, 90] (by decide +kernel) (by decide +kernel)
set_option maxRecDepth 20000 in
theorem gX5_odds_X5_isFair : GoodIn wsX5_odds (wsV RX5 165 RX5 yX5_isFair wsX5_isFair) := goodIn_app (goodIn_of _ (by decide +kernel)) ggX5_odds_X5_isFair
set_option maxRecDepth 20000 in
theorem ggX5_odds_X5_share : GoodIn wsX5_odds wsX5_share := goodIn_r _ [65] (by decide +kernel) (by decide +kernel)
set_option maxRecDepth 20000 in
theorem gX5_odds_X5_share : GoodIn wsX5_odds (va_wsS RX5 217 yX5_share wsX5_share) := goodIn_app (goodIn_of _ (by decide +kernel)) ggX5_odds_X5_share
theorem dX5_odds_0 : decode cX5_odds 0 = .ok (.aload_n 0, 1) := by decide +kernel
theorem dX5_odds_1 : decode cX5_odds 1 = .ok (.getfield 68, 3) := by decide +kernel
theorem dX5_odds_4 : decode cX5_odds 4 = .ok (.ifCond .eq 20, 3) := by decide +kernel
theorem dX5_odds_7 : decode cX5_odds 7 = .ok (.iload_n 1, 1) := by decide +kernel
theorem dX5_odds_8 : decode cX5_odds 8 = .ok (.invokestatic 145, 3) := by decide +kernel
theorem dX5_odds_11 : decode cX5_odds 11 = .ok (.ifCond .ne 13, 3) := by decide +kernel
theorem dX5_odds_14 : decode cX5_odds 14 = .ok (.iload_n 2, 1) := by decide +kernel
theorem dX5_odds_15 : decode cX5_odds 15 = .ok (.i2l, 1) := by decide +kernel
theorem dX5_odds_16 : decode cX5_odds 16 = .ok (.lconst 0, 1) := by decide +kernel
theorem dX5_odds_17 : decode cX5_odds 17 = .ok (.lconst 1, 1) := by decide +kernel
theorem dX5_odds_18 : decode cX5_odds 18 = .ok (.invokestatic 71, 3) := by decide +kernel
theorem dX5_odds_21 : decode cX5_odds 21 = .ok (.ifCond .ne 7, 3) := by decide +kernel
theorem dX5_odds_24 : decode cX5_odds 24 = .ok (.invokestatic 64, 3) := by decide +kernel
theorem dX5_odds_27 : decode cX5_odds 27 = .ok (.lreturn, 1) := by decide +kernel
theorem dX5_odds_28 : decode cX5_odds 28 = .ok (.lconst 0, 1) := by decide +kernel
theorem dX5_odds_29 : decode cX5_odds 29 = .ok (.lstore_n 3, 1) := by decide +kernel
theorem dX5_odds_30 : decode cX5_odds 30 = .ok (.iconst 0, 1) := by decide +kernel
theorem dX5_odds_31 : decode cX5_odds 31 = .ok (.istore 5, 2) := by decide +kernel
theorem dX5_odds_33 : decode cX5_odds 33 = .ok (.iload 5, 2) := by decide +kernel
theorem dX5_odds_35 : decode cX5_odds 35 = .ok (.aload_n 0, 1) := by decide +kernel
theorem dX5_odds_36 : decode cX5_odds 36 = .ok (.getfield 68, 3) := by decide +kernel
theorem dX5_odds_39 : decode cX5_odds 39 = .ok (.if_icmp .ge 34, 3) := by decide +kernel
theorem dX5_odds_42 : decode cX5_odds 42 = .ok (.lload_n 3, 1) := by decide +kernel
theorem dX5_odds_43 : decode cX5_odds 43 = .ok (.aload_n 0, 1) := by decide +kernel
theorem dX5_odds_44 : decode cX5_odds 44 = .ok (.iload 5, 2) := by decide +kernel
theorem dX5_odds_46 : decode cX5_odds 46 = .ok (.aload_n 0, 1) := by decide +kernel
theorem dX5_odds_47 : decode cX5_odds 47 = .ok (.iload 5, 2) := by decide +kernel
theorem dX5_odds_49 : decode cX5_odds 49 = .ok (.iload_n 1, 1) := by decide +kernel
theorem dX5_odds_50 : decode cX5_odds 50 = .ok (.invokevirtual 162, 3) := by decide +kernel
theorem dX5_odds_53 : decode cX5_odds 53 = .ok (.iload_n 1, 1) := by decide +kernel
theorem dX5_odds_54 : decode cX5_odds 54 = .ok (.invokevirtual 165, 3) := by decide +kernel
theorem dX5_odds_57 : decode cX5_odds 57 = .ok (.ifCond .eq 7, 3) := by decide +kernel
theorem dX5_odds_60 : decode cX5_odds 60 = .ok (.lconst 1, 1) := by decide +kernel
theorem dX5_odds_61 : decode cX5_odds 61 = .ok (.goto 4, 3) := by decide +kernel
theorem dX5_odds_64 : decode cX5_odds 64 = .ok (.lconst 0, 1) := by decide +kernel
theorem dX5_odds_65 : decode cX5_odds 65 = .ok (.ladd, 1) := by decide +kernel
theorem dX5_odds_66 : decode cX5_odds 66 = .ok (.lstore_n 3, 1) := by decide +kernel
theorem dX5_odds_67 : decode cX5_odds 67 = .ok (.iinc 5 1, 3) := by decide +kernel
theorem dX5_odds_70 : decode cX5_odds 70 = .ok (.goto (-37), 3) := by decide +kernel
theorem dX5_odds_73 : decode cX5_odds 73 = .ok (.lload_n 3, 1) := by decide +kernel
theorem dX5_odds_74 : decode cX5_odds 74 = .ok (.aload_n 0, 1) := by decide +kernel
theorem dX5_odds_75 : decode cX5_odds 75 = .ok (.getfield 68, 3) := by decide +kernel
theorem dX5_odds_78 : decode cX5_odds 78 = .ok (.i2l, 1) := by decide +kernel
theorem dX5_odds_79 : decode cX5_odds 79 = .ok (.iload_n 2, 1) := by decide +kernel
theorem dX5_odds_80 : decode cX5_odds 80 = .ok (.invokestatic 217, 3) := by decide +kernel
theorem dX5_odds_83 : decode cX5_odds 83 = .ok (.lreturn, 1) := by decide +kernel
set_option maxRecDepth 20000 in
theorem ggX5_noSheet_X5_in : GoodIn wsX5_noSheet wsX5_in := goodIn_r _ [5] (by decide +kernel) (by decide +kernel)
set_option maxRecDepth 20000 in
theorem gX5_noSheet_X5_in : GoodIn wsX5_noSheet (va_wsS RX5 71 yX5_in wsX5_in) := goodIn_app (goodIn_of _ (by decide +kernel)) ggX5_noSheet_X5_in
theorem dX5_noSheet_0 : decode cX5_noSheet 0 = .ok (.iload_n 0, 1) := by decide +kernel
theorem dX5_noSheet_1 : decode cX5_noSheet 1 = .ok (.i2l, 1) := by decide +kernel
theorem dX5_noSheet_2 : decode cX5_noSheet 2 = .ok (.lconst 0, 1) := by decide +kernel
theorem dX5_noSheet_3 : decode cX5_noSheet 3 = .ok (.ldc2_w 187, 3) := by decide +kernel
theorem dX5_noSheet_6 : decode cX5_noSheet 6 = .ok (.invokestatic 71, 3) := by decide +kernel
theorem dX5_noSheet_9 : decode cX5_noSheet 9 = .ok (.ifCond .ne 7, 3) := by decide +kernel
theorem dX5_noSheet_12 : decode cX5_noSheet 12 = .ok (.iconst 1, 1) := by decide +kernel
theorem dX5_noSheet_13 : decode cX5_noSheet 13 = .ok (.goto 4, 3) := by decide +kernel
theorem dX5_noSheet_16 : decode cX5_noSheet 16 = .ok (.iconst 0, 1) := by decide +kernel
theorem dX5_noSheet_17 : decode cX5_noSheet 17 = .ok (.ireturn, 1) := by decide +kernel
set_option maxRecDepth 20000 in
theorem ggX5_sheet_X5_noSheet : GoodIn wsX5_sheet wsX5_noSheet := goodIn_r _ [8, 9, 10, 11, 7, 12] (by decide +kernel) (by decide +kernel)
set_option maxRecDepth 20000 in
theorem gX5_sheet_X5_noSheet : GoodIn wsX5_sheet (va_wsS RX5 102 yX5_noSheet wsX5_noSheet) := goodIn_app (goodIn_of _ (by decide +kernel)) ggX5_sheet_X5_noSheet
set_option maxRecDepth 20000 in
theorem ggX5_sheet_X5_refused : GoodIn wsX5_sheet wsX5_refused := goodIn_r _ [16, 17, 22, 23, 24, 25, 26, 27, 28, 29, 30, 31, 32, 33, 34, 35, 36, 37, 38, 39, 40, 41, 42, 43, 44, 45, 46] (by decide +kernel) (by decide +kernel)
set_option maxRecDepth 20000 in
theorem gX5_sheet_X5_refused : GoodIn wsX5_sheet (wsV RX5 106 RX5 yX5_refused wsX5_refused) := goodIn_app (goodIn_of _ (by decide +kernel)) ggX5_sheet_X5_refused
set_option maxRecDepth 20000 in
theorem ggX5_sheet_X5_in : GoodIn wsX5_sheet wsX5_in := goodIn_r _ [12] (by decide +kernel) (by decide +kernel)
set_option maxRecDepth 20000 in
theorem gX5_sheet_X5_in : GoodIn wsX5_sheet (va_wsS RX5 71 yX5_in wsX5_in) := goodIn_app (goodIn_of _ (by decide +kernel)) ggX5_sheet_X5_in
set_option maxRecDepth 20000 in
theorem ggX5_sheet_X5_failed : GoodIn wsX5_sheet wsX5_failed := goodIn_r _ [21, 17, 22, 23, 24, 25, 26, 27, 28, 29, 30, 31, 32, 33, 34, 35, 36, 37, 38, 39, 40, 41, 42, 43, 44, 45, 46] (by decide +kernel) (by decide +kernel)
set_option maxRecDepth 20000 in
theorem gX5_sheet_X5_failed : GoodIn wsX5_sheet (wsV RX5 94 RX5 yX5_failed wsX5_failed) := goodIn_app (goodIn_of _ (by decide +kernel)) ggX5_sheet_X5_failed
theorem dX5_sheet_0 : decode cX5_sheet 0 = .ok (.iload_n 1, 1) := by decide +kernel
theorem dX5_sheet_1 : decode cX5_sheet 1 = .ok (.invokestatic 102, 3) := by decide +kernel
theorem dX5_sheet_4 : decode cX5_sheet 4 = .ok (.ifCond .eq 9, 3) := by decide +kernel
theorem dX5_sheet_7 : decode cX5_sheet 7 = .ok (.aload_n 0, 1) := by decide +kernel
theorem dX5_sheet_8 : decode cX5_sheet 8 = .ok (.iconst (-1), 1) := by decide +kernel
theorem dX5_sheet_9 : decode cX5_sheet 9 = .ok (.invokevirtual 106, 3) := by decide +kernel
theorem dX5_sheet_12 : decode cX5_sheet 12 = .ok (.ireturn, 1) := by decide +kernel
theorem dX5_sheet_13 : decode cX5_sheet 13 = .ok (.iload_n 2, 1) := by decide +kernel
theorem dX5_sheet_14 : decode cX5_sheet 14 = .ok (.i2l, 1) := by decide +kernel
theorem dX5_sheet_15 : decode cX5_sheet 15 = .ok (.lconst 0, 1) := by decide +kernel
theorem dX5_sheet_16 : decode cX5_sheet 16 = .ok (.ldc2_w 109, 3) := by decide +kernel
theorem dX5_sheet_19 : decode cX5_sheet 19 = .ok (.invokestatic 71, 3) := by decide +kernel
theorem dX5_sheet_22 : decode cX5_sheet 22 = .ok (.ifCond .eq 9, 3) := by decide +kernel
theorem dX5_sheet_25 : decode cX5_sheet 25 = .ok (.iload_n 3, 1) := by decide +kernel
theorem dX5_sheet_26 : decode cX5_sheet 26 = .ok (.bipush 60, 2) := by decide +kernel
theorem dX5_sheet_28 : decode cX5_sheet 28 = .ok (.if_icmp .le 10, 3) := by decide +kernel
theorem dX5_sheet_31 : decode cX5_sheet 31 = .ok (.aload_n 0, 1) := by decide +kernel
theorem dX5_sheet_32 : decode cX5_sheet 32 = .ok (.bipush (-2), 2) := by decide +kernel
theorem dX5_sheet_34 : decode cX5_sheet 34 = .ok (.invokevirtual 106, 3) := by decide +kernel
theorem dX5_sheet_37 : decode cX5_sheet 37 = .ok (.ireturn, 1) := by decide +kernel
theorem dX5_sheet_38 : decode cX5_sheet 38 = .ok (.iload_n 3, 1) := by decide +kernel
theorem dX5_sheet_39 : decode cX5_sheet 39 = .ok (.ifCond .ge 9, 3) := by decide +kernel
theorem dX5_sheet_42 : decode cX5_sheet 42 = .ok (.aload_n 0, 1) := by decide +kernel
theorem dX5_sheet_43 : decode cX5_sheet 43 = .ok (.iconst 4, 1) := by decide +kernel
theorem dX5_sheet_44 : decode cX5_sheet 44 = .ok (.invokevirtual 94, 3) := by decide +kernel
theorem dX5_sheet_47 : decode cX5_sheet 47 = .ok (.ireturn, 1) := by decide +kernel
theorem dX5_sheet_48 : decode cX5_sheet 48 = .ok (.aload_n 0, 1) := by decide +kernel
theorem dX5_sheet_49 : decode cX5_sheet 49 = .ok (.getfield 46, 3) := by decide +kernel
theorem dX5_sheet_52 : decode cX5_sheet 52 = .ok (.iload_n 1, 1) := by decide +kernel
theorem dX5_sheet_53 : decode cX5_sheet 53 = .ok (.iload_n 3, 1) := by decide +kernel
theorem dX5_sheet_54 : decode cX5_sheet 54 = .ok (.iastore, 1) := by decide +kernel
theorem dX5_sheet_55 : decode cX5_sheet 55 = .ok (.aload_n 0, 1) := by decide +kernel
theorem dX5_sheet_56 : decode cX5_sheet 56 = .ok (.getfield 49, 3) := by decide +kernel
theorem dX5_sheet_59 : decode cX5_sheet 59 = .ok (.iload_n 1, 1) := by decide +kernel
theorem dX5_sheet_60 : decode cX5_sheet 60 = .ok (.iload_n 2, 1) := by decide +kernel
theorem dX5_sheet_61 : decode cX5_sheet 61 = .ok (.iastore, 1) := by decide +kernel
theorem dX5_sheet_62 : decode cX5_sheet 62 = .ok (.iconst 0, 1) := by decide +kernel
theorem dX5_sheet_63 : decode cX5_sheet 63 = .ok (.istore 4, 2) := by decide +kernel
theorem dX5_sheet_65 : decode cX5_sheet 65 = .ok (.iload 4, 2) := by decide +kernel
theorem dX5_sheet_67 : decode cX5_sheet 67 = .ok (.iload_n 3, 1) := by decide +kernel
theorem dX5_sheet_68 : decode cX5_sheet 68 = .ok (.if_icmp .ge 22, 3) := by decide +kernel
theorem dX5_sheet_71 : decode cX5_sheet 71 = .ok (.aload_n 0, 1) := by decide +kernel
theorem dX5_sheet_72 : decode cX5_sheet 72 = .ok (.getfield 52, 3) := by decide +kernel
theorem dX5_sheet_75 : decode cX5_sheet 75 = .ok (.bipush 60, 2) := by decide +kernel
theorem dX5_sheet_77 : decode cX5_sheet 77 = .ok (.iload_n 1, 1) := by decide +kernel
theorem dX5_sheet_78 : decode cX5_sheet 78 = .ok (.imul, 1) := by decide +kernel
theorem dX5_sheet_79 : decode cX5_sheet 79 = .ok (.iload 4, 2) := by decide +kernel
theorem dX5_sheet_81 : decode cX5_sheet 81 = .ok (.iadd, 1) := by decide +kernel
theorem dX5_sheet_82 : decode cX5_sheet 82 = .ok (.iconst 0, 1) := by decide +kernel
theorem dX5_sheet_83 : decode cX5_sheet 83 = .ok (.iastore, 1) := by decide +kernel
theorem dX5_sheet_84 : decode cX5_sheet 84 = .ok (.iinc 4 1, 3) := by decide +kernel
theorem dX5_sheet_87 : decode cX5_sheet 87 = .ok (.goto (-22), 3) := by decide +kernel
theorem dX5_sheet_90 : decode cX5_sheet 90 = .ok (.aload_n 0, 1) := by decide +kernel
theorem dX5_sheet_91 : decode cX5_sheet 91 = .ok (.iconst 1, 1) := by decide +kernel
theorem dX5_sheet_92 : decode cX5_sheet 92 = .ok (.invokevirtual 106, 3) := by decide +kernel
theorem dX5_sheet_95 : decode cX5_sheet 95 = .ok (.ireturn, 1) := by decide +kernel
set_option maxRecDepth 20000 in
theorem ggX5_lose_X5_noSheet : GoodIn wsX5_lose wsX5_noSheet := goodIn_r _ [5, 6, 7, 8, 4, 9] (by decide +kernel) (by decide +kernel)
