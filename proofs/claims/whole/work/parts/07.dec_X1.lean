theorem dX1_init_0 : decode cX1_init 0 = .ok (.aload_n 0, 1) := by decide +kernel
theorem dX1_init_1 : decode cX1_init 1 = .ok (.invokespecial 3, 3) := by decide +kernel
theorem dX1_init_4 : decode cX1_init 4 = .ok (.aload_n 0, 1) := by decide +kernel
theorem dX1_init_5 : decode cX1_init 5 = .ok (.bipush 8, 2) := by decide +kernel
theorem dX1_init_7 : decode cX1_init 7 = .ok (.newarray .int, 2) := by decide +kernel
theorem dX1_init_9 : decode cX1_init 9 = .ok (.putfield 9, 3) := by decide +kernel
theorem dX1_init_12 : decode cX1_init 12 = .ok (.aload_n 0, 1) := by decide +kernel
theorem dX1_init_13 : decode cX1_init 13 = .ok (.bipush 8, 2) := by decide +kernel
theorem dX1_init_15 : decode cX1_init 15 = .ok (.newarray .int, 2) := by decide +kernel
theorem dX1_init_17 : decode cX1_init 17 = .ok (.putfield 15, 3) := by decide +kernel
theorem dX1_init_20 : decode cX1_init 20 = .ok (.aload_n 0, 1) := by decide +kernel
theorem dX1_init_21 : decode cX1_init 21 = .ok (.bipush 8, 2) := by decide +kernel
theorem dX1_init_23 : decode cX1_init 23 = .ok (.newarray .int, 2) := by decide +kernel
theorem dX1_init_25 : decode cX1_init 25 = .ok (.putfield 18, 3) := by decide +kernel
theorem dX1_init_28 : decode cX1_init 28 = .ok (.return_, 1) := by decide +kernel
theorem dX1_add_0 : decode cX1_add 0 = .ok (.aload_n 0, 1) := by decide +kernel
theorem dX1_add_1 : decode cX1_add 1 = .ok (.getfield 21, 3) := by decide +kernel
theorem dX1_add_4 : decode cX1_add 4 = .ok (.istore 4, 2) := by decide +kernel
theorem dX1_add_6 : decode cX1_add 6 = .ok (.aload_n 0, 1) := by decide +kernel
theorem dX1_add_7 : decode cX1_add 7 = .ok (.getfield 9, 3) := by decide +kernel
theorem dX1_add_10 : decode cX1_add 10 = .ok (.iload 4, 2) := by decide +kernel
theorem dX1_add_12 : decode cX1_add 12 = .ok (.iload_n 1, 1) := by decide +kernel
theorem dX1_add_13 : decode cX1_add 13 = .ok (.iastore, 1) := by decide +kernel
theorem dX1_add_14 : decode cX1_add 14 = .ok (.aload_n 0, 1) := by decide +kernel
theorem dX1_add_15 : decode cX1_add 15 = .ok (.getfield 15, 3) := by decide +kernel
theorem dX1_add_18 : decode cX1_add 18 = .ok (.iload 4, 2) := by decide +kernel
theorem dX1_add_20 : decode cX1_add 20 = .ok (.iload_n 2, 1) := by decide +kernel
theorem dX1_add_21 : decode cX1_add 21 = .ok (.iastore, 1) := by decide +kernel
theorem dX1_add_22 : decode cX1_add 22 = .ok (.aload_n 0, 1) := by decide +kernel
theorem dX1_add_23 : decode cX1_add 23 = .ok (.getfield 18, 3) := by decide +kernel
theorem dX1_add_26 : decode cX1_add 26 = .ok (.iload 4, 2) := by decide +kernel
theorem dX1_add_28 : decode cX1_add 28 = .ok (.iload_n 3, 1) := by decide +kernel
theorem dX1_add_29 : decode cX1_add 29 = .ok (.iastore, 1) := by decide +kernel
theorem dX1_add_30 : decode cX1_add 30 = .ok (.aload_n 0, 1) := by decide +kernel
theorem dX1_add_31 : decode cX1_add 31 = .ok (.dup, 1) := by decide +kernel
theorem dX1_add_32 : decode cX1_add 32 = .ok (.getfield 21, 3) := by decide +kernel
theorem dX1_add_35 : decode cX1_add 35 = .ok (.iconst 1, 1) := by decide +kernel
theorem dX1_add_36 : decode cX1_add 36 = .ok (.iadd, 1) := by decide +kernel
theorem dX1_add_37 : decode cX1_add 37 = .ok (.putfield 21, 3) := by decide +kernel
theorem dX1_add_40 : decode cX1_add 40 = .ok (.iload 4, 2) := by decide +kernel
theorem dX1_add_42 : decode cX1_add 42 = .ok (.ireturn, 1) := by decide +kernel
set_option maxRecDepth 20000 in
theorem ggX1_holdIn_X0_chosenBy : GoodIn wsX1_holdIn wsX0_chosenBy := goodIn_r _ [9, 10, 11, 12, 13, 8, 14, 15, 16, 17, 18, 19, 20, 21, 22, 23, 24, 25, 26, 27, 28, 29, 30, 31, 32, 33, 34, 35, 36, 41, 42, 43, 44] (by decide +kernel) (by decide +kernel)
set_option maxRecDepth 20000 in
theorem gX1_holdIn_X0_chosenBy : GoodIn wsX1_holdIn (wsV RX1 25 RX0 yX0_chosenBy wsX0_chosenBy) := goodIn_app (goodIn_of _ (by decide +kernel)) ggX1_holdIn_X0_chosenBy
theorem dX1_holdIn_0 : decode cX1_holdIn 0 = .ok (.iconst 0, 1) := by decide +kernel
theorem dX1_holdIn_1 : decode cX1_holdIn 1 = .ok (.istore_n 2, 1) := by decide +kernel
theorem dX1_holdIn_2 : decode cX1_holdIn 2 = .ok (.iload_n 2, 1) := by decide +kernel
theorem dX1_holdIn_3 : decode cX1_holdIn 3 = .ok (.aload_n 0, 1) := by decide +kernel
theorem dX1_holdIn_4 : decode cX1_holdIn 4 = .ok (.getfield 21, 3) := by decide +kernel
theorem dX1_holdIn_7 : decode cX1_holdIn 7 = .ok (.if_icmp .ge 36, 3) := by decide +kernel
theorem dX1_holdIn_10 : decode cX1_holdIn 10 = .ok (.aload_n 1, 1) := by decide +kernel
theorem dX1_holdIn_11 : decode cX1_holdIn 11 = .ok (.aload_n 0, 1) := by decide +kernel
theorem dX1_holdIn_12 : decode cX1_holdIn 12 = .ok (.getfield 9, 3) := by decide +kernel
theorem dX1_holdIn_15 : decode cX1_holdIn 15 = .ok (.iload_n 2, 1) := by decide +kernel
theorem dX1_holdIn_16 : decode cX1_holdIn 16 = .ok (.iaload, 1) := by decide +kernel
theorem dX1_holdIn_17 : decode cX1_holdIn 17 = .ok (.aload_n 0, 1) := by decide +kernel
theorem dX1_holdIn_18 : decode cX1_holdIn 18 = .ok (.getfield 15, 3) := by decide +kernel
theorem dX1_holdIn_21 : decode cX1_holdIn 21 = .ok (.iload_n 2, 1) := by decide +kernel
theorem dX1_holdIn_22 : decode cX1_holdIn 22 = .ok (.iaload, 1) := by decide +kernel
theorem dX1_holdIn_23 : decode cX1_holdIn 23 = .ok (.invokevirtual 25, 3) := by decide +kernel
theorem dX1_holdIn_26 : decode cX1_holdIn 26 = .ok (.aload_n 0, 1) := by decide +kernel
theorem dX1_holdIn_27 : decode cX1_holdIn 27 = .ok (.getfield 18, 3) := by decide +kernel
theorem dX1_holdIn_30 : decode cX1_holdIn 30 = .ok (.iload_n 2, 1) := by decide +kernel
theorem dX1_holdIn_31 : decode cX1_holdIn 31 = .ok (.iaload, 1) := by decide +kernel
theorem dX1_holdIn_32 : decode cX1_holdIn 32 = .ok (.if_icmp .eq 5, 3) := by decide +kernel
theorem dX1_holdIn_35 : decode cX1_holdIn 35 = .ok (.iconst 0, 1) := by decide +kernel
theorem dX1_holdIn_36 : decode cX1_holdIn 36 = .ok (.ireturn, 1) := by decide +kernel
theorem dX1_holdIn_37 : decode cX1_holdIn 37 = .ok (.iinc 2 1, 3) := by decide +kernel
theorem dX1_holdIn_40 : decode cX1_holdIn 40 = .ok (.goto (-38), 3) := by decide +kernel
theorem dX1_holdIn_43 : decode cX1_holdIn 43 = .ok (.iconst 1, 1) := by decide +kernel
theorem dX1_holdIn_44 : decode cX1_holdIn 44 = .ok (.ireturn, 1) := by decide +kernel
