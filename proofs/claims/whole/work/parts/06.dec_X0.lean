theorem dX0_carryOut_11 : decode cX0_carryOut 11 = .ok (.ifCond .eq 9, 3) := by decide +kernel
theorem dX0_carryOut_14 : decode cX0_carryOut 14 = .ok (.aload_n 0, 1) := by decide +kernel
theorem dX0_carryOut_15 : decode cX0_carryOut 15 = .ok (.iload_n 1, 1) := by decide +kernel
theorem dX0_carryOut_16 : decode cX0_carryOut 16 = .ok (.iload_n 2, 1) := by decide +kernel
theorem dX0_carryOut_17 : decode cX0_carryOut 17 = .ok (.invokevirtual 67, 3) := by decide +kernel
theorem dX0_carryOut_20 : decode cX0_carryOut 20 = .ok (.aload_n 0, 1) := by decide +kernel
theorem dX0_carryOut_21 : decode cX0_carryOut 21 = .ok (.iload 4, 2) := by decide +kernel
theorem dX0_carryOut_23 : decode cX0_carryOut 23 = .ok (.ifCond .eq 7, 3) := by decide +kernel
theorem dX0_carryOut_26 : decode cX0_carryOut 26 = .ok (.iload_n 1, 1) := by decide +kernel
theorem dX0_carryOut_27 : decode cX0_carryOut 27 = .ok (.goto 4, 3) := by decide +kernel
theorem dX0_carryOut_30 : decode cX0_carryOut 30 = .ok (.iload_n 2, 1) := by decide +kernel
theorem dX0_carryOut_31 : decode cX0_carryOut 31 = .ok (.iload_n 3, 1) := by decide +kernel
theorem dX0_carryOut_32 : decode cX0_carryOut 32 = .ok (.invokevirtual 71, 3) := by decide +kernel
theorem dX0_carryOut_35 : decode cX0_carryOut 35 = .ok (.return_, 1) := by decide +kernel
theorem dX0_exchange_0 : decode cX0_exchange 0 = .ok (.aload_n 0, 1) := by decide +kernel
theorem dX0_exchange_1 : decode cX0_exchange 1 = .ok (.getfield 15, 3) := by decide +kernel
theorem dX0_exchange_4 : decode cX0_exchange 4 = .ok (.iload_n 1, 1) := by decide +kernel
theorem dX0_exchange_5 : decode cX0_exchange 5 = .ok (.iaload, 1) := by decide +kernel
theorem dX0_exchange_6 : decode cX0_exchange 6 = .ok (.istore_n 3, 1) := by decide +kernel
theorem dX0_exchange_7 : decode cX0_exchange 7 = .ok (.aload_n 0, 1) := by decide +kernel
theorem dX0_exchange_8 : decode cX0_exchange 8 = .ok (.getfield 18, 3) := by decide +kernel
theorem dX0_exchange_11 : decode cX0_exchange 11 = .ok (.iload_n 1, 1) := by decide +kernel
theorem dX0_exchange_12 : decode cX0_exchange 12 = .ok (.iaload, 1) := by decide +kernel
theorem dX0_exchange_13 : decode cX0_exchange 13 = .ok (.istore 4, 2) := by decide +kernel
theorem dX0_exchange_15 : decode cX0_exchange 15 = .ok (.aload_n 0, 1) := by decide +kernel
theorem dX0_exchange_16 : decode cX0_exchange 16 = .ok (.getfield 15, 3) := by decide +kernel
theorem dX0_exchange_19 : decode cX0_exchange 19 = .ok (.iload_n 1, 1) := by decide +kernel
theorem dX0_exchange_20 : decode cX0_exchange 20 = .ok (.aload_n 0, 1) := by decide +kernel
theorem dX0_exchange_21 : decode cX0_exchange 21 = .ok (.getfield 15, 3) := by decide +kernel
theorem dX0_exchange_24 : decode cX0_exchange 24 = .ok (.iload_n 2, 1) := by decide +kernel
theorem dX0_exchange_25 : decode cX0_exchange 25 = .ok (.iaload, 1) := by decide +kernel
theorem dX0_exchange_26 : decode cX0_exchange 26 = .ok (.iastore, 1) := by decide +kernel
theorem dX0_exchange_27 : decode cX0_exchange 27 = .ok (.aload_n 0, 1) := by decide +kernel
theorem dX0_exchange_28 : decode cX0_exchange 28 = .ok (.getfield 18, 3) := by decide +kernel
theorem dX0_exchange_31 : decode cX0_exchange 31 = .ok (.iload_n 1, 1) := by decide +kernel
theorem dX0_exchange_32 : decode cX0_exchange 32 = .ok (.aload_n 0, 1) := by decide +kernel
theorem dX0_exchange_33 : decode cX0_exchange 33 = .ok (.getfield 18, 3) := by decide +kernel
theorem dX0_exchange_36 : decode cX0_exchange 36 = .ok (.iload_n 2, 1) := by decide +kernel
theorem dX0_exchange_37 : decode cX0_exchange 37 = .ok (.iaload, 1) := by decide +kernel
theorem dX0_exchange_38 : decode cX0_exchange 38 = .ok (.iastore, 1) := by decide +kernel
theorem dX0_exchange_39 : decode cX0_exchange 39 = .ok (.aload_n 0, 1) := by decide +kernel
theorem dX0_exchange_40 : decode cX0_exchange 40 = .ok (.getfield 15, 3) := by decide +kernel
theorem dX0_exchange_43 : decode cX0_exchange 43 = .ok (.iload_n 2, 1) := by decide +kernel
theorem dX0_exchange_44 : decode cX0_exchange 44 = .ok (.iload_n 3, 1) := by decide +kernel
theorem dX0_exchange_45 : decode cX0_exchange 45 = .ok (.iastore, 1) := by decide +kernel
theorem dX0_exchange_46 : decode cX0_exchange 46 = .ok (.aload_n 0, 1) := by decide +kernel
theorem dX0_exchange_47 : decode cX0_exchange 47 = .ok (.getfield 18, 3) := by decide +kernel
theorem dX0_exchange_50 : decode cX0_exchange 50 = .ok (.iload_n 2, 1) := by decide +kernel
theorem dX0_exchange_51 : decode cX0_exchange 51 = .ok (.iload 4, 2) := by decide +kernel
theorem dX0_exchange_53 : decode cX0_exchange 53 = .ok (.iastore, 1) := by decide +kernel
theorem dX0_exchange_54 : decode cX0_exchange 54 = .ok (.return_, 1) := by decide +kernel
theorem dX0_pay_0 : decode cX0_pay 0 = .ok (.iconst 0, 1) := by decide +kernel
theorem dX0_pay_1 : decode cX0_pay 1 = .ok (.iload_n 2, 1) := by decide +kernel
theorem dX0_pay_2 : decode cX0_pay 2 = .ok (.aload_n 0, 1) := by decide +kernel
theorem dX0_pay_3 : decode cX0_pay 3 = .ok (.getfield 18, 3) := by decide +kernel
theorem dX0_pay_6 : decode cX0_pay 6 = .ok (.iload_n 1, 1) := by decide +kernel
theorem dX0_pay_7 : decode cX0_pay 7 = .ok (.iaload, 1) := by decide +kernel
theorem dX0_pay_8 : decode cX0_pay 8 = .ok (.isub, 1) := by decide +kernel
theorem dX0_pay_9 : decode cX0_pay 9 = .ok (.invokestatic 74, 3) := by decide +kernel
theorem dX0_pay_12 : decode cX0_pay 12 = .ok (.istore_n 3, 1) := by decide +kernel
theorem dX0_pay_13 : decode cX0_pay 13 = .ok (.aload_n 0, 1) := by decide +kernel
theorem dX0_pay_14 : decode cX0_pay 14 = .ok (.getfield 18, 3) := by decide +kernel
theorem dX0_pay_17 : decode cX0_pay 17 = .ok (.iload_n 1, 1) := by decide +kernel
theorem dX0_pay_18 : decode cX0_pay 18 = .ok (.iconst 0, 1) := by decide +kernel
theorem dX0_pay_19 : decode cX0_pay 19 = .ok (.aload_n 0, 1) := by decide +kernel
theorem dX0_pay_20 : decode cX0_pay 20 = .ok (.getfield 18, 3) := by decide +kernel
theorem dX0_pay_23 : decode cX0_pay 23 = .ok (.iload_n 1, 1) := by decide +kernel
theorem dX0_pay_24 : decode cX0_pay 24 = .ok (.iaload, 1) := by decide +kernel
theorem dX0_pay_25 : decode cX0_pay 25 = .ok (.iload_n 2, 1) := by decide +kernel
theorem dX0_pay_26 : decode cX0_pay 26 = .ok (.isub, 1) := by decide +kernel
theorem dX0_pay_27 : decode cX0_pay 27 = .ok (.invokestatic 74, 3) := by decide +kernel
theorem dX0_pay_30 : decode cX0_pay 30 = .ok (.iastore, 1) := by decide +kernel
theorem dX0_pay_31 : decode cX0_pay 31 = .ok (.aload_n 0, 1) := by decide +kernel
theorem dX0_pay_32 : decode cX0_pay 32 = .ok (.getfield 15, 3) := by decide +kernel
theorem dX0_pay_35 : decode cX0_pay 35 = .ok (.iload_n 1, 1) := by decide +kernel
theorem dX0_pay_36 : decode cX0_pay 36 = .ok (.iconst 0, 1) := by decide +kernel
theorem dX0_pay_37 : decode cX0_pay 37 = .ok (.aload_n 0, 1) := by decide +kernel
theorem dX0_pay_38 : decode cX0_pay 38 = .ok (.getfield 15, 3) := by decide +kernel
theorem dX0_pay_41 : decode cX0_pay 41 = .ok (.iload_n 1, 1) := by decide +kernel
theorem dX0_pay_42 : decode cX0_pay 42 = .ok (.iaload, 1) := by decide +kernel
theorem dX0_pay_43 : decode cX0_pay 43 = .ok (.iload_n 3, 1) := by decide +kernel
theorem dX0_pay_44 : decode cX0_pay 44 = .ok (.isub, 1) := by decide +kernel
theorem dX0_pay_45 : decode cX0_pay 45 = .ok (.invokestatic 74, 3) := by decide +kernel
theorem dX0_pay_48 : decode cX0_pay 48 = .ok (.iastore, 1) := by decide +kernel
theorem dX0_pay_49 : decode cX0_pay 49 = .ok (.return_, 1) := by decide +kernel
