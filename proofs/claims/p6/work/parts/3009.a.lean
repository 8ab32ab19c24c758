set_option maxRecDepth 20000 in
theorem ggX10_numberOf_X10_size : GoodIn wsX10_numberOf wsX10_size := goodIn_r _ [6, 7, 8, 9, 10, 11, 12, 13, 14, 15, 16, 17, 18, 19, 20, 21, 22, 23, 24, 25, 26, 27, 28, 29, 30, 31, 32, 33, 34, 35, 36, 37, 38, 39, 40, 41, 42, 43, 44, 45, 46, 47, 48, 49, 50, 51, 52, 53, 54, 55, 56, 57, 58, 59, 60, 61, 62, 63] rfl (by decide +kernel)
set_option maxRecDepth 20000 in
theorem gX10_numberOf_X10_size : GoodIn wsX10_numberOf (wsV RX10 125 RX10 yX10_size wsX10_size) := goodIn_app (goodIn_of _ (by decide +kernel)) ggX10_numberOf_X10_size
theorem da9_dX10_numberOf_0 : (decode cX10_numberOf 0 = .ok (.iconst 0, 1)) ∧ (decode cX10_numberOf 1 = .ok (.istore_n 1, 1)) ∧ (decode cX10_numberOf 2 = .ok (.iconst 0, 1)) ∧ (decode cX10_numberOf 3 = .ok (.istore_n 2, 1)) ∧ (decode cX10_numberOf 4 = .ok (.iload_n 2, 1)) ∧ (decode cX10_numberOf 5 = .ok (.aload_n 0, 1)) ∧ (decode cX10_numberOf 6 = .ok (.invokevirtual 125, 3)) ∧ (decode cX10_numberOf 9 = .ok (.if_icmp .ge 66, 3)) ∧ (decode cX10_numberOf 12 = .ok (.iconst 0, 1)) ∧ (decode cX10_numberOf 13 = .ok (.istore_n 3, 1)) ∧ (decode cX10_numberOf 14 = .ok (.iload_n 2, 1)) ∧ (decode cX10_numberOf 15 = .ok (.iconst 1, 1)) ∧ (decode cX10_numberOf 16 = .ok (.iadd, 1)) ∧ (decode cX10_numberOf 17 = .ok (.istore 4, 2)) ∧ (decode cX10_numberOf 19 = .ok (.iload 4, 2)) ∧ (decode cX10_numberOf 21 = .ok (.aload_n 0, 1)) := by decide +kernel
theorem dX10_numberOf_0 : decode cX10_numberOf 0 = .ok (.iconst 0, 1) := da9_dX10_numberOf_0.1
theorem dX10_numberOf_1 : decode cX10_numberOf 1 = .ok (.istore_n 1, 1) := da9_dX10_numberOf_0.2.1
theorem dX10_numberOf_2 : decode cX10_numberOf 2 = .ok (.iconst 0, 1) := da9_dX10_numberOf_0.2.2.1
theorem dX10_numberOf_3 : decode cX10_numberOf 3 = .ok (.istore_n 2, 1) := da9_dX10_numberOf_0.2.2.2.1
theorem dX10_numberOf_4 : decode cX10_numberOf 4 = .ok (.iload_n 2, 1) := da9_dX10_numberOf_0.2.2.2.2.1
theorem dX10_numberOf_5 : decode cX10_numberOf 5 = .ok (.aload_n 0, 1) := da9_dX10_numberOf_0.2.2.2.2.2.1
theorem dX10_numberOf_6 : decode cX10_numberOf 6 = .ok (.invokevirtual 125, 3) := da9_dX10_numberOf_0.2.2.2.2.2.2.1
theorem dX10_numberOf_9 : decode cX10_numberOf 9 = .ok (.if_icmp .ge 66, 3) := da9_dX10_numberOf_0.2.2.2.2.2.2.2.1
theorem dX10_numberOf_12 : decode cX10_numberOf 12 = .ok (.iconst 0, 1) := da9_dX10_numberOf_0.2.2.2.2.2.2.2.2.1
theorem dX10_numberOf_13 : decode cX10_numberOf 13 = .ok (.istore_n 3, 1) := da9_dX10_numberOf_0.2.2.2.2.2.2.2.2.2.1
theorem dX10_numberOf_14 : decode cX10_numberOf 14 = .ok (.iload_n 2, 1) := da9_dX10_numberOf_0.2.2.2.2.2.2.2.2.2.2.1
theorem dX10_numberOf_15 : decode cX10_numberOf 15 = .ok (.iconst 1, 1) := da9_dX10_numberOf_0.2.2.2.2.2.2.2.2.2.2.2.1
theorem dX10_numberOf_16 : decode cX10_numberOf 16 = .ok (.iadd, 1) := da9_dX10_numberOf_0.2.2.2.2.2.2.2.2.2.2.2.2.1
theorem dX10_numberOf_17 : decode cX10_numberOf 17 = .ok (.istore 4, 2) := da9_dX10_numberOf_0.2.2.2.2.2.2.2.2.2.2.2.2.2.1
theorem dX10_numberOf_19 : decode cX10_numberOf 19 = .ok (.iload 4, 2) := da9_dX10_numberOf_0.2.2.2.2.2.2.2.2.2.2.2.2.2.2.1
theorem dX10_numberOf_21 : decode cX10_numberOf 21 = .ok (.aload_n 0, 1) := da9_dX10_numberOf_0.2.2.2.2.2.2.2.2.2.2.2.2.2.2.2
theorem da9_dX10_numberOf_22 : (decode cX10_numberOf 22 = .ok (.invokevirtual 125, 3)) ∧ (decode cX10_numberOf 25 = .ok (.if_icmp .ge 33, 3)) ∧ (decode cX10_numberOf 28 = .ok (.iload_n 3, 1)) ∧ (decode cX10_numberOf 29 = .ok (.aload_n 0, 1)) ∧ (decode cX10_numberOf 30 = .ok (.getfield 84, 3)) ∧ (decode cX10_numberOf 33 = .ok (.iload 4, 2)) ∧ (decode cX10_numberOf 35 = .ok (.iaload, 1)) ∧ (decode cX10_numberOf 36 = .ok (.aload_n 0, 1)) ∧ (decode cX10_numberOf 37 = .ok (.getfield 84, 3)) ∧ (decode cX10_numberOf 40 = .ok (.iload_n 2, 1)) ∧ (decode cX10_numberOf 41 = .ok (.iaload, 1)) ∧ (decode cX10_numberOf 42 = .ok (.if_icmp .ge 7, 3)) ∧ (decode cX10_numberOf 45 = .ok (.iconst 1, 1)) ∧ (decode cX10_numberOf 46 = .ok (.goto 4, 3)) ∧ (decode cX10_numberOf 49 = .ok (.iconst 0, 1)) ∧ (decode cX10_numberOf 50 = .ok (.iadd, 1)) := by decide +kernel
theorem dX10_numberOf_22 : decode cX10_numberOf 22 = .ok (.invokevirtual 125, 3) := da9_dX10_numberOf_22.1
theorem dX10_numberOf_25 : decode cX10_numberOf 25 = .ok (.if_icmp .ge 33, 3) := da9_dX10_numberOf_22.2.1
theorem dX10_numberOf_28 : decode cX10_numberOf 28 = .ok (.iload_n 3, 1) := da9_dX10_numberOf_22.2.2.1
theorem dX10_numberOf_29 : decode cX10_numberOf 29 = .ok (.aload_n 0, 1) := da9_dX10_numberOf_22.2.2.2.1
theorem dX10_numberOf_30 : decode cX10_numberOf 30 = .ok (.getfield 84, 3) := da9_dX10_numberOf_22.2.2.2.2.1
theorem dX10_numberOf_33 : decode cX10_numberOf 33 = .ok (.iload 4, 2) := da9_dX10_numberOf_22.2.2.2.2.2.1
theorem dX10_numberOf_35 : decode cX10_numberOf 35 = .ok (.iaload, 1) := da9_dX10_numberOf_22.2.2.2.2.2.2.1
theorem dX10_numberOf_36 : decode cX10_numberOf 36 = .ok (.aload_n 0, 1) := da9_dX10_numberOf_22.2.2.2.2.2.2.2.1
theorem dX10_numberOf_37 : decode cX10_numberOf 37 = .ok (.getfield 84, 3) := da9_dX10_numberOf_22.2.2.2.2.2.2.2.2.1
theorem dX10_numberOf_40 : decode cX10_numberOf 40 = .ok (.iload_n 2, 1) := da9_dX10_numberOf_22.2.2.2.2.2.2.2.2.2.1
theorem dX10_numberOf_41 : decode cX10_numberOf 41 = .ok (.iaload, 1) := da9_dX10_numberOf_22.2.2.2.2.2.2.2.2.2.2.1
theorem dX10_numberOf_42 : decode cX10_numberOf 42 = .ok (.if_icmp .ge 7, 3) := da9_dX10_numberOf_22.2.2.2.2.2.2.2.2.2.2.2.1
theorem dX10_numberOf_45 : decode cX10_numberOf 45 = .ok (.iconst 1, 1) := da9_dX10_numberOf_22.2.2.2.2.2.2.2.2.2.2.2.2.1
theorem dX10_numberOf_46 : decode cX10_numberOf 46 = .ok (.goto 4, 3) := da9_dX10_numberOf_22.2.2.2.2.2.2.2.2.2.2.2.2.2.1
theorem dX10_numberOf_49 : decode cX10_numberOf 49 = .ok (.iconst 0, 1) := da9_dX10_numberOf_22.2.2.2.2.2.2.2.2.2.2.2.2.2.2.1
theorem dX10_numberOf_50 : decode cX10_numberOf 50 = .ok (.iadd, 1) := da9_dX10_numberOf_22.2.2.2.2.2.2.2.2.2.2.2.2.2.2.2
theorem da9_dX10_numberOf_51 : (decode cX10_numberOf 51 = .ok (.istore_n 3, 1)) ∧ (decode cX10_numberOf 52 = .ok (.iinc 4 1, 3)) ∧ (decode cX10_numberOf 55 = .ok (.goto (-36), 3)) ∧ (decode cX10_numberOf 58 = .ok (.iload_n 1, 1)) ∧ (decode cX10_numberOf 59 = .ok (.aload_n 0, 1)) ∧ (decode cX10_numberOf 60 = .ok (.invokevirtual 125, 3)) ∧ (decode cX10_numberOf 63 = .ok (.iload_n 2, 1)) ∧ (decode cX10_numberOf 64 = .ok (.isub, 1)) ∧ (decode cX10_numberOf 65 = .ok (.imul, 1)) ∧ (decode cX10_numberOf 66 = .ok (.iload_n 3, 1)) ∧ (decode cX10_numberOf 67 = .ok (.iadd, 1)) ∧ (decode cX10_numberOf 68 = .ok (.istore_n 1, 1)) ∧ (decode cX10_numberOf 69 = .ok (.iinc 2 1, 3)) ∧ (decode cX10_numberOf 72 = .ok (.goto (-68), 3)) ∧ (decode cX10_numberOf 75 = .ok (.iload_n 1, 1)) ∧ (decode cX10_numberOf 76 = .ok (.ireturn, 1)) := by decide +kernel
theorem dX10_numberOf_51 : decode cX10_numberOf 51 = .ok (.istore_n 3, 1) := da9_dX10_numberOf_51.1
theorem dX10_numberOf_52 : decode cX10_numberOf 52 = .ok (.iinc 4 1, 3) := da9_dX10_numberOf_51.2.1
theorem dX10_numberOf_55 : decode cX10_numberOf 55 = .ok (.goto (-36), 3) := da9_dX10_numberOf_51.2.2.1
theorem dX10_numberOf_58 : decode cX10_numberOf 58 = .ok (.iload_n 1, 1) := da9_dX10_numberOf_51.2.2.2.1
theorem dX10_numberOf_59 : decode cX10_numberOf 59 = .ok (.aload_n 0, 1) := da9_dX10_numberOf_51.2.2.2.2.1
theorem dX10_numberOf_60 : decode cX10_numberOf 60 = .ok (.invokevirtual 125, 3) := da9_dX10_numberOf_51.2.2.2.2.2.1
theorem dX10_numberOf_63 : decode cX10_numberOf 63 = .ok (.iload_n 2, 1) := da9_dX10_numberOf_51.2.2.2.2.2.2.1
theorem dX10_numberOf_64 : decode cX10_numberOf 64 = .ok (.isub, 1) := da9_dX10_numberOf_51.2.2.2.2.2.2.2.1
theorem dX10_numberOf_65 : decode cX10_numberOf 65 = .ok (.imul, 1) := da9_dX10_numberOf_51.2.2.2.2.2.2.2.2.1
theorem dX10_numberOf_66 : decode cX10_numberOf 66 = .ok (.iload_n 3, 1) := da9_dX10_numberOf_51.2.2.2.2.2.2.2.2.2.1
theorem dX10_numberOf_67 : decode cX10_numberOf 67 = .ok (.iadd, 1) := da9_dX10_numberOf_51.2.2.2.2.2.2.2.2.2.2.1
theorem dX10_numberOf_68 : decode cX10_numberOf 68 = .ok (.istore_n 1, 1) := da9_dX10_numberOf_51.2.2.2.2.2.2.2.2.2.2.2.1
theorem dX10_numberOf_69 : decode cX10_numberOf 69 = .ok (.iinc 2 1, 3) := da9_dX10_numberOf_51.2.2.2.2.2.2.2.2.2.2.2.2.1
theorem dX10_numberOf_72 : decode cX10_numberOf 72 = .ok (.goto (-68), 3) := da9_dX10_numberOf_51.2.2.2.2.2.2.2.2.2.2.2.2.2.1
theorem dX10_numberOf_75 : decode cX10_numberOf 75 = .ok (.iload_n 1, 1) := da9_dX10_numberOf_51.2.2.2.2.2.2.2.2.2.2.2.2.2.2.1
theorem dX10_numberOf_76 : decode cX10_numberOf 76 = .ok (.ireturn, 1) := da9_dX10_numberOf_51.2.2.2.2.2.2.2.2.2.2.2.2.2.2.2
set_option maxRecDepth 20000 in
theorem ggX10_laysOrder_X10_size : GoodIn wsX10_laysOrder wsX10_size := goodIn_r _ [6, 7, 14, 15, 16, 17, 18, 19, 20, 21, 22, 23, 24, 25, 26, 27, 28, 29, 30, 31, 32, 33, 34, 35, 36, 37, 38, 39, 40, 41, 42, 43, 44, 45, 46, 47, 48, 49, 50, 51, 52, 53, 54, 55, 56, 57, 58, 59, 60, 61, 62, 63, 64, 65, 66, 67, 68, 69] rfl (by decide +kernel)
set_option maxRecDepth 20000 in
theorem gX10_laysOrder_X10_size : GoodIn wsX10_laysOrder (wsV RX10 125 RX10 yX10_size wsX10_size) := goodIn_app (goodIn_of _ (by decide +kernel)) ggX10_laysOrder_X10_size
set_option maxRecDepth 20000 in
theorem ggX10_laysOrder_X10_allOrders : GoodIn wsX10_laysOrder wsX10_allOrders := goodIn_r _ [10] rfl (by decide +kernel)
set_option maxRecDepth 20000 in
theorem gX10_laysOrder_X10_allOrders : GoodIn wsX10_laysOrder (va_wsS RX10 380 yX10_allOrders wsX10_allOrders) := goodIn_app (goodIn_of _ (by decide +kernel)) ggX10_laysOrder_X10_allOrders
set_option maxRecDepth 20000 in
theorem ggX10_laysOrder_X10_isIn : GoodIn wsX10_laysOrder wsX10_isIn := goodIn_r _ [13] rfl (by decide +kernel)
set_option maxRecDepth 20000 in
theorem gX10_laysOrder_X10_isIn : GoodIn wsX10_laysOrder (va_wsS RX10 383 yX10_isIn wsX10_isIn) := goodIn_app (goodIn_of _ (by decide +kernel)) ggX10_laysOrder_X10_isIn
theorem da9_dX10_laysOrder_0 : (decode cX10_laysOrder 0 = .ok (.iconst 0, 1)) ∧ (decode cX10_laysOrder 1 = .ok (.istore_n 2, 1)) ∧ (decode cX10_laysOrder 2 = .ok (.iload_n 1, 1)) ∧ (decode cX10_laysOrder 3 = .ok (.istore_n 3, 1)) ∧ (decode cX10_laysOrder 4 = .ok (.iconst 0, 1)) ∧ (decode cX10_laysOrder 5 = .ok (.istore 4, 2)) ∧ (decode cX10_laysOrder 7 = .ok (.iload 4, 2)) ∧ (decode cX10_laysOrder 9 = .ok (.aload_n 0, 1)) ∧ (decode cX10_laysOrder 10 = .ok (.invokevirtual 125, 3)) ∧ (decode cX10_laysOrder 13 = .ok (.if_icmp .ge 97, 3)) ∧ (decode cX10_laysOrder 16 = .ok (.aload_n 0, 1)) ∧ (decode cX10_laysOrder 17 = .ok (.invokevirtual 125, 3)) ∧ (decode cX10_laysOrder 20 = .ok (.iconst 1, 1)) ∧ (decode cX10_laysOrder 21 = .ok (.isub, 1)) ∧ (decode cX10_laysOrder 22 = .ok (.iload 4, 2)) ∧ (decode cX10_laysOrder 24 = .ok (.isub, 1)) := by decide +kernel
theorem dX10_laysOrder_0 : decode cX10_laysOrder 0 = .ok (.iconst 0, 1) := da9_dX10_laysOrder_0.1
theorem dX10_laysOrder_1 : decode cX10_laysOrder 1 = .ok (.istore_n 2, 1) := da9_dX10_laysOrder_0.2.1
theorem dX10_laysOrder_2 : decode cX10_laysOrder 2 = .ok (.iload_n 1, 1) := da9_dX10_laysOrder_0.2.2.1
theorem dX10_laysOrder_3 : decode cX10_laysOrder 3 = .ok (.istore_n 3, 1) := da9_dX10_laysOrder_0.2.2.2.1
theorem dX10_laysOrder_4 : decode cX10_laysOrder 4 = .ok (.iconst 0, 1) := da9_dX10_laysOrder_0.2.2.2.2.1
theorem dX10_laysOrder_5 : decode cX10_laysOrder 5 = .ok (.istore 4, 2) := da9_dX10_laysOrder_0.2.2.2.2.2.1
theorem dX10_laysOrder_7 : decode cX10_laysOrder 7 = .ok (.iload 4, 2) := da9_dX10_laysOrder_0.2.2.2.2.2.2.1
theorem dX10_laysOrder_9 : decode cX10_laysOrder 9 = .ok (.aload_n 0, 1) := da9_dX10_laysOrder_0.2.2.2.2.2.2.2.1
theorem dX10_laysOrder_10 : decode cX10_laysOrder 10 = .ok (.invokevirtual 125, 3) := da9_dX10_laysOrder_0.2.2.2.2.2.2.2.2.1
theorem dX10_laysOrder_13 : decode cX10_laysOrder 13 = .ok (.if_icmp .ge 97, 3) := da9_dX10_laysOrder_0.2.2.2.2.2.2.2.2.2.1
theorem dX10_laysOrder_16 : decode cX10_laysOrder 16 = .ok (.aload_n 0, 1) := da9_dX10_laysOrder_0.2.2.2.2.2.2.2.2.2.2.1
theorem dX10_laysOrder_17 : decode cX10_laysOrder 17 = .ok (.invokevirtual 125, 3) := da9_dX10_laysOrder_0.2.2.2.2.2.2.2.2.2.2.2.1
theorem dX10_laysOrder_20 : decode cX10_laysOrder 20 = .ok (.iconst 1, 1) := da9_dX10_laysOrder_0.2.2.2.2.2.2.2.2.2.2.2.2.1
theorem dX10_laysOrder_21 : decode cX10_laysOrder 21 = .ok (.isub, 1) := da9_dX10_laysOrder_0.2.2.2.2.2.2.2.2.2.2.2.2.2.1
theorem dX10_laysOrder_22 : decode cX10_laysOrder 22 = .ok (.iload 4, 2) := da9_dX10_laysOrder_0.2.2.2.2.2.2.2.2.2.2.2.2.2.2.1
theorem dX10_laysOrder_24 : decode cX10_laysOrder 24 = .ok (.isub, 1) := da9_dX10_laysOrder_0.2.2.2.2.2.2.2.2.2.2.2.2.2.2.2
theorem da9_dX10_laysOrder_25 : (decode cX10_laysOrder 25 = .ok (.invokestatic 380, 3)) ∧ (decode cX10_laysOrder 28 = .ok (.istore 5, 2)) ∧ (decode cX10_laysOrder 30 = .ok (.iload_n 3, 1)) ∧ (decode cX10_laysOrder 31 = .ok (.iload 5, 2)) ∧ (decode cX10_laysOrder 33 = .ok (.idiv, 1)) ∧ (decode cX10_laysOrder 34 = .ok (.istore 6, 2)) ∧ (decode cX10_laysOrder 36 = .ok (.iload_n 3, 1)) ∧ (decode cX10_laysOrder 37 = .ok (.iload 5, 2)) ∧ (decode cX10_laysOrder 39 = .ok (.irem, 1)) ∧ (decode cX10_laysOrder 40 = .ok (.istore_n 3, 1)) ∧ (decode cX10_laysOrder 41 = .ok (.iconst 0, 1)) ∧ (decode cX10_laysOrder 42 = .ok (.istore 7, 2)) ∧ (decode cX10_laysOrder 44 = .ok (.iload_n 2, 1)) ∧ (decode cX10_laysOrder 45 = .ok (.iload 7, 2)) ∧ (decode cX10_laysOrder 47 = .ok (.invokestatic 383, 3)) ∧ (decode cX10_laysOrder 50 = .ok (.ifCond .ne 8, 3)) := by decide +kernel
theorem dX10_laysOrder_25 : decode cX10_laysOrder 25 = .ok (.invokestatic 380, 3) := da9_dX10_laysOrder_25.1
theorem dX10_laysOrder_28 : decode cX10_laysOrder 28 = .ok (.istore 5, 2) := da9_dX10_laysOrder_25.2.1
theorem dX10_laysOrder_30 : decode cX10_laysOrder 30 = .ok (.iload_n 3, 1) := da9_dX10_laysOrder_25.2.2.1
theorem dX10_laysOrder_31 : decode cX10_laysOrder 31 = .ok (.iload 5, 2) := da9_dX10_laysOrder_25.2.2.2.1
theorem dX10_laysOrder_33 : decode cX10_laysOrder 33 = .ok (.idiv, 1) := da9_dX10_laysOrder_25.2.2.2.2.1
theorem dX10_laysOrder_34 : decode cX10_laysOrder 34 = .ok (.istore 6, 2) := da9_dX10_laysOrder_25.2.2.2.2.2.1
theorem dX10_laysOrder_36 : decode cX10_laysOrder 36 = .ok (.iload_n 3, 1) := da9_dX10_laysOrder_25.2.2.2.2.2.2.1
theorem dX10_laysOrder_37 : decode cX10_laysOrder 37 = .ok (.iload 5, 2) := da9_dX10_laysOrder_25.2.2.2.2.2.2.2.1
theorem dX10_laysOrder_39 : decode cX10_laysOrder 39 = .ok (.irem, 1) := da9_dX10_laysOrder_25.2.2.2.2.2.2.2.2.1
theorem dX10_laysOrder_40 : decode cX10_laysOrder 40 = .ok (.istore_n 3, 1) := da9_dX10_laysOrder_25.2.2.2.2.2.2.2.2.2.1
theorem dX10_laysOrder_41 : decode cX10_laysOrder 41 = .ok (.iconst 0, 1) := da9_dX10_laysOrder_25.2.2.2.2.2.2.2.2.2.2.1
theorem dX10_laysOrder_42 : decode cX10_laysOrder 42 = .ok (.istore 7, 2) := da9_dX10_laysOrder_25.2.2.2.2.2.2.2.2.2.2.2.1
theorem dX10_laysOrder_44 : decode cX10_laysOrder 44 = .ok (.iload_n 2, 1) := da9_dX10_laysOrder_25.2.2.2.2.2.2.2.2.2.2.2.2.1
theorem dX10_laysOrder_45 : decode cX10_laysOrder 45 = .ok (.iload 7, 2) := da9_dX10_laysOrder_25.2.2.2.2.2.2.2.2.2.2.2.2.2.1
theorem dX10_laysOrder_47 : decode cX10_laysOrder 47 = .ok (.invokestatic 383, 3) := da9_dX10_laysOrder_25.2.2.2.2.2.2.2.2.2.2.2.2.2.2.1
theorem dX10_laysOrder_50 : decode cX10_laysOrder 50 = .ok (.ifCond .ne 8, 3) := da9_dX10_laysOrder_25.2.2.2.2.2.2.2.2.2.2.2.2.2.2.2
theorem da9_dX10_laysOrder_53 : (decode cX10_laysOrder 53 = .ok (.iload 6, 2)) ∧ (decode cX10_laysOrder 55 = .ok (.ifCond .le 28, 3)) ∧ (decode cX10_laysOrder 58 = .ok (.iload 6, 2)) ∧ (decode cX10_laysOrder 60 = .ok (.iload_n 2, 1)) ∧ (decode cX10_laysOrder 61 = .ok (.iload 7, 2)) ∧ (decode cX10_laysOrder 63 = .ok (.invokestatic 383, 3)) ∧ (decode cX10_laysOrder 66 = .ok (.ifCond .eq 7, 3)) ∧ (decode cX10_laysOrder 69 = .ok (.iconst 0, 1)) ∧ (decode cX10_laysOrder 70 = .ok (.goto 4, 3)) ∧ (decode cX10_laysOrder 73 = .ok (.iconst 1, 1)) ∧ (decode cX10_laysOrder 74 = .ok (.isub, 1)) ∧ (decode cX10_laysOrder 75 = .ok (.istore 6, 2)) ∧ (decode cX10_laysOrder 77 = .ok (.iinc 7 1, 3)) ∧ (decode cX10_laysOrder 80 = .ok (.goto (-36), 3)) ∧ (decode cX10_laysOrder 83 = .ok (.iload_n 2, 1)) ∧ (decode cX10_laysOrder 84 = .ok (.iconst 1, 1)) := by decide +kernel
theorem dX10_laysOrder_53 : decode cX10_laysOrder 53 = .ok (.iload 6, 2) := da9_dX10_laysOrder_53.1
theorem dX10_laysOrder_55 : decode cX10_laysOrder 55 = .ok (.ifCond .le 28, 3) := da9_dX10_laysOrder_53.2.1
theorem dX10_laysOrder_58 : decode cX10_laysOrder 58 = .ok (.iload 6, 2) := da9_dX10_laysOrder_53.2.2.1
theorem dX10_laysOrder_60 : decode cX10_laysOrder 60 = .ok (.iload_n 2, 1) := da9_dX10_laysOrder_53.2.2.2.1
theorem dX10_laysOrder_61 : decode cX10_laysOrder 61 = .ok (.iload 7, 2) := da9_dX10_laysOrder_53.2.2.2.2.1
theorem dX10_laysOrder_63 : decode cX10_laysOrder 63 = .ok (.invokestatic 383, 3) := da9_dX10_laysOrder_53.2.2.2.2.2.1
theorem dX10_laysOrder_66 : decode cX10_laysOrder 66 = .ok (.ifCond .eq 7, 3) := da9_dX10_laysOrder_53.2.2.2.2.2.2.1
theorem dX10_laysOrder_69 : decode cX10_laysOrder 69 = .ok (.iconst 0, 1) := da9_dX10_laysOrder_53.2.2.2.2.2.2.2.1
theorem dX10_laysOrder_70 : decode cX10_laysOrder 70 = .ok (.goto 4, 3) := da9_dX10_laysOrder_53.2.2.2.2.2.2.2.2.1
theorem dX10_laysOrder_73 : decode cX10_laysOrder 73 = .ok (.iconst 1, 1) := da9_dX10_laysOrder_53.2.2.2.2.2.2.2.2.2.1
theorem dX10_laysOrder_74 : decode cX10_laysOrder 74 = .ok (.isub, 1) := da9_dX10_laysOrder_53.2.2.2.2.2.2.2.2.2.2.1
theorem dX10_laysOrder_75 : decode cX10_laysOrder 75 = .ok (.istore 6, 2) := da9_dX10_laysOrder_53.2.2.2.2.2.2.2.2.2.2.2.1
theorem dX10_laysOrder_77 : decode cX10_laysOrder 77 = .ok (.iinc 7 1, 3) := da9_dX10_laysOrder_53.2.2.2.2.2.2.2.2.2.2.2.2.1
theorem dX10_laysOrder_80 : decode cX10_laysOrder 80 = .ok (.goto (-36), 3) := da9_dX10_laysOrder_53.2.2.2.2.2.2.2.2.2.2.2.2.2.1
theorem dX10_laysOrder_83 : decode cX10_laysOrder 83 = .ok (.iload_n 2, 1) := da9_dX10_laysOrder_53.2.2.2.2.2.2.2.2.2.2.2.2.2.2.1
theorem dX10_laysOrder_84 : decode cX10_laysOrder 84 = .ok (.iconst 1, 1) := da9_dX10_laysOrder_53.2.2.2.2.2.2.2.2.2.2.2.2.2.2.2
theorem da9_dX10_laysOrder_85 : (decode cX10_laysOrder 85 = .ok (.iload 7, 2)) ∧ (decode cX10_laysOrder 87 = .ok (.ishl, 1)) ∧ (decode cX10_laysOrder 88 = .ok (.ior, 1)) ∧ (decode cX10_laysOrder 89 = .ok (.istore_n 2, 1)) ∧ (decode cX10_laysOrder 90 = .ok (.aload_n 0, 1)) ∧ (decode cX10_laysOrder 91 = .ok (.getfield 75, 3)) ∧ (decode cX10_laysOrder 94 = .ok (.bipush 6, 2)) ∧ (decode cX10_laysOrder 96 = .ok (.iload_n 1, 1)) ∧ (decode cX10_laysOrder 97 = .ok (.imul, 1)) ∧ (decode cX10_laysOrder 98 = .ok (.iload 4, 2)) ∧ (decode cX10_laysOrder 100 = .ok (.iadd, 1)) ∧ (decode cX10_laysOrder 101 = .ok (.iload 7, 2)) ∧ (decode cX10_laysOrder 103 = .ok (.iastore, 1)) ∧ (decode cX10_laysOrder 104 = .ok (.iinc 4 1, 3)) ∧ (decode cX10_laysOrder 107 = .ok (.goto (-100), 3)) ∧ (decode cX10_laysOrder 110 = .ok (.return_, 1)) := by decide +kernel
theorem dX10_laysOrder_85 : decode cX10_laysOrder 85 = .ok (.iload 7, 2) := da9_dX10_laysOrder_85.1
theorem dX10_laysOrder_87 : decode cX10_laysOrder 87 = .ok (.ishl, 1) := da9_dX10_laysOrder_85.2.1
theorem dX10_laysOrder_88 : decode cX10_laysOrder 88 = .ok (.ior, 1) := da9_dX10_laysOrder_85.2.2.1
theorem dX10_laysOrder_89 : decode cX10_laysOrder 89 = .ok (.istore_n 2, 1) := da9_dX10_laysOrder_85.2.2.2.1
theorem dX10_laysOrder_90 : decode cX10_laysOrder 90 = .ok (.aload_n 0, 1) := da9_dX10_laysOrder_85.2.2.2.2.1
theorem dX10_laysOrder_91 : decode cX10_laysOrder 91 = .ok (.getfield 75, 3) := da9_dX10_laysOrder_85.2.2.2.2.2.1
theorem dX10_laysOrder_94 : decode cX10_laysOrder 94 = .ok (.bipush 6, 2) := da9_dX10_laysOrder_85.2.2.2.2.2.2.1
theorem dX10_laysOrder_96 : decode cX10_laysOrder 96 = .ok (.iload_n 1, 1) := da9_dX10_laysOrder_85.2.2.2.2.2.2.2.1
theorem dX10_laysOrder_97 : decode cX10_laysOrder 97 = .ok (.imul, 1) := da9_dX10_laysOrder_85.2.2.2.2.2.2.2.2.1
theorem dX10_laysOrder_98 : decode cX10_laysOrder 98 = .ok (.iload 4, 2) := da9_dX10_laysOrder_85.2.2.2.2.2.2.2.2.2.1
theorem dX10_laysOrder_100 : decode cX10_laysOrder 100 = .ok (.iadd, 1) := da9_dX10_laysOrder_85.2.2.2.2.2.2.2.2.2.2.1
theorem dX10_laysOrder_101 : decode cX10_laysOrder 101 = .ok (.iload 7, 2) := da9_dX10_laysOrder_85.2.2.2.2.2.2.2.2.2.2.2.1
theorem dX10_laysOrder_103 : decode cX10_laysOrder 103 = .ok (.iastore, 1) := da9_dX10_laysOrder_85.2.2.2.2.2.2.2.2.2.2.2.2.1
theorem dX10_laysOrder_104 : decode cX10_laysOrder 104 = .ok (.iinc 4 1, 3) := da9_dX10_laysOrder_85.2.2.2.2.2.2.2.2.2.2.2.2.2.1
theorem dX10_laysOrder_107 : decode cX10_laysOrder 107 = .ok (.goto (-100), 3) := da9_dX10_laysOrder_85.2.2.2.2.2.2.2.2.2.2.2.2.2.2.1
theorem dX10_laysOrder_110 : decode cX10_laysOrder 110 = .ok (.return_, 1) := da9_dX10_laysOrder_85.2.2.2.2.2.2.2.2.2.2.2.2.2.2.2
set_option maxRecDepth 20000 in
theorem ggX10_headsBehind_X10_size : GoodIn wsX10_headsBehind wsX10_size := goodIn_r _ [5, 6, 7, 8, 9, 10, 11, 12, 13, 14, 15, 16, 17, 18, 19, 20, 21, 22, 23, 24, 25, 26, 27, 28, 29, 30, 31, 32, 33, 34, 35, 36, 37, 38, 39, 40, 41, 42, 43, 44, 45, 46, 47, 48, 49, 50, 51, 52, 53, 54, 55, 56, 57, 58, 59, 60, 61, 62] rfl (by decide +kernel)
set_option maxRecDepth 20000 in
theorem gX10_headsBehind_X10_size : GoodIn wsX10_headsBehind (wsV RX10 125 RX10 yX10_size wsX10_size) := goodIn_app (goodIn_of _ (by decide +kernel)) ggX10_headsBehind_X10_size
theorem da9_dX10_headsBehind_0 : (decode cX10_headsBehind 0 = .ok (.iconst 0, 1)) ∧ (decode cX10_headsBehind 1 = .ok (.istore_n 3, 1)) ∧ (decode cX10_headsBehind 2 = .ok (.iconst 0, 1)) ∧ (decode cX10_headsBehind 3 = .ok (.istore 4, 2)) ∧ (decode cX10_headsBehind 5 = .ok (.iload 4, 2)) ∧ (decode cX10_headsBehind 7 = .ok (.aload_n 0, 1)) ∧ (decode cX10_headsBehind 8 = .ok (.invokevirtual 125, 3)) ∧ (decode cX10_headsBehind 11 = .ok (.if_icmp .ge 42, 3)) ∧ (decode cX10_headsBehind 14 = .ok (.iload_n 3, 1)) ∧ (decode cX10_headsBehind 15 = .ok (.iload 4, 2)) ∧ (decode cX10_headsBehind 17 = .ok (.iload_n 2, 1)) ∧ (decode cX10_headsBehind 18 = .ok (.if_icmp .ge 18, 3)) ∧ (decode cX10_headsBehind 21 = .ok (.iconst 1, 1)) ∧ (decode cX10_headsBehind 22 = .ok (.iload_n 1, 1)) ∧ (decode cX10_headsBehind 23 = .ok (.iload_n 2, 1)) ∧ (decode cX10_headsBehind 24 = .ok (.iconst 1, 1)) := by decide +kernel
theorem dX10_headsBehind_0 : decode cX10_headsBehind 0 = .ok (.iconst 0, 1) := da9_dX10_headsBehind_0.1
theorem dX10_headsBehind_1 : decode cX10_headsBehind 1 = .ok (.istore_n 3, 1) := da9_dX10_headsBehind_0.2.1
theorem dX10_headsBehind_2 : decode cX10_headsBehind 2 = .ok (.iconst 0, 1) := da9_dX10_headsBehind_0.2.2.1
theorem dX10_headsBehind_3 : decode cX10_headsBehind 3 = .ok (.istore 4, 2) := da9_dX10_headsBehind_0.2.2.2.1
theorem dX10_headsBehind_5 : decode cX10_headsBehind 5 = .ok (.iload 4, 2) := da9_dX10_headsBehind_0.2.2.2.2.1
theorem dX10_headsBehind_7 : decode cX10_headsBehind 7 = .ok (.aload_n 0, 1) := da9_dX10_headsBehind_0.2.2.2.2.2.1
theorem dX10_headsBehind_8 : decode cX10_headsBehind 8 = .ok (.invokevirtual 125, 3) := da9_dX10_headsBehind_0.2.2.2.2.2.2.1
theorem dX10_headsBehind_11 : decode cX10_headsBehind 11 = .ok (.if_icmp .ge 42, 3) := da9_dX10_headsBehind_0.2.2.2.2.2.2.2.1
theorem dX10_headsBehind_14 : decode cX10_headsBehind 14 = .ok (.iload_n 3, 1) := da9_dX10_headsBehind_0.2.2.2.2.2.2.2.2.1
theorem dX10_headsBehind_15 : decode cX10_headsBehind 15 = .ok (.iload 4, 2) := da9_dX10_headsBehind_0.2.2.2.2.2.2.2.2.2.1
theorem dX10_headsBehind_17 : decode cX10_headsBehind 17 = .ok (.iload_n 2, 1) := da9_dX10_headsBehind_0.2.2.2.2.2.2.2.2.2.2.1
theorem dX10_headsBehind_18 : decode cX10_headsBehind 18 = .ok (.if_icmp .ge 18, 3) := da9_dX10_headsBehind_0.2.2.2.2.2.2.2.2.2.2.2.1
theorem dX10_headsBehind_21 : decode cX10_headsBehind 21 = .ok (.iconst 1, 1) := da9_dX10_headsBehind_0.2.2.2.2.2.2.2.2.2.2.2.2.1
theorem dX10_headsBehind_22 : decode cX10_headsBehind 22 = .ok (.iload_n 1, 1) := da9_dX10_headsBehind_0.2.2.2.2.2.2.2.2.2.2.2.2.2.1
theorem dX10_headsBehind_23 : decode cX10_headsBehind 23 = .ok (.iload_n 2, 1) := da9_dX10_headsBehind_0.2.2.2.2.2.2.2.2.2.2.2.2.2.2.1
theorem dX10_headsBehind_24 : decode cX10_headsBehind 24 = .ok (.iconst 1, 1) := da9_dX10_headsBehind_0.2.2.2.2.2.2.2.2.2.2.2.2.2.2.2
theorem da9_dX10_headsBehind_25 : (decode cX10_headsBehind 25 = .ok (.isub, 1)) ∧ (decode cX10_headsBehind 26 = .ok (.iload 4, 2)) ∧ (decode cX10_headsBehind 28 = .ok (.isub, 1)) ∧ (decode cX10_headsBehind 29 = .ok (.ishr, 1)) ∧ (decode cX10_headsBehind 30 = .ok (.iconst 1, 1)) ∧ (decode cX10_headsBehind 31 = .ok (.iand, 1)) ∧ (decode cX10_headsBehind 32 = .ok (.isub, 1)) ∧ (decode cX10_headsBehind 33 = .ok (.goto 9, 3)) ∧ (decode cX10_headsBehind 36 = .ok (.iload_n 1, 1)) ∧ (decode cX10_headsBehind 37 = .ok (.iload 4, 2)) ∧ (decode cX10_headsBehind 39 = .ok (.ishr, 1)) ∧ (decode cX10_headsBehind 40 = .ok (.iconst 1, 1)) ∧ (decode cX10_headsBehind 41 = .ok (.iand, 1)) ∧ (decode cX10_headsBehind 42 = .ok (.iload 4, 2)) ∧ (decode cX10_headsBehind 44 = .ok (.ishl, 1)) ∧ (decode cX10_headsBehind 45 = .ok (.ior, 1)) := by decide +kernel
theorem dX10_headsBehind_25 : decode cX10_headsBehind 25 = .ok (.isub, 1) := da9_dX10_headsBehind_25.1
theorem dX10_headsBehind_26 : decode cX10_headsBehind 26 = .ok (.iload 4, 2) := da9_dX10_headsBehind_25.2.1
theorem dX10_headsBehind_28 : decode cX10_headsBehind 28 = .ok (.isub, 1) := da9_dX10_headsBehind_25.2.2.1
theorem dX10_headsBehind_29 : decode cX10_headsBehind 29 = .ok (.ishr, 1) := da9_dX10_headsBehind_25.2.2.2.1
theorem dX10_headsBehind_30 : decode cX10_headsBehind 30 = .ok (.iconst 1, 1) := da9_dX10_headsBehind_25.2.2.2.2.1
theorem dX10_headsBehind_31 : decode cX10_headsBehind 31 = .ok (.iand, 1) := da9_dX10_headsBehind_25.2.2.2.2.2.1
theorem dX10_headsBehind_32 : decode cX10_headsBehind 32 = .ok (.isub, 1) := da9_dX10_headsBehind_25.2.2.2.2.2.2.1
theorem dX10_headsBehind_33 : decode cX10_headsBehind 33 = .ok (.goto 9, 3) := da9_dX10_headsBehind_25.2.2.2.2.2.2.2.1
theorem dX10_headsBehind_36 : decode cX10_headsBehind 36 = .ok (.iload_n 1, 1) := da9_dX10_headsBehind_25.2.2.2.2.2.2.2.2.1
theorem dX10_headsBehind_37 : decode cX10_headsBehind 37 = .ok (.iload 4, 2) := da9_dX10_headsBehind_25.2.2.2.2.2.2.2.2.2.1
theorem dX10_headsBehind_39 : decode cX10_headsBehind 39 = .ok (.ishr, 1) := da9_dX10_headsBehind_25.2.2.2.2.2.2.2.2.2.2.1
theorem dX10_headsBehind_40 : decode cX10_headsBehind 40 = .ok (.iconst 1, 1) := da9_dX10_headsBehind_25.2.2.2.2.2.2.2.2.2.2.2.1
theorem dX10_headsBehind_41 : decode cX10_headsBehind 41 = .ok (.iand, 1) := da9_dX10_headsBehind_25.2.2.2.2.2.2.2.2.2.2.2.2.1
theorem dX10_headsBehind_42 : decode cX10_headsBehind 42 = .ok (.iload 4, 2) := da9_dX10_headsBehind_25.2.2.2.2.2.2.2.2.2.2.2.2.2.1
theorem dX10_headsBehind_44 : decode cX10_headsBehind 44 = .ok (.ishl, 1) := da9_dX10_headsBehind_25.2.2.2.2.2.2.2.2.2.2.2.2.2.2.1
theorem dX10_headsBehind_45 : decode cX10_headsBehind 45 = .ok (.ior, 1) := da9_dX10_headsBehind_25.2.2.2.2.2.2.2.2.2.2.2.2.2.2.2
theorem da9_dX10_headsBehind_46 : (decode cX10_headsBehind 46 = .ok (.istore_n 3, 1)) ∧ (decode cX10_headsBehind 47 = .ok (.iinc 4 1, 3)) ∧ (decode cX10_headsBehind 50 = .ok (.goto (-45), 3)) ∧ (decode cX10_headsBehind 53 = .ok (.iload_n 3, 1)) ∧ (decode cX10_headsBehind 54 = .ok (.ireturn, 1)) := by decide +kernel
theorem dX10_headsBehind_46 : decode cX10_headsBehind 46 = .ok (.istore_n 3, 1) := da9_dX10_headsBehind_46.1
theorem dX10_headsBehind_47 : decode cX10_headsBehind 47 = .ok (.iinc 4 1, 3) := da9_dX10_headsBehind_46.2.1
theorem dX10_headsBehind_50 : decode cX10_headsBehind 50 = .ok (.goto (-45), 3) := da9_dX10_headsBehind_46.2.2.1
theorem dX10_headsBehind_53 : decode cX10_headsBehind 53 = .ok (.iload_n 3, 1) := da9_dX10_headsBehind_46.2.2.2.1
theorem dX10_headsBehind_54 : decode cX10_headsBehind 54 = .ok (.ireturn, 1) := da9_dX10_headsBehind_46.2.2.2.2
set_option maxRecDepth 20000 in
theorem ggX10_laysTables_X10_size : GoodIn wsX10_laysTables wsX10_size := goodIn_r _ [11, 12, 31, 32, 33, 34, 35, 36, 37, 38, 39, 40, 41, 42, 43, 44, 45, 46, 47, 48, 49, 50, 51, 52, 53, 54, 55, 56, 57, 58, 59, 60, 61, 62, 63, 64, 65, 66, 67, 68, 69, 70, 71, 72, 73, 74, 75, 76, 77, 78, 79, 80, 81, 82, 83, 84, 85, 86] rfl (by decide +kernel)
set_option maxRecDepth 20000 in
theorem gX10_laysTables_X10_size : GoodIn wsX10_laysTables (wsV RX10 125 RX10 yX10_size wsX10_size) := goodIn_app (goodIn_of _ (by decide +kernel)) ggX10_laysTables_X10_size
set_option maxRecDepth 20000 in
theorem ggX10_laysTables_X10_allOrders : GoodIn wsX10_laysTables wsX10_allOrders := goodIn_r _ [15] rfl (by decide +kernel)
set_option maxRecDepth 20000 in
theorem gX10_laysTables_X10_allOrders : GoodIn wsX10_laysTables (va_wsS RX10 380 yX10_allOrders wsX10_allOrders) := goodIn_app (goodIn_of _ (by decide +kernel)) ggX10_laysTables_X10_allOrders
set_option maxRecDepth 20000 in
theorem ggX10_laysTables_X10_laysOrder : GoodIn wsX10_laysTables wsX10_laysOrder := goodIn_r _ [19, 4, 7, 8, 9, 10, 11, 12, 13, 14, 15, 20, 21, 22, 31, 32, 33, 34, 35, 36, 37, 38, 39, 40, 41, 42, 43, 44, 45, 46, 47, 48, 49, 50, 51, 52, 53, 54, 55, 56, 57, 58, 59, 60, 61, 62, 63, 64, 65, 66, 67, 68, 69, 70, 71, 72, 73, 74, 75, 76, 77, 78, 79, 80, 81, 82, 83, 84, 85, 86] rfl (by decide +kernel)
set_option maxRecDepth 20000 in
theorem gX10_laysTables_X10_laysOrder : GoodIn wsX10_laysTables (wsV RX10 392 RX10 yX10_laysOrder wsX10_laysOrder) := goodIn_app (goodIn_of _ (by decide +kernel)) ggX10_laysTables_X10_laysOrder
set_option maxRecDepth 20000 in
theorem ggX10_laysTables_X10_numberOf : GoodIn wsX10_laysTables wsX10_numberOf := goodIn_r _ [26, 3, 7, 8, 9, 10, 11, 12, 31, 32, 33, 34, 35, 36, 37, 38, 39, 40, 41, 42, 43, 44, 45, 46, 47, 48, 49, 50, 51, 52, 53, 54, 55, 56, 57, 58, 59, 60, 61, 62, 63, 64, 65, 66, 67, 68, 69, 70, 71, 72, 73, 74, 75, 76, 77, 78, 79, 80, 81, 82, 83, 84, 85, 86] rfl (by decide +kernel)
set_option maxRecDepth 20000 in
theorem gX10_laysTables_X10_numberOf : GoodIn wsX10_laysTables (wsV RX10 395 RX10 yX10_numberOf wsX10_numberOf) := goodIn_app (goodIn_of _ (by decide +kernel)) ggX10_laysTables_X10_numberOf
set_option maxRecDepth 20000 in
theorem ggX10_laysTables_X10_headsBehind : GoodIn wsX10_laysTables wsX10_headsBehind := goodIn_r _ [30, 7, 8, 9, 10, 11, 12, 31, 32, 33, 34, 35, 36, 37, 38, 39, 40, 41, 42, 43, 44, 45, 46, 47, 48, 49, 50, 51, 52, 53, 54, 55, 56, 57, 58, 59, 60, 61, 62, 63, 64, 65, 66, 67, 68, 69, 70, 71, 72, 73, 74, 75, 76, 77, 78, 79, 80, 81, 82, 83, 84, 85, 86] rfl (by decide +kernel)
set_option maxRecDepth 20000 in
theorem gX10_laysTables_X10_headsBehind : GoodIn wsX10_laysTables (wsV RX10 398 RX10 yX10_headsBehind wsX10_headsBehind) := goodIn_app (goodIn_of _ (by decide +kernel)) ggX10_laysTables_X10_headsBehind
theorem da9_dX10_laysTables_0 : (decode cX10_laysTables 0 = .ok (.aload_n 0, 1)) ∧ (decode cX10_laysTables 1 = .ok (.aload_n 0, 1)) ∧ (decode cX10_laysTables 2 = .ok (.invokevirtual 125, 3)) ∧ (decode cX10_laysTables 5 = .ok (.invokestatic 380, 3)) ∧ (decode cX10_laysTables 8 = .ok (.putfield 386, 3)) ∧ (decode cX10_laysTables 11 = .ok (.aload_n 0, 1)) ∧ (decode cX10_laysTables 12 = .ok (.iconst 1, 1)) ∧ (decode cX10_laysTables 13 = .ok (.aload_n 0, 1)) ∧ (decode cX10_laysTables 14 = .ok (.invokevirtual 125, 3)) ∧ (decode cX10_laysTables 17 = .ok (.ishl, 1)) ∧ (decode cX10_laysTables 18 = .ok (.putfield 389, 3)) ∧ (decode cX10_laysTables 21 = .ok (.iconst 0, 1)) ∧ (decode cX10_laysTables 22 = .ok (.istore_n 1, 1)) ∧ (decode cX10_laysTables 23 = .ok (.iload_n 1, 1)) ∧ (decode cX10_laysTables 24 = .ok (.aload_n 0, 1)) ∧ (decode cX10_laysTables 25 = .ok (.getfield 386, 3)) := by decide +kernel
theorem dX10_laysTables_0 : decode cX10_laysTables 0 = .ok (.aload_n 0, 1) := da9_dX10_laysTables_0.1
theorem dX10_laysTables_1 : decode cX10_laysTables 1 = .ok (.aload_n 0, 1) := da9_dX10_laysTables_0.2.1
theorem dX10_laysTables_2 : decode cX10_laysTables 2 = .ok (.invokevirtual 125, 3) := da9_dX10_laysTables_0.2.2.1
theorem dX10_laysTables_5 : decode cX10_laysTables 5 = .ok (.invokestatic 380, 3) := da9_dX10_laysTables_0.2.2.2.1
theorem dX10_laysTables_8 : decode cX10_laysTables 8 = .ok (.putfield 386, 3) := da9_dX10_laysTables_0.2.2.2.2.1
theorem dX10_laysTables_11 : decode cX10_laysTables 11 = .ok (.aload_n 0, 1) := da9_dX10_laysTables_0.2.2.2.2.2.1
theorem dX10_laysTables_12 : decode cX10_laysTables 12 = .ok (.iconst 1, 1) := da9_dX10_laysTables_0.2.2.2.2.2.2.1
theorem dX10_laysTables_13 : decode cX10_laysTables 13 = .ok (.aload_n 0, 1) := da9_dX10_laysTables_0.2.2.2.2.2.2.2.1
theorem dX10_laysTables_14 : decode cX10_laysTables 14 = .ok (.invokevirtual 125, 3) := da9_dX10_laysTables_0.2.2.2.2.2.2.2.2.1
theorem dX10_laysTables_17 : decode cX10_laysTables 17 = .ok (.ishl, 1) := da9_dX10_laysTables_0.2.2.2.2.2.2.2.2.2.1
theorem dX10_laysTables_18 : decode cX10_laysTables 18 = .ok (.putfield 389, 3) := da9_dX10_laysTables_0.2.2.2.2.2.2.2.2.2.2.1
theorem dX10_laysTables_21 : decode cX10_laysTables 21 = .ok (.iconst 0, 1) := da9_dX10_laysTables_0.2.2.2.2.2.2.2.2.2.2.2.1
theorem dX10_laysTables_22 : decode cX10_laysTables 22 = .ok (.istore_n 1, 1) := da9_dX10_laysTables_0.2.2.2.2.2.2.2.2.2.2.2.2.1
theorem dX10_laysTables_23 : decode cX10_laysTables 23 = .ok (.iload_n 1, 1) := da9_dX10_laysTables_0.2.2.2.2.2.2.2.2.2.2.2.2.2.1
theorem dX10_laysTables_24 : decode cX10_laysTables 24 = .ok (.aload_n 0, 1) := da9_dX10_laysTables_0.2.2.2.2.2.2.2.2.2.2.2.2.2.2.1
theorem dX10_laysTables_25 : decode cX10_laysTables 25 = .ok (.getfield 386, 3) := da9_dX10_laysTables_0.2.2.2.2.2.2.2.2.2.2.2.2.2.2.2
theorem da9_dX10_laysTables_28 : (decode cX10_laysTables 28 = .ok (.if_icmp .ge 91, 3)) ∧ (decode cX10_laysTables 31 = .ok (.aload_n 0, 1)) ∧ (decode cX10_laysTables 32 = .ok (.iload_n 1, 1)) ∧ (decode cX10_laysTables 33 = .ok (.invokevirtual 392, 3)) ∧ (decode cX10_laysTables 36 = .ok (.iconst 1, 1)) ∧ (decode cX10_laysTables 37 = .ok (.istore_n 2, 1)) ∧ (decode cX10_laysTables 38 = .ok (.iload_n 2, 1)) ∧ (decode cX10_laysTables 39 = .ok (.aload_n 0, 1)) ∧ (decode cX10_laysTables 40 = .ok (.invokevirtual 125, 3)) ∧ (decode cX10_laysTables 43 = .ok (.if_icmp .gt 70, 3)) ∧ (decode cX10_laysTables 46 = .ok (.iconst 0, 1)) ∧ (decode cX10_laysTables 47 = .ok (.istore_n 3, 1)) ∧ (decode cX10_laysTables 48 = .ok (.iload_n 3, 1)) ∧ (decode cX10_laysTables 49 = .ok (.aload_n 0, 1)) ∧ (decode cX10_laysTables 50 = .ok (.invokevirtual 125, 3)) ∧ (decode cX10_laysTables 53 = .ok (.if_icmp .ge 39, 3)) := by decide +kernel
theorem dX10_laysTables_28 : decode cX10_laysTables 28 = .ok (.if_icmp .ge 91, 3) := da9_dX10_laysTables_28.1
theorem dX10_laysTables_31 : decode cX10_laysTables 31 = .ok (.aload_n 0, 1) := da9_dX10_laysTables_28.2.1
theorem dX10_laysTables_32 : decode cX10_laysTables 32 = .ok (.iload_n 1, 1) := da9_dX10_laysTables_28.2.2.1
theorem dX10_laysTables_33 : decode cX10_laysTables 33 = .ok (.invokevirtual 392, 3) := da9_dX10_laysTables_28.2.2.2.1
theorem dX10_laysTables_36 : decode cX10_laysTables 36 = .ok (.iconst 1, 1) := da9_dX10_laysTables_28.2.2.2.2.1
theorem dX10_laysTables_37 : decode cX10_laysTables 37 = .ok (.istore_n 2, 1) := da9_dX10_laysTables_28.2.2.2.2.2.1
theorem dX10_laysTables_38 : decode cX10_laysTables 38 = .ok (.iload_n 2, 1) := da9_dX10_laysTables_28.2.2.2.2.2.2.1
theorem dX10_laysTables_39 : decode cX10_laysTables 39 = .ok (.aload_n 0, 1) := da9_dX10_laysTables_28.2.2.2.2.2.2.2.1
theorem dX10_laysTables_40 : decode cX10_laysTables 40 = .ok (.invokevirtual 125, 3) := da9_dX10_laysTables_28.2.2.2.2.2.2.2.2.1
theorem dX10_laysTables_43 : decode cX10_laysTables 43 = .ok (.if_icmp .gt 70, 3) := da9_dX10_laysTables_28.2.2.2.2.2.2.2.2.2.1
theorem dX10_laysTables_46 : decode cX10_laysTables 46 = .ok (.iconst 0, 1) := da9_dX10_laysTables_28.2.2.2.2.2.2.2.2.2.2.1
theorem dX10_laysTables_47 : decode cX10_laysTables 47 = .ok (.istore_n 3, 1) := da9_dX10_laysTables_28.2.2.2.2.2.2.2.2.2.2.2.1
theorem dX10_laysTables_48 : decode cX10_laysTables 48 = .ok (.iload_n 3, 1) := da9_dX10_laysTables_28.2.2.2.2.2.2.2.2.2.2.2.2.1
theorem dX10_laysTables_49 : decode cX10_laysTables 49 = .ok (.aload_n 0, 1) := da9_dX10_laysTables_28.2.2.2.2.2.2.2.2.2.2.2.2.2.1
theorem dX10_laysTables_50 : decode cX10_laysTables 50 = .ok (.invokevirtual 125, 3) := da9_dX10_laysTables_28.2.2.2.2.2.2.2.2.2.2.2.2.2.2.1
theorem dX10_laysTables_53 : decode cX10_laysTables 53 = .ok (.if_icmp .ge 39, 3) := da9_dX10_laysTables_28.2.2.2.2.2.2.2.2.2.2.2.2.2.2.2
theorem da9_dX10_laysTables_56 : (decode cX10_laysTables 56 = .ok (.aload_n 0, 1)) ∧ (decode cX10_laysTables 57 = .ok (.getfield 84, 3)) ∧ (decode cX10_laysTables 60 = .ok (.iload_n 3, 1)) ∧ (decode cX10_laysTables 61 = .ok (.aload_n 0, 1)) ∧ (decode cX10_laysTables 62 = .ok (.getfield 75, 3)) ∧ (decode cX10_laysTables 65 = .ok (.bipush 6, 2)) ∧ (decode cX10_laysTables 67 = .ok (.iload_n 1, 1)) ∧ (decode cX10_laysTables 68 = .ok (.imul, 1)) ∧ (decode cX10_laysTables 69 = .ok (.iload_n 3, 1)) ∧ (decode cX10_laysTables 70 = .ok (.iload_n 2, 1)) ∧ (decode cX10_laysTables 71 = .ok (.if_icmp .ge 11, 3)) ∧ (decode cX10_laysTables 74 = .ok (.iload_n 2, 1)) ∧ (decode cX10_laysTables 75 = .ok (.iconst 1, 1)) ∧ (decode cX10_laysTables 76 = .ok (.isub, 1)) ∧ (decode cX10_laysTables 77 = .ok (.iload_n 3, 1)) ∧ (decode cX10_laysTables 78 = .ok (.isub, 1)) := by decide +kernel
theorem dX10_laysTables_56 : decode cX10_laysTables 56 = .ok (.aload_n 0, 1) := da9_dX10_laysTables_56.1
theorem dX10_laysTables_57 : decode cX10_laysTables 57 = .ok (.getfield 84, 3) := da9_dX10_laysTables_56.2.1
theorem dX10_laysTables_60 : decode cX10_laysTables 60 = .ok (.iload_n 3, 1) := da9_dX10_laysTables_56.2.2.1
theorem dX10_laysTables_61 : decode cX10_laysTables 61 = .ok (.aload_n 0, 1) := da9_dX10_laysTables_56.2.2.2.1
theorem dX10_laysTables_62 : decode cX10_laysTables 62 = .ok (.getfield 75, 3) := da9_dX10_laysTables_56.2.2.2.2.1
theorem dX10_laysTables_65 : decode cX10_laysTables 65 = .ok (.bipush 6, 2) := da9_dX10_laysTables_56.2.2.2.2.2.1
theorem dX10_laysTables_67 : decode cX10_laysTables 67 = .ok (.iload_n 1, 1) := da9_dX10_laysTables_56.2.2.2.2.2.2.1
theorem dX10_laysTables_68 : decode cX10_laysTables 68 = .ok (.imul, 1) := da9_dX10_laysTables_56.2.2.2.2.2.2.2.1
theorem dX10_laysTables_69 : decode cX10_laysTables 69 = .ok (.iload_n 3, 1) := da9_dX10_laysTables_56.2.2.2.2.2.2.2.2.1
theorem dX10_laysTables_70 : decode cX10_laysTables 70 = .ok (.iload_n 2, 1) := da9_dX10_laysTables_56.2.2.2.2.2.2.2.2.2.1
theorem dX10_laysTables_71 : decode cX10_laysTables 71 = .ok (.if_icmp .ge 11, 3) := da9_dX10_laysTables_56.2.2.2.2.2.2.2.2.2.2.1
theorem dX10_laysTables_74 : decode cX10_laysTables 74 = .ok (.iload_n 2, 1) := da9_dX10_laysTables_56.2.2.2.2.2.2.2.2.2.2.2.1
theorem dX10_laysTables_75 : decode cX10_laysTables 75 = .ok (.iconst 1, 1) := da9_dX10_laysTables_56.2.2.2.2.2.2.2.2.2.2.2.2.1
theorem dX10_laysTables_76 : decode cX10_laysTables 76 = .ok (.isub, 1) := da9_dX10_laysTables_56.2.2.2.2.2.2.2.2.2.2.2.2.2.1
theorem dX10_laysTables_77 : decode cX10_laysTables 77 = .ok (.iload_n 3, 1) := da9_dX10_laysTables_56.2.2.2.2.2.2.2.2.2.2.2.2.2.2.1
theorem dX10_laysTables_78 : decode cX10_laysTables 78 = .ok (.isub, 1) := da9_dX10_laysTables_56.2.2.2.2.2.2.2.2.2.2.2.2.2.2.2
theorem da9_dX10_laysTables_79 : (decode cX10_laysTables 79 = .ok (.goto 4, 3)) ∧ (decode cX10_laysTables 82 = .ok (.iload_n 3, 1)) ∧ (decode cX10_laysTables 83 = .ok (.iadd, 1)) ∧ (decode cX10_laysTables 84 = .ok (.iaload, 1)) ∧ (decode cX10_laysTables 85 = .ok (.iastore, 1)) ∧ (decode cX10_laysTables 86 = .ok (.iinc 3 1, 3)) ∧ (decode cX10_laysTables 89 = .ok (.goto (-41), 3)) ∧ (decode cX10_laysTables 92 = .ok (.aload_n 0, 1)) ∧ (decode cX10_laysTables 93 = .ok (.getfield 78, 3)) ∧ (decode cX10_laysTables 96 = .ok (.bipush 7, 2)) ∧ (decode cX10_laysTables 98 = .ok (.iload_n 1, 1)) ∧ (decode cX10_laysTables 99 = .ok (.imul, 1)) ∧ (decode cX10_laysTables 100 = .ok (.iload_n 2, 1)) ∧ (decode cX10_laysTables 101 = .ok (.iadd, 1)) ∧ (decode cX10_laysTables 102 = .ok (.aload_n 0, 1)) ∧ (decode cX10_laysTables 103 = .ok (.invokevirtual 395, 3)) := by decide +kernel
theorem dX10_laysTables_79 : decode cX10_laysTables 79 = .ok (.goto 4, 3) := da9_dX10_laysTables_79.1
theorem dX10_laysTables_82 : decode cX10_laysTables 82 = .ok (.iload_n 3, 1) := da9_dX10_laysTables_79.2.1
theorem dX10_laysTables_83 : decode cX10_laysTables 83 = .ok (.iadd, 1) := da9_dX10_laysTables_79.2.2.1
theorem dX10_laysTables_84 : decode cX10_laysTables 84 = .ok (.iaload, 1) := da9_dX10_laysTables_79.2.2.2.1
theorem dX10_laysTables_85 : decode cX10_laysTables 85 = .ok (.iastore, 1) := da9_dX10_laysTables_79.2.2.2.2.1
theorem dX10_laysTables_86 : decode cX10_laysTables 86 = .ok (.iinc 3 1, 3) := da9_dX10_laysTables_79.2.2.2.2.2.1
theorem dX10_laysTables_89 : decode cX10_laysTables 89 = .ok (.goto (-41), 3) := da9_dX10_laysTables_79.2.2.2.2.2.2.1
theorem dX10_laysTables_92 : decode cX10_laysTables 92 = .ok (.aload_n 0, 1) := da9_dX10_laysTables_79.2.2.2.2.2.2.2.1
theorem dX10_laysTables_93 : decode cX10_laysTables 93 = .ok (.getfield 78, 3) := da9_dX10_laysTables_79.2.2.2.2.2.2.2.2.1
theorem dX10_laysTables_96 : decode cX10_laysTables 96 = .ok (.bipush 7, 2) := da9_dX10_laysTables_79.2.2.2.2.2.2.2.2.2.1
theorem dX10_laysTables_98 : decode cX10_laysTables 98 = .ok (.iload_n 1, 1) := da9_dX10_laysTables_79.2.2.2.2.2.2.2.2.2.2.1
theorem dX10_laysTables_99 : decode cX10_laysTables 99 = .ok (.imul, 1) := da9_dX10_laysTables_79.2.2.2.2.2.2.2.2.2.2.2.1
theorem dX10_laysTables_100 : decode cX10_laysTables 100 = .ok (.iload_n 2, 1) := da9_dX10_laysTables_79.2.2.2.2.2.2.2.2.2.2.2.2.1
theorem dX10_laysTables_101 : decode cX10_laysTables 101 = .ok (.iadd, 1) := da9_dX10_laysTables_79.2.2.2.2.2.2.2.2.2.2.2.2.2.1
theorem dX10_laysTables_102 : decode cX10_laysTables 102 = .ok (.aload_n 0, 1) := da9_dX10_laysTables_79.2.2.2.2.2.2.2.2.2.2.2.2.2.2.1
theorem dX10_laysTables_103 : decode cX10_laysTables 103 = .ok (.invokevirtual 395, 3) := da9_dX10_laysTables_79.2.2.2.2.2.2.2.2.2.2.2.2.2.2.2
theorem da9_dX10_laysTables_106 : (decode cX10_laysTables 106 = .ok (.iastore, 1)) ∧ (decode cX10_laysTables 107 = .ok (.iinc 2 1, 3)) ∧ (decode cX10_laysTables 110 = .ok (.goto (-72), 3)) ∧ (decode cX10_laysTables 113 = .ok (.iinc 1 1, 3)) ∧ (decode cX10_laysTables 116 = .ok (.goto (-93), 3)) ∧ (decode cX10_laysTables 119 = .ok (.iconst 0, 1)) ∧ (decode cX10_laysTables 120 = .ok (.istore_n 1, 1)) ∧ (decode cX10_laysTables 121 = .ok (.iload_n 1, 1)) ∧ (decode cX10_laysTables 122 = .ok (.aload_n 0, 1)) ∧ (decode cX10_laysTables 123 = .ok (.getfield 389, 3)) ∧ (decode cX10_laysTables 126 = .ok (.if_icmp .ge 42, 3)) ∧ (decode cX10_laysTables 129 = .ok (.iconst 1, 1)) ∧ (decode cX10_laysTables 130 = .ok (.istore_n 2, 1)) ∧ (decode cX10_laysTables 131 = .ok (.iload_n 2, 1)) ∧ (decode cX10_laysTables 132 = .ok (.aload_n 0, 1)) ∧ (decode cX10_laysTables 133 = .ok (.invokevirtual 125, 3)) := by decide +kernel
theorem dX10_laysTables_106 : decode cX10_laysTables 106 = .ok (.iastore, 1) := da9_dX10_laysTables_106.1
theorem dX10_laysTables_107 : decode cX10_laysTables 107 = .ok (.iinc 2 1, 3) := da9_dX10_laysTables_106.2.1
theorem dX10_laysTables_110 : decode cX10_laysTables 110 = .ok (.goto (-72), 3) := da9_dX10_laysTables_106.2.2.1
theorem dX10_laysTables_113 : decode cX10_laysTables 113 = .ok (.iinc 1 1, 3) := da9_dX10_laysTables_106.2.2.2.1
theorem dX10_laysTables_116 : decode cX10_laysTables 116 = .ok (.goto (-93), 3) := da9_dX10_laysTables_106.2.2.2.2.1
theorem dX10_laysTables_119 : decode cX10_laysTables 119 = .ok (.iconst 0, 1) := da9_dX10_laysTables_106.2.2.2.2.2.1
theorem dX10_laysTables_120 : decode cX10_laysTables 120 = .ok (.istore_n 1, 1) := da9_dX10_laysTables_106.2.2.2.2.2.2.1
theorem dX10_laysTables_121 : decode cX10_laysTables 121 = .ok (.iload_n 1, 1) := da9_dX10_laysTables_106.2.2.2.2.2.2.2.1
theorem dX10_laysTables_122 : decode cX10_laysTables 122 = .ok (.aload_n 0, 1) := da9_dX10_laysTables_106.2.2.2.2.2.2.2.2.1
theorem dX10_laysTables_123 : decode cX10_laysTables 123 = .ok (.getfield 389, 3) := da9_dX10_laysTables_106.2.2.2.2.2.2.2.2.2.1
theorem dX10_laysTables_126 : decode cX10_laysTables 126 = .ok (.if_icmp .ge 42, 3) := da9_dX10_laysTables_106.2.2.2.2.2.2.2.2.2.2.1
theorem dX10_laysTables_129 : decode cX10_laysTables 129 = .ok (.iconst 1, 1) := da9_dX10_laysTables_106.2.2.2.2.2.2.2.2.2.2.2.1
theorem dX10_laysTables_130 : decode cX10_laysTables 130 = .ok (.istore_n 2, 1) := da9_dX10_laysTables_106.2.2.2.2.2.2.2.2.2.2.2.2.1
theorem dX10_laysTables_131 : decode cX10_laysTables 131 = .ok (.iload_n 2, 1) := da9_dX10_laysTables_106.2.2.2.2.2.2.2.2.2.2.2.2.2.1
theorem dX10_laysTables_132 : decode cX10_laysTables 132 = .ok (.aload_n 0, 1) := da9_dX10_laysTables_106.2.2.2.2.2.2.2.2.2.2.2.2.2.2.1
theorem dX10_laysTables_133 : decode cX10_laysTables 133 = .ok (.invokevirtual 125, 3) := da9_dX10_laysTables_106.2.2.2.2.2.2.2.2.2.2.2.2.2.2.2
theorem da9_dX10_laysTables_136 : (decode cX10_laysTables 136 = .ok (.if_icmp .gt 26, 3)) ∧ (decode cX10_laysTables 139 = .ok (.aload_n 0, 1)) ∧ (decode cX10_laysTables 140 = .ok (.getfield 81, 3)) ∧ (decode cX10_laysTables 143 = .ok (.bipush 7, 2)) ∧ (decode cX10_laysTables 145 = .ok (.iload_n 1, 1)) ∧ (decode cX10_laysTables 146 = .ok (.imul, 1)) ∧ (decode cX10_laysTables 147 = .ok (.iload_n 2, 1)) ∧ (decode cX10_laysTables 148 = .ok (.iadd, 1)) ∧ (decode cX10_laysTables 149 = .ok (.aload_n 0, 1)) ∧ (decode cX10_laysTables 150 = .ok (.iload_n 1, 1)) ∧ (decode cX10_laysTables 151 = .ok (.iload_n 2, 1)) ∧ (decode cX10_laysTables 152 = .ok (.invokevirtual 398, 3)) ∧ (decode cX10_laysTables 155 = .ok (.iastore, 1)) ∧ (decode cX10_laysTables 156 = .ok (.iinc 2 1, 3)) ∧ (decode cX10_laysTables 159 = .ok (.goto (-28), 3)) ∧ (decode cX10_laysTables 162 = .ok (.iinc 1 1, 3)) := by decide +kernel
theorem dX10_laysTables_136 : decode cX10_laysTables 136 = .ok (.if_icmp .gt 26, 3) := da9_dX10_laysTables_136.1
theorem dX10_laysTables_139 : decode cX10_laysTables 139 = .ok (.aload_n 0, 1) := da9_dX10_laysTables_136.2.1
theorem dX10_laysTables_140 : decode cX10_laysTables 140 = .ok (.getfield 81, 3) := da9_dX10_laysTables_136.2.2.1
theorem dX10_laysTables_143 : decode cX10_laysTables 143 = .ok (.bipush 7, 2) := da9_dX10_laysTables_136.2.2.2.1
theorem dX10_laysTables_145 : decode cX10_laysTables 145 = .ok (.iload_n 1, 1) := da9_dX10_laysTables_136.2.2.2.2.1
theorem dX10_laysTables_146 : decode cX10_laysTables 146 = .ok (.imul, 1) := da9_dX10_laysTables_136.2.2.2.2.2.1
theorem dX10_laysTables_147 : decode cX10_laysTables 147 = .ok (.iload_n 2, 1) := da9_dX10_laysTables_136.2.2.2.2.2.2.1
theorem dX10_laysTables_148 : decode cX10_laysTables 148 = .ok (.iadd, 1) := da9_dX10_laysTables_136.2.2.2.2.2.2.2.1
theorem dX10_laysTables_149 : decode cX10_laysTables 149 = .ok (.aload_n 0, 1) := da9_dX10_laysTables_136.2.2.2.2.2.2.2.2.1
theorem dX10_laysTables_150 : decode cX10_laysTables 150 = .ok (.iload_n 1, 1) := da9_dX10_laysTables_136.2.2.2.2.2.2.2.2.2.1
theorem dX10_laysTables_151 : decode cX10_laysTables 151 = .ok (.iload_n 2, 1) := da9_dX10_laysTables_136.2.2.2.2.2.2.2.2.2.2.1
theorem dX10_laysTables_152 : decode cX10_laysTables 152 = .ok (.invokevirtual 398, 3) := da9_dX10_laysTables_136.2.2.2.2.2.2.2.2.2.2.2.1
theorem dX10_laysTables_155 : decode cX10_laysTables 155 = .ok (.iastore, 1) := da9_dX10_laysTables_136.2.2.2.2.2.2.2.2.2.2.2.2.1
theorem dX10_laysTables_156 : decode cX10_laysTables 156 = .ok (.iinc 2 1, 3) := da9_dX10_laysTables_136.2.2.2.2.2.2.2.2.2.2.2.2.2.1
theorem dX10_laysTables_159 : decode cX10_laysTables 159 = .ok (.goto (-28), 3) := da9_dX10_laysTables_136.2.2.2.2.2.2.2.2.2.2.2.2.2.2.1
theorem dX10_laysTables_162 : decode cX10_laysTables 162 = .ok (.iinc 1 1, 3) := da9_dX10_laysTables_136.2.2.2.2.2.2.2.2.2.2.2.2.2.2.2
theorem da9_dX10_laysTables_165 : (decode cX10_laysTables 165 = .ok (.goto (-44), 3)) ∧ (decode cX10_laysTables 168 = .ok (.return_, 1)) := by decide +kernel
theorem dX10_laysTables_165 : decode cX10_laysTables 165 = .ok (.goto (-44), 3) := da9_dX10_laysTables_165.1
theorem dX10_laysTables_168 : decode cX10_laysTables 168 = .ok (.return_, 1) := da9_dX10_laysTables_165.2
theorem da9_dX10_behind_0 : (decode cX10_behind 0 = .ok (.bipush 64, 2)) ∧ (decode cX10_behind 2 = .ok (.aload_n 0, 1)) ∧ (decode cX10_behind 3 = .ok (.getfield 78, 3)) ∧ (decode cX10_behind 6 = .ok (.bipush 7, 2)) ∧ (decode cX10_behind 8 = .ok (.iload_n 1, 1)) ∧ (decode cX10_behind 9 = .ok (.bipush 64, 2)) ∧ (decode cX10_behind 11 = .ok (.idiv, 1)) ∧ (decode cX10_behind 12 = .ok (.imul, 1)) ∧ (decode cX10_behind 13 = .ok (.iload_n 2, 1)) ∧ (decode cX10_behind 14 = .ok (.iadd, 1)) ∧ (decode cX10_behind 15 = .ok (.iaload, 1)) ∧ (decode cX10_behind 16 = .ok (.imul, 1)) ∧ (decode cX10_behind 17 = .ok (.aload_n 0, 1)) ∧ (decode cX10_behind 18 = .ok (.getfield 81, 3)) ∧ (decode cX10_behind 21 = .ok (.bipush 7, 2)) ∧ (decode cX10_behind 23 = .ok (.iload_n 1, 1)) := by decide +kernel
theorem dX10_behind_0 : decode cX10_behind 0 = .ok (.bipush 64, 2) := da9_dX10_behind_0.1
theorem dX10_behind_2 : decode cX10_behind 2 = .ok (.aload_n 0, 1) := da9_dX10_behind_0.2.1
theorem dX10_behind_3 : decode cX10_behind 3 = .ok (.getfield 78, 3) := da9_dX10_behind_0.2.2.1
theorem dX10_behind_6 : decode cX10_behind 6 = .ok (.bipush 7, 2) := da9_dX10_behind_0.2.2.2.1
theorem dX10_behind_8 : decode cX10_behind 8 = .ok (.iload_n 1, 1) := da9_dX10_behind_0.2.2.2.2.1
theorem dX10_behind_9 : decode cX10_behind 9 = .ok (.bipush 64, 2) := da9_dX10_behind_0.2.2.2.2.2.1
theorem dX10_behind_11 : decode cX10_behind 11 = .ok (.idiv, 1) := da9_dX10_behind_0.2.2.2.2.2.2.1
theorem dX10_behind_12 : decode cX10_behind 12 = .ok (.imul, 1) := da9_dX10_behind_0.2.2.2.2.2.2.2.1
theorem dX10_behind_13 : decode cX10_behind 13 = .ok (.iload_n 2, 1) := da9_dX10_behind_0.2.2.2.2.2.2.2.2.1
theorem dX10_behind_14 : decode cX10_behind 14 = .ok (.iadd, 1) := da9_dX10_behind_0.2.2.2.2.2.2.2.2.2.1
theorem dX10_behind_15 : decode cX10_behind 15 = .ok (.iaload, 1) := da9_dX10_behind_0.2.2.2.2.2.2.2.2.2.2.1
theorem dX10_behind_16 : decode cX10_behind 16 = .ok (.imul, 1) := da9_dX10_behind_0.2.2.2.2.2.2.2.2.2.2.2.1
theorem dX10_behind_17 : decode cX10_behind 17 = .ok (.aload_n 0, 1) := da9_dX10_behind_0.2.2.2.2.2.2.2.2.2.2.2.2.1
theorem dX10_behind_18 : decode cX10_behind 18 = .ok (.getfield 81, 3) := da9_dX10_behind_0.2.2.2.2.2.2.2.2.2.2.2.2.2.1
theorem dX10_behind_21 : decode cX10_behind 21 = .ok (.bipush 7, 2) := da9_dX10_behind_0.2.2.2.2.2.2.2.2.2.2.2.2.2.2.1
theorem dX10_behind_23 : decode cX10_behind 23 = .ok (.iload_n 1, 1) := da9_dX10_behind_0.2.2.2.2.2.2.2.2.2.2.2.2.2.2.2
theorem da9_dX10_behind_24 : (decode cX10_behind 24 = .ok (.bipush 64, 2)) ∧ (decode cX10_behind 26 = .ok (.irem, 1)) ∧ (decode cX10_behind 27 = .ok (.imul, 1)) ∧ (decode cX10_behind 28 = .ok (.iload_n 2, 1)) ∧ (decode cX10_behind 29 = .ok (.iadd, 1)) ∧ (decode cX10_behind 30 = .ok (.iaload, 1)) ∧ (decode cX10_behind 31 = .ok (.iadd, 1)) ∧ (decode cX10_behind 32 = .ok (.ireturn, 1)) := by decide +kernel
theorem dX10_behind_24 : decode cX10_behind 24 = .ok (.bipush 64, 2) := da9_dX10_behind_24.1
theorem dX10_behind_26 : decode cX10_behind 26 = .ok (.irem, 1) := da9_dX10_behind_24.2.1
theorem dX10_behind_27 : decode cX10_behind 27 = .ok (.imul, 1) := da9_dX10_behind_24.2.2.1
theorem dX10_behind_28 : decode cX10_behind 28 = .ok (.iload_n 2, 1) := da9_dX10_behind_24.2.2.2.1
theorem dX10_behind_29 : decode cX10_behind 29 = .ok (.iadd, 1) := da9_dX10_behind_24.2.2.2.2.1
theorem dX10_behind_30 : decode cX10_behind 30 = .ok (.iaload, 1) := da9_dX10_behind_24.2.2.2.2.2.1
theorem dX10_behind_31 : decode cX10_behind 31 = .ok (.iadd, 1) := da9_dX10_behind_24.2.2.2.2.2.2.1
theorem dX10_behind_32 : decode cX10_behind 32 = .ok (.ireturn, 1) := da9_dX10_behind_24.2.2.2.2.2.2.2
set_option maxRecDepth 20000 in
theorem ggX10_rankOf_X10_size : GoodIn wsX10_rankOf wsX10_size := goodIn_r _ [6, 1, 11, 12, 13, 14, 15, 16, 17, 18, 19, 20, 21, 22, 23, 24, 25, 26, 27, 28, 29, 30, 31, 32, 33, 34, 35, 36, 37, 38, 39, 40, 41, 42, 43, 44, 45, 46, 47, 48, 49, 50, 51, 52, 53, 54, 55, 56, 57, 58, 59, 60, 61, 62, 63, 64, 65, 66] rfl (by decide +kernel)
set_option maxRecDepth 20000 in
theorem gX10_rankOf_X10_size : GoodIn wsX10_rankOf (wsV RX10 125 RX10 yX10_size wsX10_size) := goodIn_app (goodIn_of _ (by decide +kernel)) ggX10_rankOf_X10_size
set_option maxRecDepth 20000 in
theorem ggX10_rankOf_X10_lessThan : GoodIn wsX10_rankOf wsX10_lessThan := goodIn_r _ [10, 1, 2, 3, 4, 5, 6, 11, 12, 13, 14, 15, 16, 17, 18, 19, 20, 21, 22, 23, 24, 25, 26, 27, 28, 29, 30, 31, 32, 33, 34, 35, 36, 37, 38, 39, 40, 41, 42, 43, 44, 45, 46, 47, 48, 49, 50, 51, 52, 53, 54, 55, 56, 57, 58, 59, 60, 61, 62, 63, 64, 65, 66] rfl (by decide +kernel)
set_option maxRecDepth 20000 in
theorem gX10_rankOf_X10_lessThan : GoodIn wsX10_rankOf (wsV RX10 401 RX10 yX10_lessThan wsX10_lessThan) := goodIn_app (goodIn_of _ (by decide +kernel)) ggX10_rankOf_X10_lessThan
theorem da9_dX10_rankOf_0 : (decode cX10_rankOf 0 = .ok (.iconst (-1), 1)) ∧ (decode cX10_rankOf 1 = .ok (.istore_n 2, 1)) ∧ (decode cX10_rankOf 2 = .ok (.iconst 0, 1)) ∧ (decode cX10_rankOf 3 = .ok (.istore_n 3, 1)) ∧ (decode cX10_rankOf 4 = .ok (.iload_n 3, 1)) ∧ (decode cX10_rankOf 5 = .ok (.aload_n 0, 1)) ∧ (decode cX10_rankOf 6 = .ok (.invokevirtual 125, 3)) ∧ (decode cX10_rankOf 9 = .ok (.if_icmp .ge 38, 3)) ∧ (decode cX10_rankOf 12 = .ok (.aload_n 0, 1)) ∧ (decode cX10_rankOf 13 = .ok (.aload_n 0, 1)) ∧ (decode cX10_rankOf 14 = .ok (.getfield 28, 3)) ∧ (decode cX10_rankOf 17 = .ok (.iconst 0, 1)) ∧ (decode cX10_rankOf 18 = .ok (.iload_n 3, 1)) ∧ (decode cX10_rankOf 19 = .ok (.iadd, 1)) ∧ (decode cX10_rankOf 20 = .ok (.iaload, 1)) ∧ (decode cX10_rankOf 21 = .ok (.invokevirtual 401, 3)) := by decide +kernel
theorem dX10_rankOf_0 : decode cX10_rankOf 0 = .ok (.iconst (-1), 1) := da9_dX10_rankOf_0.1
theorem dX10_rankOf_1 : decode cX10_rankOf 1 = .ok (.istore_n 2, 1) := da9_dX10_rankOf_0.2.1
theorem dX10_rankOf_2 : decode cX10_rankOf 2 = .ok (.iconst 0, 1) := da9_dX10_rankOf_0.2.2.1
theorem dX10_rankOf_3 : decode cX10_rankOf 3 = .ok (.istore_n 3, 1) := da9_dX10_rankOf_0.2.2.2.1
theorem dX10_rankOf_4 : decode cX10_rankOf 4 = .ok (.iload_n 3, 1) := da9_dX10_rankOf_0.2.2.2.2.1
theorem dX10_rankOf_5 : decode cX10_rankOf 5 = .ok (.aload_n 0, 1) := da9_dX10_rankOf_0.2.2.2.2.2.1
theorem dX10_rankOf_6 : decode cX10_rankOf 6 = .ok (.invokevirtual 125, 3) := da9_dX10_rankOf_0.2.2.2.2.2.2.1
theorem dX10_rankOf_9 : decode cX10_rankOf 9 = .ok (.if_icmp .ge 38, 3) := da9_dX10_rankOf_0.2.2.2.2.2.2.2.1
theorem dX10_rankOf_12 : decode cX10_rankOf 12 = .ok (.aload_n 0, 1) := da9_dX10_rankOf_0.2.2.2.2.2.2.2.2.1
theorem dX10_rankOf_13 : decode cX10_rankOf 13 = .ok (.aload_n 0, 1) := da9_dX10_rankOf_0.2.2.2.2.2.2.2.2.2.1
theorem dX10_rankOf_14 : decode cX10_rankOf 14 = .ok (.getfield 28, 3) := da9_dX10_rankOf_0.2.2.2.2.2.2.2.2.2.2.1
theorem dX10_rankOf_17 : decode cX10_rankOf 17 = .ok (.iconst 0, 1) := da9_dX10_rankOf_0.2.2.2.2.2.2.2.2.2.2.2.1
theorem dX10_rankOf_18 : decode cX10_rankOf 18 = .ok (.iload_n 3, 1) := da9_dX10_rankOf_0.2.2.2.2.2.2.2.2.2.2.2.2.1
theorem dX10_rankOf_19 : decode cX10_rankOf 19 = .ok (.iadd, 1) := da9_dX10_rankOf_0.2.2.2.2.2.2.2.2.2.2.2.2.2.1
theorem dX10_rankOf_20 : decode cX10_rankOf 20 = .ok (.iaload, 1) := da9_dX10_rankOf_0.2.2.2.2.2.2.2.2.2.2.2.2.2.2.1
theorem dX10_rankOf_21 : decode cX10_rankOf 21 = .ok (.invokevirtual 401, 3) := da9_dX10_rankOf_0.2.2.2.2.2.2.2.2.2.2.2.2.2.2.2
theorem da9_dX10_rankOf_24 : (decode cX10_rankOf 24 = .ok (.iload_n 1, 1)) ∧ (decode cX10_rankOf 25 = .ok (.if_icmp .ne 14, 3)) ∧ (decode cX10_rankOf 28 = .ok (.aload_n 0, 1)) ∧ (decode cX10_rankOf 29 = .ok (.getfield 28, 3)) ∧ (decode cX10_rankOf 32 = .ok (.iconst 0, 1)) ∧ (decode cX10_rankOf 33 = .ok (.iload_n 3, 1)) ∧ (decode cX10_rankOf 34 = .ok (.iadd, 1)) ∧ (decode cX10_rankOf 35 = .ok (.iaload, 1)) ∧ (decode cX10_rankOf 36 = .ok (.goto 4, 3)) ∧ (decode cX10_rankOf 39 = .ok (.iload_n 2, 1)) ∧ (decode cX10_rankOf 40 = .ok (.istore_n 2, 1)) ∧ (decode cX10_rankOf 41 = .ok (.iinc 3 1, 3)) ∧ (decode cX10_rankOf 44 = .ok (.goto (-40), 3)) ∧ (decode cX10_rankOf 47 = .ok (.iload_n 2, 1)) ∧ (decode cX10_rankOf 48 = .ok (.ireturn, 1)) := by decide +kernel
theorem dX10_rankOf_24 : decode cX10_rankOf 24 = .ok (.iload_n 1, 1) := da9_dX10_rankOf_24.1
theorem dX10_rankOf_25 : decode cX10_rankOf 25 = .ok (.if_icmp .ne 14, 3) := da9_dX10_rankOf_24.2.1
theorem dX10_rankOf_28 : decode cX10_rankOf 28 = .ok (.aload_n 0, 1) := da9_dX10_rankOf_24.2.2.1
theorem dX10_rankOf_29 : decode cX10_rankOf 29 = .ok (.getfield 28, 3) := da9_dX10_rankOf_24.2.2.2.1
theorem dX10_rankOf_32 : decode cX10_rankOf 32 = .ok (.iconst 0, 1) := da9_dX10_rankOf_24.2.2.2.2.1
theorem dX10_rankOf_33 : decode cX10_rankOf 33 = .ok (.iload_n 3, 1) := da9_dX10_rankOf_24.2.2.2.2.2.1
theorem dX10_rankOf_34 : decode cX10_rankOf 34 = .ok (.iadd, 1) := da9_dX10_rankOf_24.2.2.2.2.2.2.1
theorem dX10_rankOf_35 : decode cX10_rankOf 35 = .ok (.iaload, 1) := da9_dX10_rankOf_24.2.2.2.2.2.2.2.1
theorem dX10_rankOf_36 : decode cX10_rankOf 36 = .ok (.goto 4, 3) := da9_dX10_rankOf_24.2.2.2.2.2.2.2.2.1
theorem dX10_rankOf_39 : decode cX10_rankOf 39 = .ok (.iload_n 2, 1) := da9_dX10_rankOf_24.2.2.2.2.2.2.2.2.2.1
theorem dX10_rankOf_40 : decode cX10_rankOf 40 = .ok (.istore_n 2, 1) := da9_dX10_rankOf_24.2.2.2.2.2.2.2.2.2.2.1
theorem dX10_rankOf_41 : decode cX10_rankOf 41 = .ok (.iinc 3 1, 3) := da9_dX10_rankOf_24.2.2.2.2.2.2.2.2.2.2.2.1
theorem dX10_rankOf_44 : decode cX10_rankOf 44 = .ok (.goto (-40), 3) := da9_dX10_rankOf_24.2.2.2.2.2.2.2.2.2.2.2.2.1
theorem dX10_rankOf_47 : decode cX10_rankOf 47 = .ok (.iload_n 2, 1) := da9_dX10_rankOf_24.2.2.2.2.2.2.2.2.2.2.2.2.2.1
theorem dX10_rankOf_48 : decode cX10_rankOf 48 = .ok (.ireturn, 1) := da9_dX10_rankOf_24.2.2.2.2.2.2.2.2.2.2.2.2.2.2
