set_option maxRecDepth 20000 in
theorem ggX3_turnsToOrder_X3_measure : GoodIn wsX3_turnsToOrder wsX3_measure := goodIn_r _ [7, 8, 9, 10, 11, 1, 12, 13, 14, 15, 16, 17, 18, 19, 20, 21, 22, 6, 23, 24, 25, 26, 27, 28, 29, 30, 31, 32, 33, 34, 35, 36, 37, 38, 39, 40, 41, 42, 43, 44, 45, 46, 47, 48, 49, 50, 51, 52, 53, 54, 55, 56, 57, 58, 59, 60, 61, 62, 63, 64, 65] rfl (by decide +kernel)
set_option maxRecDepth 20000 in
theorem gX3_turnsToOrder_X3_measure : GoodIn wsX3_turnsToOrder (wsV RX3 113 RX3 yX3_measure wsX3_measure) := goodIn_app (goodIn_of _ (by decide +kernel)) ggX3_turnsToOrder_X3_measure
theorem da9_dX3_turnsToOrder_0 : (decode cX3_turnsToOrder 0 = .ok (.aload_n 0, 1)) ∧ (decode cX3_turnsToOrder 1 = .ok (.invokevirtual 113, 3)) ∧ (decode cX3_turnsToOrder 4 = .ok (.aload_n 0, 1)) ∧ (decode cX3_turnsToOrder 5 = .ok (.getfield 39, 3)) ∧ (decode cX3_turnsToOrder 8 = .ok (.aload_n 0, 1)) ∧ (decode cX3_turnsToOrder 9 = .ok (.getfield 58, 3)) ∧ (decode cX3_turnsToOrder 12 = .ok (.iaload, 1)) ∧ (decode cX3_turnsToOrder 13 = .ok (.ireturn, 1)) := by decide +kernel
theorem dX3_turnsToOrder_0 : decode cX3_turnsToOrder 0 = .ok (.aload_n 0, 1) := da9_dX3_turnsToOrder_0.1
theorem dX3_turnsToOrder_1 : decode cX3_turnsToOrder 1 = .ok (.invokevirtual 113, 3) := da9_dX3_turnsToOrder_0.2.1
theorem dX3_turnsToOrder_4 : decode cX3_turnsToOrder 4 = .ok (.aload_n 0, 1) := da9_dX3_turnsToOrder_0.2.2.1
theorem dX3_turnsToOrder_5 : decode cX3_turnsToOrder 5 = .ok (.getfield 39, 3) := da9_dX3_turnsToOrder_0.2.2.2.1
theorem dX3_turnsToOrder_8 : decode cX3_turnsToOrder 8 = .ok (.aload_n 0, 1) := da9_dX3_turnsToOrder_0.2.2.2.2.1
theorem dX3_turnsToOrder_9 : decode cX3_turnsToOrder 9 = .ok (.getfield 58, 3) := da9_dX3_turnsToOrder_0.2.2.2.2.2.1
theorem dX3_turnsToOrder_12 : decode cX3_turnsToOrder 12 = .ok (.iaload, 1) := da9_dX3_turnsToOrder_0.2.2.2.2.2.2.1
theorem dX3_turnsToOrder_13 : decode cX3_turnsToOrder 13 = .ok (.ireturn, 1) := da9_dX3_turnsToOrder_0.2.2.2.2.2.2.2
set_option maxRecDepth 20000 in
theorem ggX3_turnOfFirstRow_X3_measure : GoodIn wsX3_turnOfFirstRow wsX3_measure := goodIn_r _ [7, 8, 9, 10, 11, 1, 12, 13, 14, 15, 16, 17, 18, 19, 20, 21, 22, 6, 23, 24, 25, 26, 27, 28, 29, 30, 31, 32, 33, 34, 35, 36, 37, 38, 39, 40, 41, 42, 43, 44, 45, 54, 55, 56, 57, 58, 59, 60, 61, 62, 63, 64, 65, 66, 67, 68, 69, 70, 71, 72, 73] rfl (by decide +kernel)
set_option maxRecDepth 20000 in
theorem gX3_turnOfFirstRow_X3_measure : GoodIn wsX3_turnOfFirstRow (wsV RX3 113 RX3 yX3_measure wsX3_measure) := goodIn_app (goodIn_of _ (by decide +kernel)) ggX3_turnOfFirstRow_X3_measure
set_option maxRecDepth 20000 in
theorem ggX3_turnOfFirstRow_X3_firstCloser : GoodIn wsX3_turnOfFirstRow wsX3_firstCloser := goodIn_r _ [49, 9, 50, 51, 52, 6, 53, 1, 14, 32, 33, 34, 35, 36, 37, 12, 38, 39, 40, 41, 42, 43, 44, 45, 54, 55, 56, 57, 58, 59, 60, 61, 62, 63, 64, 65, 66, 67, 68, 69, 70, 71, 72, 73] rfl (by decide +kernel)
set_option maxRecDepth 20000 in
theorem gX3_turnOfFirstRow_X3_firstCloser : GoodIn wsX3_turnOfFirstRow (wsV RX3 116 RX3 yX3_firstCloser wsX3_firstCloser) := goodIn_app (goodIn_of _ (by decide +kernel)) ggX3_turnOfFirstRow_X3_firstCloser
set_option maxRecDepth 20000 in
theorem ggX3_turnOfFirstRow_X3_turned : GoodIn wsX3_turnOfFirstRow wsX3_turned := goodIn_r _ [35, 9, 36, 37, 12, 54, 55, 56, 57, 58, 59, 60, 61, 62, 63, 64, 65, 66, 67, 68, 69, 70, 71, 72, 73] rfl (by decide +kernel)
set_option maxRecDepth 20000 in
theorem gX3_turnOfFirstRow_X3_turned : GoodIn wsX3_turnOfFirstRow (wsV RX3 119 RX3 yX3_turned wsX3_turned) := goodIn_app (goodIn_of _ (by decide +kernel)) ggX3_turnOfFirstRow_X3_turned
theorem da9_dX3_turnOfFirstRow_0 : (decode cX3_turnOfFirstRow 0 = .ok (.aload_n 0, 1)) ∧ (decode cX3_turnOfFirstRow 1 = .ok (.invokevirtual 113, 3)) ∧ (decode cX3_turnOfFirstRow 4 = .ok (.iload_n 1, 1)) ∧ (decode cX3_turnOfFirstRow 5 = .ok (.ifCond .lt 16, 3)) ∧ (decode cX3_turnOfFirstRow 8 = .ok (.iload_n 1, 1)) ∧ (decode cX3_turnOfFirstRow 9 = .ok (.aload_n 0, 1)) ∧ (decode cX3_turnOfFirstRow 10 = .ok (.getfield 39, 3)) ∧ (decode cX3_turnOfFirstRow 13 = .ok (.aload_n 0, 1)) ∧ (decode cX3_turnOfFirstRow 14 = .ok (.getfield 58, 3)) ∧ (decode cX3_turnOfFirstRow 17 = .ok (.iaload, 1)) ∧ (decode cX3_turnOfFirstRow 18 = .ok (.if_icmp .lt 5, 3)) ∧ (decode cX3_turnOfFirstRow 21 = .ok (.iconst (-1), 1)) ∧ (decode cX3_turnOfFirstRow 22 = .ok (.ireturn, 1)) ∧ (decode cX3_turnOfFirstRow 23 = .ok (.aload_n 0, 1)) ∧ (decode cX3_turnOfFirstRow 24 = .ok (.getfield 58, 3)) ∧ (decode cX3_turnOfFirstRow 27 = .ok (.istore_n 2, 1)) := by decide +kernel
theorem dX3_turnOfFirstRow_0 : decode cX3_turnOfFirstRow 0 = .ok (.aload_n 0, 1) := da9_dX3_turnOfFirstRow_0.1
theorem dX3_turnOfFirstRow_1 : decode cX3_turnOfFirstRow 1 = .ok (.invokevirtual 113, 3) := da9_dX3_turnOfFirstRow_0.2.1
theorem dX3_turnOfFirstRow_4 : decode cX3_turnOfFirstRow 4 = .ok (.iload_n 1, 1) := da9_dX3_turnOfFirstRow_0.2.2.1
theorem dX3_turnOfFirstRow_5 : decode cX3_turnOfFirstRow 5 = .ok (.ifCond .lt 16, 3) := da9_dX3_turnOfFirstRow_0.2.2.2.1
theorem dX3_turnOfFirstRow_8 : decode cX3_turnOfFirstRow 8 = .ok (.iload_n 1, 1) := da9_dX3_turnOfFirstRow_0.2.2.2.2.1
theorem dX3_turnOfFirstRow_9 : decode cX3_turnOfFirstRow 9 = .ok (.aload_n 0, 1) := da9_dX3_turnOfFirstRow_0.2.2.2.2.2.1
theorem dX3_turnOfFirstRow_10 : decode cX3_turnOfFirstRow 10 = .ok (.getfield 39, 3) := da9_dX3_turnOfFirstRow_0.2.2.2.2.2.2.1
theorem dX3_turnOfFirstRow_13 : decode cX3_turnOfFirstRow 13 = .ok (.aload_n 0, 1) := da9_dX3_turnOfFirstRow_0.2.2.2.2.2.2.2.1
theorem dX3_turnOfFirstRow_14 : decode cX3_turnOfFirstRow 14 = .ok (.getfield 58, 3) := da9_dX3_turnOfFirstRow_0.2.2.2.2.2.2.2.2.1
theorem dX3_turnOfFirstRow_17 : decode cX3_turnOfFirstRow 17 = .ok (.iaload, 1) := da9_dX3_turnOfFirstRow_0.2.2.2.2.2.2.2.2.2.1
theorem dX3_turnOfFirstRow_18 : decode cX3_turnOfFirstRow 18 = .ok (.if_icmp .lt 5, 3) := da9_dX3_turnOfFirstRow_0.2.2.2.2.2.2.2.2.2.2.1
theorem dX3_turnOfFirstRow_21 : decode cX3_turnOfFirstRow 21 = .ok (.iconst (-1), 1) := da9_dX3_turnOfFirstRow_0.2.2.2.2.2.2.2.2.2.2.2.1
theorem dX3_turnOfFirstRow_22 : decode cX3_turnOfFirstRow 22 = .ok (.ireturn, 1) := da9_dX3_turnOfFirstRow_0.2.2.2.2.2.2.2.2.2.2.2.2.1
theorem dX3_turnOfFirstRow_23 : decode cX3_turnOfFirstRow 23 = .ok (.aload_n 0, 1) := da9_dX3_turnOfFirstRow_0.2.2.2.2.2.2.2.2.2.2.2.2.2.1
theorem dX3_turnOfFirstRow_24 : decode cX3_turnOfFirstRow 24 = .ok (.getfield 58, 3) := da9_dX3_turnOfFirstRow_0.2.2.2.2.2.2.2.2.2.2.2.2.2.2.1
theorem dX3_turnOfFirstRow_27 : decode cX3_turnOfFirstRow 27 = .ok (.istore_n 2, 1) := da9_dX3_turnOfFirstRow_0.2.2.2.2.2.2.2.2.2.2.2.2.2.2.2
theorem da9_dX3_turnOfFirstRow_28 : (decode cX3_turnOfFirstRow 28 = .ok (.iconst 0, 1)) ∧ (decode cX3_turnOfFirstRow 29 = .ok (.istore_n 3, 1)) ∧ (decode cX3_turnOfFirstRow 30 = .ok (.iload_n 3, 1)) ∧ (decode cX3_turnOfFirstRow 31 = .ok (.iload_n 1, 1)) ∧ (decode cX3_turnOfFirstRow 32 = .ok (.if_icmp .ge 20, 3)) ∧ (decode cX3_turnOfFirstRow 35 = .ok (.aload_n 0, 1)) ∧ (decode cX3_turnOfFirstRow 36 = .ok (.iload_n 2, 1)) ∧ (decode cX3_turnOfFirstRow 37 = .ok (.aload_n 0, 1)) ∧ (decode cX3_turnOfFirstRow 38 = .ok (.iload_n 2, 1)) ∧ (decode cX3_turnOfFirstRow 39 = .ok (.invokevirtual 116, 3)) ∧ (decode cX3_turnOfFirstRow 42 = .ok (.invokevirtual 119, 3)) ∧ (decode cX3_turnOfFirstRow 45 = .ok (.istore_n 2, 1)) ∧ (decode cX3_turnOfFirstRow 46 = .ok (.iinc 3 1, 3)) ∧ (decode cX3_turnOfFirstRow 49 = .ok (.goto (-19), 3)) ∧ (decode cX3_turnOfFirstRow 52 = .ok (.aload_n 0, 1)) ∧ (decode cX3_turnOfFirstRow 53 = .ok (.iload_n 2, 1)) := by decide +kernel
theorem dX3_turnOfFirstRow_28 : decode cX3_turnOfFirstRow 28 = .ok (.iconst 0, 1) := da9_dX3_turnOfFirstRow_28.1
theorem dX3_turnOfFirstRow_29 : decode cX3_turnOfFirstRow 29 = .ok (.istore_n 3, 1) := da9_dX3_turnOfFirstRow_28.2.1
theorem dX3_turnOfFirstRow_30 : decode cX3_turnOfFirstRow 30 = .ok (.iload_n 3, 1) := da9_dX3_turnOfFirstRow_28.2.2.1
theorem dX3_turnOfFirstRow_31 : decode cX3_turnOfFirstRow 31 = .ok (.iload_n 1, 1) := da9_dX3_turnOfFirstRow_28.2.2.2.1
theorem dX3_turnOfFirstRow_32 : decode cX3_turnOfFirstRow 32 = .ok (.if_icmp .ge 20, 3) := da9_dX3_turnOfFirstRow_28.2.2.2.2.1
theorem dX3_turnOfFirstRow_35 : decode cX3_turnOfFirstRow 35 = .ok (.aload_n 0, 1) := da9_dX3_turnOfFirstRow_28.2.2.2.2.2.1
theorem dX3_turnOfFirstRow_36 : decode cX3_turnOfFirstRow 36 = .ok (.iload_n 2, 1) := da9_dX3_turnOfFirstRow_28.2.2.2.2.2.2.1
theorem dX3_turnOfFirstRow_37 : decode cX3_turnOfFirstRow 37 = .ok (.aload_n 0, 1) := da9_dX3_turnOfFirstRow_28.2.2.2.2.2.2.2.1
theorem dX3_turnOfFirstRow_38 : decode cX3_turnOfFirstRow 38 = .ok (.iload_n 2, 1) := da9_dX3_turnOfFirstRow_28.2.2.2.2.2.2.2.2.1
theorem dX3_turnOfFirstRow_39 : decode cX3_turnOfFirstRow 39 = .ok (.invokevirtual 116, 3) := da9_dX3_turnOfFirstRow_28.2.2.2.2.2.2.2.2.2.1
theorem dX3_turnOfFirstRow_42 : decode cX3_turnOfFirstRow 42 = .ok (.invokevirtual 119, 3) := da9_dX3_turnOfFirstRow_28.2.2.2.2.2.2.2.2.2.2.1
theorem dX3_turnOfFirstRow_45 : decode cX3_turnOfFirstRow 45 = .ok (.istore_n 2, 1) := da9_dX3_turnOfFirstRow_28.2.2.2.2.2.2.2.2.2.2.2.1
theorem dX3_turnOfFirstRow_46 : decode cX3_turnOfFirstRow 46 = .ok (.iinc 3 1, 3) := da9_dX3_turnOfFirstRow_28.2.2.2.2.2.2.2.2.2.2.2.2.1
theorem dX3_turnOfFirstRow_49 : decode cX3_turnOfFirstRow 49 = .ok (.goto (-19), 3) := da9_dX3_turnOfFirstRow_28.2.2.2.2.2.2.2.2.2.2.2.2.2.1
theorem dX3_turnOfFirstRow_52 : decode cX3_turnOfFirstRow 52 = .ok (.aload_n 0, 1) := da9_dX3_turnOfFirstRow_28.2.2.2.2.2.2.2.2.2.2.2.2.2.2.1
theorem dX3_turnOfFirstRow_53 : decode cX3_turnOfFirstRow 53 = .ok (.iload_n 2, 1) := da9_dX3_turnOfFirstRow_28.2.2.2.2.2.2.2.2.2.2.2.2.2.2.2
theorem da9_dX3_turnOfFirstRow_54 : (decode cX3_turnOfFirstRow 54 = .ok (.invokevirtual 116, 3)) ∧ (decode cX3_turnOfFirstRow 57 = .ok (.ireturn, 1)) := by decide +kernel
theorem dX3_turnOfFirstRow_54 : decode cX3_turnOfFirstRow 54 = .ok (.invokevirtual 116, 3) := da9_dX3_turnOfFirstRow_54.1
theorem dX3_turnOfFirstRow_57 : decode cX3_turnOfFirstRow 57 = .ok (.ireturn, 1) := da9_dX3_turnOfFirstRow_54.2
set_option maxRecDepth 20000 in
theorem ggX3_measure_X3_sameBars : GoodIn wsX3_measure wsX3_sameBars := goodIn_r _ [18, 8, 9, 41, 42, 43, 44, 45, 46, 47, 48, 49, 50, 51, 52, 53, 54, 55, 56, 57, 58, 59, 60] rfl (by decide +kernel)
set_option maxRecDepth 20000 in
theorem gX3_measure_X3_sameBars : GoodIn wsX3_measure (wsV RX3 161 RX3 yX3_sameBars wsX3_sameBars) := goodIn_app (goodIn_of _ (by decide +kernel)) ggX3_measure_X3_sameBars
set_option maxRecDepth 20000 in
theorem ggX3_measure_J7_fill_53178 : GoodIn wsX3_measure wsJ7_fill_53178 := goodIn_r _ [22] rfl (by decide +kernel)
set_option maxRecDepth 20000 in
theorem gX3_measure_J7_fill_53178 : GoodIn wsX3_measure (va_wsS RX3 122 yJ7_fill_53178 wsJ7_fill_53178) := goodIn_app (goodIn_of _ (by decide +kernel)) ggX3_measure_J7_fill_53178
set_option maxRecDepth 20000 in
theorem ggX3_measure_X3_isOrdered : GoodIn wsX3_measure wsX3_isOrdered := goodIn_r _ [26, 4, 2, 41, 42, 43, 44, 45, 46, 47, 48, 49, 50, 51, 52, 53, 54, 55, 56, 57, 58, 59, 60] rfl (by decide +kernel)
set_option maxRecDepth 20000 in
theorem gX3_measure_X3_isOrdered : GoodIn wsX3_measure (wsV RX3 148 RX3 yX3_isOrdered wsX3_isOrdered) := goodIn_app (goodIn_of _ (by decide +kernel)) ggX3_measure_X3_isOrdered
set_option maxRecDepth 20000 in
theorem ggX3_measure_X3_turned : GoodIn wsX3_measure wsX3_turned := goodIn_r _ [30, 2, 31, 32, 6, 41, 42, 43, 44, 45, 46, 47, 48, 49, 50, 51, 52, 53, 54, 55, 56, 57, 58, 59, 60] rfl (by decide +kernel)
set_option maxRecDepth 20000 in
theorem gX3_measure_X3_turned : GoodIn wsX3_measure (wsV RX3 119 RX3 yX3_turned wsX3_turned) := goodIn_app (goodIn_of _ (by decide +kernel)) ggX3_measure_X3_turned
set_option maxRecDepth 20000 in
theorem ggX3_measure_X3_caseOf : GoodIn wsX3_measure wsX3_caseOf := goodIn_r _ [36, 37, 2, 38, 39, 17, 40, 41, 42, 43, 44, 45, 46, 47, 48, 49, 50, 51, 52, 53, 54, 55, 56, 57, 58, 59, 60] rfl (by decide +kernel)
set_option maxRecDepth 20000 in
theorem gX3_measure_X3_caseOf : GoodIn wsX3_measure (wsV RX3 154 RX3 yX3_caseOf wsX3_caseOf) := goodIn_app (goodIn_of _ (by decide +kernel)) ggX3_measure_X3_caseOf
theorem da9_dX3_measure_0 : (decode cX3_measure 0 = .ok (.aload_n 0, 1)) ∧ (decode cX3_measure 1 = .ok (.getfield 64, 3)) ∧ (decode cX3_measure 4 = .ok (.aload_n 0, 1)) ∧ (decode cX3_measure 5 = .ok (.getfield 51, 3)) ∧ (decode cX3_measure 8 = .ok (.if_icmp .ne 22, 3)) ∧ (decode cX3_measure 11 = .ok (.aload_n 0, 1)) ∧ (decode cX3_measure 12 = .ok (.getfield 67, 3)) ∧ (decode cX3_measure 15 = .ok (.aload_n 0, 1)) ∧ (decode cX3_measure 16 = .ok (.getfield 61, 3)) ∧ (decode cX3_measure 19 = .ok (.if_icmp .ne 11, 3)) ∧ (decode cX3_measure 22 = .ok (.aload_n 0, 1)) ∧ (decode cX3_measure 23 = .ok (.invokevirtual 161, 3)) ∧ (decode cX3_measure 26 = .ok (.ifCond .eq 4, 3)) ∧ (decode cX3_measure 29 = .ok (.return_, 1)) ∧ (decode cX3_measure 30 = .ok (.aload_n 0, 1)) ∧ (decode cX3_measure 31 = .ok (.getfield 39, 3)) := by decide +kernel
theorem dX3_measure_0 : decode cX3_measure 0 = .ok (.aload_n 0, 1) := da9_dX3_measure_0.1
theorem dX3_measure_1 : decode cX3_measure 1 = .ok (.getfield 64, 3) := da9_dX3_measure_0.2.1
theorem dX3_measure_4 : decode cX3_measure 4 = .ok (.aload_n 0, 1) := da9_dX3_measure_0.2.2.1
theorem dX3_measure_5 : decode cX3_measure 5 = .ok (.getfield 51, 3) := da9_dX3_measure_0.2.2.2.1
theorem dX3_measure_8 : decode cX3_measure 8 = .ok (.if_icmp .ne 22, 3) := da9_dX3_measure_0.2.2.2.2.1
theorem dX3_measure_11 : decode cX3_measure 11 = .ok (.aload_n 0, 1) := da9_dX3_measure_0.2.2.2.2.2.1
theorem dX3_measure_12 : decode cX3_measure 12 = .ok (.getfield 67, 3) := da9_dX3_measure_0.2.2.2.2.2.2.1
theorem dX3_measure_15 : decode cX3_measure 15 = .ok (.aload_n 0, 1) := da9_dX3_measure_0.2.2.2.2.2.2.2.1
theorem dX3_measure_16 : decode cX3_measure 16 = .ok (.getfield 61, 3) := da9_dX3_measure_0.2.2.2.2.2.2.2.2.1
theorem dX3_measure_19 : decode cX3_measure 19 = .ok (.if_icmp .ne 11, 3) := da9_dX3_measure_0.2.2.2.2.2.2.2.2.2.1
theorem dX3_measure_22 : decode cX3_measure 22 = .ok (.aload_n 0, 1) := da9_dX3_measure_0.2.2.2.2.2.2.2.2.2.2.1
theorem dX3_measure_23 : decode cX3_measure 23 = .ok (.invokevirtual 161, 3) := da9_dX3_measure_0.2.2.2.2.2.2.2.2.2.2.2.1
theorem dX3_measure_26 : decode cX3_measure 26 = .ok (.ifCond .eq 4, 3) := da9_dX3_measure_0.2.2.2.2.2.2.2.2.2.2.2.2.1
theorem dX3_measure_29 : decode cX3_measure 29 = .ok (.return_, 1) := da9_dX3_measure_0.2.2.2.2.2.2.2.2.2.2.2.2.2.1
theorem dX3_measure_30 : decode cX3_measure 30 = .ok (.aload_n 0, 1) := da9_dX3_measure_0.2.2.2.2.2.2.2.2.2.2.2.2.2.2.1
theorem dX3_measure_31 : decode cX3_measure 31 = .ok (.getfield 39, 3) := da9_dX3_measure_0.2.2.2.2.2.2.2.2.2.2.2.2.2.2.2
theorem da9_dX3_measure_34 : (decode cX3_measure 34 = .ok (.iconst (-1), 1)) ∧ (decode cX3_measure 35 = .ok (.invokestatic 122, 3)) ∧ (decode cX3_measure 38 = .ok (.iconst 0, 1)) ∧ (decode cX3_measure 39 = .ok (.istore_n 1, 1)) ∧ (decode cX3_measure 40 = .ok (.iconst 0, 1)) ∧ (decode cX3_measure 41 = .ok (.istore_n 2, 1)) ∧ (decode cX3_measure 42 = .ok (.iload_n 2, 1)) ∧ (decode cX3_measure 43 = .ok (.aload_n 0, 1)) ∧ (decode cX3_measure 44 = .ok (.getfield 55, 3)) ∧ (decode cX3_measure 47 = .ok (.if_icmp .ge 34, 3)) ∧ (decode cX3_measure 50 = .ok (.aload_n 0, 1)) ∧ (decode cX3_measure 51 = .ok (.iload_n 2, 1)) ∧ (decode cX3_measure 52 = .ok (.invokevirtual 148, 3)) ∧ (decode cX3_measure 55 = .ok (.ifCond .eq 26, 3)) ∧ (decode cX3_measure 58 = .ok (.aload_n 0, 1)) ∧ (decode cX3_measure 59 = .ok (.getfield 39, 3)) := by decide +kernel
theorem dX3_measure_34 : decode cX3_measure 34 = .ok (.iconst (-1), 1) := da9_dX3_measure_34.1
theorem dX3_measure_35 : decode cX3_measure 35 = .ok (.invokestatic 122, 3) := da9_dX3_measure_34.2.1
theorem dX3_measure_38 : decode cX3_measure 38 = .ok (.iconst 0, 1) := da9_dX3_measure_34.2.2.1
theorem dX3_measure_39 : decode cX3_measure 39 = .ok (.istore_n 1, 1) := da9_dX3_measure_34.2.2.2.1
theorem dX3_measure_40 : decode cX3_measure 40 = .ok (.iconst 0, 1) := da9_dX3_measure_34.2.2.2.2.1
theorem dX3_measure_41 : decode cX3_measure 41 = .ok (.istore_n 2, 1) := da9_dX3_measure_34.2.2.2.2.2.1
theorem dX3_measure_42 : decode cX3_measure 42 = .ok (.iload_n 2, 1) := da9_dX3_measure_34.2.2.2.2.2.2.1
theorem dX3_measure_43 : decode cX3_measure 43 = .ok (.aload_n 0, 1) := da9_dX3_measure_34.2.2.2.2.2.2.2.1
theorem dX3_measure_44 : decode cX3_measure 44 = .ok (.getfield 55, 3) := da9_dX3_measure_34.2.2.2.2.2.2.2.2.1
theorem dX3_measure_47 : decode cX3_measure 47 = .ok (.if_icmp .ge 34, 3) := da9_dX3_measure_34.2.2.2.2.2.2.2.2.2.1
theorem dX3_measure_50 : decode cX3_measure 50 = .ok (.aload_n 0, 1) := da9_dX3_measure_34.2.2.2.2.2.2.2.2.2.2.1
theorem dX3_measure_51 : decode cX3_measure 51 = .ok (.iload_n 2, 1) := da9_dX3_measure_34.2.2.2.2.2.2.2.2.2.2.2.1
theorem dX3_measure_52 : decode cX3_measure 52 = .ok (.invokevirtual 148, 3) := da9_dX3_measure_34.2.2.2.2.2.2.2.2.2.2.2.2.1
theorem dX3_measure_55 : decode cX3_measure 55 = .ok (.ifCond .eq 26, 3) := da9_dX3_measure_34.2.2.2.2.2.2.2.2.2.2.2.2.2.1
theorem dX3_measure_58 : decode cX3_measure 58 = .ok (.aload_n 0, 1) := da9_dX3_measure_34.2.2.2.2.2.2.2.2.2.2.2.2.2.2.1
theorem dX3_measure_59 : decode cX3_measure 59 = .ok (.getfield 39, 3) := da9_dX3_measure_34.2.2.2.2.2.2.2.2.2.2.2.2.2.2.2
theorem da9_dX3_measure_62 : (decode cX3_measure 62 = .ok (.iload_n 2, 1)) ∧ (decode cX3_measure 63 = .ok (.iconst 0, 1)) ∧ (decode cX3_measure 64 = .ok (.iastore, 1)) ∧ (decode cX3_measure 65 = .ok (.aload_n 0, 1)) ∧ (decode cX3_measure 66 = .ok (.getfield 45, 3)) ∧ (decode cX3_measure 69 = .ok (.iload_n 1, 1)) ∧ (decode cX3_measure 70 = .ok (.iload_n 2, 1)) ∧ (decode cX3_measure 71 = .ok (.iastore, 1)) ∧ (decode cX3_measure 72 = .ok (.iinc 1 1, 3)) ∧ (decode cX3_measure 75 = .ok (.iinc 2 1, 3)) ∧ (decode cX3_measure 78 = .ok (.goto (-36), 3)) ∧ (decode cX3_measure 81 = .ok (.iconst 0, 1)) ∧ (decode cX3_measure 82 = .ok (.istore_n 2, 1)) ∧ (decode cX3_measure 83 = .ok (.iload_n 2, 1)) ∧ (decode cX3_measure 84 = .ok (.aload_n 0, 1)) ∧ (decode cX3_measure 85 = .ok (.getfield 55, 3)) := by decide +kernel
theorem dX3_measure_62 : decode cX3_measure 62 = .ok (.iload_n 2, 1) := da9_dX3_measure_62.1
theorem dX3_measure_63 : decode cX3_measure 63 = .ok (.iconst 0, 1) := da9_dX3_measure_62.2.1
theorem dX3_measure_64 : decode cX3_measure 64 = .ok (.iastore, 1) := da9_dX3_measure_62.2.2.1
theorem dX3_measure_65 : decode cX3_measure 65 = .ok (.aload_n 0, 1) := da9_dX3_measure_62.2.2.2.1
theorem dX3_measure_66 : decode cX3_measure 66 = .ok (.getfield 45, 3) := da9_dX3_measure_62.2.2.2.2.1
theorem dX3_measure_69 : decode cX3_measure 69 = .ok (.iload_n 1, 1) := da9_dX3_measure_62.2.2.2.2.2.1
theorem dX3_measure_70 : decode cX3_measure 70 = .ok (.iload_n 2, 1) := da9_dX3_measure_62.2.2.2.2.2.2.1
theorem dX3_measure_71 : decode cX3_measure 71 = .ok (.iastore, 1) := da9_dX3_measure_62.2.2.2.2.2.2.2.1
theorem dX3_measure_72 : decode cX3_measure 72 = .ok (.iinc 1 1, 3) := da9_dX3_measure_62.2.2.2.2.2.2.2.2.1
theorem dX3_measure_75 : decode cX3_measure 75 = .ok (.iinc 2 1, 3) := da9_dX3_measure_62.2.2.2.2.2.2.2.2.2.1
theorem dX3_measure_78 : decode cX3_measure 78 = .ok (.goto (-36), 3) := da9_dX3_measure_62.2.2.2.2.2.2.2.2.2.2.1
theorem dX3_measure_81 : decode cX3_measure 81 = .ok (.iconst 0, 1) := da9_dX3_measure_62.2.2.2.2.2.2.2.2.2.2.2.1
theorem dX3_measure_82 : decode cX3_measure 82 = .ok (.istore_n 2, 1) := da9_dX3_measure_62.2.2.2.2.2.2.2.2.2.2.2.2.1
theorem dX3_measure_83 : decode cX3_measure 83 = .ok (.iload_n 2, 1) := da9_dX3_measure_62.2.2.2.2.2.2.2.2.2.2.2.2.2.1
theorem dX3_measure_84 : decode cX3_measure 84 = .ok (.aload_n 0, 1) := da9_dX3_measure_62.2.2.2.2.2.2.2.2.2.2.2.2.2.2.1
theorem dX3_measure_85 : decode cX3_measure 85 = .ok (.getfield 55, 3) := da9_dX3_measure_62.2.2.2.2.2.2.2.2.2.2.2.2.2.2.2
theorem da9_dX3_measure_88 : (decode cX3_measure 88 = .ok (.if_icmp .ge 109, 3)) ∧ (decode cX3_measure 91 = .ok (.iload_n 2, 1)) ∧ (decode cX3_measure 92 = .ok (.iload_n 1, 1)) ∧ (decode cX3_measure 93 = .ok (.if_icmp .ge 104, 3)) ∧ (decode cX3_measure 96 = .ok (.aload_n 0, 1)) ∧ (decode cX3_measure 97 = .ok (.getfield 45, 3)) ∧ (decode cX3_measure 100 = .ok (.iload_n 2, 1)) ∧ (decode cX3_measure 101 = .ok (.iaload, 1)) ∧ (decode cX3_measure 102 = .ok (.istore_n 3, 1)) ∧ (decode cX3_measure 103 = .ok (.iconst 1, 1)) ∧ (decode cX3_measure 104 = .ok (.istore 4, 2)) ∧ (decode cX3_measure 106 = .ok (.iload 4, 2)) ∧ (decode cX3_measure 108 = .ok (.aload_n 0, 1)) ∧ (decode cX3_measure 109 = .ok (.getfield 51, 3)) ∧ (decode cX3_measure 112 = .ok (.if_icmp .gt 79, 3)) ∧ (decode cX3_measure 115 = .ok (.aload_n 0, 1)) := by decide +kernel
theorem dX3_measure_88 : decode cX3_measure 88 = .ok (.if_icmp .ge 109, 3) := da9_dX3_measure_88.1
theorem dX3_measure_91 : decode cX3_measure 91 = .ok (.iload_n 2, 1) := da9_dX3_measure_88.2.1
theorem dX3_measure_92 : decode cX3_measure 92 = .ok (.iload_n 1, 1) := da9_dX3_measure_88.2.2.1
theorem dX3_measure_93 : decode cX3_measure 93 = .ok (.if_icmp .ge 104, 3) := da9_dX3_measure_88.2.2.2.1
theorem dX3_measure_96 : decode cX3_measure 96 = .ok (.aload_n 0, 1) := da9_dX3_measure_88.2.2.2.2.1
theorem dX3_measure_97 : decode cX3_measure 97 = .ok (.getfield 45, 3) := da9_dX3_measure_88.2.2.2.2.2.1
theorem dX3_measure_100 : decode cX3_measure 100 = .ok (.iload_n 2, 1) := da9_dX3_measure_88.2.2.2.2.2.2.1
theorem dX3_measure_101 : decode cX3_measure 101 = .ok (.iaload, 1) := da9_dX3_measure_88.2.2.2.2.2.2.2.1
theorem dX3_measure_102 : decode cX3_measure 102 = .ok (.istore_n 3, 1) := da9_dX3_measure_88.2.2.2.2.2.2.2.2.1
theorem dX3_measure_103 : decode cX3_measure 103 = .ok (.iconst 1, 1) := da9_dX3_measure_88.2.2.2.2.2.2.2.2.2.1
theorem dX3_measure_104 : decode cX3_measure 104 = .ok (.istore 4, 2) := da9_dX3_measure_88.2.2.2.2.2.2.2.2.2.2.1
theorem dX3_measure_106 : decode cX3_measure 106 = .ok (.iload 4, 2) := da9_dX3_measure_88.2.2.2.2.2.2.2.2.2.2.2.1
theorem dX3_measure_108 : decode cX3_measure 108 = .ok (.aload_n 0, 1) := da9_dX3_measure_88.2.2.2.2.2.2.2.2.2.2.2.2.1
theorem dX3_measure_109 : decode cX3_measure 109 = .ok (.getfield 51, 3) := da9_dX3_measure_88.2.2.2.2.2.2.2.2.2.2.2.2.2.1
theorem dX3_measure_112 : decode cX3_measure 112 = .ok (.if_icmp .gt 79, 3) := da9_dX3_measure_88.2.2.2.2.2.2.2.2.2.2.2.2.2.2.1
theorem dX3_measure_115 : decode cX3_measure 115 = .ok (.aload_n 0, 1) := da9_dX3_measure_88.2.2.2.2.2.2.2.2.2.2.2.2.2.2.2
theorem da9_dX3_measure_116 : (decode cX3_measure 116 = .ok (.iload_n 3, 1)) ∧ (decode cX3_measure 117 = .ok (.iload 4, 2)) ∧ (decode cX3_measure 119 = .ok (.invokevirtual 119, 3)) ∧ (decode cX3_measure 122 = .ok (.istore 5, 2)) ∧ (decode cX3_measure 124 = .ok (.aload_n 0, 1)) ∧ (decode cX3_measure 125 = .ok (.getfield 39, 3)) ∧ (decode cX3_measure 128 = .ok (.iload 5, 2)) ∧ (decode cX3_measure 130 = .ok (.iaload, 1)) ∧ (decode cX3_measure 131 = .ok (.iconst (-1), 1)) ∧ (decode cX3_measure 132 = .ok (.if_icmp .ne 53, 3)) ∧ (decode cX3_measure 135 = .ok (.aload_n 0, 1)) ∧ (decode cX3_measure 136 = .ok (.getfield 18, 3)) ∧ (decode cX3_measure 139 = .ok (.aload_n 0, 1)) ∧ (decode cX3_measure 140 = .ok (.iload 5, 2)) ∧ (decode cX3_measure 142 = .ok (.iload 4, 2)) ∧ (decode cX3_measure 144 = .ok (.invokevirtual 154, 3)) := by decide +kernel
theorem dX3_measure_116 : decode cX3_measure 116 = .ok (.iload_n 3, 1) := da9_dX3_measure_116.1
theorem dX3_measure_117 : decode cX3_measure 117 = .ok (.iload 4, 2) := da9_dX3_measure_116.2.1
theorem dX3_measure_119 : decode cX3_measure 119 = .ok (.invokevirtual 119, 3) := da9_dX3_measure_116.2.2.1
theorem dX3_measure_122 : decode cX3_measure 122 = .ok (.istore 5, 2) := da9_dX3_measure_116.2.2.2.1
theorem dX3_measure_124 : decode cX3_measure 124 = .ok (.aload_n 0, 1) := da9_dX3_measure_116.2.2.2.2.1
theorem dX3_measure_125 : decode cX3_measure 125 = .ok (.getfield 39, 3) := da9_dX3_measure_116.2.2.2.2.2.1
theorem dX3_measure_128 : decode cX3_measure 128 = .ok (.iload 5, 2) := da9_dX3_measure_116.2.2.2.2.2.2.1
theorem dX3_measure_130 : decode cX3_measure 130 = .ok (.iaload, 1) := da9_dX3_measure_116.2.2.2.2.2.2.2.1
theorem dX3_measure_131 : decode cX3_measure 131 = .ok (.iconst (-1), 1) := da9_dX3_measure_116.2.2.2.2.2.2.2.2.1
theorem dX3_measure_132 : decode cX3_measure 132 = .ok (.if_icmp .ne 53, 3) := da9_dX3_measure_116.2.2.2.2.2.2.2.2.2.1
theorem dX3_measure_135 : decode cX3_measure 135 = .ok (.aload_n 0, 1) := da9_dX3_measure_116.2.2.2.2.2.2.2.2.2.2.1
theorem dX3_measure_136 : decode cX3_measure 136 = .ok (.getfield 18, 3) := da9_dX3_measure_116.2.2.2.2.2.2.2.2.2.2.2.1
theorem dX3_measure_139 : decode cX3_measure 139 = .ok (.aload_n 0, 1) := da9_dX3_measure_116.2.2.2.2.2.2.2.2.2.2.2.2.1
theorem dX3_measure_140 : decode cX3_measure 140 = .ok (.iload 5, 2) := da9_dX3_measure_116.2.2.2.2.2.2.2.2.2.2.2.2.2.1
theorem dX3_measure_142 : decode cX3_measure 142 = .ok (.iload 4, 2) := da9_dX3_measure_116.2.2.2.2.2.2.2.2.2.2.2.2.2.2.1
theorem dX3_measure_144 : decode cX3_measure 144 = .ok (.invokevirtual 154, 3) := da9_dX3_measure_116.2.2.2.2.2.2.2.2.2.2.2.2.2.2.2
theorem da9_dX3_measure_147 : (decode cX3_measure 147 = .ok (.iaload, 1)) ∧ (decode cX3_measure 148 = .ok (.ifCond .ne 37, 3)) ∧ (decode cX3_measure 151 = .ok (.iload_n 1, 1)) ∧ (decode cX3_measure 152 = .ok (.aload_n 0, 1)) ∧ (decode cX3_measure 153 = .ok (.getfield 55, 3)) ∧ (decode cX3_measure 156 = .ok (.if_icmp .ge 29, 3)) ∧ (decode cX3_measure 159 = .ok (.aload_n 0, 1)) ∧ (decode cX3_measure 160 = .ok (.getfield 39, 3)) ∧ (decode cX3_measure 163 = .ok (.iload 5, 2)) ∧ (decode cX3_measure 165 = .ok (.aload_n 0, 1)) ∧ (decode cX3_measure 166 = .ok (.getfield 39, 3)) ∧ (decode cX3_measure 169 = .ok (.iload_n 3, 1)) ∧ (decode cX3_measure 170 = .ok (.iaload, 1)) ∧ (decode cX3_measure 171 = .ok (.iconst 1, 1)) ∧ (decode cX3_measure 172 = .ok (.iadd, 1)) ∧ (decode cX3_measure 173 = .ok (.iastore, 1)) := by decide +kernel
theorem dX3_measure_147 : decode cX3_measure 147 = .ok (.iaload, 1) := da9_dX3_measure_147.1
theorem dX3_measure_148 : decode cX3_measure 148 = .ok (.ifCond .ne 37, 3) := da9_dX3_measure_147.2.1
theorem dX3_measure_151 : decode cX3_measure 151 = .ok (.iload_n 1, 1) := da9_dX3_measure_147.2.2.1
theorem dX3_measure_152 : decode cX3_measure 152 = .ok (.aload_n 0, 1) := da9_dX3_measure_147.2.2.2.1
theorem dX3_measure_153 : decode cX3_measure 153 = .ok (.getfield 55, 3) := da9_dX3_measure_147.2.2.2.2.1
theorem dX3_measure_156 : decode cX3_measure 156 = .ok (.if_icmp .ge 29, 3) := da9_dX3_measure_147.2.2.2.2.2.1
theorem dX3_measure_159 : decode cX3_measure 159 = .ok (.aload_n 0, 1) := da9_dX3_measure_147.2.2.2.2.2.2.1
theorem dX3_measure_160 : decode cX3_measure 160 = .ok (.getfield 39, 3) := da9_dX3_measure_147.2.2.2.2.2.2.2.1
theorem dX3_measure_163 : decode cX3_measure 163 = .ok (.iload 5, 2) := da9_dX3_measure_147.2.2.2.2.2.2.2.2.1
theorem dX3_measure_165 : decode cX3_measure 165 = .ok (.aload_n 0, 1) := da9_dX3_measure_147.2.2.2.2.2.2.2.2.2.1
theorem dX3_measure_166 : decode cX3_measure 166 = .ok (.getfield 39, 3) := da9_dX3_measure_147.2.2.2.2.2.2.2.2.2.2.1
theorem dX3_measure_169 : decode cX3_measure 169 = .ok (.iload_n 3, 1) := da9_dX3_measure_147.2.2.2.2.2.2.2.2.2.2.2.1
theorem dX3_measure_170 : decode cX3_measure 170 = .ok (.iaload, 1) := da9_dX3_measure_147.2.2.2.2.2.2.2.2.2.2.2.2.1
theorem dX3_measure_171 : decode cX3_measure 171 = .ok (.iconst 1, 1) := da9_dX3_measure_147.2.2.2.2.2.2.2.2.2.2.2.2.2.1
theorem dX3_measure_172 : decode cX3_measure 172 = .ok (.iadd, 1) := da9_dX3_measure_147.2.2.2.2.2.2.2.2.2.2.2.2.2.2.1
theorem dX3_measure_173 : decode cX3_measure 173 = .ok (.iastore, 1) := da9_dX3_measure_147.2.2.2.2.2.2.2.2.2.2.2.2.2.2.2
theorem da9_dX3_measure_174 : (decode cX3_measure 174 = .ok (.aload_n 0, 1)) ∧ (decode cX3_measure 175 = .ok (.getfield 45, 3)) ∧ (decode cX3_measure 178 = .ok (.iload_n 1, 1)) ∧ (decode cX3_measure 179 = .ok (.iload 5, 2)) ∧ (decode cX3_measure 181 = .ok (.iastore, 1)) ∧ (decode cX3_measure 182 = .ok (.iinc 1 1, 3)) ∧ (decode cX3_measure 185 = .ok (.iinc 4 1, 3)) ∧ (decode cX3_measure 188 = .ok (.goto (-82), 3)) ∧ (decode cX3_measure 191 = .ok (.iinc 2 1, 3)) ∧ (decode cX3_measure 194 = .ok (.goto (-111), 3)) ∧ (decode cX3_measure 197 = .ok (.aload_n 0, 1)) ∧ (decode cX3_measure 198 = .ok (.aload_n 0, 1)) ∧ (decode cX3_measure 199 = .ok (.getfield 51, 3)) ∧ (decode cX3_measure 202 = .ok (.putfield 64, 3)) ∧ (decode cX3_measure 205 = .ok (.aload_n 0, 1)) ∧ (decode cX3_measure 206 = .ok (.aload_n 0, 1)) := by decide +kernel
theorem dX3_measure_174 : decode cX3_measure 174 = .ok (.aload_n 0, 1) := da9_dX3_measure_174.1
theorem dX3_measure_175 : decode cX3_measure 175 = .ok (.getfield 45, 3) := da9_dX3_measure_174.2.1
theorem dX3_measure_178 : decode cX3_measure 178 = .ok (.iload_n 1, 1) := da9_dX3_measure_174.2.2.1
theorem dX3_measure_179 : decode cX3_measure 179 = .ok (.iload 5, 2) := da9_dX3_measure_174.2.2.2.1
theorem dX3_measure_181 : decode cX3_measure 181 = .ok (.iastore, 1) := da9_dX3_measure_174.2.2.2.2.1
theorem dX3_measure_182 : decode cX3_measure 182 = .ok (.iinc 1 1, 3) := da9_dX3_measure_174.2.2.2.2.2.1
theorem dX3_measure_185 : decode cX3_measure 185 = .ok (.iinc 4 1, 3) := da9_dX3_measure_174.2.2.2.2.2.2.1
theorem dX3_measure_188 : decode cX3_measure 188 = .ok (.goto (-82), 3) := da9_dX3_measure_174.2.2.2.2.2.2.2.1
theorem dX3_measure_191 : decode cX3_measure 191 = .ok (.iinc 2 1, 3) := da9_dX3_measure_174.2.2.2.2.2.2.2.2.1
theorem dX3_measure_194 : decode cX3_measure 194 = .ok (.goto (-111), 3) := da9_dX3_measure_174.2.2.2.2.2.2.2.2.2.1
theorem dX3_measure_197 : decode cX3_measure 197 = .ok (.aload_n 0, 1) := da9_dX3_measure_174.2.2.2.2.2.2.2.2.2.2.1
theorem dX3_measure_198 : decode cX3_measure 198 = .ok (.aload_n 0, 1) := da9_dX3_measure_174.2.2.2.2.2.2.2.2.2.2.2.1
theorem dX3_measure_199 : decode cX3_measure 199 = .ok (.getfield 51, 3) := da9_dX3_measure_174.2.2.2.2.2.2.2.2.2.2.2.2.1
theorem dX3_measure_202 : decode cX3_measure 202 = .ok (.putfield 64, 3) := da9_dX3_measure_174.2.2.2.2.2.2.2.2.2.2.2.2.2.1
theorem dX3_measure_205 : decode cX3_measure 205 = .ok (.aload_n 0, 1) := da9_dX3_measure_174.2.2.2.2.2.2.2.2.2.2.2.2.2.2.1
theorem dX3_measure_206 : decode cX3_measure 206 = .ok (.aload_n 0, 1) := da9_dX3_measure_174.2.2.2.2.2.2.2.2.2.2.2.2.2.2.2
theorem da9_dX3_measure_207 : (decode cX3_measure 207 = .ok (.getfield 61, 3)) ∧ (decode cX3_measure 210 = .ok (.putfield 67, 3)) ∧ (decode cX3_measure 213 = .ok (.aload_n 0, 1)) ∧ (decode cX3_measure 214 = .ok (.getfield 18, 3)) ∧ (decode cX3_measure 217 = .ok (.iconst 0, 1)) ∧ (decode cX3_measure 218 = .ok (.aload_n 0, 1)) ∧ (decode cX3_measure 219 = .ok (.getfield 24, 3)) ∧ (decode cX3_measure 222 = .ok (.iconst 0, 1)) ∧ (decode cX3_measure 223 = .ok (.sipush 504, 3)) ∧ (decode cX3_measure 226 = .ok (.invokestatic 165, 3)) ∧ (decode cX3_measure 229 = .ok (.return_, 1)) := by decide +kernel
theorem dX3_measure_207 : decode cX3_measure 207 = .ok (.getfield 61, 3) := da9_dX3_measure_207.1
theorem dX3_measure_210 : decode cX3_measure 210 = .ok (.putfield 67, 3) := da9_dX3_measure_207.2.1
theorem dX3_measure_213 : decode cX3_measure 213 = .ok (.aload_n 0, 1) := da9_dX3_measure_207.2.2.1
theorem dX3_measure_214 : decode cX3_measure 214 = .ok (.getfield 18, 3) := da9_dX3_measure_207.2.2.2.1
theorem dX3_measure_217 : decode cX3_measure 217 = .ok (.iconst 0, 1) := da9_dX3_measure_207.2.2.2.2.1
theorem dX3_measure_218 : decode cX3_measure 218 = .ok (.aload_n 0, 1) := da9_dX3_measure_207.2.2.2.2.2.1
theorem dX3_measure_219 : decode cX3_measure 219 = .ok (.getfield 24, 3) := da9_dX3_measure_207.2.2.2.2.2.2.1
theorem dX3_measure_222 : decode cX3_measure 222 = .ok (.iconst 0, 1) := da9_dX3_measure_207.2.2.2.2.2.2.2.1
theorem dX3_measure_223 : decode cX3_measure 223 = .ok (.sipush 504, 3) := da9_dX3_measure_207.2.2.2.2.2.2.2.2.1
theorem dX3_measure_226 : decode cX3_measure 226 = .ok (.invokestatic 165, 3) := da9_dX3_measure_207.2.2.2.2.2.2.2.2.2.1
theorem dX3_measure_229 : decode cX3_measure 229 = .ok (.return_, 1) := da9_dX3_measure_207.2.2.2.2.2.2.2.2.2.2
set_option maxRecDepth 20000 in
theorem ggX3_firstCloser_X3_isCloser : GoodIn wsX3_firstCloser wsX3_isCloser := goodIn_r _ [6, 7, 8, 9, 10, 11, 5, 12, 1, 13, 14, 15, 16, 17, 18, 19, 20, 21, 22, 23, 24, 25, 26, 27, 28, 29, 30, 31, 32, 33, 34, 35, 36, 37, 38, 39, 40, 41, 42, 43] rfl (by decide +kernel)
set_option maxRecDepth 20000 in
theorem gX3_firstCloser_X3_isCloser : GoodIn wsX3_firstCloser (wsV RX3 129 RX3 yX3_isCloser wsX3_isCloser) := goodIn_app (goodIn_of _ (by decide +kernel)) ggX3_firstCloser_X3_isCloser
theorem da9_dX3_firstCloser_0 : (decode cX3_firstCloser 0 = .ok (.iconst 1, 1)) ∧ (decode cX3_firstCloser 1 = .ok (.istore_n 2, 1)) ∧ (decode cX3_firstCloser 2 = .ok (.iload_n 2, 1)) ∧ (decode cX3_firstCloser 3 = .ok (.aload_n 0, 1)) ∧ (decode cX3_firstCloser 4 = .ok (.getfield 51, 3)) ∧ (decode cX3_firstCloser 7 = .ok (.if_icmp .gt 20, 3)) ∧ (decode cX3_firstCloser 10 = .ok (.aload_n 0, 1)) ∧ (decode cX3_firstCloser 11 = .ok (.iload_n 1, 1)) ∧ (decode cX3_firstCloser 12 = .ok (.iload_n 2, 1)) ∧ (decode cX3_firstCloser 13 = .ok (.invokevirtual 129, 3)) ∧ (decode cX3_firstCloser 16 = .ok (.ifCond .eq 5, 3)) ∧ (decode cX3_firstCloser 19 = .ok (.iload_n 2, 1)) ∧ (decode cX3_firstCloser 20 = .ok (.ireturn, 1)) ∧ (decode cX3_firstCloser 21 = .ok (.iinc 2 1, 3)) ∧ (decode cX3_firstCloser 24 = .ok (.goto (-22), 3)) ∧ (decode cX3_firstCloser 27 = .ok (.iconst (-1), 1)) := by decide +kernel
theorem dX3_firstCloser_0 : decode cX3_firstCloser 0 = .ok (.iconst 1, 1) := da9_dX3_firstCloser_0.1
theorem dX3_firstCloser_1 : decode cX3_firstCloser 1 = .ok (.istore_n 2, 1) := da9_dX3_firstCloser_0.2.1
theorem dX3_firstCloser_2 : decode cX3_firstCloser 2 = .ok (.iload_n 2, 1) := da9_dX3_firstCloser_0.2.2.1
theorem dX3_firstCloser_3 : decode cX3_firstCloser 3 = .ok (.aload_n 0, 1) := da9_dX3_firstCloser_0.2.2.2.1
theorem dX3_firstCloser_4 : decode cX3_firstCloser 4 = .ok (.getfield 51, 3) := da9_dX3_firstCloser_0.2.2.2.2.1
theorem dX3_firstCloser_7 : decode cX3_firstCloser 7 = .ok (.if_icmp .gt 20, 3) := da9_dX3_firstCloser_0.2.2.2.2.2.1
theorem dX3_firstCloser_10 : decode cX3_firstCloser 10 = .ok (.aload_n 0, 1) := da9_dX3_firstCloser_0.2.2.2.2.2.2.1
theorem dX3_firstCloser_11 : decode cX3_firstCloser 11 = .ok (.iload_n 1, 1) := da9_dX3_firstCloser_0.2.2.2.2.2.2.2.1
theorem dX3_firstCloser_12 : decode cX3_firstCloser 12 = .ok (.iload_n 2, 1) := da9_dX3_firstCloser_0.2.2.2.2.2.2.2.2.1
theorem dX3_firstCloser_13 : decode cX3_firstCloser 13 = .ok (.invokevirtual 129, 3) := da9_dX3_firstCloser_0.2.2.2.2.2.2.2.2.2.1
theorem dX3_firstCloser_16 : decode cX3_firstCloser 16 = .ok (.ifCond .eq 5, 3) := da9_dX3_firstCloser_0.2.2.2.2.2.2.2.2.2.2.1
theorem dX3_firstCloser_19 : decode cX3_firstCloser 19 = .ok (.iload_n 2, 1) := da9_dX3_firstCloser_0.2.2.2.2.2.2.2.2.2.2.2.1
theorem dX3_firstCloser_20 : decode cX3_firstCloser 20 = .ok (.ireturn, 1) := da9_dX3_firstCloser_0.2.2.2.2.2.2.2.2.2.2.2.2.1
theorem dX3_firstCloser_21 : decode cX3_firstCloser 21 = .ok (.iinc 2 1, 3) := da9_dX3_firstCloser_0.2.2.2.2.2.2.2.2.2.2.2.2.2.1
theorem dX3_firstCloser_24 : decode cX3_firstCloser 24 = .ok (.goto (-22), 3) := da9_dX3_firstCloser_0.2.2.2.2.2.2.2.2.2.2.2.2.2.2.1
theorem dX3_firstCloser_27 : decode cX3_firstCloser 27 = .ok (.iconst (-1), 1) := da9_dX3_firstCloser_0.2.2.2.2.2.2.2.2.2.2.2.2.2.2.2
theorem dX3_firstCloser_28 : decode cX3_firstCloser 28 = .ok (.ireturn, 1) := by decide +kernel
set_option maxRecDepth 20000 in
theorem ggX3_isCloser_X3_turned : GoodIn wsX3_isCloser wsX3_turned := goodIn_r _ [7, 8, 9, 10, 11, 20, 21, 22, 23, 24, 25, 26, 27, 28, 29, 30, 31, 32, 33, 34, 35, 36, 37, 38, 39] rfl (by decide +kernel)
set_option maxRecDepth 20000 in
theorem gX3_isCloser_X3_turned : GoodIn wsX3_isCloser (wsV RX3 119 RX3 yX3_turned wsX3_turned) := goodIn_app (goodIn_of _ (by decide +kernel)) ggX3_isCloser_X3_turned
set_option maxRecDepth 20000 in
theorem ggX3_isCloser_X3_caseOf : GoodIn wsX3_isCloser wsX3_caseOf := goodIn_r _ [15, 16, 8, 17, 18, 6, 19, 20, 21, 22, 23, 24, 25, 26, 27, 28, 29, 30, 31, 32, 33, 34, 35, 36, 37, 38, 39] rfl (by decide +kernel)
set_option maxRecDepth 20000 in
theorem gX3_isCloser_X3_caseOf : GoodIn wsX3_isCloser (wsV RX3 154 RX3 yX3_caseOf wsX3_caseOf) := goodIn_app (goodIn_of _ (by decide +kernel)) ggX3_isCloser_X3_caseOf
theorem da9_dX3_isCloser_0 : (decode cX3_isCloser 0 = .ok (.aload_n 0, 1)) ∧ (decode cX3_isCloser 1 = .ok (.getfield 39, 3)) ∧ (decode cX3_isCloser 4 = .ok (.aload_n 0, 1)) ∧ (decode cX3_isCloser 5 = .ok (.iload_n 1, 1)) ∧ (decode cX3_isCloser 6 = .ok (.iload_n 2, 1)) ∧ (decode cX3_isCloser 7 = .ok (.invokevirtual 119, 3)) ∧ (decode cX3_isCloser 10 = .ok (.iaload, 1)) ∧ (decode cX3_isCloser 11 = .ok (.aload_n 0, 1)) ∧ (decode cX3_isCloser 12 = .ok (.getfield 39, 3)) ∧ (decode cX3_isCloser 15 = .ok (.iload_n 1, 1)) ∧ (decode cX3_isCloser 16 = .ok (.iaload, 1)) ∧ (decode cX3_isCloser 17 = .ok (.iconst 1, 1)) ∧ (decode cX3_isCloser 18 = .ok (.isub, 1)) ∧ (decode cX3_isCloser 19 = .ok (.if_icmp .ne 30, 3)) ∧ (decode cX3_isCloser 22 = .ok (.aload_n 0, 1)) ∧ (decode cX3_isCloser 23 = .ok (.getfield 39, 3)) := by decide +kernel
theorem dX3_isCloser_0 : decode cX3_isCloser 0 = .ok (.aload_n 0, 1) := da9_dX3_isCloser_0.1
theorem dX3_isCloser_1 : decode cX3_isCloser 1 = .ok (.getfield 39, 3) := da9_dX3_isCloser_0.2.1
theorem dX3_isCloser_4 : decode cX3_isCloser 4 = .ok (.aload_n 0, 1) := da9_dX3_isCloser_0.2.2.1
theorem dX3_isCloser_5 : decode cX3_isCloser 5 = .ok (.iload_n 1, 1) := da9_dX3_isCloser_0.2.2.2.1
theorem dX3_isCloser_6 : decode cX3_isCloser 6 = .ok (.iload_n 2, 1) := da9_dX3_isCloser_0.2.2.2.2.1
theorem dX3_isCloser_7 : decode cX3_isCloser 7 = .ok (.invokevirtual 119, 3) := da9_dX3_isCloser_0.2.2.2.2.2.1
theorem dX3_isCloser_10 : decode cX3_isCloser 10 = .ok (.iaload, 1) := da9_dX3_isCloser_0.2.2.2.2.2.2.1
theorem dX3_isCloser_11 : decode cX3_isCloser 11 = .ok (.aload_n 0, 1) := da9_dX3_isCloser_0.2.2.2.2.2.2.2.1
theorem dX3_isCloser_12 : decode cX3_isCloser 12 = .ok (.getfield 39, 3) := da9_dX3_isCloser_0.2.2.2.2.2.2.2.2.1
theorem dX3_isCloser_15 : decode cX3_isCloser 15 = .ok (.iload_n 1, 1) := da9_dX3_isCloser_0.2.2.2.2.2.2.2.2.2.1
theorem dX3_isCloser_16 : decode cX3_isCloser 16 = .ok (.iaload, 1) := da9_dX3_isCloser_0.2.2.2.2.2.2.2.2.2.2.1
theorem dX3_isCloser_17 : decode cX3_isCloser 17 = .ok (.iconst 1, 1) := da9_dX3_isCloser_0.2.2.2.2.2.2.2.2.2.2.2.1
theorem dX3_isCloser_18 : decode cX3_isCloser 18 = .ok (.isub, 1) := da9_dX3_isCloser_0.2.2.2.2.2.2.2.2.2.2.2.2.1
theorem dX3_isCloser_19 : decode cX3_isCloser 19 = .ok (.if_icmp .ne 30, 3) := da9_dX3_isCloser_0.2.2.2.2.2.2.2.2.2.2.2.2.2.1
theorem dX3_isCloser_22 : decode cX3_isCloser 22 = .ok (.aload_n 0, 1) := da9_dX3_isCloser_0.2.2.2.2.2.2.2.2.2.2.2.2.2.2.1
theorem dX3_isCloser_23 : decode cX3_isCloser 23 = .ok (.getfield 39, 3) := da9_dX3_isCloser_0.2.2.2.2.2.2.2.2.2.2.2.2.2.2.2
theorem da9_dX3_isCloser_26 : (decode cX3_isCloser 26 = .ok (.iload_n 1, 1)) ∧ (decode cX3_isCloser 27 = .ok (.iaload, 1)) ∧ (decode cX3_isCloser 28 = .ok (.ifCond .le 21, 3)) ∧ (decode cX3_isCloser 31 = .ok (.aload_n 0, 1)) ∧ (decode cX3_isCloser 32 = .ok (.getfield 18, 3)) ∧ (decode cX3_isCloser 35 = .ok (.aload_n 0, 1)) ∧ (decode cX3_isCloser 36 = .ok (.iload_n 1, 1)) ∧ (decode cX3_isCloser 37 = .ok (.iload_n 2, 1)) ∧ (decode cX3_isCloser 38 = .ok (.invokevirtual 154, 3)) ∧ (decode cX3_isCloser 41 = .ok (.iaload, 1)) ∧ (decode cX3_isCloser 42 = .ok (.ifCond .ne 7, 3)) ∧ (decode cX3_isCloser 45 = .ok (.iconst 1, 1)) ∧ (decode cX3_isCloser 46 = .ok (.goto 4, 3)) ∧ (decode cX3_isCloser 49 = .ok (.iconst 0, 1)) ∧ (decode cX3_isCloser 50 = .ok (.ireturn, 1)) := by decide +kernel
theorem dX3_isCloser_26 : decode cX3_isCloser 26 = .ok (.iload_n 1, 1) := da9_dX3_isCloser_26.1
theorem dX3_isCloser_27 : decode cX3_isCloser 27 = .ok (.iaload, 1) := da9_dX3_isCloser_26.2.1
theorem dX3_isCloser_28 : decode cX3_isCloser 28 = .ok (.ifCond .le 21, 3) := da9_dX3_isCloser_26.2.2.1
theorem dX3_isCloser_31 : decode cX3_isCloser 31 = .ok (.aload_n 0, 1) := da9_dX3_isCloser_26.2.2.2.1
theorem dX3_isCloser_32 : decode cX3_isCloser 32 = .ok (.getfield 18, 3) := da9_dX3_isCloser_26.2.2.2.2.1
theorem dX3_isCloser_35 : decode cX3_isCloser 35 = .ok (.aload_n 0, 1) := da9_dX3_isCloser_26.2.2.2.2.2.1
theorem dX3_isCloser_36 : decode cX3_isCloser 36 = .ok (.iload_n 1, 1) := da9_dX3_isCloser_26.2.2.2.2.2.2.1
theorem dX3_isCloser_37 : decode cX3_isCloser 37 = .ok (.iload_n 2, 1) := da9_dX3_isCloser_26.2.2.2.2.2.2.2.1
theorem dX3_isCloser_38 : decode cX3_isCloser 38 = .ok (.invokevirtual 154, 3) := da9_dX3_isCloser_26.2.2.2.2.2.2.2.2.1
theorem dX3_isCloser_41 : decode cX3_isCloser 41 = .ok (.iaload, 1) := da9_dX3_isCloser_26.2.2.2.2.2.2.2.2.2.1
theorem dX3_isCloser_42 : decode cX3_isCloser 42 = .ok (.ifCond .ne 7, 3) := da9_dX3_isCloser_26.2.2.2.2.2.2.2.2.2.2.1
theorem dX3_isCloser_45 : decode cX3_isCloser 45 = .ok (.iconst 1, 1) := da9_dX3_isCloser_26.2.2.2.2.2.2.2.2.2.2.2.1
theorem dX3_isCloser_46 : decode cX3_isCloser 46 = .ok (.goto 4, 3) := da9_dX3_isCloser_26.2.2.2.2.2.2.2.2.2.2.2.2.1
theorem dX3_isCloser_49 : decode cX3_isCloser 49 = .ok (.iconst 0, 1) := da9_dX3_isCloser_26.2.2.2.2.2.2.2.2.2.2.2.2.2.1
theorem dX3_isCloser_50 : decode cX3_isCloser 50 = .ok (.ireturn, 1) := da9_dX3_isCloser_26.2.2.2.2.2.2.2.2.2.2.2.2.2.2
set_option maxRecDepth 20000 in
theorem ggX9_fewest_X9_seated : GoodIn wsX9_fewest wsX9_seated := goodIn_r _ [6, 7, 8, 9, 10, 11, 12, 13, 14, 15, 16, 17, 18, 19, 20, 21, 22, 23, 24, 25, 26, 178, 179, 180, 181, 182, 183, 184, 185, 186, 187, 188, 189, 190, 191, 192, 193, 194, 195, 196, 197, 198, 199, 200, 201, 202, 203, 204, 205, 206, 207, 208, 209] rfl (by decide +kernel)
set_option maxRecDepth 20000 in
theorem gX9_fewest_X9_seated : GoodIn wsX9_fewest (wsV RX9 144 RX9 yX9_seated wsX9_seated) := goodIn_app (goodIn_of _ (by decide +kernel)) ggX9_fewest_X9_seated
set_option maxRecDepth 20000 in
theorem ggX9_fewest_X9_spread : GoodIn wsX9_fewest wsX9_spread := goodIn_r _ [30, 1, 8, 31, 32, 33, 34, 35, 36, 37, 38, 39, 40, 41, 42, 43, 44, 45, 46, 47, 48, 49, 50, 51, 52, 53, 54, 55, 56, 57, 58, 59, 60, 61, 62, 63, 64, 65, 66, 67, 68, 5, 69, 70, 71, 72, 73, 74, 75, 76, 77, 78, 79, 80, 81, 82, 83, 84, 85, 86, 87, 88, 89, 90, 91, 92, 93, 94, 95, 96, 97, 98, 99, 100, 23, 101, 26, 102, 103, 104, 105, 106, 107, 108, 109, 25, 110, 111, 112, 113, 114, 115, 116, 117, 118, 119, 120, 121, 122, 123, 124, 125, 126, 127, 128, 129, 130, 131, 132, 133, 134, 135, 178, 179, 180, 181, 182, 183, 184, 185, 186, 187, 188, 189, 190, 191, 192, 193, 194, 195, 196, 197, 198, 199, 200, 201, 202, 203, 204, 205, 206, 210, 211, 212, 213, 214, 215, 216, 217, 218, 219, 220, 221, 222, 223, 224, 225, 226, 227, 228, 229, 230, 231, 232, 233, 234, 207, 208, 209, 235, 236, 237, 238, 239, 240, 241, 242, 243, 244] rfl (by decide +kernel)
set_option maxRecDepth 20000 in
theorem gX9_fewest_X9_spread : GoodIn wsX9_fewest (wsV RX9 226 RX9 yX9_spread wsX9_spread) := goodIn_app (goodIn_of _ (by decide +kernel)) ggX9_fewest_X9_spread
set_option maxRecDepth 20000 in
theorem ggX9_fewest_X3_turnsToOrder : GoodIn wsX9_fewest wsX3_turnsToOrder := goodIn_r _ [139, 40, 47, 140, 141, 142, 34, 143, 59, 36, 144, 37, 39, 54, 92, 145, 146, 147, 148, 149, 150, 151, 152, 153, 94, 95, 96, 97, 154, 155, 156, 157, 158, 159, 160, 161, 57, 58, 162, 163, 164, 165, 56, 133, 134, 135, 215, 216, 217, 218, 219, 220, 221, 222, 223, 224, 225, 226, 227, 228, 229, 230, 231, 232, 233, 234] rfl (by decide +kernel)
set_option maxRecDepth 20000 in
theorem gX9_fewest_X3_turnsToOrder : GoodIn wsX9_fewest (wsV RX9 230 RX3 yX3_turnsToOrder wsX3_turnsToOrder) := goodIn_app (goodIn_of _ (by decide +kernel)) ggX9_fewest_X3_turnsToOrder
set_option maxRecDepth 20000 in
theorem ggX9_fewest_X3_turnOfFirstRow : GoodIn wsX9_fewest wsX3_turnOfFirstRow := goodIn_r _ [169, 40, 47, 140, 141, 142, 34, 143, 59, 36, 144, 37, 39, 54, 92, 145, 146, 147, 148, 149, 150, 151, 152, 153, 94, 95, 96, 97, 154, 155, 156, 157, 158, 159, 160, 161, 57, 58, 162, 163, 164, 165, 56, 133, 134, 135, 170, 171, 172, 173, 174, 175, 176, 177, 215, 216, 217, 218, 219, 220, 221, 222, 223, 224, 225, 226, 227, 228, 229, 230, 231, 232, 233, 234] rfl (by decide +kernel)
set_option maxRecDepth 20000 in
theorem gX9_fewest_X3_turnOfFirstRow : GoodIn wsX9_fewest (wsV RX9 234 RX3 yX3_turnOfFirstRow wsX3_turnOfFirstRow) := goodIn_app (goodIn_of _ (by decide +kernel)) ggX9_fewest_X3_turnOfFirstRow
theorem da9_dX9_fewest_0 : (decode cX9_fewest 0 = .ok (.aload_n 0, 1)) ∧ (decode cX9_fewest 1 = .ok (.aload_n 0, 1)) ∧ (decode cX9_fewest 2 = .ok (.invokevirtual 144, 3)) ∧ (decode cX9_fewest 5 = .ok (.invokevirtual 226, 3)) ∧ (decode cX9_fewest 8 = .ok (.iload_n 1, 1)) ∧ (decode cX9_fewest 9 = .ok (.iconst (-1), 1)) ∧ (decode cX9_fewest 10 = .ok (.if_icmp .ne 11, 3)) ∧ (decode cX9_fewest 13 = .ok (.aload_n 0, 1)) ∧ (decode cX9_fewest 14 = .ok (.getfield 80, 3)) ∧ (decode cX9_fewest 17 = .ok (.invokevirtual 230, 3)) ∧ (decode cX9_fewest 20 = .ok (.ireturn, 1)) ∧ (decode cX9_fewest 21 = .ok (.aload_n 0, 1)) ∧ (decode cX9_fewest 22 = .ok (.getfield 80, 3)) ∧ (decode cX9_fewest 25 = .ok (.iload_n 1, 1)) ∧ (decode cX9_fewest 26 = .ok (.invokevirtual 234, 3)) ∧ (decode cX9_fewest 29 = .ok (.ireturn, 1)) := by decide +kernel
theorem dX9_fewest_0 : decode cX9_fewest 0 = .ok (.aload_n 0, 1) := da9_dX9_fewest_0.1
theorem dX9_fewest_1 : decode cX9_fewest 1 = .ok (.aload_n 0, 1) := da9_dX9_fewest_0.2.1
theorem dX9_fewest_2 : decode cX9_fewest 2 = .ok (.invokevirtual 144, 3) := da9_dX9_fewest_0.2.2.1
theorem dX9_fewest_5 : decode cX9_fewest 5 = .ok (.invokevirtual 226, 3) := da9_dX9_fewest_0.2.2.2.1
theorem dX9_fewest_8 : decode cX9_fewest 8 = .ok (.iload_n 1, 1) := da9_dX9_fewest_0.2.2.2.2.1
theorem dX9_fewest_9 : decode cX9_fewest 9 = .ok (.iconst (-1), 1) := da9_dX9_fewest_0.2.2.2.2.2.1
theorem dX9_fewest_10 : decode cX9_fewest 10 = .ok (.if_icmp .ne 11, 3) := da9_dX9_fewest_0.2.2.2.2.2.2.1
theorem dX9_fewest_13 : decode cX9_fewest 13 = .ok (.aload_n 0, 1) := da9_dX9_fewest_0.2.2.2.2.2.2.2.1
theorem dX9_fewest_14 : decode cX9_fewest 14 = .ok (.getfield 80, 3) := da9_dX9_fewest_0.2.2.2.2.2.2.2.2.1
theorem dX9_fewest_17 : decode cX9_fewest 17 = .ok (.invokevirtual 230, 3) := da9_dX9_fewest_0.2.2.2.2.2.2.2.2.2.1
theorem dX9_fewest_20 : decode cX9_fewest 20 = .ok (.ireturn, 1) := da9_dX9_fewest_0.2.2.2.2.2.2.2.2.2.2.1
theorem dX9_fewest_21 : decode cX9_fewest 21 = .ok (.aload_n 0, 1) := da9_dX9_fewest_0.2.2.2.2.2.2.2.2.2.2.2.1
theorem dX9_fewest_22 : decode cX9_fewest 22 = .ok (.getfield 80, 3) := da9_dX9_fewest_0.2.2.2.2.2.2.2.2.2.2.2.2.1
theorem dX9_fewest_25 : decode cX9_fewest 25 = .ok (.iload_n 1, 1) := da9_dX9_fewest_0.2.2.2.2.2.2.2.2.2.2.2.2.2.1
theorem dX9_fewest_26 : decode cX9_fewest 26 = .ok (.invokevirtual 234, 3) := da9_dX9_fewest_0.2.2.2.2.2.2.2.2.2.2.2.2.2.2.1
theorem dX9_fewest_29 : decode cX9_fewest 29 = .ok (.ireturn, 1) := da9_dX9_fewest_0.2.2.2.2.2.2.2.2.2.2.2.2.2.2.2
