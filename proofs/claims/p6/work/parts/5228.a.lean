theorem da9_dX8_onHeads_0 : (decode cX8_onHeads 0 = .ok (.iconst 0, 1)) ∧ (decode cX8_onHeads 1 = .ok (.istore_n 1, 1)) ∧ (decode cX8_onHeads 2 = .ok (.iconst 0, 1)) ∧ (decode cX8_onHeads 3 = .ok (.istore_n 2, 1)) ∧ (decode cX8_onHeads 4 = .ok (.iload_n 2, 1)) ∧ (decode cX8_onHeads 5 = .ok (.aload_n 0, 1)) ∧ (decode cX8_onHeads 6 = .ok (.getfield 18, 3)) ∧ (decode cX8_onHeads 9 = .ok (.if_icmp .ge 18, 3)) ∧ (decode cX8_onHeads 12 = .ok (.iload_n 1, 1)) ∧ (decode cX8_onHeads 13 = .ok (.aload_n 0, 1)) ∧ (decode cX8_onHeads 14 = .ok (.getfield 15, 3)) ∧ (decode cX8_onHeads 17 = .ok (.iload_n 2, 1)) ∧ (decode cX8_onHeads 18 = .ok (.iaload, 1)) ∧ (decode cX8_onHeads 19 = .ok (.iadd, 1)) ∧ (decode cX8_onHeads 20 = .ok (.istore_n 1, 1)) ∧ (decode cX8_onHeads 21 = .ok (.iinc 2 1, 3)) := by decide +kernel
theorem dX8_onHeads_0 : decode cX8_onHeads 0 = .ok (.iconst 0, 1) := da9_dX8_onHeads_0.1
theorem dX8_onHeads_1 : decode cX8_onHeads 1 = .ok (.istore_n 1, 1) := da9_dX8_onHeads_0.2.1
theorem dX8_onHeads_2 : decode cX8_onHeads 2 = .ok (.iconst 0, 1) := da9_dX8_onHeads_0.2.2.1
theorem dX8_onHeads_3 : decode cX8_onHeads 3 = .ok (.istore_n 2, 1) := da9_dX8_onHeads_0.2.2.2.1
theorem dX8_onHeads_4 : decode cX8_onHeads 4 = .ok (.iload_n 2, 1) := da9_dX8_onHeads_0.2.2.2.2.1
theorem dX8_onHeads_5 : decode cX8_onHeads 5 = .ok (.aload_n 0, 1) := da9_dX8_onHeads_0.2.2.2.2.2.1
theorem dX8_onHeads_6 : decode cX8_onHeads 6 = .ok (.getfield 18, 3) := da9_dX8_onHeads_0.2.2.2.2.2.2.1
theorem dX8_onHeads_9 : decode cX8_onHeads 9 = .ok (.if_icmp .ge 18, 3) := da9_dX8_onHeads_0.2.2.2.2.2.2.2.1
theorem dX8_onHeads_12 : decode cX8_onHeads 12 = .ok (.iload_n 1, 1) := da9_dX8_onHeads_0.2.2.2.2.2.2.2.2.1
theorem dX8_onHeads_13 : decode cX8_onHeads 13 = .ok (.aload_n 0, 1) := da9_dX8_onHeads_0.2.2.2.2.2.2.2.2.2.1
theorem dX8_onHeads_14 : decode cX8_onHeads 14 = .ok (.getfield 15, 3) := da9_dX8_onHeads_0.2.2.2.2.2.2.2.2.2.2.1
theorem dX8_onHeads_17 : decode cX8_onHeads 17 = .ok (.iload_n 2, 1) := da9_dX8_onHeads_0.2.2.2.2.2.2.2.2.2.2.2.1
theorem dX8_onHeads_18 : decode cX8_onHeads 18 = .ok (.iaload, 1) := da9_dX8_onHeads_0.2.2.2.2.2.2.2.2.2.2.2.2.1
theorem dX8_onHeads_19 : decode cX8_onHeads 19 = .ok (.iadd, 1) := da9_dX8_onHeads_0.2.2.2.2.2.2.2.2.2.2.2.2.2.1
theorem dX8_onHeads_20 : decode cX8_onHeads 20 = .ok (.istore_n 1, 1) := da9_dX8_onHeads_0.2.2.2.2.2.2.2.2.2.2.2.2.2.2.1
theorem dX8_onHeads_21 : decode cX8_onHeads 21 = .ok (.iinc 2 1, 3) := da9_dX8_onHeads_0.2.2.2.2.2.2.2.2.2.2.2.2.2.2.2
theorem da9_dX8_onHeads_24 : (decode cX8_onHeads 24 = .ok (.goto (-20), 3)) ∧ (decode cX8_onHeads 27 = .ok (.iload_n 1, 1)) ∧ (decode cX8_onHeads 28 = .ok (.ireturn, 1)) := by decide +kernel
theorem dX8_onHeads_24 : decode cX8_onHeads 24 = .ok (.goto (-20), 3) := da9_dX8_onHeads_24.1
theorem dX8_onHeads_27 : decode cX8_onHeads 27 = .ok (.iload_n 1, 1) := da9_dX8_onHeads_24.2.1
theorem dX8_onHeads_28 : decode cX8_onHeads 28 = .ok (.ireturn, 1) := da9_dX8_onHeads_24.2.2
set_option maxRecDepth 20000 in
theorem ggX9_back_X9_isImage : GoodIn wsX9_back wsX9_isImage := goodIn_r _ [8] rfl (by decide +kernel)
set_option maxRecDepth 20000 in
theorem gX9_back_X9_isImage : GoodIn wsX9_back (va_wsS RX9 332 yX9_isImage wsX9_isImage) := goodIn_app (goodIn_of _ (by decide +kernel)) ggX9_back_X9_isImage
set_option maxRecDepth 20000 in
theorem ggX9_back_X9_refuse : GoodIn wsX9_back wsX9_refuse := goodIn_r _ [12, 13, 14, 61, 62, 63, 64, 65, 66, 67, 68, 69, 70, 71, 72, 73, 74, 75, 76, 77, 78, 79] rfl (by decide +kernel)
set_option maxRecDepth 20000 in
theorem gX9_back_X9_refuse : GoodIn wsX9_back (wsV RX9 118 RX9 yX9_refuse wsX9_refuse) := goodIn_app (goodIn_of _ (by decide +kernel)) ggX9_back_X9_refuse
set_option maxRecDepth 20000 in
theorem ggX9_back_X6_copyFrom : GoodIn wsX9_back wsX6_copyFrom := goodIn_r _ [19, 20, 21, 22, 23, 24, 25, 26, 27, 28, 29, 30, 31, 32, 33, 34, 35, 36, 37, 38, 39, 40, 41, 42, 43, 44, 45, 46, 47, 48, 49, 50, 80, 81, 82, 83, 84, 85, 86, 87, 88, 89, 90, 91, 92, 93, 94] rfl (by decide +kernel)
set_option maxRecDepth 20000 in
theorem gX9_back_X6_copyFrom : GoodIn wsX9_back (wsV RX9 335 RX6 yX6_copyFrom wsX6_copyFrom) := goodIn_app (goodIn_of _ (by decide +kernel)) ggX9_back_X6_copyFrom
set_option maxRecDepth 20000 in
theorem ggX9_back_X0_clear : GoodIn wsX9_back wsX0_clear := goodIn_r _ [55, 56, 95, 96, 97, 98, 99, 100] rfl (by decide +kernel)
set_option maxRecDepth 20000 in
theorem gX9_back_X0_clear : GoodIn wsX9_back (wsV RX9 132 RX0 yX0_clear wsX0_clear) := goodIn_app (goodIn_of _ (by decide +kernel)) ggX9_back_X0_clear
set_option maxRecDepth 20000 in
theorem ggX9_back_X9_accept : GoodIn wsX9_back wsX9_accept := goodIn_r _ [60, 13, 61, 62, 63, 64, 65, 66, 67, 68, 69, 70, 71, 72, 73, 74, 75, 76, 77, 78, 79] rfl (by decide +kernel)
set_option maxRecDepth 20000 in
theorem gX9_back_X9_accept : GoodIn wsX9_back (wsV RX9 138 RX9 yX9_accept wsX9_accept) := goodIn_app (goodIn_of _ (by decide +kernel)) ggX9_back_X9_accept
theorem da9_dX9_back_0 : (decode cX9_back 0 = .ok (.iload_n 1, 1)) ∧ (decode cX9_back 1 = .ok (.invokestatic 332, 3)) ∧ (decode cX9_back 4 = .ok (.ifCond .ne 9, 3)) ∧ (decode cX9_back 7 = .ok (.aload_n 0, 1)) ∧ (decode cX9_back 8 = .ok (.iconst (-1), 1)) ∧ (decode cX9_back 9 = .ok (.invokevirtual 118, 3)) ∧ (decode cX9_back 12 = .ok (.ireturn, 1)) ∧ (decode cX9_back 13 = .ok (.aload_n 0, 1)) ∧ (decode cX9_back 14 = .ok (.getfield 20, 3)) ∧ (decode cX9_back 17 = .ok (.iload_n 1, 1)) ∧ (decode cX9_back 18 = .ok (.baload, 1)) ∧ (decode cX9_back 19 = .ok (.ifCond .ne 10, 3)) ∧ (decode cX9_back 22 = .ok (.aload_n 0, 1)) ∧ (decode cX9_back 23 = .ok (.bipush (-2), 2)) ∧ (decode cX9_back 25 = .ok (.invokevirtual 118, 3)) ∧ (decode cX9_back 28 = .ok (.ireturn, 1)) := by decide +kernel
theorem dX9_back_0 : decode cX9_back 0 = .ok (.iload_n 1, 1) := da9_dX9_back_0.1
theorem dX9_back_1 : decode cX9_back 1 = .ok (.invokestatic 332, 3) := da9_dX9_back_0.2.1
theorem dX9_back_4 : decode cX9_back 4 = .ok (.ifCond .ne 9, 3) := da9_dX9_back_0.2.2.1
theorem dX9_back_7 : decode cX9_back 7 = .ok (.aload_n 0, 1) := da9_dX9_back_0.2.2.2.1
theorem dX9_back_8 : decode cX9_back 8 = .ok (.iconst (-1), 1) := da9_dX9_back_0.2.2.2.2.1
theorem dX9_back_9 : decode cX9_back 9 = .ok (.invokevirtual 118, 3) := da9_dX9_back_0.2.2.2.2.2.1
theorem dX9_back_12 : decode cX9_back 12 = .ok (.ireturn, 1) := da9_dX9_back_0.2.2.2.2.2.2.1
theorem dX9_back_13 : decode cX9_back 13 = .ok (.aload_n 0, 1) := da9_dX9_back_0.2.2.2.2.2.2.2.1
theorem dX9_back_14 : decode cX9_back 14 = .ok (.getfield 20, 3) := da9_dX9_back_0.2.2.2.2.2.2.2.2.1
theorem dX9_back_17 : decode cX9_back 17 = .ok (.iload_n 1, 1) := da9_dX9_back_0.2.2.2.2.2.2.2.2.2.1
theorem dX9_back_18 : decode cX9_back 18 = .ok (.baload, 1) := da9_dX9_back_0.2.2.2.2.2.2.2.2.2.2.1
theorem dX9_back_19 : decode cX9_back 19 = .ok (.ifCond .ne 10, 3) := da9_dX9_back_0.2.2.2.2.2.2.2.2.2.2.2.1
theorem dX9_back_22 : decode cX9_back 22 = .ok (.aload_n 0, 1) := da9_dX9_back_0.2.2.2.2.2.2.2.2.2.2.2.2.1
theorem dX9_back_23 : decode cX9_back 23 = .ok (.bipush (-2), 2) := da9_dX9_back_0.2.2.2.2.2.2.2.2.2.2.2.2.2.1
theorem dX9_back_25 : decode cX9_back 25 = .ok (.invokevirtual 118, 3) := da9_dX9_back_0.2.2.2.2.2.2.2.2.2.2.2.2.2.2.1
theorem dX9_back_28 : decode cX9_back 28 = .ok (.ireturn, 1) := da9_dX9_back_0.2.2.2.2.2.2.2.2.2.2.2.2.2.2.2
theorem da9_dX9_back_29 : (decode cX9_back 29 = .ok (.aload_n 0, 1)) ∧ (decode cX9_back 30 = .ok (.getfield 10, 3)) ∧ (decode cX9_back 33 = .ok (.aload_n 0, 1)) ∧ (decode cX9_back 34 = .ok (.getfield 16, 3)) ∧ (decode cX9_back 37 = .ok (.iload_n 1, 1)) ∧ (decode cX9_back 38 = .ok (.aaload, 1)) ∧ (decode cX9_back 39 = .ok (.invokevirtual 335, 3)) ∧ (decode cX9_back 42 = .ok (.aload_n 0, 1)) ∧ (decode cX9_back 43 = .ok (.getfield 27, 3)) ∧ (decode cX9_back 46 = .ok (.invokevirtual 132, 3)) ∧ (decode cX9_back 49 = .ok (.aload_n 0, 1)) ∧ (decode cX9_back 50 = .ok (.iconst 0, 1)) ∧ (decode cX9_back 51 = .ok (.invokevirtual 138, 3)) ∧ (decode cX9_back 54 = .ok (.ireturn, 1)) := by decide +kernel
theorem dX9_back_29 : decode cX9_back 29 = .ok (.aload_n 0, 1) := da9_dX9_back_29.1
theorem dX9_back_30 : decode cX9_back 30 = .ok (.getfield 10, 3) := da9_dX9_back_29.2.1
theorem dX9_back_33 : decode cX9_back 33 = .ok (.aload_n 0, 1) := da9_dX9_back_29.2.2.1
theorem dX9_back_34 : decode cX9_back 34 = .ok (.getfield 16, 3) := da9_dX9_back_29.2.2.2.1
theorem dX9_back_37 : decode cX9_back 37 = .ok (.iload_n 1, 1) := da9_dX9_back_29.2.2.2.2.1
theorem dX9_back_38 : decode cX9_back 38 = .ok (.aaload, 1) := da9_dX9_back_29.2.2.2.2.2.1
theorem dX9_back_39 : decode cX9_back 39 = .ok (.invokevirtual 335, 3) := da9_dX9_back_29.2.2.2.2.2.2.1
theorem dX9_back_42 : decode cX9_back 42 = .ok (.aload_n 0, 1) := da9_dX9_back_29.2.2.2.2.2.2.2.1
theorem dX9_back_43 : decode cX9_back 43 = .ok (.getfield 27, 3) := da9_dX9_back_29.2.2.2.2.2.2.2.2.1
theorem dX9_back_46 : decode cX9_back 46 = .ok (.invokevirtual 132, 3) := da9_dX9_back_29.2.2.2.2.2.2.2.2.2.1
theorem dX9_back_49 : decode cX9_back 49 = .ok (.aload_n 0, 1) := da9_dX9_back_29.2.2.2.2.2.2.2.2.2.2.1
theorem dX9_back_50 : decode cX9_back 50 = .ok (.iconst 0, 1) := da9_dX9_back_29.2.2.2.2.2.2.2.2.2.2.2.1
theorem dX9_back_51 : decode cX9_back 51 = .ok (.invokevirtual 138, 3) := da9_dX9_back_29.2.2.2.2.2.2.2.2.2.2.2.2.1
theorem dX9_back_54 : decode cX9_back 54 = .ok (.ireturn, 1) := da9_dX9_back_29.2.2.2.2.2.2.2.2.2.2.2.2.2
