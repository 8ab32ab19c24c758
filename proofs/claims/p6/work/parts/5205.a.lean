set_option maxRecDepth 20000 in
theorem ggX4_openBracket_X4_fail : GoodIn wsX4_openBracket wsX4_fail := goodIn_r _ [6, 7, 8, 25, 26, 27, 28, 29, 30, 31, 32, 33, 34, 35] rfl (by decide +kernel)
set_option maxRecDepth 20000 in
theorem gX4_openBracket_X4_fail : GoodIn wsX4_openBracket (wsV RX4 62 RX4 yX4_fail wsX4_fail) := goodIn_app (goodIn_of _ (by decide +kernel)) ggX4_openBracket_X4_fail
set_option maxRecDepth 20000 in
theorem ggX4_openBracket_X4_step : GoodIn wsX4_openBracket wsX4_step := goodIn_r _ [12, 7, 13, 8, 14, 15, 16, 17, 18, 19, 20, 21, 22, 23, 5, 24, 25, 26, 27, 28, 29, 30, 31, 32, 33, 34, 35] rfl (by decide +kernel)
set_option maxRecDepth 20000 in
theorem gX4_openBracket_X4_step : GoodIn wsX4_openBracket (wsV RX4 59 RX4 yX4_step wsX4_step) := goodIn_app (goodIn_of _ (by decide +kernel)) ggX4_openBracket_X4_step
theorem da9_dX4_openBracket_0 : (decode cX4_openBracket 0 = .ok (.aload_n 0, 1)) ∧ (decode cX4_openBracket 1 = .ok (.getfield 42, 3)) ∧ (decode cX4_openBracket 4 = .ok (.bipush 8, 2)) ∧ (decode cX4_openBracket 6 = .ok (.if_icmp .lt 9, 3)) ∧ (decode cX4_openBracket 9 = .ok (.aload_n 0, 1)) ∧ (decode cX4_openBracket 10 = .ok (.invokevirtual 62, 3)) ∧ (decode cX4_openBracket 13 = .ok (.iconst 0, 1)) ∧ (decode cX4_openBracket 14 = .ok (.ireturn, 1)) ∧ (decode cX4_openBracket 15 = .ok (.aload_n 0, 1)) ∧ (decode cX4_openBracket 16 = .ok (.dup, 1)) ∧ (decode cX4_openBracket 17 = .ok (.getfield 42, 3)) ∧ (decode cX4_openBracket 20 = .ok (.iconst 1, 1)) ∧ (decode cX4_openBracket 21 = .ok (.iadd, 1)) ∧ (decode cX4_openBracket 22 = .ok (.putfield 42, 3)) ∧ (decode cX4_openBracket 25 = .ok (.aload_n 0, 1)) ∧ (decode cX4_openBracket 26 = .ok (.invokevirtual 59, 3)) := by decide +kernel
theorem dX4_openBracket_0 : decode cX4_openBracket 0 = .ok (.aload_n 0, 1) := da9_dX4_openBracket_0.1
theorem dX4_openBracket_1 : decode cX4_openBracket 1 = .ok (.getfield 42, 3) := da9_dX4_openBracket_0.2.1
theorem dX4_openBracket_4 : decode cX4_openBracket 4 = .ok (.bipush 8, 2) := da9_dX4_openBracket_0.2.2.1
theorem dX4_openBracket_6 : decode cX4_openBracket 6 = .ok (.if_icmp .lt 9, 3) := da9_dX4_openBracket_0.2.2.2.1
theorem dX4_openBracket_9 : decode cX4_openBracket 9 = .ok (.aload_n 0, 1) := da9_dX4_openBracket_0.2.2.2.2.1
theorem dX4_openBracket_10 : decode cX4_openBracket 10 = .ok (.invokevirtual 62, 3) := da9_dX4_openBracket_0.2.2.2.2.2.1
theorem dX4_openBracket_13 : decode cX4_openBracket 13 = .ok (.iconst 0, 1) := da9_dX4_openBracket_0.2.2.2.2.2.2.1
theorem dX4_openBracket_14 : decode cX4_openBracket 14 = .ok (.ireturn, 1) := da9_dX4_openBracket_0.2.2.2.2.2.2.2.1
theorem dX4_openBracket_15 : decode cX4_openBracket 15 = .ok (.aload_n 0, 1) := da9_dX4_openBracket_0.2.2.2.2.2.2.2.2.1
theorem dX4_openBracket_16 : decode cX4_openBracket 16 = .ok (.dup, 1) := da9_dX4_openBracket_0.2.2.2.2.2.2.2.2.2.1
theorem dX4_openBracket_17 : decode cX4_openBracket 17 = .ok (.getfield 42, 3) := da9_dX4_openBracket_0.2.2.2.2.2.2.2.2.2.2.1
theorem dX4_openBracket_20 : decode cX4_openBracket 20 = .ok (.iconst 1, 1) := da9_dX4_openBracket_0.2.2.2.2.2.2.2.2.2.2.2.1
theorem dX4_openBracket_21 : decode cX4_openBracket 21 = .ok (.iadd, 1) := da9_dX4_openBracket_0.2.2.2.2.2.2.2.2.2.2.2.2.1
theorem dX4_openBracket_22 : decode cX4_openBracket 22 = .ok (.putfield 42, 3) := da9_dX4_openBracket_0.2.2.2.2.2.2.2.2.2.2.2.2.2.1
theorem dX4_openBracket_25 : decode cX4_openBracket 25 = .ok (.aload_n 0, 1) := da9_dX4_openBracket_0.2.2.2.2.2.2.2.2.2.2.2.2.2.2.1
theorem dX4_openBracket_26 : decode cX4_openBracket 26 = .ok (.invokevirtual 59, 3) := da9_dX4_openBracket_0.2.2.2.2.2.2.2.2.2.2.2.2.2.2.2
theorem da9_dX4_openBracket_29 : (decode cX4_openBracket 29 = .ok (.iconst 1, 1)) ∧ (decode cX4_openBracket 30 = .ok (.ireturn, 1)) := by decide +kernel
theorem dX4_openBracket_29 : decode cX4_openBracket 29 = .ok (.iconst 1, 1) := da9_dX4_openBracket_29.1
theorem dX4_openBracket_30 : decode cX4_openBracket 30 = .ok (.ireturn, 1) := da9_dX4_openBracket_29.2
set_option maxRecDepth 20000 in
theorem ggX4_expectSign_X4_isSign : GoodIn wsX4_expectSign wsX4_isSign := goodIn_r _ [5, 6, 7, 8, 9, 28, 29, 30, 31, 32, 33, 34, 35, 36, 37, 38] rfl (by decide +kernel)
set_option maxRecDepth 20000 in
theorem gX4_expectSign_X4_isSign : GoodIn wsX4_expectSign (wsV RX4 130 RX4 yX4_isSign wsX4_isSign) := goodIn_app (goodIn_of _ (by decide +kernel)) ggX4_expectSign_X4_isSign
set_option maxRecDepth 20000 in
theorem ggX4_expectSign_X4_step : GoodIn wsX4_expectSign wsX4_step := goodIn_r _ [13, 14, 15, 7, 8, 9, 16, 6, 17, 18, 19, 20, 21, 22, 4, 23, 28, 29, 30, 31, 32, 33, 34, 35, 36, 37, 38] rfl (by decide +kernel)
set_option maxRecDepth 20000 in
theorem gX4_expectSign_X4_step : GoodIn wsX4_expectSign (wsV RX4 59 RX4 yX4_step wsX4_step) := goodIn_app (goodIn_of _ (by decide +kernel)) ggX4_expectSign_X4_step
set_option maxRecDepth 20000 in
theorem ggX4_expectSign_X4_fail : GoodIn wsX4_expectSign wsX4_fail := goodIn_r _ [27, 14, 7, 28, 29, 30, 31, 32, 33, 34, 35, 36, 37, 38] rfl (by decide +kernel)
set_option maxRecDepth 20000 in
theorem gX4_expectSign_X4_fail : GoodIn wsX4_expectSign (wsV RX4 62 RX4 yX4_fail wsX4_fail) := goodIn_app (goodIn_of _ (by decide +kernel)) ggX4_expectSign_X4_fail
theorem da9_dX4_expectSign_0 : (decode cX4_expectSign 0 = .ok (.aload_n 0, 1)) ∧ (decode cX4_expectSign 1 = .ok (.iload_n 1, 1)) ∧ (decode cX4_expectSign 2 = .ok (.invokevirtual 130, 3)) ∧ (decode cX4_expectSign 5 = .ok (.ifCond .eq 10, 3)) ∧ (decode cX4_expectSign 8 = .ok (.aload_n 0, 1)) ∧ (decode cX4_expectSign 9 = .ok (.invokevirtual 59, 3)) ∧ (decode cX4_expectSign 12 = .ok (.goto 7, 3)) ∧ (decode cX4_expectSign 15 = .ok (.aload_n 0, 1)) ∧ (decode cX4_expectSign 16 = .ok (.invokevirtual 62, 3)) ∧ (decode cX4_expectSign 19 = .ok (.return_, 1)) := by decide +kernel
theorem dX4_expectSign_0 : decode cX4_expectSign 0 = .ok (.aload_n 0, 1) := da9_dX4_expectSign_0.1
theorem dX4_expectSign_1 : decode cX4_expectSign 1 = .ok (.iload_n 1, 1) := da9_dX4_expectSign_0.2.1
theorem dX4_expectSign_2 : decode cX4_expectSign 2 = .ok (.invokevirtual 130, 3) := da9_dX4_expectSign_0.2.2.1
theorem dX4_expectSign_5 : decode cX4_expectSign 5 = .ok (.ifCond .eq 10, 3) := da9_dX4_expectSign_0.2.2.2.1
theorem dX4_expectSign_8 : decode cX4_expectSign 8 = .ok (.aload_n 0, 1) := da9_dX4_expectSign_0.2.2.2.2.1
theorem dX4_expectSign_9 : decode cX4_expectSign 9 = .ok (.invokevirtual 59, 3) := da9_dX4_expectSign_0.2.2.2.2.2.1
theorem dX4_expectSign_12 : decode cX4_expectSign 12 = .ok (.goto 7, 3) := da9_dX4_expectSign_0.2.2.2.2.2.2.1
theorem dX4_expectSign_15 : decode cX4_expectSign 15 = .ok (.aload_n 0, 1) := da9_dX4_expectSign_0.2.2.2.2.2.2.2.1
theorem dX4_expectSign_16 : decode cX4_expectSign 16 = .ok (.invokevirtual 62, 3) := da9_dX4_expectSign_0.2.2.2.2.2.2.2.2.1
theorem dX4_expectSign_19 : decode cX4_expectSign 19 = .ok (.return_, 1) := da9_dX4_expectSign_0.2.2.2.2.2.2.2.2.2
theorem da9_dX4_isSign_0 : (decode cX4_isSign 0 = .ok (.aload_n 0, 1)) ∧ (decode cX4_isSign 1 = .ok (.getfield 27, 3)) ∧ (decode cX4_isSign 4 = .ok (.iconst 3, 1)) ∧ (decode cX4_isSign 5 = .ok (.if_icmp .ne 31, 3)) ∧ (decode cX4_isSign 8 = .ok (.aload_n 0, 1)) ∧ (decode cX4_isSign 9 = .ok (.getfield 30, 3)) ∧ (decode cX4_isSign 12 = .ok (.aload_n 0, 1)) ∧ (decode cX4_isSign 13 = .ok (.getfield 15, 3)) ∧ (decode cX4_isSign 16 = .ok (.if_icmp .ge 20, 3)) ∧ (decode cX4_isSign 19 = .ok (.aload_n 0, 1)) ∧ (decode cX4_isSign 20 = .ok (.getfield 9, 3)) ∧ (decode cX4_isSign 23 = .ok (.aload_n 0, 1)) ∧ (decode cX4_isSign 24 = .ok (.getfield 30, 3)) ∧ (decode cX4_isSign 27 = .ok (.iaload, 1)) ∧ (decode cX4_isSign 28 = .ok (.iload_n 1, 1)) ∧ (decode cX4_isSign 29 = .ok (.if_icmp .ne 7, 3)) := by decide +kernel
theorem dX4_isSign_0 : decode cX4_isSign 0 = .ok (.aload_n 0, 1) := da9_dX4_isSign_0.1
theorem dX4_isSign_1 : decode cX4_isSign 1 = .ok (.getfield 27, 3) := da9_dX4_isSign_0.2.1
theorem dX4_isSign_4 : decode cX4_isSign 4 = .ok (.iconst 3, 1) := da9_dX4_isSign_0.2.2.1
theorem dX4_isSign_5 : decode cX4_isSign 5 = .ok (.if_icmp .ne 31, 3) := da9_dX4_isSign_0.2.2.2.1
theorem dX4_isSign_8 : decode cX4_isSign 8 = .ok (.aload_n 0, 1) := da9_dX4_isSign_0.2.2.2.2.1
theorem dX4_isSign_9 : decode cX4_isSign 9 = .ok (.getfield 30, 3) := da9_dX4_isSign_0.2.2.2.2.2.1
theorem dX4_isSign_12 : decode cX4_isSign 12 = .ok (.aload_n 0, 1) := da9_dX4_isSign_0.2.2.2.2.2.2.1
theorem dX4_isSign_13 : decode cX4_isSign 13 = .ok (.getfield 15, 3) := da9_dX4_isSign_0.2.2.2.2.2.2.2.1
theorem dX4_isSign_16 : decode cX4_isSign 16 = .ok (.if_icmp .ge 20, 3) := da9_dX4_isSign_0.2.2.2.2.2.2.2.2.1
theorem dX4_isSign_19 : decode cX4_isSign 19 = .ok (.aload_n 0, 1) := da9_dX4_isSign_0.2.2.2.2.2.2.2.2.2.1
theorem dX4_isSign_20 : decode cX4_isSign 20 = .ok (.getfield 9, 3) := da9_dX4_isSign_0.2.2.2.2.2.2.2.2.2.2.1
theorem dX4_isSign_23 : decode cX4_isSign 23 = .ok (.aload_n 0, 1) := da9_dX4_isSign_0.2.2.2.2.2.2.2.2.2.2.2.1
theorem dX4_isSign_24 : decode cX4_isSign 24 = .ok (.getfield 30, 3) := da9_dX4_isSign_0.2.2.2.2.2.2.2.2.2.2.2.2.1
theorem dX4_isSign_27 : decode cX4_isSign 27 = .ok (.iaload, 1) := da9_dX4_isSign_0.2.2.2.2.2.2.2.2.2.2.2.2.2.1
theorem dX4_isSign_28 : decode cX4_isSign 28 = .ok (.iload_n 1, 1) := da9_dX4_isSign_0.2.2.2.2.2.2.2.2.2.2.2.2.2.2.1
theorem dX4_isSign_29 : decode cX4_isSign 29 = .ok (.if_icmp .ne 7, 3) := da9_dX4_isSign_0.2.2.2.2.2.2.2.2.2.2.2.2.2.2.2
theorem da9_dX4_isSign_32 : (decode cX4_isSign 32 = .ok (.iconst 1, 1)) ∧ (decode cX4_isSign 33 = .ok (.goto 4, 3)) ∧ (decode cX4_isSign 36 = .ok (.iconst 0, 1)) ∧ (decode cX4_isSign 37 = .ok (.ireturn, 1)) := by decide +kernel
theorem dX4_isSign_32 : decode cX4_isSign 32 = .ok (.iconst 1, 1) := da9_dX4_isSign_32.1
theorem dX4_isSign_33 : decode cX4_isSign 33 = .ok (.goto 4, 3) := da9_dX4_isSign_32.2.1
theorem dX4_isSign_36 : decode cX4_isSign 36 = .ok (.iconst 0, 1) := da9_dX4_isSign_32.2.2.1
theorem dX4_isSign_37 : decode cX4_isSign 37 = .ok (.ireturn, 1) := da9_dX4_isSign_32.2.2.2
