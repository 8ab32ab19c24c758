set_option maxRecDepth 20000 in
theorem ggX4_readTerm_X4_readPart : GoodIn wsX4_readTerm wsX4_readPart := goodIn_r _ [88, 89, 90, 65, 73, 91, 3, 61, 62, 63, 7, 64, 66, 1, 67, 92, 93, 94, 95, 96, 97, 98, 99, 2, 68, 69, 70, 71, 72, 74, 75, 76, 77, 78, 79, 80, 100, 101, 102, 103, 104, 105, 106, 107, 108, 109, 110, 12, 13, 14, 15, 16, 17, 18, 19, 20, 21, 22, 23, 24, 25, 26, 27, 28, 29, 30, 31, 32, 33, 34, 35, 36, 37, 38, 39, 40, 41, 42, 43, 44, 45, 46, 47, 48, 49, 50, 51, 52, 53, 54, 55, 56, 57, 58, 59, 60, 111, 112, 113, 114, 81, 82, 83, 84, 85, 86, 87, 115, 116, 117, 118, 119, 120, 121, 122, 8, 9, 10, 11, 0, 4, 5, 6, 123, 124, 125, 126, 127, 128, 129, 130, 131, 132, 133, 134, 135, 136, 137, 138, 139, 140, 141] rfl (by decide +kernel)
set_option maxRecDepth 20000 in
theorem gX4_readTerm_X4_readPart : GoodIn wsX4_readTerm (wsV RX4 149 RX4 yX4_readPart wsX4_readPart) := goodIn_app (goodIn_of _ (by decide +kernel)) ggX4_readTerm_X4_readPart
set_option maxRecDepth 20000 in
theorem ggX4_readTerm_X4_signIn : GoodIn wsX4_readTerm wsX4_signIn := goodIn_r _ [11, 12, 13, 14, 15, 16, 17, 18, 19, 20, 21, 22, 23, 24, 25, 26, 27, 28, 29, 30, 31, 32, 33, 34, 35, 36, 37, 38, 39, 40, 41, 42, 43, 44, 45, 46, 47, 48, 49, 50, 51, 52, 53, 54, 55, 56, 57, 58, 59, 60, 61, 62, 63, 7, 64, 65, 66, 1, 67, 123, 124, 125, 126, 127, 128, 129, 130, 131, 132, 133] rfl (by decide +kernel)
set_option maxRecDepth 20000 in
theorem gX4_readTerm_X4_signIn : GoodIn wsX4_readTerm (wsV RX4 140 RX4 yX4_signIn wsX4_signIn) := goodIn_app (goodIn_of _ (by decide +kernel)) ggX4_readTerm_X4_signIn
set_option maxRecDepth 20000 in
theorem ggX4_readTerm_X4_step : GoodIn wsX4_readTerm wsX4_step := goodIn_r _ [71, 2, 72, 66, 1, 67, 73, 65, 74, 75, 76, 77, 78, 79, 7, 80, 123, 124, 125, 126, 127, 128, 129, 130, 131, 132, 133] rfl (by decide +kernel)
set_option maxRecDepth 20000 in
theorem gX4_readTerm_X4_step : GoodIn wsX4_readTerm (wsV RX4 59 RX4 yX4_step wsX4_step) := goodIn_app (goodIn_of _ (by decide +kernel)) ggX4_readTerm_X4_step
set_option maxRecDepth 20000 in
theorem ggX4_readTerm_X7_emit : GoodIn wsX4_readTerm wsX7_emit := goodIn_r _ [85, 86, 87, 134, 135, 136, 137, 138, 139, 140, 141] rfl (by decide +kernel)
set_option maxRecDepth 20000 in
theorem gX4_readTerm_X7_emit : GoodIn wsX4_readTerm (wsV RX4 116 RX7 yX7_emit wsX7_emit) := goodIn_app (goodIn_of _ (by decide +kernel)) ggX4_readTerm_X7_emit
theorem da9_dX4_readTerm_0 : (decode cX4_readTerm 0 = .ok (.aload_n 0, 1)) ∧ (decode cX4_readTerm 1 = .ok (.invokevirtual 149, 3)) ∧ (decode cX4_readTerm 4 = .ok (.iconst 0, 1)) ∧ (decode cX4_readTerm 5 = .ok (.istore_n 1, 1)) ∧ (decode cX4_readTerm 6 = .ok (.iload_n 1, 1)) ∧ (decode cX4_readTerm 7 = .ok (.aload_n 0, 1)) ∧ (decode cX4_readTerm 8 = .ok (.getfield 15, 3)) ∧ (decode cX4_readTerm 11 = .ok (.if_icmp .ge 48, 3)) ∧ (decode cX4_readTerm 14 = .ok (.aload_n 0, 1)) ∧ (decode cX4_readTerm 15 = .ok (.getfield 45, 3)) ∧ (decode cX4_readTerm 18 = .ok (.iconst (-1), 1)) ∧ (decode cX4_readTerm 19 = .ok (.if_icmp .ne 40, 3)) ∧ (decode cX4_readTerm 22 = .ok (.aload_n 0, 1)) ∧ (decode cX4_readTerm 23 = .ok (.ldc 152, 2)) ∧ (decode cX4_readTerm 25 = .ok (.iconst 4, 1)) ∧ (decode cX4_readTerm 26 = .ok (.invokevirtual 140, 3)) := by decide +kernel
theorem dX4_readTerm_0 : decode cX4_readTerm 0 = .ok (.aload_n 0, 1) := da9_dX4_readTerm_0.1
theorem dX4_readTerm_1 : decode cX4_readTerm 1 = .ok (.invokevirtual 149, 3) := da9_dX4_readTerm_0.2.1
theorem dX4_readTerm_4 : decode cX4_readTerm 4 = .ok (.iconst 0, 1) := da9_dX4_readTerm_0.2.2.1
theorem dX4_readTerm_5 : decode cX4_readTerm 5 = .ok (.istore_n 1, 1) := da9_dX4_readTerm_0.2.2.2.1
theorem dX4_readTerm_6 : decode cX4_readTerm 6 = .ok (.iload_n 1, 1) := da9_dX4_readTerm_0.2.2.2.2.1
theorem dX4_readTerm_7 : decode cX4_readTerm 7 = .ok (.aload_n 0, 1) := da9_dX4_readTerm_0.2.2.2.2.2.1
theorem dX4_readTerm_8 : decode cX4_readTerm 8 = .ok (.getfield 15, 3) := da9_dX4_readTerm_0.2.2.2.2.2.2.1
theorem dX4_readTerm_11 : decode cX4_readTerm 11 = .ok (.if_icmp .ge 48, 3) := da9_dX4_readTerm_0.2.2.2.2.2.2.2.1
theorem dX4_readTerm_14 : decode cX4_readTerm 14 = .ok (.aload_n 0, 1) := da9_dX4_readTerm_0.2.2.2.2.2.2.2.2.1
theorem dX4_readTerm_15 : decode cX4_readTerm 15 = .ok (.getfield 45, 3) := da9_dX4_readTerm_0.2.2.2.2.2.2.2.2.2.1
theorem dX4_readTerm_18 : decode cX4_readTerm 18 = .ok (.iconst (-1), 1) := da9_dX4_readTerm_0.2.2.2.2.2.2.2.2.2.2.1
theorem dX4_readTerm_19 : decode cX4_readTerm 19 = .ok (.if_icmp .ne 40, 3) := da9_dX4_readTerm_0.2.2.2.2.2.2.2.2.2.2.2.1
theorem dX4_readTerm_22 : decode cX4_readTerm 22 = .ok (.aload_n 0, 1) := da9_dX4_readTerm_0.2.2.2.2.2.2.2.2.2.2.2.2.1
theorem dX4_readTerm_23 : decode cX4_readTerm 23 = .ok (.ldc 152, 2) := da9_dX4_readTerm_0.2.2.2.2.2.2.2.2.2.2.2.2.2.1
theorem dX4_readTerm_25 : decode cX4_readTerm 25 = .ok (.iconst 4, 1) := da9_dX4_readTerm_0.2.2.2.2.2.2.2.2.2.2.2.2.2.2.1
theorem dX4_readTerm_26 : decode cX4_readTerm 26 = .ok (.invokevirtual 140, 3) := da9_dX4_readTerm_0.2.2.2.2.2.2.2.2.2.2.2.2.2.2.2
theorem da9_dX4_readTerm_29 : (decode cX4_readTerm 29 = .ok (.istore_n 2, 1)) ∧ (decode cX4_readTerm 30 = .ok (.iload_n 2, 1)) ∧ (decode cX4_readTerm 31 = .ok (.iconst (-1), 1)) ∧ (decode cX4_readTerm 32 = .ok (.if_icmp .ne 4, 3)) ∧ (decode cX4_readTerm 35 = .ok (.return_, 1)) ∧ (decode cX4_readTerm 36 = .ok (.aload_n 0, 1)) ∧ (decode cX4_readTerm 37 = .ok (.invokevirtual 59, 3)) ∧ (decode cX4_readTerm 40 = .ok (.aload_n 0, 1)) ∧ (decode cX4_readTerm 41 = .ok (.invokevirtual 149, 3)) ∧ (decode cX4_readTerm 44 = .ok (.aload_n 0, 1)) ∧ (decode cX4_readTerm 45 = .ok (.getfield 23, 3)) ∧ (decode cX4_readTerm 48 = .ok (.iload_n 2, 1)) ∧ (decode cX4_readTerm 49 = .ok (.iconst 0, 1)) ∧ (decode cX4_readTerm 50 = .ok (.invokevirtual 116, 3)) ∧ (decode cX4_readTerm 53 = .ok (.iinc 1 1, 3)) ∧ (decode cX4_readTerm 56 = .ok (.goto (-50), 3)) := by decide +kernel
theorem dX4_readTerm_29 : decode cX4_readTerm 29 = .ok (.istore_n 2, 1) := da9_dX4_readTerm_29.1
theorem dX4_readTerm_30 : decode cX4_readTerm 30 = .ok (.iload_n 2, 1) := da9_dX4_readTerm_29.2.1
theorem dX4_readTerm_31 : decode cX4_readTerm 31 = .ok (.iconst (-1), 1) := da9_dX4_readTerm_29.2.2.1
theorem dX4_readTerm_32 : decode cX4_readTerm 32 = .ok (.if_icmp .ne 4, 3) := da9_dX4_readTerm_29.2.2.2.1
theorem dX4_readTerm_35 : decode cX4_readTerm 35 = .ok (.return_, 1) := da9_dX4_readTerm_29.2.2.2.2.1
theorem dX4_readTerm_36 : decode cX4_readTerm 36 = .ok (.aload_n 0, 1) := da9_dX4_readTerm_29.2.2.2.2.2.1
theorem dX4_readTerm_37 : decode cX4_readTerm 37 = .ok (.invokevirtual 59, 3) := da9_dX4_readTerm_29.2.2.2.2.2.2.1
theorem dX4_readTerm_40 : decode cX4_readTerm 40 = .ok (.aload_n 0, 1) := da9_dX4_readTerm_29.2.2.2.2.2.2.2.1
theorem dX4_readTerm_41 : decode cX4_readTerm 41 = .ok (.invokevirtual 149, 3) := da9_dX4_readTerm_29.2.2.2.2.2.2.2.2.1
theorem dX4_readTerm_44 : decode cX4_readTerm 44 = .ok (.aload_n 0, 1) := da9_dX4_readTerm_29.2.2.2.2.2.2.2.2.2.1
theorem dX4_readTerm_45 : decode cX4_readTerm 45 = .ok (.getfield 23, 3) := da9_dX4_readTerm_29.2.2.2.2.2.2.2.2.2.2.1
theorem dX4_readTerm_48 : decode cX4_readTerm 48 = .ok (.iload_n 2, 1) := da9_dX4_readTerm_29.2.2.2.2.2.2.2.2.2.2.2.1
theorem dX4_readTerm_49 : decode cX4_readTerm 49 = .ok (.iconst 0, 1) := da9_dX4_readTerm_29.2.2.2.2.2.2.2.2.2.2.2.2.1
theorem dX4_readTerm_50 : decode cX4_readTerm 50 = .ok (.invokevirtual 116, 3) := da9_dX4_readTerm_29.2.2.2.2.2.2.2.2.2.2.2.2.2.1
theorem dX4_readTerm_53 : decode cX4_readTerm 53 = .ok (.iinc 1 1, 3) := da9_dX4_readTerm_29.2.2.2.2.2.2.2.2.2.2.2.2.2.2.1
theorem dX4_readTerm_56 : decode cX4_readTerm 56 = .ok (.goto (-50), 3) := da9_dX4_readTerm_29.2.2.2.2.2.2.2.2.2.2.2.2.2.2.2
theorem dX4_readTerm_59 : decode cX4_readTerm 59 = .ok (.return_, 1) := by decide +kernel
set_option maxRecDepth 20000 in
theorem ggX4_readPart_X4_isSign : GoodIn wsX4_readPart wsX4_isSign := goodIn_r _ [11, 3, 12, 13, 14, 123, 124, 125, 126, 127, 128, 129, 130, 131, 132, 133] rfl (by decide +kernel)
set_option maxRecDepth 20000 in
theorem gX4_readPart_X4_isSign : GoodIn wsX4_readPart (wsV RX4 130 RX4 yX4_isSign wsX4_isSign) := goodIn_app (goodIn_of _ (by decide +kernel)) ggX4_readPart_X4_isSign
set_option maxRecDepth 20000 in
theorem ggX4_readPart_X4_openBracket : GoodIn wsX4_readPart wsX4_openBracket := goodIn_r _ [18, 1, 19, 20, 21, 10, 22, 23, 12, 24, 25, 26, 27, 28, 13, 14, 4, 3, 29, 30, 31, 32, 33, 34, 35, 123, 124, 125, 126, 127, 128, 129, 130, 131, 132, 133] rfl (by decide +kernel)
set_option maxRecDepth 20000 in
theorem gX4_readPart_X4_openBracket : GoodIn wsX4_readPart (wsV RX4 134 RX4 yX4_openBracket wsX4_openBracket) := goodIn_app (goodIn_of _ (by decide +kernel)) ggX4_readPart_X4_openBracket
set_option maxRecDepth 20000 in
theorem ggX4_readPart_X4_readSum : GoodIn wsX4_readPart wsX4_readSum := goodIn_r _ [111, 13, 23, 6, 112, 113, 114, 10, 115, 116, 117, 118, 47, 48, 49, 50, 51, 52, 53, 54, 55, 56, 57, 58, 59, 60, 61, 62, 63, 64, 65, 66, 67, 68, 69, 70, 71, 72, 73, 74, 75, 76, 77, 78, 79, 80, 81, 82, 83, 84, 85, 86, 87, 88, 89, 90, 91, 92, 93, 94, 95, 7, 8, 9, 11, 3, 12, 14, 24, 25, 26, 27, 28, 4, 29, 30, 31, 32, 33, 34, 35, 100, 101, 102, 103, 104, 105, 106, 0, 1, 2, 5, 15, 16, 17, 18, 19, 20, 21, 22, 36, 37, 38, 39, 40, 41, 42, 43, 44, 45, 46, 96, 97, 98, 99, 107, 108, 109, 110, 119, 120, 121, 122, 123, 124, 125, 126, 127, 128, 129, 130, 131, 132, 133, 134, 135, 136, 137, 138, 139, 140, 141] rfl (by decide +kernel)
set_option maxRecDepth 20000 in
theorem gX4_readPart_X4_readSum : GoodIn wsX4_readPart (wsV RX4 84 RX4 yX4_readSum wsX4_readSum) := goodIn_app (goodIn_of _ (by decide +kernel)) ggX4_readPart_X4_readSum
set_option maxRecDepth 20000 in
theorem ggX4_readPart_X4_expectSign : GoodIn wsX4_readPart wsX4_expectSign := goodIn_r _ [42, 7, 8, 9, 10, 11, 3, 12, 13, 14, 24, 25, 26, 27, 23, 28, 4, 29, 30, 31, 32, 33, 34, 35, 19, 20, 21, 22, 123, 124, 125, 126, 127, 128, 129, 130, 131, 132, 133] rfl (by decide +kernel)
set_option maxRecDepth 20000 in
theorem gX4_readPart_X4_expectSign : GoodIn wsX4_readPart (wsV RX4 68 RX4 yX4_expectSign wsX4_expectSign) := goodIn_app (goodIn_of _ (by decide +kernel)) ggX4_readPart_X4_expectSign
set_option maxRecDepth 20000 in
theorem ggX4_readPart_X4_wordIn : GoodIn wsX4_readPart wsX4_wordIn := goodIn_r _ [46, 3, 47, 48, 49, 50, 51, 52, 53, 54, 55, 56, 57, 58, 59, 60, 61, 62, 63, 64, 65, 66, 67, 68, 69, 70, 71, 72, 73, 74, 75, 76, 77, 78, 79, 80, 81, 82, 83, 84, 85, 86, 87, 88, 89, 90, 91, 92, 93, 94, 95, 96, 97, 98, 10, 99, 28, 12, 14, 123, 124, 125, 126, 127, 128, 129, 130, 131, 132, 133] rfl (by decide +kernel)
set_option maxRecDepth 20000 in
theorem gX4_readPart_X4_wordIn : GoodIn wsX4_readPart (wsV RX4 76 RX4 yX4_wordIn wsX4_wordIn) := goodIn_app (goodIn_of _ (by decide +kernel)) ggX4_readPart_X4_wordIn
set_option maxRecDepth 20000 in
theorem ggX4_readPart_X4_fail : GoodIn wsX4_readPart wsX4_fail := goodIn_r _ [22, 23, 12, 123, 124, 125, 126, 127, 128, 129, 130, 131, 132, 133] rfl (by decide +kernel)
set_option maxRecDepth 20000 in
theorem gX4_readPart_X4_fail : GoodIn wsX4_readPart (wsV RX4 62 RX4 yX4_fail wsX4_fail) := goodIn_app (goodIn_of _ (by decide +kernel)) ggX4_readPart_X4_fail
set_option maxRecDepth 20000 in
theorem ggX4_readPart_X4_step : GoodIn wsX4_readPart wsX4_step := goodIn_r _ [27, 23, 28, 12, 13, 14, 4, 3, 29, 30, 31, 32, 33, 34, 10, 35, 123, 124, 125, 126, 127, 128, 129, 130, 131, 132, 133] rfl (by decide +kernel)
set_option maxRecDepth 20000 in
theorem gX4_readPart_X4_step : GoodIn wsX4_readPart (wsV RX4 59 RX4 yX4_step wsX4_step) := goodIn_app (goodIn_of _ (by decide +kernel)) ggX4_readPart_X4_step
set_option maxRecDepth 20000 in
theorem ggX4_readPart_X7_emit : GoodIn wsX4_readPart wsX7_emit := goodIn_r _ [104, 105, 106, 134, 135, 136, 137, 138, 139, 140, 141] rfl (by decide +kernel)
set_option maxRecDepth 20000 in
theorem gX4_readPart_X7_emit : GoodIn wsX4_readPart (wsV RX4 116 RX7 yX7_emit wsX7_emit) := goodIn_app (goodIn_of _ (by decide +kernel)) ggX4_readPart_X7_emit
set_option maxRecDepth 20000 in
theorem ggX4_readPart_X4_readPlace : GoodIn wsX4_readPart wsX4_readPlace := goodIn_r _ [110, 3, 4, 6, 19, 20, 21, 10, 22, 23, 12, 100, 101, 102, 103, 104, 105, 106, 24, 25, 26, 27, 28, 13, 14, 29, 30, 31, 32, 33, 34, 35, 123, 124, 125, 126, 127, 128, 129, 130, 131, 132, 133, 134, 135, 136, 137, 138, 139, 140, 141] rfl (by decide +kernel)
set_option maxRecDepth 20000 in
theorem gX4_readPart_X4_readPlace : GoodIn wsX4_readPart (wsV RX4 160 RX4 yX4_readPlace wsX4_readPlace) := goodIn_app (goodIn_of _ (by decide +kernel)) ggX4_readPart_X4_readPlace
theorem da9_dX4_readPart_0 : (decode cX4_readPart 0 = .ok (.aload_n 0, 1)) ∧ (decode cX4_readPart 1 = .ok (.bipush 91, 2)) ∧ (decode cX4_readPart 3 = .ok (.invokevirtual 130, 3)) ∧ (decode cX4_readPart 6 = .ok (.ifCond .eq 31, 3)) ∧ (decode cX4_readPart 9 = .ok (.aload_n 0, 1)) ∧ (decode cX4_readPart 10 = .ok (.invokevirtual 134, 3)) ∧ (decode cX4_readPart 13 = .ok (.ifCond .eq 23, 3)) ∧ (decode cX4_readPart 16 = .ok (.aload_n 0, 1)) ∧ (decode cX4_readPart 17 = .ok (.invokevirtual 84, 3)) ∧ (decode cX4_readPart 20 = .ok (.aload_n 0, 1)) ∧ (decode cX4_readPart 21 = .ok (.dup, 1)) ∧ (decode cX4_readPart 22 = .ok (.getfield 42, 3)) ∧ (decode cX4_readPart 25 = .ok (.iconst 1, 1)) ∧ (decode cX4_readPart 26 = .ok (.isub, 1)) ∧ (decode cX4_readPart 27 = .ok (.putfield 42, 3)) ∧ (decode cX4_readPart 30 = .ok (.aload_n 0, 1)) := by decide +kernel
theorem dX4_readPart_0 : decode cX4_readPart 0 = .ok (.aload_n 0, 1) := da9_dX4_readPart_0.1
theorem dX4_readPart_1 : decode cX4_readPart 1 = .ok (.bipush 91, 2) := da9_dX4_readPart_0.2.1
theorem dX4_readPart_3 : decode cX4_readPart 3 = .ok (.invokevirtual 130, 3) := da9_dX4_readPart_0.2.2.1
theorem dX4_readPart_6 : decode cX4_readPart 6 = .ok (.ifCond .eq 31, 3) := da9_dX4_readPart_0.2.2.2.1
theorem dX4_readPart_9 : decode cX4_readPart 9 = .ok (.aload_n 0, 1) := da9_dX4_readPart_0.2.2.2.2.1
theorem dX4_readPart_10 : decode cX4_readPart 10 = .ok (.invokevirtual 134, 3) := da9_dX4_readPart_0.2.2.2.2.2.1
theorem dX4_readPart_13 : decode cX4_readPart 13 = .ok (.ifCond .eq 23, 3) := da9_dX4_readPart_0.2.2.2.2.2.2.1
theorem dX4_readPart_16 : decode cX4_readPart 16 = .ok (.aload_n 0, 1) := da9_dX4_readPart_0.2.2.2.2.2.2.2.1
theorem dX4_readPart_17 : decode cX4_readPart 17 = .ok (.invokevirtual 84, 3) := da9_dX4_readPart_0.2.2.2.2.2.2.2.2.1
theorem dX4_readPart_20 : decode cX4_readPart 20 = .ok (.aload_n 0, 1) := da9_dX4_readPart_0.2.2.2.2.2.2.2.2.2.1
theorem dX4_readPart_21 : decode cX4_readPart 21 = .ok (.dup, 1) := da9_dX4_readPart_0.2.2.2.2.2.2.2.2.2.2.1
theorem dX4_readPart_22 : decode cX4_readPart 22 = .ok (.getfield 42, 3) := da9_dX4_readPart_0.2.2.2.2.2.2.2.2.2.2.2.1
theorem dX4_readPart_25 : decode cX4_readPart 25 = .ok (.iconst 1, 1) := da9_dX4_readPart_0.2.2.2.2.2.2.2.2.2.2.2.2.1
theorem dX4_readPart_26 : decode cX4_readPart 26 = .ok (.isub, 1) := da9_dX4_readPart_0.2.2.2.2.2.2.2.2.2.2.2.2.2.1
theorem dX4_readPart_27 : decode cX4_readPart 27 = .ok (.putfield 42, 3) := da9_dX4_readPart_0.2.2.2.2.2.2.2.2.2.2.2.2.2.2.1
theorem dX4_readPart_30 : decode cX4_readPart 30 = .ok (.aload_n 0, 1) := da9_dX4_readPart_0.2.2.2.2.2.2.2.2.2.2.2.2.2.2.2
theorem da9_dX4_readPart_31 : (decode cX4_readPart 31 = .ok (.bipush 93, 2)) ∧ (decode cX4_readPart 33 = .ok (.invokevirtual 68, 3)) ∧ (decode cX4_readPart 36 = .ok (.return_, 1)) ∧ (decode cX4_readPart 37 = .ok (.aload_n 0, 1)) ∧ (decode cX4_readPart 38 = .ok (.aload_n 0, 1)) ∧ (decode cX4_readPart 39 = .ok (.getfield 19, 3)) ∧ (decode cX4_readPart 42 = .ok (.ifCond .eq 8, 3)) ∧ (decode cX4_readPart 45 = .ok (.ldc 154, 2)) ∧ (decode cX4_readPart 47 = .ok (.goto 5, 3)) ∧ (decode cX4_readPart 50 = .ok (.ldc 156, 2)) ∧ (decode cX4_readPart 52 = .ok (.invokevirtual 76, 3)) ∧ (decode cX4_readPart 55 = .ok (.istore_n 1, 1)) ∧ (decode cX4_readPart 56 = .ok (.aload_n 0, 1)) ∧ (decode cX4_readPart 57 = .ok (.getfield 27, 3)) ∧ (decode cX4_readPart 60 = .ok (.iconst 2, 1)) ∧ (decode cX4_readPart 61 = .ok (.if_icmp .ne 17, 3)) := by decide +kernel
theorem dX4_readPart_31 : decode cX4_readPart 31 = .ok (.bipush 93, 2) := da9_dX4_readPart_31.1
theorem dX4_readPart_33 : decode cX4_readPart 33 = .ok (.invokevirtual 68, 3) := da9_dX4_readPart_31.2.1
theorem dX4_readPart_36 : decode cX4_readPart 36 = .ok (.return_, 1) := da9_dX4_readPart_31.2.2.1
theorem dX4_readPart_37 : decode cX4_readPart 37 = .ok (.aload_n 0, 1) := da9_dX4_readPart_31.2.2.2.1
theorem dX4_readPart_38 : decode cX4_readPart 38 = .ok (.aload_n 0, 1) := da9_dX4_readPart_31.2.2.2.2.1
theorem dX4_readPart_39 : decode cX4_readPart 39 = .ok (.getfield 19, 3) := da9_dX4_readPart_31.2.2.2.2.2.1
theorem dX4_readPart_42 : decode cX4_readPart 42 = .ok (.ifCond .eq 8, 3) := da9_dX4_readPart_31.2.2.2.2.2.2.1
theorem dX4_readPart_45 : decode cX4_readPart 45 = .ok (.ldc 154, 2) := da9_dX4_readPart_31.2.2.2.2.2.2.2.1
theorem dX4_readPart_47 : decode cX4_readPart 47 = .ok (.goto 5, 3) := da9_dX4_readPart_31.2.2.2.2.2.2.2.2.1
theorem dX4_readPart_50 : decode cX4_readPart 50 = .ok (.ldc 156, 2) := da9_dX4_readPart_31.2.2.2.2.2.2.2.2.2.1
theorem dX4_readPart_52 : decode cX4_readPart 52 = .ok (.invokevirtual 76, 3) := da9_dX4_readPart_31.2.2.2.2.2.2.2.2.2.2.1
theorem dX4_readPart_55 : decode cX4_readPart 55 = .ok (.istore_n 1, 1) := da9_dX4_readPart_31.2.2.2.2.2.2.2.2.2.2.2.1
theorem dX4_readPart_56 : decode cX4_readPart 56 = .ok (.aload_n 0, 1) := da9_dX4_readPart_31.2.2.2.2.2.2.2.2.2.2.2.2.1
theorem dX4_readPart_57 : decode cX4_readPart 57 = .ok (.getfield 27, 3) := da9_dX4_readPart_31.2.2.2.2.2.2.2.2.2.2.2.2.2.1
theorem dX4_readPart_60 : decode cX4_readPart 60 = .ok (.iconst 2, 1) := da9_dX4_readPart_31.2.2.2.2.2.2.2.2.2.2.2.2.2.2.1
theorem dX4_readPart_61 : decode cX4_readPart 61 = .ok (.if_icmp .ne 17, 3) := da9_dX4_readPart_31.2.2.2.2.2.2.2.2.2.2.2.2.2.2.2
theorem da9_dX4_readPart_64 : (decode cX4_readPart 64 = .ok (.aload_n 0, 1)) ∧ (decode cX4_readPart 65 = .ok (.getfield 36, 3)) ∧ (decode cX4_readPart 68 = .ok (.sipush 1000, 3)) ∧ (decode cX4_readPart 71 = .ok (.if_icmp .gt 7, 3)) ∧ (decode cX4_readPart 74 = .ok (.iconst 1, 1)) ∧ (decode cX4_readPart 75 = .ok (.goto 4, 3)) ∧ (decode cX4_readPart 78 = .ok (.iconst 0, 1)) ∧ (decode cX4_readPart 79 = .ok (.istore_n 2, 1)) ∧ (decode cX4_readPart 80 = .ok (.iload_n 1, 1)) ∧ (decode cX4_readPart 81 = .ok (.iconst (-1), 1)) ∧ (decode cX4_readPart 82 = .ok (.if_icmp .ne 7, 3)) ∧ (decode cX4_readPart 85 = .ok (.iload_n 2, 1)) ∧ (decode cX4_readPart 86 = .ok (.ifCond .eq 12, 3)) ∧ (decode cX4_readPart 89 = .ok (.aload_n 0, 1)) ∧ (decode cX4_readPart 90 = .ok (.getfield 39, 3)) ∧ (decode cX4_readPart 93 = .ok (.bipush 50, 2)) := by decide +kernel
theorem dX4_readPart_64 : decode cX4_readPart 64 = .ok (.aload_n 0, 1) := da9_dX4_readPart_64.1
theorem dX4_readPart_65 : decode cX4_readPart 65 = .ok (.getfield 36, 3) := da9_dX4_readPart_64.2.1
theorem dX4_readPart_68 : decode cX4_readPart 68 = .ok (.sipush 1000, 3) := da9_dX4_readPart_64.2.2.1
theorem dX4_readPart_71 : decode cX4_readPart 71 = .ok (.if_icmp .gt 7, 3) := da9_dX4_readPart_64.2.2.2.1
theorem dX4_readPart_74 : decode cX4_readPart 74 = .ok (.iconst 1, 1) := da9_dX4_readPart_64.2.2.2.2.1
theorem dX4_readPart_75 : decode cX4_readPart 75 = .ok (.goto 4, 3) := da9_dX4_readPart_64.2.2.2.2.2.1
theorem dX4_readPart_78 : decode cX4_readPart 78 = .ok (.iconst 0, 1) := da9_dX4_readPart_64.2.2.2.2.2.2.1
theorem dX4_readPart_79 : decode cX4_readPart 79 = .ok (.istore_n 2, 1) := da9_dX4_readPart_64.2.2.2.2.2.2.2.1
theorem dX4_readPart_80 : decode cX4_readPart 80 = .ok (.iload_n 1, 1) := da9_dX4_readPart_64.2.2.2.2.2.2.2.2.1
theorem dX4_readPart_81 : decode cX4_readPart 81 = .ok (.iconst (-1), 1) := da9_dX4_readPart_64.2.2.2.2.2.2.2.2.2.1
theorem dX4_readPart_82 : decode cX4_readPart 82 = .ok (.if_icmp .ne 7, 3) := da9_dX4_readPart_64.2.2.2.2.2.2.2.2.2.2.1
theorem dX4_readPart_85 : decode cX4_readPart 85 = .ok (.iload_n 2, 1) := da9_dX4_readPart_64.2.2.2.2.2.2.2.2.2.2.2.1
theorem dX4_readPart_86 : decode cX4_readPart 86 = .ok (.ifCond .eq 12, 3) := da9_dX4_readPart_64.2.2.2.2.2.2.2.2.2.2.2.2.1
theorem dX4_readPart_89 : decode cX4_readPart 89 = .ok (.aload_n 0, 1) := da9_dX4_readPart_64.2.2.2.2.2.2.2.2.2.2.2.2.2.1
theorem dX4_readPart_90 : decode cX4_readPart 90 = .ok (.getfield 39, 3) := da9_dX4_readPart_64.2.2.2.2.2.2.2.2.2.2.2.2.2.2.1
theorem dX4_readPart_93 : decode cX4_readPart 93 = .ok (.bipush 50, 2) := da9_dX4_readPart_64.2.2.2.2.2.2.2.2.2.2.2.2.2.2.2
theorem da9_dX4_readPart_95 : (decode cX4_readPart 95 = .ok (.if_icmp .lt 8, 3)) ∧ (decode cX4_readPart 98 = .ok (.aload_n 0, 1)) ∧ (decode cX4_readPart 99 = .ok (.invokevirtual 62, 3)) ∧ (decode cX4_readPart 102 = .ok (.return_, 1)) ∧ (decode cX4_readPart 103 = .ok (.aload_n 0, 1)) ∧ (decode cX4_readPart 104 = .ok (.dup, 1)) ∧ (decode cX4_readPart 105 = .ok (.getfield 39, 3)) ∧ (decode cX4_readPart 108 = .ok (.iconst 1, 1)) ∧ (decode cX4_readPart 109 = .ok (.iadd, 1)) ∧ (decode cX4_readPart 110 = .ok (.putfield 39, 3)) ∧ (decode cX4_readPart 113 = .ok (.aload_n 0, 1)) ∧ (decode cX4_readPart 114 = .ok (.getfield 36, 3)) ∧ (decode cX4_readPart 117 = .ok (.istore_n 3, 1)) ∧ (decode cX4_readPart 118 = .ok (.aload_n 0, 1)) ∧ (decode cX4_readPart 119 = .ok (.invokevirtual 59, 3)) ∧ (decode cX4_readPart 122 = .ok (.iload_n 2, 1)) := by decide +kernel
theorem dX4_readPart_95 : decode cX4_readPart 95 = .ok (.if_icmp .lt 8, 3) := da9_dX4_readPart_95.1
theorem dX4_readPart_98 : decode cX4_readPart 98 = .ok (.aload_n 0, 1) := da9_dX4_readPart_95.2.1
theorem dX4_readPart_99 : decode cX4_readPart 99 = .ok (.invokevirtual 62, 3) := da9_dX4_readPart_95.2.2.1
theorem dX4_readPart_102 : decode cX4_readPart 102 = .ok (.return_, 1) := da9_dX4_readPart_95.2.2.2.1
theorem dX4_readPart_103 : decode cX4_readPart 103 = .ok (.aload_n 0, 1) := da9_dX4_readPart_95.2.2.2.2.1
theorem dX4_readPart_104 : decode cX4_readPart 104 = .ok (.dup, 1) := da9_dX4_readPart_95.2.2.2.2.2.1
theorem dX4_readPart_105 : decode cX4_readPart 105 = .ok (.getfield 39, 3) := da9_dX4_readPart_95.2.2.2.2.2.2.1
theorem dX4_readPart_108 : decode cX4_readPart 108 = .ok (.iconst 1, 1) := da9_dX4_readPart_95.2.2.2.2.2.2.2.1
theorem dX4_readPart_109 : decode cX4_readPart 109 = .ok (.iadd, 1) := da9_dX4_readPart_95.2.2.2.2.2.2.2.2.1
theorem dX4_readPart_110 : decode cX4_readPart 110 = .ok (.putfield 39, 3) := da9_dX4_readPart_95.2.2.2.2.2.2.2.2.2.1
theorem dX4_readPart_113 : decode cX4_readPart 113 = .ok (.aload_n 0, 1) := da9_dX4_readPart_95.2.2.2.2.2.2.2.2.2.2.1
theorem dX4_readPart_114 : decode cX4_readPart 114 = .ok (.getfield 36, 3) := da9_dX4_readPart_95.2.2.2.2.2.2.2.2.2.2.2.1
theorem dX4_readPart_117 : decode cX4_readPart 117 = .ok (.istore_n 3, 1) := da9_dX4_readPart_95.2.2.2.2.2.2.2.2.2.2.2.2.1
theorem dX4_readPart_118 : decode cX4_readPart 118 = .ok (.aload_n 0, 1) := da9_dX4_readPart_95.2.2.2.2.2.2.2.2.2.2.2.2.2.1
theorem dX4_readPart_119 : decode cX4_readPart 119 = .ok (.invokevirtual 59, 3) := da9_dX4_readPart_95.2.2.2.2.2.2.2.2.2.2.2.2.2.2.1
theorem dX4_readPart_122 : decode cX4_readPart 122 = .ok (.iload_n 2, 1) := da9_dX4_readPart_95.2.2.2.2.2.2.2.2.2.2.2.2.2.2.2
theorem da9_dX4_readPart_123 : (decode cX4_readPart 123 = .ok (.ifCond .eq 15, 3)) ∧ (decode cX4_readPart 126 = .ok (.aload_n 0, 1)) ∧ (decode cX4_readPart 127 = .ok (.getfield 23, 3)) ∧ (decode cX4_readPart 130 = .ok (.iconst 0, 1)) ∧ (decode cX4_readPart 131 = .ok (.iload_n 3, 1)) ∧ (decode cX4_readPart 132 = .ok (.invokevirtual 116, 3)) ∧ (decode cX4_readPart 135 = .ok (.goto 42, 3)) ∧ (decode cX4_readPart 138 = .ok (.aload_n 0, 1)) ∧ (decode cX4_readPart 139 = .ok (.getfield 19, 3)) ∧ (decode cX4_readPart 142 = .ok (.ifCond .eq 26, 3)) ∧ (decode cX4_readPart 145 = .ok (.iload_n 1, 1)) ∧ (decode cX4_readPart 146 = .ok (.iconst 5, 1)) ∧ (decode cX4_readPart 147 = .ok (.if_icmp .lt 21, 3)) ∧ (decode cX4_readPart 150 = .ok (.aload_n 0, 1)) ∧ (decode cX4_readPart 151 = .ok (.iload_n 1, 1)) ∧ (decode cX4_readPart 152 = .ok (.iconst 5, 1)) := by decide +kernel
theorem dX4_readPart_123 : decode cX4_readPart 123 = .ok (.ifCond .eq 15, 3) := da9_dX4_readPart_123.1
theorem dX4_readPart_126 : decode cX4_readPart 126 = .ok (.aload_n 0, 1) := da9_dX4_readPart_123.2.1
theorem dX4_readPart_127 : decode cX4_readPart 127 = .ok (.getfield 23, 3) := da9_dX4_readPart_123.2.2.1
theorem dX4_readPart_130 : decode cX4_readPart 130 = .ok (.iconst 0, 1) := da9_dX4_readPart_123.2.2.2.1
theorem dX4_readPart_131 : decode cX4_readPart 131 = .ok (.iload_n 3, 1) := da9_dX4_readPart_123.2.2.2.2.1
theorem dX4_readPart_132 : decode cX4_readPart 132 = .ok (.invokevirtual 116, 3) := da9_dX4_readPart_123.2.2.2.2.2.1
theorem dX4_readPart_135 : decode cX4_readPart 135 = .ok (.goto 42, 3) := da9_dX4_readPart_123.2.2.2.2.2.2.1
theorem dX4_readPart_138 : decode cX4_readPart 138 = .ok (.aload_n 0, 1) := da9_dX4_readPart_123.2.2.2.2.2.2.2.1
theorem dX4_readPart_139 : decode cX4_readPart 139 = .ok (.getfield 19, 3) := da9_dX4_readPart_123.2.2.2.2.2.2.2.2.1
theorem dX4_readPart_142 : decode cX4_readPart 142 = .ok (.ifCond .eq 26, 3) := da9_dX4_readPart_123.2.2.2.2.2.2.2.2.2.1
theorem dX4_readPart_145 : decode cX4_readPart 145 = .ok (.iload_n 1, 1) := da9_dX4_readPart_123.2.2.2.2.2.2.2.2.2.2.1
theorem dX4_readPart_146 : decode cX4_readPart 146 = .ok (.iconst 5, 1) := da9_dX4_readPart_123.2.2.2.2.2.2.2.2.2.2.2.1
theorem dX4_readPart_147 : decode cX4_readPart 147 = .ok (.if_icmp .lt 21, 3) := da9_dX4_readPart_123.2.2.2.2.2.2.2.2.2.2.2.2.1
theorem dX4_readPart_150 : decode cX4_readPart 150 = .ok (.aload_n 0, 1) := da9_dX4_readPart_123.2.2.2.2.2.2.2.2.2.2.2.2.2.1
theorem dX4_readPart_151 : decode cX4_readPart 151 = .ok (.iload_n 1, 1) := da9_dX4_readPart_123.2.2.2.2.2.2.2.2.2.2.2.2.2.2.1
theorem dX4_readPart_152 : decode cX4_readPart 152 = .ok (.iconst 5, 1) := da9_dX4_readPart_123.2.2.2.2.2.2.2.2.2.2.2.2.2.2.2
theorem da9_dX4_readPart_153 : (decode cX4_readPart 153 = .ok (.if_icmp .ne 7, 3)) ∧ (decode cX4_readPart 156 = .ok (.iconst 5, 1)) ∧ (decode cX4_readPart 157 = .ok (.goto 5, 3)) ∧ (decode cX4_readPart 160 = .ok (.bipush 11, 2)) ∧ (decode cX4_readPart 162 = .ok (.invokevirtual 160, 3)) ∧ (decode cX4_readPart 165 = .ok (.goto 12, 3)) ∧ (decode cX4_readPart 168 = .ok (.aload_n 0, 1)) ∧ (decode cX4_readPart 169 = .ok (.getfield 23, 3)) ∧ (decode cX4_readPart 172 = .ok (.iconst 1, 1)) ∧ (decode cX4_readPart 173 = .ok (.iload_n 1, 1)) ∧ (decode cX4_readPart 174 = .ok (.invokevirtual 116, 3)) ∧ (decode cX4_readPart 177 = .ok (.return_, 1)) := by decide +kernel
theorem dX4_readPart_153 : decode cX4_readPart 153 = .ok (.if_icmp .ne 7, 3) := da9_dX4_readPart_153.1
theorem dX4_readPart_156 : decode cX4_readPart 156 = .ok (.iconst 5, 1) := da9_dX4_readPart_153.2.1
theorem dX4_readPart_157 : decode cX4_readPart 157 = .ok (.goto 5, 3) := da9_dX4_readPart_153.2.2.1
theorem dX4_readPart_160 : decode cX4_readPart 160 = .ok (.bipush 11, 2) := da9_dX4_readPart_153.2.2.2.1
theorem dX4_readPart_162 : decode cX4_readPart 162 = .ok (.invokevirtual 160, 3) := da9_dX4_readPart_153.2.2.2.2.1
theorem dX4_readPart_165 : decode cX4_readPart 165 = .ok (.goto 12, 3) := da9_dX4_readPart_153.2.2.2.2.2.1
theorem dX4_readPart_168 : decode cX4_readPart 168 = .ok (.aload_n 0, 1) := da9_dX4_readPart_153.2.2.2.2.2.2.1
theorem dX4_readPart_169 : decode cX4_readPart 169 = .ok (.getfield 23, 3) := da9_dX4_readPart_153.2.2.2.2.2.2.2.1
theorem dX4_readPart_172 : decode cX4_readPart 172 = .ok (.iconst 1, 1) := da9_dX4_readPart_153.2.2.2.2.2.2.2.2.1
theorem dX4_readPart_173 : decode cX4_readPart 173 = .ok (.iload_n 1, 1) := da9_dX4_readPart_153.2.2.2.2.2.2.2.2.2.1
theorem dX4_readPart_174 : decode cX4_readPart 174 = .ok (.invokevirtual 116, 3) := da9_dX4_readPart_153.2.2.2.2.2.2.2.2.2.2.1
theorem dX4_readPart_177 : decode cX4_readPart 177 = .ok (.return_, 1) := da9_dX4_readPart_153.2.2.2.2.2.2.2.2.2.2.2
set_option maxRecDepth 20000 in
theorem ggX4_readPlace_X4_fail : GoodIn wsX4_readPlace wsX4_fail := goodIn_r _ [8, 9, 10, 32, 33, 34, 35, 36, 37, 38, 39, 40, 41, 42] rfl (by decide +kernel)
set_option maxRecDepth 20000 in
theorem gX4_readPlace_X4_fail : GoodIn wsX4_readPlace (wsV RX4 62 RX4 yX4_fail wsX4_fail) := goodIn_app (goodIn_of _ (by decide +kernel)) ggX4_readPlace_X4_fail
set_option maxRecDepth 20000 in
theorem ggX4_readPlace_X7_emit : GoodIn wsX4_readPlace wsX7_emit := goodIn_r _ [15, 16, 17, 43, 44, 45, 46, 47, 48, 49, 50] rfl (by decide +kernel)
set_option maxRecDepth 20000 in
theorem gX4_readPlace_X7_emit : GoodIn wsX4_readPlace (wsV RX4 116 RX7 yX7_emit wsX7_emit) := goodIn_app (goodIn_of _ (by decide +kernel)) ggX4_readPlace_X7_emit
set_option maxRecDepth 20000 in
theorem ggX4_readPlace_X4_step : GoodIn wsX4_readPlace wsX4_step := goodIn_r _ [21, 9, 22, 10, 23, 24, 2, 1, 25, 26, 27, 28, 29, 30, 7, 31, 32, 33, 34, 35, 36, 37, 38, 39, 40, 41, 42] rfl (by decide +kernel)
set_option maxRecDepth 20000 in
theorem gX4_readPlace_X4_step : GoodIn wsX4_readPlace (wsV RX4 59 RX4 yX4_step wsX4_step) := goodIn_app (goodIn_of _ (by decide +kernel)) ggX4_readPlace_X4_step
theorem da9_dX4_readPlace_0 : (decode cX4_readPlace 0 = .ok (.aload_n 0, 1)) ∧ (decode cX4_readPlace 1 = .ok (.getfield 27, 3)) ∧ (decode cX4_readPlace 4 = .ok (.iconst 2, 1)) ∧ (decode cX4_readPlace 5 = .ok (.if_icmp .ne 12, 3)) ∧ (decode cX4_readPlace 8 = .ok (.aload_n 0, 1)) ∧ (decode cX4_readPlace 9 = .ok (.getfield 36, 3)) ∧ (decode cX4_readPlace 12 = .ok (.bipush 6, 2)) ∧ (decode cX4_readPlace 14 = .ok (.if_icmp .lt 8, 3)) ∧ (decode cX4_readPlace 17 = .ok (.aload_n 0, 1)) ∧ (decode cX4_readPlace 18 = .ok (.invokevirtual 62, 3)) ∧ (decode cX4_readPlace 21 = .ok (.return_, 1)) ∧ (decode cX4_readPlace 22 = .ok (.aload_n 0, 1)) ∧ (decode cX4_readPlace 23 = .ok (.getfield 23, 3)) ∧ (decode cX4_readPlace 26 = .ok (.iconst 1, 1)) ∧ (decode cX4_readPlace 27 = .ok (.iload_n 1, 1)) ∧ (decode cX4_readPlace 28 = .ok (.aload_n 0, 1)) := by decide +kernel
theorem dX4_readPlace_0 : decode cX4_readPlace 0 = .ok (.aload_n 0, 1) := da9_dX4_readPlace_0.1
theorem dX4_readPlace_1 : decode cX4_readPlace 1 = .ok (.getfield 27, 3) := da9_dX4_readPlace_0.2.1
theorem dX4_readPlace_4 : decode cX4_readPlace 4 = .ok (.iconst 2, 1) := da9_dX4_readPlace_0.2.2.1
theorem dX4_readPlace_5 : decode cX4_readPlace 5 = .ok (.if_icmp .ne 12, 3) := da9_dX4_readPlace_0.2.2.2.1
theorem dX4_readPlace_8 : decode cX4_readPlace 8 = .ok (.aload_n 0, 1) := da9_dX4_readPlace_0.2.2.2.2.1
theorem dX4_readPlace_9 : decode cX4_readPlace 9 = .ok (.getfield 36, 3) := da9_dX4_readPlace_0.2.2.2.2.2.1
theorem dX4_readPlace_12 : decode cX4_readPlace 12 = .ok (.bipush 6, 2) := da9_dX4_readPlace_0.2.2.2.2.2.2.1
theorem dX4_readPlace_14 : decode cX4_readPlace 14 = .ok (.if_icmp .lt 8, 3) := da9_dX4_readPlace_0.2.2.2.2.2.2.2.1
theorem dX4_readPlace_17 : decode cX4_readPlace 17 = .ok (.aload_n 0, 1) := da9_dX4_readPlace_0.2.2.2.2.2.2.2.2.1
theorem dX4_readPlace_18 : decode cX4_readPlace 18 = .ok (.invokevirtual 62, 3) := da9_dX4_readPlace_0.2.2.2.2.2.2.2.2.2.1
theorem dX4_readPlace_21 : decode cX4_readPlace 21 = .ok (.return_, 1) := da9_dX4_readPlace_0.2.2.2.2.2.2.2.2.2.2.1
theorem dX4_readPlace_22 : decode cX4_readPlace 22 = .ok (.aload_n 0, 1) := da9_dX4_readPlace_0.2.2.2.2.2.2.2.2.2.2.2.1
theorem dX4_readPlace_23 : decode cX4_readPlace 23 = .ok (.getfield 23, 3) := da9_dX4_readPlace_0.2.2.2.2.2.2.2.2.2.2.2.2.1
theorem dX4_readPlace_26 : decode cX4_readPlace 26 = .ok (.iconst 1, 1) := da9_dX4_readPlace_0.2.2.2.2.2.2.2.2.2.2.2.2.2.1
theorem dX4_readPlace_27 : decode cX4_readPlace 27 = .ok (.iload_n 1, 1) := da9_dX4_readPlace_0.2.2.2.2.2.2.2.2.2.2.2.2.2.2.1
theorem dX4_readPlace_28 : decode cX4_readPlace 28 = .ok (.aload_n 0, 1) := da9_dX4_readPlace_0.2.2.2.2.2.2.2.2.2.2.2.2.2.2.2
theorem da9_dX4_readPlace_29 : (decode cX4_readPlace 29 = .ok (.getfield 36, 3)) ∧ (decode cX4_readPlace 32 = .ok (.iadd, 1)) ∧ (decode cX4_readPlace 33 = .ok (.invokevirtual 116, 3)) ∧ (decode cX4_readPlace 36 = .ok (.aload_n 0, 1)) ∧ (decode cX4_readPlace 37 = .ok (.invokevirtual 59, 3)) ∧ (decode cX4_readPlace 40 = .ok (.return_, 1)) := by decide +kernel
theorem dX4_readPlace_29 : decode cX4_readPlace 29 = .ok (.getfield 36, 3) := da9_dX4_readPlace_29.1
theorem dX4_readPlace_32 : decode cX4_readPlace 32 = .ok (.iadd, 1) := da9_dX4_readPlace_29.2.1
theorem dX4_readPlace_33 : decode cX4_readPlace 33 = .ok (.invokevirtual 116, 3) := da9_dX4_readPlace_29.2.2.1
theorem dX4_readPlace_36 : decode cX4_readPlace 36 = .ok (.aload_n 0, 1) := da9_dX4_readPlace_29.2.2.2.1
theorem dX4_readPlace_37 : decode cX4_readPlace 37 = .ok (.invokevirtual 59, 3) := da9_dX4_readPlace_29.2.2.2.2.1
theorem dX4_readPlace_40 : decode cX4_readPlace 40 = .ok (.return_, 1) := da9_dX4_readPlace_29.2.2.2.2.2
set_option maxRecDepth 20000 in
theorem ggX4_signIn_J0_length_8abf5 : GoodIn wsX4_signIn wsJ0_length_8abf5 := goodIn_r _ [5, 6, 7, 8, 9, 4, 10, 11, 12] rfl (by decide +kernel)
set_option maxRecDepth 20000 in
theorem gX4_signIn_J0_length_8abf5 : GoodIn wsX4_signIn (wsV RX4 167 RJ0 yJ0_length_8abf5 wsJ0_length_8abf5) := goodIn_app (goodIn_of _ (by decide +kernel)) ggX4_signIn_J0_length_8abf5
set_option maxRecDepth 20000 in
theorem ggX4_signIn_J0_charAt_5068e : GoodIn wsX4_signIn wsJ0_charAt_5068e := goodIn_r _ [16, 6, 17, 18, 19, 4, 20, 11, 12, 21, 22, 23, 24, 25, 26, 27, 28, 29, 30, 31, 32, 33, 34, 35, 36, 37, 38, 39, 40, 41, 42, 43, 44, 45, 46, 47, 48, 49] rfl (by decide +kernel)
set_option maxRecDepth 20000 in
theorem gX4_signIn_J0_charAt_5068e : GoodIn wsX4_signIn (wsV RX4 172 RJ0 yJ0_charAt_5068e wsJ0_charAt_5068e) := goodIn_app (goodIn_of _ (by decide +kernel)) ggX4_signIn_J0_charAt_5068e
set_option maxRecDepth 20000 in
theorem ggX4_signIn_X4_isSign : GoodIn wsX4_signIn wsX4_isSign := goodIn_r _ [54, 55, 56, 57, 58, 59, 60, 61, 62, 63, 64, 65, 66, 67, 68, 69] rfl (by decide +kernel)
set_option maxRecDepth 20000 in
theorem gX4_signIn_X4_isSign : GoodIn wsX4_signIn (wsV RX4 130 RX4 yX4_isSign wsX4_isSign) := goodIn_app (goodIn_of _ (by decide +kernel)) ggX4_signIn_X4_isSign
theorem da9_dX4_signIn_0 : (decode cX4_signIn 0 = .ok (.iconst 0, 1)) ∧ (decode cX4_signIn 1 = .ok (.istore_n 3, 1)) ∧ (decode cX4_signIn 2 = .ok (.iload_n 3, 1)) ∧ (decode cX4_signIn 3 = .ok (.aload_n 1, 1)) ∧ (decode cX4_signIn 4 = .ok (.invokevirtual 167, 3)) ∧ (decode cX4_signIn 7 = .ok (.if_icmp .ge 25, 3)) ∧ (decode cX4_signIn 10 = .ok (.aload_n 0, 1)) ∧ (decode cX4_signIn 11 = .ok (.aload_n 1, 1)) ∧ (decode cX4_signIn 12 = .ok (.iload_n 3, 1)) ∧ (decode cX4_signIn 13 = .ok (.invokevirtual 172, 3)) ∧ (decode cX4_signIn 16 = .ok (.invokevirtual 130, 3)) ∧ (decode cX4_signIn 19 = .ok (.ifCond .eq 7, 3)) ∧ (decode cX4_signIn 22 = .ok (.iload_n 2, 1)) ∧ (decode cX4_signIn 23 = .ok (.iload_n 3, 1)) ∧ (decode cX4_signIn 24 = .ok (.iadd, 1)) ∧ (decode cX4_signIn 25 = .ok (.ireturn, 1)) := by decide +kernel
theorem dX4_signIn_0 : decode cX4_signIn 0 = .ok (.iconst 0, 1) := da9_dX4_signIn_0.1
theorem dX4_signIn_1 : decode cX4_signIn 1 = .ok (.istore_n 3, 1) := da9_dX4_signIn_0.2.1
theorem dX4_signIn_2 : decode cX4_signIn 2 = .ok (.iload_n 3, 1) := da9_dX4_signIn_0.2.2.1
theorem dX4_signIn_3 : decode cX4_signIn 3 = .ok (.aload_n 1, 1) := da9_dX4_signIn_0.2.2.2.1
theorem dX4_signIn_4 : decode cX4_signIn 4 = .ok (.invokevirtual 167, 3) := da9_dX4_signIn_0.2.2.2.2.1
theorem dX4_signIn_7 : decode cX4_signIn 7 = .ok (.if_icmp .ge 25, 3) := da9_dX4_signIn_0.2.2.2.2.2.1
theorem dX4_signIn_10 : decode cX4_signIn 10 = .ok (.aload_n 0, 1) := da9_dX4_signIn_0.2.2.2.2.2.2.1
theorem dX4_signIn_11 : decode cX4_signIn 11 = .ok (.aload_n 1, 1) := da9_dX4_signIn_0.2.2.2.2.2.2.2.1
theorem dX4_signIn_12 : decode cX4_signIn 12 = .ok (.iload_n 3, 1) := da9_dX4_signIn_0.2.2.2.2.2.2.2.2.1
theorem dX4_signIn_13 : decode cX4_signIn 13 = .ok (.invokevirtual 172, 3) := da9_dX4_signIn_0.2.2.2.2.2.2.2.2.2.1
theorem dX4_signIn_16 : decode cX4_signIn 16 = .ok (.invokevirtual 130, 3) := da9_dX4_signIn_0.2.2.2.2.2.2.2.2.2.2.1
theorem dX4_signIn_19 : decode cX4_signIn 19 = .ok (.ifCond .eq 7, 3) := da9_dX4_signIn_0.2.2.2.2.2.2.2.2.2.2.2.1
theorem dX4_signIn_22 : decode cX4_signIn 22 = .ok (.iload_n 2, 1) := da9_dX4_signIn_0.2.2.2.2.2.2.2.2.2.2.2.2.1
theorem dX4_signIn_23 : decode cX4_signIn 23 = .ok (.iload_n 3, 1) := da9_dX4_signIn_0.2.2.2.2.2.2.2.2.2.2.2.2.2.1
theorem dX4_signIn_24 : decode cX4_signIn 24 = .ok (.iadd, 1) := da9_dX4_signIn_0.2.2.2.2.2.2.2.2.2.2.2.2.2.2.1
theorem dX4_signIn_25 : decode cX4_signIn 25 = .ok (.ireturn, 1) := da9_dX4_signIn_0.2.2.2.2.2.2.2.2.2.2.2.2.2.2.2
theorem da9_dX4_signIn_26 : (decode cX4_signIn 26 = .ok (.iinc 3 1, 3)) ∧ (decode cX4_signIn 29 = .ok (.goto (-27), 3)) ∧ (decode cX4_signIn 32 = .ok (.iconst (-1), 1)) ∧ (decode cX4_signIn 33 = .ok (.ireturn, 1)) := by decide +kernel
theorem dX4_signIn_26 : decode cX4_signIn 26 = .ok (.iinc 3 1, 3) := da9_dX4_signIn_26.1
theorem dX4_signIn_29 : decode cX4_signIn 29 = .ok (.goto (-27), 3) := da9_dX4_signIn_26.2.1
theorem dX4_signIn_32 : decode cX4_signIn 32 = .ok (.iconst (-1), 1) := da9_dX4_signIn_26.2.2.1
theorem dX4_signIn_33 : decode cX4_signIn 33 = .ok (.ireturn, 1) := da9_dX4_signIn_26.2.2.2
theorem da9_dX7_emit_0 : (decode cX7_emit 0 = .ok (.aload_n 0, 1)) ∧ (decode cX7_emit 1 = .ok (.getfield 13, 3)) ∧ (decode cX7_emit 4 = .ok (.aload_n 0, 1)) ∧ (decode cX7_emit 5 = .ok (.getfield 32, 3)) ∧ (decode cX7_emit 8 = .ok (.arraylength, 1)) ∧ (decode cX7_emit 9 = .ok (.if_icmp .ge 27, 3)) ∧ (decode cX7_emit 12 = .ok (.aload_n 0, 1)) ∧ (decode cX7_emit 13 = .ok (.getfield 32, 3)) ∧ (decode cX7_emit 16 = .ok (.aload_n 0, 1)) ∧ (decode cX7_emit 17 = .ok (.getfield 13, 3)) ∧ (decode cX7_emit 20 = .ok (.iload_n 2, 1)) ∧ (decode cX7_emit 21 = .ok (.iconst 4, 1)) ∧ (decode cX7_emit 22 = .ok (.ishl, 1)) ∧ (decode cX7_emit 23 = .ok (.iload_n 1, 1)) ∧ (decode cX7_emit 24 = .ok (.ior, 1)) ∧ (decode cX7_emit 25 = .ok (.iastore, 1)) := by decide +kernel
theorem dX7_emit_0 : decode cX7_emit 0 = .ok (.aload_n 0, 1) := da9_dX7_emit_0.1
theorem dX7_emit_1 : decode cX7_emit 1 = .ok (.getfield 13, 3) := da9_dX7_emit_0.2.1
theorem dX7_emit_4 : decode cX7_emit 4 = .ok (.aload_n 0, 1) := da9_dX7_emit_0.2.2.1
theorem dX7_emit_5 : decode cX7_emit 5 = .ok (.getfield 32, 3) := da9_dX7_emit_0.2.2.2.1
theorem dX7_emit_8 : decode cX7_emit 8 = .ok (.arraylength, 1) := da9_dX7_emit_0.2.2.2.2.1
theorem dX7_emit_9 : decode cX7_emit 9 = .ok (.if_icmp .ge 27, 3) := da9_dX7_emit_0.2.2.2.2.2.1
theorem dX7_emit_12 : decode cX7_emit 12 = .ok (.aload_n 0, 1) := da9_dX7_emit_0.2.2.2.2.2.2.1
theorem dX7_emit_13 : decode cX7_emit 13 = .ok (.getfield 32, 3) := da9_dX7_emit_0.2.2.2.2.2.2.2.1
theorem dX7_emit_16 : decode cX7_emit 16 = .ok (.aload_n 0, 1) := da9_dX7_emit_0.2.2.2.2.2.2.2.2.1
theorem dX7_emit_17 : decode cX7_emit 17 = .ok (.getfield 13, 3) := da9_dX7_emit_0.2.2.2.2.2.2.2.2.2.1
theorem dX7_emit_20 : decode cX7_emit 20 = .ok (.iload_n 2, 1) := da9_dX7_emit_0.2.2.2.2.2.2.2.2.2.2.1
theorem dX7_emit_21 : decode cX7_emit 21 = .ok (.iconst 4, 1) := da9_dX7_emit_0.2.2.2.2.2.2.2.2.2.2.2.1
theorem dX7_emit_22 : decode cX7_emit 22 = .ok (.ishl, 1) := da9_dX7_emit_0.2.2.2.2.2.2.2.2.2.2.2.2.1
theorem dX7_emit_23 : decode cX7_emit 23 = .ok (.iload_n 1, 1) := da9_dX7_emit_0.2.2.2.2.2.2.2.2.2.2.2.2.2.1
theorem dX7_emit_24 : decode cX7_emit 24 = .ok (.ior, 1) := da9_dX7_emit_0.2.2.2.2.2.2.2.2.2.2.2.2.2.2.1
theorem dX7_emit_25 : decode cX7_emit 25 = .ok (.iastore, 1) := da9_dX7_emit_0.2.2.2.2.2.2.2.2.2.2.2.2.2.2.2
theorem da9_dX7_emit_26 : (decode cX7_emit 26 = .ok (.aload_n 0, 1)) ∧ (decode cX7_emit 27 = .ok (.dup, 1)) ∧ (decode cX7_emit 28 = .ok (.getfield 13, 3)) ∧ (decode cX7_emit 31 = .ok (.iconst 1, 1)) ∧ (decode cX7_emit 32 = .ok (.iadd, 1)) ∧ (decode cX7_emit 33 = .ok (.putfield 13, 3)) ∧ (decode cX7_emit 36 = .ok (.return_, 1)) := by decide +kernel
theorem dX7_emit_26 : decode cX7_emit 26 = .ok (.aload_n 0, 1) := da9_dX7_emit_26.1
theorem dX7_emit_27 : decode cX7_emit 27 = .ok (.dup, 1) := da9_dX7_emit_26.2.1
theorem dX7_emit_28 : decode cX7_emit 28 = .ok (.getfield 13, 3) := da9_dX7_emit_26.2.2.1
theorem dX7_emit_31 : decode cX7_emit 31 = .ok (.iconst 1, 1) := da9_dX7_emit_26.2.2.2.1
theorem dX7_emit_32 : decode cX7_emit 32 = .ok (.iadd, 1) := da9_dX7_emit_26.2.2.2.2.1
theorem dX7_emit_33 : decode cX7_emit 33 = .ok (.putfield 13, 3) := da9_dX7_emit_26.2.2.2.2.2.1
theorem dX7_emit_36 : decode cX7_emit 36 = .ok (.return_, 1) := da9_dX7_emit_26.2.2.2.2.2.2
