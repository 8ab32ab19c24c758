set_option maxRecDepth 20000 in
theorem ggX4_readBoth_X4_readPlain : GoodIn wsX4_readBoth wsX4_readPlain := goodIn_r _ [92, 1, 93, 2, 3, 8, 9, 10, 7, 11, 12, 13, 14, 15, 16, 17, 18, 19, 20, 21, 22, 23, 24, 25, 26, 27, 28, 29, 30, 31, 32, 33, 34, 35, 36, 37, 38, 39, 40, 41, 42, 43, 44, 45, 46, 47, 48, 49, 50, 51, 52, 53, 54, 55, 56, 57, 58, 59, 60, 61, 62, 63, 64, 65, 66, 67, 68, 76, 77, 78, 79, 80, 81, 82, 83, 84, 85, 86, 87, 94, 95, 96, 97, 98, 99, 100, 101, 102, 103, 104, 105, 106, 107, 108, 109, 110, 111, 112, 113, 114, 115, 116, 117, 118, 119, 120, 121, 122, 123, 69, 70, 71, 72, 73, 74, 75, 124, 125, 126, 127, 128, 129, 130, 131, 132, 133, 134, 135, 136, 137, 138, 0, 4, 5, 6, 88, 89, 90, 91, 139, 140, 141, 142, 143, 144, 145, 146, 147, 148, 149, 150, 151, 152, 153, 154, 155, 156, 157, 158, 159, 160, 161] rfl (by decide +kernel)
set_option maxRecDepth 20000 in
theorem gX4_readBoth_X4_readPlain : GoodIn wsX4_readBoth (wsV RX4 123 RX4 yX4_readPlain wsX4_readPlain) := goodIn_app (goodIn_of _ (by decide +kernel)) ggX4_readBoth_X4_readPlain
set_option maxRecDepth 20000 in
theorem ggX4_readBoth_X4_isWord : GoodIn wsX4_readBoth wsX4_isWord := goodIn_r _ [11, 12, 13, 14, 15, 16, 17, 18, 19, 20, 21, 22, 23, 24, 25, 26, 27, 7, 28, 29, 30, 31, 32, 33, 34, 35, 36, 37, 38, 39, 40, 41, 42, 43, 44, 45, 46, 47, 48, 49, 50, 51, 52, 53, 54, 55, 56, 57, 58, 59, 60, 61, 62, 63, 64, 65, 66, 67, 68, 143, 144, 145, 146, 147, 148, 149, 150, 151, 152, 153] rfl (by decide +kernel)
set_option maxRecDepth 20000 in
theorem gX4_readBoth_X4_isWord : GoodIn wsX4_readBoth (wsV RX4 92 RX4 yX4_isWord wsX4_isWord) := goodIn_app (goodIn_of _ (by decide +kernel)) ggX4_readBoth_X4_isWord
set_option maxRecDepth 20000 in
theorem ggX4_readBoth_X7_emit : GoodIn wsX4_readBoth wsX7_emit := goodIn_r _ [73, 74, 75, 154, 155, 156, 157, 158, 159, 160, 161] rfl (by decide +kernel)
set_option maxRecDepth 20000 in
theorem gX4_readBoth_X7_emit : GoodIn wsX4_readBoth (wsV RX4 116 RX7 yX7_emit wsX7_emit) := goodIn_app (goodIn_of _ (by decide +kernel)) ggX4_readBoth_X7_emit
set_option maxRecDepth 20000 in
theorem ggX4_readBoth_X4_step : GoodIn wsX4_readBoth wsX4_step := goodIn_r _ [79, 2, 29, 30, 1, 31, 80, 12, 81, 82, 83, 84, 85, 86, 7, 87, 143, 144, 145, 146, 147, 148, 149, 150, 151, 152, 153] rfl (by decide +kernel)
set_option maxRecDepth 20000 in
theorem gX4_readBoth_X4_step : GoodIn wsX4_readBoth (wsV RX4 59 RX4 yX4_step wsX4_step) := goodIn_app (goodIn_of _ (by decide +kernel)) ggX4_readBoth_X4_step
set_option maxRecDepth 20000 in
theorem ggX4_readBoth_X7_leapHere : GoodIn wsX4_readBoth wsX7_leapHere := goodIn_r _ [91, 74, 75, 154, 155, 156, 157, 158, 159, 160, 161] rfl (by decide +kernel)
set_option maxRecDepth 20000 in
theorem gX4_readBoth_X7_leapHere : GoodIn wsX4_readBoth (wsV RX4 120 RX7 yX7_leapHere wsX7_leapHere) := goodIn_app (goodIn_of _ (by decide +kernel)) ggX4_readBoth_X7_leapHere
theorem da9_dX4_readBoth_0 : (decode cX4_readBoth 0 = .ok (.aload_n 0, 1)) ∧ (decode cX4_readBoth 1 = .ok (.invokevirtual 123, 3)) ∧ (decode cX4_readBoth 4 = .ok (.iconst 0, 1)) ∧ (decode cX4_readBoth 5 = .ok (.istore_n 1, 1)) ∧ (decode cX4_readBoth 6 = .ok (.iload_n 1, 1)) ∧ (decode cX4_readBoth 7 = .ok (.aload_n 0, 1)) ∧ (decode cX4_readBoth 8 = .ok (.getfield 15, 3)) ∧ (decode cX4_readBoth 11 = .ok (.if_icmp .ge 62, 3)) ∧ (decode cX4_readBoth 14 = .ok (.aload_n 0, 1)) ∧ (decode cX4_readBoth 15 = .ok (.getfield 45, 3)) ∧ (decode cX4_readBoth 18 = .ok (.iconst (-1), 1)) ∧ (decode cX4_readBoth 19 = .ok (.if_icmp .ne 54, 3)) ∧ (decode cX4_readBoth 22 = .ok (.aload_n 0, 1)) ∧ (decode cX4_readBoth 23 = .ok (.ldc 126, 2)) ∧ (decode cX4_readBoth 25 = .ok (.invokevirtual 92, 3)) ∧ (decode cX4_readBoth 28 = .ok (.ifCond .eq 45, 3)) := by decide +kernel
theorem dX4_readBoth_0 : decode cX4_readBoth 0 = .ok (.aload_n 0, 1) := da9_dX4_readBoth_0.1
theorem dX4_readBoth_1 : decode cX4_readBoth 1 = .ok (.invokevirtual 123, 3) := da9_dX4_readBoth_0.2.1
theorem dX4_readBoth_4 : decode cX4_readBoth 4 = .ok (.iconst 0, 1) := da9_dX4_readBoth_0.2.2.1
theorem dX4_readBoth_5 : decode cX4_readBoth 5 = .ok (.istore_n 1, 1) := da9_dX4_readBoth_0.2.2.2.1
theorem dX4_readBoth_6 : decode cX4_readBoth 6 = .ok (.iload_n 1, 1) := da9_dX4_readBoth_0.2.2.2.2.1
theorem dX4_readBoth_7 : decode cX4_readBoth 7 = .ok (.aload_n 0, 1) := da9_dX4_readBoth_0.2.2.2.2.2.1
theorem dX4_readBoth_8 : decode cX4_readBoth 8 = .ok (.getfield 15, 3) := da9_dX4_readBoth_0.2.2.2.2.2.2.1
theorem dX4_readBoth_11 : decode cX4_readBoth 11 = .ok (.if_icmp .ge 62, 3) := da9_dX4_readBoth_0.2.2.2.2.2.2.2.1
theorem dX4_readBoth_14 : decode cX4_readBoth 14 = .ok (.aload_n 0, 1) := da9_dX4_readBoth_0.2.2.2.2.2.2.2.2.1
theorem dX4_readBoth_15 : decode cX4_readBoth 15 = .ok (.getfield 45, 3) := da9_dX4_readBoth_0.2.2.2.2.2.2.2.2.2.1
theorem dX4_readBoth_18 : decode cX4_readBoth 18 = .ok (.iconst (-1), 1) := da9_dX4_readBoth_0.2.2.2.2.2.2.2.2.2.2.1
theorem dX4_readBoth_19 : decode cX4_readBoth 19 = .ok (.if_icmp .ne 54, 3) := da9_dX4_readBoth_0.2.2.2.2.2.2.2.2.2.2.2.1
theorem dX4_readBoth_22 : decode cX4_readBoth 22 = .ok (.aload_n 0, 1) := da9_dX4_readBoth_0.2.2.2.2.2.2.2.2.2.2.2.2.1
theorem dX4_readBoth_23 : decode cX4_readBoth 23 = .ok (.ldc 126, 2) := da9_dX4_readBoth_0.2.2.2.2.2.2.2.2.2.2.2.2.2.1
theorem dX4_readBoth_25 : decode cX4_readBoth 25 = .ok (.invokevirtual 92, 3) := da9_dX4_readBoth_0.2.2.2.2.2.2.2.2.2.2.2.2.2.2.1
theorem dX4_readBoth_28 : decode cX4_readBoth 28 = .ok (.ifCond .eq 45, 3) := da9_dX4_readBoth_0.2.2.2.2.2.2.2.2.2.2.2.2.2.2.2
theorem da9_dX4_readBoth_31 : (decode cX4_readBoth 31 = .ok (.aload_n 0, 1)) ∧ (decode cX4_readBoth 32 = .ok (.getfield 23, 3)) ∧ (decode cX4_readBoth 35 = .ok (.getfield 115, 3)) ∧ (decode cX4_readBoth 38 = .ok (.istore_n 2, 1)) ∧ (decode cX4_readBoth 39 = .ok (.aload_n 0, 1)) ∧ (decode cX4_readBoth 40 = .ok (.getfield 23, 3)) ∧ (decode cX4_readBoth 43 = .ok (.bipush 11, 2)) ∧ (decode cX4_readBoth 45 = .ok (.iconst 0, 1)) ∧ (decode cX4_readBoth 46 = .ok (.invokevirtual 116, 3)) ∧ (decode cX4_readBoth 49 = .ok (.aload_n 0, 1)) ∧ (decode cX4_readBoth 50 = .ok (.invokevirtual 59, 3)) ∧ (decode cX4_readBoth 53 = .ok (.aload_n 0, 1)) ∧ (decode cX4_readBoth 54 = .ok (.invokevirtual 123, 3)) ∧ (decode cX4_readBoth 57 = .ok (.aload_n 0, 1)) ∧ (decode cX4_readBoth 58 = .ok (.getfield 23, 3)) ∧ (decode cX4_readBoth 61 = .ok (.bipush 11, 2)) := by decide +kernel
theorem dX4_readBoth_31 : decode cX4_readBoth 31 = .ok (.aload_n 0, 1) := da9_dX4_readBoth_31.1
theorem dX4_readBoth_32 : decode cX4_readBoth 32 = .ok (.getfield 23, 3) := da9_dX4_readBoth_31.2.1
theorem dX4_readBoth_35 : decode cX4_readBoth 35 = .ok (.getfield 115, 3) := da9_dX4_readBoth_31.2.2.1
theorem dX4_readBoth_38 : decode cX4_readBoth 38 = .ok (.istore_n 2, 1) := da9_dX4_readBoth_31.2.2.2.1
theorem dX4_readBoth_39 : decode cX4_readBoth 39 = .ok (.aload_n 0, 1) := da9_dX4_readBoth_31.2.2.2.2.1
theorem dX4_readBoth_40 : decode cX4_readBoth 40 = .ok (.getfield 23, 3) := da9_dX4_readBoth_31.2.2.2.2.2.1
theorem dX4_readBoth_43 : decode cX4_readBoth 43 = .ok (.bipush 11, 2) := da9_dX4_readBoth_31.2.2.2.2.2.2.1
theorem dX4_readBoth_45 : decode cX4_readBoth 45 = .ok (.iconst 0, 1) := da9_dX4_readBoth_31.2.2.2.2.2.2.2.1
theorem dX4_readBoth_46 : decode cX4_readBoth 46 = .ok (.invokevirtual 116, 3) := da9_dX4_readBoth_31.2.2.2.2.2.2.2.2.1
theorem dX4_readBoth_49 : decode cX4_readBoth 49 = .ok (.aload_n 0, 1) := da9_dX4_readBoth_31.2.2.2.2.2.2.2.2.2.1
theorem dX4_readBoth_50 : decode cX4_readBoth 50 = .ok (.invokevirtual 59, 3) := da9_dX4_readBoth_31.2.2.2.2.2.2.2.2.2.2.1
theorem dX4_readBoth_53 : decode cX4_readBoth 53 = .ok (.aload_n 0, 1) := da9_dX4_readBoth_31.2.2.2.2.2.2.2.2.2.2.2.1
theorem dX4_readBoth_54 : decode cX4_readBoth 54 = .ok (.invokevirtual 123, 3) := da9_dX4_readBoth_31.2.2.2.2.2.2.2.2.2.2.2.2.1
theorem dX4_readBoth_57 : decode cX4_readBoth 57 = .ok (.aload_n 0, 1) := da9_dX4_readBoth_31.2.2.2.2.2.2.2.2.2.2.2.2.2.1
theorem dX4_readBoth_58 : decode cX4_readBoth 58 = .ok (.getfield 23, 3) := da9_dX4_readBoth_31.2.2.2.2.2.2.2.2.2.2.2.2.2.2.1
theorem dX4_readBoth_61 : decode cX4_readBoth 61 = .ok (.bipush 11, 2) := da9_dX4_readBoth_31.2.2.2.2.2.2.2.2.2.2.2.2.2.2.2
theorem da9_dX4_readBoth_63 : (decode cX4_readBoth 63 = .ok (.iload_n 2, 1)) ∧ (decode cX4_readBoth 64 = .ok (.invokevirtual 120, 3)) ∧ (decode cX4_readBoth 67 = .ok (.iinc 1 1, 3)) ∧ (decode cX4_readBoth 70 = .ok (.goto (-64), 3)) ∧ (decode cX4_readBoth 73 = .ok (.return_, 1)) := by decide +kernel
theorem dX4_readBoth_63 : decode cX4_readBoth 63 = .ok (.iload_n 2, 1) := da9_dX4_readBoth_63.1
theorem dX4_readBoth_64 : decode cX4_readBoth 64 = .ok (.invokevirtual 120, 3) := da9_dX4_readBoth_63.2.1
theorem dX4_readBoth_67 : decode cX4_readBoth 67 = .ok (.iinc 1 1, 3) := da9_dX4_readBoth_63.2.2.1
theorem dX4_readBoth_70 : decode cX4_readBoth 70 = .ok (.goto (-64), 3) := da9_dX4_readBoth_63.2.2.2.1
theorem dX4_readBoth_73 : decode cX4_readBoth 73 = .ok (.return_, 1) := da9_dX4_readBoth_63.2.2.2.2
set_option maxRecDepth 20000 in
theorem ggX4_readPlain_X4_isWord : GoodIn wsX4_readPlain wsX4_isWord := goodIn_r _ [9, 10, 11, 12, 13, 14, 15, 16, 17, 18, 19, 20, 21, 22, 23, 24, 25, 8, 26, 27, 28, 29, 30, 31, 32, 33, 34, 35, 36, 37, 38, 39, 40, 41, 42, 43, 44, 45, 46, 47, 48, 49, 50, 51, 52, 53, 54, 55, 56, 57, 58, 59, 60, 61, 62, 63, 64, 65, 66, 143, 144, 145, 146, 147, 148, 149, 150, 151, 152, 153] rfl (by decide +kernel)
set_option maxRecDepth 20000 in
theorem gX4_readPlain_X4_isWord : GoodIn wsX4_readPlain (wsV RX4 92 RX4 yX4_isWord wsX4_isWord) := goodIn_app (goodIn_of _ (by decide +kernel)) ggX4_readPlain_X4_isWord
set_option maxRecDepth 20000 in
theorem ggX4_readPlain_X4_step : GoodIn wsX4_readPlain wsX4_step := goodIn_r _ [70, 3, 27, 28, 1, 29, 71, 10, 72, 73, 74, 75, 76, 77, 8, 78, 143, 144, 145, 146, 147, 148, 149, 150, 151, 152, 153] rfl (by decide +kernel)
set_option maxRecDepth 20000 in
theorem gX4_readPlain_X4_step : GoodIn wsX4_readPlain (wsV RX4 59 RX4 yX4_step wsX4_step) := goodIn_app (goodIn_of _ (by decide +kernel)) ggX4_readPlain_X4_step
set_option maxRecDepth 20000 in
theorem ggX4_readPlain_X4_isSign : GoodIn wsX4_readPlain wsX4_isSign := goodIn_r _ [82, 10, 28, 1, 29, 143, 144, 145, 146, 147, 148, 149, 150, 151, 152, 153] rfl (by decide +kernel)
set_option maxRecDepth 20000 in
theorem gX4_readPlain_X4_isSign : GoodIn wsX4_readPlain (wsV RX4 130 RX4 yX4_isSign wsX4_isSign) := goodIn_app (goodIn_of _ (by decide +kernel)) ggX4_readPlain_X4_isSign
set_option maxRecDepth 20000 in
theorem ggX4_readPlain_X4_openBracket : GoodIn wsX4_readPlain wsX4_openBracket := goodIn_r _ [86, 2, 87, 88, 89, 8, 90, 3, 28, 67, 68, 69, 70, 27, 1, 29, 71, 10, 72, 73, 74, 75, 76, 77, 78, 143, 144, 145, 146, 147, 148, 149, 150, 151, 152, 153] rfl (by decide +kernel)
set_option maxRecDepth 20000 in
theorem gX4_readPlain_X4_openBracket : GoodIn wsX4_readPlain (wsV RX4 134 RX4 yX4_openBracket wsX4_openBracket) := goodIn_app (goodIn_of _ (by decide +kernel)) ggX4_readPlain_X4_openBracket
set_option maxRecDepth 20000 in
theorem ggX4_readPlain_X4_readTest : GoodIn wsX4_readPlain wsX4_readTest := goodIn_r _ [139, 1, 3, 4, 140, 141, 142, 8, 5, 6, 7, 9, 10, 11, 12, 13, 14, 15, 16, 17, 18, 19, 20, 21, 22, 23, 24, 25, 26, 27, 28, 29, 30, 31, 32, 33, 34, 35, 36, 37, 38, 39, 40, 41, 42, 43, 44, 45, 46, 47, 48, 49, 50, 51, 52, 53, 54, 55, 56, 57, 58, 59, 60, 61, 62, 63, 64, 65, 66, 109, 110, 111, 112, 113, 114, 115, 67, 68, 69, 70, 71, 72, 73, 74, 75, 76, 77, 78, 135, 136, 137, 138, 131, 132, 133, 134, 0, 2, 79, 80, 81, 82, 83, 84, 85, 86, 87, 88, 89, 90, 91, 92, 93, 94, 95, 96, 97, 98, 99, 100, 101, 102, 103, 104, 105, 106, 107, 108, 116, 117, 118, 119, 120, 121, 122, 123, 124, 125, 126, 127, 128, 129, 130, 143, 144, 145, 146, 147, 148, 149, 150, 151, 152, 153, 154, 155, 156, 157, 158, 159, 160, 161] rfl (by decide +kernel)
set_option maxRecDepth 20000 in
theorem gX4_readPlain_X4_readTest : GoodIn wsX4_readPlain (wsV RX4 101 RX4 yX4_readTest wsX4_readTest) := goodIn_app (goodIn_of _ (by decide +kernel)) ggX4_readPlain_X4_readTest
set_option maxRecDepth 20000 in
theorem ggX4_readPlain_X4_expectSign : GoodIn wsX4_readPlain wsX4_expectSign := goodIn_r _ [97, 79, 80, 81, 8, 82, 10, 28, 1, 29, 67, 68, 69, 70, 3, 27, 71, 72, 73, 74, 75, 76, 77, 78, 87, 88, 89, 90, 143, 144, 145, 146, 147, 148, 149, 150, 151, 152, 153] rfl (by decide +kernel)
set_option maxRecDepth 20000 in
theorem gX4_readPlain_X4_expectSign : GoodIn wsX4_readPlain (wsV RX4 68 RX4 yX4_expectSign wsX4_expectSign) := goodIn_app (goodIn_of _ (by decide +kernel)) ggX4_readPlain_X4_expectSign
set_option maxRecDepth 20000 in
theorem ggX4_readPlain_X4_readSum : GoodIn wsX4_readPlain wsX4_readSum := goodIn_r _ [101, 1, 3, 4, 102, 103, 104, 8, 105, 106, 107, 108, 11, 12, 13, 14, 15, 16, 17, 18, 19, 20, 21, 22, 30, 31, 32, 33, 34, 35, 36, 37, 38, 39, 40, 41, 42, 43, 44, 45, 46, 47, 48, 49, 50, 51, 52, 53, 54, 55, 56, 57, 58, 59, 60, 61, 62, 63, 64, 65, 66, 79, 80, 81, 82, 10, 28, 29, 67, 68, 69, 70, 27, 71, 72, 73, 74, 75, 76, 77, 78, 109, 110, 111, 112, 113, 114, 115, 116, 2, 117, 118, 83, 84, 85, 86, 87, 88, 89, 90, 98, 99, 100, 94, 95, 96, 97, 119, 120, 121, 122, 23, 24, 25, 26, 123, 124, 125, 126, 127, 128, 129, 130, 143, 144, 145, 146, 147, 148, 149, 150, 151, 152, 153, 154, 155, 156, 157, 158, 159, 160, 161] rfl (by decide +kernel)
set_option maxRecDepth 20000 in
theorem gX4_readPlain_X4_readSum : GoodIn wsX4_readPlain (wsV RX4 84 RX4 yX4_readSum wsX4_readSum) := goodIn_app (goodIn_of _ (by decide +kernel)) ggX4_readPlain_X4_readSum
set_option maxRecDepth 20000 in
theorem ggX4_readPlain_X4_signIn : GoodIn wsX4_readPlain wsX4_signIn := goodIn_r _ [108, 11, 12, 13, 14, 15, 16, 17, 18, 19, 20, 21, 22, 30, 31, 32, 33, 34, 35, 36, 37, 38, 39, 40, 41, 42, 43, 44, 45, 46, 47, 48, 49, 50, 51, 52, 53, 54, 55, 56, 57, 58, 59, 60, 61, 62, 63, 64, 65, 66, 79, 80, 81, 8, 82, 10, 28, 1, 29, 143, 144, 145, 146, 147, 148, 149, 150, 151, 152, 153] rfl (by decide +kernel)
set_option maxRecDepth 20000 in
theorem gX4_readPlain_X4_signIn : GoodIn wsX4_readPlain (wsV RX4 140 RX4 yX4_signIn wsX4_signIn) := goodIn_app (goodIn_of _ (by decide +kernel)) ggX4_readPlain_X4_signIn
set_option maxRecDepth 20000 in
theorem ggX4_readPlain_X4_fail : GoodIn wsX4_readPlain wsX4_fail := goodIn_r _ [90, 3, 28, 143, 144, 145, 146, 147, 148, 149, 150, 151, 152, 153] rfl (by decide +kernel)
set_option maxRecDepth 20000 in
theorem gX4_readPlain_X4_fail : GoodIn wsX4_readPlain (wsV RX4 62 RX4 yX4_fail wsX4_fail) := goodIn_app (goodIn_of _ (by decide +kernel)) ggX4_readPlain_X4_fail
set_option maxRecDepth 20000 in
theorem ggX4_readPlain_X7_emit : GoodIn wsX4_readPlain wsX7_emit := goodIn_r _ [113, 114, 115, 154, 155, 156, 157, 158, 159, 160, 161] rfl (by decide +kernel)
set_option maxRecDepth 20000 in
theorem gX4_readPlain_X7_emit : GoodIn wsX4_readPlain (wsV RX4 116 RX7 yX7_emit wsX7_emit) := goodIn_app (goodIn_of _ (by decide +kernel)) ggX4_readPlain_X7_emit
theorem da9_dX4_readPlain_0 : (decode cX4_readPlain 0 = .ok (.iconst 0, 1)) ∧ (decode cX4_readPlain 1 = .ok (.istore_n 1, 1)) ∧ (decode cX4_readPlain 2 = .ok (.iconst 0, 1)) ∧ (decode cX4_readPlain 3 = .ok (.istore_n 2, 1)) ∧ (decode cX4_readPlain 4 = .ok (.iload_n 2, 1)) ∧ (decode cX4_readPlain 5 = .ok (.aload_n 0, 1)) ∧ (decode cX4_readPlain 6 = .ok (.getfield 15, 3)) ∧ (decode cX4_readPlain 9 = .ok (.if_icmp .ge 32, 3)) ∧ (decode cX4_readPlain 12 = .ok (.aload_n 0, 1)) ∧ (decode cX4_readPlain 13 = .ok (.ldc 128, 2)) ∧ (decode cX4_readPlain 15 = .ok (.invokevirtual 92, 3)) ∧ (decode cX4_readPlain 18 = .ok (.ifCond .eq 23, 3)) ∧ (decode cX4_readPlain 21 = .ok (.iload_n 1, 1)) ∧ (decode cX4_readPlain 22 = .ok (.ifCond .ne 7, 3)) ∧ (decode cX4_readPlain 25 = .ok (.iconst 1, 1)) ∧ (decode cX4_readPlain 26 = .ok (.goto 4, 3)) := by decide +kernel
theorem dX4_readPlain_0 : decode cX4_readPlain 0 = .ok (.iconst 0, 1) := da9_dX4_readPlain_0.1
theorem dX4_readPlain_1 : decode cX4_readPlain 1 = .ok (.istore_n 1, 1) := da9_dX4_readPlain_0.2.1
theorem dX4_readPlain_2 : decode cX4_readPlain 2 = .ok (.iconst 0, 1) := da9_dX4_readPlain_0.2.2.1
theorem dX4_readPlain_3 : decode cX4_readPlain 3 = .ok (.istore_n 2, 1) := da9_dX4_readPlain_0.2.2.2.1
theorem dX4_readPlain_4 : decode cX4_readPlain 4 = .ok (.iload_n 2, 1) := da9_dX4_readPlain_0.2.2.2.2.1
theorem dX4_readPlain_5 : decode cX4_readPlain 5 = .ok (.aload_n 0, 1) := da9_dX4_readPlain_0.2.2.2.2.2.1
theorem dX4_readPlain_6 : decode cX4_readPlain 6 = .ok (.getfield 15, 3) := da9_dX4_readPlain_0.2.2.2.2.2.2.1
theorem dX4_readPlain_9 : decode cX4_readPlain 9 = .ok (.if_icmp .ge 32, 3) := da9_dX4_readPlain_0.2.2.2.2.2.2.2.1
theorem dX4_readPlain_12 : decode cX4_readPlain 12 = .ok (.aload_n 0, 1) := da9_dX4_readPlain_0.2.2.2.2.2.2.2.2.1
theorem dX4_readPlain_13 : decode cX4_readPlain 13 = .ok (.ldc 128, 2) := da9_dX4_readPlain_0.2.2.2.2.2.2.2.2.2.1
theorem dX4_readPlain_15 : decode cX4_readPlain 15 = .ok (.invokevirtual 92, 3) := da9_dX4_readPlain_0.2.2.2.2.2.2.2.2.2.2.1
theorem dX4_readPlain_18 : decode cX4_readPlain 18 = .ok (.ifCond .eq 23, 3) := da9_dX4_readPlain_0.2.2.2.2.2.2.2.2.2.2.2.1
theorem dX4_readPlain_21 : decode cX4_readPlain 21 = .ok (.iload_n 1, 1) := da9_dX4_readPlain_0.2.2.2.2.2.2.2.2.2.2.2.2.1
theorem dX4_readPlain_22 : decode cX4_readPlain 22 = .ok (.ifCond .ne 7, 3) := da9_dX4_readPlain_0.2.2.2.2.2.2.2.2.2.2.2.2.2.1
theorem dX4_readPlain_25 : decode cX4_readPlain 25 = .ok (.iconst 1, 1) := da9_dX4_readPlain_0.2.2.2.2.2.2.2.2.2.2.2.2.2.2.1
theorem dX4_readPlain_26 : decode cX4_readPlain 26 = .ok (.goto 4, 3) := da9_dX4_readPlain_0.2.2.2.2.2.2.2.2.2.2.2.2.2.2.2
theorem da9_dX4_readPlain_29 : (decode cX4_readPlain 29 = .ok (.iconst 0, 1)) ∧ (decode cX4_readPlain 30 = .ok (.istore_n 1, 1)) ∧ (decode cX4_readPlain 31 = .ok (.aload_n 0, 1)) ∧ (decode cX4_readPlain 32 = .ok (.invokevirtual 59, 3)) ∧ (decode cX4_readPlain 35 = .ok (.iinc 2 1, 3)) ∧ (decode cX4_readPlain 38 = .ok (.goto (-34), 3)) ∧ (decode cX4_readPlain 41 = .ok (.aload_n 0, 1)) ∧ (decode cX4_readPlain 42 = .ok (.bipush 40, 2)) ∧ (decode cX4_readPlain 44 = .ok (.invokevirtual 130, 3)) ∧ (decode cX4_readPlain 47 = .ok (.ifCond .eq 33, 3)) ∧ (decode cX4_readPlain 50 = .ok (.aload_n 0, 1)) ∧ (decode cX4_readPlain 51 = .ok (.invokevirtual 134, 3)) ∧ (decode cX4_readPlain 54 = .ok (.ifCond .eq 74, 3)) ∧ (decode cX4_readPlain 57 = .ok (.aload_n 0, 1)) ∧ (decode cX4_readPlain 58 = .ok (.invokevirtual 101, 3)) ∧ (decode cX4_readPlain 61 = .ok (.aload_n 0, 1)) := by decide +kernel
theorem dX4_readPlain_29 : decode cX4_readPlain 29 = .ok (.iconst 0, 1) := da9_dX4_readPlain_29.1
theorem dX4_readPlain_30 : decode cX4_readPlain 30 = .ok (.istore_n 1, 1) := da9_dX4_readPlain_29.2.1
theorem dX4_readPlain_31 : decode cX4_readPlain 31 = .ok (.aload_n 0, 1) := da9_dX4_readPlain_29.2.2.1
theorem dX4_readPlain_32 : decode cX4_readPlain 32 = .ok (.invokevirtual 59, 3) := da9_dX4_readPlain_29.2.2.2.1
theorem dX4_readPlain_35 : decode cX4_readPlain 35 = .ok (.iinc 2 1, 3) := da9_dX4_readPlain_29.2.2.2.2.1
theorem dX4_readPlain_38 : decode cX4_readPlain 38 = .ok (.goto (-34), 3) := da9_dX4_readPlain_29.2.2.2.2.2.1
theorem dX4_readPlain_41 : decode cX4_readPlain 41 = .ok (.aload_n 0, 1) := da9_dX4_readPlain_29.2.2.2.2.2.2.1
theorem dX4_readPlain_42 : decode cX4_readPlain 42 = .ok (.bipush 40, 2) := da9_dX4_readPlain_29.2.2.2.2.2.2.2.1
theorem dX4_readPlain_44 : decode cX4_readPlain 44 = .ok (.invokevirtual 130, 3) := da9_dX4_readPlain_29.2.2.2.2.2.2.2.2.1
theorem dX4_readPlain_47 : decode cX4_readPlain 47 = .ok (.ifCond .eq 33, 3) := da9_dX4_readPlain_29.2.2.2.2.2.2.2.2.2.1
theorem dX4_readPlain_50 : decode cX4_readPlain 50 = .ok (.aload_n 0, 1) := da9_dX4_readPlain_29.2.2.2.2.2.2.2.2.2.2.1
theorem dX4_readPlain_51 : decode cX4_readPlain 51 = .ok (.invokevirtual 134, 3) := da9_dX4_readPlain_29.2.2.2.2.2.2.2.2.2.2.2.1
theorem dX4_readPlain_54 : decode cX4_readPlain 54 = .ok (.ifCond .eq 74, 3) := da9_dX4_readPlain_29.2.2.2.2.2.2.2.2.2.2.2.2.1
theorem dX4_readPlain_57 : decode cX4_readPlain 57 = .ok (.aload_n 0, 1) := da9_dX4_readPlain_29.2.2.2.2.2.2.2.2.2.2.2.2.2.1
theorem dX4_readPlain_58 : decode cX4_readPlain 58 = .ok (.invokevirtual 101, 3) := da9_dX4_readPlain_29.2.2.2.2.2.2.2.2.2.2.2.2.2.2.1
theorem dX4_readPlain_61 : decode cX4_readPlain 61 = .ok (.aload_n 0, 1) := da9_dX4_readPlain_29.2.2.2.2.2.2.2.2.2.2.2.2.2.2.2
theorem da9_dX4_readPlain_62 : (decode cX4_readPlain 62 = .ok (.dup, 1)) ∧ (decode cX4_readPlain 63 = .ok (.getfield 42, 3)) ∧ (decode cX4_readPlain 66 = .ok (.iconst 1, 1)) ∧ (decode cX4_readPlain 67 = .ok (.isub, 1)) ∧ (decode cX4_readPlain 68 = .ok (.putfield 42, 3)) ∧ (decode cX4_readPlain 71 = .ok (.aload_n 0, 1)) ∧ (decode cX4_readPlain 72 = .ok (.bipush 41, 2)) ∧ (decode cX4_readPlain 74 = .ok (.invokevirtual 68, 3)) ∧ (decode cX4_readPlain 77 = .ok (.goto 51, 3)) ∧ (decode cX4_readPlain 80 = .ok (.aload_n 0, 1)) ∧ (decode cX4_readPlain 81 = .ok (.invokevirtual 84, 3)) ∧ (decode cX4_readPlain 84 = .ok (.aload_n 0, 1)) ∧ (decode cX4_readPlain 85 = .ok (.ldc 138, 2)) ∧ (decode cX4_readPlain 87 = .ok (.bipush 7, 2)) ∧ (decode cX4_readPlain 89 = .ok (.invokevirtual 140, 3)) ∧ (decode cX4_readPlain 92 = .ok (.istore_n 2, 1)) := by decide +kernel
theorem dX4_readPlain_62 : decode cX4_readPlain 62 = .ok (.dup, 1) := da9_dX4_readPlain_62.1
theorem dX4_readPlain_63 : decode cX4_readPlain 63 = .ok (.getfield 42, 3) := da9_dX4_readPlain_62.2.1
theorem dX4_readPlain_66 : decode cX4_readPlain 66 = .ok (.iconst 1, 1) := da9_dX4_readPlain_62.2.2.1
theorem dX4_readPlain_67 : decode cX4_readPlain 67 = .ok (.isub, 1) := da9_dX4_readPlain_62.2.2.2.1
theorem dX4_readPlain_68 : decode cX4_readPlain 68 = .ok (.putfield 42, 3) := da9_dX4_readPlain_62.2.2.2.2.1
theorem dX4_readPlain_71 : decode cX4_readPlain 71 = .ok (.aload_n 0, 1) := da9_dX4_readPlain_62.2.2.2.2.2.1
theorem dX4_readPlain_72 : decode cX4_readPlain 72 = .ok (.bipush 41, 2) := da9_dX4_readPlain_62.2.2.2.2.2.2.1
theorem dX4_readPlain_74 : decode cX4_readPlain 74 = .ok (.invokevirtual 68, 3) := da9_dX4_readPlain_62.2.2.2.2.2.2.2.1
theorem dX4_readPlain_77 : decode cX4_readPlain 77 = .ok (.goto 51, 3) := da9_dX4_readPlain_62.2.2.2.2.2.2.2.2.1
theorem dX4_readPlain_80 : decode cX4_readPlain 80 = .ok (.aload_n 0, 1) := da9_dX4_readPlain_62.2.2.2.2.2.2.2.2.2.1
theorem dX4_readPlain_81 : decode cX4_readPlain 81 = .ok (.invokevirtual 84, 3) := da9_dX4_readPlain_62.2.2.2.2.2.2.2.2.2.2.1
theorem dX4_readPlain_84 : decode cX4_readPlain 84 = .ok (.aload_n 0, 1) := da9_dX4_readPlain_62.2.2.2.2.2.2.2.2.2.2.2.1
theorem dX4_readPlain_85 : decode cX4_readPlain 85 = .ok (.ldc 138, 2) := da9_dX4_readPlain_62.2.2.2.2.2.2.2.2.2.2.2.2.1
theorem dX4_readPlain_87 : decode cX4_readPlain 87 = .ok (.bipush 7, 2) := da9_dX4_readPlain_62.2.2.2.2.2.2.2.2.2.2.2.2.2.1
theorem dX4_readPlain_89 : decode cX4_readPlain 89 = .ok (.invokevirtual 140, 3) := da9_dX4_readPlain_62.2.2.2.2.2.2.2.2.2.2.2.2.2.2.1
theorem dX4_readPlain_92 : decode cX4_readPlain 92 = .ok (.istore_n 2, 1) := da9_dX4_readPlain_62.2.2.2.2.2.2.2.2.2.2.2.2.2.2.2
theorem da9_dX4_readPlain_93 : (decode cX4_readPlain 93 = .ok (.aload_n 0, 1)) ∧ (decode cX4_readPlain 94 = .ok (.getfield 45, 3)) ∧ (decode cX4_readPlain 97 = .ok (.iconst (-1), 1)) ∧ (decode cX4_readPlain 98 = .ok (.if_icmp .ne 8, 3)) ∧ (decode cX4_readPlain 101 = .ok (.iload_n 2, 1)) ∧ (decode cX4_readPlain 102 = .ok (.iconst (-1), 1)) ∧ (decode cX4_readPlain 103 = .ok (.if_icmp .ne 8, 3)) ∧ (decode cX4_readPlain 106 = .ok (.aload_n 0, 1)) ∧ (decode cX4_readPlain 107 = .ok (.invokevirtual 62, 3)) ∧ (decode cX4_readPlain 110 = .ok (.return_, 1)) ∧ (decode cX4_readPlain 111 = .ok (.aload_n 0, 1)) ∧ (decode cX4_readPlain 112 = .ok (.invokevirtual 59, 3)) ∧ (decode cX4_readPlain 115 = .ok (.aload_n 0, 1)) ∧ (decode cX4_readPlain 116 = .ok (.invokevirtual 84, 3)) ∧ (decode cX4_readPlain 119 = .ok (.aload_n 0, 1)) ∧ (decode cX4_readPlain 120 = .ok (.getfield 23, 3)) := by decide +kernel
theorem dX4_readPlain_93 : decode cX4_readPlain 93 = .ok (.aload_n 0, 1) := da9_dX4_readPlain_93.1
theorem dX4_readPlain_94 : decode cX4_readPlain 94 = .ok (.getfield 45, 3) := da9_dX4_readPlain_93.2.1
theorem dX4_readPlain_97 : decode cX4_readPlain 97 = .ok (.iconst (-1), 1) := da9_dX4_readPlain_93.2.2.1
theorem dX4_readPlain_98 : decode cX4_readPlain 98 = .ok (.if_icmp .ne 8, 3) := da9_dX4_readPlain_93.2.2.2.1
theorem dX4_readPlain_101 : decode cX4_readPlain 101 = .ok (.iload_n 2, 1) := da9_dX4_readPlain_93.2.2.2.2.1
theorem dX4_readPlain_102 : decode cX4_readPlain 102 = .ok (.iconst (-1), 1) := da9_dX4_readPlain_93.2.2.2.2.2.1
theorem dX4_readPlain_103 : decode cX4_readPlain 103 = .ok (.if_icmp .ne 8, 3) := da9_dX4_readPlain_93.2.2.2.2.2.2.1
theorem dX4_readPlain_106 : decode cX4_readPlain 106 = .ok (.aload_n 0, 1) := da9_dX4_readPlain_93.2.2.2.2.2.2.2.1
theorem dX4_readPlain_107 : decode cX4_readPlain 107 = .ok (.invokevirtual 62, 3) := da9_dX4_readPlain_93.2.2.2.2.2.2.2.2.1
theorem dX4_readPlain_110 : decode cX4_readPlain 110 = .ok (.return_, 1) := da9_dX4_readPlain_93.2.2.2.2.2.2.2.2.2.1
theorem dX4_readPlain_111 : decode cX4_readPlain 111 = .ok (.aload_n 0, 1) := da9_dX4_readPlain_93.2.2.2.2.2.2.2.2.2.2.1
theorem dX4_readPlain_112 : decode cX4_readPlain 112 = .ok (.invokevirtual 59, 3) := da9_dX4_readPlain_93.2.2.2.2.2.2.2.2.2.2.2.1
theorem dX4_readPlain_115 : decode cX4_readPlain 115 = .ok (.aload_n 0, 1) := da9_dX4_readPlain_93.2.2.2.2.2.2.2.2.2.2.2.2.1
theorem dX4_readPlain_116 : decode cX4_readPlain 116 = .ok (.invokevirtual 84, 3) := da9_dX4_readPlain_93.2.2.2.2.2.2.2.2.2.2.2.2.2.1
theorem dX4_readPlain_119 : decode cX4_readPlain 119 = .ok (.aload_n 0, 1) := da9_dX4_readPlain_93.2.2.2.2.2.2.2.2.2.2.2.2.2.2.1
theorem dX4_readPlain_120 : decode cX4_readPlain 120 = .ok (.getfield 23, 3) := da9_dX4_readPlain_93.2.2.2.2.2.2.2.2.2.2.2.2.2.2.2
theorem da9_dX4_readPlain_123 : (decode cX4_readPlain 123 = .ok (.iload_n 2, 1)) ∧ (decode cX4_readPlain 124 = .ok (.iconst 0, 1)) ∧ (decode cX4_readPlain 125 = .ok (.invokevirtual 116, 3)) ∧ (decode cX4_readPlain 128 = .ok (.iload_n 1, 1)) ∧ (decode cX4_readPlain 129 = .ok (.ifCond .eq 13, 3)) ∧ (decode cX4_readPlain 132 = .ok (.aload_n 0, 1)) ∧ (decode cX4_readPlain 133 = .ok (.getfield 23, 3)) ∧ (decode cX4_readPlain 136 = .ok (.bipush 10, 2)) ∧ (decode cX4_readPlain 138 = .ok (.iconst 0, 1)) ∧ (decode cX4_readPlain 139 = .ok (.invokevirtual 116, 3)) ∧ (decode cX4_readPlain 142 = .ok (.return_, 1)) := by decide +kernel
theorem dX4_readPlain_123 : decode cX4_readPlain 123 = .ok (.iload_n 2, 1) := da9_dX4_readPlain_123.1
theorem dX4_readPlain_124 : decode cX4_readPlain 124 = .ok (.iconst 0, 1) := da9_dX4_readPlain_123.2.1
theorem dX4_readPlain_125 : decode cX4_readPlain 125 = .ok (.invokevirtual 116, 3) := da9_dX4_readPlain_123.2.2.1
theorem dX4_readPlain_128 : decode cX4_readPlain 128 = .ok (.iload_n 1, 1) := da9_dX4_readPlain_123.2.2.2.1
theorem dX4_readPlain_129 : decode cX4_readPlain 129 = .ok (.ifCond .eq 13, 3) := da9_dX4_readPlain_123.2.2.2.2.1
theorem dX4_readPlain_132 : decode cX4_readPlain 132 = .ok (.aload_n 0, 1) := da9_dX4_readPlain_123.2.2.2.2.2.1
theorem dX4_readPlain_133 : decode cX4_readPlain 133 = .ok (.getfield 23, 3) := da9_dX4_readPlain_123.2.2.2.2.2.2.1
theorem dX4_readPlain_136 : decode cX4_readPlain 136 = .ok (.bipush 10, 2) := da9_dX4_readPlain_123.2.2.2.2.2.2.2.1
theorem dX4_readPlain_138 : decode cX4_readPlain 138 = .ok (.iconst 0, 1) := da9_dX4_readPlain_123.2.2.2.2.2.2.2.2.1
theorem dX4_readPlain_139 : decode cX4_readPlain 139 = .ok (.invokevirtual 116, 3) := da9_dX4_readPlain_123.2.2.2.2.2.2.2.2.2.1
theorem dX4_readPlain_142 : decode cX4_readPlain 142 = .ok (.return_, 1) := da9_dX4_readPlain_123.2.2.2.2.2.2.2.2.2.2
theorem da9_dX7_leapHere_0 : (decode cX7_leapHere 0 = .ok (.iload_n 2, 1)) ∧ (decode cX7_leapHere 1 = .ok (.ifCond .lt 25, 3)) ∧ (decode cX7_leapHere 4 = .ok (.iload_n 2, 1)) ∧ (decode cX7_leapHere 5 = .ok (.aload_n 0, 1)) ∧ (decode cX7_leapHere 6 = .ok (.getfield 13, 3)) ∧ (decode cX7_leapHere 9 = .ok (.if_icmp .ge 17, 3)) ∧ (decode cX7_leapHere 12 = .ok (.aload_n 0, 1)) ∧ (decode cX7_leapHere 13 = .ok (.getfield 32, 3)) ∧ (decode cX7_leapHere 16 = .ok (.iload_n 2, 1)) ∧ (decode cX7_leapHere 17 = .ok (.aload_n 0, 1)) ∧ (decode cX7_leapHere 18 = .ok (.getfield 13, 3)) ∧ (decode cX7_leapHere 21 = .ok (.iconst 4, 1)) ∧ (decode cX7_leapHere 22 = .ok (.ishl, 1)) ∧ (decode cX7_leapHere 23 = .ok (.iload_n 1, 1)) ∧ (decode cX7_leapHere 24 = .ok (.ior, 1)) ∧ (decode cX7_leapHere 25 = .ok (.iastore, 1)) := by decide +kernel
theorem dX7_leapHere_0 : decode cX7_leapHere 0 = .ok (.iload_n 2, 1) := da9_dX7_leapHere_0.1
theorem dX7_leapHere_1 : decode cX7_leapHere 1 = .ok (.ifCond .lt 25, 3) := da9_dX7_leapHere_0.2.1
theorem dX7_leapHere_4 : decode cX7_leapHere 4 = .ok (.iload_n 2, 1) := da9_dX7_leapHere_0.2.2.1
theorem dX7_leapHere_5 : decode cX7_leapHere 5 = .ok (.aload_n 0, 1) := da9_dX7_leapHere_0.2.2.2.1
theorem dX7_leapHere_6 : decode cX7_leapHere 6 = .ok (.getfield 13, 3) := da9_dX7_leapHere_0.2.2.2.2.1
theorem dX7_leapHere_9 : decode cX7_leapHere 9 = .ok (.if_icmp .ge 17, 3) := da9_dX7_leapHere_0.2.2.2.2.2.1
theorem dX7_leapHere_12 : decode cX7_leapHere 12 = .ok (.aload_n 0, 1) := da9_dX7_leapHere_0.2.2.2.2.2.2.1
theorem dX7_leapHere_13 : decode cX7_leapHere 13 = .ok (.getfield 32, 3) := da9_dX7_leapHere_0.2.2.2.2.2.2.2.1
theorem dX7_leapHere_16 : decode cX7_leapHere 16 = .ok (.iload_n 2, 1) := da9_dX7_leapHere_0.2.2.2.2.2.2.2.2.1
theorem dX7_leapHere_17 : decode cX7_leapHere 17 = .ok (.aload_n 0, 1) := da9_dX7_leapHere_0.2.2.2.2.2.2.2.2.2.1
theorem dX7_leapHere_18 : decode cX7_leapHere 18 = .ok (.getfield 13, 3) := da9_dX7_leapHere_0.2.2.2.2.2.2.2.2.2.2.1
theorem dX7_leapHere_21 : decode cX7_leapHere 21 = .ok (.iconst 4, 1) := da9_dX7_leapHere_0.2.2.2.2.2.2.2.2.2.2.2.1
theorem dX7_leapHere_22 : decode cX7_leapHere 22 = .ok (.ishl, 1) := da9_dX7_leapHere_0.2.2.2.2.2.2.2.2.2.2.2.2.1
theorem dX7_leapHere_23 : decode cX7_leapHere 23 = .ok (.iload_n 1, 1) := da9_dX7_leapHere_0.2.2.2.2.2.2.2.2.2.2.2.2.2.1
theorem dX7_leapHere_24 : decode cX7_leapHere 24 = .ok (.ior, 1) := da9_dX7_leapHere_0.2.2.2.2.2.2.2.2.2.2.2.2.2.2.1
theorem dX7_leapHere_25 : decode cX7_leapHere 25 = .ok (.iastore, 1) := da9_dX7_leapHere_0.2.2.2.2.2.2.2.2.2.2.2.2.2.2.2
theorem dX7_leapHere_26 : decode cX7_leapHere 26 = .ok (.return_, 1) := by decide +kernel
