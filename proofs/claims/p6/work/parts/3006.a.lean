set_option maxRecDepth 20000 in
theorem ggX10_readClause_X10_takes0 : GoodIn wsX10_readClause wsX10_takes0 := goodIn_r _ [5, 6, 7, 8, 9, 10, 4, 11, 12, 65, 66, 67, 68, 69, 70, 71, 72, 73, 74, 75, 76, 77, 78, 79, 80, 81, 82, 83, 84, 85, 86, 87, 88, 89, 90, 91, 92, 93, 94, 95, 96, 97, 98, 99, 100, 101, 102, 103, 104, 105, 106, 107, 108, 109, 110, 111, 112, 113, 114, 115, 116, 117, 118, 119, 120] rfl (by decide +kernel)
set_option maxRecDepth 20000 in
theorem gX10_readClause_X10_takes0 : GoodIn wsX10_readClause (wsV RX10 199 RX10 yX10_takes0 wsX10_takes0) := goodIn_app (goodIn_of _ (by decide +kernel)) ggX10_readClause_X10_takes0
set_option maxRecDepth 20000 in
theorem ggX10_readClause_X10_readSum : GoodIn wsX10_readClause wsX10_readSum := goodIn_r _ [16, 17, 18, 19, 4, 20, 21, 22, 1, 2, 3, 5, 6, 7, 8, 9, 10, 11, 12, 23, 24, 25, 26, 27, 28, 29, 30, 31, 32, 13, 14, 15, 33, 34, 35, 36, 37, 38, 39, 40, 41, 42, 43, 44, 45, 46, 47, 48, 49, 50, 51, 52, 65, 66, 67, 68, 69, 70, 71, 72, 73, 74, 75, 76, 77, 78, 79, 80, 81, 82, 83, 84, 85, 86, 87, 88, 89, 90, 91, 92, 93, 94, 95, 96, 97, 98, 99, 100, 101, 102, 103, 104, 105, 106, 107, 108, 109, 110, 111, 112, 113, 114, 115, 116, 117, 118, 119, 120] rfl (by decide +kernel)
set_option maxRecDepth 20000 in
theorem gX10_readClause_X10_readSum : GoodIn wsX10_readClause (wsV RX10 208 RX10 yX10_readSum wsX10_readSum) := goodIn_app (goodIn_of _ (by decide +kernel)) ggX10_readClause_X10_readSum
set_option maxRecDepth 20000 in
theorem ggX10_readClause_X10_must : GoodIn wsX10_readClause wsX10_must := goodIn_r _ [36, 1, 2, 3, 4, 5, 6, 7, 8, 9, 10, 11, 12, 28, 29, 30, 31, 32, 65, 66, 67, 68, 69, 70, 71, 72, 73, 74, 75, 76, 77, 78, 79, 80, 81, 82, 83, 84, 85, 86, 87, 88, 89, 90, 91, 92, 93, 94, 95, 96, 97, 98, 99, 100, 101, 102, 103, 104, 105, 106, 107, 108, 109, 110, 111, 112, 113, 114, 115, 116, 117, 118, 119, 120] rfl (by decide +kernel)
set_option maxRecDepth 20000 in
theorem gX10_readClause_X10_must : GoodIn wsX10_readClause (wsV RX10 212 RX10 yX10_must wsX10_must) := goodIn_app (goodIn_of _ (by decide +kernel)) ggX10_readClause_X10_must
set_option maxRecDepth 20000 in
theorem ggX10_readClause_X10_readTest : GoodIn wsX10_readClause wsX10_readTest := goodIn_r _ [56, 57, 58, 59, 4, 1, 2, 3, 5, 6, 7, 8, 9, 10, 11, 12, 60, 61, 62, 63, 64, 20, 21, 22, 28, 29, 30, 31, 32, 53, 54, 55, 33, 34, 35, 36, 13, 14, 15, 16, 17, 18, 19, 23, 24, 25, 26, 27, 37, 38, 39, 40, 41, 42, 43, 44, 45, 46, 47, 48, 49, 50, 51, 52, 65, 66, 67, 68, 69, 70, 71, 72, 73, 74, 75, 76, 77, 78, 79, 80, 81, 82, 83, 84, 85, 86, 87, 88, 89, 90, 91, 92, 93, 94, 95, 96, 97, 98, 99, 100, 101, 102, 103, 104, 105, 106, 107, 108, 109, 110, 111, 112, 113, 114, 115, 116, 117, 118, 119, 120] rfl (by decide +kernel)
set_option maxRecDepth 20000 in
theorem gX10_readClause_X10_readTest : GoodIn wsX10_readClause (wsV RX10 215 RX10 yX10_readTest wsX10_readTest) := goodIn_app (goodIn_of _ (by decide +kernel)) ggX10_readClause_X10_readTest
theorem da9_dX10_readClause_0 : (decode cX10_readClause 0 = .ok (.aload_n 0, 1)) ∧ (decode cX10_readClause 1 = .ok (.iconst 1, 1)) ∧ (decode cX10_readClause 2 = .ok (.invokevirtual 199, 3)) ∧ (decode cX10_readClause 5 = .ok (.ifCond .eq 11, 3)) ∧ (decode cX10_readClause 8 = .ok (.aload_n 0, 1)) ∧ (decode cX10_readClause 9 = .ok (.iconst 0, 1)) ∧ (decode cX10_readClause 10 = .ok (.invokevirtual 208, 3)) ∧ (decode cX10_readClause 13 = .ok (.goto 16, 3)) ∧ (decode cX10_readClause 16 = .ok (.aload_n 0, 1)) ∧ (decode cX10_readClause 17 = .ok (.iconst 2, 1)) ∧ (decode cX10_readClause 18 = .ok (.invokevirtual 199, 3)) ∧ (decode cX10_readClause 21 = .ok (.ifCond .ne 8, 3)) ∧ (decode cX10_readClause 24 = .ok (.aload_n 0, 1)) ∧ (decode cX10_readClause 25 = .ok (.iconst 3, 1)) ∧ (decode cX10_readClause 26 = .ok (.invokevirtual 212, 3)) ∧ (decode cX10_readClause 29 = .ok (.aload_n 0, 1)) := by decide +kernel
theorem dX10_readClause_0 : decode cX10_readClause 0 = .ok (.aload_n 0, 1) := da9_dX10_readClause_0.1
theorem dX10_readClause_1 : decode cX10_readClause 1 = .ok (.iconst 1, 1) := da9_dX10_readClause_0.2.1
theorem dX10_readClause_2 : decode cX10_readClause 2 = .ok (.invokevirtual 199, 3) := da9_dX10_readClause_0.2.2.1
theorem dX10_readClause_5 : decode cX10_readClause 5 = .ok (.ifCond .eq 11, 3) := da9_dX10_readClause_0.2.2.2.1
theorem dX10_readClause_8 : decode cX10_readClause 8 = .ok (.aload_n 0, 1) := da9_dX10_readClause_0.2.2.2.2.1
theorem dX10_readClause_9 : decode cX10_readClause 9 = .ok (.iconst 0, 1) := da9_dX10_readClause_0.2.2.2.2.2.1
theorem dX10_readClause_10 : decode cX10_readClause 10 = .ok (.invokevirtual 208, 3) := da9_dX10_readClause_0.2.2.2.2.2.2.1
theorem dX10_readClause_13 : decode cX10_readClause 13 = .ok (.goto 16, 3) := da9_dX10_readClause_0.2.2.2.2.2.2.2.1
theorem dX10_readClause_16 : decode cX10_readClause 16 = .ok (.aload_n 0, 1) := da9_dX10_readClause_0.2.2.2.2.2.2.2.2.1
theorem dX10_readClause_17 : decode cX10_readClause 17 = .ok (.iconst 2, 1) := da9_dX10_readClause_0.2.2.2.2.2.2.2.2.2.1
theorem dX10_readClause_18 : decode cX10_readClause 18 = .ok (.invokevirtual 199, 3) := da9_dX10_readClause_0.2.2.2.2.2.2.2.2.2.2.1
theorem dX10_readClause_21 : decode cX10_readClause 21 = .ok (.ifCond .ne 8, 3) := da9_dX10_readClause_0.2.2.2.2.2.2.2.2.2.2.2.1
theorem dX10_readClause_24 : decode cX10_readClause 24 = .ok (.aload_n 0, 1) := da9_dX10_readClause_0.2.2.2.2.2.2.2.2.2.2.2.2.1
theorem dX10_readClause_25 : decode cX10_readClause 25 = .ok (.iconst 3, 1) := da9_dX10_readClause_0.2.2.2.2.2.2.2.2.2.2.2.2.2.1
theorem dX10_readClause_26 : decode cX10_readClause 26 = .ok (.invokevirtual 212, 3) := da9_dX10_readClause_0.2.2.2.2.2.2.2.2.2.2.2.2.2.2.1
theorem dX10_readClause_29 : decode cX10_readClause 29 = .ok (.aload_n 0, 1) := da9_dX10_readClause_0.2.2.2.2.2.2.2.2.2.2.2.2.2.2.2
theorem da9_dX10_readClause_30 : (decode cX10_readClause 30 = .ok (.iconst 4, 1)) ∧ (decode cX10_readClause 31 = .ok (.invokevirtual 199, 3)) ∧ (decode cX10_readClause 34 = .ok (.ifCond .eq 8, 3)) ∧ (decode cX10_readClause 37 = .ok (.aload_n 0, 1)) ∧ (decode cX10_readClause 38 = .ok (.iconst 0, 1)) ∧ (decode cX10_readClause 39 = .ok (.invokevirtual 215, 3)) ∧ (decode cX10_readClause 42 = .ok (.return_, 1)) := by decide +kernel
theorem dX10_readClause_30 : decode cX10_readClause 30 = .ok (.iconst 4, 1) := da9_dX10_readClause_30.1
theorem dX10_readClause_31 : decode cX10_readClause 31 = .ok (.invokevirtual 199, 3) := da9_dX10_readClause_30.2.1
theorem dX10_readClause_34 : decode cX10_readClause 34 = .ok (.ifCond .eq 8, 3) := da9_dX10_readClause_30.2.2.1
theorem dX10_readClause_37 : decode cX10_readClause 37 = .ok (.aload_n 0, 1) := da9_dX10_readClause_30.2.2.2.1
theorem dX10_readClause_38 : decode cX10_readClause 38 = .ok (.iconst 0, 1) := da9_dX10_readClause_30.2.2.2.2.1
theorem dX10_readClause_39 : decode cX10_readClause 39 = .ok (.invokevirtual 215, 3) := da9_dX10_readClause_30.2.2.2.2.2.1
theorem dX10_readClause_42 : decode cX10_readClause 42 = .ok (.return_, 1) := da9_dX10_readClause_30.2.2.2.2.2.2
set_option maxRecDepth 20000 in
theorem ggX10_readTest_X10_readBoth : GoodIn wsX10_readTest wsX10_readBoth := goodIn_r _ [16, 17, 18, 19, 4, 5, 6, 7, 8, 9, 10, 11, 12, 13, 14, 15, 20, 21, 22, 23, 24, 25, 26, 27, 28, 29, 30, 31, 32, 33, 34, 35, 36, 37, 38, 39, 40, 41, 42, 43, 44, 45, 46, 47, 48, 49, 50, 51, 52, 53, 54, 55, 56, 57, 58, 59, 60, 61, 62, 63, 0, 1, 2, 3, 64, 65, 66, 67, 68, 69, 70, 71, 72, 73, 74, 75, 76, 77, 78, 79, 80, 81, 82, 83, 84, 85, 86, 87, 88, 89, 90, 91, 92, 93, 94, 95, 96, 97, 98, 99, 100, 101, 102, 103, 104, 105, 106, 107, 108, 109, 110, 111, 112, 113, 114, 115, 116, 117, 118, 119] rfl (by decide +kernel)
set_option maxRecDepth 20000 in
theorem gX10_readTest_X10_readBoth : GoodIn wsX10_readTest (wsV RX10 231 RX10 yX10_readBoth wsX10_readBoth) := goodIn_app (goodIn_of _ (by decide +kernel)) ggX10_readTest_X10_readBoth
set_option maxRecDepth 20000 in
theorem ggX10_readTest_X10_takes0 : GoodIn wsX10_readTest wsX10_takes0 := goodIn_r _ [8, 9, 10, 11, 12, 13, 4, 14, 15, 64, 65, 66, 67, 68, 69, 70, 71, 72, 73, 74, 75, 76, 77, 78, 79, 80, 81, 82, 83, 84, 85, 86, 87, 88, 89, 90, 91, 92, 93, 94, 95, 96, 97, 98, 99, 100, 101, 102, 103, 104, 105, 106, 107, 108, 109, 110, 111, 112, 113, 114, 115, 116, 117, 118, 119] rfl (by decide +kernel)
set_option maxRecDepth 20000 in
theorem gX10_readTest_X10_takes0 : GoodIn wsX10_readTest (wsV RX10 199 RX10 yX10_takes0 wsX10_takes0) := goodIn_app (goodIn_of _ (by decide +kernel)) ggX10_readTest_X10_takes0
theorem da9_dX10_readTest_0 : (decode cX10_readTest 0 = .ok (.aload_n 0, 1)) ∧ (decode cX10_readTest 1 = .ok (.iload_n 1, 1)) ∧ (decode cX10_readTest 2 = .ok (.invokevirtual 231, 3)) ∧ (decode cX10_readTest 5 = .ok (.aload_n 0, 1)) ∧ (decode cX10_readTest 6 = .ok (.iconst 5, 1)) ∧ (decode cX10_readTest 7 = .ok (.invokevirtual 199, 3)) ∧ (decode cX10_readTest 10 = .ok (.ifCond .eq 11, 3)) ∧ (decode cX10_readTest 13 = .ok (.aload_n 0, 1)) ∧ (decode cX10_readTest 14 = .ok (.iload_n 1, 1)) ∧ (decode cX10_readTest 15 = .ok (.invokevirtual 231, 3)) ∧ (decode cX10_readTest 18 = .ok (.goto (-13), 3)) ∧ (decode cX10_readTest 21 = .ok (.return_, 1)) := by decide +kernel
theorem dX10_readTest_0 : decode cX10_readTest 0 = .ok (.aload_n 0, 1) := da9_dX10_readTest_0.1
theorem dX10_readTest_1 : decode cX10_readTest 1 = .ok (.iload_n 1, 1) := da9_dX10_readTest_0.2.1
theorem dX10_readTest_2 : decode cX10_readTest 2 = .ok (.invokevirtual 231, 3) := da9_dX10_readTest_0.2.2.1
theorem dX10_readTest_5 : decode cX10_readTest 5 = .ok (.aload_n 0, 1) := da9_dX10_readTest_0.2.2.2.1
theorem dX10_readTest_6 : decode cX10_readTest 6 = .ok (.iconst 5, 1) := da9_dX10_readTest_0.2.2.2.2.1
theorem dX10_readTest_7 : decode cX10_readTest 7 = .ok (.invokevirtual 199, 3) := da9_dX10_readTest_0.2.2.2.2.2.1
theorem dX10_readTest_10 : decode cX10_readTest 10 = .ok (.ifCond .eq 11, 3) := da9_dX10_readTest_0.2.2.2.2.2.2.1
theorem dX10_readTest_13 : decode cX10_readTest 13 = .ok (.aload_n 0, 1) := da9_dX10_readTest_0.2.2.2.2.2.2.2.1
theorem dX10_readTest_14 : decode cX10_readTest 14 = .ok (.iload_n 1, 1) := da9_dX10_readTest_0.2.2.2.2.2.2.2.2.1
theorem dX10_readTest_15 : decode cX10_readTest 15 = .ok (.invokevirtual 231, 3) := da9_dX10_readTest_0.2.2.2.2.2.2.2.2.2.1
theorem dX10_readTest_18 : decode cX10_readTest 18 = .ok (.goto (-13), 3) := da9_dX10_readTest_0.2.2.2.2.2.2.2.2.2.2.1
theorem dX10_readTest_21 : decode cX10_readTest 21 = .ok (.return_, 1) := da9_dX10_readTest_0.2.2.2.2.2.2.2.2.2.2.2
set_option maxRecDepth 20000 in
theorem ggX10_readBoth_X10_readPlain : GoodIn wsX10_readBoth wsX10_readPlain := goodIn_r _ [16, 9, 10, 5, 6, 7, 4, 8, 11, 12, 13, 14, 15, 17, 18, 19, 20, 21, 22, 23, 24, 25, 26, 27, 28, 29, 30, 31, 32, 33, 34, 35, 36, 37, 38, 39, 40, 41, 42, 43, 44, 45, 46, 47, 48, 49, 50, 51, 52, 53, 54, 55, 56, 57, 58, 59, 0, 1, 2, 3, 60, 61, 62, 63, 64, 65, 66, 67, 68, 69, 70, 71, 72, 73, 74, 75, 76, 77, 78, 79, 80, 81, 82, 83, 84, 85, 86, 87, 88, 89, 90, 91, 92, 93, 94, 95, 96, 97, 98, 99, 100, 101, 102, 103, 104, 105, 106, 107, 108, 109, 110, 111, 112, 113, 114, 115, 116, 117, 118, 119] rfl (by decide +kernel)
set_option maxRecDepth 20000 in
theorem gX10_readBoth_X10_readPlain : GoodIn wsX10_readBoth (wsV RX10 234 RX10 yX10_readPlain wsX10_readPlain) := goodIn_app (goodIn_of _ (by decide +kernel)) ggX10_readBoth_X10_readPlain
set_option maxRecDepth 20000 in
theorem ggX10_readBoth_X10_takes0 : GoodIn wsX10_readBoth wsX10_takes0 := goodIn_r _ [8, 9, 10, 11, 12, 13, 4, 14, 15, 64, 65, 66, 67, 68, 69, 70, 71, 72, 73, 74, 75, 76, 77, 78, 79, 80, 81, 82, 83, 84, 85, 86, 87, 88, 89, 90, 91, 92, 93, 94, 95, 96, 97, 98, 99, 100, 101, 102, 103, 104, 105, 106, 107, 108, 109, 110, 111, 112, 113, 114, 115, 116, 117, 118, 119] rfl (by decide +kernel)
set_option maxRecDepth 20000 in
theorem gX10_readBoth_X10_takes0 : GoodIn wsX10_readBoth (wsV RX10 199 RX10 yX10_takes0 wsX10_takes0) := goodIn_app (goodIn_of _ (by decide +kernel)) ggX10_readBoth_X10_takes0
theorem da9_dX10_readBoth_0 : (decode cX10_readBoth 0 = .ok (.aload_n 0, 1)) ∧ (decode cX10_readBoth 1 = .ok (.iload_n 1, 1)) ∧ (decode cX10_readBoth 2 = .ok (.invokevirtual 234, 3)) ∧ (decode cX10_readBoth 5 = .ok (.aload_n 0, 1)) ∧ (decode cX10_readBoth 6 = .ok (.bipush 6, 2)) ∧ (decode cX10_readBoth 8 = .ok (.invokevirtual 199, 3)) ∧ (decode cX10_readBoth 11 = .ok (.ifCond .eq 11, 3)) ∧ (decode cX10_readBoth 14 = .ok (.aload_n 0, 1)) ∧ (decode cX10_readBoth 15 = .ok (.iload_n 1, 1)) ∧ (decode cX10_readBoth 16 = .ok (.invokevirtual 234, 3)) ∧ (decode cX10_readBoth 19 = .ok (.goto (-14), 3)) ∧ (decode cX10_readBoth 22 = .ok (.return_, 1)) := by decide +kernel
theorem dX10_readBoth_0 : decode cX10_readBoth 0 = .ok (.aload_n 0, 1) := da9_dX10_readBoth_0.1
theorem dX10_readBoth_1 : decode cX10_readBoth 1 = .ok (.iload_n 1, 1) := da9_dX10_readBoth_0.2.1
theorem dX10_readBoth_2 : decode cX10_readBoth 2 = .ok (.invokevirtual 234, 3) := da9_dX10_readBoth_0.2.2.1
theorem dX10_readBoth_5 : decode cX10_readBoth 5 = .ok (.aload_n 0, 1) := da9_dX10_readBoth_0.2.2.2.1
theorem dX10_readBoth_6 : decode cX10_readBoth 6 = .ok (.bipush 6, 2) := da9_dX10_readBoth_0.2.2.2.2.1
theorem dX10_readBoth_8 : decode cX10_readBoth 8 = .ok (.invokevirtual 199, 3) := da9_dX10_readBoth_0.2.2.2.2.2.1
theorem dX10_readBoth_11 : decode cX10_readBoth 11 = .ok (.ifCond .eq 11, 3) := da9_dX10_readBoth_0.2.2.2.2.2.2.1
theorem dX10_readBoth_14 : decode cX10_readBoth 14 = .ok (.aload_n 0, 1) := da9_dX10_readBoth_0.2.2.2.2.2.2.2.1
theorem dX10_readBoth_15 : decode cX10_readBoth 15 = .ok (.iload_n 1, 1) := da9_dX10_readBoth_0.2.2.2.2.2.2.2.2.1
theorem dX10_readBoth_16 : decode cX10_readBoth 16 = .ok (.invokevirtual 234, 3) := da9_dX10_readBoth_0.2.2.2.2.2.2.2.2.2.1
theorem dX10_readBoth_19 : decode cX10_readBoth 19 = .ok (.goto (-14), 3) := da9_dX10_readBoth_0.2.2.2.2.2.2.2.2.2.2.1
theorem dX10_readBoth_22 : decode cX10_readBoth 22 = .ok (.return_, 1) := da9_dX10_readBoth_0.2.2.2.2.2.2.2.2.2.2.2
set_option maxRecDepth 20000 in
theorem ggX10_readPlain_X10_takes0 : GoodIn wsX10_readPlain wsX10_takes0 := goodIn_r _ [7, 1, 2, 8, 9, 10, 6, 11, 12, 64, 65, 66, 67, 68, 69, 70, 71, 72, 73, 74, 75, 76, 77, 78, 79, 80, 81, 82, 83, 84, 85, 86, 87, 88, 89, 90, 91, 92, 93, 94, 95, 96, 97, 98, 99, 100, 101, 102, 103, 104, 105, 106, 107, 108, 109, 110, 111, 112, 113, 114, 115, 116, 117, 118, 119] rfl (by decide +kernel)
set_option maxRecDepth 20000 in
theorem gX10_readPlain_X10_takes0 : GoodIn wsX10_readPlain (wsV RX10 199 RX10 yX10_takes0 wsX10_takes0) := goodIn_app (goodIn_of _ (by decide +kernel)) ggX10_readPlain_X10_takes0
set_option maxRecDepth 20000 in
theorem ggX10_readPlain_X10_fine : GoodIn wsX10_readPlain wsX10_fine := goodIn_r _ [11, 12, 64, 65, 66, 67, 68, 69, 70, 71, 72, 73, 74, 75, 76, 77, 78, 79, 80, 81, 82, 83, 84, 85, 86, 87, 88, 89, 90, 91, 92, 93, 94, 95, 96, 97, 98, 99, 100, 101, 102, 103, 104, 105, 106, 107, 108, 109, 110, 111, 112, 113, 114, 115, 116, 117, 118, 119] rfl (by decide +kernel)
set_option maxRecDepth 20000 in
theorem gX10_readPlain_X10_fine : GoodIn wsX10_readPlain (wsV RX10 192 RX10 yX10_fine wsX10_fine) := goodIn_app (goodIn_of _ (by decide +kernel)) ggX10_readPlain_X10_fine
set_option maxRecDepth 20000 in
theorem ggX10_readPlain_X10_sign : GoodIn wsX10_readPlain wsX10_sign := goodIn_r _ [15] rfl (by decide +kernel)
set_option maxRecDepth 20000 in
theorem gX10_readPlain_X10_sign : GoodIn wsX10_readPlain (va_wsS RX10 237 yX10_sign wsX10_sign) := goodIn_app (goodIn_of _ (by decide +kernel)) ggX10_readPlain_X10_sign
set_option maxRecDepth 20000 in
theorem ggX10_readPlain_X10_faults : GoodIn wsX10_readPlain wsX10_faults := goodIn_r _ [19, 20, 2, 12, 8, 9, 10, 6, 11, 64, 65, 66, 67, 68, 69, 70, 71, 72, 73, 74, 75, 76, 77, 78, 79, 80, 81, 82, 83, 84, 85, 86, 87, 88, 89, 90, 91, 92, 93, 94, 95, 96, 97, 98, 99, 100, 101, 102, 103, 104, 105, 106, 107, 108, 109, 110, 111, 112, 113, 114, 115, 116, 117, 118, 119] rfl (by decide +kernel)
set_option maxRecDepth 20000 in
theorem gX10_readPlain_X10_faults : GoodIn wsX10_readPlain (wsV RX10 202 RX10 yX10_faults wsX10_faults) := goodIn_app (goodIn_of _ (by decide +kernel)) ggX10_readPlain_X10_faults
set_option maxRecDepth 20000 in
theorem ggX10_readPlain_X10_readTest : GoodIn wsX10_readPlain wsX10_readTest := goodIn_r _ [60, 61, 62, 63, 6, 3, 4, 5, 7, 1, 2, 8, 9, 10, 11, 12, 56, 57, 58, 59, 0, 13, 14, 15, 16, 17, 18, 19, 20, 21, 22, 23, 24, 25, 26, 27, 28, 29, 30, 31, 32, 33, 34, 35, 36, 37, 38, 39, 40, 41, 42, 43, 44, 45, 46, 47, 48, 49, 50, 51, 52, 53, 54, 55, 64, 65, 66, 67, 68, 69, 70, 71, 72, 73, 74, 75, 76, 77, 78, 79, 80, 81, 82, 83, 84, 85, 86, 87, 88, 89, 90, 91, 92, 93, 94, 95, 96, 97, 98, 99, 100, 101, 102, 103, 104, 105, 106, 107, 108, 109, 110, 111, 112, 113, 114, 115, 116, 117, 118, 119] rfl (by decide +kernel)
set_option maxRecDepth 20000 in
theorem gX10_readPlain_X10_readTest : GoodIn wsX10_readPlain (wsV RX10 215 RX10 yX10_readTest wsX10_readTest) := goodIn_app (goodIn_of _ (by decide +kernel)) ggX10_readPlain_X10_readTest
set_option maxRecDepth 20000 in
theorem ggX10_readPlain_X10_must : GoodIn wsX10_readPlain wsX10_must := goodIn_r _ [27, 3, 4, 5, 6, 7, 1, 2, 8, 9, 10, 11, 12, 16, 17, 18, 19, 20, 64, 65, 66, 67, 68, 69, 70, 71, 72, 73, 74, 75, 76, 77, 78, 79, 80, 81, 82, 83, 84, 85, 86, 87, 88, 89, 90, 91, 92, 93, 94, 95, 96, 97, 98, 99, 100, 101, 102, 103, 104, 105, 106, 107, 108, 109, 110, 111, 112, 113, 114, 115, 116, 117, 118, 119] rfl (by decide +kernel)
set_option maxRecDepth 20000 in
theorem gX10_readPlain_X10_must : GoodIn wsX10_readPlain (wsV RX10 212 RX10 yX10_must wsX10_must) := goodIn_app (goodIn_of _ (by decide +kernel)) ggX10_readPlain_X10_must
set_option maxRecDepth 20000 in
theorem ggX10_readPlain_X10_readSum : GoodIn wsX10_readPlain wsX10_readSum := goodIn_r _ [31, 32, 33, 34, 6, 13, 14, 15, 3, 4, 5, 7, 1, 2, 8, 9, 10, 11, 12, 35, 36, 37, 38, 39, 16, 17, 18, 19, 20, 28, 29, 30, 24, 25, 26, 27, 40, 41, 42, 43, 44, 45, 46, 47, 48, 49, 50, 51, 52, 53, 54, 55, 64, 65, 66, 67, 68, 69, 70, 71, 72, 73, 74, 75, 76, 77, 78, 79, 80, 81, 82, 83, 84, 85, 86, 87, 88, 89, 90, 91, 92, 93, 94, 95, 96, 97, 98, 99, 100, 101, 102, 103, 104, 105, 106, 107, 108, 109, 110, 111, 112, 113, 114, 115, 116, 117, 118, 119] rfl (by decide +kernel)
set_option maxRecDepth 20000 in
theorem gX10_readPlain_X10_readSum : GoodIn wsX10_readPlain (wsV RX10 208 RX10 yX10_readSum wsX10_readSum) := goodIn_app (goodIn_of _ (by decide +kernel)) ggX10_readPlain_X10_readSum
theorem da9_dX10_readPlain_0 : (decode cX10_readPlain 0 = .ok (.iconst 1, 1)) ∧ (decode cX10_readPlain 1 = .ok (.istore_n 2, 1)) ∧ (decode cX10_readPlain 2 = .ok (.iload_n 2, 1)) ∧ (decode cX10_readPlain 3 = .ok (.ifCond .eq 13, 3)) ∧ (decode cX10_readPlain 6 = .ok (.aload_n 0, 1)) ∧ (decode cX10_readPlain 7 = .ok (.bipush 7, 2)) ∧ (decode cX10_readPlain 9 = .ok (.invokevirtual 199, 3)) ∧ (decode cX10_readPlain 12 = .ok (.istore_n 2, 1)) ∧ (decode cX10_readPlain 13 = .ok (.goto (-11), 3)) ∧ (decode cX10_readPlain 16 = .ok (.aload_n 0, 1)) ∧ (decode cX10_readPlain 17 = .ok (.invokevirtual 192, 3)) ∧ (decode cX10_readPlain 20 = .ok (.ifCond .ne 4, 3)) ∧ (decode cX10_readPlain 23 = .ok (.return_, 1)) ∧ (decode cX10_readPlain 24 = .ok (.aload_n 0, 1)) ∧ (decode cX10_readPlain 25 = .ok (.getfield 54, 3)) ∧ (decode cX10_readPlain 28 = .ok (.aload_n 0, 1)) := by decide +kernel
theorem dX10_readPlain_0 : decode cX10_readPlain 0 = .ok (.iconst 1, 1) := da9_dX10_readPlain_0.1
theorem dX10_readPlain_1 : decode cX10_readPlain 1 = .ok (.istore_n 2, 1) := da9_dX10_readPlain_0.2.1
theorem dX10_readPlain_2 : decode cX10_readPlain 2 = .ok (.iload_n 2, 1) := da9_dX10_readPlain_0.2.2.1
theorem dX10_readPlain_3 : decode cX10_readPlain 3 = .ok (.ifCond .eq 13, 3) := da9_dX10_readPlain_0.2.2.2.1
theorem dX10_readPlain_6 : decode cX10_readPlain 6 = .ok (.aload_n 0, 1) := da9_dX10_readPlain_0.2.2.2.2.1
theorem dX10_readPlain_7 : decode cX10_readPlain 7 = .ok (.bipush 7, 2) := da9_dX10_readPlain_0.2.2.2.2.2.1
theorem dX10_readPlain_9 : decode cX10_readPlain 9 = .ok (.invokevirtual 199, 3) := da9_dX10_readPlain_0.2.2.2.2.2.2.1
theorem dX10_readPlain_12 : decode cX10_readPlain 12 = .ok (.istore_n 2, 1) := da9_dX10_readPlain_0.2.2.2.2.2.2.2.1
theorem dX10_readPlain_13 : decode cX10_readPlain 13 = .ok (.goto (-11), 3) := da9_dX10_readPlain_0.2.2.2.2.2.2.2.2.1
theorem dX10_readPlain_16 : decode cX10_readPlain 16 = .ok (.aload_n 0, 1) := da9_dX10_readPlain_0.2.2.2.2.2.2.2.2.2.1
theorem dX10_readPlain_17 : decode cX10_readPlain 17 = .ok (.invokevirtual 192, 3) := da9_dX10_readPlain_0.2.2.2.2.2.2.2.2.2.2.1
theorem dX10_readPlain_20 : decode cX10_readPlain 20 = .ok (.ifCond .ne 4, 3) := da9_dX10_readPlain_0.2.2.2.2.2.2.2.2.2.2.2.1
theorem dX10_readPlain_23 : decode cX10_readPlain 23 = .ok (.return_, 1) := da9_dX10_readPlain_0.2.2.2.2.2.2.2.2.2.2.2.2.1
theorem dX10_readPlain_24 : decode cX10_readPlain 24 = .ok (.aload_n 0, 1) := da9_dX10_readPlain_0.2.2.2.2.2.2.2.2.2.2.2.2.2.1
theorem dX10_readPlain_25 : decode cX10_readPlain 25 = .ok (.getfield 54, 3) := da9_dX10_readPlain_0.2.2.2.2.2.2.2.2.2.2.2.2.2.2.1
theorem dX10_readPlain_28 : decode cX10_readPlain 28 = .ok (.aload_n 0, 1) := da9_dX10_readPlain_0.2.2.2.2.2.2.2.2.2.2.2.2.2.2.2
theorem da9_dX10_readPlain_29 : (decode cX10_readPlain 29 = .ok (.getfield 196, 3)) ∧ (decode cX10_readPlain 32 = .ok (.iaload, 1)) ∧ (decode cX10_readPlain 33 = .ok (.istore_n 3, 1)) ∧ (decode cX10_readPlain 34 = .ok (.iload_n 3, 1)) ∧ (decode cX10_readPlain 35 = .ok (.bipush 40, 2)) ∧ (decode cX10_readPlain 37 = .ok (.invokestatic 237, 3)) ∧ (decode cX10_readPlain 40 = .ok (.if_icmp .ne 50, 3)) ∧ (decode cX10_readPlain 43 = .ok (.iload_n 1, 1)) ∧ (decode cX10_readPlain 44 = .ok (.bipush 8, 2)) ∧ (decode cX10_readPlain 46 = .ok (.if_icmp .ne 7, 3)) ∧ (decode cX10_readPlain 49 = .ok (.aload_n 0, 1)) ∧ (decode cX10_readPlain 50 = .ok (.invokevirtual 202, 3)) ∧ (decode cX10_readPlain 53 = .ok (.aload_n 0, 1)) ∧ (decode cX10_readPlain 54 = .ok (.invokevirtual 192, 3)) ∧ (decode cX10_readPlain 57 = .ok (.ifCond .ne 4, 3)) ∧ (decode cX10_readPlain 60 = .ok (.return_, 1)) := by decide +kernel
theorem dX10_readPlain_29 : decode cX10_readPlain 29 = .ok (.getfield 196, 3) := da9_dX10_readPlain_29.1
theorem dX10_readPlain_32 : decode cX10_readPlain 32 = .ok (.iaload, 1) := da9_dX10_readPlain_29.2.1
theorem dX10_readPlain_33 : decode cX10_readPlain 33 = .ok (.istore_n 3, 1) := da9_dX10_readPlain_29.2.2.1
theorem dX10_readPlain_34 : decode cX10_readPlain 34 = .ok (.iload_n 3, 1) := da9_dX10_readPlain_29.2.2.2.1
theorem dX10_readPlain_35 : decode cX10_readPlain 35 = .ok (.bipush 40, 2) := da9_dX10_readPlain_29.2.2.2.2.1
theorem dX10_readPlain_37 : decode cX10_readPlain 37 = .ok (.invokestatic 237, 3) := da9_dX10_readPlain_29.2.2.2.2.2.1
theorem dX10_readPlain_40 : decode cX10_readPlain 40 = .ok (.if_icmp .ne 50, 3) := da9_dX10_readPlain_29.2.2.2.2.2.2.1
theorem dX10_readPlain_43 : decode cX10_readPlain 43 = .ok (.iload_n 1, 1) := da9_dX10_readPlain_29.2.2.2.2.2.2.2.1
theorem dX10_readPlain_44 : decode cX10_readPlain 44 = .ok (.bipush 8, 2) := da9_dX10_readPlain_29.2.2.2.2.2.2.2.2.1
theorem dX10_readPlain_46 : decode cX10_readPlain 46 = .ok (.if_icmp .ne 7, 3) := da9_dX10_readPlain_29.2.2.2.2.2.2.2.2.2.1
theorem dX10_readPlain_49 : decode cX10_readPlain 49 = .ok (.aload_n 0, 1) := da9_dX10_readPlain_29.2.2.2.2.2.2.2.2.2.2.1
theorem dX10_readPlain_50 : decode cX10_readPlain 50 = .ok (.invokevirtual 202, 3) := da9_dX10_readPlain_29.2.2.2.2.2.2.2.2.2.2.2.1
theorem dX10_readPlain_53 : decode cX10_readPlain 53 = .ok (.aload_n 0, 1) := da9_dX10_readPlain_29.2.2.2.2.2.2.2.2.2.2.2.2.1
theorem dX10_readPlain_54 : decode cX10_readPlain 54 = .ok (.invokevirtual 192, 3) := da9_dX10_readPlain_29.2.2.2.2.2.2.2.2.2.2.2.2.2.1
theorem dX10_readPlain_57 : decode cX10_readPlain 57 = .ok (.ifCond .ne 4, 3) := da9_dX10_readPlain_29.2.2.2.2.2.2.2.2.2.2.2.2.2.2.1
theorem dX10_readPlain_60 : decode cX10_readPlain 60 = .ok (.return_, 1) := da9_dX10_readPlain_29.2.2.2.2.2.2.2.2.2.2.2.2.2.2.2
theorem da9_dX10_readPlain_61 : (decode cX10_readPlain 61 = .ok (.aload_n 0, 1)) ∧ (decode cX10_readPlain 62 = .ok (.dup, 1)) ∧ (decode cX10_readPlain 63 = .ok (.getfield 196, 3)) ∧ (decode cX10_readPlain 66 = .ok (.iconst 1, 1)) ∧ (decode cX10_readPlain 67 = .ok (.iadd, 1)) ∧ (decode cX10_readPlain 68 = .ok (.putfield 196, 3)) ∧ (decode cX10_readPlain 71 = .ok (.aload_n 0, 1)) ∧ (decode cX10_readPlain 72 = .ok (.iload_n 1, 1)) ∧ (decode cX10_readPlain 73 = .ok (.iconst 1, 1)) ∧ (decode cX10_readPlain 74 = .ok (.iadd, 1)) ∧ (decode cX10_readPlain 75 = .ok (.invokevirtual 215, 3)) ∧ (decode cX10_readPlain 78 = .ok (.aload_n 0, 1)) ∧ (decode cX10_readPlain 79 = .ok (.bipush 41, 2)) ∧ (decode cX10_readPlain 81 = .ok (.invokestatic 237, 3)) ∧ (decode cX10_readPlain 84 = .ok (.invokevirtual 212, 3)) ∧ (decode cX10_readPlain 87 = .ok (.goto 46, 3)) := by decide +kernel
theorem dX10_readPlain_61 : decode cX10_readPlain 61 = .ok (.aload_n 0, 1) := da9_dX10_readPlain_61.1
theorem dX10_readPlain_62 : decode cX10_readPlain 62 = .ok (.dup, 1) := da9_dX10_readPlain_61.2.1
theorem dX10_readPlain_63 : decode cX10_readPlain 63 = .ok (.getfield 196, 3) := da9_dX10_readPlain_61.2.2.1
theorem dX10_readPlain_66 : decode cX10_readPlain 66 = .ok (.iconst 1, 1) := da9_dX10_readPlain_61.2.2.2.1
theorem dX10_readPlain_67 : decode cX10_readPlain 67 = .ok (.iadd, 1) := da9_dX10_readPlain_61.2.2.2.2.1
theorem dX10_readPlain_68 : decode cX10_readPlain 68 = .ok (.putfield 196, 3) := da9_dX10_readPlain_61.2.2.2.2.2.1
theorem dX10_readPlain_71 : decode cX10_readPlain 71 = .ok (.aload_n 0, 1) := da9_dX10_readPlain_61.2.2.2.2.2.2.1
theorem dX10_readPlain_72 : decode cX10_readPlain 72 = .ok (.iload_n 1, 1) := da9_dX10_readPlain_61.2.2.2.2.2.2.2.1
theorem dX10_readPlain_73 : decode cX10_readPlain 73 = .ok (.iconst 1, 1) := da9_dX10_readPlain_61.2.2.2.2.2.2.2.2.1
theorem dX10_readPlain_74 : decode cX10_readPlain 74 = .ok (.iadd, 1) := da9_dX10_readPlain_61.2.2.2.2.2.2.2.2.2.1
theorem dX10_readPlain_75 : decode cX10_readPlain 75 = .ok (.invokevirtual 215, 3) := da9_dX10_readPlain_61.2.2.2.2.2.2.2.2.2.2.1
theorem dX10_readPlain_78 : decode cX10_readPlain 78 = .ok (.aload_n 0, 1) := da9_dX10_readPlain_61.2.2.2.2.2.2.2.2.2.2.2.1
theorem dX10_readPlain_79 : decode cX10_readPlain 79 = .ok (.bipush 41, 2) := da9_dX10_readPlain_61.2.2.2.2.2.2.2.2.2.2.2.2.1
theorem dX10_readPlain_81 : decode cX10_readPlain 81 = .ok (.invokestatic 237, 3) := da9_dX10_readPlain_61.2.2.2.2.2.2.2.2.2.2.2.2.2.1
theorem dX10_readPlain_84 : decode cX10_readPlain 84 = .ok (.invokevirtual 212, 3) := da9_dX10_readPlain_61.2.2.2.2.2.2.2.2.2.2.2.2.2.2.1
theorem dX10_readPlain_87 : decode cX10_readPlain 87 = .ok (.goto 46, 3) := da9_dX10_readPlain_61.2.2.2.2.2.2.2.2.2.2.2.2.2.2.2
theorem da9_dX10_readPlain_90 : (decode cX10_readPlain 90 = .ok (.aload_n 0, 1)) ∧ (decode cX10_readPlain 91 = .ok (.iload_n 1, 1)) ∧ (decode cX10_readPlain 92 = .ok (.invokevirtual 208, 3)) ∧ (decode cX10_readPlain 95 = .ok (.aload_n 0, 1)) ∧ (decode cX10_readPlain 96 = .ok (.bipush 60, 2)) ∧ (decode cX10_readPlain 98 = .ok (.invokestatic 237, 3)) ∧ (decode cX10_readPlain 101 = .ok (.invokevirtual 199, 3)) ∧ (decode cX10_readPlain 104 = .ok (.ifCond .ne 24, 3)) ∧ (decode cX10_readPlain 107 = .ok (.aload_n 0, 1)) ∧ (decode cX10_readPlain 108 = .ok (.bipush 62, 2)) ∧ (decode cX10_readPlain 110 = .ok (.invokestatic 237, 3)) ∧ (decode cX10_readPlain 113 = .ok (.invokevirtual 199, 3)) ∧ (decode cX10_readPlain 116 = .ok (.ifCond .ne 12, 3)) ∧ (decode cX10_readPlain 119 = .ok (.aload_n 0, 1)) ∧ (decode cX10_readPlain 120 = .ok (.bipush 61, 2)) ∧ (decode cX10_readPlain 122 = .ok (.invokestatic 237, 3)) := by decide +kernel
theorem dX10_readPlain_90 : decode cX10_readPlain 90 = .ok (.aload_n 0, 1) := da9_dX10_readPlain_90.1
theorem dX10_readPlain_91 : decode cX10_readPlain 91 = .ok (.iload_n 1, 1) := da9_dX10_readPlain_90.2.1
theorem dX10_readPlain_92 : decode cX10_readPlain 92 = .ok (.invokevirtual 208, 3) := da9_dX10_readPlain_90.2.2.1
theorem dX10_readPlain_95 : decode cX10_readPlain 95 = .ok (.aload_n 0, 1) := da9_dX10_readPlain_90.2.2.2.1
theorem dX10_readPlain_96 : decode cX10_readPlain 96 = .ok (.bipush 60, 2) := da9_dX10_readPlain_90.2.2.2.2.1
theorem dX10_readPlain_98 : decode cX10_readPlain 98 = .ok (.invokestatic 237, 3) := da9_dX10_readPlain_90.2.2.2.2.2.1
theorem dX10_readPlain_101 : decode cX10_readPlain 101 = .ok (.invokevirtual 199, 3) := da9_dX10_readPlain_90.2.2.2.2.2.2.1
theorem dX10_readPlain_104 : decode cX10_readPlain 104 = .ok (.ifCond .ne 24, 3) := da9_dX10_readPlain_90.2.2.2.2.2.2.2.1
theorem dX10_readPlain_107 : decode cX10_readPlain 107 = .ok (.aload_n 0, 1) := da9_dX10_readPlain_90.2.2.2.2.2.2.2.2.1
theorem dX10_readPlain_108 : decode cX10_readPlain 108 = .ok (.bipush 62, 2) := da9_dX10_readPlain_90.2.2.2.2.2.2.2.2.2.1
theorem dX10_readPlain_110 : decode cX10_readPlain 110 = .ok (.invokestatic 237, 3) := da9_dX10_readPlain_90.2.2.2.2.2.2.2.2.2.2.1
theorem dX10_readPlain_113 : decode cX10_readPlain 113 = .ok (.invokevirtual 199, 3) := da9_dX10_readPlain_90.2.2.2.2.2.2.2.2.2.2.2.1
theorem dX10_readPlain_116 : decode cX10_readPlain 116 = .ok (.ifCond .ne 12, 3) := da9_dX10_readPlain_90.2.2.2.2.2.2.2.2.2.2.2.2.1
theorem dX10_readPlain_119 : decode cX10_readPlain 119 = .ok (.aload_n 0, 1) := da9_dX10_readPlain_90.2.2.2.2.2.2.2.2.2.2.2.2.2.1
theorem dX10_readPlain_120 : decode cX10_readPlain 120 = .ok (.bipush 61, 2) := da9_dX10_readPlain_90.2.2.2.2.2.2.2.2.2.2.2.2.2.2.1
theorem dX10_readPlain_122 : decode cX10_readPlain 122 = .ok (.invokestatic 237, 3) := da9_dX10_readPlain_90.2.2.2.2.2.2.2.2.2.2.2.2.2.2.2
theorem da9_dX10_readPlain_125 : (decode cX10_readPlain 125 = .ok (.invokevirtual 212, 3)) ∧ (decode cX10_readPlain 128 = .ok (.aload_n 0, 1)) ∧ (decode cX10_readPlain 129 = .ok (.iload_n 1, 1)) ∧ (decode cX10_readPlain 130 = .ok (.invokevirtual 208, 3)) ∧ (decode cX10_readPlain 133 = .ok (.return_, 1)) := by decide +kernel
theorem dX10_readPlain_125 : decode cX10_readPlain 125 = .ok (.invokevirtual 212, 3) := da9_dX10_readPlain_125.1
theorem dX10_readPlain_128 : decode cX10_readPlain 128 = .ok (.aload_n 0, 1) := da9_dX10_readPlain_125.2.1
theorem dX10_readPlain_129 : decode cX10_readPlain 129 = .ok (.iload_n 1, 1) := da9_dX10_readPlain_125.2.2.1
theorem dX10_readPlain_130 : decode cX10_readPlain 130 = .ok (.invokevirtual 208, 3) := da9_dX10_readPlain_125.2.2.2.1
theorem dX10_readPlain_133 : decode cX10_readPlain 133 = .ok (.return_, 1) := da9_dX10_readPlain_125.2.2.2.2
set_option maxRecDepth 20000 in
theorem ggX10_readSum_X10_readTerm : GoodIn wsX10_readSum wsX10_readTerm := goodIn_r _ [48, 49, 50, 51, 4, 5, 6, 7, 8, 9, 10, 11, 12, 13, 14, 15, 16, 17, 18, 19, 20, 21, 22, 23, 24, 25, 26, 27, 28, 29, 30, 31, 32, 33, 34, 35, 36, 37, 38, 39, 40, 41, 42, 43, 44, 45, 46, 47, 0, 1, 2, 3, 52, 53, 54, 55, 56, 57, 58, 59, 60, 61, 62, 63, 64, 65, 66, 67, 68, 69, 70, 71, 72, 73, 74, 75, 76, 77, 78, 79, 80, 81, 82, 83, 84, 85, 86, 87, 88, 89, 90, 91, 92, 93, 94, 95, 96, 97, 98, 99, 100, 101, 102, 103, 104, 105, 106, 107] rfl (by decide +kernel)
set_option maxRecDepth 20000 in
theorem gX10_readSum_X10_readTerm : GoodIn wsX10_readSum (wsV RX10 241 RX10 yX10_readTerm wsX10_readTerm) := goodIn_app (goodIn_of _ (by decide +kernel)) ggX10_readSum_X10_readTerm
set_option maxRecDepth 20000 in
theorem ggX10_readSum_X10_sign : GoodIn wsX10_readSum wsX10_sign := goodIn_r _ [7] rfl (by decide +kernel)
set_option maxRecDepth 20000 in
theorem gX10_readSum_X10_sign : GoodIn wsX10_readSum (va_wsS RX10 237 yX10_sign wsX10_sign) := goodIn_app (goodIn_of _ (by decide +kernel)) ggX10_readSum_X10_sign
set_option maxRecDepth 20000 in
theorem ggX10_readSum_X10_takes0 : GoodIn wsX10_readSum wsX10_takes0 := goodIn_r _ [11, 12, 13, 14, 15, 16, 4, 17, 18, 52, 53, 54, 55, 56, 57, 58, 59, 60, 61, 62, 63, 64, 65, 66, 67, 68, 69, 70, 71, 72, 73, 74, 75, 76, 77, 78, 79, 80, 81, 82, 83, 84, 85, 86, 87, 88, 89, 90, 91, 92, 93, 94, 95, 96, 97, 98, 99, 100, 101, 102, 103, 104, 105, 106, 107] rfl (by decide +kernel)
set_option maxRecDepth 20000 in
theorem gX10_readSum_X10_takes0 : GoodIn wsX10_readSum (wsV RX10 199 RX10 yX10_takes0 wsX10_takes0) := goodIn_app (goodIn_of _ (by decide +kernel)) ggX10_readSum_X10_takes0
theorem da9_dX10_readSum_0 : (decode cX10_readSum 0 = .ok (.aload_n 0, 1)) ∧ (decode cX10_readSum 1 = .ok (.iload_n 1, 1)) ∧ (decode cX10_readSum 2 = .ok (.invokevirtual 241, 3)) ∧ (decode cX10_readSum 5 = .ok (.aload_n 0, 1)) ∧ (decode cX10_readSum 6 = .ok (.bipush 43, 2)) ∧ (decode cX10_readSum 8 = .ok (.invokestatic 237, 3)) ∧ (decode cX10_readSum 11 = .ok (.invokevirtual 199, 3)) ∧ (decode cX10_readSum 14 = .ok (.ifCond .ne 15, 3)) ∧ (decode cX10_readSum 17 = .ok (.aload_n 0, 1)) ∧ (decode cX10_readSum 18 = .ok (.bipush 45, 2)) ∧ (decode cX10_readSum 20 = .ok (.invokestatic 237, 3)) ∧ (decode cX10_readSum 23 = .ok (.invokevirtual 199, 3)) ∧ (decode cX10_readSum 26 = .ok (.ifCond .eq 11, 3)) ∧ (decode cX10_readSum 29 = .ok (.aload_n 0, 1)) ∧ (decode cX10_readSum 30 = .ok (.iload_n 1, 1)) ∧ (decode cX10_readSum 31 = .ok (.invokevirtual 241, 3)) := by decide +kernel
theorem dX10_readSum_0 : decode cX10_readSum 0 = .ok (.aload_n 0, 1) := da9_dX10_readSum_0.1
theorem dX10_readSum_1 : decode cX10_readSum 1 = .ok (.iload_n 1, 1) := da9_dX10_readSum_0.2.1
theorem dX10_readSum_2 : decode cX10_readSum 2 = .ok (.invokevirtual 241, 3) := da9_dX10_readSum_0.2.2.1
theorem dX10_readSum_5 : decode cX10_readSum 5 = .ok (.aload_n 0, 1) := da9_dX10_readSum_0.2.2.2.1
theorem dX10_readSum_6 : decode cX10_readSum 6 = .ok (.bipush 43, 2) := da9_dX10_readSum_0.2.2.2.2.1
theorem dX10_readSum_8 : decode cX10_readSum 8 = .ok (.invokestatic 237, 3) := da9_dX10_readSum_0.2.2.2.2.2.1
theorem dX10_readSum_11 : decode cX10_readSum 11 = .ok (.invokevirtual 199, 3) := da9_dX10_readSum_0.2.2.2.2.2.2.1
theorem dX10_readSum_14 : decode cX10_readSum 14 = .ok (.ifCond .ne 15, 3) := da9_dX10_readSum_0.2.2.2.2.2.2.2.1
theorem dX10_readSum_17 : decode cX10_readSum 17 = .ok (.aload_n 0, 1) := da9_dX10_readSum_0.2.2.2.2.2.2.2.2.1
theorem dX10_readSum_18 : decode cX10_readSum 18 = .ok (.bipush 45, 2) := da9_dX10_readSum_0.2.2.2.2.2.2.2.2.2.1
theorem dX10_readSum_20 : decode cX10_readSum 20 = .ok (.invokestatic 237, 3) := da9_dX10_readSum_0.2.2.2.2.2.2.2.2.2.2.1
theorem dX10_readSum_23 : decode cX10_readSum 23 = .ok (.invokevirtual 199, 3) := da9_dX10_readSum_0.2.2.2.2.2.2.2.2.2.2.2.1
theorem dX10_readSum_26 : decode cX10_readSum 26 = .ok (.ifCond .eq 11, 3) := da9_dX10_readSum_0.2.2.2.2.2.2.2.2.2.2.2.2.1
theorem dX10_readSum_29 : decode cX10_readSum 29 = .ok (.aload_n 0, 1) := da9_dX10_readSum_0.2.2.2.2.2.2.2.2.2.2.2.2.2.1
theorem dX10_readSum_30 : decode cX10_readSum 30 = .ok (.iload_n 1, 1) := da9_dX10_readSum_0.2.2.2.2.2.2.2.2.2.2.2.2.2.2.1
theorem dX10_readSum_31 : decode cX10_readSum 31 = .ok (.invokevirtual 241, 3) := da9_dX10_readSum_0.2.2.2.2.2.2.2.2.2.2.2.2.2.2.2
theorem da9_dX10_readSum_34 : (decode cX10_readSum 34 = .ok (.goto (-29), 3)) ∧ (decode cX10_readSum 37 = .ok (.return_, 1)) := by decide +kernel
theorem dX10_readSum_34 : decode cX10_readSum 34 = .ok (.goto (-29), 3) := da9_dX10_readSum_34.1
theorem dX10_readSum_37 : decode cX10_readSum 37 = .ok (.return_, 1) := da9_dX10_readSum_34.2
set_option maxRecDepth 20000 in
theorem ggX10_readTerm_X10_readPart : GoodIn wsX10_readTerm wsX10_readPart := goodIn_r _ [19, 12, 13, 20, 21, 22, 23, 14, 15, 16, 4, 17, 18, 5, 6, 7, 24, 25, 26, 27, 28, 29, 30, 31, 32, 33, 34, 35, 8, 9, 10, 11, 36, 37, 38, 39, 40, 41, 42, 43, 44, 45, 46, 47, 48, 49, 50, 51, 0, 1, 2, 3, 52, 53, 54, 55, 56, 57, 58, 59, 60, 61, 62, 63, 64, 65, 66, 67, 68, 69, 70, 71, 72, 73, 74, 75, 76, 77, 78, 79, 80, 81, 82, 83, 84, 85, 86, 87, 88, 89, 90, 91, 92, 93, 94, 95, 96, 97, 98, 99, 100, 101, 102, 103, 104, 105, 106, 107] rfl (by decide +kernel)
set_option maxRecDepth 20000 in
theorem gX10_readTerm_X10_readPart : GoodIn wsX10_readTerm (wsV RX10 244 RX10 yX10_readPart wsX10_readPart) := goodIn_app (goodIn_of _ (by decide +kernel)) ggX10_readTerm_X10_readPart
set_option maxRecDepth 20000 in
theorem ggX10_readTerm_X10_sign : GoodIn wsX10_readTerm wsX10_sign := goodIn_r _ [7] rfl (by decide +kernel)
set_option maxRecDepth 20000 in
theorem gX10_readTerm_X10_sign : GoodIn wsX10_readTerm (va_wsS RX10 237 yX10_sign wsX10_sign) := goodIn_app (goodIn_of _ (by decide +kernel)) ggX10_readTerm_X10_sign
set_option maxRecDepth 20000 in
theorem ggX10_readTerm_X10_takes0 : GoodIn wsX10_readTerm wsX10_takes0 := goodIn_r _ [11, 12, 13, 14, 15, 16, 4, 17, 18, 52, 53, 54, 55, 56, 57, 58, 59, 60, 61, 62, 63, 64, 65, 66, 67, 68, 69, 70, 71, 72, 73, 74, 75, 76, 77, 78, 79, 80, 81, 82, 83, 84, 85, 86, 87, 88, 89, 90, 91, 92, 93, 94, 95, 96, 97, 98, 99, 100, 101, 102, 103, 104, 105, 106, 107] rfl (by decide +kernel)
set_option maxRecDepth 20000 in
theorem gX10_readTerm_X10_takes0 : GoodIn wsX10_readTerm (wsV RX10 199 RX10 yX10_takes0 wsX10_takes0) := goodIn_app (goodIn_of _ (by decide +kernel)) ggX10_readTerm_X10_takes0
theorem da9_dX10_readTerm_0 : (decode cX10_readTerm 0 = .ok (.aload_n 0, 1)) ∧ (decode cX10_readTerm 1 = .ok (.iload_n 1, 1)) ∧ (decode cX10_readTerm 2 = .ok (.invokevirtual 244, 3)) ∧ (decode cX10_readTerm 5 = .ok (.aload_n 0, 1)) ∧ (decode cX10_readTerm 6 = .ok (.bipush 42, 2)) ∧ (decode cX10_readTerm 8 = .ok (.invokestatic 237, 3)) ∧ (decode cX10_readTerm 11 = .ok (.invokevirtual 199, 3)) ∧ (decode cX10_readTerm 14 = .ok (.ifCond .ne 27, 3)) ∧ (decode cX10_readTerm 17 = .ok (.aload_n 0, 1)) ∧ (decode cX10_readTerm 18 = .ok (.bipush 47, 2)) ∧ (decode cX10_readTerm 20 = .ok (.invokestatic 237, 3)) ∧ (decode cX10_readTerm 23 = .ok (.invokevirtual 199, 3)) ∧ (decode cX10_readTerm 26 = .ok (.ifCond .ne 15, 3)) ∧ (decode cX10_readTerm 29 = .ok (.aload_n 0, 1)) ∧ (decode cX10_readTerm 30 = .ok (.bipush 37, 2)) ∧ (decode cX10_readTerm 32 = .ok (.invokestatic 237, 3)) := by decide +kernel
theorem dX10_readTerm_0 : decode cX10_readTerm 0 = .ok (.aload_n 0, 1) := da9_dX10_readTerm_0.1
theorem dX10_readTerm_1 : decode cX10_readTerm 1 = .ok (.iload_n 1, 1) := da9_dX10_readTerm_0.2.1
theorem dX10_readTerm_2 : decode cX10_readTerm 2 = .ok (.invokevirtual 244, 3) := da9_dX10_readTerm_0.2.2.1
theorem dX10_readTerm_5 : decode cX10_readTerm 5 = .ok (.aload_n 0, 1) := da9_dX10_readTerm_0.2.2.2.1
theorem dX10_readTerm_6 : decode cX10_readTerm 6 = .ok (.bipush 42, 2) := da9_dX10_readTerm_0.2.2.2.2.1
theorem dX10_readTerm_8 : decode cX10_readTerm 8 = .ok (.invokestatic 237, 3) := da9_dX10_readTerm_0.2.2.2.2.2.1
theorem dX10_readTerm_11 : decode cX10_readTerm 11 = .ok (.invokevirtual 199, 3) := da9_dX10_readTerm_0.2.2.2.2.2.2.1
theorem dX10_readTerm_14 : decode cX10_readTerm 14 = .ok (.ifCond .ne 27, 3) := da9_dX10_readTerm_0.2.2.2.2.2.2.2.1
theorem dX10_readTerm_17 : decode cX10_readTerm 17 = .ok (.aload_n 0, 1) := da9_dX10_readTerm_0.2.2.2.2.2.2.2.2.1
theorem dX10_readTerm_18 : decode cX10_readTerm 18 = .ok (.bipush 47, 2) := da9_dX10_readTerm_0.2.2.2.2.2.2.2.2.2.1
theorem dX10_readTerm_20 : decode cX10_readTerm 20 = .ok (.invokestatic 237, 3) := da9_dX10_readTerm_0.2.2.2.2.2.2.2.2.2.2.1
theorem dX10_readTerm_23 : decode cX10_readTerm 23 = .ok (.invokevirtual 199, 3) := da9_dX10_readTerm_0.2.2.2.2.2.2.2.2.2.2.2.1
theorem dX10_readTerm_26 : decode cX10_readTerm 26 = .ok (.ifCond .ne 15, 3) := da9_dX10_readTerm_0.2.2.2.2.2.2.2.2.2.2.2.2.1
theorem dX10_readTerm_29 : decode cX10_readTerm 29 = .ok (.aload_n 0, 1) := da9_dX10_readTerm_0.2.2.2.2.2.2.2.2.2.2.2.2.2.1
theorem dX10_readTerm_30 : decode cX10_readTerm 30 = .ok (.bipush 37, 2) := da9_dX10_readTerm_0.2.2.2.2.2.2.2.2.2.2.2.2.2.2.1
theorem dX10_readTerm_32 : decode cX10_readTerm 32 = .ok (.invokestatic 237, 3) := da9_dX10_readTerm_0.2.2.2.2.2.2.2.2.2.2.2.2.2.2.2
theorem da9_dX10_readTerm_35 : (decode cX10_readTerm 35 = .ok (.invokevirtual 199, 3)) ∧ (decode cX10_readTerm 38 = .ok (.ifCond .eq 11, 3)) ∧ (decode cX10_readTerm 41 = .ok (.aload_n 0, 1)) ∧ (decode cX10_readTerm 42 = .ok (.iload_n 1, 1)) ∧ (decode cX10_readTerm 43 = .ok (.invokevirtual 244, 3)) ∧ (decode cX10_readTerm 46 = .ok (.goto (-41), 3)) ∧ (decode cX10_readTerm 49 = .ok (.return_, 1)) := by decide +kernel
theorem dX10_readTerm_35 : decode cX10_readTerm 35 = .ok (.invokevirtual 199, 3) := da9_dX10_readTerm_35.1
theorem dX10_readTerm_38 : decode cX10_readTerm 38 = .ok (.ifCond .eq 11, 3) := da9_dX10_readTerm_35.2.1
theorem dX10_readTerm_41 : decode cX10_readTerm 41 = .ok (.aload_n 0, 1) := da9_dX10_readTerm_35.2.2.1
theorem dX10_readTerm_42 : decode cX10_readTerm 42 = .ok (.iload_n 1, 1) := da9_dX10_readTerm_35.2.2.2.1
theorem dX10_readTerm_43 : decode cX10_readTerm 43 = .ok (.invokevirtual 244, 3) := da9_dX10_readTerm_35.2.2.2.2.1
theorem dX10_readTerm_46 : decode cX10_readTerm 46 = .ok (.goto (-41), 3) := da9_dX10_readTerm_35.2.2.2.2.2.1
theorem dX10_readTerm_49 : decode cX10_readTerm 49 = .ok (.return_, 1) := da9_dX10_readTerm_35.2.2.2.2.2.2
set_option maxRecDepth 20000 in
theorem ggX10_readPart_X10_fine : GoodIn wsX10_readPart wsX10_fine := goodIn_r _ [11, 12, 52, 53, 54, 55, 56, 57, 58, 59, 60, 61, 62, 63, 64, 65, 66, 67, 68, 69, 70, 71, 72, 73, 74, 75, 76, 77, 78, 79, 80, 81, 82, 83, 84, 85, 86, 87, 88, 89, 90, 91, 92, 93, 94, 95, 96, 97, 98, 99, 100, 101, 102, 103, 104, 105, 106, 107] rfl (by decide +kernel)
set_option maxRecDepth 20000 in
theorem gX10_readPart_X10_fine : GoodIn wsX10_readPart (wsV RX10 192 RX10 yX10_fine wsX10_fine) := goodIn_app (goodIn_of _ (by decide +kernel)) ggX10_readPart_X10_fine
set_option maxRecDepth 20000 in
theorem ggX10_readPart_X10_sign : GoodIn wsX10_readPart wsX10_sign := goodIn_r _ [15] rfl (by decide +kernel)
set_option maxRecDepth 20000 in
theorem gX10_readPart_X10_sign : GoodIn wsX10_readPart (va_wsS RX10 237 yX10_sign wsX10_sign) := goodIn_app (goodIn_of _ (by decide +kernel)) ggX10_readPart_X10_sign
set_option maxRecDepth 20000 in
theorem ggX10_readPart_X10_faults : GoodIn wsX10_readPart wsX10_faults := goodIn_r _ [19, 20, 2, 12, 7, 8, 9, 10, 11, 52, 53, 54, 55, 56, 57, 58, 59, 60, 61, 62, 63, 64, 65, 66, 67, 68, 69, 70, 71, 72, 73, 74, 75, 76, 77, 78, 79, 80, 81, 82, 83, 84, 85, 86, 87, 88, 89, 90, 91, 92, 93, 94, 95, 96, 97, 98, 99, 100, 101, 102, 103, 104, 105, 106, 107] rfl (by decide +kernel)
set_option maxRecDepth 20000 in
theorem gX10_readPart_X10_faults : GoodIn wsX10_readPart (wsV RX10 202 RX10 yX10_faults wsX10_faults) := goodIn_app (goodIn_of _ (by decide +kernel)) ggX10_readPart_X10_faults
set_option maxRecDepth 20000 in
theorem ggX10_readPart_X10_readSum : GoodIn wsX10_readPart wsX10_readSum := goodIn_r _ [44, 45, 46, 47, 10, 13, 14, 15, 28, 29, 30, 31, 1, 2, 7, 8, 9, 11, 12, 0, 3, 4, 5, 6, 16, 17, 18, 19, 20, 21, 22, 23, 24, 25, 26, 27, 32, 33, 34, 35, 36, 37, 38, 39, 40, 41, 42, 43, 48, 49, 50, 51, 52, 53, 54, 55, 56, 57, 58, 59, 60, 61, 62, 63, 64, 65, 66, 67, 68, 69, 70, 71, 72, 73, 74, 75, 76, 77, 78, 79, 80, 81, 82, 83, 84, 85, 86, 87, 88, 89, 90, 91, 92, 93, 94, 95, 96, 97, 98, 99, 100, 101, 102, 103, 104, 105, 106, 107] rfl (by decide +kernel)
set_option maxRecDepth 20000 in
theorem gX10_readPart_X10_readSum : GoodIn wsX10_readPart (wsV RX10 208 RX10 yX10_readSum wsX10_readSum) := goodIn_app (goodIn_of _ (by decide +kernel)) ggX10_readPart_X10_readSum
set_option maxRecDepth 20000 in
theorem ggX10_readPart_X10_must : GoodIn wsX10_readPart wsX10_must := goodIn_r _ [27, 28, 29, 30, 10, 31, 1, 2, 7, 8, 9, 11, 12, 16, 17, 18, 19, 20, 52, 53, 54, 55, 56, 57, 58, 59, 60, 61, 62, 63, 64, 65, 66, 67, 68, 69, 70, 71, 72, 73, 74, 75, 76, 77, 78, 79, 80, 81, 82, 83, 84, 85, 86, 87, 88, 89, 90, 91, 92, 93, 94, 95, 96, 97, 98, 99, 100, 101, 102, 103, 104, 105, 106, 107] rfl (by decide +kernel)
set_option maxRecDepth 20000 in
theorem gX10_readPart_X10_must : GoodIn wsX10_readPart (wsV RX10 212 RX10 yX10_must wsX10_must) := goodIn_app (goodIn_of _ (by decide +kernel)) ggX10_readPart_X10_must
set_option maxRecDepth 20000 in
theorem ggX10_readPart_X10_leaf : GoodIn wsX10_readPart wsX10_leaf := goodIn_r _ [35, 36, 2, 16, 17, 18, 10, 19, 20, 12, 7, 8, 9, 11, 52, 53, 54, 55, 56, 57, 58, 59, 60, 61, 62, 63, 64, 65, 66, 67, 68, 69, 70, 71, 72, 73, 74, 75, 76, 77, 78, 79, 80, 81, 82, 83, 84, 85, 86, 87, 88, 89, 90, 91, 92, 93, 94, 95, 96, 97, 98, 99, 100, 101, 102, 103, 104, 105, 106, 107] rfl (by decide +kernel)
set_option maxRecDepth 20000 in
theorem gX10_readPart_X10_leaf : GoodIn wsX10_readPart (wsV RX10 253 RX10 yX10_leaf wsX10_leaf) := goodIn_app (goodIn_of _ (by decide +kernel)) ggX10_readPart_X10_leaf
set_option maxRecDepth 20000 in
theorem ggX10_readPart_X10_mustNumber : GoodIn wsX10_readPart wsX10_mustNumber := goodIn_r _ [40, 1, 2, 3, 7, 8, 9, 10, 11, 12, 41, 42, 43, 16, 17, 18, 19, 20, 52, 53, 54, 55, 56, 57, 58, 59, 60, 61, 62, 63, 64, 65, 66, 67, 68, 69, 70, 71, 72, 73, 74, 75, 76, 77, 78, 79, 80, 81, 82, 83, 84, 85, 86, 87, 88, 89, 90, 91, 92, 93, 94, 95, 96, 97, 98, 99, 100, 101, 102, 103, 104, 105, 106, 107] rfl (by decide +kernel)
set_option maxRecDepth 20000 in
theorem gX10_readPart_X10_mustNumber : GoodIn wsX10_readPart (wsV RX10 218 RX10 yX10_mustNumber wsX10_mustNumber) := goodIn_app (goodIn_of _ (by decide +kernel)) ggX10_readPart_X10_mustNumber
theorem da9_dX10_readPart_0 : (decode cX10_readPart 0 = .ok (.aload_n 0, 1)) ∧ (decode cX10_readPart 1 = .ok (.invokevirtual 192, 3)) ∧ (decode cX10_readPart 4 = .ok (.ifCond .ne 4, 3)) ∧ (decode cX10_readPart 7 = .ok (.return_, 1)) ∧ (decode cX10_readPart 8 = .ok (.aload_n 0, 1)) ∧ (decode cX10_readPart 9 = .ok (.getfield 54, 3)) ∧ (decode cX10_readPart 12 = .ok (.aload_n 0, 1)) ∧ (decode cX10_readPart 13 = .ok (.getfield 196, 3)) ∧ (decode cX10_readPart 16 = .ok (.iaload, 1)) ∧ (decode cX10_readPart 17 = .ok (.istore_n 2, 1)) ∧ (decode cX10_readPart 18 = .ok (.iload_n 2, 1)) ∧ (decode cX10_readPart 19 = .ok (.bipush 91, 2)) ∧ (decode cX10_readPart 21 = .ok (.invokestatic 237, 3)) ∧ (decode cX10_readPart 24 = .ok (.if_icmp .ne 50, 3)) ∧ (decode cX10_readPart 27 = .ok (.iload_n 1, 1)) ∧ (decode cX10_readPart 28 = .ok (.bipush 8, 2)) := by decide +kernel
theorem dX10_readPart_0 : decode cX10_readPart 0 = .ok (.aload_n 0, 1) := da9_dX10_readPart_0.1
theorem dX10_readPart_1 : decode cX10_readPart 1 = .ok (.invokevirtual 192, 3) := da9_dX10_readPart_0.2.1
theorem dX10_readPart_4 : decode cX10_readPart 4 = .ok (.ifCond .ne 4, 3) := da9_dX10_readPart_0.2.2.1
theorem dX10_readPart_7 : decode cX10_readPart 7 = .ok (.return_, 1) := da9_dX10_readPart_0.2.2.2.1
theorem dX10_readPart_8 : decode cX10_readPart 8 = .ok (.aload_n 0, 1) := da9_dX10_readPart_0.2.2.2.2.1
theorem dX10_readPart_9 : decode cX10_readPart 9 = .ok (.getfield 54, 3) := da9_dX10_readPart_0.2.2.2.2.2.1
theorem dX10_readPart_12 : decode cX10_readPart 12 = .ok (.aload_n 0, 1) := da9_dX10_readPart_0.2.2.2.2.2.2.1
theorem dX10_readPart_13 : decode cX10_readPart 13 = .ok (.getfield 196, 3) := da9_dX10_readPart_0.2.2.2.2.2.2.2.1
theorem dX10_readPart_16 : decode cX10_readPart 16 = .ok (.iaload, 1) := da9_dX10_readPart_0.2.2.2.2.2.2.2.2.1
theorem dX10_readPart_17 : decode cX10_readPart 17 = .ok (.istore_n 2, 1) := da9_dX10_readPart_0.2.2.2.2.2.2.2.2.2.1
theorem dX10_readPart_18 : decode cX10_readPart 18 = .ok (.iload_n 2, 1) := da9_dX10_readPart_0.2.2.2.2.2.2.2.2.2.2.1
theorem dX10_readPart_19 : decode cX10_readPart 19 = .ok (.bipush 91, 2) := da9_dX10_readPart_0.2.2.2.2.2.2.2.2.2.2.2.1
theorem dX10_readPart_21 : decode cX10_readPart 21 = .ok (.invokestatic 237, 3) := da9_dX10_readPart_0.2.2.2.2.2.2.2.2.2.2.2.2.1
theorem dX10_readPart_24 : decode cX10_readPart 24 = .ok (.if_icmp .ne 50, 3) := da9_dX10_readPart_0.2.2.2.2.2.2.2.2.2.2.2.2.2.1
theorem dX10_readPart_27 : decode cX10_readPart 27 = .ok (.iload_n 1, 1) := da9_dX10_readPart_0.2.2.2.2.2.2.2.2.2.2.2.2.2.2.1
theorem dX10_readPart_28 : decode cX10_readPart 28 = .ok (.bipush 8, 2) := da9_dX10_readPart_0.2.2.2.2.2.2.2.2.2.2.2.2.2.2.2
theorem da9_dX10_readPart_30 : (decode cX10_readPart 30 = .ok (.if_icmp .ne 7, 3)) ∧ (decode cX10_readPart 33 = .ok (.aload_n 0, 1)) ∧ (decode cX10_readPart 34 = .ok (.invokevirtual 202, 3)) ∧ (decode cX10_readPart 37 = .ok (.aload_n 0, 1)) ∧ (decode cX10_readPart 38 = .ok (.invokevirtual 192, 3)) ∧ (decode cX10_readPart 41 = .ok (.ifCond .ne 4, 3)) ∧ (decode cX10_readPart 44 = .ok (.return_, 1)) ∧ (decode cX10_readPart 45 = .ok (.aload_n 0, 1)) ∧ (decode cX10_readPart 46 = .ok (.dup, 1)) ∧ (decode cX10_readPart 47 = .ok (.getfield 196, 3)) ∧ (decode cX10_readPart 50 = .ok (.iconst 1, 1)) ∧ (decode cX10_readPart 51 = .ok (.iadd, 1)) ∧ (decode cX10_readPart 52 = .ok (.putfield 196, 3)) ∧ (decode cX10_readPart 55 = .ok (.aload_n 0, 1)) ∧ (decode cX10_readPart 56 = .ok (.iload_n 1, 1)) ∧ (decode cX10_readPart 57 = .ok (.iconst 1, 1)) := by decide +kernel
theorem dX10_readPart_30 : decode cX10_readPart 30 = .ok (.if_icmp .ne 7, 3) := da9_dX10_readPart_30.1
theorem dX10_readPart_33 : decode cX10_readPart 33 = .ok (.aload_n 0, 1) := da9_dX10_readPart_30.2.1
theorem dX10_readPart_34 : decode cX10_readPart 34 = .ok (.invokevirtual 202, 3) := da9_dX10_readPart_30.2.2.1
theorem dX10_readPart_37 : decode cX10_readPart 37 = .ok (.aload_n 0, 1) := da9_dX10_readPart_30.2.2.2.1
theorem dX10_readPart_38 : decode cX10_readPart 38 = .ok (.invokevirtual 192, 3) := da9_dX10_readPart_30.2.2.2.2.1
theorem dX10_readPart_41 : decode cX10_readPart 41 = .ok (.ifCond .ne 4, 3) := da9_dX10_readPart_30.2.2.2.2.2.1
theorem dX10_readPart_44 : decode cX10_readPart 44 = .ok (.return_, 1) := da9_dX10_readPart_30.2.2.2.2.2.2.1
theorem dX10_readPart_45 : decode cX10_readPart 45 = .ok (.aload_n 0, 1) := da9_dX10_readPart_30.2.2.2.2.2.2.2.1
theorem dX10_readPart_46 : decode cX10_readPart 46 = .ok (.dup, 1) := da9_dX10_readPart_30.2.2.2.2.2.2.2.2.1
theorem dX10_readPart_47 : decode cX10_readPart 47 = .ok (.getfield 196, 3) := da9_dX10_readPart_30.2.2.2.2.2.2.2.2.2.1
theorem dX10_readPart_50 : decode cX10_readPart 50 = .ok (.iconst 1, 1) := da9_dX10_readPart_30.2.2.2.2.2.2.2.2.2.2.1
theorem dX10_readPart_51 : decode cX10_readPart 51 = .ok (.iadd, 1) := da9_dX10_readPart_30.2.2.2.2.2.2.2.2.2.2.2.1
theorem dX10_readPart_52 : decode cX10_readPart 52 = .ok (.putfield 196, 3) := da9_dX10_readPart_30.2.2.2.2.2.2.2.2.2.2.2.2.1
theorem dX10_readPart_55 : decode cX10_readPart 55 = .ok (.aload_n 0, 1) := da9_dX10_readPart_30.2.2.2.2.2.2.2.2.2.2.2.2.2.1
theorem dX10_readPart_56 : decode cX10_readPart 56 = .ok (.iload_n 1, 1) := da9_dX10_readPart_30.2.2.2.2.2.2.2.2.2.2.2.2.2.2.1
theorem dX10_readPart_57 : decode cX10_readPart 57 = .ok (.iconst 1, 1) := da9_dX10_readPart_30.2.2.2.2.2.2.2.2.2.2.2.2.2.2.2
theorem da9_dX10_readPart_58 : (decode cX10_readPart 58 = .ok (.iadd, 1)) ∧ (decode cX10_readPart 59 = .ok (.invokevirtual 208, 3)) ∧ (decode cX10_readPart 62 = .ok (.aload_n 0, 1)) ∧ (decode cX10_readPart 63 = .ok (.bipush 93, 2)) ∧ (decode cX10_readPart 65 = .ok (.invokestatic 237, 3)) ∧ (decode cX10_readPart 68 = .ok (.invokevirtual 212, 3)) ∧ (decode cX10_readPart 71 = .ok (.goto 76, 3)) ∧ (decode cX10_readPart 74 = .ok (.iload_n 2, 1)) ∧ (decode cX10_readPart 75 = .ok (.bipush 50, 2)) ∧ (decode cX10_readPart 77 = .ok (.if_icmp .ne 18, 3)) ∧ (decode cX10_readPart 80 = .ok (.aload_n 0, 1)) ∧ (decode cX10_readPart 81 = .ok (.getfield 57, 3)) ∧ (decode cX10_readPart 84 = .ok (.aload_n 0, 1)) ∧ (decode cX10_readPart 85 = .ok (.getfield 196, 3)) ∧ (decode cX10_readPart 88 = .ok (.iaload, 1)) ∧ (decode cX10_readPart 89 = .ok (.sipush 1000, 3)) := by decide +kernel
theorem dX10_readPart_58 : decode cX10_readPart 58 = .ok (.iadd, 1) := da9_dX10_readPart_58.1
theorem dX10_readPart_59 : decode cX10_readPart 59 = .ok (.invokevirtual 208, 3) := da9_dX10_readPart_58.2.1
theorem dX10_readPart_62 : decode cX10_readPart 62 = .ok (.aload_n 0, 1) := da9_dX10_readPart_58.2.2.1
theorem dX10_readPart_63 : decode cX10_readPart 63 = .ok (.bipush 93, 2) := da9_dX10_readPart_58.2.2.2.1
theorem dX10_readPart_65 : decode cX10_readPart 65 = .ok (.invokestatic 237, 3) := da9_dX10_readPart_58.2.2.2.2.1
theorem dX10_readPart_68 : decode cX10_readPart 68 = .ok (.invokevirtual 212, 3) := da9_dX10_readPart_58.2.2.2.2.2.1
theorem dX10_readPart_71 : decode cX10_readPart 71 = .ok (.goto 76, 3) := da9_dX10_readPart_58.2.2.2.2.2.2.1
theorem dX10_readPart_74 : decode cX10_readPart 74 = .ok (.iload_n 2, 1) := da9_dX10_readPart_58.2.2.2.2.2.2.2.1
theorem dX10_readPart_75 : decode cX10_readPart 75 = .ok (.bipush 50, 2) := da9_dX10_readPart_58.2.2.2.2.2.2.2.2.1
theorem dX10_readPart_77 : decode cX10_readPart 77 = .ok (.if_icmp .ne 18, 3) := da9_dX10_readPart_58.2.2.2.2.2.2.2.2.2.1
theorem dX10_readPart_80 : decode cX10_readPart 80 = .ok (.aload_n 0, 1) := da9_dX10_readPart_58.2.2.2.2.2.2.2.2.2.2.1
theorem dX10_readPart_81 : decode cX10_readPart 81 = .ok (.getfield 57, 3) := da9_dX10_readPart_58.2.2.2.2.2.2.2.2.2.2.2.1
theorem dX10_readPart_84 : decode cX10_readPart 84 = .ok (.aload_n 0, 1) := da9_dX10_readPart_58.2.2.2.2.2.2.2.2.2.2.2.2.1
theorem dX10_readPart_85 : decode cX10_readPart 85 = .ok (.getfield 196, 3) := da9_dX10_readPart_58.2.2.2.2.2.2.2.2.2.2.2.2.2.1
theorem dX10_readPart_88 : decode cX10_readPart 88 = .ok (.iaload, 1) := da9_dX10_readPart_58.2.2.2.2.2.2.2.2.2.2.2.2.2.2.1
theorem dX10_readPart_89 : decode cX10_readPart 89 = .ok (.sipush 1000, 3) := da9_dX10_readPart_58.2.2.2.2.2.2.2.2.2.2.2.2.2.2.2
theorem da9_dX10_readPart_92 : (decode cX10_readPart 92 = .ok (.if_icmp .le 19, 3)) ∧ (decode cX10_readPart 95 = .ok (.iload_n 2, 1)) ∧ (decode cX10_readPart 96 = .ok (.aload_n 0, 1)) ∧ (decode cX10_readPart 97 = .ok (.getfield 247, 3)) ∧ (decode cX10_readPart 100 = .ok (.if_icmp .lt 43, 3)) ∧ (decode cX10_readPart 103 = .ok (.iload_n 2, 1)) ∧ (decode cX10_readPart 104 = .ok (.aload_n 0, 1)) ∧ (decode cX10_readPart 105 = .ok (.getfield 250, 3)) ∧ (decode cX10_readPart 108 = .ok (.if_icmp .gt 35, 3)) ∧ (decode cX10_readPart 111 = .ok (.aload_n 0, 1)) ∧ (decode cX10_readPart 112 = .ok (.invokevirtual 253, 3)) ∧ (decode cX10_readPart 115 = .ok (.aload_n 0, 1)) ∧ (decode cX10_readPart 116 = .ok (.getfield 221, 3)) ∧ (decode cX10_readPart 119 = .ok (.ifCond .eq 28, 3)) ∧ (decode cX10_readPart 122 = .ok (.iload_n 2, 1)) ∧ (decode cX10_readPart 123 = .ok (.bipush 21, 2)) := by decide +kernel
theorem dX10_readPart_92 : decode cX10_readPart 92 = .ok (.if_icmp .le 19, 3) := da9_dX10_readPart_92.1
theorem dX10_readPart_95 : decode cX10_readPart 95 = .ok (.iload_n 2, 1) := da9_dX10_readPart_92.2.1
theorem dX10_readPart_96 : decode cX10_readPart 96 = .ok (.aload_n 0, 1) := da9_dX10_readPart_92.2.2.1
theorem dX10_readPart_97 : decode cX10_readPart 97 = .ok (.getfield 247, 3) := da9_dX10_readPart_92.2.2.2.1
theorem dX10_readPart_100 : decode cX10_readPart 100 = .ok (.if_icmp .lt 43, 3) := da9_dX10_readPart_92.2.2.2.2.1
theorem dX10_readPart_103 : decode cX10_readPart 103 = .ok (.iload_n 2, 1) := da9_dX10_readPart_92.2.2.2.2.2.1
theorem dX10_readPart_104 : decode cX10_readPart 104 = .ok (.aload_n 0, 1) := da9_dX10_readPart_92.2.2.2.2.2.2.1
theorem dX10_readPart_105 : decode cX10_readPart 105 = .ok (.getfield 250, 3) := da9_dX10_readPart_92.2.2.2.2.2.2.2.1
theorem dX10_readPart_108 : decode cX10_readPart 108 = .ok (.if_icmp .gt 35, 3) := da9_dX10_readPart_92.2.2.2.2.2.2.2.2.1
theorem dX10_readPart_111 : decode cX10_readPart 111 = .ok (.aload_n 0, 1) := da9_dX10_readPart_92.2.2.2.2.2.2.2.2.2.1
theorem dX10_readPart_112 : decode cX10_readPart 112 = .ok (.invokevirtual 253, 3) := da9_dX10_readPart_92.2.2.2.2.2.2.2.2.2.2.1
theorem dX10_readPart_115 : decode cX10_readPart 115 = .ok (.aload_n 0, 1) := da9_dX10_readPart_92.2.2.2.2.2.2.2.2.2.2.2.1
theorem dX10_readPart_116 : decode cX10_readPart 116 = .ok (.getfield 221, 3) := da9_dX10_readPart_92.2.2.2.2.2.2.2.2.2.2.2.2.1
theorem dX10_readPart_119 : decode cX10_readPart 119 = .ok (.ifCond .eq 28, 3) := da9_dX10_readPart_92.2.2.2.2.2.2.2.2.2.2.2.2.2.1
theorem dX10_readPart_122 : decode cX10_readPart 122 = .ok (.iload_n 2, 1) := da9_dX10_readPart_92.2.2.2.2.2.2.2.2.2.2.2.2.2.2.1
theorem dX10_readPart_123 : decode cX10_readPart 123 = .ok (.bipush 21, 2) := da9_dX10_readPart_92.2.2.2.2.2.2.2.2.2.2.2.2.2.2.2
theorem da9_dX10_readPart_125 : (decode cX10_readPart 125 = .ok (.if_icmp .eq 9, 3)) ∧ (decode cX10_readPart 128 = .ok (.iload_n 2, 1)) ∧ (decode cX10_readPart 129 = .ok (.bipush 15, 2)) ∧ (decode cX10_readPart 131 = .ok (.if_icmp .ne 16, 3)) ∧ (decode cX10_readPart 134 = .ok (.aload_n 0, 1)) ∧ (decode cX10_readPart 135 = .ok (.iconst 0, 1)) ∧ (decode cX10_readPart 136 = .ok (.iconst 5, 1)) ∧ (decode cX10_readPart 137 = .ok (.invokevirtual 218, 3)) ∧ (decode cX10_readPart 140 = .ok (.goto 7, 3)) ∧ (decode cX10_readPart 143 = .ok (.aload_n 0, 1)) ∧ (decode cX10_readPart 144 = .ok (.invokevirtual 202, 3)) ∧ (decode cX10_readPart 147 = .ok (.return_, 1)) := by decide +kernel
theorem dX10_readPart_125 : decode cX10_readPart 125 = .ok (.if_icmp .eq 9, 3) := da9_dX10_readPart_125.1
theorem dX10_readPart_128 : decode cX10_readPart 128 = .ok (.iload_n 2, 1) := da9_dX10_readPart_125.2.1
theorem dX10_readPart_129 : decode cX10_readPart 129 = .ok (.bipush 15, 2) := da9_dX10_readPart_125.2.2.1
theorem dX10_readPart_131 : decode cX10_readPart 131 = .ok (.if_icmp .ne 16, 3) := da9_dX10_readPart_125.2.2.2.1
theorem dX10_readPart_134 : decode cX10_readPart 134 = .ok (.aload_n 0, 1) := da9_dX10_readPart_125.2.2.2.2.1
theorem dX10_readPart_135 : decode cX10_readPart 135 = .ok (.iconst 0, 1) := da9_dX10_readPart_125.2.2.2.2.2.1
theorem dX10_readPart_136 : decode cX10_readPart 136 = .ok (.iconst 5, 1) := da9_dX10_readPart_125.2.2.2.2.2.2.1
theorem dX10_readPart_137 : decode cX10_readPart 137 = .ok (.invokevirtual 218, 3) := da9_dX10_readPart_125.2.2.2.2.2.2.2.1
theorem dX10_readPart_140 : decode cX10_readPart 140 = .ok (.goto 7, 3) := da9_dX10_readPart_125.2.2.2.2.2.2.2.2.1
theorem dX10_readPart_143 : decode cX10_readPart 143 = .ok (.aload_n 0, 1) := da9_dX10_readPart_125.2.2.2.2.2.2.2.2.2.1
theorem dX10_readPart_144 : decode cX10_readPart 144 = .ok (.invokevirtual 202, 3) := da9_dX10_readPart_125.2.2.2.2.2.2.2.2.2.2.1
theorem dX10_readPart_147 : decode cX10_readPart 147 = .ok (.return_, 1) := da9_dX10_readPart_125.2.2.2.2.2.2.2.2.2.2.2
