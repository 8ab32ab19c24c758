set_option maxRecDepth 20000 in
theorem ggX10_readOrder_X10_takes0 : GoodIn wsX10_readOrder wsX10_takes0 := goodIn_r _ [5, 6, 7, 8, 9, 10, 4, 11, 12, 65, 66, 67, 68, 69, 70, 71, 72, 73, 74, 75, 76, 77, 78, 79, 80, 81, 82, 83, 84, 85, 86, 87, 88, 89, 90, 91, 92, 93, 94, 95, 96, 97, 98, 99, 100, 101, 102, 103, 104, 105, 106, 107, 108, 109, 110, 111, 112, 113, 114, 115, 116, 117, 118, 119, 120] rfl (by decide +kernel)
set_option maxRecDepth 20000 in
theorem gX10_readOrder_X10_takes0 : GoodIn wsX10_readOrder (wsV RX10 199 RX10 yX10_takes0 wsX10_takes0) := goodIn_app (goodIn_of _ (by decide +kernel)) ggX10_readOrder_X10_takes0
set_option maxRecDepth 20000 in
theorem ggX10_readOrder_X10_readSum : GoodIn wsX10_readOrder wsX10_readSum := goodIn_r _ [16, 17, 18, 19, 4, 20, 21, 22, 1, 2, 3, 5, 6, 7, 8, 9, 10, 11, 12, 23, 24, 25, 26, 27, 28, 29, 30, 31, 32, 13, 14, 15, 33, 34, 35, 36, 37, 38, 39, 40, 41, 42, 43, 44, 45, 46, 47, 48, 49, 50, 51, 52, 65, 66, 67, 68, 69, 70, 71, 72, 73, 74, 75, 76, 77, 78, 79, 80, 81, 82, 83, 84, 85, 86, 87, 88, 89, 90, 91, 92, 93, 94, 95, 96, 97, 98, 99, 100, 101, 102, 103, 104, 105, 106, 107, 108, 109, 110, 111, 112, 113, 114, 115, 116, 117, 118, 119, 120] rfl (by decide +kernel)
set_option maxRecDepth 20000 in
theorem gX10_readOrder_X10_readSum : GoodIn wsX10_readOrder (wsV RX10 208 RX10 yX10_readSum wsX10_readSum) := goodIn_app (goodIn_of _ (by decide +kernel)) ggX10_readOrder_X10_readSum
set_option maxRecDepth 20000 in
theorem ggX10_readOrder_X10_must : GoodIn wsX10_readOrder wsX10_must := goodIn_r _ [36, 1, 2, 3, 4, 5, 6, 7, 8, 9, 10, 11, 12, 28, 29, 30, 31, 32, 65, 66, 67, 68, 69, 70, 71, 72, 73, 74, 75, 76, 77, 78, 79, 80, 81, 82, 83, 84, 85, 86, 87, 88, 89, 90, 91, 92, 93, 94, 95, 96, 97, 98, 99, 100, 101, 102, 103, 104, 105, 106, 107, 108, 109, 110, 111, 112, 113, 114, 115, 116, 117, 118, 119, 120] rfl (by decide +kernel)
set_option maxRecDepth 20000 in
theorem gX10_readOrder_X10_must : GoodIn wsX10_readOrder (wsV RX10 212 RX10 yX10_must wsX10_must) := goodIn_app (goodIn_of _ (by decide +kernel)) ggX10_readOrder_X10_must
set_option maxRecDepth 20000 in
theorem ggX10_readOrder_X10_mustNumber : GoodIn wsX10_readOrder wsX10_mustNumber := goodIn_r _ [45, 6, 7, 24, 8, 9, 10, 4, 11, 12, 46, 47, 48, 28, 29, 30, 31, 32, 65, 66, 67, 68, 69, 70, 71, 72, 73, 74, 75, 76, 77, 78, 79, 80, 81, 82, 83, 84, 85, 86, 87, 88, 89, 90, 91, 92, 93, 94, 95, 96, 97, 98, 99, 100, 101, 102, 103, 104, 105, 106, 107, 108, 109, 110, 111, 112, 113, 114, 115, 116, 117, 118, 119, 120] rfl (by decide +kernel)
set_option maxRecDepth 20000 in
theorem gX10_readOrder_X10_mustNumber : GoodIn wsX10_readOrder (wsV RX10 218 RX10 yX10_mustNumber wsX10_mustNumber) := goodIn_app (goodIn_of _ (by decide +kernel)) ggX10_readOrder_X10_mustNumber
set_option maxRecDepth 20000 in
theorem ggX10_readOrder_X10_readTest : GoodIn wsX10_readOrder wsX10_readTest := goodIn_r _ [56, 57, 58, 59, 4, 1, 2, 3, 5, 6, 7, 8, 9, 10, 11, 12, 60, 61, 62, 63, 64, 20, 21, 22, 28, 29, 30, 31, 32, 53, 54, 55, 33, 34, 35, 36, 13, 14, 15, 16, 17, 18, 19, 23, 24, 25, 26, 27, 37, 38, 39, 40, 41, 42, 43, 44, 45, 46, 47, 48, 49, 50, 51, 52, 65, 66, 67, 68, 69, 70, 71, 72, 73, 74, 75, 76, 77, 78, 79, 80, 81, 82, 83, 84, 85, 86, 87, 88, 89, 90, 91, 92, 93, 94, 95, 96, 97, 98, 99, 100, 101, 102, 103, 104, 105, 106, 107, 108, 109, 110, 111, 112, 113, 114, 115, 116, 117, 118, 119, 120] rfl (by decide +kernel)
set_option maxRecDepth 20000 in
theorem gX10_readOrder_X10_readTest : GoodIn wsX10_readOrder (wsV RX10 215 RX10 yX10_readTest wsX10_readTest) := goodIn_app (goodIn_of _ (by decide +kernel)) ggX10_readOrder_X10_readTest
theorem da9_dX10_readOrder_0 : (decode cX10_readOrder 0 = .ok (.aload_n 0, 1)) ∧ (decode cX10_readOrder 1 = .ok (.bipush 22, 2)) ∧ (decode cX10_readOrder 3 = .ok (.invokevirtual 199, 3)) ∧ (decode cX10_readOrder 6 = .ok (.ifCond .ne 21, 3)) ∧ (decode cX10_readOrder 9 = .ok (.aload_n 0, 1)) ∧ (decode cX10_readOrder 10 = .ok (.bipush 23, 2)) ∧ (decode cX10_readOrder 12 = .ok (.invokevirtual 199, 3)) ∧ (decode cX10_readOrder 15 = .ok (.ifCond .ne 12, 3)) ∧ (decode cX10_readOrder 18 = .ok (.aload_n 0, 1)) ∧ (decode cX10_readOrder 19 = .ok (.bipush 24, 2)) ∧ (decode cX10_readOrder 21 = .ok (.invokevirtual 199, 3)) ∧ (decode cX10_readOrder 24 = .ok (.ifCond .eq 11, 3)) ∧ (decode cX10_readOrder 27 = .ok (.aload_n 0, 1)) ∧ (decode cX10_readOrder 28 = .ok (.iconst 0, 1)) ∧ (decode cX10_readOrder 29 = .ok (.invokevirtual 208, 3)) ∧ (decode cX10_readOrder 32 = .ok (.goto 9, 3)) := by decide +kernel
theorem dX10_readOrder_0 : decode cX10_readOrder 0 = .ok (.aload_n 0, 1) := da9_dX10_readOrder_0.1
theorem dX10_readOrder_1 : decode cX10_readOrder 1 = .ok (.bipush 22, 2) := da9_dX10_readOrder_0.2.1
theorem dX10_readOrder_3 : decode cX10_readOrder 3 = .ok (.invokevirtual 199, 3) := da9_dX10_readOrder_0.2.2.1
theorem dX10_readOrder_6 : decode cX10_readOrder 6 = .ok (.ifCond .ne 21, 3) := da9_dX10_readOrder_0.2.2.2.1
theorem dX10_readOrder_9 : decode cX10_readOrder 9 = .ok (.aload_n 0, 1) := da9_dX10_readOrder_0.2.2.2.2.1
theorem dX10_readOrder_10 : decode cX10_readOrder 10 = .ok (.bipush 23, 2) := da9_dX10_readOrder_0.2.2.2.2.2.1
theorem dX10_readOrder_12 : decode cX10_readOrder 12 = .ok (.invokevirtual 199, 3) := da9_dX10_readOrder_0.2.2.2.2.2.2.1
theorem dX10_readOrder_15 : decode cX10_readOrder 15 = .ok (.ifCond .ne 12, 3) := da9_dX10_readOrder_0.2.2.2.2.2.2.2.1
theorem dX10_readOrder_18 : decode cX10_readOrder 18 = .ok (.aload_n 0, 1) := da9_dX10_readOrder_0.2.2.2.2.2.2.2.2.1
theorem dX10_readOrder_19 : decode cX10_readOrder 19 = .ok (.bipush 24, 2) := da9_dX10_readOrder_0.2.2.2.2.2.2.2.2.2.1
theorem dX10_readOrder_21 : decode cX10_readOrder 21 = .ok (.invokevirtual 199, 3) := da9_dX10_readOrder_0.2.2.2.2.2.2.2.2.2.2.1
theorem dX10_readOrder_24 : decode cX10_readOrder 24 = .ok (.ifCond .eq 11, 3) := da9_dX10_readOrder_0.2.2.2.2.2.2.2.2.2.2.2.1
theorem dX10_readOrder_27 : decode cX10_readOrder 27 = .ok (.aload_n 0, 1) := da9_dX10_readOrder_0.2.2.2.2.2.2.2.2.2.2.2.2.1
theorem dX10_readOrder_28 : decode cX10_readOrder 28 = .ok (.iconst 0, 1) := da9_dX10_readOrder_0.2.2.2.2.2.2.2.2.2.2.2.2.2.1
theorem dX10_readOrder_29 : decode cX10_readOrder 29 = .ok (.invokevirtual 208, 3) := da9_dX10_readOrder_0.2.2.2.2.2.2.2.2.2.2.2.2.2.2.1
theorem dX10_readOrder_32 : decode cX10_readOrder 32 = .ok (.goto 9, 3) := da9_dX10_readOrder_0.2.2.2.2.2.2.2.2.2.2.2.2.2.2.2
theorem da9_dX10_readOrder_35 : (decode cX10_readOrder 35 = .ok (.aload_n 0, 1)) ∧ (decode cX10_readOrder 36 = .ok (.bipush 25, 2)) ∧ (decode cX10_readOrder 38 = .ok (.invokevirtual 212, 3)) ∧ (decode cX10_readOrder 41 = .ok (.aload_n 0, 1)) ∧ (decode cX10_readOrder 42 = .ok (.bipush 26, 2)) ∧ (decode cX10_readOrder 44 = .ok (.invokevirtual 199, 3)) ∧ (decode cX10_readOrder 47 = .ok (.ifCond .eq 10, 3)) ∧ (decode cX10_readOrder 50 = .ok (.aload_n 0, 1)) ∧ (decode cX10_readOrder 51 = .ok (.iconst 1, 1)) ∧ (decode cX10_readOrder 52 = .ok (.bipush 20, 2)) ∧ (decode cX10_readOrder 54 = .ok (.invokevirtual 218, 3)) ∧ (decode cX10_readOrder 57 = .ok (.aload_n 0, 1)) ∧ (decode cX10_readOrder 58 = .ok (.iconst 4, 1)) ∧ (decode cX10_readOrder 59 = .ok (.invokevirtual 199, 3)) ∧ (decode cX10_readOrder 62 = .ok (.ifCond .eq 8, 3)) ∧ (decode cX10_readOrder 65 = .ok (.aload_n 0, 1)) := by decide +kernel
theorem dX10_readOrder_35 : decode cX10_readOrder 35 = .ok (.aload_n 0, 1) := da9_dX10_readOrder_35.1
theorem dX10_readOrder_36 : decode cX10_readOrder 36 = .ok (.bipush 25, 2) := da9_dX10_readOrder_35.2.1
theorem dX10_readOrder_38 : decode cX10_readOrder 38 = .ok (.invokevirtual 212, 3) := da9_dX10_readOrder_35.2.2.1
theorem dX10_readOrder_41 : decode cX10_readOrder 41 = .ok (.aload_n 0, 1) := da9_dX10_readOrder_35.2.2.2.1
theorem dX10_readOrder_42 : decode cX10_readOrder 42 = .ok (.bipush 26, 2) := da9_dX10_readOrder_35.2.2.2.2.1
theorem dX10_readOrder_44 : decode cX10_readOrder 44 = .ok (.invokevirtual 199, 3) := da9_dX10_readOrder_35.2.2.2.2.2.1
theorem dX10_readOrder_47 : decode cX10_readOrder 47 = .ok (.ifCond .eq 10, 3) := da9_dX10_readOrder_35.2.2.2.2.2.2.1
theorem dX10_readOrder_50 : decode cX10_readOrder 50 = .ok (.aload_n 0, 1) := da9_dX10_readOrder_35.2.2.2.2.2.2.2.1
theorem dX10_readOrder_51 : decode cX10_readOrder 51 = .ok (.iconst 1, 1) := da9_dX10_readOrder_35.2.2.2.2.2.2.2.2.1
theorem dX10_readOrder_52 : decode cX10_readOrder 52 = .ok (.bipush 20, 2) := da9_dX10_readOrder_35.2.2.2.2.2.2.2.2.2.1
theorem dX10_readOrder_54 : decode cX10_readOrder 54 = .ok (.invokevirtual 218, 3) := da9_dX10_readOrder_35.2.2.2.2.2.2.2.2.2.2.1
theorem dX10_readOrder_57 : decode cX10_readOrder 57 = .ok (.aload_n 0, 1) := da9_dX10_readOrder_35.2.2.2.2.2.2.2.2.2.2.2.1
theorem dX10_readOrder_58 : decode cX10_readOrder 58 = .ok (.iconst 4, 1) := da9_dX10_readOrder_35.2.2.2.2.2.2.2.2.2.2.2.2.1
theorem dX10_readOrder_59 : decode cX10_readOrder 59 = .ok (.invokevirtual 199, 3) := da9_dX10_readOrder_35.2.2.2.2.2.2.2.2.2.2.2.2.2.1
theorem dX10_readOrder_62 : decode cX10_readOrder 62 = .ok (.ifCond .eq 8, 3) := da9_dX10_readOrder_35.2.2.2.2.2.2.2.2.2.2.2.2.2.2.1
theorem dX10_readOrder_65 : decode cX10_readOrder 65 = .ok (.aload_n 0, 1) := da9_dX10_readOrder_35.2.2.2.2.2.2.2.2.2.2.2.2.2.2.2
theorem da9_dX10_readOrder_66 : (decode cX10_readOrder 66 = .ok (.iconst 0, 1)) ∧ (decode cX10_readOrder 67 = .ok (.invokevirtual 215, 3)) ∧ (decode cX10_readOrder 70 = .ok (.return_, 1)) := by decide +kernel
theorem dX10_readOrder_66 : decode cX10_readOrder 66 = .ok (.iconst 0, 1) := da9_dX10_readOrder_66.1
theorem dX10_readOrder_67 : decode cX10_readOrder 67 = .ok (.invokevirtual 215, 3) := da9_dX10_readOrder_66.2.1
theorem dX10_readOrder_70 : decode cX10_readOrder 70 = .ok (.return_, 1) := da9_dX10_readOrder_66.2.2
set_option maxRecDepth 20000 in
theorem ggX10_readOne_X10_readOrder : GoodIn wsX10_readOne wsX10_readOrder := goodIn_r _ [6, 7, 8, 9, 5, 10, 11, 12, 13, 14, 15, 16, 17, 18, 19, 20, 21, 22, 23, 24, 25, 26, 27, 28, 29, 30, 31, 1, 32, 33, 34, 35, 36, 37, 38, 39, 40, 41, 42, 43, 44, 45, 46, 47, 48, 49, 50, 51, 52, 53, 54, 55, 56, 57, 58, 59, 60, 61, 62, 63, 64, 65, 66, 67, 68, 73, 74, 75, 76, 77, 78, 79, 80, 81, 82, 83, 84, 85, 86, 87, 88, 89, 90, 91, 92, 93, 94, 95, 96, 97, 98, 99, 100, 101, 102, 103, 104, 105, 106, 107, 108, 109, 110, 111, 112, 113, 114, 115, 116, 117, 118, 119, 120, 121, 122, 123, 124, 125, 126, 127, 128] rfl (by decide +kernel)
set_option maxRecDepth 20000 in
theorem gX10_readOne_X10_readOrder : GoodIn wsX10_readOne (wsV RX10 225 RX10 yX10_readOrder wsX10_readOrder) := goodIn_app (goodIn_of _ (by decide +kernel)) ggX10_readOne_X10_readOrder
set_option maxRecDepth 20000 in
theorem ggX10_readOne_X10_readClause : GoodIn wsX10_readOne wsX10_readClause := goodIn_r _ [72, 7, 8, 9, 5, 10, 11, 12, 13, 14, 15, 16, 17, 18, 19, 20, 21, 22, 23, 24, 25, 26, 27, 28, 29, 30, 31, 1, 32, 33, 34, 35, 36, 37, 38, 39, 40, 41, 42, 43, 44, 45, 46, 47, 48, 49, 50, 51, 52, 53, 54, 55, 56, 57, 58, 59, 60, 61, 62, 63, 64, 65, 66, 67, 68, 73, 74, 75, 76, 77, 78, 79, 80, 81, 82, 83, 84, 85, 86, 87, 88, 89, 90, 91, 92, 93, 94, 95, 96, 97, 98, 99, 100, 101, 102, 103, 104, 105, 106, 107, 108, 109, 110, 111, 112, 113, 114, 115, 116, 117, 118, 119, 120, 121, 122, 123, 124, 125, 126, 127, 128] rfl (by decide +kernel)
set_option maxRecDepth 20000 in
theorem gX10_readOne_X10_readClause : GoodIn wsX10_readOne (wsV RX10 228 RX10 yX10_readClause wsX10_readClause) := goodIn_app (goodIn_of _ (by decide +kernel)) ggX10_readOne_X10_readClause
theorem da9_dX10_readOne_0 : (decode cX10_readOne 0 = .ok (.aload_n 0, 1)) ∧ (decode cX10_readOne 1 = .ok (.getfield 221, 3)) ∧ (decode cX10_readOne 4 = .ok (.ifCond .eq 10, 3)) ∧ (decode cX10_readOne 7 = .ok (.aload_n 0, 1)) ∧ (decode cX10_readOne 8 = .ok (.invokevirtual 225, 3)) ∧ (decode cX10_readOne 11 = .ok (.goto 7, 3)) ∧ (decode cX10_readOne 14 = .ok (.aload_n 0, 1)) ∧ (decode cX10_readOne 15 = .ok (.invokevirtual 228, 3)) ∧ (decode cX10_readOne 18 = .ok (.return_, 1)) := by decide +kernel
theorem dX10_readOne_0 : decode cX10_readOne 0 = .ok (.aload_n 0, 1) := da9_dX10_readOne_0.1
theorem dX10_readOne_1 : decode cX10_readOne 1 = .ok (.getfield 221, 3) := da9_dX10_readOne_0.2.1
theorem dX10_readOne_4 : decode cX10_readOne 4 = .ok (.ifCond .eq 10, 3) := da9_dX10_readOne_0.2.2.1
theorem dX10_readOne_7 : decode cX10_readOne 7 = .ok (.aload_n 0, 1) := da9_dX10_readOne_0.2.2.2.1
theorem dX10_readOne_8 : decode cX10_readOne 8 = .ok (.invokevirtual 225, 3) := da9_dX10_readOne_0.2.2.2.2.1
theorem dX10_readOne_11 : decode cX10_readOne 11 = .ok (.goto 7, 3) := da9_dX10_readOne_0.2.2.2.2.2.1
theorem dX10_readOne_14 : decode cX10_readOne 14 = .ok (.aload_n 0, 1) := da9_dX10_readOne_0.2.2.2.2.2.2.1
theorem dX10_readOne_15 : decode cX10_readOne 15 = .ok (.invokevirtual 228, 3) := da9_dX10_readOne_0.2.2.2.2.2.2.2.1
theorem dX10_readOne_18 : decode cX10_readOne 18 = .ok (.return_, 1) := da9_dX10_readOne_0.2.2.2.2.2.2.2.2
set_option maxRecDepth 20000 in
theorem ggX10_reads_X10_splits : GoodIn wsX10_reads wsX10_splits := goodIn_r _ [11, 5, 12, 13, 14, 15, 16, 17, 18, 10, 19, 20, 21, 22, 23, 24, 25, 26, 27, 97, 98, 99, 100, 101, 102, 103, 104, 105, 106, 107, 108, 109, 110, 111, 112, 113, 114, 115, 116, 117, 118, 119, 120, 121, 122, 123, 124, 125, 126, 127, 128, 129, 130, 131, 132, 133, 134, 135, 136, 137, 138, 139, 140, 141, 142, 143, 144, 145, 146, 147, 148, 149, 150, 151, 152] rfl (by decide +kernel)
set_option maxRecDepth 20000 in
theorem gX10_reads_X10_splits : GoodIn wsX10_reads (wsV RX10 256 RX10 yX10_splits wsX10_splits) := goodIn_app (goodIn_of _ (by decide +kernel)) ggX10_reads_X10_splits
set_option maxRecDepth 20000 in
theorem ggX10_reads_X10_readOne : GoodIn wsX10_reads wsX10_readOne := goodIn_r _ [31, 32, 33, 34, 35, 10, 36, 37, 38, 39, 40, 15, 2, 41, 42, 43, 44, 4, 45, 46, 47, 48, 49, 50, 51, 52, 53, 54, 55, 14, 56, 57, 58, 59, 60, 61, 13, 62, 63, 64, 65, 66, 67, 68, 69, 3, 70, 71, 72, 73, 74, 75, 76, 77, 78, 79, 80, 81, 82, 83, 84, 85, 86, 87, 88, 89, 90, 91, 92, 93, 94, 95, 96, 97, 98, 99, 100, 101, 102, 103, 104, 105, 106, 107, 108, 109, 110, 111, 112, 113, 114, 115, 116, 117, 118, 119, 120, 121, 122, 123, 124, 125, 126, 127, 128, 129, 130, 131, 132, 133, 134, 135, 136, 137, 138, 139, 140, 141, 142, 143, 144, 145, 146, 147, 148, 149, 150, 151, 152] rfl (by decide +kernel)
set_option maxRecDepth 20000 in
theorem gX10_reads_X10_readOne : GoodIn wsX10_reads (wsV RX10 259 RX10 yX10_readOne wsX10_readOne) := goodIn_app (goodIn_of _ (by decide +kernel)) ggX10_reads_X10_readOne
set_option maxRecDepth 20000 in
theorem ggX10_reads_X10_sign : GoodIn wsX10_reads wsX10_sign := goodIn_r _ [54] rfl (by decide +kernel)
set_option maxRecDepth 20000 in
theorem gX10_reads_X10_sign : GoodIn wsX10_reads (va_wsS RX10 237 yX10_sign wsX10_sign) := goodIn_app (goodIn_of _ (by decide +kernel)) ggX10_reads_X10_sign
set_option maxRecDepth 20000 in
theorem ggX10_reads_X10_takes0 : GoodIn wsX10_reads wsX10_takes0 := goodIn_r _ [40, 15, 2, 41, 42, 43, 10, 44, 4, 97, 98, 99, 100, 101, 102, 103, 104, 105, 106, 107, 108, 109, 110, 111, 112, 113, 114, 115, 116, 117, 118, 119, 120, 121, 122, 123, 124, 125, 126, 127, 128, 129, 130, 131, 132, 133, 134, 135, 136, 137, 138, 139, 140, 141, 142, 143, 144, 145, 146, 147, 148, 149, 150, 151, 152] rfl (by decide +kernel)
set_option maxRecDepth 20000 in
theorem gX10_reads_X10_takes0 : GoodIn wsX10_reads (wsV RX10 199 RX10 yX10_takes0 wsX10_takes0) := goodIn_app (goodIn_of _ (by decide +kernel)) ggX10_reads_X10_takes0
set_option maxRecDepth 20000 in
theorem ggX10_reads_X10_faults : GoodIn wsX10_reads wsX10_faults := goodIn_r _ [61, 13, 2, 4, 41, 42, 43, 10, 44, 97, 98, 99, 100, 101, 102, 103, 104, 105, 106, 107, 108, 109, 110, 111, 112, 113, 114, 115, 116, 117, 118, 119, 120, 121, 122, 123, 124, 125, 126, 127, 128, 129, 130, 131, 132, 133, 134, 135, 136, 137, 138, 139, 140, 141, 142, 143, 144, 145, 146, 147, 148, 149, 150, 151, 152] rfl (by decide +kernel)
set_option maxRecDepth 20000 in
theorem gX10_reads_X10_faults : GoodIn wsX10_reads (wsV RX10 202 RX10 yX10_faults wsX10_faults) := goodIn_app (goodIn_of _ (by decide +kernel)) ggX10_reads_X10_faults
set_option maxRecDepth 20000 in
theorem ggX10_reads_X10_fine : GoodIn wsX10_reads wsX10_fine := goodIn_r _ [44, 4, 97, 98, 99, 100, 101, 102, 103, 104, 105, 106, 107, 108, 109, 110, 111, 112, 113, 114, 115, 116, 117, 118, 119, 120, 121, 122, 123, 124, 125, 126, 127, 128, 129, 130, 131, 132, 133, 134, 135, 136, 137, 138, 139, 140, 141, 142, 143, 144, 145, 146, 147, 148, 149, 150, 151, 152] rfl (by decide +kernel)
set_option maxRecDepth 20000 in
theorem gX10_reads_X10_fine : GoodIn wsX10_reads (wsV RX10 192 RX10 yX10_fine wsX10_fine) := goodIn_app (goodIn_of _ (by decide +kernel)) ggX10_reads_X10_fine
theorem da9_dX10_reads_0 : (decode cX10_reads 0 = .ok (.aload_n 0, 1)) ∧ (decode cX10_reads 1 = .ok (.aload_n 0, 1)) ∧ (decode cX10_reads 2 = .ok (.getfield 169, 3)) ∧ (decode cX10_reads 5 = .ok (.invokevirtual 256, 3)) ∧ (decode cX10_reads 8 = .ok (.aload_n 0, 1)) ∧ (decode cX10_reads 9 = .ok (.iconst 0, 1)) ∧ (decode cX10_reads 10 = .ok (.putfield 169, 3)) ∧ (decode cX10_reads 13 = .ok (.aload_n 0, 1)) ∧ (decode cX10_reads 14 = .ok (.iconst 0, 1)) ∧ (decode cX10_reads 15 = .ok (.putfield 196, 3)) ∧ (decode cX10_reads 18 = .ok (.aload_n 0, 1)) ∧ (decode cX10_reads 19 = .ok (.iconst 0, 1)) ∧ (decode cX10_reads 20 = .ok (.putfield 205, 3)) ∧ (decode cX10_reads 23 = .ok (.aload_n 0, 1)) ∧ (decode cX10_reads 24 = .ok (.iconst (-1), 1)) ∧ (decode cX10_reads 25 = .ok (.putfield 189, 3)) := by decide +kernel
theorem dX10_reads_0 : decode cX10_reads 0 = .ok (.aload_n 0, 1) := da9_dX10_reads_0.1
theorem dX10_reads_1 : decode cX10_reads 1 = .ok (.aload_n 0, 1) := da9_dX10_reads_0.2.1
theorem dX10_reads_2 : decode cX10_reads 2 = .ok (.getfield 169, 3) := da9_dX10_reads_0.2.2.1
theorem dX10_reads_5 : decode cX10_reads 5 = .ok (.invokevirtual 256, 3) := da9_dX10_reads_0.2.2.2.1
theorem dX10_reads_8 : decode cX10_reads 8 = .ok (.aload_n 0, 1) := da9_dX10_reads_0.2.2.2.2.1
theorem dX10_reads_9 : decode cX10_reads 9 = .ok (.iconst 0, 1) := da9_dX10_reads_0.2.2.2.2.2.1
theorem dX10_reads_10 : decode cX10_reads 10 = .ok (.putfield 169, 3) := da9_dX10_reads_0.2.2.2.2.2.2.1
theorem dX10_reads_13 : decode cX10_reads 13 = .ok (.aload_n 0, 1) := da9_dX10_reads_0.2.2.2.2.2.2.2.1
theorem dX10_reads_14 : decode cX10_reads 14 = .ok (.iconst 0, 1) := da9_dX10_reads_0.2.2.2.2.2.2.2.2.1
theorem dX10_reads_15 : decode cX10_reads 15 = .ok (.putfield 196, 3) := da9_dX10_reads_0.2.2.2.2.2.2.2.2.2.1
theorem dX10_reads_18 : decode cX10_reads 18 = .ok (.aload_n 0, 1) := da9_dX10_reads_0.2.2.2.2.2.2.2.2.2.2.1
theorem dX10_reads_19 : decode cX10_reads 19 = .ok (.iconst 0, 1) := da9_dX10_reads_0.2.2.2.2.2.2.2.2.2.2.2.1
theorem dX10_reads_20 : decode cX10_reads 20 = .ok (.putfield 205, 3) := da9_dX10_reads_0.2.2.2.2.2.2.2.2.2.2.2.2.1
theorem dX10_reads_23 : decode cX10_reads 23 = .ok (.aload_n 0, 1) := da9_dX10_reads_0.2.2.2.2.2.2.2.2.2.2.2.2.2.1
theorem dX10_reads_24 : decode cX10_reads 24 = .ok (.iconst (-1), 1) := da9_dX10_reads_0.2.2.2.2.2.2.2.2.2.2.2.2.2.2.1
theorem dX10_reads_25 : decode cX10_reads 25 = .ok (.putfield 189, 3) := da9_dX10_reads_0.2.2.2.2.2.2.2.2.2.2.2.2.2.2.2
theorem da9_dX10_reads_28 : (decode cX10_reads 28 = .ok (.aload_n 0, 1)) ∧ (decode cX10_reads 29 = .ok (.invokevirtual 259, 3)) ∧ (decode cX10_reads 32 = .ok (.iconst 1, 1)) ∧ (decode cX10_reads 33 = .ok (.istore_n 1, 1)) ∧ (decode cX10_reads 34 = .ok (.aload_n 0, 1)) ∧ (decode cX10_reads 35 = .ok (.bipush 59, 2)) ∧ (decode cX10_reads 37 = .ok (.invokestatic 237, 3)) ∧ (decode cX10_reads 40 = .ok (.invokevirtual 199, 3)) ∧ (decode cX10_reads 43 = .ok (.ifCond .eq 30, 3)) ∧ (decode cX10_reads 46 = .ok (.iload_n 1, 1)) ∧ (decode cX10_reads 47 = .ok (.bipush 12, 2)) ∧ (decode cX10_reads 49 = .ok (.if_icmp .ne 7, 3)) ∧ (decode cX10_reads 52 = .ok (.aload_n 0, 1)) ∧ (decode cX10_reads 53 = .ok (.invokevirtual 202, 3)) ∧ (decode cX10_reads 56 = .ok (.aload_n 0, 1)) ∧ (decode cX10_reads 57 = .ok (.invokevirtual 192, 3)) := by decide +kernel
theorem dX10_reads_28 : decode cX10_reads 28 = .ok (.aload_n 0, 1) := da9_dX10_reads_28.1
theorem dX10_reads_29 : decode cX10_reads 29 = .ok (.invokevirtual 259, 3) := da9_dX10_reads_28.2.1
theorem dX10_reads_32 : decode cX10_reads 32 = .ok (.iconst 1, 1) := da9_dX10_reads_28.2.2.1
theorem dX10_reads_33 : decode cX10_reads 33 = .ok (.istore_n 1, 1) := da9_dX10_reads_28.2.2.2.1
theorem dX10_reads_34 : decode cX10_reads 34 = .ok (.aload_n 0, 1) := da9_dX10_reads_28.2.2.2.2.1
theorem dX10_reads_35 : decode cX10_reads 35 = .ok (.bipush 59, 2) := da9_dX10_reads_28.2.2.2.2.2.1
theorem dX10_reads_37 : decode cX10_reads 37 = .ok (.invokestatic 237, 3) := da9_dX10_reads_28.2.2.2.2.2.2.1
theorem dX10_reads_40 : decode cX10_reads 40 = .ok (.invokevirtual 199, 3) := da9_dX10_reads_28.2.2.2.2.2.2.2.1
theorem dX10_reads_43 : decode cX10_reads 43 = .ok (.ifCond .eq 30, 3) := da9_dX10_reads_28.2.2.2.2.2.2.2.2.1
theorem dX10_reads_46 : decode cX10_reads 46 = .ok (.iload_n 1, 1) := da9_dX10_reads_28.2.2.2.2.2.2.2.2.2.1
theorem dX10_reads_47 : decode cX10_reads 47 = .ok (.bipush 12, 2) := da9_dX10_reads_28.2.2.2.2.2.2.2.2.2.2.1
theorem dX10_reads_49 : decode cX10_reads 49 = .ok (.if_icmp .ne 7, 3) := da9_dX10_reads_28.2.2.2.2.2.2.2.2.2.2.2.1
theorem dX10_reads_52 : decode cX10_reads 52 = .ok (.aload_n 0, 1) := da9_dX10_reads_28.2.2.2.2.2.2.2.2.2.2.2.2.1
theorem dX10_reads_53 : decode cX10_reads 53 = .ok (.invokevirtual 202, 3) := da9_dX10_reads_28.2.2.2.2.2.2.2.2.2.2.2.2.2.1
theorem dX10_reads_56 : decode cX10_reads 56 = .ok (.aload_n 0, 1) := da9_dX10_reads_28.2.2.2.2.2.2.2.2.2.2.2.2.2.2.1
theorem dX10_reads_57 : decode cX10_reads 57 = .ok (.invokevirtual 192, 3) := da9_dX10_reads_28.2.2.2.2.2.2.2.2.2.2.2.2.2.2.2
theorem da9_dX10_reads_60 : (decode cX10_reads 60 = .ok (.ifCond .eq 7, 3)) ∧ (decode cX10_reads 63 = .ok (.aload_n 0, 1)) ∧ (decode cX10_reads 64 = .ok (.invokevirtual 259, 3)) ∧ (decode cX10_reads 67 = .ok (.iinc 1 1, 3)) ∧ (decode cX10_reads 70 = .ok (.goto (-36), 3)) ∧ (decode cX10_reads 73 = .ok (.aload_n 0, 1)) ∧ (decode cX10_reads 74 = .ok (.invokevirtual 192, 3)) ∧ (decode cX10_reads 77 = .ok (.ifCond .eq 18, 3)) ∧ (decode cX10_reads 80 = .ok (.aload_n 0, 1)) ∧ (decode cX10_reads 81 = .ok (.getfield 196, 3)) ∧ (decode cX10_reads 84 = .ok (.aload_n 0, 1)) ∧ (decode cX10_reads 85 = .ok (.getfield 175, 3)) ∧ (decode cX10_reads 88 = .ok (.if_icmp .ge 7, 3)) ∧ (decode cX10_reads 91 = .ok (.aload_n 0, 1)) ∧ (decode cX10_reads 92 = .ok (.invokevirtual 202, 3)) ∧ (decode cX10_reads 95 = .ok (.aload_n 0, 1)) := by decide +kernel
theorem dX10_reads_60 : decode cX10_reads 60 = .ok (.ifCond .eq 7, 3) := da9_dX10_reads_60.1
theorem dX10_reads_63 : decode cX10_reads 63 = .ok (.aload_n 0, 1) := da9_dX10_reads_60.2.1
theorem dX10_reads_64 : decode cX10_reads 64 = .ok (.invokevirtual 259, 3) := da9_dX10_reads_60.2.2.1
theorem dX10_reads_67 : decode cX10_reads 67 = .ok (.iinc 1 1, 3) := da9_dX10_reads_60.2.2.2.1
theorem dX10_reads_70 : decode cX10_reads 70 = .ok (.goto (-36), 3) := da9_dX10_reads_60.2.2.2.2.1
theorem dX10_reads_73 : decode cX10_reads 73 = .ok (.aload_n 0, 1) := da9_dX10_reads_60.2.2.2.2.2.1
theorem dX10_reads_74 : decode cX10_reads 74 = .ok (.invokevirtual 192, 3) := da9_dX10_reads_60.2.2.2.2.2.2.1
theorem dX10_reads_77 : decode cX10_reads 77 = .ok (.ifCond .eq 18, 3) := da9_dX10_reads_60.2.2.2.2.2.2.2.1
theorem dX10_reads_80 : decode cX10_reads 80 = .ok (.aload_n 0, 1) := da9_dX10_reads_60.2.2.2.2.2.2.2.2.1
theorem dX10_reads_81 : decode cX10_reads 81 = .ok (.getfield 196, 3) := da9_dX10_reads_60.2.2.2.2.2.2.2.2.2.1
theorem dX10_reads_84 : decode cX10_reads 84 = .ok (.aload_n 0, 1) := da9_dX10_reads_60.2.2.2.2.2.2.2.2.2.2.1
theorem dX10_reads_85 : decode cX10_reads 85 = .ok (.getfield 175, 3) := da9_dX10_reads_60.2.2.2.2.2.2.2.2.2.2.2.1
theorem dX10_reads_88 : decode cX10_reads 88 = .ok (.if_icmp .ge 7, 3) := da9_dX10_reads_60.2.2.2.2.2.2.2.2.2.2.2.2.1
theorem dX10_reads_91 : decode cX10_reads 91 = .ok (.aload_n 0, 1) := da9_dX10_reads_60.2.2.2.2.2.2.2.2.2.2.2.2.2.1
theorem dX10_reads_92 : decode cX10_reads 92 = .ok (.invokevirtual 202, 3) := da9_dX10_reads_60.2.2.2.2.2.2.2.2.2.2.2.2.2.2.1
theorem dX10_reads_95 : decode cX10_reads 95 = .ok (.aload_n 0, 1) := da9_dX10_reads_60.2.2.2.2.2.2.2.2.2.2.2.2.2.2.2
theorem da9_dX10_reads_96 : (decode cX10_reads 96 = .ok (.aload_n 0, 1)) ∧ (decode cX10_reads 97 = .ok (.getfield 189, 3)) ∧ (decode cX10_reads 100 = .ok (.putfield 51, 3)) ∧ (decode cX10_reads 103 = .ok (.aload_n 0, 1)) ∧ (decode cX10_reads 104 = .ok (.invokevirtual 192, 3)) ∧ (decode cX10_reads 107 = .ok (.ireturn, 1)) := by decide +kernel
theorem dX10_reads_96 : decode cX10_reads 96 = .ok (.aload_n 0, 1) := da9_dX10_reads_96.1
theorem dX10_reads_97 : decode cX10_reads 97 = .ok (.getfield 189, 3) := da9_dX10_reads_96.2.1
theorem dX10_reads_100 : decode cX10_reads 100 = .ok (.putfield 51, 3) := da9_dX10_reads_96.2.2.1
theorem dX10_reads_103 : decode cX10_reads 103 = .ok (.aload_n 0, 1) := da9_dX10_reads_96.2.2.2.1
theorem dX10_reads_104 : decode cX10_reads 104 = .ok (.invokevirtual 192, 3) := da9_dX10_reads_96.2.2.2.2.1
theorem dX10_reads_107 : decode cX10_reads 107 = .ok (.ireturn, 1) := da9_dX10_reads_96.2.2.2.2.2
set_option maxRecDepth 20000 in
theorem ggX10_readsAs_X10_reads : GoodIn wsX10_readsAs wsX10_reads := goodIn_r _ [8, 9, 10, 11, 12, 13, 14, 15, 16, 17, 7, 18, 19, 20, 21, 22, 23, 24, 25, 26, 27, 28, 29, 30, 31, 32, 33, 34, 35, 36, 37, 38, 1, 39, 40, 41, 42, 43, 44, 45, 46, 47, 48, 49, 50, 51, 52, 53, 54, 55, 56, 57, 58, 59, 60, 61, 2, 3, 62, 63, 64, 65, 66, 67, 68, 69, 70, 71, 72, 73, 74, 75, 76, 77, 78, 79, 80, 81, 82, 83, 84, 85, 86, 87, 88, 89, 90, 91, 92, 93, 94, 95, 96, 97, 98, 99, 100, 101, 102, 103, 104, 105, 106, 107, 108, 109, 110, 111, 112, 113, 114, 115, 116, 117, 118, 119, 120, 121, 122, 123, 124, 125, 126, 127, 128, 129, 130, 131, 132, 133, 134, 135, 136, 137, 138, 139, 140, 141, 142, 143, 144, 145, 146, 147, 148, 149, 150, 151, 152, 153, 154, 155, 156] rfl (by decide +kernel)
set_option maxRecDepth 20000 in
theorem gX10_readsAs_X10_reads : GoodIn wsX10_readsAs (wsV RX10 262 RX10 yX10_reads wsX10_reads) := goodIn_app (goodIn_of _ (by decide +kernel)) ggX10_readsAs_X10_reads
theorem da9_dX10_readsAs_0 : (decode cX10_readsAs 0 = .ok (.aload_n 0, 1)) ∧ (decode cX10_readsAs 1 = .ok (.iload_n 1, 1)) ∧ (decode cX10_readsAs 2 = .ok (.putfield 221, 3)) ∧ (decode cX10_readsAs 5 = .ok (.aload_n 0, 1)) ∧ (decode cX10_readsAs 6 = .ok (.iload_n 1, 1)) ∧ (decode cX10_readsAs 7 = .ok (.ifCond .eq 8, 3)) ∧ (decode cX10_readsAs 10 = .ok (.bipush 15, 2)) ∧ (decode cX10_readsAs 12 = .ok (.goto 5, 3)) ∧ (decode cX10_readsAs 15 = .ok (.bipush 8, 2)) ∧ (decode cX10_readsAs 17 = .ok (.putfield 247, 3)) ∧ (decode cX10_readsAs 20 = .ok (.aload_n 0, 1)) ∧ (decode cX10_readsAs 21 = .ok (.iload_n 1, 1)) ∧ (decode cX10_readsAs 22 = .ok (.ifCond .eq 8, 3)) ∧ (decode cX10_readsAs 25 = .ok (.bipush 21, 2)) ∧ (decode cX10_readsAs 27 = .ok (.goto 5, 3)) ∧ (decode cX10_readsAs 30 = .ok (.bipush 16, 2)) := by decide +kernel
theorem dX10_readsAs_0 : decode cX10_readsAs 0 = .ok (.aload_n 0, 1) := da9_dX10_readsAs_0.1
theorem dX10_readsAs_1 : decode cX10_readsAs 1 = .ok (.iload_n 1, 1) := da9_dX10_readsAs_0.2.1
theorem dX10_readsAs_2 : decode cX10_readsAs 2 = .ok (.putfield 221, 3) := da9_dX10_readsAs_0.2.2.1
theorem dX10_readsAs_5 : decode cX10_readsAs 5 = .ok (.aload_n 0, 1) := da9_dX10_readsAs_0.2.2.2.1
theorem dX10_readsAs_6 : decode cX10_readsAs 6 = .ok (.iload_n 1, 1) := da9_dX10_readsAs_0.2.2.2.2.1
theorem dX10_readsAs_7 : decode cX10_readsAs 7 = .ok (.ifCond .eq 8, 3) := da9_dX10_readsAs_0.2.2.2.2.2.1
theorem dX10_readsAs_10 : decode cX10_readsAs 10 = .ok (.bipush 15, 2) := da9_dX10_readsAs_0.2.2.2.2.2.2.1
theorem dX10_readsAs_12 : decode cX10_readsAs 12 = .ok (.goto 5, 3) := da9_dX10_readsAs_0.2.2.2.2.2.2.2.1
theorem dX10_readsAs_15 : decode cX10_readsAs 15 = .ok (.bipush 8, 2) := da9_dX10_readsAs_0.2.2.2.2.2.2.2.2.1
theorem dX10_readsAs_17 : decode cX10_readsAs 17 = .ok (.putfield 247, 3) := da9_dX10_readsAs_0.2.2.2.2.2.2.2.2.2.1
theorem dX10_readsAs_20 : decode cX10_readsAs 20 = .ok (.aload_n 0, 1) := da9_dX10_readsAs_0.2.2.2.2.2.2.2.2.2.2.1
theorem dX10_readsAs_21 : decode cX10_readsAs 21 = .ok (.iload_n 1, 1) := da9_dX10_readsAs_0.2.2.2.2.2.2.2.2.2.2.2.1
theorem dX10_readsAs_22 : decode cX10_readsAs 22 = .ok (.ifCond .eq 8, 3) := da9_dX10_readsAs_0.2.2.2.2.2.2.2.2.2.2.2.2.1
theorem dX10_readsAs_25 : decode cX10_readsAs 25 = .ok (.bipush 21, 2) := da9_dX10_readsAs_0.2.2.2.2.2.2.2.2.2.2.2.2.2.1
theorem dX10_readsAs_27 : decode cX10_readsAs 27 = .ok (.goto 5, 3) := da9_dX10_readsAs_0.2.2.2.2.2.2.2.2.2.2.2.2.2.2.1
theorem dX10_readsAs_30 : decode cX10_readsAs 30 = .ok (.bipush 16, 2) := da9_dX10_readsAs_0.2.2.2.2.2.2.2.2.2.2.2.2.2.2.2
theorem da9_dX10_readsAs_32 : (decode cX10_readsAs 32 = .ok (.putfield 250, 3)) ∧ (decode cX10_readsAs 35 = .ok (.aload_n 0, 1)) ∧ (decode cX10_readsAs 36 = .ok (.invokevirtual 262, 3)) ∧ (decode cX10_readsAs 39 = .ok (.ireturn, 1)) := by decide +kernel
theorem dX10_readsAs_32 : decode cX10_readsAs 32 = .ok (.putfield 250, 3) := da9_dX10_readsAs_32.1
theorem dX10_readsAs_35 : decode cX10_readsAs 35 = .ok (.aload_n 0, 1) := da9_dX10_readsAs_32.2.1
theorem dX10_readsAs_36 : decode cX10_readsAs 36 = .ok (.invokevirtual 262, 3) := da9_dX10_readsAs_32.2.2.1
theorem dX10_readsAs_39 : decode cX10_readsAs 39 = .ok (.ireturn, 1) := da9_dX10_readsAs_32.2.2.2
theorem da9_dX10_lays_0 : (decode cX10_lays 0 = .ok (.aload_n 0, 1)) ∧ (decode cX10_lays 1 = .ok (.getfield 28, 3)) ∧ (decode cX10_lays 4 = .ok (.bipush 33, 2)) ∧ (decode cX10_lays 6 = .ok (.iload_n 1, 1)) ∧ (decode cX10_lays 7 = .ok (.iadd, 1)) ∧ (decode cX10_lays 8 = .ok (.aload_n 0, 1)) ∧ (decode cX10_lays 9 = .ok (.getfield 175, 3)) ∧ (decode cX10_lays 12 = .ok (.iastore, 1)) ∧ (decode cX10_lays 13 = .ok (.iconst 0, 1)) ∧ (decode cX10_lays 14 = .ok (.istore_n 2, 1)) ∧ (decode cX10_lays 15 = .ok (.iload_n 2, 1)) ∧ (decode cX10_lays 16 = .ok (.aload_n 0, 1)) ∧ (decode cX10_lays 17 = .ok (.getfield 175, 3)) ∧ (decode cX10_lays 20 = .ok (.if_icmp .ge 52, 3)) ∧ (decode cX10_lays 23 = .ok (.aload_n 0, 1)) ∧ (decode cX10_lays 24 = .ok (.getfield 28, 3)) := by decide +kernel
theorem dX10_lays_0 : decode cX10_lays 0 = .ok (.aload_n 0, 1) := da9_dX10_lays_0.1
theorem dX10_lays_1 : decode cX10_lays 1 = .ok (.getfield 28, 3) := da9_dX10_lays_0.2.1
theorem dX10_lays_4 : decode cX10_lays 4 = .ok (.bipush 33, 2) := da9_dX10_lays_0.2.2.1
theorem dX10_lays_6 : decode cX10_lays 6 = .ok (.iload_n 1, 1) := da9_dX10_lays_0.2.2.2.1
theorem dX10_lays_7 : decode cX10_lays 7 = .ok (.iadd, 1) := da9_dX10_lays_0.2.2.2.2.1
theorem dX10_lays_8 : decode cX10_lays 8 = .ok (.aload_n 0, 1) := da9_dX10_lays_0.2.2.2.2.2.1
theorem dX10_lays_9 : decode cX10_lays 9 = .ok (.getfield 175, 3) := da9_dX10_lays_0.2.2.2.2.2.2.1
theorem dX10_lays_12 : decode cX10_lays 12 = .ok (.iastore, 1) := da9_dX10_lays_0.2.2.2.2.2.2.2.1
theorem dX10_lays_13 : decode cX10_lays 13 = .ok (.iconst 0, 1) := da9_dX10_lays_0.2.2.2.2.2.2.2.2.1
theorem dX10_lays_14 : decode cX10_lays 14 = .ok (.istore_n 2, 1) := da9_dX10_lays_0.2.2.2.2.2.2.2.2.2.1
theorem dX10_lays_15 : decode cX10_lays 15 = .ok (.iload_n 2, 1) := da9_dX10_lays_0.2.2.2.2.2.2.2.2.2.2.1
theorem dX10_lays_16 : decode cX10_lays 16 = .ok (.aload_n 0, 1) := da9_dX10_lays_0.2.2.2.2.2.2.2.2.2.2.2.1
theorem dX10_lays_17 : decode cX10_lays 17 = .ok (.getfield 175, 3) := da9_dX10_lays_0.2.2.2.2.2.2.2.2.2.2.2.2.1
theorem dX10_lays_20 : decode cX10_lays 20 = .ok (.if_icmp .ge 52, 3) := da9_dX10_lays_0.2.2.2.2.2.2.2.2.2.2.2.2.2.1
theorem dX10_lays_23 : decode cX10_lays 23 = .ok (.aload_n 0, 1) := da9_dX10_lays_0.2.2.2.2.2.2.2.2.2.2.2.2.2.2.1
theorem dX10_lays_24 : decode cX10_lays 24 = .ok (.getfield 28, 3) := da9_dX10_lays_0.2.2.2.2.2.2.2.2.2.2.2.2.2.2.2
theorem da9_dX10_lays_27 : (decode cX10_lays 27 = .ok (.bipush 40, 2)) ∧ (decode cX10_lays 29 = .ok (.sipush 400, 3)) ∧ (decode cX10_lays 32 = .ok (.iload_n 1, 1)) ∧ (decode cX10_lays 33 = .ok (.imul, 1)) ∧ (decode cX10_lays 34 = .ok (.iadd, 1)) ∧ (decode cX10_lays 35 = .ok (.iload_n 2, 1)) ∧ (decode cX10_lays 36 = .ok (.iadd, 1)) ∧ (decode cX10_lays 37 = .ok (.aload_n 0, 1)) ∧ (decode cX10_lays 38 = .ok (.getfield 54, 3)) ∧ (decode cX10_lays 41 = .ok (.iload_n 2, 1)) ∧ (decode cX10_lays 42 = .ok (.iaload, 1)) ∧ (decode cX10_lays 43 = .ok (.iastore, 1)) ∧ (decode cX10_lays 44 = .ok (.aload_n 0, 1)) ∧ (decode cX10_lays 45 = .ok (.getfield 28, 3)) ∧ (decode cX10_lays 48 = .ok (.sipush 2840, 3)) ∧ (decode cX10_lays 51 = .ok (.sipush 400, 3)) := by decide +kernel
theorem dX10_lays_27 : decode cX10_lays 27 = .ok (.bipush 40, 2) := da9_dX10_lays_27.1
theorem dX10_lays_29 : decode cX10_lays 29 = .ok (.sipush 400, 3) := da9_dX10_lays_27.2.1
theorem dX10_lays_32 : decode cX10_lays 32 = .ok (.iload_n 1, 1) := da9_dX10_lays_27.2.2.1
theorem dX10_lays_33 : decode cX10_lays 33 = .ok (.imul, 1) := da9_dX10_lays_27.2.2.2.1
theorem dX10_lays_34 : decode cX10_lays 34 = .ok (.iadd, 1) := da9_dX10_lays_27.2.2.2.2.1
theorem dX10_lays_35 : decode cX10_lays 35 = .ok (.iload_n 2, 1) := da9_dX10_lays_27.2.2.2.2.2.1
theorem dX10_lays_36 : decode cX10_lays 36 = .ok (.iadd, 1) := da9_dX10_lays_27.2.2.2.2.2.2.1
theorem dX10_lays_37 : decode cX10_lays 37 = .ok (.aload_n 0, 1) := da9_dX10_lays_27.2.2.2.2.2.2.2.1
theorem dX10_lays_38 : decode cX10_lays 38 = .ok (.getfield 54, 3) := da9_dX10_lays_27.2.2.2.2.2.2.2.2.1
theorem dX10_lays_41 : decode cX10_lays 41 = .ok (.iload_n 2, 1) := da9_dX10_lays_27.2.2.2.2.2.2.2.2.2.1
theorem dX10_lays_42 : decode cX10_lays 42 = .ok (.iaload, 1) := da9_dX10_lays_27.2.2.2.2.2.2.2.2.2.2.1
theorem dX10_lays_43 : decode cX10_lays 43 = .ok (.iastore, 1) := da9_dX10_lays_27.2.2.2.2.2.2.2.2.2.2.2.1
theorem dX10_lays_44 : decode cX10_lays 44 = .ok (.aload_n 0, 1) := da9_dX10_lays_27.2.2.2.2.2.2.2.2.2.2.2.2.1
theorem dX10_lays_45 : decode cX10_lays 45 = .ok (.getfield 28, 3) := da9_dX10_lays_27.2.2.2.2.2.2.2.2.2.2.2.2.2.1
theorem dX10_lays_48 : decode cX10_lays 48 = .ok (.sipush 2840, 3) := da9_dX10_lays_27.2.2.2.2.2.2.2.2.2.2.2.2.2.2.1
theorem dX10_lays_51 : decode cX10_lays 51 = .ok (.sipush 400, 3) := da9_dX10_lays_27.2.2.2.2.2.2.2.2.2.2.2.2.2.2.2
theorem da9_dX10_lays_54 : (decode cX10_lays 54 = .ok (.iload_n 1, 1)) ∧ (decode cX10_lays 55 = .ok (.imul, 1)) ∧ (decode cX10_lays 56 = .ok (.iadd, 1)) ∧ (decode cX10_lays 57 = .ok (.iload_n 2, 1)) ∧ (decode cX10_lays 58 = .ok (.iadd, 1)) ∧ (decode cX10_lays 59 = .ok (.aload_n 0, 1)) ∧ (decode cX10_lays 60 = .ok (.getfield 57, 3)) ∧ (decode cX10_lays 63 = .ok (.iload_n 2, 1)) ∧ (decode cX10_lays 64 = .ok (.iaload, 1)) ∧ (decode cX10_lays 65 = .ok (.iastore, 1)) ∧ (decode cX10_lays 66 = .ok (.iinc 2 1, 3)) ∧ (decode cX10_lays 69 = .ok (.goto (-54), 3)) ∧ (decode cX10_lays 72 = .ok (.return_, 1)) := by decide +kernel
theorem dX10_lays_54 : decode cX10_lays 54 = .ok (.iload_n 1, 1) := da9_dX10_lays_54.1
theorem dX10_lays_55 : decode cX10_lays 55 = .ok (.imul, 1) := da9_dX10_lays_54.2.1
theorem dX10_lays_56 : decode cX10_lays 56 = .ok (.iadd, 1) := da9_dX10_lays_54.2.2.1
theorem dX10_lays_57 : decode cX10_lays 57 = .ok (.iload_n 2, 1) := da9_dX10_lays_54.2.2.2.1
theorem dX10_lays_58 : decode cX10_lays 58 = .ok (.iadd, 1) := da9_dX10_lays_54.2.2.2.2.1
theorem dX10_lays_59 : decode cX10_lays 59 = .ok (.aload_n 0, 1) := da9_dX10_lays_54.2.2.2.2.2.1
theorem dX10_lays_60 : decode cX10_lays 60 = .ok (.getfield 57, 3) := da9_dX10_lays_54.2.2.2.2.2.2.1
theorem dX10_lays_63 : decode cX10_lays 63 = .ok (.iload_n 2, 1) := da9_dX10_lays_54.2.2.2.2.2.2.2.1
theorem dX10_lays_64 : decode cX10_lays 64 = .ok (.iaload, 1) := da9_dX10_lays_54.2.2.2.2.2.2.2.2.1
theorem dX10_lays_65 : decode cX10_lays 65 = .ok (.iastore, 1) := da9_dX10_lays_54.2.2.2.2.2.2.2.2.2.1
theorem dX10_lays_66 : decode cX10_lays 66 = .ok (.iinc 2 1, 3) := da9_dX10_lays_54.2.2.2.2.2.2.2.2.2.2.1
theorem dX10_lays_69 : decode cX10_lays 69 = .ok (.goto (-54), 3) := da9_dX10_lays_54.2.2.2.2.2.2.2.2.2.2.2.1
theorem dX10_lays_72 : decode cX10_lays 72 = .ok (.return_, 1) := da9_dX10_lays_54.2.2.2.2.2.2.2.2.2.2.2.2
set_option maxRecDepth 20000 in
theorem ggX10_law_X10_refuses : GoodIn wsX10_law wsX10_refuses := goodIn_r _ [7, 8, 9, 120, 121, 122, 123, 124, 125, 126, 127, 128, 129, 130, 131, 132, 133, 134, 135, 136, 137, 138, 139, 140, 141, 142, 143, 144, 145, 146, 147, 148, 149, 150, 151, 152, 153, 154, 155, 156, 157, 158, 159, 160, 161, 162, 163, 164, 165, 166, 167, 168, 169, 170, 171, 172, 173, 174, 175] rfl (by decide +kernel)
set_option maxRecDepth 20000 in
theorem gX10_law_X10_refuses : GoodIn wsX10_law (wsV RX10 119 RX10 yX10_refuses wsX10_refuses) := goodIn_app (goodIn_of _ (by decide +kernel)) ggX10_law_X10_refuses
set_option maxRecDepth 20000 in
theorem ggX10_law_X10_readsAs : GoodIn wsX10_law wsX10_readsAs := goodIn_r _ [13, 14, 15, 16, 17, 18, 19, 6, 20, 2, 21, 22, 23, 24, 25, 26, 27, 28, 29, 30, 31, 32, 33, 34, 35, 36, 37, 38, 39, 40, 41, 42, 43, 44, 45, 46, 47, 48, 49, 50, 51, 52, 53, 54, 55, 56, 57, 58, 59, 60, 61, 62, 63, 64, 65, 66, 67, 68, 69, 70, 71, 72, 73, 74, 75, 76, 77, 78, 79, 80, 81, 82, 83, 84, 85, 86, 87, 88, 89, 90, 91, 92, 93, 94, 95, 96, 97, 98, 99, 100, 101, 102, 103, 104, 105, 106, 107, 108, 109, 110, 111, 120, 121, 122, 123, 124, 125, 126, 127, 128, 129, 130, 131, 132, 133, 134, 135, 136, 137, 138, 139, 140, 141, 142, 143, 144, 145, 146, 147, 148, 149, 150, 151, 152, 153, 154, 155, 156, 157, 158, 159, 160, 161, 162, 163, 164, 165, 166, 167, 168, 169, 170, 171, 172, 173, 174, 175] rfl (by decide +kernel)
set_option maxRecDepth 20000 in
theorem gX10_law_X10_readsAs : GoodIn wsX10_law (wsV RX10 265 RX10 yX10_readsAs wsX10_readsAs) := goodIn_app (goodIn_of _ (by decide +kernel)) ggX10_law_X10_readsAs
set_option maxRecDepth 20000 in
theorem ggX10_law_X10_lays : GoodIn wsX10_law wsX10_lays := goodIn_r _ [115, 1, 24, 33, 32, 120, 121, 122, 123, 124, 125, 126, 127, 128, 129, 130, 131, 132, 133, 134, 135, 136, 137, 138, 139, 140, 141, 142, 143, 144, 145, 146, 147, 148, 149, 150, 151, 152, 153, 154, 155, 156, 157, 158, 159, 160, 161, 162, 163, 164, 165, 166, 167, 168, 169, 170, 171, 172, 173, 174, 175] rfl (by decide +kernel)
set_option maxRecDepth 20000 in
theorem gX10_law_X10_lays : GoodIn wsX10_law (wsV RX10 269 RX10 yX10_lays wsX10_lays) := goodIn_app (goodIn_of _ (by decide +kernel)) ggX10_law_X10_lays
set_option maxRecDepth 20000 in
theorem ggX10_law_X10_good : GoodIn wsX10_law wsX10_good := goodIn_r _ [119, 8, 120, 121, 122, 123, 124, 125, 126, 127, 128, 129, 130, 131, 132, 133, 134, 135, 136, 137, 138, 139, 140, 141, 142, 143, 144, 145, 146, 147, 148, 149, 150, 151, 152, 153, 154, 155, 156, 157, 158, 159, 160, 161, 162, 163, 164, 165, 166, 167, 168, 169, 170, 171, 172, 173, 174, 175] rfl (by decide +kernel)
set_option maxRecDepth 20000 in
theorem gX10_law_X10_good : GoodIn wsX10_law (wsV RX10 14 RX10 yX10_good wsX10_good) := goodIn_app (goodIn_of _ (by decide +kernel)) ggX10_law_X10_good
theorem da9_dX10_law_0 : (decode cX10_law 0 = .ok (.aload_n 0, 1)) ∧ (decode cX10_law 1 = .ok (.getfield 28, 3)) ∧ (decode cX10_law 4 = .ok (.bipush 31, 2)) ∧ (decode cX10_law 6 = .ok (.iaload, 1)) ∧ (decode cX10_law 7 = .ok (.bipush 6, 2)) ∧ (decode cX10_law 9 = .ok (.if_icmp .ne 15, 3)) ∧ (decode cX10_law 12 = .ok (.aload_n 0, 1)) ∧ (decode cX10_law 13 = .ok (.iconst 0, 1)) ∧ (decode cX10_law 14 = .ok (.putfield 169, 3)) ∧ (decode cX10_law 17 = .ok (.aload_n 0, 1)) ∧ (decode cX10_law 18 = .ok (.bipush (-5), 2)) ∧ (decode cX10_law 20 = .ok (.invokevirtual 119, 3)) ∧ (decode cX10_law 23 = .ok (.ireturn, 1)) ∧ (decode cX10_law 24 = .ok (.aload_n 0, 1)) ∧ (decode cX10_law 25 = .ok (.iconst 0, 1)) ∧ (decode cX10_law 26 = .ok (.invokevirtual 265, 3)) := by decide +kernel
theorem dX10_law_0 : decode cX10_law 0 = .ok (.aload_n 0, 1) := da9_dX10_law_0.1
theorem dX10_law_1 : decode cX10_law 1 = .ok (.getfield 28, 3) := da9_dX10_law_0.2.1
theorem dX10_law_4 : decode cX10_law 4 = .ok (.bipush 31, 2) := da9_dX10_law_0.2.2.1
theorem dX10_law_6 : decode cX10_law 6 = .ok (.iaload, 1) := da9_dX10_law_0.2.2.2.1
theorem dX10_law_7 : decode cX10_law 7 = .ok (.bipush 6, 2) := da9_dX10_law_0.2.2.2.2.1
theorem dX10_law_9 : decode cX10_law 9 = .ok (.if_icmp .ne 15, 3) := da9_dX10_law_0.2.2.2.2.2.1
theorem dX10_law_12 : decode cX10_law 12 = .ok (.aload_n 0, 1) := da9_dX10_law_0.2.2.2.2.2.2.1
theorem dX10_law_13 : decode cX10_law 13 = .ok (.iconst 0, 1) := da9_dX10_law_0.2.2.2.2.2.2.2.1
theorem dX10_law_14 : decode cX10_law 14 = .ok (.putfield 169, 3) := da9_dX10_law_0.2.2.2.2.2.2.2.2.1
theorem dX10_law_17 : decode cX10_law 17 = .ok (.aload_n 0, 1) := da9_dX10_law_0.2.2.2.2.2.2.2.2.2.1
theorem dX10_law_18 : decode cX10_law 18 = .ok (.bipush (-5), 2) := da9_dX10_law_0.2.2.2.2.2.2.2.2.2.2.1
theorem dX10_law_20 : decode cX10_law 20 = .ok (.invokevirtual 119, 3) := da9_dX10_law_0.2.2.2.2.2.2.2.2.2.2.2.1
theorem dX10_law_23 : decode cX10_law 23 = .ok (.ireturn, 1) := da9_dX10_law_0.2.2.2.2.2.2.2.2.2.2.2.2.1
theorem dX10_law_24 : decode cX10_law 24 = .ok (.aload_n 0, 1) := da9_dX10_law_0.2.2.2.2.2.2.2.2.2.2.2.2.2.1
theorem dX10_law_25 : decode cX10_law 25 = .ok (.iconst 0, 1) := da9_dX10_law_0.2.2.2.2.2.2.2.2.2.2.2.2.2.2.1
theorem dX10_law_26 : decode cX10_law 26 = .ok (.invokevirtual 265, 3) := da9_dX10_law_0.2.2.2.2.2.2.2.2.2.2.2.2.2.2.2
theorem da9_dX10_law_29 : (decode cX10_law 29 = .ok (.ifCond .ne 10, 3)) ∧ (decode cX10_law 32 = .ok (.aload_n 0, 1)) ∧ (decode cX10_law 33 = .ok (.bipush (-6), 2)) ∧ (decode cX10_law 35 = .ok (.invokevirtual 119, 3)) ∧ (decode cX10_law 38 = .ok (.ireturn, 1)) ∧ (decode cX10_law 39 = .ok (.aload_n 0, 1)) ∧ (decode cX10_law 40 = .ok (.aload_n 0, 1)) ∧ (decode cX10_law 41 = .ok (.getfield 28, 3)) ∧ (decode cX10_law 44 = .ok (.bipush 31, 2)) ∧ (decode cX10_law 46 = .ok (.iaload, 1)) ∧ (decode cX10_law 47 = .ok (.invokevirtual 269, 3)) ∧ (decode cX10_law 50 = .ok (.aload_n 0, 1)) ∧ (decode cX10_law 51 = .ok (.getfield 28, 3)) ∧ (decode cX10_law 54 = .ok (.bipush 31, 2)) ∧ (decode cX10_law 56 = .ok (.dup2, 1)) ∧ (decode cX10_law 57 = .ok (.iaload, 1)) := by decide +kernel
theorem dX10_law_29 : decode cX10_law 29 = .ok (.ifCond .ne 10, 3) := da9_dX10_law_29.1
theorem dX10_law_32 : decode cX10_law 32 = .ok (.aload_n 0, 1) := da9_dX10_law_29.2.1
theorem dX10_law_33 : decode cX10_law 33 = .ok (.bipush (-6), 2) := da9_dX10_law_29.2.2.1
theorem dX10_law_35 : decode cX10_law 35 = .ok (.invokevirtual 119, 3) := da9_dX10_law_29.2.2.2.1
theorem dX10_law_38 : decode cX10_law 38 = .ok (.ireturn, 1) := da9_dX10_law_29.2.2.2.2.1
theorem dX10_law_39 : decode cX10_law 39 = .ok (.aload_n 0, 1) := da9_dX10_law_29.2.2.2.2.2.1
theorem dX10_law_40 : decode cX10_law 40 = .ok (.aload_n 0, 1) := da9_dX10_law_29.2.2.2.2.2.2.1
theorem dX10_law_41 : decode cX10_law 41 = .ok (.getfield 28, 3) := da9_dX10_law_29.2.2.2.2.2.2.2.1
theorem dX10_law_44 : decode cX10_law 44 = .ok (.bipush 31, 2) := da9_dX10_law_29.2.2.2.2.2.2.2.2.1
theorem dX10_law_46 : decode cX10_law 46 = .ok (.iaload, 1) := da9_dX10_law_29.2.2.2.2.2.2.2.2.2.1
theorem dX10_law_47 : decode cX10_law 47 = .ok (.invokevirtual 269, 3) := da9_dX10_law_29.2.2.2.2.2.2.2.2.2.2.1
theorem dX10_law_50 : decode cX10_law 50 = .ok (.aload_n 0, 1) := da9_dX10_law_29.2.2.2.2.2.2.2.2.2.2.2.1
theorem dX10_law_51 : decode cX10_law 51 = .ok (.getfield 28, 3) := da9_dX10_law_29.2.2.2.2.2.2.2.2.2.2.2.2.1
theorem dX10_law_54 : decode cX10_law 54 = .ok (.bipush 31, 2) := da9_dX10_law_29.2.2.2.2.2.2.2.2.2.2.2.2.2.1
theorem dX10_law_56 : decode cX10_law 56 = .ok (.dup2, 1) := da9_dX10_law_29.2.2.2.2.2.2.2.2.2.2.2.2.2.2.1
theorem dX10_law_57 : decode cX10_law 57 = .ok (.iaload, 1) := da9_dX10_law_29.2.2.2.2.2.2.2.2.2.2.2.2.2.2.2
theorem da9_dX10_law_58 : (decode cX10_law 58 = .ok (.iconst 1, 1)) ∧ (decode cX10_law 59 = .ok (.iadd, 1)) ∧ (decode cX10_law 60 = .ok (.iastore, 1)) ∧ (decode cX10_law 61 = .ok (.aload_n 0, 1)) ∧ (decode cX10_law 62 = .ok (.aload_n 0, 1)) ∧ (decode cX10_law 63 = .ok (.getfield 28, 3)) ∧ (decode cX10_law 66 = .ok (.bipush 31, 2)) ∧ (decode cX10_law 68 = .ok (.iaload, 1)) ∧ (decode cX10_law 69 = .ok (.iconst 1, 1)) ∧ (decode cX10_law 70 = .ok (.isub, 1)) ∧ (decode cX10_law 71 = .ok (.invokevirtual 14, 3)) ∧ (decode cX10_law 74 = .ok (.ireturn, 1)) := by decide +kernel
theorem dX10_law_58 : decode cX10_law 58 = .ok (.iconst 1, 1) := da9_dX10_law_58.1
theorem dX10_law_59 : decode cX10_law 59 = .ok (.iadd, 1) := da9_dX10_law_58.2.1
theorem dX10_law_60 : decode cX10_law 60 = .ok (.iastore, 1) := da9_dX10_law_58.2.2.1
theorem dX10_law_61 : decode cX10_law 61 = .ok (.aload_n 0, 1) := da9_dX10_law_58.2.2.2.1
theorem dX10_law_62 : decode cX10_law 62 = .ok (.aload_n 0, 1) := da9_dX10_law_58.2.2.2.2.1
theorem dX10_law_63 : decode cX10_law 63 = .ok (.getfield 28, 3) := da9_dX10_law_58.2.2.2.2.2.1
theorem dX10_law_66 : decode cX10_law 66 = .ok (.bipush 31, 2) := da9_dX10_law_58.2.2.2.2.2.2.1
theorem dX10_law_68 : decode cX10_law 68 = .ok (.iaload, 1) := da9_dX10_law_58.2.2.2.2.2.2.2.1
theorem dX10_law_69 : decode cX10_law 69 = .ok (.iconst 1, 1) := da9_dX10_law_58.2.2.2.2.2.2.2.2.1
theorem dX10_law_70 : decode cX10_law 70 = .ok (.isub, 1) := da9_dX10_law_58.2.2.2.2.2.2.2.2.2.1
theorem dX10_law_71 : decode cX10_law 71 = .ok (.invokevirtual 14, 3) := da9_dX10_law_58.2.2.2.2.2.2.2.2.2.2.1
theorem dX10_law_74 : decode cX10_law 74 = .ok (.ireturn, 1) := da9_dX10_law_58.2.2.2.2.2.2.2.2.2.2.2
theorem da9_dX10_fault_0 : (decode cX10_fault 0 = .ok (.aload_n 0, 1)) ∧ (decode cX10_fault 1 = .ok (.getfield 51, 3)) ∧ (decode cX10_fault 4 = .ok (.ireturn, 1)) := by decide +kernel
theorem dX10_fault_0 : decode cX10_fault 0 = .ok (.aload_n 0, 1) := da9_dX10_fault_0.1
theorem dX10_fault_1 : decode cX10_fault 1 = .ok (.getfield 51, 3) := da9_dX10_fault_0.2.1
theorem dX10_fault_4 : decode cX10_fault 4 = .ok (.ireturn, 1) := da9_dX10_fault_0.2.2
set_option maxRecDepth 20000 in
theorem ggX10_isLaw_X10_lies : GoodIn wsX10_isLaw wsX10_lies := goodIn_r _ [5] rfl (by decide +kernel)
set_option maxRecDepth 20000 in
theorem gX10_isLaw_X10_lies : GoodIn wsX10_isLaw (va_wsS RX10 18 yX10_lies wsX10_lies) := goodIn_app (goodIn_of _ (by decide +kernel)) ggX10_isLaw_X10_lies
theorem da9_dX10_isLaw_0 : (decode cX10_isLaw 0 = .ok (.iload_n 1, 1)) ∧ (decode cX10_isLaw 1 = .ok (.iconst (-1), 1)) ∧ (decode cX10_isLaw 2 = .ok (.aload_n 0, 1)) ∧ (decode cX10_isLaw 3 = .ok (.getfield 28, 3)) ∧ (decode cX10_isLaw 6 = .ok (.bipush 31, 2)) ∧ (decode cX10_isLaw 8 = .ok (.iaload, 1)) ∧ (decode cX10_isLaw 9 = .ok (.iconst 1, 1)) ∧ (decode cX10_isLaw 10 = .ok (.isub, 1)) ∧ (decode cX10_isLaw 11 = .ok (.invokestatic 18, 3)) ∧ (decode cX10_isLaw 14 = .ok (.ireturn, 1)) := by decide +kernel
theorem dX10_isLaw_0 : decode cX10_isLaw 0 = .ok (.iload_n 1, 1) := da9_dX10_isLaw_0.1
theorem dX10_isLaw_1 : decode cX10_isLaw 1 = .ok (.iconst (-1), 1) := da9_dX10_isLaw_0.2.1
theorem dX10_isLaw_2 : decode cX10_isLaw 2 = .ok (.aload_n 0, 1) := da9_dX10_isLaw_0.2.2.1
theorem dX10_isLaw_3 : decode cX10_isLaw 3 = .ok (.getfield 28, 3) := da9_dX10_isLaw_0.2.2.2.1
theorem dX10_isLaw_6 : decode cX10_isLaw 6 = .ok (.bipush 31, 2) := da9_dX10_isLaw_0.2.2.2.2.1
theorem dX10_isLaw_8 : decode cX10_isLaw 8 = .ok (.iaload, 1) := da9_dX10_isLaw_0.2.2.2.2.2.1
theorem dX10_isLaw_9 : decode cX10_isLaw 9 = .ok (.iconst 1, 1) := da9_dX10_isLaw_0.2.2.2.2.2.2.1
theorem dX10_isLaw_10 : decode cX10_isLaw 10 = .ok (.isub, 1) := da9_dX10_isLaw_0.2.2.2.2.2.2.2.1
theorem dX10_isLaw_11 : decode cX10_isLaw 11 = .ok (.invokestatic 18, 3) := da9_dX10_isLaw_0.2.2.2.2.2.2.2.2.1
theorem dX10_isLaw_14 : decode cX10_isLaw 14 = .ok (.ireturn, 1) := da9_dX10_isLaw_0.2.2.2.2.2.2.2.2.2
set_option maxRecDepth 20000 in
theorem ggX10_force_X10_isLaw : GoodIn wsX10_force wsX10_isLaw := goodIn_r _ [6, 1, 7, 8, 5, 9, 20, 21, 22, 23, 24, 25, 26, 27, 28, 29, 30, 31, 32, 33, 34, 35, 36, 37, 38, 39, 40, 41, 42, 43, 44, 45, 46, 47, 48, 49, 50, 51, 52, 53, 54, 55, 56, 57, 58, 59, 60, 61, 62, 63, 64, 65, 66, 67, 68, 69, 70, 71, 72, 73, 74, 75] rfl (by decide +kernel)
set_option maxRecDepth 20000 in
theorem gX10_force_X10_isLaw : GoodIn wsX10_force (wsV RX10 272 RX10 yX10_isLaw wsX10_isLaw) := goodIn_app (goodIn_of _ (by decide +kernel)) ggX10_force_X10_isLaw
set_option maxRecDepth 20000 in
theorem ggX10_force_X10_refuses : GoodIn wsX10_force wsX10_refuses := goodIn_r _ [13, 14, 15, 20, 21, 22, 23, 24, 25, 26, 27, 28, 29, 30, 31, 32, 33, 34, 35, 36, 37, 38, 39, 40, 41, 42, 43, 44, 45, 46, 47, 48, 49, 50, 51, 52, 53, 54, 55, 56, 57, 58, 59, 60, 61, 62, 63, 64, 65, 66, 67, 68, 69, 70, 71, 72, 73, 74, 75] rfl (by decide +kernel)
set_option maxRecDepth 20000 in
theorem gX10_force_X10_refuses : GoodIn wsX10_force (wsV RX10 119 RX10 yX10_refuses wsX10_refuses) := goodIn_app (goodIn_of _ (by decide +kernel)) ggX10_force_X10_refuses
set_option maxRecDepth 20000 in
theorem ggX10_force_X10_good : GoodIn wsX10_force wsX10_good := goodIn_r _ [19, 14, 20, 21, 22, 23, 24, 25, 26, 27, 28, 29, 30, 31, 32, 33, 34, 35, 36, 37, 38, 39, 40, 41, 42, 43, 44, 45, 46, 47, 48, 49, 50, 51, 52, 53, 54, 55, 56, 57, 58, 59, 60, 61, 62, 63, 64, 65, 66, 67, 68, 69, 70, 71, 72, 73, 74, 75] rfl (by decide +kernel)
set_option maxRecDepth 20000 in
theorem gX10_force_X10_good : GoodIn wsX10_force (wsV RX10 14 RX10 yX10_good wsX10_good) := goodIn_app (goodIn_of _ (by decide +kernel)) ggX10_force_X10_good
theorem da9_dX10_force_0 : (decode cX10_force 0 = .ok (.aload_n 0, 1)) ∧ (decode cX10_force 1 = .ok (.iload_n 1, 1)) ∧ (decode cX10_force 2 = .ok (.invokevirtual 272, 3)) ∧ (decode cX10_force 5 = .ok (.ifCond .ne 10, 3)) ∧ (decode cX10_force 8 = .ok (.aload_n 0, 1)) ∧ (decode cX10_force 9 = .ok (.bipush (-2), 2)) ∧ (decode cX10_force 11 = .ok (.invokevirtual 119, 3)) ∧ (decode cX10_force 14 = .ok (.ireturn, 1)) ∧ (decode cX10_force 15 = .ok (.aload_n 0, 1)) ∧ (decode cX10_force 16 = .ok (.getfield 28, 3)) ∧ (decode cX10_force 19 = .ok (.bipush 32, 2)) ∧ (decode cX10_force 21 = .ok (.iaload, 1)) ∧ (decode cX10_force 22 = .ok (.istore_n 2, 1)) ∧ (decode cX10_force 23 = .ok (.aload_n 0, 1)) ∧ (decode cX10_force 24 = .ok (.getfield 28, 3)) ∧ (decode cX10_force 27 = .ok (.bipush 32, 2)) := by decide +kernel
theorem dX10_force_0 : decode cX10_force 0 = .ok (.aload_n 0, 1) := da9_dX10_force_0.1
theorem dX10_force_1 : decode cX10_force 1 = .ok (.iload_n 1, 1) := da9_dX10_force_0.2.1
theorem dX10_force_2 : decode cX10_force 2 = .ok (.invokevirtual 272, 3) := da9_dX10_force_0.2.2.1
theorem dX10_force_5 : decode cX10_force 5 = .ok (.ifCond .ne 10, 3) := da9_dX10_force_0.2.2.2.1
theorem dX10_force_8 : decode cX10_force 8 = .ok (.aload_n 0, 1) := da9_dX10_force_0.2.2.2.2.1
theorem dX10_force_9 : decode cX10_force 9 = .ok (.bipush (-2), 2) := da9_dX10_force_0.2.2.2.2.2.1
theorem dX10_force_11 : decode cX10_force 11 = .ok (.invokevirtual 119, 3) := da9_dX10_force_0.2.2.2.2.2.2.1
theorem dX10_force_14 : decode cX10_force 14 = .ok (.ireturn, 1) := da9_dX10_force_0.2.2.2.2.2.2.2.1
theorem dX10_force_15 : decode cX10_force 15 = .ok (.aload_n 0, 1) := da9_dX10_force_0.2.2.2.2.2.2.2.2.1
theorem dX10_force_16 : decode cX10_force 16 = .ok (.getfield 28, 3) := da9_dX10_force_0.2.2.2.2.2.2.2.2.2.1
theorem dX10_force_19 : decode cX10_force 19 = .ok (.bipush 32, 2) := da9_dX10_force_0.2.2.2.2.2.2.2.2.2.2.1
theorem dX10_force_21 : decode cX10_force 21 = .ok (.iaload, 1) := da9_dX10_force_0.2.2.2.2.2.2.2.2.2.2.2.1
theorem dX10_force_22 : decode cX10_force 22 = .ok (.istore_n 2, 1) := da9_dX10_force_0.2.2.2.2.2.2.2.2.2.2.2.2.1
theorem dX10_force_23 : decode cX10_force 23 = .ok (.aload_n 0, 1) := da9_dX10_force_0.2.2.2.2.2.2.2.2.2.2.2.2.2.1
theorem dX10_force_24 : decode cX10_force 24 = .ok (.getfield 28, 3) := da9_dX10_force_0.2.2.2.2.2.2.2.2.2.2.2.2.2.2.1
theorem dX10_force_27 : decode cX10_force 27 = .ok (.bipush 32, 2) := da9_dX10_force_0.2.2.2.2.2.2.2.2.2.2.2.2.2.2.2
theorem da9_dX10_force_29 : (decode cX10_force 29 = .ok (.iload_n 1, 1)) ∧ (decode cX10_force 30 = .ok (.iastore, 1)) ∧ (decode cX10_force 31 = .ok (.aload_n 0, 1)) ∧ (decode cX10_force 32 = .ok (.iload_n 2, 1)) ∧ (decode cX10_force 33 = .ok (.invokevirtual 14, 3)) ∧ (decode cX10_force 36 = .ok (.ireturn, 1)) := by decide +kernel
theorem dX10_force_29 : decode cX10_force 29 = .ok (.iload_n 1, 1) := da9_dX10_force_29.1
theorem dX10_force_30 : decode cX10_force 30 = .ok (.iastore, 1) := da9_dX10_force_29.2.1
theorem dX10_force_31 : decode cX10_force 31 = .ok (.aload_n 0, 1) := da9_dX10_force_29.2.2.1
theorem dX10_force_32 : decode cX10_force 32 = .ok (.iload_n 2, 1) := da9_dX10_force_29.2.2.2.1
theorem dX10_force_33 : decode cX10_force 33 = .ok (.invokevirtual 14, 3) := da9_dX10_force_29.2.2.2.2.1
theorem dX10_force_36 : decode cX10_force 36 = .ok (.ireturn, 1) := da9_dX10_force_29.2.2.2.2.2
set_option maxRecDepth 20000 in
theorem ggX10_canTurn_X10_size : GoodIn wsX10_canTurn wsX10_size := goodIn_r _ [6, 1, 99, 100, 101, 102, 103, 104, 105, 106, 107, 108, 109, 110, 111, 112, 113, 114, 115, 116, 117, 118, 119, 120, 121, 122, 123, 124, 125, 126, 127, 128, 129, 130, 131, 132, 133, 134, 135, 136, 137, 138, 139, 140, 141, 142, 143, 144, 145, 146, 147, 148, 149, 150, 151, 152, 153, 154] rfl (by decide +kernel)
set_option maxRecDepth 20000 in
theorem gX10_canTurn_X10_size : GoodIn wsX10_canTurn (wsV RX10 125 RX10 yX10_size wsX10_size) := goodIn_app (goodIn_of _ (by decide +kernel)) ggX10_canTurn_X10_size
set_option maxRecDepth 20000 in
theorem ggX10_canTurn_X10_rankBelow : GoodIn wsX10_canTurn wsX10_rankBelow := goodIn_r _ [10, 1, 2, 3, 4, 5, 6, 99, 100, 101, 102, 103, 104, 105, 106, 107, 108, 109, 110, 111, 112, 113, 114, 115, 116, 117, 118, 119, 120, 121, 122, 123, 124, 125, 126, 127, 128, 129, 130, 131, 132, 133, 134, 135, 136, 137, 138, 139, 140, 141, 142, 143, 144, 145, 146, 147, 148, 149, 150, 151, 152, 153, 154] rfl (by decide +kernel)
set_option maxRecDepth 20000 in
theorem gX10_canTurn_X10_rankBelow : GoodIn wsX10_canTurn (wsV RX10 149 RX10 yX10_rankBelow wsX10_rankBelow) := goodIn_app (goodIn_of _ (by decide +kernel)) ggX10_canTurn_X10_rankBelow
set_option maxRecDepth 20000 in
theorem ggX10_canTurn_X10_setsTurn : GoodIn wsX10_canTurn wsX10_setsTurn := goodIn_r _ [14, 15, 16, 17, 18, 5, 19, 1, 2, 3, 4, 6, 99, 100, 101, 102, 103, 104, 105, 106, 107, 108, 109, 110, 111, 112, 113, 114, 115, 116, 117, 118, 119, 120, 121, 122, 123, 124, 125, 126, 127, 128, 129, 130, 131, 132, 133, 134, 135, 136, 137, 138, 139, 140, 141, 142, 143, 144, 145, 146, 147, 148, 149, 150, 151, 152, 153, 154] rfl (by decide +kernel)
set_option maxRecDepth 20000 in
theorem gX10_canTurn_X10_setsTurn : GoodIn wsX10_canTurn (wsV RX10 152 RX10 yX10_setsTurn wsX10_setsTurn) := goodIn_app (goodIn_of _ (by decide +kernel)) ggX10_canTurn_X10_setsTurn
set_option maxRecDepth 20000 in
theorem ggX10_canTurn_X10_isNow : GoodIn wsX10_canTurn wsX10_isNow := goodIn_r _ [23, 24, 25, 26, 5, 27, 1, 28, 29, 30, 31, 32, 33, 34, 35, 36, 37, 38, 39, 40, 41, 42, 43, 44, 45, 46, 47, 48, 49, 50, 51, 52, 53, 15, 54, 55, 56, 57, 58, 59, 60, 61, 62, 63, 64, 65, 66, 67, 2, 3, 4, 6, 68, 69, 70, 71, 72, 73, 74, 75, 76, 77, 78, 79, 80, 81, 82, 83, 84, 85, 86, 87, 88, 89, 90, 91, 92, 93, 94, 95, 96, 97, 98, 99, 100, 101, 102, 103, 104, 105, 106, 107, 108, 109, 110, 111, 112, 113, 114, 115, 116, 117, 118, 119, 120, 121, 122, 123, 124, 125, 126, 127, 128, 129, 130, 131, 132, 133, 134, 135, 136, 137, 138, 139, 140, 141, 142, 143, 144, 145, 146, 147, 148, 149, 150, 151, 152, 153, 154] rfl (by decide +kernel)
set_option maxRecDepth 20000 in
theorem gX10_canTurn_X10_isNow : GoodIn wsX10_canTurn (wsV RX10 159 RX10 yX10_isNow wsX10_isNow) := goodIn_app (goodIn_of _ (by decide +kernel)) ggX10_canTurn_X10_isNow
theorem da9_dX10_canTurn_0 : (decode cX10_canTurn 0 = .ok (.iload_n 1, 1)) ∧ (decode cX10_canTurn 1 = .ok (.aload_n 0, 1)) ∧ (decode cX10_canTurn 2 = .ok (.invokevirtual 125, 3)) ∧ (decode cX10_canTurn 5 = .ok (.if_icmp .le 5, 3)) ∧ (decode cX10_canTurn 8 = .ok (.iconst 0, 1)) ∧ (decode cX10_canTurn 9 = .ok (.ireturn, 1)) ∧ (decode cX10_canTurn 10 = .ok (.aload_n 0, 1)) ∧ (decode cX10_canTurn 11 = .ok (.iload_n 1, 1)) ∧ (decode cX10_canTurn 12 = .ok (.aload_n 0, 1)) ∧ (decode cX10_canTurn 13 = .ok (.getfield 28, 3)) ∧ (decode cX10_canTurn 16 = .ok (.iconst 0, 1)) ∧ (decode cX10_canTurn 17 = .ok (.iaload, 1)) ∧ (decode cX10_canTurn 18 = .ok (.aload_n 0, 1)) ∧ (decode cX10_canTurn 19 = .ok (.iload_n 1, 1)) ∧ (decode cX10_canTurn 20 = .ok (.invokevirtual 149, 3)) ∧ (decode cX10_canTurn 23 = .ok (.aload_n 0, 1)) := by decide +kernel
theorem dX10_canTurn_0 : decode cX10_canTurn 0 = .ok (.iload_n 1, 1) := da9_dX10_canTurn_0.1
theorem dX10_canTurn_1 : decode cX10_canTurn 1 = .ok (.aload_n 0, 1) := da9_dX10_canTurn_0.2.1
theorem dX10_canTurn_2 : decode cX10_canTurn 2 = .ok (.invokevirtual 125, 3) := da9_dX10_canTurn_0.2.2.1
theorem dX10_canTurn_5 : decode cX10_canTurn 5 = .ok (.if_icmp .le 5, 3) := da9_dX10_canTurn_0.2.2.2.1
theorem dX10_canTurn_8 : decode cX10_canTurn 8 = .ok (.iconst 0, 1) := da9_dX10_canTurn_0.2.2.2.2.1
theorem dX10_canTurn_9 : decode cX10_canTurn 9 = .ok (.ireturn, 1) := da9_dX10_canTurn_0.2.2.2.2.2.1
theorem dX10_canTurn_10 : decode cX10_canTurn 10 = .ok (.aload_n 0, 1) := da9_dX10_canTurn_0.2.2.2.2.2.2.1
theorem dX10_canTurn_11 : decode cX10_canTurn 11 = .ok (.iload_n 1, 1) := da9_dX10_canTurn_0.2.2.2.2.2.2.2.1
theorem dX10_canTurn_12 : decode cX10_canTurn 12 = .ok (.aload_n 0, 1) := da9_dX10_canTurn_0.2.2.2.2.2.2.2.2.1
theorem dX10_canTurn_13 : decode cX10_canTurn 13 = .ok (.getfield 28, 3) := da9_dX10_canTurn_0.2.2.2.2.2.2.2.2.2.1
theorem dX10_canTurn_16 : decode cX10_canTurn 16 = .ok (.iconst 0, 1) := da9_dX10_canTurn_0.2.2.2.2.2.2.2.2.2.2.1
theorem dX10_canTurn_17 : decode cX10_canTurn 17 = .ok (.iaload, 1) := da9_dX10_canTurn_0.2.2.2.2.2.2.2.2.2.2.2.1
theorem dX10_canTurn_18 : decode cX10_canTurn 18 = .ok (.aload_n 0, 1) := da9_dX10_canTurn_0.2.2.2.2.2.2.2.2.2.2.2.2.1
theorem dX10_canTurn_19 : decode cX10_canTurn 19 = .ok (.iload_n 1, 1) := da9_dX10_canTurn_0.2.2.2.2.2.2.2.2.2.2.2.2.2.1
theorem dX10_canTurn_20 : decode cX10_canTurn 20 = .ok (.invokevirtual 149, 3) := da9_dX10_canTurn_0.2.2.2.2.2.2.2.2.2.2.2.2.2.2.1
theorem dX10_canTurn_23 : decode cX10_canTurn 23 = .ok (.aload_n 0, 1) := da9_dX10_canTurn_0.2.2.2.2.2.2.2.2.2.2.2.2.2.2.2
theorem da9_dX10_canTurn_24 : (decode cX10_canTurn 24 = .ok (.getfield 28, 3)) ∧ (decode cX10_canTurn 27 = .ok (.bipush 6, 2)) ∧ (decode cX10_canTurn 29 = .ok (.iaload, 1)) ∧ (decode cX10_canTurn 30 = .ok (.invokevirtual 152, 3)) ∧ (decode cX10_canTurn 33 = .ok (.aload_n 0, 1)) ∧ (decode cX10_canTurn 34 = .ok (.iconst 2, 1)) ∧ (decode cX10_canTurn 35 = .ok (.invokevirtual 159, 3)) ∧ (decode cX10_canTurn 38 = .ok (.ifCond .ne 7, 3)) ∧ (decode cX10_canTurn 41 = .ok (.iconst 1, 1)) ∧ (decode cX10_canTurn 42 = .ok (.goto 4, 3)) ∧ (decode cX10_canTurn 45 = .ok (.iconst 0, 1)) ∧ (decode cX10_canTurn 46 = .ok (.ireturn, 1)) := by decide +kernel
theorem dX10_canTurn_24 : decode cX10_canTurn 24 = .ok (.getfield 28, 3) := da9_dX10_canTurn_24.1
theorem dX10_canTurn_27 : decode cX10_canTurn 27 = .ok (.bipush 6, 2) := da9_dX10_canTurn_24.2.1
theorem dX10_canTurn_29 : decode cX10_canTurn 29 = .ok (.iaload, 1) := da9_dX10_canTurn_24.2.2.1
theorem dX10_canTurn_30 : decode cX10_canTurn 30 = .ok (.invokevirtual 152, 3) := da9_dX10_canTurn_24.2.2.2.1
theorem dX10_canTurn_33 : decode cX10_canTurn 33 = .ok (.aload_n 0, 1) := da9_dX10_canTurn_24.2.2.2.2.1
theorem dX10_canTurn_34 : decode cX10_canTurn 34 = .ok (.iconst 2, 1) := da9_dX10_canTurn_24.2.2.2.2.2.1
theorem dX10_canTurn_35 : decode cX10_canTurn 35 = .ok (.invokevirtual 159, 3) := da9_dX10_canTurn_24.2.2.2.2.2.2.1
theorem dX10_canTurn_38 : decode cX10_canTurn 38 = .ok (.ifCond .ne 7, 3) := da9_dX10_canTurn_24.2.2.2.2.2.2.2.1
theorem dX10_canTurn_41 : decode cX10_canTurn 41 = .ok (.iconst 1, 1) := da9_dX10_canTurn_24.2.2.2.2.2.2.2.2.1
theorem dX10_canTurn_42 : decode cX10_canTurn 42 = .ok (.goto 4, 3) := da9_dX10_canTurn_24.2.2.2.2.2.2.2.2.2.1
theorem dX10_canTurn_45 : decode cX10_canTurn 45 = .ok (.iconst 0, 1) := da9_dX10_canTurn_24.2.2.2.2.2.2.2.2.2.2.1
theorem dX10_canTurn_46 : decode cX10_canTurn 46 = .ok (.ireturn, 1) := da9_dX10_canTurn_24.2.2.2.2.2.2.2.2.2.2.2
theorem da9_dX10_exchanges_0 : (decode cX10_exchanges 0 = .ok (.aload_n 0, 1)) ∧ (decode cX10_exchanges 1 = .ok (.getfield 28, 3)) ∧ (decode cX10_exchanges 4 = .ok (.iconst 0, 1)) ∧ (decode cX10_exchanges 5 = .ok (.iload_n 1, 1)) ∧ (decode cX10_exchanges 6 = .ok (.iadd, 1)) ∧ (decode cX10_exchanges 7 = .ok (.iaload, 1)) ∧ (decode cX10_exchanges 8 = .ok (.istore_n 3, 1)) ∧ (decode cX10_exchanges 9 = .ok (.aload_n 0, 1)) ∧ (decode cX10_exchanges 10 = .ok (.getfield 28, 3)) ∧ (decode cX10_exchanges 13 = .ok (.bipush 6, 2)) ∧ (decode cX10_exchanges 15 = .ok (.iload_n 1, 1)) ∧ (decode cX10_exchanges 16 = .ok (.iadd, 1)) ∧ (decode cX10_exchanges 17 = .ok (.iaload, 1)) ∧ (decode cX10_exchanges 18 = .ok (.istore 4, 2)) ∧ (decode cX10_exchanges 20 = .ok (.aload_n 0, 1)) ∧ (decode cX10_exchanges 21 = .ok (.getfield 28, 3)) := by decide +kernel
theorem dX10_exchanges_0 : decode cX10_exchanges 0 = .ok (.aload_n 0, 1) := da9_dX10_exchanges_0.1
theorem dX10_exchanges_1 : decode cX10_exchanges 1 = .ok (.getfield 28, 3) := da9_dX10_exchanges_0.2.1
theorem dX10_exchanges_4 : decode cX10_exchanges 4 = .ok (.iconst 0, 1) := da9_dX10_exchanges_0.2.2.1
theorem dX10_exchanges_5 : decode cX10_exchanges 5 = .ok (.iload_n 1, 1) := da9_dX10_exchanges_0.2.2.2.1
theorem dX10_exchanges_6 : decode cX10_exchanges 6 = .ok (.iadd, 1) := da9_dX10_exchanges_0.2.2.2.2.1
theorem dX10_exchanges_7 : decode cX10_exchanges 7 = .ok (.iaload, 1) := da9_dX10_exchanges_0.2.2.2.2.2.1
theorem dX10_exchanges_8 : decode cX10_exchanges 8 = .ok (.istore_n 3, 1) := da9_dX10_exchanges_0.2.2.2.2.2.2.1
theorem dX10_exchanges_9 : decode cX10_exchanges 9 = .ok (.aload_n 0, 1) := da9_dX10_exchanges_0.2.2.2.2.2.2.2.1
theorem dX10_exchanges_10 : decode cX10_exchanges 10 = .ok (.getfield 28, 3) := da9_dX10_exchanges_0.2.2.2.2.2.2.2.2.1
theorem dX10_exchanges_13 : decode cX10_exchanges 13 = .ok (.bipush 6, 2) := da9_dX10_exchanges_0.2.2.2.2.2.2.2.2.2.1
theorem dX10_exchanges_15 : decode cX10_exchanges 15 = .ok (.iload_n 1, 1) := da9_dX10_exchanges_0.2.2.2.2.2.2.2.2.2.2.1
theorem dX10_exchanges_16 : decode cX10_exchanges 16 = .ok (.iadd, 1) := da9_dX10_exchanges_0.2.2.2.2.2.2.2.2.2.2.2.1
theorem dX10_exchanges_17 : decode cX10_exchanges 17 = .ok (.iaload, 1) := da9_dX10_exchanges_0.2.2.2.2.2.2.2.2.2.2.2.2.1
theorem dX10_exchanges_18 : decode cX10_exchanges 18 = .ok (.istore 4, 2) := da9_dX10_exchanges_0.2.2.2.2.2.2.2.2.2.2.2.2.2.1
theorem dX10_exchanges_20 : decode cX10_exchanges 20 = .ok (.aload_n 0, 1) := da9_dX10_exchanges_0.2.2.2.2.2.2.2.2.2.2.2.2.2.2.1
theorem dX10_exchanges_21 : decode cX10_exchanges 21 = .ok (.getfield 28, 3) := da9_dX10_exchanges_0.2.2.2.2.2.2.2.2.2.2.2.2.2.2.2
theorem da9_dX10_exchanges_24 : (decode cX10_exchanges 24 = .ok (.iconst 0, 1)) ∧ (decode cX10_exchanges 25 = .ok (.iload_n 1, 1)) ∧ (decode cX10_exchanges 26 = .ok (.iadd, 1)) ∧ (decode cX10_exchanges 27 = .ok (.aload_n 0, 1)) ∧ (decode cX10_exchanges 28 = .ok (.getfield 28, 3)) ∧ (decode cX10_exchanges 31 = .ok (.iconst 0, 1)) ∧ (decode cX10_exchanges 32 = .ok (.iload_n 2, 1)) ∧ (decode cX10_exchanges 33 = .ok (.iadd, 1)) ∧ (decode cX10_exchanges 34 = .ok (.iaload, 1)) ∧ (decode cX10_exchanges 35 = .ok (.iastore, 1)) ∧ (decode cX10_exchanges 36 = .ok (.aload_n 0, 1)) ∧ (decode cX10_exchanges 37 = .ok (.getfield 28, 3)) ∧ (decode cX10_exchanges 40 = .ok (.bipush 6, 2)) ∧ (decode cX10_exchanges 42 = .ok (.iload_n 1, 1)) ∧ (decode cX10_exchanges 43 = .ok (.iadd, 1)) ∧ (decode cX10_exchanges 44 = .ok (.aload_n 0, 1)) := by decide +kernel
theorem dX10_exchanges_24 : decode cX10_exchanges 24 = .ok (.iconst 0, 1) := da9_dX10_exchanges_24.1
theorem dX10_exchanges_25 : decode cX10_exchanges 25 = .ok (.iload_n 1, 1) := da9_dX10_exchanges_24.2.1
theorem dX10_exchanges_26 : decode cX10_exchanges 26 = .ok (.iadd, 1) := da9_dX10_exchanges_24.2.2.1
theorem dX10_exchanges_27 : decode cX10_exchanges 27 = .ok (.aload_n 0, 1) := da9_dX10_exchanges_24.2.2.2.1
theorem dX10_exchanges_28 : decode cX10_exchanges 28 = .ok (.getfield 28, 3) := da9_dX10_exchanges_24.2.2.2.2.1
theorem dX10_exchanges_31 : decode cX10_exchanges 31 = .ok (.iconst 0, 1) := da9_dX10_exchanges_24.2.2.2.2.2.1
theorem dX10_exchanges_32 : decode cX10_exchanges 32 = .ok (.iload_n 2, 1) := da9_dX10_exchanges_24.2.2.2.2.2.2.1
theorem dX10_exchanges_33 : decode cX10_exchanges 33 = .ok (.iadd, 1) := da9_dX10_exchanges_24.2.2.2.2.2.2.2.1
theorem dX10_exchanges_34 : decode cX10_exchanges 34 = .ok (.iaload, 1) := da9_dX10_exchanges_24.2.2.2.2.2.2.2.2.1
theorem dX10_exchanges_35 : decode cX10_exchanges 35 = .ok (.iastore, 1) := da9_dX10_exchanges_24.2.2.2.2.2.2.2.2.2.1
theorem dX10_exchanges_36 : decode cX10_exchanges 36 = .ok (.aload_n 0, 1) := da9_dX10_exchanges_24.2.2.2.2.2.2.2.2.2.2.1
theorem dX10_exchanges_37 : decode cX10_exchanges 37 = .ok (.getfield 28, 3) := da9_dX10_exchanges_24.2.2.2.2.2.2.2.2.2.2.2.1
theorem dX10_exchanges_40 : decode cX10_exchanges 40 = .ok (.bipush 6, 2) := da9_dX10_exchanges_24.2.2.2.2.2.2.2.2.2.2.2.2.1
theorem dX10_exchanges_42 : decode cX10_exchanges 42 = .ok (.iload_n 1, 1) := da9_dX10_exchanges_24.2.2.2.2.2.2.2.2.2.2.2.2.2.1
theorem dX10_exchanges_43 : decode cX10_exchanges 43 = .ok (.iadd, 1) := da9_dX10_exchanges_24.2.2.2.2.2.2.2.2.2.2.2.2.2.2.1
theorem dX10_exchanges_44 : decode cX10_exchanges 44 = .ok (.aload_n 0, 1) := da9_dX10_exchanges_24.2.2.2.2.2.2.2.2.2.2.2.2.2.2.2
theorem da9_dX10_exchanges_45 : (decode cX10_exchanges 45 = .ok (.getfield 28, 3)) ∧ (decode cX10_exchanges 48 = .ok (.bipush 6, 2)) ∧ (decode cX10_exchanges 50 = .ok (.iload_n 2, 1)) ∧ (decode cX10_exchanges 51 = .ok (.iadd, 1)) ∧ (decode cX10_exchanges 52 = .ok (.iaload, 1)) ∧ (decode cX10_exchanges 53 = .ok (.iastore, 1)) ∧ (decode cX10_exchanges 54 = .ok (.aload_n 0, 1)) ∧ (decode cX10_exchanges 55 = .ok (.getfield 28, 3)) ∧ (decode cX10_exchanges 58 = .ok (.iconst 0, 1)) ∧ (decode cX10_exchanges 59 = .ok (.iload_n 2, 1)) ∧ (decode cX10_exchanges 60 = .ok (.iadd, 1)) ∧ (decode cX10_exchanges 61 = .ok (.iload_n 3, 1)) ∧ (decode cX10_exchanges 62 = .ok (.iastore, 1)) ∧ (decode cX10_exchanges 63 = .ok (.aload_n 0, 1)) ∧ (decode cX10_exchanges 64 = .ok (.getfield 28, 3)) ∧ (decode cX10_exchanges 67 = .ok (.bipush 6, 2)) := by decide +kernel
theorem dX10_exchanges_45 : decode cX10_exchanges 45 = .ok (.getfield 28, 3) := da9_dX10_exchanges_45.1
theorem dX10_exchanges_48 : decode cX10_exchanges 48 = .ok (.bipush 6, 2) := da9_dX10_exchanges_45.2.1
theorem dX10_exchanges_50 : decode cX10_exchanges 50 = .ok (.iload_n 2, 1) := da9_dX10_exchanges_45.2.2.1
theorem dX10_exchanges_51 : decode cX10_exchanges 51 = .ok (.iadd, 1) := da9_dX10_exchanges_45.2.2.2.1
theorem dX10_exchanges_52 : decode cX10_exchanges 52 = .ok (.iaload, 1) := da9_dX10_exchanges_45.2.2.2.2.1
theorem dX10_exchanges_53 : decode cX10_exchanges 53 = .ok (.iastore, 1) := da9_dX10_exchanges_45.2.2.2.2.2.1
theorem dX10_exchanges_54 : decode cX10_exchanges 54 = .ok (.aload_n 0, 1) := da9_dX10_exchanges_45.2.2.2.2.2.2.1
theorem dX10_exchanges_55 : decode cX10_exchanges 55 = .ok (.getfield 28, 3) := da9_dX10_exchanges_45.2.2.2.2.2.2.2.1
theorem dX10_exchanges_58 : decode cX10_exchanges 58 = .ok (.iconst 0, 1) := da9_dX10_exchanges_45.2.2.2.2.2.2.2.2.1
theorem dX10_exchanges_59 : decode cX10_exchanges 59 = .ok (.iload_n 2, 1) := da9_dX10_exchanges_45.2.2.2.2.2.2.2.2.2.1
theorem dX10_exchanges_60 : decode cX10_exchanges 60 = .ok (.iadd, 1) := da9_dX10_exchanges_45.2.2.2.2.2.2.2.2.2.2.1
theorem dX10_exchanges_61 : decode cX10_exchanges 61 = .ok (.iload_n 3, 1) := da9_dX10_exchanges_45.2.2.2.2.2.2.2.2.2.2.2.1
theorem dX10_exchanges_62 : decode cX10_exchanges 62 = .ok (.iastore, 1) := da9_dX10_exchanges_45.2.2.2.2.2.2.2.2.2.2.2.2.1
theorem dX10_exchanges_63 : decode cX10_exchanges 63 = .ok (.aload_n 0, 1) := da9_dX10_exchanges_45.2.2.2.2.2.2.2.2.2.2.2.2.2.1
theorem dX10_exchanges_64 : decode cX10_exchanges 64 = .ok (.getfield 28, 3) := da9_dX10_exchanges_45.2.2.2.2.2.2.2.2.2.2.2.2.2.2.1
theorem dX10_exchanges_67 : decode cX10_exchanges 67 = .ok (.bipush 6, 2) := da9_dX10_exchanges_45.2.2.2.2.2.2.2.2.2.2.2.2.2.2.2
theorem da9_dX10_exchanges_69 : (decode cX10_exchanges 69 = .ok (.iload_n 2, 1)) ∧ (decode cX10_exchanges 70 = .ok (.iadd, 1)) ∧ (decode cX10_exchanges 71 = .ok (.iload 4, 2)) ∧ (decode cX10_exchanges 73 = .ok (.iastore, 1)) ∧ (decode cX10_exchanges 74 = .ok (.return_, 1)) := by decide +kernel
theorem dX10_exchanges_69 : decode cX10_exchanges 69 = .ok (.iload_n 2, 1) := da9_dX10_exchanges_69.1
theorem dX10_exchanges_70 : decode cX10_exchanges 70 = .ok (.iadd, 1) := da9_dX10_exchanges_69.2.1
theorem dX10_exchanges_71 : decode cX10_exchanges 71 = .ok (.iload 4, 2) := da9_dX10_exchanges_69.2.2.1
theorem dX10_exchanges_73 : decode cX10_exchanges 73 = .ok (.iastore, 1) := da9_dX10_exchanges_69.2.2.2.1
theorem dX10_exchanges_74 : decode cX10_exchanges 74 = .ok (.return_, 1) := da9_dX10_exchanges_69.2.2.2.2
set_option maxRecDepth 20000 in
theorem ggX10_turns_X10_rankBelow : GoodIn wsX10_turns wsX10_rankBelow := goodIn_r _ [6, 1, 7, 8, 9, 5, 10, 106, 107, 108, 109, 110, 111, 112, 113, 114, 115, 116, 117, 118, 119, 120, 121, 122, 123, 124, 125, 126, 127, 128, 129, 130, 131, 132, 133, 134, 135, 136, 137, 138, 139, 140, 141, 142, 143, 144, 145, 146, 147, 148, 149, 150, 151, 152, 153, 154, 155, 156, 157, 158, 159, 160, 161] rfl (by decide +kernel)
set_option maxRecDepth 20000 in
theorem gX10_turns_X10_rankBelow : GoodIn wsX10_turns (wsV RX10 149 RX10 yX10_rankBelow wsX10_rankBelow) := goodIn_app (goodIn_of _ (by decide +kernel)) ggX10_turns_X10_rankBelow
set_option maxRecDepth 20000 in
theorem ggX10_turns_X10_setsTurn : GoodIn wsX10_turns wsX10_setsTurn := goodIn_r _ [14, 15, 16, 17, 18, 5, 19, 1, 7, 8, 9, 10, 106, 107, 108, 109, 110, 111, 112, 113, 114, 115, 116, 117, 118, 119, 120, 121, 122, 123, 124, 125, 126, 127, 128, 129, 130, 131, 132, 133, 134, 135, 136, 137, 138, 139, 140, 141, 142, 143, 144, 145, 146, 147, 148, 149, 150, 151, 152, 153, 154, 155, 156, 157, 158, 159, 160, 161] rfl (by decide +kernel)
set_option maxRecDepth 20000 in
theorem gX10_turns_X10_setsTurn : GoodIn wsX10_turns (wsV RX10 152 RX10 yX10_setsTurn wsX10_setsTurn) := goodIn_app (goodIn_of _ (by decide +kernel)) ggX10_turns_X10_setsTurn
set_option maxRecDepth 20000 in
theorem ggX10_turns_X10_paysNow : GoodIn wsX10_turns wsX10_paysNow := goodIn_r _ [23, 15, 24, 25, 26, 5, 27, 1, 28, 29, 30, 31, 32, 33, 34, 35, 36, 37, 38, 39, 40, 41, 42, 43, 44, 45, 46, 47, 48, 49, 50, 51, 52, 53, 54, 55, 56, 57, 58, 59, 60, 61, 62, 63, 64, 65, 66, 67, 7, 8, 9, 10, 68, 69, 70, 71, 72, 73, 74, 75, 76, 77, 78, 79, 80, 81, 82, 83, 84, 85, 86, 87, 88, 89, 90, 91, 92, 93, 94, 95, 96, 97, 98, 106, 107, 108, 109, 110, 111, 112, 113, 114, 115, 116, 117, 118, 119, 120, 121, 122, 123, 124, 125, 126, 127, 128, 129, 130, 131, 132, 133, 134, 135, 136, 137, 138, 139, 140, 141, 142, 143, 144, 145, 146, 147, 148, 149, 150, 151, 152, 153, 154, 155, 156, 157, 158, 159, 160, 161] rfl (by decide +kernel)
set_option maxRecDepth 20000 in
theorem gX10_turns_X10_paysNow : GoodIn wsX10_turns (wsV RX10 156 RX10 yX10_paysNow wsX10_paysNow) := goodIn_app (goodIn_of _ (by decide +kernel)) ggX10_turns_X10_paysNow
set_option maxRecDepth 20000 in
theorem ggX10_turns_X10_exchanges : GoodIn wsX10_turns wsX10_exchanges := goodIn_r _ [102, 1, 106, 107, 108, 109, 110, 111, 112, 113, 114, 115, 116, 117, 118, 119, 120, 121, 122, 123, 124, 125, 126, 127, 128, 129, 130, 131, 132, 133, 134, 135, 136, 137, 138, 139, 140, 141, 142, 143, 144, 145, 146, 147, 148, 149, 150, 151, 152, 153, 154, 155, 156, 157, 158, 159, 160, 161] rfl (by decide +kernel)
set_option maxRecDepth 20000 in
theorem gX10_turns_X10_exchanges : GoodIn wsX10_turns (wsV RX10 347 RX10 yX10_exchanges wsX10_exchanges) := goodIn_app (goodIn_of _ (by decide +kernel)) ggX10_turns_X10_exchanges
set_option maxRecDepth 20000 in
theorem ggX10_turns_X10_lesser : GoodIn wsX10_turns wsX10_lesser := goodIn_r _ [105] rfl (by decide +kernel)
set_option maxRecDepth 20000 in
theorem gX10_turns_X10_lesser : GoodIn wsX10_turns (va_wsS RX10 350 yX10_lesser wsX10_lesser) := goodIn_app (goodIn_of _ (by decide +kernel)) ggX10_turns_X10_lesser
theorem da9_dX10_turns_0 : (decode cX10_turns 0 = .ok (.aload_n 0, 1)) ∧ (decode cX10_turns 1 = .ok (.iload_n 1, 1)) ∧ (decode cX10_turns 2 = .ok (.aload_n 0, 1)) ∧ (decode cX10_turns 3 = .ok (.getfield 28, 3)) ∧ (decode cX10_turns 6 = .ok (.iconst 0, 1)) ∧ (decode cX10_turns 7 = .ok (.iaload, 1)) ∧ (decode cX10_turns 8 = .ok (.aload_n 0, 1)) ∧ (decode cX10_turns 9 = .ok (.iload_n 1, 1)) ∧ (decode cX10_turns 10 = .ok (.invokevirtual 149, 3)) ∧ (decode cX10_turns 13 = .ok (.aload_n 0, 1)) ∧ (decode cX10_turns 14 = .ok (.getfield 28, 3)) ∧ (decode cX10_turns 17 = .ok (.bipush 6, 2)) ∧ (decode cX10_turns 19 = .ok (.iaload, 1)) ∧ (decode cX10_turns 20 = .ok (.invokevirtual 152, 3)) ∧ (decode cX10_turns 23 = .ok (.aload_n 0, 1)) ∧ (decode cX10_turns 24 = .ok (.invokevirtual 156, 3)) := by decide +kernel
theorem dX10_turns_0 : decode cX10_turns 0 = .ok (.aload_n 0, 1) := da9_dX10_turns_0.1
theorem dX10_turns_1 : decode cX10_turns 1 = .ok (.iload_n 1, 1) := da9_dX10_turns_0.2.1
theorem dX10_turns_2 : decode cX10_turns 2 = .ok (.aload_n 0, 1) := da9_dX10_turns_0.2.2.1
theorem dX10_turns_3 : decode cX10_turns 3 = .ok (.getfield 28, 3) := da9_dX10_turns_0.2.2.2.1
theorem dX10_turns_6 : decode cX10_turns 6 = .ok (.iconst 0, 1) := da9_dX10_turns_0.2.2.2.2.1
theorem dX10_turns_7 : decode cX10_turns 7 = .ok (.iaload, 1) := da9_dX10_turns_0.2.2.2.2.2.1
theorem dX10_turns_8 : decode cX10_turns 8 = .ok (.aload_n 0, 1) := da9_dX10_turns_0.2.2.2.2.2.2.1
theorem dX10_turns_9 : decode cX10_turns 9 = .ok (.iload_n 1, 1) := da9_dX10_turns_0.2.2.2.2.2.2.2.1
theorem dX10_turns_10 : decode cX10_turns 10 = .ok (.invokevirtual 149, 3) := da9_dX10_turns_0.2.2.2.2.2.2.2.2.1
theorem dX10_turns_13 : decode cX10_turns 13 = .ok (.aload_n 0, 1) := da9_dX10_turns_0.2.2.2.2.2.2.2.2.2.1
theorem dX10_turns_14 : decode cX10_turns 14 = .ok (.getfield 28, 3) := da9_dX10_turns_0.2.2.2.2.2.2.2.2.2.2.1
theorem dX10_turns_17 : decode cX10_turns 17 = .ok (.bipush 6, 2) := da9_dX10_turns_0.2.2.2.2.2.2.2.2.2.2.2.1
theorem dX10_turns_19 : decode cX10_turns 19 = .ok (.iaload, 1) := da9_dX10_turns_0.2.2.2.2.2.2.2.2.2.2.2.2.1
theorem dX10_turns_20 : decode cX10_turns 20 = .ok (.invokevirtual 152, 3) := da9_dX10_turns_0.2.2.2.2.2.2.2.2.2.2.2.2.2.1
theorem dX10_turns_23 : decode cX10_turns 23 = .ok (.aload_n 0, 1) := da9_dX10_turns_0.2.2.2.2.2.2.2.2.2.2.2.2.2.2.1
theorem dX10_turns_24 : decode cX10_turns 24 = .ok (.invokevirtual 156, 3) := da9_dX10_turns_0.2.2.2.2.2.2.2.2.2.2.2.2.2.2.2
theorem da9_dX10_turns_27 : (decode cX10_turns 27 = .ok (.istore_n 2, 1)) ∧ (decode cX10_turns 28 = .ok (.iconst 0, 1)) ∧ (decode cX10_turns 29 = .ok (.istore_n 3, 1)) ∧ (decode cX10_turns 30 = .ok (.iconst 2, 1)) ∧ (decode cX10_turns 31 = .ok (.iload_n 3, 1)) ∧ (decode cX10_turns 32 = .ok (.imul, 1)) ∧ (decode cX10_turns 33 = .ok (.iload_n 1, 1)) ∧ (decode cX10_turns 34 = .ok (.iconst 1, 1)) ∧ (decode cX10_turns 35 = .ok (.isub, 1)) ∧ (decode cX10_turns 36 = .ok (.if_icmp .ge 19, 3)) ∧ (decode cX10_turns 39 = .ok (.aload_n 0, 1)) ∧ (decode cX10_turns 40 = .ok (.iload_n 3, 1)) ∧ (decode cX10_turns 41 = .ok (.iload_n 1, 1)) ∧ (decode cX10_turns 42 = .ok (.iconst 1, 1)) ∧ (decode cX10_turns 43 = .ok (.isub, 1)) ∧ (decode cX10_turns 44 = .ok (.iload_n 3, 1)) := by decide +kernel
theorem dX10_turns_27 : decode cX10_turns 27 = .ok (.istore_n 2, 1) := da9_dX10_turns_27.1
theorem dX10_turns_28 : decode cX10_turns 28 = .ok (.iconst 0, 1) := da9_dX10_turns_27.2.1
theorem dX10_turns_29 : decode cX10_turns 29 = .ok (.istore_n 3, 1) := da9_dX10_turns_27.2.2.1
theorem dX10_turns_30 : decode cX10_turns 30 = .ok (.iconst 2, 1) := da9_dX10_turns_27.2.2.2.1
theorem dX10_turns_31 : decode cX10_turns 31 = .ok (.iload_n 3, 1) := da9_dX10_turns_27.2.2.2.2.1
theorem dX10_turns_32 : decode cX10_turns 32 = .ok (.imul, 1) := da9_dX10_turns_27.2.2.2.2.2.1
theorem dX10_turns_33 : decode cX10_turns 33 = .ok (.iload_n 1, 1) := da9_dX10_turns_27.2.2.2.2.2.2.1
theorem dX10_turns_34 : decode cX10_turns 34 = .ok (.iconst 1, 1) := da9_dX10_turns_27.2.2.2.2.2.2.2.1
theorem dX10_turns_35 : decode cX10_turns 35 = .ok (.isub, 1) := da9_dX10_turns_27.2.2.2.2.2.2.2.2.1
theorem dX10_turns_36 : decode cX10_turns 36 = .ok (.if_icmp .ge 19, 3) := da9_dX10_turns_27.2.2.2.2.2.2.2.2.2.1
theorem dX10_turns_39 : decode cX10_turns 39 = .ok (.aload_n 0, 1) := da9_dX10_turns_27.2.2.2.2.2.2.2.2.2.2.1
theorem dX10_turns_40 : decode cX10_turns 40 = .ok (.iload_n 3, 1) := da9_dX10_turns_27.2.2.2.2.2.2.2.2.2.2.2.1
theorem dX10_turns_41 : decode cX10_turns 41 = .ok (.iload_n 1, 1) := da9_dX10_turns_27.2.2.2.2.2.2.2.2.2.2.2.2.1
theorem dX10_turns_42 : decode cX10_turns 42 = .ok (.iconst 1, 1) := da9_dX10_turns_27.2.2.2.2.2.2.2.2.2.2.2.2.2.1
theorem dX10_turns_43 : decode cX10_turns 43 = .ok (.isub, 1) := da9_dX10_turns_27.2.2.2.2.2.2.2.2.2.2.2.2.2.2.1
theorem dX10_turns_44 : decode cX10_turns 44 = .ok (.iload_n 3, 1) := da9_dX10_turns_27.2.2.2.2.2.2.2.2.2.2.2.2.2.2.2
theorem da9_dX10_turns_45 : (decode cX10_turns 45 = .ok (.isub, 1)) ∧ (decode cX10_turns 46 = .ok (.invokevirtual 347, 3)) ∧ (decode cX10_turns 49 = .ok (.iinc 3 1, 3)) ∧ (decode cX10_turns 52 = .ok (.goto (-22), 3)) ∧ (decode cX10_turns 55 = .ok (.iconst 0, 1)) ∧ (decode cX10_turns 56 = .ok (.istore_n 3, 1)) ∧ (decode cX10_turns 57 = .ok (.iload_n 3, 1)) ∧ (decode cX10_turns 58 = .ok (.iload_n 1, 1)) ∧ (decode cX10_turns 59 = .ok (.if_icmp .ge 29, 3)) ∧ (decode cX10_turns 62 = .ok (.aload_n 0, 1)) ∧ (decode cX10_turns 63 = .ok (.getfield 28, 3)) ∧ (decode cX10_turns 66 = .ok (.bipush 6, 2)) ∧ (decode cX10_turns 68 = .ok (.iload_n 3, 1)) ∧ (decode cX10_turns 69 = .ok (.iadd, 1)) ∧ (decode cX10_turns 70 = .ok (.iconst 1, 1)) ∧ (decode cX10_turns 71 = .ok (.aload_n 0, 1)) := by decide +kernel
theorem dX10_turns_45 : decode cX10_turns 45 = .ok (.isub, 1) := da9_dX10_turns_45.1
theorem dX10_turns_46 : decode cX10_turns 46 = .ok (.invokevirtual 347, 3) := da9_dX10_turns_45.2.1
theorem dX10_turns_49 : decode cX10_turns 49 = .ok (.iinc 3 1, 3) := da9_dX10_turns_45.2.2.1
theorem dX10_turns_52 : decode cX10_turns 52 = .ok (.goto (-22), 3) := da9_dX10_turns_45.2.2.2.1
theorem dX10_turns_55 : decode cX10_turns 55 = .ok (.iconst 0, 1) := da9_dX10_turns_45.2.2.2.2.1
theorem dX10_turns_56 : decode cX10_turns 56 = .ok (.istore_n 3, 1) := da9_dX10_turns_45.2.2.2.2.2.1
theorem dX10_turns_57 : decode cX10_turns 57 = .ok (.iload_n 3, 1) := da9_dX10_turns_45.2.2.2.2.2.2.1
theorem dX10_turns_58 : decode cX10_turns 58 = .ok (.iload_n 1, 1) := da9_dX10_turns_45.2.2.2.2.2.2.2.1
theorem dX10_turns_59 : decode cX10_turns 59 = .ok (.if_icmp .ge 29, 3) := da9_dX10_turns_45.2.2.2.2.2.2.2.2.1
theorem dX10_turns_62 : decode cX10_turns 62 = .ok (.aload_n 0, 1) := da9_dX10_turns_45.2.2.2.2.2.2.2.2.2.1
theorem dX10_turns_63 : decode cX10_turns 63 = .ok (.getfield 28, 3) := da9_dX10_turns_45.2.2.2.2.2.2.2.2.2.2.1
theorem dX10_turns_66 : decode cX10_turns 66 = .ok (.bipush 6, 2) := da9_dX10_turns_45.2.2.2.2.2.2.2.2.2.2.2.1
theorem dX10_turns_68 : decode cX10_turns 68 = .ok (.iload_n 3, 1) := da9_dX10_turns_45.2.2.2.2.2.2.2.2.2.2.2.2.1
theorem dX10_turns_69 : decode cX10_turns 69 = .ok (.iadd, 1) := da9_dX10_turns_45.2.2.2.2.2.2.2.2.2.2.2.2.2.1
theorem dX10_turns_70 : decode cX10_turns 70 = .ok (.iconst 1, 1) := da9_dX10_turns_45.2.2.2.2.2.2.2.2.2.2.2.2.2.2.1
theorem dX10_turns_71 : decode cX10_turns 71 = .ok (.aload_n 0, 1) := da9_dX10_turns_45.2.2.2.2.2.2.2.2.2.2.2.2.2.2.2
theorem da9_dX10_turns_72 : (decode cX10_turns 72 = .ok (.getfield 28, 3)) ∧ (decode cX10_turns 75 = .ok (.bipush 6, 2)) ∧ (decode cX10_turns 77 = .ok (.iload_n 3, 1)) ∧ (decode cX10_turns 78 = .ok (.iadd, 1)) ∧ (decode cX10_turns 79 = .ok (.iaload, 1)) ∧ (decode cX10_turns 80 = .ok (.isub, 1)) ∧ (decode cX10_turns 81 = .ok (.iastore, 1)) ∧ (decode cX10_turns 82 = .ok (.iinc 3 1, 3)) ∧ (decode cX10_turns 85 = .ok (.goto (-28), 3)) ∧ (decode cX10_turns 88 = .ok (.aload_n 0, 1)) ∧ (decode cX10_turns 89 = .ok (.getfield 28, 3)) ∧ (decode cX10_turns 92 = .ok (.bipush 12, 2)) ∧ (decode cX10_turns 94 = .ok (.sipush 9999, 3)) ∧ (decode cX10_turns 97 = .ok (.aload_n 0, 1)) ∧ (decode cX10_turns 98 = .ok (.getfield 28, 3)) ∧ (decode cX10_turns 101 = .ok (.bipush 12, 2)) := by decide +kernel
theorem dX10_turns_72 : decode cX10_turns 72 = .ok (.getfield 28, 3) := da9_dX10_turns_72.1
theorem dX10_turns_75 : decode cX10_turns 75 = .ok (.bipush 6, 2) := da9_dX10_turns_72.2.1
theorem dX10_turns_77 : decode cX10_turns 77 = .ok (.iload_n 3, 1) := da9_dX10_turns_72.2.2.1
theorem dX10_turns_78 : decode cX10_turns 78 = .ok (.iadd, 1) := da9_dX10_turns_72.2.2.2.1
theorem dX10_turns_79 : decode cX10_turns 79 = .ok (.iaload, 1) := da9_dX10_turns_72.2.2.2.2.1
theorem dX10_turns_80 : decode cX10_turns 80 = .ok (.isub, 1) := da9_dX10_turns_72.2.2.2.2.2.1
theorem dX10_turns_81 : decode cX10_turns 81 = .ok (.iastore, 1) := da9_dX10_turns_72.2.2.2.2.2.2.1
theorem dX10_turns_82 : decode cX10_turns 82 = .ok (.iinc 3 1, 3) := da9_dX10_turns_72.2.2.2.2.2.2.2.1
theorem dX10_turns_85 : decode cX10_turns 85 = .ok (.goto (-28), 3) := da9_dX10_turns_72.2.2.2.2.2.2.2.2.1
theorem dX10_turns_88 : decode cX10_turns 88 = .ok (.aload_n 0, 1) := da9_dX10_turns_72.2.2.2.2.2.2.2.2.2.1
theorem dX10_turns_89 : decode cX10_turns 89 = .ok (.getfield 28, 3) := da9_dX10_turns_72.2.2.2.2.2.2.2.2.2.2.1
theorem dX10_turns_92 : decode cX10_turns 92 = .ok (.bipush 12, 2) := da9_dX10_turns_72.2.2.2.2.2.2.2.2.2.2.2.1
theorem dX10_turns_94 : decode cX10_turns 94 = .ok (.sipush 9999, 3) := da9_dX10_turns_72.2.2.2.2.2.2.2.2.2.2.2.2.1
theorem dX10_turns_97 : decode cX10_turns 97 = .ok (.aload_n 0, 1) := da9_dX10_turns_72.2.2.2.2.2.2.2.2.2.2.2.2.2.1
theorem dX10_turns_98 : decode cX10_turns 98 = .ok (.getfield 28, 3) := da9_dX10_turns_72.2.2.2.2.2.2.2.2.2.2.2.2.2.2.1
theorem dX10_turns_101 : decode cX10_turns 101 = .ok (.bipush 12, 2) := da9_dX10_turns_72.2.2.2.2.2.2.2.2.2.2.2.2.2.2.2
theorem da9_dX10_turns_103 : (decode cX10_turns 103 = .ok (.iaload, 1)) ∧ (decode cX10_turns 104 = .ok (.iload_n 2, 1)) ∧ (decode cX10_turns 105 = .ok (.iadd, 1)) ∧ (decode cX10_turns 106 = .ok (.invokestatic 350, 3)) ∧ (decode cX10_turns 109 = .ok (.iastore, 1)) ∧ (decode cX10_turns 110 = .ok (.iload_n 2, 1)) ∧ (decode cX10_turns 111 = .ok (.ireturn, 1)) := by decide +kernel
theorem dX10_turns_103 : decode cX10_turns 103 = .ok (.iaload, 1) := da9_dX10_turns_103.1
theorem dX10_turns_104 : decode cX10_turns 104 = .ok (.iload_n 2, 1) := da9_dX10_turns_103.2.1
theorem dX10_turns_105 : decode cX10_turns 105 = .ok (.iadd, 1) := da9_dX10_turns_103.2.2.1
theorem dX10_turns_106 : decode cX10_turns 106 = .ok (.invokestatic 350, 3) := da9_dX10_turns_103.2.2.2.1
theorem dX10_turns_109 : decode cX10_turns 109 = .ok (.iastore, 1) := da9_dX10_turns_103.2.2.2.2.1
theorem dX10_turns_110 : decode cX10_turns 110 = .ok (.iload_n 2, 1) := da9_dX10_turns_103.2.2.2.2.2.1
theorem dX10_turns_111 : decode cX10_turns 111 = .ok (.ireturn, 1) := da9_dX10_turns_103.2.2.2.2.2.2
