theorem da9_dX10_sign_0 : (decode cX10_sign 0 = .ok (.bipush 100, 2)) ∧ (decode cX10_sign 2 = .ok (.iload_n 0, 1)) ∧ (decode cX10_sign 3 = .ok (.iadd, 1)) ∧ (decode cX10_sign 4 = .ok (.ireturn, 1)) := by decide +kernel
theorem dX10_sign_0 : decode cX10_sign 0 = .ok (.bipush 100, 2) := da9_dX10_sign_0.1
theorem dX10_sign_2 : decode cX10_sign 2 = .ok (.iload_n 0, 1) := da9_dX10_sign_0.2.1
theorem dX10_sign_3 : decode cX10_sign 3 = .ok (.iadd, 1) := da9_dX10_sign_0.2.2.1
theorem dX10_sign_4 : decode cX10_sign 4 = .ok (.ireturn, 1) := da9_dX10_sign_0.2.2.2
theorem da9_dX10_codeAt_0 : (decode cX10_codeAt 0 = .ok (.iload_n 1, 1)) ∧ (decode cX10_codeAt 1 = .ok (.aload_n 0, 1)) ∧ (decode cX10_codeAt 2 = .ok (.getfield 275, 3)) ∧ (decode cX10_codeAt 5 = .ok (.if_icmp .ge 15, 3)) ∧ (decode cX10_codeAt 8 = .ok (.aload_n 0, 1)) ∧ (decode cX10_codeAt 9 = .ok (.getfield 28, 3)) ∧ (decode cX10_codeAt 12 = .ok (.bipush 40, 2)) ∧ (decode cX10_codeAt 14 = .ok (.iload_n 1, 1)) ∧ (decode cX10_codeAt 15 = .ok (.iadd, 1)) ∧ (decode cX10_codeAt 16 = .ok (.iaload, 1)) ∧ (decode cX10_codeAt 17 = .ok (.goto 4, 3)) ∧ (decode cX10_codeAt 20 = .ok (.iconst 0, 1)) ∧ (decode cX10_codeAt 21 = .ok (.ireturn, 1)) := by decide +kernel
theorem dX10_codeAt_0 : decode cX10_codeAt 0 = .ok (.iload_n 1, 1) := da9_dX10_codeAt_0.1
theorem dX10_codeAt_1 : decode cX10_codeAt 1 = .ok (.aload_n 0, 1) := da9_dX10_codeAt_0.2.1
theorem dX10_codeAt_2 : decode cX10_codeAt 2 = .ok (.getfield 275, 3) := da9_dX10_codeAt_0.2.2.1
theorem dX10_codeAt_5 : decode cX10_codeAt 5 = .ok (.if_icmp .ge 15, 3) := da9_dX10_codeAt_0.2.2.2.1
theorem dX10_codeAt_8 : decode cX10_codeAt 8 = .ok (.aload_n 0, 1) := da9_dX10_codeAt_0.2.2.2.2.1
theorem dX10_codeAt_9 : decode cX10_codeAt 9 = .ok (.getfield 28, 3) := da9_dX10_codeAt_0.2.2.2.2.2.1
theorem dX10_codeAt_12 : decode cX10_codeAt 12 = .ok (.bipush 40, 2) := da9_dX10_codeAt_0.2.2.2.2.2.2.1
theorem dX10_codeAt_14 : decode cX10_codeAt 14 = .ok (.iload_n 1, 1) := da9_dX10_codeAt_0.2.2.2.2.2.2.2.1
theorem dX10_codeAt_15 : decode cX10_codeAt 15 = .ok (.iadd, 1) := da9_dX10_codeAt_0.2.2.2.2.2.2.2.2.1
theorem dX10_codeAt_16 : decode cX10_codeAt 16 = .ok (.iaload, 1) := da9_dX10_codeAt_0.2.2.2.2.2.2.2.2.2.1
theorem dX10_codeAt_17 : decode cX10_codeAt 17 = .ok (.goto 4, 3) := da9_dX10_codeAt_0.2.2.2.2.2.2.2.2.2.2.1
theorem dX10_codeAt_20 : decode cX10_codeAt 20 = .ok (.iconst 0, 1) := da9_dX10_codeAt_0.2.2.2.2.2.2.2.2.2.2.2.1
theorem dX10_codeAt_21 : decode cX10_codeAt 21 = .ok (.ireturn, 1) := da9_dX10_codeAt_0.2.2.2.2.2.2.2.2.2.2.2.2
set_option maxRecDepth 20000 in
theorem ggX10_passes0_X10_codeAt : GoodIn wsX10_passes0 wsX10_codeAt := goodIn_r _ [6, 7, 8, 9, 10, 11, 12, 13, 14, 15, 16, 17, 18, 19, 20, 21, 22, 23, 24, 25, 26, 27, 28, 29, 30, 31, 32, 33, 34, 35, 36, 37, 38, 39, 40, 41, 42, 43, 44, 45, 46, 47, 48, 49, 50, 51, 52, 53, 54, 55, 56, 57, 58, 59, 60, 61, 62, 63, 64] rfl (by decide +kernel)
set_option maxRecDepth 20000 in
theorem gX10_passes0_X10_codeAt : GoodIn wsX10_passes0 (wsV RX10 281 RX10 yX10_codeAt wsX10_codeAt) := goodIn_app (goodIn_of _ (by decide +kernel)) ggX10_passes0_X10_codeAt
theorem da9_dX10_passes0_0 : (decode cX10_passes0 0 = .ok (.aload_n 0, 1)) ∧ (decode cX10_passes0 1 = .ok (.aload_n 0, 1)) ∧ (decode cX10_passes0 2 = .ok (.getfield 278, 3)) ∧ (decode cX10_passes0 5 = .ok (.invokevirtual 281, 3)) ∧ (decode cX10_passes0 8 = .ok (.iload_n 1, 1)) ∧ (decode cX10_passes0 9 = .ok (.if_icmp .ne 7, 3)) ∧ (decode cX10_passes0 12 = .ok (.iconst 1, 1)) ∧ (decode cX10_passes0 13 = .ok (.goto 4, 3)) ∧ (decode cX10_passes0 16 = .ok (.iconst 0, 1)) ∧ (decode cX10_passes0 17 = .ok (.istore_n 2, 1)) ∧ (decode cX10_passes0 18 = .ok (.iload_n 2, 1)) ∧ (decode cX10_passes0 19 = .ok (.ifCond .eq 13, 3)) ∧ (decode cX10_passes0 22 = .ok (.aload_n 0, 1)) ∧ (decode cX10_passes0 23 = .ok (.dup, 1)) ∧ (decode cX10_passes0 24 = .ok (.getfield 278, 3)) ∧ (decode cX10_passes0 27 = .ok (.iconst 1, 1)) := by decide +kernel
theorem dX10_passes0_0 : decode cX10_passes0 0 = .ok (.aload_n 0, 1) := da9_dX10_passes0_0.1
theorem dX10_passes0_1 : decode cX10_passes0 1 = .ok (.aload_n 0, 1) := da9_dX10_passes0_0.2.1
theorem dX10_passes0_2 : decode cX10_passes0 2 = .ok (.getfield 278, 3) := da9_dX10_passes0_0.2.2.1
theorem dX10_passes0_5 : decode cX10_passes0 5 = .ok (.invokevirtual 281, 3) := da9_dX10_passes0_0.2.2.2.1
theorem dX10_passes0_8 : decode cX10_passes0 8 = .ok (.iload_n 1, 1) := da9_dX10_passes0_0.2.2.2.2.1
theorem dX10_passes0_9 : decode cX10_passes0 9 = .ok (.if_icmp .ne 7, 3) := da9_dX10_passes0_0.2.2.2.2.2.1
theorem dX10_passes0_12 : decode cX10_passes0 12 = .ok (.iconst 1, 1) := da9_dX10_passes0_0.2.2.2.2.2.2.1
theorem dX10_passes0_13 : decode cX10_passes0 13 = .ok (.goto 4, 3) := da9_dX10_passes0_0.2.2.2.2.2.2.2.1
theorem dX10_passes0_16 : decode cX10_passes0 16 = .ok (.iconst 0, 1) := da9_dX10_passes0_0.2.2.2.2.2.2.2.2.1
theorem dX10_passes0_17 : decode cX10_passes0 17 = .ok (.istore_n 2, 1) := da9_dX10_passes0_0.2.2.2.2.2.2.2.2.2.1
theorem dX10_passes0_18 : decode cX10_passes0 18 = .ok (.iload_n 2, 1) := da9_dX10_passes0_0.2.2.2.2.2.2.2.2.2.2.1
theorem dX10_passes0_19 : decode cX10_passes0 19 = .ok (.ifCond .eq 13, 3) := da9_dX10_passes0_0.2.2.2.2.2.2.2.2.2.2.2.1
theorem dX10_passes0_22 : decode cX10_passes0 22 = .ok (.aload_n 0, 1) := da9_dX10_passes0_0.2.2.2.2.2.2.2.2.2.2.2.2.1
theorem dX10_passes0_23 : decode cX10_passes0 23 = .ok (.dup, 1) := da9_dX10_passes0_0.2.2.2.2.2.2.2.2.2.2.2.2.2.1
theorem dX10_passes0_24 : decode cX10_passes0 24 = .ok (.getfield 278, 3) := da9_dX10_passes0_0.2.2.2.2.2.2.2.2.2.2.2.2.2.2.1
theorem dX10_passes0_27 : decode cX10_passes0 27 = .ok (.iconst 1, 1) := da9_dX10_passes0_0.2.2.2.2.2.2.2.2.2.2.2.2.2.2.2
theorem da9_dX10_passes0_28 : (decode cX10_passes0 28 = .ok (.iadd, 1)) ∧ (decode cX10_passes0 29 = .ok (.putfield 278, 3)) ∧ (decode cX10_passes0 32 = .ok (.iload_n 2, 1)) ∧ (decode cX10_passes0 33 = .ok (.ireturn, 1)) := by decide +kernel
theorem dX10_passes0_28 : decode cX10_passes0 28 = .ok (.iadd, 1) := da9_dX10_passes0_28.1
theorem dX10_passes0_29 : decode cX10_passes0 29 = .ok (.putfield 278, 3) := da9_dX10_passes0_28.2.1
theorem dX10_passes0_32 : decode cX10_passes0 32 = .ok (.iload_n 2, 1) := da9_dX10_passes0_28.2.2.1
theorem dX10_passes0_33 : decode cX10_passes0 33 = .ok (.ireturn, 1) := da9_dX10_passes0_28.2.2.2
theorem da9_dX10_bounded_0 : (decode cX10_bounded 0 = .ok (.iload_n 3, 1)) ∧ (decode cX10_bounded 1 = .ok (.ifCond .eq 24, 3)) ∧ (decode cX10_bounded 4 = .ok (.lload_n 1, 1)) ∧ (decode cX10_bounded 5 = .ok (.ldc2_w 284, 3)) ∧ (decode cX10_bounded 8 = .ok (.lcmp, 1)) ∧ (decode cX10_bounded 9 = .ok (.ifCond .gt 11, 3)) ∧ (decode cX10_bounded 12 = .ok (.lload_n 1, 1)) ∧ (decode cX10_bounded 13 = .ok (.ldc2_w 286, 3)) ∧ (decode cX10_bounded 16 = .ok (.lcmp, 1)) ∧ (decode cX10_bounded 17 = .ok (.ifCond .ge 8, 3)) ∧ (decode cX10_bounded 20 = .ok (.aload_n 0, 1)) ∧ (decode cX10_bounded 21 = .ok (.iconst 1, 1)) ∧ (decode cX10_bounded 22 = .ok (.putfield 288, 3)) ∧ (decode cX10_bounded 25 = .ok (.aload_n 0, 1)) ∧ (decode cX10_bounded 26 = .ok (.getfield 288, 3)) ∧ (decode cX10_bounded 29 = .ok (.ifCond .eq 7, 3)) := by decide +kernel
theorem dX10_bounded_0 : decode cX10_bounded 0 = .ok (.iload_n 3, 1) := da9_dX10_bounded_0.1
theorem dX10_bounded_1 : decode cX10_bounded 1 = .ok (.ifCond .eq 24, 3) := da9_dX10_bounded_0.2.1
theorem dX10_bounded_4 : decode cX10_bounded 4 = .ok (.lload_n 1, 1) := da9_dX10_bounded_0.2.2.1
theorem dX10_bounded_5 : decode cX10_bounded 5 = .ok (.ldc2_w 284, 3) := da9_dX10_bounded_0.2.2.2.1
theorem dX10_bounded_8 : decode cX10_bounded 8 = .ok (.lcmp, 1) := da9_dX10_bounded_0.2.2.2.2.1
theorem dX10_bounded_9 : decode cX10_bounded 9 = .ok (.ifCond .gt 11, 3) := da9_dX10_bounded_0.2.2.2.2.2.1
theorem dX10_bounded_12 : decode cX10_bounded 12 = .ok (.lload_n 1, 1) := da9_dX10_bounded_0.2.2.2.2.2.2.1
theorem dX10_bounded_13 : decode cX10_bounded 13 = .ok (.ldc2_w 286, 3) := da9_dX10_bounded_0.2.2.2.2.2.2.2.1
theorem dX10_bounded_16 : decode cX10_bounded 16 = .ok (.lcmp, 1) := da9_dX10_bounded_0.2.2.2.2.2.2.2.2.1
theorem dX10_bounded_17 : decode cX10_bounded 17 = .ok (.ifCond .ge 8, 3) := da9_dX10_bounded_0.2.2.2.2.2.2.2.2.2.1
theorem dX10_bounded_20 : decode cX10_bounded 20 = .ok (.aload_n 0, 1) := da9_dX10_bounded_0.2.2.2.2.2.2.2.2.2.2.1
theorem dX10_bounded_21 : decode cX10_bounded 21 = .ok (.iconst 1, 1) := da9_dX10_bounded_0.2.2.2.2.2.2.2.2.2.2.2.1
theorem dX10_bounded_22 : decode cX10_bounded 22 = .ok (.putfield 288, 3) := da9_dX10_bounded_0.2.2.2.2.2.2.2.2.2.2.2.2.1
theorem dX10_bounded_25 : decode cX10_bounded 25 = .ok (.aload_n 0, 1) := da9_dX10_bounded_0.2.2.2.2.2.2.2.2.2.2.2.2.2.1
theorem dX10_bounded_26 : decode cX10_bounded 26 = .ok (.getfield 288, 3) := da9_dX10_bounded_0.2.2.2.2.2.2.2.2.2.2.2.2.2.2.1
theorem dX10_bounded_29 : decode cX10_bounded 29 = .ok (.ifCond .eq 7, 3) := da9_dX10_bounded_0.2.2.2.2.2.2.2.2.2.2.2.2.2.2.2
theorem da9_dX10_bounded_32 : (decode cX10_bounded 32 = .ok (.lconst 0, 1)) ∧ (decode cX10_bounded 33 = .ok (.goto 4, 3)) ∧ (decode cX10_bounded 36 = .ok (.lload_n 1, 1)) ∧ (decode cX10_bounded 37 = .ok (.lreturn, 1)) := by decide +kernel
theorem dX10_bounded_32 : decode cX10_bounded 32 = .ok (.lconst 0, 1) := da9_dX10_bounded_32.1
theorem dX10_bounded_33 : decode cX10_bounded 33 = .ok (.goto 4, 3) := da9_dX10_bounded_32.2.1
theorem dX10_bounded_36 : decode cX10_bounded 36 = .ok (.lload_n 1, 1) := da9_dX10_bounded_32.2.2.1
theorem dX10_bounded_37 : decode cX10_bounded 37 = .ok (.lreturn, 1) := da9_dX10_bounded_32.2.2.2
set_option maxRecDepth 20000 in
theorem ggX10_partOf_X10_sign : GoodIn wsX10_partOf wsX10_sign := goodIn_r _ [9] rfl (by decide +kernel)
set_option maxRecDepth 20000 in
theorem gX10_partOf_X10_sign : GoodIn wsX10_partOf (va_wsS RX10 237 yX10_sign wsX10_sign) := goodIn_app (goodIn_of _ (by decide +kernel)) ggX10_partOf_X10_sign
set_option maxRecDepth 20000 in
theorem ggX10_partOf_X10_passes0 : GoodIn wsX10_partOf wsX10_passes0 := goodIn_r _ [13, 1, 14, 15, 16, 8, 17, 18, 3, 61, 62, 63, 64, 65, 66, 67, 68, 69, 70, 71, 72, 73, 74, 75, 76, 77, 78, 79, 80, 81, 82, 83, 84, 85, 86, 87, 88, 89, 90, 91, 92, 93, 94, 95, 96, 97, 98, 99, 100, 101, 102, 103, 104, 105, 106, 107, 108, 109, 110, 111, 112, 113, 114, 115, 116] rfl (by decide +kernel)
set_option maxRecDepth 20000 in
theorem gX10_partOf_X10_passes0 : GoodIn wsX10_partOf (wsV RX10 302 RX10 yX10_passes0 wsX10_passes0) := goodIn_app (goodIn_of _ (by decide +kernel)) ggX10_partOf_X10_passes0
set_option maxRecDepth 20000 in
theorem ggX10_partOf_X10_sumOf : GoodIn wsX10_partOf wsX10_sumOf := goodIn_r _ [47, 1, 48, 49, 50, 8, 14, 15, 16, 17, 18, 3, 6, 7, 9, 51, 52, 53, 54, 55, 56, 4, 0, 2, 5, 10, 11, 12, 13, 19, 20, 21, 22, 23, 24, 25, 26, 27, 28, 29, 30, 31, 32, 33, 34, 35, 36, 37, 38, 39, 40, 41, 42, 43, 44, 45, 46, 57, 58, 59, 60, 61, 62, 63, 64, 65, 66, 67, 68, 69, 70, 71, 72, 73, 74, 75, 76, 77, 78, 79, 80, 81, 82, 83, 84, 85, 86, 87, 88, 89, 90, 91, 92, 93, 94, 95, 96, 97, 98, 99, 100, 101, 102, 103, 104, 105, 106, 107, 108, 109, 110, 111, 112, 113, 114, 115, 116] rfl (by decide +kernel)
set_option maxRecDepth 20000 in
theorem gX10_partOf_X10_sumOf : GoodIn wsX10_partOf (wsV RX10 305 RX10 yX10_sumOf wsX10_sumOf) := goodIn_app (goodIn_of _ (by decide +kernel)) ggX10_partOf_X10_sumOf
set_option maxRecDepth 20000 in
theorem ggX10_partOf_X10_codeAt : GoodIn wsX10_partOf wsX10_codeAt := goodIn_r _ [17, 18, 3, 61, 62, 63, 64, 65, 66, 67, 68, 69, 70, 71, 72, 73, 74, 75, 76, 77, 78, 79, 80, 81, 82, 83, 84, 85, 86, 87, 88, 89, 90, 91, 92, 93, 94, 95, 96, 97, 98, 99, 100, 101, 102, 103, 104, 105, 106, 107, 108, 109, 110, 111, 112, 113, 114, 115, 116] rfl (by decide +kernel)
set_option maxRecDepth 20000 in
theorem gX10_partOf_X10_codeAt : GoodIn wsX10_partOf (wsV RX10 281 RX10 yX10_codeAt wsX10_codeAt) := goodIn_app (goodIn_of _ (by decide +kernel)) ggX10_partOf_X10_codeAt
set_option maxRecDepth 20000 in
theorem ggX10_partOf_X10_orderValue : GoodIn wsX10_partOf wsX10_orderValue := goodIn_r _ [25, 3, 26, 27, 28, 29, 30, 8, 31, 32, 33, 34, 35, 36, 37, 38, 39, 40, 41, 42, 43, 44, 45, 46, 61, 62, 63, 64, 65, 66, 67, 68, 69, 70, 71, 72, 73, 74, 75, 76, 77, 78, 79, 80, 81, 82, 83, 84, 85, 86, 87, 88, 89, 90, 91, 92, 93, 94, 95, 96, 97, 98, 99, 100, 101, 102, 103, 104, 105, 106, 107, 108, 109, 110, 111, 112, 113, 114, 115, 116] rfl (by decide +kernel)
set_option maxRecDepth 20000 in
theorem gX10_partOf_X10_orderValue : GoodIn wsX10_partOf (wsV RX10 311 RX10 yX10_orderValue wsX10_orderValue) := goodIn_app (goodIn_of _ (by decide +kernel)) ggX10_partOf_X10_orderValue
theorem da9_dX10_partOf_0 : (decode cX10_partOf 0 = .ok (.aload_n 0, 1)) ∧ (decode cX10_partOf 1 = .ok (.bipush 91, 2)) ∧ (decode cX10_partOf 3 = .ok (.invokestatic 237, 3)) ∧ (decode cX10_partOf 6 = .ok (.invokevirtual 302, 3)) ∧ (decode cX10_partOf 9 = .ok (.ifCond .eq 21, 3)) ∧ (decode cX10_partOf 12 = .ok (.aload_n 0, 1)) ∧ (decode cX10_partOf 13 = .ok (.iload_n 1, 1)) ∧ (decode cX10_partOf 14 = .ok (.invokevirtual 305, 3)) ∧ (decode cX10_partOf 17 = .ok (.lstore_n 2, 1)) ∧ (decode cX10_partOf 18 = .ok (.aload_n 0, 1)) ∧ (decode cX10_partOf 19 = .ok (.dup, 1)) ∧ (decode cX10_partOf 20 = .ok (.getfield 278, 3)) ∧ (decode cX10_partOf 23 = .ok (.iconst 1, 1)) ∧ (decode cX10_partOf 24 = .ok (.iadd, 1)) ∧ (decode cX10_partOf 25 = .ok (.putfield 278, 3)) ∧ (decode cX10_partOf 28 = .ok (.lload_n 2, 1)) := by decide +kernel
theorem dX10_partOf_0 : decode cX10_partOf 0 = .ok (.aload_n 0, 1) := da9_dX10_partOf_0.1
theorem dX10_partOf_1 : decode cX10_partOf 1 = .ok (.bipush 91, 2) := da9_dX10_partOf_0.2.1
theorem dX10_partOf_3 : decode cX10_partOf 3 = .ok (.invokestatic 237, 3) := da9_dX10_partOf_0.2.2.1
theorem dX10_partOf_6 : decode cX10_partOf 6 = .ok (.invokevirtual 302, 3) := da9_dX10_partOf_0.2.2.2.1
theorem dX10_partOf_9 : decode cX10_partOf 9 = .ok (.ifCond .eq 21, 3) := da9_dX10_partOf_0.2.2.2.2.1
theorem dX10_partOf_12 : decode cX10_partOf 12 = .ok (.aload_n 0, 1) := da9_dX10_partOf_0.2.2.2.2.2.1
theorem dX10_partOf_13 : decode cX10_partOf 13 = .ok (.iload_n 1, 1) := da9_dX10_partOf_0.2.2.2.2.2.2.1
theorem dX10_partOf_14 : decode cX10_partOf 14 = .ok (.invokevirtual 305, 3) := da9_dX10_partOf_0.2.2.2.2.2.2.2.1
theorem dX10_partOf_17 : decode cX10_partOf 17 = .ok (.lstore_n 2, 1) := da9_dX10_partOf_0.2.2.2.2.2.2.2.2.1
theorem dX10_partOf_18 : decode cX10_partOf 18 = .ok (.aload_n 0, 1) := da9_dX10_partOf_0.2.2.2.2.2.2.2.2.2.1
theorem dX10_partOf_19 : decode cX10_partOf 19 = .ok (.dup, 1) := da9_dX10_partOf_0.2.2.2.2.2.2.2.2.2.2.1
theorem dX10_partOf_20 : decode cX10_partOf 20 = .ok (.getfield 278, 3) := da9_dX10_partOf_0.2.2.2.2.2.2.2.2.2.2.2.1
theorem dX10_partOf_23 : decode cX10_partOf 23 = .ok (.iconst 1, 1) := da9_dX10_partOf_0.2.2.2.2.2.2.2.2.2.2.2.2.1
theorem dX10_partOf_24 : decode cX10_partOf 24 = .ok (.iadd, 1) := da9_dX10_partOf_0.2.2.2.2.2.2.2.2.2.2.2.2.2.1
theorem dX10_partOf_25 : decode cX10_partOf 25 = .ok (.putfield 278, 3) := da9_dX10_partOf_0.2.2.2.2.2.2.2.2.2.2.2.2.2.2.1
theorem dX10_partOf_28 : decode cX10_partOf 28 = .ok (.lload_n 2, 1) := da9_dX10_partOf_0.2.2.2.2.2.2.2.2.2.2.2.2.2.2.2
theorem da9_dX10_partOf_29 : (decode cX10_partOf 29 = .ok (.lreturn, 1)) ∧ (decode cX10_partOf 30 = .ok (.aload_n 0, 1)) ∧ (decode cX10_partOf 31 = .ok (.aload_n 0, 1)) ∧ (decode cX10_partOf 32 = .ok (.getfield 278, 3)) ∧ (decode cX10_partOf 35 = .ok (.invokevirtual 281, 3)) ∧ (decode cX10_partOf 38 = .ok (.istore_n 2, 1)) ∧ (decode cX10_partOf 39 = .ok (.iconst 0, 1)) ∧ (decode cX10_partOf 40 = .ok (.istore_n 3, 1)) ∧ (decode cX10_partOf 41 = .ok (.aload_n 0, 1)) ∧ (decode cX10_partOf 42 = .ok (.dup, 1)) ∧ (decode cX10_partOf 43 = .ok (.getfield 278, 3)) ∧ (decode cX10_partOf 46 = .ok (.iconst 1, 1)) ∧ (decode cX10_partOf 47 = .ok (.iadd, 1)) ∧ (decode cX10_partOf 48 = .ok (.putfield 278, 3)) ∧ (decode cX10_partOf 51 = .ok (.aload_n 0, 1)) ∧ (decode cX10_partOf 52 = .ok (.getfield 308, 3)) := by decide +kernel
theorem dX10_partOf_29 : decode cX10_partOf 29 = .ok (.lreturn, 1) := da9_dX10_partOf_29.1
theorem dX10_partOf_30 : decode cX10_partOf 30 = .ok (.aload_n 0, 1) := da9_dX10_partOf_29.2.1
theorem dX10_partOf_31 : decode cX10_partOf 31 = .ok (.aload_n 0, 1) := da9_dX10_partOf_29.2.2.1
theorem dX10_partOf_32 : decode cX10_partOf 32 = .ok (.getfield 278, 3) := da9_dX10_partOf_29.2.2.2.1
theorem dX10_partOf_35 : decode cX10_partOf 35 = .ok (.invokevirtual 281, 3) := da9_dX10_partOf_29.2.2.2.2.1
theorem dX10_partOf_38 : decode cX10_partOf 38 = .ok (.istore_n 2, 1) := da9_dX10_partOf_29.2.2.2.2.2.1
theorem dX10_partOf_39 : decode cX10_partOf 39 = .ok (.iconst 0, 1) := da9_dX10_partOf_29.2.2.2.2.2.2.1
theorem dX10_partOf_40 : decode cX10_partOf 40 = .ok (.istore_n 3, 1) := da9_dX10_partOf_29.2.2.2.2.2.2.2.1
theorem dX10_partOf_41 : decode cX10_partOf 41 = .ok (.aload_n 0, 1) := da9_dX10_partOf_29.2.2.2.2.2.2.2.2.1
theorem dX10_partOf_42 : decode cX10_partOf 42 = .ok (.dup, 1) := da9_dX10_partOf_29.2.2.2.2.2.2.2.2.2.1
theorem dX10_partOf_43 : decode cX10_partOf 43 = .ok (.getfield 278, 3) := da9_dX10_partOf_29.2.2.2.2.2.2.2.2.2.2.1
theorem dX10_partOf_46 : decode cX10_partOf 46 = .ok (.iconst 1, 1) := da9_dX10_partOf_29.2.2.2.2.2.2.2.2.2.2.2.1
theorem dX10_partOf_47 : decode cX10_partOf 47 = .ok (.iadd, 1) := da9_dX10_partOf_29.2.2.2.2.2.2.2.2.2.2.2.2.1
theorem dX10_partOf_48 : decode cX10_partOf 48 = .ok (.putfield 278, 3) := da9_dX10_partOf_29.2.2.2.2.2.2.2.2.2.2.2.2.2.1
theorem dX10_partOf_51 : decode cX10_partOf 51 = .ok (.aload_n 0, 1) := da9_dX10_partOf_29.2.2.2.2.2.2.2.2.2.2.2.2.2.2.1
theorem dX10_partOf_52 : decode cX10_partOf 52 = .ok (.getfield 308, 3) := da9_dX10_partOf_29.2.2.2.2.2.2.2.2.2.2.2.2.2.2.2
theorem da9_dX10_partOf_55 : (decode cX10_partOf 55 = .ok (.ifCond .eq 39, 3)) ∧ (decode cX10_partOf 58 = .ok (.iload_n 2, 1)) ∧ (decode cX10_partOf 59 = .ok (.bipush 21, 2)) ∧ (decode cX10_partOf 61 = .ok (.if_icmp .eq 9, 3)) ∧ (decode cX10_partOf 64 = .ok (.iload_n 2, 1)) ∧ (decode cX10_partOf 65 = .ok (.bipush 15, 2)) ∧ (decode cX10_partOf 67 = .ok (.if_icmp .ne 27, 3)) ∧ (decode cX10_partOf 70 = .ok (.aload_n 0, 1)) ∧ (decode cX10_partOf 71 = .ok (.getfield 28, 3)) ∧ (decode cX10_partOf 74 = .ok (.sipush 2840, 3)) ∧ (decode cX10_partOf 77 = .ok (.aload_n 0, 1)) ∧ (decode cX10_partOf 78 = .ok (.getfield 278, 3)) ∧ (decode cX10_partOf 81 = .ok (.iadd, 1)) ∧ (decode cX10_partOf 82 = .ok (.iaload, 1)) ∧ (decode cX10_partOf 83 = .ok (.istore_n 3, 1)) ∧ (decode cX10_partOf 84 = .ok (.aload_n 0, 1)) := by decide +kernel
theorem dX10_partOf_55 : decode cX10_partOf 55 = .ok (.ifCond .eq 39, 3) := da9_dX10_partOf_55.1
theorem dX10_partOf_58 : decode cX10_partOf 58 = .ok (.iload_n 2, 1) := da9_dX10_partOf_55.2.1
theorem dX10_partOf_59 : decode cX10_partOf 59 = .ok (.bipush 21, 2) := da9_dX10_partOf_55.2.2.1
theorem dX10_partOf_61 : decode cX10_partOf 61 = .ok (.if_icmp .eq 9, 3) := da9_dX10_partOf_55.2.2.2.1
theorem dX10_partOf_64 : decode cX10_partOf 64 = .ok (.iload_n 2, 1) := da9_dX10_partOf_55.2.2.2.2.1
theorem dX10_partOf_65 : decode cX10_partOf 65 = .ok (.bipush 15, 2) := da9_dX10_partOf_55.2.2.2.2.2.1
theorem dX10_partOf_67 : decode cX10_partOf 67 = .ok (.if_icmp .ne 27, 3) := da9_dX10_partOf_55.2.2.2.2.2.2.1
theorem dX10_partOf_70 : decode cX10_partOf 70 = .ok (.aload_n 0, 1) := da9_dX10_partOf_55.2.2.2.2.2.2.2.1
theorem dX10_partOf_71 : decode cX10_partOf 71 = .ok (.getfield 28, 3) := da9_dX10_partOf_55.2.2.2.2.2.2.2.2.1
theorem dX10_partOf_74 : decode cX10_partOf 74 = .ok (.sipush 2840, 3) := da9_dX10_partOf_55.2.2.2.2.2.2.2.2.2.1
theorem dX10_partOf_77 : decode cX10_partOf 77 = .ok (.aload_n 0, 1) := da9_dX10_partOf_55.2.2.2.2.2.2.2.2.2.2.1
theorem dX10_partOf_78 : decode cX10_partOf 78 = .ok (.getfield 278, 3) := da9_dX10_partOf_55.2.2.2.2.2.2.2.2.2.2.2.1
theorem dX10_partOf_81 : decode cX10_partOf 81 = .ok (.iadd, 1) := da9_dX10_partOf_55.2.2.2.2.2.2.2.2.2.2.2.2.1
theorem dX10_partOf_82 : decode cX10_partOf 82 = .ok (.iaload, 1) := da9_dX10_partOf_55.2.2.2.2.2.2.2.2.2.2.2.2.2.1
theorem dX10_partOf_83 : decode cX10_partOf 83 = .ok (.istore_n 3, 1) := da9_dX10_partOf_55.2.2.2.2.2.2.2.2.2.2.2.2.2.2.1
theorem dX10_partOf_84 : decode cX10_partOf 84 = .ok (.aload_n 0, 1) := da9_dX10_partOf_55.2.2.2.2.2.2.2.2.2.2.2.2.2.2.2
theorem da9_dX10_partOf_85 : (decode cX10_partOf 85 = .ok (.dup, 1)) ∧ (decode cX10_partOf 86 = .ok (.getfield 278, 3)) ∧ (decode cX10_partOf 89 = .ok (.iconst 1, 1)) ∧ (decode cX10_partOf 90 = .ok (.iadd, 1)) ∧ (decode cX10_partOf 91 = .ok (.putfield 278, 3)) ∧ (decode cX10_partOf 94 = .ok (.iload_n 1, 1)) ∧ (decode cX10_partOf 95 = .ok (.ifCond .eq 10, 3)) ∧ (decode cX10_partOf 98 = .ok (.aload_n 0, 1)) ∧ (decode cX10_partOf 99 = .ok (.getfield 288, 3)) ∧ (decode cX10_partOf 102 = .ok (.ifCond .eq 5, 3)) ∧ (decode cX10_partOf 105 = .ok (.lconst 0, 1)) ∧ (decode cX10_partOf 106 = .ok (.lreturn, 1)) ∧ (decode cX10_partOf 107 = .ok (.iload_n 2, 1)) ∧ (decode cX10_partOf 108 = .ok (.bipush 50, 2)) ∧ (decode cX10_partOf 110 = .ok (.if_icmp .ne 20, 3)) ∧ (decode cX10_partOf 113 = .ok (.aload_n 0, 1)) := by decide +kernel
theorem dX10_partOf_85 : decode cX10_partOf 85 = .ok (.dup, 1) := da9_dX10_partOf_85.1
theorem dX10_partOf_86 : decode cX10_partOf 86 = .ok (.getfield 278, 3) := da9_dX10_partOf_85.2.1
theorem dX10_partOf_89 : decode cX10_partOf 89 = .ok (.iconst 1, 1) := da9_dX10_partOf_85.2.2.1
theorem dX10_partOf_90 : decode cX10_partOf 90 = .ok (.iadd, 1) := da9_dX10_partOf_85.2.2.2.1
theorem dX10_partOf_91 : decode cX10_partOf 91 = .ok (.putfield 278, 3) := da9_dX10_partOf_85.2.2.2.2.1
theorem dX10_partOf_94 : decode cX10_partOf 94 = .ok (.iload_n 1, 1) := da9_dX10_partOf_85.2.2.2.2.2.1
theorem dX10_partOf_95 : decode cX10_partOf 95 = .ok (.ifCond .eq 10, 3) := da9_dX10_partOf_85.2.2.2.2.2.2.1
theorem dX10_partOf_98 : decode cX10_partOf 98 = .ok (.aload_n 0, 1) := da9_dX10_partOf_85.2.2.2.2.2.2.2.1
theorem dX10_partOf_99 : decode cX10_partOf 99 = .ok (.getfield 288, 3) := da9_dX10_partOf_85.2.2.2.2.2.2.2.2.1
theorem dX10_partOf_102 : decode cX10_partOf 102 = .ok (.ifCond .eq 5, 3) := da9_dX10_partOf_85.2.2.2.2.2.2.2.2.2.1
theorem dX10_partOf_105 : decode cX10_partOf 105 = .ok (.lconst 0, 1) := da9_dX10_partOf_85.2.2.2.2.2.2.2.2.2.2.1
theorem dX10_partOf_106 : decode cX10_partOf 106 = .ok (.lreturn, 1) := da9_dX10_partOf_85.2.2.2.2.2.2.2.2.2.2.2.1
theorem dX10_partOf_107 : decode cX10_partOf 107 = .ok (.iload_n 2, 1) := da9_dX10_partOf_85.2.2.2.2.2.2.2.2.2.2.2.2.1
theorem dX10_partOf_108 : decode cX10_partOf 108 = .ok (.bipush 50, 2) := da9_dX10_partOf_85.2.2.2.2.2.2.2.2.2.2.2.2.2.1
theorem dX10_partOf_110 : decode cX10_partOf 110 = .ok (.if_icmp .ne 20, 3) := da9_dX10_partOf_85.2.2.2.2.2.2.2.2.2.2.2.2.2.2.1
theorem dX10_partOf_113 : decode cX10_partOf 113 = .ok (.aload_n 0, 1) := da9_dX10_partOf_85.2.2.2.2.2.2.2.2.2.2.2.2.2.2.2
theorem da9_dX10_partOf_114 : (decode cX10_partOf 114 = .ok (.getfield 28, 3)) ∧ (decode cX10_partOf 117 = .ok (.sipush 2840, 3)) ∧ (decode cX10_partOf 120 = .ok (.aload_n 0, 1)) ∧ (decode cX10_partOf 121 = .ok (.getfield 278, 3)) ∧ (decode cX10_partOf 124 = .ok (.iadd, 1)) ∧ (decode cX10_partOf 125 = .ok (.iconst 1, 1)) ∧ (decode cX10_partOf 126 = .ok (.isub, 1)) ∧ (decode cX10_partOf 127 = .ok (.iaload, 1)) ∧ (decode cX10_partOf 128 = .ok (.i2l, 1)) ∧ (decode cX10_partOf 129 = .ok (.lreturn, 1)) ∧ (decode cX10_partOf 130 = .ok (.aload_n 0, 1)) ∧ (decode cX10_partOf 131 = .ok (.getfield 308, 3)) ∧ (decode cX10_partOf 134 = .ok (.ifCond .eq 13, 3)) ∧ (decode cX10_partOf 137 = .ok (.aload_n 0, 1)) ∧ (decode cX10_partOf 138 = .ok (.iload_n 2, 1)) ∧ (decode cX10_partOf 139 = .ok (.iload_n 3, 1)) := by decide +kernel
theorem dX10_partOf_114 : decode cX10_partOf 114 = .ok (.getfield 28, 3) := da9_dX10_partOf_114.1
theorem dX10_partOf_117 : decode cX10_partOf 117 = .ok (.sipush 2840, 3) := da9_dX10_partOf_114.2.1
theorem dX10_partOf_120 : decode cX10_partOf 120 = .ok (.aload_n 0, 1) := da9_dX10_partOf_114.2.2.1
theorem dX10_partOf_121 : decode cX10_partOf 121 = .ok (.getfield 278, 3) := da9_dX10_partOf_114.2.2.2.1
theorem dX10_partOf_124 : decode cX10_partOf 124 = .ok (.iadd, 1) := da9_dX10_partOf_114.2.2.2.2.1
theorem dX10_partOf_125 : decode cX10_partOf 125 = .ok (.iconst 1, 1) := da9_dX10_partOf_114.2.2.2.2.2.1
theorem dX10_partOf_126 : decode cX10_partOf 126 = .ok (.isub, 1) := da9_dX10_partOf_114.2.2.2.2.2.2.1
theorem dX10_partOf_127 : decode cX10_partOf 127 = .ok (.iaload, 1) := da9_dX10_partOf_114.2.2.2.2.2.2.2.1
theorem dX10_partOf_128 : decode cX10_partOf 128 = .ok (.i2l, 1) := da9_dX10_partOf_114.2.2.2.2.2.2.2.2.1
theorem dX10_partOf_129 : decode cX10_partOf 129 = .ok (.lreturn, 1) := da9_dX10_partOf_114.2.2.2.2.2.2.2.2.2.1
theorem dX10_partOf_130 : decode cX10_partOf 130 = .ok (.aload_n 0, 1) := da9_dX10_partOf_114.2.2.2.2.2.2.2.2.2.2.1
theorem dX10_partOf_131 : decode cX10_partOf 131 = .ok (.getfield 308, 3) := da9_dX10_partOf_114.2.2.2.2.2.2.2.2.2.2.2.1
theorem dX10_partOf_134 : decode cX10_partOf 134 = .ok (.ifCond .eq 13, 3) := da9_dX10_partOf_114.2.2.2.2.2.2.2.2.2.2.2.2.1
theorem dX10_partOf_137 : decode cX10_partOf 137 = .ok (.aload_n 0, 1) := da9_dX10_partOf_114.2.2.2.2.2.2.2.2.2.2.2.2.2.1
theorem dX10_partOf_138 : decode cX10_partOf 138 = .ok (.iload_n 2, 1) := da9_dX10_partOf_114.2.2.2.2.2.2.2.2.2.2.2.2.2.2.1
theorem dX10_partOf_139 : decode cX10_partOf 139 = .ok (.iload_n 3, 1) := da9_dX10_partOf_114.2.2.2.2.2.2.2.2.2.2.2.2.2.2.2
theorem da9_dX10_partOf_140 : (decode cX10_partOf 140 = .ok (.invokevirtual 311, 3)) ∧ (decode cX10_partOf 143 = .ok (.i2l, 1)) ∧ (decode cX10_partOf 144 = .ok (.goto 13, 3)) ∧ (decode cX10_partOf 147 = .ok (.aload_n 0, 1)) ∧ (decode cX10_partOf 148 = .ok (.getfield 63, 3)) ∧ (decode cX10_partOf 151 = .ok (.iload_n 2, 1)) ∧ (decode cX10_partOf 152 = .ok (.bipush 8, 2)) ∧ (decode cX10_partOf 154 = .ok (.isub, 1)) ∧ (decode cX10_partOf 155 = .ok (.iaload, 1)) ∧ (decode cX10_partOf 156 = .ok (.i2l, 1)) ∧ (decode cX10_partOf 157 = .ok (.lreturn, 1)) := by decide +kernel
theorem dX10_partOf_140 : decode cX10_partOf 140 = .ok (.invokevirtual 311, 3) := da9_dX10_partOf_140.1
theorem dX10_partOf_143 : decode cX10_partOf 143 = .ok (.i2l, 1) := da9_dX10_partOf_140.2.1
theorem dX10_partOf_144 : decode cX10_partOf 144 = .ok (.goto 13, 3) := da9_dX10_partOf_140.2.2.1
theorem dX10_partOf_147 : decode cX10_partOf 147 = .ok (.aload_n 0, 1) := da9_dX10_partOf_140.2.2.2.1
theorem dX10_partOf_148 : decode cX10_partOf 148 = .ok (.getfield 63, 3) := da9_dX10_partOf_140.2.2.2.2.1
theorem dX10_partOf_151 : decode cX10_partOf 151 = .ok (.iload_n 2, 1) := da9_dX10_partOf_140.2.2.2.2.2.1
theorem dX10_partOf_152 : decode cX10_partOf 152 = .ok (.bipush 8, 2) := da9_dX10_partOf_140.2.2.2.2.2.2.1
theorem dX10_partOf_154 : decode cX10_partOf 154 = .ok (.isub, 1) := da9_dX10_partOf_140.2.2.2.2.2.2.2.1
theorem dX10_partOf_155 : decode cX10_partOf 155 = .ok (.iaload, 1) := da9_dX10_partOf_140.2.2.2.2.2.2.2.2.1
theorem dX10_partOf_156 : decode cX10_partOf 156 = .ok (.i2l, 1) := da9_dX10_partOf_140.2.2.2.2.2.2.2.2.2.1
theorem dX10_partOf_157 : decode cX10_partOf 157 = .ok (.lreturn, 1) := da9_dX10_partOf_140.2.2.2.2.2.2.2.2.2.2
set_option maxRecDepth 20000 in
theorem ggX10_orderValue_X10_isPlace : GoodIn wsX10_orderValue wsX10_isPlace := goodIn_r _ [8, 9, 10, 11, 7, 12, 1, 13, 14, 15, 24, 25, 26, 27, 28, 29, 30, 31, 32, 33, 34, 35, 36, 37, 38, 39, 40, 41, 42, 43, 44, 45, 46, 47, 48, 49, 50, 51, 52, 53, 54, 55, 56, 57, 58, 59, 60, 61, 62, 63, 64, 65, 66, 67, 68, 69, 70, 71, 72, 73, 74, 75, 76, 77, 78, 79] rfl (by decide +kernel)
set_option maxRecDepth 20000 in
theorem gX10_orderValue_X10_isPlace : GoodIn wsX10_orderValue (wsV RX10 143 RX10 yX10_isPlace wsX10_isPlace) := goodIn_app (goodIn_of _ (by decide +kernel)) ggX10_orderValue_X10_isPlace
set_option maxRecDepth 20000 in
theorem ggX10_orderValue_X10_gaps : GoodIn wsX10_orderValue wsX10_gaps := goodIn_r _ [19, 1, 9, 10, 11, 7, 12, 20, 21, 22, 23, 24, 25, 26, 27, 28, 29, 30, 31, 32, 33, 34, 35, 36, 37, 38, 39, 40, 41, 42, 43, 44, 45, 46, 47, 48, 49, 50, 51, 52, 53, 54, 55, 56, 57, 58, 59, 60, 61, 62, 63, 64, 65, 66, 67, 68, 69, 70, 71, 72, 73, 74, 75, 76, 77, 78, 79] rfl (by decide +kernel)
set_option maxRecDepth 20000 in
theorem gX10_orderValue_X10_gaps : GoodIn wsX10_orderValue (wsV RX10 320 RX10 yX10_gaps wsX10_gaps) := goodIn_app (goodIn_of _ (by decide +kernel)) ggX10_orderValue_X10_gaps
theorem da9_dX10_orderValue_0 : (decode cX10_orderValue 0 = .ok (.iload_n 1, 1)) ∧ (decode cX10_orderValue 1 = .ok (.tableswitch 112 15 21 #[43, 86, 94, 99, 104, 112, 65], 43)) ∧ (decode cX10_orderValue 44 = .ok (.aload_n 0, 1)) ∧ (decode cX10_orderValue 45 = .ok (.iload_n 2, 1)) ∧ (decode cX10_orderValue 46 = .ok (.invokevirtual 143, 3)) ∧ (decode cX10_orderValue 49 = .ok (.ifCond .eq 15, 3)) ∧ (decode cX10_orderValue 52 = .ok (.aload_n 0, 1)) ∧ (decode cX10_orderValue 53 = .ok (.getfield 28, 3)) ∧ (decode cX10_orderValue 56 = .ok (.bipush 6, 2)) ∧ (decode cX10_orderValue 58 = .ok (.iload_n 2, 1)) ∧ (decode cX10_orderValue 59 = .ok (.iadd, 1)) ∧ (decode cX10_orderValue 60 = .ok (.iaload, 1)) ∧ (decode cX10_orderValue 61 = .ok (.goto 4, 3)) ∧ (decode cX10_orderValue 64 = .ok (.iconst (-1), 1)) ∧ (decode cX10_orderValue 65 = .ok (.ireturn, 1)) ∧ (decode cX10_orderValue 66 = .ok (.aload_n 0, 1)) := by decide +kernel
theorem dX10_orderValue_0 : decode cX10_orderValue 0 = .ok (.iload_n 1, 1) := da9_dX10_orderValue_0.1
theorem dX10_orderValue_1 : decode cX10_orderValue 1 = .ok (.tableswitch 112 15 21 #[43, 86, 94, 99, 104, 112, 65], 43) := da9_dX10_orderValue_0.2.1
theorem dX10_orderValue_44 : decode cX10_orderValue 44 = .ok (.aload_n 0, 1) := da9_dX10_orderValue_0.2.2.1
theorem dX10_orderValue_45 : decode cX10_orderValue 45 = .ok (.iload_n 2, 1) := da9_dX10_orderValue_0.2.2.2.1
theorem dX10_orderValue_46 : decode cX10_orderValue 46 = .ok (.invokevirtual 143, 3) := da9_dX10_orderValue_0.2.2.2.2.1
theorem dX10_orderValue_49 : decode cX10_orderValue 49 = .ok (.ifCond .eq 15, 3) := da9_dX10_orderValue_0.2.2.2.2.2.1
theorem dX10_orderValue_52 : decode cX10_orderValue 52 = .ok (.aload_n 0, 1) := da9_dX10_orderValue_0.2.2.2.2.2.2.1
theorem dX10_orderValue_53 : decode cX10_orderValue 53 = .ok (.getfield 28, 3) := da9_dX10_orderValue_0.2.2.2.2.2.2.2.1
theorem dX10_orderValue_56 : decode cX10_orderValue 56 = .ok (.bipush 6, 2) := da9_dX10_orderValue_0.2.2.2.2.2.2.2.2.1
theorem dX10_orderValue_58 : decode cX10_orderValue 58 = .ok (.iload_n 2, 1) := da9_dX10_orderValue_0.2.2.2.2.2.2.2.2.2.1
theorem dX10_orderValue_59 : decode cX10_orderValue 59 = .ok (.iadd, 1) := da9_dX10_orderValue_0.2.2.2.2.2.2.2.2.2.2.1
theorem dX10_orderValue_60 : decode cX10_orderValue 60 = .ok (.iaload, 1) := da9_dX10_orderValue_0.2.2.2.2.2.2.2.2.2.2.2.1
theorem dX10_orderValue_61 : decode cX10_orderValue 61 = .ok (.goto 4, 3) := da9_dX10_orderValue_0.2.2.2.2.2.2.2.2.2.2.2.2.1
theorem dX10_orderValue_64 : decode cX10_orderValue 64 = .ok (.iconst (-1), 1) := da9_dX10_orderValue_0.2.2.2.2.2.2.2.2.2.2.2.2.2.1
theorem dX10_orderValue_65 : decode cX10_orderValue 65 = .ok (.ireturn, 1) := da9_dX10_orderValue_0.2.2.2.2.2.2.2.2.2.2.2.2.2.2.1
theorem dX10_orderValue_66 : decode cX10_orderValue 66 = .ok (.aload_n 0, 1) := da9_dX10_orderValue_0.2.2.2.2.2.2.2.2.2.2.2.2.2.2.2
theorem da9_dX10_orderValue_67 : (decode cX10_orderValue 67 = .ok (.iload_n 2, 1)) ∧ (decode cX10_orderValue 68 = .ok (.invokevirtual 143, 3)) ∧ (decode cX10_orderValue 71 = .ok (.ifCond .eq 14, 3)) ∧ (decode cX10_orderValue 74 = .ok (.aload_n 0, 1)) ∧ (decode cX10_orderValue 75 = .ok (.getfield 28, 3)) ∧ (decode cX10_orderValue 78 = .ok (.iconst 0, 1)) ∧ (decode cX10_orderValue 79 = .ok (.iload_n 2, 1)) ∧ (decode cX10_orderValue 80 = .ok (.iadd, 1)) ∧ (decode cX10_orderValue 81 = .ok (.iaload, 1)) ∧ (decode cX10_orderValue 82 = .ok (.goto 4, 3)) ∧ (decode cX10_orderValue 85 = .ok (.iconst (-1), 1)) ∧ (decode cX10_orderValue 86 = .ok (.ireturn, 1)) ∧ (decode cX10_orderValue 87 = .ok (.aload_n 0, 1)) ∧ (decode cX10_orderValue 88 = .ok (.getfield 28, 3)) ∧ (decode cX10_orderValue 91 = .ok (.bipush 13, 2)) ∧ (decode cX10_orderValue 93 = .ok (.iaload, 1)) := by decide +kernel
theorem dX10_orderValue_67 : decode cX10_orderValue 67 = .ok (.iload_n 2, 1) := da9_dX10_orderValue_67.1
theorem dX10_orderValue_68 : decode cX10_orderValue 68 = .ok (.invokevirtual 143, 3) := da9_dX10_orderValue_67.2.1
theorem dX10_orderValue_71 : decode cX10_orderValue 71 = .ok (.ifCond .eq 14, 3) := da9_dX10_orderValue_67.2.2.1
theorem dX10_orderValue_74 : decode cX10_orderValue 74 = .ok (.aload_n 0, 1) := da9_dX10_orderValue_67.2.2.2.1
theorem dX10_orderValue_75 : decode cX10_orderValue 75 = .ok (.getfield 28, 3) := da9_dX10_orderValue_67.2.2.2.2.1
theorem dX10_orderValue_78 : decode cX10_orderValue 78 = .ok (.iconst 0, 1) := da9_dX10_orderValue_67.2.2.2.2.2.1
theorem dX10_orderValue_79 : decode cX10_orderValue 79 = .ok (.iload_n 2, 1) := da9_dX10_orderValue_67.2.2.2.2.2.2.1
theorem dX10_orderValue_80 : decode cX10_orderValue 80 = .ok (.iadd, 1) := da9_dX10_orderValue_67.2.2.2.2.2.2.2.1
theorem dX10_orderValue_81 : decode cX10_orderValue 81 = .ok (.iaload, 1) := da9_dX10_orderValue_67.2.2.2.2.2.2.2.2.1
theorem dX10_orderValue_82 : decode cX10_orderValue 82 = .ok (.goto 4, 3) := da9_dX10_orderValue_67.2.2.2.2.2.2.2.2.2.1
theorem dX10_orderValue_85 : decode cX10_orderValue 85 = .ok (.iconst (-1), 1) := da9_dX10_orderValue_67.2.2.2.2.2.2.2.2.2.2.1
theorem dX10_orderValue_86 : decode cX10_orderValue 86 = .ok (.ireturn, 1) := da9_dX10_orderValue_67.2.2.2.2.2.2.2.2.2.2.2.1
theorem dX10_orderValue_87 : decode cX10_orderValue 87 = .ok (.aload_n 0, 1) := da9_dX10_orderValue_67.2.2.2.2.2.2.2.2.2.2.2.2.1
theorem dX10_orderValue_88 : decode cX10_orderValue 88 = .ok (.getfield 28, 3) := da9_dX10_orderValue_67.2.2.2.2.2.2.2.2.2.2.2.2.2.1
theorem dX10_orderValue_91 : decode cX10_orderValue 91 = .ok (.bipush 13, 2) := da9_dX10_orderValue_67.2.2.2.2.2.2.2.2.2.2.2.2.2.2.1
theorem dX10_orderValue_93 : decode cX10_orderValue 93 = .ok (.iaload, 1) := da9_dX10_orderValue_67.2.2.2.2.2.2.2.2.2.2.2.2.2.2.2
theorem da9_dX10_orderValue_94 : (decode cX10_orderValue 94 = .ok (.ireturn, 1)) ∧ (decode cX10_orderValue 95 = .ok (.aload_n 0, 1)) ∧ (decode cX10_orderValue 96 = .ok (.getfield 314, 3)) ∧ (decode cX10_orderValue 99 = .ok (.ireturn, 1)) ∧ (decode cX10_orderValue 100 = .ok (.aload_n 0, 1)) ∧ (decode cX10_orderValue 101 = .ok (.getfield 317, 3)) ∧ (decode cX10_orderValue 104 = .ok (.ireturn, 1)) ∧ (decode cX10_orderValue 105 = .ok (.aload_n 0, 1)) ∧ (decode cX10_orderValue 106 = .ok (.getfield 28, 3)) ∧ (decode cX10_orderValue 109 = .ok (.bipush 12, 2)) ∧ (decode cX10_orderValue 111 = .ok (.iaload, 1)) ∧ (decode cX10_orderValue 112 = .ok (.ireturn, 1)) ∧ (decode cX10_orderValue 113 = .ok (.aload_n 0, 1)) ∧ (decode cX10_orderValue 114 = .ok (.invokevirtual 320, 3)) ∧ (decode cX10_orderValue 117 = .ok (.ireturn, 1)) := by decide +kernel
theorem dX10_orderValue_94 : decode cX10_orderValue 94 = .ok (.ireturn, 1) := da9_dX10_orderValue_94.1
theorem dX10_orderValue_95 : decode cX10_orderValue 95 = .ok (.aload_n 0, 1) := da9_dX10_orderValue_94.2.1
theorem dX10_orderValue_96 : decode cX10_orderValue 96 = .ok (.getfield 314, 3) := da9_dX10_orderValue_94.2.2.1
theorem dX10_orderValue_99 : decode cX10_orderValue 99 = .ok (.ireturn, 1) := da9_dX10_orderValue_94.2.2.2.1
theorem dX10_orderValue_100 : decode cX10_orderValue 100 = .ok (.aload_n 0, 1) := da9_dX10_orderValue_94.2.2.2.2.1
theorem dX10_orderValue_101 : decode cX10_orderValue 101 = .ok (.getfield 317, 3) := da9_dX10_orderValue_94.2.2.2.2.2.1
theorem dX10_orderValue_104 : decode cX10_orderValue 104 = .ok (.ireturn, 1) := da9_dX10_orderValue_94.2.2.2.2.2.2.1
theorem dX10_orderValue_105 : decode cX10_orderValue 105 = .ok (.aload_n 0, 1) := da9_dX10_orderValue_94.2.2.2.2.2.2.2.1
theorem dX10_orderValue_106 : decode cX10_orderValue 106 = .ok (.getfield 28, 3) := da9_dX10_orderValue_94.2.2.2.2.2.2.2.2.1
theorem dX10_orderValue_109 : decode cX10_orderValue 109 = .ok (.bipush 12, 2) := da9_dX10_orderValue_94.2.2.2.2.2.2.2.2.2.1
theorem dX10_orderValue_111 : decode cX10_orderValue 111 = .ok (.iaload, 1) := da9_dX10_orderValue_94.2.2.2.2.2.2.2.2.2.2.1
theorem dX10_orderValue_112 : decode cX10_orderValue 112 = .ok (.ireturn, 1) := da9_dX10_orderValue_94.2.2.2.2.2.2.2.2.2.2.2.1
theorem dX10_orderValue_113 : decode cX10_orderValue 113 = .ok (.aload_n 0, 1) := da9_dX10_orderValue_94.2.2.2.2.2.2.2.2.2.2.2.2.1
theorem dX10_orderValue_114 : decode cX10_orderValue 114 = .ok (.invokevirtual 320, 3) := da9_dX10_orderValue_94.2.2.2.2.2.2.2.2.2.2.2.2.2.1
theorem dX10_orderValue_117 : decode cX10_orderValue 117 = .ok (.ireturn, 1) := da9_dX10_orderValue_94.2.2.2.2.2.2.2.2.2.2.2.2.2.2
set_option maxRecDepth 20000 in
theorem ggX10_setsFloor_X10_setsAsked : GoodIn wsX10_setsFloor wsX10_setsAsked := goodIn_r _ [7, 1, 2, 8, 9, 10, 6, 11, 12, 13, 14, 15, 16, 17, 18, 19, 20, 21, 22, 23, 24, 25, 26, 27, 28, 29, 30, 31, 32, 33, 34, 35, 36, 37, 38, 39, 40, 41, 42, 43, 44, 45, 46, 47, 48, 49, 50, 51, 52, 53, 54, 55, 56, 57, 58, 59, 60, 61, 62, 63, 64, 65, 66, 67] rfl (by decide +kernel)
set_option maxRecDepth 20000 in
theorem gX10_setsFloor_X10_setsAsked : GoodIn wsX10_setsFloor (wsV RX10 335 RX10 yX10_setsAsked wsX10_setsAsked) := goodIn_app (goodIn_of _ (by decide +kernel)) ggX10_setsFloor_X10_setsAsked
theorem da9_dX10_setsFloor_0 : (decode cX10_setsFloor 0 = .ok (.aload_n 0, 1)) ∧ (decode cX10_setsFloor 1 = .ok (.getfield 63, 3)) ∧ (decode cX10_setsFloor 4 = .ok (.iconst 0, 1)) ∧ (decode cX10_setsFloor 5 = .ok (.iconst (-1), 1)) ∧ (decode cX10_setsFloor 6 = .ok (.iastore, 1)) ∧ (decode cX10_setsFloor 7 = .ok (.aload_n 0, 1)) ∧ (decode cX10_setsFloor 8 = .ok (.getfield 63, 3)) ∧ (decode cX10_setsFloor 11 = .ok (.iconst 1, 1)) ∧ (decode cX10_setsFloor 12 = .ok (.iconst (-1), 1)) ∧ (decode cX10_setsFloor 13 = .ok (.iastore, 1)) ∧ (decode cX10_setsFloor 14 = .ok (.aload_n 0, 1)) ∧ (decode cX10_setsFloor 15 = .ok (.getfield 63, 3)) ∧ (decode cX10_setsFloor 18 = .ok (.iconst 2, 1)) ∧ (decode cX10_setsFloor 19 = .ok (.iconst (-1), 1)) ∧ (decode cX10_setsFloor 20 = .ok (.iastore, 1)) ∧ (decode cX10_setsFloor 21 = .ok (.aload_n 0, 1)) := by decide +kernel
theorem dX10_setsFloor_0 : decode cX10_setsFloor 0 = .ok (.aload_n 0, 1) := da9_dX10_setsFloor_0.1
theorem dX10_setsFloor_1 : decode cX10_setsFloor 1 = .ok (.getfield 63, 3) := da9_dX10_setsFloor_0.2.1
theorem dX10_setsFloor_4 : decode cX10_setsFloor 4 = .ok (.iconst 0, 1) := da9_dX10_setsFloor_0.2.2.1
theorem dX10_setsFloor_5 : decode cX10_setsFloor 5 = .ok (.iconst (-1), 1) := da9_dX10_setsFloor_0.2.2.2.1
theorem dX10_setsFloor_6 : decode cX10_setsFloor 6 = .ok (.iastore, 1) := da9_dX10_setsFloor_0.2.2.2.2.1
theorem dX10_setsFloor_7 : decode cX10_setsFloor 7 = .ok (.aload_n 0, 1) := da9_dX10_setsFloor_0.2.2.2.2.2.1
theorem dX10_setsFloor_8 : decode cX10_setsFloor 8 = .ok (.getfield 63, 3) := da9_dX10_setsFloor_0.2.2.2.2.2.2.1
theorem dX10_setsFloor_11 : decode cX10_setsFloor 11 = .ok (.iconst 1, 1) := da9_dX10_setsFloor_0.2.2.2.2.2.2.2.1
theorem dX10_setsFloor_12 : decode cX10_setsFloor 12 = .ok (.iconst (-1), 1) := da9_dX10_setsFloor_0.2.2.2.2.2.2.2.2.1
theorem dX10_setsFloor_13 : decode cX10_setsFloor 13 = .ok (.iastore, 1) := da9_dX10_setsFloor_0.2.2.2.2.2.2.2.2.2.1
theorem dX10_setsFloor_14 : decode cX10_setsFloor 14 = .ok (.aload_n 0, 1) := da9_dX10_setsFloor_0.2.2.2.2.2.2.2.2.2.2.1
theorem dX10_setsFloor_15 : decode cX10_setsFloor 15 = .ok (.getfield 63, 3) := da9_dX10_setsFloor_0.2.2.2.2.2.2.2.2.2.2.2.1
theorem dX10_setsFloor_18 : decode cX10_setsFloor 18 = .ok (.iconst 2, 1) := da9_dX10_setsFloor_0.2.2.2.2.2.2.2.2.2.2.2.2.1
theorem dX10_setsFloor_19 : decode cX10_setsFloor 19 = .ok (.iconst (-1), 1) := da9_dX10_setsFloor_0.2.2.2.2.2.2.2.2.2.2.2.2.2.1
theorem dX10_setsFloor_20 : decode cX10_setsFloor 20 = .ok (.iastore, 1) := da9_dX10_setsFloor_0.2.2.2.2.2.2.2.2.2.2.2.2.2.2.1
theorem dX10_setsFloor_21 : decode cX10_setsFloor 21 = .ok (.aload_n 0, 1) := da9_dX10_setsFloor_0.2.2.2.2.2.2.2.2.2.2.2.2.2.2.2
theorem da9_dX10_setsFloor_22 : (decode cX10_setsFloor 22 = .ok (.aload_n 0, 1)) ∧ (decode cX10_setsFloor 23 = .ok (.getfield 28, 3)) ∧ (decode cX10_setsFloor 26 = .ok (.iconst 0, 1)) ∧ (decode cX10_setsFloor 27 = .ok (.iload_n 1, 1)) ∧ (decode cX10_setsFloor 28 = .ok (.iadd, 1)) ∧ (decode cX10_setsFloor 29 = .ok (.iaload, 1)) ∧ (decode cX10_setsFloor 30 = .ok (.iload_n 1, 1)) ∧ (decode cX10_setsFloor 31 = .ok (.aload_n 0, 1)) ∧ (decode cX10_setsFloor 32 = .ok (.getfield 28, 3)) ∧ (decode cX10_setsFloor 35 = .ok (.bipush 6, 2)) ∧ (decode cX10_setsFloor 37 = .ok (.iload_n 1, 1)) ∧ (decode cX10_setsFloor 38 = .ok (.iadd, 1)) ∧ (decode cX10_setsFloor 39 = .ok (.iaload, 1)) ∧ (decode cX10_setsFloor 40 = .ok (.invokevirtual 335, 3)) ∧ (decode cX10_setsFloor 43 = .ok (.return_, 1)) := by decide +kernel
theorem dX10_setsFloor_22 : decode cX10_setsFloor 22 = .ok (.aload_n 0, 1) := da9_dX10_setsFloor_22.1
theorem dX10_setsFloor_23 : decode cX10_setsFloor 23 = .ok (.getfield 28, 3) := da9_dX10_setsFloor_22.2.1
theorem dX10_setsFloor_26 : decode cX10_setsFloor 26 = .ok (.iconst 0, 1) := da9_dX10_setsFloor_22.2.2.1
theorem dX10_setsFloor_27 : decode cX10_setsFloor 27 = .ok (.iload_n 1, 1) := da9_dX10_setsFloor_22.2.2.2.1
theorem dX10_setsFloor_28 : decode cX10_setsFloor 28 = .ok (.iadd, 1) := da9_dX10_setsFloor_22.2.2.2.2.1
theorem dX10_setsFloor_29 : decode cX10_setsFloor 29 = .ok (.iaload, 1) := da9_dX10_setsFloor_22.2.2.2.2.2.1
theorem dX10_setsFloor_30 : decode cX10_setsFloor 30 = .ok (.iload_n 1, 1) := da9_dX10_setsFloor_22.2.2.2.2.2.2.1
theorem dX10_setsFloor_31 : decode cX10_setsFloor 31 = .ok (.aload_n 0, 1) := da9_dX10_setsFloor_22.2.2.2.2.2.2.2.1
theorem dX10_setsFloor_32 : decode cX10_setsFloor 32 = .ok (.getfield 28, 3) := da9_dX10_setsFloor_22.2.2.2.2.2.2.2.2.1
theorem dX10_setsFloor_35 : decode cX10_setsFloor 35 = .ok (.bipush 6, 2) := da9_dX10_setsFloor_22.2.2.2.2.2.2.2.2.2.1
theorem dX10_setsFloor_37 : decode cX10_setsFloor 37 = .ok (.iload_n 1, 1) := da9_dX10_setsFloor_22.2.2.2.2.2.2.2.2.2.2.1
theorem dX10_setsFloor_38 : decode cX10_setsFloor 38 = .ok (.iadd, 1) := da9_dX10_setsFloor_22.2.2.2.2.2.2.2.2.2.2.2.1
theorem dX10_setsFloor_39 : decode cX10_setsFloor 39 = .ok (.iaload, 1) := da9_dX10_setsFloor_22.2.2.2.2.2.2.2.2.2.2.2.2.1
theorem dX10_setsFloor_40 : decode cX10_setsFloor 40 = .ok (.invokevirtual 335, 3) := da9_dX10_setsFloor_22.2.2.2.2.2.2.2.2.2.2.2.2.2.1
theorem dX10_setsFloor_43 : decode cX10_setsFloor 43 = .ok (.return_, 1) := da9_dX10_setsFloor_22.2.2.2.2.2.2.2.2.2.2.2.2.2.2
set_option maxRecDepth 20000 in
theorem ggX10_lessThan_X10_size : GoodIn wsX10_lessThan wsX10_size := goodIn_r _ [6, 1, 7, 8, 9, 10, 11, 12, 13, 14, 15, 16, 17, 18, 19, 20, 21, 22, 23, 24, 25, 26, 27, 28, 29, 30, 31, 32, 33, 34, 35, 36, 37, 38, 39, 40, 41, 42, 43, 44, 45, 46, 47, 48, 49, 50, 51, 52, 53, 54, 55, 56, 57, 58, 59, 60, 61, 62] rfl (by decide +kernel)
set_option maxRecDepth 20000 in
theorem gX10_lessThan_X10_size : GoodIn wsX10_lessThan (wsV RX10 125 RX10 yX10_size wsX10_size) := goodIn_app (goodIn_of _ (by decide +kernel)) ggX10_lessThan_X10_size
theorem da9_dX10_lessThan_0 : (decode cX10_lessThan 0 = .ok (.iconst 0, 1)) ∧ (decode cX10_lessThan 1 = .ok (.istore_n 2, 1)) ∧ (decode cX10_lessThan 2 = .ok (.iconst 0, 1)) ∧ (decode cX10_lessThan 3 = .ok (.istore_n 3, 1)) ∧ (decode cX10_lessThan 4 = .ok (.iload_n 3, 1)) ∧ (decode cX10_lessThan 5 = .ok (.aload_n 0, 1)) ∧ (decode cX10_lessThan 6 = .ok (.invokevirtual 125, 3)) ∧ (decode cX10_lessThan 9 = .ok (.if_icmp .ge 29, 3)) ∧ (decode cX10_lessThan 12 = .ok (.iload_n 2, 1)) ∧ (decode cX10_lessThan 13 = .ok (.aload_n 0, 1)) ∧ (decode cX10_lessThan 14 = .ok (.getfield 28, 3)) ∧ (decode cX10_lessThan 17 = .ok (.iconst 0, 1)) ∧ (decode cX10_lessThan 18 = .ok (.iload_n 3, 1)) ∧ (decode cX10_lessThan 19 = .ok (.iadd, 1)) ∧ (decode cX10_lessThan 20 = .ok (.iaload, 1)) ∧ (decode cX10_lessThan 21 = .ok (.iload_n 1, 1)) := by decide +kernel
theorem dX10_lessThan_0 : decode cX10_lessThan 0 = .ok (.iconst 0, 1) := da9_dX10_lessThan_0.1
theorem dX10_lessThan_1 : decode cX10_lessThan 1 = .ok (.istore_n 2, 1) := da9_dX10_lessThan_0.2.1
theorem dX10_lessThan_2 : decode cX10_lessThan 2 = .ok (.iconst 0, 1) := da9_dX10_lessThan_0.2.2.1
theorem dX10_lessThan_3 : decode cX10_lessThan 3 = .ok (.istore_n 3, 1) := da9_dX10_lessThan_0.2.2.2.1
theorem dX10_lessThan_4 : decode cX10_lessThan 4 = .ok (.iload_n 3, 1) := da9_dX10_lessThan_0.2.2.2.2.1
theorem dX10_lessThan_5 : decode cX10_lessThan 5 = .ok (.aload_n 0, 1) := da9_dX10_lessThan_0.2.2.2.2.2.1
theorem dX10_lessThan_6 : decode cX10_lessThan 6 = .ok (.invokevirtual 125, 3) := da9_dX10_lessThan_0.2.2.2.2.2.2.1
theorem dX10_lessThan_9 : decode cX10_lessThan 9 = .ok (.if_icmp .ge 29, 3) := da9_dX10_lessThan_0.2.2.2.2.2.2.2.1
theorem dX10_lessThan_12 : decode cX10_lessThan 12 = .ok (.iload_n 2, 1) := da9_dX10_lessThan_0.2.2.2.2.2.2.2.2.1
theorem dX10_lessThan_13 : decode cX10_lessThan 13 = .ok (.aload_n 0, 1) := da9_dX10_lessThan_0.2.2.2.2.2.2.2.2.2.1
theorem dX10_lessThan_14 : decode cX10_lessThan 14 = .ok (.getfield 28, 3) := da9_dX10_lessThan_0.2.2.2.2.2.2.2.2.2.2.1
theorem dX10_lessThan_17 : decode cX10_lessThan 17 = .ok (.iconst 0, 1) := da9_dX10_lessThan_0.2.2.2.2.2.2.2.2.2.2.2.1
theorem dX10_lessThan_18 : decode cX10_lessThan 18 = .ok (.iload_n 3, 1) := da9_dX10_lessThan_0.2.2.2.2.2.2.2.2.2.2.2.2.1
theorem dX10_lessThan_19 : decode cX10_lessThan 19 = .ok (.iadd, 1) := da9_dX10_lessThan_0.2.2.2.2.2.2.2.2.2.2.2.2.2.1
theorem dX10_lessThan_20 : decode cX10_lessThan 20 = .ok (.iaload, 1) := da9_dX10_lessThan_0.2.2.2.2.2.2.2.2.2.2.2.2.2.2.1
theorem dX10_lessThan_21 : decode cX10_lessThan 21 = .ok (.iload_n 1, 1) := da9_dX10_lessThan_0.2.2.2.2.2.2.2.2.2.2.2.2.2.2.2
theorem da9_dX10_lessThan_22 : (decode cX10_lessThan 22 = .ok (.if_icmp .ge 7, 3)) ∧ (decode cX10_lessThan 25 = .ok (.iconst 1, 1)) ∧ (decode cX10_lessThan 26 = .ok (.goto 4, 3)) ∧ (decode cX10_lessThan 29 = .ok (.iconst 0, 1)) ∧ (decode cX10_lessThan 30 = .ok (.iadd, 1)) ∧ (decode cX10_lessThan 31 = .ok (.istore_n 2, 1)) ∧ (decode cX10_lessThan 32 = .ok (.iinc 3 1, 3)) ∧ (decode cX10_lessThan 35 = .ok (.goto (-31), 3)) ∧ (decode cX10_lessThan 38 = .ok (.iload_n 2, 1)) ∧ (decode cX10_lessThan 39 = .ok (.ireturn, 1)) := by decide +kernel
theorem dX10_lessThan_22 : decode cX10_lessThan 22 = .ok (.if_icmp .ge 7, 3) := da9_dX10_lessThan_22.1
theorem dX10_lessThan_25 : decode cX10_lessThan 25 = .ok (.iconst 1, 1) := da9_dX10_lessThan_22.2.1
theorem dX10_lessThan_26 : decode cX10_lessThan 26 = .ok (.goto 4, 3) := da9_dX10_lessThan_22.2.2.1
theorem dX10_lessThan_29 : decode cX10_lessThan 29 = .ok (.iconst 0, 1) := da9_dX10_lessThan_22.2.2.2.1
theorem dX10_lessThan_30 : decode cX10_lessThan 30 = .ok (.iadd, 1) := da9_dX10_lessThan_22.2.2.2.2.1
theorem dX10_lessThan_31 : decode cX10_lessThan 31 = .ok (.istore_n 2, 1) := da9_dX10_lessThan_22.2.2.2.2.2.1
theorem dX10_lessThan_32 : decode cX10_lessThan 32 = .ok (.iinc 3 1, 3) := da9_dX10_lessThan_22.2.2.2.2.2.2.1
theorem dX10_lessThan_35 : decode cX10_lessThan 35 = .ok (.goto (-31), 3) := da9_dX10_lessThan_22.2.2.2.2.2.2.2.1
theorem dX10_lessThan_38 : decode cX10_lessThan 38 = .ok (.iload_n 2, 1) := da9_dX10_lessThan_22.2.2.2.2.2.2.2.2.1
theorem dX10_lessThan_39 : decode cX10_lessThan 39 = .ok (.ireturn, 1) := da9_dX10_lessThan_22.2.2.2.2.2.2.2.2.2
set_option maxRecDepth 20000 in
theorem ggX10_gaps_X10_size : GoodIn wsX10_gaps wsX10_size := goodIn_r _ [6, 1, 11, 12, 13, 14, 15, 16, 17, 18, 19, 20, 21, 22, 23, 24, 25, 26, 27, 28, 29, 30, 31, 32, 33, 34, 35, 36, 37, 38, 39, 40, 41, 42, 43, 44, 45, 46, 47, 48, 49, 50, 51, 52, 53, 54, 55, 56, 57, 58, 59, 60, 61, 62, 63, 64, 65, 66] rfl (by decide +kernel)
set_option maxRecDepth 20000 in
theorem gX10_gaps_X10_size : GoodIn wsX10_gaps (wsV RX10 125 RX10 yX10_size wsX10_size) := goodIn_app (goodIn_of _ (by decide +kernel)) ggX10_gaps_X10_size
set_option maxRecDepth 20000 in
theorem ggX10_gaps_X10_lessThan : GoodIn wsX10_gaps wsX10_lessThan := goodIn_r _ [10, 1, 2, 3, 4, 5, 6, 11, 12, 13, 14, 15, 16, 17, 18, 19, 20, 21, 22, 23, 24, 25, 26, 27, 28, 29, 30, 31, 32, 33, 34, 35, 36, 37, 38, 39, 40, 41, 42, 43, 44, 45, 46, 47, 48, 49, 50, 51, 52, 53, 54, 55, 56, 57, 58, 59, 60, 61, 62, 63, 64, 65, 66] rfl (by decide +kernel)
set_option maxRecDepth 20000 in
theorem gX10_gaps_X10_lessThan : GoodIn wsX10_gaps (wsV RX10 401 RX10 yX10_lessThan wsX10_lessThan) := goodIn_app (goodIn_of _ (by decide +kernel)) ggX10_gaps_X10_lessThan
theorem da9_dX10_gaps_0 : (decode cX10_gaps 0 = .ok (.aload_n 0, 1)) ∧ (decode cX10_gaps 1 = .ok (.invokevirtual 125, 3)) ∧ (decode cX10_gaps 4 = .ok (.ifCond .le 33, 3)) ∧ (decode cX10_gaps 7 = .ok (.aload_n 0, 1)) ∧ (decode cX10_gaps 8 = .ok (.aload_n 0, 1)) ∧ (decode cX10_gaps 9 = .ok (.getfield 28, 3)) ∧ (decode cX10_gaps 12 = .ok (.iconst 0, 1)) ∧ (decode cX10_gaps 13 = .ok (.aload_n 0, 1)) ∧ (decode cX10_gaps 14 = .ok (.invokevirtual 125, 3)) ∧ (decode cX10_gaps 17 = .ok (.iadd, 1)) ∧ (decode cX10_gaps 18 = .ok (.iconst 1, 1)) ∧ (decode cX10_gaps 19 = .ok (.isub, 1)) ∧ (decode cX10_gaps 20 = .ok (.iaload, 1)) ∧ (decode cX10_gaps 21 = .ok (.invokevirtual 401, 3)) ∧ (decode cX10_gaps 24 = .ok (.aload_n 0, 1)) ∧ (decode cX10_gaps 25 = .ok (.invokevirtual 125, 3)) := by decide +kernel
theorem dX10_gaps_0 : decode cX10_gaps 0 = .ok (.aload_n 0, 1) := da9_dX10_gaps_0.1
theorem dX10_gaps_1 : decode cX10_gaps 1 = .ok (.invokevirtual 125, 3) := da9_dX10_gaps_0.2.1
theorem dX10_gaps_4 : decode cX10_gaps 4 = .ok (.ifCond .le 33, 3) := da9_dX10_gaps_0.2.2.1
theorem dX10_gaps_7 : decode cX10_gaps 7 = .ok (.aload_n 0, 1) := da9_dX10_gaps_0.2.2.2.1
theorem dX10_gaps_8 : decode cX10_gaps 8 = .ok (.aload_n 0, 1) := da9_dX10_gaps_0.2.2.2.2.1
theorem dX10_gaps_9 : decode cX10_gaps 9 = .ok (.getfield 28, 3) := da9_dX10_gaps_0.2.2.2.2.2.1
theorem dX10_gaps_12 : decode cX10_gaps 12 = .ok (.iconst 0, 1) := da9_dX10_gaps_0.2.2.2.2.2.2.1
theorem dX10_gaps_13 : decode cX10_gaps 13 = .ok (.aload_n 0, 1) := da9_dX10_gaps_0.2.2.2.2.2.2.2.1
theorem dX10_gaps_14 : decode cX10_gaps 14 = .ok (.invokevirtual 125, 3) := da9_dX10_gaps_0.2.2.2.2.2.2.2.2.1
theorem dX10_gaps_17 : decode cX10_gaps 17 = .ok (.iadd, 1) := da9_dX10_gaps_0.2.2.2.2.2.2.2.2.2.1
theorem dX10_gaps_18 : decode cX10_gaps 18 = .ok (.iconst 1, 1) := da9_dX10_gaps_0.2.2.2.2.2.2.2.2.2.2.1
theorem dX10_gaps_19 : decode cX10_gaps 19 = .ok (.isub, 1) := da9_dX10_gaps_0.2.2.2.2.2.2.2.2.2.2.2.1
theorem dX10_gaps_20 : decode cX10_gaps 20 = .ok (.iaload, 1) := da9_dX10_gaps_0.2.2.2.2.2.2.2.2.2.2.2.2.1
theorem dX10_gaps_21 : decode cX10_gaps 21 = .ok (.invokevirtual 401, 3) := da9_dX10_gaps_0.2.2.2.2.2.2.2.2.2.2.2.2.2.1
theorem dX10_gaps_24 : decode cX10_gaps 24 = .ok (.aload_n 0, 1) := da9_dX10_gaps_0.2.2.2.2.2.2.2.2.2.2.2.2.2.2.1
theorem dX10_gaps_25 : decode cX10_gaps 25 = .ok (.invokevirtual 125, 3) := da9_dX10_gaps_0.2.2.2.2.2.2.2.2.2.2.2.2.2.2.2
theorem da9_dX10_gaps_28 : (decode cX10_gaps 28 = .ok (.iconst 1, 1)) ∧ (decode cX10_gaps 29 = .ok (.isub, 1)) ∧ (decode cX10_gaps 30 = .ok (.if_icmp .ge 7, 3)) ∧ (decode cX10_gaps 33 = .ok (.iconst 1, 1)) ∧ (decode cX10_gaps 34 = .ok (.goto 4, 3)) ∧ (decode cX10_gaps 37 = .ok (.iconst 0, 1)) ∧ (decode cX10_gaps 38 = .ok (.istore_n 1, 1)) ∧ (decode cX10_gaps 39 = .ok (.iconst 0, 1)) ∧ (decode cX10_gaps 40 = .ok (.istore_n 2, 1)) ∧ (decode cX10_gaps 41 = .ok (.iload_n 2, 1)) ∧ (decode cX10_gaps 42 = .ok (.iconst 1, 1)) ∧ (decode cX10_gaps 43 = .ok (.iadd, 1)) ∧ (decode cX10_gaps 44 = .ok (.aload_n 0, 1)) ∧ (decode cX10_gaps 45 = .ok (.invokevirtual 125, 3)) ∧ (decode cX10_gaps 48 = .ok (.if_icmp .ge 55, 3)) ∧ (decode cX10_gaps 51 = .ok (.aload_n 0, 1)) := by decide +kernel
theorem dX10_gaps_28 : decode cX10_gaps 28 = .ok (.iconst 1, 1) := da9_dX10_gaps_28.1
theorem dX10_gaps_29 : decode cX10_gaps 29 = .ok (.isub, 1) := da9_dX10_gaps_28.2.1
theorem dX10_gaps_30 : decode cX10_gaps 30 = .ok (.if_icmp .ge 7, 3) := da9_dX10_gaps_28.2.2.1
theorem dX10_gaps_33 : decode cX10_gaps 33 = .ok (.iconst 1, 1) := da9_dX10_gaps_28.2.2.2.1
theorem dX10_gaps_34 : decode cX10_gaps 34 = .ok (.goto 4, 3) := da9_dX10_gaps_28.2.2.2.2.1
theorem dX10_gaps_37 : decode cX10_gaps 37 = .ok (.iconst 0, 1) := da9_dX10_gaps_28.2.2.2.2.2.1
theorem dX10_gaps_38 : decode cX10_gaps 38 = .ok (.istore_n 1, 1) := da9_dX10_gaps_28.2.2.2.2.2.2.1
theorem dX10_gaps_39 : decode cX10_gaps 39 = .ok (.iconst 0, 1) := da9_dX10_gaps_28.2.2.2.2.2.2.2.1
theorem dX10_gaps_40 : decode cX10_gaps 40 = .ok (.istore_n 2, 1) := da9_dX10_gaps_28.2.2.2.2.2.2.2.2.1
theorem dX10_gaps_41 : decode cX10_gaps 41 = .ok (.iload_n 2, 1) := da9_dX10_gaps_28.2.2.2.2.2.2.2.2.2.1
theorem dX10_gaps_42 : decode cX10_gaps 42 = .ok (.iconst 1, 1) := da9_dX10_gaps_28.2.2.2.2.2.2.2.2.2.2.1
theorem dX10_gaps_43 : decode cX10_gaps 43 = .ok (.iadd, 1) := da9_dX10_gaps_28.2.2.2.2.2.2.2.2.2.2.2.1
theorem dX10_gaps_44 : decode cX10_gaps 44 = .ok (.aload_n 0, 1) := da9_dX10_gaps_28.2.2.2.2.2.2.2.2.2.2.2.2.1
theorem dX10_gaps_45 : decode cX10_gaps 45 = .ok (.invokevirtual 125, 3) := da9_dX10_gaps_28.2.2.2.2.2.2.2.2.2.2.2.2.2.1
theorem dX10_gaps_48 : decode cX10_gaps 48 = .ok (.if_icmp .ge 55, 3) := da9_dX10_gaps_28.2.2.2.2.2.2.2.2.2.2.2.2.2.2.1
theorem dX10_gaps_51 : decode cX10_gaps 51 = .ok (.aload_n 0, 1) := da9_dX10_gaps_28.2.2.2.2.2.2.2.2.2.2.2.2.2.2.2
theorem da9_dX10_gaps_52 : (decode cX10_gaps 52 = .ok (.aload_n 0, 1)) ∧ (decode cX10_gaps 53 = .ok (.getfield 28, 3)) ∧ (decode cX10_gaps 56 = .ok (.iconst 0, 1)) ∧ (decode cX10_gaps 57 = .ok (.iload_n 2, 1)) ∧ (decode cX10_gaps 58 = .ok (.iadd, 1)) ∧ (decode cX10_gaps 59 = .ok (.iaload, 1)) ∧ (decode cX10_gaps 60 = .ok (.invokevirtual 401, 3)) ∧ (decode cX10_gaps 63 = .ok (.aload_n 0, 1)) ∧ (decode cX10_gaps 64 = .ok (.aload_n 0, 1)) ∧ (decode cX10_gaps 65 = .ok (.getfield 28, 3)) ∧ (decode cX10_gaps 68 = .ok (.iconst 0, 1)) ∧ (decode cX10_gaps 69 = .ok (.iload_n 2, 1)) ∧ (decode cX10_gaps 70 = .ok (.iadd, 1)) ∧ (decode cX10_gaps 71 = .ok (.iconst 1, 1)) ∧ (decode cX10_gaps 72 = .ok (.iadd, 1)) ∧ (decode cX10_gaps 73 = .ok (.iaload, 1)) := by decide +kernel
theorem dX10_gaps_52 : decode cX10_gaps 52 = .ok (.aload_n 0, 1) := da9_dX10_gaps_52.1
theorem dX10_gaps_53 : decode cX10_gaps 53 = .ok (.getfield 28, 3) := da9_dX10_gaps_52.2.1
theorem dX10_gaps_56 : decode cX10_gaps 56 = .ok (.iconst 0, 1) := da9_dX10_gaps_52.2.2.1
theorem dX10_gaps_57 : decode cX10_gaps 57 = .ok (.iload_n 2, 1) := da9_dX10_gaps_52.2.2.2.1
theorem dX10_gaps_58 : decode cX10_gaps 58 = .ok (.iadd, 1) := da9_dX10_gaps_52.2.2.2.2.1
theorem dX10_gaps_59 : decode cX10_gaps 59 = .ok (.iaload, 1) := da9_dX10_gaps_52.2.2.2.2.2.1
theorem dX10_gaps_60 : decode cX10_gaps 60 = .ok (.invokevirtual 401, 3) := da9_dX10_gaps_52.2.2.2.2.2.2.1
theorem dX10_gaps_63 : decode cX10_gaps 63 = .ok (.aload_n 0, 1) := da9_dX10_gaps_52.2.2.2.2.2.2.2.1
theorem dX10_gaps_64 : decode cX10_gaps 64 = .ok (.aload_n 0, 1) := da9_dX10_gaps_52.2.2.2.2.2.2.2.2.1
theorem dX10_gaps_65 : decode cX10_gaps 65 = .ok (.getfield 28, 3) := da9_dX10_gaps_52.2.2.2.2.2.2.2.2.2.1
theorem dX10_gaps_68 : decode cX10_gaps 68 = .ok (.iconst 0, 1) := da9_dX10_gaps_52.2.2.2.2.2.2.2.2.2.2.1
theorem dX10_gaps_69 : decode cX10_gaps 69 = .ok (.iload_n 2, 1) := da9_dX10_gaps_52.2.2.2.2.2.2.2.2.2.2.2.1
theorem dX10_gaps_70 : decode cX10_gaps 70 = .ok (.iadd, 1) := da9_dX10_gaps_52.2.2.2.2.2.2.2.2.2.2.2.2.1
theorem dX10_gaps_71 : decode cX10_gaps 71 = .ok (.iconst 1, 1) := da9_dX10_gaps_52.2.2.2.2.2.2.2.2.2.2.2.2.2.1
theorem dX10_gaps_72 : decode cX10_gaps 72 = .ok (.iadd, 1) := da9_dX10_gaps_52.2.2.2.2.2.2.2.2.2.2.2.2.2.2.1
theorem dX10_gaps_73 : decode cX10_gaps 73 = .ok (.iaload, 1) := da9_dX10_gaps_52.2.2.2.2.2.2.2.2.2.2.2.2.2.2.2
theorem da9_dX10_gaps_74 : (decode cX10_gaps 74 = .ok (.invokevirtual 401, 3)) ∧ (decode cX10_gaps 77 = .ok (.isub, 1)) ∧ (decode cX10_gaps 78 = .ok (.istore_n 3, 1)) ∧ (decode cX10_gaps 79 = .ok (.iload_n 1, 1)) ∧ (decode cX10_gaps 80 = .ok (.iload_n 3, 1)) ∧ (decode cX10_gaps 81 = .ok (.iconst 1, 1)) ∧ (decode cX10_gaps 82 = .ok (.if_icmp .eq 8, 3)) ∧ (decode cX10_gaps 85 = .ok (.iload_n 3, 1)) ∧ (decode cX10_gaps 86 = .ok (.iconst (-1), 1)) ∧ (decode cX10_gaps 87 = .ok (.if_icmp .ne 7, 3)) ∧ (decode cX10_gaps 90 = .ok (.iconst 0, 1)) ∧ (decode cX10_gaps 91 = .ok (.goto 4, 3)) ∧ (decode cX10_gaps 94 = .ok (.iconst 1, 1)) ∧ (decode cX10_gaps 95 = .ok (.iadd, 1)) ∧ (decode cX10_gaps 96 = .ok (.istore_n 1, 1)) ∧ (decode cX10_gaps 97 = .ok (.iinc 2 1, 3)) := by decide +kernel
theorem dX10_gaps_74 : decode cX10_gaps 74 = .ok (.invokevirtual 401, 3) := da9_dX10_gaps_74.1
theorem dX10_gaps_77 : decode cX10_gaps 77 = .ok (.isub, 1) := da9_dX10_gaps_74.2.1
theorem dX10_gaps_78 : decode cX10_gaps 78 = .ok (.istore_n 3, 1) := da9_dX10_gaps_74.2.2.1
theorem dX10_gaps_79 : decode cX10_gaps 79 = .ok (.iload_n 1, 1) := da9_dX10_gaps_74.2.2.2.1
theorem dX10_gaps_80 : decode cX10_gaps 80 = .ok (.iload_n 3, 1) := da9_dX10_gaps_74.2.2.2.2.1
theorem dX10_gaps_81 : decode cX10_gaps 81 = .ok (.iconst 1, 1) := da9_dX10_gaps_74.2.2.2.2.2.1
theorem dX10_gaps_82 : decode cX10_gaps 82 = .ok (.if_icmp .eq 8, 3) := da9_dX10_gaps_74.2.2.2.2.2.2.1
theorem dX10_gaps_85 : decode cX10_gaps 85 = .ok (.iload_n 3, 1) := da9_dX10_gaps_74.2.2.2.2.2.2.2.1
theorem dX10_gaps_86 : decode cX10_gaps 86 = .ok (.iconst (-1), 1) := da9_dX10_gaps_74.2.2.2.2.2.2.2.2.1
theorem dX10_gaps_87 : decode cX10_gaps 87 = .ok (.if_icmp .ne 7, 3) := da9_dX10_gaps_74.2.2.2.2.2.2.2.2.2.1
theorem dX10_gaps_90 : decode cX10_gaps 90 = .ok (.iconst 0, 1) := da9_dX10_gaps_74.2.2.2.2.2.2.2.2.2.2.1
theorem dX10_gaps_91 : decode cX10_gaps 91 = .ok (.goto 4, 3) := da9_dX10_gaps_74.2.2.2.2.2.2.2.2.2.2.2.1
theorem dX10_gaps_94 : decode cX10_gaps 94 = .ok (.iconst 1, 1) := da9_dX10_gaps_74.2.2.2.2.2.2.2.2.2.2.2.2.1
theorem dX10_gaps_95 : decode cX10_gaps 95 = .ok (.iadd, 1) := da9_dX10_gaps_74.2.2.2.2.2.2.2.2.2.2.2.2.2.1
theorem dX10_gaps_96 : decode cX10_gaps 96 = .ok (.istore_n 1, 1) := da9_dX10_gaps_74.2.2.2.2.2.2.2.2.2.2.2.2.2.2.1
theorem dX10_gaps_97 : decode cX10_gaps 97 = .ok (.iinc 2 1, 3) := da9_dX10_gaps_74.2.2.2.2.2.2.2.2.2.2.2.2.2.2.2
theorem da9_dX10_gaps_100 : (decode cX10_gaps 100 = .ok (.goto (-59), 3)) ∧ (decode cX10_gaps 103 = .ok (.iload_n 1, 1)) ∧ (decode cX10_gaps 104 = .ok (.ireturn, 1)) := by decide +kernel
theorem dX10_gaps_100 : decode cX10_gaps 100 = .ok (.goto (-59), 3) := da9_dX10_gaps_100.1
theorem dX10_gaps_103 : decode cX10_gaps 103 = .ok (.iload_n 1, 1) := da9_dX10_gaps_100.2.1
theorem dX10_gaps_104 : decode cX10_gaps 104 = .ok (.ireturn, 1) := da9_dX10_gaps_100.2.2
