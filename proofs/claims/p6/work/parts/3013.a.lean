set_option maxRecDepth 20000 in
theorem ggX10_view_X10_isRank : GoodIn wsX10_view wsX10_isRank := goodIn_r _ [8, 9, 10, 7, 11] rfl (by decide +kernel)
set_option maxRecDepth 20000 in
theorem gX10_view_X10_isRank : GoodIn wsX10_view (va_wsS RX10 129 yX10_isRank wsX10_isRank) := goodIn_app (goodIn_of _ (by decide +kernel)) ggX10_view_X10_isRank
set_option maxRecDepth 20000 in
theorem ggX10_view_X10_placeOf : GoodIn wsX10_view wsX10_placeOf := goodIn_r _ [15, 16, 17, 18, 19, 7, 20, 172, 173, 174, 175, 176, 177, 178, 179, 180, 181, 182, 183, 184, 185, 186, 187, 188, 189, 190, 191, 192, 193, 194, 195, 196, 197, 198, 199, 200, 201, 202, 203, 204, 205, 206, 207, 208, 209, 210, 211, 212, 213, 214, 215, 216, 217, 218, 219, 220, 221, 222, 223, 224, 225, 226, 227] rfl (by decide +kernel)
set_option maxRecDepth 20000 in
theorem gX10_view_X10_placeOf : GoodIn wsX10_view (wsV RX10 136 RX10 yX10_placeOf wsX10_placeOf) := goodIn_app (goodIn_of _ (by decide +kernel)) ggX10_view_X10_placeOf
set_option maxRecDepth 20000 in
theorem ggX10_view_X10_laysReach : GoodIn wsX10_view wsX10_laysReach := goodIn_r _ [24, 2, 4, 1, 25, 26, 27, 28, 7, 29, 30, 31, 32, 33, 34, 35, 36, 3, 37, 38, 17, 18, 19, 20, 16, 39, 40, 41, 42, 43, 44, 45, 46, 47, 48, 49, 50, 51, 52, 53, 54, 55, 56, 57, 58, 59, 60, 61, 62, 63, 64, 65, 66, 67, 68, 69, 70, 71, 72, 73, 74, 75, 76, 77, 78, 79, 80, 81, 82, 83, 84, 85, 86, 87, 88, 89, 90, 91, 92, 93, 94, 95, 96, 97, 98, 99, 100, 101, 102, 103, 104, 105, 106, 107, 108, 109, 110, 111, 112, 113, 114, 115, 116, 117, 118, 119, 120, 121, 122, 123, 124, 9, 10, 11, 125, 126, 127, 128, 129, 130, 131, 132, 133, 134, 135, 136, 137, 138, 139, 140, 141, 142, 143, 144, 145, 146, 147, 148, 149, 150, 151, 152, 153, 154, 155, 156, 157, 158, 159, 160, 161, 162, 163, 164, 172, 173, 174, 175, 176, 177, 178, 179, 180, 181, 182, 183, 184, 185, 186, 187, 188, 189, 190, 191, 192, 193, 194, 195, 196, 197, 198, 199, 200, 201, 202, 203, 204, 205, 206, 207, 208, 209, 210, 211, 212, 213, 214, 215, 216, 217, 218, 219, 220, 221, 222, 223, 224, 225, 226, 227] rfl (by decide +kernel)
set_option maxRecDepth 20000 in
theorem gX10_view_X10_laysReach : GoodIn wsX10_view (wsV RX10 442 RX10 yX10_laysReach wsX10_laysReach) := goodIn_app (goodIn_of _ (by decide +kernel)) ggX10_view_X10_laysReach
set_option maxRecDepth 20000 in
theorem ggX10_view_X10_isThere : GoodIn wsX10_view wsX10_isThere := goodIn_r _ [168, 35, 2, 172, 173, 174, 175, 176, 177, 178, 179, 180, 181, 182, 183, 184, 185, 186, 187, 188, 189, 190, 191, 192, 193, 194, 195, 196, 197, 198, 199, 200, 201, 202, 203, 204, 205, 206, 207, 208, 209, 210, 211, 212, 213, 214, 215, 216, 217, 218, 219, 220, 221, 222, 223, 224, 225, 226, 227] rfl (by decide +kernel)
set_option maxRecDepth 20000 in
theorem gX10_view_X10_isThere : GoodIn wsX10_view (wsV RX10 417 RX10 yX10_isThere wsX10_isThere) := goodIn_app (goodIn_of _ (by decide +kernel)) ggX10_view_X10_isThere
set_option maxRecDepth 20000 in
theorem ggX10_view_X10_lessThan : GoodIn wsX10_view wsX10_lessThan := goodIn_r _ [64, 16, 17, 18, 19, 7, 20, 172, 173, 174, 175, 176, 177, 178, 179, 180, 181, 182, 183, 184, 185, 186, 187, 188, 189, 190, 191, 192, 193, 194, 195, 196, 197, 198, 199, 200, 201, 202, 203, 204, 205, 206, 207, 208, 209, 210, 211, 212, 213, 214, 215, 216, 217, 218, 219, 220, 221, 222, 223, 224, 225, 226, 227] rfl (by decide +kernel)
set_option maxRecDepth 20000 in
theorem gX10_view_X10_lessThan : GoodIn wsX10_view (wsV RX10 401 RX10 yX10_lessThan wsX10_lessThan) := goodIn_app (goodIn_of _ (by decide +kernel)) ggX10_view_X10_lessThan
set_option maxRecDepth 20000 in
theorem ggX10_view_X10_lesser : GoodIn wsX10_view wsX10_lesser := goodIn_r _ [171] rfl (by decide +kernel)
set_option maxRecDepth 20000 in
theorem gX10_view_X10_lesser : GoodIn wsX10_view (va_wsS RX10 350 yX10_lesser wsX10_lesser) := goodIn_app (goodIn_of _ (by decide +kernel)) ggX10_view_X10_lesser
theorem da9_dX10_view_0 : (decode cX10_view 0 = .ok (.iload_n 1, 1)) ∧ (decode cX10_view 1 = .ok (.invokestatic 129, 3)) ∧ (decode cX10_view 4 = .ok (.ifCond .eq 12, 3)) ∧ (decode cX10_view 7 = .ok (.aload_n 0, 1)) ∧ (decode cX10_view 8 = .ok (.iload_n 1, 1)) ∧ (decode cX10_view 9 = .ok (.invokevirtual 136, 3)) ∧ (decode cX10_view 12 = .ok (.iconst (-1), 1)) ∧ (decode cX10_view 13 = .ok (.if_icmp .ne 5, 3)) ∧ (decode cX10_view 16 = .ok (.iconst (-1), 1)) ∧ (decode cX10_view 17 = .ok (.ireturn, 1)) ∧ (decode cX10_view 18 = .ok (.aload_n 0, 1)) ∧ (decode cX10_view 19 = .ok (.invokevirtual 442, 3)) ∧ (decode cX10_view 22 = .ok (.pop, 1)) ∧ (decode cX10_view 23 = .ok (.ldc 188, 2)) ∧ (decode cX10_view 25 = .ok (.istore_n 2, 1)) ∧ (decode cX10_view 26 = .ok (.iconst 0, 1)) := by decide +kernel
theorem dX10_view_0 : decode cX10_view 0 = .ok (.iload_n 1, 1) := da9_dX10_view_0.1
theorem dX10_view_1 : decode cX10_view 1 = .ok (.invokestatic 129, 3) := da9_dX10_view_0.2.1
theorem dX10_view_4 : decode cX10_view 4 = .ok (.ifCond .eq 12, 3) := da9_dX10_view_0.2.2.1
theorem dX10_view_7 : decode cX10_view 7 = .ok (.aload_n 0, 1) := da9_dX10_view_0.2.2.2.1
theorem dX10_view_8 : decode cX10_view 8 = .ok (.iload_n 1, 1) := da9_dX10_view_0.2.2.2.2.1
theorem dX10_view_9 : decode cX10_view 9 = .ok (.invokevirtual 136, 3) := da9_dX10_view_0.2.2.2.2.2.1
theorem dX10_view_12 : decode cX10_view 12 = .ok (.iconst (-1), 1) := da9_dX10_view_0.2.2.2.2.2.2.1
theorem dX10_view_13 : decode cX10_view 13 = .ok (.if_icmp .ne 5, 3) := da9_dX10_view_0.2.2.2.2.2.2.2.1
theorem dX10_view_16 : decode cX10_view 16 = .ok (.iconst (-1), 1) := da9_dX10_view_0.2.2.2.2.2.2.2.2.1
theorem dX10_view_17 : decode cX10_view 17 = .ok (.ireturn, 1) := da9_dX10_view_0.2.2.2.2.2.2.2.2.2.1
theorem dX10_view_18 : decode cX10_view 18 = .ok (.aload_n 0, 1) := da9_dX10_view_0.2.2.2.2.2.2.2.2.2.2.1
theorem dX10_view_19 : decode cX10_view 19 = .ok (.invokevirtual 442, 3) := da9_dX10_view_0.2.2.2.2.2.2.2.2.2.2.2.1
theorem dX10_view_22 : decode cX10_view 22 = .ok (.pop, 1) := da9_dX10_view_0.2.2.2.2.2.2.2.2.2.2.2.2.1
theorem dX10_view_23 : decode cX10_view 23 = .ok (.ldc 188, 2) := da9_dX10_view_0.2.2.2.2.2.2.2.2.2.2.2.2.2.1
theorem dX10_view_25 : decode cX10_view 25 = .ok (.istore_n 2, 1) := da9_dX10_view_0.2.2.2.2.2.2.2.2.2.2.2.2.2.2.1
theorem dX10_view_26 : decode cX10_view 26 = .ok (.iconst 0, 1) := da9_dX10_view_0.2.2.2.2.2.2.2.2.2.2.2.2.2.2.2
theorem da9_dX10_view_27 : (decode cX10_view 27 = .ok (.istore_n 3, 1)) ∧ (decode cX10_view 28 = .ok (.iload_n 3, 1)) ∧ (decode cX10_view 29 = .ok (.bipush 64, 2)) ∧ (decode cX10_view 31 = .ok (.aload_n 0, 1)) ∧ (decode cX10_view 32 = .ok (.getfield 386, 3)) ∧ (decode cX10_view 35 = .ok (.imul, 1)) ∧ (decode cX10_view 36 = .ok (.if_icmp .ge 48, 3)) ∧ (decode cX10_view 39 = .ok (.aload_n 0, 1)) ∧ (decode cX10_view 40 = .ok (.iload_n 3, 1)) ∧ (decode cX10_view 41 = .ok (.invokevirtual 417, 3)) ∧ (decode cX10_view 44 = .ok (.ifCond .eq 34, 3)) ∧ (decode cX10_view 47 = .ok (.aload_n 0, 1)) ∧ (decode cX10_view 48 = .ok (.getfield 75, 3)) ∧ (decode cX10_view 51 = .ok (.bipush 6, 2)) ∧ (decode cX10_view 53 = .ok (.iload_n 3, 1)) ∧ (decode cX10_view 54 = .ok (.bipush 64, 2)) := by decide +kernel
theorem dX10_view_27 : decode cX10_view 27 = .ok (.istore_n 3, 1) := da9_dX10_view_27.1
theorem dX10_view_28 : decode cX10_view 28 = .ok (.iload_n 3, 1) := da9_dX10_view_27.2.1
theorem dX10_view_29 : decode cX10_view 29 = .ok (.bipush 64, 2) := da9_dX10_view_27.2.2.1
theorem dX10_view_31 : decode cX10_view 31 = .ok (.aload_n 0, 1) := da9_dX10_view_27.2.2.2.1
theorem dX10_view_32 : decode cX10_view 32 = .ok (.getfield 386, 3) := da9_dX10_view_27.2.2.2.2.1
theorem dX10_view_35 : decode cX10_view 35 = .ok (.imul, 1) := da9_dX10_view_27.2.2.2.2.2.1
theorem dX10_view_36 : decode cX10_view 36 = .ok (.if_icmp .ge 48, 3) := da9_dX10_view_27.2.2.2.2.2.2.1
theorem dX10_view_39 : decode cX10_view 39 = .ok (.aload_n 0, 1) := da9_dX10_view_27.2.2.2.2.2.2.2.1
theorem dX10_view_40 : decode cX10_view 40 = .ok (.iload_n 3, 1) := da9_dX10_view_27.2.2.2.2.2.2.2.2.1
theorem dX10_view_41 : decode cX10_view 41 = .ok (.invokevirtual 417, 3) := da9_dX10_view_27.2.2.2.2.2.2.2.2.2.1
theorem dX10_view_44 : decode cX10_view 44 = .ok (.ifCond .eq 34, 3) := da9_dX10_view_27.2.2.2.2.2.2.2.2.2.2.1
theorem dX10_view_47 : decode cX10_view 47 = .ok (.aload_n 0, 1) := da9_dX10_view_27.2.2.2.2.2.2.2.2.2.2.2.1
theorem dX10_view_48 : decode cX10_view 48 = .ok (.getfield 75, 3) := da9_dX10_view_27.2.2.2.2.2.2.2.2.2.2.2.2.1
theorem dX10_view_51 : decode cX10_view 51 = .ok (.bipush 6, 2) := da9_dX10_view_27.2.2.2.2.2.2.2.2.2.2.2.2.2.1
theorem dX10_view_53 : decode cX10_view 53 = .ok (.iload_n 3, 1) := da9_dX10_view_27.2.2.2.2.2.2.2.2.2.2.2.2.2.2.1
theorem dX10_view_54 : decode cX10_view 54 = .ok (.bipush 64, 2) := da9_dX10_view_27.2.2.2.2.2.2.2.2.2.2.2.2.2.2.2
theorem da9_dX10_view_56 : (decode cX10_view 56 = .ok (.idiv, 1)) ∧ (decode cX10_view 57 = .ok (.imul, 1)) ∧ (decode cX10_view 58 = .ok (.iaload, 1)) ∧ (decode cX10_view 59 = .ok (.aload_n 0, 1)) ∧ (decode cX10_view 60 = .ok (.iload_n 1, 1)) ∧ (decode cX10_view 61 = .ok (.invokevirtual 401, 3)) ∧ (decode cX10_view 64 = .ok (.if_icmp .ne 14, 3)) ∧ (decode cX10_view 67 = .ok (.iload_n 2, 1)) ∧ (decode cX10_view 68 = .ok (.aload_n 0, 1)) ∧ (decode cX10_view 69 = .ok (.getfield 91, 3)) ∧ (decode cX10_view 72 = .ok (.iload_n 3, 1)) ∧ (decode cX10_view 73 = .ok (.iaload, 1)) ∧ (decode cX10_view 74 = .ok (.invokestatic 350, 3)) ∧ (decode cX10_view 77 = .ok (.istore_n 2, 1)) ∧ (decode cX10_view 78 = .ok (.iinc 3 1, 3)) ∧ (decode cX10_view 81 = .ok (.goto (-53), 3)) := by decide +kernel
theorem dX10_view_56 : decode cX10_view 56 = .ok (.idiv, 1) := da9_dX10_view_56.1
theorem dX10_view_57 : decode cX10_view 57 = .ok (.imul, 1) := da9_dX10_view_56.2.1
theorem dX10_view_58 : decode cX10_view 58 = .ok (.iaload, 1) := da9_dX10_view_56.2.2.1
theorem dX10_view_59 : decode cX10_view 59 = .ok (.aload_n 0, 1) := da9_dX10_view_56.2.2.2.1
theorem dX10_view_60 : decode cX10_view 60 = .ok (.iload_n 1, 1) := da9_dX10_view_56.2.2.2.2.1
theorem dX10_view_61 : decode cX10_view 61 = .ok (.invokevirtual 401, 3) := da9_dX10_view_56.2.2.2.2.2.1
theorem dX10_view_64 : decode cX10_view 64 = .ok (.if_icmp .ne 14, 3) := da9_dX10_view_56.2.2.2.2.2.2.1
theorem dX10_view_67 : decode cX10_view 67 = .ok (.iload_n 2, 1) := da9_dX10_view_56.2.2.2.2.2.2.2.1
theorem dX10_view_68 : decode cX10_view 68 = .ok (.aload_n 0, 1) := da9_dX10_view_56.2.2.2.2.2.2.2.2.1
theorem dX10_view_69 : decode cX10_view 69 = .ok (.getfield 91, 3) := da9_dX10_view_56.2.2.2.2.2.2.2.2.2.1
theorem dX10_view_72 : decode cX10_view 72 = .ok (.iload_n 3, 1) := da9_dX10_view_56.2.2.2.2.2.2.2.2.2.2.1
theorem dX10_view_73 : decode cX10_view 73 = .ok (.iaload, 1) := da9_dX10_view_56.2.2.2.2.2.2.2.2.2.2.2.1
theorem dX10_view_74 : decode cX10_view 74 = .ok (.invokestatic 350, 3) := da9_dX10_view_56.2.2.2.2.2.2.2.2.2.2.2.2.1
theorem dX10_view_77 : decode cX10_view 77 = .ok (.istore_n 2, 1) := da9_dX10_view_56.2.2.2.2.2.2.2.2.2.2.2.2.2.1
theorem dX10_view_78 : decode cX10_view 78 = .ok (.iinc 3 1, 3) := da9_dX10_view_56.2.2.2.2.2.2.2.2.2.2.2.2.2.2.1
theorem dX10_view_81 : decode cX10_view 81 = .ok (.goto (-53), 3) := da9_dX10_view_56.2.2.2.2.2.2.2.2.2.2.2.2.2.2.2
theorem da9_dX10_view_84 : (decode cX10_view 84 = .ok (.iload_n 2, 1)) ∧ (decode cX10_view 85 = .ok (.ldc 188, 2)) ∧ (decode cX10_view 87 = .ok (.if_icmp .ne 7, 3)) ∧ (decode cX10_view 90 = .ok (.iconst (-1), 1)) ∧ (decode cX10_view 91 = .ok (.goto 4, 3)) ∧ (decode cX10_view 94 = .ok (.iload_n 2, 1)) ∧ (decode cX10_view 95 = .ok (.ireturn, 1)) := by decide +kernel
theorem dX10_view_84 : decode cX10_view 84 = .ok (.iload_n 2, 1) := da9_dX10_view_84.1
theorem dX10_view_85 : decode cX10_view 85 = .ok (.ldc 188, 2) := da9_dX10_view_84.2.1
theorem dX10_view_87 : decode cX10_view 87 = .ok (.if_icmp .ne 7, 3) := da9_dX10_view_84.2.2.1
theorem dX10_view_90 : decode cX10_view 90 = .ok (.iconst (-1), 1) := da9_dX10_view_84.2.2.2.1
theorem dX10_view_91 : decode cX10_view 91 = .ok (.goto 4, 3) := da9_dX10_view_84.2.2.2.2.1
theorem dX10_view_94 : decode cX10_view 94 = .ok (.iload_n 2, 1) := da9_dX10_view_84.2.2.2.2.2.1
theorem dX10_view_95 : decode cX10_view 95 = .ok (.ireturn, 1) := da9_dX10_view_84.2.2.2.2.2.2
set_option maxRecDepth 20000 in
theorem ggX10_canStay_X10_size : GoodIn wsX10_canStay wsX10_size := goodIn_r _ [6, 1, 10, 11, 12, 13, 14, 15, 16, 17, 18, 19, 20, 21, 22, 23, 24, 25, 26, 27, 28, 29, 30, 31, 32, 33, 34, 35, 36, 37, 38, 39, 40, 41, 42, 43, 44, 45, 46, 47, 48, 49, 50, 51, 52, 53, 54, 55, 56, 57, 58, 59, 60, 61, 62, 63, 64, 65] rfl (by decide +kernel)
set_option maxRecDepth 20000 in
theorem gX10_canStay_X10_size : GoodIn wsX10_canStay (wsV RX10 125 RX10 yX10_size wsX10_size) := goodIn_app (goodIn_of _ (by decide +kernel)) ggX10_canStay_X10_size
set_option maxRecDepth 20000 in
theorem ggX10_canStay_X10_isIn : GoodIn wsX10_canStay wsX10_isIn := goodIn_r _ [9] rfl (by decide +kernel)
set_option maxRecDepth 20000 in
theorem gX10_canStay_X10_isIn : GoodIn wsX10_canStay (va_wsS RX10 383 yX10_isIn wsX10_isIn) := goodIn_app (goodIn_of _ (by decide +kernel)) ggX10_canStay_X10_isIn
theorem da9_dX10_canStay_0 : (decode cX10_canStay 0 = .ok (.iconst (-1), 1)) ∧ (decode cX10_canStay 1 = .ok (.istore_n 2, 1)) ∧ (decode cX10_canStay 2 = .ok (.iconst 1, 1)) ∧ (decode cX10_canStay 3 = .ok (.istore_n 3, 1)) ∧ (decode cX10_canStay 4 = .ok (.iconst 0, 1)) ∧ (decode cX10_canStay 5 = .ok (.istore 4, 2)) ∧ (decode cX10_canStay 7 = .ok (.iload 4, 2)) ∧ (decode cX10_canStay 9 = .ok (.aload_n 0, 1)) ∧ (decode cX10_canStay 10 = .ok (.invokevirtual 125, 3)) ∧ (decode cX10_canStay 13 = .ok (.if_icmp .ge 77, 3)) ∧ (decode cX10_canStay 16 = .ok (.iload_n 1, 1)) ∧ (decode cX10_canStay 17 = .ok (.iload 4, 2)) ∧ (decode cX10_canStay 19 = .ok (.invokestatic 383, 3)) ∧ (decode cX10_canStay 22 = .ok (.ifCond .ne 6, 3)) ∧ (decode cX10_canStay 25 = .ok (.goto 59, 3)) ∧ (decode cX10_canStay 28 = .ok (.iload_n 3, 1)) := by decide +kernel
theorem dX10_canStay_0 : decode cX10_canStay 0 = .ok (.iconst (-1), 1) := da9_dX10_canStay_0.1
theorem dX10_canStay_1 : decode cX10_canStay 1 = .ok (.istore_n 2, 1) := da9_dX10_canStay_0.2.1
theorem dX10_canStay_2 : decode cX10_canStay 2 = .ok (.iconst 1, 1) := da9_dX10_canStay_0.2.2.1
theorem dX10_canStay_3 : decode cX10_canStay 3 = .ok (.istore_n 3, 1) := da9_dX10_canStay_0.2.2.2.1
theorem dX10_canStay_4 : decode cX10_canStay 4 = .ok (.iconst 0, 1) := da9_dX10_canStay_0.2.2.2.2.1
theorem dX10_canStay_5 : decode cX10_canStay 5 = .ok (.istore 4, 2) := da9_dX10_canStay_0.2.2.2.2.2.1
theorem dX10_canStay_7 : decode cX10_canStay 7 = .ok (.iload 4, 2) := da9_dX10_canStay_0.2.2.2.2.2.2.1
theorem dX10_canStay_9 : decode cX10_canStay 9 = .ok (.aload_n 0, 1) := da9_dX10_canStay_0.2.2.2.2.2.2.2.1
theorem dX10_canStay_10 : decode cX10_canStay 10 = .ok (.invokevirtual 125, 3) := da9_dX10_canStay_0.2.2.2.2.2.2.2.2.1
theorem dX10_canStay_13 : decode cX10_canStay 13 = .ok (.if_icmp .ge 77, 3) := da9_dX10_canStay_0.2.2.2.2.2.2.2.2.2.1
theorem dX10_canStay_16 : decode cX10_canStay 16 = .ok (.iload_n 1, 1) := da9_dX10_canStay_0.2.2.2.2.2.2.2.2.2.2.1
theorem dX10_canStay_17 : decode cX10_canStay 17 = .ok (.iload 4, 2) := da9_dX10_canStay_0.2.2.2.2.2.2.2.2.2.2.2.1
theorem dX10_canStay_19 : decode cX10_canStay 19 = .ok (.invokestatic 383, 3) := da9_dX10_canStay_0.2.2.2.2.2.2.2.2.2.2.2.2.1
theorem dX10_canStay_22 : decode cX10_canStay 22 = .ok (.ifCond .ne 6, 3) := da9_dX10_canStay_0.2.2.2.2.2.2.2.2.2.2.2.2.2.1
theorem dX10_canStay_25 : decode cX10_canStay 25 = .ok (.goto 59, 3) := da9_dX10_canStay_0.2.2.2.2.2.2.2.2.2.2.2.2.2.2.1
theorem dX10_canStay_28 : decode cX10_canStay 28 = .ok (.iload_n 3, 1) := da9_dX10_canStay_0.2.2.2.2.2.2.2.2.2.2.2.2.2.2.2
theorem da9_dX10_canStay_29 : (decode cX10_canStay 29 = .ok (.ifCond .eq 43, 3)) ∧ (decode cX10_canStay 32 = .ok (.aload_n 0, 1)) ∧ (decode cX10_canStay 33 = .ok (.getfield 28, 3)) ∧ (decode cX10_canStay 36 = .ok (.iconst 0, 1)) ∧ (decode cX10_canStay 37 = .ok (.iload 4, 2)) ∧ (decode cX10_canStay 39 = .ok (.iadd, 1)) ∧ (decode cX10_canStay 40 = .ok (.iaload, 1)) ∧ (decode cX10_canStay 41 = .ok (.iload_n 2, 1)) ∧ (decode cX10_canStay 42 = .ok (.if_icmp .le 30, 3)) ∧ (decode cX10_canStay 45 = .ok (.aload_n 0, 1)) ∧ (decode cX10_canStay 46 = .ok (.getfield 28, 3)) ∧ (decode cX10_canStay 49 = .ok (.bipush 28, 2)) ∧ (decode cX10_canStay 51 = .ok (.iaload, 1)) ∧ (decode cX10_canStay 52 = .ok (.ifCond .eq 16, 3)) ∧ (decode cX10_canStay 55 = .ok (.aload_n 0, 1)) ∧ (decode cX10_canStay 56 = .ok (.getfield 28, 3)) := by decide +kernel
theorem dX10_canStay_29 : decode cX10_canStay 29 = .ok (.ifCond .eq 43, 3) := da9_dX10_canStay_29.1
theorem dX10_canStay_32 : decode cX10_canStay 32 = .ok (.aload_n 0, 1) := da9_dX10_canStay_29.2.1
theorem dX10_canStay_33 : decode cX10_canStay 33 = .ok (.getfield 28, 3) := da9_dX10_canStay_29.2.2.1
theorem dX10_canStay_36 : decode cX10_canStay 36 = .ok (.iconst 0, 1) := da9_dX10_canStay_29.2.2.2.1
theorem dX10_canStay_37 : decode cX10_canStay 37 = .ok (.iload 4, 2) := da9_dX10_canStay_29.2.2.2.2.1
theorem dX10_canStay_39 : decode cX10_canStay 39 = .ok (.iadd, 1) := da9_dX10_canStay_29.2.2.2.2.2.1
theorem dX10_canStay_40 : decode cX10_canStay 40 = .ok (.iaload, 1) := da9_dX10_canStay_29.2.2.2.2.2.2.1
theorem dX10_canStay_41 : decode cX10_canStay 41 = .ok (.iload_n 2, 1) := da9_dX10_canStay_29.2.2.2.2.2.2.2.1
theorem dX10_canStay_42 : decode cX10_canStay 42 = .ok (.if_icmp .le 30, 3) := da9_dX10_canStay_29.2.2.2.2.2.2.2.2.1
theorem dX10_canStay_45 : decode cX10_canStay 45 = .ok (.aload_n 0, 1) := da9_dX10_canStay_29.2.2.2.2.2.2.2.2.2.1
theorem dX10_canStay_46 : decode cX10_canStay 46 = .ok (.getfield 28, 3) := da9_dX10_canStay_29.2.2.2.2.2.2.2.2.2.2.1
theorem dX10_canStay_49 : decode cX10_canStay 49 = .ok (.bipush 28, 2) := da9_dX10_canStay_29.2.2.2.2.2.2.2.2.2.2.2.1
theorem dX10_canStay_51 : decode cX10_canStay 51 = .ok (.iaload, 1) := da9_dX10_canStay_29.2.2.2.2.2.2.2.2.2.2.2.2.1
theorem dX10_canStay_52 : decode cX10_canStay 52 = .ok (.ifCond .eq 16, 3) := da9_dX10_canStay_29.2.2.2.2.2.2.2.2.2.2.2.2.2.1
theorem dX10_canStay_55 : decode cX10_canStay 55 = .ok (.aload_n 0, 1) := da9_dX10_canStay_29.2.2.2.2.2.2.2.2.2.2.2.2.2.2.1
theorem dX10_canStay_56 : decode cX10_canStay 56 = .ok (.getfield 28, 3) := da9_dX10_canStay_29.2.2.2.2.2.2.2.2.2.2.2.2.2.2.2
theorem da9_dX10_canStay_59 : (decode cX10_canStay 59 = .ok (.bipush 6, 2)) ∧ (decode cX10_canStay 61 = .ok (.iload 4, 2)) ∧ (decode cX10_canStay 63 = .ok (.iadd, 1)) ∧ (decode cX10_canStay 64 = .ok (.iaload, 1)) ∧ (decode cX10_canStay 65 = .ok (.ifCond .ne 7, 3)) ∧ (decode cX10_canStay 68 = .ok (.iconst 1, 1)) ∧ (decode cX10_canStay 69 = .ok (.goto 4, 3)) ∧ (decode cX10_canStay 72 = .ok (.iconst 0, 1)) ∧ (decode cX10_canStay 73 = .ok (.istore_n 3, 1)) ∧ (decode cX10_canStay 74 = .ok (.aload_n 0, 1)) ∧ (decode cX10_canStay 75 = .ok (.getfield 28, 3)) ∧ (decode cX10_canStay 78 = .ok (.iconst 0, 1)) ∧ (decode cX10_canStay 79 = .ok (.iload 4, 2)) ∧ (decode cX10_canStay 81 = .ok (.iadd, 1)) ∧ (decode cX10_canStay 82 = .ok (.iaload, 1)) ∧ (decode cX10_canStay 83 = .ok (.istore_n 2, 1)) := by decide +kernel
theorem dX10_canStay_59 : decode cX10_canStay 59 = .ok (.bipush 6, 2) := da9_dX10_canStay_59.1
theorem dX10_canStay_61 : decode cX10_canStay 61 = .ok (.iload 4, 2) := da9_dX10_canStay_59.2.1
theorem dX10_canStay_63 : decode cX10_canStay 63 = .ok (.iadd, 1) := da9_dX10_canStay_59.2.2.1
theorem dX10_canStay_64 : decode cX10_canStay 64 = .ok (.iaload, 1) := da9_dX10_canStay_59.2.2.2.1
theorem dX10_canStay_65 : decode cX10_canStay 65 = .ok (.ifCond .ne 7, 3) := da9_dX10_canStay_59.2.2.2.2.1
theorem dX10_canStay_68 : decode cX10_canStay 68 = .ok (.iconst 1, 1) := da9_dX10_canStay_59.2.2.2.2.2.1
theorem dX10_canStay_69 : decode cX10_canStay 69 = .ok (.goto 4, 3) := da9_dX10_canStay_59.2.2.2.2.2.2.1
theorem dX10_canStay_72 : decode cX10_canStay 72 = .ok (.iconst 0, 1) := da9_dX10_canStay_59.2.2.2.2.2.2.2.1
theorem dX10_canStay_73 : decode cX10_canStay 73 = .ok (.istore_n 3, 1) := da9_dX10_canStay_59.2.2.2.2.2.2.2.2.1
theorem dX10_canStay_74 : decode cX10_canStay 74 = .ok (.aload_n 0, 1) := da9_dX10_canStay_59.2.2.2.2.2.2.2.2.2.1
theorem dX10_canStay_75 : decode cX10_canStay 75 = .ok (.getfield 28, 3) := da9_dX10_canStay_59.2.2.2.2.2.2.2.2.2.2.1
theorem dX10_canStay_78 : decode cX10_canStay 78 = .ok (.iconst 0, 1) := da9_dX10_canStay_59.2.2.2.2.2.2.2.2.2.2.2.1
theorem dX10_canStay_79 : decode cX10_canStay 79 = .ok (.iload 4, 2) := da9_dX10_canStay_59.2.2.2.2.2.2.2.2.2.2.2.2.1
theorem dX10_canStay_81 : decode cX10_canStay 81 = .ok (.iadd, 1) := da9_dX10_canStay_59.2.2.2.2.2.2.2.2.2.2.2.2.2.1
theorem dX10_canStay_82 : decode cX10_canStay 82 = .ok (.iaload, 1) := da9_dX10_canStay_59.2.2.2.2.2.2.2.2.2.2.2.2.2.2.1
theorem dX10_canStay_83 : decode cX10_canStay 83 = .ok (.istore_n 2, 1) := da9_dX10_canStay_59.2.2.2.2.2.2.2.2.2.2.2.2.2.2.2
theorem da9_dX10_canStay_84 : (decode cX10_canStay 84 = .ok (.iinc 4 1, 3)) ∧ (decode cX10_canStay 87 = .ok (.goto (-80), 3)) ∧ (decode cX10_canStay 90 = .ok (.iload_n 3, 1)) ∧ (decode cX10_canStay 91 = .ok (.ireturn, 1)) := by decide +kernel
theorem dX10_canStay_84 : decode cX10_canStay 84 = .ok (.iinc 4 1, 3) := da9_dX10_canStay_84.1
theorem dX10_canStay_87 : decode cX10_canStay 87 = .ok (.goto (-80), 3) := da9_dX10_canStay_84.2.1
theorem dX10_canStay_90 : decode cX10_canStay 90 = .ok (.iload_n 3, 1) := da9_dX10_canStay_84.2.2.1
theorem dX10_canStay_91 : decode cX10_canStay 91 = .ok (.ireturn, 1) := da9_dX10_canStay_84.2.2.2
set_option maxRecDepth 20000 in
theorem ggX10_stays_X10_lies : GoodIn wsX10_stays wsX10_lies := goodIn_r _ [4] rfl (by decide +kernel)
set_option maxRecDepth 20000 in
theorem gX10_stays_X10_lies : GoodIn wsX10_stays (va_wsS RX10 18 yX10_lies wsX10_lies) := goodIn_app (goodIn_of _ (by decide +kernel)) ggX10_stays_X10_lies
set_option maxRecDepth 20000 in
theorem ggX10_stays_X10_size : GoodIn wsX10_stays wsX10_size := goodIn_r _ [8, 9, 20, 21, 22, 23, 24, 25, 26, 27, 28, 29, 30, 31, 32, 33, 34, 35, 36, 37, 38, 39, 40, 41, 42, 43, 44, 45, 46, 47, 48, 49, 50, 51, 52, 53, 54, 55, 56, 57, 58, 59, 60, 61, 62, 63, 64, 65, 66, 67, 68, 69, 70, 71, 72, 73, 74, 75] rfl (by decide +kernel)
set_option maxRecDepth 20000 in
theorem gX10_stays_X10_size : GoodIn wsX10_stays (wsV RX10 125 RX10 yX10_size wsX10_size) := goodIn_app (goodIn_of _ (by decide +kernel)) ggX10_stays_X10_size
set_option maxRecDepth 20000 in
theorem ggX10_stays_X10_ones : GoodIn wsX10_stays wsX10_ones := goodIn_r _ [12] rfl (by decide +kernel)
set_option maxRecDepth 20000 in
theorem gX10_stays_X10_ones : GoodIn wsX10_stays (va_wsS RX10 448 yX10_ones wsX10_ones) := goodIn_app (goodIn_of _ (by decide +kernel)) ggX10_stays_X10_ones
set_option maxRecDepth 20000 in
theorem ggX10_stays_X10_canStay : GoodIn wsX10_stays wsX10_canStay := goodIn_r _ [16, 9, 5, 6, 7, 3, 8, 17, 18, 19, 20, 21, 22, 23, 24, 25, 26, 27, 28, 29, 30, 31, 32, 33, 34, 35, 36, 37, 38, 39, 40, 41, 42, 43, 44, 45, 46, 47, 48, 49, 50, 51, 52, 53, 54, 55, 56, 57, 58, 59, 60, 61, 62, 63, 64, 65, 66, 67, 68, 69, 70, 71, 72, 73, 74, 75] rfl (by decide +kernel)
set_option maxRecDepth 20000 in
theorem gX10_stays_X10_canStay : GoodIn wsX10_stays (wsV RX10 451 RX10 yX10_canStay wsX10_canStay) := goodIn_app (goodIn_of _ (by decide +kernel)) ggX10_stays_X10_canStay
theorem da9_dX10_stays_0 : (decode cX10_stays 0 = .ok (.iload_n 1, 1)) ∧ (decode cX10_stays 1 = .ok (.iconst 0, 1)) ∧ (decode cX10_stays 2 = .ok (.iconst 1, 1)) ∧ (decode cX10_stays 3 = .ok (.invokestatic 18, 3)) ∧ (decode cX10_stays 6 = .ok (.ifCond .ne 5, 3)) ∧ (decode cX10_stays 9 = .ok (.iconst (-1), 1)) ∧ (decode cX10_stays 10 = .ok (.ireturn, 1)) ∧ (decode cX10_stays 11 = .ok (.iconst 0, 1)) ∧ (decode cX10_stays 12 = .ok (.istore_n 2, 1)) ∧ (decode cX10_stays 13 = .ok (.iconst 0, 1)) ∧ (decode cX10_stays 14 = .ok (.istore_n 3, 1)) ∧ (decode cX10_stays 15 = .ok (.iload_n 3, 1)) ∧ (decode cX10_stays 16 = .ok (.iconst 1, 1)) ∧ (decode cX10_stays 17 = .ok (.aload_n 0, 1)) ∧ (decode cX10_stays 18 = .ok (.invokevirtual 125, 3)) ∧ (decode cX10_stays 21 = .ok (.ishl, 1)) := by decide +kernel
theorem dX10_stays_0 : decode cX10_stays 0 = .ok (.iload_n 1, 1) := da9_dX10_stays_0.1
theorem dX10_stays_1 : decode cX10_stays 1 = .ok (.iconst 0, 1) := da9_dX10_stays_0.2.1
theorem dX10_stays_2 : decode cX10_stays 2 = .ok (.iconst 1, 1) := da9_dX10_stays_0.2.2.1
theorem dX10_stays_3 : decode cX10_stays 3 = .ok (.invokestatic 18, 3) := da9_dX10_stays_0.2.2.2.1
theorem dX10_stays_6 : decode cX10_stays 6 = .ok (.ifCond .ne 5, 3) := da9_dX10_stays_0.2.2.2.2.1
theorem dX10_stays_9 : decode cX10_stays 9 = .ok (.iconst (-1), 1) := da9_dX10_stays_0.2.2.2.2.2.1
theorem dX10_stays_10 : decode cX10_stays 10 = .ok (.ireturn, 1) := da9_dX10_stays_0.2.2.2.2.2.2.1
theorem dX10_stays_11 : decode cX10_stays 11 = .ok (.iconst 0, 1) := da9_dX10_stays_0.2.2.2.2.2.2.2.1
theorem dX10_stays_12 : decode cX10_stays 12 = .ok (.istore_n 2, 1) := da9_dX10_stays_0.2.2.2.2.2.2.2.2.1
theorem dX10_stays_13 : decode cX10_stays 13 = .ok (.iconst 0, 1) := da9_dX10_stays_0.2.2.2.2.2.2.2.2.2.1
theorem dX10_stays_14 : decode cX10_stays 14 = .ok (.istore_n 3, 1) := da9_dX10_stays_0.2.2.2.2.2.2.2.2.2.2.1
theorem dX10_stays_15 : decode cX10_stays 15 = .ok (.iload_n 3, 1) := da9_dX10_stays_0.2.2.2.2.2.2.2.2.2.2.2.1
theorem dX10_stays_16 : decode cX10_stays 16 = .ok (.iconst 1, 1) := da9_dX10_stays_0.2.2.2.2.2.2.2.2.2.2.2.2.1
theorem dX10_stays_17 : decode cX10_stays 17 = .ok (.aload_n 0, 1) := da9_dX10_stays_0.2.2.2.2.2.2.2.2.2.2.2.2.2.1
theorem dX10_stays_18 : decode cX10_stays 18 = .ok (.invokevirtual 125, 3) := da9_dX10_stays_0.2.2.2.2.2.2.2.2.2.2.2.2.2.2.1
theorem dX10_stays_21 : decode cX10_stays 21 = .ok (.ishl, 1) := da9_dX10_stays_0.2.2.2.2.2.2.2.2.2.2.2.2.2.2.2
theorem da9_dX10_stays_22 : (decode cX10_stays 22 = .ok (.if_icmp .ge 30, 3)) ∧ (decode cX10_stays 25 = .ok (.iload_n 3, 1)) ∧ (decode cX10_stays 26 = .ok (.invokestatic 448, 3)) ∧ (decode cX10_stays 29 = .ok (.iload_n 2, 1)) ∧ (decode cX10_stays 30 = .ok (.invokestatic 448, 3)) ∧ (decode cX10_stays 33 = .ok (.if_icmp .le 13, 3)) ∧ (decode cX10_stays 36 = .ok (.aload_n 0, 1)) ∧ (decode cX10_stays 37 = .ok (.iload_n 3, 1)) ∧ (decode cX10_stays 38 = .ok (.invokevirtual 451, 3)) ∧ (decode cX10_stays 41 = .ok (.ifCond .eq 5, 3)) ∧ (decode cX10_stays 44 = .ok (.iload_n 3, 1)) ∧ (decode cX10_stays 45 = .ok (.istore_n 2, 1)) ∧ (decode cX10_stays 46 = .ok (.iinc 3 1, 3)) ∧ (decode cX10_stays 49 = .ok (.goto (-34), 3)) ∧ (decode cX10_stays 52 = .ok (.iload_n 1, 1)) ∧ (decode cX10_stays 53 = .ok (.ifCond .ne 10, 3)) := by decide +kernel
theorem dX10_stays_22 : decode cX10_stays 22 = .ok (.if_icmp .ge 30, 3) := da9_dX10_stays_22.1
theorem dX10_stays_25 : decode cX10_stays 25 = .ok (.iload_n 3, 1) := da9_dX10_stays_22.2.1
theorem dX10_stays_26 : decode cX10_stays 26 = .ok (.invokestatic 448, 3) := da9_dX10_stays_22.2.2.1
theorem dX10_stays_29 : decode cX10_stays 29 = .ok (.iload_n 2, 1) := da9_dX10_stays_22.2.2.2.1
theorem dX10_stays_30 : decode cX10_stays 30 = .ok (.invokestatic 448, 3) := da9_dX10_stays_22.2.2.2.2.1
theorem dX10_stays_33 : decode cX10_stays 33 = .ok (.if_icmp .le 13, 3) := da9_dX10_stays_22.2.2.2.2.2.1
theorem dX10_stays_36 : decode cX10_stays 36 = .ok (.aload_n 0, 1) := da9_dX10_stays_22.2.2.2.2.2.2.1
theorem dX10_stays_37 : decode cX10_stays 37 = .ok (.iload_n 3, 1) := da9_dX10_stays_22.2.2.2.2.2.2.2.1
theorem dX10_stays_38 : decode cX10_stays 38 = .ok (.invokevirtual 451, 3) := da9_dX10_stays_22.2.2.2.2.2.2.2.2.1
theorem dX10_stays_41 : decode cX10_stays 41 = .ok (.ifCond .eq 5, 3) := da9_dX10_stays_22.2.2.2.2.2.2.2.2.2.1
theorem dX10_stays_44 : decode cX10_stays 44 = .ok (.iload_n 3, 1) := da9_dX10_stays_22.2.2.2.2.2.2.2.2.2.2.1
theorem dX10_stays_45 : decode cX10_stays 45 = .ok (.istore_n 2, 1) := da9_dX10_stays_22.2.2.2.2.2.2.2.2.2.2.2.1
theorem dX10_stays_46 : decode cX10_stays 46 = .ok (.iinc 3 1, 3) := da9_dX10_stays_22.2.2.2.2.2.2.2.2.2.2.2.2.1
theorem dX10_stays_49 : decode cX10_stays 49 = .ok (.goto (-34), 3) := da9_dX10_stays_22.2.2.2.2.2.2.2.2.2.2.2.2.2.1
theorem dX10_stays_52 : decode cX10_stays 52 = .ok (.iload_n 1, 1) := da9_dX10_stays_22.2.2.2.2.2.2.2.2.2.2.2.2.2.2.1
theorem dX10_stays_53 : decode cX10_stays 53 = .ok (.ifCond .ne 10, 3) := da9_dX10_stays_22.2.2.2.2.2.2.2.2.2.2.2.2.2.2.2
theorem da9_dX10_stays_56 : (decode cX10_stays 56 = .ok (.iload_n 2, 1)) ∧ (decode cX10_stays 57 = .ok (.invokestatic 448, 3)) ∧ (decode cX10_stays 60 = .ok (.goto 4, 3)) ∧ (decode cX10_stays 63 = .ok (.iload_n 2, 1)) ∧ (decode cX10_stays 64 = .ok (.ireturn, 1)) := by decide +kernel
theorem dX10_stays_56 : decode cX10_stays 56 = .ok (.iload_n 2, 1) := da9_dX10_stays_56.1
theorem dX10_stays_57 : decode cX10_stays 57 = .ok (.invokestatic 448, 3) := da9_dX10_stays_56.2.1
theorem dX10_stays_60 : decode cX10_stays 60 = .ok (.goto 4, 3) := da9_dX10_stays_56.2.2.1
theorem dX10_stays_63 : decode cX10_stays 63 = .ok (.iload_n 2, 1) := da9_dX10_stays_56.2.2.2.1
theorem dX10_stays_64 : decode cX10_stays 64 = .ok (.ireturn, 1) := da9_dX10_stays_56.2.2.2.2
set_option maxRecDepth 20000 in
theorem ggX10_seen_X10_isRank : GoodIn wsX10_seen wsX10_isRank := goodIn_r _ [5, 6, 7, 4, 8] rfl (by decide +kernel)
set_option maxRecDepth 20000 in
theorem gX10_seen_X10_isRank : GoodIn wsX10_seen (va_wsS RX10 129 yX10_isRank wsX10_isRank) := goodIn_app (goodIn_of _ (by decide +kernel)) ggX10_seen_X10_isRank
set_option maxRecDepth 20000 in
theorem ggX10_seen_X10_refuses : GoodIn wsX10_seen wsX10_refuses := goodIn_r _ [12, 13, 14, 19, 20, 21, 22, 23, 24, 25, 26, 27, 28, 29, 30, 31, 32, 33, 34, 35, 36, 37, 38, 39, 40, 41, 42, 43, 44, 45, 46, 47, 48, 49, 50, 51, 52, 53, 54, 55, 56, 57, 58, 59, 60, 61, 62, 63, 64, 65, 66, 67, 68, 69, 70, 71, 72, 73, 74] rfl (by decide +kernel)
set_option maxRecDepth 20000 in
theorem gX10_seen_X10_refuses : GoodIn wsX10_seen (wsV RX10 119 RX10 yX10_refuses wsX10_refuses) := goodIn_app (goodIn_of _ (by decide +kernel)) ggX10_seen_X10_refuses
set_option maxRecDepth 20000 in
theorem ggX10_seen_X10_good : GoodIn wsX10_seen wsX10_good := goodIn_r _ [18, 13, 19, 20, 21, 22, 23, 24, 25, 26, 27, 28, 29, 30, 31, 32, 33, 34, 35, 36, 37, 38, 39, 40, 41, 42, 43, 44, 45, 46, 47, 48, 49, 50, 51, 52, 53, 54, 55, 56, 57, 58, 59, 60, 61, 62, 63, 64, 65, 66, 67, 68, 69, 70, 71, 72, 73, 74] rfl (by decide +kernel)
set_option maxRecDepth 20000 in
theorem gX10_seen_X10_good : GoodIn wsX10_seen (wsV RX10 14 RX10 yX10_good wsX10_good) := goodIn_app (goodIn_of _ (by decide +kernel)) ggX10_seen_X10_good
theorem da9_dX10_seen_0 : (decode cX10_seen 0 = .ok (.iload_n 1, 1)) ∧ (decode cX10_seen 1 = .ok (.invokestatic 129, 3)) ∧ (decode cX10_seen 4 = .ok (.ifCond .eq 10, 3)) ∧ (decode cX10_seen 7 = .ok (.iload_n 2, 1)) ∧ (decode cX10_seen 8 = .ok (.invokestatic 129, 3)) ∧ (decode cX10_seen 11 = .ok (.ifCond .ne 9, 3)) ∧ (decode cX10_seen 14 = .ok (.aload_n 0, 1)) ∧ (decode cX10_seen 15 = .ok (.iconst (-1), 1)) ∧ (decode cX10_seen 16 = .ok (.invokevirtual 119, 3)) ∧ (decode cX10_seen 19 = .ok (.ireturn, 1)) ∧ (decode cX10_seen 20 = .ok (.bipush 14, 2)) ∧ (decode cX10_seen 22 = .ok (.iconst 2, 1)) ∧ (decode cX10_seen 23 = .ok (.aload_n 0, 1)) ∧ (decode cX10_seen 24 = .ok (.getfield 28, 3)) ∧ (decode cX10_seen 27 = .ok (.bipush 30, 2)) ∧ (decode cX10_seen 29 = .ok (.iaload, 1)) := by decide +kernel
theorem dX10_seen_0 : decode cX10_seen 0 = .ok (.iload_n 1, 1) := da9_dX10_seen_0.1
theorem dX10_seen_1 : decode cX10_seen 1 = .ok (.invokestatic 129, 3) := da9_dX10_seen_0.2.1
theorem dX10_seen_4 : decode cX10_seen 4 = .ok (.ifCond .eq 10, 3) := da9_dX10_seen_0.2.2.1
theorem dX10_seen_7 : decode cX10_seen 7 = .ok (.iload_n 2, 1) := da9_dX10_seen_0.2.2.2.1
theorem dX10_seen_8 : decode cX10_seen 8 = .ok (.invokestatic 129, 3) := da9_dX10_seen_0.2.2.2.2.1
theorem dX10_seen_11 : decode cX10_seen 11 = .ok (.ifCond .ne 9, 3) := da9_dX10_seen_0.2.2.2.2.2.1
theorem dX10_seen_14 : decode cX10_seen 14 = .ok (.aload_n 0, 1) := da9_dX10_seen_0.2.2.2.2.2.2.1
theorem dX10_seen_15 : decode cX10_seen 15 = .ok (.iconst (-1), 1) := da9_dX10_seen_0.2.2.2.2.2.2.2.1
theorem dX10_seen_16 : decode cX10_seen 16 = .ok (.invokevirtual 119, 3) := da9_dX10_seen_0.2.2.2.2.2.2.2.2.1
theorem dX10_seen_19 : decode cX10_seen 19 = .ok (.ireturn, 1) := da9_dX10_seen_0.2.2.2.2.2.2.2.2.2.1
theorem dX10_seen_20 : decode cX10_seen 20 = .ok (.bipush 14, 2) := da9_dX10_seen_0.2.2.2.2.2.2.2.2.2.2.1
theorem dX10_seen_22 : decode cX10_seen 22 = .ok (.iconst 2, 1) := da9_dX10_seen_0.2.2.2.2.2.2.2.2.2.2.2.1
theorem dX10_seen_23 : decode cX10_seen 23 = .ok (.aload_n 0, 1) := da9_dX10_seen_0.2.2.2.2.2.2.2.2.2.2.2.2.1
theorem dX10_seen_24 : decode cX10_seen 24 = .ok (.getfield 28, 3) := da9_dX10_seen_0.2.2.2.2.2.2.2.2.2.2.2.2.2.1
theorem dX10_seen_27 : decode cX10_seen 27 = .ok (.bipush 30, 2) := da9_dX10_seen_0.2.2.2.2.2.2.2.2.2.2.2.2.2.2.1
theorem dX10_seen_29 : decode cX10_seen 29 = .ok (.iaload, 1) := da9_dX10_seen_0.2.2.2.2.2.2.2.2.2.2.2.2.2.2.2
theorem da9_dX10_seen_30 : (decode cX10_seen 30 = .ok (.imul, 1)) ∧ (decode cX10_seen 31 = .ok (.iadd, 1)) ∧ (decode cX10_seen 32 = .ok (.istore_n 3, 1)) ∧ (decode cX10_seen 33 = .ok (.aload_n 0, 1)) ∧ (decode cX10_seen 34 = .ok (.getfield 28, 3)) ∧ (decode cX10_seen 37 = .ok (.bipush 30, 2)) ∧ (decode cX10_seen 39 = .ok (.iaload, 1)) ∧ (decode cX10_seen 40 = .ok (.bipush 6, 2)) ∧ (decode cX10_seen 42 = .ok (.if_icmp .ne 10, 3)) ∧ (decode cX10_seen 45 = .ok (.aload_n 0, 1)) ∧ (decode cX10_seen 46 = .ok (.bipush (-5), 2)) ∧ (decode cX10_seen 48 = .ok (.invokevirtual 119, 3)) ∧ (decode cX10_seen 51 = .ok (.ireturn, 1)) ∧ (decode cX10_seen 52 = .ok (.aload_n 0, 1)) ∧ (decode cX10_seen 53 = .ok (.getfield 28, 3)) ∧ (decode cX10_seen 56 = .ok (.iload_n 3, 1)) := by decide +kernel
theorem dX10_seen_30 : decode cX10_seen 30 = .ok (.imul, 1) := da9_dX10_seen_30.1
theorem dX10_seen_31 : decode cX10_seen 31 = .ok (.iadd, 1) := da9_dX10_seen_30.2.1
theorem dX10_seen_32 : decode cX10_seen 32 = .ok (.istore_n 3, 1) := da9_dX10_seen_30.2.2.1
theorem dX10_seen_33 : decode cX10_seen 33 = .ok (.aload_n 0, 1) := da9_dX10_seen_30.2.2.2.1
theorem dX10_seen_34 : decode cX10_seen 34 = .ok (.getfield 28, 3) := da9_dX10_seen_30.2.2.2.2.1
theorem dX10_seen_37 : decode cX10_seen 37 = .ok (.bipush 30, 2) := da9_dX10_seen_30.2.2.2.2.2.1
theorem dX10_seen_39 : decode cX10_seen 39 = .ok (.iaload, 1) := da9_dX10_seen_30.2.2.2.2.2.2.1
theorem dX10_seen_40 : decode cX10_seen 40 = .ok (.bipush 6, 2) := da9_dX10_seen_30.2.2.2.2.2.2.2.1
theorem dX10_seen_42 : decode cX10_seen 42 = .ok (.if_icmp .ne 10, 3) := da9_dX10_seen_30.2.2.2.2.2.2.2.2.1
theorem dX10_seen_45 : decode cX10_seen 45 = .ok (.aload_n 0, 1) := da9_dX10_seen_30.2.2.2.2.2.2.2.2.2.1
theorem dX10_seen_46 : decode cX10_seen 46 = .ok (.bipush (-5), 2) := da9_dX10_seen_30.2.2.2.2.2.2.2.2.2.2.1
theorem dX10_seen_48 : decode cX10_seen 48 = .ok (.invokevirtual 119, 3) := da9_dX10_seen_30.2.2.2.2.2.2.2.2.2.2.2.1
theorem dX10_seen_51 : decode cX10_seen 51 = .ok (.ireturn, 1) := da9_dX10_seen_30.2.2.2.2.2.2.2.2.2.2.2.2.1
theorem dX10_seen_52 : decode cX10_seen 52 = .ok (.aload_n 0, 1) := da9_dX10_seen_30.2.2.2.2.2.2.2.2.2.2.2.2.2.1
theorem dX10_seen_53 : decode cX10_seen 53 = .ok (.getfield 28, 3) := da9_dX10_seen_30.2.2.2.2.2.2.2.2.2.2.2.2.2.2.1
theorem dX10_seen_56 : decode cX10_seen 56 = .ok (.iload_n 3, 1) := da9_dX10_seen_30.2.2.2.2.2.2.2.2.2.2.2.2.2.2.2
theorem da9_dX10_seen_57 : (decode cX10_seen 57 = .ok (.iload_n 1, 1)) ∧ (decode cX10_seen 58 = .ok (.iastore, 1)) ∧ (decode cX10_seen 59 = .ok (.aload_n 0, 1)) ∧ (decode cX10_seen 60 = .ok (.getfield 28, 3)) ∧ (decode cX10_seen 63 = .ok (.iload_n 3, 1)) ∧ (decode cX10_seen 64 = .ok (.iconst 1, 1)) ∧ (decode cX10_seen 65 = .ok (.iadd, 1)) ∧ (decode cX10_seen 66 = .ok (.iload_n 2, 1)) ∧ (decode cX10_seen 67 = .ok (.iastore, 1)) ∧ (decode cX10_seen 68 = .ok (.aload_n 0, 1)) ∧ (decode cX10_seen 69 = .ok (.getfield 28, 3)) ∧ (decode cX10_seen 72 = .ok (.bipush 30, 2)) ∧ (decode cX10_seen 74 = .ok (.dup2, 1)) ∧ (decode cX10_seen 75 = .ok (.iaload, 1)) ∧ (decode cX10_seen 76 = .ok (.iconst 1, 1)) ∧ (decode cX10_seen 77 = .ok (.iadd, 1)) := by decide +kernel
theorem dX10_seen_57 : decode cX10_seen 57 = .ok (.iload_n 1, 1) := da9_dX10_seen_57.1
theorem dX10_seen_58 : decode cX10_seen 58 = .ok (.iastore, 1) := da9_dX10_seen_57.2.1
theorem dX10_seen_59 : decode cX10_seen 59 = .ok (.aload_n 0, 1) := da9_dX10_seen_57.2.2.1
theorem dX10_seen_60 : decode cX10_seen 60 = .ok (.getfield 28, 3) := da9_dX10_seen_57.2.2.2.1
theorem dX10_seen_63 : decode cX10_seen 63 = .ok (.iload_n 3, 1) := da9_dX10_seen_57.2.2.2.2.1
theorem dX10_seen_64 : decode cX10_seen 64 = .ok (.iconst 1, 1) := da9_dX10_seen_57.2.2.2.2.2.1
theorem dX10_seen_65 : decode cX10_seen 65 = .ok (.iadd, 1) := da9_dX10_seen_57.2.2.2.2.2.2.1
theorem dX10_seen_66 : decode cX10_seen 66 = .ok (.iload_n 2, 1) := da9_dX10_seen_57.2.2.2.2.2.2.2.1
theorem dX10_seen_67 : decode cX10_seen 67 = .ok (.iastore, 1) := da9_dX10_seen_57.2.2.2.2.2.2.2.2.1
theorem dX10_seen_68 : decode cX10_seen 68 = .ok (.aload_n 0, 1) := da9_dX10_seen_57.2.2.2.2.2.2.2.2.2.1
theorem dX10_seen_69 : decode cX10_seen 69 = .ok (.getfield 28, 3) := da9_dX10_seen_57.2.2.2.2.2.2.2.2.2.2.1
theorem dX10_seen_72 : decode cX10_seen 72 = .ok (.bipush 30, 2) := da9_dX10_seen_57.2.2.2.2.2.2.2.2.2.2.2.1
theorem dX10_seen_74 : decode cX10_seen 74 = .ok (.dup2, 1) := da9_dX10_seen_57.2.2.2.2.2.2.2.2.2.2.2.2.1
theorem dX10_seen_75 : decode cX10_seen 75 = .ok (.iaload, 1) := da9_dX10_seen_57.2.2.2.2.2.2.2.2.2.2.2.2.2.1
theorem dX10_seen_76 : decode cX10_seen 76 = .ok (.iconst 1, 1) := da9_dX10_seen_57.2.2.2.2.2.2.2.2.2.2.2.2.2.2.1
theorem dX10_seen_77 : decode cX10_seen 77 = .ok (.iadd, 1) := da9_dX10_seen_57.2.2.2.2.2.2.2.2.2.2.2.2.2.2.2
theorem da9_dX10_seen_78 : (decode cX10_seen 78 = .ok (.iastore, 1)) ∧ (decode cX10_seen 79 = .ok (.aload_n 0, 1)) ∧ (decode cX10_seen 80 = .ok (.aload_n 0, 1)) ∧ (decode cX10_seen 81 = .ok (.getfield 28, 3)) ∧ (decode cX10_seen 84 = .ok (.bipush 30, 2)) ∧ (decode cX10_seen 86 = .ok (.iaload, 1)) ∧ (decode cX10_seen 87 = .ok (.invokevirtual 14, 3)) ∧ (decode cX10_seen 90 = .ok (.ireturn, 1)) := by decide +kernel
theorem dX10_seen_78 : decode cX10_seen 78 = .ok (.iastore, 1) := da9_dX10_seen_78.1
theorem dX10_seen_79 : decode cX10_seen 79 = .ok (.aload_n 0, 1) := da9_dX10_seen_78.2.1
theorem dX10_seen_80 : decode cX10_seen 80 = .ok (.aload_n 0, 1) := da9_dX10_seen_78.2.2.1
theorem dX10_seen_81 : decode cX10_seen 81 = .ok (.getfield 28, 3) := da9_dX10_seen_78.2.2.2.1
theorem dX10_seen_84 : decode cX10_seen 84 = .ok (.bipush 30, 2) := da9_dX10_seen_78.2.2.2.2.1
theorem dX10_seen_86 : decode cX10_seen 86 = .ok (.iaload, 1) := da9_dX10_seen_78.2.2.2.2.2.1
theorem dX10_seen_87 : decode cX10_seen 87 = .ok (.invokevirtual 14, 3) := da9_dX10_seen_78.2.2.2.2.2.2.1
theorem dX10_seen_90 : decode cX10_seen 90 = .ok (.ireturn, 1) := da9_dX10_seen_78.2.2.2.2.2.2.2
theorem da9_dX10_forget_0 : (decode cX10_forget 0 = .ok (.aload_n 0, 1)) ∧ (decode cX10_forget 1 = .ok (.getfield 28, 3)) ∧ (decode cX10_forget 4 = .ok (.bipush 30, 2)) ∧ (decode cX10_forget 6 = .ok (.iaload, 1)) ∧ (decode cX10_forget 7 = .ok (.istore_n 1, 1)) ∧ (decode cX10_forget 8 = .ok (.aload_n 0, 1)) ∧ (decode cX10_forget 9 = .ok (.getfield 28, 3)) ∧ (decode cX10_forget 12 = .ok (.bipush 30, 2)) ∧ (decode cX10_forget 14 = .ok (.iconst 0, 1)) ∧ (decode cX10_forget 15 = .ok (.iastore, 1)) ∧ (decode cX10_forget 16 = .ok (.iload_n 1, 1)) ∧ (decode cX10_forget 17 = .ok (.ireturn, 1)) := by decide +kernel
theorem dX10_forget_0 : decode cX10_forget 0 = .ok (.aload_n 0, 1) := da9_dX10_forget_0.1
theorem dX10_forget_1 : decode cX10_forget 1 = .ok (.getfield 28, 3) := da9_dX10_forget_0.2.1
theorem dX10_forget_4 : decode cX10_forget 4 = .ok (.bipush 30, 2) := da9_dX10_forget_0.2.2.1
theorem dX10_forget_6 : decode cX10_forget 6 = .ok (.iaload, 1) := da9_dX10_forget_0.2.2.2.1
theorem dX10_forget_7 : decode cX10_forget 7 = .ok (.istore_n 1, 1) := da9_dX10_forget_0.2.2.2.2.1
theorem dX10_forget_8 : decode cX10_forget 8 = .ok (.aload_n 0, 1) := da9_dX10_forget_0.2.2.2.2.2.1
theorem dX10_forget_9 : decode cX10_forget 9 = .ok (.getfield 28, 3) := da9_dX10_forget_0.2.2.2.2.2.2.1
theorem dX10_forget_12 : decode cX10_forget 12 = .ok (.bipush 30, 2) := da9_dX10_forget_0.2.2.2.2.2.2.2.1
theorem dX10_forget_14 : decode cX10_forget 14 = .ok (.iconst 0, 1) := da9_dX10_forget_0.2.2.2.2.2.2.2.2.1
theorem dX10_forget_15 : decode cX10_forget 15 = .ok (.iastore, 1) := da9_dX10_forget_0.2.2.2.2.2.2.2.2.2.1
theorem dX10_forget_16 : decode cX10_forget 16 = .ok (.iload_n 1, 1) := da9_dX10_forget_0.2.2.2.2.2.2.2.2.2.2.1
theorem dX10_forget_17 : decode cX10_forget 17 = .ok (.ireturn, 1) := da9_dX10_forget_0.2.2.2.2.2.2.2.2.2.2.2
set_option maxRecDepth 20000 in
theorem ggX10_rankBehind_X10_isPlace : GoodIn wsX10_rankBehind wsX10_isPlace := goodIn_r _ [6, 7, 8, 9, 5, 10, 1, 11, 12, 13, 14, 15, 16, 17, 18, 19, 20, 21, 22, 23, 24, 25, 26, 27, 28, 29, 30, 31, 32, 33, 34, 35, 36, 37, 38, 39, 40, 41, 42, 43, 44, 45, 46, 47, 48, 49, 50, 51, 52, 53, 54, 55, 56, 57, 58, 59, 60, 61, 62, 63, 64, 65, 66, 67, 68, 69] rfl (by decide +kernel)
set_option maxRecDepth 20000 in
theorem gX10_rankBehind_X10_isPlace : GoodIn wsX10_rankBehind (wsV RX10 143 RX10 yX10_isPlace wsX10_isPlace) := goodIn_app (goodIn_of _ (by decide +kernel)) ggX10_rankBehind_X10_isPlace
theorem da9_dX10_rankBehind_0 : (decode cX10_rankBehind 0 = .ok (.aload_n 0, 1)) ∧ (decode cX10_rankBehind 1 = .ok (.iload_n 2, 1)) ∧ (decode cX10_rankBehind 2 = .ok (.invokevirtual 143, 3)) ∧ (decode cX10_rankBehind 5 = .ok (.ifCond .ne 7, 3)) ∧ (decode cX10_rankBehind 8 = .ok (.iconst (-1), 1)) ∧ (decode cX10_rankBehind 9 = .ok (.goto 24, 3)) ∧ (decode cX10_rankBehind 12 = .ok (.aload_n 0, 1)) ∧ (decode cX10_rankBehind 13 = .ok (.getfield 28, 3)) ∧ (decode cX10_rankBehind 16 = .ok (.iconst 0, 1)) ∧ (decode cX10_rankBehind 17 = .ok (.iload_n 2, 1)) ∧ (decode cX10_rankBehind 18 = .ok (.iload_n 1, 1)) ∧ (decode cX10_rankBehind 19 = .ok (.if_icmp .ge 11, 3)) ∧ (decode cX10_rankBehind 22 = .ok (.iload_n 1, 1)) ∧ (decode cX10_rankBehind 23 = .ok (.iconst 1, 1)) ∧ (decode cX10_rankBehind 24 = .ok (.isub, 1)) ∧ (decode cX10_rankBehind 25 = .ok (.iload_n 2, 1)) := by decide +kernel
theorem dX10_rankBehind_0 : decode cX10_rankBehind 0 = .ok (.aload_n 0, 1) := da9_dX10_rankBehind_0.1
theorem dX10_rankBehind_1 : decode cX10_rankBehind 1 = .ok (.iload_n 2, 1) := da9_dX10_rankBehind_0.2.1
theorem dX10_rankBehind_2 : decode cX10_rankBehind 2 = .ok (.invokevirtual 143, 3) := da9_dX10_rankBehind_0.2.2.1
theorem dX10_rankBehind_5 : decode cX10_rankBehind 5 = .ok (.ifCond .ne 7, 3) := da9_dX10_rankBehind_0.2.2.2.1
theorem dX10_rankBehind_8 : decode cX10_rankBehind 8 = .ok (.iconst (-1), 1) := da9_dX10_rankBehind_0.2.2.2.2.1
theorem dX10_rankBehind_9 : decode cX10_rankBehind 9 = .ok (.goto 24, 3) := da9_dX10_rankBehind_0.2.2.2.2.2.1
theorem dX10_rankBehind_12 : decode cX10_rankBehind 12 = .ok (.aload_n 0, 1) := da9_dX10_rankBehind_0.2.2.2.2.2.2.1
theorem dX10_rankBehind_13 : decode cX10_rankBehind 13 = .ok (.getfield 28, 3) := da9_dX10_rankBehind_0.2.2.2.2.2.2.2.1
theorem dX10_rankBehind_16 : decode cX10_rankBehind 16 = .ok (.iconst 0, 1) := da9_dX10_rankBehind_0.2.2.2.2.2.2.2.2.1
theorem dX10_rankBehind_17 : decode cX10_rankBehind 17 = .ok (.iload_n 2, 1) := da9_dX10_rankBehind_0.2.2.2.2.2.2.2.2.2.1
theorem dX10_rankBehind_18 : decode cX10_rankBehind 18 = .ok (.iload_n 1, 1) := da9_dX10_rankBehind_0.2.2.2.2.2.2.2.2.2.2.1
theorem dX10_rankBehind_19 : decode cX10_rankBehind 19 = .ok (.if_icmp .ge 11, 3) := da9_dX10_rankBehind_0.2.2.2.2.2.2.2.2.2.2.2.1
theorem dX10_rankBehind_22 : decode cX10_rankBehind 22 = .ok (.iload_n 1, 1) := da9_dX10_rankBehind_0.2.2.2.2.2.2.2.2.2.2.2.2.1
theorem dX10_rankBehind_23 : decode cX10_rankBehind 23 = .ok (.iconst 1, 1) := da9_dX10_rankBehind_0.2.2.2.2.2.2.2.2.2.2.2.2.2.1
theorem dX10_rankBehind_24 : decode cX10_rankBehind 24 = .ok (.isub, 1) := da9_dX10_rankBehind_0.2.2.2.2.2.2.2.2.2.2.2.2.2.2.1
theorem dX10_rankBehind_25 : decode cX10_rankBehind 25 = .ok (.iload_n 2, 1) := da9_dX10_rankBehind_0.2.2.2.2.2.2.2.2.2.2.2.2.2.2.2
theorem da9_dX10_rankBehind_26 : (decode cX10_rankBehind 26 = .ok (.isub, 1)) ∧ (decode cX10_rankBehind 27 = .ok (.goto 4, 3)) ∧ (decode cX10_rankBehind 30 = .ok (.iload_n 2, 1)) ∧ (decode cX10_rankBehind 31 = .ok (.iadd, 1)) ∧ (decode cX10_rankBehind 32 = .ok (.iaload, 1)) ∧ (decode cX10_rankBehind 33 = .ok (.ireturn, 1)) := by decide +kernel
theorem dX10_rankBehind_26 : decode cX10_rankBehind 26 = .ok (.isub, 1) := da9_dX10_rankBehind_26.1
theorem dX10_rankBehind_27 : decode cX10_rankBehind 27 = .ok (.goto 4, 3) := da9_dX10_rankBehind_26.2.1
theorem dX10_rankBehind_30 : decode cX10_rankBehind 30 = .ok (.iload_n 2, 1) := da9_dX10_rankBehind_26.2.2.1
theorem dX10_rankBehind_31 : decode cX10_rankBehind 31 = .ok (.iadd, 1) := da9_dX10_rankBehind_26.2.2.2.1
theorem dX10_rankBehind_32 : decode cX10_rankBehind 32 = .ok (.iaload, 1) := da9_dX10_rankBehind_26.2.2.2.2.1
theorem dX10_rankBehind_33 : decode cX10_rankBehind 33 = .ok (.ireturn, 1) := da9_dX10_rankBehind_26.2.2.2.2.2
set_option maxRecDepth 20000 in
theorem ggX10_itWas_X10_canTurn : GoodIn wsX10_itWas wsX10_canTurn := goodIn_r _ [6, 1, 7, 8, 9, 5, 10, 11, 12, 13, 14, 15, 16, 17, 18, 19, 20, 21, 22, 23, 24, 25, 26, 27, 28, 29, 30, 31, 32, 33, 34, 35, 36, 37, 38, 39, 40, 41, 42, 43, 44, 45, 46, 47, 48, 49, 50, 51, 52, 53, 54, 55, 56, 57, 58, 59, 60, 61, 62, 63, 64, 65, 66, 67, 68, 69, 70, 71, 72, 73, 74, 75, 76, 77, 78, 79, 80, 81, 82, 83, 84, 85, 86, 87, 88, 89, 90, 91, 92, 93, 94, 95, 96, 97, 98, 99, 100, 101, 102, 107, 108, 109, 110, 111, 112, 113, 114, 115, 116, 117, 118, 119, 120, 121, 122, 123, 124, 125, 126, 127, 128, 129, 130, 131, 132, 133, 134, 135, 136, 137, 138, 139, 140, 141, 142, 143, 144, 145, 146, 147, 148, 149, 150, 151, 152, 153, 154, 155, 156, 157, 158, 159, 160, 161, 162] rfl (by decide +kernel)
set_option maxRecDepth 20000 in
theorem gX10_itWas_X10_canTurn : GoodIn wsX10_itWas (wsV RX10 353 RX10 yX10_canTurn wsX10_canTurn) := goodIn_app (goodIn_of _ (by decide +kernel)) ggX10_itWas_X10_canTurn
set_option maxRecDepth 20000 in
theorem ggX10_itWas_X10_rankBehind : GoodIn wsX10_itWas wsX10_rankBehind := goodIn_r _ [106, 1, 68, 69, 70, 5, 71, 7, 8, 9, 10, 72, 73, 74, 107, 108, 109, 110, 111, 112, 113, 114, 115, 116, 117, 118, 119, 120, 121, 122, 123, 124, 125, 126, 127, 128, 129, 130, 131, 132, 133, 134, 135, 136, 137, 138, 139, 140, 141, 142, 143, 144, 145, 146, 147, 148, 149, 150, 151, 152, 153, 154, 155, 156, 157, 158, 159, 160, 161, 162] rfl (by decide +kernel)
set_option maxRecDepth 20000 in
theorem gX10_itWas_X10_rankBehind : GoodIn wsX10_itWas (wsV RX10 454 RX10 yX10_rankBehind wsX10_rankBehind) := goodIn_app (goodIn_of _ (by decide +kernel)) ggX10_itWas_X10_rankBehind
theorem da9_dX10_itWas_0 : (decode cX10_itWas 0 = .ok (.aload_n 0, 1)) ∧ (decode cX10_itWas 1 = .ok (.iload_n 1, 1)) ∧ (decode cX10_itWas 2 = .ok (.invokevirtual 353, 3)) ∧ (decode cX10_itWas 5 = .ok (.istore_n 2, 1)) ∧ (decode cX10_itWas 6 = .ok (.iconst 0, 1)) ∧ (decode cX10_itWas 7 = .ok (.istore_n 3, 1)) ∧ (decode cX10_itWas 8 = .ok (.iload_n 3, 1)) ∧ (decode cX10_itWas 9 = .ok (.aload_n 0, 1)) ∧ (decode cX10_itWas 10 = .ok (.getfield 28, 3)) ∧ (decode cX10_itWas 13 = .ok (.bipush 30, 2)) ∧ (decode cX10_itWas 15 = .ok (.iaload, 1)) ∧ (decode cX10_itWas 16 = .ok (.if_icmp .ge 51, 3)) ∧ (decode cX10_itWas 19 = .ok (.iload_n 2, 1)) ∧ (decode cX10_itWas 20 = .ok (.ifCond .eq 47, 3)) ∧ (decode cX10_itWas 23 = .ok (.aload_n 0, 1)) ∧ (decode cX10_itWas 24 = .ok (.iload_n 1, 1)) := by decide +kernel
theorem dX10_itWas_0 : decode cX10_itWas 0 = .ok (.aload_n 0, 1) := da9_dX10_itWas_0.1
theorem dX10_itWas_1 : decode cX10_itWas 1 = .ok (.iload_n 1, 1) := da9_dX10_itWas_0.2.1
theorem dX10_itWas_2 : decode cX10_itWas 2 = .ok (.invokevirtual 353, 3) := da9_dX10_itWas_0.2.2.1
theorem dX10_itWas_5 : decode cX10_itWas 5 = .ok (.istore_n 2, 1) := da9_dX10_itWas_0.2.2.2.1
theorem dX10_itWas_6 : decode cX10_itWas 6 = .ok (.iconst 0, 1) := da9_dX10_itWas_0.2.2.2.2.1
theorem dX10_itWas_7 : decode cX10_itWas 7 = .ok (.istore_n 3, 1) := da9_dX10_itWas_0.2.2.2.2.2.1
theorem dX10_itWas_8 : decode cX10_itWas 8 = .ok (.iload_n 3, 1) := da9_dX10_itWas_0.2.2.2.2.2.2.1
theorem dX10_itWas_9 : decode cX10_itWas 9 = .ok (.aload_n 0, 1) := da9_dX10_itWas_0.2.2.2.2.2.2.2.1
theorem dX10_itWas_10 : decode cX10_itWas 10 = .ok (.getfield 28, 3) := da9_dX10_itWas_0.2.2.2.2.2.2.2.2.1
theorem dX10_itWas_13 : decode cX10_itWas 13 = .ok (.bipush 30, 2) := da9_dX10_itWas_0.2.2.2.2.2.2.2.2.2.1
theorem dX10_itWas_15 : decode cX10_itWas 15 = .ok (.iaload, 1) := da9_dX10_itWas_0.2.2.2.2.2.2.2.2.2.2.1
theorem dX10_itWas_16 : decode cX10_itWas 16 = .ok (.if_icmp .ge 51, 3) := da9_dX10_itWas_0.2.2.2.2.2.2.2.2.2.2.2.1
theorem dX10_itWas_19 : decode cX10_itWas 19 = .ok (.iload_n 2, 1) := da9_dX10_itWas_0.2.2.2.2.2.2.2.2.2.2.2.2.1
theorem dX10_itWas_20 : decode cX10_itWas 20 = .ok (.ifCond .eq 47, 3) := da9_dX10_itWas_0.2.2.2.2.2.2.2.2.2.2.2.2.2.1
theorem dX10_itWas_23 : decode cX10_itWas 23 = .ok (.aload_n 0, 1) := da9_dX10_itWas_0.2.2.2.2.2.2.2.2.2.2.2.2.2.2.1
theorem dX10_itWas_24 : decode cX10_itWas 24 = .ok (.iload_n 1, 1) := da9_dX10_itWas_0.2.2.2.2.2.2.2.2.2.2.2.2.2.2.2
theorem da9_dX10_itWas_25 : (decode cX10_itWas 25 = .ok (.aload_n 0, 1)) ∧ (decode cX10_itWas 26 = .ok (.getfield 28, 3)) ∧ (decode cX10_itWas 29 = .ok (.bipush 14, 2)) ∧ (decode cX10_itWas 31 = .ok (.iconst 2, 1)) ∧ (decode cX10_itWas 32 = .ok (.iload_n 3, 1)) ∧ (decode cX10_itWas 33 = .ok (.imul, 1)) ∧ (decode cX10_itWas 34 = .ok (.iadd, 1)) ∧ (decode cX10_itWas 35 = .ok (.iaload, 1)) ∧ (decode cX10_itWas 36 = .ok (.invokevirtual 454, 3)) ∧ (decode cX10_itWas 39 = .ok (.aload_n 0, 1)) ∧ (decode cX10_itWas 40 = .ok (.getfield 28, 3)) ∧ (decode cX10_itWas 43 = .ok (.bipush 14, 2)) ∧ (decode cX10_itWas 45 = .ok (.iconst 2, 1)) ∧ (decode cX10_itWas 46 = .ok (.iload_n 3, 1)) ∧ (decode cX10_itWas 47 = .ok (.imul, 1)) ∧ (decode cX10_itWas 48 = .ok (.iadd, 1)) := by decide +kernel
theorem dX10_itWas_25 : decode cX10_itWas 25 = .ok (.aload_n 0, 1) := da9_dX10_itWas_25.1
theorem dX10_itWas_26 : decode cX10_itWas 26 = .ok (.getfield 28, 3) := da9_dX10_itWas_25.2.1
theorem dX10_itWas_29 : decode cX10_itWas 29 = .ok (.bipush 14, 2) := da9_dX10_itWas_25.2.2.1
theorem dX10_itWas_31 : decode cX10_itWas 31 = .ok (.iconst 2, 1) := da9_dX10_itWas_25.2.2.2.1
theorem dX10_itWas_32 : decode cX10_itWas 32 = .ok (.iload_n 3, 1) := da9_dX10_itWas_25.2.2.2.2.1
theorem dX10_itWas_33 : decode cX10_itWas 33 = .ok (.imul, 1) := da9_dX10_itWas_25.2.2.2.2.2.1
theorem dX10_itWas_34 : decode cX10_itWas 34 = .ok (.iadd, 1) := da9_dX10_itWas_25.2.2.2.2.2.2.1
theorem dX10_itWas_35 : decode cX10_itWas 35 = .ok (.iaload, 1) := da9_dX10_itWas_25.2.2.2.2.2.2.2.1
theorem dX10_itWas_36 : decode cX10_itWas 36 = .ok (.invokevirtual 454, 3) := da9_dX10_itWas_25.2.2.2.2.2.2.2.2.1
theorem dX10_itWas_39 : decode cX10_itWas 39 = .ok (.aload_n 0, 1) := da9_dX10_itWas_25.2.2.2.2.2.2.2.2.2.1
theorem dX10_itWas_40 : decode cX10_itWas 40 = .ok (.getfield 28, 3) := da9_dX10_itWas_25.2.2.2.2.2.2.2.2.2.2.1
theorem dX10_itWas_43 : decode cX10_itWas 43 = .ok (.bipush 14, 2) := da9_dX10_itWas_25.2.2.2.2.2.2.2.2.2.2.2.1
theorem dX10_itWas_45 : decode cX10_itWas 45 = .ok (.iconst 2, 1) := da9_dX10_itWas_25.2.2.2.2.2.2.2.2.2.2.2.2.1
theorem dX10_itWas_46 : decode cX10_itWas 46 = .ok (.iload_n 3, 1) := da9_dX10_itWas_25.2.2.2.2.2.2.2.2.2.2.2.2.2.1
theorem dX10_itWas_47 : decode cX10_itWas 47 = .ok (.imul, 1) := da9_dX10_itWas_25.2.2.2.2.2.2.2.2.2.2.2.2.2.2.1
theorem dX10_itWas_48 : decode cX10_itWas 48 = .ok (.iadd, 1) := da9_dX10_itWas_25.2.2.2.2.2.2.2.2.2.2.2.2.2.2.2
theorem da9_dX10_itWas_49 : (decode cX10_itWas 49 = .ok (.iconst 1, 1)) ∧ (decode cX10_itWas 50 = .ok (.iadd, 1)) ∧ (decode cX10_itWas 51 = .ok (.iaload, 1)) ∧ (decode cX10_itWas 52 = .ok (.if_icmp .ne 7, 3)) ∧ (decode cX10_itWas 55 = .ok (.iconst 1, 1)) ∧ (decode cX10_itWas 56 = .ok (.goto 4, 3)) ∧ (decode cX10_itWas 59 = .ok (.iconst 0, 1)) ∧ (decode cX10_itWas 60 = .ok (.istore_n 2, 1)) ∧ (decode cX10_itWas 61 = .ok (.iinc 3 1, 3)) ∧ (decode cX10_itWas 64 = .ok (.goto (-56), 3)) ∧ (decode cX10_itWas 67 = .ok (.iload_n 2, 1)) ∧ (decode cX10_itWas 68 = .ok (.ireturn, 1)) := by decide +kernel
theorem dX10_itWas_49 : decode cX10_itWas 49 = .ok (.iconst 1, 1) := da9_dX10_itWas_49.1
theorem dX10_itWas_50 : decode cX10_itWas 50 = .ok (.iadd, 1) := da9_dX10_itWas_49.2.1
theorem dX10_itWas_51 : decode cX10_itWas 51 = .ok (.iaload, 1) := da9_dX10_itWas_49.2.2.1
theorem dX10_itWas_52 : decode cX10_itWas 52 = .ok (.if_icmp .ne 7, 3) := da9_dX10_itWas_49.2.2.2.1
theorem dX10_itWas_55 : decode cX10_itWas 55 = .ok (.iconst 1, 1) := da9_dX10_itWas_49.2.2.2.2.1
theorem dX10_itWas_56 : decode cX10_itWas 56 = .ok (.goto 4, 3) := da9_dX10_itWas_49.2.2.2.2.2.1
theorem dX10_itWas_59 : decode cX10_itWas 59 = .ok (.iconst 0, 1) := da9_dX10_itWas_49.2.2.2.2.2.2.1
theorem dX10_itWas_60 : decode cX10_itWas 60 = .ok (.istore_n 2, 1) := da9_dX10_itWas_49.2.2.2.2.2.2.2.1
theorem dX10_itWas_61 : decode cX10_itWas 61 = .ok (.iinc 3 1, 3) := da9_dX10_itWas_49.2.2.2.2.2.2.2.2.1
theorem dX10_itWas_64 : decode cX10_itWas 64 = .ok (.goto (-56), 3) := da9_dX10_itWas_49.2.2.2.2.2.2.2.2.2.1
theorem dX10_itWas_67 : decode cX10_itWas 67 = .ok (.iload_n 2, 1) := da9_dX10_itWas_49.2.2.2.2.2.2.2.2.2.2.1
theorem dX10_itWas_68 : decode cX10_itWas 68 = .ok (.ireturn, 1) := da9_dX10_itWas_49.2.2.2.2.2.2.2.2.2.2.2
set_option maxRecDepth 20000 in
theorem ggX10_was_X10_size : GoodIn wsX10_was wsX10_size := goodIn_r _ [5, 6, 111, 112, 113, 114, 115, 116, 117, 118, 119, 120, 121, 122, 123, 124, 125, 126, 127, 128, 129, 130, 131, 132, 133, 134, 135, 136, 137, 138, 139, 140, 141, 142, 143, 144, 145, 146, 147, 148, 149, 150, 151, 152, 153, 154, 155, 156, 157, 158, 159, 160, 161, 162, 163, 164, 165, 166] rfl (by decide +kernel)
set_option maxRecDepth 20000 in
theorem gX10_was_X10_size : GoodIn wsX10_was (wsV RX10 125 RX10 yX10_size wsX10_size) := goodIn_app (goodIn_of _ (by decide +kernel)) ggX10_was_X10_size
set_option maxRecDepth 20000 in
theorem ggX10_was_X10_itWas : GoodIn wsX10_was wsX10_itWas := goodIn_r _ [10, 6, 11, 12, 13, 4, 14, 1, 2, 3, 5, 15, 16, 17, 18, 19, 20, 21, 22, 23, 24, 25, 26, 27, 28, 29, 30, 31, 32, 33, 34, 35, 36, 37, 38, 39, 40, 41, 42, 43, 44, 45, 46, 47, 48, 49, 50, 51, 52, 53, 54, 55, 56, 57, 58, 59, 60, 61, 62, 63, 64, 65, 66, 67, 68, 69, 70, 71, 72, 73, 74, 75, 76, 77, 78, 79, 80, 81, 82, 83, 84, 85, 86, 87, 88, 89, 90, 91, 92, 93, 94, 95, 96, 97, 98, 99, 100, 101, 102, 103, 104, 105, 106, 107, 108, 109, 110, 111, 112, 113, 114, 115, 116, 117, 118, 119, 120, 121, 122, 123, 124, 125, 126, 127, 128, 129, 130, 131, 132, 133, 134, 135, 136, 137, 138, 139, 140, 141, 142, 143, 144, 145, 146, 147, 148, 149, 150, 151, 152, 153, 154, 155, 156, 157, 158, 159, 160, 161, 162, 163, 164, 165, 166] rfl (by decide +kernel)
set_option maxRecDepth 20000 in
theorem gX10_was_X10_itWas : GoodIn wsX10_was (wsV RX10 457 RX10 yX10_itWas wsX10_itWas) := goodIn_app (goodIn_of _ (by decide +kernel)) ggX10_was_X10_itWas
theorem da9_dX10_was_0 : (decode cX10_was 0 = .ok (.iconst 0, 1)) ∧ (decode cX10_was 1 = .ok (.istore_n 1, 1)) ∧ (decode cX10_was 2 = .ok (.iconst 1, 1)) ∧ (decode cX10_was 3 = .ok (.istore_n 2, 1)) ∧ (decode cX10_was 4 = .ok (.iload_n 2, 1)) ∧ (decode cX10_was 5 = .ok (.aload_n 0, 1)) ∧ (decode cX10_was 6 = .ok (.invokevirtual 125, 3)) ∧ (decode cX10_was 9 = .ok (.if_icmp .gt 27, 3)) ∧ (decode cX10_was 12 = .ok (.iload_n 1, 1)) ∧ (decode cX10_was 13 = .ok (.aload_n 0, 1)) ∧ (decode cX10_was 14 = .ok (.iload_n 2, 1)) ∧ (decode cX10_was 15 = .ok (.invokevirtual 457, 3)) ∧ (decode cX10_was 18 = .ok (.ifCond .eq 9, 3)) ∧ (decode cX10_was 21 = .ok (.iconst 1, 1)) ∧ (decode cX10_was 22 = .ok (.iload_n 2, 1)) ∧ (decode cX10_was 23 = .ok (.ishl, 1)) := by decide +kernel
theorem dX10_was_0 : decode cX10_was 0 = .ok (.iconst 0, 1) := da9_dX10_was_0.1
theorem dX10_was_1 : decode cX10_was 1 = .ok (.istore_n 1, 1) := da9_dX10_was_0.2.1
theorem dX10_was_2 : decode cX10_was 2 = .ok (.iconst 1, 1) := da9_dX10_was_0.2.2.1
theorem dX10_was_3 : decode cX10_was 3 = .ok (.istore_n 2, 1) := da9_dX10_was_0.2.2.2.1
theorem dX10_was_4 : decode cX10_was 4 = .ok (.iload_n 2, 1) := da9_dX10_was_0.2.2.2.2.1
theorem dX10_was_5 : decode cX10_was 5 = .ok (.aload_n 0, 1) := da9_dX10_was_0.2.2.2.2.2.1
theorem dX10_was_6 : decode cX10_was 6 = .ok (.invokevirtual 125, 3) := da9_dX10_was_0.2.2.2.2.2.2.1
theorem dX10_was_9 : decode cX10_was 9 = .ok (.if_icmp .gt 27, 3) := da9_dX10_was_0.2.2.2.2.2.2.2.1
theorem dX10_was_12 : decode cX10_was 12 = .ok (.iload_n 1, 1) := da9_dX10_was_0.2.2.2.2.2.2.2.2.1
theorem dX10_was_13 : decode cX10_was 13 = .ok (.aload_n 0, 1) := da9_dX10_was_0.2.2.2.2.2.2.2.2.2.1
theorem dX10_was_14 : decode cX10_was 14 = .ok (.iload_n 2, 1) := da9_dX10_was_0.2.2.2.2.2.2.2.2.2.2.1
theorem dX10_was_15 : decode cX10_was 15 = .ok (.invokevirtual 457, 3) := da9_dX10_was_0.2.2.2.2.2.2.2.2.2.2.2.1
theorem dX10_was_18 : decode cX10_was 18 = .ok (.ifCond .eq 9, 3) := da9_dX10_was_0.2.2.2.2.2.2.2.2.2.2.2.2.1
theorem dX10_was_21 : decode cX10_was 21 = .ok (.iconst 1, 1) := da9_dX10_was_0.2.2.2.2.2.2.2.2.2.2.2.2.2.1
theorem dX10_was_22 : decode cX10_was 22 = .ok (.iload_n 2, 1) := da9_dX10_was_0.2.2.2.2.2.2.2.2.2.2.2.2.2.2.1
theorem dX10_was_23 : decode cX10_was 23 = .ok (.ishl, 1) := da9_dX10_was_0.2.2.2.2.2.2.2.2.2.2.2.2.2.2.2
theorem da9_dX10_was_24 : (decode cX10_was 24 = .ok (.goto 4, 3)) ∧ (decode cX10_was 27 = .ok (.iconst 0, 1)) ∧ (decode cX10_was 28 = .ok (.ior, 1)) ∧ (decode cX10_was 29 = .ok (.istore_n 1, 1)) ∧ (decode cX10_was 30 = .ok (.iinc 2 1, 3)) ∧ (decode cX10_was 33 = .ok (.goto (-29), 3)) ∧ (decode cX10_was 36 = .ok (.iload_n 1, 1)) ∧ (decode cX10_was 37 = .ok (.ireturn, 1)) := by decide +kernel
theorem dX10_was_24 : decode cX10_was 24 = .ok (.goto 4, 3) := da9_dX10_was_24.1
theorem dX10_was_27 : decode cX10_was 27 = .ok (.iconst 0, 1) := da9_dX10_was_24.2.1
theorem dX10_was_28 : decode cX10_was 28 = .ok (.ior, 1) := da9_dX10_was_24.2.2.1
theorem dX10_was_29 : decode cX10_was 29 = .ok (.istore_n 1, 1) := da9_dX10_was_24.2.2.2.1
theorem dX10_was_30 : decode cX10_was 30 = .ok (.iinc 2 1, 3) := da9_dX10_was_24.2.2.2.2.1
theorem dX10_was_33 : decode cX10_was 33 = .ok (.goto (-29), 3) := da9_dX10_was_24.2.2.2.2.2.1
theorem dX10_was_36 : decode cX10_was 36 = .ok (.iload_n 1, 1) := da9_dX10_was_24.2.2.2.2.2.2.1
theorem dX10_was_37 : decode cX10_was 37 = .ok (.ireturn, 1) := da9_dX10_was_24.2.2.2.2.2.2.2
set_option maxRecDepth 20000 in
theorem ggX10_mostAlike_X10_size : GoodIn wsX10_mostAlike wsX10_size := goodIn_r _ [6, 7, 25, 26, 27, 28, 29, 30, 31, 32, 33, 34, 35, 36, 37, 38, 39, 40, 41, 42, 43, 44, 45, 46, 47, 48, 49, 50, 51, 52, 53, 54, 55, 56, 57, 58, 59, 60, 61, 62, 63, 64, 65, 66, 67, 68, 69, 70, 71, 72, 73, 74, 75, 76, 77, 78, 79, 80] rfl (by decide +kernel)
set_option maxRecDepth 20000 in
theorem gX10_mostAlike_X10_size : GoodIn wsX10_mostAlike (wsV RX10 125 RX10 yX10_size wsX10_size) := goodIn_app (goodIn_of _ (by decide +kernel)) ggX10_mostAlike_X10_size
set_option maxRecDepth 20000 in
theorem ggX10_mostAlike_X10_isIn : GoodIn wsX10_mostAlike wsX10_isIn := goodIn_r _ [10] rfl (by decide +kernel)
set_option maxRecDepth 20000 in
theorem gX10_mostAlike_X10_isIn : GoodIn wsX10_mostAlike (va_wsS RX10 383 yX10_isIn wsX10_isIn) := goodIn_app (goodIn_of _ (by decide +kernel)) ggX10_mostAlike_X10_isIn
set_option maxRecDepth 20000 in
theorem ggX10_mostAlike_X10_rankBehind : GoodIn wsX10_mostAlike wsX10_rankBehind := goodIn_r _ [14, 7, 15, 16, 17, 5, 18, 2, 3, 4, 6, 19, 20, 21, 25, 26, 27, 28, 29, 30, 31, 32, 33, 34, 35, 36, 37, 38, 39, 40, 41, 42, 43, 44, 45, 46, 47, 48, 49, 50, 51, 52, 53, 54, 55, 56, 57, 58, 59, 60, 61, 62, 63, 64, 65, 66, 67, 68, 69, 70, 71, 72, 73, 74, 75, 76, 77, 78, 79, 80] rfl (by decide +kernel)
set_option maxRecDepth 20000 in
theorem gX10_mostAlike_X10_rankBehind : GoodIn wsX10_mostAlike (wsV RX10 454 RX10 yX10_rankBehind wsX10_rankBehind) := goodIn_app (goodIn_of _ (by decide +kernel)) ggX10_mostAlike_X10_rankBehind
set_option maxRecDepth 20000 in
theorem ggX10_mostAlike_X10_greater : GoodIn wsX10_mostAlike wsX10_greater := goodIn_r _ [24] rfl (by decide +kernel)
set_option maxRecDepth 20000 in
theorem gX10_mostAlike_X10_greater : GoodIn wsX10_mostAlike (va_wsS RX10 439 yX10_greater wsX10_greater) := goodIn_app (goodIn_of _ (by decide +kernel)) ggX10_mostAlike_X10_greater
theorem da9_dX10_mostAlike_0 : (decode cX10_mostAlike 0 = .ok (.iconst 0, 1)) ∧ (decode cX10_mostAlike 1 = .ok (.istore_n 3, 1)) ∧ (decode cX10_mostAlike 2 = .ok (.iload_n 3, 1)) ∧ (decode cX10_mostAlike 3 = .ok (.bipush 6, 2)) ∧ (decode cX10_mostAlike 5 = .ok (.if_icmp .ge 16, 3)) ∧ (decode cX10_mostAlike 8 = .ok (.aload_n 0, 1)) ∧ (decode cX10_mostAlike 9 = .ok (.getfield 103, 3)) ∧ (decode cX10_mostAlike 12 = .ok (.iload_n 3, 1)) ∧ (decode cX10_mostAlike 13 = .ok (.iconst 0, 1)) ∧ (decode cX10_mostAlike 14 = .ok (.iastore, 1)) ∧ (decode cX10_mostAlike 15 = .ok (.iinc 3 1, 3)) ∧ (decode cX10_mostAlike 18 = .ok (.goto (-16), 3)) ∧ (decode cX10_mostAlike 21 = .ok (.iconst 0, 1)) ∧ (decode cX10_mostAlike 22 = .ok (.istore_n 3, 1)) ∧ (decode cX10_mostAlike 23 = .ok (.iconst 1, 1)) ∧ (decode cX10_mostAlike 24 = .ok (.istore 4, 2)) := by decide +kernel
theorem dX10_mostAlike_0 : decode cX10_mostAlike 0 = .ok (.iconst 0, 1) := da9_dX10_mostAlike_0.1
theorem dX10_mostAlike_1 : decode cX10_mostAlike 1 = .ok (.istore_n 3, 1) := da9_dX10_mostAlike_0.2.1
theorem dX10_mostAlike_2 : decode cX10_mostAlike 2 = .ok (.iload_n 3, 1) := da9_dX10_mostAlike_0.2.2.1
theorem dX10_mostAlike_3 : decode cX10_mostAlike 3 = .ok (.bipush 6, 2) := da9_dX10_mostAlike_0.2.2.2.1
theorem dX10_mostAlike_5 : decode cX10_mostAlike 5 = .ok (.if_icmp .ge 16, 3) := da9_dX10_mostAlike_0.2.2.2.2.1
theorem dX10_mostAlike_8 : decode cX10_mostAlike 8 = .ok (.aload_n 0, 1) := da9_dX10_mostAlike_0.2.2.2.2.2.1
theorem dX10_mostAlike_9 : decode cX10_mostAlike 9 = .ok (.getfield 103, 3) := da9_dX10_mostAlike_0.2.2.2.2.2.2.1
theorem dX10_mostAlike_12 : decode cX10_mostAlike 12 = .ok (.iload_n 3, 1) := da9_dX10_mostAlike_0.2.2.2.2.2.2.2.1
theorem dX10_mostAlike_13 : decode cX10_mostAlike 13 = .ok (.iconst 0, 1) := da9_dX10_mostAlike_0.2.2.2.2.2.2.2.2.1
theorem dX10_mostAlike_14 : decode cX10_mostAlike 14 = .ok (.iastore, 1) := da9_dX10_mostAlike_0.2.2.2.2.2.2.2.2.2.1
theorem dX10_mostAlike_15 : decode cX10_mostAlike 15 = .ok (.iinc 3 1, 3) := da9_dX10_mostAlike_0.2.2.2.2.2.2.2.2.2.2.1
theorem dX10_mostAlike_18 : decode cX10_mostAlike 18 = .ok (.goto (-16), 3) := da9_dX10_mostAlike_0.2.2.2.2.2.2.2.2.2.2.2.1
theorem dX10_mostAlike_21 : decode cX10_mostAlike 21 = .ok (.iconst 0, 1) := da9_dX10_mostAlike_0.2.2.2.2.2.2.2.2.2.2.2.2.1
theorem dX10_mostAlike_22 : decode cX10_mostAlike 22 = .ok (.istore_n 3, 1) := da9_dX10_mostAlike_0.2.2.2.2.2.2.2.2.2.2.2.2.2.1
theorem dX10_mostAlike_23 : decode cX10_mostAlike 23 = .ok (.iconst 1, 1) := da9_dX10_mostAlike_0.2.2.2.2.2.2.2.2.2.2.2.2.2.2.1
theorem dX10_mostAlike_24 : decode cX10_mostAlike 24 = .ok (.istore 4, 2) := da9_dX10_mostAlike_0.2.2.2.2.2.2.2.2.2.2.2.2.2.2.2
theorem da9_dX10_mostAlike_26 : (decode cX10_mostAlike 26 = .ok (.iload 4, 2)) ∧ (decode cX10_mostAlike 28 = .ok (.aload_n 0, 1)) ∧ (decode cX10_mostAlike 29 = .ok (.invokevirtual 125, 3)) ∧ (decode cX10_mostAlike 32 = .ok (.if_icmp .gt 53, 3)) ∧ (decode cX10_mostAlike 35 = .ok (.iload_n 1, 1)) ∧ (decode cX10_mostAlike 36 = .ok (.iload 4, 2)) ∧ (decode cX10_mostAlike 38 = .ok (.invokestatic 383, 3)) ∧ (decode cX10_mostAlike 41 = .ok (.ifCond .ne 6, 3)) ∧ (decode cX10_mostAlike 44 = .ok (.goto 35, 3)) ∧ (decode cX10_mostAlike 47 = .ok (.aload_n 0, 1)) ∧ (decode cX10_mostAlike 48 = .ok (.iload 4, 2)) ∧ (decode cX10_mostAlike 50 = .ok (.iload_n 2, 1)) ∧ (decode cX10_mostAlike 51 = .ok (.invokevirtual 454, 3)) ∧ (decode cX10_mostAlike 54 = .ok (.istore 5, 2)) ∧ (decode cX10_mostAlike 56 = .ok (.aload_n 0, 1)) ∧ (decode cX10_mostAlike 57 = .ok (.getfield 103, 3)) := by decide +kernel
theorem dX10_mostAlike_26 : decode cX10_mostAlike 26 = .ok (.iload 4, 2) := da9_dX10_mostAlike_26.1
theorem dX10_mostAlike_28 : decode cX10_mostAlike 28 = .ok (.aload_n 0, 1) := da9_dX10_mostAlike_26.2.1
theorem dX10_mostAlike_29 : decode cX10_mostAlike 29 = .ok (.invokevirtual 125, 3) := da9_dX10_mostAlike_26.2.2.1
theorem dX10_mostAlike_32 : decode cX10_mostAlike 32 = .ok (.if_icmp .gt 53, 3) := da9_dX10_mostAlike_26.2.2.2.1
theorem dX10_mostAlike_35 : decode cX10_mostAlike 35 = .ok (.iload_n 1, 1) := da9_dX10_mostAlike_26.2.2.2.2.1
theorem dX10_mostAlike_36 : decode cX10_mostAlike 36 = .ok (.iload 4, 2) := da9_dX10_mostAlike_26.2.2.2.2.2.1
theorem dX10_mostAlike_38 : decode cX10_mostAlike 38 = .ok (.invokestatic 383, 3) := da9_dX10_mostAlike_26.2.2.2.2.2.2.1
theorem dX10_mostAlike_41 : decode cX10_mostAlike 41 = .ok (.ifCond .ne 6, 3) := da9_dX10_mostAlike_26.2.2.2.2.2.2.2.1
theorem dX10_mostAlike_44 : decode cX10_mostAlike 44 = .ok (.goto 35, 3) := da9_dX10_mostAlike_26.2.2.2.2.2.2.2.2.1
theorem dX10_mostAlike_47 : decode cX10_mostAlike 47 = .ok (.aload_n 0, 1) := da9_dX10_mostAlike_26.2.2.2.2.2.2.2.2.2.1
theorem dX10_mostAlike_48 : decode cX10_mostAlike 48 = .ok (.iload 4, 2) := da9_dX10_mostAlike_26.2.2.2.2.2.2.2.2.2.2.1
theorem dX10_mostAlike_50 : decode cX10_mostAlike 50 = .ok (.iload_n 2, 1) := da9_dX10_mostAlike_26.2.2.2.2.2.2.2.2.2.2.2.1
theorem dX10_mostAlike_51 : decode cX10_mostAlike 51 = .ok (.invokevirtual 454, 3) := da9_dX10_mostAlike_26.2.2.2.2.2.2.2.2.2.2.2.2.1
theorem dX10_mostAlike_54 : decode cX10_mostAlike 54 = .ok (.istore 5, 2) := da9_dX10_mostAlike_26.2.2.2.2.2.2.2.2.2.2.2.2.2.1
theorem dX10_mostAlike_56 : decode cX10_mostAlike 56 = .ok (.aload_n 0, 1) := da9_dX10_mostAlike_26.2.2.2.2.2.2.2.2.2.2.2.2.2.2.1
theorem dX10_mostAlike_57 : decode cX10_mostAlike 57 = .ok (.getfield 103, 3) := da9_dX10_mostAlike_26.2.2.2.2.2.2.2.2.2.2.2.2.2.2.2
theorem da9_dX10_mostAlike_60 : (decode cX10_mostAlike 60 = .ok (.iload 5, 2)) ∧ (decode cX10_mostAlike 62 = .ok (.dup2, 1)) ∧ (decode cX10_mostAlike 63 = .ok (.iaload, 1)) ∧ (decode cX10_mostAlike 64 = .ok (.iconst 1, 1)) ∧ (decode cX10_mostAlike 65 = .ok (.iadd, 1)) ∧ (decode cX10_mostAlike 66 = .ok (.iastore, 1)) ∧ (decode cX10_mostAlike 67 = .ok (.iload_n 3, 1)) ∧ (decode cX10_mostAlike 68 = .ok (.aload_n 0, 1)) ∧ (decode cX10_mostAlike 69 = .ok (.getfield 103, 3)) ∧ (decode cX10_mostAlike 72 = .ok (.iload 5, 2)) ∧ (decode cX10_mostAlike 74 = .ok (.iaload, 1)) ∧ (decode cX10_mostAlike 75 = .ok (.invokestatic 439, 3)) ∧ (decode cX10_mostAlike 78 = .ok (.istore_n 3, 1)) ∧ (decode cX10_mostAlike 79 = .ok (.iinc 4 1, 3)) ∧ (decode cX10_mostAlike 82 = .ok (.goto (-56), 3)) ∧ (decode cX10_mostAlike 85 = .ok (.iload_n 3, 1)) := by decide +kernel
theorem dX10_mostAlike_60 : decode cX10_mostAlike 60 = .ok (.iload 5, 2) := da9_dX10_mostAlike_60.1
theorem dX10_mostAlike_62 : decode cX10_mostAlike 62 = .ok (.dup2, 1) := da9_dX10_mostAlike_60.2.1
theorem dX10_mostAlike_63 : decode cX10_mostAlike 63 = .ok (.iaload, 1) := da9_dX10_mostAlike_60.2.2.1
theorem dX10_mostAlike_64 : decode cX10_mostAlike 64 = .ok (.iconst 1, 1) := da9_dX10_mostAlike_60.2.2.2.1
theorem dX10_mostAlike_65 : decode cX10_mostAlike 65 = .ok (.iadd, 1) := da9_dX10_mostAlike_60.2.2.2.2.1
theorem dX10_mostAlike_66 : decode cX10_mostAlike 66 = .ok (.iastore, 1) := da9_dX10_mostAlike_60.2.2.2.2.2.1
theorem dX10_mostAlike_67 : decode cX10_mostAlike 67 = .ok (.iload_n 3, 1) := da9_dX10_mostAlike_60.2.2.2.2.2.2.1
theorem dX10_mostAlike_68 : decode cX10_mostAlike 68 = .ok (.aload_n 0, 1) := da9_dX10_mostAlike_60.2.2.2.2.2.2.2.1
theorem dX10_mostAlike_69 : decode cX10_mostAlike 69 = .ok (.getfield 103, 3) := da9_dX10_mostAlike_60.2.2.2.2.2.2.2.2.1
theorem dX10_mostAlike_72 : decode cX10_mostAlike 72 = .ok (.iload 5, 2) := da9_dX10_mostAlike_60.2.2.2.2.2.2.2.2.2.1
theorem dX10_mostAlike_74 : decode cX10_mostAlike 74 = .ok (.iaload, 1) := da9_dX10_mostAlike_60.2.2.2.2.2.2.2.2.2.2.1
theorem dX10_mostAlike_75 : decode cX10_mostAlike 75 = .ok (.invokestatic 439, 3) := da9_dX10_mostAlike_60.2.2.2.2.2.2.2.2.2.2.2.1
theorem dX10_mostAlike_78 : decode cX10_mostAlike 78 = .ok (.istore_n 3, 1) := da9_dX10_mostAlike_60.2.2.2.2.2.2.2.2.2.2.2.2.1
theorem dX10_mostAlike_79 : decode cX10_mostAlike 79 = .ok (.iinc 4 1, 3) := da9_dX10_mostAlike_60.2.2.2.2.2.2.2.2.2.2.2.2.2.1
theorem dX10_mostAlike_82 : decode cX10_mostAlike 82 = .ok (.goto (-56), 3) := da9_dX10_mostAlike_60.2.2.2.2.2.2.2.2.2.2.2.2.2.2.1
theorem dX10_mostAlike_85 : decode cX10_mostAlike 85 = .ok (.iload_n 3, 1) := da9_dX10_mostAlike_60.2.2.2.2.2.2.2.2.2.2.2.2.2.2.2
theorem dX10_mostAlike_86 : decode cX10_mostAlike 86 = .ok (.ireturn, 1) := by decide +kernel
