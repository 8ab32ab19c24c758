set_option maxRecDepth 20000 in
theorem ggX10_asks_X10_size : GoodIn wsX10_asks wsX10_size := goodIn_r _ [6, 1, 103, 104, 105, 106, 107, 108, 109, 110, 111, 112, 113, 114, 115, 116, 117, 118, 119, 120, 121, 122, 123, 124, 125, 126, 127, 128, 129, 130, 131, 132, 133, 134, 135, 136, 137, 138, 139, 140, 141, 142, 143, 144, 145, 146, 147, 148, 149, 150, 151, 152, 153, 154, 155, 156, 157, 158] rfl (by decide +kernel)
set_option maxRecDepth 20000 in
theorem gX10_asks_X10_size : GoodIn wsX10_asks (wsV RX10 125 RX10 yX10_size wsX10_size) := goodIn_app (goodIn_of _ (by decide +kernel)) ggX10_asks_X10_size
set_option maxRecDepth 20000 in
theorem ggX10_asks_X10_lies : GoodIn wsX10_asks wsX10_lies := goodIn_r _ [9] rfl (by decide +kernel)
set_option maxRecDepth 20000 in
theorem gX10_asks_X10_lies : GoodIn wsX10_asks (va_wsS RX10 18 yX10_lies wsX10_lies) := goodIn_app (goodIn_of _ (by decide +kernel)) ggX10_asks_X10_lies
set_option maxRecDepth 20000 in
theorem ggX10_asks_X10_rankBelow : GoodIn wsX10_asks wsX10_rankBelow := goodIn_r _ [13, 1, 2, 3, 4, 5, 6, 103, 104, 105, 106, 107, 108, 109, 110, 111, 112, 113, 114, 115, 116, 117, 118, 119, 120, 121, 122, 123, 124, 125, 126, 127, 128, 129, 130, 131, 132, 133, 134, 135, 136, 137, 138, 139, 140, 141, 142, 143, 144, 145, 146, 147, 148, 149, 150, 151, 152, 153, 154, 155, 156, 157, 158] rfl (by decide +kernel)
set_option maxRecDepth 20000 in
theorem gX10_asks_X10_rankBelow : GoodIn wsX10_asks (wsV RX10 149 RX10 yX10_rankBelow wsX10_rankBelow) := goodIn_app (goodIn_of _ (by decide +kernel)) ggX10_asks_X10_rankBelow
set_option maxRecDepth 20000 in
theorem ggX10_asks_X10_setsTurn : GoodIn wsX10_asks wsX10_setsTurn := goodIn_r _ [17, 18, 19, 20, 21, 5, 22, 1, 2, 3, 4, 6, 103, 104, 105, 106, 107, 108, 109, 110, 111, 112, 113, 114, 115, 116, 117, 118, 119, 120, 121, 122, 123, 124, 125, 126, 127, 128, 129, 130, 131, 132, 133, 134, 135, 136, 137, 138, 139, 140, 141, 142, 143, 144, 145, 146, 147, 148, 149, 150, 151, 152, 153, 154, 155, 156, 157, 158] rfl (by decide +kernel)
set_option maxRecDepth 20000 in
theorem gX10_asks_X10_setsTurn : GoodIn wsX10_asks (wsV RX10 152 RX10 yX10_setsTurn wsX10_setsTurn) := goodIn_app (goodIn_of _ (by decide +kernel)) ggX10_asks_X10_setsTurn
set_option maxRecDepth 20000 in
theorem ggX10_asks_X10_paysNow : GoodIn wsX10_asks wsX10_paysNow := goodIn_r _ [26, 18, 27, 28, 29, 5, 30, 1, 31, 32, 33, 34, 35, 36, 37, 38, 39, 40, 41, 42, 43, 44, 45, 46, 47, 48, 49, 50, 51, 52, 53, 54, 55, 56, 57, 58, 59, 60, 61, 62, 63, 64, 65, 66, 67, 68, 69, 70, 2, 3, 4, 6, 7, 8, 9, 71, 72, 73, 74, 75, 76, 77, 78, 79, 80, 81, 82, 83, 84, 85, 86, 87, 88, 89, 90, 91, 92, 93, 94, 95, 96, 97, 98, 103, 104, 105, 106, 107, 108, 109, 110, 111, 112, 113, 114, 115, 116, 117, 118, 119, 120, 121, 122, 123, 124, 125, 126, 127, 128, 129, 130, 131, 132, 133, 134, 135, 136, 137, 138, 139, 140, 141, 142, 143, 144, 145, 146, 147, 148, 149, 150, 151, 152, 153, 154, 155, 156, 157, 158] rfl (by decide +kernel)
set_option maxRecDepth 20000 in
theorem gX10_asks_X10_paysNow : GoodIn wsX10_asks (wsV RX10 156 RX10 yX10_paysNow wsX10_paysNow) := goodIn_app (goodIn_of _ (by decide +kernel)) ggX10_asks_X10_paysNow
set_option maxRecDepth 20000 in
theorem ggX10_asks_X10_isNow : GoodIn wsX10_asks wsX10_isNow := goodIn_r _ [102, 27, 28, 29, 5, 30, 1, 31, 32, 33, 34, 35, 36, 37, 38, 39, 40, 41, 42, 43, 44, 45, 46, 47, 48, 49, 50, 51, 52, 53, 54, 55, 56, 18, 57, 58, 59, 60, 61, 62, 63, 64, 65, 66, 67, 68, 69, 70, 2, 3, 4, 6, 7, 8, 9, 71, 72, 73, 74, 75, 76, 77, 78, 79, 80, 81, 82, 83, 84, 85, 86, 87, 88, 89, 90, 91, 92, 93, 94, 95, 96, 97, 98, 103, 104, 105, 106, 107, 108, 109, 110, 111, 112, 113, 114, 115, 116, 117, 118, 119, 120, 121, 122, 123, 124, 125, 126, 127, 128, 129, 130, 131, 132, 133, 134, 135, 136, 137, 138, 139, 140, 141, 142, 143, 144, 145, 146, 147, 148, 149, 150, 151, 152, 153, 154, 155, 156, 157, 158] rfl (by decide +kernel)
set_option maxRecDepth 20000 in
theorem gX10_asks_X10_isNow : GoodIn wsX10_asks (wsV RX10 159 RX10 yX10_isNow wsX10_isNow) := goodIn_app (goodIn_of _ (by decide +kernel)) ggX10_asks_X10_isNow
theorem dX10_asks_0 : decode cX10_asks 0 = .ok (.iload_n 1, 1) := by decide +kernel
theorem dX10_asks_1 : decode cX10_asks 1 = .ok (.iconst 1, 1) := by decide +kernel
theorem dX10_asks_2 : decode cX10_asks 2 = .ok (.aload_n 0, 1) := by decide +kernel
theorem dX10_asks_3 : decode cX10_asks 3 = .ok (.invokevirtual 125, 3) := by decide +kernel
theorem dX10_asks_6 : decode cX10_asks 6 = .ok (.invokestatic 18, 3) := by decide +kernel
theorem dX10_asks_9 : decode cX10_asks 9 = .ok (.ifCond .ne 5, 3) := by decide +kernel
theorem dX10_asks_12 : decode cX10_asks 12 = .ok (.iconst (-1), 1) := by decide +kernel
theorem dX10_asks_13 : decode cX10_asks 13 = .ok (.ireturn, 1) := by decide +kernel
theorem dX10_asks_14 : decode cX10_asks 14 = .ok (.aload_n 0, 1) := by decide +kernel
theorem dX10_asks_15 : decode cX10_asks 15 = .ok (.iload_n 1, 1) := by decide +kernel
theorem dX10_asks_16 : decode cX10_asks 16 = .ok (.aload_n 0, 1) := by decide +kernel
theorem dX10_asks_17 : decode cX10_asks 17 = .ok (.getfield 28, 3) := by decide +kernel
theorem dX10_asks_20 : decode cX10_asks 20 = .ok (.iconst 0, 1) := by decide +kernel
theorem dX10_asks_21 : decode cX10_asks 21 = .ok (.iaload, 1) := by decide +kernel
theorem dX10_asks_22 : decode cX10_asks 22 = .ok (.aload_n 0, 1) := by decide +kernel
theorem dX10_asks_23 : decode cX10_asks 23 = .ok (.iload_n 1, 1) := by decide +kernel
theorem dX10_asks_24 : decode cX10_asks 24 = .ok (.invokevirtual 149, 3) := by decide +kernel
theorem dX10_asks_27 : decode cX10_asks 27 = .ok (.aload_n 0, 1) := by decide +kernel
theorem dX10_asks_28 : decode cX10_asks 28 = .ok (.getfield 28, 3) := by decide +kernel
theorem dX10_asks_31 : decode cX10_asks 31 = .ok (.bipush 6, 2) := by decide +kernel
theorem dX10_asks_33 : decode cX10_asks 33 = .ok (.iaload, 1) := by decide +kernel
theorem dX10_asks_34 : decode cX10_asks 34 = .ok (.invokevirtual 152, 3) := by decide +kernel
theorem dX10_asks_37 : decode cX10_asks 37 = .ok (.iload_n 2, 1) := by decide +kernel
theorem dX10_asks_38 : decode cX10_asks 38 = .ok (.lookupswitch 45 #[(0, 26), (1, 31)], 26) := by decide +kernel
theorem dX10_asks_64 : decode cX10_asks 64 = .ok (.aload_n 0, 1) := by decide +kernel
theorem dX10_asks_65 : decode cX10_asks 65 = .ok (.invokevirtual 156, 3) := by decide +kernel
theorem dX10_asks_68 : decode cX10_asks 68 = .ok (.ireturn, 1) := by decide +kernel
theorem dX10_asks_69 : decode cX10_asks 69 = .ok (.aload_n 0, 1) := by decide +kernel
theorem dX10_asks_70 : decode cX10_asks 70 = .ok (.iconst 2, 1) := by decide +kernel
theorem dX10_asks_71 : decode cX10_asks 71 = .ok (.invokevirtual 159, 3) := by decide +kernel
theorem dX10_asks_74 : decode cX10_asks 74 = .ok (.ifCond .eq 7, 3) := by decide +kernel
theorem dX10_asks_77 : decode cX10_asks 77 = .ok (.iconst 1, 1) := by decide +kernel
theorem dX10_asks_78 : decode cX10_asks 78 = .ok (.goto 4, 3) := by decide +kernel
theorem dX10_asks_81 : decode cX10_asks 81 = .ok (.iconst 0, 1) := by decide +kernel
theorem dX10_asks_82 : decode cX10_asks 82 = .ok (.ireturn, 1) := by decide +kernel
theorem dX10_asks_83 : decode cX10_asks 83 = .ok (.iconst (-1), 1) := by decide +kernel
theorem dX10_asks_84 : decode cX10_asks 84 = .ok (.ireturn, 1) := by decide +kernel
set_option maxRecDepth 20000 in
theorem ggX10_isTerm_X10_lies : GoodIn wsX10_isTerm wsX10_lies := goodIn_r _ [4] rfl (by decide +kernel)
set_option maxRecDepth 20000 in
theorem gX10_isTerm_X10_lies : GoodIn wsX10_isTerm (va_wsS RX10 18 yX10_lies wsX10_lies) := goodIn_app (goodIn_of _ (by decide +kernel)) ggX10_isTerm_X10_lies
set_option maxRecDepth 20000 in
theorem ggX10_isTerm_X10_isBit : GoodIn wsX10_isTerm wsX10_isBit := goodIn_r _ [7, 1, 2, 3, 4] rfl (by decide +kernel)
set_option maxRecDepth 20000 in
theorem gX10_isTerm_X10_isBit : GoodIn wsX10_isTerm (va_wsS RX10 133 yX10_isBit wsX10_isBit) := goodIn_app (goodIn_of _ (by decide +kernel)) ggX10_isTerm_X10_isBit
theorem dX10_isTerm_0 : decode cX10_isTerm 0 = .ok (.iload_n 0, 1) := by decide +kernel
theorem dX10_isTerm_1 : decode cX10_isTerm 1 = .ok (.tableswitch 61 0 3 #[31, 40, 48, 56], 31) := by decide +kernel
theorem dX10_isTerm_32 : decode cX10_isTerm 32 = .ok (.iload_n 1, 1) := by decide +kernel
theorem dX10_isTerm_33 : decode cX10_isTerm 33 = .ok (.iconst 0, 1) := by decide +kernel
theorem dX10_isTerm_34 : decode cX10_isTerm 34 = .ok (.sipush 999, 3) := by decide +kernel
theorem dX10_isTerm_37 : decode cX10_isTerm 37 = .ok (.invokestatic 18, 3) := by decide +kernel
theorem dX10_isTerm_40 : decode cX10_isTerm 40 = .ok (.ireturn, 1) := by decide +kernel
theorem dX10_isTerm_41 : decode cX10_isTerm 41 = .ok (.iload_n 1, 1) := by decide +kernel
theorem dX10_isTerm_42 : decode cX10_isTerm 42 = .ok (.iconst 0, 1) := by decide +kernel
theorem dX10_isTerm_43 : decode cX10_isTerm 43 = .ok (.bipush 10, 2) := by decide +kernel
theorem dX10_isTerm_45 : decode cX10_isTerm 45 = .ok (.invokestatic 18, 3) := by decide +kernel
theorem dX10_isTerm_48 : decode cX10_isTerm 48 = .ok (.ireturn, 1) := by decide +kernel
theorem dX10_isTerm_49 : decode cX10_isTerm 49 = .ok (.iload_n 1, 1) := by decide +kernel
theorem dX10_isTerm_50 : decode cX10_isTerm 50 = .ok (.iconst 0, 1) := by decide +kernel
theorem dX10_isTerm_51 : decode cX10_isTerm 51 = .ok (.bipush 9, 2) := by decide +kernel
theorem dX10_isTerm_53 : decode cX10_isTerm 53 = .ok (.invokestatic 18, 3) := by decide +kernel
theorem dX10_isTerm_56 : decode cX10_isTerm 56 = .ok (.ireturn, 1) := by decide +kernel
theorem dX10_isTerm_57 : decode cX10_isTerm 57 = .ok (.iload_n 1, 1) := by decide +kernel
theorem dX10_isTerm_58 : decode cX10_isTerm 58 = .ok (.invokestatic 133, 3) := by decide +kernel
theorem dX10_isTerm_61 : decode cX10_isTerm 61 = .ok (.ireturn, 1) := by decide +kernel
theorem dX10_isTerm_62 : decode cX10_isTerm 62 = .ok (.iconst 0, 1) := by decide +kernel
theorem dX10_isTerm_63 : decode cX10_isTerm 63 = .ok (.ireturn, 1) := by decide +kernel
theorem dX10_termAt_0 : decode cX10_termAt 0 = .ok (.iload_n 0, 1) := by decide +kernel
theorem dX10_termAt_1 : decode cX10_termAt 1 = .ok (.ifCond .ne 8, 3) := by decide +kernel
theorem dX10_termAt_4 : decode cX10_termAt 4 = .ok (.bipush 13, 2) := by decide +kernel
theorem dX10_termAt_6 : decode cX10_termAt 6 = .ok (.goto 25, 3) := by decide +kernel
theorem dX10_termAt_9 : decode cX10_termAt 9 = .ok (.iload_n 0, 1) := by decide +kernel
theorem dX10_termAt_10 : decode cX10_termAt 10 = .ok (.iconst 1, 1) := by decide +kernel
theorem dX10_termAt_11 : decode cX10_termAt 11 = .ok (.if_icmp .ne 8, 3) := by decide +kernel
theorem dX10_termAt_14 : decode cX10_termAt 14 = .ok (.bipush 26, 2) := by decide +kernel
theorem dX10_termAt_16 : decode cX10_termAt 16 = .ok (.goto 15, 3) := by decide +kernel
theorem dX10_termAt_19 : decode cX10_termAt 19 = .ok (.iload_n 0, 1) := by decide +kernel
theorem dX10_termAt_20 : decode cX10_termAt 20 = .ok (.iconst 2, 1) := by decide +kernel
theorem dX10_termAt_21 : decode cX10_termAt 21 = .ok (.if_icmp .ne 8, 3) := by decide +kernel
theorem dX10_termAt_24 : decode cX10_termAt 24 = .ok (.bipush 27, 2) := by decide +kernel
theorem dX10_termAt_26 : decode cX10_termAt 26 = .ok (.goto 5, 3) := by decide +kernel
theorem dX10_termAt_29 : decode cX10_termAt 29 = .ok (.bipush 28, 2) := by decide +kernel
theorem dX10_termAt_31 : decode cX10_termAt 31 = .ok (.ireturn, 1) := by decide +kernel
set_option maxRecDepth 20000 in
theorem ggX10_terms_X10_isTerm : GoodIn wsX10_terms wsX10_isTerm := goodIn_r _ [5, 6, 7, 4, 8, 9, 10, 11] rfl (by decide +kernel)
set_option maxRecDepth 20000 in
theorem gX10_terms_X10_isTerm : GoodIn wsX10_terms (va_wsS RX10 162 yX10_isTerm wsX10_isTerm) := goodIn_app (goodIn_of _ (by decide +kernel)) ggX10_terms_X10_isTerm
set_option maxRecDepth 20000 in
theorem ggX10_terms_X10_refuses : GoodIn wsX10_terms wsX10_refuses := goodIn_r _ [15, 16, 17, 30, 31, 32, 33, 34, 35, 36, 37, 38, 39, 40, 41, 42, 43, 44, 45, 46, 47, 48, 49, 50, 51, 52, 53, 54, 55, 56, 57, 58, 59, 60, 61, 62, 63, 64, 65, 66, 67, 68, 69, 70, 71, 72, 73, 74, 75, 76, 77, 78, 79, 80, 81, 82, 83, 84, 85] rfl (by decide +kernel)
set_option maxRecDepth 20000 in
theorem gX10_terms_X10_refuses : GoodIn wsX10_terms (wsV RX10 119 RX10 yX10_refuses wsX10_refuses) := goodIn_app (goodIn_of _ (by decide +kernel)) ggX10_terms_X10_refuses
set_option maxRecDepth 20000 in
theorem ggX10_terms_X10_termAt : GoodIn wsX10_terms wsX10_termAt := goodIn_r _ [20] rfl (by decide +kernel)
set_option maxRecDepth 20000 in
theorem gX10_terms_X10_termAt : GoodIn wsX10_terms (va_wsS RX10 166 yX10_termAt wsX10_termAt) := goodIn_app (goodIn_of _ (by decide +kernel)) ggX10_terms_X10_termAt
set_option maxRecDepth 20000 in
theorem ggX10_terms_X10_settled : GoodIn wsX10_terms wsX10_settled := goodIn_r _ [24, 25, 26, 27, 28, 4, 29, 16, 30, 31, 32, 33, 34, 35, 36, 37, 38, 39, 40, 41, 42, 43, 44, 45, 46, 47, 48, 49, 50, 51, 52, 53, 54, 55, 56, 57, 58, 59, 60, 61, 62, 63, 64, 65, 66, 67, 68, 69, 70, 71, 72, 73, 74, 75, 76, 77, 78, 79, 80, 81, 82, 83, 84, 85] rfl (by decide +kernel)
set_option maxRecDepth 20000 in
theorem gX10_terms_X10_settled : GoodIn wsX10_terms (wsV RX10 122 RX10 yX10_settled wsX10_settled) := goodIn_app (goodIn_of _ (by decide +kernel)) ggX10_terms_X10_settled
theorem dX10_terms_0 : decode cX10_terms 0 = .ok (.iload_n 1, 1) := by decide +kernel
theorem dX10_terms_1 : decode cX10_terms 1 = .ok (.iload_n 2, 1) := by decide +kernel
theorem dX10_terms_2 : decode cX10_terms 2 = .ok (.invokestatic 162, 3) := by decide +kernel
theorem dX10_terms_5 : decode cX10_terms 5 = .ok (.ifCond .ne 9, 3) := by decide +kernel
theorem dX10_terms_8 : decode cX10_terms 8 = .ok (.aload_n 0, 1) := by decide +kernel
theorem dX10_terms_9 : decode cX10_terms 9 = .ok (.iconst (-1), 1) := by decide +kernel
theorem dX10_terms_10 : decode cX10_terms 10 = .ok (.invokevirtual 119, 3) := by decide +kernel
theorem dX10_terms_13 : decode cX10_terms 13 = .ok (.ireturn, 1) := by decide +kernel
theorem dX10_terms_14 : decode cX10_terms 14 = .ok (.aload_n 0, 1) := by decide +kernel
theorem dX10_terms_15 : decode cX10_terms 15 = .ok (.getfield 28, 3) := by decide +kernel
theorem dX10_terms_18 : decode cX10_terms 18 = .ok (.iload_n 1, 1) := by decide +kernel
theorem dX10_terms_19 : decode cX10_terms 19 = .ok (.invokestatic 166, 3) := by decide +kernel
theorem dX10_terms_22 : decode cX10_terms 22 = .ok (.iaload, 1) := by decide +kernel
theorem dX10_terms_23 : decode cX10_terms 23 = .ok (.istore_n 3, 1) := by decide +kernel
theorem dX10_terms_24 : decode cX10_terms 24 = .ok (.aload_n 0, 1) := by decide +kernel
theorem dX10_terms_25 : decode cX10_terms 25 = .ok (.getfield 28, 3) := by decide +kernel
theorem dX10_terms_28 : decode cX10_terms 28 = .ok (.iload_n 1, 1) := by decide +kernel
theorem dX10_terms_29 : decode cX10_terms 29 = .ok (.invokestatic 166, 3) := by decide +kernel
theorem dX10_terms_32 : decode cX10_terms 32 = .ok (.iload_n 2, 1) := by decide +kernel
theorem dX10_terms_33 : decode cX10_terms 33 = .ok (.iastore, 1) := by decide +kernel
theorem dX10_terms_34 : decode cX10_terms 34 = .ok (.aload_n 0, 1) := by decide +kernel
theorem dX10_terms_35 : decode cX10_terms 35 = .ok (.iload_n 3, 1) := by decide +kernel
theorem dX10_terms_36 : decode cX10_terms 36 = .ok (.invokevirtual 122, 3) := by decide +kernel
theorem dX10_terms_39 : decode cX10_terms 39 = .ok (.ireturn, 1) := by decide +kernel
set_option maxRecDepth 20000 in
theorem ggX10_row_X10_refuses : GoodIn wsX10_row wsX10_refuses := goodIn_r _ [8, 9, 10, 42, 43, 44, 45, 46, 47, 48, 49, 50, 51, 52, 53, 54, 55, 56, 57, 58, 59, 60, 61, 62, 63, 64, 65, 66, 67, 68, 69, 70, 71, 72, 73, 74, 75, 76, 77, 78, 79, 80, 81, 82, 83, 84, 85, 86, 87, 88, 89, 90, 91, 92, 93, 94, 95, 96, 97] rfl (by decide +kernel)
set_option maxRecDepth 20000 in
theorem gX10_row_X10_refuses : GoodIn wsX10_row (wsV RX10 119 RX10 yX10_refuses wsX10_refuses) := goodIn_app (goodIn_of _ (by decide +kernel)) ggX10_row_X10_refuses
set_option maxRecDepth 20000 in
theorem ggX10_row_X10_size : GoodIn wsX10_row wsX10_size := goodIn_r _ [14, 15, 42, 43, 44, 45, 46, 47, 48, 49, 50, 51, 52, 53, 54, 55, 56, 57, 58, 59, 60, 61, 62, 63, 64, 65, 66, 67, 68, 69, 70, 71, 72, 73, 74, 75, 76, 77, 78, 79, 80, 81, 82, 83, 84, 85, 86, 87, 88, 89, 90, 91, 92, 93, 94, 95, 96, 97] rfl (by decide +kernel)
set_option maxRecDepth 20000 in
theorem gX10_row_X10_size : GoodIn wsX10_row (wsV RX10 125 RX10 yX10_size wsX10_size) := goodIn_app (goodIn_of _ (by decide +kernel)) ggX10_row_X10_size
set_option maxRecDepth 20000 in
theorem ggX10_row_X10_isRank : GoodIn wsX10_row wsX10_isRank := goodIn_r _ [18, 19, 20, 7, 21] rfl (by decide +kernel)
set_option maxRecDepth 20000 in
theorem gX10_row_X10_isRank : GoodIn wsX10_row (va_wsS RX10 129 yX10_isRank wsX10_isRank) := goodIn_app (goodIn_of _ (by decide +kernel)) ggX10_row_X10_isRank
set_option maxRecDepth 20000 in
theorem ggX10_row_X10_isBit : GoodIn wsX10_row wsX10_isBit := goodIn_r _ [24, 19, 20, 7, 21] rfl (by decide +kernel)
set_option maxRecDepth 20000 in
theorem gX10_row_X10_isBit : GoodIn wsX10_row (va_wsS RX10 133 yX10_isBit wsX10_isBit) := goodIn_app (goodIn_of _ (by decide +kernel)) ggX10_row_X10_isBit
set_option maxRecDepth 20000 in
theorem ggX10_row_X10_placeOf : GoodIn wsX10_row wsX10_placeOf := goodIn_r _ [28, 15, 11, 12, 13, 7, 14, 42, 43, 44, 45, 46, 47, 48, 49, 50, 51, 52, 53, 54, 55, 56, 57, 58, 59, 60, 61, 62, 63, 64, 65, 66, 67, 68, 69, 70, 71, 72, 73, 74, 75, 76, 77, 78, 79, 80, 81, 82, 83, 84, 85, 86, 87, 88, 89, 90, 91, 92, 93, 94, 95, 96, 97] rfl (by decide +kernel)
set_option maxRecDepth 20000 in
theorem gX10_row_X10_placeOf : GoodIn wsX10_row (wsV RX10 136 RX10 yX10_placeOf wsX10_placeOf) := goodIn_app (goodIn_of _ (by decide +kernel)) ggX10_row_X10_placeOf
set_option maxRecDepth 20000 in
theorem ggX10_row_X10_adds : GoodIn wsX10_row wsX10_adds := goodIn_r _ [32, 15, 11, 12, 13, 7, 14, 42, 43, 44, 45, 46, 47, 48, 49, 50, 51, 52, 53, 54, 55, 56, 57, 58, 59, 60, 61, 62, 63, 64, 65, 66, 67, 68, 69, 70, 71, 72, 73, 74, 75, 76, 77, 78, 79, 80, 81, 82, 83, 84, 85, 86, 87, 88, 89, 90, 91, 92, 93, 94, 95, 96, 97] rfl (by decide +kernel)
set_option maxRecDepth 20000 in
theorem gX10_row_X10_adds : GoodIn wsX10_row (wsV RX10 139 RX10 yX10_adds wsX10_adds) := goodIn_app (goodIn_of _ (by decide +kernel)) ggX10_row_X10_adds
set_option maxRecDepth 20000 in
theorem ggX10_row_X10_settled : GoodIn wsX10_row wsX10_settled := goodIn_r _ [36, 37, 38, 39, 40, 7, 41, 9, 42, 43, 44, 45, 46, 47, 48, 49, 50, 51, 52, 53, 54, 55, 56, 57, 58, 59, 60, 61, 62, 63, 64, 65, 66, 67, 68, 69, 70, 71, 72, 73, 74, 75, 76, 77, 78, 79, 80, 81, 82, 83, 84, 85, 86, 87, 88, 89, 90, 91, 92, 93, 94, 95, 96, 97] rfl (by decide +kernel)
set_option maxRecDepth 20000 in
theorem gX10_row_X10_settled : GoodIn wsX10_row (wsV RX10 122 RX10 yX10_settled wsX10_settled) := goodIn_app (goodIn_of _ (by decide +kernel)) ggX10_row_X10_settled
theorem dX10_row_0 : decode cX10_row 0 = .ok (.aload_n 0, 1) := by decide +kernel
theorem dX10_row_1 : decode cX10_row 1 = .ok (.getfield 169, 3) := by decide +kernel
theorem dX10_row_4 : decode cX10_row 4 = .ok (.istore_n 1, 1) := by decide +kernel
theorem dX10_row_5 : decode cX10_row 5 = .ok (.aload_n 0, 1) := by decide +kernel
theorem dX10_row_6 : decode cX10_row 6 = .ok (.iconst 0, 1) := by decide +kernel
theorem dX10_row_7 : decode cX10_row 7 = .ok (.putfield 169, 3) := by decide +kernel
theorem dX10_row_10 : decode cX10_row 10 = .ok (.iload_n 1, 1) := by decide +kernel
theorem dX10_row_11 : decode cX10_row 11 = .ok (.ifCond .ne 10, 3) := by decide +kernel
theorem dX10_row_14 : decode cX10_row 14 = .ok (.aload_n 0, 1) := by decide +kernel
theorem dX10_row_15 : decode cX10_row 15 = .ok (.bipush (-6), 2) := by decide +kernel
theorem dX10_row_17 : decode cX10_row 17 = .ok (.invokevirtual 119, 3) := by decide +kernel
theorem dX10_row_20 : decode cX10_row 20 = .ok (.ireturn, 1) := by decide +kernel
theorem dX10_row_21 : decode cX10_row 21 = .ok (.iconst 0, 1) := by decide +kernel
theorem dX10_row_22 : decode cX10_row 22 = .ok (.istore_n 2, 1) := by decide +kernel
theorem dX10_row_23 : decode cX10_row 23 = .ok (.aload_n 0, 1) := by decide +kernel
theorem dX10_row_24 : decode cX10_row 24 = .ok (.iload_n 1, 1) := by decide +kernel
theorem dX10_row_25 : decode cX10_row 25 = .ok (.iconst 2, 1) := by decide +kernel
theorem dX10_row_26 : decode cX10_row 26 = .ok (.irem, 1) := by decide +kernel
theorem dX10_row_27 : decode cX10_row 27 = .ok (.putfield 172, 3) := by decide +kernel
theorem dX10_row_30 : decode cX10_row 30 = .ok (.iconst 0, 1) := by decide +kernel
theorem dX10_row_31 : decode cX10_row 31 = .ok (.istore_n 3, 1) := by decide +kernel
theorem dX10_row_32 : decode cX10_row 32 = .ok (.iload_n 3, 1) := by decide +kernel
theorem dX10_row_33 : decode cX10_row 33 = .ok (.iconst 2, 1) := by decide +kernel
theorem dX10_row_34 : decode cX10_row 34 = .ok (.iadd, 1) := by decide +kernel
theorem dX10_row_35 : decode cX10_row 35 = .ok (.iload_n 1, 1) := by decide +kernel
theorem dX10_row_36 : decode cX10_row 36 = .ok (.if_icmp .gt 120, 3) := by decide +kernel
theorem dX10_row_39 : decode cX10_row 39 = .ok (.aload_n 0, 1) := by decide +kernel
theorem dX10_row_40 : decode cX10_row 40 = .ok (.invokevirtual 125, 3) := by decide +kernel
theorem dX10_row_43 : decode cX10_row 43 = .ok (.bipush 6, 2) := by decide +kernel
theorem dX10_row_45 : decode cX10_row 45 = .ok (.if_icmp .ge 47, 3) := by decide +kernel
theorem dX10_row_48 : decode cX10_row 48 = .ok (.aload_n 0, 1) := by decide +kernel
theorem dX10_row_49 : decode cX10_row 49 = .ok (.getfield 45, 3) := by decide +kernel
theorem dX10_row_52 : decode cX10_row 52 = .ok (.iload_n 3, 1) := by decide +kernel
theorem dX10_row_53 : decode cX10_row 53 = .ok (.baload, 1) := by decide +kernel
theorem dX10_row_54 : decode cX10_row 54 = .ok (.invokestatic 129, 3) := by decide +kernel
theorem dX10_row_57 : decode cX10_row 57 = .ok (.ifCond .eq 35, 3) := by decide +kernel
theorem dX10_row_60 : decode cX10_row 60 = .ok (.aload_n 0, 1) := by decide +kernel
theorem dX10_row_61 : decode cX10_row 61 = .ok (.getfield 45, 3) := by decide +kernel
theorem dX10_row_64 : decode cX10_row 64 = .ok (.iload_n 3, 1) := by decide +kernel
theorem dX10_row_65 : decode cX10_row 65 = .ok (.iconst 1, 1) := by decide +kernel
theorem dX10_row_66 : decode cX10_row 66 = .ok (.iadd, 1) := by decide +kernel
theorem dX10_row_67 : decode cX10_row 67 = .ok (.baload, 1) := by decide +kernel
theorem dX10_row_68 : decode cX10_row 68 = .ok (.invokestatic 133, 3) := by decide +kernel
theorem dX10_row_71 : decode cX10_row 71 = .ok (.ifCond .eq 21, 3) := by decide +kernel
theorem dX10_row_74 : decode cX10_row 74 = .ok (.aload_n 0, 1) := by decide +kernel
theorem dX10_row_75 : decode cX10_row 75 = .ok (.aload_n 0, 1) := by decide +kernel
theorem dX10_row_76 : decode cX10_row 76 = .ok (.getfield 45, 3) := by decide +kernel
theorem dX10_row_79 : decode cX10_row 79 = .ok (.iload_n 3, 1) := by decide +kernel
theorem dX10_row_80 : decode cX10_row 80 = .ok (.baload, 1) := by decide +kernel
theorem dX10_row_81 : decode cX10_row 81 = .ok (.invokevirtual 136, 3) := by decide +kernel
theorem dX10_row_84 : decode cX10_row 84 = .ok (.iconst (-1), 1) := by decide +kernel
theorem dX10_row_85 : decode cX10_row 85 = .ok (.if_icmp .ne 7, 3) := by decide +kernel
theorem dX10_row_88 : decode cX10_row 88 = .ok (.iconst 1, 1) := by decide +kernel
theorem dX10_row_89 : decode cX10_row 89 = .ok (.goto 4, 3) := by decide +kernel
theorem dX10_row_92 : decode cX10_row 92 = .ok (.iconst 0, 1) := by decide +kernel
theorem dX10_row_93 : decode cX10_row 93 = .ok (.istore 4, 2) := by decide +kernel
theorem dX10_row_95 : decode cX10_row 95 = .ok (.iload 4, 2) := by decide +kernel
theorem dX10_row_97 : decode cX10_row 97 = .ok (.ifCond .eq 21, 3) := by decide +kernel
theorem dX10_row_100 : decode cX10_row 100 = .ok (.aload_n 0, 1) := by decide +kernel
theorem dX10_row_101 : decode cX10_row 101 = .ok (.aload_n 0, 1) := by decide +kernel
theorem dX10_row_102 : decode cX10_row 102 = .ok (.getfield 45, 3) := by decide +kernel
theorem dX10_row_105 : decode cX10_row 105 = .ok (.iload_n 3, 1) := by decide +kernel
theorem dX10_row_106 : decode cX10_row 106 = .ok (.baload, 1) := by decide +kernel
theorem dX10_row_107 : decode cX10_row 107 = .ok (.aload_n 0, 1) := by decide +kernel
theorem dX10_row_108 : decode cX10_row 108 = .ok (.getfield 45, 3) := by decide +kernel
theorem dX10_row_111 : decode cX10_row 111 = .ok (.iload_n 3, 1) := by decide +kernel
theorem dX10_row_112 : decode cX10_row 112 = .ok (.iconst 1, 1) := by decide +kernel
theorem dX10_row_113 : decode cX10_row 113 = .ok (.iadd, 1) := by decide +kernel
theorem dX10_row_114 : decode cX10_row 114 = .ok (.baload, 1) := by decide +kernel
theorem dX10_row_115 : decode cX10_row 115 = .ok (.invokevirtual 139, 3) := by decide +kernel
theorem dX10_row_118 : decode cX10_row 118 = .ok (.iload_n 2, 1) := by decide +kernel
theorem dX10_row_119 : decode cX10_row 119 = .ok (.iload 4, 2) := by decide +kernel
theorem dX10_row_121 : decode cX10_row 121 = .ok (.ifCond .eq 7, 3) := by decide +kernel
theorem dX10_row_124 : decode cX10_row 124 = .ok (.iconst 1, 1) := by decide +kernel
theorem dX10_row_125 : decode cX10_row 125 = .ok (.goto 4, 3) := by decide +kernel
theorem dX10_row_128 : decode cX10_row 128 = .ok (.iconst 0, 1) := by decide +kernel
theorem dX10_row_129 : decode cX10_row 129 = .ok (.iadd, 1) := by decide +kernel
theorem dX10_row_130 : decode cX10_row 130 = .ok (.istore_n 2, 1) := by decide +kernel
theorem dX10_row_131 : decode cX10_row 131 = .ok (.aload_n 0, 1) := by decide +kernel
theorem dX10_row_132 : decode cX10_row 132 = .ok (.dup, 1) := by decide +kernel
theorem dX10_row_133 : decode cX10_row 133 = .ok (.getfield 172, 3) := by decide +kernel
theorem dX10_row_136 : decode cX10_row 136 = .ok (.iload 4, 2) := by decide +kernel
theorem dX10_row_138 : decode cX10_row 138 = .ok (.ifCond .eq 7, 3) := by decide +kernel
theorem dX10_row_141 : decode cX10_row 141 = .ok (.iconst 0, 1) := by decide +kernel
theorem dX10_row_142 : decode cX10_row 142 = .ok (.goto 4, 3) := by decide +kernel
theorem dX10_row_145 : decode cX10_row 145 = .ok (.iconst 1, 1) := by decide +kernel
theorem dX10_row_146 : decode cX10_row 146 = .ok (.iadd, 1) := by decide +kernel
theorem dX10_row_147 : decode cX10_row 147 = .ok (.putfield 172, 3) := by decide +kernel
theorem dX10_row_150 : decode cX10_row 150 = .ok (.iinc 3 2, 3) := by decide +kernel
theorem dX10_row_153 : decode cX10_row 153 = .ok (.goto (-121), 3) := by decide +kernel
theorem dX10_row_156 : decode cX10_row 156 = .ok (.aload_n 0, 1) := by decide +kernel
theorem dX10_row_157 : decode cX10_row 157 = .ok (.iload_n 2, 1) := by decide +kernel
theorem dX10_row_158 : decode cX10_row 158 = .ok (.invokevirtual 122, 3) := by decide +kernel
theorem dX10_row_161 : decode cX10_row 161 = .ok (.ireturn, 1) := by decide +kernel
theorem dX10_bricks_0 : decode cX10_bricks 0 = .ok (.aload_n 0, 1) := by decide +kernel
theorem dX10_bricks_1 : decode cX10_bricks 1 = .ok (.getfield 172, 3) := by decide +kernel
theorem dX10_bricks_4 : decode cX10_bricks 4 = .ok (.ireturn, 1) := by decide +kernel
theorem dX10_feed_0 : decode cX10_feed 0 = .ok (.aload_n 0, 1) := by decide +kernel
theorem dX10_feed_1 : decode cX10_feed 1 = .ok (.getfield 169, 3) := by decide +kernel
theorem dX10_feed_4 : decode cX10_feed 4 = .ok (.bipush 20, 2) := by decide +kernel
theorem dX10_feed_6 : decode cX10_feed 6 = .ok (.iadd, 1) := by decide +kernel
theorem dX10_feed_7 : decode cX10_feed 7 = .ok (.sipush 400, 3) := by decide +kernel
theorem dX10_feed_10 : decode cX10_feed 10 = .ok (.if_icmp .le 5, 3) := by decide +kernel
theorem dX10_feed_13 : decode cX10_feed 13 = .ok (.iconst (-1), 1) := by decide +kernel
theorem dX10_feed_14 : decode cX10_feed 14 = .ok (.ireturn, 1) := by decide +kernel
theorem dX10_feed_15 : decode cX10_feed 15 = .ok (.aload_n 0, 1) := by decide +kernel
theorem dX10_feed_16 : decode cX10_feed 16 = .ok (.getfield 48, 3) := by decide +kernel
theorem dX10_feed_19 : decode cX10_feed 19 = .ok (.iconst 0, 1) := by decide +kernel
theorem dX10_feed_20 : decode cX10_feed 20 = .ok (.iload_n 1, 1) := by decide +kernel
theorem dX10_feed_21 : decode cX10_feed 21 = .ok (.iastore, 1) := by decide +kernel
theorem dX10_feed_22 : decode cX10_feed 22 = .ok (.aload_n 0, 1) := by decide +kernel
theorem dX10_feed_23 : decode cX10_feed 23 = .ok (.getfield 48, 3) := by decide +kernel
theorem dX10_feed_26 : decode cX10_feed 26 = .ok (.iconst 1, 1) := by decide +kernel
theorem dX10_feed_27 : decode cX10_feed 27 = .ok (.iload_n 2, 1) := by decide +kernel
theorem dX10_feed_28 : decode cX10_feed 28 = .ok (.iastore, 1) := by decide +kernel
theorem dX10_feed_29 : decode cX10_feed 29 = .ok (.aload_n 0, 1) := by decide +kernel
theorem dX10_feed_30 : decode cX10_feed 30 = .ok (.getfield 48, 3) := by decide +kernel
theorem dX10_feed_33 : decode cX10_feed 33 = .ok (.iconst 2, 1) := by decide +kernel
theorem dX10_feed_34 : decode cX10_feed 34 = .ok (.iload_n 3, 1) := by decide +kernel
theorem dX10_feed_35 : decode cX10_feed 35 = .ok (.iastore, 1) := by decide +kernel
theorem dX10_feed_36 : decode cX10_feed 36 = .ok (.aload_n 0, 1) := by decide +kernel
theorem dX10_feed_37 : decode cX10_feed 37 = .ok (.getfield 48, 3) := by decide +kernel
theorem dX10_feed_40 : decode cX10_feed 40 = .ok (.iconst 3, 1) := by decide +kernel
theorem dX10_feed_41 : decode cX10_feed 41 = .ok (.iload 4, 2) := by decide +kernel
theorem dX10_feed_43 : decode cX10_feed 43 = .ok (.iastore, 1) := by decide +kernel
theorem dX10_feed_44 : decode cX10_feed 44 = .ok (.aload_n 0, 1) := by decide +kernel
theorem dX10_feed_45 : decode cX10_feed 45 = .ok (.getfield 48, 3) := by decide +kernel
theorem dX10_feed_48 : decode cX10_feed 48 = .ok (.iconst 4, 1) := by decide +kernel
theorem dX10_feed_49 : decode cX10_feed 49 = .ok (.iload 5, 2) := by decide +kernel
theorem dX10_feed_51 : decode cX10_feed 51 = .ok (.iastore, 1) := by decide +kernel
theorem dX10_feed_52 : decode cX10_feed 52 = .ok (.iconst 0, 1) := by decide +kernel
theorem dX10_feed_53 : decode cX10_feed 53 = .ok (.istore 6, 2) := by decide +kernel
theorem dX10_feed_55 : decode cX10_feed 55 = .ok (.iload 6, 2) := by decide +kernel
theorem dX10_feed_57 : decode cX10_feed 57 = .ok (.bipush 20, 2) := by decide +kernel
theorem dX10_feed_59 : decode cX10_feed 59 = .ok (.if_icmp .ge 42, 3) := by decide +kernel
theorem dX10_feed_62 : decode cX10_feed 62 = .ok (.aload_n 0, 1) := by decide +kernel
theorem dX10_feed_63 : decode cX10_feed 63 = .ok (.getfield 45, 3) := by decide +kernel
theorem dX10_feed_66 : decode cX10_feed 66 = .ok (.aload_n 0, 1) := by decide +kernel
theorem dX10_feed_67 : decode cX10_feed 67 = .ok (.getfield 169, 3) := by decide +kernel
theorem dX10_feed_70 : decode cX10_feed 70 = .ok (.iload 6, 2) := by decide +kernel
theorem dX10_feed_72 : decode cX10_feed 72 = .ok (.iadd, 1) := by decide +kernel
theorem dX10_feed_73 : decode cX10_feed 73 = .ok (.aload_n 0, 1) := by decide +kernel
theorem dX10_feed_74 : decode cX10_feed 74 = .ok (.getfield 48, 3) := by decide +kernel
theorem dX10_feed_77 : decode cX10_feed 77 = .ok (.iload 6, 2) := by decide +kernel
theorem dX10_feed_79 : decode cX10_feed 79 = .ok (.iconst 4, 1) := by decide +kernel
theorem dX10_feed_80 : decode cX10_feed 80 = .ok (.idiv, 1) := by decide +kernel
theorem dX10_feed_81 : decode cX10_feed 81 = .ok (.iaload, 1) := by decide +kernel
theorem dX10_feed_82 : decode cX10_feed 82 = .ok (.bipush 24, 2) := by decide +kernel
theorem dX10_feed_84 : decode cX10_feed 84 = .ok (.bipush 8, 2) := by decide +kernel
theorem dX10_feed_86 : decode cX10_feed 86 = .ok (.iload 6, 2) := by decide +kernel
theorem dX10_feed_88 : decode cX10_feed 88 = .ok (.iconst 4, 1) := by decide +kernel
theorem dX10_feed_89 : decode cX10_feed 89 = .ok (.irem, 1) := by decide +kernel
theorem dX10_feed_90 : decode cX10_feed 90 = .ok (.imul, 1) := by decide +kernel
theorem dX10_feed_91 : decode cX10_feed 91 = .ok (.isub, 1) := by decide +kernel
theorem dX10_feed_92 : decode cX10_feed 92 = .ok (.ishr, 1) := by decide +kernel
theorem dX10_feed_93 : decode cX10_feed 93 = .ok (.i2b, 1) := by decide +kernel
theorem dX10_feed_94 : decode cX10_feed 94 = .ok (.bastore, 1) := by decide +kernel
theorem dX10_feed_95 : decode cX10_feed 95 = .ok (.iinc 6 1, 3) := by decide +kernel
theorem dX10_feed_98 : decode cX10_feed 98 = .ok (.goto (-43), 3) := by decide +kernel
theorem dX10_feed_101 : decode cX10_feed 101 = .ok (.aload_n 0, 1) := by decide +kernel
theorem dX10_feed_102 : decode cX10_feed 102 = .ok (.dup, 1) := by decide +kernel
theorem dX10_feed_103 : decode cX10_feed 103 = .ok (.getfield 169, 3) := by decide +kernel
theorem dX10_feed_106 : decode cX10_feed 106 = .ok (.bipush 20, 2) := by decide +kernel
theorem dX10_feed_108 : decode cX10_feed 108 = .ok (.iadd, 1) := by decide +kernel
theorem dX10_feed_109 : decode cX10_feed 109 = .ok (.putfield 169, 3) := by decide +kernel
theorem dX10_feed_112 : decode cX10_feed 112 = .ok (.aload_n 0, 1) := by decide +kernel
theorem dX10_feed_113 : decode cX10_feed 113 = .ok (.getfield 169, 3) := by decide +kernel
theorem dX10_feed_116 : decode cX10_feed 116 = .ok (.ireturn, 1) := by decide +kernel
set_option maxRecDepth 20000 in
theorem ggX10_end_X10_lies : GoodIn wsX10_end wsX10_lies := goodIn_r _ [5] rfl (by decide +kernel)
set_option maxRecDepth 20000 in
theorem gX10_end_X10_lies : GoodIn wsX10_end (va_wsS RX10 18 yX10_lies wsX10_lies) := goodIn_app (goodIn_of _ (by decide +kernel)) ggX10_end_X10_lies
theorem dX10_end_0 : decode cX10_end 0 = .ok (.iload_n 1, 1) := by decide +kernel
theorem dX10_end_1 : decode cX10_end 1 = .ok (.iconst 0, 1) := by decide +kernel
theorem dX10_end_2 : decode cX10_end 2 = .ok (.aload_n 0, 1) := by decide +kernel
theorem dX10_end_3 : decode cX10_end 3 = .ok (.getfield 169, 3) := by decide +kernel
theorem dX10_end_6 : decode cX10_end 6 = .ok (.invokestatic 18, 3) := by decide +kernel
theorem dX10_end_9 : decode cX10_end 9 = .ok (.ifCond .ne 5, 3) := by decide +kernel
theorem dX10_end_12 : decode cX10_end 12 = .ok (.iconst (-1), 1) := by decide +kernel
theorem dX10_end_13 : decode cX10_end 13 = .ok (.ireturn, 1) := by decide +kernel
theorem dX10_end_14 : decode cX10_end 14 = .ok (.aload_n 0, 1) := by decide +kernel
theorem dX10_end_15 : decode cX10_end 15 = .ok (.iload_n 1, 1) := by decide +kernel
theorem dX10_end_16 : decode cX10_end 16 = .ok (.putfield 169, 3) := by decide +kernel
theorem dX10_end_19 : decode cX10_end 19 = .ok (.iload_n 1, 1) := by decide +kernel
theorem dX10_end_20 : decode cX10_end 20 = .ok (.ireturn, 1) := by decide +kernel
theorem dX10_isSmall_0 : decode cX10_isSmall 0 = .ok (.iload_n 0, 1) := by decide +kernel
theorem dX10_isSmall_1 : decode cX10_isSmall 1 = .ok (.bipush 97, 2) := by decide +kernel
theorem dX10_isSmall_3 : decode cX10_isSmall 3 = .ok (.if_icmp .lt 13, 3) := by decide +kernel
theorem dX10_isSmall_6 : decode cX10_isSmall 6 = .ok (.iload_n 0, 1) := by decide +kernel
theorem dX10_isSmall_7 : decode cX10_isSmall 7 = .ok (.bipush 122, 2) := by decide +kernel
theorem dX10_isSmall_9 : decode cX10_isSmall 9 = .ok (.if_icmp .gt 7, 3) := by decide +kernel
theorem dX10_isSmall_12 : decode cX10_isSmall 12 = .ok (.iconst 1, 1) := by decide +kernel
theorem dX10_isSmall_13 : decode cX10_isSmall 13 = .ok (.goto 4, 3) := by decide +kernel
theorem dX10_isSmall_16 : decode cX10_isSmall 16 = .ok (.iconst 0, 1) := by decide +kernel
theorem dX10_isSmall_17 : decode cX10_isSmall 17 = .ok (.ireturn, 1) := by decide +kernel
theorem dX10_isDigit_0 : decode cX10_isDigit 0 = .ok (.iload_n 0, 1) := by decide +kernel
theorem dX10_isDigit_1 : decode cX10_isDigit 1 = .ok (.bipush 48, 2) := by decide +kernel
theorem dX10_isDigit_3 : decode cX10_isDigit 3 = .ok (.if_icmp .lt 13, 3) := by decide +kernel
theorem dX10_isDigit_6 : decode cX10_isDigit 6 = .ok (.iload_n 0, 1) := by decide +kernel
theorem dX10_isDigit_7 : decode cX10_isDigit 7 = .ok (.bipush 57, 2) := by decide +kernel
theorem dX10_isDigit_9 : decode cX10_isDigit 9 = .ok (.if_icmp .gt 7, 3) := by decide +kernel
theorem dX10_isDigit_12 : decode cX10_isDigit 12 = .ok (.iconst 1, 1) := by decide +kernel
theorem dX10_isDigit_13 : decode cX10_isDigit 13 = .ok (.goto 4, 3) := by decide +kernel
theorem dX10_isDigit_16 : decode cX10_isDigit 16 = .ok (.iconst 0, 1) := by decide +kernel
theorem dX10_isDigit_17 : decode cX10_isDigit 17 = .ok (.ireturn, 1) := by decide +kernel
