set_option maxRecDepth 20000 in
theorem ggX10_at_X10_isPlace : GoodIn wsX10_at wsX10_isPlace := goodIn_r _ [6, 7, 8, 9, 5, 10, 1, 11, 12, 13, 99, 100, 101, 102, 103, 104, 105, 106, 107, 108, 109, 110, 111, 112, 113, 114, 115, 116, 117, 118, 119, 120, 121, 122, 123, 124, 125, 126, 127, 128, 129, 130, 131, 132, 133, 134, 135, 136, 137, 138, 139, 140, 141, 142, 143, 144, 145, 146, 147, 148, 149, 150, 151, 152, 153, 154] rfl (by decide +kernel)
set_option maxRecDepth 20000 in
theorem gX10_at_X10_isPlace : GoodIn wsX10_at (wsV RX10 143 RX10 yX10_isPlace wsX10_isPlace) := goodIn_app (goodIn_of _ (by decide +kernel)) ggX10_at_X10_isPlace
set_option maxRecDepth 20000 in
theorem ggX10_at_X10_tipsAt : GoodIn wsX10_at wsX10_tipsAt := goodIn_r _ [17, 18, 19, 20, 5, 21, 22, 1, 23, 24, 25, 26, 7, 8, 9, 10, 27, 28, 29, 30, 31, 32, 33, 34, 35, 36, 37, 38, 39, 40, 41, 42, 43, 44, 45, 46, 47, 48, 49, 50, 51, 52, 53, 54, 55, 56, 57, 58, 59, 60, 61, 62, 63, 64, 65, 66, 67, 68, 69, 70, 2, 3, 4, 6, 11, 12, 13, 71, 72, 73, 74, 75, 76, 77, 78, 79, 80, 81, 82, 83, 84, 85, 86, 87, 88, 89, 90, 91, 92, 93, 94, 95, 96, 97, 98, 99, 100, 101, 102, 103, 104, 105, 106, 107, 108, 109, 110, 111, 112, 113, 114, 115, 116, 117, 118, 119, 120, 121, 122, 123, 124, 125, 126, 127, 128, 129, 130, 131, 132, 133, 134, 135, 136, 137, 138, 139, 140, 141, 142, 143, 144, 145, 146, 147, 148, 149, 150, 151, 152, 153, 154] rfl (by decide +kernel)
set_option maxRecDepth 20000 in
theorem gX10_at_X10_tipsAt : GoodIn wsX10_at (wsV RX10 146 RX10 yX10_tipsAt wsX10_tipsAt) := goodIn_app (goodIn_of _ (by decide +kernel)) ggX10_at_X10_tipsAt
theorem da9_dX10_at_0 : (decode cX10_at 0 = .ok (.aload_n 0, 1)) ∧ (decode cX10_at 1 = .ok (.iload_n 1, 1)) ∧ (decode cX10_at 2 = .ok (.invokevirtual 143, 3)) ∧ (decode cX10_at 5 = .ok (.ifCond .ne 5, 3)) ∧ (decode cX10_at 8 = .ok (.iconst (-1), 1)) ∧ (decode cX10_at 9 = .ok (.ireturn, 1)) ∧ (decode cX10_at 10 = .ok (.iload_n 2, 1)) ∧ (decode cX10_at 11 = .ok (.tableswitch 58 0 2 #[25, 34, 44], 25)) ∧ (decode cX10_at 36 = .ok (.aload_n 0, 1)) ∧ (decode cX10_at 37 = .ok (.getfield 28, 3)) ∧ (decode cX10_at 40 = .ok (.iconst 0, 1)) ∧ (decode cX10_at 41 = .ok (.iload_n 1, 1)) ∧ (decode cX10_at 42 = .ok (.iadd, 1)) ∧ (decode cX10_at 43 = .ok (.iaload, 1)) ∧ (decode cX10_at 44 = .ok (.ireturn, 1)) ∧ (decode cX10_at 45 = .ok (.aload_n 0, 1)) := by decide +kernel
theorem dX10_at_0 : decode cX10_at 0 = .ok (.aload_n 0, 1) := da9_dX10_at_0.1
theorem dX10_at_1 : decode cX10_at 1 = .ok (.iload_n 1, 1) := da9_dX10_at_0.2.1
theorem dX10_at_2 : decode cX10_at 2 = .ok (.invokevirtual 143, 3) := da9_dX10_at_0.2.2.1
theorem dX10_at_5 : decode cX10_at 5 = .ok (.ifCond .ne 5, 3) := da9_dX10_at_0.2.2.2.1
theorem dX10_at_8 : decode cX10_at 8 = .ok (.iconst (-1), 1) := da9_dX10_at_0.2.2.2.2.1
theorem dX10_at_9 : decode cX10_at 9 = .ok (.ireturn, 1) := da9_dX10_at_0.2.2.2.2.2.1
theorem dX10_at_10 : decode cX10_at 10 = .ok (.iload_n 2, 1) := da9_dX10_at_0.2.2.2.2.2.2.1
theorem dX10_at_11 : decode cX10_at 11 = .ok (.tableswitch 58 0 2 #[25, 34, 44], 25) := da9_dX10_at_0.2.2.2.2.2.2.2.1
theorem dX10_at_36 : decode cX10_at 36 = .ok (.aload_n 0, 1) := da9_dX10_at_0.2.2.2.2.2.2.2.2.1
theorem dX10_at_37 : decode cX10_at 37 = .ok (.getfield 28, 3) := da9_dX10_at_0.2.2.2.2.2.2.2.2.2.1
theorem dX10_at_40 : decode cX10_at 40 = .ok (.iconst 0, 1) := da9_dX10_at_0.2.2.2.2.2.2.2.2.2.2.1
theorem dX10_at_41 : decode cX10_at 41 = .ok (.iload_n 1, 1) := da9_dX10_at_0.2.2.2.2.2.2.2.2.2.2.2.1
theorem dX10_at_42 : decode cX10_at 42 = .ok (.iadd, 1) := da9_dX10_at_0.2.2.2.2.2.2.2.2.2.2.2.2.1
theorem dX10_at_43 : decode cX10_at 43 = .ok (.iaload, 1) := da9_dX10_at_0.2.2.2.2.2.2.2.2.2.2.2.2.2.1
theorem dX10_at_44 : decode cX10_at 44 = .ok (.ireturn, 1) := da9_dX10_at_0.2.2.2.2.2.2.2.2.2.2.2.2.2.2.1
theorem dX10_at_45 : decode cX10_at 45 = .ok (.aload_n 0, 1) := da9_dX10_at_0.2.2.2.2.2.2.2.2.2.2.2.2.2.2.2
theorem da9_dX10_at_46 : (decode cX10_at 46 = .ok (.getfield 28, 3)) ∧ (decode cX10_at 49 = .ok (.bipush 6, 2)) ∧ (decode cX10_at 51 = .ok (.iload_n 1, 1)) ∧ (decode cX10_at 52 = .ok (.iadd, 1)) ∧ (decode cX10_at 53 = .ok (.iaload, 1)) ∧ (decode cX10_at 54 = .ok (.ireturn, 1)) ∧ (decode cX10_at 55 = .ok (.aload_n 0, 1)) ∧ (decode cX10_at 56 = .ok (.iload_n 1, 1)) ∧ (decode cX10_at 57 = .ok (.invokevirtual 146, 3)) ∧ (decode cX10_at 60 = .ok (.ifCond .eq 7, 3)) ∧ (decode cX10_at 63 = .ok (.iconst 1, 1)) ∧ (decode cX10_at 64 = .ok (.goto 4, 3)) ∧ (decode cX10_at 67 = .ok (.iconst 0, 1)) ∧ (decode cX10_at 68 = .ok (.ireturn, 1)) ∧ (decode cX10_at 69 = .ok (.iconst (-1), 1)) ∧ (decode cX10_at 70 = .ok (.ireturn, 1)) := by decide +kernel
theorem dX10_at_46 : decode cX10_at 46 = .ok (.getfield 28, 3) := da9_dX10_at_46.1
theorem dX10_at_49 : decode cX10_at 49 = .ok (.bipush 6, 2) := da9_dX10_at_46.2.1
theorem dX10_at_51 : decode cX10_at 51 = .ok (.iload_n 1, 1) := da9_dX10_at_46.2.2.1
theorem dX10_at_52 : decode cX10_at 52 = .ok (.iadd, 1) := da9_dX10_at_46.2.2.2.1
theorem dX10_at_53 : decode cX10_at 53 = .ok (.iaload, 1) := da9_dX10_at_46.2.2.2.2.1
theorem dX10_at_54 : decode cX10_at 54 = .ok (.ireturn, 1) := da9_dX10_at_46.2.2.2.2.2.1
theorem dX10_at_55 : decode cX10_at 55 = .ok (.aload_n 0, 1) := da9_dX10_at_46.2.2.2.2.2.2.1
theorem dX10_at_56 : decode cX10_at 56 = .ok (.iload_n 1, 1) := da9_dX10_at_46.2.2.2.2.2.2.2.1
theorem dX10_at_57 : decode cX10_at 57 = .ok (.invokevirtual 146, 3) := da9_dX10_at_46.2.2.2.2.2.2.2.2.1
theorem dX10_at_60 : decode cX10_at 60 = .ok (.ifCond .eq 7, 3) := da9_dX10_at_46.2.2.2.2.2.2.2.2.2.1
theorem dX10_at_63 : decode cX10_at 63 = .ok (.iconst 1, 1) := da9_dX10_at_46.2.2.2.2.2.2.2.2.2.2.1
theorem dX10_at_64 : decode cX10_at 64 = .ok (.goto 4, 3) := da9_dX10_at_46.2.2.2.2.2.2.2.2.2.2.2.1
theorem dX10_at_67 : decode cX10_at 67 = .ok (.iconst 0, 1) := da9_dX10_at_46.2.2.2.2.2.2.2.2.2.2.2.2.1
theorem dX10_at_68 : decode cX10_at 68 = .ok (.ireturn, 1) := da9_dX10_at_46.2.2.2.2.2.2.2.2.2.2.2.2.2.1
theorem dX10_at_69 : decode cX10_at 69 = .ok (.iconst (-1), 1) := da9_dX10_at_46.2.2.2.2.2.2.2.2.2.2.2.2.2.2.1
theorem dX10_at_70 : decode cX10_at 70 = .ok (.ireturn, 1) := da9_dX10_at_46.2.2.2.2.2.2.2.2.2.2.2.2.2.2.2
set_option maxRecDepth 20000 in
theorem ggX10_rankBelow_X10_size : GoodIn wsX10_rankBelow wsX10_size := goodIn_r _ [6, 1, 7, 8, 9, 10, 11, 12, 13, 14, 15, 16, 17, 18, 19, 20, 21, 22, 23, 24, 25, 26, 27, 28, 29, 30, 31, 32, 33, 34, 35, 36, 37, 38, 39, 40, 41, 42, 43, 44, 45, 46, 47, 48, 49, 50, 51, 52, 53, 54, 55, 56, 57, 58, 59, 60, 61, 62] rfl (by decide +kernel)
set_option maxRecDepth 20000 in
theorem gX10_rankBelow_X10_size : GoodIn wsX10_rankBelow (wsV RX10 125 RX10 yX10_size wsX10_size) := goodIn_app (goodIn_of _ (by decide +kernel)) ggX10_rankBelow_X10_size
theorem da9_dX10_rankBelow_0 : (decode cX10_rankBelow 0 = .ok (.iload_n 1, 1)) ∧ (decode cX10_rankBelow 1 = .ok (.aload_n 0, 1)) ∧ (decode cX10_rankBelow 2 = .ok (.invokevirtual 125, 3)) ∧ (decode cX10_rankBelow 5 = .ok (.if_icmp .ge 14, 3)) ∧ (decode cX10_rankBelow 8 = .ok (.aload_n 0, 1)) ∧ (decode cX10_rankBelow 9 = .ok (.getfield 28, 3)) ∧ (decode cX10_rankBelow 12 = .ok (.iconst 0, 1)) ∧ (decode cX10_rankBelow 13 = .ok (.iload_n 1, 1)) ∧ (decode cX10_rankBelow 14 = .ok (.iadd, 1)) ∧ (decode cX10_rankBelow 15 = .ok (.iaload, 1)) ∧ (decode cX10_rankBelow 16 = .ok (.goto 4, 3)) ∧ (decode cX10_rankBelow 19 = .ok (.iconst (-1), 1)) ∧ (decode cX10_rankBelow 20 = .ok (.ireturn, 1)) := by decide +kernel
theorem dX10_rankBelow_0 : decode cX10_rankBelow 0 = .ok (.iload_n 1, 1) := da9_dX10_rankBelow_0.1
theorem dX10_rankBelow_1 : decode cX10_rankBelow 1 = .ok (.aload_n 0, 1) := da9_dX10_rankBelow_0.2.1
theorem dX10_rankBelow_2 : decode cX10_rankBelow 2 = .ok (.invokevirtual 125, 3) := da9_dX10_rankBelow_0.2.2.1
theorem dX10_rankBelow_5 : decode cX10_rankBelow 5 = .ok (.if_icmp .ge 14, 3) := da9_dX10_rankBelow_0.2.2.2.1
theorem dX10_rankBelow_8 : decode cX10_rankBelow 8 = .ok (.aload_n 0, 1) := da9_dX10_rankBelow_0.2.2.2.2.1
theorem dX10_rankBelow_9 : decode cX10_rankBelow 9 = .ok (.getfield 28, 3) := da9_dX10_rankBelow_0.2.2.2.2.2.1
theorem dX10_rankBelow_12 : decode cX10_rankBelow 12 = .ok (.iconst 0, 1) := da9_dX10_rankBelow_0.2.2.2.2.2.2.1
theorem dX10_rankBelow_13 : decode cX10_rankBelow 13 = .ok (.iload_n 1, 1) := da9_dX10_rankBelow_0.2.2.2.2.2.2.2.1
theorem dX10_rankBelow_14 : decode cX10_rankBelow 14 = .ok (.iadd, 1) := da9_dX10_rankBelow_0.2.2.2.2.2.2.2.2.1
theorem dX10_rankBelow_15 : decode cX10_rankBelow 15 = .ok (.iaload, 1) := da9_dX10_rankBelow_0.2.2.2.2.2.2.2.2.2.1
theorem dX10_rankBelow_16 : decode cX10_rankBelow 16 = .ok (.goto 4, 3) := da9_dX10_rankBelow_0.2.2.2.2.2.2.2.2.2.2.1
theorem dX10_rankBelow_19 : decode cX10_rankBelow 19 = .ok (.iconst (-1), 1) := da9_dX10_rankBelow_0.2.2.2.2.2.2.2.2.2.2.2.1
theorem dX10_rankBelow_20 : decode cX10_rankBelow 20 = .ok (.ireturn, 1) := da9_dX10_rankBelow_0.2.2.2.2.2.2.2.2.2.2.2.2
set_option maxRecDepth 20000 in
theorem ggX10_asks_X10_size : GoodIn wsX10_asks wsX10_size := goodIn_r _ [6, 1, 103, 104, 105, 106, 107, 108, 109, 110, 111, 112, 113, 114, 115, 116, 117, 118, 119, 120, 121, 122, 123, 124, 125, 126, 127, 128, 129, 130, 131, 132, 133, 134, 135, 136, 137, 138, 139, 140, 141, 142, 143, 144, 145, 146, 147, 148, 149, 150, 151, 152, 153, 154, 155, 156, 157, 158] rfl (by decide +kernel)
set_option maxRecDepth 20000 in
theorem gX10_asks_X10_size : GoodIn wsX10_asks (wsV RX10 125 RX10 yX10_size wsX10_size) := goodIn_app (goodIn_of _ (by decide +kernel)) ggX10_asks_X10_size
set_option maxRecDepth 20000 in
theorem ggX10_asks_X10_lies : GoodIn wsX10_asks wsX10_lies := goodIn_r _ [9] rfl (by decide +kernel)
set_option maxRecDepth 20000 in
theorem gX10_asks_X10_lies : GoodIn wsX10_asks (va_wsS RX10 18 yX10_lies wsX10_lies) := goodIn_app (goodIn_of _ (by decide +kernel)) ggX10_asks_X10_lies
set_option maxRecDepth 20000 in
theorem ggX10_asks_X10_rankBelow : GoodIn wsX10_asks wsX10_rankBelow := goodIn_r _ [13, 1, 2, 3, 4, 5, 6, 103, 104, 105, 106, 107, 108, 109, 110, 111, 112, 113, 114, 115, 116, 117, 118, 119, 120, 121, 122, 123, 124, 125, 126, 127, 128, 129, 130, 131, 132, 133, 134, 135, 136, 137, 138, 139, 140, 141, 142, 143, 144, 145, 146, 147, 148, 149, 150, 151, 152, 153, 154, 155, 156, 157, 158] rfl (by decide +kernel)
set_option maxRecDepth 20000 in
theorem gX10_asks_X10_rankBelow : GoodIn wsX10_asks (wsV RX10 149 RX10 yX10_rankBelow wsX10_rankBelow) := goodIn_app (goodIn_of _ (by decide +kernel)) ggX10_asks_X10_rankBelow
set_option maxRecDepth 20000 in
theorem ggX10_asks_X10_setsTurn : GoodIn wsX10_asks wsX10_setsTurn := goodIn_r _ [17, 18, 19, 20, 21, 5, 22, 1, 2, 3, 4, 6, 103, 104, 105, 106, 107, 108, 109, 110, 111, 112, 113, 114, 115, 116, 117, 118, 119, 120, 121, 122, 123, 124, 125, 126, 127, 128, 129, 130, 131, 132, 133, 134, 135, 136, 137, 138, 139, 140, 141, 142, 143, 144, 145, 146, 147, 148, 149, 150, 151, 152, 153, 154, 155, 156, 157, 158] rfl (by decide +kernel)
set_option maxRecDepth 20000 in
theorem gX10_asks_X10_setsTurn : GoodIn wsX10_asks (wsV RX10 152 RX10 yX10_setsTurn wsX10_setsTurn) := goodIn_app (goodIn_of _ (by decide +kernel)) ggX10_asks_X10_setsTurn
set_option maxRecDepth 20000 in
theorem ggX10_asks_X10_paysNow : GoodIn wsX10_asks wsX10_paysNow := goodIn_r _ [26, 18, 27, 28, 29, 5, 30, 1, 31, 32, 33, 34, 35, 36, 37, 38, 39, 40, 41, 42, 43, 44, 45, 46, 47, 48, 49, 50, 51, 52, 53, 54, 55, 56, 57, 58, 59, 60, 61, 62, 63, 64, 65, 66, 67, 68, 69, 70, 2, 3, 4, 6, 7, 8, 9, 71, 72, 73, 74, 75, 76, 77, 78, 79, 80, 81, 82, 83, 84, 85, 86, 87, 88, 89, 90, 91, 92, 93, 94, 95, 96, 97, 98, 103, 104, 105, 106, 107, 108, 109, 110, 111, 112, 113, 114, 115, 116, 117, 118, 119, 120, 121, 122, 123, 124, 125, 126, 127, 128, 129, 130, 131, 132, 133, 134, 135, 136, 137, 138, 139, 140, 141, 142, 143, 144, 145, 146, 147, 148, 149, 150, 151, 152, 153, 154, 155, 156, 157, 158] rfl (by decide +kernel)
set_option maxRecDepth 20000 in
theorem gX10_asks_X10_paysNow : GoodIn wsX10_asks (wsV RX10 156 RX10 yX10_paysNow wsX10_paysNow) := goodIn_app (goodIn_of _ (by decide +kernel)) ggX10_asks_X10_paysNow
set_option maxRecDepth 20000 in
theorem ggX10_asks_X10_isNow : GoodIn wsX10_asks wsX10_isNow := goodIn_r _ [102, 27, 28, 29, 5, 30, 1, 31, 32, 33, 34, 35, 36, 37, 38, 39, 40, 41, 42, 43, 44, 45, 46, 47, 48, 49, 50, 51, 52, 53, 54, 55, 56, 18, 57, 58, 59, 60, 61, 62, 63, 64, 65, 66, 67, 68, 69, 70, 2, 3, 4, 6, 7, 8, 9, 71, 72, 73, 74, 75, 76, 77, 78, 79, 80, 81, 82, 83, 84, 85, 86, 87, 88, 89, 90, 91, 92, 93, 94, 95, 96, 97, 98, 103, 104, 105, 106, 107, 108, 109, 110, 111, 112, 113, 114, 115, 116, 117, 118, 119, 120, 121, 122, 123, 124, 125, 126, 127, 128, 129, 130, 131, 132, 133, 134, 135, 136, 137, 138, 139, 140, 141, 142, 143, 144, 145, 146, 147, 148, 149, 150, 151, 152, 153, 154, 155, 156, 157, 158] rfl (by decide +kernel)
set_option maxRecDepth 20000 in
theorem gX10_asks_X10_isNow : GoodIn wsX10_asks (wsV RX10 159 RX10 yX10_isNow wsX10_isNow) := goodIn_app (goodIn_of _ (by decide +kernel)) ggX10_asks_X10_isNow
theorem da9_dX10_asks_0 : (decode cX10_asks 0 = .ok (.iload_n 1, 1)) ∧ (decode cX10_asks 1 = .ok (.iconst 1, 1)) ∧ (decode cX10_asks 2 = .ok (.aload_n 0, 1)) ∧ (decode cX10_asks 3 = .ok (.invokevirtual 125, 3)) ∧ (decode cX10_asks 6 = .ok (.invokestatic 18, 3)) ∧ (decode cX10_asks 9 = .ok (.ifCond .ne 5, 3)) ∧ (decode cX10_asks 12 = .ok (.iconst (-1), 1)) ∧ (decode cX10_asks 13 = .ok (.ireturn, 1)) ∧ (decode cX10_asks 14 = .ok (.aload_n 0, 1)) ∧ (decode cX10_asks 15 = .ok (.iload_n 1, 1)) ∧ (decode cX10_asks 16 = .ok (.aload_n 0, 1)) ∧ (decode cX10_asks 17 = .ok (.getfield 28, 3)) ∧ (decode cX10_asks 20 = .ok (.iconst 0, 1)) ∧ (decode cX10_asks 21 = .ok (.iaload, 1)) ∧ (decode cX10_asks 22 = .ok (.aload_n 0, 1)) ∧ (decode cX10_asks 23 = .ok (.iload_n 1, 1)) := by decide +kernel
theorem dX10_asks_0 : decode cX10_asks 0 = .ok (.iload_n 1, 1) := da9_dX10_asks_0.1
theorem dX10_asks_1 : decode cX10_asks 1 = .ok (.iconst 1, 1) := da9_dX10_asks_0.2.1
theorem dX10_asks_2 : decode cX10_asks 2 = .ok (.aload_n 0, 1) := da9_dX10_asks_0.2.2.1
theorem dX10_asks_3 : decode cX10_asks 3 = .ok (.invokevirtual 125, 3) := da9_dX10_asks_0.2.2.2.1
theorem dX10_asks_6 : decode cX10_asks 6 = .ok (.invokestatic 18, 3) := da9_dX10_asks_0.2.2.2.2.1
theorem dX10_asks_9 : decode cX10_asks 9 = .ok (.ifCond .ne 5, 3) := da9_dX10_asks_0.2.2.2.2.2.1
theorem dX10_asks_12 : decode cX10_asks 12 = .ok (.iconst (-1), 1) := da9_dX10_asks_0.2.2.2.2.2.2.1
theorem dX10_asks_13 : decode cX10_asks 13 = .ok (.ireturn, 1) := da9_dX10_asks_0.2.2.2.2.2.2.2.1
theorem dX10_asks_14 : decode cX10_asks 14 = .ok (.aload_n 0, 1) := da9_dX10_asks_0.2.2.2.2.2.2.2.2.1
theorem dX10_asks_15 : decode cX10_asks 15 = .ok (.iload_n 1, 1) := da9_dX10_asks_0.2.2.2.2.2.2.2.2.2.1
theorem dX10_asks_16 : decode cX10_asks 16 = .ok (.aload_n 0, 1) := da9_dX10_asks_0.2.2.2.2.2.2.2.2.2.2.1
theorem dX10_asks_17 : decode cX10_asks 17 = .ok (.getfield 28, 3) := da9_dX10_asks_0.2.2.2.2.2.2.2.2.2.2.2.1
theorem dX10_asks_20 : decode cX10_asks 20 = .ok (.iconst 0, 1) := da9_dX10_asks_0.2.2.2.2.2.2.2.2.2.2.2.2.1
theorem dX10_asks_21 : decode cX10_asks 21 = .ok (.iaload, 1) := da9_dX10_asks_0.2.2.2.2.2.2.2.2.2.2.2.2.2.1
theorem dX10_asks_22 : decode cX10_asks 22 = .ok (.aload_n 0, 1) := da9_dX10_asks_0.2.2.2.2.2.2.2.2.2.2.2.2.2.2.1
theorem dX10_asks_23 : decode cX10_asks 23 = .ok (.iload_n 1, 1) := da9_dX10_asks_0.2.2.2.2.2.2.2.2.2.2.2.2.2.2.2
theorem da9_dX10_asks_24 : (decode cX10_asks 24 = .ok (.invokevirtual 149, 3)) ∧ (decode cX10_asks 27 = .ok (.aload_n 0, 1)) ∧ (decode cX10_asks 28 = .ok (.getfield 28, 3)) ∧ (decode cX10_asks 31 = .ok (.bipush 6, 2)) ∧ (decode cX10_asks 33 = .ok (.iaload, 1)) ∧ (decode cX10_asks 34 = .ok (.invokevirtual 152, 3)) ∧ (decode cX10_asks 37 = .ok (.iload_n 2, 1)) ∧ (decode cX10_asks 38 = .ok (.lookupswitch 45 #[(0, 26), (1, 31)], 26)) ∧ (decode cX10_asks 64 = .ok (.aload_n 0, 1)) ∧ (decode cX10_asks 65 = .ok (.invokevirtual 156, 3)) ∧ (decode cX10_asks 68 = .ok (.ireturn, 1)) ∧ (decode cX10_asks 69 = .ok (.aload_n 0, 1)) ∧ (decode cX10_asks 70 = .ok (.iconst 2, 1)) ∧ (decode cX10_asks 71 = .ok (.invokevirtual 159, 3)) ∧ (decode cX10_asks 74 = .ok (.ifCond .eq 7, 3)) ∧ (decode cX10_asks 77 = .ok (.iconst 1, 1)) := by decide +kernel
theorem dX10_asks_24 : decode cX10_asks 24 = .ok (.invokevirtual 149, 3) := da9_dX10_asks_24.1
theorem dX10_asks_27 : decode cX10_asks 27 = .ok (.aload_n 0, 1) := da9_dX10_asks_24.2.1
theorem dX10_asks_28 : decode cX10_asks 28 = .ok (.getfield 28, 3) := da9_dX10_asks_24.2.2.1
theorem dX10_asks_31 : decode cX10_asks 31 = .ok (.bipush 6, 2) := da9_dX10_asks_24.2.2.2.1
theorem dX10_asks_33 : decode cX10_asks 33 = .ok (.iaload, 1) := da9_dX10_asks_24.2.2.2.2.1
theorem dX10_asks_34 : decode cX10_asks 34 = .ok (.invokevirtual 152, 3) := da9_dX10_asks_24.2.2.2.2.2.1
theorem dX10_asks_37 : decode cX10_asks 37 = .ok (.iload_n 2, 1) := da9_dX10_asks_24.2.2.2.2.2.2.1
theorem dX10_asks_38 : decode cX10_asks 38 = .ok (.lookupswitch 45 #[(0, 26), (1, 31)], 26) := da9_dX10_asks_24.2.2.2.2.2.2.2.1
theorem dX10_asks_64 : decode cX10_asks 64 = .ok (.aload_n 0, 1) := da9_dX10_asks_24.2.2.2.2.2.2.2.2.1
theorem dX10_asks_65 : decode cX10_asks 65 = .ok (.invokevirtual 156, 3) := da9_dX10_asks_24.2.2.2.2.2.2.2.2.2.1
theorem dX10_asks_68 : decode cX10_asks 68 = .ok (.ireturn, 1) := da9_dX10_asks_24.2.2.2.2.2.2.2.2.2.2.1
theorem dX10_asks_69 : decode cX10_asks 69 = .ok (.aload_n 0, 1) := da9_dX10_asks_24.2.2.2.2.2.2.2.2.2.2.2.1
theorem dX10_asks_70 : decode cX10_asks 70 = .ok (.iconst 2, 1) := da9_dX10_asks_24.2.2.2.2.2.2.2.2.2.2.2.2.1
theorem dX10_asks_71 : decode cX10_asks 71 = .ok (.invokevirtual 159, 3) := da9_dX10_asks_24.2.2.2.2.2.2.2.2.2.2.2.2.2.1
theorem dX10_asks_74 : decode cX10_asks 74 = .ok (.ifCond .eq 7, 3) := da9_dX10_asks_24.2.2.2.2.2.2.2.2.2.2.2.2.2.2.1
theorem dX10_asks_77 : decode cX10_asks 77 = .ok (.iconst 1, 1) := da9_dX10_asks_24.2.2.2.2.2.2.2.2.2.2.2.2.2.2.2
theorem da9_dX10_asks_78 : (decode cX10_asks 78 = .ok (.goto 4, 3)) ∧ (decode cX10_asks 81 = .ok (.iconst 0, 1)) ∧ (decode cX10_asks 82 = .ok (.ireturn, 1)) ∧ (decode cX10_asks 83 = .ok (.iconst (-1), 1)) ∧ (decode cX10_asks 84 = .ok (.ireturn, 1)) := by decide +kernel
theorem dX10_asks_78 : decode cX10_asks 78 = .ok (.goto 4, 3) := da9_dX10_asks_78.1
theorem dX10_asks_81 : decode cX10_asks 81 = .ok (.iconst 0, 1) := da9_dX10_asks_78.2.1
theorem dX10_asks_82 : decode cX10_asks 82 = .ok (.ireturn, 1) := da9_dX10_asks_78.2.2.1
theorem dX10_asks_83 : decode cX10_asks 83 = .ok (.iconst (-1), 1) := da9_dX10_asks_78.2.2.2.1
theorem dX10_asks_84 : decode cX10_asks 84 = .ok (.ireturn, 1) := da9_dX10_asks_78.2.2.2.2
set_option maxRecDepth 20000 in
theorem ggX10_isTerm_X10_lies : GoodIn wsX10_isTerm wsX10_lies := goodIn_r _ [4] rfl (by decide +kernel)
set_option maxRecDepth 20000 in
theorem gX10_isTerm_X10_lies : GoodIn wsX10_isTerm (va_wsS RX10 18 yX10_lies wsX10_lies) := goodIn_app (goodIn_of _ (by decide +kernel)) ggX10_isTerm_X10_lies
set_option maxRecDepth 20000 in
theorem ggX10_isTerm_X10_isBit : GoodIn wsX10_isTerm wsX10_isBit := goodIn_r _ [7, 1, 2, 3, 4] rfl (by decide +kernel)
set_option maxRecDepth 20000 in
theorem gX10_isTerm_X10_isBit : GoodIn wsX10_isTerm (va_wsS RX10 133 yX10_isBit wsX10_isBit) := goodIn_app (goodIn_of _ (by decide +kernel)) ggX10_isTerm_X10_isBit
theorem da9_dX10_isTerm_0 : (decode cX10_isTerm 0 = .ok (.iload_n 0, 1)) ∧ (decode cX10_isTerm 1 = .ok (.tableswitch 61 0 3 #[31, 40, 48, 56], 31)) ∧ (decode cX10_isTerm 32 = .ok (.iload_n 1, 1)) ∧ (decode cX10_isTerm 33 = .ok (.iconst 0, 1)) ∧ (decode cX10_isTerm 34 = .ok (.sipush 999, 3)) ∧ (decode cX10_isTerm 37 = .ok (.invokestatic 18, 3)) ∧ (decode cX10_isTerm 40 = .ok (.ireturn, 1)) ∧ (decode cX10_isTerm 41 = .ok (.iload_n 1, 1)) ∧ (decode cX10_isTerm 42 = .ok (.iconst 0, 1)) ∧ (decode cX10_isTerm 43 = .ok (.bipush 10, 2)) ∧ (decode cX10_isTerm 45 = .ok (.invokestatic 18, 3)) ∧ (decode cX10_isTerm 48 = .ok (.ireturn, 1)) ∧ (decode cX10_isTerm 49 = .ok (.iload_n 1, 1)) ∧ (decode cX10_isTerm 50 = .ok (.iconst 0, 1)) ∧ (decode cX10_isTerm 51 = .ok (.bipush 9, 2)) ∧ (decode cX10_isTerm 53 = .ok (.invokestatic 18, 3)) := by decide +kernel
theorem dX10_isTerm_0 : decode cX10_isTerm 0 = .ok (.iload_n 0, 1) := da9_dX10_isTerm_0.1
theorem dX10_isTerm_1 : decode cX10_isTerm 1 = .ok (.tableswitch 61 0 3 #[31, 40, 48, 56], 31) := da9_dX10_isTerm_0.2.1
theorem dX10_isTerm_32 : decode cX10_isTerm 32 = .ok (.iload_n 1, 1) := da9_dX10_isTerm_0.2.2.1
theorem dX10_isTerm_33 : decode cX10_isTerm 33 = .ok (.iconst 0, 1) := da9_dX10_isTerm_0.2.2.2.1
theorem dX10_isTerm_34 : decode cX10_isTerm 34 = .ok (.sipush 999, 3) := da9_dX10_isTerm_0.2.2.2.2.1
theorem dX10_isTerm_37 : decode cX10_isTerm 37 = .ok (.invokestatic 18, 3) := da9_dX10_isTerm_0.2.2.2.2.2.1
theorem dX10_isTerm_40 : decode cX10_isTerm 40 = .ok (.ireturn, 1) := da9_dX10_isTerm_0.2.2.2.2.2.2.1
theorem dX10_isTerm_41 : decode cX10_isTerm 41 = .ok (.iload_n 1, 1) := da9_dX10_isTerm_0.2.2.2.2.2.2.2.1
theorem dX10_isTerm_42 : decode cX10_isTerm 42 = .ok (.iconst 0, 1) := da9_dX10_isTerm_0.2.2.2.2.2.2.2.2.1
theorem dX10_isTerm_43 : decode cX10_isTerm 43 = .ok (.bipush 10, 2) := da9_dX10_isTerm_0.2.2.2.2.2.2.2.2.2.1
theorem dX10_isTerm_45 : decode cX10_isTerm 45 = .ok (.invokestatic 18, 3) := da9_dX10_isTerm_0.2.2.2.2.2.2.2.2.2.2.1
theorem dX10_isTerm_48 : decode cX10_isTerm 48 = .ok (.ireturn, 1) := da9_dX10_isTerm_0.2.2.2.2.2.2.2.2.2.2.2.1
theorem dX10_isTerm_49 : decode cX10_isTerm 49 = .ok (.iload_n 1, 1) := da9_dX10_isTerm_0.2.2.2.2.2.2.2.2.2.2.2.2.1
theorem dX10_isTerm_50 : decode cX10_isTerm 50 = .ok (.iconst 0, 1) := da9_dX10_isTerm_0.2.2.2.2.2.2.2.2.2.2.2.2.2.1
theorem dX10_isTerm_51 : decode cX10_isTerm 51 = .ok (.bipush 9, 2) := da9_dX10_isTerm_0.2.2.2.2.2.2.2.2.2.2.2.2.2.2.1
theorem dX10_isTerm_53 : decode cX10_isTerm 53 = .ok (.invokestatic 18, 3) := da9_dX10_isTerm_0.2.2.2.2.2.2.2.2.2.2.2.2.2.2.2
theorem da9_dX10_isTerm_56 : (decode cX10_isTerm 56 = .ok (.ireturn, 1)) ∧ (decode cX10_isTerm 57 = .ok (.iload_n 1, 1)) ∧ (decode cX10_isTerm 58 = .ok (.invokestatic 133, 3)) ∧ (decode cX10_isTerm 61 = .ok (.ireturn, 1)) ∧ (decode cX10_isTerm 62 = .ok (.iconst 0, 1)) ∧ (decode cX10_isTerm 63 = .ok (.ireturn, 1)) := by decide +kernel
theorem dX10_isTerm_56 : decode cX10_isTerm 56 = .ok (.ireturn, 1) := da9_dX10_isTerm_56.1
theorem dX10_isTerm_57 : decode cX10_isTerm 57 = .ok (.iload_n 1, 1) := da9_dX10_isTerm_56.2.1
theorem dX10_isTerm_58 : decode cX10_isTerm 58 = .ok (.invokestatic 133, 3) := da9_dX10_isTerm_56.2.2.1
theorem dX10_isTerm_61 : decode cX10_isTerm 61 = .ok (.ireturn, 1) := da9_dX10_isTerm_56.2.2.2.1
theorem dX10_isTerm_62 : decode cX10_isTerm 62 = .ok (.iconst 0, 1) := da9_dX10_isTerm_56.2.2.2.2.1
theorem dX10_isTerm_63 : decode cX10_isTerm 63 = .ok (.ireturn, 1) := da9_dX10_isTerm_56.2.2.2.2.2
theorem da9_dX10_termAt_0 : (decode cX10_termAt 0 = .ok (.iload_n 0, 1)) ∧ (decode cX10_termAt 1 = .ok (.ifCond .ne 8, 3)) ∧ (decode cX10_termAt 4 = .ok (.bipush 13, 2)) ∧ (decode cX10_termAt 6 = .ok (.goto 25, 3)) ∧ (decode cX10_termAt 9 = .ok (.iload_n 0, 1)) ∧ (decode cX10_termAt 10 = .ok (.iconst 1, 1)) ∧ (decode cX10_termAt 11 = .ok (.if_icmp .ne 8, 3)) ∧ (decode cX10_termAt 14 = .ok (.bipush 26, 2)) ∧ (decode cX10_termAt 16 = .ok (.goto 15, 3)) ∧ (decode cX10_termAt 19 = .ok (.iload_n 0, 1)) ∧ (decode cX10_termAt 20 = .ok (.iconst 2, 1)) ∧ (decode cX10_termAt 21 = .ok (.if_icmp .ne 8, 3)) ∧ (decode cX10_termAt 24 = .ok (.bipush 27, 2)) ∧ (decode cX10_termAt 26 = .ok (.goto 5, 3)) ∧ (decode cX10_termAt 29 = .ok (.bipush 28, 2)) ∧ (decode cX10_termAt 31 = .ok (.ireturn, 1)) := by decide +kernel
theorem dX10_termAt_0 : decode cX10_termAt 0 = .ok (.iload_n 0, 1) := da9_dX10_termAt_0.1
theorem dX10_termAt_1 : decode cX10_termAt 1 = .ok (.ifCond .ne 8, 3) := da9_dX10_termAt_0.2.1
theorem dX10_termAt_4 : decode cX10_termAt 4 = .ok (.bipush 13, 2) := da9_dX10_termAt_0.2.2.1
theorem dX10_termAt_6 : decode cX10_termAt 6 = .ok (.goto 25, 3) := da9_dX10_termAt_0.2.2.2.1
theorem dX10_termAt_9 : decode cX10_termAt 9 = .ok (.iload_n 0, 1) := da9_dX10_termAt_0.2.2.2.2.1
theorem dX10_termAt_10 : decode cX10_termAt 10 = .ok (.iconst 1, 1) := da9_dX10_termAt_0.2.2.2.2.2.1
theorem dX10_termAt_11 : decode cX10_termAt 11 = .ok (.if_icmp .ne 8, 3) := da9_dX10_termAt_0.2.2.2.2.2.2.1
theorem dX10_termAt_14 : decode cX10_termAt 14 = .ok (.bipush 26, 2) := da9_dX10_termAt_0.2.2.2.2.2.2.2.1
theorem dX10_termAt_16 : decode cX10_termAt 16 = .ok (.goto 15, 3) := da9_dX10_termAt_0.2.2.2.2.2.2.2.2.1
theorem dX10_termAt_19 : decode cX10_termAt 19 = .ok (.iload_n 0, 1) := da9_dX10_termAt_0.2.2.2.2.2.2.2.2.2.1
theorem dX10_termAt_20 : decode cX10_termAt 20 = .ok (.iconst 2, 1) := da9_dX10_termAt_0.2.2.2.2.2.2.2.2.2.2.1
theorem dX10_termAt_21 : decode cX10_termAt 21 = .ok (.if_icmp .ne 8, 3) := da9_dX10_termAt_0.2.2.2.2.2.2.2.2.2.2.2.1
theorem dX10_termAt_24 : decode cX10_termAt 24 = .ok (.bipush 27, 2) := da9_dX10_termAt_0.2.2.2.2.2.2.2.2.2.2.2.2.1
theorem dX10_termAt_26 : decode cX10_termAt 26 = .ok (.goto 5, 3) := da9_dX10_termAt_0.2.2.2.2.2.2.2.2.2.2.2.2.2.1
theorem dX10_termAt_29 : decode cX10_termAt 29 = .ok (.bipush 28, 2) := da9_dX10_termAt_0.2.2.2.2.2.2.2.2.2.2.2.2.2.2.1
theorem dX10_termAt_31 : decode cX10_termAt 31 = .ok (.ireturn, 1) := da9_dX10_termAt_0.2.2.2.2.2.2.2.2.2.2.2.2.2.2.2
set_option maxRecDepth 20000 in
theorem ggX10_terms_X10_isTerm : GoodIn wsX10_terms wsX10_isTerm := goodIn_r _ [5, 6, 7, 4, 8, 9, 10, 11] rfl (by decide +kernel)
set_option maxRecDepth 20000 in
theorem gX10_terms_X10_isTerm : GoodIn wsX10_terms (va_wsS RX10 162 yX10_isTerm wsX10_isTerm) := goodIn_app (goodIn_of _ (by decide +kernel)) ggX10_terms_X10_isTerm
set_option maxRecDepth 20000 in
theorem ggX10_terms_X10_refuses : GoodIn wsX10_terms wsX10_refuses := goodIn_r _ [15, 16, 17, 30, 31, 32, 33, 34, 35, 36, 37, 38, 39, 40, 41, 42, 43, 44, 45, 46, 47, 48, 49, 50, 51, 52, 53, 54, 55, 56, 57, 58, 59, 60, 61, 62, 63, 64, 65, 66, 67, 68, 69, 70, 71, 72, 73, 74, 75, 76, 77, 78, 79, 80, 81, 82, 83, 84, 85] rfl (by decide +kernel)
set_option maxRecDepth 20000 in
theorem gX10_terms_X10_refuses : GoodIn wsX10_terms (wsV RX10 119 RX10 yX10_refuses wsX10_refuses) := goodIn_app (goodIn_of _ (by decide +kernel)) ggX10_terms_X10_refuses
set_option maxRecDepth 20000 in
theorem ggX10_terms_X10_termAt : GoodIn wsX10_terms wsX10_termAt := goodIn_r _ [20] rfl (by decide +kernel)
set_option maxRecDepth 20000 in
theorem gX10_terms_X10_termAt : GoodIn wsX10_terms (va_wsS RX10 166 yX10_termAt wsX10_termAt) := goodIn_app (goodIn_of _ (by decide +kernel)) ggX10_terms_X10_termAt
set_option maxRecDepth 20000 in
theorem ggX10_terms_X10_settled : GoodIn wsX10_terms wsX10_settled := goodIn_r _ [24, 25, 26, 27, 28, 4, 29, 16, 30, 31, 32, 33, 34, 35, 36, 37, 38, 39, 40, 41, 42, 43, 44, 45, 46, 47, 48, 49, 50, 51, 52, 53, 54, 55, 56, 57, 58, 59, 60, 61, 62, 63, 64, 65, 66, 67, 68, 69, 70, 71, 72, 73, 74, 75, 76, 77, 78, 79, 80, 81, 82, 83, 84, 85] rfl (by decide +kernel)
set_option maxRecDepth 20000 in
theorem gX10_terms_X10_settled : GoodIn wsX10_terms (wsV RX10 122 RX10 yX10_settled wsX10_settled) := goodIn_app (goodIn_of _ (by decide +kernel)) ggX10_terms_X10_settled
theorem da9_dX10_terms_0 : (decode cX10_terms 0 = .ok (.iload_n 1, 1)) ∧ (decode cX10_terms 1 = .ok (.iload_n 2, 1)) ∧ (decode cX10_terms 2 = .ok (.invokestatic 162, 3)) ∧ (decode cX10_terms 5 = .ok (.ifCond .ne 9, 3)) ∧ (decode cX10_terms 8 = .ok (.aload_n 0, 1)) ∧ (decode cX10_terms 9 = .ok (.iconst (-1), 1)) ∧ (decode cX10_terms 10 = .ok (.invokevirtual 119, 3)) ∧ (decode cX10_terms 13 = .ok (.ireturn, 1)) ∧ (decode cX10_terms 14 = .ok (.aload_n 0, 1)) ∧ (decode cX10_terms 15 = .ok (.getfield 28, 3)) ∧ (decode cX10_terms 18 = .ok (.iload_n 1, 1)) ∧ (decode cX10_terms 19 = .ok (.invokestatic 166, 3)) ∧ (decode cX10_terms 22 = .ok (.iaload, 1)) ∧ (decode cX10_terms 23 = .ok (.istore_n 3, 1)) ∧ (decode cX10_terms 24 = .ok (.aload_n 0, 1)) ∧ (decode cX10_terms 25 = .ok (.getfield 28, 3)) := by decide +kernel
theorem dX10_terms_0 : decode cX10_terms 0 = .ok (.iload_n 1, 1) := da9_dX10_terms_0.1
theorem dX10_terms_1 : decode cX10_terms 1 = .ok (.iload_n 2, 1) := da9_dX10_terms_0.2.1
theorem dX10_terms_2 : decode cX10_terms 2 = .ok (.invokestatic 162, 3) := da9_dX10_terms_0.2.2.1
theorem dX10_terms_5 : decode cX10_terms 5 = .ok (.ifCond .ne 9, 3) := da9_dX10_terms_0.2.2.2.1
theorem dX10_terms_8 : decode cX10_terms 8 = .ok (.aload_n 0, 1) := da9_dX10_terms_0.2.2.2.2.1
theorem dX10_terms_9 : decode cX10_terms 9 = .ok (.iconst (-1), 1) := da9_dX10_terms_0.2.2.2.2.2.1
theorem dX10_terms_10 : decode cX10_terms 10 = .ok (.invokevirtual 119, 3) := da9_dX10_terms_0.2.2.2.2.2.2.1
theorem dX10_terms_13 : decode cX10_terms 13 = .ok (.ireturn, 1) := da9_dX10_terms_0.2.2.2.2.2.2.2.1
theorem dX10_terms_14 : decode cX10_terms 14 = .ok (.aload_n 0, 1) := da9_dX10_terms_0.2.2.2.2.2.2.2.2.1
theorem dX10_terms_15 : decode cX10_terms 15 = .ok (.getfield 28, 3) := da9_dX10_terms_0.2.2.2.2.2.2.2.2.2.1
theorem dX10_terms_18 : decode cX10_terms 18 = .ok (.iload_n 1, 1) := da9_dX10_terms_0.2.2.2.2.2.2.2.2.2.2.1
theorem dX10_terms_19 : decode cX10_terms 19 = .ok (.invokestatic 166, 3) := da9_dX10_terms_0.2.2.2.2.2.2.2.2.2.2.2.1
theorem dX10_terms_22 : decode cX10_terms 22 = .ok (.iaload, 1) := da9_dX10_terms_0.2.2.2.2.2.2.2.2.2.2.2.2.1
theorem dX10_terms_23 : decode cX10_terms 23 = .ok (.istore_n 3, 1) := da9_dX10_terms_0.2.2.2.2.2.2.2.2.2.2.2.2.2.1
theorem dX10_terms_24 : decode cX10_terms 24 = .ok (.aload_n 0, 1) := da9_dX10_terms_0.2.2.2.2.2.2.2.2.2.2.2.2.2.2.1
theorem dX10_terms_25 : decode cX10_terms 25 = .ok (.getfield 28, 3) := da9_dX10_terms_0.2.2.2.2.2.2.2.2.2.2.2.2.2.2.2
theorem da9_dX10_terms_28 : (decode cX10_terms 28 = .ok (.iload_n 1, 1)) ∧ (decode cX10_terms 29 = .ok (.invokestatic 166, 3)) ∧ (decode cX10_terms 32 = .ok (.iload_n 2, 1)) ∧ (decode cX10_terms 33 = .ok (.iastore, 1)) ∧ (decode cX10_terms 34 = .ok (.aload_n 0, 1)) ∧ (decode cX10_terms 35 = .ok (.iload_n 3, 1)) ∧ (decode cX10_terms 36 = .ok (.invokevirtual 122, 3)) ∧ (decode cX10_terms 39 = .ok (.ireturn, 1)) := by decide +kernel
theorem dX10_terms_28 : decode cX10_terms 28 = .ok (.iload_n 1, 1) := da9_dX10_terms_28.1
theorem dX10_terms_29 : decode cX10_terms 29 = .ok (.invokestatic 166, 3) := da9_dX10_terms_28.2.1
theorem dX10_terms_32 : decode cX10_terms 32 = .ok (.iload_n 2, 1) := da9_dX10_terms_28.2.2.1
theorem dX10_terms_33 : decode cX10_terms 33 = .ok (.iastore, 1) := da9_dX10_terms_28.2.2.2.1
theorem dX10_terms_34 : decode cX10_terms 34 = .ok (.aload_n 0, 1) := da9_dX10_terms_28.2.2.2.2.1
theorem dX10_terms_35 : decode cX10_terms 35 = .ok (.iload_n 3, 1) := da9_dX10_terms_28.2.2.2.2.2.1
theorem dX10_terms_36 : decode cX10_terms 36 = .ok (.invokevirtual 122, 3) := da9_dX10_terms_28.2.2.2.2.2.2.1
theorem dX10_terms_39 : decode cX10_terms 39 = .ok (.ireturn, 1) := da9_dX10_terms_28.2.2.2.2.2.2.2
set_option maxRecDepth 20000 in
theorem ggX10_testOf_X10_bothOf : GoodIn wsX10_testOf wsX10_bothOf := goodIn_r _ [16, 17, 18, 19, 4, 5, 6, 7, 8, 9, 10, 11, 12, 13, 14, 15, 20, 21, 22, 23, 24, 25, 26, 27, 28, 29, 30, 31, 32, 33, 34, 35, 36, 37, 38, 39, 40, 41, 42, 43, 44, 45, 46, 47, 48, 49, 50, 51, 52, 53, 54, 55, 56, 57, 58, 59, 60, 61, 62, 63, 64, 65, 66, 67, 68, 69, 70, 71, 72, 73, 74, 75, 76, 0, 1, 2, 3, 77, 78, 79, 80, 81, 82, 83, 84, 85, 86, 87, 88, 89, 90, 91, 92, 93, 94, 95, 96, 97, 98, 99, 100, 101, 102, 103, 104, 105, 106, 107, 108, 109, 110, 111, 112, 113, 114, 115, 116, 117, 118, 119, 120, 121, 122, 123, 124, 125, 126, 127, 128, 129, 130, 131, 132] rfl (by decide +kernel)
set_option maxRecDepth 20000 in
theorem gX10_testOf_X10_bothOf : GoodIn wsX10_testOf (wsV RX10 323 RX10 yX10_bothOf wsX10_bothOf) := goodIn_app (goodIn_of _ (by decide +kernel)) ggX10_testOf_X10_bothOf
set_option maxRecDepth 20000 in
theorem ggX10_testOf_X10_passes0 : GoodIn wsX10_testOf wsX10_passes0 := goodIn_r _ [8, 9, 10, 11, 12, 4, 13, 14, 15, 77, 78, 79, 80, 81, 82, 83, 84, 85, 86, 87, 88, 89, 90, 91, 92, 93, 94, 95, 96, 97, 98, 99, 100, 101, 102, 103, 104, 105, 106, 107, 108, 109, 110, 111, 112, 113, 114, 115, 116, 117, 118, 119, 120, 121, 122, 123, 124, 125, 126, 127, 128, 129, 130, 131, 132] rfl (by decide +kernel)
set_option maxRecDepth 20000 in
theorem gX10_testOf_X10_passes0 : GoodIn wsX10_testOf (wsV RX10 302 RX10 yX10_passes0 wsX10_passes0) := goodIn_app (goodIn_of _ (by decide +kernel)) ggX10_testOf_X10_passes0
theorem da9_dX10_testOf_0 : (decode cX10_testOf 0 = .ok (.aload_n 0, 1)) ∧ (decode cX10_testOf 1 = .ok (.iload_n 1, 1)) ∧ (decode cX10_testOf 2 = .ok (.invokevirtual 323, 3)) ∧ (decode cX10_testOf 5 = .ok (.istore_n 2, 1)) ∧ (decode cX10_testOf 6 = .ok (.aload_n 0, 1)) ∧ (decode cX10_testOf 7 = .ok (.iconst 5, 1)) ∧ (decode cX10_testOf 8 = .ok (.invokevirtual 302, 3)) ∧ (decode cX10_testOf 11 = .ok (.ifCond .eq 38, 3)) ∧ (decode cX10_testOf 14 = .ok (.aload_n 0, 1)) ∧ (decode cX10_testOf 15 = .ok (.iload_n 1, 1)) ∧ (decode cX10_testOf 16 = .ok (.ifCond .eq 11, 3)) ∧ (decode cX10_testOf 19 = .ok (.iload_n 2, 1)) ∧ (decode cX10_testOf 20 = .ok (.ifCond .ne 7, 3)) ∧ (decode cX10_testOf 23 = .ok (.iconst 1, 1)) ∧ (decode cX10_testOf 24 = .ok (.goto 4, 3)) ∧ (decode cX10_testOf 27 = .ok (.iconst 0, 1)) := by decide +kernel
theorem dX10_testOf_0 : decode cX10_testOf 0 = .ok (.aload_n 0, 1) := da9_dX10_testOf_0.1
theorem dX10_testOf_1 : decode cX10_testOf 1 = .ok (.iload_n 1, 1) := da9_dX10_testOf_0.2.1
theorem dX10_testOf_2 : decode cX10_testOf 2 = .ok (.invokevirtual 323, 3) := da9_dX10_testOf_0.2.2.1
theorem dX10_testOf_5 : decode cX10_testOf 5 = .ok (.istore_n 2, 1) := da9_dX10_testOf_0.2.2.2.1
theorem dX10_testOf_6 : decode cX10_testOf 6 = .ok (.aload_n 0, 1) := da9_dX10_testOf_0.2.2.2.2.1
theorem dX10_testOf_7 : decode cX10_testOf 7 = .ok (.iconst 5, 1) := da9_dX10_testOf_0.2.2.2.2.2.1
theorem dX10_testOf_8 : decode cX10_testOf 8 = .ok (.invokevirtual 302, 3) := da9_dX10_testOf_0.2.2.2.2.2.2.1
theorem dX10_testOf_11 : decode cX10_testOf 11 = .ok (.ifCond .eq 38, 3) := da9_dX10_testOf_0.2.2.2.2.2.2.2.1
theorem dX10_testOf_14 : decode cX10_testOf 14 = .ok (.aload_n 0, 1) := da9_dX10_testOf_0.2.2.2.2.2.2.2.2.1
theorem dX10_testOf_15 : decode cX10_testOf 15 = .ok (.iload_n 1, 1) := da9_dX10_testOf_0.2.2.2.2.2.2.2.2.2.1
theorem dX10_testOf_16 : decode cX10_testOf 16 = .ok (.ifCond .eq 11, 3) := da9_dX10_testOf_0.2.2.2.2.2.2.2.2.2.2.1
theorem dX10_testOf_19 : decode cX10_testOf 19 = .ok (.iload_n 2, 1) := da9_dX10_testOf_0.2.2.2.2.2.2.2.2.2.2.2.1
theorem dX10_testOf_20 : decode cX10_testOf 20 = .ok (.ifCond .ne 7, 3) := da9_dX10_testOf_0.2.2.2.2.2.2.2.2.2.2.2.2.1
theorem dX10_testOf_23 : decode cX10_testOf 23 = .ok (.iconst 1, 1) := da9_dX10_testOf_0.2.2.2.2.2.2.2.2.2.2.2.2.2.1
theorem dX10_testOf_24 : decode cX10_testOf 24 = .ok (.goto 4, 3) := da9_dX10_testOf_0.2.2.2.2.2.2.2.2.2.2.2.2.2.2.1
theorem dX10_testOf_27 : decode cX10_testOf 27 = .ok (.iconst 0, 1) := da9_dX10_testOf_0.2.2.2.2.2.2.2.2.2.2.2.2.2.2.2
theorem da9_dX10_testOf_28 : (decode cX10_testOf 28 = .ok (.invokevirtual 323, 3)) ∧ (decode cX10_testOf 31 = .ok (.istore_n 3, 1)) ∧ (decode cX10_testOf 32 = .ok (.iload_n 2, 1)) ∧ (decode cX10_testOf 33 = .ok (.ifCond .ne 7, 3)) ∧ (decode cX10_testOf 36 = .ok (.iload_n 3, 1)) ∧ (decode cX10_testOf 37 = .ok (.ifCond .eq 7, 3)) ∧ (decode cX10_testOf 40 = .ok (.iconst 1, 1)) ∧ (decode cX10_testOf 41 = .ok (.goto 4, 3)) ∧ (decode cX10_testOf 44 = .ok (.iconst 0, 1)) ∧ (decode cX10_testOf 45 = .ok (.istore_n 2, 1)) ∧ (decode cX10_testOf 46 = .ok (.goto (-40), 3)) ∧ (decode cX10_testOf 49 = .ok (.iload_n 2, 1)) ∧ (decode cX10_testOf 50 = .ok (.ireturn, 1)) := by decide +kernel
theorem dX10_testOf_28 : decode cX10_testOf 28 = .ok (.invokevirtual 323, 3) := da9_dX10_testOf_28.1
theorem dX10_testOf_31 : decode cX10_testOf 31 = .ok (.istore_n 3, 1) := da9_dX10_testOf_28.2.1
theorem dX10_testOf_32 : decode cX10_testOf 32 = .ok (.iload_n 2, 1) := da9_dX10_testOf_28.2.2.1
theorem dX10_testOf_33 : decode cX10_testOf 33 = .ok (.ifCond .ne 7, 3) := da9_dX10_testOf_28.2.2.2.1
theorem dX10_testOf_36 : decode cX10_testOf 36 = .ok (.iload_n 3, 1) := da9_dX10_testOf_28.2.2.2.2.1
theorem dX10_testOf_37 : decode cX10_testOf 37 = .ok (.ifCond .eq 7, 3) := da9_dX10_testOf_28.2.2.2.2.2.1
theorem dX10_testOf_40 : decode cX10_testOf 40 = .ok (.iconst 1, 1) := da9_dX10_testOf_28.2.2.2.2.2.2.1
theorem dX10_testOf_41 : decode cX10_testOf 41 = .ok (.goto 4, 3) := da9_dX10_testOf_28.2.2.2.2.2.2.2.1
theorem dX10_testOf_44 : decode cX10_testOf 44 = .ok (.iconst 0, 1) := da9_dX10_testOf_28.2.2.2.2.2.2.2.2.1
theorem dX10_testOf_45 : decode cX10_testOf 45 = .ok (.istore_n 2, 1) := da9_dX10_testOf_28.2.2.2.2.2.2.2.2.2.1
theorem dX10_testOf_46 : decode cX10_testOf 46 = .ok (.goto (-40), 3) := da9_dX10_testOf_28.2.2.2.2.2.2.2.2.2.2.1
theorem dX10_testOf_49 : decode cX10_testOf 49 = .ok (.iload_n 2, 1) := da9_dX10_testOf_28.2.2.2.2.2.2.2.2.2.2.2.1
theorem dX10_testOf_50 : decode cX10_testOf 50 = .ok (.ireturn, 1) := da9_dX10_testOf_28.2.2.2.2.2.2.2.2.2.2.2.2
set_option maxRecDepth 20000 in
theorem ggX10_setsTurn_X10_setsAsked : GoodIn wsX10_setsTurn wsX10_setsAsked := goodIn_r _ [6, 1, 7, 8, 9, 10, 5, 11, 12, 13, 14, 15, 16, 17, 18, 19, 20, 21, 22, 23, 24, 25, 26, 27, 28, 29, 30, 31, 32, 33, 34, 35, 36, 37, 38, 39, 40, 41, 42, 43, 44, 45, 46, 47, 48, 49, 50, 51, 52, 53, 54, 55, 56, 57, 58, 59, 60, 61, 62, 63, 64, 65, 66, 67] rfl (by decide +kernel)
set_option maxRecDepth 20000 in
theorem gX10_setsTurn_X10_setsAsked : GoodIn wsX10_setsTurn (wsV RX10 335 RX10 yX10_setsAsked wsX10_setsAsked) := goodIn_app (goodIn_of _ (by decide +kernel)) ggX10_setsTurn_X10_setsAsked
theorem da9_dX10_setsTurn_0 : (decode cX10_setsTurn 0 = .ok (.aload_n 0, 1)) ∧ (decode cX10_setsTurn 1 = .ok (.getfield 63, 3)) ∧ (decode cX10_setsTurn 4 = .ok (.iconst 0, 1)) ∧ (decode cX10_setsTurn 5 = .ok (.iload_n 1, 1)) ∧ (decode cX10_setsTurn 6 = .ok (.iastore, 1)) ∧ (decode cX10_setsTurn 7 = .ok (.aload_n 0, 1)) ∧ (decode cX10_setsTurn 8 = .ok (.getfield 63, 3)) ∧ (decode cX10_setsTurn 11 = .ok (.iconst 1, 1)) ∧ (decode cX10_setsTurn 12 = .ok (.iload_n 2, 1)) ∧ (decode cX10_setsTurn 13 = .ok (.iastore, 1)) ∧ (decode cX10_setsTurn 14 = .ok (.aload_n 0, 1)) ∧ (decode cX10_setsTurn 15 = .ok (.getfield 63, 3)) ∧ (decode cX10_setsTurn 18 = .ok (.iconst 2, 1)) ∧ (decode cX10_setsTurn 19 = .ok (.iload_n 3, 1)) ∧ (decode cX10_setsTurn 20 = .ok (.iastore, 1)) ∧ (decode cX10_setsTurn 21 = .ok (.aload_n 0, 1)) := by decide +kernel
theorem dX10_setsTurn_0 : decode cX10_setsTurn 0 = .ok (.aload_n 0, 1) := da9_dX10_setsTurn_0.1
theorem dX10_setsTurn_1 : decode cX10_setsTurn 1 = .ok (.getfield 63, 3) := da9_dX10_setsTurn_0.2.1
theorem dX10_setsTurn_4 : decode cX10_setsTurn 4 = .ok (.iconst 0, 1) := da9_dX10_setsTurn_0.2.2.1
theorem dX10_setsTurn_5 : decode cX10_setsTurn 5 = .ok (.iload_n 1, 1) := da9_dX10_setsTurn_0.2.2.2.1
theorem dX10_setsTurn_6 : decode cX10_setsTurn 6 = .ok (.iastore, 1) := da9_dX10_setsTurn_0.2.2.2.2.1
theorem dX10_setsTurn_7 : decode cX10_setsTurn 7 = .ok (.aload_n 0, 1) := da9_dX10_setsTurn_0.2.2.2.2.2.1
theorem dX10_setsTurn_8 : decode cX10_setsTurn 8 = .ok (.getfield 63, 3) := da9_dX10_setsTurn_0.2.2.2.2.2.2.1
theorem dX10_setsTurn_11 : decode cX10_setsTurn 11 = .ok (.iconst 1, 1) := da9_dX10_setsTurn_0.2.2.2.2.2.2.2.1
theorem dX10_setsTurn_12 : decode cX10_setsTurn 12 = .ok (.iload_n 2, 1) := da9_dX10_setsTurn_0.2.2.2.2.2.2.2.2.1
theorem dX10_setsTurn_13 : decode cX10_setsTurn 13 = .ok (.iastore, 1) := da9_dX10_setsTurn_0.2.2.2.2.2.2.2.2.2.1
theorem dX10_setsTurn_14 : decode cX10_setsTurn 14 = .ok (.aload_n 0, 1) := da9_dX10_setsTurn_0.2.2.2.2.2.2.2.2.2.2.1
theorem dX10_setsTurn_15 : decode cX10_setsTurn 15 = .ok (.getfield 63, 3) := da9_dX10_setsTurn_0.2.2.2.2.2.2.2.2.2.2.2.1
theorem dX10_setsTurn_18 : decode cX10_setsTurn 18 = .ok (.iconst 2, 1) := da9_dX10_setsTurn_0.2.2.2.2.2.2.2.2.2.2.2.2.1
theorem dX10_setsTurn_19 : decode cX10_setsTurn 19 = .ok (.iload_n 3, 1) := da9_dX10_setsTurn_0.2.2.2.2.2.2.2.2.2.2.2.2.2.1
theorem dX10_setsTurn_20 : decode cX10_setsTurn 20 = .ok (.iastore, 1) := da9_dX10_setsTurn_0.2.2.2.2.2.2.2.2.2.2.2.2.2.2.1
theorem dX10_setsTurn_21 : decode cX10_setsTurn 21 = .ok (.aload_n 0, 1) := da9_dX10_setsTurn_0.2.2.2.2.2.2.2.2.2.2.2.2.2.2.2
theorem da9_dX10_setsTurn_22 : (decode cX10_setsTurn 22 = .ok (.iconst (-1), 1)) ∧ (decode cX10_setsTurn 23 = .ok (.iconst (-1), 1)) ∧ (decode cX10_setsTurn 24 = .ok (.iload 4, 2)) ∧ (decode cX10_setsTurn 26 = .ok (.invokevirtual 335, 3)) ∧ (decode cX10_setsTurn 29 = .ok (.return_, 1)) := by decide +kernel
theorem dX10_setsTurn_22 : decode cX10_setsTurn 22 = .ok (.iconst (-1), 1) := da9_dX10_setsTurn_22.1
theorem dX10_setsTurn_23 : decode cX10_setsTurn 23 = .ok (.iconst (-1), 1) := da9_dX10_setsTurn_22.2.1
theorem dX10_setsTurn_24 : decode cX10_setsTurn 24 = .ok (.iload 4, 2) := da9_dX10_setsTurn_22.2.2.1
theorem dX10_setsTurn_26 : decode cX10_setsTurn 26 = .ok (.invokevirtual 335, 3) := da9_dX10_setsTurn_22.2.2.2.1
theorem dX10_setsTurn_29 : decode cX10_setsTurn 29 = .ok (.return_, 1) := da9_dX10_setsTurn_22.2.2.2.2
set_option maxRecDepth 20000 in
theorem ggX10_tells_X10_codeAt : GoodIn wsX10_tells wsX10_codeAt := goodIn_r _ [11, 4, 1, 79, 80, 81, 82, 83, 84, 85, 86, 87, 88, 89, 90, 91, 92, 93, 94, 95, 96, 97, 98, 99, 100, 101, 102, 103, 104, 105, 106, 107, 108, 109, 110, 111, 112, 113, 114, 115, 116, 117, 118, 119, 120, 121, 122, 123, 124, 125, 126, 127, 128, 129, 130, 131, 132, 133, 134] rfl (by decide +kernel)
set_option maxRecDepth 20000 in
theorem gX10_tells_X10_codeAt : GoodIn wsX10_tells (wsV RX10 281 RX10 yX10_codeAt wsX10_codeAt) := goodIn_app (goodIn_of _ (by decide +kernel)) ggX10_tells_X10_codeAt
set_option maxRecDepth 20000 in
theorem ggX10_tells_X10_sumOf : GoodIn wsX10_tells wsX10_sumOf := goodIn_r _ [15, 3, 16, 17, 18, 10, 7, 8, 9, 11, 4, 1, 19, 20, 21, 22, 23, 24, 25, 26, 27, 5, 28, 2, 29, 30, 31, 32, 33, 12, 13, 14, 34, 35, 36, 37, 38, 39, 40, 41, 42, 43, 44, 45, 46, 47, 48, 49, 50, 51, 52, 53, 54, 55, 56, 57, 58, 59, 60, 61, 62, 79, 80, 81, 82, 83, 84, 85, 86, 87, 88, 89, 90, 91, 92, 93, 94, 95, 96, 97, 98, 99, 100, 101, 102, 103, 104, 105, 106, 107, 108, 109, 110, 111, 112, 113, 114, 115, 116, 117, 118, 119, 120, 121, 122, 123, 124, 125, 126, 127, 128, 129, 130, 131, 132, 133, 134] rfl (by decide +kernel)
set_option maxRecDepth 20000 in
theorem gX10_tells_X10_sumOf : GoodIn wsX10_tells (wsV RX10 305 RX10 yX10_sumOf wsX10_sumOf) := goodIn_app (goodIn_of _ (by decide +kernel)) ggX10_tells_X10_sumOf
set_option maxRecDepth 20000 in
theorem ggX10_tells_X10_passes0 : GoodIn wsX10_tells wsX10_passes0 := goodIn_r _ [33, 3, 7, 8, 9, 10, 11, 4, 1, 79, 80, 81, 82, 83, 84, 85, 86, 87, 88, 89, 90, 91, 92, 93, 94, 95, 96, 97, 98, 99, 100, 101, 102, 103, 104, 105, 106, 107, 108, 109, 110, 111, 112, 113, 114, 115, 116, 117, 118, 119, 120, 121, 122, 123, 124, 125, 126, 127, 128, 129, 130, 131, 132, 133, 134] rfl (by decide +kernel)
set_option maxRecDepth 20000 in
theorem gX10_tells_X10_passes0 : GoodIn wsX10_tells (wsV RX10 302 RX10 yX10_passes0 wsX10_passes0) := goodIn_app (goodIn_of _ (by decide +kernel)) ggX10_tells_X10_passes0
set_option maxRecDepth 20000 in
theorem ggX10_tells_X10_testOf : GoodIn wsX10_tells wsX10_testOf := goodIn_r _ [66, 67, 68, 69, 10, 30, 31, 32, 33, 3, 7, 8, 9, 11, 4, 1, 70, 71, 72, 73, 74, 75, 76, 77, 78, 5, 19, 20, 21, 63, 64, 65, 12, 13, 14, 15, 16, 17, 18, 22, 23, 24, 25, 26, 27, 28, 2, 29, 34, 35, 36, 37, 38, 39, 40, 41, 42, 43, 44, 45, 46, 47, 48, 49, 50, 51, 52, 53, 54, 55, 56, 57, 58, 59, 60, 61, 62, 79, 80, 81, 82, 83, 84, 85, 86, 87, 88, 89, 90, 91, 92, 93, 94, 95, 96, 97, 98, 99, 100, 101, 102, 103, 104, 105, 106, 107, 108, 109, 110, 111, 112, 113, 114, 115, 116, 117, 118, 119, 120, 121, 122, 123, 124, 125, 126, 127, 128, 129, 130, 131, 132, 133, 134] rfl (by decide +kernel)
set_option maxRecDepth 20000 in
theorem gX10_tells_X10_testOf : GoodIn wsX10_tells (wsV RX10 332 RX10 yX10_testOf wsX10_testOf) := goodIn_app (goodIn_of _ (by decide +kernel)) ggX10_tells_X10_testOf
theorem da9_dX10_tells_0 : (decode cX10_tells 0 = .ok (.aload_n 0, 1)) ∧ (decode cX10_tells 1 = .ok (.getfield 28, 3)) ∧ (decode cX10_tells 4 = .ok (.bipush 32, 2)) ∧ (decode cX10_tells 6 = .ok (.iaload, 1)) ∧ (decode cX10_tells 7 = .ok (.iconst (-1), 1)) ∧ (decode cX10_tells 8 = .ok (.if_icmp .ne 5, 3)) ∧ (decode cX10_tells 11 = .ok (.iload_n 2, 1)) ∧ (decode cX10_tells 12 = .ok (.ireturn, 1)) ∧ (decode cX10_tells 13 = .ok (.aload_n 0, 1)) ∧ (decode cX10_tells 14 = .ok (.iconst 0, 1)) ∧ (decode cX10_tells 15 = .ok (.putfield 308, 3)) ∧ (decode cX10_tells 18 = .ok (.iload_n 2, 1)) ∧ (decode cX10_tells 19 = .ok (.i2l, 1)) ∧ (decode cX10_tells 20 = .ok (.lstore_n 3, 1)) ∧ (decode cX10_tells 21 = .ok (.aload_n 0, 1)) ∧ (decode cX10_tells 22 = .ok (.sipush 400, 3)) := by decide +kernel
theorem dX10_tells_0 : decode cX10_tells 0 = .ok (.aload_n 0, 1) := da9_dX10_tells_0.1
theorem dX10_tells_1 : decode cX10_tells 1 = .ok (.getfield 28, 3) := da9_dX10_tells_0.2.1
theorem dX10_tells_4 : decode cX10_tells 4 = .ok (.bipush 32, 2) := da9_dX10_tells_0.2.2.1
theorem dX10_tells_6 : decode cX10_tells 6 = .ok (.iaload, 1) := da9_dX10_tells_0.2.2.2.1
theorem dX10_tells_7 : decode cX10_tells 7 = .ok (.iconst (-1), 1) := da9_dX10_tells_0.2.2.2.2.1
theorem dX10_tells_8 : decode cX10_tells 8 = .ok (.if_icmp .ne 5, 3) := da9_dX10_tells_0.2.2.2.2.2.1
theorem dX10_tells_11 : decode cX10_tells 11 = .ok (.iload_n 2, 1) := da9_dX10_tells_0.2.2.2.2.2.2.1
theorem dX10_tells_12 : decode cX10_tells 12 = .ok (.ireturn, 1) := da9_dX10_tells_0.2.2.2.2.2.2.2.1
theorem dX10_tells_13 : decode cX10_tells 13 = .ok (.aload_n 0, 1) := da9_dX10_tells_0.2.2.2.2.2.2.2.2.1
theorem dX10_tells_14 : decode cX10_tells 14 = .ok (.iconst 0, 1) := da9_dX10_tells_0.2.2.2.2.2.2.2.2.2.1
theorem dX10_tells_15 : decode cX10_tells 15 = .ok (.putfield 308, 3) := da9_dX10_tells_0.2.2.2.2.2.2.2.2.2.2.1
theorem dX10_tells_18 : decode cX10_tells 18 = .ok (.iload_n 2, 1) := da9_dX10_tells_0.2.2.2.2.2.2.2.2.2.2.2.1
theorem dX10_tells_19 : decode cX10_tells 19 = .ok (.i2l, 1) := da9_dX10_tells_0.2.2.2.2.2.2.2.2.2.2.2.2.1
theorem dX10_tells_20 : decode cX10_tells 20 = .ok (.lstore_n 3, 1) := da9_dX10_tells_0.2.2.2.2.2.2.2.2.2.2.2.2.2.1
theorem dX10_tells_21 : decode cX10_tells 21 = .ok (.aload_n 0, 1) := da9_dX10_tells_0.2.2.2.2.2.2.2.2.2.2.2.2.2.2.1
theorem dX10_tells_22 : decode cX10_tells 22 = .ok (.sipush 400, 3) := da9_dX10_tells_0.2.2.2.2.2.2.2.2.2.2.2.2.2.2.2
theorem da9_dX10_tells_25 : (decode cX10_tells 25 = .ok (.aload_n 0, 1)) ∧ (decode cX10_tells 26 = .ok (.getfield 28, 3)) ∧ (decode cX10_tells 29 = .ok (.bipush 32, 2)) ∧ (decode cX10_tells 31 = .ok (.iaload, 1)) ∧ (decode cX10_tells 32 = .ok (.imul, 1)) ∧ (decode cX10_tells 33 = .ok (.putfield 278, 3)) ∧ (decode cX10_tells 36 = .ok (.aload_n 0, 1)) ∧ (decode cX10_tells 37 = .ok (.aload_n 0, 1)) ∧ (decode cX10_tells 38 = .ok (.getfield 278, 3)) ∧ (decode cX10_tells 41 = .ok (.aload_n 0, 1)) ∧ (decode cX10_tells 42 = .ok (.getfield 28, 3)) ∧ (decode cX10_tells 45 = .ok (.bipush 33, 2)) ∧ (decode cX10_tells 47 = .ok (.aload_n 0, 1)) ∧ (decode cX10_tells 48 = .ok (.getfield 28, 3)) ∧ (decode cX10_tells 51 = .ok (.bipush 32, 2)) ∧ (decode cX10_tells 53 = .ok (.iaload, 1)) := by decide +kernel
theorem dX10_tells_25 : decode cX10_tells 25 = .ok (.aload_n 0, 1) := da9_dX10_tells_25.1
theorem dX10_tells_26 : decode cX10_tells 26 = .ok (.getfield 28, 3) := da9_dX10_tells_25.2.1
theorem dX10_tells_29 : decode cX10_tells 29 = .ok (.bipush 32, 2) := da9_dX10_tells_25.2.2.1
theorem dX10_tells_31 : decode cX10_tells 31 = .ok (.iaload, 1) := da9_dX10_tells_25.2.2.2.1
theorem dX10_tells_32 : decode cX10_tells 32 = .ok (.imul, 1) := da9_dX10_tells_25.2.2.2.2.1
theorem dX10_tells_33 : decode cX10_tells 33 = .ok (.putfield 278, 3) := da9_dX10_tells_25.2.2.2.2.2.1
theorem dX10_tells_36 : decode cX10_tells 36 = .ok (.aload_n 0, 1) := da9_dX10_tells_25.2.2.2.2.2.2.1
theorem dX10_tells_37 : decode cX10_tells 37 = .ok (.aload_n 0, 1) := da9_dX10_tells_25.2.2.2.2.2.2.2.1
theorem dX10_tells_38 : decode cX10_tells 38 = .ok (.getfield 278, 3) := da9_dX10_tells_25.2.2.2.2.2.2.2.2.1
theorem dX10_tells_41 : decode cX10_tells 41 = .ok (.aload_n 0, 1) := da9_dX10_tells_25.2.2.2.2.2.2.2.2.2.1
theorem dX10_tells_42 : decode cX10_tells 42 = .ok (.getfield 28, 3) := da9_dX10_tells_25.2.2.2.2.2.2.2.2.2.2.1
theorem dX10_tells_45 : decode cX10_tells 45 = .ok (.bipush 33, 2) := da9_dX10_tells_25.2.2.2.2.2.2.2.2.2.2.2.1
theorem dX10_tells_47 : decode cX10_tells 47 = .ok (.aload_n 0, 1) := da9_dX10_tells_25.2.2.2.2.2.2.2.2.2.2.2.2.1
theorem dX10_tells_48 : decode cX10_tells 48 = .ok (.getfield 28, 3) := da9_dX10_tells_25.2.2.2.2.2.2.2.2.2.2.2.2.2.1
theorem dX10_tells_51 : decode cX10_tells 51 = .ok (.bipush 32, 2) := da9_dX10_tells_25.2.2.2.2.2.2.2.2.2.2.2.2.2.2.1
theorem dX10_tells_53 : decode cX10_tells 53 = .ok (.iaload, 1) := da9_dX10_tells_25.2.2.2.2.2.2.2.2.2.2.2.2.2.2.2
theorem da9_dX10_tells_54 : (decode cX10_tells 54 = .ok (.iadd, 1)) ∧ (decode cX10_tells 55 = .ok (.iaload, 1)) ∧ (decode cX10_tells 56 = .ok (.iadd, 1)) ∧ (decode cX10_tells 57 = .ok (.putfield 275, 3)) ∧ (decode cX10_tells 60 = .ok (.aload_n 0, 1)) ∧ (decode cX10_tells 61 = .ok (.getfield 278, 3)) ∧ (decode cX10_tells 64 = .ok (.aload_n 0, 1)) ∧ (decode cX10_tells 65 = .ok (.getfield 275, 3)) ∧ (decode cX10_tells 68 = .ok (.if_icmp .ge 144, 3)) ∧ (decode cX10_tells 71 = .ok (.aload_n 0, 1)) ∧ (decode cX10_tells 72 = .ok (.aload_n 0, 1)) ∧ (decode cX10_tells 73 = .ok (.getfield 278, 3)) ∧ (decode cX10_tells 76 = .ok (.invokevirtual 281, 3)) ∧ (decode cX10_tells 79 = .ok (.istore 5, 2)) ∧ (decode cX10_tells 81 = .ok (.aload_n 0, 1)) ∧ (decode cX10_tells 82 = .ok (.iconst 0, 1)) := by decide +kernel
theorem dX10_tells_54 : decode cX10_tells 54 = .ok (.iadd, 1) := da9_dX10_tells_54.1
theorem dX10_tells_55 : decode cX10_tells 55 = .ok (.iaload, 1) := da9_dX10_tells_54.2.1
theorem dX10_tells_56 : decode cX10_tells 56 = .ok (.iadd, 1) := da9_dX10_tells_54.2.2.1
theorem dX10_tells_57 : decode cX10_tells 57 = .ok (.putfield 275, 3) := da9_dX10_tells_54.2.2.2.1
theorem dX10_tells_60 : decode cX10_tells 60 = .ok (.aload_n 0, 1) := da9_dX10_tells_54.2.2.2.2.1
theorem dX10_tells_61 : decode cX10_tells 61 = .ok (.getfield 278, 3) := da9_dX10_tells_54.2.2.2.2.2.1
theorem dX10_tells_64 : decode cX10_tells 64 = .ok (.aload_n 0, 1) := da9_dX10_tells_54.2.2.2.2.2.2.1
theorem dX10_tells_65 : decode cX10_tells 65 = .ok (.getfield 275, 3) := da9_dX10_tells_54.2.2.2.2.2.2.2.1
theorem dX10_tells_68 : decode cX10_tells 68 = .ok (.if_icmp .ge 144, 3) := da9_dX10_tells_54.2.2.2.2.2.2.2.2.1
theorem dX10_tells_71 : decode cX10_tells 71 = .ok (.aload_n 0, 1) := da9_dX10_tells_54.2.2.2.2.2.2.2.2.2.1
theorem dX10_tells_72 : decode cX10_tells 72 = .ok (.aload_n 0, 1) := da9_dX10_tells_54.2.2.2.2.2.2.2.2.2.2.1
theorem dX10_tells_73 : decode cX10_tells 73 = .ok (.getfield 278, 3) := da9_dX10_tells_54.2.2.2.2.2.2.2.2.2.2.2.1
theorem dX10_tells_76 : decode cX10_tells 76 = .ok (.invokevirtual 281, 3) := da9_dX10_tells_54.2.2.2.2.2.2.2.2.2.2.2.2.1
theorem dX10_tells_79 : decode cX10_tells 79 = .ok (.istore 5, 2) := da9_dX10_tells_54.2.2.2.2.2.2.2.2.2.2.2.2.2.1
theorem dX10_tells_81 : decode cX10_tells 81 = .ok (.aload_n 0, 1) := da9_dX10_tells_54.2.2.2.2.2.2.2.2.2.2.2.2.2.2.1
theorem dX10_tells_82 : decode cX10_tells 82 = .ok (.iconst 0, 1) := da9_dX10_tells_54.2.2.2.2.2.2.2.2.2.2.2.2.2.2.2
theorem da9_dX10_tells_83 : (decode cX10_tells 83 = .ok (.putfield 288, 3)) ∧ (decode cX10_tells 86 = .ok (.aload_n 0, 1)) ∧ (decode cX10_tells 87 = .ok (.dup, 1)) ∧ (decode cX10_tells 88 = .ok (.getfield 278, 3)) ∧ (decode cX10_tells 91 = .ok (.iconst 1, 1)) ∧ (decode cX10_tells 92 = .ok (.iadd, 1)) ∧ (decode cX10_tells 93 = .ok (.putfield 278, 3)) ∧ (decode cX10_tells 96 = .ok (.iload 5, 2)) ∧ (decode cX10_tells 98 = .ok (.iconst 1, 1)) ∧ (decode cX10_tells 99 = .ok (.if_icmp .ne 11, 3)) ∧ (decode cX10_tells 102 = .ok (.aload_n 0, 1)) ∧ (decode cX10_tells 103 = .ok (.iconst 1, 1)) ∧ (decode cX10_tells 104 = .ok (.invokevirtual 305, 3)) ∧ (decode cX10_tells 107 = .ok (.goto 4, 3)) ∧ (decode cX10_tells 110 = .ok (.lconst 1, 1)) ∧ (decode cX10_tells 111 = .ok (.lstore 6, 2)) := by decide +kernel
theorem dX10_tells_83 : decode cX10_tells 83 = .ok (.putfield 288, 3) := da9_dX10_tells_83.1
theorem dX10_tells_86 : decode cX10_tells 86 = .ok (.aload_n 0, 1) := da9_dX10_tells_83.2.1
theorem dX10_tells_87 : decode cX10_tells 87 = .ok (.dup, 1) := da9_dX10_tells_83.2.2.1
theorem dX10_tells_88 : decode cX10_tells 88 = .ok (.getfield 278, 3) := da9_dX10_tells_83.2.2.2.1
theorem dX10_tells_91 : decode cX10_tells 91 = .ok (.iconst 1, 1) := da9_dX10_tells_83.2.2.2.2.1
theorem dX10_tells_92 : decode cX10_tells 92 = .ok (.iadd, 1) := da9_dX10_tells_83.2.2.2.2.2.1
theorem dX10_tells_93 : decode cX10_tells 93 = .ok (.putfield 278, 3) := da9_dX10_tells_83.2.2.2.2.2.2.1
theorem dX10_tells_96 : decode cX10_tells 96 = .ok (.iload 5, 2) := da9_dX10_tells_83.2.2.2.2.2.2.2.1
theorem dX10_tells_98 : decode cX10_tells 98 = .ok (.iconst 1, 1) := da9_dX10_tells_83.2.2.2.2.2.2.2.2.1
theorem dX10_tells_99 : decode cX10_tells 99 = .ok (.if_icmp .ne 11, 3) := da9_dX10_tells_83.2.2.2.2.2.2.2.2.2.1
theorem dX10_tells_102 : decode cX10_tells 102 = .ok (.aload_n 0, 1) := da9_dX10_tells_83.2.2.2.2.2.2.2.2.2.2.1
theorem dX10_tells_103 : decode cX10_tells 103 = .ok (.iconst 1, 1) := da9_dX10_tells_83.2.2.2.2.2.2.2.2.2.2.2.1
theorem dX10_tells_104 : decode cX10_tells 104 = .ok (.invokevirtual 305, 3) := da9_dX10_tells_83.2.2.2.2.2.2.2.2.2.2.2.2.1
theorem dX10_tells_107 : decode cX10_tells 107 = .ok (.goto 4, 3) := da9_dX10_tells_83.2.2.2.2.2.2.2.2.2.2.2.2.2.1
theorem dX10_tells_110 : decode cX10_tells 110 = .ok (.lconst 1, 1) := da9_dX10_tells_83.2.2.2.2.2.2.2.2.2.2.2.2.2.2.1
theorem dX10_tells_111 : decode cX10_tells 111 = .ok (.lstore 6, 2) := da9_dX10_tells_83.2.2.2.2.2.2.2.2.2.2.2.2.2.2.2
theorem da9_dX10_tells_113 : (decode cX10_tells 113 = .ok (.aload_n 0, 1)) ∧ (decode cX10_tells 114 = .ok (.getfield 288, 3)) ∧ (decode cX10_tells 117 = .ok (.istore 8, 2)) ∧ (decode cX10_tells 119 = .ok (.aload_n 0, 1)) ∧ (decode cX10_tells 120 = .ok (.iconst 0, 1)) ∧ (decode cX10_tells 121 = .ok (.putfield 288, 3)) ∧ (decode cX10_tells 124 = .ok (.aload_n 0, 1)) ∧ (decode cX10_tells 125 = .ok (.iconst 4, 1)) ∧ (decode cX10_tells 126 = .ok (.invokevirtual 302, 3)) ∧ (decode cX10_tells 129 = .ok (.ifCond .eq 11, 3)) ∧ (decode cX10_tells 132 = .ok (.aload_n 0, 1)) ∧ (decode cX10_tells 133 = .ok (.iconst 1, 1)) ∧ (decode cX10_tells 134 = .ok (.invokevirtual 332, 3)) ∧ (decode cX10_tells 137 = .ok (.ifCond .eq 7, 3)) ∧ (decode cX10_tells 140 = .ok (.iconst 1, 1)) ∧ (decode cX10_tells 141 = .ok (.goto 4, 3)) := by decide +kernel
theorem dX10_tells_113 : decode cX10_tells 113 = .ok (.aload_n 0, 1) := da9_dX10_tells_113.1
theorem dX10_tells_114 : decode cX10_tells 114 = .ok (.getfield 288, 3) := da9_dX10_tells_113.2.1
theorem dX10_tells_117 : decode cX10_tells 117 = .ok (.istore 8, 2) := da9_dX10_tells_113.2.2.1
theorem dX10_tells_119 : decode cX10_tells 119 = .ok (.aload_n 0, 1) := da9_dX10_tells_113.2.2.2.1
theorem dX10_tells_120 : decode cX10_tells 120 = .ok (.iconst 0, 1) := da9_dX10_tells_113.2.2.2.2.1
theorem dX10_tells_121 : decode cX10_tells 121 = .ok (.putfield 288, 3) := da9_dX10_tells_113.2.2.2.2.2.1
theorem dX10_tells_124 : decode cX10_tells 124 = .ok (.aload_n 0, 1) := da9_dX10_tells_113.2.2.2.2.2.2.1
theorem dX10_tells_125 : decode cX10_tells 125 = .ok (.iconst 4, 1) := da9_dX10_tells_113.2.2.2.2.2.2.2.1
theorem dX10_tells_126 : decode cX10_tells 126 = .ok (.invokevirtual 302, 3) := da9_dX10_tells_113.2.2.2.2.2.2.2.2.1
theorem dX10_tells_129 : decode cX10_tells 129 = .ok (.ifCond .eq 11, 3) := da9_dX10_tells_113.2.2.2.2.2.2.2.2.2.1
theorem dX10_tells_132 : decode cX10_tells 132 = .ok (.aload_n 0, 1) := da9_dX10_tells_113.2.2.2.2.2.2.2.2.2.2.1
theorem dX10_tells_133 : decode cX10_tells 133 = .ok (.iconst 1, 1) := da9_dX10_tells_113.2.2.2.2.2.2.2.2.2.2.2.1
theorem dX10_tells_134 : decode cX10_tells 134 = .ok (.invokevirtual 332, 3) := da9_dX10_tells_113.2.2.2.2.2.2.2.2.2.2.2.2.1
theorem dX10_tells_137 : decode cX10_tells 137 = .ok (.ifCond .eq 7, 3) := da9_dX10_tells_113.2.2.2.2.2.2.2.2.2.2.2.2.2.1
theorem dX10_tells_140 : decode cX10_tells 140 = .ok (.iconst 1, 1) := da9_dX10_tells_113.2.2.2.2.2.2.2.2.2.2.2.2.2.2.1
theorem dX10_tells_141 : decode cX10_tells 141 = .ok (.goto 4, 3) := da9_dX10_tells_113.2.2.2.2.2.2.2.2.2.2.2.2.2.2.2
theorem da9_dX10_tells_144 : (decode cX10_tells 144 = .ok (.iconst 0, 1)) ∧ (decode cX10_tells 145 = .ok (.istore 9, 2)) ∧ (decode cX10_tells 147 = .ok (.iload 5, 2)) ∧ (decode cX10_tells 149 = .ok (.iload_n 1, 1)) ∧ (decode cX10_tells 150 = .ok (.if_icmp .ne 49, 3)) ∧ (decode cX10_tells 153 = .ok (.iload 9, 2)) ∧ (decode cX10_tells 155 = .ok (.ifCond .eq 44, 3)) ∧ (decode cX10_tells 158 = .ok (.aload_n 0, 1)) ∧ (decode cX10_tells 159 = .ok (.getfield 288, 3)) ∧ (decode cX10_tells 162 = .ok (.ifCond .ne 37, 3)) ∧ (decode cX10_tells 165 = .ok (.iload 8, 2)) ∧ (decode cX10_tells 167 = .ok (.ifCond .ne 32, 3)) ∧ (decode cX10_tells 170 = .ok (.lload 6, 2)) ∧ (decode cX10_tells 172 = .ok (.lconst 0, 1)) ∧ (decode cX10_tells 173 = .ok (.lcmp, 1)) ∧ (decode cX10_tells 174 = .ok (.ifCond .ge 7, 3)) := by decide +kernel
theorem dX10_tells_144 : decode cX10_tells 144 = .ok (.iconst 0, 1) := da9_dX10_tells_144.1
theorem dX10_tells_145 : decode cX10_tells 145 = .ok (.istore 9, 2) := da9_dX10_tells_144.2.1
theorem dX10_tells_147 : decode cX10_tells 147 = .ok (.iload 5, 2) := da9_dX10_tells_144.2.2.1
theorem dX10_tells_149 : decode cX10_tells 149 = .ok (.iload_n 1, 1) := da9_dX10_tells_144.2.2.2.1
theorem dX10_tells_150 : decode cX10_tells 150 = .ok (.if_icmp .ne 49, 3) := da9_dX10_tells_144.2.2.2.2.1
theorem dX10_tells_153 : decode cX10_tells 153 = .ok (.iload 9, 2) := da9_dX10_tells_144.2.2.2.2.2.1
theorem dX10_tells_155 : decode cX10_tells 155 = .ok (.ifCond .eq 44, 3) := da9_dX10_tells_144.2.2.2.2.2.2.1
theorem dX10_tells_158 : decode cX10_tells 158 = .ok (.aload_n 0, 1) := da9_dX10_tells_144.2.2.2.2.2.2.2.1
theorem dX10_tells_159 : decode cX10_tells 159 = .ok (.getfield 288, 3) := da9_dX10_tells_144.2.2.2.2.2.2.2.2.1
theorem dX10_tells_162 : decode cX10_tells 162 = .ok (.ifCond .ne 37, 3) := da9_dX10_tells_144.2.2.2.2.2.2.2.2.2.1
theorem dX10_tells_165 : decode cX10_tells 165 = .ok (.iload 8, 2) := da9_dX10_tells_144.2.2.2.2.2.2.2.2.2.2.1
theorem dX10_tells_167 : decode cX10_tells 167 = .ok (.ifCond .ne 32, 3) := da9_dX10_tells_144.2.2.2.2.2.2.2.2.2.2.2.1
theorem dX10_tells_170 : decode cX10_tells 170 = .ok (.lload 6, 2) := da9_dX10_tells_144.2.2.2.2.2.2.2.2.2.2.2.2.1
theorem dX10_tells_172 : decode cX10_tells 172 = .ok (.lconst 0, 1) := da9_dX10_tells_144.2.2.2.2.2.2.2.2.2.2.2.2.2.1
theorem dX10_tells_173 : decode cX10_tells 173 = .ok (.lcmp, 1) := da9_dX10_tells_144.2.2.2.2.2.2.2.2.2.2.2.2.2.2.1
theorem dX10_tells_174 : decode cX10_tells 174 = .ok (.ifCond .ge 7, 3) := da9_dX10_tells_144.2.2.2.2.2.2.2.2.2.2.2.2.2.2.2
theorem da9_dX10_tells_177 : (decode cX10_tells 177 = .ok (.lconst 0, 1)) ∧ (decode cX10_tells 178 = .ok (.goto 20, 3)) ∧ (decode cX10_tells 181 = .ok (.lload 6, 2)) ∧ (decode cX10_tells 183 = .ok (.ldc2_w 339, 3)) ∧ (decode cX10_tells 186 = .ok (.lcmp, 1)) ∧ (decode cX10_tells 187 = .ok (.ifCond .le 9, 3)) ∧ (decode cX10_tells 190 = .ok (.ldc2_w 339, 3)) ∧ (decode cX10_tells 193 = .ok (.goto 5, 3)) ∧ (decode cX10_tells 196 = .ok (.lload 6, 2)) ∧ (decode cX10_tells 198 = .ok (.lstore_n 3, 1)) ∧ (decode cX10_tells 199 = .ok (.aload_n 0, 1)) ∧ (decode cX10_tells 200 = .ok (.dup, 1)) ∧ (decode cX10_tells 201 = .ok (.getfield 278, 3)) ∧ (decode cX10_tells 204 = .ok (.iconst 1, 1)) ∧ (decode cX10_tells 205 = .ok (.iadd, 1)) ∧ (decode cX10_tells 206 = .ok (.putfield 278, 3)) := by decide +kernel
theorem dX10_tells_177 : decode cX10_tells 177 = .ok (.lconst 0, 1) := da9_dX10_tells_177.1
theorem dX10_tells_178 : decode cX10_tells 178 = .ok (.goto 20, 3) := da9_dX10_tells_177.2.1
theorem dX10_tells_181 : decode cX10_tells 181 = .ok (.lload 6, 2) := da9_dX10_tells_177.2.2.1
theorem dX10_tells_183 : decode cX10_tells 183 = .ok (.ldc2_w 339, 3) := da9_dX10_tells_177.2.2.2.1
theorem dX10_tells_186 : decode cX10_tells 186 = .ok (.lcmp, 1) := da9_dX10_tells_177.2.2.2.2.1
theorem dX10_tells_187 : decode cX10_tells 187 = .ok (.ifCond .le 9, 3) := da9_dX10_tells_177.2.2.2.2.2.1
theorem dX10_tells_190 : decode cX10_tells 190 = .ok (.ldc2_w 339, 3) := da9_dX10_tells_177.2.2.2.2.2.2.1
theorem dX10_tells_193 : decode cX10_tells 193 = .ok (.goto 5, 3) := da9_dX10_tells_177.2.2.2.2.2.2.2.1
theorem dX10_tells_196 : decode cX10_tells 196 = .ok (.lload 6, 2) := da9_dX10_tells_177.2.2.2.2.2.2.2.2.1
theorem dX10_tells_198 : decode cX10_tells 198 = .ok (.lstore_n 3, 1) := da9_dX10_tells_177.2.2.2.2.2.2.2.2.2.1
theorem dX10_tells_199 : decode cX10_tells 199 = .ok (.aload_n 0, 1) := da9_dX10_tells_177.2.2.2.2.2.2.2.2.2.2.1
theorem dX10_tells_200 : decode cX10_tells 200 = .ok (.dup, 1) := da9_dX10_tells_177.2.2.2.2.2.2.2.2.2.2.2.1
theorem dX10_tells_201 : decode cX10_tells 201 = .ok (.getfield 278, 3) := da9_dX10_tells_177.2.2.2.2.2.2.2.2.2.2.2.2.1
theorem dX10_tells_204 : decode cX10_tells 204 = .ok (.iconst 1, 1) := da9_dX10_tells_177.2.2.2.2.2.2.2.2.2.2.2.2.2.1
theorem dX10_tells_205 : decode cX10_tells 205 = .ok (.iadd, 1) := da9_dX10_tells_177.2.2.2.2.2.2.2.2.2.2.2.2.2.2.1
theorem dX10_tells_206 : decode cX10_tells 206 = .ok (.putfield 278, 3) := da9_dX10_tells_177.2.2.2.2.2.2.2.2.2.2.2.2.2.2.2
theorem da9_dX10_tells_209 : (decode cX10_tells 209 = .ok (.goto (-149), 3)) ∧ (decode cX10_tells 212 = .ok (.lload_n 3, 1)) ∧ (decode cX10_tells 213 = .ok (.l2i, 1)) ∧ (decode cX10_tells 214 = .ok (.ireturn, 1)) := by decide +kernel
theorem dX10_tells_209 : decode cX10_tells 209 = .ok (.goto (-149), 3) := da9_dX10_tells_209.1
theorem dX10_tells_212 : decode cX10_tells 212 = .ok (.lload_n 3, 1) := da9_dX10_tells_209.2.1
theorem dX10_tells_213 : decode cX10_tells 213 = .ok (.l2i, 1) := da9_dX10_tells_209.2.2.1
theorem dX10_tells_214 : decode cX10_tells 214 = .ok (.ireturn, 1) := da9_dX10_tells_209.2.2.2
set_option maxRecDepth 20000 in
theorem ggX10_paysNow_X10_tells : GoodIn wsX10_paysNow wsX10_tells := goodIn_r _ [6, 7, 8, 9, 10, 11, 12, 13, 14, 15, 5, 16, 17, 18, 19, 20, 21, 22, 23, 24, 25, 26, 27, 28, 29, 30, 31, 32, 33, 1, 34, 35, 36, 37, 38, 39, 40, 41, 42, 43, 44, 45, 46, 47, 48, 49, 50, 51, 52, 53, 54, 55, 56, 57, 58, 59, 60, 61, 62, 63, 64, 65, 66, 67, 68, 69, 70, 71, 72, 73, 74, 75, 76, 77, 78, 79, 80, 81, 82, 83, 84, 85, 86, 87, 88, 89, 90, 91, 92, 93, 94, 95, 96, 97, 98, 99, 100, 101, 102, 103, 104, 105, 106, 107, 108, 109, 110, 111, 112, 113, 114, 115, 116, 117, 118, 119, 120, 121, 122, 123, 124, 125, 126, 127, 128, 129, 130, 131, 132, 133, 134, 135, 136, 137, 138] rfl (by decide +kernel)
set_option maxRecDepth 20000 in
theorem gX10_paysNow_X10_tells : GoodIn wsX10_paysNow (wsV RX10 341 RX10 yX10_tells wsX10_tells) := goodIn_app (goodIn_of _ (by decide +kernel)) ggX10_paysNow_X10_tells
theorem da9_dX10_paysNow_0 : (decode cX10_paysNow 0 = .ok (.aload_n 0, 1)) ∧ (decode cX10_paysNow 1 = .ok (.iconst 1, 1)) ∧ (decode cX10_paysNow 2 = .ok (.aload_n 0, 1)) ∧ (decode cX10_paysNow 3 = .ok (.getfield 63, 3)) ∧ (decode cX10_paysNow 6 = .ok (.iconst 0, 1)) ∧ (decode cX10_paysNow 7 = .ok (.iaload, 1)) ∧ (decode cX10_paysNow 8 = .ok (.invokevirtual 341, 3)) ∧ (decode cX10_paysNow 11 = .ok (.ireturn, 1)) := by decide +kernel
theorem dX10_paysNow_0 : decode cX10_paysNow 0 = .ok (.aload_n 0, 1) := da9_dX10_paysNow_0.1
theorem dX10_paysNow_1 : decode cX10_paysNow 1 = .ok (.iconst 1, 1) := da9_dX10_paysNow_0.2.1
theorem dX10_paysNow_2 : decode cX10_paysNow 2 = .ok (.aload_n 0, 1) := da9_dX10_paysNow_0.2.2.1
theorem dX10_paysNow_3 : decode cX10_paysNow 3 = .ok (.getfield 63, 3) := da9_dX10_paysNow_0.2.2.2.1
theorem dX10_paysNow_6 : decode cX10_paysNow 6 = .ok (.iconst 0, 1) := da9_dX10_paysNow_0.2.2.2.2.1
theorem dX10_paysNow_7 : decode cX10_paysNow 7 = .ok (.iaload, 1) := da9_dX10_paysNow_0.2.2.2.2.2.1
theorem dX10_paysNow_8 : decode cX10_paysNow 8 = .ok (.invokevirtual 341, 3) := da9_dX10_paysNow_0.2.2.2.2.2.2.1
theorem dX10_paysNow_11 : decode cX10_paysNow 11 = .ok (.ireturn, 1) := da9_dX10_paysNow_0.2.2.2.2.2.2.2
set_option maxRecDepth 20000 in
theorem ggX10_isNow_X10_tells : GoodIn wsX10_isNow wsX10_tells := goodIn_r _ [5, 6, 7, 8, 9, 10, 11, 12, 13, 14, 4, 15, 16, 17, 18, 19, 20, 21, 22, 23, 24, 25, 26, 27, 28, 29, 30, 31, 32, 33, 34, 35, 36, 37, 38, 39, 40, 41, 42, 43, 44, 45, 46, 47, 48, 49, 50, 51, 52, 53, 54, 55, 56, 57, 58, 59, 60, 61, 62, 63, 64, 65, 66, 67, 68, 69, 70, 71, 72, 73, 74, 75, 76, 77, 78, 79, 80, 81, 82, 83, 84, 85, 86, 87, 88, 89, 90, 91, 92, 93, 94, 95, 96, 97, 98, 99, 100, 101, 102, 103, 104, 105, 106, 107, 108, 109, 110, 111, 112, 113, 114, 115, 116, 117, 118, 119, 120, 121, 122, 123, 124, 125, 126, 127, 128, 129, 130, 131, 132, 133, 134, 135, 136, 137, 138] rfl (by decide +kernel)
set_option maxRecDepth 20000 in
theorem gX10_isNow_X10_tells : GoodIn wsX10_isNow (wsV RX10 341 RX10 yX10_tells wsX10_tells) := goodIn_app (goodIn_of _ (by decide +kernel)) ggX10_isNow_X10_tells
theorem da9_dX10_isNow_0 : (decode cX10_isNow 0 = .ok (.aload_n 0, 1)) ∧ (decode cX10_isNow 1 = .ok (.iload_n 1, 1)) ∧ (decode cX10_isNow 2 = .ok (.iconst 0, 1)) ∧ (decode cX10_isNow 3 = .ok (.invokevirtual 341, 3)) ∧ (decode cX10_isNow 6 = .ok (.iconst 1, 1)) ∧ (decode cX10_isNow 7 = .ok (.if_icmp .ne 7, 3)) ∧ (decode cX10_isNow 10 = .ok (.iconst 1, 1)) ∧ (decode cX10_isNow 11 = .ok (.goto 4, 3)) ∧ (decode cX10_isNow 14 = .ok (.iconst 0, 1)) ∧ (decode cX10_isNow 15 = .ok (.ireturn, 1)) := by decide +kernel
theorem dX10_isNow_0 : decode cX10_isNow 0 = .ok (.aload_n 0, 1) := da9_dX10_isNow_0.1
theorem dX10_isNow_1 : decode cX10_isNow 1 = .ok (.iload_n 1, 1) := da9_dX10_isNow_0.2.1
theorem dX10_isNow_2 : decode cX10_isNow 2 = .ok (.iconst 0, 1) := da9_dX10_isNow_0.2.2.1
theorem dX10_isNow_3 : decode cX10_isNow 3 = .ok (.invokevirtual 341, 3) := da9_dX10_isNow_0.2.2.2.1
theorem dX10_isNow_6 : decode cX10_isNow 6 = .ok (.iconst 1, 1) := da9_dX10_isNow_0.2.2.2.2.1
theorem dX10_isNow_7 : decode cX10_isNow 7 = .ok (.if_icmp .ne 7, 3) := da9_dX10_isNow_0.2.2.2.2.2.1
theorem dX10_isNow_10 : decode cX10_isNow 10 = .ok (.iconst 1, 1) := da9_dX10_isNow_0.2.2.2.2.2.2.1
theorem dX10_isNow_11 : decode cX10_isNow 11 = .ok (.goto 4, 3) := da9_dX10_isNow_0.2.2.2.2.2.2.2.1
theorem dX10_isNow_14 : decode cX10_isNow 14 = .ok (.iconst 0, 1) := da9_dX10_isNow_0.2.2.2.2.2.2.2.2.1
theorem dX10_isNow_15 : decode cX10_isNow 15 = .ok (.ireturn, 1) := da9_dX10_isNow_0.2.2.2.2.2.2.2.2.2
set_option maxRecDepth 20000 in
theorem ggX10_tipsAt_X10_setsFloor : GoodIn wsX10_tipsAt wsX10_setsFloor := goodIn_r _ [5, 6, 7, 8, 9, 10, 4, 11, 12, 13, 14, 15, 95, 96, 97, 98, 99, 100, 101, 102, 103, 104, 105, 106, 107, 108, 109, 110, 111, 112, 113, 114, 115, 116, 117, 118, 119, 120, 121, 122, 123, 124, 125, 126, 127, 128, 129, 130, 131, 132, 133, 134, 135, 136, 137, 138, 139, 140, 141, 142, 143, 144, 145, 146, 147, 148, 149, 150] rfl (by decide +kernel)
set_option maxRecDepth 20000 in
theorem gX10_tipsAt_X10_setsFloor : GoodIn wsX10_tipsAt (wsV RX10 344 RX10 yX10_setsFloor wsX10_setsFloor) := goodIn_app (goodIn_of _ (by decide +kernel)) ggX10_tipsAt_X10_setsFloor
set_option maxRecDepth 20000 in
theorem ggX10_tipsAt_X10_isNow : GoodIn wsX10_tipsAt wsX10_isNow := goodIn_r _ [19, 20, 21, 22, 4, 23, 7, 24, 25, 26, 27, 28, 29, 30, 31, 32, 33, 34, 35, 36, 37, 38, 39, 40, 41, 42, 43, 44, 45, 46, 47, 48, 49, 6, 50, 51, 52, 53, 54, 55, 56, 57, 58, 59, 60, 61, 62, 63, 12, 13, 14, 15, 64, 65, 66, 67, 68, 69, 70, 71, 72, 73, 74, 75, 76, 77, 78, 79, 80, 81, 82, 83, 84, 85, 86, 87, 88, 89, 90, 91, 92, 93, 94, 95, 96, 97, 98, 99, 100, 101, 102, 103, 104, 105, 106, 107, 108, 109, 110, 111, 112, 113, 114, 115, 116, 117, 118, 119, 120, 121, 122, 123, 124, 125, 126, 127, 128, 129, 130, 131, 132, 133, 134, 135, 136, 137, 138, 139, 140, 141, 142, 143, 144, 145, 146, 147, 148, 149, 150] rfl (by decide +kernel)
set_option maxRecDepth 20000 in
theorem gX10_tipsAt_X10_isNow : GoodIn wsX10_tipsAt (wsV RX10 159 RX10 yX10_isNow wsX10_isNow) := goodIn_app (goodIn_of _ (by decide +kernel)) ggX10_tipsAt_X10_isNow
theorem da9_dX10_tipsAt_0 : (decode cX10_tipsAt 0 = .ok (.aload_n 0, 1)) ∧ (decode cX10_tipsAt 1 = .ok (.iload_n 1, 1)) ∧ (decode cX10_tipsAt 2 = .ok (.invokevirtual 344, 3)) ∧ (decode cX10_tipsAt 5 = .ok (.aload_n 0, 1)) ∧ (decode cX10_tipsAt 6 = .ok (.iconst 3, 1)) ∧ (decode cX10_tipsAt 7 = .ok (.invokevirtual 159, 3)) ∧ (decode cX10_tipsAt 10 = .ok (.ireturn, 1)) := by decide +kernel
theorem dX10_tipsAt_0 : decode cX10_tipsAt 0 = .ok (.aload_n 0, 1) := da9_dX10_tipsAt_0.1
theorem dX10_tipsAt_1 : decode cX10_tipsAt 1 = .ok (.iload_n 1, 1) := da9_dX10_tipsAt_0.2.1
theorem dX10_tipsAt_2 : decode cX10_tipsAt 2 = .ok (.invokevirtual 344, 3) := da9_dX10_tipsAt_0.2.2.1
theorem dX10_tipsAt_5 : decode cX10_tipsAt 5 = .ok (.aload_n 0, 1) := da9_dX10_tipsAt_0.2.2.2.1
theorem dX10_tipsAt_6 : decode cX10_tipsAt 6 = .ok (.iconst 3, 1) := da9_dX10_tipsAt_0.2.2.2.2.1
theorem dX10_tipsAt_7 : decode cX10_tipsAt 7 = .ok (.invokevirtual 159, 3) := da9_dX10_tipsAt_0.2.2.2.2.2.1
theorem dX10_tipsAt_10 : decode cX10_tipsAt 10 = .ok (.ireturn, 1) := da9_dX10_tipsAt_0.2.2.2.2.2.2
