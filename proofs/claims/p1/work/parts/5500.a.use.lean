theorem dX6_term_0 : decode cX6_term 0 = .ok (.iload_n 1, 1) := by decide +kernel
theorem dX6_term_1 : decode cX6_term 1 = .ok (.tableswitch 54 0 3 #[31, 39, 44, 49], 31) := by decide +kernel
theorem dX6_term_32 : decode cX6_term 32 = .ok (.aload_n 0, 1) := by decide +kernel
theorem dX6_term_33 : decode cX6_term 33 = .ok (.getfield 12, 3) := by decide +kernel
theorem dX6_term_36 : decode cX6_term 36 = .ok (.getfield 58, 3) := by decide +kernel
theorem dX6_term_39 : decode cX6_term 39 = .ok (.ireturn, 1) := by decide +kernel
theorem dX6_term_40 : decode cX6_term 40 = .ok (.aload_n 0, 1) := by decide +kernel
theorem dX6_term_41 : decode cX6_term 41 = .ok (.getfield 18, 3) := by decide +kernel
theorem dX6_term_44 : decode cX6_term 44 = .ok (.ireturn, 1) := by decide +kernel
theorem dX6_term_45 : decode cX6_term 45 = .ok (.aload_n 0, 1) := by decide +kernel
theorem dX6_term_46 : decode cX6_term 46 = .ok (.getfield 22, 3) := by decide +kernel
theorem dX6_term_49 : decode cX6_term 49 = .ok (.ireturn, 1) := by decide +kernel
theorem dX6_term_50 : decode cX6_term 50 = .ok (.aload_n 0, 1) := by decide +kernel
theorem dX6_term_51 : decode cX6_term 51 = .ok (.getfield 25, 3) := by decide +kernel
theorem dX6_term_54 : decode cX6_term 54 = .ok (.ireturn, 1) := by decide +kernel
theorem dX6_term_55 : decode cX6_term 55 = .ok (.iconst (-1), 1) := by decide +kernel
theorem dX6_term_56 : decode cX6_term 56 = .ok (.ireturn, 1) := by decide +kernel
theorem dX6_setTerm_0 : decode cX6_setTerm 0 = .ok (.iload_n 1, 1) := by decide +kernel
theorem dX6_setTerm_1 : decode cX6_setTerm 1 = .ok (.tableswitch 66 0 3 #[31, 42, 50, 58], 31) := by decide +kernel
theorem dX6_setTerm_32 : decode cX6_setTerm 32 = .ok (.aload_n 0, 1) := by decide +kernel
theorem dX6_setTerm_33 : decode cX6_setTerm 33 = .ok (.getfield 12, 3) := by decide +kernel
theorem dX6_setTerm_36 : decode cX6_setTerm 36 = .ok (.iload_n 2, 1) := by decide +kernel
theorem dX6_setTerm_37 : decode cX6_setTerm 37 = .ok (.putfield 58, 3) := by decide +kernel
theorem dX6_setTerm_40 : decode cX6_setTerm 40 = .ok (.goto 27, 3) := by decide +kernel
theorem dX6_setTerm_43 : decode cX6_setTerm 43 = .ok (.aload_n 0, 1) := by decide +kernel
theorem dX6_setTerm_44 : decode cX6_setTerm 44 = .ok (.iload_n 2, 1) := by decide +kernel
theorem dX6_setTerm_45 : decode cX6_setTerm 45 = .ok (.putfield 18, 3) := by decide +kernel
theorem dX6_setTerm_48 : decode cX6_setTerm 48 = .ok (.goto 19, 3) := by decide +kernel
theorem dX6_setTerm_51 : decode cX6_setTerm 51 = .ok (.aload_n 0, 1) := by decide +kernel
theorem dX6_setTerm_52 : decode cX6_setTerm 52 = .ok (.iload_n 2, 1) := by decide +kernel
theorem dX6_setTerm_53 : decode cX6_setTerm 53 = .ok (.putfield 22, 3) := by decide +kernel
theorem dX6_setTerm_56 : decode cX6_setTerm 56 = .ok (.goto 11, 3) := by decide +kernel
theorem dX6_setTerm_59 : decode cX6_setTerm 59 = .ok (.aload_n 0, 1) := by decide +kernel
theorem dX6_setTerm_60 : decode cX6_setTerm 60 = .ok (.iload_n 2, 1) := by decide +kernel
theorem dX6_setTerm_61 : decode cX6_setTerm 61 = .ok (.putfield 25, 3) := by decide +kernel
theorem dX6_setTerm_64 : decode cX6_setTerm 64 = .ok (.goto 3, 3) := by decide +kernel
theorem dX6_setTerm_67 : decode cX6_setTerm 67 = .ok (.return_, 1) := by decide +kernel
theorem dX8_has_0 : decode cX8_has 0 = .ok (.iconst 0, 1) := by decide +kernel
theorem dX8_has_1 : decode cX8_has 1 = .ok (.istore_n 2, 1) := by decide +kernel
theorem dX8_has_2 : decode cX8_has 2 = .ok (.iload_n 2, 1) := by decide +kernel
theorem dX8_has_3 : decode cX8_has 3 = .ok (.aload_n 0, 1) := by decide +kernel
theorem dX8_has_4 : decode cX8_has 4 = .ok (.getfield 18, 3) := by decide +kernel
theorem dX8_has_7 : decode cX8_has 7 = .ok (.if_icmp .ge 21, 3) := by decide +kernel
theorem dX8_has_28 : decode cX8_has 28 = .ok (.iconst 0, 1) := by decide +kernel
theorem dX8_has_29 : decode cX8_has 29 = .ok (.ireturn, 1) := by decide +kernel
theorem dX8_add_0 : decode cX8_add 0 = .ok (.aload_n 0, 1) := by decide +kernel
theorem dX8_add_1 : decode cX8_add 1 = .ok (.getfield 18, 3) := by decide +kernel
theorem dX8_add_4 : decode cX8_add 4 = .ok (.bipush 6, 2) := by decide +kernel
theorem dX8_add_6 : decode cX8_add 6 = .ok (.if_icmp .lt 5, 3) := by decide +kernel
theorem dX8_add_11 : decode cX8_add 11 = .ok (.aload_n 0, 1) := by decide +kernel
theorem dX8_add_12 : decode cX8_add 12 = .ok (.getfield 9, 3) := by decide +kernel
theorem dX8_add_15 : decode cX8_add 15 = .ok (.aload_n 0, 1) := by decide +kernel
theorem dX8_add_16 : decode cX8_add 16 = .ok (.getfield 18, 3) := by decide +kernel
theorem dX8_add_19 : decode cX8_add 19 = .ok (.iload_n 1, 1) := by decide +kernel
theorem dX8_add_20 : decode cX8_add 20 = .ok (.iastore, 1) := by decide +kernel
theorem dX8_add_21 : decode cX8_add 21 = .ok (.aload_n 0, 1) := by decide +kernel
theorem dX8_add_22 : decode cX8_add 22 = .ok (.getfield 15, 3) := by decide +kernel
theorem dX8_add_25 : decode cX8_add 25 = .ok (.aload_n 0, 1) := by decide +kernel
theorem dX8_add_26 : decode cX8_add 26 = .ok (.getfield 18, 3) := by decide +kernel
theorem dX8_add_29 : decode cX8_add 29 = .ok (.iload_n 2, 1) := by decide +kernel
theorem dX8_add_30 : decode cX8_add 30 = .ok (.iastore, 1) := by decide +kernel
theorem dX8_add_31 : decode cX8_add 31 = .ok (.aload_n 0, 1) := by decide +kernel
theorem dX8_add_32 : decode cX8_add 32 = .ok (.dup, 1) := by decide +kernel
theorem dX8_add_33 : decode cX8_add 33 = .ok (.getfield 18, 3) := by decide +kernel
theorem dX8_add_36 : decode cX8_add 36 = .ok (.iconst 1, 1) := by decide +kernel
theorem dX8_add_37 : decode cX8_add 37 = .ok (.iadd, 1) := by decide +kernel
theorem dX8_add_38 : decode cX8_add 38 = .ok (.putfield 18, 3) := by decide +kernel
theorem dX8_add_41 : decode cX8_add 41 = .ok (.iconst 1, 1) := by decide +kernel
theorem dX8_add_42 : decode cX8_add 42 = .ok (.ireturn, 1) := by decide +kernel
set_option maxRecDepth 20000 in
theorem ggX8_tell_X8_isFloor : GoodIn wsX8_tell wsX8_isFloor := goodIn_r _ [7, 8, 12, 13, 14, 15, 16] rfl (by decide +kernel)
set_option maxRecDepth 20000 in
theorem gX8_tell_X8_isFloor : GoodIn wsX8_tell (wsV RX8 28 RX8 yX8_isFloor wsX8_isFloor) := goodIn_app (goodIn_of _ (by decide +kernel)) ggX8_tell_X8_isFloor
theorem dX8_tell_0 : decode cX8_tell 0 = .ok (.aload_n 0, 1) := by decide +kernel
theorem dX8_tell_1 : decode cX8_tell 1 = .ok (.iload_n 1, 1) := by decide +kernel
theorem dX8_tell_2 : decode cX8_tell 2 = .ok (.invokevirtual 28, 3) := by decide +kernel
theorem dX8_tell_5 : decode cX8_tell 5 = .ok (.ifCond .eq 10, 3) := by decide +kernel
theorem dX8_tell_15 : decode cX8_tell 15 = .ok (.iconst (-1), 1) := by decide +kernel
theorem dX8_tell_16 : decode cX8_tell 16 = .ok (.ireturn, 1) := by decide +kernel
set_option maxRecDepth 20000 in
theorem ggX9_floor_X9_isRank : GoodIn wsX9_floor wsX9_isRank := goodIn_r _ [6] rfl (by decide +kernel)
set_option maxRecDepth 20000 in
theorem gX9_floor_X9_isRank : GoodIn wsX9_floor (va_wsS RX9 111 yX9_isRank wsX9_isRank) := goodIn_app (goodIn_of _ (by decide +kernel)) ggX9_floor_X9_isRank
set_option maxRecDepth 20000 in
theorem ggX9_floor_X9_isBit : GoodIn wsX9_floor wsX9_isBit := goodIn_r _ [9] rfl (by decide +kernel)
set_option maxRecDepth 20000 in
theorem gX9_floor_X9_isBit : GoodIn wsX9_floor (va_wsS RX9 115 yX9_isBit wsX9_isBit) := goodIn_app (goodIn_of _ (by decide +kernel)) ggX9_floor_X9_isBit
set_option maxRecDepth 20000 in
theorem ggX9_floor_X9_refuse : GoodIn wsX9_floor wsX9_refuse := goodIn_r _ [13, 14, 15, 38, 39, 40, 41, 42, 43, 44, 45, 46, 47, 48, 49, 50, 51, 52, 53, 54, 55, 56] rfl (by decide +kernel)
set_option maxRecDepth 20000 in
theorem gX9_floor_X9_refuse : GoodIn wsX9_floor (wsV RX9 118 RX9 yX9_refuse wsX9_refuse) := goodIn_app (goodIn_of _ (by decide +kernel)) ggX9_floor_X9_refuse
set_option maxRecDepth 20000 in
theorem ggX9_floor_X8_has : GoodIn wsX9_floor wsX8_has := goodIn_r _ [20, 21, 22, 67, 68, 69, 70, 71] rfl (by decide +kernel)
set_option maxRecDepth 20000 in
theorem gX9_floor_X8_has : GoodIn wsX9_floor (wsV RX9 125 RX8 yX8_has wsX8_has) := goodIn_app (goodIn_of _ (by decide +kernel)) ggX9_floor_X8_has
set_option maxRecDepth 20000 in
theorem ggX9_floor_X8_add : GoodIn wsX9_floor wsX8_add := goodIn_r _ [26, 21, 22, 27, 67, 68, 69, 70, 71] rfl (by decide +kernel)
set_option maxRecDepth 20000 in
theorem gX9_floor_X8_add : GoodIn wsX9_floor (wsV RX9 128 RX8 yX8_add wsX8_add) := goodIn_app (goodIn_of _ (by decide +kernel)) ggX9_floor_X8_add
set_option maxRecDepth 20000 in
theorem ggX9_floor_X0_clear : GoodIn wsX9_floor wsX0_clear := goodIn_r _ [32, 33, 72, 73, 74, 75, 76, 77] rfl (by decide +kernel)
set_option maxRecDepth 20000 in
theorem gX9_floor_X0_clear : GoodIn wsX9_floor (wsV RX9 132 RX0 yX0_clear wsX0_clear) := goodIn_app (goodIn_of _ (by decide +kernel)) ggX9_floor_X0_clear
set_option maxRecDepth 20000 in
theorem ggX9_floor_X9_accept : GoodIn wsX9_floor wsX9_accept := goodIn_r _ [37, 14, 38, 39, 40, 41, 42, 43, 44, 45, 46, 47, 48, 49, 50, 51, 52, 53, 54, 55, 56] rfl (by decide +kernel)
set_option maxRecDepth 20000 in
theorem gX9_floor_X9_accept : GoodIn wsX9_floor (wsV RX9 138 RX9 yX9_accept wsX9_accept) := goodIn_app (goodIn_of _ (by decide +kernel)) ggX9_floor_X9_accept
theorem dX9_floor_0 : decode cX9_floor 0 = .ok (.iload_n 1, 1) := by decide +kernel
theorem dX9_floor_1 : decode cX9_floor 1 = .ok (.invokestatic 111, 3) := by decide +kernel
theorem dX9_floor_4 : decode cX9_floor 4 = .ok (.ifCond .eq 10, 3) := by decide +kernel
theorem dX9_floor_7 : decode cX9_floor 7 = .ok (.iload_n 2, 1) := by decide +kernel
theorem dX9_floor_8 : decode cX9_floor 8 = .ok (.invokestatic 115, 3) := by decide +kernel
theorem dX9_floor_11 : decode cX9_floor 11 = .ok (.ifCond .ne 9, 3) := by decide +kernel
theorem dX9_floor_14 : decode cX9_floor 14 = .ok (.aload_n 0, 1) := by decide +kernel
theorem dX9_floor_15 : decode cX9_floor 15 = .ok (.iconst (-1), 1) := by decide +kernel
theorem dX9_floor_16 : decode cX9_floor 16 = .ok (.invokevirtual 118, 3) := by decide +kernel
theorem dX9_floor_19 : decode cX9_floor 19 = .ok (.ireturn, 1) := by decide +kernel
theorem dX9_floor_20 : decode cX9_floor 20 = .ok (.aload_n 0, 1) := by decide +kernel
theorem dX9_floor_21 : decode cX9_floor 21 = .ok (.getfield 10, 3) := by decide +kernel
theorem dX9_floor_24 : decode cX9_floor 24 = .ok (.getfield 122, 3) := by decide +kernel
theorem dX9_floor_27 : decode cX9_floor 27 = .ok (.iload_n 1, 1) := by decide +kernel
theorem dX9_floor_28 : decode cX9_floor 28 = .ok (.invokevirtual 125, 3) := by decide +kernel
theorem dX9_floor_31 : decode cX9_floor 31 = .ok (.ifCond .eq 10, 3) := by decide +kernel
theorem dX9_floor_41 : decode cX9_floor 41 = .ok (.aload_n 0, 1) := by decide +kernel
theorem dX9_floor_42 : decode cX9_floor 42 = .ok (.getfield 10, 3) := by decide +kernel
theorem dX9_floor_45 : decode cX9_floor 45 = .ok (.getfield 122, 3) := by decide +kernel
theorem dX9_floor_48 : decode cX9_floor 48 = .ok (.iload_n 1, 1) := by decide +kernel
theorem dX9_floor_49 : decode cX9_floor 49 = .ok (.iload_n 2, 1) := by decide +kernel
theorem dX9_floor_50 : decode cX9_floor 50 = .ok (.invokevirtual 128, 3) := by decide +kernel
theorem dX9_floor_53 : decode cX9_floor 53 = .ok (.ifCond .ne 10, 3) := by decide +kernel
theorem dX9_floor_63 : decode cX9_floor 63 = .ok (.aload_n 0, 1) := by decide +kernel
theorem dX9_floor_64 : decode cX9_floor 64 = .ok (.getfield 27, 3) := by decide +kernel
theorem dX9_floor_67 : decode cX9_floor 67 = .ok (.invokevirtual 132, 3) := by decide +kernel
theorem dX9_floor_70 : decode cX9_floor 70 = .ok (.aload_n 0, 1) := by decide +kernel
theorem dX9_floor_71 : decode cX9_floor 71 = .ok (.aload_n 0, 1) := by decide +kernel
theorem dX9_floor_72 : decode cX9_floor 72 = .ok (.getfield 10, 3) := by decide +kernel
theorem dX9_floor_75 : decode cX9_floor 75 = .ok (.getfield 122, 3) := by decide +kernel
theorem dX9_floor_78 : decode cX9_floor 78 = .ok (.getfield 135, 3) := by decide +kernel
theorem dX9_floor_81 : decode cX9_floor 81 = .ok (.iconst 1, 1) := by decide +kernel
theorem dX9_floor_82 : decode cX9_floor 82 = .ok (.isub, 1) := by decide +kernel
theorem dX9_floor_83 : decode cX9_floor 83 = .ok (.invokevirtual 138, 3) := by decide +kernel
theorem dX9_floor_86 : decode cX9_floor 86 = .ok (.ireturn, 1) := by decide +kernel
set_option maxRecDepth 20000 in
theorem ggX9_at_X8_isFloor : GoodIn wsX9_at wsX8_isFloor := goodIn_r _ [6, 7, 104, 105, 106, 107, 108] rfl (by decide +kernel)
set_option maxRecDepth 20000 in
theorem gX9_at_X8_isFloor : GoodIn wsX9_at (wsV RX9 141 RX8 yX8_isFloor wsX8_isFloor) := goodIn_app (goodIn_of _ (by decide +kernel)) ggX9_at_X8_isFloor
set_option maxRecDepth 20000 in
theorem ggX9_at_X8_tell : GoodIn wsX9_at wsX8_tell := goodIn_r _ [69, 70, 71, 72, 3, 4, 5, 6, 7, 73, 11, 74, 104, 105, 106, 107, 108] rfl (by decide +kernel)
set_option maxRecDepth 20000 in
theorem gX9_at_X8_tell : GoodIn wsX9_at (wsV RX9 156 RX8 yX8_tell wsX8_tell) := goodIn_app (goodIn_of _ (by decide +kernel)) ggX9_at_X8_tell
theorem dX9_at_0 : decode cX9_at 0 = .ok (.iload_n 2, 1) := by decide +kernel
theorem dX9_at_1 : decode cX9_at 1 = .ok (.iconst 2, 1) := by decide +kernel
theorem dX9_at_2 : decode cX9_at 2 = .ok (.if_icmp .ne 40, 3) := by decide +kernel
theorem dX9_at_5 : decode cX9_at 5 = .ok (.aload_n 0, 1) := by decide +kernel
theorem dX9_at_6 : decode cX9_at 6 = .ok (.getfield 10, 3) := by decide +kernel
theorem dX9_at_9 : decode cX9_at 9 = .ok (.getfield 122, 3) := by decide +kernel
theorem dX9_at_12 : decode cX9_at 12 = .ok (.iload_n 1, 1) := by decide +kernel
theorem dX9_at_13 : decode cX9_at 13 = .ok (.invokevirtual 141, 3) := by decide +kernel
theorem dX9_at_16 : decode cX9_at 16 = .ok (.ifCond .eq 24, 3) := by decide +kernel
theorem dX9_at_40 : decode cX9_at 40 = .ok (.iconst (-1), 1) := by decide +kernel
theorem dX9_at_41 : decode cX9_at 41 = .ok (.ireturn, 1) := by decide +kernel
theorem dX9_at_42 : decode cX9_at 42 = .ok (.aload_n 0, 1) := by decide +kernel
theorem dX9_at_43 : decode cX9_at 43 = .ok (.getfield 10, 3) := by decide +kernel
theorem dX9_at_46 : decode cX9_at 46 = .ok (.getfield 122, 3) := by decide +kernel
theorem dX9_at_49 : decode cX9_at 49 = .ok (.iload_n 1, 1) := by decide +kernel
theorem dX9_at_50 : decode cX9_at 50 = .ok (.iload_n 2, 1) := by decide +kernel
theorem dX9_at_51 : decode cX9_at 51 = .ok (.invokevirtual 156, 3) := by decide +kernel
theorem dX9_at_54 : decode cX9_at 54 = .ok (.ireturn, 1) := by decide +kernel
theorem dX9_asks_0 : decode cX9_asks 0 = .ok (.iload_n 1, 1) := by decide +kernel
theorem dX9_asks_1 : decode cX9_asks 1 = .ok (.iconst 1, 1) := by decide +kernel
theorem dX9_asks_2 : decode cX9_asks 2 = .ok (.if_icmp .lt 17, 3) := by decide +kernel
theorem dX9_asks_5 : decode cX9_asks 5 = .ok (.iload_n 1, 1) := by decide +kernel
theorem dX9_asks_6 : decode cX9_asks 6 = .ok (.aload_n 0, 1) := by decide +kernel
theorem dX9_asks_7 : decode cX9_asks 7 = .ok (.getfield 10, 3) := by decide +kernel
theorem dX9_asks_10 : decode cX9_asks 10 = .ok (.getfield 122, 3) := by decide +kernel
theorem dX9_asks_13 : decode cX9_asks 13 = .ok (.getfield 135, 3) := by decide +kernel
theorem dX9_asks_16 : decode cX9_asks 16 = .ok (.if_icmp .le 5, 3) := by decide +kernel
theorem dX9_asks_19 : decode cX9_asks 19 = .ok (.iconst (-1), 1) := by decide +kernel
theorem dX9_asks_20 : decode cX9_asks 20 = .ok (.ireturn, 1) := by decide +kernel
set_option maxRecDepth 20000 in
theorem ggX9_terms_X9_mostOfTerm : GoodIn wsX9_terms wsX9_mostOfTerm := goodIn_r _ [6] rfl (by decide +kernel)
set_option maxRecDepth 20000 in
theorem gX9_terms_X9_mostOfTerm : GoodIn wsX9_terms (va_wsS RX9 167 yX9_mostOfTerm wsX9_mostOfTerm) := goodIn_app (goodIn_of _ (by decide +kernel)) ggX9_terms_X9_mostOfTerm
set_option maxRecDepth 20000 in
theorem ggX9_terms_X9_refuse : GoodIn wsX9_terms wsX9_refuse := goodIn_r _ [10, 11, 12, 36, 37, 38, 39, 40, 41, 42, 43, 44, 45, 46, 47, 48, 49, 50, 51, 52, 53, 54] rfl (by decide +kernel)
set_option maxRecDepth 20000 in
theorem gX9_terms_X9_refuse : GoodIn wsX9_terms (wsV RX9 118 RX9 yX9_refuse wsX9_refuse) := goodIn_app (goodIn_of _ (by decide +kernel)) ggX9_terms_X9_refuse
set_option maxRecDepth 20000 in
theorem ggX9_terms_X6_term : GoodIn wsX9_terms wsX6_term := goodIn_r _ [17, 18, 19, 20, 21, 55, 56, 57, 58, 59, 60, 61, 62, 63, 64, 65, 66, 67, 68, 69] rfl (by decide +kernel)
set_option maxRecDepth 20000 in
theorem gX9_terms_X6_term : GoodIn wsX9_terms (wsV RX9 170 RX6 yX6_term wsX6_term) := goodIn_app (goodIn_of _ (by decide +kernel)) ggX9_terms_X6_term
set_option maxRecDepth 20000 in
theorem ggX9_terms_X6_setTerm : GoodIn wsX9_terms wsX6_setTerm := goodIn_r _ [25, 18, 19, 20, 21, 55, 56, 57, 58, 59, 60, 61, 62, 63, 64, 65, 66, 67, 68, 69] rfl (by decide +kernel)
set_option maxRecDepth 20000 in
theorem gX9_terms_X6_setTerm : GoodIn wsX9_terms (wsV RX9 173 RX6 yX6_setTerm wsX6_setTerm) := goodIn_app (goodIn_of _ (by decide +kernel)) ggX9_terms_X6_setTerm
set_option maxRecDepth 20000 in
theorem ggX9_terms_X0_clear : GoodIn wsX9_terms wsX0_clear := goodIn_r _ [30, 31, 70, 71, 72, 73, 74, 75] rfl (by decide +kernel)
set_option maxRecDepth 20000 in
theorem gX9_terms_X0_clear : GoodIn wsX9_terms (wsV RX9 132 RX0 yX0_clear wsX0_clear) := goodIn_app (goodIn_of _ (by decide +kernel)) ggX9_terms_X0_clear
set_option maxRecDepth 20000 in
theorem ggX9_terms_X9_accept : GoodIn wsX9_terms wsX9_accept := goodIn_r _ [35, 11, 36, 37, 38, 39, 40, 41, 42, 43, 44, 45, 46, 47, 48, 49, 50, 51, 52, 53, 54] rfl (by decide +kernel)
set_option maxRecDepth 20000 in
theorem gX9_terms_X9_accept : GoodIn wsX9_terms (wsV RX9 138 RX9 yX9_accept wsX9_accept) := goodIn_app (goodIn_of _ (by decide +kernel)) ggX9_terms_X9_accept
theorem dX9_terms_0 : decode cX9_terms 0 = .ok (.iload_n 2, 1) := by decide +kernel
theorem dX9_terms_1 : decode cX9_terms 1 = .ok (.ifCond .lt 11, 3) := by decide +kernel
theorem dX9_terms_4 : decode cX9_terms 4 = .ok (.iload_n 2, 1) := by decide +kernel
theorem dX9_terms_5 : decode cX9_terms 5 = .ok (.iload_n 1, 1) := by decide +kernel
theorem dX9_terms_6 : decode cX9_terms 6 = .ok (.invokestatic 167, 3) := by decide +kernel
theorem dX9_terms_9 : decode cX9_terms 9 = .ok (.if_icmp .le 9, 3) := by decide +kernel
theorem dX9_terms_12 : decode cX9_terms 12 = .ok (.aload_n 0, 1) := by decide +kernel
theorem dX9_terms_13 : decode cX9_terms 13 = .ok (.iconst (-1), 1) := by decide +kernel
theorem dX9_terms_14 : decode cX9_terms 14 = .ok (.invokevirtual 118, 3) := by decide +kernel
theorem dX9_terms_17 : decode cX9_terms 17 = .ok (.ireturn, 1) := by decide +kernel
theorem dX9_terms_18 : decode cX9_terms 18 = .ok (.aload_n 0, 1) := by decide +kernel
theorem dX9_terms_19 : decode cX9_terms 19 = .ok (.getfield 10, 3) := by decide +kernel
theorem dX9_terms_22 : decode cX9_terms 22 = .ok (.iload_n 1, 1) := by decide +kernel
theorem dX9_terms_23 : decode cX9_terms 23 = .ok (.invokevirtual 170, 3) := by decide +kernel
theorem dX9_terms_26 : decode cX9_terms 26 = .ok (.istore_n 3, 1) := by decide +kernel
theorem dX9_terms_27 : decode cX9_terms 27 = .ok (.aload_n 0, 1) := by decide +kernel
theorem dX9_terms_28 : decode cX9_terms 28 = .ok (.getfield 10, 3) := by decide +kernel
theorem dX9_terms_31 : decode cX9_terms 31 = .ok (.iload_n 1, 1) := by decide +kernel
theorem dX9_terms_32 : decode cX9_terms 32 = .ok (.iload_n 2, 1) := by decide +kernel
theorem dX9_terms_33 : decode cX9_terms 33 = .ok (.invokevirtual 173, 3) := by decide +kernel
theorem dX9_terms_36 : decode cX9_terms 36 = .ok (.aload_n 0, 1) := by decide +kernel
theorem dX9_terms_37 : decode cX9_terms 37 = .ok (.getfield 27, 3) := by decide +kernel
theorem dX9_terms_40 : decode cX9_terms 40 = .ok (.invokevirtual 132, 3) := by decide +kernel
theorem dX9_terms_43 : decode cX9_terms 43 = .ok (.aload_n 0, 1) := by decide +kernel
theorem dX9_terms_44 : decode cX9_terms 44 = .ok (.iload_n 3, 1) := by decide +kernel
theorem dX9_terms_45 : decode cX9_terms 45 = .ok (.invokevirtual 138, 3) := by decide +kernel
theorem dX9_terms_48 : decode cX9_terms 48 = .ok (.ireturn, 1) := by decide +kernel
theorem dX9_refuse_0 : decode cX9_refuse 0 = .ok (.aload_n 0, 1) := by decide +kernel
theorem dX9_refuse_1 : decode cX9_refuse 1 = .ok (.iload_n 1, 1) := by decide +kernel
theorem dX9_refuse_2 : decode cX9_refuse 2 = .ok (.putfield 108, 3) := by decide +kernel
theorem dX9_refuse_5 : decode cX9_refuse 5 = .ok (.iload_n 1, 1) := by decide +kernel
theorem dX9_refuse_6 : decode cX9_refuse 6 = .ok (.ifCond .ge 20, 3) := by decide +kernel
theorem dX9_refuse_9 : decode cX9_refuse 9 = .ok (.iload_n 1, 1) := by decide +kernel
theorem dX9_refuse_10 : decode cX9_refuse 10 = .ok (.bipush (-6), 2) := by decide +kernel
theorem dX9_refuse_12 : decode cX9_refuse 12 = .ok (.if_icmp .lt 14, 3) := by decide +kernel
theorem dX9_refuse_15 : decode cX9_refuse 15 = .ok (.aload_n 0, 1) := by decide +kernel
theorem dX9_refuse_16 : decode cX9_refuse 16 = .ok (.getfield 105, 3) := by decide +kernel
theorem dX9_refuse_19 : decode cX9_refuse 19 = .ok (.iload_n 1, 1) := by decide +kernel
theorem dX9_refuse_20 : decode cX9_refuse 20 = .ok (.ineg, 1) := by decide +kernel
theorem dX9_refuse_21 : decode cX9_refuse 21 = .ok (.dup2, 1) := by decide +kernel
theorem dX9_refuse_22 : decode cX9_refuse 22 = .ok (.iaload, 1) := by decide +kernel
theorem dX9_refuse_23 : decode cX9_refuse 23 = .ok (.iconst 1, 1) := by decide +kernel
theorem dX9_refuse_24 : decode cX9_refuse 24 = .ok (.iadd, 1) := by decide +kernel
theorem dX9_refuse_25 : decode cX9_refuse 25 = .ok (.iastore, 1) := by decide +kernel
theorem dX9_refuse_26 : decode cX9_refuse 26 = .ok (.iload_n 1, 1) := by decide +kernel
theorem dX9_refuse_27 : decode cX9_refuse 27 = .ok (.ireturn, 1) := by decide +kernel
theorem dX9_feedFour_0 : decode cX9_feedFour 0 = .ok (.bipush 24, 2) := by decide +kernel
theorem dX9_feedFour_2 : decode cX9_feedFour 2 = .ok (.istore_n 2, 1) := by decide +kernel
theorem dX9_feedFour_3 : decode cX9_feedFour 3 = .ok (.iload_n 2, 1) := by decide +kernel
theorem dX9_feedFour_4 : decode cX9_feedFour 4 = .ok (.ifCond .lt 45, 3) := by decide +kernel
theorem dX9_feedFour_7 : decode cX9_feedFour 7 = .ok (.aload_n 0, 1) := by decide +kernel
theorem dX9_feedFour_8 : decode cX9_feedFour 8 = .ok (.getfield 88, 3) := by decide +kernel
theorem dX9_feedFour_11 : decode cX9_feedFour 11 = .ok (.sipush 400, 3) := by decide +kernel
theorem dX9_feedFour_14 : decode cX9_feedFour 14 = .ok (.if_icmp .ge 29, 3) := by decide +kernel
theorem dX9_feedFour_17 : decode cX9_feedFour 17 = .ok (.aload_n 0, 1) := by decide +kernel
theorem dX9_feedFour_18 : decode cX9_feedFour 18 = .ok (.getfield 84, 3) := by decide +kernel
theorem dX9_feedFour_21 : decode cX9_feedFour 21 = .ok (.aload_n 0, 1) := by decide +kernel
theorem dX9_feedFour_22 : decode cX9_feedFour 22 = .ok (.getfield 88, 3) := by decide +kernel
theorem dX9_feedFour_25 : decode cX9_feedFour 25 = .ok (.iload_n 1, 1) := by decide +kernel
theorem dX9_feedFour_26 : decode cX9_feedFour 26 = .ok (.iload_n 2, 1) := by decide +kernel
theorem dX9_feedFour_27 : decode cX9_feedFour 27 = .ok (.iushr, 1) := by decide +kernel
theorem dX9_feedFour_28 : decode cX9_feedFour 28 = .ok (.sipush 255, 3) := by decide +kernel
theorem dX9_feedFour_31 : decode cX9_feedFour 31 = .ok (.iand, 1) := by decide +kernel
theorem dX9_feedFour_32 : decode cX9_feedFour 32 = .ok (.iastore, 1) := by decide +kernel
theorem dX9_feedFour_33 : decode cX9_feedFour 33 = .ok (.aload_n 0, 1) := by decide +kernel
theorem dX9_feedFour_34 : decode cX9_feedFour 34 = .ok (.dup, 1) := by decide +kernel
theorem dX9_feedFour_35 : decode cX9_feedFour 35 = .ok (.getfield 88, 3) := by decide +kernel
theorem dX9_feedFour_38 : decode cX9_feedFour 38 = .ok (.iconst 1, 1) := by decide +kernel
theorem dX9_feedFour_39 : decode cX9_feedFour 39 = .ok (.iadd, 1) := by decide +kernel
theorem dX9_feedFour_40 : decode cX9_feedFour 40 = .ok (.putfield 88, 3) := by decide +kernel
theorem dX9_feedFour_43 : decode cX9_feedFour 43 = .ok (.iinc 2 (-8), 3) := by decide +kernel
theorem dX9_feedFour_46 : decode cX9_feedFour 46 = .ok (.goto (-43), 3) := by decide +kernel
theorem dX9_feedFour_49 : decode cX9_feedFour 49 = .ok (.return_, 1) := by decide +kernel
