theorem da9_dX6_term_0 : (decode cX6_term 0 = .ok (.iload_n 1, 1)) ∧ (decode cX6_term 1 = .ok (.tableswitch 54 0 3 #[31, 39, 44, 49], 31)) ∧ (decode cX6_term 32 = .ok (.aload_n 0, 1)) ∧ (decode cX6_term 33 = .ok (.getfield 12, 3)) ∧ (decode cX6_term 36 = .ok (.getfield 58, 3)) ∧ (decode cX6_term 39 = .ok (.ireturn, 1)) ∧ (decode cX6_term 40 = .ok (.aload_n 0, 1)) ∧ (decode cX6_term 41 = .ok (.getfield 18, 3)) ∧ (decode cX6_term 44 = .ok (.ireturn, 1)) ∧ (decode cX6_term 45 = .ok (.aload_n 0, 1)) ∧ (decode cX6_term 46 = .ok (.getfield 22, 3)) ∧ (decode cX6_term 49 = .ok (.ireturn, 1)) ∧ (decode cX6_term 50 = .ok (.aload_n 0, 1)) ∧ (decode cX6_term 51 = .ok (.getfield 25, 3)) ∧ (decode cX6_term 54 = .ok (.ireturn, 1)) ∧ (decode cX6_term 55 = .ok (.iconst (-1), 1)) := by decide +kernel
theorem dX6_term_0 : decode cX6_term 0 = .ok (.iload_n 1, 1) := da9_dX6_term_0.1
theorem dX6_term_1 : decode cX6_term 1 = .ok (.tableswitch 54 0 3 #[31, 39, 44, 49], 31) := da9_dX6_term_0.2.1
theorem dX6_term_32 : decode cX6_term 32 = .ok (.aload_n 0, 1) := da9_dX6_term_0.2.2.1
theorem dX6_term_33 : decode cX6_term 33 = .ok (.getfield 12, 3) := da9_dX6_term_0.2.2.2.1
theorem dX6_term_36 : decode cX6_term 36 = .ok (.getfield 58, 3) := da9_dX6_term_0.2.2.2.2.1
theorem dX6_term_39 : decode cX6_term 39 = .ok (.ireturn, 1) := da9_dX6_term_0.2.2.2.2.2.1
theorem dX6_term_40 : decode cX6_term 40 = .ok (.aload_n 0, 1) := da9_dX6_term_0.2.2.2.2.2.2.1
theorem dX6_term_41 : decode cX6_term 41 = .ok (.getfield 18, 3) := da9_dX6_term_0.2.2.2.2.2.2.2.1
theorem dX6_term_44 : decode cX6_term 44 = .ok (.ireturn, 1) := da9_dX6_term_0.2.2.2.2.2.2.2.2.1
theorem dX6_term_45 : decode cX6_term 45 = .ok (.aload_n 0, 1) := da9_dX6_term_0.2.2.2.2.2.2.2.2.2.1
theorem dX6_term_46 : decode cX6_term 46 = .ok (.getfield 22, 3) := da9_dX6_term_0.2.2.2.2.2.2.2.2.2.2.1
theorem dX6_term_49 : decode cX6_term 49 = .ok (.ireturn, 1) := da9_dX6_term_0.2.2.2.2.2.2.2.2.2.2.2.1
theorem dX6_term_50 : decode cX6_term 50 = .ok (.aload_n 0, 1) := da9_dX6_term_0.2.2.2.2.2.2.2.2.2.2.2.2.1
theorem dX6_term_51 : decode cX6_term 51 = .ok (.getfield 25, 3) := da9_dX6_term_0.2.2.2.2.2.2.2.2.2.2.2.2.2.1
theorem dX6_term_54 : decode cX6_term 54 = .ok (.ireturn, 1) := da9_dX6_term_0.2.2.2.2.2.2.2.2.2.2.2.2.2.2.1
theorem dX6_term_55 : decode cX6_term 55 = .ok (.iconst (-1), 1) := da9_dX6_term_0.2.2.2.2.2.2.2.2.2.2.2.2.2.2.2
theorem dX6_term_56 : decode cX6_term 56 = .ok (.ireturn, 1) := by decide +kernel
theorem da9_dX6_setTerm_0 : (decode cX6_setTerm 0 = .ok (.iload_n 1, 1)) ∧ (decode cX6_setTerm 1 = .ok (.tableswitch 66 0 3 #[31, 42, 50, 58], 31)) ∧ (decode cX6_setTerm 32 = .ok (.aload_n 0, 1)) ∧ (decode cX6_setTerm 33 = .ok (.getfield 12, 3)) ∧ (decode cX6_setTerm 36 = .ok (.iload_n 2, 1)) ∧ (decode cX6_setTerm 37 = .ok (.putfield 58, 3)) ∧ (decode cX6_setTerm 40 = .ok (.goto 27, 3)) ∧ (decode cX6_setTerm 43 = .ok (.aload_n 0, 1)) ∧ (decode cX6_setTerm 44 = .ok (.iload_n 2, 1)) ∧ (decode cX6_setTerm 45 = .ok (.putfield 18, 3)) ∧ (decode cX6_setTerm 48 = .ok (.goto 19, 3)) ∧ (decode cX6_setTerm 51 = .ok (.aload_n 0, 1)) ∧ (decode cX6_setTerm 52 = .ok (.iload_n 2, 1)) ∧ (decode cX6_setTerm 53 = .ok (.putfield 22, 3)) ∧ (decode cX6_setTerm 56 = .ok (.goto 11, 3)) ∧ (decode cX6_setTerm 59 = .ok (.aload_n 0, 1)) := by decide +kernel
theorem dX6_setTerm_0 : decode cX6_setTerm 0 = .ok (.iload_n 1, 1) := da9_dX6_setTerm_0.1
theorem dX6_setTerm_1 : decode cX6_setTerm 1 = .ok (.tableswitch 66 0 3 #[31, 42, 50, 58], 31) := da9_dX6_setTerm_0.2.1
theorem dX6_setTerm_32 : decode cX6_setTerm 32 = .ok (.aload_n 0, 1) := da9_dX6_setTerm_0.2.2.1
theorem dX6_setTerm_33 : decode cX6_setTerm 33 = .ok (.getfield 12, 3) := da9_dX6_setTerm_0.2.2.2.1
theorem dX6_setTerm_36 : decode cX6_setTerm 36 = .ok (.iload_n 2, 1) := da9_dX6_setTerm_0.2.2.2.2.1
theorem dX6_setTerm_37 : decode cX6_setTerm 37 = .ok (.putfield 58, 3) := da9_dX6_setTerm_0.2.2.2.2.2.1
theorem dX6_setTerm_40 : decode cX6_setTerm 40 = .ok (.goto 27, 3) := da9_dX6_setTerm_0.2.2.2.2.2.2.1
theorem dX6_setTerm_43 : decode cX6_setTerm 43 = .ok (.aload_n 0, 1) := da9_dX6_setTerm_0.2.2.2.2.2.2.2.1
theorem dX6_setTerm_44 : decode cX6_setTerm 44 = .ok (.iload_n 2, 1) := da9_dX6_setTerm_0.2.2.2.2.2.2.2.2.1
theorem dX6_setTerm_45 : decode cX6_setTerm 45 = .ok (.putfield 18, 3) := da9_dX6_setTerm_0.2.2.2.2.2.2.2.2.2.1
theorem dX6_setTerm_48 : decode cX6_setTerm 48 = .ok (.goto 19, 3) := da9_dX6_setTerm_0.2.2.2.2.2.2.2.2.2.2.1
theorem dX6_setTerm_51 : decode cX6_setTerm 51 = .ok (.aload_n 0, 1) := da9_dX6_setTerm_0.2.2.2.2.2.2.2.2.2.2.2.1
theorem dX6_setTerm_52 : decode cX6_setTerm 52 = .ok (.iload_n 2, 1) := da9_dX6_setTerm_0.2.2.2.2.2.2.2.2.2.2.2.2.1
theorem dX6_setTerm_53 : decode cX6_setTerm 53 = .ok (.putfield 22, 3) := da9_dX6_setTerm_0.2.2.2.2.2.2.2.2.2.2.2.2.2.1
theorem dX6_setTerm_56 : decode cX6_setTerm 56 = .ok (.goto 11, 3) := da9_dX6_setTerm_0.2.2.2.2.2.2.2.2.2.2.2.2.2.2.1
theorem dX6_setTerm_59 : decode cX6_setTerm 59 = .ok (.aload_n 0, 1) := da9_dX6_setTerm_0.2.2.2.2.2.2.2.2.2.2.2.2.2.2.2
theorem da9_dX6_setTerm_60 : (decode cX6_setTerm 60 = .ok (.iload_n 2, 1)) ∧ (decode cX6_setTerm 61 = .ok (.putfield 25, 3)) ∧ (decode cX6_setTerm 64 = .ok (.goto 3, 3)) ∧ (decode cX6_setTerm 67 = .ok (.return_, 1)) := by decide +kernel
theorem dX6_setTerm_60 : decode cX6_setTerm 60 = .ok (.iload_n 2, 1) := da9_dX6_setTerm_60.1
theorem dX6_setTerm_61 : decode cX6_setTerm 61 = .ok (.putfield 25, 3) := da9_dX6_setTerm_60.2.1
theorem dX6_setTerm_64 : decode cX6_setTerm 64 = .ok (.goto 3, 3) := da9_dX6_setTerm_60.2.2.1
theorem dX6_setTerm_67 : decode cX6_setTerm 67 = .ok (.return_, 1) := da9_dX6_setTerm_60.2.2.2
set_option maxRecDepth 20000 in
theorem ggX9_asks_X9_seated : GoodIn wsX9_asks wsX9_seated := goodIn_r _ [6, 7, 1, 8, 9, 10, 11, 12, 13, 14, 15, 16, 17, 18, 19, 20, 21, 22, 23, 24, 25, 93, 94, 95, 96, 97, 98, 99, 100, 101, 102, 103, 104, 105, 106, 107, 108, 109, 110, 111, 112, 113, 114, 115, 116, 117, 118, 119, 120, 121, 127, 128, 129] rfl (by decide +kernel)
set_option maxRecDepth 20000 in
theorem gX9_asks_X9_seated : GoodIn wsX9_asks (wsV RX9 144 RX9 yX9_seated wsX9_seated) := goodIn_app (goodIn_of _ (by decide +kernel)) ggX9_asks_X9_seated
set_option maxRecDepth 20000 in
theorem ggX9_asks_X1_payOf : GoodIn wsX9_asks wsX1_payOf := goodIn_r _ [29, 30, 31, 32, 22, 33, 34, 35, 36, 37, 25, 38, 39, 40, 41, 42, 43, 44, 45, 46, 47, 48, 49, 50, 5, 51, 52, 53, 54, 55, 56, 57, 58, 59, 24, 60, 61, 62, 63, 64, 65, 66, 67, 68, 69, 70, 71, 72, 73, 74, 75, 76, 77, 78, 79, 80, 81, 122, 123, 124, 125, 126, 127, 128, 129, 130, 131, 132, 133, 134, 135, 136, 137, 138, 139] rfl (by decide +kernel)
set_option maxRecDepth 20000 in
theorem gX9_asks_X1_payOf : GoodIn wsX9_asks (wsV RX9 160 RX1 yX1_payOf wsX1_payOf) := goodIn_app (goodIn_of _ (by decide +kernel)) ggX9_asks_X1_payOf
set_option maxRecDepth 20000 in
theorem ggX9_asks_X1_bars : GoodIn wsX9_asks wsX1_bars := goodIn_r _ [85, 30, 31, 32, 22, 33, 34, 35, 36, 37, 25, 38, 39, 40, 41, 42, 43, 44, 45, 46, 47, 48, 49, 50, 5, 51, 52, 53, 54, 55, 86, 87, 88, 89, 24, 60, 68, 69, 70, 71, 72, 73, 74, 75, 62, 63, 64, 76, 77, 78, 79, 80, 81, 122, 123, 124, 125, 126, 127, 128, 129, 130, 131, 132, 133, 134, 135, 136, 137, 138, 139] rfl (by decide +kernel)
set_option maxRecDepth 20000 in
theorem gX9_asks_X1_bars : GoodIn wsX9_asks (wsV RX9 164 RX1 yX1_bars wsX1_bars) := goodIn_app (goodIn_of _ (by decide +kernel)) ggX9_asks_X1_bars
set_option maxRecDepth 20000 in
theorem ggX9_asks_X9_bit : GoodIn wsX9_asks wsX9_bit := goodIn_r _ [92] rfl (by decide +kernel)
set_option maxRecDepth 20000 in
theorem gX9_asks_X9_bit : GoodIn wsX9_asks (va_wsS RX9 152 yX9_bit wsX9_bit) := goodIn_app (goodIn_of _ (by decide +kernel)) ggX9_asks_X9_bit
theorem da9_dX9_asks_0 : (decode cX9_asks 0 = .ok (.iload_n 1, 1)) ∧ (decode cX9_asks 1 = .ok (.iconst 1, 1)) ∧ (decode cX9_asks 2 = .ok (.if_icmp .lt 17, 3)) ∧ (decode cX9_asks 5 = .ok (.iload_n 1, 1)) ∧ (decode cX9_asks 6 = .ok (.aload_n 0, 1)) ∧ (decode cX9_asks 7 = .ok (.getfield 10, 3)) ∧ (decode cX9_asks 10 = .ok (.getfield 122, 3)) ∧ (decode cX9_asks 13 = .ok (.getfield 135, 3)) ∧ (decode cX9_asks 16 = .ok (.if_icmp .le 5, 3)) ∧ (decode cX9_asks 19 = .ok (.iconst (-1), 1)) ∧ (decode cX9_asks 20 = .ok (.ireturn, 1)) ∧ (decode cX9_asks 21 = .ok (.iload_n 2, 1)) ∧ (decode cX9_asks 22 = .ok (.ifCond .ne 19, 3)) ∧ (decode cX9_asks 25 = .ok (.aload_n 0, 1)) ∧ (decode cX9_asks 26 = .ok (.invokevirtual 144, 3)) ∧ (decode cX9_asks 29 = .ok (.aload_n 0, 1)) := by decide +kernel
theorem dX9_asks_0 : decode cX9_asks 0 = .ok (.iload_n 1, 1) := da9_dX9_asks_0.1
theorem dX9_asks_1 : decode cX9_asks 1 = .ok (.iconst 1, 1) := da9_dX9_asks_0.2.1
theorem dX9_asks_2 : decode cX9_asks 2 = .ok (.if_icmp .lt 17, 3) := da9_dX9_asks_0.2.2.1
theorem dX9_asks_5 : decode cX9_asks 5 = .ok (.iload_n 1, 1) := da9_dX9_asks_0.2.2.2.1
theorem dX9_asks_6 : decode cX9_asks 6 = .ok (.aload_n 0, 1) := da9_dX9_asks_0.2.2.2.2.1
theorem dX9_asks_7 : decode cX9_asks 7 = .ok (.getfield 10, 3) := da9_dX9_asks_0.2.2.2.2.2.1
theorem dX9_asks_10 : decode cX9_asks 10 = .ok (.getfield 122, 3) := da9_dX9_asks_0.2.2.2.2.2.2.1
theorem dX9_asks_13 : decode cX9_asks 13 = .ok (.getfield 135, 3) := da9_dX9_asks_0.2.2.2.2.2.2.2.1
theorem dX9_asks_16 : decode cX9_asks 16 = .ok (.if_icmp .le 5, 3) := da9_dX9_asks_0.2.2.2.2.2.2.2.2.1
theorem dX9_asks_19 : decode cX9_asks 19 = .ok (.iconst (-1), 1) := da9_dX9_asks_0.2.2.2.2.2.2.2.2.2.1
theorem dX9_asks_20 : decode cX9_asks 20 = .ok (.ireturn, 1) := da9_dX9_asks_0.2.2.2.2.2.2.2.2.2.2.1
theorem dX9_asks_21 : decode cX9_asks 21 = .ok (.iload_n 2, 1) := da9_dX9_asks_0.2.2.2.2.2.2.2.2.2.2.2.1
theorem dX9_asks_22 : decode cX9_asks 22 = .ok (.ifCond .ne 19, 3) := da9_dX9_asks_0.2.2.2.2.2.2.2.2.2.2.2.2.1
theorem dX9_asks_25 : decode cX9_asks 25 = .ok (.aload_n 0, 1) := da9_dX9_asks_0.2.2.2.2.2.2.2.2.2.2.2.2.2.1
theorem dX9_asks_26 : decode cX9_asks 26 = .ok (.invokevirtual 144, 3) := da9_dX9_asks_0.2.2.2.2.2.2.2.2.2.2.2.2.2.2.1
theorem dX9_asks_29 : decode cX9_asks 29 = .ok (.aload_n 0, 1) := da9_dX9_asks_0.2.2.2.2.2.2.2.2.2.2.2.2.2.2.2
theorem da9_dX9_asks_30 : (decode cX9_asks 30 = .ok (.getfield 10, 3)) ∧ (decode cX9_asks 33 = .ok (.getfield 122, 3)) ∧ (decode cX9_asks 36 = .ok (.iload_n 1, 1)) ∧ (decode cX9_asks 37 = .ok (.invokevirtual 160, 3)) ∧ (decode cX9_asks 40 = .ok (.ireturn, 1)) ∧ (decode cX9_asks 41 = .ok (.iload_n 2, 1)) ∧ (decode cX9_asks 42 = .ok (.iconst 1, 1)) ∧ (decode cX9_asks 43 = .ok (.if_icmp .ne 24, 3)) ∧ (decode cX9_asks 46 = .ok (.aload_n 0, 1)) ∧ (decode cX9_asks 47 = .ok (.invokevirtual 144, 3)) ∧ (decode cX9_asks 50 = .ok (.aload_n 0, 1)) ∧ (decode cX9_asks 51 = .ok (.getfield 10, 3)) ∧ (decode cX9_asks 54 = .ok (.getfield 122, 3)) ∧ (decode cX9_asks 57 = .ok (.iload_n 1, 1)) ∧ (decode cX9_asks 58 = .ok (.invokevirtual 164, 3)) ∧ (decode cX9_asks 61 = .ok (.invokestatic 152, 3)) := by decide +kernel
theorem dX9_asks_30 : decode cX9_asks 30 = .ok (.getfield 10, 3) := da9_dX9_asks_30.1
theorem dX9_asks_33 : decode cX9_asks 33 = .ok (.getfield 122, 3) := da9_dX9_asks_30.2.1
theorem dX9_asks_36 : decode cX9_asks 36 = .ok (.iload_n 1, 1) := da9_dX9_asks_30.2.2.1
theorem dX9_asks_37 : decode cX9_asks 37 = .ok (.invokevirtual 160, 3) := da9_dX9_asks_30.2.2.2.1
theorem dX9_asks_40 : decode cX9_asks 40 = .ok (.ireturn, 1) := da9_dX9_asks_30.2.2.2.2.1
theorem dX9_asks_41 : decode cX9_asks 41 = .ok (.iload_n 2, 1) := da9_dX9_asks_30.2.2.2.2.2.1
theorem dX9_asks_42 : decode cX9_asks 42 = .ok (.iconst 1, 1) := da9_dX9_asks_30.2.2.2.2.2.2.1
theorem dX9_asks_43 : decode cX9_asks 43 = .ok (.if_icmp .ne 24, 3) := da9_dX9_asks_30.2.2.2.2.2.2.2.1
theorem dX9_asks_46 : decode cX9_asks 46 = .ok (.aload_n 0, 1) := da9_dX9_asks_30.2.2.2.2.2.2.2.2.1
theorem dX9_asks_47 : decode cX9_asks 47 = .ok (.invokevirtual 144, 3) := da9_dX9_asks_30.2.2.2.2.2.2.2.2.2.1
theorem dX9_asks_50 : decode cX9_asks 50 = .ok (.aload_n 0, 1) := da9_dX9_asks_30.2.2.2.2.2.2.2.2.2.2.1
theorem dX9_asks_51 : decode cX9_asks 51 = .ok (.getfield 10, 3) := da9_dX9_asks_30.2.2.2.2.2.2.2.2.2.2.2.1
theorem dX9_asks_54 : decode cX9_asks 54 = .ok (.getfield 122, 3) := da9_dX9_asks_30.2.2.2.2.2.2.2.2.2.2.2.2.1
theorem dX9_asks_57 : decode cX9_asks 57 = .ok (.iload_n 1, 1) := da9_dX9_asks_30.2.2.2.2.2.2.2.2.2.2.2.2.2.1
theorem dX9_asks_58 : decode cX9_asks 58 = .ok (.invokevirtual 164, 3) := da9_dX9_asks_30.2.2.2.2.2.2.2.2.2.2.2.2.2.2.1
theorem dX9_asks_61 : decode cX9_asks 61 = .ok (.invokestatic 152, 3) := da9_dX9_asks_30.2.2.2.2.2.2.2.2.2.2.2.2.2.2.2
theorem da9_dX9_asks_64 : (decode cX9_asks 64 = .ok (.goto 4, 3)) ∧ (decode cX9_asks 67 = .ok (.iconst (-1), 1)) ∧ (decode cX9_asks 68 = .ok (.ireturn, 1)) := by decide +kernel
theorem dX9_asks_64 : decode cX9_asks 64 = .ok (.goto 4, 3) := da9_dX9_asks_64.1
theorem dX9_asks_67 : decode cX9_asks 67 = .ok (.iconst (-1), 1) := da9_dX9_asks_64.2.1
theorem dX9_asks_68 : decode cX9_asks 68 = .ok (.ireturn, 1) := da9_dX9_asks_64.2.2
set_option maxRecDepth 20000 in
theorem ggX9_terms_X9_mostOfTerm : GoodIn wsX9_terms wsX9_mostOfTerm := goodIn_r _ [6] rfl (by decide +kernel)
set_option maxRecDepth 20000 in
theorem gX9_terms_X9_mostOfTerm : GoodIn wsX9_terms (va_wsS RX9 167 yX9_mostOfTerm wsX9_mostOfTerm) := goodIn_app (goodIn_of _ (by decide +kernel)) ggX9_terms_X9_mostOfTerm
set_option maxRecDepth 20000 in
theorem ggX9_terms_X9_refuse : GoodIn wsX9_terms wsX9_refuse := goodIn_r _ [10, 11, 12, 36, 37, 38, 39, 40, 41, 42, 43, 44, 45, 46, 47, 48, 49, 50, 51, 52, 53, 54] rfl (by decide +kernel)
set_option maxRecDepth 20000 in
theorem gX9_terms_X9_refuse : GoodIn wsX9_terms (wsV RX9 118 RX9 yX9_refuse wsX9_refuse) := goodIn_app (goodIn_of _ (by decide +kernel)) ggX9_terms_X9_refuse
set_option maxRecDepth 20000 in
theorem ggX9_terms_X6_term : GoodIn wsX9_terms wsX6_term := goodIn_r _ [17, 18, 19, 20, 21, 55, 56, 57, 58, 59, 60, 61, 62, 63, 64, 65, 66, 67, 68, 69] rfl (by decide +kernel)
set_option maxRecDepth 20000 in
theorem gX9_terms_X6_term : GoodIn wsX9_terms (wsV RX9 170 RX6 yX6_term wsX6_term) := goodIn_app (goodIn_of _ (by decide +kernel)) ggX9_terms_X6_term
set_option maxRecDepth 20000 in
theorem ggX9_terms_X6_setTerm : GoodIn wsX9_terms wsX6_setTerm := goodIn_r _ [25, 18, 19, 20, 21, 55, 56, 57, 58, 59, 60, 61, 62, 63, 64, 65, 66, 67, 68, 69] rfl (by decide +kernel)
set_option maxRecDepth 20000 in
theorem gX9_terms_X6_setTerm : GoodIn wsX9_terms (wsV RX9 173 RX6 yX6_setTerm wsX6_setTerm) := goodIn_app (goodIn_of _ (by decide +kernel)) ggX9_terms_X6_setTerm
set_option maxRecDepth 20000 in
theorem ggX9_terms_X0_clear : GoodIn wsX9_terms wsX0_clear := goodIn_r _ [30, 31, 70, 71, 72, 73, 74, 75] rfl (by decide +kernel)
set_option maxRecDepth 20000 in
theorem gX9_terms_X0_clear : GoodIn wsX9_terms (wsV RX9 132 RX0 yX0_clear wsX0_clear) := goodIn_app (goodIn_of _ (by decide +kernel)) ggX9_terms_X0_clear
set_option maxRecDepth 20000 in
theorem ggX9_terms_X9_accept : GoodIn wsX9_terms wsX9_accept := goodIn_r _ [35, 11, 36, 37, 38, 39, 40, 41, 42, 43, 44, 45, 46, 47, 48, 49, 50, 51, 52, 53, 54] rfl (by decide +kernel)
set_option maxRecDepth 20000 in
theorem gX9_terms_X9_accept : GoodIn wsX9_terms (wsV RX9 138 RX9 yX9_accept wsX9_accept) := goodIn_app (goodIn_of _ (by decide +kernel)) ggX9_terms_X9_accept
theorem da9_dX9_terms_0 : (decode cX9_terms 0 = .ok (.iload_n 2, 1)) ∧ (decode cX9_terms 1 = .ok (.ifCond .lt 11, 3)) ∧ (decode cX9_terms 4 = .ok (.iload_n 2, 1)) ∧ (decode cX9_terms 5 = .ok (.iload_n 1, 1)) ∧ (decode cX9_terms 6 = .ok (.invokestatic 167, 3)) ∧ (decode cX9_terms 9 = .ok (.if_icmp .le 9, 3)) ∧ (decode cX9_terms 12 = .ok (.aload_n 0, 1)) ∧ (decode cX9_terms 13 = .ok (.iconst (-1), 1)) ∧ (decode cX9_terms 14 = .ok (.invokevirtual 118, 3)) ∧ (decode cX9_terms 17 = .ok (.ireturn, 1)) ∧ (decode cX9_terms 18 = .ok (.aload_n 0, 1)) ∧ (decode cX9_terms 19 = .ok (.getfield 10, 3)) ∧ (decode cX9_terms 22 = .ok (.iload_n 1, 1)) ∧ (decode cX9_terms 23 = .ok (.invokevirtual 170, 3)) ∧ (decode cX9_terms 26 = .ok (.istore_n 3, 1)) ∧ (decode cX9_terms 27 = .ok (.aload_n 0, 1)) := by decide +kernel
theorem dX9_terms_0 : decode cX9_terms 0 = .ok (.iload_n 2, 1) := da9_dX9_terms_0.1
theorem dX9_terms_1 : decode cX9_terms 1 = .ok (.ifCond .lt 11, 3) := da9_dX9_terms_0.2.1
theorem dX9_terms_4 : decode cX9_terms 4 = .ok (.iload_n 2, 1) := da9_dX9_terms_0.2.2.1
theorem dX9_terms_5 : decode cX9_terms 5 = .ok (.iload_n 1, 1) := da9_dX9_terms_0.2.2.2.1
theorem dX9_terms_6 : decode cX9_terms 6 = .ok (.invokestatic 167, 3) := da9_dX9_terms_0.2.2.2.2.1
theorem dX9_terms_9 : decode cX9_terms 9 = .ok (.if_icmp .le 9, 3) := da9_dX9_terms_0.2.2.2.2.2.1
theorem dX9_terms_12 : decode cX9_terms 12 = .ok (.aload_n 0, 1) := da9_dX9_terms_0.2.2.2.2.2.2.1
theorem dX9_terms_13 : decode cX9_terms 13 = .ok (.iconst (-1), 1) := da9_dX9_terms_0.2.2.2.2.2.2.2.1
theorem dX9_terms_14 : decode cX9_terms 14 = .ok (.invokevirtual 118, 3) := da9_dX9_terms_0.2.2.2.2.2.2.2.2.1
theorem dX9_terms_17 : decode cX9_terms 17 = .ok (.ireturn, 1) := da9_dX9_terms_0.2.2.2.2.2.2.2.2.2.1
theorem dX9_terms_18 : decode cX9_terms 18 = .ok (.aload_n 0, 1) := da9_dX9_terms_0.2.2.2.2.2.2.2.2.2.2.1
theorem dX9_terms_19 : decode cX9_terms 19 = .ok (.getfield 10, 3) := da9_dX9_terms_0.2.2.2.2.2.2.2.2.2.2.2.1
theorem dX9_terms_22 : decode cX9_terms 22 = .ok (.iload_n 1, 1) := da9_dX9_terms_0.2.2.2.2.2.2.2.2.2.2.2.2.1
theorem dX9_terms_23 : decode cX9_terms 23 = .ok (.invokevirtual 170, 3) := da9_dX9_terms_0.2.2.2.2.2.2.2.2.2.2.2.2.2.1
theorem dX9_terms_26 : decode cX9_terms 26 = .ok (.istore_n 3, 1) := da9_dX9_terms_0.2.2.2.2.2.2.2.2.2.2.2.2.2.2.1
theorem dX9_terms_27 : decode cX9_terms 27 = .ok (.aload_n 0, 1) := da9_dX9_terms_0.2.2.2.2.2.2.2.2.2.2.2.2.2.2.2
theorem da9_dX9_terms_28 : (decode cX9_terms 28 = .ok (.getfield 10, 3)) ∧ (decode cX9_terms 31 = .ok (.iload_n 1, 1)) ∧ (decode cX9_terms 32 = .ok (.iload_n 2, 1)) ∧ (decode cX9_terms 33 = .ok (.invokevirtual 173, 3)) ∧ (decode cX9_terms 36 = .ok (.aload_n 0, 1)) ∧ (decode cX9_terms 37 = .ok (.getfield 27, 3)) ∧ (decode cX9_terms 40 = .ok (.invokevirtual 132, 3)) ∧ (decode cX9_terms 43 = .ok (.aload_n 0, 1)) ∧ (decode cX9_terms 44 = .ok (.iload_n 3, 1)) ∧ (decode cX9_terms 45 = .ok (.invokevirtual 138, 3)) ∧ (decode cX9_terms 48 = .ok (.ireturn, 1)) := by decide +kernel
theorem dX9_terms_28 : decode cX9_terms 28 = .ok (.getfield 10, 3) := da9_dX9_terms_28.1
theorem dX9_terms_31 : decode cX9_terms 31 = .ok (.iload_n 1, 1) := da9_dX9_terms_28.2.1
theorem dX9_terms_32 : decode cX9_terms 32 = .ok (.iload_n 2, 1) := da9_dX9_terms_28.2.2.1
theorem dX9_terms_33 : decode cX9_terms 33 = .ok (.invokevirtual 173, 3) := da9_dX9_terms_28.2.2.2.1
theorem dX9_terms_36 : decode cX9_terms 36 = .ok (.aload_n 0, 1) := da9_dX9_terms_28.2.2.2.2.1
theorem dX9_terms_37 : decode cX9_terms 37 = .ok (.getfield 27, 3) := da9_dX9_terms_28.2.2.2.2.2.1
theorem dX9_terms_40 : decode cX9_terms 40 = .ok (.invokevirtual 132, 3) := da9_dX9_terms_28.2.2.2.2.2.2.1
theorem dX9_terms_43 : decode cX9_terms 43 = .ok (.aload_n 0, 1) := da9_dX9_terms_28.2.2.2.2.2.2.2.1
theorem dX9_terms_44 : decode cX9_terms 44 = .ok (.iload_n 3, 1) := da9_dX9_terms_28.2.2.2.2.2.2.2.2.1
theorem dX9_terms_45 : decode cX9_terms 45 = .ok (.invokevirtual 138, 3) := da9_dX9_terms_28.2.2.2.2.2.2.2.2.2.1
theorem dX9_terms_48 : decode cX9_terms 48 = .ok (.ireturn, 1) := da9_dX9_terms_28.2.2.2.2.2.2.2.2.2.2
set_option maxRecDepth 20000 in
theorem ggX9_feed_X9_feedFour : GoodIn wsX9_feed wsX9_feedFour := goodIn_r _ [6, 1, 7, 8, 9, 10, 11, 12, 13, 14, 15, 16, 17, 18, 19, 20, 21, 22, 23, 24, 25, 26] rfl (by decide +kernel)
set_option maxRecDepth 20000 in
theorem gX9_feed_X9_feedFour : GoodIn wsX9_feed (wsV RX9 176 RX9 yX9_feedFour wsX9_feedFour) := goodIn_app (goodIn_of _ (by decide +kernel)) ggX9_feed_X9_feedFour
theorem da9_dX9_feed_0 : (decode cX9_feed 0 = .ok (.aload_n 0, 1)) ∧ (decode cX9_feed 1 = .ok (.getfield 88, 3)) ∧ (decode cX9_feed 4 = .ok (.bipush 20, 2)) ∧ (decode cX9_feed 6 = .ok (.iadd, 1)) ∧ (decode cX9_feed 7 = .ok (.sipush 400, 3)) ∧ (decode cX9_feed 10 = .ok (.if_icmp .le 5, 3)) ∧ (decode cX9_feed 13 = .ok (.iconst (-1), 1)) ∧ (decode cX9_feed 14 = .ok (.ireturn, 1)) ∧ (decode cX9_feed 15 = .ok (.aload_n 0, 1)) ∧ (decode cX9_feed 16 = .ok (.iload_n 1, 1)) ∧ (decode cX9_feed 17 = .ok (.invokevirtual 176, 3)) ∧ (decode cX9_feed 20 = .ok (.aload_n 0, 1)) ∧ (decode cX9_feed 21 = .ok (.iload_n 2, 1)) ∧ (decode cX9_feed 22 = .ok (.invokevirtual 176, 3)) ∧ (decode cX9_feed 25 = .ok (.aload_n 0, 1)) ∧ (decode cX9_feed 26 = .ok (.iload_n 3, 1)) := by decide +kernel
theorem dX9_feed_0 : decode cX9_feed 0 = .ok (.aload_n 0, 1) := da9_dX9_feed_0.1
theorem dX9_feed_1 : decode cX9_feed 1 = .ok (.getfield 88, 3) := da9_dX9_feed_0.2.1
theorem dX9_feed_4 : decode cX9_feed 4 = .ok (.bipush 20, 2) := da9_dX9_feed_0.2.2.1
theorem dX9_feed_6 : decode cX9_feed 6 = .ok (.iadd, 1) := da9_dX9_feed_0.2.2.2.1
theorem dX9_feed_7 : decode cX9_feed 7 = .ok (.sipush 400, 3) := da9_dX9_feed_0.2.2.2.2.1
theorem dX9_feed_10 : decode cX9_feed 10 = .ok (.if_icmp .le 5, 3) := da9_dX9_feed_0.2.2.2.2.2.1
theorem dX9_feed_13 : decode cX9_feed 13 = .ok (.iconst (-1), 1) := da9_dX9_feed_0.2.2.2.2.2.2.1
theorem dX9_feed_14 : decode cX9_feed 14 = .ok (.ireturn, 1) := da9_dX9_feed_0.2.2.2.2.2.2.2.1
theorem dX9_feed_15 : decode cX9_feed 15 = .ok (.aload_n 0, 1) := da9_dX9_feed_0.2.2.2.2.2.2.2.2.1
theorem dX9_feed_16 : decode cX9_feed 16 = .ok (.iload_n 1, 1) := da9_dX9_feed_0.2.2.2.2.2.2.2.2.2.1
theorem dX9_feed_17 : decode cX9_feed 17 = .ok (.invokevirtual 176, 3) := da9_dX9_feed_0.2.2.2.2.2.2.2.2.2.2.1
theorem dX9_feed_20 : decode cX9_feed 20 = .ok (.aload_n 0, 1) := da9_dX9_feed_0.2.2.2.2.2.2.2.2.2.2.2.1
theorem dX9_feed_21 : decode cX9_feed 21 = .ok (.iload_n 2, 1) := da9_dX9_feed_0.2.2.2.2.2.2.2.2.2.2.2.2.1
theorem dX9_feed_22 : decode cX9_feed 22 = .ok (.invokevirtual 176, 3) := da9_dX9_feed_0.2.2.2.2.2.2.2.2.2.2.2.2.2.1
theorem dX9_feed_25 : decode cX9_feed 25 = .ok (.aload_n 0, 1) := da9_dX9_feed_0.2.2.2.2.2.2.2.2.2.2.2.2.2.2.1
theorem dX9_feed_26 : decode cX9_feed 26 = .ok (.iload_n 3, 1) := da9_dX9_feed_0.2.2.2.2.2.2.2.2.2.2.2.2.2.2.2
theorem da9_dX9_feed_27 : (decode cX9_feed 27 = .ok (.invokevirtual 176, 3)) ∧ (decode cX9_feed 30 = .ok (.aload_n 0, 1)) ∧ (decode cX9_feed 31 = .ok (.iload 4, 2)) ∧ (decode cX9_feed 33 = .ok (.invokevirtual 176, 3)) ∧ (decode cX9_feed 36 = .ok (.aload_n 0, 1)) ∧ (decode cX9_feed 37 = .ok (.iload 5, 2)) ∧ (decode cX9_feed 39 = .ok (.invokevirtual 176, 3)) ∧ (decode cX9_feed 42 = .ok (.aload_n 0, 1)) ∧ (decode cX9_feed 43 = .ok (.getfield 88, 3)) ∧ (decode cX9_feed 46 = .ok (.ireturn, 1)) := by decide +kernel
theorem dX9_feed_27 : decode cX9_feed 27 = .ok (.invokevirtual 176, 3) := da9_dX9_feed_27.1
theorem dX9_feed_30 : decode cX9_feed 30 = .ok (.aload_n 0, 1) := da9_dX9_feed_27.2.1
theorem dX9_feed_31 : decode cX9_feed 31 = .ok (.iload 4, 2) := da9_dX9_feed_27.2.2.1
theorem dX9_feed_33 : decode cX9_feed 33 = .ok (.invokevirtual 176, 3) := da9_dX9_feed_27.2.2.2.1
theorem dX9_feed_36 : decode cX9_feed 36 = .ok (.aload_n 0, 1) := da9_dX9_feed_27.2.2.2.2.1
theorem dX9_feed_37 : decode cX9_feed 37 = .ok (.iload 5, 2) := da9_dX9_feed_27.2.2.2.2.2.1
theorem dX9_feed_39 : decode cX9_feed 39 = .ok (.invokevirtual 176, 3) := da9_dX9_feed_27.2.2.2.2.2.2.1
theorem dX9_feed_42 : decode cX9_feed 42 = .ok (.aload_n 0, 1) := da9_dX9_feed_27.2.2.2.2.2.2.2.1
theorem dX9_feed_43 : decode cX9_feed 43 = .ok (.getfield 88, 3) := da9_dX9_feed_27.2.2.2.2.2.2.2.2.1
theorem dX9_feed_46 : decode cX9_feed 46 = .ok (.ireturn, 1) := da9_dX9_feed_27.2.2.2.2.2.2.2.2.2
theorem da9_dX9_end_0 : (decode cX9_end 0 = .ok (.iload_n 1, 1)) ∧ (decode cX9_end 1 = .ok (.ifCond .lt 11, 3)) ∧ (decode cX9_end 4 = .ok (.iload_n 1, 1)) ∧ (decode cX9_end 5 = .ok (.aload_n 0, 1)) ∧ (decode cX9_end 6 = .ok (.getfield 88, 3)) ∧ (decode cX9_end 9 = .ok (.if_icmp .le 5, 3)) ∧ (decode cX9_end 12 = .ok (.iconst (-1), 1)) ∧ (decode cX9_end 13 = .ok (.ireturn, 1)) ∧ (decode cX9_end 14 = .ok (.aload_n 0, 1)) ∧ (decode cX9_end 15 = .ok (.iload_n 1, 1)) ∧ (decode cX9_end 16 = .ok (.putfield 88, 3)) ∧ (decode cX9_end 19 = .ok (.iload_n 1, 1)) ∧ (decode cX9_end 20 = .ok (.ireturn, 1)) := by decide +kernel
theorem dX9_end_0 : decode cX9_end 0 = .ok (.iload_n 1, 1) := da9_dX9_end_0.1
theorem dX9_end_1 : decode cX9_end 1 = .ok (.ifCond .lt 11, 3) := da9_dX9_end_0.2.1
theorem dX9_end_4 : decode cX9_end 4 = .ok (.iload_n 1, 1) := da9_dX9_end_0.2.2.1
theorem dX9_end_5 : decode cX9_end 5 = .ok (.aload_n 0, 1) := da9_dX9_end_0.2.2.2.1
theorem dX9_end_6 : decode cX9_end 6 = .ok (.getfield 88, 3) := da9_dX9_end_0.2.2.2.2.1
theorem dX9_end_9 : decode cX9_end 9 = .ok (.if_icmp .le 5, 3) := da9_dX9_end_0.2.2.2.2.2.1
theorem dX9_end_12 : decode cX9_end 12 = .ok (.iconst (-1), 1) := da9_dX9_end_0.2.2.2.2.2.2.1
theorem dX9_end_13 : decode cX9_end 13 = .ok (.ireturn, 1) := da9_dX9_end_0.2.2.2.2.2.2.2.1
theorem dX9_end_14 : decode cX9_end 14 = .ok (.aload_n 0, 1) := da9_dX9_end_0.2.2.2.2.2.2.2.2.1
theorem dX9_end_15 : decode cX9_end 15 = .ok (.iload_n 1, 1) := da9_dX9_end_0.2.2.2.2.2.2.2.2.2.1
theorem dX9_end_16 : decode cX9_end 16 = .ok (.putfield 88, 3) := da9_dX9_end_0.2.2.2.2.2.2.2.2.2.2.1
theorem dX9_end_19 : decode cX9_end 19 = .ok (.iload_n 1, 1) := da9_dX9_end_0.2.2.2.2.2.2.2.2.2.2.2.1
theorem dX9_end_20 : decode cX9_end 20 = .ok (.ireturn, 1) := da9_dX9_end_0.2.2.2.2.2.2.2.2.2.2.2.2
set_option maxRecDepth 20000 in
theorem ggX9_row_X9_refuse : GoodIn wsX9_row wsX9_refuse := goodIn_r _ [10, 11, 12, 45, 46, 47, 48, 49, 50, 51, 52, 53, 54, 55, 56, 57, 58, 59, 60, 61, 62, 63] rfl (by decide +kernel)
set_option maxRecDepth 20000 in
theorem gX9_row_X9_refuse : GoodIn wsX9_row (wsV RX9 118 RX9 yX9_refuse wsX9_refuse) := goodIn_app (goodIn_of _ (by decide +kernel)) ggX9_row_X9_refuse
set_option maxRecDepth 20000 in
theorem ggX9_row_X9_isNewFloor : GoodIn wsX9_row wsX9_isNewFloor := goodIn_r _ [16, 3, 17, 18, 9, 19, 20, 21, 22, 23, 24, 25, 26, 27, 28, 29, 45, 46, 47, 48, 49, 50, 51, 52, 53, 54, 55, 56, 57, 58, 59, 60, 61, 62, 63, 64, 65, 66, 67, 68, 69, 70, 71, 72, 73, 74, 75, 76, 77, 78] rfl (by decide +kernel)
set_option maxRecDepth 20000 in
theorem gX9_row_X9_isNewFloor : GoodIn wsX9_row (wsV RX9 180 RX9 yX9_isNewFloor wsX9_isNewFloor) := goodIn_app (goodIn_of _ (by decide +kernel)) ggX9_row_X9_isNewFloor
set_option maxRecDepth 20000 in
theorem ggX9_row_X8_add : GoodIn wsX9_row wsX8_add := goodIn_r _ [33, 28, 29, 34, 74, 75, 76, 77, 78] rfl (by decide +kernel)
set_option maxRecDepth 20000 in
theorem gX9_row_X8_add : GoodIn wsX9_row (wsV RX9 128 RX8 yX8_add wsX8_add) := goodIn_app (goodIn_of _ (by decide +kernel)) ggX9_row_X8_add
set_option maxRecDepth 20000 in
theorem ggX9_row_X0_clear : GoodIn wsX9_row wsX0_clear := goodIn_r _ [39, 40, 79, 80, 81, 82, 83, 84] rfl (by decide +kernel)
set_option maxRecDepth 20000 in
theorem gX9_row_X0_clear : GoodIn wsX9_row (wsV RX9 132 RX0 yX0_clear wsX0_clear) := goodIn_app (goodIn_of _ (by decide +kernel)) ggX9_row_X0_clear
set_option maxRecDepth 20000 in
theorem ggX9_row_X9_accept : GoodIn wsX9_row wsX9_accept := goodIn_r _ [44, 11, 45, 46, 47, 48, 49, 50, 51, 52, 53, 54, 55, 56, 57, 58, 59, 60, 61, 62, 63] rfl (by decide +kernel)
set_option maxRecDepth 20000 in
theorem gX9_row_X9_accept : GoodIn wsX9_row (wsV RX9 138 RX9 yX9_accept wsX9_accept) := goodIn_app (goodIn_of _ (by decide +kernel)) ggX9_row_X9_accept
theorem da9_dX9_row_0 : (decode cX9_row 0 = .ok (.aload_n 0, 1)) ∧ (decode cX9_row 1 = .ok (.getfield 88, 3)) ∧ (decode cX9_row 4 = .ok (.ifCond .ne 10, 3)) ∧ (decode cX9_row 7 = .ok (.aload_n 0, 1)) ∧ (decode cX9_row 8 = .ok (.bipush (-6), 2)) ∧ (decode cX9_row 10 = .ok (.invokevirtual 118, 3)) ∧ (decode cX9_row 13 = .ok (.ireturn, 1)) ∧ (decode cX9_row 14 = .ok (.iconst 0, 1)) ∧ (decode cX9_row 15 = .ok (.istore_n 1, 1)) ∧ (decode cX9_row 16 = .ok (.iconst 0, 1)) ∧ (decode cX9_row 17 = .ok (.istore_n 2, 1)) ∧ (decode cX9_row 18 = .ok (.iconst 0, 1)) ∧ (decode cX9_row 19 = .ok (.istore_n 3, 1)) ∧ (decode cX9_row 20 = .ok (.iload_n 3, 1)) ∧ (decode cX9_row 21 = .ok (.aload_n 0, 1)) ∧ (decode cX9_row 22 = .ok (.getfield 88, 3)) := by decide +kernel
theorem dX9_row_0 : decode cX9_row 0 = .ok (.aload_n 0, 1) := da9_dX9_row_0.1
theorem dX9_row_1 : decode cX9_row 1 = .ok (.getfield 88, 3) := da9_dX9_row_0.2.1
theorem dX9_row_4 : decode cX9_row 4 = .ok (.ifCond .ne 10, 3) := da9_dX9_row_0.2.2.1
theorem dX9_row_7 : decode cX9_row 7 = .ok (.aload_n 0, 1) := da9_dX9_row_0.2.2.2.1
theorem dX9_row_8 : decode cX9_row 8 = .ok (.bipush (-6), 2) := da9_dX9_row_0.2.2.2.2.1
theorem dX9_row_10 : decode cX9_row 10 = .ok (.invokevirtual 118, 3) := da9_dX9_row_0.2.2.2.2.2.1
theorem dX9_row_13 : decode cX9_row 13 = .ok (.ireturn, 1) := da9_dX9_row_0.2.2.2.2.2.2.1
theorem dX9_row_14 : decode cX9_row 14 = .ok (.iconst 0, 1) := da9_dX9_row_0.2.2.2.2.2.2.2.1
theorem dX9_row_15 : decode cX9_row 15 = .ok (.istore_n 1, 1) := da9_dX9_row_0.2.2.2.2.2.2.2.2.1
theorem dX9_row_16 : decode cX9_row 16 = .ok (.iconst 0, 1) := da9_dX9_row_0.2.2.2.2.2.2.2.2.2.1
theorem dX9_row_17 : decode cX9_row 17 = .ok (.istore_n 2, 1) := da9_dX9_row_0.2.2.2.2.2.2.2.2.2.2.1
theorem dX9_row_18 : decode cX9_row 18 = .ok (.iconst 0, 1) := da9_dX9_row_0.2.2.2.2.2.2.2.2.2.2.2.1
theorem dX9_row_19 : decode cX9_row 19 = .ok (.istore_n 3, 1) := da9_dX9_row_0.2.2.2.2.2.2.2.2.2.2.2.2.1
theorem dX9_row_20 : decode cX9_row 20 = .ok (.iload_n 3, 1) := da9_dX9_row_0.2.2.2.2.2.2.2.2.2.2.2.2.2.1
theorem dX9_row_21 : decode cX9_row 21 = .ok (.aload_n 0, 1) := da9_dX9_row_0.2.2.2.2.2.2.2.2.2.2.2.2.2.2.1
theorem dX9_row_22 : decode cX9_row 22 = .ok (.getfield 88, 3) := da9_dX9_row_0.2.2.2.2.2.2.2.2.2.2.2.2.2.2.2
theorem da9_dX9_row_25 : (decode cX9_row 25 = .ok (.if_icmp .ge 76, 3)) ∧ (decode cX9_row 28 = .ok (.iload_n 3, 1)) ∧ (decode cX9_row 29 = .ok (.iconst 1, 1)) ∧ (decode cX9_row 30 = .ok (.iadd, 1)) ∧ (decode cX9_row 31 = .ok (.aload_n 0, 1)) ∧ (decode cX9_row 32 = .ok (.getfield 88, 3)) ∧ (decode cX9_row 35 = .ok (.if_icmp .ge 57, 3)) ∧ (decode cX9_row 38 = .ok (.aload_n 0, 1)) ∧ (decode cX9_row 39 = .ok (.aload_n 0, 1)) ∧ (decode cX9_row 40 = .ok (.getfield 84, 3)) ∧ (decode cX9_row 43 = .ok (.iload_n 3, 1)) ∧ (decode cX9_row 44 = .ok (.iaload, 1)) ∧ (decode cX9_row 45 = .ok (.aload_n 0, 1)) ∧ (decode cX9_row 46 = .ok (.getfield 84, 3)) ∧ (decode cX9_row 49 = .ok (.iload_n 3, 1)) ∧ (decode cX9_row 50 = .ok (.iconst 1, 1)) := by decide +kernel
theorem dX9_row_25 : decode cX9_row 25 = .ok (.if_icmp .ge 76, 3) := da9_dX9_row_25.1
theorem dX9_row_28 : decode cX9_row 28 = .ok (.iload_n 3, 1) := da9_dX9_row_25.2.1
theorem dX9_row_29 : decode cX9_row 29 = .ok (.iconst 1, 1) := da9_dX9_row_25.2.2.1
theorem dX9_row_30 : decode cX9_row 30 = .ok (.iadd, 1) := da9_dX9_row_25.2.2.2.1
theorem dX9_row_31 : decode cX9_row 31 = .ok (.aload_n 0, 1) := da9_dX9_row_25.2.2.2.2.1
theorem dX9_row_32 : decode cX9_row 32 = .ok (.getfield 88, 3) := da9_dX9_row_25.2.2.2.2.2.1
theorem dX9_row_35 : decode cX9_row 35 = .ok (.if_icmp .ge 57, 3) := da9_dX9_row_25.2.2.2.2.2.2.1
theorem dX9_row_38 : decode cX9_row 38 = .ok (.aload_n 0, 1) := da9_dX9_row_25.2.2.2.2.2.2.2.1
theorem dX9_row_39 : decode cX9_row 39 = .ok (.aload_n 0, 1) := da9_dX9_row_25.2.2.2.2.2.2.2.2.1
theorem dX9_row_40 : decode cX9_row 40 = .ok (.getfield 84, 3) := da9_dX9_row_25.2.2.2.2.2.2.2.2.2.1
theorem dX9_row_43 : decode cX9_row 43 = .ok (.iload_n 3, 1) := da9_dX9_row_25.2.2.2.2.2.2.2.2.2.2.1
theorem dX9_row_44 : decode cX9_row 44 = .ok (.iaload, 1) := da9_dX9_row_25.2.2.2.2.2.2.2.2.2.2.2.1
theorem dX9_row_45 : decode cX9_row 45 = .ok (.aload_n 0, 1) := da9_dX9_row_25.2.2.2.2.2.2.2.2.2.2.2.2.1
theorem dX9_row_46 : decode cX9_row 46 = .ok (.getfield 84, 3) := da9_dX9_row_25.2.2.2.2.2.2.2.2.2.2.2.2.2.1
theorem dX9_row_49 : decode cX9_row 49 = .ok (.iload_n 3, 1) := da9_dX9_row_25.2.2.2.2.2.2.2.2.2.2.2.2.2.2.1
theorem dX9_row_50 : decode cX9_row 50 = .ok (.iconst 1, 1) := da9_dX9_row_25.2.2.2.2.2.2.2.2.2.2.2.2.2.2.2
theorem da9_dX9_row_51 : (decode cX9_row 51 = .ok (.iadd, 1)) ∧ (decode cX9_row 52 = .ok (.iaload, 1)) ∧ (decode cX9_row 53 = .ok (.invokevirtual 180, 3)) ∧ (decode cX9_row 56 = .ok (.ifCond .eq 36, 3)) ∧ (decode cX9_row 59 = .ok (.aload_n 0, 1)) ∧ (decode cX9_row 60 = .ok (.getfield 10, 3)) ∧ (decode cX9_row 63 = .ok (.getfield 122, 3)) ∧ (decode cX9_row 66 = .ok (.aload_n 0, 1)) ∧ (decode cX9_row 67 = .ok (.getfield 84, 3)) ∧ (decode cX9_row 70 = .ok (.iload_n 3, 1)) ∧ (decode cX9_row 71 = .ok (.iaload, 1)) ∧ (decode cX9_row 72 = .ok (.aload_n 0, 1)) ∧ (decode cX9_row 73 = .ok (.getfield 84, 3)) ∧ (decode cX9_row 76 = .ok (.iload_n 3, 1)) ∧ (decode cX9_row 77 = .ok (.iconst 1, 1)) ∧ (decode cX9_row 78 = .ok (.iadd, 1)) := by decide +kernel
theorem dX9_row_51 : decode cX9_row 51 = .ok (.iadd, 1) := da9_dX9_row_51.1
theorem dX9_row_52 : decode cX9_row 52 = .ok (.iaload, 1) := da9_dX9_row_51.2.1
theorem dX9_row_53 : decode cX9_row 53 = .ok (.invokevirtual 180, 3) := da9_dX9_row_51.2.2.1
theorem dX9_row_56 : decode cX9_row 56 = .ok (.ifCond .eq 36, 3) := da9_dX9_row_51.2.2.2.1
theorem dX9_row_59 : decode cX9_row 59 = .ok (.aload_n 0, 1) := da9_dX9_row_51.2.2.2.2.1
theorem dX9_row_60 : decode cX9_row 60 = .ok (.getfield 10, 3) := da9_dX9_row_51.2.2.2.2.2.1
theorem dX9_row_63 : decode cX9_row 63 = .ok (.getfield 122, 3) := da9_dX9_row_51.2.2.2.2.2.2.1
theorem dX9_row_66 : decode cX9_row 66 = .ok (.aload_n 0, 1) := da9_dX9_row_51.2.2.2.2.2.2.2.1
theorem dX9_row_67 : decode cX9_row 67 = .ok (.getfield 84, 3) := da9_dX9_row_51.2.2.2.2.2.2.2.2.1
theorem dX9_row_70 : decode cX9_row 70 = .ok (.iload_n 3, 1) := da9_dX9_row_51.2.2.2.2.2.2.2.2.2.1
theorem dX9_row_71 : decode cX9_row 71 = .ok (.iaload, 1) := da9_dX9_row_51.2.2.2.2.2.2.2.2.2.2.1
theorem dX9_row_72 : decode cX9_row 72 = .ok (.aload_n 0, 1) := da9_dX9_row_51.2.2.2.2.2.2.2.2.2.2.2.1
theorem dX9_row_73 : decode cX9_row 73 = .ok (.getfield 84, 3) := da9_dX9_row_51.2.2.2.2.2.2.2.2.2.2.2.2.1
theorem dX9_row_76 : decode cX9_row 76 = .ok (.iload_n 3, 1) := da9_dX9_row_51.2.2.2.2.2.2.2.2.2.2.2.2.2.1
theorem dX9_row_77 : decode cX9_row 77 = .ok (.iconst 1, 1) := da9_dX9_row_51.2.2.2.2.2.2.2.2.2.2.2.2.2.2.1
theorem dX9_row_78 : decode cX9_row 78 = .ok (.iadd, 1) := da9_dX9_row_51.2.2.2.2.2.2.2.2.2.2.2.2.2.2.2
theorem da9_dX9_row_79 : (decode cX9_row 79 = .ok (.iaload, 1)) ∧ (decode cX9_row 80 = .ok (.invokevirtual 128, 3)) ∧ (decode cX9_row 83 = .ok (.ifCond .eq 9, 3)) ∧ (decode cX9_row 86 = .ok (.iinc 1 1, 3)) ∧ (decode cX9_row 89 = .ok (.goto 6, 3)) ∧ (decode cX9_row 92 = .ok (.iinc 2 1, 3)) ∧ (decode cX9_row 95 = .ok (.iinc 3 2, 3)) ∧ (decode cX9_row 98 = .ok (.goto (-78), 3)) ∧ (decode cX9_row 101 = .ok (.aload_n 0, 1)) ∧ (decode cX9_row 102 = .ok (.iconst 0, 1)) ∧ (decode cX9_row 103 = .ok (.putfield 88, 3)) ∧ (decode cX9_row 106 = .ok (.aload_n 0, 1)) ∧ (decode cX9_row 107 = .ok (.iload_n 2, 1)) ∧ (decode cX9_row 108 = .ok (.putfield 95, 3)) ∧ (decode cX9_row 111 = .ok (.aload_n 0, 1)) ∧ (decode cX9_row 112 = .ok (.getfield 27, 3)) := by decide +kernel
theorem dX9_row_79 : decode cX9_row 79 = .ok (.iaload, 1) := da9_dX9_row_79.1
theorem dX9_row_80 : decode cX9_row 80 = .ok (.invokevirtual 128, 3) := da9_dX9_row_79.2.1
theorem dX9_row_83 : decode cX9_row 83 = .ok (.ifCond .eq 9, 3) := da9_dX9_row_79.2.2.1
theorem dX9_row_86 : decode cX9_row 86 = .ok (.iinc 1 1, 3) := da9_dX9_row_79.2.2.2.1
theorem dX9_row_89 : decode cX9_row 89 = .ok (.goto 6, 3) := da9_dX9_row_79.2.2.2.2.1
theorem dX9_row_92 : decode cX9_row 92 = .ok (.iinc 2 1, 3) := da9_dX9_row_79.2.2.2.2.2.1
theorem dX9_row_95 : decode cX9_row 95 = .ok (.iinc 3 2, 3) := da9_dX9_row_79.2.2.2.2.2.2.1
theorem dX9_row_98 : decode cX9_row 98 = .ok (.goto (-78), 3) := da9_dX9_row_79.2.2.2.2.2.2.2.1
theorem dX9_row_101 : decode cX9_row 101 = .ok (.aload_n 0, 1) := da9_dX9_row_79.2.2.2.2.2.2.2.2.1
theorem dX9_row_102 : decode cX9_row 102 = .ok (.iconst 0, 1) := da9_dX9_row_79.2.2.2.2.2.2.2.2.2.1
theorem dX9_row_103 : decode cX9_row 103 = .ok (.putfield 88, 3) := da9_dX9_row_79.2.2.2.2.2.2.2.2.2.2.1
theorem dX9_row_106 : decode cX9_row 106 = .ok (.aload_n 0, 1) := da9_dX9_row_79.2.2.2.2.2.2.2.2.2.2.2.1
theorem dX9_row_107 : decode cX9_row 107 = .ok (.iload_n 2, 1) := da9_dX9_row_79.2.2.2.2.2.2.2.2.2.2.2.2.1
theorem dX9_row_108 : decode cX9_row 108 = .ok (.putfield 95, 3) := da9_dX9_row_79.2.2.2.2.2.2.2.2.2.2.2.2.2.1
theorem dX9_row_111 : decode cX9_row 111 = .ok (.aload_n 0, 1) := da9_dX9_row_79.2.2.2.2.2.2.2.2.2.2.2.2.2.2.1
theorem dX9_row_112 : decode cX9_row 112 = .ok (.getfield 27, 3) := da9_dX9_row_79.2.2.2.2.2.2.2.2.2.2.2.2.2.2.2
theorem da9_dX9_row_115 : (decode cX9_row 115 = .ok (.invokevirtual 132, 3)) ∧ (decode cX9_row 118 = .ok (.aload_n 0, 1)) ∧ (decode cX9_row 119 = .ok (.iload_n 1, 1)) ∧ (decode cX9_row 120 = .ok (.invokevirtual 138, 3)) ∧ (decode cX9_row 123 = .ok (.ireturn, 1)) := by decide +kernel
theorem dX9_row_115 : decode cX9_row 115 = .ok (.invokevirtual 132, 3) := da9_dX9_row_115.1
theorem dX9_row_118 : decode cX9_row 118 = .ok (.aload_n 0, 1) := da9_dX9_row_115.2.1
theorem dX9_row_119 : decode cX9_row 119 = .ok (.iload_n 1, 1) := da9_dX9_row_115.2.2.1
theorem dX9_row_120 : decode cX9_row 120 = .ok (.invokevirtual 138, 3) := da9_dX9_row_115.2.2.2.1
theorem dX9_row_123 : decode cX9_row 123 = .ok (.ireturn, 1) := da9_dX9_row_115.2.2.2.2
theorem da9_dX9_bricks_0 : (decode cX9_bricks 0 = .ok (.aload_n 0, 1)) ∧ (decode cX9_bricks 1 = .ok (.getfield 95, 3)) ∧ (decode cX9_bricks 4 = .ok (.ireturn, 1)) := by decide +kernel
theorem dX9_bricks_0 : decode cX9_bricks 0 = .ok (.aload_n 0, 1) := da9_dX9_bricks_0.1
theorem dX9_bricks_1 : decode cX9_bricks 1 = .ok (.getfield 95, 3) := da9_dX9_bricks_0.2.1
theorem dX9_bricks_4 : decode cX9_bricks 4 = .ok (.ireturn, 1) := da9_dX9_bricks_0.2.2
theorem da9_dX9_feedFour_0 : (decode cX9_feedFour 0 = .ok (.bipush 24, 2)) ∧ (decode cX9_feedFour 2 = .ok (.istore_n 2, 1)) ∧ (decode cX9_feedFour 3 = .ok (.iload_n 2, 1)) ∧ (decode cX9_feedFour 4 = .ok (.ifCond .lt 45, 3)) ∧ (decode cX9_feedFour 7 = .ok (.aload_n 0, 1)) ∧ (decode cX9_feedFour 8 = .ok (.getfield 88, 3)) ∧ (decode cX9_feedFour 11 = .ok (.sipush 400, 3)) ∧ (decode cX9_feedFour 14 = .ok (.if_icmp .ge 29, 3)) ∧ (decode cX9_feedFour 17 = .ok (.aload_n 0, 1)) ∧ (decode cX9_feedFour 18 = .ok (.getfield 84, 3)) ∧ (decode cX9_feedFour 21 = .ok (.aload_n 0, 1)) ∧ (decode cX9_feedFour 22 = .ok (.getfield 88, 3)) ∧ (decode cX9_feedFour 25 = .ok (.iload_n 1, 1)) ∧ (decode cX9_feedFour 26 = .ok (.iload_n 2, 1)) ∧ (decode cX9_feedFour 27 = .ok (.iushr, 1)) ∧ (decode cX9_feedFour 28 = .ok (.sipush 255, 3)) := by decide +kernel
theorem dX9_feedFour_0 : decode cX9_feedFour 0 = .ok (.bipush 24, 2) := da9_dX9_feedFour_0.1
theorem dX9_feedFour_2 : decode cX9_feedFour 2 = .ok (.istore_n 2, 1) := da9_dX9_feedFour_0.2.1
theorem dX9_feedFour_3 : decode cX9_feedFour 3 = .ok (.iload_n 2, 1) := da9_dX9_feedFour_0.2.2.1
theorem dX9_feedFour_4 : decode cX9_feedFour 4 = .ok (.ifCond .lt 45, 3) := da9_dX9_feedFour_0.2.2.2.1
theorem dX9_feedFour_7 : decode cX9_feedFour 7 = .ok (.aload_n 0, 1) := da9_dX9_feedFour_0.2.2.2.2.1
theorem dX9_feedFour_8 : decode cX9_feedFour 8 = .ok (.getfield 88, 3) := da9_dX9_feedFour_0.2.2.2.2.2.1
theorem dX9_feedFour_11 : decode cX9_feedFour 11 = .ok (.sipush 400, 3) := da9_dX9_feedFour_0.2.2.2.2.2.2.1
theorem dX9_feedFour_14 : decode cX9_feedFour 14 = .ok (.if_icmp .ge 29, 3) := da9_dX9_feedFour_0.2.2.2.2.2.2.2.1
theorem dX9_feedFour_17 : decode cX9_feedFour 17 = .ok (.aload_n 0, 1) := da9_dX9_feedFour_0.2.2.2.2.2.2.2.2.1
theorem dX9_feedFour_18 : decode cX9_feedFour 18 = .ok (.getfield 84, 3) := da9_dX9_feedFour_0.2.2.2.2.2.2.2.2.2.1
theorem dX9_feedFour_21 : decode cX9_feedFour 21 = .ok (.aload_n 0, 1) := da9_dX9_feedFour_0.2.2.2.2.2.2.2.2.2.2.1
theorem dX9_feedFour_22 : decode cX9_feedFour 22 = .ok (.getfield 88, 3) := da9_dX9_feedFour_0.2.2.2.2.2.2.2.2.2.2.2.1
theorem dX9_feedFour_25 : decode cX9_feedFour 25 = .ok (.iload_n 1, 1) := da9_dX9_feedFour_0.2.2.2.2.2.2.2.2.2.2.2.2.1
theorem dX9_feedFour_26 : decode cX9_feedFour 26 = .ok (.iload_n 2, 1) := da9_dX9_feedFour_0.2.2.2.2.2.2.2.2.2.2.2.2.2.1
theorem dX9_feedFour_27 : decode cX9_feedFour 27 = .ok (.iushr, 1) := da9_dX9_feedFour_0.2.2.2.2.2.2.2.2.2.2.2.2.2.2.1
theorem dX9_feedFour_28 : decode cX9_feedFour 28 = .ok (.sipush 255, 3) := da9_dX9_feedFour_0.2.2.2.2.2.2.2.2.2.2.2.2.2.2.2
theorem da9_dX9_feedFour_31 : (decode cX9_feedFour 31 = .ok (.iand, 1)) ∧ (decode cX9_feedFour 32 = .ok (.iastore, 1)) ∧ (decode cX9_feedFour 33 = .ok (.aload_n 0, 1)) ∧ (decode cX9_feedFour 34 = .ok (.dup, 1)) ∧ (decode cX9_feedFour 35 = .ok (.getfield 88, 3)) ∧ (decode cX9_feedFour 38 = .ok (.iconst 1, 1)) ∧ (decode cX9_feedFour 39 = .ok (.iadd, 1)) ∧ (decode cX9_feedFour 40 = .ok (.putfield 88, 3)) ∧ (decode cX9_feedFour 43 = .ok (.iinc 2 (-8), 3)) ∧ (decode cX9_feedFour 46 = .ok (.goto (-43), 3)) ∧ (decode cX9_feedFour 49 = .ok (.return_, 1)) := by decide +kernel
theorem dX9_feedFour_31 : decode cX9_feedFour 31 = .ok (.iand, 1) := da9_dX9_feedFour_31.1
theorem dX9_feedFour_32 : decode cX9_feedFour 32 = .ok (.iastore, 1) := da9_dX9_feedFour_31.2.1
theorem dX9_feedFour_33 : decode cX9_feedFour 33 = .ok (.aload_n 0, 1) := da9_dX9_feedFour_31.2.2.1
theorem dX9_feedFour_34 : decode cX9_feedFour 34 = .ok (.dup, 1) := da9_dX9_feedFour_31.2.2.2.1
theorem dX9_feedFour_35 : decode cX9_feedFour 35 = .ok (.getfield 88, 3) := da9_dX9_feedFour_31.2.2.2.2.1
theorem dX9_feedFour_38 : decode cX9_feedFour 38 = .ok (.iconst 1, 1) := da9_dX9_feedFour_31.2.2.2.2.2.1
theorem dX9_feedFour_39 : decode cX9_feedFour 39 = .ok (.iadd, 1) := da9_dX9_feedFour_31.2.2.2.2.2.2.1
theorem dX9_feedFour_40 : decode cX9_feedFour 40 = .ok (.putfield 88, 3) := da9_dX9_feedFour_31.2.2.2.2.2.2.2.1
theorem dX9_feedFour_43 : decode cX9_feedFour 43 = .ok (.iinc 2 (-8), 3) := da9_dX9_feedFour_31.2.2.2.2.2.2.2.2.1
theorem dX9_feedFour_46 : decode cX9_feedFour 46 = .ok (.goto (-43), 3) := da9_dX9_feedFour_31.2.2.2.2.2.2.2.2.2.1
theorem dX9_feedFour_49 : decode cX9_feedFour 49 = .ok (.return_, 1) := da9_dX9_feedFour_31.2.2.2.2.2.2.2.2.2.2
set_option maxRecDepth 20000 in
theorem ggX9_isNewFloor_X9_isRank : GoodIn wsX9_isNewFloor wsX9_isRank := goodIn_r _ [5] rfl (by decide +kernel)
set_option maxRecDepth 20000 in
theorem gX9_isNewFloor_X9_isRank : GoodIn wsX9_isNewFloor (va_wsS RX9 111 yX9_isRank wsX9_isRank) := goodIn_app (goodIn_of _ (by decide +kernel)) ggX9_isNewFloor_X9_isRank
set_option maxRecDepth 20000 in
theorem ggX9_isNewFloor_X9_isBit : GoodIn wsX9_isNewFloor wsX9_isBit := goodIn_r _ [8] rfl (by decide +kernel)
set_option maxRecDepth 20000 in
theorem gX9_isNewFloor_X9_isBit : GoodIn wsX9_isNewFloor (va_wsS RX9 115 yX9_isBit wsX9_isBit) := goodIn_app (goodIn_of _ (by decide +kernel)) ggX9_isNewFloor_X9_isBit
set_option maxRecDepth 20000 in
theorem ggX9_isNewFloor_X8_has : GoodIn wsX9_isNewFloor wsX8_has := goodIn_r _ [13, 14, 15, 45, 46, 47, 48, 49] rfl (by decide +kernel)
set_option maxRecDepth 20000 in
theorem gX9_isNewFloor_X8_has : GoodIn wsX9_isNewFloor (wsV RX9 125 RX8 yX8_has wsX8_has) := goodIn_app (goodIn_of _ (by decide +kernel)) ggX9_isNewFloor_X8_has
theorem da9_dX9_isNewFloor_0 : (decode cX9_isNewFloor 0 = .ok (.iload_n 1, 1)) ∧ (decode cX9_isNewFloor 1 = .ok (.invokestatic 111, 3)) ∧ (decode cX9_isNewFloor 4 = .ok (.ifCond .eq 28, 3)) ∧ (decode cX9_isNewFloor 7 = .ok (.iload_n 2, 1)) ∧ (decode cX9_isNewFloor 8 = .ok (.invokestatic 115, 3)) ∧ (decode cX9_isNewFloor 11 = .ok (.ifCond .eq 21, 3)) ∧ (decode cX9_isNewFloor 14 = .ok (.aload_n 0, 1)) ∧ (decode cX9_isNewFloor 15 = .ok (.getfield 10, 3)) ∧ (decode cX9_isNewFloor 18 = .ok (.getfield 122, 3)) ∧ (decode cX9_isNewFloor 21 = .ok (.iload_n 1, 1)) ∧ (decode cX9_isNewFloor 22 = .ok (.invokevirtual 125, 3)) ∧ (decode cX9_isNewFloor 25 = .ok (.ifCond .ne 7, 3)) ∧ (decode cX9_isNewFloor 28 = .ok (.iconst 1, 1)) ∧ (decode cX9_isNewFloor 29 = .ok (.goto 4, 3)) ∧ (decode cX9_isNewFloor 32 = .ok (.iconst 0, 1)) ∧ (decode cX9_isNewFloor 33 = .ok (.ireturn, 1)) := by decide +kernel
theorem dX9_isNewFloor_0 : decode cX9_isNewFloor 0 = .ok (.iload_n 1, 1) := da9_dX9_isNewFloor_0.1
theorem dX9_isNewFloor_1 : decode cX9_isNewFloor 1 = .ok (.invokestatic 111, 3) := da9_dX9_isNewFloor_0.2.1
theorem dX9_isNewFloor_4 : decode cX9_isNewFloor 4 = .ok (.ifCond .eq 28, 3) := da9_dX9_isNewFloor_0.2.2.1
theorem dX9_isNewFloor_7 : decode cX9_isNewFloor 7 = .ok (.iload_n 2, 1) := da9_dX9_isNewFloor_0.2.2.2.1
theorem dX9_isNewFloor_8 : decode cX9_isNewFloor 8 = .ok (.invokestatic 115, 3) := da9_dX9_isNewFloor_0.2.2.2.2.1
theorem dX9_isNewFloor_11 : decode cX9_isNewFloor 11 = .ok (.ifCond .eq 21, 3) := da9_dX9_isNewFloor_0.2.2.2.2.2.1
theorem dX9_isNewFloor_14 : decode cX9_isNewFloor 14 = .ok (.aload_n 0, 1) := da9_dX9_isNewFloor_0.2.2.2.2.2.2.1
theorem dX9_isNewFloor_15 : decode cX9_isNewFloor 15 = .ok (.getfield 10, 3) := da9_dX9_isNewFloor_0.2.2.2.2.2.2.2.1
theorem dX9_isNewFloor_18 : decode cX9_isNewFloor 18 = .ok (.getfield 122, 3) := da9_dX9_isNewFloor_0.2.2.2.2.2.2.2.2.1
theorem dX9_isNewFloor_21 : decode cX9_isNewFloor 21 = .ok (.iload_n 1, 1) := da9_dX9_isNewFloor_0.2.2.2.2.2.2.2.2.2.1
theorem dX9_isNewFloor_22 : decode cX9_isNewFloor 22 = .ok (.invokevirtual 125, 3) := da9_dX9_isNewFloor_0.2.2.2.2.2.2.2.2.2.2.1
theorem dX9_isNewFloor_25 : decode cX9_isNewFloor 25 = .ok (.ifCond .ne 7, 3) := da9_dX9_isNewFloor_0.2.2.2.2.2.2.2.2.2.2.2.1
theorem dX9_isNewFloor_28 : decode cX9_isNewFloor 28 = .ok (.iconst 1, 1) := da9_dX9_isNewFloor_0.2.2.2.2.2.2.2.2.2.2.2.2.1
theorem dX9_isNewFloor_29 : decode cX9_isNewFloor 29 = .ok (.goto 4, 3) := da9_dX9_isNewFloor_0.2.2.2.2.2.2.2.2.2.2.2.2.2.1
theorem dX9_isNewFloor_32 : decode cX9_isNewFloor 32 = .ok (.iconst 0, 1) := da9_dX9_isNewFloor_0.2.2.2.2.2.2.2.2.2.2.2.2.2.2.1
theorem dX9_isNewFloor_33 : decode cX9_isNewFloor 33 = .ok (.ireturn, 1) := da9_dX9_isNewFloor_0.2.2.2.2.2.2.2.2.2.2.2.2.2.2.2
theorem da9_dX9_mostOfTerm_0 : (decode cX9_mostOfTerm 0 = .ok (.iload_n 0, 1)) ∧ (decode cX9_mostOfTerm 1 = .ok (.tableswitch 43 0 3 #[31, 35, 38, 41], 31)) ∧ (decode cX9_mostOfTerm 32 = .ok (.sipush 999, 3)) ∧ (decode cX9_mostOfTerm 35 = .ok (.ireturn, 1)) ∧ (decode cX9_mostOfTerm 36 = .ok (.bipush 10, 2)) ∧ (decode cX9_mostOfTerm 38 = .ok (.ireturn, 1)) ∧ (decode cX9_mostOfTerm 39 = .ok (.bipush 9, 2)) ∧ (decode cX9_mostOfTerm 41 = .ok (.ireturn, 1)) ∧ (decode cX9_mostOfTerm 42 = .ok (.iconst 1, 1)) ∧ (decode cX9_mostOfTerm 43 = .ok (.ireturn, 1)) ∧ (decode cX9_mostOfTerm 44 = .ok (.iconst (-1), 1)) ∧ (decode cX9_mostOfTerm 45 = .ok (.ireturn, 1)) := by decide +kernel
theorem dX9_mostOfTerm_0 : decode cX9_mostOfTerm 0 = .ok (.iload_n 0, 1) := da9_dX9_mostOfTerm_0.1
theorem dX9_mostOfTerm_1 : decode cX9_mostOfTerm 1 = .ok (.tableswitch 43 0 3 #[31, 35, 38, 41], 31) := da9_dX9_mostOfTerm_0.2.1
theorem dX9_mostOfTerm_32 : decode cX9_mostOfTerm 32 = .ok (.sipush 999, 3) := da9_dX9_mostOfTerm_0.2.2.1
theorem dX9_mostOfTerm_35 : decode cX9_mostOfTerm 35 = .ok (.ireturn, 1) := da9_dX9_mostOfTerm_0.2.2.2.1
theorem dX9_mostOfTerm_36 : decode cX9_mostOfTerm 36 = .ok (.bipush 10, 2) := da9_dX9_mostOfTerm_0.2.2.2.2.1
theorem dX9_mostOfTerm_38 : decode cX9_mostOfTerm 38 = .ok (.ireturn, 1) := da9_dX9_mostOfTerm_0.2.2.2.2.2.1
theorem dX9_mostOfTerm_39 : decode cX9_mostOfTerm 39 = .ok (.bipush 9, 2) := da9_dX9_mostOfTerm_0.2.2.2.2.2.2.1
theorem dX9_mostOfTerm_41 : decode cX9_mostOfTerm 41 = .ok (.ireturn, 1) := da9_dX9_mostOfTerm_0.2.2.2.2.2.2.2.1
theorem dX9_mostOfTerm_42 : decode cX9_mostOfTerm 42 = .ok (.iconst 1, 1) := da9_dX9_mostOfTerm_0.2.2.2.2.2.2.2.2.1
theorem dX9_mostOfTerm_43 : decode cX9_mostOfTerm 43 = .ok (.ireturn, 1) := da9_dX9_mostOfTerm_0.2.2.2.2.2.2.2.2.2.1
theorem dX9_mostOfTerm_44 : decode cX9_mostOfTerm 44 = .ok (.iconst (-1), 1) := da9_dX9_mostOfTerm_0.2.2.2.2.2.2.2.2.2.2.1
theorem dX9_mostOfTerm_45 : decode cX9_mostOfTerm 45 = .ok (.ireturn, 1) := da9_dX9_mostOfTerm_0.2.2.2.2.2.2.2.2.2.2.2
