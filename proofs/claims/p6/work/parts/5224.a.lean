set_option maxRecDepth 20000 in
theorem ggX8_mostAlike_X8_rankBehindTurn : GoodIn wsX8_mostAlike wsX8_rankBehindTurn := goodIn_r _ [10, 11, 12, 13, 14, 9, 15, 1, 19, 20, 21, 22, 23] rfl (by decide +kernel)
set_option maxRecDepth 20000 in
theorem gX8_mostAlike_X8_rankBehindTurn : GoodIn wsX8_mostAlike (wsV RX8 95 RX8 yX8_rankBehindTurn wsX8_rankBehindTurn) := goodIn_app (goodIn_of _ (by decide +kernel)) ggX8_mostAlike_X8_rankBehindTurn
set_option maxRecDepth 20000 in
theorem ggX8_mostAlike_X9_bit : GoodIn wsX8_mostAlike wsX9_bit := goodIn_r _ [18] rfl (by decide +kernel)
set_option maxRecDepth 20000 in
theorem gX8_mostAlike_X9_bit_n79 : GoodIn wsX8_mostAlike (wsX9_bit) := ggX8_mostAlike_X9_bit
theorem da9_dX8_mostAlike_0 : (decode cX8_mostAlike 0 = .ok (.iconst 0, 1)) ∧ (decode cX8_mostAlike 1 = .ok (.istore_n 3, 1)) ∧ (decode cX8_mostAlike 2 = .ok (.iconst 0, 1)) ∧ (decode cX8_mostAlike 3 = .ok (.istore 4, 2)) ∧ (decode cX8_mostAlike 5 = .ok (.iload 4, 2)) ∧ (decode cX8_mostAlike 7 = .ok (.bipush 6, 2)) ∧ (decode cX8_mostAlike 9 = .ok (.if_icmp .ge 72, 3)) ∧ (decode cX8_mostAlike 12 = .ok (.iconst 0, 1)) ∧ (decode cX8_mostAlike 13 = .ok (.istore 5, 2)) ∧ (decode cX8_mostAlike 15 = .ok (.iconst 1, 1)) ∧ (decode cX8_mostAlike 16 = .ok (.istore 6, 2)) ∧ (decode cX8_mostAlike 18 = .ok (.iload 6, 2)) ∧ (decode cX8_mostAlike 20 = .ok (.aload_n 0, 1)) ∧ (decode cX8_mostAlike 21 = .ok (.getfield 18, 3)) ∧ (decode cX8_mostAlike 24 = .ok (.if_icmp .gt 44, 3)) ∧ (decode cX8_mostAlike 27 = .ok (.iload 5, 2)) := by decide +kernel
theorem dX8_mostAlike_0 : decode cX8_mostAlike 0 = .ok (.iconst 0, 1) := da9_dX8_mostAlike_0.1
theorem dX8_mostAlike_1 : decode cX8_mostAlike 1 = .ok (.istore_n 3, 1) := da9_dX8_mostAlike_0.2.1
theorem dX8_mostAlike_2 : decode cX8_mostAlike 2 = .ok (.iconst 0, 1) := da9_dX8_mostAlike_0.2.2.1
theorem dX8_mostAlike_3 : decode cX8_mostAlike 3 = .ok (.istore 4, 2) := da9_dX8_mostAlike_0.2.2.2.1
theorem dX8_mostAlike_5 : decode cX8_mostAlike 5 = .ok (.iload 4, 2) := da9_dX8_mostAlike_0.2.2.2.2.1
theorem dX8_mostAlike_7 : decode cX8_mostAlike 7 = .ok (.bipush 6, 2) := da9_dX8_mostAlike_0.2.2.2.2.2.1
theorem dX8_mostAlike_9 : decode cX8_mostAlike 9 = .ok (.if_icmp .ge 72, 3) := da9_dX8_mostAlike_0.2.2.2.2.2.2.1
theorem dX8_mostAlike_12 : decode cX8_mostAlike 12 = .ok (.iconst 0, 1) := da9_dX8_mostAlike_0.2.2.2.2.2.2.2.1
theorem dX8_mostAlike_13 : decode cX8_mostAlike 13 = .ok (.istore 5, 2) := da9_dX8_mostAlike_0.2.2.2.2.2.2.2.2.1
theorem dX8_mostAlike_15 : decode cX8_mostAlike 15 = .ok (.iconst 1, 1) := da9_dX8_mostAlike_0.2.2.2.2.2.2.2.2.2.1
theorem dX8_mostAlike_16 : decode cX8_mostAlike 16 = .ok (.istore 6, 2) := da9_dX8_mostAlike_0.2.2.2.2.2.2.2.2.2.2.1
theorem dX8_mostAlike_18 : decode cX8_mostAlike 18 = .ok (.iload 6, 2) := da9_dX8_mostAlike_0.2.2.2.2.2.2.2.2.2.2.2.1
theorem dX8_mostAlike_20 : decode cX8_mostAlike 20 = .ok (.aload_n 0, 1) := da9_dX8_mostAlike_0.2.2.2.2.2.2.2.2.2.2.2.2.1
theorem dX8_mostAlike_21 : decode cX8_mostAlike 21 = .ok (.getfield 18, 3) := da9_dX8_mostAlike_0.2.2.2.2.2.2.2.2.2.2.2.2.2.1
theorem dX8_mostAlike_24 : decode cX8_mostAlike 24 = .ok (.if_icmp .gt 44, 3) := da9_dX8_mostAlike_0.2.2.2.2.2.2.2.2.2.2.2.2.2.2.1
theorem dX8_mostAlike_27 : decode cX8_mostAlike 27 = .ok (.iload 5, 2) := da9_dX8_mostAlike_0.2.2.2.2.2.2.2.2.2.2.2.2.2.2.2
theorem da9_dX8_mostAlike_29 : (decode cX8_mostAlike 29 = .ok (.iload_n 1, 1)) ∧ (decode cX8_mostAlike 30 = .ok (.iload 6, 2)) ∧ (decode cX8_mostAlike 32 = .ok (.ishr, 1)) ∧ (decode cX8_mostAlike 33 = .ok (.iconst 1, 1)) ∧ (decode cX8_mostAlike 34 = .ok (.iand, 1)) ∧ (decode cX8_mostAlike 35 = .ok (.iconst 1, 1)) ∧ (decode cX8_mostAlike 36 = .ok (.if_icmp .ne 19, 3)) ∧ (decode cX8_mostAlike 39 = .ok (.aload_n 0, 1)) ∧ (decode cX8_mostAlike 40 = .ok (.iload 6, 2)) ∧ (decode cX8_mostAlike 42 = .ok (.iload_n 2, 1)) ∧ (decode cX8_mostAlike 43 = .ok (.invokevirtual 95, 3)) ∧ (decode cX8_mostAlike 46 = .ok (.iload 4, 2)) ∧ (decode cX8_mostAlike 48 = .ok (.if_icmp .ne 7, 3)) ∧ (decode cX8_mostAlike 51 = .ok (.iconst 1, 1)) ∧ (decode cX8_mostAlike 52 = .ok (.goto 4, 3)) ∧ (decode cX8_mostAlike 55 = .ok (.iconst 0, 1)) := by decide +kernel
theorem dX8_mostAlike_29 : decode cX8_mostAlike 29 = .ok (.iload_n 1, 1) := da9_dX8_mostAlike_29.1
theorem dX8_mostAlike_30 : decode cX8_mostAlike 30 = .ok (.iload 6, 2) := da9_dX8_mostAlike_29.2.1
theorem dX8_mostAlike_32 : decode cX8_mostAlike 32 = .ok (.ishr, 1) := da9_dX8_mostAlike_29.2.2.1
theorem dX8_mostAlike_33 : decode cX8_mostAlike 33 = .ok (.iconst 1, 1) := da9_dX8_mostAlike_29.2.2.2.1
theorem dX8_mostAlike_34 : decode cX8_mostAlike 34 = .ok (.iand, 1) := da9_dX8_mostAlike_29.2.2.2.2.1
theorem dX8_mostAlike_35 : decode cX8_mostAlike 35 = .ok (.iconst 1, 1) := da9_dX8_mostAlike_29.2.2.2.2.2.1
theorem dX8_mostAlike_36 : decode cX8_mostAlike 36 = .ok (.if_icmp .ne 19, 3) := da9_dX8_mostAlike_29.2.2.2.2.2.2.1
theorem dX8_mostAlike_39 : decode cX8_mostAlike 39 = .ok (.aload_n 0, 1) := da9_dX8_mostAlike_29.2.2.2.2.2.2.2.1
theorem dX8_mostAlike_40 : decode cX8_mostAlike 40 = .ok (.iload 6, 2) := da9_dX8_mostAlike_29.2.2.2.2.2.2.2.2.1
theorem dX8_mostAlike_42 : decode cX8_mostAlike 42 = .ok (.iload_n 2, 1) := da9_dX8_mostAlike_29.2.2.2.2.2.2.2.2.2.1
theorem dX8_mostAlike_43 : decode cX8_mostAlike 43 = .ok (.invokevirtual 95, 3) := da9_dX8_mostAlike_29.2.2.2.2.2.2.2.2.2.2.1
theorem dX8_mostAlike_46 : decode cX8_mostAlike 46 = .ok (.iload 4, 2) := da9_dX8_mostAlike_29.2.2.2.2.2.2.2.2.2.2.2.1
theorem dX8_mostAlike_48 : decode cX8_mostAlike 48 = .ok (.if_icmp .ne 7, 3) := da9_dX8_mostAlike_29.2.2.2.2.2.2.2.2.2.2.2.2.1
theorem dX8_mostAlike_51 : decode cX8_mostAlike 51 = .ok (.iconst 1, 1) := da9_dX8_mostAlike_29.2.2.2.2.2.2.2.2.2.2.2.2.2.1
theorem dX8_mostAlike_52 : decode cX8_mostAlike 52 = .ok (.goto 4, 3) := da9_dX8_mostAlike_29.2.2.2.2.2.2.2.2.2.2.2.2.2.2.1
theorem dX8_mostAlike_55 : decode cX8_mostAlike 55 = .ok (.iconst 0, 1) := da9_dX8_mostAlike_29.2.2.2.2.2.2.2.2.2.2.2.2.2.2.2
theorem da9_dX8_mostAlike_56 : (decode cX8_mostAlike 56 = .ok (.invokestatic 79, 3)) ∧ (decode cX8_mostAlike 59 = .ok (.iadd, 1)) ∧ (decode cX8_mostAlike 60 = .ok (.istore 5, 2)) ∧ (decode cX8_mostAlike 62 = .ok (.iinc 6 1, 3)) ∧ (decode cX8_mostAlike 65 = .ok (.goto (-47), 3)) ∧ (decode cX8_mostAlike 68 = .ok (.iload_n 3, 1)) ∧ (decode cX8_mostAlike 69 = .ok (.iload 5, 2)) ∧ (decode cX8_mostAlike 71 = .ok (.invokestatic 88, 3)) ∧ (decode cX8_mostAlike 74 = .ok (.istore_n 3, 1)) ∧ (decode cX8_mostAlike 75 = .ok (.iinc 4 1, 3)) ∧ (decode cX8_mostAlike 78 = .ok (.goto (-73), 3)) ∧ (decode cX8_mostAlike 81 = .ok (.iload_n 3, 1)) ∧ (decode cX8_mostAlike 82 = .ok (.ireturn, 1)) := by decide +kernel
theorem dX8_mostAlike_56 : decode cX8_mostAlike 56 = .ok (.invokestatic 79, 3) := da9_dX8_mostAlike_56.1
theorem dX8_mostAlike_59 : decode cX8_mostAlike 59 = .ok (.iadd, 1) := da9_dX8_mostAlike_56.2.1
theorem dX8_mostAlike_60 : decode cX8_mostAlike 60 = .ok (.istore 5, 2) := da9_dX8_mostAlike_56.2.2.1
theorem dX8_mostAlike_62 : decode cX8_mostAlike 62 = .ok (.iinc 6 1, 3) := da9_dX8_mostAlike_56.2.2.2.1
theorem dX8_mostAlike_65 : decode cX8_mostAlike 65 = .ok (.goto (-47), 3) := da9_dX8_mostAlike_56.2.2.2.2.1
theorem dX8_mostAlike_68 : decode cX8_mostAlike 68 = .ok (.iload_n 3, 1) := da9_dX8_mostAlike_56.2.2.2.2.2.1
theorem dX8_mostAlike_69 : decode cX8_mostAlike 69 = .ok (.iload 5, 2) := da9_dX8_mostAlike_56.2.2.2.2.2.2.1
theorem dX8_mostAlike_71 : decode cX8_mostAlike 71 = .ok (.invokestatic 88, 3) := da9_dX8_mostAlike_56.2.2.2.2.2.2.2.1
theorem dX8_mostAlike_74 : decode cX8_mostAlike 74 = .ok (.istore_n 3, 1) := da9_dX8_mostAlike_56.2.2.2.2.2.2.2.2.1
theorem dX8_mostAlike_75 : decode cX8_mostAlike 75 = .ok (.iinc 4 1, 3) := da9_dX8_mostAlike_56.2.2.2.2.2.2.2.2.2.1
theorem dX8_mostAlike_78 : decode cX8_mostAlike 78 = .ok (.goto (-73), 3) := da9_dX8_mostAlike_56.2.2.2.2.2.2.2.2.2.2.1
theorem dX8_mostAlike_81 : decode cX8_mostAlike 81 = .ok (.iload_n 3, 1) := da9_dX8_mostAlike_56.2.2.2.2.2.2.2.2.2.2.2.1
theorem dX8_mostAlike_82 : decode cX8_mostAlike 82 = .ok (.ireturn, 1) := da9_dX8_mostAlike_56.2.2.2.2.2.2.2.2.2.2.2.2
set_option maxRecDepth 20000 in
theorem ggX9_look_X9_was : GoodIn wsX9_look wsX9_was := goodIn_r _ [6, 1, 7, 8, 9, 5, 10, 11, 12, 13, 14, 15, 16, 17, 18, 19, 20, 21, 22, 23, 24, 25, 26, 27, 28, 29, 30, 31, 32, 33, 34, 35, 36, 37, 38, 39, 40, 41, 42, 43, 44, 45, 46, 47, 48, 49, 50, 51, 52, 53, 54, 55, 56, 57, 58, 59, 60, 61, 62, 63, 64, 65, 66, 67, 68, 69, 70, 71, 72, 73, 74, 75, 76, 77, 78, 79, 80, 81, 82, 83, 84, 85, 86, 87, 88, 89, 90, 91, 92, 93, 105, 106, 107, 108, 109, 110, 111, 112, 113, 114, 115, 116, 117, 118, 119, 120, 121, 122, 123, 124, 125, 126, 127, 128, 129, 130, 131, 132, 133, 134, 135, 136, 137, 138, 139, 140, 141, 142, 143, 144, 145, 146, 147, 148, 149, 150, 151] rfl (by decide +kernel)
set_option maxRecDepth 20000 in
theorem gX9_look_X9_was : GoodIn wsX9_look (wsV RX9 285 RX9 yX9_was wsX9_was) := goodIn_app (goodIn_of _ (by decide +kernel)) ggX9_look_X9_was
set_option maxRecDepth 20000 in
theorem ggX9_look_X9_isBit : GoodIn wsX9_look wsX9_isBit := goodIn_r _ [55] rfl (by decide +kernel)
set_option maxRecDepth 20000 in
theorem gX9_look_X9_isBit : GoodIn wsX9_look (va_wsS RX9 115 yX9_isBit wsX9_isBit) := goodIn_app (goodIn_of _ (by decide +kernel)) ggX9_look_X9_isBit
set_option maxRecDepth 20000 in
theorem ggX9_look_X8_mostAlike : GoodIn wsX9_look wsX8_mostAlike := goodIn_r _ [98, 53, 99, 100, 74, 101, 102, 91, 92, 45, 93, 47, 49, 50, 51, 52, 103, 5, 104, 134, 135, 136, 137, 138] rfl (by decide +kernel)
set_option maxRecDepth 20000 in
theorem gX9_look_X8_mostAlike : GoodIn wsX9_look (wsV RX9 288 RX8 yX8_mostAlike wsX8_mostAlike) := goodIn_app (goodIn_of _ (by decide +kernel)) ggX9_look_X8_mostAlike
theorem da9_dX9_look_0 : (decode cX9_look 0 = .ok (.aload_n 0, 1)) ∧ (decode cX9_look 1 = .ok (.invokevirtual 285, 3)) ∧ (decode cX9_look 4 = .ok (.istore_n 2, 1)) ∧ (decode cX9_look 5 = .ok (.iload_n 2, 1)) ∧ (decode cX9_look 6 = .ok (.ifCond .eq 10, 3)) ∧ (decode cX9_look 9 = .ok (.iload_n 1, 1)) ∧ (decode cX9_look 10 = .ok (.invokestatic 115, 3)) ∧ (decode cX9_look 13 = .ok (.ifCond .ne 5, 3)) ∧ (decode cX9_look 16 = .ok (.iconst (-1), 1)) ∧ (decode cX9_look 17 = .ok (.ireturn, 1)) ∧ (decode cX9_look 18 = .ok (.iconst 0, 1)) ∧ (decode cX9_look 19 = .ok (.istore_n 3, 1)) ∧ (decode cX9_look 20 = .ok (.aload_n 0, 1)) ∧ (decode cX9_look 21 = .ok (.getfield 10, 3)) ∧ (decode cX9_look 24 = .ok (.getfield 122, 3)) ∧ (decode cX9_look 27 = .ok (.iload_n 2, 1)) := by decide +kernel
theorem dX9_look_0 : decode cX9_look 0 = .ok (.aload_n 0, 1) := da9_dX9_look_0.1
theorem dX9_look_1 : decode cX9_look 1 = .ok (.invokevirtual 285, 3) := da9_dX9_look_0.2.1
theorem dX9_look_4 : decode cX9_look 4 = .ok (.istore_n 2, 1) := da9_dX9_look_0.2.2.1
theorem dX9_look_5 : decode cX9_look 5 = .ok (.iload_n 2, 1) := da9_dX9_look_0.2.2.2.1
theorem dX9_look_6 : decode cX9_look 6 = .ok (.ifCond .eq 10, 3) := da9_dX9_look_0.2.2.2.2.1
theorem dX9_look_9 : decode cX9_look 9 = .ok (.iload_n 1, 1) := da9_dX9_look_0.2.2.2.2.2.1
theorem dX9_look_10 : decode cX9_look 10 = .ok (.invokestatic 115, 3) := da9_dX9_look_0.2.2.2.2.2.2.1
theorem dX9_look_13 : decode cX9_look 13 = .ok (.ifCond .ne 5, 3) := da9_dX9_look_0.2.2.2.2.2.2.2.1
theorem dX9_look_16 : decode cX9_look 16 = .ok (.iconst (-1), 1) := da9_dX9_look_0.2.2.2.2.2.2.2.2.1
theorem dX9_look_17 : decode cX9_look 17 = .ok (.ireturn, 1) := da9_dX9_look_0.2.2.2.2.2.2.2.2.2.1
theorem dX9_look_18 : decode cX9_look 18 = .ok (.iconst 0, 1) := da9_dX9_look_0.2.2.2.2.2.2.2.2.2.2.1
theorem dX9_look_19 : decode cX9_look 19 = .ok (.istore_n 3, 1) := da9_dX9_look_0.2.2.2.2.2.2.2.2.2.2.2.1
theorem dX9_look_20 : decode cX9_look 20 = .ok (.aload_n 0, 1) := da9_dX9_look_0.2.2.2.2.2.2.2.2.2.2.2.2.1
theorem dX9_look_21 : decode cX9_look 21 = .ok (.getfield 10, 3) := da9_dX9_look_0.2.2.2.2.2.2.2.2.2.2.2.2.2.1
theorem dX9_look_24 : decode cX9_look 24 = .ok (.getfield 122, 3) := da9_dX9_look_0.2.2.2.2.2.2.2.2.2.2.2.2.2.2.1
theorem dX9_look_27 : decode cX9_look 27 = .ok (.iload_n 2, 1) := da9_dX9_look_0.2.2.2.2.2.2.2.2.2.2.2.2.2.2.2
theorem da9_dX9_look_28 : (decode cX9_look 28 = .ok (.iconst 0, 1)) ∧ (decode cX9_look 29 = .ok (.invokevirtual 288, 3)) ∧ (decode cX9_look 32 = .ok (.istore 4, 2)) ∧ (decode cX9_look 34 = .ok (.iconst 1, 1)) ∧ (decode cX9_look 35 = .ok (.istore 5, 2)) ∧ (decode cX9_look 37 = .ok (.iload 5, 2)) ∧ (decode cX9_look 39 = .ok (.aload_n 0, 1)) ∧ (decode cX9_look 40 = .ok (.getfield 10, 3)) ∧ (decode cX9_look 43 = .ok (.getfield 122, 3)) ∧ (decode cX9_look 46 = .ok (.getfield 135, 3)) ∧ (decode cX9_look 49 = .ok (.if_icmp .ge 38, 3)) ∧ (decode cX9_look 52 = .ok (.aload_n 0, 1)) ∧ (decode cX9_look 53 = .ok (.getfield 10, 3)) ∧ (decode cX9_look 56 = .ok (.getfield 122, 3)) ∧ (decode cX9_look 59 = .ok (.iload_n 2, 1)) ∧ (decode cX9_look 60 = .ok (.iload 5, 2)) := by decide +kernel
theorem dX9_look_28 : decode cX9_look 28 = .ok (.iconst 0, 1) := da9_dX9_look_28.1
theorem dX9_look_29 : decode cX9_look 29 = .ok (.invokevirtual 288, 3) := da9_dX9_look_28.2.1
theorem dX9_look_32 : decode cX9_look 32 = .ok (.istore 4, 2) := da9_dX9_look_28.2.2.1
theorem dX9_look_34 : decode cX9_look 34 = .ok (.iconst 1, 1) := da9_dX9_look_28.2.2.2.1
theorem dX9_look_35 : decode cX9_look 35 = .ok (.istore 5, 2) := da9_dX9_look_28.2.2.2.2.1
theorem dX9_look_37 : decode cX9_look 37 = .ok (.iload 5, 2) := da9_dX9_look_28.2.2.2.2.2.1
theorem dX9_look_39 : decode cX9_look 39 = .ok (.aload_n 0, 1) := da9_dX9_look_28.2.2.2.2.2.2.1
theorem dX9_look_40 : decode cX9_look 40 = .ok (.getfield 10, 3) := da9_dX9_look_28.2.2.2.2.2.2.2.1
theorem dX9_look_43 : decode cX9_look 43 = .ok (.getfield 122, 3) := da9_dX9_look_28.2.2.2.2.2.2.2.2.1
theorem dX9_look_46 : decode cX9_look 46 = .ok (.getfield 135, 3) := da9_dX9_look_28.2.2.2.2.2.2.2.2.2.1
theorem dX9_look_49 : decode cX9_look 49 = .ok (.if_icmp .ge 38, 3) := da9_dX9_look_28.2.2.2.2.2.2.2.2.2.2.1
theorem dX9_look_52 : decode cX9_look 52 = .ok (.aload_n 0, 1) := da9_dX9_look_28.2.2.2.2.2.2.2.2.2.2.2.1
theorem dX9_look_53 : decode cX9_look 53 = .ok (.getfield 10, 3) := da9_dX9_look_28.2.2.2.2.2.2.2.2.2.2.2.2.1
theorem dX9_look_56 : decode cX9_look 56 = .ok (.getfield 122, 3) := da9_dX9_look_28.2.2.2.2.2.2.2.2.2.2.2.2.2.1
theorem dX9_look_59 : decode cX9_look 59 = .ok (.iload_n 2, 1) := da9_dX9_look_28.2.2.2.2.2.2.2.2.2.2.2.2.2.2.1
theorem dX9_look_60 : decode cX9_look 60 = .ok (.iload 5, 2) := da9_dX9_look_28.2.2.2.2.2.2.2.2.2.2.2.2.2.2.2
theorem da9_dX9_look_62 : (decode cX9_look 62 = .ok (.invokevirtual 288, 3)) ∧ (decode cX9_look 65 = .ok (.istore 6, 2)) ∧ (decode cX9_look 67 = .ok (.iload 6, 2)) ∧ (decode cX9_look 69 = .ok (.iload 4, 2)) ∧ (decode cX9_look 71 = .ok (.if_icmp .ge 10, 3)) ∧ (decode cX9_look 74 = .ok (.iload 6, 2)) ∧ (decode cX9_look 76 = .ok (.istore 4, 2)) ∧ (decode cX9_look 78 = .ok (.iload 5, 2)) ∧ (decode cX9_look 80 = .ok (.istore_n 3, 1)) ∧ (decode cX9_look 81 = .ok (.iinc 5 1, 3)) ∧ (decode cX9_look 84 = .ok (.goto (-47), 3)) ∧ (decode cX9_look 87 = .ok (.iload_n 1, 1)) ∧ (decode cX9_look 88 = .ok (.ifCond .ne 7, 3)) ∧ (decode cX9_look 91 = .ok (.iload_n 3, 1)) ∧ (decode cX9_look 92 = .ok (.goto 5, 3)) ∧ (decode cX9_look 95 = .ok (.iload 4, 2)) := by decide +kernel
theorem dX9_look_62 : decode cX9_look 62 = .ok (.invokevirtual 288, 3) := da9_dX9_look_62.1
theorem dX9_look_65 : decode cX9_look 65 = .ok (.istore 6, 2) := da9_dX9_look_62.2.1
theorem dX9_look_67 : decode cX9_look 67 = .ok (.iload 6, 2) := da9_dX9_look_62.2.2.1
theorem dX9_look_69 : decode cX9_look 69 = .ok (.iload 4, 2) := da9_dX9_look_62.2.2.2.1
theorem dX9_look_71 : decode cX9_look 71 = .ok (.if_icmp .ge 10, 3) := da9_dX9_look_62.2.2.2.2.1
theorem dX9_look_74 : decode cX9_look 74 = .ok (.iload 6, 2) := da9_dX9_look_62.2.2.2.2.2.1
theorem dX9_look_76 : decode cX9_look 76 = .ok (.istore 4, 2) := da9_dX9_look_62.2.2.2.2.2.2.1
theorem dX9_look_78 : decode cX9_look 78 = .ok (.iload 5, 2) := da9_dX9_look_62.2.2.2.2.2.2.2.1
theorem dX9_look_80 : decode cX9_look 80 = .ok (.istore_n 3, 1) := da9_dX9_look_62.2.2.2.2.2.2.2.2.1
theorem dX9_look_81 : decode cX9_look 81 = .ok (.iinc 5 1, 3) := da9_dX9_look_62.2.2.2.2.2.2.2.2.2.1
theorem dX9_look_84 : decode cX9_look 84 = .ok (.goto (-47), 3) := da9_dX9_look_62.2.2.2.2.2.2.2.2.2.2.1
theorem dX9_look_87 : decode cX9_look 87 = .ok (.iload_n 1, 1) := da9_dX9_look_62.2.2.2.2.2.2.2.2.2.2.2.1
theorem dX9_look_88 : decode cX9_look 88 = .ok (.ifCond .ne 7, 3) := da9_dX9_look_62.2.2.2.2.2.2.2.2.2.2.2.2.1
theorem dX9_look_91 : decode cX9_look 91 = .ok (.iload_n 3, 1) := da9_dX9_look_62.2.2.2.2.2.2.2.2.2.2.2.2.2.1
theorem dX9_look_92 : decode cX9_look 92 = .ok (.goto 5, 3) := da9_dX9_look_62.2.2.2.2.2.2.2.2.2.2.2.2.2.2.1
theorem dX9_look_95 : decode cX9_look 95 = .ok (.iload 4, 2) := da9_dX9_look_62.2.2.2.2.2.2.2.2.2.2.2.2.2.2.2
theorem dX9_look_97 : decode cX9_look 97 = .ok (.ireturn, 1) := by decide +kernel
set_option maxRecDepth 20000 in
theorem ggX9_few_J7_fill_d0a16 : GoodIn wsX9_few wsJ7_fill_d0a16 := goodIn_r _ [9] rfl (by decide +kernel)
set_option maxRecDepth 20000 in
theorem gX9_few_J7_fill_d0a16 : GoodIn wsX9_few (va_wsS RX9 293 yJ7_fill_d0a16 wsJ7_fill_d0a16) := goodIn_app (goodIn_of _ (by decide +kernel)) ggX9_few_J7_fill_d0a16
theorem da9_dX9_few_0 : (decode cX9_few 0 = .ok (.iload_n 1, 1)) ∧ (decode cX9_few 1 = .ok (.iconst 1, 1)) ∧ (decode cX9_few 2 = .ok (.if_icmp .lt 19, 3)) ∧ (decode cX9_few 5 = .ok (.iload_n 1, 1)) ∧ (decode cX9_few 6 = .ok (.bipush 20, 2)) ∧ (decode cX9_few 8 = .ok (.if_icmp .gt 13, 3)) ∧ (decode cX9_few 11 = .ok (.iload_n 2, 1)) ∧ (decode cX9_few 12 = .ok (.ifCond .lt 9, 3)) ∧ (decode cX9_few 15 = .ok (.iload_n 2, 1)) ∧ (decode cX9_few 16 = .ok (.bipush 99, 2)) ∧ (decode cX9_few 18 = .ok (.if_icmp .le 7, 3)) ∧ (decode cX9_few 21 = .ok (.ldc2_w 291, 3)) ∧ (decode cX9_few 24 = .ok (.lreturn, 1)) ∧ (decode cX9_few 25 = .ok (.aload_n 0, 1)) ∧ (decode cX9_few 26 = .ok (.getfield 101, 3)) ∧ (decode cX9_few 29 = .ok (.lconst 0, 1)) := by decide +kernel
theorem dX9_few_0 : decode cX9_few 0 = .ok (.iload_n 1, 1) := da9_dX9_few_0.1
theorem dX9_few_1 : decode cX9_few 1 = .ok (.iconst 1, 1) := da9_dX9_few_0.2.1
theorem dX9_few_2 : decode cX9_few 2 = .ok (.if_icmp .lt 19, 3) := da9_dX9_few_0.2.2.1
theorem dX9_few_5 : decode cX9_few 5 = .ok (.iload_n 1, 1) := da9_dX9_few_0.2.2.2.1
theorem dX9_few_6 : decode cX9_few 6 = .ok (.bipush 20, 2) := da9_dX9_few_0.2.2.2.2.1
theorem dX9_few_8 : decode cX9_few 8 = .ok (.if_icmp .gt 13, 3) := da9_dX9_few_0.2.2.2.2.2.1
theorem dX9_few_11 : decode cX9_few 11 = .ok (.iload_n 2, 1) := da9_dX9_few_0.2.2.2.2.2.2.1
theorem dX9_few_12 : decode cX9_few 12 = .ok (.ifCond .lt 9, 3) := da9_dX9_few_0.2.2.2.2.2.2.2.1
theorem dX9_few_15 : decode cX9_few 15 = .ok (.iload_n 2, 1) := da9_dX9_few_0.2.2.2.2.2.2.2.2.1
theorem dX9_few_16 : decode cX9_few 16 = .ok (.bipush 99, 2) := da9_dX9_few_0.2.2.2.2.2.2.2.2.2.1
theorem dX9_few_18 : decode cX9_few 18 = .ok (.if_icmp .le 7, 3) := da9_dX9_few_0.2.2.2.2.2.2.2.2.2.2.1
theorem dX9_few_21 : decode cX9_few 21 = .ok (.ldc2_w 291, 3) := da9_dX9_few_0.2.2.2.2.2.2.2.2.2.2.2.1
theorem dX9_few_24 : decode cX9_few 24 = .ok (.lreturn, 1) := da9_dX9_few_0.2.2.2.2.2.2.2.2.2.2.2.2.1
theorem dX9_few_25 : decode cX9_few 25 = .ok (.aload_n 0, 1) := da9_dX9_few_0.2.2.2.2.2.2.2.2.2.2.2.2.2.1
theorem dX9_few_26 : decode cX9_few 26 = .ok (.getfield 101, 3) := da9_dX9_few_0.2.2.2.2.2.2.2.2.2.2.2.2.2.2.1
theorem dX9_few_29 : decode cX9_few 29 = .ok (.lconst 0, 1) := da9_dX9_few_0.2.2.2.2.2.2.2.2.2.2.2.2.2.2.2
theorem da9_dX9_few_30 : (decode cX9_few 30 = .ok (.invokestatic 293, 3)) ∧ (decode cX9_few 33 = .ok (.aload_n 0, 1)) ∧ (decode cX9_few 34 = .ok (.getfield 101, 3)) ∧ (decode cX9_few 37 = .ok (.iconst 0, 1)) ∧ (decode cX9_few 38 = .ok (.ldc2_w 299, 3)) ∧ (decode cX9_few 41 = .ok (.lastore, 1)) ∧ (decode cX9_few 42 = .ok (.iconst 0, 1)) ∧ (decode cX9_few 43 = .ok (.istore_n 3, 1)) ∧ (decode cX9_few 44 = .ok (.iload_n 3, 1)) ∧ (decode cX9_few 45 = .ok (.iload_n 2, 1)) ∧ (decode cX9_few 46 = .ok (.if_icmp .ge 95, 3)) ∧ (decode cX9_few 49 = .ok (.iload_n 1, 1)) ∧ (decode cX9_few 50 = .ok (.iconst 1, 1)) ∧ (decode cX9_few 51 = .ok (.isub, 1)) ∧ (decode cX9_few 52 = .ok (.istore 4, 2)) ∧ (decode cX9_few 54 = .ok (.iload 4, 2)) := by decide +kernel
theorem dX9_few_30 : decode cX9_few 30 = .ok (.invokestatic 293, 3) := da9_dX9_few_30.1
theorem dX9_few_33 : decode cX9_few 33 = .ok (.aload_n 0, 1) := da9_dX9_few_30.2.1
theorem dX9_few_34 : decode cX9_few 34 = .ok (.getfield 101, 3) := da9_dX9_few_30.2.2.1
theorem dX9_few_37 : decode cX9_few 37 = .ok (.iconst 0, 1) := da9_dX9_few_30.2.2.2.1
theorem dX9_few_38 : decode cX9_few 38 = .ok (.ldc2_w 299, 3) := da9_dX9_few_30.2.2.2.2.1
theorem dX9_few_41 : decode cX9_few 41 = .ok (.lastore, 1) := da9_dX9_few_30.2.2.2.2.2.1
theorem dX9_few_42 : decode cX9_few 42 = .ok (.iconst 0, 1) := da9_dX9_few_30.2.2.2.2.2.2.1
theorem dX9_few_43 : decode cX9_few 43 = .ok (.istore_n 3, 1) := da9_dX9_few_30.2.2.2.2.2.2.2.1
theorem dX9_few_44 : decode cX9_few 44 = .ok (.iload_n 3, 1) := da9_dX9_few_30.2.2.2.2.2.2.2.2.1
theorem dX9_few_45 : decode cX9_few 45 = .ok (.iload_n 2, 1) := da9_dX9_few_30.2.2.2.2.2.2.2.2.2.1
theorem dX9_few_46 : decode cX9_few 46 = .ok (.if_icmp .ge 95, 3) := da9_dX9_few_30.2.2.2.2.2.2.2.2.2.2.1
theorem dX9_few_49 : decode cX9_few 49 = .ok (.iload_n 1, 1) := da9_dX9_few_30.2.2.2.2.2.2.2.2.2.2.2.1
theorem dX9_few_50 : decode cX9_few 50 = .ok (.iconst 1, 1) := da9_dX9_few_30.2.2.2.2.2.2.2.2.2.2.2.2.1
theorem dX9_few_51 : decode cX9_few 51 = .ok (.isub, 1) := da9_dX9_few_30.2.2.2.2.2.2.2.2.2.2.2.2.2.1
theorem dX9_few_52 : decode cX9_few 52 = .ok (.istore 4, 2) := da9_dX9_few_30.2.2.2.2.2.2.2.2.2.2.2.2.2.2.1
theorem dX9_few_54 : decode cX9_few 54 = .ok (.iload 4, 2) := da9_dX9_few_30.2.2.2.2.2.2.2.2.2.2.2.2.2.2.2
theorem da9_dX9_few_56 : (decode cX9_few 56 = .ok (.ifCond .lt 79, 3)) ∧ (decode cX9_few 59 = .ok (.aload_n 0, 1)) ∧ (decode cX9_few 60 = .ok (.getfield 101, 3)) ∧ (decode cX9_few 63 = .ok (.iload 4, 2)) ∧ (decode cX9_few 65 = .ok (.laload, 1)) ∧ (decode cX9_few 66 = .ok (.bipush 10, 2)) ∧ (decode cX9_few 68 = .ok (.aload_n 0, 1)) ∧ (decode cX9_few 69 = .ok (.getfield 10, 3)) ∧ (decode cX9_few 72 = .ok (.getfield 301, 3)) ∧ (decode cX9_few 75 = .ok (.isub, 1)) ∧ (decode cX9_few 76 = .ok (.i2l, 1)) ∧ (decode cX9_few 77 = .ok (.lmul, 1)) ∧ (decode cX9_few 78 = .ok (.ldc2_w 304, 3)) ∧ (decode cX9_few 81 = .ok (.ldiv, 1)) ∧ (decode cX9_few 82 = .ok (.lstore 5, 2)) ∧ (decode cX9_few 84 = .ok (.iload 4, 2)) := by decide +kernel
theorem dX9_few_56 : decode cX9_few 56 = .ok (.ifCond .lt 79, 3) := da9_dX9_few_56.1
theorem dX9_few_59 : decode cX9_few 59 = .ok (.aload_n 0, 1) := da9_dX9_few_56.2.1
theorem dX9_few_60 : decode cX9_few 60 = .ok (.getfield 101, 3) := da9_dX9_few_56.2.2.1
theorem dX9_few_63 : decode cX9_few 63 = .ok (.iload 4, 2) := da9_dX9_few_56.2.2.2.1
theorem dX9_few_65 : decode cX9_few 65 = .ok (.laload, 1) := da9_dX9_few_56.2.2.2.2.1
theorem dX9_few_66 : decode cX9_few 66 = .ok (.bipush 10, 2) := da9_dX9_few_56.2.2.2.2.2.1
theorem dX9_few_68 : decode cX9_few 68 = .ok (.aload_n 0, 1) := da9_dX9_few_56.2.2.2.2.2.2.1
theorem dX9_few_69 : decode cX9_few 69 = .ok (.getfield 10, 3) := da9_dX9_few_56.2.2.2.2.2.2.2.1
theorem dX9_few_72 : decode cX9_few 72 = .ok (.getfield 301, 3) := da9_dX9_few_56.2.2.2.2.2.2.2.2.1
theorem dX9_few_75 : decode cX9_few 75 = .ok (.isub, 1) := da9_dX9_few_56.2.2.2.2.2.2.2.2.2.1
theorem dX9_few_76 : decode cX9_few 76 = .ok (.i2l, 1) := da9_dX9_few_56.2.2.2.2.2.2.2.2.2.2.1
theorem dX9_few_77 : decode cX9_few 77 = .ok (.lmul, 1) := da9_dX9_few_56.2.2.2.2.2.2.2.2.2.2.2.1
theorem dX9_few_78 : decode cX9_few 78 = .ok (.ldc2_w 304, 3) := da9_dX9_few_56.2.2.2.2.2.2.2.2.2.2.2.2.1
theorem dX9_few_81 : decode cX9_few 81 = .ok (.ldiv, 1) := da9_dX9_few_56.2.2.2.2.2.2.2.2.2.2.2.2.2.1
theorem dX9_few_82 : decode cX9_few 82 = .ok (.lstore 5, 2) := da9_dX9_few_56.2.2.2.2.2.2.2.2.2.2.2.2.2.2.1
theorem dX9_few_84 : decode cX9_few 84 = .ok (.iload 4, 2) := da9_dX9_few_56.2.2.2.2.2.2.2.2.2.2.2.2.2.2.2
theorem da9_dX9_few_86 : (decode cX9_few 86 = .ok (.ifCond .ne 7, 3)) ∧ (decode cX9_few 89 = .ok (.lconst 0, 1)) ∧ (decode cX9_few 90 = .ok (.goto 25, 3)) ∧ (decode cX9_few 93 = .ok (.aload_n 0, 1)) ∧ (decode cX9_few 94 = .ok (.getfield 101, 3)) ∧ (decode cX9_few 97 = .ok (.iload 4, 2)) ∧ (decode cX9_few 99 = .ok (.iconst 1, 1)) ∧ (decode cX9_few 100 = .ok (.isub, 1)) ∧ (decode cX9_few 101 = .ok (.laload, 1)) ∧ (decode cX9_few 102 = .ok (.aload_n 0, 1)) ∧ (decode cX9_few 103 = .ok (.getfield 10, 3)) ∧ (decode cX9_few 106 = .ok (.getfield 301, 3)) ∧ (decode cX9_few 109 = .ok (.i2l, 1)) ∧ (decode cX9_few 110 = .ok (.lmul, 1)) ∧ (decode cX9_few 111 = .ok (.ldc2_w 304, 3)) ∧ (decode cX9_few 114 = .ok (.ldiv, 1)) := by decide +kernel
theorem dX9_few_86 : decode cX9_few 86 = .ok (.ifCond .ne 7, 3) := da9_dX9_few_86.1
theorem dX9_few_89 : decode cX9_few 89 = .ok (.lconst 0, 1) := da9_dX9_few_86.2.1
theorem dX9_few_90 : decode cX9_few 90 = .ok (.goto 25, 3) := da9_dX9_few_86.2.2.1
theorem dX9_few_93 : decode cX9_few 93 = .ok (.aload_n 0, 1) := da9_dX9_few_86.2.2.2.1
theorem dX9_few_94 : decode cX9_few 94 = .ok (.getfield 101, 3) := da9_dX9_few_86.2.2.2.2.1
theorem dX9_few_97 : decode cX9_few 97 = .ok (.iload 4, 2) := da9_dX9_few_86.2.2.2.2.2.1
theorem dX9_few_99 : decode cX9_few 99 = .ok (.iconst 1, 1) := da9_dX9_few_86.2.2.2.2.2.2.1
theorem dX9_few_100 : decode cX9_few 100 = .ok (.isub, 1) := da9_dX9_few_86.2.2.2.2.2.2.2.1
theorem dX9_few_101 : decode cX9_few 101 = .ok (.laload, 1) := da9_dX9_few_86.2.2.2.2.2.2.2.2.1
theorem dX9_few_102 : decode cX9_few 102 = .ok (.aload_n 0, 1) := da9_dX9_few_86.2.2.2.2.2.2.2.2.2.1
theorem dX9_few_103 : decode cX9_few 103 = .ok (.getfield 10, 3) := da9_dX9_few_86.2.2.2.2.2.2.2.2.2.2.1
theorem dX9_few_106 : decode cX9_few 106 = .ok (.getfield 301, 3) := da9_dX9_few_86.2.2.2.2.2.2.2.2.2.2.2.1
theorem dX9_few_109 : decode cX9_few 109 = .ok (.i2l, 1) := da9_dX9_few_86.2.2.2.2.2.2.2.2.2.2.2.2.1
theorem dX9_few_110 : decode cX9_few 110 = .ok (.lmul, 1) := da9_dX9_few_86.2.2.2.2.2.2.2.2.2.2.2.2.2.1
theorem dX9_few_111 : decode cX9_few 111 = .ok (.ldc2_w 304, 3) := da9_dX9_few_86.2.2.2.2.2.2.2.2.2.2.2.2.2.2.1
theorem dX9_few_114 : decode cX9_few 114 = .ok (.ldiv, 1) := da9_dX9_few_86.2.2.2.2.2.2.2.2.2.2.2.2.2.2.2
theorem da9_dX9_few_115 : (decode cX9_few 115 = .ok (.lstore 7, 2)) ∧ (decode cX9_few 117 = .ok (.aload_n 0, 1)) ∧ (decode cX9_few 118 = .ok (.getfield 101, 3)) ∧ (decode cX9_few 121 = .ok (.iload 4, 2)) ∧ (decode cX9_few 123 = .ok (.lload 5, 2)) ∧ (decode cX9_few 125 = .ok (.lload 7, 2)) ∧ (decode cX9_few 127 = .ok (.ladd, 1)) ∧ (decode cX9_few 128 = .ok (.lastore, 1)) ∧ (decode cX9_few 129 = .ok (.iinc 4 (-1), 3)) ∧ (decode cX9_few 132 = .ok (.goto (-78), 3)) ∧ (decode cX9_few 135 = .ok (.iinc 3 1, 3)) ∧ (decode cX9_few 138 = .ok (.goto (-94), 3)) ∧ (decode cX9_few 141 = .ok (.lconst 0, 1)) ∧ (decode cX9_few 142 = .ok (.lstore_n 3, 1)) ∧ (decode cX9_few 143 = .ok (.iconst 0, 1)) ∧ (decode cX9_few 144 = .ok (.istore 5, 2)) := by decide +kernel
theorem dX9_few_115 : decode cX9_few 115 = .ok (.lstore 7, 2) := da9_dX9_few_115.1
theorem dX9_few_117 : decode cX9_few 117 = .ok (.aload_n 0, 1) := da9_dX9_few_115.2.1
theorem dX9_few_118 : decode cX9_few 118 = .ok (.getfield 101, 3) := da9_dX9_few_115.2.2.1
theorem dX9_few_121 : decode cX9_few 121 = .ok (.iload 4, 2) := da9_dX9_few_115.2.2.2.1
theorem dX9_few_123 : decode cX9_few 123 = .ok (.lload 5, 2) := da9_dX9_few_115.2.2.2.2.1
theorem dX9_few_125 : decode cX9_few 125 = .ok (.lload 7, 2) := da9_dX9_few_115.2.2.2.2.2.1
theorem dX9_few_127 : decode cX9_few 127 = .ok (.ladd, 1) := da9_dX9_few_115.2.2.2.2.2.2.1
theorem dX9_few_128 : decode cX9_few 128 = .ok (.lastore, 1) := da9_dX9_few_115.2.2.2.2.2.2.2.1
theorem dX9_few_129 : decode cX9_few 129 = .ok (.iinc 4 (-1), 3) := da9_dX9_few_115.2.2.2.2.2.2.2.2.1
theorem dX9_few_132 : decode cX9_few 132 = .ok (.goto (-78), 3) := da9_dX9_few_115.2.2.2.2.2.2.2.2.2.1
theorem dX9_few_135 : decode cX9_few 135 = .ok (.iinc 3 1, 3) := da9_dX9_few_115.2.2.2.2.2.2.2.2.2.2.1
theorem dX9_few_138 : decode cX9_few 138 = .ok (.goto (-94), 3) := da9_dX9_few_115.2.2.2.2.2.2.2.2.2.2.2.1
theorem dX9_few_141 : decode cX9_few 141 = .ok (.lconst 0, 1) := da9_dX9_few_115.2.2.2.2.2.2.2.2.2.2.2.2.1
theorem dX9_few_142 : decode cX9_few 142 = .ok (.lstore_n 3, 1) := da9_dX9_few_115.2.2.2.2.2.2.2.2.2.2.2.2.2.1
theorem dX9_few_143 : decode cX9_few 143 = .ok (.iconst 0, 1) := da9_dX9_few_115.2.2.2.2.2.2.2.2.2.2.2.2.2.2.1
theorem dX9_few_144 : decode cX9_few 144 = .ok (.istore 5, 2) := da9_dX9_few_115.2.2.2.2.2.2.2.2.2.2.2.2.2.2.2
theorem da9_dX9_few_146 : (decode cX9_few 146 = .ok (.iload 5, 2)) ∧ (decode cX9_few 148 = .ok (.iload_n 1, 1)) ∧ (decode cX9_few 149 = .ok (.if_icmp .ge 19, 3)) ∧ (decode cX9_few 152 = .ok (.lload_n 3, 1)) ∧ (decode cX9_few 153 = .ok (.aload_n 0, 1)) ∧ (decode cX9_few 154 = .ok (.getfield 101, 3)) ∧ (decode cX9_few 157 = .ok (.iload 5, 2)) ∧ (decode cX9_few 159 = .ok (.laload, 1)) ∧ (decode cX9_few 160 = .ok (.ladd, 1)) ∧ (decode cX9_few 161 = .ok (.lstore_n 3, 1)) ∧ (decode cX9_few 162 = .ok (.iinc 5 1, 3)) ∧ (decode cX9_few 165 = .ok (.goto (-19), 3)) ∧ (decode cX9_few 168 = .ok (.lload_n 3, 1)) ∧ (decode cX9_few 169 = .ok (.lreturn, 1)) := by decide +kernel
theorem dX9_few_146 : decode cX9_few 146 = .ok (.iload 5, 2) := da9_dX9_few_146.1
theorem dX9_few_148 : decode cX9_few 148 = .ok (.iload_n 1, 1) := da9_dX9_few_146.2.1
theorem dX9_few_149 : decode cX9_few 149 = .ok (.if_icmp .ge 19, 3) := da9_dX9_few_146.2.2.1
theorem dX9_few_152 : decode cX9_few 152 = .ok (.lload_n 3, 1) := da9_dX9_few_146.2.2.2.1
theorem dX9_few_153 : decode cX9_few 153 = .ok (.aload_n 0, 1) := da9_dX9_few_146.2.2.2.2.1
theorem dX9_few_154 : decode cX9_few 154 = .ok (.getfield 101, 3) := da9_dX9_few_146.2.2.2.2.2.1
theorem dX9_few_157 : decode cX9_few 157 = .ok (.iload 5, 2) := da9_dX9_few_146.2.2.2.2.2.2.1
theorem dX9_few_159 : decode cX9_few 159 = .ok (.laload, 1) := da9_dX9_few_146.2.2.2.2.2.2.2.1
theorem dX9_few_160 : decode cX9_few 160 = .ok (.ladd, 1) := da9_dX9_few_146.2.2.2.2.2.2.2.2.1
theorem dX9_few_161 : decode cX9_few 161 = .ok (.lstore_n 3, 1) := da9_dX9_few_146.2.2.2.2.2.2.2.2.2.1
theorem dX9_few_162 : decode cX9_few 162 = .ok (.iinc 5 1, 3) := da9_dX9_few_146.2.2.2.2.2.2.2.2.2.2.1
theorem dX9_few_165 : decode cX9_few 165 = .ok (.goto (-19), 3) := da9_dX9_few_146.2.2.2.2.2.2.2.2.2.2.2.1
theorem dX9_few_168 : decode cX9_few 168 = .ok (.lload_n 3, 1) := da9_dX9_few_146.2.2.2.2.2.2.2.2.2.2.2.2.1
theorem dX9_few_169 : decode cX9_few 169 = .ok (.lreturn, 1) := da9_dX9_few_146.2.2.2.2.2.2.2.2.2.2.2.2.2
set_option maxRecDepth 20000 in
theorem ggX9_compare_X6_isLaw : GoodIn wsX9_compare wsX6_isLaw := goodIn_r _ [8, 9, 182, 183, 184, 185, 186, 187, 188, 189, 190, 191] rfl (by decide +kernel)
set_option maxRecDepth 20000 in
theorem gX9_compare_X6_isLaw : GoodIn wsX9_compare (wsV RX9 205 RX6 yX6_isLaw wsX6_isLaw) := goodIn_app (goodIn_of _ (by decide +kernel)) ggX9_compare_X6_isLaw
set_option maxRecDepth 20000 in
theorem ggX9_compare_X6_lawAt : GoodIn wsX9_compare wsX6_lawAt := goodIn_r _ [13, 14, 15, 5, 6, 7, 8, 9, 182, 183, 184, 185, 186, 187, 188, 189, 190, 191] rfl (by decide +kernel)
set_option maxRecDepth 20000 in
theorem gX9_compare_X6_lawAt : GoodIn wsX9_compare (wsV RX9 306 RX6 yX6_lawAt wsX6_lawAt) := goodIn_app (goodIn_of _ (by decide +kernel)) ggX9_compare_X6_lawAt
set_option maxRecDepth 20000 in
theorem ggX9_compare_X1_seat : GoodIn wsX9_compare wsX1_seat := goodIn_r _ [20, 21, 22, 192, 193, 194] rfl (by decide +kernel)
set_option maxRecDepth 20000 in
theorem gX9_compare_X1_seat : GoodIn wsX9_compare (wsV RX9 313 RX1 yX1_seat wsX1_seat) := goodIn_app (goodIn_of _ (by decide +kernel)) ggX9_compare_X1_seat
set_option maxRecDepth 20000 in
theorem ggX9_compare_X9_spread : GoodIn wsX9_compare wsX9_spread := goodIn_r _ [27, 3, 1, 28, 29, 30, 31, 32, 33, 34, 35, 36, 37, 38, 39, 40, 41, 42, 43, 44, 45, 46, 47, 48, 49, 50, 51, 52, 53, 54, 55, 56, 57, 58, 59, 60, 61, 62, 63, 64, 65, 26, 66, 67, 68, 69, 70, 71, 72, 73, 74, 75, 76, 77, 78, 79, 80, 81, 82, 83, 84, 85, 86, 87, 88, 89, 90, 91, 92, 93, 94, 95, 96, 97, 19, 98, 22, 99, 100, 101, 102, 103, 104, 105, 106, 21, 107, 108, 109, 110, 111, 112, 113, 114, 115, 116, 117, 118, 119, 120, 121, 122, 123, 124, 125, 126, 127, 128, 129, 130, 131, 132, 163, 164, 165, 166, 167, 168, 169, 170, 171, 172, 173, 174, 175, 176, 177, 178, 179, 180, 181, 182, 183, 184, 185, 186, 187, 188, 189, 190, 191, 195, 196, 197, 198, 199, 200, 201, 202, 203, 204, 205, 206, 207, 208, 209, 210, 211, 212, 213, 214, 215, 216, 217, 218, 219, 192, 193, 194, 220, 221, 222, 223, 224, 225, 226, 227, 228, 229] rfl (by decide +kernel)
set_option maxRecDepth 20000 in
theorem gX9_compare_X9_spread : GoodIn wsX9_compare (wsV RX9 226 RX9 yX9_spread wsX9_spread) := goodIn_app (goodIn_of _ (by decide +kernel)) ggX9_compare_X9_spread
set_option maxRecDepth 20000 in
theorem ggX9_compare_X3_turnsToOrder : GoodIn wsX9_compare wsX3_turnsToOrder := goodIn_r _ [136, 37, 44, 137, 138, 139, 31, 140, 56, 33, 141, 34, 36, 51, 89, 142, 143, 144, 145, 146, 147, 148, 149, 150, 91, 92, 93, 94, 151, 152, 153, 154, 155, 156, 157, 158, 54, 55, 159, 160, 161, 162, 53, 130, 131, 132, 200, 201, 202, 203, 204, 205, 206, 207, 208, 209, 210, 211, 212, 213, 214, 215, 216, 217, 218, 219] rfl (by decide +kernel)
set_option maxRecDepth 20000 in
theorem gX9_compare_X3_turnsToOrder : GoodIn wsX9_compare (wsV RX9 230 RX3 yX3_turnsToOrder wsX3_turnsToOrder) := goodIn_app (goodIn_of _ (by decide +kernel)) ggX9_compare_X3_turnsToOrder
theorem da9_dX9_compare_0 : (decode cX9_compare 0 = .ok (.iload_n 1, 1)) ∧ (decode cX9_compare 1 = .ok (.iconst (-1), 1)) ∧ (decode cX9_compare 2 = .ok (.if_icmp .eq 16, 3)) ∧ (decode cX9_compare 5 = .ok (.aload_n 0, 1)) ∧ (decode cX9_compare 6 = .ok (.getfield 10, 3)) ∧ (decode cX9_compare 9 = .ok (.iload_n 1, 1)) ∧ (decode cX9_compare 10 = .ok (.invokevirtual 205, 3)) ∧ (decode cX9_compare 13 = .ok (.ifCond .ne 5, 3)) ∧ (decode cX9_compare 16 = .ok (.iconst (-1), 1)) ∧ (decode cX9_compare 17 = .ok (.ireturn, 1)) ∧ (decode cX9_compare 18 = .ok (.aload_n 0, 1)) ∧ (decode cX9_compare 19 = .ok (.getfield 50, 3)) ∧ (decode cX9_compare 22 = .ok (.aload_n 0, 1)) ∧ (decode cX9_compare 23 = .ok (.getfield 10, 3)) ∧ (decode cX9_compare 26 = .ok (.iload_n 1, 1)) ∧ (decode cX9_compare 27 = .ok (.invokevirtual 306, 3)) := by decide +kernel
theorem dX9_compare_0 : decode cX9_compare 0 = .ok (.iload_n 1, 1) := da9_dX9_compare_0.1
theorem dX9_compare_1 : decode cX9_compare 1 = .ok (.iconst (-1), 1) := da9_dX9_compare_0.2.1
theorem dX9_compare_2 : decode cX9_compare 2 = .ok (.if_icmp .eq 16, 3) := da9_dX9_compare_0.2.2.1
theorem dX9_compare_5 : decode cX9_compare 5 = .ok (.aload_n 0, 1) := da9_dX9_compare_0.2.2.2.1
theorem dX9_compare_6 : decode cX9_compare 6 = .ok (.getfield 10, 3) := da9_dX9_compare_0.2.2.2.2.1
theorem dX9_compare_9 : decode cX9_compare 9 = .ok (.iload_n 1, 1) := da9_dX9_compare_0.2.2.2.2.2.1
theorem dX9_compare_10 : decode cX9_compare 10 = .ok (.invokevirtual 205, 3) := da9_dX9_compare_0.2.2.2.2.2.2.1
theorem dX9_compare_13 : decode cX9_compare 13 = .ok (.ifCond .ne 5, 3) := da9_dX9_compare_0.2.2.2.2.2.2.2.1
theorem dX9_compare_16 : decode cX9_compare 16 = .ok (.iconst (-1), 1) := da9_dX9_compare_0.2.2.2.2.2.2.2.2.1
theorem dX9_compare_17 : decode cX9_compare 17 = .ok (.ireturn, 1) := da9_dX9_compare_0.2.2.2.2.2.2.2.2.2.1
theorem dX9_compare_18 : decode cX9_compare 18 = .ok (.aload_n 0, 1) := da9_dX9_compare_0.2.2.2.2.2.2.2.2.2.2.1
theorem dX9_compare_19 : decode cX9_compare 19 = .ok (.getfield 50, 3) := da9_dX9_compare_0.2.2.2.2.2.2.2.2.2.2.2.1
theorem dX9_compare_22 : decode cX9_compare 22 = .ok (.aload_n 0, 1) := da9_dX9_compare_0.2.2.2.2.2.2.2.2.2.2.2.2.1
theorem dX9_compare_23 : decode cX9_compare 23 = .ok (.getfield 10, 3) := da9_dX9_compare_0.2.2.2.2.2.2.2.2.2.2.2.2.2.1
theorem dX9_compare_26 : decode cX9_compare 26 = .ok (.iload_n 1, 1) := da9_dX9_compare_0.2.2.2.2.2.2.2.2.2.2.2.2.2.2.1
theorem dX9_compare_27 : decode cX9_compare 27 = .ok (.invokevirtual 306, 3) := da9_dX9_compare_0.2.2.2.2.2.2.2.2.2.2.2.2.2.2.2
theorem da9_dX9_compare_30 : (decode cX9_compare 30 = .ok (.aload_n 0, 1)) ∧ (decode cX9_compare 31 = .ok (.getfield 10, 3)) ∧ (decode cX9_compare 34 = .ok (.getfield 310, 3)) ∧ (decode cX9_compare 37 = .ok (.invokevirtual 313, 3)) ∧ (decode cX9_compare 40 = .ok (.aload_n 0, 1)) ∧ (decode cX9_compare 41 = .ok (.aload_n 0, 1)) ∧ (decode cX9_compare 42 = .ok (.getfield 50, 3)) ∧ (decode cX9_compare 45 = .ok (.invokevirtual 226, 3)) ∧ (decode cX9_compare 48 = .ok (.aload_n 0, 1)) ∧ (decode cX9_compare 49 = .ok (.getfield 80, 3)) ∧ (decode cX9_compare 52 = .ok (.invokevirtual 230, 3)) ∧ (decode cX9_compare 55 = .ok (.ireturn, 1)) := by decide +kernel
theorem dX9_compare_30 : decode cX9_compare 30 = .ok (.aload_n 0, 1) := da9_dX9_compare_30.1
theorem dX9_compare_31 : decode cX9_compare 31 = .ok (.getfield 10, 3) := da9_dX9_compare_30.2.1
theorem dX9_compare_34 : decode cX9_compare 34 = .ok (.getfield 310, 3) := da9_dX9_compare_30.2.2.1
theorem dX9_compare_37 : decode cX9_compare 37 = .ok (.invokevirtual 313, 3) := da9_dX9_compare_30.2.2.2.1
theorem dX9_compare_40 : decode cX9_compare 40 = .ok (.aload_n 0, 1) := da9_dX9_compare_30.2.2.2.2.1
theorem dX9_compare_41 : decode cX9_compare 41 = .ok (.aload_n 0, 1) := da9_dX9_compare_30.2.2.2.2.2.1
theorem dX9_compare_42 : decode cX9_compare 42 = .ok (.getfield 50, 3) := da9_dX9_compare_30.2.2.2.2.2.2.1
theorem dX9_compare_45 : decode cX9_compare 45 = .ok (.invokevirtual 226, 3) := da9_dX9_compare_30.2.2.2.2.2.2.2.1
theorem dX9_compare_48 : decode cX9_compare 48 = .ok (.aload_n 0, 1) := da9_dX9_compare_30.2.2.2.2.2.2.2.2.1
theorem dX9_compare_49 : decode cX9_compare 49 = .ok (.getfield 80, 3) := da9_dX9_compare_30.2.2.2.2.2.2.2.2.2.1
theorem dX9_compare_52 : decode cX9_compare 52 = .ok (.invokevirtual 230, 3) := da9_dX9_compare_30.2.2.2.2.2.2.2.2.2.2.1
theorem dX9_compare_55 : decode cX9_compare 55 = .ok (.ireturn, 1) := da9_dX9_compare_30.2.2.2.2.2.2.2.2.2.2.2
