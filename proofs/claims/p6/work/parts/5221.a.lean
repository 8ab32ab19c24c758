set_option maxRecDepth 20000 in
theorem ggX3_worstTowers_X3_measure : GoodIn wsX3_worstTowers wsX3_measure := goodIn_r _ [7, 8, 9, 10, 11, 2, 1, 12, 13, 14, 15, 16, 17, 18, 19, 20, 21, 6, 22, 23, 24, 25, 26, 27, 28, 29, 30, 31, 32, 33, 34, 35, 36, 37, 38, 39, 40, 41, 42, 43, 44, 48, 49, 50, 51, 52, 53, 54, 55, 56, 57, 58, 59, 60, 61, 62, 63, 64, 65, 66, 67] rfl (by decide +kernel)
set_option maxRecDepth 20000 in
theorem gX3_worstTowers_X3_measure : GoodIn wsX3_worstTowers (wsV RX3 113 RX3 yX3_measure wsX3_measure) := goodIn_app (goodIn_of _ (by decide +kernel)) ggX3_worstTowers_X3_measure
set_option maxRecDepth 20000 in
theorem ggX3_worstTowers_X9_bit : GoodIn wsX3_worstTowers wsX9_bit := goodIn_r _ [47] rfl (by decide +kernel)
set_option maxRecDepth 20000 in
theorem gX3_worstTowers_X9_bit_n133 : GoodIn wsX3_worstTowers (wsX9_bit) := ggX3_worstTowers_X9_bit
theorem da9_dX3_worstTowers_0 : (decode cX3_worstTowers 0 = .ok (.aload_n 0, 1)) ∧ (decode cX3_worstTowers 1 = .ok (.invokevirtual 113, 3)) ∧ (decode cX3_worstTowers 4 = .ok (.iconst 0, 1)) ∧ (decode cX3_worstTowers 5 = .ok (.istore_n 2, 1)) ∧ (decode cX3_worstTowers 6 = .ok (.iconst 0, 1)) ∧ (decode cX3_worstTowers 7 = .ok (.istore_n 3, 1)) ∧ (decode cX3_worstTowers 8 = .ok (.iconst 0, 1)) ∧ (decode cX3_worstTowers 9 = .ok (.istore 4, 2)) ∧ (decode cX3_worstTowers 11 = .ok (.iconst 0, 1)) ∧ (decode cX3_worstTowers 12 = .ok (.istore 5, 2)) ∧ (decode cX3_worstTowers 14 = .ok (.iload 5, 2)) ∧ (decode cX3_worstTowers 16 = .ok (.aload_n 0, 1)) ∧ (decode cX3_worstTowers 17 = .ok (.getfield 55, 3)) ∧ (decode cX3_worstTowers 20 = .ok (.if_icmp .ge 65, 3)) ∧ (decode cX3_worstTowers 23 = .ok (.aload_n 0, 1)) ∧ (decode cX3_worstTowers 24 = .ok (.getfield 39, 3)) := by decide +kernel
theorem dX3_worstTowers_0 : decode cX3_worstTowers 0 = .ok (.aload_n 0, 1) := da9_dX3_worstTowers_0.1
theorem dX3_worstTowers_1 : decode cX3_worstTowers 1 = .ok (.invokevirtual 113, 3) := da9_dX3_worstTowers_0.2.1
theorem dX3_worstTowers_4 : decode cX3_worstTowers 4 = .ok (.iconst 0, 1) := da9_dX3_worstTowers_0.2.2.1
theorem dX3_worstTowers_5 : decode cX3_worstTowers 5 = .ok (.istore_n 2, 1) := da9_dX3_worstTowers_0.2.2.2.1
theorem dX3_worstTowers_6 : decode cX3_worstTowers 6 = .ok (.iconst 0, 1) := da9_dX3_worstTowers_0.2.2.2.2.1
theorem dX3_worstTowers_7 : decode cX3_worstTowers 7 = .ok (.istore_n 3, 1) := da9_dX3_worstTowers_0.2.2.2.2.2.1
theorem dX3_worstTowers_8 : decode cX3_worstTowers 8 = .ok (.iconst 0, 1) := da9_dX3_worstTowers_0.2.2.2.2.2.2.1
theorem dX3_worstTowers_9 : decode cX3_worstTowers 9 = .ok (.istore 4, 2) := da9_dX3_worstTowers_0.2.2.2.2.2.2.2.1
theorem dX3_worstTowers_11 : decode cX3_worstTowers 11 = .ok (.iconst 0, 1) := da9_dX3_worstTowers_0.2.2.2.2.2.2.2.2.1
theorem dX3_worstTowers_12 : decode cX3_worstTowers 12 = .ok (.istore 5, 2) := da9_dX3_worstTowers_0.2.2.2.2.2.2.2.2.2.1
theorem dX3_worstTowers_14 : decode cX3_worstTowers 14 = .ok (.iload 5, 2) := da9_dX3_worstTowers_0.2.2.2.2.2.2.2.2.2.2.1
theorem dX3_worstTowers_16 : decode cX3_worstTowers 16 = .ok (.aload_n 0, 1) := da9_dX3_worstTowers_0.2.2.2.2.2.2.2.2.2.2.2.1
theorem dX3_worstTowers_17 : decode cX3_worstTowers 17 = .ok (.getfield 55, 3) := da9_dX3_worstTowers_0.2.2.2.2.2.2.2.2.2.2.2.2.1
theorem dX3_worstTowers_20 : decode cX3_worstTowers 20 = .ok (.if_icmp .ge 65, 3) := da9_dX3_worstTowers_0.2.2.2.2.2.2.2.2.2.2.2.2.2.1
theorem dX3_worstTowers_23 : decode cX3_worstTowers 23 = .ok (.aload_n 0, 1) := da9_dX3_worstTowers_0.2.2.2.2.2.2.2.2.2.2.2.2.2.2.1
theorem dX3_worstTowers_24 : decode cX3_worstTowers 24 = .ok (.getfield 39, 3) := da9_dX3_worstTowers_0.2.2.2.2.2.2.2.2.2.2.2.2.2.2.2
theorem da9_dX3_worstTowers_27 : (decode cX3_worstTowers 27 = .ok (.iload 5, 2)) ∧ (decode cX3_worstTowers 29 = .ok (.iaload, 1)) ∧ (decode cX3_worstTowers 30 = .ok (.istore 6, 2)) ∧ (decode cX3_worstTowers 32 = .ok (.iload 6, 2)) ∧ (decode cX3_worstTowers 34 = .ok (.iload_n 2, 1)) ∧ (decode cX3_worstTowers 35 = .ok (.if_icmp .le 8, 3)) ∧ (decode cX3_worstTowers 38 = .ok (.iload 6, 2)) ∧ (decode cX3_worstTowers 40 = .ok (.istore_n 2, 1)) ∧ (decode cX3_worstTowers 41 = .ok (.iconst 0, 1)) ∧ (decode cX3_worstTowers 42 = .ok (.istore_n 3, 1)) ∧ (decode cX3_worstTowers 43 = .ok (.iload_n 3, 1)) ∧ (decode cX3_worstTowers 44 = .ok (.iload 6, 2)) ∧ (decode cX3_worstTowers 46 = .ok (.iload_n 2, 1)) ∧ (decode cX3_worstTowers 47 = .ok (.if_icmp .ne 7, 3)) ∧ (decode cX3_worstTowers 50 = .ok (.iconst 1, 1)) ∧ (decode cX3_worstTowers 51 = .ok (.goto 4, 3)) := by decide +kernel
theorem dX3_worstTowers_27 : decode cX3_worstTowers 27 = .ok (.iload 5, 2) := da9_dX3_worstTowers_27.1
theorem dX3_worstTowers_29 : decode cX3_worstTowers 29 = .ok (.iaload, 1) := da9_dX3_worstTowers_27.2.1
theorem dX3_worstTowers_30 : decode cX3_worstTowers 30 = .ok (.istore 6, 2) := da9_dX3_worstTowers_27.2.2.1
theorem dX3_worstTowers_32 : decode cX3_worstTowers 32 = .ok (.iload 6, 2) := da9_dX3_worstTowers_27.2.2.2.1
theorem dX3_worstTowers_34 : decode cX3_worstTowers 34 = .ok (.iload_n 2, 1) := da9_dX3_worstTowers_27.2.2.2.2.1
theorem dX3_worstTowers_35 : decode cX3_worstTowers 35 = .ok (.if_icmp .le 8, 3) := da9_dX3_worstTowers_27.2.2.2.2.2.1
theorem dX3_worstTowers_38 : decode cX3_worstTowers 38 = .ok (.iload 6, 2) := da9_dX3_worstTowers_27.2.2.2.2.2.2.1
theorem dX3_worstTowers_40 : decode cX3_worstTowers 40 = .ok (.istore_n 2, 1) := da9_dX3_worstTowers_27.2.2.2.2.2.2.2.1
theorem dX3_worstTowers_41 : decode cX3_worstTowers 41 = .ok (.iconst 0, 1) := da9_dX3_worstTowers_27.2.2.2.2.2.2.2.2.1
theorem dX3_worstTowers_42 : decode cX3_worstTowers 42 = .ok (.istore_n 3, 1) := da9_dX3_worstTowers_27.2.2.2.2.2.2.2.2.2.1
theorem dX3_worstTowers_43 : decode cX3_worstTowers 43 = .ok (.iload_n 3, 1) := da9_dX3_worstTowers_27.2.2.2.2.2.2.2.2.2.2.1
theorem dX3_worstTowers_44 : decode cX3_worstTowers 44 = .ok (.iload 6, 2) := da9_dX3_worstTowers_27.2.2.2.2.2.2.2.2.2.2.2.1
theorem dX3_worstTowers_46 : decode cX3_worstTowers 46 = .ok (.iload_n 2, 1) := da9_dX3_worstTowers_27.2.2.2.2.2.2.2.2.2.2.2.2.1
theorem dX3_worstTowers_47 : decode cX3_worstTowers 47 = .ok (.if_icmp .ne 7, 3) := da9_dX3_worstTowers_27.2.2.2.2.2.2.2.2.2.2.2.2.2.1
theorem dX3_worstTowers_50 : decode cX3_worstTowers 50 = .ok (.iconst 1, 1) := da9_dX3_worstTowers_27.2.2.2.2.2.2.2.2.2.2.2.2.2.2.1
theorem dX3_worstTowers_51 : decode cX3_worstTowers 51 = .ok (.goto 4, 3) := da9_dX3_worstTowers_27.2.2.2.2.2.2.2.2.2.2.2.2.2.2.2
theorem da9_dX3_worstTowers_54 : (decode cX3_worstTowers 54 = .ok (.iconst 0, 1)) ∧ (decode cX3_worstTowers 55 = .ok (.invokestatic 133, 3)) ∧ (decode cX3_worstTowers 58 = .ok (.iadd, 1)) ∧ (decode cX3_worstTowers 59 = .ok (.istore_n 3, 1)) ∧ (decode cX3_worstTowers 60 = .ok (.iload 4, 2)) ∧ (decode cX3_worstTowers 62 = .ok (.iload 6, 2)) ∧ (decode cX3_worstTowers 64 = .ok (.iconst (-1), 1)) ∧ (decode cX3_worstTowers 65 = .ok (.if_icmp .eq 7, 3)) ∧ (decode cX3_worstTowers 68 = .ok (.iconst 1, 1)) ∧ (decode cX3_worstTowers 69 = .ok (.goto 4, 3)) ∧ (decode cX3_worstTowers 72 = .ok (.iconst 0, 1)) ∧ (decode cX3_worstTowers 73 = .ok (.invokestatic 133, 3)) ∧ (decode cX3_worstTowers 76 = .ok (.iadd, 1)) ∧ (decode cX3_worstTowers 77 = .ok (.istore 4, 2)) ∧ (decode cX3_worstTowers 79 = .ok (.iinc 5 1, 3)) ∧ (decode cX3_worstTowers 82 = .ok (.goto (-68), 3)) := by decide +kernel
theorem dX3_worstTowers_54 : decode cX3_worstTowers 54 = .ok (.iconst 0, 1) := da9_dX3_worstTowers_54.1
theorem dX3_worstTowers_55 : decode cX3_worstTowers 55 = .ok (.invokestatic 133, 3) := da9_dX3_worstTowers_54.2.1
theorem dX3_worstTowers_58 : decode cX3_worstTowers 58 = .ok (.iadd, 1) := da9_dX3_worstTowers_54.2.2.1
theorem dX3_worstTowers_59 : decode cX3_worstTowers 59 = .ok (.istore_n 3, 1) := da9_dX3_worstTowers_54.2.2.2.1
theorem dX3_worstTowers_60 : decode cX3_worstTowers 60 = .ok (.iload 4, 2) := da9_dX3_worstTowers_54.2.2.2.2.1
theorem dX3_worstTowers_62 : decode cX3_worstTowers 62 = .ok (.iload 6, 2) := da9_dX3_worstTowers_54.2.2.2.2.2.1
theorem dX3_worstTowers_64 : decode cX3_worstTowers 64 = .ok (.iconst (-1), 1) := da9_dX3_worstTowers_54.2.2.2.2.2.2.1
theorem dX3_worstTowers_65 : decode cX3_worstTowers 65 = .ok (.if_icmp .eq 7, 3) := da9_dX3_worstTowers_54.2.2.2.2.2.2.2.1
theorem dX3_worstTowers_68 : decode cX3_worstTowers 68 = .ok (.iconst 1, 1) := da9_dX3_worstTowers_54.2.2.2.2.2.2.2.2.1
theorem dX3_worstTowers_69 : decode cX3_worstTowers 69 = .ok (.goto 4, 3) := da9_dX3_worstTowers_54.2.2.2.2.2.2.2.2.2.1
theorem dX3_worstTowers_72 : decode cX3_worstTowers 72 = .ok (.iconst 0, 1) := da9_dX3_worstTowers_54.2.2.2.2.2.2.2.2.2.2.1
theorem dX3_worstTowers_73 : decode cX3_worstTowers 73 = .ok (.invokestatic 133, 3) := da9_dX3_worstTowers_54.2.2.2.2.2.2.2.2.2.2.2.1
theorem dX3_worstTowers_76 : decode cX3_worstTowers 76 = .ok (.iadd, 1) := da9_dX3_worstTowers_54.2.2.2.2.2.2.2.2.2.2.2.2.1
theorem dX3_worstTowers_77 : decode cX3_worstTowers 77 = .ok (.istore 4, 2) := da9_dX3_worstTowers_54.2.2.2.2.2.2.2.2.2.2.2.2.2.1
theorem dX3_worstTowers_79 : decode cX3_worstTowers 79 = .ok (.iinc 5 1, 3) := da9_dX3_worstTowers_54.2.2.2.2.2.2.2.2.2.2.2.2.2.2.1
theorem dX3_worstTowers_82 : decode cX3_worstTowers 82 = .ok (.goto (-68), 3) := da9_dX3_worstTowers_54.2.2.2.2.2.2.2.2.2.2.2.2.2.2.2
theorem da9_dX3_worstTowers_85 : (decode cX3_worstTowers 85 = .ok (.iload_n 1, 1)) ∧ (decode cX3_worstTowers 86 = .ok (.ifCond .ne 5, 3)) ∧ (decode cX3_worstTowers 89 = .ok (.iload_n 2, 1)) ∧ (decode cX3_worstTowers 90 = .ok (.ireturn, 1)) ∧ (decode cX3_worstTowers 91 = .ok (.iload_n 1, 1)) ∧ (decode cX3_worstTowers 92 = .ok (.iconst 1, 1)) ∧ (decode cX3_worstTowers 93 = .ok (.if_icmp .ne 7, 3)) ∧ (decode cX3_worstTowers 96 = .ok (.iload_n 3, 1)) ∧ (decode cX3_worstTowers 97 = .ok (.goto 5, 3)) ∧ (decode cX3_worstTowers 100 = .ok (.iload 4, 2)) ∧ (decode cX3_worstTowers 102 = .ok (.ireturn, 1)) := by decide +kernel
theorem dX3_worstTowers_85 : decode cX3_worstTowers 85 = .ok (.iload_n 1, 1) := da9_dX3_worstTowers_85.1
theorem dX3_worstTowers_86 : decode cX3_worstTowers 86 = .ok (.ifCond .ne 5, 3) := da9_dX3_worstTowers_85.2.1
theorem dX3_worstTowers_89 : decode cX3_worstTowers 89 = .ok (.iload_n 2, 1) := da9_dX3_worstTowers_85.2.2.1
theorem dX3_worstTowers_90 : decode cX3_worstTowers 90 = .ok (.ireturn, 1) := da9_dX3_worstTowers_85.2.2.2.1
theorem dX3_worstTowers_91 : decode cX3_worstTowers 91 = .ok (.iload_n 1, 1) := da9_dX3_worstTowers_85.2.2.2.2.1
theorem dX3_worstTowers_92 : decode cX3_worstTowers 92 = .ok (.iconst 1, 1) := da9_dX3_worstTowers_85.2.2.2.2.2.1
theorem dX3_worstTowers_93 : decode cX3_worstTowers 93 = .ok (.if_icmp .ne 7, 3) := da9_dX3_worstTowers_85.2.2.2.2.2.2.1
theorem dX3_worstTowers_96 : decode cX3_worstTowers 96 = .ok (.iload_n 3, 1) := da9_dX3_worstTowers_85.2.2.2.2.2.2.2.1
theorem dX3_worstTowers_97 : decode cX3_worstTowers 97 = .ok (.goto 5, 3) := da9_dX3_worstTowers_85.2.2.2.2.2.2.2.2.1
theorem dX3_worstTowers_100 : decode cX3_worstTowers 100 = .ok (.iload 4, 2) := da9_dX3_worstTowers_85.2.2.2.2.2.2.2.2.2.1
theorem dX3_worstTowers_102 : decode cX3_worstTowers 102 = .ok (.ireturn, 1) := da9_dX3_worstTowers_85.2.2.2.2.2.2.2.2.2.2
set_option maxRecDepth 20000 in
theorem ggX3_leastPaid_X3_askCases : GoodIn wsX3_leastPaid wsX3_askCases := goodIn_r _ [10, 11, 12, 13, 14, 15, 16, 17, 18, 19, 20, 21, 22, 23, 24, 25, 26, 27, 28, 29, 30, 31, 32, 33, 34, 35, 36, 37, 38, 39, 40, 41, 42, 43, 44, 45, 46, 47, 48, 49, 50, 51, 52, 53, 54, 55, 56, 57, 58, 59, 60, 61, 62, 63, 64, 9, 65, 96, 97, 98, 99, 100, 101, 102, 103, 104, 105, 106, 107, 108, 109, 110, 111, 112, 113, 114, 115, 116, 117, 118, 119, 120, 121, 122, 123, 124, 125, 126, 127, 128] rfl (by decide +kernel)
set_option maxRecDepth 20000 in
theorem gX3_leastPaid_X3_askCases : GoodIn wsX3_leastPaid (wsV RX3 109 RX3 yX3_askCases wsX3_askCases) := goodIn_app (goodIn_of _ (by decide +kernel)) ggX3_leastPaid_X3_askCases
set_option maxRecDepth 20000 in
theorem ggX3_leastPaid_J7_fill_53178 : GoodIn wsX3_leastPaid wsJ7_fill_53178 := goodIn_r _ [18] rfl (by decide +kernel)
set_option maxRecDepth 20000 in
theorem gX3_leastPaid_J7_fill_53178 : GoodIn wsX3_leastPaid (va_wsS RX3 122 yJ7_fill_53178 wsJ7_fill_53178) := goodIn_app (goodIn_of _ (by decide +kernel)) ggX3_leastPaid_J7_fill_53178
set_option maxRecDepth 20000 in
theorem ggX3_leastPaid_X3_putInBucket : GoodIn wsX3_leastPaid wsX3_putInBucket := goodIn_r _ [69, 1, 70, 3, 71, 96, 97, 98, 99, 100, 101, 102, 103, 104, 105, 106, 107, 108, 109, 110, 111, 112, 113, 114, 115] rfl (by decide +kernel)
set_option maxRecDepth 20000 in
theorem gX3_leastPaid_X3_putInBucket : GoodIn wsX3_leastPaid (wsV RX3 141 RX3 yX3_putInBucket wsX3_putInBucket) := goodIn_app (goodIn_of _ (by decide +kernel)) ggX3_leastPaid_X3_putInBucket
set_option maxRecDepth 20000 in
theorem ggX3_leastPaid_X3_takeFromBucket : GoodIn wsX3_leastPaid wsX3_takeFromBucket := goodIn_r _ [75, 71, 3, 1, 70, 96, 97, 98, 99, 100, 101, 102, 103, 104, 105, 106, 107, 108, 109, 110, 111, 112, 113, 114, 115] rfl (by decide +kernel)
set_option maxRecDepth 20000 in
theorem gX3_leastPaid_X3_takeFromBucket : GoodIn wsX3_leastPaid (wsV RX3 145 RX3 yX3_takeFromBucket wsX3_takeFromBucket) := goodIn_app (goodIn_of _ (by decide +kernel)) ggX3_leastPaid_X3_takeFromBucket
set_option maxRecDepth 20000 in
theorem ggX3_leastPaid_X3_isOrdered : GoodIn wsX3_leastPaid wsX3_isOrdered := goodIn_r _ [79, 80, 13, 96, 97, 98, 99, 100, 101, 102, 103, 104, 105, 106, 107, 108, 109, 110, 111, 112, 113, 114, 115] rfl (by decide +kernel)
set_option maxRecDepth 20000 in
theorem gX3_leastPaid_X3_isOrdered : GoodIn wsX3_leastPaid (wsV RX3 148 RX3 yX3_isOrdered wsX3_isOrdered) := goodIn_app (goodIn_of _ (by decide +kernel)) ggX3_leastPaid_X3_isOrdered
set_option maxRecDepth 20000 in
theorem ggX3_leastPaid_X3_offerTurns : GoodIn wsX3_leastPaid wsX3_offerTurns := goodIn_r _ [84, 13, 1, 12, 11, 2, 85, 86, 87, 9, 88, 89, 90, 5, 91, 92, 93, 94, 95, 63, 64, 65, 72, 73, 74, 75, 71, 3, 70, 66, 67, 68, 69, 96, 97, 98, 99, 100, 101, 102, 103, 104, 105, 106, 107, 108, 109, 110, 111, 112, 113, 114, 115] rfl (by decide +kernel)
set_option maxRecDepth 20000 in
theorem gX3_leastPaid_X3_offerTurns : GoodIn wsX3_leastPaid (wsV RX3 151 RX3 yX3_offerTurns wsX3_offerTurns) := goodIn_app (goodIn_of _ (by decide +kernel)) ggX3_leastPaid_X3_offerTurns
theorem da9_dX3_leastPaid_0 : (decode cX3_leastPaid 0 = .ok (.aload_n 0, 1)) ∧ (decode cX3_leastPaid 1 = .ok (.aload_n 1, 1)) ∧ (decode cX3_leastPaid 2 = .ok (.iload_n 2, 1)) ∧ (decode cX3_leastPaid 3 = .ok (.iconst 0, 1)) ∧ (decode cX3_leastPaid 4 = .ok (.invokevirtual 109, 3)) ∧ (decode cX3_leastPaid 7 = .ok (.aload_n 0, 1)) ∧ (decode cX3_leastPaid 8 = .ok (.getfield 42, 3)) ∧ (decode cX3_leastPaid 11 = .ok (.ldc 140, 2)) ∧ (decode cX3_leastPaid 13 = .ok (.invokestatic 122, 3)) ∧ (decode cX3_leastPaid 16 = .ok (.aload_n 0, 1)) ∧ (decode cX3_leastPaid 17 = .ok (.getfield 27, 3)) ∧ (decode cX3_leastPaid 20 = .ok (.iconst (-1), 1)) ∧ (decode cX3_leastPaid 21 = .ok (.invokestatic 122, 3)) ∧ (decode cX3_leastPaid 24 = .ok (.aload_n 0, 1)) ∧ (decode cX3_leastPaid 25 = .ok (.getfield 42, 3)) ∧ (decode cX3_leastPaid 28 = .ok (.aload_n 0, 1)) := by decide +kernel
theorem dX3_leastPaid_0 : decode cX3_leastPaid 0 = .ok (.aload_n 0, 1) := da9_dX3_leastPaid_0.1
theorem dX3_leastPaid_1 : decode cX3_leastPaid 1 = .ok (.aload_n 1, 1) := da9_dX3_leastPaid_0.2.1
theorem dX3_leastPaid_2 : decode cX3_leastPaid 2 = .ok (.iload_n 2, 1) := da9_dX3_leastPaid_0.2.2.1
theorem dX3_leastPaid_3 : decode cX3_leastPaid 3 = .ok (.iconst 0, 1) := da9_dX3_leastPaid_0.2.2.2.1
theorem dX3_leastPaid_4 : decode cX3_leastPaid 4 = .ok (.invokevirtual 109, 3) := da9_dX3_leastPaid_0.2.2.2.2.1
theorem dX3_leastPaid_7 : decode cX3_leastPaid 7 = .ok (.aload_n 0, 1) := da9_dX3_leastPaid_0.2.2.2.2.2.1
theorem dX3_leastPaid_8 : decode cX3_leastPaid 8 = .ok (.getfield 42, 3) := da9_dX3_leastPaid_0.2.2.2.2.2.2.1
theorem dX3_leastPaid_11 : decode cX3_leastPaid 11 = .ok (.ldc 140, 2) := da9_dX3_leastPaid_0.2.2.2.2.2.2.2.1
theorem dX3_leastPaid_13 : decode cX3_leastPaid 13 = .ok (.invokestatic 122, 3) := da9_dX3_leastPaid_0.2.2.2.2.2.2.2.2.1
theorem dX3_leastPaid_16 : decode cX3_leastPaid 16 = .ok (.aload_n 0, 1) := da9_dX3_leastPaid_0.2.2.2.2.2.2.2.2.2.1
theorem dX3_leastPaid_17 : decode cX3_leastPaid 17 = .ok (.getfield 27, 3) := da9_dX3_leastPaid_0.2.2.2.2.2.2.2.2.2.2.1
theorem dX3_leastPaid_20 : decode cX3_leastPaid 20 = .ok (.iconst (-1), 1) := da9_dX3_leastPaid_0.2.2.2.2.2.2.2.2.2.2.2.1
theorem dX3_leastPaid_21 : decode cX3_leastPaid 21 = .ok (.invokestatic 122, 3) := da9_dX3_leastPaid_0.2.2.2.2.2.2.2.2.2.2.2.2.1
theorem dX3_leastPaid_24 : decode cX3_leastPaid 24 = .ok (.aload_n 0, 1) := da9_dX3_leastPaid_0.2.2.2.2.2.2.2.2.2.2.2.2.2.1
theorem dX3_leastPaid_25 : decode cX3_leastPaid 25 = .ok (.getfield 42, 3) := da9_dX3_leastPaid_0.2.2.2.2.2.2.2.2.2.2.2.2.2.2.1
theorem dX3_leastPaid_28 : decode cX3_leastPaid 28 = .ok (.aload_n 0, 1) := da9_dX3_leastPaid_0.2.2.2.2.2.2.2.2.2.2.2.2.2.2.2
theorem da9_dX3_leastPaid_29 : (decode cX3_leastPaid 29 = .ok (.getfield 58, 3)) ∧ (decode cX3_leastPaid 32 = .ok (.iconst 0, 1)) ∧ (decode cX3_leastPaid 33 = .ok (.iastore, 1)) ∧ (decode cX3_leastPaid 34 = .ok (.aload_n 0, 1)) ∧ (decode cX3_leastPaid 35 = .ok (.aload_n 0, 1)) ∧ (decode cX3_leastPaid 36 = .ok (.getfield 58, 3)) ∧ (decode cX3_leastPaid 39 = .ok (.invokevirtual 141, 3)) ∧ (decode cX3_leastPaid 42 = .ok (.iconst 1, 1)) ∧ (decode cX3_leastPaid 43 = .ok (.istore_n 3, 1)) ∧ (decode cX3_leastPaid 44 = .ok (.iconst 0, 1)) ∧ (decode cX3_leastPaid 45 = .ok (.istore 4, 2)) ∧ (decode cX3_leastPaid 47 = .ok (.iload 4, 2)) ∧ (decode cX3_leastPaid 49 = .ok (.bipush 99, 2)) ∧ (decode cX3_leastPaid 51 = .ok (.aload_n 0, 1)) ∧ (decode cX3_leastPaid 52 = .ok (.getfield 55, 3)) ∧ (decode cX3_leastPaid 55 = .ok (.imul, 1)) := by decide +kernel
theorem dX3_leastPaid_29 : decode cX3_leastPaid 29 = .ok (.getfield 58, 3) := da9_dX3_leastPaid_29.1
theorem dX3_leastPaid_32 : decode cX3_leastPaid 32 = .ok (.iconst 0, 1) := da9_dX3_leastPaid_29.2.1
theorem dX3_leastPaid_33 : decode cX3_leastPaid 33 = .ok (.iastore, 1) := da9_dX3_leastPaid_29.2.2.1
theorem dX3_leastPaid_34 : decode cX3_leastPaid 34 = .ok (.aload_n 0, 1) := da9_dX3_leastPaid_29.2.2.2.1
theorem dX3_leastPaid_35 : decode cX3_leastPaid 35 = .ok (.aload_n 0, 1) := da9_dX3_leastPaid_29.2.2.2.2.1
theorem dX3_leastPaid_36 : decode cX3_leastPaid 36 = .ok (.getfield 58, 3) := da9_dX3_leastPaid_29.2.2.2.2.2.1
theorem dX3_leastPaid_39 : decode cX3_leastPaid 39 = .ok (.invokevirtual 141, 3) := da9_dX3_leastPaid_29.2.2.2.2.2.2.1
theorem dX3_leastPaid_42 : decode cX3_leastPaid 42 = .ok (.iconst 1, 1) := da9_dX3_leastPaid_29.2.2.2.2.2.2.2.1
theorem dX3_leastPaid_43 : decode cX3_leastPaid 43 = .ok (.istore_n 3, 1) := da9_dX3_leastPaid_29.2.2.2.2.2.2.2.2.1
theorem dX3_leastPaid_44 : decode cX3_leastPaid 44 = .ok (.iconst 0, 1) := da9_dX3_leastPaid_29.2.2.2.2.2.2.2.2.2.1
theorem dX3_leastPaid_45 : decode cX3_leastPaid 45 = .ok (.istore 4, 2) := da9_dX3_leastPaid_29.2.2.2.2.2.2.2.2.2.2.1
theorem dX3_leastPaid_47 : decode cX3_leastPaid 47 = .ok (.iload 4, 2) := da9_dX3_leastPaid_29.2.2.2.2.2.2.2.2.2.2.2.1
theorem dX3_leastPaid_49 : decode cX3_leastPaid 49 = .ok (.bipush 99, 2) := da9_dX3_leastPaid_29.2.2.2.2.2.2.2.2.2.2.2.2.1
theorem dX3_leastPaid_51 : decode cX3_leastPaid 51 = .ok (.aload_n 0, 1) := da9_dX3_leastPaid_29.2.2.2.2.2.2.2.2.2.2.2.2.2.1
theorem dX3_leastPaid_52 : decode cX3_leastPaid 52 = .ok (.getfield 55, 3) := da9_dX3_leastPaid_29.2.2.2.2.2.2.2.2.2.2.2.2.2.2.1
theorem dX3_leastPaid_55 : decode cX3_leastPaid 55 = .ok (.imul, 1) := da9_dX3_leastPaid_29.2.2.2.2.2.2.2.2.2.2.2.2.2.2.2
theorem da9_dX3_leastPaid_56 : (decode cX3_leastPaid 56 = .ok (.if_icmp .gt 87, 3)) ∧ (decode cX3_leastPaid 59 = .ok (.iload_n 3, 1)) ∧ (decode cX3_leastPaid 60 = .ok (.ifCond .le 83, 3)) ∧ (decode cX3_leastPaid 63 = .ok (.iload 4, 2)) ∧ (decode cX3_leastPaid 65 = .ok (.bipush 100, 2)) ∧ (decode cX3_leastPaid 67 = .ok (.irem, 1)) ∧ (decode cX3_leastPaid 68 = .ok (.istore 5, 2)) ∧ (decode cX3_leastPaid 70 = .ok (.iconst 0, 1)) ∧ (decode cX3_leastPaid 71 = .ok (.istore 6, 2)) ∧ (decode cX3_leastPaid 73 = .ok (.iload 6, 2)) ∧ (decode cX3_leastPaid 75 = .ok (.aload_n 0, 1)) ∧ (decode cX3_leastPaid 76 = .ok (.getfield 55, 3)) ∧ (decode cX3_leastPaid 79 = .ok (.if_icmp .ge 58, 3)) ∧ (decode cX3_leastPaid 82 = .ok (.aload_n 0, 1)) ∧ (decode cX3_leastPaid 83 = .ok (.getfield 27, 3)) ∧ (decode cX3_leastPaid 86 = .ok (.iload 5, 2)) := by decide +kernel
theorem dX3_leastPaid_56 : decode cX3_leastPaid 56 = .ok (.if_icmp .gt 87, 3) := da9_dX3_leastPaid_56.1
theorem dX3_leastPaid_59 : decode cX3_leastPaid 59 = .ok (.iload_n 3, 1) := da9_dX3_leastPaid_56.2.1
theorem dX3_leastPaid_60 : decode cX3_leastPaid 60 = .ok (.ifCond .le 83, 3) := da9_dX3_leastPaid_56.2.2.1
theorem dX3_leastPaid_63 : decode cX3_leastPaid 63 = .ok (.iload 4, 2) := da9_dX3_leastPaid_56.2.2.2.1
theorem dX3_leastPaid_65 : decode cX3_leastPaid 65 = .ok (.bipush 100, 2) := da9_dX3_leastPaid_56.2.2.2.2.1
theorem dX3_leastPaid_67 : decode cX3_leastPaid 67 = .ok (.irem, 1) := da9_dX3_leastPaid_56.2.2.2.2.2.1
theorem dX3_leastPaid_68 : decode cX3_leastPaid 68 = .ok (.istore 5, 2) := da9_dX3_leastPaid_56.2.2.2.2.2.2.1
theorem dX3_leastPaid_70 : decode cX3_leastPaid 70 = .ok (.iconst 0, 1) := da9_dX3_leastPaid_56.2.2.2.2.2.2.2.1
theorem dX3_leastPaid_71 : decode cX3_leastPaid 71 = .ok (.istore 6, 2) := da9_dX3_leastPaid_56.2.2.2.2.2.2.2.2.1
theorem dX3_leastPaid_73 : decode cX3_leastPaid 73 = .ok (.iload 6, 2) := da9_dX3_leastPaid_56.2.2.2.2.2.2.2.2.2.1
theorem dX3_leastPaid_75 : decode cX3_leastPaid 75 = .ok (.aload_n 0, 1) := da9_dX3_leastPaid_56.2.2.2.2.2.2.2.2.2.2.1
theorem dX3_leastPaid_76 : decode cX3_leastPaid 76 = .ok (.getfield 55, 3) := da9_dX3_leastPaid_56.2.2.2.2.2.2.2.2.2.2.2.1
theorem dX3_leastPaid_79 : decode cX3_leastPaid 79 = .ok (.if_icmp .ge 58, 3) := da9_dX3_leastPaid_56.2.2.2.2.2.2.2.2.2.2.2.2.1
theorem dX3_leastPaid_82 : decode cX3_leastPaid 82 = .ok (.aload_n 0, 1) := da9_dX3_leastPaid_56.2.2.2.2.2.2.2.2.2.2.2.2.2.1
theorem dX3_leastPaid_83 : decode cX3_leastPaid 83 = .ok (.getfield 27, 3) := da9_dX3_leastPaid_56.2.2.2.2.2.2.2.2.2.2.2.2.2.2.1
theorem dX3_leastPaid_86 : decode cX3_leastPaid 86 = .ok (.iload 5, 2) := da9_dX3_leastPaid_56.2.2.2.2.2.2.2.2.2.2.2.2.2.2.2
theorem da9_dX3_leastPaid_88 : (decode cX3_leastPaid 88 = .ok (.iaload, 1)) ∧ (decode cX3_leastPaid 89 = .ok (.iconst (-1), 1)) ∧ (decode cX3_leastPaid 90 = .ok (.if_icmp .eq 47, 3)) ∧ (decode cX3_leastPaid 93 = .ok (.aload_n 0, 1)) ∧ (decode cX3_leastPaid 94 = .ok (.getfield 27, 3)) ∧ (decode cX3_leastPaid 97 = .ok (.iload 5, 2)) ∧ (decode cX3_leastPaid 99 = .ok (.iaload, 1)) ∧ (decode cX3_leastPaid 100 = .ok (.istore 7, 2)) ∧ (decode cX3_leastPaid 102 = .ok (.aload_n 0, 1)) ∧ (decode cX3_leastPaid 103 = .ok (.iload 7, 2)) ∧ (decode cX3_leastPaid 105 = .ok (.invokevirtual 145, 3)) ∧ (decode cX3_leastPaid 108 = .ok (.aload_n 0, 1)) ∧ (decode cX3_leastPaid 109 = .ok (.iload 7, 2)) ∧ (decode cX3_leastPaid 111 = .ok (.invokevirtual 148, 3)) ∧ (decode cX3_leastPaid 114 = .ok (.ifCond .eq 6, 3)) ∧ (decode cX3_leastPaid 117 = .ok (.iload 4, 2)) := by decide +kernel
theorem dX3_leastPaid_88 : decode cX3_leastPaid 88 = .ok (.iaload, 1) := da9_dX3_leastPaid_88.1
theorem dX3_leastPaid_89 : decode cX3_leastPaid 89 = .ok (.iconst (-1), 1) := da9_dX3_leastPaid_88.2.1
theorem dX3_leastPaid_90 : decode cX3_leastPaid 90 = .ok (.if_icmp .eq 47, 3) := da9_dX3_leastPaid_88.2.2.1
theorem dX3_leastPaid_93 : decode cX3_leastPaid 93 = .ok (.aload_n 0, 1) := da9_dX3_leastPaid_88.2.2.2.1
theorem dX3_leastPaid_94 : decode cX3_leastPaid 94 = .ok (.getfield 27, 3) := da9_dX3_leastPaid_88.2.2.2.2.1
theorem dX3_leastPaid_97 : decode cX3_leastPaid 97 = .ok (.iload 5, 2) := da9_dX3_leastPaid_88.2.2.2.2.2.1
theorem dX3_leastPaid_99 : decode cX3_leastPaid 99 = .ok (.iaload, 1) := da9_dX3_leastPaid_88.2.2.2.2.2.2.1
theorem dX3_leastPaid_100 : decode cX3_leastPaid 100 = .ok (.istore 7, 2) := da9_dX3_leastPaid_88.2.2.2.2.2.2.2.1
theorem dX3_leastPaid_102 : decode cX3_leastPaid 102 = .ok (.aload_n 0, 1) := da9_dX3_leastPaid_88.2.2.2.2.2.2.2.2.1
theorem dX3_leastPaid_103 : decode cX3_leastPaid 103 = .ok (.iload 7, 2) := da9_dX3_leastPaid_88.2.2.2.2.2.2.2.2.2.1
theorem dX3_leastPaid_105 : decode cX3_leastPaid 105 = .ok (.invokevirtual 145, 3) := da9_dX3_leastPaid_88.2.2.2.2.2.2.2.2.2.2.1
theorem dX3_leastPaid_108 : decode cX3_leastPaid 108 = .ok (.aload_n 0, 1) := da9_dX3_leastPaid_88.2.2.2.2.2.2.2.2.2.2.2.1
theorem dX3_leastPaid_109 : decode cX3_leastPaid 109 = .ok (.iload 7, 2) := da9_dX3_leastPaid_88.2.2.2.2.2.2.2.2.2.2.2.2.1
theorem dX3_leastPaid_111 : decode cX3_leastPaid 111 = .ok (.invokevirtual 148, 3) := da9_dX3_leastPaid_88.2.2.2.2.2.2.2.2.2.2.2.2.2.1
theorem dX3_leastPaid_114 : decode cX3_leastPaid 114 = .ok (.ifCond .eq 6, 3) := da9_dX3_leastPaid_88.2.2.2.2.2.2.2.2.2.2.2.2.2.2.1
theorem dX3_leastPaid_117 : decode cX3_leastPaid 117 = .ok (.iload 4, 2) := da9_dX3_leastPaid_88.2.2.2.2.2.2.2.2.2.2.2.2.2.2.2
theorem da9_dX3_leastPaid_119 : (decode cX3_leastPaid 119 = .ok (.ireturn, 1)) ∧ (decode cX3_leastPaid 120 = .ok (.iload_n 3, 1)) ∧ (decode cX3_leastPaid 121 = .ok (.aload_n 0, 1)) ∧ (decode cX3_leastPaid 122 = .ok (.iload 7, 2)) ∧ (decode cX3_leastPaid 124 = .ok (.invokevirtual 151, 3)) ∧ (decode cX3_leastPaid 127 = .ok (.iconst 1, 1)) ∧ (decode cX3_leastPaid 128 = .ok (.isub, 1)) ∧ (decode cX3_leastPaid 129 = .ok (.iadd, 1)) ∧ (decode cX3_leastPaid 130 = .ok (.istore_n 3, 1)) ∧ (decode cX3_leastPaid 131 = .ok (.iinc 6 1, 3)) ∧ (decode cX3_leastPaid 134 = .ok (.goto (-61), 3)) ∧ (decode cX3_leastPaid 137 = .ok (.iinc 4 1, 3)) ∧ (decode cX3_leastPaid 140 = .ok (.goto (-93), 3)) ∧ (decode cX3_leastPaid 143 = .ok (.iconst (-1), 1)) ∧ (decode cX3_leastPaid 144 = .ok (.ireturn, 1)) := by decide +kernel
theorem dX3_leastPaid_119 : decode cX3_leastPaid 119 = .ok (.ireturn, 1) := da9_dX3_leastPaid_119.1
theorem dX3_leastPaid_120 : decode cX3_leastPaid 120 = .ok (.iload_n 3, 1) := da9_dX3_leastPaid_119.2.1
theorem dX3_leastPaid_121 : decode cX3_leastPaid 121 = .ok (.aload_n 0, 1) := da9_dX3_leastPaid_119.2.2.1
theorem dX3_leastPaid_122 : decode cX3_leastPaid 122 = .ok (.iload 7, 2) := da9_dX3_leastPaid_119.2.2.2.1
theorem dX3_leastPaid_124 : decode cX3_leastPaid 124 = .ok (.invokevirtual 151, 3) := da9_dX3_leastPaid_119.2.2.2.2.1
theorem dX3_leastPaid_127 : decode cX3_leastPaid 127 = .ok (.iconst 1, 1) := da9_dX3_leastPaid_119.2.2.2.2.2.1
theorem dX3_leastPaid_128 : decode cX3_leastPaid 128 = .ok (.isub, 1) := da9_dX3_leastPaid_119.2.2.2.2.2.2.1
theorem dX3_leastPaid_129 : decode cX3_leastPaid 129 = .ok (.iadd, 1) := da9_dX3_leastPaid_119.2.2.2.2.2.2.2.1
theorem dX3_leastPaid_130 : decode cX3_leastPaid 130 = .ok (.istore_n 3, 1) := da9_dX3_leastPaid_119.2.2.2.2.2.2.2.2.1
theorem dX3_leastPaid_131 : decode cX3_leastPaid 131 = .ok (.iinc 6 1, 3) := da9_dX3_leastPaid_119.2.2.2.2.2.2.2.2.2.1
theorem dX3_leastPaid_134 : decode cX3_leastPaid 134 = .ok (.goto (-61), 3) := da9_dX3_leastPaid_119.2.2.2.2.2.2.2.2.2.2.1
theorem dX3_leastPaid_137 : decode cX3_leastPaid 137 = .ok (.iinc 4 1, 3) := da9_dX3_leastPaid_119.2.2.2.2.2.2.2.2.2.2.2.1
theorem dX3_leastPaid_140 : decode cX3_leastPaid 140 = .ok (.goto (-93), 3) := da9_dX3_leastPaid_119.2.2.2.2.2.2.2.2.2.2.2.2.1
theorem dX3_leastPaid_143 : decode cX3_leastPaid 143 = .ok (.iconst (-1), 1) := da9_dX3_leastPaid_119.2.2.2.2.2.2.2.2.2.2.2.2.2.1
theorem dX3_leastPaid_144 : decode cX3_leastPaid 144 = .ok (.ireturn, 1) := da9_dX3_leastPaid_119.2.2.2.2.2.2.2.2.2.2.2.2.2.2
set_option maxRecDepth 20000 in
theorem ggX3_offerTurns_X3_turned : GoodIn wsX3_offerTurns wsX3_turned := goodIn_r _ [10, 1, 11, 12, 13, 33, 34, 35, 36, 37, 38, 39, 40, 41, 42, 43, 44, 45, 46, 47, 48, 49, 50, 51, 52] rfl (by decide +kernel)
set_option maxRecDepth 20000 in
theorem gX3_offerTurns_X3_turned : GoodIn wsX3_offerTurns (wsV RX3 119 RX3 yX3_turned wsX3_turned) := goodIn_app (goodIn_of _ (by decide +kernel)) ggX3_offerTurns_X3_turned
set_option maxRecDepth 20000 in
theorem ggX3_offerTurns_X3_caseOf : GoodIn wsX3_offerTurns wsX3_caseOf := goodIn_r _ [17, 18, 1, 19, 20, 9, 21, 33, 34, 35, 36, 37, 38, 39, 40, 41, 42, 43, 44, 45, 46, 47, 48, 49, 50, 51, 52] rfl (by decide +kernel)
set_option maxRecDepth 20000 in
theorem gX3_offerTurns_X3_caseOf : GoodIn wsX3_offerTurns (wsV RX3 154 RX3 yX3_caseOf wsX3_caseOf) := goodIn_app (goodIn_of _ (by decide +kernel)) ggX3_offerTurns_X3_caseOf
set_option maxRecDepth 20000 in
theorem ggX3_offerTurns_X3_takeFromBucket : GoodIn wsX3_offerTurns wsX3_takeFromBucket := goodIn_r _ [25, 26, 27, 2, 28, 33, 34, 35, 36, 37, 38, 39, 40, 41, 42, 43, 44, 45, 46, 47, 48, 49, 50, 51, 52] rfl (by decide +kernel)
set_option maxRecDepth 20000 in
theorem gX3_offerTurns_X3_takeFromBucket : GoodIn wsX3_offerTurns (wsV RX3 145 RX3 yX3_takeFromBucket wsX3_takeFromBucket) := goodIn_app (goodIn_of _ (by decide +kernel)) ggX3_offerTurns_X3_takeFromBucket
set_option maxRecDepth 20000 in
theorem ggX3_offerTurns_X3_putInBucket : GoodIn wsX3_offerTurns wsX3_putInBucket := goodIn_r _ [32, 2, 28, 27, 26, 33, 34, 35, 36, 37, 38, 39, 40, 41, 42, 43, 44, 45, 46, 47, 48, 49, 50, 51, 52] rfl (by decide +kernel)
set_option maxRecDepth 20000 in
theorem gX3_offerTurns_X3_putInBucket : GoodIn wsX3_offerTurns (wsV RX3 141 RX3 yX3_putInBucket wsX3_putInBucket) := goodIn_app (goodIn_of _ (by decide +kernel)) ggX3_offerTurns_X3_putInBucket
theorem da9_dX3_offerTurns_0 : (decode cX3_offerTurns 0 = .ok (.iconst 0, 1)) ∧ (decode cX3_offerTurns 1 = .ok (.istore_n 2, 1)) ∧ (decode cX3_offerTurns 2 = .ok (.iconst 1, 1)) ∧ (decode cX3_offerTurns 3 = .ok (.istore_n 3, 1)) ∧ (decode cX3_offerTurns 4 = .ok (.iload_n 3, 1)) ∧ (decode cX3_offerTurns 5 = .ok (.aload_n 0, 1)) ∧ (decode cX3_offerTurns 6 = .ok (.getfield 51, 3)) ∧ (decode cX3_offerTurns 9 = .ok (.if_icmp .gt 102, 3)) ∧ (decode cX3_offerTurns 12 = .ok (.aload_n 0, 1)) ∧ (decode cX3_offerTurns 13 = .ok (.iload_n 1, 1)) ∧ (decode cX3_offerTurns 14 = .ok (.iload_n 3, 1)) ∧ (decode cX3_offerTurns 15 = .ok (.invokevirtual 119, 3)) ∧ (decode cX3_offerTurns 18 = .ok (.istore 4, 2)) ∧ (decode cX3_offerTurns 20 = .ok (.aload_n 0, 1)) ∧ (decode cX3_offerTurns 21 = .ok (.iload_n 1, 1)) ∧ (decode cX3_offerTurns 22 = .ok (.iload_n 3, 1)) := by decide +kernel
theorem dX3_offerTurns_0 : decode cX3_offerTurns 0 = .ok (.iconst 0, 1) := da9_dX3_offerTurns_0.1
theorem dX3_offerTurns_1 : decode cX3_offerTurns 1 = .ok (.istore_n 2, 1) := da9_dX3_offerTurns_0.2.1
theorem dX3_offerTurns_2 : decode cX3_offerTurns 2 = .ok (.iconst 1, 1) := da9_dX3_offerTurns_0.2.2.1
theorem dX3_offerTurns_3 : decode cX3_offerTurns 3 = .ok (.istore_n 3, 1) := da9_dX3_offerTurns_0.2.2.2.1
theorem dX3_offerTurns_4 : decode cX3_offerTurns 4 = .ok (.iload_n 3, 1) := da9_dX3_offerTurns_0.2.2.2.2.1
theorem dX3_offerTurns_5 : decode cX3_offerTurns 5 = .ok (.aload_n 0, 1) := da9_dX3_offerTurns_0.2.2.2.2.2.1
theorem dX3_offerTurns_6 : decode cX3_offerTurns 6 = .ok (.getfield 51, 3) := da9_dX3_offerTurns_0.2.2.2.2.2.2.1
theorem dX3_offerTurns_9 : decode cX3_offerTurns 9 = .ok (.if_icmp .gt 102, 3) := da9_dX3_offerTurns_0.2.2.2.2.2.2.2.1
theorem dX3_offerTurns_12 : decode cX3_offerTurns 12 = .ok (.aload_n 0, 1) := da9_dX3_offerTurns_0.2.2.2.2.2.2.2.2.1
theorem dX3_offerTurns_13 : decode cX3_offerTurns 13 = .ok (.iload_n 1, 1) := da9_dX3_offerTurns_0.2.2.2.2.2.2.2.2.2.1
theorem dX3_offerTurns_14 : decode cX3_offerTurns 14 = .ok (.iload_n 3, 1) := da9_dX3_offerTurns_0.2.2.2.2.2.2.2.2.2.2.1
theorem dX3_offerTurns_15 : decode cX3_offerTurns 15 = .ok (.invokevirtual 119, 3) := da9_dX3_offerTurns_0.2.2.2.2.2.2.2.2.2.2.2.1
theorem dX3_offerTurns_18 : decode cX3_offerTurns 18 = .ok (.istore 4, 2) := da9_dX3_offerTurns_0.2.2.2.2.2.2.2.2.2.2.2.2.1
theorem dX3_offerTurns_20 : decode cX3_offerTurns 20 = .ok (.aload_n 0, 1) := da9_dX3_offerTurns_0.2.2.2.2.2.2.2.2.2.2.2.2.2.1
theorem dX3_offerTurns_21 : decode cX3_offerTurns 21 = .ok (.iload_n 1, 1) := da9_dX3_offerTurns_0.2.2.2.2.2.2.2.2.2.2.2.2.2.2.1
theorem dX3_offerTurns_22 : decode cX3_offerTurns 22 = .ok (.iload_n 3, 1) := da9_dX3_offerTurns_0.2.2.2.2.2.2.2.2.2.2.2.2.2.2.2
theorem da9_dX3_offerTurns_23 : (decode cX3_offerTurns 23 = .ok (.invokevirtual 154, 3)) ∧ (decode cX3_offerTurns 26 = .ok (.istore 5, 2)) ∧ (decode cX3_offerTurns 28 = .ok (.aload_n 0, 1)) ∧ (decode cX3_offerTurns 29 = .ok (.getfield 42, 3)) ∧ (decode cX3_offerTurns 32 = .ok (.iload_n 1, 1)) ∧ (decode cX3_offerTurns 33 = .ok (.iaload, 1)) ∧ (decode cX3_offerTurns 34 = .ok (.aload_n 0, 1)) ∧ (decode cX3_offerTurns 35 = .ok (.getfield 21, 3)) ∧ (decode cX3_offerTurns 38 = .ok (.iload 5, 2)) ∧ (decode cX3_offerTurns 40 = .ok (.iaload, 1)) ∧ (decode cX3_offerTurns 41 = .ok (.iadd, 1)) ∧ (decode cX3_offerTurns 42 = .ok (.istore 6, 2)) ∧ (decode cX3_offerTurns 44 = .ok (.aload_n 0, 1)) ∧ (decode cX3_offerTurns 45 = .ok (.getfield 18, 3)) ∧ (decode cX3_offerTurns 48 = .ok (.iload 5, 2)) ∧ (decode cX3_offerTurns 50 = .ok (.iaload, 1)) := by decide +kernel
theorem dX3_offerTurns_23 : decode cX3_offerTurns 23 = .ok (.invokevirtual 154, 3) := da9_dX3_offerTurns_23.1
theorem dX3_offerTurns_26 : decode cX3_offerTurns 26 = .ok (.istore 5, 2) := da9_dX3_offerTurns_23.2.1
theorem dX3_offerTurns_28 : decode cX3_offerTurns 28 = .ok (.aload_n 0, 1) := da9_dX3_offerTurns_23.2.2.1
theorem dX3_offerTurns_29 : decode cX3_offerTurns 29 = .ok (.getfield 42, 3) := da9_dX3_offerTurns_23.2.2.2.1
theorem dX3_offerTurns_32 : decode cX3_offerTurns 32 = .ok (.iload_n 1, 1) := da9_dX3_offerTurns_23.2.2.2.2.1
theorem dX3_offerTurns_33 : decode cX3_offerTurns 33 = .ok (.iaload, 1) := da9_dX3_offerTurns_23.2.2.2.2.2.1
theorem dX3_offerTurns_34 : decode cX3_offerTurns 34 = .ok (.aload_n 0, 1) := da9_dX3_offerTurns_23.2.2.2.2.2.2.1
theorem dX3_offerTurns_35 : decode cX3_offerTurns 35 = .ok (.getfield 21, 3) := da9_dX3_offerTurns_23.2.2.2.2.2.2.2.1
theorem dX3_offerTurns_38 : decode cX3_offerTurns 38 = .ok (.iload 5, 2) := da9_dX3_offerTurns_23.2.2.2.2.2.2.2.2.1
theorem dX3_offerTurns_40 : decode cX3_offerTurns 40 = .ok (.iaload, 1) := da9_dX3_offerTurns_23.2.2.2.2.2.2.2.2.2.1
theorem dX3_offerTurns_41 : decode cX3_offerTurns 41 = .ok (.iadd, 1) := da9_dX3_offerTurns_23.2.2.2.2.2.2.2.2.2.2.1
theorem dX3_offerTurns_42 : decode cX3_offerTurns 42 = .ok (.istore 6, 2) := da9_dX3_offerTurns_23.2.2.2.2.2.2.2.2.2.2.2.1
theorem dX3_offerTurns_44 : decode cX3_offerTurns 44 = .ok (.aload_n 0, 1) := da9_dX3_offerTurns_23.2.2.2.2.2.2.2.2.2.2.2.2.1
theorem dX3_offerTurns_45 : decode cX3_offerTurns 45 = .ok (.getfield 18, 3) := da9_dX3_offerTurns_23.2.2.2.2.2.2.2.2.2.2.2.2.2.1
theorem dX3_offerTurns_48 : decode cX3_offerTurns 48 = .ok (.iload 5, 2) := da9_dX3_offerTurns_23.2.2.2.2.2.2.2.2.2.2.2.2.2.2.1
theorem dX3_offerTurns_50 : decode cX3_offerTurns 50 = .ok (.iaload, 1) := da9_dX3_offerTurns_23.2.2.2.2.2.2.2.2.2.2.2.2.2.2.2
theorem da9_dX3_offerTurns_51 : (decode cX3_offerTurns 51 = .ok (.ifCond .ne 54, 3)) ∧ (decode cX3_offerTurns 54 = .ok (.iload 6, 2)) ∧ (decode cX3_offerTurns 56 = .ok (.aload_n 0, 1)) ∧ (decode cX3_offerTurns 57 = .ok (.getfield 42, 3)) ∧ (decode cX3_offerTurns 60 = .ok (.iload 4, 2)) ∧ (decode cX3_offerTurns 62 = .ok (.iaload, 1)) ∧ (decode cX3_offerTurns 63 = .ok (.if_icmp .ge 42, 3)) ∧ (decode cX3_offerTurns 66 = .ok (.aload_n 0, 1)) ∧ (decode cX3_offerTurns 67 = .ok (.getfield 42, 3)) ∧ (decode cX3_offerTurns 70 = .ok (.iload 4, 2)) ∧ (decode cX3_offerTurns 72 = .ok (.iaload, 1)) ∧ (decode cX3_offerTurns 73 = .ok (.ldc 140, 2)) ∧ (decode cX3_offerTurns 75 = .ok (.if_icmp .ne 9, 3)) ∧ (decode cX3_offerTurns 78 = .ok (.iinc 2 1, 3)) ∧ (decode cX3_offerTurns 81 = .ok (.goto 9, 3)) ∧ (decode cX3_offerTurns 84 = .ok (.aload_n 0, 1)) := by decide +kernel
theorem dX3_offerTurns_51 : decode cX3_offerTurns 51 = .ok (.ifCond .ne 54, 3) := da9_dX3_offerTurns_51.1
theorem dX3_offerTurns_54 : decode cX3_offerTurns 54 = .ok (.iload 6, 2) := da9_dX3_offerTurns_51.2.1
theorem dX3_offerTurns_56 : decode cX3_offerTurns 56 = .ok (.aload_n 0, 1) := da9_dX3_offerTurns_51.2.2.1
theorem dX3_offerTurns_57 : decode cX3_offerTurns 57 = .ok (.getfield 42, 3) := da9_dX3_offerTurns_51.2.2.2.1
theorem dX3_offerTurns_60 : decode cX3_offerTurns 60 = .ok (.iload 4, 2) := da9_dX3_offerTurns_51.2.2.2.2.1
theorem dX3_offerTurns_62 : decode cX3_offerTurns 62 = .ok (.iaload, 1) := da9_dX3_offerTurns_51.2.2.2.2.2.1
theorem dX3_offerTurns_63 : decode cX3_offerTurns 63 = .ok (.if_icmp .ge 42, 3) := da9_dX3_offerTurns_51.2.2.2.2.2.2.1
theorem dX3_offerTurns_66 : decode cX3_offerTurns 66 = .ok (.aload_n 0, 1) := da9_dX3_offerTurns_51.2.2.2.2.2.2.2.1
theorem dX3_offerTurns_67 : decode cX3_offerTurns 67 = .ok (.getfield 42, 3) := da9_dX3_offerTurns_51.2.2.2.2.2.2.2.2.1
theorem dX3_offerTurns_70 : decode cX3_offerTurns 70 = .ok (.iload 4, 2) := da9_dX3_offerTurns_51.2.2.2.2.2.2.2.2.2.1
theorem dX3_offerTurns_72 : decode cX3_offerTurns 72 = .ok (.iaload, 1) := da9_dX3_offerTurns_51.2.2.2.2.2.2.2.2.2.2.1
theorem dX3_offerTurns_73 : decode cX3_offerTurns 73 = .ok (.ldc 140, 2) := da9_dX3_offerTurns_51.2.2.2.2.2.2.2.2.2.2.2.1
theorem dX3_offerTurns_75 : decode cX3_offerTurns 75 = .ok (.if_icmp .ne 9, 3) := da9_dX3_offerTurns_51.2.2.2.2.2.2.2.2.2.2.2.2.1
theorem dX3_offerTurns_78 : decode cX3_offerTurns 78 = .ok (.iinc 2 1, 3) := da9_dX3_offerTurns_51.2.2.2.2.2.2.2.2.2.2.2.2.2.1
theorem dX3_offerTurns_81 : decode cX3_offerTurns 81 = .ok (.goto 9, 3) := da9_dX3_offerTurns_51.2.2.2.2.2.2.2.2.2.2.2.2.2.2.1
theorem dX3_offerTurns_84 : decode cX3_offerTurns 84 = .ok (.aload_n 0, 1) := da9_dX3_offerTurns_51.2.2.2.2.2.2.2.2.2.2.2.2.2.2.2
theorem da9_dX3_offerTurns_85 : (decode cX3_offerTurns 85 = .ok (.iload 4, 2)) ∧ (decode cX3_offerTurns 87 = .ok (.invokevirtual 145, 3)) ∧ (decode cX3_offerTurns 90 = .ok (.aload_n 0, 1)) ∧ (decode cX3_offerTurns 91 = .ok (.getfield 42, 3)) ∧ (decode cX3_offerTurns 94 = .ok (.iload 4, 2)) ∧ (decode cX3_offerTurns 96 = .ok (.iload 6, 2)) ∧ (decode cX3_offerTurns 98 = .ok (.iastore, 1)) ∧ (decode cX3_offerTurns 99 = .ok (.aload_n 0, 1)) ∧ (decode cX3_offerTurns 100 = .ok (.iload 4, 2)) ∧ (decode cX3_offerTurns 102 = .ok (.invokevirtual 141, 3)) ∧ (decode cX3_offerTurns 105 = .ok (.iinc 3 1, 3)) ∧ (decode cX3_offerTurns 108 = .ok (.goto (-104), 3)) ∧ (decode cX3_offerTurns 111 = .ok (.iload_n 2, 1)) ∧ (decode cX3_offerTurns 112 = .ok (.ireturn, 1)) := by decide +kernel
theorem dX3_offerTurns_85 : decode cX3_offerTurns 85 = .ok (.iload 4, 2) := da9_dX3_offerTurns_85.1
theorem dX3_offerTurns_87 : decode cX3_offerTurns 87 = .ok (.invokevirtual 145, 3) := da9_dX3_offerTurns_85.2.1
theorem dX3_offerTurns_90 : decode cX3_offerTurns 90 = .ok (.aload_n 0, 1) := da9_dX3_offerTurns_85.2.2.1
theorem dX3_offerTurns_91 : decode cX3_offerTurns 91 = .ok (.getfield 42, 3) := da9_dX3_offerTurns_85.2.2.2.1
theorem dX3_offerTurns_94 : decode cX3_offerTurns 94 = .ok (.iload 4, 2) := da9_dX3_offerTurns_85.2.2.2.2.1
theorem dX3_offerTurns_96 : decode cX3_offerTurns 96 = .ok (.iload 6, 2) := da9_dX3_offerTurns_85.2.2.2.2.2.1
theorem dX3_offerTurns_98 : decode cX3_offerTurns 98 = .ok (.iastore, 1) := da9_dX3_offerTurns_85.2.2.2.2.2.2.1
theorem dX3_offerTurns_99 : decode cX3_offerTurns 99 = .ok (.aload_n 0, 1) := da9_dX3_offerTurns_85.2.2.2.2.2.2.2.1
theorem dX3_offerTurns_100 : decode cX3_offerTurns 100 = .ok (.iload 4, 2) := da9_dX3_offerTurns_85.2.2.2.2.2.2.2.2.1
theorem dX3_offerTurns_102 : decode cX3_offerTurns 102 = .ok (.invokevirtual 141, 3) := da9_dX3_offerTurns_85.2.2.2.2.2.2.2.2.2.1
theorem dX3_offerTurns_105 : decode cX3_offerTurns 105 = .ok (.iinc 3 1, 3) := da9_dX3_offerTurns_85.2.2.2.2.2.2.2.2.2.2.1
theorem dX3_offerTurns_108 : decode cX3_offerTurns 108 = .ok (.goto (-104), 3) := da9_dX3_offerTurns_85.2.2.2.2.2.2.2.2.2.2.2.1
theorem dX3_offerTurns_111 : decode cX3_offerTurns 111 = .ok (.iload_n 2, 1) := da9_dX3_offerTurns_85.2.2.2.2.2.2.2.2.2.2.2.2.1
theorem dX3_offerTurns_112 : decode cX3_offerTurns 112 = .ok (.ireturn, 1) := da9_dX3_offerTurns_85.2.2.2.2.2.2.2.2.2.2.2.2.2
theorem da9_dX3_fits_0 : (decode cX3_fits 0 = .ok (.iload_n 1, 1)) ∧ (decode cX3_fits 1 = .ok (.aload_n 0, 1)) ∧ (decode cX3_fits 2 = .ok (.getfield 51, 3)) ∧ (decode cX3_fits 5 = .ok (.ishr, 1)) ∧ (decode cX3_fits 6 = .ok (.istore 4, 2)) ∧ (decode cX3_fits 8 = .ok (.iload_n 2, 1)) ∧ (decode cX3_fits 9 = .ok (.iconst 1, 1)) ∧ (decode cX3_fits 10 = .ok (.if_icmp .ne 15, 3)) ∧ (decode cX3_fits 13 = .ok (.iload 4, 2)) ∧ (decode cX3_fits 15 = .ok (.iload_n 3, 1)) ∧ (decode cX3_fits 16 = .ok (.if_icmp .ne 7, 3)) ∧ (decode cX3_fits 19 = .ok (.iconst 1, 1)) ∧ (decode cX3_fits 20 = .ok (.goto 4, 3)) ∧ (decode cX3_fits 23 = .ok (.iconst 0, 1)) ∧ (decode cX3_fits 24 = .ok (.ireturn, 1)) ∧ (decode cX3_fits 25 = .ok (.iload_n 2, 1)) := by decide +kernel
theorem dX3_fits_0 : decode cX3_fits 0 = .ok (.iload_n 1, 1) := da9_dX3_fits_0.1
theorem dX3_fits_1 : decode cX3_fits 1 = .ok (.aload_n 0, 1) := da9_dX3_fits_0.2.1
theorem dX3_fits_2 : decode cX3_fits 2 = .ok (.getfield 51, 3) := da9_dX3_fits_0.2.2.1
theorem dX3_fits_5 : decode cX3_fits 5 = .ok (.ishr, 1) := da9_dX3_fits_0.2.2.2.1
theorem dX3_fits_6 : decode cX3_fits 6 = .ok (.istore 4, 2) := da9_dX3_fits_0.2.2.2.2.1
theorem dX3_fits_8 : decode cX3_fits 8 = .ok (.iload_n 2, 1) := da9_dX3_fits_0.2.2.2.2.2.1
theorem dX3_fits_9 : decode cX3_fits 9 = .ok (.iconst 1, 1) := da9_dX3_fits_0.2.2.2.2.2.2.1
theorem dX3_fits_10 : decode cX3_fits 10 = .ok (.if_icmp .ne 15, 3) := da9_dX3_fits_0.2.2.2.2.2.2.2.1
theorem dX3_fits_13 : decode cX3_fits 13 = .ok (.iload 4, 2) := da9_dX3_fits_0.2.2.2.2.2.2.2.2.1
theorem dX3_fits_15 : decode cX3_fits 15 = .ok (.iload_n 3, 1) := da9_dX3_fits_0.2.2.2.2.2.2.2.2.2.1
theorem dX3_fits_16 : decode cX3_fits 16 = .ok (.if_icmp .ne 7, 3) := da9_dX3_fits_0.2.2.2.2.2.2.2.2.2.2.1
theorem dX3_fits_19 : decode cX3_fits 19 = .ok (.iconst 1, 1) := da9_dX3_fits_0.2.2.2.2.2.2.2.2.2.2.2.1
theorem dX3_fits_20 : decode cX3_fits 20 = .ok (.goto 4, 3) := da9_dX3_fits_0.2.2.2.2.2.2.2.2.2.2.2.2.1
theorem dX3_fits_23 : decode cX3_fits 23 = .ok (.iconst 0, 1) := da9_dX3_fits_0.2.2.2.2.2.2.2.2.2.2.2.2.2.1
theorem dX3_fits_24 : decode cX3_fits 24 = .ok (.ireturn, 1) := da9_dX3_fits_0.2.2.2.2.2.2.2.2.2.2.2.2.2.2.1
theorem dX3_fits_25 : decode cX3_fits 25 = .ok (.iload_n 2, 1) := da9_dX3_fits_0.2.2.2.2.2.2.2.2.2.2.2.2.2.2.2
theorem da9_dX3_fits_26 : (decode cX3_fits 26 = .ok (.iconst 2, 1)) ∧ (decode cX3_fits 27 = .ok (.if_icmp .ne 21, 3)) ∧ (decode cX3_fits 30 = .ok (.aload_n 0, 1)) ∧ (decode cX3_fits 31 = .ok (.getfield 30, 3)) ∧ (decode cX3_fits 34 = .ok (.iload 4, 2)) ∧ (decode cX3_fits 36 = .ok (.iaload, 1)) ∧ (decode cX3_fits 37 = .ok (.bipush 7, 2)) ∧ (decode cX3_fits 39 = .ok (.iand, 1)) ∧ (decode cX3_fits 40 = .ok (.iload_n 3, 1)) ∧ (decode cX3_fits 41 = .ok (.if_icmp .ne 7, 3)) ∧ (decode cX3_fits 44 = .ok (.iconst 1, 1)) ∧ (decode cX3_fits 45 = .ok (.goto 4, 3)) ∧ (decode cX3_fits 48 = .ok (.iconst 0, 1)) ∧ (decode cX3_fits 49 = .ok (.ireturn, 1)) := by decide +kernel
theorem dX3_fits_26 : decode cX3_fits 26 = .ok (.iconst 2, 1) := da9_dX3_fits_26.1
theorem dX3_fits_27 : decode cX3_fits 27 = .ok (.if_icmp .ne 21, 3) := da9_dX3_fits_26.2.1
theorem dX3_fits_30 : decode cX3_fits 30 = .ok (.aload_n 0, 1) := da9_dX3_fits_26.2.2.1
theorem dX3_fits_31 : decode cX3_fits 31 = .ok (.getfield 30, 3) := da9_dX3_fits_26.2.2.2.1
theorem dX3_fits_34 : decode cX3_fits 34 = .ok (.iload 4, 2) := da9_dX3_fits_26.2.2.2.2.1
theorem dX3_fits_36 : decode cX3_fits 36 = .ok (.iaload, 1) := da9_dX3_fits_26.2.2.2.2.2.1
theorem dX3_fits_37 : decode cX3_fits 37 = .ok (.bipush 7, 2) := da9_dX3_fits_26.2.2.2.2.2.2.1
theorem dX3_fits_39 : decode cX3_fits 39 = .ok (.iand, 1) := da9_dX3_fits_26.2.2.2.2.2.2.2.1
theorem dX3_fits_40 : decode cX3_fits 40 = .ok (.iload_n 3, 1) := da9_dX3_fits_26.2.2.2.2.2.2.2.2.1
theorem dX3_fits_41 : decode cX3_fits 41 = .ok (.if_icmp .ne 7, 3) := da9_dX3_fits_26.2.2.2.2.2.2.2.2.2.1
theorem dX3_fits_44 : decode cX3_fits 44 = .ok (.iconst 1, 1) := da9_dX3_fits_26.2.2.2.2.2.2.2.2.2.2.1
theorem dX3_fits_45 : decode cX3_fits 45 = .ok (.goto 4, 3) := da9_dX3_fits_26.2.2.2.2.2.2.2.2.2.2.2.1
theorem dX3_fits_48 : decode cX3_fits 48 = .ok (.iconst 0, 1) := da9_dX3_fits_26.2.2.2.2.2.2.2.2.2.2.2.2.1
theorem dX3_fits_49 : decode cX3_fits 49 = .ok (.ireturn, 1) := da9_dX3_fits_26.2.2.2.2.2.2.2.2.2.2.2.2.2
set_option maxRecDepth 20000 in
theorem ggX9_cheapest_X9_seated : GoodIn wsX9_cheapest wsX9_seated := goodIn_r _ [8, 2, 3, 9, 10, 11, 12, 13, 14, 15, 16, 17, 18, 19, 20, 21, 22, 23, 24, 25, 26, 166, 167, 168, 169, 170, 171, 172, 173, 174, 175, 176, 177, 178, 179, 180, 181, 182, 183, 184, 185, 186, 187, 188, 189, 190, 191, 192, 193, 194, 200, 201, 202] rfl (by decide +kernel)
set_option maxRecDepth 20000 in
theorem gX9_cheapest_X9_seated : GoodIn wsX9_cheapest (wsV RX9 144 RX9 yX9_seated wsX9_seated) := goodIn_app (goodIn_of _ (by decide +kernel)) ggX9_cheapest_X9_seated
set_option maxRecDepth 20000 in
theorem ggX9_cheapest_X9_spread : GoodIn wsX9_cheapest wsX9_spread := goodIn_r _ [30, 1, 3, 31, 32, 33, 34, 35, 36, 37, 38, 39, 40, 41, 42, 43, 44, 45, 46, 47, 48, 49, 50, 51, 52, 53, 54, 55, 56, 57, 58, 59, 60, 61, 62, 63, 64, 65, 66, 67, 68, 7, 69, 70, 71, 72, 73, 74, 75, 76, 77, 78, 79, 80, 81, 82, 83, 84, 85, 86, 87, 88, 89, 90, 91, 92, 93, 94, 95, 96, 97, 98, 99, 100, 23, 101, 26, 102, 103, 104, 105, 106, 107, 108, 109, 25, 110, 111, 112, 113, 114, 115, 116, 117, 118, 119, 120, 121, 122, 123, 124, 125, 126, 127, 128, 129, 130, 131, 132, 133, 134, 135, 166, 167, 168, 169, 170, 171, 172, 173, 174, 175, 176, 177, 178, 179, 180, 181, 182, 183, 184, 185, 186, 187, 188, 189, 190, 191, 192, 193, 194, 195, 196, 197, 198, 199, 203, 204, 205, 206, 207, 208, 209, 210, 211, 212, 213, 214, 215, 216, 217, 218, 219, 220, 221, 222, 200, 201, 202, 223, 224, 225, 226, 227, 228, 229, 230, 231, 232] rfl (by decide +kernel)
set_option maxRecDepth 20000 in
theorem gX9_cheapest_X9_spread : GoodIn wsX9_cheapest (wsV RX9 226 RX9 yX9_spread wsX9_spread) := goodIn_app (goodIn_of _ (by decide +kernel)) ggX9_cheapest_X9_spread
set_option maxRecDepth 20000 in
theorem ggX9_cheapest_X3_leastPaid : GoodIn wsX9_cheapest wsX3_leastPaid := goodIn_r _ [139, 53, 140, 141, 47, 39, 88, 89, 90, 34, 91, 92, 93, 36, 41, 94, 95, 96, 97, 98, 99, 100, 23, 101, 26, 102, 103, 104, 105, 106, 107, 108, 109, 25, 110, 111, 112, 113, 114, 115, 116, 117, 118, 44, 45, 46, 119, 120, 121, 122, 123, 124, 68, 7, 69, 125, 126, 127, 128, 129, 130, 131, 132, 133, 134, 135, 142, 143, 144, 145, 54, 55, 146, 147, 148, 149, 150, 151, 152, 153, 37, 154, 155, 156, 157, 158, 159, 160, 161, 57, 58, 162, 163, 164, 165, 56, 203, 204, 205, 206, 207, 208, 209, 210, 211, 212, 213, 214, 215, 216, 217, 218, 219, 220, 221, 222, 200, 201, 202, 223, 224, 225, 226, 227, 228, 229, 230, 231, 232] rfl (by decide +kernel)
set_option maxRecDepth 20000 in
theorem gX9_cheapest_X3_leastPaid : GoodIn wsX9_cheapest (wsV RX9 243 RX3 yX3_leastPaid wsX3_leastPaid) := goodIn_app (goodIn_of _ (by decide +kernel)) ggX9_cheapest_X3_leastPaid
theorem da9_dX9_cheapest_0 : (decode cX9_cheapest 0 = .ok (.aload_n 0, 1)) ∧ (decode cX9_cheapest 1 = .ok (.aload_n 0, 1)) ∧ (decode cX9_cheapest 2 = .ok (.invokevirtual 144, 3)) ∧ (decode cX9_cheapest 5 = .ok (.invokevirtual 226, 3)) ∧ (decode cX9_cheapest 8 = .ok (.aload_n 0, 1)) ∧ (decode cX9_cheapest 9 = .ok (.getfield 80, 3)) ∧ (decode cX9_cheapest 12 = .ok (.aload_n 0, 1)) ∧ (decode cX9_cheapest 13 = .ok (.getfield 50, 3)) ∧ (decode cX9_cheapest 16 = .ok (.aload_n 0, 1)) ∧ (decode cX9_cheapest 17 = .ok (.getfield 10, 3)) ∧ (decode cX9_cheapest 20 = .ok (.getfield 122, 3)) ∧ (decode cX9_cheapest 23 = .ok (.getfield 240, 3)) ∧ (decode cX9_cheapest 26 = .ok (.invokevirtual 243, 3)) ∧ (decode cX9_cheapest 29 = .ok (.ireturn, 1)) := by decide +kernel
theorem dX9_cheapest_0 : decode cX9_cheapest 0 = .ok (.aload_n 0, 1) := da9_dX9_cheapest_0.1
theorem dX9_cheapest_1 : decode cX9_cheapest 1 = .ok (.aload_n 0, 1) := da9_dX9_cheapest_0.2.1
theorem dX9_cheapest_2 : decode cX9_cheapest 2 = .ok (.invokevirtual 144, 3) := da9_dX9_cheapest_0.2.2.1
theorem dX9_cheapest_5 : decode cX9_cheapest 5 = .ok (.invokevirtual 226, 3) := da9_dX9_cheapest_0.2.2.2.1
theorem dX9_cheapest_8 : decode cX9_cheapest 8 = .ok (.aload_n 0, 1) := da9_dX9_cheapest_0.2.2.2.2.1
theorem dX9_cheapest_9 : decode cX9_cheapest 9 = .ok (.getfield 80, 3) := da9_dX9_cheapest_0.2.2.2.2.2.1
theorem dX9_cheapest_12 : decode cX9_cheapest 12 = .ok (.aload_n 0, 1) := da9_dX9_cheapest_0.2.2.2.2.2.2.1
theorem dX9_cheapest_13 : decode cX9_cheapest 13 = .ok (.getfield 50, 3) := da9_dX9_cheapest_0.2.2.2.2.2.2.2.1
theorem dX9_cheapest_16 : decode cX9_cheapest 16 = .ok (.aload_n 0, 1) := da9_dX9_cheapest_0.2.2.2.2.2.2.2.2.1
theorem dX9_cheapest_17 : decode cX9_cheapest 17 = .ok (.getfield 10, 3) := da9_dX9_cheapest_0.2.2.2.2.2.2.2.2.2.1
theorem dX9_cheapest_20 : decode cX9_cheapest 20 = .ok (.getfield 122, 3) := da9_dX9_cheapest_0.2.2.2.2.2.2.2.2.2.2.1
theorem dX9_cheapest_23 : decode cX9_cheapest 23 = .ok (.getfield 240, 3) := da9_dX9_cheapest_0.2.2.2.2.2.2.2.2.2.2.2.1
theorem dX9_cheapest_26 : decode cX9_cheapest 26 = .ok (.invokevirtual 243, 3) := da9_dX9_cheapest_0.2.2.2.2.2.2.2.2.2.2.2.2.1
theorem dX9_cheapest_29 : decode cX9_cheapest 29 = .ok (.ireturn, 1) := da9_dX9_cheapest_0.2.2.2.2.2.2.2.2.2.2.2.2.2
set_option maxRecDepth 20000 in
theorem ggX9_worst_X9_seated : GoodIn wsX9_worst wsX9_seated := goodIn_r _ [6, 7, 8, 9, 10, 11, 12, 13, 14, 15, 16, 17, 18, 19, 20, 21, 22, 23, 24, 25, 26, 166, 167, 168, 169, 170, 171, 172, 173, 174, 175, 176, 177, 178, 179, 180, 181, 182, 183, 184, 185, 186, 187, 188, 189, 190, 191, 192, 193, 194, 195, 196, 197] rfl (by decide +kernel)
set_option maxRecDepth 20000 in
theorem gX9_worst_X9_seated : GoodIn wsX9_worst (wsV RX9 144 RX9 yX9_seated wsX9_seated) := goodIn_app (goodIn_of _ (by decide +kernel)) ggX9_worst_X9_seated
set_option maxRecDepth 20000 in
theorem ggX9_worst_X9_spread : GoodIn wsX9_worst wsX9_spread := goodIn_r _ [30, 1, 8, 31, 32, 33, 34, 35, 36, 37, 38, 39, 40, 41, 42, 43, 44, 45, 46, 47, 48, 49, 50, 51, 52, 53, 54, 55, 56, 57, 58, 59, 60, 61, 62, 63, 64, 65, 66, 67, 68, 5, 69, 70, 71, 72, 73, 74, 75, 76, 77, 78, 79, 80, 81, 82, 83, 84, 85, 86, 87, 88, 89, 90, 91, 92, 93, 94, 95, 96, 97, 98, 99, 100, 23, 101, 26, 102, 103, 104, 105, 106, 107, 108, 109, 25, 110, 111, 112, 113, 114, 115, 116, 117, 118, 119, 120, 121, 122, 123, 124, 125, 126, 127, 128, 129, 130, 131, 132, 133, 134, 135, 166, 167, 168, 169, 170, 171, 172, 173, 174, 175, 176, 177, 178, 179, 180, 181, 182, 183, 184, 185, 186, 187, 188, 189, 190, 191, 192, 193, 194, 198, 199, 200, 201, 202, 203, 204, 205, 206, 207, 208, 209, 210, 211, 212, 213, 214, 215, 216, 217, 218, 219, 220, 221, 222, 195, 196, 197, 223, 224, 225, 226, 227, 228, 229, 230, 231, 232] rfl (by decide +kernel)
set_option maxRecDepth 20000 in
theorem gX9_worst_X9_spread : GoodIn wsX9_worst (wsV RX9 226 RX9 yX9_spread wsX9_spread) := goodIn_app (goodIn_of _ (by decide +kernel)) ggX9_worst_X9_spread
set_option maxRecDepth 20000 in
theorem ggX9_worst_X3_worstTowers : GoodIn wsX9_worst wsX3_worstTowers := goodIn_r _ [139, 39, 40, 140, 141, 142, 34, 143, 59, 36, 144, 37, 54, 92, 145, 146, 147, 148, 149, 150, 151, 152, 153, 94, 95, 96, 97, 154, 155, 156, 157, 158, 159, 160, 161, 57, 58, 162, 163, 164, 165, 56, 133, 134, 135, 68, 5, 69, 203, 204, 205, 206, 207, 208, 209, 210, 211, 212, 213, 214, 215, 216, 217, 218, 219, 220, 221, 222] rfl (by decide +kernel)
set_option maxRecDepth 20000 in
theorem gX9_worst_X3_worstTowers : GoodIn wsX9_worst (wsV RX9 247 RX3 yX3_worstTowers wsX3_worstTowers) := goodIn_app (goodIn_of _ (by decide +kernel)) ggX9_worst_X3_worstTowers
theorem da9_dX9_worst_0 : (decode cX9_worst 0 = .ok (.iload_n 1, 1)) ∧ (decode cX9_worst 1 = .ok (.ifCond .lt 8, 3)) ∧ (decode cX9_worst 4 = .ok (.iload_n 1, 1)) ∧ (decode cX9_worst 5 = .ok (.iconst 2, 1)) ∧ (decode cX9_worst 6 = .ok (.if_icmp .le 5, 3)) ∧ (decode cX9_worst 9 = .ok (.iconst (-1), 1)) ∧ (decode cX9_worst 10 = .ok (.ireturn, 1)) ∧ (decode cX9_worst 11 = .ok (.aload_n 0, 1)) ∧ (decode cX9_worst 12 = .ok (.aload_n 0, 1)) ∧ (decode cX9_worst 13 = .ok (.invokevirtual 144, 3)) ∧ (decode cX9_worst 16 = .ok (.invokevirtual 226, 3)) ∧ (decode cX9_worst 19 = .ok (.aload_n 0, 1)) ∧ (decode cX9_worst 20 = .ok (.getfield 80, 3)) ∧ (decode cX9_worst 23 = .ok (.iload_n 1, 1)) ∧ (decode cX9_worst 24 = .ok (.invokevirtual 247, 3)) ∧ (decode cX9_worst 27 = .ok (.ireturn, 1)) := by decide +kernel
theorem dX9_worst_0 : decode cX9_worst 0 = .ok (.iload_n 1, 1) := da9_dX9_worst_0.1
theorem dX9_worst_1 : decode cX9_worst 1 = .ok (.ifCond .lt 8, 3) := da9_dX9_worst_0.2.1
theorem dX9_worst_4 : decode cX9_worst 4 = .ok (.iload_n 1, 1) := da9_dX9_worst_0.2.2.1
theorem dX9_worst_5 : decode cX9_worst 5 = .ok (.iconst 2, 1) := da9_dX9_worst_0.2.2.2.1
theorem dX9_worst_6 : decode cX9_worst 6 = .ok (.if_icmp .le 5, 3) := da9_dX9_worst_0.2.2.2.2.1
theorem dX9_worst_9 : decode cX9_worst 9 = .ok (.iconst (-1), 1) := da9_dX9_worst_0.2.2.2.2.2.1
theorem dX9_worst_10 : decode cX9_worst 10 = .ok (.ireturn, 1) := da9_dX9_worst_0.2.2.2.2.2.2.1
theorem dX9_worst_11 : decode cX9_worst 11 = .ok (.aload_n 0, 1) := da9_dX9_worst_0.2.2.2.2.2.2.2.1
theorem dX9_worst_12 : decode cX9_worst 12 = .ok (.aload_n 0, 1) := da9_dX9_worst_0.2.2.2.2.2.2.2.2.1
theorem dX9_worst_13 : decode cX9_worst 13 = .ok (.invokevirtual 144, 3) := da9_dX9_worst_0.2.2.2.2.2.2.2.2.2.1
theorem dX9_worst_16 : decode cX9_worst 16 = .ok (.invokevirtual 226, 3) := da9_dX9_worst_0.2.2.2.2.2.2.2.2.2.2.1
theorem dX9_worst_19 : decode cX9_worst 19 = .ok (.aload_n 0, 1) := da9_dX9_worst_0.2.2.2.2.2.2.2.2.2.2.2.1
theorem dX9_worst_20 : decode cX9_worst 20 = .ok (.getfield 80, 3) := da9_dX9_worst_0.2.2.2.2.2.2.2.2.2.2.2.2.1
theorem dX9_worst_23 : decode cX9_worst 23 = .ok (.iload_n 1, 1) := da9_dX9_worst_0.2.2.2.2.2.2.2.2.2.2.2.2.2.1
theorem dX9_worst_24 : decode cX9_worst 24 = .ok (.invokevirtual 247, 3) := da9_dX9_worst_0.2.2.2.2.2.2.2.2.2.2.2.2.2.2.1
theorem dX9_worst_27 : decode cX9_worst 27 = .ok (.ireturn, 1) := da9_dX9_worst_0.2.2.2.2.2.2.2.2.2.2.2.2.2.2.2
