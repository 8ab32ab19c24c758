set_option maxRecDepth 20000 in
theorem ggX3_askCases_J7_fill_53178 : GoodIn wsX3_askCases wsJ7_fill_53178 := goodIn_r _ [8] rfl (by decide +kernel)
set_option maxRecDepth 20000 in
theorem gX3_askCases_J7_fill_53178 : GoodIn wsX3_askCases (va_wsS RX3 122 yJ7_fill_53178 wsJ7_fill_53178) := goodIn_app (goodIn_of _ (by decide +kernel)) ggX3_askCases_J7_fill_53178
set_option maxRecDepth 20000 in
theorem ggX3_askCases_X1_setCommon : GoodIn wsX3_askCases wsX1_setCommon := goodIn_r _ [13, 14, 77, 78, 79] rfl (by decide +kernel)
set_option maxRecDepth 20000 in
theorem gX3_askCases_X1_setCommon : GoodIn wsX3_askCases (wsV RX3 175 RX1 yX1_setCommon wsX1_setCommon) := goodIn_app (goodIn_of _ (by decide +kernel)) ggX3_askCases_X1_setCommon
set_option maxRecDepth 20000 in
theorem ggX3_askCases_X1_setGrip : GoodIn wsX3_askCases wsX1_setGrip := goodIn_r _ [18, 14, 77, 78, 79] rfl (by decide +kernel)
set_option maxRecDepth 20000 in
theorem gX3_askCases_X1_setGrip : GoodIn wsX3_askCases (wsV RX3 181 RX1 yX1_setGrip wsX1_setGrip) := goodIn_app (goodIn_of _ (by decide +kernel)) ggX3_askCases_X1_setGrip
set_option maxRecDepth 20000 in
theorem ggX3_askCases_X1_anyHolds : GoodIn wsX3_askCases wsX1_anyHolds := goodIn_r _ [22, 23, 24, 14, 25, 26, 27, 28, 29, 30, 31, 32, 33, 34, 35, 36, 37, 38, 39, 40, 41, 77, 78, 79, 80, 81, 82, 83, 84, 85, 86, 87, 88, 89] rfl (by decide +kernel)
set_option maxRecDepth 20000 in
theorem gX3_askCases_X1_anyHolds : GoodIn wsX3_askCases (wsV RX3 185 RX1 yX1_anyHolds wsX1_anyHolds) := goodIn_app (goodIn_of _ (by decide +kernel)) ggX3_askCases_X1_anyHolds
set_option maxRecDepth 20000 in
theorem ggX3_askCases_X9_bit : GoodIn wsX3_askCases wsX9_bit := goodIn_r _ [44] rfl (by decide +kernel)
set_option maxRecDepth 20000 in
theorem gX3_askCases_X9_bit_n133 : GoodIn wsX3_askCases (wsX9_bit) := ggX3_askCases_X9_bit
set_option maxRecDepth 20000 in
theorem ggX3_askCases_X1_pay : GoodIn wsX3_askCases wsX1_pay := goodIn_r _ [48, 23, 14, 24, 49, 33, 34, 35, 50, 51, 52, 25, 26, 27, 28, 29, 30, 31, 32, 36, 37, 38, 39, 40, 41, 77, 78, 79, 80, 81, 82, 83, 84, 85, 86, 87, 88, 89] rfl (by decide +kernel)
set_option maxRecDepth 20000 in
theorem gX3_askCases_X1_pay : GoodIn wsX3_askCases (wsV RX3 188 RX1 yX1_pay wsX1_pay) := goodIn_app (goodIn_of _ (by decide +kernel)) ggX3_askCases_X1_pay
set_option maxRecDepth 20000 in
theorem ggX3_askCases_X3_caseNumber : GoodIn wsX3_askCases wsX3_caseNumber := goodIn_r _ [56] rfl (by decide +kernel)
set_option maxRecDepth 20000 in
theorem gX3_askCases_X3_caseNumber : GoodIn wsX3_askCases (va_wsS RX3 171 yX3_caseNumber wsX3_caseNumber) := goodIn_app (goodIn_of _ (by decide +kernel)) ggX3_askCases_X3_caseNumber
theorem da9_dX3_askCases_0 : (decode cX3_askCases 0 = .ok (.iload_n 3, 1)) ∧ (decode cX3_askCases 1 = .ok (.iconst 1, 1)) ∧ (decode cX3_askCases 2 = .ok (.if_icmp .ne 10, 3)) ∧ (decode cX3_askCases 5 = .ok (.aload_n 0, 1)) ∧ (decode cX3_askCases 6 = .ok (.getfield 18, 3)) ∧ (decode cX3_askCases 9 = .ok (.goto 7, 3)) ∧ (decode cX3_askCases 16 = .ok (.astore 4, 2)) ∧ (decode cX3_askCases 18 = .ok (.aload 4, 2)) ∧ (decode cX3_askCases 20 = .ok (.iconst 0, 1)) ∧ (decode cX3_askCases 21 = .ok (.invokestatic 122, 3)) ∧ (decode cX3_askCases 24 = .ok (.aload_n 1, 1)) ∧ (decode cX3_askCases 25 = .ok (.aload_n 0, 1)) ∧ (decode cX3_askCases 26 = .ok (.getfield 51, 3)) ∧ (decode cX3_askCases 29 = .ok (.iload_n 2, 1)) ∧ (decode cX3_askCases 30 = .ok (.invokevirtual 175, 3)) ∧ (decode cX3_askCases 33 = .ok (.iconst 1, 1)) := by decide +kernel
theorem dX3_askCases_0 : decode cX3_askCases 0 = .ok (.iload_n 3, 1) := da9_dX3_askCases_0.1
theorem dX3_askCases_1 : decode cX3_askCases 1 = .ok (.iconst 1, 1) := da9_dX3_askCases_0.2.1
theorem dX3_askCases_2 : decode cX3_askCases 2 = .ok (.if_icmp .ne 10, 3) := da9_dX3_askCases_0.2.2.1
theorem dX3_askCases_5 : decode cX3_askCases 5 = .ok (.aload_n 0, 1) := da9_dX3_askCases_0.2.2.2.1
theorem dX3_askCases_6 : decode cX3_askCases 6 = .ok (.getfield 18, 3) := da9_dX3_askCases_0.2.2.2.2.1
theorem dX3_askCases_9 : decode cX3_askCases 9 = .ok (.goto 7, 3) := da9_dX3_askCases_0.2.2.2.2.2.1
theorem dX3_askCases_16 : decode cX3_askCases 16 = .ok (.astore 4, 2) := da9_dX3_askCases_0.2.2.2.2.2.2.1
theorem dX3_askCases_18 : decode cX3_askCases 18 = .ok (.aload 4, 2) := da9_dX3_askCases_0.2.2.2.2.2.2.2.1
theorem dX3_askCases_20 : decode cX3_askCases 20 = .ok (.iconst 0, 1) := da9_dX3_askCases_0.2.2.2.2.2.2.2.2.1
theorem dX3_askCases_21 : decode cX3_askCases 21 = .ok (.invokestatic 122, 3) := da9_dX3_askCases_0.2.2.2.2.2.2.2.2.2.1
theorem dX3_askCases_24 : decode cX3_askCases 24 = .ok (.aload_n 1, 1) := da9_dX3_askCases_0.2.2.2.2.2.2.2.2.2.2.1
theorem dX3_askCases_25 : decode cX3_askCases 25 = .ok (.aload_n 0, 1) := da9_dX3_askCases_0.2.2.2.2.2.2.2.2.2.2.2.1
theorem dX3_askCases_26 : decode cX3_askCases 26 = .ok (.getfield 51, 3) := da9_dX3_askCases_0.2.2.2.2.2.2.2.2.2.2.2.2.1
theorem dX3_askCases_29 : decode cX3_askCases 29 = .ok (.iload_n 2, 1) := da9_dX3_askCases_0.2.2.2.2.2.2.2.2.2.2.2.2.2.1
theorem dX3_askCases_30 : decode cX3_askCases 30 = .ok (.invokevirtual 175, 3) := da9_dX3_askCases_0.2.2.2.2.2.2.2.2.2.2.2.2.2.2.1
theorem dX3_askCases_33 : decode cX3_askCases 33 = .ok (.iconst 1, 1) := da9_dX3_askCases_0.2.2.2.2.2.2.2.2.2.2.2.2.2.2.2
theorem da9_dX3_askCases_34 : (decode cX3_askCases 34 = .ok (.istore 5, 2)) ∧ (decode cX3_askCases 36 = .ok (.iload 5, 2)) ∧ (decode cX3_askCases 38 = .ok (.aload_n 0, 1)) ∧ (decode cX3_askCases 39 = .ok (.getfield 51, 3)) ∧ (decode cX3_askCases 42 = .ok (.if_icmp .gt 173, 3)) ∧ (decode cX3_askCases 45 = .ok (.iconst 0, 1)) ∧ (decode cX3_askCases 46 = .ok (.istore 6, 2)) ∧ (decode cX3_askCases 48 = .ok (.iload 6, 2)) ∧ (decode cX3_askCases 50 = .ok (.aload_n 0, 1)) ∧ (decode cX3_askCases 51 = .ok (.getfield 51, 3)) ∧ (decode cX3_askCases 54 = .ok (.if_icmp .ge 155, 3)) ∧ (decode cX3_askCases 57 = .ok (.iload 5, 2)) ∧ (decode cX3_askCases 59 = .ok (.aload_n 0, 1)) ∧ (decode cX3_askCases 60 = .ok (.getfield 51, 3)) ∧ (decode cX3_askCases 63 = .ok (.if_icmp .ge 7, 3)) ∧ (decode cX3_askCases 66 = .ok (.iconst 0, 1)) := by decide +kernel
theorem dX3_askCases_34 : decode cX3_askCases 34 = .ok (.istore 5, 2) := da9_dX3_askCases_34.1
theorem dX3_askCases_36 : decode cX3_askCases 36 = .ok (.iload 5, 2) := da9_dX3_askCases_34.2.1
theorem dX3_askCases_38 : decode cX3_askCases 38 = .ok (.aload_n 0, 1) := da9_dX3_askCases_34.2.2.1
theorem dX3_askCases_39 : decode cX3_askCases 39 = .ok (.getfield 51, 3) := da9_dX3_askCases_34.2.2.2.1
theorem dX3_askCases_42 : decode cX3_askCases 42 = .ok (.if_icmp .gt 173, 3) := da9_dX3_askCases_34.2.2.2.2.1
theorem dX3_askCases_45 : decode cX3_askCases 45 = .ok (.iconst 0, 1) := da9_dX3_askCases_34.2.2.2.2.2.1
theorem dX3_askCases_46 : decode cX3_askCases 46 = .ok (.istore 6, 2) := da9_dX3_askCases_34.2.2.2.2.2.2.1
theorem dX3_askCases_48 : decode cX3_askCases 48 = .ok (.iload 6, 2) := da9_dX3_askCases_34.2.2.2.2.2.2.2.1
theorem dX3_askCases_50 : decode cX3_askCases 50 = .ok (.aload_n 0, 1) := da9_dX3_askCases_34.2.2.2.2.2.2.2.2.1
theorem dX3_askCases_51 : decode cX3_askCases 51 = .ok (.getfield 51, 3) := da9_dX3_askCases_34.2.2.2.2.2.2.2.2.2.1
theorem dX3_askCases_54 : decode cX3_askCases 54 = .ok (.if_icmp .ge 155, 3) := da9_dX3_askCases_34.2.2.2.2.2.2.2.2.2.2.1
theorem dX3_askCases_57 : decode cX3_askCases 57 = .ok (.iload 5, 2) := da9_dX3_askCases_34.2.2.2.2.2.2.2.2.2.2.2.1
theorem dX3_askCases_59 : decode cX3_askCases 59 = .ok (.aload_n 0, 1) := da9_dX3_askCases_34.2.2.2.2.2.2.2.2.2.2.2.2.1
theorem dX3_askCases_60 : decode cX3_askCases 60 = .ok (.getfield 51, 3) := da9_dX3_askCases_34.2.2.2.2.2.2.2.2.2.2.2.2.2.1
theorem dX3_askCases_63 : decode cX3_askCases 63 = .ok (.if_icmp .ge 7, 3) := da9_dX3_askCases_34.2.2.2.2.2.2.2.2.2.2.2.2.2.2.1
theorem dX3_askCases_66 : decode cX3_askCases 66 = .ok (.iconst 0, 1) := da9_dX3_askCases_34.2.2.2.2.2.2.2.2.2.2.2.2.2.2.2
theorem da9_dX3_askCases_67 : (decode cX3_askCases 67 = .ok (.goto 5, 3)) ∧ (decode cX3_askCases 70 = .ok (.bipush 6, 2)) ∧ (decode cX3_askCases 72 = .ok (.istore 7, 2)) ∧ (decode cX3_askCases 74 = .ok (.iload 5, 2)) ∧ (decode cX3_askCases 76 = .ok (.aload_n 0, 1)) ∧ (decode cX3_askCases 77 = .ok (.getfield 51, 3)) ∧ (decode cX3_askCases 80 = .ok (.if_icmp .ge 12, 3)) ∧ (decode cX3_askCases 83 = .ok (.aload_n 0, 1)) ∧ (decode cX3_askCases 84 = .ok (.getfield 51, 3)) ∧ (decode cX3_askCases 87 = .ok (.iconst 1, 1)) ∧ (decode cX3_askCases 88 = .ok (.isub, 1)) ∧ (decode cX3_askCases 89 = .ok (.goto 5, 3)) ∧ (decode cX3_askCases 92 = .ok (.bipush 6, 2)) ∧ (decode cX3_askCases 94 = .ok (.istore 8, 2)) ∧ (decode cX3_askCases 96 = .ok (.iload 7, 2)) ∧ (decode cX3_askCases 98 = .ok (.istore 9, 2)) := by decide +kernel
theorem dX3_askCases_67 : decode cX3_askCases 67 = .ok (.goto 5, 3) := da9_dX3_askCases_67.1
theorem dX3_askCases_70 : decode cX3_askCases 70 = .ok (.bipush 6, 2) := da9_dX3_askCases_67.2.1
theorem dX3_askCases_72 : decode cX3_askCases 72 = .ok (.istore 7, 2) := da9_dX3_askCases_67.2.2.1
theorem dX3_askCases_74 : decode cX3_askCases 74 = .ok (.iload 5, 2) := da9_dX3_askCases_67.2.2.2.1
theorem dX3_askCases_76 : decode cX3_askCases 76 = .ok (.aload_n 0, 1) := da9_dX3_askCases_67.2.2.2.2.1
theorem dX3_askCases_77 : decode cX3_askCases 77 = .ok (.getfield 51, 3) := da9_dX3_askCases_67.2.2.2.2.2.1
theorem dX3_askCases_80 : decode cX3_askCases 80 = .ok (.if_icmp .ge 12, 3) := da9_dX3_askCases_67.2.2.2.2.2.2.1
theorem dX3_askCases_83 : decode cX3_askCases 83 = .ok (.aload_n 0, 1) := da9_dX3_askCases_67.2.2.2.2.2.2.2.1
theorem dX3_askCases_84 : decode cX3_askCases 84 = .ok (.getfield 51, 3) := da9_dX3_askCases_67.2.2.2.2.2.2.2.2.1
theorem dX3_askCases_87 : decode cX3_askCases 87 = .ok (.iconst 1, 1) := da9_dX3_askCases_67.2.2.2.2.2.2.2.2.2.1
theorem dX3_askCases_88 : decode cX3_askCases 88 = .ok (.isub, 1) := da9_dX3_askCases_67.2.2.2.2.2.2.2.2.2.2.1
theorem dX3_askCases_89 : decode cX3_askCases 89 = .ok (.goto 5, 3) := da9_dX3_askCases_67.2.2.2.2.2.2.2.2.2.2.2.1
theorem dX3_askCases_92 : decode cX3_askCases 92 = .ok (.bipush 6, 2) := da9_dX3_askCases_67.2.2.2.2.2.2.2.2.2.2.2.2.1
theorem dX3_askCases_94 : decode cX3_askCases 94 = .ok (.istore 8, 2) := da9_dX3_askCases_67.2.2.2.2.2.2.2.2.2.2.2.2.2.1
theorem dX3_askCases_96 : decode cX3_askCases 96 = .ok (.iload 7, 2) := da9_dX3_askCases_67.2.2.2.2.2.2.2.2.2.2.2.2.2.2.1
theorem dX3_askCases_98 : decode cX3_askCases 98 = .ok (.istore 9, 2) := da9_dX3_askCases_67.2.2.2.2.2.2.2.2.2.2.2.2.2.2.2
theorem da9_dX3_askCases_100 : (decode cX3_askCases 100 = .ok (.iload 9, 2)) ∧ (decode cX3_askCases 102 = .ok (.iload 8, 2)) ∧ (decode cX3_askCases 104 = .ok (.if_icmp .gt 99, 3)) ∧ (decode cX3_askCases 107 = .ok (.iload 9, 2)) ∧ (decode cX3_askCases 109 = .ok (.bipush 6, 2)) ∧ (decode cX3_askCases 111 = .ok (.if_icmp .ne 7, 3)) ∧ (decode cX3_askCases 114 = .ok (.iconst (-1), 1)) ∧ (decode cX3_askCases 115 = .ok (.goto 10, 3)) ∧ (decode cX3_askCases 118 = .ok (.aload_n 0, 1)) ∧ (decode cX3_askCases 119 = .ok (.getfield 9, 3)) ∧ (decode cX3_askCases 122 = .ok (.iload 9, 2)) ∧ (decode cX3_askCases 124 = .ok (.iaload, 1)) ∧ (decode cX3_askCases 125 = .ok (.istore 10, 2)) ∧ (decode cX3_askCases 127 = .ok (.iconst 0, 1)) ∧ (decode cX3_askCases 128 = .ok (.istore 11, 2)) ∧ (decode cX3_askCases 130 = .ok (.iload 11, 2)) := by decide +kernel
theorem dX3_askCases_100 : decode cX3_askCases 100 = .ok (.iload 9, 2) := da9_dX3_askCases_100.1
theorem dX3_askCases_102 : decode cX3_askCases 102 = .ok (.iload 8, 2) := da9_dX3_askCases_100.2.1
theorem dX3_askCases_104 : decode cX3_askCases 104 = .ok (.if_icmp .gt 99, 3) := da9_dX3_askCases_100.2.2.1
theorem dX3_askCases_107 : decode cX3_askCases 107 = .ok (.iload 9, 2) := da9_dX3_askCases_100.2.2.2.1
theorem dX3_askCases_109 : decode cX3_askCases 109 = .ok (.bipush 6, 2) := da9_dX3_askCases_100.2.2.2.2.1
theorem dX3_askCases_111 : decode cX3_askCases 111 = .ok (.if_icmp .ne 7, 3) := da9_dX3_askCases_100.2.2.2.2.2.1
theorem dX3_askCases_114 : decode cX3_askCases 114 = .ok (.iconst (-1), 1) := da9_dX3_askCases_100.2.2.2.2.2.2.1
theorem dX3_askCases_115 : decode cX3_askCases 115 = .ok (.goto 10, 3) := da9_dX3_askCases_100.2.2.2.2.2.2.2.1
theorem dX3_askCases_118 : decode cX3_askCases 118 = .ok (.aload_n 0, 1) := da9_dX3_askCases_100.2.2.2.2.2.2.2.2.1
theorem dX3_askCases_119 : decode cX3_askCases 119 = .ok (.getfield 9, 3) := da9_dX3_askCases_100.2.2.2.2.2.2.2.2.2.1
theorem dX3_askCases_122 : decode cX3_askCases 122 = .ok (.iload 9, 2) := da9_dX3_askCases_100.2.2.2.2.2.2.2.2.2.2.1
theorem dX3_askCases_124 : decode cX3_askCases 124 = .ok (.iaload, 1) := da9_dX3_askCases_100.2.2.2.2.2.2.2.2.2.2.2.1
theorem dX3_askCases_125 : decode cX3_askCases 125 = .ok (.istore 10, 2) := da9_dX3_askCases_100.2.2.2.2.2.2.2.2.2.2.2.2.1
theorem dX3_askCases_127 : decode cX3_askCases 127 = .ok (.iconst 0, 1) := da9_dX3_askCases_100.2.2.2.2.2.2.2.2.2.2.2.2.2.1
theorem dX3_askCases_128 : decode cX3_askCases 128 = .ok (.istore 11, 2) := da9_dX3_askCases_100.2.2.2.2.2.2.2.2.2.2.2.2.2.2.1
theorem dX3_askCases_130 : decode cX3_askCases 130 = .ok (.iload 11, 2) := da9_dX3_askCases_100.2.2.2.2.2.2.2.2.2.2.2.2.2.2.2
theorem da9_dX3_askCases_132 : (decode cX3_askCases 132 = .ok (.iconst 2, 1)) ∧ (decode cX3_askCases 133 = .ok (.if_icmp .ge 64, 3)) ∧ (decode cX3_askCases 136 = .ok (.aload_n 1, 1)) ∧ (decode cX3_askCases 137 = .ok (.iload 5, 2)) ∧ (decode cX3_askCases 139 = .ok (.aload_n 0, 1)) ∧ (decode cX3_askCases 140 = .ok (.getfield 9, 3)) ∧ (decode cX3_askCases 143 = .ok (.iload 6, 2)) ∧ (decode cX3_askCases 145 = .ok (.iaload, 1)) ∧ (decode cX3_askCases 146 = .ok (.iload 10, 2)) ∧ (decode cX3_askCases 148 = .ok (.iload 11, 2)) ∧ (decode cX3_askCases 150 = .ok (.invokevirtual 181, 3)) ∧ (decode cX3_askCases 153 = .ok (.iload_n 3, 1)) ∧ (decode cX3_askCases 154 = .ok (.iconst 1, 1)) ∧ (decode cX3_askCases 155 = .ok (.if_icmp .ne 14, 3)) ∧ (decode cX3_askCases 158 = .ok (.aload_n 1, 1)) ∧ (decode cX3_askCases 159 = .ok (.iconst 1, 1)) := by decide +kernel
theorem dX3_askCases_132 : decode cX3_askCases 132 = .ok (.iconst 2, 1) := da9_dX3_askCases_132.1
theorem dX3_askCases_133 : decode cX3_askCases 133 = .ok (.if_icmp .ge 64, 3) := da9_dX3_askCases_132.2.1
theorem dX3_askCases_136 : decode cX3_askCases 136 = .ok (.aload_n 1, 1) := da9_dX3_askCases_132.2.2.1
theorem dX3_askCases_137 : decode cX3_askCases 137 = .ok (.iload 5, 2) := da9_dX3_askCases_132.2.2.2.1
theorem dX3_askCases_139 : decode cX3_askCases 139 = .ok (.aload_n 0, 1) := da9_dX3_askCases_132.2.2.2.2.1
theorem dX3_askCases_140 : decode cX3_askCases 140 = .ok (.getfield 9, 3) := da9_dX3_askCases_132.2.2.2.2.2.1
theorem dX3_askCases_143 : decode cX3_askCases 143 = .ok (.iload 6, 2) := da9_dX3_askCases_132.2.2.2.2.2.2.1
theorem dX3_askCases_145 : decode cX3_askCases 145 = .ok (.iaload, 1) := da9_dX3_askCases_132.2.2.2.2.2.2.2.1
theorem dX3_askCases_146 : decode cX3_askCases 146 = .ok (.iload 10, 2) := da9_dX3_askCases_132.2.2.2.2.2.2.2.2.1
theorem dX3_askCases_148 : decode cX3_askCases 148 = .ok (.iload 11, 2) := da9_dX3_askCases_132.2.2.2.2.2.2.2.2.2.1
theorem dX3_askCases_150 : decode cX3_askCases 150 = .ok (.invokevirtual 181, 3) := da9_dX3_askCases_132.2.2.2.2.2.2.2.2.2.2.1
theorem dX3_askCases_153 : decode cX3_askCases 153 = .ok (.iload_n 3, 1) := da9_dX3_askCases_132.2.2.2.2.2.2.2.2.2.2.2.1
theorem dX3_askCases_154 : decode cX3_askCases 154 = .ok (.iconst 1, 1) := da9_dX3_askCases_132.2.2.2.2.2.2.2.2.2.2.2.2.1
theorem dX3_askCases_155 : decode cX3_askCases 155 = .ok (.if_icmp .ne 14, 3) := da9_dX3_askCases_132.2.2.2.2.2.2.2.2.2.2.2.2.2.1
theorem dX3_askCases_158 : decode cX3_askCases 158 = .ok (.aload_n 1, 1) := da9_dX3_askCases_132.2.2.2.2.2.2.2.2.2.2.2.2.2.2.1
theorem dX3_askCases_159 : decode cX3_askCases 159 = .ok (.iconst 1, 1) := da9_dX3_askCases_132.2.2.2.2.2.2.2.2.2.2.2.2.2.2.2
theorem da9_dX3_askCases_160 : (decode cX3_askCases 160 = .ok (.invokevirtual 185, 3)) ∧ (decode cX3_askCases 163 = .ok (.invokestatic 133, 3)) ∧ (decode cX3_askCases 166 = .ok (.goto 7, 3)) ∧ (decode cX3_askCases 169 = .ok (.aload_n 1, 1)) ∧ (decode cX3_askCases 170 = .ok (.invokevirtual 188, 3)) ∧ (decode cX3_askCases 173 = .ok (.istore 12, 2)) ∧ (decode cX3_askCases 175 = .ok (.aload 4, 2)) ∧ (decode cX3_askCases 177 = .ok (.iload 5, 2)) ∧ (decode cX3_askCases 179 = .ok (.iload 6, 2)) ∧ (decode cX3_askCases 181 = .ok (.iload 9, 2)) ∧ (decode cX3_askCases 183 = .ok (.iload 11, 2)) ∧ (decode cX3_askCases 185 = .ok (.invokestatic 171, 3)) ∧ (decode cX3_askCases 188 = .ok (.iload 12, 2)) ∧ (decode cX3_askCases 190 = .ok (.iastore, 1)) ∧ (decode cX3_askCases 191 = .ok (.iinc 11 1, 3)) ∧ (decode cX3_askCases 194 = .ok (.goto (-64), 3)) := by decide +kernel
theorem dX3_askCases_160 : decode cX3_askCases 160 = .ok (.invokevirtual 185, 3) := da9_dX3_askCases_160.1
theorem dX3_askCases_163 : decode cX3_askCases 163 = .ok (.invokestatic 133, 3) := da9_dX3_askCases_160.2.1
theorem dX3_askCases_166 : decode cX3_askCases 166 = .ok (.goto 7, 3) := da9_dX3_askCases_160.2.2.1
theorem dX3_askCases_169 : decode cX3_askCases 169 = .ok (.aload_n 1, 1) := da9_dX3_askCases_160.2.2.2.1
theorem dX3_askCases_170 : decode cX3_askCases 170 = .ok (.invokevirtual 188, 3) := da9_dX3_askCases_160.2.2.2.2.1
theorem dX3_askCases_173 : decode cX3_askCases 173 = .ok (.istore 12, 2) := da9_dX3_askCases_160.2.2.2.2.2.1
theorem dX3_askCases_175 : decode cX3_askCases 175 = .ok (.aload 4, 2) := da9_dX3_askCases_160.2.2.2.2.2.2.1
theorem dX3_askCases_177 : decode cX3_askCases 177 = .ok (.iload 5, 2) := da9_dX3_askCases_160.2.2.2.2.2.2.2.1
theorem dX3_askCases_179 : decode cX3_askCases 179 = .ok (.iload 6, 2) := da9_dX3_askCases_160.2.2.2.2.2.2.2.2.1
theorem dX3_askCases_181 : decode cX3_askCases 181 = .ok (.iload 9, 2) := da9_dX3_askCases_160.2.2.2.2.2.2.2.2.2.1
theorem dX3_askCases_183 : decode cX3_askCases 183 = .ok (.iload 11, 2) := da9_dX3_askCases_160.2.2.2.2.2.2.2.2.2.2.1
theorem dX3_askCases_185 : decode cX3_askCases 185 = .ok (.invokestatic 171, 3) := da9_dX3_askCases_160.2.2.2.2.2.2.2.2.2.2.2.1
theorem dX3_askCases_188 : decode cX3_askCases 188 = .ok (.iload 12, 2) := da9_dX3_askCases_160.2.2.2.2.2.2.2.2.2.2.2.2.1
theorem dX3_askCases_190 : decode cX3_askCases 190 = .ok (.iastore, 1) := da9_dX3_askCases_160.2.2.2.2.2.2.2.2.2.2.2.2.2.1
theorem dX3_askCases_191 : decode cX3_askCases 191 = .ok (.iinc 11 1, 3) := da9_dX3_askCases_160.2.2.2.2.2.2.2.2.2.2.2.2.2.2.1
theorem dX3_askCases_194 : decode cX3_askCases 194 = .ok (.goto (-64), 3) := da9_dX3_askCases_160.2.2.2.2.2.2.2.2.2.2.2.2.2.2.2
theorem da9_dX3_askCases_197 : (decode cX3_askCases 197 = .ok (.iinc 9 1, 3)) ∧ (decode cX3_askCases 200 = .ok (.goto (-100), 3)) ∧ (decode cX3_askCases 203 = .ok (.iinc 6 1, 3)) ∧ (decode cX3_askCases 206 = .ok (.goto (-158), 3)) ∧ (decode cX3_askCases 209 = .ok (.iinc 5 1, 3)) ∧ (decode cX3_askCases 212 = .ok (.goto (-176), 3)) ∧ (decode cX3_askCases 215 = .ok (.return_, 1)) := by decide +kernel
theorem dX3_askCases_197 : decode cX3_askCases 197 = .ok (.iinc 9 1, 3) := da9_dX3_askCases_197.1
theorem dX3_askCases_200 : decode cX3_askCases 200 = .ok (.goto (-100), 3) := da9_dX3_askCases_197.2.1
theorem dX3_askCases_203 : decode cX3_askCases 203 = .ok (.iinc 6 1, 3) := da9_dX3_askCases_197.2.2.1
theorem dX3_askCases_206 : decode cX3_askCases 206 = .ok (.goto (-158), 3) := da9_dX3_askCases_197.2.2.2.1
theorem dX3_askCases_209 : decode cX3_askCases 209 = .ok (.iinc 5 1, 3) := da9_dX3_askCases_197.2.2.2.2.1
theorem dX3_askCases_212 : decode cX3_askCases 212 = .ok (.goto (-176), 3) := da9_dX3_askCases_197.2.2.2.2.2.1
theorem dX3_askCases_215 : decode cX3_askCases 215 = .ok (.return_, 1) := da9_dX3_askCases_197.2.2.2.2.2.2
theorem da9_dX3_indexOfRank_0 : (decode cX3_indexOfRank 0 = .ok (.iconst 0, 1)) ∧ (decode cX3_indexOfRank 1 = .ok (.istore_n 2, 1)) ∧ (decode cX3_indexOfRank 2 = .ok (.iload_n 2, 1)) ∧ (decode cX3_indexOfRank 3 = .ok (.aload_n 0, 1)) ∧ (decode cX3_indexOfRank 4 = .ok (.getfield 51, 3)) ∧ (decode cX3_indexOfRank 7 = .ok (.if_icmp .ge 21, 3)) ∧ (decode cX3_indexOfRank 10 = .ok (.aload_n 0, 1)) ∧ (decode cX3_indexOfRank 11 = .ok (.getfield 9, 3)) ∧ (decode cX3_indexOfRank 14 = .ok (.iload_n 2, 1)) ∧ (decode cX3_indexOfRank 15 = .ok (.iaload, 1)) ∧ (decode cX3_indexOfRank 16 = .ok (.iload_n 1, 1)) ∧ (decode cX3_indexOfRank 17 = .ok (.if_icmp .ne 5, 3)) ∧ (decode cX3_indexOfRank 20 = .ok (.iload_n 2, 1)) ∧ (decode cX3_indexOfRank 21 = .ok (.ireturn, 1)) ∧ (decode cX3_indexOfRank 22 = .ok (.iinc 2 1, 3)) ∧ (decode cX3_indexOfRank 25 = .ok (.goto (-23), 3)) := by decide +kernel
theorem dX3_indexOfRank_0 : decode cX3_indexOfRank 0 = .ok (.iconst 0, 1) := da9_dX3_indexOfRank_0.1
theorem dX3_indexOfRank_1 : decode cX3_indexOfRank 1 = .ok (.istore_n 2, 1) := da9_dX3_indexOfRank_0.2.1
theorem dX3_indexOfRank_2 : decode cX3_indexOfRank 2 = .ok (.iload_n 2, 1) := da9_dX3_indexOfRank_0.2.2.1
theorem dX3_indexOfRank_3 : decode cX3_indexOfRank 3 = .ok (.aload_n 0, 1) := da9_dX3_indexOfRank_0.2.2.2.1
theorem dX3_indexOfRank_4 : decode cX3_indexOfRank 4 = .ok (.getfield 51, 3) := da9_dX3_indexOfRank_0.2.2.2.2.1
theorem dX3_indexOfRank_7 : decode cX3_indexOfRank 7 = .ok (.if_icmp .ge 21, 3) := da9_dX3_indexOfRank_0.2.2.2.2.2.1
theorem dX3_indexOfRank_10 : decode cX3_indexOfRank 10 = .ok (.aload_n 0, 1) := da9_dX3_indexOfRank_0.2.2.2.2.2.2.1
theorem dX3_indexOfRank_11 : decode cX3_indexOfRank 11 = .ok (.getfield 9, 3) := da9_dX3_indexOfRank_0.2.2.2.2.2.2.2.1
theorem dX3_indexOfRank_14 : decode cX3_indexOfRank 14 = .ok (.iload_n 2, 1) := da9_dX3_indexOfRank_0.2.2.2.2.2.2.2.2.1
theorem dX3_indexOfRank_15 : decode cX3_indexOfRank 15 = .ok (.iaload, 1) := da9_dX3_indexOfRank_0.2.2.2.2.2.2.2.2.2.1
theorem dX3_indexOfRank_16 : decode cX3_indexOfRank 16 = .ok (.iload_n 1, 1) := da9_dX3_indexOfRank_0.2.2.2.2.2.2.2.2.2.2.1
theorem dX3_indexOfRank_17 : decode cX3_indexOfRank 17 = .ok (.if_icmp .ne 5, 3) := da9_dX3_indexOfRank_0.2.2.2.2.2.2.2.2.2.2.2.1
theorem dX3_indexOfRank_20 : decode cX3_indexOfRank 20 = .ok (.iload_n 2, 1) := da9_dX3_indexOfRank_0.2.2.2.2.2.2.2.2.2.2.2.2.1
theorem dX3_indexOfRank_21 : decode cX3_indexOfRank 21 = .ok (.ireturn, 1) := da9_dX3_indexOfRank_0.2.2.2.2.2.2.2.2.2.2.2.2.2.1
theorem dX3_indexOfRank_22 : decode cX3_indexOfRank 22 = .ok (.iinc 2 1, 3) := da9_dX3_indexOfRank_0.2.2.2.2.2.2.2.2.2.2.2.2.2.2.1
theorem dX3_indexOfRank_25 : decode cX3_indexOfRank 25 = .ok (.goto (-23), 3) := da9_dX3_indexOfRank_0.2.2.2.2.2.2.2.2.2.2.2.2.2.2.2
theorem da9_dX3_indexOfRank_28 : (decode cX3_indexOfRank 28 = .ok (.iconst (-1), 1)) ∧ (decode cX3_indexOfRank 29 = .ok (.ireturn, 1)) := by decide +kernel
theorem dX3_indexOfRank_28 : decode cX3_indexOfRank 28 = .ok (.iconst (-1), 1) := da9_dX3_indexOfRank_28.1
theorem dX3_indexOfRank_29 : decode cX3_indexOfRank 29 = .ok (.ireturn, 1) := da9_dX3_indexOfRank_28.2
