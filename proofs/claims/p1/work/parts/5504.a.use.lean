set_option maxRecDepth 20000 in
theorem ggX3_lay_X3_makeRoom : GoodIn wsX3_lay wsX3_makeRoom := goodIn_r _ [17, 4, 18, 5, 19, 20, 21, 3, 1, 22, 23, 24, 25, 26, 27, 28, 16, 29, 7, 30, 31, 32, 33, 34, 35, 36, 37, 38, 39, 40, 41, 42, 43, 111, 112, 113, 114, 115, 116, 117, 118, 119, 120, 121, 122, 123, 124, 125, 126, 127, 128, 129, 130] rfl (by decide +kernel)
set_option maxRecDepth 20000 in
theorem gX3_lay_X3_makeRoom : GoodIn wsX3_lay (wsV RX3 79 RX3 yX3_makeRoom wsX3_makeRoom) := goodIn_app (goodIn_of _ (by decide +kernel)) ggX3_lay_X3_makeRoom
set_option maxRecDepth 20000 in
theorem ggX3_lay_X8_has : GoodIn wsX3_lay wsX8_has := goodIn_r _ [48, 49, 50, 106, 107, 108, 109, 110] rfl (by decide +kernel)
set_option maxRecDepth 20000 in
theorem gX3_lay_X8_has : GoodIn wsX3_lay (wsV RX3 82 RX8 yX8_has wsX8_has) := goodIn_app (goodIn_of _ (by decide +kernel)) ggX3_lay_X8_has
set_option maxRecDepth 20000 in
theorem ggX3_lay_X3_numberOfOrder : GoodIn wsX3_lay wsX3_numberOfOrder := goodIn_r _ [40, 7, 3, 34, 35, 36, 111, 112, 113, 114, 115, 116, 117, 118, 119, 120, 121, 122, 123, 124, 125, 126, 127, 128, 129, 130] rfl (by decide +kernel)
set_option maxRecDepth 20000 in
theorem gX3_lay_X3_numberOfOrder : GoodIn wsX3_lay (wsV RX3 96 RX3 yX3_numberOfOrder wsX3_numberOfOrder) := goodIn_app (goodIn_of _ (by decide +kernel)) ggX3_lay_X3_numberOfOrder
set_option maxRecDepth 20000 in
theorem ggX3_lay_X3_askCases : GoodIn wsX3_lay wsX3_askCases := goodIn_r _ [58, 59, 60, 1, 6, 61, 62, 63, 64, 65, 66, 67, 68, 69, 70, 71, 72, 73, 74, 75, 76, 77, 78, 79, 80, 81, 82, 83, 84, 85, 86, 87, 88, 9, 10, 11, 89, 90, 91, 92, 93, 94, 34, 35, 36, 95, 96, 97, 98, 99, 100, 101, 102, 103, 104, 16, 105, 111, 112, 113, 114, 115, 116, 117, 118, 119, 120, 121, 122, 123, 124, 125, 126, 127, 128, 129, 130, 131, 132, 133, 134, 135, 136, 137, 138, 139, 140, 141, 142, 143] rfl (by decide +kernel)
set_option maxRecDepth 20000 in
theorem gX3_lay_X3_askCases : GoodIn wsX3_lay (wsV RX3 109 RX3 yX3_askCases wsX3_askCases) := goodIn_app (goodIn_of _ (by decide +kernel)) ggX3_lay_X3_askCases
theorem dX3_lay_0 : decode cX3_lay 0 = .ok (.aload_n 0, 1) := by decide +kernel
theorem dX3_lay_1 : decode cX3_lay 1 = .ok (.aload_n 1, 1) := by decide +kernel
theorem dX3_lay_2 : decode cX3_lay 2 = .ok (.getfield 73, 3) := by decide +kernel
theorem dX3_lay_5 : decode cX3_lay 5 = .ok (.putfield 51, 3) := by decide +kernel
theorem dX3_lay_8 : decode cX3_lay 8 = .ok (.aload_n 0, 1) := by decide +kernel
theorem dX3_lay_9 : decode cX3_lay 9 = .ok (.iload_n 3, 1) := by decide +kernel
theorem dX3_lay_10 : decode cX3_lay 10 = .ok (.putfield 61, 3) := by decide +kernel
theorem dX3_lay_13 : decode cX3_lay 13 = .ok (.aload_n 0, 1) := by decide +kernel
theorem dX3_lay_14 : decode cX3_lay 14 = .ok (.getstatic 76, 3) := by decide +kernel
theorem dX3_lay_17 : decode cX3_lay 17 = .ok (.aload_n 0, 1) := by decide +kernel
theorem dX3_lay_18 : decode cX3_lay 18 = .ok (.getfield 51, 3) := by decide +kernel
theorem dX3_lay_21 : decode cX3_lay 21 = .ok (.iaload, 1) := by decide +kernel
theorem dX3_lay_22 : decode cX3_lay 22 = .ok (.aload_n 0, 1) := by decide +kernel
theorem dX3_lay_23 : decode cX3_lay 23 = .ok (.getfield 51, 3) := by decide +kernel
theorem dX3_lay_26 : decode cX3_lay 26 = .ok (.ishl, 1) := by decide +kernel
theorem dX3_lay_27 : decode cX3_lay 27 = .ok (.putfield 55, 3) := by decide +kernel
theorem dX3_lay_30 : decode cX3_lay 30 = .ok (.aload_n 0, 1) := by decide +kernel
theorem dX3_lay_31 : decode cX3_lay 31 = .ok (.getfield 55, 3) := by decide +kernel
theorem dX3_lay_34 : decode cX3_lay 34 = .ok (.aload_n 0, 1) := by decide +kernel
theorem dX3_lay_35 : decode cX3_lay 35 = .ok (.getfield 39, 3) := by decide +kernel
theorem dX3_lay_38 : decode cX3_lay 38 = .ok (.arraylength, 1) := by decide +kernel
theorem dX3_lay_39 : decode cX3_lay 39 = .ok (.if_icmp .le 7, 3) := by decide +kernel
theorem dX3_lay_42 : decode cX3_lay 42 = .ok (.aload_n 0, 1) := by decide +kernel
theorem dX3_lay_43 : decode cX3_lay 43 = .ok (.invokevirtual 79, 3) := by decide +kernel
theorem dX3_lay_46 : decode cX3_lay 46 = .ok (.iconst 0, 1) := by decide +kernel
theorem dX3_lay_47 : decode cX3_lay 47 = .ok (.istore 4, 2) := by decide +kernel
theorem dX3_lay_49 : decode cX3_lay 49 = .ok (.iconst 0, 1) := by decide +kernel
theorem dX3_lay_50 : decode cX3_lay 50 = .ok (.istore 5, 2) := by decide +kernel
theorem dX3_lay_52 : decode cX3_lay 52 = .ok (.iload 5, 2) := by decide +kernel
theorem dX3_lay_54 : decode cX3_lay 54 = .ok (.bipush 6, 2) := by decide +kernel
theorem dX3_lay_56 : decode cX3_lay 56 = .ok (.if_icmp .ge 37, 3) := by decide +kernel
theorem dX3_lay_59 : decode cX3_lay 59 = .ok (.aload_n 1, 1) := by decide +kernel
theorem dX3_lay_60 : decode cX3_lay 60 = .ok (.iload 5, 2) := by decide +kernel
theorem dX3_lay_62 : decode cX3_lay 62 = .ok (.invokevirtual 82, 3) := by decide +kernel
theorem dX3_lay_65 : decode cX3_lay 65 = .ok (.ifCond .eq 22, 3) := by decide +kernel
theorem dX3_lay_87 : decode cX3_lay 87 = .ok (.iinc 5 1, 3) := by decide +kernel
theorem dX3_lay_90 : decode cX3_lay 90 = .ok (.goto (-38), 3) := by decide +kernel
theorem dX3_lay_93 : decode cX3_lay 93 = .ok (.iconst 0, 1) := by decide +kernel
theorem dX3_lay_94 : decode cX3_lay 94 = .ok (.istore 5, 2) := by decide +kernel
theorem dX3_lay_96 : decode cX3_lay 96 = .ok (.iconst 0, 1) := by decide +kernel
theorem dX3_lay_97 : decode cX3_lay 97 = .ok (.istore 6, 2) := by decide +kernel
theorem dX3_lay_99 : decode cX3_lay 99 = .ok (.iload 6, 2) := by decide +kernel
theorem dX3_lay_101 : decode cX3_lay 101 = .ok (.bipush 6, 2) := by decide +kernel
theorem dX3_lay_103 : decode cX3_lay 103 = .ok (.if_icmp .ge 69, 3) := by decide +kernel
theorem dX3_lay_106 : decode cX3_lay 106 = .ok (.aload_n 0, 1) := by decide +kernel
theorem dX3_lay_107 : decode cX3_lay 107 = .ok (.getfield 15, 3) := by decide +kernel
theorem dX3_lay_110 : decode cX3_lay 110 = .ok (.iload 6, 2) := by decide +kernel
theorem dX3_lay_112 : decode cX3_lay 112 = .ok (.iload 6, 2) := by decide +kernel
theorem dX3_lay_114 : decode cX3_lay 114 = .ok (.aload_n 0, 1) := by decide +kernel
theorem dX3_lay_115 : decode cX3_lay 115 = .ok (.getfield 51, 3) := by decide +kernel
theorem dX3_lay_118 : decode cX3_lay 118 = .ok (.if_icmp .ge 17, 3) := by decide +kernel
theorem dX3_lay_135 : decode cX3_lay 135 = .ok (.iload 6, 2) := by decide +kernel
theorem dX3_lay_137 : decode cX3_lay 137 = .ok (.iastore, 1) := by decide +kernel
theorem dX3_lay_138 : decode cX3_lay 138 = .ok (.iload 5, 2) := by decide +kernel
theorem dX3_lay_140 : decode cX3_lay 140 = .ok (.iload 6, 2) := by decide +kernel
theorem dX3_lay_142 : decode cX3_lay 142 = .ok (.aload_n 0, 1) := by decide +kernel
theorem dX3_lay_143 : decode cX3_lay 143 = .ok (.getfield 51, 3) := by decide +kernel
theorem dX3_lay_146 : decode cX3_lay 146 = .ok (.if_icmp .ge 16, 3) := by decide +kernel
theorem dX3_lay_162 : decode cX3_lay 162 = .ok (.iconst 0, 1) := by decide +kernel
theorem dX3_lay_163 : decode cX3_lay 163 = .ok (.ior, 1) := by decide +kernel
theorem dX3_lay_164 : decode cX3_lay 164 = .ok (.istore 5, 2) := by decide +kernel
theorem dX3_lay_166 : decode cX3_lay 166 = .ok (.iinc 6 1, 3) := by decide +kernel
theorem dX3_lay_169 : decode cX3_lay 169 = .ok (.goto (-70), 3) := by decide +kernel
theorem dX3_lay_172 : decode cX3_lay 172 = .ok (.aload_n 0, 1) := by decide +kernel
theorem dX3_lay_173 : decode cX3_lay 173 = .ok (.aload_n 0, 1) := by decide +kernel
theorem dX3_lay_174 : decode cX3_lay 174 = .ok (.getfield 55, 3) := by decide +kernel
theorem dX3_lay_177 : decode cX3_lay 177 = .ok (.iconst 1, 1) := by decide +kernel
theorem dX3_lay_178 : decode cX3_lay 178 = .ok (.isub, 1) := by decide +kernel
theorem dX3_lay_179 : decode cX3_lay 179 = .ok (.aload_n 0, 1) := by decide +kernel
theorem dX3_lay_180 : decode cX3_lay 180 = .ok (.invokevirtual 96, 3) := by decide +kernel
theorem dX3_lay_183 : decode cX3_lay 183 = .ok (.aload_n 0, 1) := by decide +kernel
theorem dX3_lay_184 : decode cX3_lay 184 = .ok (.getfield 51, 3) := by decide +kernel
theorem dX3_lay_187 : decode cX3_lay 187 = .ok (.ishl, 1) := by decide +kernel
theorem dX3_lay_188 : decode cX3_lay 188 = .ok (.iload 5, 2) := by decide +kernel
theorem dX3_lay_190 : decode cX3_lay 190 = .ok (.ior, 1) := by decide +kernel
theorem dX3_lay_191 : decode cX3_lay 191 = .ok (.invokestatic 100, 3) := by decide +kernel
theorem dX3_lay_194 : decode cX3_lay 194 = .ok (.putfield 58, 3) := by decide +kernel
theorem dX3_lay_197 : decode cX3_lay 197 = .ok (.aload_n 0, 1) := by decide +kernel
theorem dX3_lay_198 : decode cX3_lay 198 = .ok (.aload_n 2, 1) := by decide +kernel
theorem dX3_lay_199 : decode cX3_lay 199 = .ok (.aload_n 1, 1) := by decide +kernel
theorem dX3_lay_200 : decode cX3_lay 200 = .ok (.getfield 106, 3) := by decide +kernel
theorem dX3_lay_203 : decode cX3_lay 203 = .ok (.iconst 1, 1) := by decide +kernel
theorem dX3_lay_204 : decode cX3_lay 204 = .ok (.invokevirtual 109, 3) := by decide +kernel
theorem dX3_lay_207 : decode cX3_lay 207 = .ok (.return_, 1) := by decide +kernel
set_option maxRecDepth 20000 in
theorem ggX3_turnsToOrder_X3_measure : GoodIn wsX3_turnsToOrder wsX3_measure := goodIn_r _ [7, 8, 9, 10, 11, 1, 12, 13, 14, 15, 16, 17, 18, 19, 20, 21, 22, 6, 23, 24, 25, 26, 27, 28, 29, 30, 31, 32, 33, 34, 35, 36, 37, 38, 39, 40, 41, 42, 43, 44, 45, 46, 47, 48, 49, 50, 51, 52, 53, 54, 55, 56, 57, 58, 59, 60, 61, 62, 63, 64, 65] rfl (by decide +kernel)
set_option maxRecDepth 20000 in
theorem gX3_turnsToOrder_X3_measure : GoodIn wsX3_turnsToOrder (wsV RX3 113 RX3 yX3_measure wsX3_measure) := goodIn_app (goodIn_of _ (by decide +kernel)) ggX3_turnsToOrder_X3_measure
theorem dX3_turnsToOrder_0 : decode cX3_turnsToOrder 0 = .ok (.aload_n 0, 1) := by decide +kernel
theorem dX3_turnsToOrder_1 : decode cX3_turnsToOrder 1 = .ok (.invokevirtual 113, 3) := by decide +kernel
theorem dX3_turnsToOrder_4 : decode cX3_turnsToOrder 4 = .ok (.aload_n 0, 1) := by decide +kernel
theorem dX3_turnsToOrder_5 : decode cX3_turnsToOrder 5 = .ok (.getfield 39, 3) := by decide +kernel
theorem dX3_turnsToOrder_8 : decode cX3_turnsToOrder 8 = .ok (.aload_n 0, 1) := by decide +kernel
theorem dX3_turnsToOrder_9 : decode cX3_turnsToOrder 9 = .ok (.getfield 58, 3) := by decide +kernel
theorem dX3_turnsToOrder_12 : decode cX3_turnsToOrder 12 = .ok (.iaload, 1) := by decide +kernel
theorem dX3_turnsToOrder_13 : decode cX3_turnsToOrder 13 = .ok (.ireturn, 1) := by decide +kernel
set_option maxRecDepth 20000 in
theorem ggX3_turnOfFirstRow_X3_measure : GoodIn wsX3_turnOfFirstRow wsX3_measure := goodIn_r _ [7, 8, 9, 10, 11, 1, 12, 13, 14, 15, 16, 17, 18, 19, 20, 21, 22, 6, 23, 24, 25, 26, 27, 28, 29, 30, 31, 32, 33, 34, 35, 36, 37, 38, 39, 40, 41, 42, 43, 44, 45, 54, 55, 56, 57, 58, 59, 60, 61, 62, 63, 64, 65, 66, 67, 68, 69, 70, 71, 72, 73] rfl (by decide +kernel)
set_option maxRecDepth 20000 in
theorem gX3_turnOfFirstRow_X3_measure : GoodIn wsX3_turnOfFirstRow (wsV RX3 113 RX3 yX3_measure wsX3_measure) := goodIn_app (goodIn_of _ (by decide +kernel)) ggX3_turnOfFirstRow_X3_measure
theorem dX3_turnOfFirstRow_0 : decode cX3_turnOfFirstRow 0 = .ok (.aload_n 0, 1) := by decide +kernel
theorem dX3_turnOfFirstRow_1 : decode cX3_turnOfFirstRow 1 = .ok (.invokevirtual 113, 3) := by decide +kernel
theorem dX3_turnOfFirstRow_4 : decode cX3_turnOfFirstRow 4 = .ok (.iload_n 1, 1) := by decide +kernel
theorem dX3_turnOfFirstRow_5 : decode cX3_turnOfFirstRow 5 = .ok (.ifCond .lt 16, 3) := by decide +kernel
theorem dX3_turnOfFirstRow_8 : decode cX3_turnOfFirstRow 8 = .ok (.iload_n 1, 1) := by decide +kernel
theorem dX3_turnOfFirstRow_9 : decode cX3_turnOfFirstRow 9 = .ok (.aload_n 0, 1) := by decide +kernel
theorem dX3_turnOfFirstRow_10 : decode cX3_turnOfFirstRow 10 = .ok (.getfield 39, 3) := by decide +kernel
theorem dX3_turnOfFirstRow_13 : decode cX3_turnOfFirstRow 13 = .ok (.aload_n 0, 1) := by decide +kernel
theorem dX3_turnOfFirstRow_14 : decode cX3_turnOfFirstRow 14 = .ok (.getfield 58, 3) := by decide +kernel
theorem dX3_turnOfFirstRow_17 : decode cX3_turnOfFirstRow 17 = .ok (.iaload, 1) := by decide +kernel
theorem dX3_turnOfFirstRow_18 : decode cX3_turnOfFirstRow 18 = .ok (.if_icmp .lt 5, 3) := by decide +kernel
theorem dX3_turnOfFirstRow_21 : decode cX3_turnOfFirstRow 21 = .ok (.iconst (-1), 1) := by decide +kernel
theorem dX3_turnOfFirstRow_22 : decode cX3_turnOfFirstRow 22 = .ok (.ireturn, 1) := by decide +kernel
set_option maxRecDepth 20000 in
theorem ggX3_rowsToOrder_X3_measure : GoodIn wsX3_rowsToOrder wsX3_measure := goodIn_r _ [16, 17, 11, 18, 19, 1, 5, 4, 20, 21, 22, 23, 24, 25, 26, 27, 28, 15, 29, 30, 31, 32, 33, 34, 35, 36, 37, 38, 39, 40, 41, 42, 43, 44, 45, 46, 47, 48, 49, 50, 51, 56, 57, 58, 59, 60, 61, 62, 63, 64, 65, 66, 67, 68, 69, 70, 71, 72, 73, 74, 75] rfl (by decide +kernel)
set_option maxRecDepth 20000 in
theorem gX3_rowsToOrder_X3_measure : GoodIn wsX3_rowsToOrder (wsV RX3 113 RX3 yX3_measure wsX3_measure) := goodIn_app (goodIn_of _ (by decide +kernel)) ggX3_rowsToOrder_X3_measure
set_option maxRecDepth 20000 in
theorem ggX3_rowsToOrder_J7_fill_53178 : GoodIn wsX3_rowsToOrder wsJ7_fill_53178 := goodIn_r _ [33] rfl (by decide +kernel)
set_option maxRecDepth 20000 in
theorem gX3_rowsToOrder_J7_fill_53178 : GoodIn wsX3_rowsToOrder (va_wsS RX3 122 yJ7_fill_53178 wsJ7_fill_53178) := goodIn_app (goodIn_of _ (by decide +kernel)) ggX3_rowsToOrder_J7_fill_53178
theorem dX3_rowsToOrder_0 : decode cX3_rowsToOrder 0 = .ok (.aload_n 0, 1) := by decide +kernel
theorem dX3_rowsToOrder_1 : decode cX3_rowsToOrder 1 = .ok (.invokevirtual 113, 3) := by decide +kernel
theorem dX3_rowsToOrder_4 : decode cX3_rowsToOrder 4 = .ok (.aload_n 0, 1) := by decide +kernel
theorem dX3_rowsToOrder_5 : decode cX3_rowsToOrder 5 = .ok (.getfield 39, 3) := by decide +kernel
theorem dX3_rowsToOrder_8 : decode cX3_rowsToOrder 8 = .ok (.aload_n 0, 1) := by decide +kernel
theorem dX3_rowsToOrder_9 : decode cX3_rowsToOrder 9 = .ok (.getfield 58, 3) := by decide +kernel
theorem dX3_rowsToOrder_12 : decode cX3_rowsToOrder 12 = .ok (.iaload, 1) := by decide +kernel
theorem dX3_rowsToOrder_13 : decode cX3_rowsToOrder 13 = .ok (.iconst (-1), 1) := by decide +kernel
theorem dX3_rowsToOrder_14 : decode cX3_rowsToOrder 14 = .ok (.if_icmp .ne 5, 3) := by decide +kernel
theorem dX3_rowsToOrder_19 : decode cX3_rowsToOrder 19 = .ok (.aload_n 0, 1) := by decide +kernel
theorem dX3_rowsToOrder_20 : decode cX3_rowsToOrder 20 = .ok (.getfield 42, 3) := by decide +kernel
theorem dX3_rowsToOrder_23 : decode cX3_rowsToOrder 23 = .ok (.iconst 0, 1) := by decide +kernel
theorem dX3_rowsToOrder_24 : decode cX3_rowsToOrder 24 = .ok (.invokestatic 122, 3) := by decide +kernel
theorem dX3_rowsToOrder_27 : decode cX3_rowsToOrder 27 = .ok (.aload_n 0, 1) := by decide +kernel
theorem dX3_rowsToOrder_28 : decode cX3_rowsToOrder 28 = .ok (.getfield 42, 3) := by decide +kernel
theorem dX3_rowsToOrder_31 : decode cX3_rowsToOrder 31 = .ok (.aload_n 0, 1) := by decide +kernel
theorem dX3_rowsToOrder_32 : decode cX3_rowsToOrder 32 = .ok (.getfield 58, 3) := by decide +kernel
theorem dX3_rowsToOrder_35 : decode cX3_rowsToOrder 35 = .ok (.iconst 1, 1) := by decide +kernel
theorem dX3_rowsToOrder_36 : decode cX3_rowsToOrder 36 = .ok (.iastore, 1) := by decide +kernel
theorem dX3_rowsToOrder_37 : decode cX3_rowsToOrder 37 = .ok (.aload_n 0, 1) := by decide +kernel
theorem dX3_rowsToOrder_38 : decode cX3_rowsToOrder 38 = .ok (.getfield 45, 3) := by decide +kernel
theorem dX3_rowsToOrder_41 : decode cX3_rowsToOrder 41 = .ok (.iconst 0, 1) := by decide +kernel
theorem dX3_rowsToOrder_42 : decode cX3_rowsToOrder 42 = .ok (.aload_n 0, 1) := by decide +kernel
theorem dX3_rowsToOrder_43 : decode cX3_rowsToOrder 43 = .ok (.getfield 58, 3) := by decide +kernel
theorem dX3_rowsToOrder_46 : decode cX3_rowsToOrder 46 = .ok (.iastore, 1) := by decide +kernel
theorem dX3_rowsToOrder_47 : decode cX3_rowsToOrder 47 = .ok (.iconst 1, 1) := by decide +kernel
theorem dX3_rowsToOrder_48 : decode cX3_rowsToOrder 48 = .ok (.istore_n 1, 1) := by decide +kernel
theorem dX3_rowsToOrder_49 : decode cX3_rowsToOrder 49 = .ok (.iconst 0, 1) := by decide +kernel
theorem dX3_rowsToOrder_50 : decode cX3_rowsToOrder 50 = .ok (.istore_n 2, 1) := by decide +kernel
theorem dX3_rowsToOrder_51 : decode cX3_rowsToOrder 51 = .ok (.iconst 0, 1) := by decide +kernel
theorem dX3_rowsToOrder_52 : decode cX3_rowsToOrder 52 = .ok (.istore_n 3, 1) := by decide +kernel
theorem dX3_rowsToOrder_53 : decode cX3_rowsToOrder 53 = .ok (.iload_n 3, 1) := by decide +kernel
theorem dX3_rowsToOrder_54 : decode cX3_rowsToOrder 54 = .ok (.aload_n 0, 1) := by decide +kernel
theorem dX3_rowsToOrder_55 : decode cX3_rowsToOrder 55 = .ok (.getfield 55, 3) := by decide +kernel
theorem dX3_rowsToOrder_58 : decode cX3_rowsToOrder 58 = .ok (.if_icmp .ge 142, 3) := by decide +kernel
theorem dX3_rowsToOrder_61 : decode cX3_rowsToOrder 61 = .ok (.iload_n 3, 1) := by decide +kernel
theorem dX3_rowsToOrder_62 : decode cX3_rowsToOrder 62 = .ok (.iload_n 1, 1) := by decide +kernel
theorem dX3_rowsToOrder_63 : decode cX3_rowsToOrder 63 = .ok (.if_icmp .ge 137, 3) := by decide +kernel
theorem dX3_rowsToOrder_66 : decode cX3_rowsToOrder 66 = .ok (.aload_n 0, 1) := by decide +kernel
theorem dX3_rowsToOrder_67 : decode cX3_rowsToOrder 67 = .ok (.getfield 45, 3) := by decide +kernel
theorem dX3_rowsToOrder_70 : decode cX3_rowsToOrder 70 = .ok (.iload_n 3, 1) := by decide +kernel
theorem dX3_rowsToOrder_71 : decode cX3_rowsToOrder 71 = .ok (.iaload, 1) := by decide +kernel
theorem dX3_rowsToOrder_72 : decode cX3_rowsToOrder 72 = .ok (.istore 4, 2) := by decide +kernel
theorem dX3_rowsToOrder_74 : decode cX3_rowsToOrder 74 = .ok (.aload_n 0, 1) := by decide +kernel
theorem dX3_rowsToOrder_75 : decode cX3_rowsToOrder 75 = .ok (.getfield 39, 3) := by decide +kernel
theorem dX3_rowsToOrder_78 : decode cX3_rowsToOrder 78 = .ok (.iload 4, 2) := by decide +kernel
theorem dX3_rowsToOrder_80 : decode cX3_rowsToOrder 80 = .ok (.iaload, 1) := by decide +kernel
theorem dX3_rowsToOrder_81 : decode cX3_rowsToOrder 81 = .ok (.ifCond .ne 18, 3) := by decide +kernel
theorem dX3_rowsToOrder_84 : decode cX3_rowsToOrder 84 = .ok (.ldc 128, 2) := by decide +kernel
theorem dX3_rowsToOrder_86 : decode cX3_rowsToOrder 86 = .ok (.iload_n 2, 1) := by decide +kernel
theorem dX3_rowsToOrder_87 : decode cX3_rowsToOrder 87 = .ok (.aload_n 0, 1) := by decide +kernel
theorem dX3_rowsToOrder_88 : decode cX3_rowsToOrder 88 = .ok (.getfield 42, 3) := by decide +kernel
theorem dX3_rowsToOrder_91 : decode cX3_rowsToOrder 91 = .ok (.iload 4, 2) := by decide +kernel
theorem dX3_rowsToOrder_93 : decode cX3_rowsToOrder 93 = .ok (.iaload, 1) := by decide +kernel
theorem dX3_rowsToOrder_94 : decode cX3_rowsToOrder 94 = .ok (.iadd, 1) := by decide +kernel
theorem dX3_rowsToOrder_95 : decode cX3_rowsToOrder 95 = .ok (.invokestatic 100, 3) := by decide +kernel
theorem dX3_rowsToOrder_98 : decode cX3_rowsToOrder 98 = .ok (.istore_n 2, 1) := by decide +kernel
theorem dX3_rowsToOrder_99 : decode cX3_rowsToOrder 99 = .ok (.iconst 1, 1) := by decide +kernel
theorem dX3_rowsToOrder_100 : decode cX3_rowsToOrder 100 = .ok (.istore 5, 2) := by decide +kernel
theorem dX3_rowsToOrder_102 : decode cX3_rowsToOrder 102 = .ok (.iload 5, 2) := by decide +kernel
theorem dX3_rowsToOrder_104 : decode cX3_rowsToOrder 104 = .ok (.aload_n 0, 1) := by decide +kernel
theorem dX3_rowsToOrder_105 : decode cX3_rowsToOrder 105 = .ok (.getfield 51, 3) := by decide +kernel
theorem dX3_rowsToOrder_108 : decode cX3_rowsToOrder 108 = .ok (.if_icmp .gt 86, 3) := by decide +kernel
theorem dX3_rowsToOrder_194 : decode cX3_rowsToOrder 194 = .ok (.iinc 3 1, 3) := by decide +kernel
theorem dX3_rowsToOrder_197 : decode cX3_rowsToOrder 197 = .ok (.goto (-144), 3) := by decide +kernel
theorem dX3_rowsToOrder_200 : decode cX3_rowsToOrder 200 = .ok (.iload_n 2, 1) := by decide +kernel
theorem dX3_rowsToOrder_201 : decode cX3_rowsToOrder 201 = .ok (.ireturn, 1) := by decide +kernel
set_option maxRecDepth 20000 in
theorem ggX3_leastPaid_X3_askCases : GoodIn wsX3_leastPaid wsX3_askCases := goodIn_r _ [10, 11, 12, 13, 14, 15, 16, 17, 18, 19, 20, 21, 22, 23, 24, 25, 26, 27, 28, 29, 30, 31, 32, 33, 34, 35, 36, 37, 38, 39, 40, 41, 42, 43, 44, 45, 46, 47, 48, 49, 50, 51, 52, 53, 54, 55, 56, 57, 58, 59, 60, 61, 62, 63, 64, 9, 65, 96, 97, 98, 99, 100, 101, 102, 103, 104, 105, 106, 107, 108, 109, 110, 111, 112, 113, 114, 115, 116, 117, 118, 119, 120, 121, 122, 123, 124, 125, 126, 127, 128] rfl (by decide +kernel)
set_option maxRecDepth 20000 in
theorem gX3_leastPaid_X3_askCases : GoodIn wsX3_leastPaid (wsV RX3 109 RX3 yX3_askCases wsX3_askCases) := goodIn_app (goodIn_of _ (by decide +kernel)) ggX3_leastPaid_X3_askCases
set_option maxRecDepth 20000 in
theorem ggX3_leastPaid_J7_fill_53178 : GoodIn wsX3_leastPaid wsJ7_fill_53178 := goodIn_r _ [18] rfl (by decide +kernel)
set_option maxRecDepth 20000 in
theorem gX3_leastPaid_J7_fill_53178 : GoodIn wsX3_leastPaid (va_wsS RX3 122 yJ7_fill_53178 wsJ7_fill_53178) := goodIn_app (goodIn_of _ (by decide +kernel)) ggX3_leastPaid_J7_fill_53178
set_option maxRecDepth 20000 in
theorem ggX3_leastPaid_X3_putInBucket : GoodIn wsX3_leastPaid wsX3_putInBucket := goodIn_r _ [69, 1, 70, 3, 71, 96, 97, 98, 99, 100, 101, 102, 103, 104, 105, 106, 107, 108, 109, 110, 111, 112, 113, 114, 115] rfl (by decide +kernel)
set_option maxRecDepth 20000 in
theorem gX3_leastPaid_X3_putInBucket : GoodIn wsX3_leastPaid (wsV RX3 141 RX3 yX3_putInBucket wsX3_putInBucket) := goodIn_app (goodIn_of _ (by decide +kernel)) ggX3_leastPaid_X3_putInBucket
set_option maxRecDepth 20000 in
theorem ggX3_leastPaid_X3_takeFromBucket : GoodIn wsX3_leastPaid wsX3_takeFromBucket := goodIn_r _ [75, 71, 3, 1, 70, 96, 97, 98, 99, 100, 101, 102, 103, 104, 105, 106, 107, 108, 109, 110, 111, 112, 113, 114, 115] rfl (by decide +kernel)
set_option maxRecDepth 20000 in
theorem gX3_leastPaid_X3_takeFromBucket : GoodIn wsX3_leastPaid (wsV RX3 145 RX3 yX3_takeFromBucket wsX3_takeFromBucket) := goodIn_app (goodIn_of _ (by decide +kernel)) ggX3_leastPaid_X3_takeFromBucket
set_option maxRecDepth 20000 in
theorem ggX3_leastPaid_X3_isOrdered : GoodIn wsX3_leastPaid wsX3_isOrdered := goodIn_r _ [79, 80, 13, 96, 97, 98, 99, 100, 101, 102, 103, 104, 105, 106, 107, 108, 109, 110, 111, 112, 113, 114, 115] rfl (by decide +kernel)
set_option maxRecDepth 20000 in
theorem gX3_leastPaid_X3_isOrdered : GoodIn wsX3_leastPaid (wsV RX3 148 RX3 yX3_isOrdered wsX3_isOrdered) := goodIn_app (goodIn_of _ (by decide +kernel)) ggX3_leastPaid_X3_isOrdered
theorem dX3_leastPaid_0 : decode cX3_leastPaid 0 = .ok (.aload_n 0, 1) := by decide +kernel
theorem dX3_leastPaid_1 : decode cX3_leastPaid 1 = .ok (.aload_n 1, 1) := by decide +kernel
theorem dX3_leastPaid_2 : decode cX3_leastPaid 2 = .ok (.iload_n 2, 1) := by decide +kernel
theorem dX3_leastPaid_3 : decode cX3_leastPaid 3 = .ok (.iconst 0, 1) := by decide +kernel
theorem dX3_leastPaid_4 : decode cX3_leastPaid 4 = .ok (.invokevirtual 109, 3) := by decide +kernel
theorem dX3_leastPaid_7 : decode cX3_leastPaid 7 = .ok (.aload_n 0, 1) := by decide +kernel
theorem dX3_leastPaid_8 : decode cX3_leastPaid 8 = .ok (.getfield 42, 3) := by decide +kernel
theorem dX3_leastPaid_11 : decode cX3_leastPaid 11 = .ok (.ldc 140, 2) := by decide +kernel
theorem dX3_leastPaid_13 : decode cX3_leastPaid 13 = .ok (.invokestatic 122, 3) := by decide +kernel
theorem dX3_leastPaid_16 : decode cX3_leastPaid 16 = .ok (.aload_n 0, 1) := by decide +kernel
theorem dX3_leastPaid_17 : decode cX3_leastPaid 17 = .ok (.getfield 27, 3) := by decide +kernel
theorem dX3_leastPaid_20 : decode cX3_leastPaid 20 = .ok (.iconst (-1), 1) := by decide +kernel
theorem dX3_leastPaid_21 : decode cX3_leastPaid 21 = .ok (.invokestatic 122, 3) := by decide +kernel
theorem dX3_leastPaid_24 : decode cX3_leastPaid 24 = .ok (.aload_n 0, 1) := by decide +kernel
theorem dX3_leastPaid_25 : decode cX3_leastPaid 25 = .ok (.getfield 42, 3) := by decide +kernel
theorem dX3_leastPaid_28 : decode cX3_leastPaid 28 = .ok (.aload_n 0, 1) := by decide +kernel
theorem dX3_leastPaid_29 : decode cX3_leastPaid 29 = .ok (.getfield 58, 3) := by decide +kernel
theorem dX3_leastPaid_32 : decode cX3_leastPaid 32 = .ok (.iconst 0, 1) := by decide +kernel
theorem dX3_leastPaid_33 : decode cX3_leastPaid 33 = .ok (.iastore, 1) := by decide +kernel
theorem dX3_leastPaid_34 : decode cX3_leastPaid 34 = .ok (.aload_n 0, 1) := by decide +kernel
theorem dX3_leastPaid_35 : decode cX3_leastPaid 35 = .ok (.aload_n 0, 1) := by decide +kernel
theorem dX3_leastPaid_36 : decode cX3_leastPaid 36 = .ok (.getfield 58, 3) := by decide +kernel
theorem dX3_leastPaid_39 : decode cX3_leastPaid 39 = .ok (.invokevirtual 141, 3) := by decide +kernel
theorem dX3_leastPaid_42 : decode cX3_leastPaid 42 = .ok (.iconst 1, 1) := by decide +kernel
theorem dX3_leastPaid_43 : decode cX3_leastPaid 43 = .ok (.istore_n 3, 1) := by decide +kernel
theorem dX3_leastPaid_44 : decode cX3_leastPaid 44 = .ok (.iconst 0, 1) := by decide +kernel
theorem dX3_leastPaid_45 : decode cX3_leastPaid 45 = .ok (.istore 4, 2) := by decide +kernel
theorem dX3_leastPaid_47 : decode cX3_leastPaid 47 = .ok (.iload 4, 2) := by decide +kernel
theorem dX3_leastPaid_49 : decode cX3_leastPaid 49 = .ok (.bipush 99, 2) := by decide +kernel
theorem dX3_leastPaid_51 : decode cX3_leastPaid 51 = .ok (.aload_n 0, 1) := by decide +kernel
theorem dX3_leastPaid_52 : decode cX3_leastPaid 52 = .ok (.getfield 55, 3) := by decide +kernel
theorem dX3_leastPaid_55 : decode cX3_leastPaid 55 = .ok (.imul, 1) := by decide +kernel
theorem dX3_leastPaid_56 : decode cX3_leastPaid 56 = .ok (.if_icmp .gt 87, 3) := by decide +kernel
theorem dX3_leastPaid_59 : decode cX3_leastPaid 59 = .ok (.iload_n 3, 1) := by decide +kernel
theorem dX3_leastPaid_60 : decode cX3_leastPaid 60 = .ok (.ifCond .le 83, 3) := by decide +kernel
theorem dX3_leastPaid_63 : decode cX3_leastPaid 63 = .ok (.iload 4, 2) := by decide +kernel
theorem dX3_leastPaid_65 : decode cX3_leastPaid 65 = .ok (.bipush 100, 2) := by decide +kernel
theorem dX3_leastPaid_67 : decode cX3_leastPaid 67 = .ok (.irem, 1) := by decide +kernel
theorem dX3_leastPaid_68 : decode cX3_leastPaid 68 = .ok (.istore 5, 2) := by decide +kernel
theorem dX3_leastPaid_70 : decode cX3_leastPaid 70 = .ok (.iconst 0, 1) := by decide +kernel
theorem dX3_leastPaid_71 : decode cX3_leastPaid 71 = .ok (.istore 6, 2) := by decide +kernel
theorem dX3_leastPaid_73 : decode cX3_leastPaid 73 = .ok (.iload 6, 2) := by decide +kernel
theorem dX3_leastPaid_75 : decode cX3_leastPaid 75 = .ok (.aload_n 0, 1) := by decide +kernel
theorem dX3_leastPaid_76 : decode cX3_leastPaid 76 = .ok (.getfield 55, 3) := by decide +kernel
theorem dX3_leastPaid_79 : decode cX3_leastPaid 79 = .ok (.if_icmp .ge 58, 3) := by decide +kernel
theorem dX3_leastPaid_82 : decode cX3_leastPaid 82 = .ok (.aload_n 0, 1) := by decide +kernel
theorem dX3_leastPaid_83 : decode cX3_leastPaid 83 = .ok (.getfield 27, 3) := by decide +kernel
theorem dX3_leastPaid_86 : decode cX3_leastPaid 86 = .ok (.iload 5, 2) := by decide +kernel
theorem dX3_leastPaid_88 : decode cX3_leastPaid 88 = .ok (.iaload, 1) := by decide +kernel
theorem dX3_leastPaid_89 : decode cX3_leastPaid 89 = .ok (.iconst (-1), 1) := by decide +kernel
theorem dX3_leastPaid_90 : decode cX3_leastPaid 90 = .ok (.if_icmp .eq 47, 3) := by decide +kernel
theorem dX3_leastPaid_93 : decode cX3_leastPaid 93 = .ok (.aload_n 0, 1) := by decide +kernel
theorem dX3_leastPaid_94 : decode cX3_leastPaid 94 = .ok (.getfield 27, 3) := by decide +kernel
theorem dX3_leastPaid_97 : decode cX3_leastPaid 97 = .ok (.iload 5, 2) := by decide +kernel
theorem dX3_leastPaid_99 : decode cX3_leastPaid 99 = .ok (.iaload, 1) := by decide +kernel
theorem dX3_leastPaid_100 : decode cX3_leastPaid 100 = .ok (.istore 7, 2) := by decide +kernel
theorem dX3_leastPaid_102 : decode cX3_leastPaid 102 = .ok (.aload_n 0, 1) := by decide +kernel
theorem dX3_leastPaid_103 : decode cX3_leastPaid 103 = .ok (.iload 7, 2) := by decide +kernel
theorem dX3_leastPaid_105 : decode cX3_leastPaid 105 = .ok (.invokevirtual 145, 3) := by decide +kernel
theorem dX3_leastPaid_108 : decode cX3_leastPaid 108 = .ok (.aload_n 0, 1) := by decide +kernel
theorem dX3_leastPaid_109 : decode cX3_leastPaid 109 = .ok (.iload 7, 2) := by decide +kernel
theorem dX3_leastPaid_111 : decode cX3_leastPaid 111 = .ok (.invokevirtual 148, 3) := by decide +kernel
theorem dX3_leastPaid_114 : decode cX3_leastPaid 114 = .ok (.ifCond .eq 6, 3) := by decide +kernel
theorem dX3_leastPaid_117 : decode cX3_leastPaid 117 = .ok (.iload 4, 2) := by decide +kernel
theorem dX3_leastPaid_119 : decode cX3_leastPaid 119 = .ok (.ireturn, 1) := by decide +kernel
theorem dX3_putInBucket_0 : decode cX3_putInBucket 0 = .ok (.aload_n 0, 1) := by decide +kernel
theorem dX3_putInBucket_1 : decode cX3_putInBucket 1 = .ok (.getfield 42, 3) := by decide +kernel
theorem dX3_putInBucket_4 : decode cX3_putInBucket 4 = .ok (.iload_n 1, 1) := by decide +kernel
theorem dX3_putInBucket_5 : decode cX3_putInBucket 5 = .ok (.iaload, 1) := by decide +kernel
theorem dX3_putInBucket_6 : decode cX3_putInBucket 6 = .ok (.bipush 100, 2) := by decide +kernel
theorem dX3_putInBucket_8 : decode cX3_putInBucket 8 = .ok (.irem, 1) := by decide +kernel
theorem dX3_putInBucket_9 : decode cX3_putInBucket 9 = .ok (.istore_n 2, 1) := by decide +kernel
theorem dX3_putInBucket_10 : decode cX3_putInBucket 10 = .ok (.aload_n 0, 1) := by decide +kernel
theorem dX3_putInBucket_11 : decode cX3_putInBucket 11 = .ok (.getfield 45, 3) := by decide +kernel
theorem dX3_putInBucket_14 : decode cX3_putInBucket 14 = .ok (.iload_n 1, 1) := by decide +kernel
theorem dX3_putInBucket_15 : decode cX3_putInBucket 15 = .ok (.aload_n 0, 1) := by decide +kernel
theorem dX3_putInBucket_16 : decode cX3_putInBucket 16 = .ok (.getfield 27, 3) := by decide +kernel
theorem dX3_putInBucket_19 : decode cX3_putInBucket 19 = .ok (.iload_n 2, 1) := by decide +kernel
theorem dX3_putInBucket_20 : decode cX3_putInBucket 20 = .ok (.iaload, 1) := by decide +kernel
theorem dX3_putInBucket_21 : decode cX3_putInBucket 21 = .ok (.iastore, 1) := by decide +kernel
theorem dX3_putInBucket_22 : decode cX3_putInBucket 22 = .ok (.aload_n 0, 1) := by decide +kernel
theorem dX3_putInBucket_23 : decode cX3_putInBucket 23 = .ok (.getfield 48, 3) := by decide +kernel
theorem dX3_putInBucket_26 : decode cX3_putInBucket 26 = .ok (.iload_n 1, 1) := by decide +kernel
theorem dX3_putInBucket_27 : decode cX3_putInBucket 27 = .ok (.iconst (-1), 1) := by decide +kernel
theorem dX3_putInBucket_28 : decode cX3_putInBucket 28 = .ok (.iastore, 1) := by decide +kernel
theorem dX3_putInBucket_29 : decode cX3_putInBucket 29 = .ok (.aload_n 0, 1) := by decide +kernel
theorem dX3_putInBucket_30 : decode cX3_putInBucket 30 = .ok (.getfield 45, 3) := by decide +kernel
theorem dX3_putInBucket_33 : decode cX3_putInBucket 33 = .ok (.iload_n 1, 1) := by decide +kernel
theorem dX3_putInBucket_34 : decode cX3_putInBucket 34 = .ok (.iaload, 1) := by decide +kernel
theorem dX3_putInBucket_35 : decode cX3_putInBucket 35 = .ok (.iconst (-1), 1) := by decide +kernel
theorem dX3_putInBucket_36 : decode cX3_putInBucket 36 = .ok (.if_icmp .eq 15, 3) := by decide +kernel
theorem dX3_putInBucket_51 : decode cX3_putInBucket 51 = .ok (.aload_n 0, 1) := by decide +kernel
theorem dX3_putInBucket_52 : decode cX3_putInBucket 52 = .ok (.getfield 27, 3) := by decide +kernel
theorem dX3_putInBucket_55 : decode cX3_putInBucket 55 = .ok (.iload_n 2, 1) := by decide +kernel
theorem dX3_putInBucket_56 : decode cX3_putInBucket 56 = .ok (.iload_n 1, 1) := by decide +kernel
theorem dX3_putInBucket_57 : decode cX3_putInBucket 57 = .ok (.iastore, 1) := by decide +kernel
theorem dX3_putInBucket_58 : decode cX3_putInBucket 58 = .ok (.return_, 1) := by decide +kernel
theorem dX3_takeFromBucket_0 : decode cX3_takeFromBucket 0 = .ok (.aload_n 0, 1) := by decide +kernel
theorem dX3_takeFromBucket_1 : decode cX3_takeFromBucket 1 = .ok (.getfield 48, 3) := by decide +kernel
theorem dX3_takeFromBucket_4 : decode cX3_takeFromBucket 4 = .ok (.iload_n 1, 1) := by decide +kernel
theorem dX3_takeFromBucket_5 : decode cX3_takeFromBucket 5 = .ok (.iaload, 1) := by decide +kernel
theorem dX3_takeFromBucket_6 : decode cX3_takeFromBucket 6 = .ok (.iconst (-1), 1) := by decide +kernel
theorem dX3_takeFromBucket_7 : decode cX3_takeFromBucket 7 = .ok (.if_icmp .ne 26, 3) := by decide +kernel
theorem dX3_takeFromBucket_10 : decode cX3_takeFromBucket 10 = .ok (.aload_n 0, 1) := by decide +kernel
theorem dX3_takeFromBucket_11 : decode cX3_takeFromBucket 11 = .ok (.getfield 27, 3) := by decide +kernel
theorem dX3_takeFromBucket_14 : decode cX3_takeFromBucket 14 = .ok (.aload_n 0, 1) := by decide +kernel
theorem dX3_takeFromBucket_15 : decode cX3_takeFromBucket 15 = .ok (.getfield 42, 3) := by decide +kernel
theorem dX3_takeFromBucket_18 : decode cX3_takeFromBucket 18 = .ok (.iload_n 1, 1) := by decide +kernel
theorem dX3_takeFromBucket_19 : decode cX3_takeFromBucket 19 = .ok (.iaload, 1) := by decide +kernel
theorem dX3_takeFromBucket_20 : decode cX3_takeFromBucket 20 = .ok (.bipush 100, 2) := by decide +kernel
theorem dX3_takeFromBucket_22 : decode cX3_takeFromBucket 22 = .ok (.irem, 1) := by decide +kernel
theorem dX3_takeFromBucket_23 : decode cX3_takeFromBucket 23 = .ok (.aload_n 0, 1) := by decide +kernel
theorem dX3_takeFromBucket_24 : decode cX3_takeFromBucket 24 = .ok (.getfield 45, 3) := by decide +kernel
theorem dX3_takeFromBucket_27 : decode cX3_takeFromBucket 27 = .ok (.iload_n 1, 1) := by decide +kernel
theorem dX3_takeFromBucket_28 : decode cX3_takeFromBucket 28 = .ok (.iaload, 1) := by decide +kernel
theorem dX3_takeFromBucket_29 : decode cX3_takeFromBucket 29 = .ok (.iastore, 1) := by decide +kernel
theorem dX3_takeFromBucket_30 : decode cX3_takeFromBucket 30 = .ok (.goto 20, 3) := by decide +kernel
theorem dX3_takeFromBucket_50 : decode cX3_takeFromBucket 50 = .ok (.aload_n 0, 1) := by decide +kernel
theorem dX3_takeFromBucket_51 : decode cX3_takeFromBucket 51 = .ok (.getfield 45, 3) := by decide +kernel
theorem dX3_takeFromBucket_54 : decode cX3_takeFromBucket 54 = .ok (.iload_n 1, 1) := by decide +kernel
theorem dX3_takeFromBucket_55 : decode cX3_takeFromBucket 55 = .ok (.iaload, 1) := by decide +kernel
theorem dX3_takeFromBucket_56 : decode cX3_takeFromBucket 56 = .ok (.iconst (-1), 1) := by decide +kernel
theorem dX3_takeFromBucket_57 : decode cX3_takeFromBucket 57 = .ok (.if_icmp .eq 20, 3) := by decide +kernel
theorem dX3_takeFromBucket_77 : decode cX3_takeFromBucket 77 = .ok (.return_, 1) := by decide +kernel
set_option maxRecDepth 20000 in
theorem ggX3_measure_J7_fill_53178 : GoodIn wsX3_measure wsJ7_fill_53178 := goodIn_r _ [22] rfl (by decide +kernel)
set_option maxRecDepth 20000 in
theorem gX3_measure_J7_fill_53178 : GoodIn wsX3_measure (va_wsS RX3 122 yJ7_fill_53178 wsJ7_fill_53178) := goodIn_app (goodIn_of _ (by decide +kernel)) ggX3_measure_J7_fill_53178
set_option maxRecDepth 20000 in
theorem ggX3_measure_X3_isOrdered : GoodIn wsX3_measure wsX3_isOrdered := goodIn_r _ [26, 4, 2, 41, 42, 43, 44, 45, 46, 47, 48, 49, 50, 51, 52, 53, 54, 55, 56, 57, 58, 59, 60] rfl (by decide +kernel)
set_option maxRecDepth 20000 in
theorem gX3_measure_X3_isOrdered : GoodIn wsX3_measure (wsV RX3 148 RX3 yX3_isOrdered wsX3_isOrdered) := goodIn_app (goodIn_of _ (by decide +kernel)) ggX3_measure_X3_isOrdered
theorem dX3_measure_0 : decode cX3_measure 0 = .ok (.aload_n 0, 1) := by decide +kernel
theorem dX3_measure_1 : decode cX3_measure 1 = .ok (.getfield 64, 3) := by decide +kernel
theorem dX3_measure_4 : decode cX3_measure 4 = .ok (.aload_n 0, 1) := by decide +kernel
theorem dX3_measure_5 : decode cX3_measure 5 = .ok (.getfield 51, 3) := by decide +kernel
theorem dX3_measure_8 : decode cX3_measure 8 = .ok (.if_icmp .ne 22, 3) := by decide +kernel
theorem dX3_measure_30 : decode cX3_measure 30 = .ok (.aload_n 0, 1) := by decide +kernel
theorem dX3_measure_31 : decode cX3_measure 31 = .ok (.getfield 39, 3) := by decide +kernel
theorem dX3_measure_34 : decode cX3_measure 34 = .ok (.iconst (-1), 1) := by decide +kernel
theorem dX3_measure_35 : decode cX3_measure 35 = .ok (.invokestatic 122, 3) := by decide +kernel
theorem dX3_measure_38 : decode cX3_measure 38 = .ok (.iconst 0, 1) := by decide +kernel
theorem dX3_measure_39 : decode cX3_measure 39 = .ok (.istore_n 1, 1) := by decide +kernel
theorem dX3_measure_40 : decode cX3_measure 40 = .ok (.iconst 0, 1) := by decide +kernel
theorem dX3_measure_41 : decode cX3_measure 41 = .ok (.istore_n 2, 1) := by decide +kernel
theorem dX3_measure_42 : decode cX3_measure 42 = .ok (.iload_n 2, 1) := by decide +kernel
theorem dX3_measure_43 : decode cX3_measure 43 = .ok (.aload_n 0, 1) := by decide +kernel
theorem dX3_measure_44 : decode cX3_measure 44 = .ok (.getfield 55, 3) := by decide +kernel
theorem dX3_measure_47 : decode cX3_measure 47 = .ok (.if_icmp .ge 34, 3) := by decide +kernel
theorem dX3_measure_50 : decode cX3_measure 50 = .ok (.aload_n 0, 1) := by decide +kernel
theorem dX3_measure_51 : decode cX3_measure 51 = .ok (.iload_n 2, 1) := by decide +kernel
theorem dX3_measure_52 : decode cX3_measure 52 = .ok (.invokevirtual 148, 3) := by decide +kernel
theorem dX3_measure_55 : decode cX3_measure 55 = .ok (.ifCond .eq 26, 3) := by decide +kernel
theorem dX3_measure_58 : decode cX3_measure 58 = .ok (.aload_n 0, 1) := by decide +kernel
theorem dX3_measure_59 : decode cX3_measure 59 = .ok (.getfield 39, 3) := by decide +kernel
theorem dX3_measure_62 : decode cX3_measure 62 = .ok (.iload_n 2, 1) := by decide +kernel
theorem dX3_measure_63 : decode cX3_measure 63 = .ok (.iconst 0, 1) := by decide +kernel
theorem dX3_measure_64 : decode cX3_measure 64 = .ok (.iastore, 1) := by decide +kernel
theorem dX3_measure_65 : decode cX3_measure 65 = .ok (.aload_n 0, 1) := by decide +kernel
theorem dX3_measure_66 : decode cX3_measure 66 = .ok (.getfield 45, 3) := by decide +kernel
theorem dX3_measure_69 : decode cX3_measure 69 = .ok (.iload_n 1, 1) := by decide +kernel
theorem dX3_measure_70 : decode cX3_measure 70 = .ok (.iload_n 2, 1) := by decide +kernel
theorem dX3_measure_71 : decode cX3_measure 71 = .ok (.iastore, 1) := by decide +kernel
theorem dX3_measure_72 : decode cX3_measure 72 = .ok (.iinc 1 1, 3) := by decide +kernel
theorem dX3_measure_75 : decode cX3_measure 75 = .ok (.iinc 2 1, 3) := by decide +kernel
theorem dX3_measure_78 : decode cX3_measure 78 = .ok (.goto (-36), 3) := by decide +kernel
theorem dX3_measure_81 : decode cX3_measure 81 = .ok (.iconst 0, 1) := by decide +kernel
theorem dX3_measure_82 : decode cX3_measure 82 = .ok (.istore_n 2, 1) := by decide +kernel
theorem dX3_measure_83 : decode cX3_measure 83 = .ok (.iload_n 2, 1) := by decide +kernel
theorem dX3_measure_84 : decode cX3_measure 84 = .ok (.aload_n 0, 1) := by decide +kernel
theorem dX3_measure_85 : decode cX3_measure 85 = .ok (.getfield 55, 3) := by decide +kernel
theorem dX3_measure_88 : decode cX3_measure 88 = .ok (.if_icmp .ge 109, 3) := by decide +kernel
theorem dX3_measure_91 : decode cX3_measure 91 = .ok (.iload_n 2, 1) := by decide +kernel
theorem dX3_measure_92 : decode cX3_measure 92 = .ok (.iload_n 1, 1) := by decide +kernel
theorem dX3_measure_93 : decode cX3_measure 93 = .ok (.if_icmp .ge 104, 3) := by decide +kernel
theorem dX3_measure_96 : decode cX3_measure 96 = .ok (.aload_n 0, 1) := by decide +kernel
theorem dX3_measure_97 : decode cX3_measure 97 = .ok (.getfield 45, 3) := by decide +kernel
theorem dX3_measure_100 : decode cX3_measure 100 = .ok (.iload_n 2, 1) := by decide +kernel
theorem dX3_measure_101 : decode cX3_measure 101 = .ok (.iaload, 1) := by decide +kernel
theorem dX3_measure_102 : decode cX3_measure 102 = .ok (.istore_n 3, 1) := by decide +kernel
theorem dX3_measure_103 : decode cX3_measure 103 = .ok (.iconst 1, 1) := by decide +kernel
theorem dX3_measure_104 : decode cX3_measure 104 = .ok (.istore 4, 2) := by decide +kernel
theorem dX3_measure_106 : decode cX3_measure 106 = .ok (.iload 4, 2) := by decide +kernel
theorem dX3_measure_108 : decode cX3_measure 108 = .ok (.aload_n 0, 1) := by decide +kernel
theorem dX3_measure_109 : decode cX3_measure 109 = .ok (.getfield 51, 3) := by decide +kernel
theorem dX3_measure_112 : decode cX3_measure 112 = .ok (.if_icmp .gt 79, 3) := by decide +kernel
theorem dX3_measure_191 : decode cX3_measure 191 = .ok (.iinc 2 1, 3) := by decide +kernel
theorem dX3_measure_194 : decode cX3_measure 194 = .ok (.goto (-111), 3) := by decide +kernel
theorem dX3_measure_197 : decode cX3_measure 197 = .ok (.aload_n 0, 1) := by decide +kernel
theorem dX3_measure_198 : decode cX3_measure 198 = .ok (.aload_n 0, 1) := by decide +kernel
theorem dX3_measure_199 : decode cX3_measure 199 = .ok (.getfield 51, 3) := by decide +kernel
theorem dX3_measure_202 : decode cX3_measure 202 = .ok (.putfield 64, 3) := by decide +kernel
theorem dX3_measure_205 : decode cX3_measure 205 = .ok (.aload_n 0, 1) := by decide +kernel
theorem dX3_measure_206 : decode cX3_measure 206 = .ok (.aload_n 0, 1) := by decide +kernel
theorem dX3_measure_207 : decode cX3_measure 207 = .ok (.getfield 61, 3) := by decide +kernel
theorem dX3_measure_210 : decode cX3_measure 210 = .ok (.putfield 67, 3) := by decide +kernel
theorem dX3_measure_213 : decode cX3_measure 213 = .ok (.aload_n 0, 1) := by decide +kernel
theorem dX3_measure_214 : decode cX3_measure 214 = .ok (.getfield 18, 3) := by decide +kernel
theorem dX3_measure_217 : decode cX3_measure 217 = .ok (.iconst 0, 1) := by decide +kernel
theorem dX3_measure_218 : decode cX3_measure 218 = .ok (.aload_n 0, 1) := by decide +kernel
theorem dX3_measure_219 : decode cX3_measure 219 = .ok (.getfield 24, 3) := by decide +kernel
theorem dX3_measure_222 : decode cX3_measure 222 = .ok (.iconst 0, 1) := by decide +kernel
theorem dX3_measure_223 : decode cX3_measure 223 = .ok (.sipush 504, 3) := by decide +kernel
theorem dX3_measure_226 : decode cX3_measure 226 = .ok (.invokestatic 165, 3) := by decide +kernel
theorem dX3_measure_229 : decode cX3_measure 229 = .ok (.return_, 1) := by decide +kernel
theorem dX3_isOrdered_0 : decode cX3_isOrdered 0 = .ok (.aload_n 0, 1) := by decide +kernel
theorem dX3_isOrdered_1 : decode cX3_isOrdered 1 = .ok (.getfield 61, 3) := by decide +kernel
theorem dX3_isOrdered_4 : decode cX3_isOrdered 4 = .ok (.iconst 1, 1) := by decide +kernel
theorem dX3_isOrdered_5 : decode cX3_isOrdered 5 = .ok (.if_icmp .ne 15, 3) := by decide +kernel
theorem dX3_isOrdered_8 : decode cX3_isOrdered 8 = .ok (.iload_n 1, 1) := by decide +kernel
theorem dX3_isOrdered_9 : decode cX3_isOrdered 9 = .ok (.ifCond .ne 7, 3) := by decide +kernel
theorem dX3_isOrdered_12 : decode cX3_isOrdered 12 = .ok (.iconst 1, 1) := by decide +kernel
theorem dX3_isOrdered_13 : decode cX3_isOrdered 13 = .ok (.goto 21, 3) := by decide +kernel
theorem dX3_isOrdered_16 : decode cX3_isOrdered 16 = .ok (.iconst 0, 1) := by decide +kernel
theorem dX3_isOrdered_17 : decode cX3_isOrdered 17 = .ok (.goto 17, 3) := by decide +kernel
theorem dX3_isOrdered_20 : decode cX3_isOrdered 20 = .ok (.iload_n 1, 1) := by decide +kernel
theorem dX3_isOrdered_21 : decode cX3_isOrdered 21 = .ok (.aload_n 0, 1) := by decide +kernel
theorem dX3_isOrdered_22 : decode cX3_isOrdered 22 = .ok (.getfield 51, 3) := by decide +kernel
theorem dX3_isOrdered_25 : decode cX3_isOrdered 25 = .ok (.ishr, 1) := by decide +kernel
theorem dX3_isOrdered_26 : decode cX3_isOrdered 26 = .ok (.ifCond .ne 7, 3) := by decide +kernel
theorem dX3_isOrdered_29 : decode cX3_isOrdered 29 = .ok (.iconst 1, 1) := by decide +kernel
theorem dX3_isOrdered_30 : decode cX3_isOrdered 30 = .ok (.goto 4, 3) := by decide +kernel
theorem dX3_isOrdered_33 : decode cX3_isOrdered 33 = .ok (.iconst 0, 1) := by decide +kernel
theorem dX3_isOrdered_34 : decode cX3_isOrdered 34 = .ok (.ireturn, 1) := by decide +kernel
theorem dX3_askCases_12 : decode cX3_askCases 12 = .ok (.aload_n 0, 1) := by decide +kernel
theorem dX3_askCases_13 : decode cX3_askCases 13 = .ok (.getfield 21, 3) := by decide +kernel
set_option maxRecDepth 20000 in
theorem ggX9_fewest_X9_seated : GoodIn wsX9_fewest wsX9_seated := goodIn_r _ [6, 7, 8, 9, 10, 11, 12, 13, 14, 15, 16, 17, 18, 19, 20, 21, 22, 23, 24, 25, 26, 178, 179, 180, 181, 182, 183, 184, 185, 186, 187, 188, 189, 190, 191, 192, 193, 194, 195, 196, 197, 198, 199, 200, 201, 202, 203, 204, 205, 206, 207, 208, 209] rfl (by decide +kernel)
set_option maxRecDepth 20000 in
theorem gX9_fewest_X9_seated : GoodIn wsX9_fewest (wsV RX9 144 RX9 yX9_seated wsX9_seated) := goodIn_app (goodIn_of _ (by decide +kernel)) ggX9_fewest_X9_seated
set_option maxRecDepth 20000 in
theorem ggX9_fewest_X9_spread : GoodIn wsX9_fewest wsX9_spread := goodIn_r _ [30, 1, 8, 31, 32, 33, 34, 35, 36, 37, 38, 39, 40, 41, 42, 43, 44, 45, 46, 47, 48, 49, 50, 51, 52, 53, 54, 55, 56, 57, 58, 59, 60, 61, 62, 63, 64, 65, 66, 67, 68, 5, 69, 70, 71, 72, 73, 74, 75, 76, 77, 78, 79, 80, 81, 82, 83, 84, 85, 86, 87, 88, 89, 90, 91, 92, 93, 94, 95, 96, 97, 98, 99, 100, 23, 101, 26, 102, 103, 104, 105, 106, 107, 108, 109, 25, 110, 111, 112, 113, 114, 115, 116, 117, 118, 119, 120, 121, 122, 123, 124, 125, 126, 127, 128, 129, 130, 131, 132, 133, 134, 135, 178, 179, 180, 181, 182, 183, 184, 185, 186, 187, 188, 189, 190, 191, 192, 193, 194, 195, 196, 197, 198, 199, 200, 201, 202, 203, 204, 205, 206, 210, 211, 212, 213, 214, 215, 216, 217, 218, 219, 220, 221, 222, 223, 224, 225, 226, 227, 228, 229, 230, 231, 232, 233, 234, 207, 208, 209, 235, 236, 237, 238, 239, 240, 241, 242, 243, 244] rfl (by decide +kernel)
set_option maxRecDepth 20000 in
theorem gX9_fewest_X9_spread : GoodIn wsX9_fewest (wsV RX9 226 RX9 yX9_spread wsX9_spread) := goodIn_app (goodIn_of _ (by decide +kernel)) ggX9_fewest_X9_spread
set_option maxRecDepth 20000 in
theorem ggX9_fewest_X3_turnsToOrder : GoodIn wsX9_fewest wsX3_turnsToOrder := goodIn_r _ [139, 40, 47, 140, 141, 142, 34, 143, 59, 36, 144, 37, 39, 54, 92, 145, 146, 147, 148, 149, 150, 151, 152, 153, 94, 95, 96, 97, 154, 155, 156, 157, 158, 159, 160, 161, 57, 58, 162, 163, 164, 165, 56, 133, 134, 135, 215, 216, 217, 218, 219, 220, 221, 222, 223, 224, 225, 226, 227, 228, 229, 230, 231, 232, 233, 234] rfl (by decide +kernel)
set_option maxRecDepth 20000 in
theorem gX9_fewest_X3_turnsToOrder : GoodIn wsX9_fewest (wsV RX9 230 RX3 yX3_turnsToOrder wsX3_turnsToOrder) := goodIn_app (goodIn_of _ (by decide +kernel)) ggX9_fewest_X3_turnsToOrder
set_option maxRecDepth 20000 in
theorem ggX9_fewest_X3_turnOfFirstRow : GoodIn wsX9_fewest wsX3_turnOfFirstRow := goodIn_r _ [169, 40, 47, 140, 141, 142, 34, 143, 59, 36, 144, 37, 39, 54, 92, 145, 146, 147, 148, 149, 150, 151, 152, 153, 94, 95, 96, 97, 154, 155, 156, 157, 158, 159, 160, 161, 57, 58, 162, 163, 164, 165, 56, 133, 134, 135, 170, 171, 172, 173, 174, 175, 176, 177, 215, 216, 217, 218, 219, 220, 221, 222, 223, 224, 225, 226, 227, 228, 229, 230, 231, 232, 233, 234] rfl (by decide +kernel)
set_option maxRecDepth 20000 in
theorem gX9_fewest_X3_turnOfFirstRow : GoodIn wsX9_fewest (wsV RX9 234 RX3 yX3_turnOfFirstRow wsX3_turnOfFirstRow) := goodIn_app (goodIn_of _ (by decide +kernel)) ggX9_fewest_X3_turnOfFirstRow
theorem dX9_fewest_0 : decode cX9_fewest 0 = .ok (.aload_n 0, 1) := by decide +kernel
theorem dX9_fewest_1 : decode cX9_fewest 1 = .ok (.aload_n 0, 1) := by decide +kernel
theorem dX9_fewest_2 : decode cX9_fewest 2 = .ok (.invokevirtual 144, 3) := by decide +kernel
theorem dX9_fewest_5 : decode cX9_fewest 5 = .ok (.invokevirtual 226, 3) := by decide +kernel
theorem dX9_fewest_8 : decode cX9_fewest 8 = .ok (.iload_n 1, 1) := by decide +kernel
theorem dX9_fewest_9 : decode cX9_fewest 9 = .ok (.iconst (-1), 1) := by decide +kernel
theorem dX9_fewest_10 : decode cX9_fewest 10 = .ok (.if_icmp .ne 11, 3) := by decide +kernel
theorem dX9_fewest_13 : decode cX9_fewest 13 = .ok (.aload_n 0, 1) := by decide +kernel
theorem dX9_fewest_14 : decode cX9_fewest 14 = .ok (.getfield 80, 3) := by decide +kernel
theorem dX9_fewest_17 : decode cX9_fewest 17 = .ok (.invokevirtual 230, 3) := by decide +kernel
theorem dX9_fewest_20 : decode cX9_fewest 20 = .ok (.ireturn, 1) := by decide +kernel
theorem dX9_fewest_21 : decode cX9_fewest 21 = .ok (.aload_n 0, 1) := by decide +kernel
theorem dX9_fewest_22 : decode cX9_fewest 22 = .ok (.getfield 80, 3) := by decide +kernel
theorem dX9_fewest_25 : decode cX9_fewest 25 = .ok (.iload_n 1, 1) := by decide +kernel
theorem dX9_fewest_26 : decode cX9_fewest 26 = .ok (.invokevirtual 234, 3) := by decide +kernel
theorem dX9_fewest_29 : decode cX9_fewest 29 = .ok (.ireturn, 1) := by decide +kernel
set_option maxRecDepth 20000 in
theorem ggX9_many_X9_seated : GoodIn wsX9_many wsX9_seated := goodIn_r _ [6, 7, 8, 9, 10, 11, 12, 13, 14, 15, 16, 17, 18, 19, 20, 21, 22, 23, 24, 25, 26, 171, 172, 173, 174, 175, 176, 177, 178, 179, 180, 181, 182, 183, 184, 185, 186, 187, 188, 189, 190, 191, 192, 193, 194, 195, 196, 197, 198, 199, 200, 201, 202] rfl (by decide +kernel)
set_option maxRecDepth 20000 in
theorem gX9_many_X9_seated : GoodIn wsX9_many (wsV RX9 144 RX9 yX9_seated wsX9_seated) := goodIn_app (goodIn_of _ (by decide +kernel)) ggX9_many_X9_seated
set_option maxRecDepth 20000 in
theorem ggX9_many_X9_spread : GoodIn wsX9_many wsX9_spread := goodIn_r _ [30, 1, 8, 31, 32, 33, 34, 35, 36, 37, 38, 39, 40, 41, 42, 43, 44, 45, 46, 47, 48, 49, 50, 51, 52, 53, 54, 55, 56, 57, 58, 59, 60, 61, 62, 63, 64, 65, 66, 67, 68, 5, 69, 70, 71, 72, 73, 74, 75, 76, 77, 78, 79, 80, 81, 82, 83, 84, 85, 86, 87, 88, 89, 90, 91, 92, 93, 94, 95, 96, 97, 98, 99, 100, 23, 101, 26, 102, 103, 104, 105, 106, 107, 108, 109, 25, 110, 111, 112, 113, 114, 115, 116, 117, 118, 119, 120, 121, 122, 123, 124, 125, 126, 127, 128, 129, 130, 131, 132, 133, 134, 135, 171, 172, 173, 174, 175, 176, 177, 178, 179, 180, 181, 182, 183, 184, 185, 186, 187, 188, 189, 190, 191, 192, 193, 194, 195, 196, 197, 198, 199, 203, 204, 205, 206, 207, 208, 209, 210, 211, 212, 213, 214, 215, 216, 217, 218, 219, 220, 221, 222, 223, 224, 225, 226, 227, 200, 201, 202, 228, 229, 230, 231, 232, 233, 234, 235, 236, 237] rfl (by decide +kernel)
set_option maxRecDepth 20000 in
theorem gX9_many_X9_spread : GoodIn wsX9_many (wsV RX9 226 RX9 yX9_spread wsX9_spread) := goodIn_app (goodIn_of _ (by decide +kernel)) ggX9_many_X9_spread
set_option maxRecDepth 20000 in
theorem ggX9_many_X3_rowsToOrder : GoodIn wsX9_many wsX3_rowsToOrder := goodIn_r _ [139, 40, 47, 53, 54, 39, 140, 43, 44, 45, 46, 36, 141, 142, 143, 34, 144, 59, 145, 37, 92, 146, 147, 148, 149, 150, 151, 152, 153, 154, 94, 95, 96, 97, 155, 156, 157, 158, 159, 160, 161, 162, 57, 58, 163, 164, 165, 166, 56, 133, 134, 135, 167, 168, 169, 170, 208, 209, 210, 211, 212, 213, 214, 215, 216, 217, 218, 219, 220, 221, 222, 223, 224, 225, 226, 227] rfl (by decide +kernel)
set_option maxRecDepth 20000 in
theorem gX9_many_X3_rowsToOrder : GoodIn wsX9_many (wsV RX9 237 RX3 yX3_rowsToOrder wsX3_rowsToOrder) := goodIn_app (goodIn_of _ (by decide +kernel)) ggX9_many_X3_rowsToOrder
theorem dX9_many_0 : decode cX9_many 0 = .ok (.aload_n 0, 1) := by decide +kernel
theorem dX9_many_1 : decode cX9_many 1 = .ok (.aload_n 0, 1) := by decide +kernel
theorem dX9_many_2 : decode cX9_many 2 = .ok (.invokevirtual 144, 3) := by decide +kernel
theorem dX9_many_5 : decode cX9_many 5 = .ok (.invokevirtual 226, 3) := by decide +kernel
theorem dX9_many_8 : decode cX9_many 8 = .ok (.aload_n 0, 1) := by decide +kernel
theorem dX9_many_9 : decode cX9_many 9 = .ok (.getfield 80, 3) := by decide +kernel
theorem dX9_many_12 : decode cX9_many 12 = .ok (.invokevirtual 237, 3) := by decide +kernel
theorem dX9_many_15 : decode cX9_many 15 = .ok (.ireturn, 1) := by decide +kernel
set_option maxRecDepth 20000 in
theorem ggX9_cheapest_X9_seated : GoodIn wsX9_cheapest wsX9_seated := goodIn_r _ [8, 2, 3, 9, 10, 11, 12, 13, 14, 15, 16, 17, 18, 19, 20, 21, 22, 23, 24, 25, 26, 166, 167, 168, 169, 170, 171, 172, 173, 174, 175, 176, 177, 178, 179, 180, 181, 182, 183, 184, 185, 186, 187, 188, 189, 190, 191, 192, 193, 194, 200, 201, 202] rfl (by decide +kernel)
set_option maxRecDepth 20000 in
theorem gX9_cheapest_X9_seated : GoodIn wsX9_cheapest (wsV RX9 144 RX9 yX9_seated wsX9_seated) := goodIn_app (goodIn_of _ (by decide +kernel)) ggX9_cheapest_X9_seated
set_option maxRecDepth 20000 in
theorem ggX9_cheapest_X9_spread : GoodIn wsX9_cheapest wsX9_spread := goodIn_r _ [30, 1, 3, 31, 32, 33, 34, 35, 36, 37, 38, 39, 40, 41, 42, 43, 44, 45, 46, 47, 48, 49, 50, 51, 52, 53, 54, 55, 56, 57, 58, 59, 60, 61, 62, 63, 64, 65, 66, 67, 68, 7, 69, 70, 71, 72, 73, 74, 75, 76, 77, 78, 79, 80, 81, 82, 83, 84, 85, 86, 87, 88, 89, 90, 91, 92, 93, 94, 95, 96, 97, 98, 99, 100, 23, 101, 26, 102, 103, 104, 105, 106, 107, 108, 109, 25, 110, 111, 112, 113, 114, 115, 116, 117, 118, 119, 120, 121, 122, 123, 124, 125, 126, 127, 128, 129, 130, 131, 132, 133, 134, 135, 166, 167, 168, 169, 170, 171, 172, 173, 174, 175, 176, 177, 178, 179, 180, 181, 182, 183, 184, 185, 186, 187, 188, 189, 190, 191, 192, 193, 194, 195, 196, 197, 198, 199, 203, 204, 205, 206, 207, 208, 209, 210, 211, 212, 213, 214, 215, 216, 217, 218, 219, 220, 221, 222, 200, 201, 202, 223, 224, 225, 226, 227, 228, 229, 230, 231, 232] rfl (by decide +kernel)
set_option maxRecDepth 20000 in
theorem gX9_cheapest_X9_spread : GoodIn wsX9_cheapest (wsV RX9 226 RX9 yX9_spread wsX9_spread) := goodIn_app (goodIn_of _ (by decide +kernel)) ggX9_cheapest_X9_spread
set_option maxRecDepth 20000 in
theorem ggX9_cheapest_X3_leastPaid : GoodIn wsX9_cheapest wsX3_leastPaid := goodIn_r _ [139, 53, 140, 141, 47, 39, 88, 89, 90, 34, 91, 92, 93, 36, 41, 94, 95, 96, 97, 98, 99, 100, 23, 101, 26, 102, 103, 104, 105, 106, 107, 108, 109, 25, 110, 111, 112, 113, 114, 115, 116, 117, 118, 44, 45, 46, 119, 120, 121, 122, 123, 124, 68, 7, 69, 125, 126, 127, 128, 129, 130, 131, 132, 133, 134, 135, 142, 143, 144, 145, 54, 55, 146, 147, 148, 149, 150, 151, 152, 153, 37, 154, 155, 156, 157, 158, 159, 160, 161, 57, 58, 162, 163, 164, 165, 56, 203, 204, 205, 206, 207, 208, 209, 210, 211, 212, 213, 214, 215, 216, 217, 218, 219, 220, 221, 222, 200, 201, 202, 223, 224, 225, 226, 227, 228, 229, 230, 231, 232] rfl (by decide +kernel)
set_option maxRecDepth 20000 in
theorem gX9_cheapest_X3_leastPaid : GoodIn wsX9_cheapest (wsV RX9 243 RX3 yX3_leastPaid wsX3_leastPaid) := goodIn_app (goodIn_of _ (by decide +kernel)) ggX9_cheapest_X3_leastPaid
theorem dX9_cheapest_0 : decode cX9_cheapest 0 = .ok (.aload_n 0, 1) := by decide +kernel
theorem dX9_cheapest_1 : decode cX9_cheapest 1 = .ok (.aload_n 0, 1) := by decide +kernel
theorem dX9_cheapest_2 : decode cX9_cheapest 2 = .ok (.invokevirtual 144, 3) := by decide +kernel
theorem dX9_cheapest_5 : decode cX9_cheapest 5 = .ok (.invokevirtual 226, 3) := by decide +kernel
theorem dX9_cheapest_8 : decode cX9_cheapest 8 = .ok (.aload_n 0, 1) := by decide +kernel
theorem dX9_cheapest_9 : decode cX9_cheapest 9 = .ok (.getfield 80, 3) := by decide +kernel
theorem dX9_cheapest_12 : decode cX9_cheapest 12 = .ok (.aload_n 0, 1) := by decide +kernel
theorem dX9_cheapest_13 : decode cX9_cheapest 13 = .ok (.getfield 50, 3) := by decide +kernel
theorem dX9_cheapest_16 : decode cX9_cheapest 16 = .ok (.aload_n 0, 1) := by decide +kernel
theorem dX9_cheapest_17 : decode cX9_cheapest 17 = .ok (.getfield 10, 3) := by decide +kernel
theorem dX9_cheapest_20 : decode cX9_cheapest 20 = .ok (.getfield 122, 3) := by decide +kernel
theorem dX9_cheapest_23 : decode cX9_cheapest 23 = .ok (.getfield 240, 3) := by decide +kernel
theorem dX9_cheapest_26 : decode cX9_cheapest 26 = .ok (.invokevirtual 243, 3) := by decide +kernel
theorem dX9_cheapest_29 : decode cX9_cheapest 29 = .ok (.ireturn, 1) := by decide +kernel
set_option maxRecDepth 20000 in
theorem ggX9_spread_X3_lay : GoodIn wsX9_spread wsX3_lay := goodIn_r _ [7, 8, 9, 10, 11, 12, 13, 14, 15, 16, 17, 18, 19, 20, 21, 22, 6, 23, 24, 25, 26, 27, 28, 29, 30, 31, 32, 33, 34, 35, 36, 37, 38, 39, 40, 41, 42, 43, 44, 45, 46, 47, 48, 49, 50, 51, 52, 53, 54, 55, 56, 57, 58, 59, 60, 61, 62, 63, 64, 65, 66, 67, 68, 69, 70, 71, 72, 73, 74, 75, 76, 77, 78, 79, 80, 81, 82, 83, 84, 85, 86, 87, 88, 89, 90, 91, 92, 93, 94, 95, 96, 97, 98, 99, 100, 101, 102, 103, 104, 105, 106, 107, 108, 109, 110, 111, 141, 142, 143, 144, 145, 146, 147, 148, 149, 150, 151, 152, 153, 154, 155, 156, 157, 158, 159, 160, 161, 162, 163, 164, 165, 166, 167, 168, 169, 170, 171, 172, 173, 174, 175, 176, 177, 178] rfl (by decide +kernel)
set_option maxRecDepth 20000 in
theorem gX9_spread_X3_lay : GoodIn wsX9_spread (wsV RX9 346 RX3 yX3_lay wsX3_lay) := goodIn_app (goodIn_of _ (by decide +kernel)) ggX9_spread_X3_lay
theorem dX9_spread_0 : decode cX9_spread 0 = .ok (.aload_n 0, 1) := by decide +kernel
theorem dX9_spread_1 : decode cX9_spread 1 = .ok (.getfield 80, 3) := by decide +kernel
theorem dX9_spread_4 : decode cX9_spread 4 = .ok (.aload_n 0, 1) := by decide +kernel
theorem dX9_spread_5 : decode cX9_spread 5 = .ok (.getfield 10, 3) := by decide +kernel
theorem dX9_spread_8 : decode cX9_spread 8 = .ok (.getfield 122, 3) := by decide +kernel
theorem dX9_spread_11 : decode cX9_spread 11 = .ok (.aload_n 1, 1) := by decide +kernel
theorem dX9_spread_12 : decode cX9_spread 12 = .ok (.aload_n 0, 1) := by decide +kernel
theorem dX9_spread_13 : decode cX9_spread 13 = .ok (.getfield 10, 3) := by decide +kernel
theorem dX9_spread_16 : decode cX9_spread 16 = .ok (.getfield 267, 3) := by decide +kernel
theorem dX9_spread_19 : decode cX9_spread 19 = .ok (.invokevirtual 346, 3) := by decide +kernel
theorem dX9_spread_22 : decode cX9_spread 22 = .ok (.return_, 1) := by decide +kernel
