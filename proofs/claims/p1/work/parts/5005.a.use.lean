theorem dX1_setGrip_0 : decode cX1_setGrip 0 = .ok (.aload_n 0, 1) := by decide +kernel
theorem dX1_setGrip_1 : decode cX1_setGrip 1 = .ok (.getfield 11, 3) := by decide +kernel
theorem dX1_setGrip_4 : decode cX1_setGrip 4 = .ok (.iconst 0, 1) := by decide +kernel
theorem dX1_setGrip_5 : decode cX1_setGrip 5 = .ok (.iload_n 1, 1) := by decide +kernel
theorem dX1_setGrip_6 : decode cX1_setGrip 6 = .ok (.iastore, 1) := by decide +kernel
theorem dX1_setGrip_7 : decode cX1_setGrip 7 = .ok (.aload_n 0, 1) := by decide +kernel
theorem dX1_setGrip_8 : decode cX1_setGrip 8 = .ok (.getfield 11, 3) := by decide +kernel
theorem dX1_setGrip_11 : decode cX1_setGrip 11 = .ok (.iconst 1, 1) := by decide +kernel
theorem dX1_setGrip_12 : decode cX1_setGrip 12 = .ok (.iload_n 2, 1) := by decide +kernel
theorem dX1_setGrip_13 : decode cX1_setGrip 13 = .ok (.iastore, 1) := by decide +kernel
theorem dX1_setGrip_14 : decode cX1_setGrip 14 = .ok (.aload_n 0, 1) := by decide +kernel
theorem dX1_setGrip_15 : decode cX1_setGrip 15 = .ok (.getfield 11, 3) := by decide +kernel
theorem dX1_setGrip_18 : decode cX1_setGrip 18 = .ok (.iconst 2, 1) := by decide +kernel
theorem dX1_setGrip_19 : decode cX1_setGrip 19 = .ok (.iload_n 3, 1) := by decide +kernel
theorem dX1_setGrip_20 : decode cX1_setGrip 20 = .ok (.iastore, 1) := by decide +kernel
theorem dX1_setGrip_21 : decode cX1_setGrip 21 = .ok (.aload_n 0, 1) := by decide +kernel
theorem dX1_setGrip_22 : decode cX1_setGrip 22 = .ok (.getfield 11, 3) := by decide +kernel
theorem dX1_setGrip_25 : decode cX1_setGrip 25 = .ok (.iconst 3, 1) := by decide +kernel
theorem dX1_setGrip_26 : decode cX1_setGrip 26 = .ok (.iload 4, 2) := by decide +kernel
theorem dX1_setGrip_28 : decode cX1_setGrip 28 = .ok (.iastore, 1) := by decide +kernel
theorem dX1_setGrip_29 : decode cX1_setGrip 29 = .ok (.aload_n 0, 1) := by decide +kernel
theorem dX1_setGrip_30 : decode cX1_setGrip 30 = .ok (.getfield 11, 3) := by decide +kernel
theorem dX1_setGrip_33 : decode cX1_setGrip 33 = .ok (.iconst 5, 1) := by decide +kernel
theorem dX1_setGrip_34 : decode cX1_setGrip 34 = .ok (.iconst (-1), 1) := by decide +kernel
theorem dX1_setGrip_35 : decode cX1_setGrip 35 = .ok (.iastore, 1) := by decide +kernel
theorem dX1_setGrip_36 : decode cX1_setGrip 36 = .ok (.aload_n 0, 1) := by decide +kernel
theorem dX1_setGrip_37 : decode cX1_setGrip 37 = .ok (.getfield 11, 3) := by decide +kernel
theorem dX1_setGrip_40 : decode cX1_setGrip 40 = .ok (.bipush 6, 2) := by decide +kernel
theorem dX1_setGrip_42 : decode cX1_setGrip 42 = .ok (.iconst (-1), 1) := by decide +kernel
theorem dX1_setGrip_43 : decode cX1_setGrip 43 = .ok (.iastore, 1) := by decide +kernel
theorem dX1_setGrip_44 : decode cX1_setGrip 44 = .ok (.return_, 1) := by decide +kernel
set_option maxRecDepth 20000 in
theorem ggX3_lay_X3_makeRoom : GoodIn wsX3_lay wsX3_makeRoom := goodIn_r _ [17, 4, 18, 5, 19, 20, 21, 3, 1, 22, 23, 24, 25, 26, 27, 28, 16, 29, 7, 30, 31, 32, 33, 34, 35, 36, 37, 38, 39, 40, 41, 42, 43, 111, 112, 113, 114, 115, 116, 117, 118, 119, 120, 121, 122, 123, 124, 125, 126, 127, 128, 129, 130] (by decide +kernel) (by decide +kernel)
set_option maxRecDepth 20000 in
theorem gX3_lay_X3_makeRoom : GoodIn wsX3_lay (wsV RX3 79 RX3 yX3_makeRoom wsX3_makeRoom) := goodIn_app (goodIn_of _ (by decide +kernel)) ggX3_lay_X3_makeRoom
set_option maxRecDepth 20000 in
theorem ggX3_lay_X8_has : GoodIn wsX3_lay wsX8_has := goodIn_r _ [48, 49, 50, 106, 107, 108, 109, 110] (by decide +kernel) (by decide +kernel)
set_option maxRecDepth 20000 in
theorem gX3_lay_X8_has : GoodIn wsX3_lay (wsV RX3 82 RX8 yX8_has wsX8_has) := goodIn_app (goodIn_of _ (by decide +kernel)) ggX3_lay_X8_has
set_option maxRecDepth 20000 in
theorem ggX3_lay_X3_numberOfOrder : GoodIn wsX3_lay wsX3_numberOfOrder := goodIn_r _ [40, 7, 3, 34, 35, 36, 111, 112, 113, 114, 115, 116, 117, 118, 119, 120, 121, 122, 123, 124, 125, 126, 127, 128, 129, 130] (by decide +kernel) (by decide +kernel)
set_option maxRecDepth 20000 in
theorem gX3_lay_X3_numberOfOrder : GoodIn wsX3_lay (wsV RX3 96 RX3 yX3_numberOfOrder wsX3_numberOfOrder) := goodIn_app (goodIn_of _ (by decide +kernel)) ggX3_lay_X3_numberOfOrder
set_option maxRecDepth 20000 in
theorem ggX3_lay_X3_askCases : GoodIn wsX3_lay wsX3_askCases := goodIn_r _ [58, 59, 60, 1, 6, 61, 62, 63, 64, 65, 66, 67, 68, 69, 70, 71, 72, 73, 74, 75, 76, 77, 78, 79, 80, 81, 82, 83, 84, 85, 86, 87, 88, 9, 10, 11, 89, 90, 91, 92, 93, 94, 34, 35, 36, 95, 96, 97, 98, 99, 100, 101, 102, 103, 104, 16, 105, 111, 112, 113, 114, 115, 116, 117, 118, 119, 120, 121, 122, 123, 124, 125, 126, 127, 128, 129, 130, 131, 132, 133, 134, 135, 136, 137, 138, 139, 140, 141, 142, 143] (by decide +kernel) (by decide +kernel)
set_option maxRecDepth 20000 in
theorem gX3_lay_X3_askCases : GoodIn wsX3_lay (wsV RX3 109 RX3 yX3_askCases wsX3_askCases) := goodIn_app (goodIn_of _ (by decide +kernel)) ggX3_lay_X3_askCases
theorem dX3_lay_0 : decode cX3_lay 0 = .ok (.aload_n 0, 1) := by decide +kernel
theorem dX3_lay_1 : decode cX3_lay 1 = .ok (.aload_n 1, 1) := by decide +kernel
theorem dX3_lay_2 : decode cX3_lay 2 = .ok (.getfield 73, 3) := by decide +kernel
theorem dX3_lay_5 : decode cX3_lay 5 = .ok (.putfield 51, 3) := by decide +kernel
theorem dX3_lay_8 : decode cX3_lay 8 = .ok (.aload_n 0, 1) := by decide +kernel
theorem dX3_lay_9 : decode cX3_lay 9 = .ok (.iload_n 3, 1) := by decide +kernel
theorem dX3_lay_10 : decode cX3_lay 10 = .ok (.putfield 61, 3) := by decide +kernel
theorem dX3_lay_13 : decode cX3_lay 13 = .ok (.aload_n 0, 1) := by decide +kernel
theorem dX3_lay_14 : decode cX3_lay 14 = .ok (.getstatic 76, 3) := by decide +kernel
theorem dX3_lay_17 : decode cX3_lay 17 = .ok (.aload_n 0, 1) := by decide +kernel
theorem dX3_lay_18 : decode cX3_lay 18 = .ok (.getfield 51, 3) := by decide +kernel
theorem dX3_lay_21 : decode cX3_lay 21 = .ok (.iaload, 1) := by decide +kernel
theorem dX3_lay_22 : decode cX3_lay 22 = .ok (.aload_n 0, 1) := by decide +kernel
theorem dX3_lay_23 : decode cX3_lay 23 = .ok (.getfield 51, 3) := by decide +kernel
theorem dX3_lay_26 : decode cX3_lay 26 = .ok (.ishl, 1) := by decide +kernel
theorem dX3_lay_27 : decode cX3_lay 27 = .ok (.putfield 55, 3) := by decide +kernel
theorem dX3_lay_30 : decode cX3_lay 30 = .ok (.aload_n 0, 1) := by decide +kernel
theorem dX3_lay_31 : decode cX3_lay 31 = .ok (.getfield 55, 3) := by decide +kernel
theorem dX3_lay_34 : decode cX3_lay 34 = .ok (.aload_n 0, 1) := by decide +kernel
theorem dX3_lay_35 : decode cX3_lay 35 = .ok (.getfield 39, 3) := by decide +kernel
theorem dX3_lay_38 : decode cX3_lay 38 = .ok (.arraylength, 1) := by decide +kernel
theorem dX3_lay_39 : decode cX3_lay 39 = .ok (.if_icmp .le 7, 3) := by decide +kernel
theorem dX3_lay_42 : decode cX3_lay 42 = .ok (.aload_n 0, 1) := by decide +kernel
theorem dX3_lay_43 : decode cX3_lay 43 = .ok (.invokevirtual 79, 3) := by decide +kernel
theorem dX3_lay_46 : decode cX3_lay 46 = .ok (.iconst 0, 1) := by decide +kernel
theorem dX3_lay_47 : decode cX3_lay 47 = .ok (.istore 4, 2) := by decide +kernel
theorem dX3_lay_49 : decode cX3_lay 49 = .ok (.iconst 0, 1) := by decide +kernel
theorem dX3_lay_50 : decode cX3_lay 50 = .ok (.istore 5, 2) := by decide +kernel
theorem dX3_lay_52 : decode cX3_lay 52 = .ok (.iload 5, 2) := by decide +kernel
theorem dX3_lay_54 : decode cX3_lay 54 = .ok (.bipush 6, 2) := by decide +kernel
theorem dX3_lay_56 : decode cX3_lay 56 = .ok (.if_icmp .ge 37, 3) := by decide +kernel
theorem dX3_lay_59 : decode cX3_lay 59 = .ok (.aload_n 1, 1) := by decide +kernel
theorem dX3_lay_60 : decode cX3_lay 60 = .ok (.iload 5, 2) := by decide +kernel
theorem dX3_lay_62 : decode cX3_lay 62 = .ok (.invokevirtual 82, 3) := by decide +kernel
theorem dX3_lay_65 : decode cX3_lay 65 = .ok (.ifCond .eq 22, 3) := by decide +kernel
theorem dX3_lay_87 : decode cX3_lay 87 = .ok (.iinc 5 1, 3) := by decide +kernel
theorem dX3_lay_90 : decode cX3_lay 90 = .ok (.goto (-38), 3) := by decide +kernel
theorem dX3_lay_93 : decode cX3_lay 93 = .ok (.iconst 0, 1) := by decide +kernel
theorem dX3_lay_94 : decode cX3_lay 94 = .ok (.istore 5, 2) := by decide +kernel
theorem dX3_lay_96 : decode cX3_lay 96 = .ok (.iconst 0, 1) := by decide +kernel
theorem dX3_lay_97 : decode cX3_lay 97 = .ok (.istore 6, 2) := by decide +kernel
theorem dX3_lay_99 : decode cX3_lay 99 = .ok (.iload 6, 2) := by decide +kernel
theorem dX3_lay_101 : decode cX3_lay 101 = .ok (.bipush 6, 2) := by decide +kernel
theorem dX3_lay_103 : decode cX3_lay 103 = .ok (.if_icmp .ge 69, 3) := by decide +kernel
theorem dX3_lay_106 : decode cX3_lay 106 = .ok (.aload_n 0, 1) := by decide +kernel
theorem dX3_lay_107 : decode cX3_lay 107 = .ok (.getfield 15, 3) := by decide +kernel
theorem dX3_lay_110 : decode cX3_lay 110 = .ok (.iload 6, 2) := by decide +kernel
theorem dX3_lay_112 : decode cX3_lay 112 = .ok (.iload 6, 2) := by decide +kernel
theorem dX3_lay_114 : decode cX3_lay 114 = .ok (.aload_n 0, 1) := by decide +kernel
theorem dX3_lay_115 : decode cX3_lay 115 = .ok (.getfield 51, 3) := by decide +kernel
theorem dX3_lay_118 : decode cX3_lay 118 = .ok (.if_icmp .ge 17, 3) := by decide +kernel
theorem dX3_lay_135 : decode cX3_lay 135 = .ok (.iload 6, 2) := by decide +kernel
theorem dX3_lay_137 : decode cX3_lay 137 = .ok (.iastore, 1) := by decide +kernel
theorem dX3_lay_138 : decode cX3_lay 138 = .ok (.iload 5, 2) := by decide +kernel
theorem dX3_lay_140 : decode cX3_lay 140 = .ok (.iload 6, 2) := by decide +kernel
theorem dX3_lay_142 : decode cX3_lay 142 = .ok (.aload_n 0, 1) := by decide +kernel
theorem dX3_lay_143 : decode cX3_lay 143 = .ok (.getfield 51, 3) := by decide +kernel
theorem dX3_lay_146 : decode cX3_lay 146 = .ok (.if_icmp .ge 16, 3) := by decide +kernel
theorem dX3_lay_162 : decode cX3_lay 162 = .ok (.iconst 0, 1) := by decide +kernel
theorem dX3_lay_163 : decode cX3_lay 163 = .ok (.ior, 1) := by decide +kernel
theorem dX3_lay_164 : decode cX3_lay 164 = .ok (.istore 5, 2) := by decide +kernel
theorem dX3_lay_166 : decode cX3_lay 166 = .ok (.iinc 6 1, 3) := by decide +kernel
theorem dX3_lay_169 : decode cX3_lay 169 = .ok (.goto (-70), 3) := by decide +kernel
theorem dX3_lay_172 : decode cX3_lay 172 = .ok (.aload_n 0, 1) := by decide +kernel
theorem dX3_lay_173 : decode cX3_lay 173 = .ok (.aload_n 0, 1) := by decide +kernel
theorem dX3_lay_174 : decode cX3_lay 174 = .ok (.getfield 55, 3) := by decide +kernel
theorem dX3_lay_177 : decode cX3_lay 177 = .ok (.iconst 1, 1) := by decide +kernel
theorem dX3_lay_178 : decode cX3_lay 178 = .ok (.isub, 1) := by decide +kernel
theorem dX3_lay_179 : decode cX3_lay 179 = .ok (.aload_n 0, 1) := by decide +kernel
theorem dX3_lay_180 : decode cX3_lay 180 = .ok (.invokevirtual 96, 3) := by decide +kernel
theorem dX3_lay_183 : decode cX3_lay 183 = .ok (.aload_n 0, 1) := by decide +kernel
theorem dX3_lay_184 : decode cX3_lay 184 = .ok (.getfield 51, 3) := by decide +kernel
theorem dX3_lay_187 : decode cX3_lay 187 = .ok (.ishl, 1) := by decide +kernel
theorem dX3_lay_188 : decode cX3_lay 188 = .ok (.iload 5, 2) := by decide +kernel
theorem dX3_lay_190 : decode cX3_lay 190 = .ok (.ior, 1) := by decide +kernel
theorem dX3_lay_191 : decode cX3_lay 191 = .ok (.invokestatic 100, 3) := by decide +kernel
theorem dX3_lay_194 : decode cX3_lay 194 = .ok (.putfield 58, 3) := by decide +kernel
theorem dX3_lay_197 : decode cX3_lay 197 = .ok (.aload_n 0, 1) := by decide +kernel
theorem dX3_lay_198 : decode cX3_lay 198 = .ok (.aload_n 2, 1) := by decide +kernel
theorem dX3_lay_199 : decode cX3_lay 199 = .ok (.aload_n 1, 1) := by decide +kernel
theorem dX3_lay_200 : decode cX3_lay 200 = .ok (.getfield 106, 3) := by decide +kernel
theorem dX3_lay_203 : decode cX3_lay 203 = .ok (.iconst 1, 1) := by decide +kernel
theorem dX3_lay_204 : decode cX3_lay 204 = .ok (.invokevirtual 109, 3) := by decide +kernel
theorem dX3_lay_207 : decode cX3_lay 207 = .ok (.return_, 1) := by decide +kernel
set_option maxRecDepth 20000 in
theorem ggX3_turnsToOrder_X3_measure : GoodIn wsX3_turnsToOrder wsX3_measure := goodIn_r _ [7, 8, 9, 10, 11, 1, 12, 13, 14, 15, 16, 17, 18, 19, 20, 21, 22, 6, 23, 24, 25, 26, 27, 28, 29, 30, 31, 32, 33, 34, 35, 36, 37, 38, 39, 40, 41, 42, 43, 44, 45, 46, 47, 48, 49, 50, 51, 52, 53, 54, 55, 56, 57, 58, 59, 60, 61, 62, 63, 64, 65] (by decide +kernel) (by decide +kernel)
set_option maxRecDepth 20000 in
theorem gX3_turnsToOrder_X3_measure : GoodIn wsX3_turnsToOrder (wsV RX3 113 RX3 yX3_measure wsX3_measure) := goodIn_app (goodIn_of _ (by decide +kernel)) ggX3_turnsToOrder_X3_measure
theorem dX3_turnsToOrder_0 : decode cX3_turnsToOrder 0 = .ok (.aload_n 0, 1) := by decide +kernel
theorem dX3_turnsToOrder_1 : decode cX3_turnsToOrder 1 = .ok (.invokevirtual 113, 3) := by decide +kernel
theorem dX3_turnsToOrder_4 : decode cX3_turnsToOrder 4 = .ok (.aload_n 0, 1) := by decide +kernel
theorem dX3_turnsToOrder_5 : decode cX3_turnsToOrder 5 = .ok (.getfield 39, 3) := by decide +kernel
theorem dX3_turnsToOrder_8 : decode cX3_turnsToOrder 8 = .ok (.aload_n 0, 1) := by decide +kernel
theorem dX3_turnsToOrder_9 : decode cX3_turnsToOrder 9 = .ok (.getfield 58, 3) := by decide +kernel
theorem dX3_turnsToOrder_12 : decode cX3_turnsToOrder 12 = .ok (.iaload, 1) := by decide +kernel
theorem dX3_turnsToOrder_13 : decode cX3_turnsToOrder 13 = .ok (.ireturn, 1) := by decide +kernel
set_option maxRecDepth 20000 in
theorem ggX3_turnOfFirstRow_X3_measure : GoodIn wsX3_turnOfFirstRow wsX3_measure := goodIn_r _ [7, 8, 9, 10, 11, 1, 12, 13, 14, 15, 16, 17, 18, 19, 20, 21, 22, 6, 23, 24, 25, 26, 27, 28, 29, 30, 31, 32, 33, 34, 35, 36, 37, 38, 39, 40, 41, 42, 43, 44, 45, 54, 55, 56, 57, 58, 59, 60, 61, 62, 63, 64, 65, 66, 67, 68, 69, 70, 71, 72, 73] (by decide +kernel) (by decide +kernel)
set_option maxRecDepth 20000 in
theorem gX3_turnOfFirstRow_X3_measure : GoodIn wsX3_turnOfFirstRow (wsV RX3 113 RX3 yX3_measure wsX3_measure) := goodIn_app (goodIn_of _ (by decide +kernel)) ggX3_turnOfFirstRow_X3_measure
theorem dX3_turnOfFirstRow_0 : decode cX3_turnOfFirstRow 0 = .ok (.aload_n 0, 1) := by decide +kernel
theorem dX3_turnOfFirstRow_1 : decode cX3_turnOfFirstRow 1 = .ok (.invokevirtual 113, 3) := by decide +kernel
theorem dX3_turnOfFirstRow_4 : decode cX3_turnOfFirstRow 4 = .ok (.iload_n 1, 1) := by decide +kernel
theorem dX3_turnOfFirstRow_5 : decode cX3_turnOfFirstRow 5 = .ok (.ifCond .lt 16, 3) := by decide +kernel
theorem dX3_turnOfFirstRow_8 : decode cX3_turnOfFirstRow 8 = .ok (.iload_n 1, 1) := by decide +kernel
theorem dX3_turnOfFirstRow_9 : decode cX3_turnOfFirstRow 9 = .ok (.aload_n 0, 1) := by decide +kernel
theorem dX3_turnOfFirstRow_10 : decode cX3_turnOfFirstRow 10 = .ok (.getfield 39, 3) := by decide +kernel
theorem dX3_turnOfFirstRow_13 : decode cX3_turnOfFirstRow 13 = .ok (.aload_n 0, 1) := by decide +kernel
theorem dX3_turnOfFirstRow_14 : decode cX3_turnOfFirstRow 14 = .ok (.getfield 58, 3) := by decide +kernel
theorem dX3_turnOfFirstRow_17 : decode cX3_turnOfFirstRow 17 = .ok (.iaload, 1) := by decide +kernel
theorem dX3_turnOfFirstRow_18 : decode cX3_turnOfFirstRow 18 = .ok (.if_icmp .lt 5, 3) := by decide +kernel
theorem dX3_turnOfFirstRow_21 : decode cX3_turnOfFirstRow 21 = .ok (.iconst (-1), 1) := by decide +kernel
theorem dX3_turnOfFirstRow_22 : decode cX3_turnOfFirstRow 22 = .ok (.ireturn, 1) := by decide +kernel
set_option maxRecDepth 20000 in
theorem ggX3_measure_J7_fill_53178 : GoodIn wsX3_measure wsJ7_fill_53178 := goodIn_r _ [22] (by decide +kernel) (by decide +kernel)
set_option maxRecDepth 20000 in
theorem gX3_measure_J7_fill_53178 : GoodIn wsX3_measure (va_wsS RX3 122 yJ7_fill_53178 wsJ7_fill_53178) := goodIn_app (goodIn_of _ (by decide +kernel)) ggX3_measure_J7_fill_53178
set_option maxRecDepth 20000 in
theorem ggX3_measure_X3_isOrdered : GoodIn wsX3_measure wsX3_isOrdered := goodIn_r _ [26, 4, 2, 41, 42, 43, 44, 45, 46, 47, 48, 49, 50, 51, 52, 53, 54, 55, 56, 57, 58, 59, 60] (by decide +kernel) (by decide +kernel)
set_option maxRecDepth 20000 in
theorem gX3_measure_X3_isOrdered : GoodIn wsX3_measure (wsV RX3 148 RX3 yX3_isOrdered wsX3_isOrdered) := goodIn_app (goodIn_of _ (by decide +kernel)) ggX3_measure_X3_isOrdered
theorem dX3_measure_0 : decode cX3_measure 0 = .ok (.aload_n 0, 1) := by decide +kernel
theorem dX3_measure_1 : decode cX3_measure 1 = .ok (.getfield 64, 3) := by decide +kernel
theorem dX3_measure_4 : decode cX3_measure 4 = .ok (.aload_n 0, 1) := by decide +kernel
theorem dX3_measure_5 : decode cX3_measure 5 = .ok (.getfield 51, 3) := by decide +kernel
theorem dX3_measure_8 : decode cX3_measure 8 = .ok (.if_icmp .ne 22, 3) := by decide +kernel
theorem dX3_measure_30 : decode cX3_measure 30 = .ok (.aload_n 0, 1) := by decide +kernel
theorem dX3_measure_31 : decode cX3_measure 31 = .ok (.getfield 39, 3) := by decide +kernel
theorem dX3_measure_34 : decode cX3_measure 34 = .ok (.iconst (-1), 1) := by decide +kernel
theorem dX3_measure_35 : decode cX3_measure 35 = .ok (.invokestatic 122, 3) := by decide +kernel
theorem dX3_measure_38 : decode cX3_measure 38 = .ok (.iconst 0, 1) := by decide +kernel
theorem dX3_measure_39 : decode cX3_measure 39 = .ok (.istore_n 1, 1) := by decide +kernel
theorem dX3_measure_40 : decode cX3_measure 40 = .ok (.iconst 0, 1) := by decide +kernel
theorem dX3_measure_41 : decode cX3_measure 41 = .ok (.istore_n 2, 1) := by decide +kernel
theorem dX3_measure_42 : decode cX3_measure 42 = .ok (.iload_n 2, 1) := by decide +kernel
theorem dX3_measure_43 : decode cX3_measure 43 = .ok (.aload_n 0, 1) := by decide +kernel
theorem dX3_measure_44 : decode cX3_measure 44 = .ok (.getfield 55, 3) := by decide +kernel
theorem dX3_measure_47 : decode cX3_measure 47 = .ok (.if_icmp .ge 34, 3) := by decide +kernel
theorem dX3_measure_50 : decode cX3_measure 50 = .ok (.aload_n 0, 1) := by decide +kernel
theorem dX3_measure_51 : decode cX3_measure 51 = .ok (.iload_n 2, 1) := by decide +kernel
theorem dX3_measure_52 : decode cX3_measure 52 = .ok (.invokevirtual 148, 3) := by decide +kernel
theorem dX3_measure_55 : decode cX3_measure 55 = .ok (.ifCond .eq 26, 3) := by decide +kernel
theorem dX3_measure_58 : decode cX3_measure 58 = .ok (.aload_n 0, 1) := by decide +kernel
theorem dX3_measure_59 : decode cX3_measure 59 = .ok (.getfield 39, 3) := by decide +kernel
theorem dX3_measure_62 : decode cX3_measure 62 = .ok (.iload_n 2, 1) := by decide +kernel
theorem dX3_measure_63 : decode cX3_measure 63 = .ok (.iconst 0, 1) := by decide +kernel
theorem dX3_measure_64 : decode cX3_measure 64 = .ok (.iastore, 1) := by decide +kernel
theorem dX3_measure_65 : decode cX3_measure 65 = .ok (.aload_n 0, 1) := by decide +kernel
theorem dX3_measure_66 : decode cX3_measure 66 = .ok (.getfield 45, 3) := by decide +kernel
theorem dX3_measure_69 : decode cX3_measure 69 = .ok (.iload_n 1, 1) := by decide +kernel
theorem dX3_measure_70 : decode cX3_measure 70 = .ok (.iload_n 2, 1) := by decide +kernel
theorem dX3_measure_71 : decode cX3_measure 71 = .ok (.iastore, 1) := by decide +kernel
theorem dX3_measure_72 : decode cX3_measure 72 = .ok (.iinc 1 1, 3) := by decide +kernel
theorem dX3_measure_75 : decode cX3_measure 75 = .ok (.iinc 2 1, 3) := by decide +kernel
theorem dX3_measure_78 : decode cX3_measure 78 = .ok (.goto (-36), 3) := by decide +kernel
theorem dX3_measure_81 : decode cX3_measure 81 = .ok (.iconst 0, 1) := by decide +kernel
theorem dX3_measure_82 : decode cX3_measure 82 = .ok (.istore_n 2, 1) := by decide +kernel
theorem dX3_measure_83 : decode cX3_measure 83 = .ok (.iload_n 2, 1) := by decide +kernel
theorem dX3_measure_84 : decode cX3_measure 84 = .ok (.aload_n 0, 1) := by decide +kernel
theorem dX3_measure_85 : decode cX3_measure 85 = .ok (.getfield 55, 3) := by decide +kernel
theorem dX3_measure_88 : decode cX3_measure 88 = .ok (.if_icmp .ge 109, 3) := by decide +kernel
theorem dX3_measure_91 : decode cX3_measure 91 = .ok (.iload_n 2, 1) := by decide +kernel
theorem dX3_measure_92 : decode cX3_measure 92 = .ok (.iload_n 1, 1) := by decide +kernel
theorem dX3_measure_93 : decode cX3_measure 93 = .ok (.if_icmp .ge 104, 3) := by decide +kernel
theorem dX3_measure_96 : decode cX3_measure 96 = .ok (.aload_n 0, 1) := by decide +kernel
theorem dX3_measure_97 : decode cX3_measure 97 = .ok (.getfield 45, 3) := by decide +kernel
theorem dX3_measure_100 : decode cX3_measure 100 = .ok (.iload_n 2, 1) := by decide +kernel
theorem dX3_measure_101 : decode cX3_measure 101 = .ok (.iaload, 1) := by decide +kernel
theorem dX3_measure_102 : decode cX3_measure 102 = .ok (.istore_n 3, 1) := by decide +kernel
theorem dX3_measure_103 : decode cX3_measure 103 = .ok (.iconst 1, 1) := by decide +kernel
theorem dX3_measure_104 : decode cX3_measure 104 = .ok (.istore 4, 2) := by decide +kernel
theorem dX3_measure_106 : decode cX3_measure 106 = .ok (.iload 4, 2) := by decide +kernel
theorem dX3_measure_108 : decode cX3_measure 108 = .ok (.aload_n 0, 1) := by decide +kernel
theorem dX3_measure_109 : decode cX3_measure 109 = .ok (.getfield 51, 3) := by decide +kernel
theorem dX3_measure_112 : decode cX3_measure 112 = .ok (.if_icmp .gt 79, 3) := by decide +kernel
theorem dX3_measure_191 : decode cX3_measure 191 = .ok (.iinc 2 1, 3) := by decide +kernel
theorem dX3_measure_194 : decode cX3_measure 194 = .ok (.goto (-111), 3) := by decide +kernel
theorem dX3_measure_197 : decode cX3_measure 197 = .ok (.aload_n 0, 1) := by decide +kernel
theorem dX3_measure_198 : decode cX3_measure 198 = .ok (.aload_n 0, 1) := by decide +kernel
theorem dX3_measure_199 : decode cX3_measure 199 = .ok (.getfield 51, 3) := by decide +kernel
theorem dX3_measure_202 : decode cX3_measure 202 = .ok (.putfield 64, 3) := by decide +kernel
theorem dX3_measure_205 : decode cX3_measure 205 = .ok (.aload_n 0, 1) := by decide +kernel
theorem dX3_measure_206 : decode cX3_measure 206 = .ok (.aload_n 0, 1) := by decide +kernel
theorem dX3_measure_207 : decode cX3_measure 207 = .ok (.getfield 61, 3) := by decide +kernel
theorem dX3_measure_210 : decode cX3_measure 210 = .ok (.putfield 67, 3) := by decide +kernel
theorem dX3_measure_213 : decode cX3_measure 213 = .ok (.aload_n 0, 1) := by decide +kernel
theorem dX3_measure_214 : decode cX3_measure 214 = .ok (.getfield 18, 3) := by decide +kernel
theorem dX3_measure_217 : decode cX3_measure 217 = .ok (.iconst 0, 1) := by decide +kernel
theorem dX3_measure_218 : decode cX3_measure 218 = .ok (.aload_n 0, 1) := by decide +kernel
theorem dX3_measure_219 : decode cX3_measure 219 = .ok (.getfield 24, 3) := by decide +kernel
theorem dX3_measure_222 : decode cX3_measure 222 = .ok (.iconst 0, 1) := by decide +kernel
theorem dX3_measure_223 : decode cX3_measure 223 = .ok (.sipush 504, 3) := by decide +kernel
theorem dX3_measure_226 : decode cX3_measure 226 = .ok (.invokestatic 165, 3) := by decide +kernel
theorem dX3_measure_229 : decode cX3_measure 229 = .ok (.return_, 1) := by decide +kernel
theorem dX3_isOrdered_0 : decode cX3_isOrdered 0 = .ok (.aload_n 0, 1) := by decide +kernel
theorem dX3_isOrdered_1 : decode cX3_isOrdered 1 = .ok (.getfield 61, 3) := by decide +kernel
theorem dX3_isOrdered_4 : decode cX3_isOrdered 4 = .ok (.iconst 1, 1) := by decide +kernel
theorem dX3_isOrdered_5 : decode cX3_isOrdered 5 = .ok (.if_icmp .ne 15, 3) := by decide +kernel
theorem dX3_isOrdered_8 : decode cX3_isOrdered 8 = .ok (.iload_n 1, 1) := by decide +kernel
theorem dX3_isOrdered_9 : decode cX3_isOrdered 9 = .ok (.ifCond .ne 7, 3) := by decide +kernel
theorem dX3_isOrdered_12 : decode cX3_isOrdered 12 = .ok (.iconst 1, 1) := by decide +kernel
theorem dX3_isOrdered_13 : decode cX3_isOrdered 13 = .ok (.goto 21, 3) := by decide +kernel
theorem dX3_isOrdered_16 : decode cX3_isOrdered 16 = .ok (.iconst 0, 1) := by decide +kernel
theorem dX3_isOrdered_17 : decode cX3_isOrdered 17 = .ok (.goto 17, 3) := by decide +kernel
theorem dX3_isOrdered_20 : decode cX3_isOrdered 20 = .ok (.iload_n 1, 1) := by decide +kernel
theorem dX3_isOrdered_21 : decode cX3_isOrdered 21 = .ok (.aload_n 0, 1) := by decide +kernel
theorem dX3_isOrdered_22 : decode cX3_isOrdered 22 = .ok (.getfield 51, 3) := by decide +kernel
theorem dX3_isOrdered_25 : decode cX3_isOrdered 25 = .ok (.ishr, 1) := by decide +kernel
theorem dX3_isOrdered_26 : decode cX3_isOrdered 26 = .ok (.ifCond .ne 7, 3) := by decide +kernel
theorem dX3_isOrdered_29 : decode cX3_isOrdered 29 = .ok (.iconst 1, 1) := by decide +kernel
theorem dX3_isOrdered_30 : decode cX3_isOrdered 30 = .ok (.goto 4, 3) := by decide +kernel
theorem dX3_isOrdered_33 : decode cX3_isOrdered 33 = .ok (.iconst 0, 1) := by decide +kernel
theorem dX3_isOrdered_34 : decode cX3_isOrdered 34 = .ok (.ireturn, 1) := by decide +kernel
set_option maxRecDepth 20000 in
theorem ggX3_askCases_J7_fill_53178 : GoodIn wsX3_askCases wsJ7_fill_53178 := goodIn_r _ [8] (by decide +kernel) (by decide +kernel)
set_option maxRecDepth 20000 in
theorem gX3_askCases_J7_fill_53178 : GoodIn wsX3_askCases (va_wsS RX3 122 yJ7_fill_53178 wsJ7_fill_53178) := goodIn_app (goodIn_of _ (by decide +kernel)) ggX3_askCases_J7_fill_53178
set_option maxRecDepth 20000 in
theorem ggX3_askCases_X1_setCommon : GoodIn wsX3_askCases wsX1_setCommon := goodIn_r _ [13, 14, 77, 78, 79] (by decide +kernel) (by decide +kernel)
set_option maxRecDepth 20000 in
theorem gX3_askCases_X1_setCommon : GoodIn wsX3_askCases (wsV RX3 175 RX1 yX1_setCommon wsX1_setCommon) := goodIn_app (goodIn_of _ (by decide +kernel)) ggX3_askCases_X1_setCommon
theorem dX3_askCases_0 : decode cX3_askCases 0 = .ok (.iload_n 3, 1) := by decide +kernel
theorem dX3_askCases_1 : decode cX3_askCases 1 = .ok (.iconst 1, 1) := by decide +kernel
theorem dX3_askCases_2 : decode cX3_askCases 2 = .ok (.if_icmp .ne 10, 3) := by decide +kernel
theorem dX3_askCases_5 : decode cX3_askCases 5 = .ok (.aload_n 0, 1) := by decide +kernel
theorem dX3_askCases_6 : decode cX3_askCases 6 = .ok (.getfield 18, 3) := by decide +kernel
theorem dX3_askCases_9 : decode cX3_askCases 9 = .ok (.goto 7, 3) := by decide +kernel
theorem dX3_askCases_16 : decode cX3_askCases 16 = .ok (.astore 4, 2) := by decide +kernel
theorem dX3_askCases_18 : decode cX3_askCases 18 = .ok (.aload 4, 2) := by decide +kernel
theorem dX3_askCases_20 : decode cX3_askCases 20 = .ok (.iconst 0, 1) := by decide +kernel
theorem dX3_askCases_21 : decode cX3_askCases 21 = .ok (.invokestatic 122, 3) := by decide +kernel
theorem dX3_askCases_24 : decode cX3_askCases 24 = .ok (.aload_n 1, 1) := by decide +kernel
theorem dX3_askCases_25 : decode cX3_askCases 25 = .ok (.aload_n 0, 1) := by decide +kernel
theorem dX3_askCases_26 : decode cX3_askCases 26 = .ok (.getfield 51, 3) := by decide +kernel
theorem dX3_askCases_29 : decode cX3_askCases 29 = .ok (.iload_n 2, 1) := by decide +kernel
theorem dX3_askCases_30 : decode cX3_askCases 30 = .ok (.invokevirtual 175, 3) := by decide +kernel
theorem dX3_askCases_33 : decode cX3_askCases 33 = .ok (.iconst 1, 1) := by decide +kernel
theorem dX3_askCases_34 : decode cX3_askCases 34 = .ok (.istore 5, 2) := by decide +kernel
theorem dX3_askCases_36 : decode cX3_askCases 36 = .ok (.iload 5, 2) := by decide +kernel
theorem dX3_askCases_38 : decode cX3_askCases 38 = .ok (.aload_n 0, 1) := by decide +kernel
theorem dX3_askCases_39 : decode cX3_askCases 39 = .ok (.getfield 51, 3) := by decide +kernel
theorem dX3_askCases_42 : decode cX3_askCases 42 = .ok (.if_icmp .gt 173, 3) := by decide +kernel
theorem dX3_askCases_215 : decode cX3_askCases 215 = .ok (.return_, 1) := by decide +kernel
set_option maxRecDepth 20000 in
theorem ggX3_numberOfOrder_X9_bit : GoodIn wsX3_numberOfOrder wsX9_bit := goodIn_r _ [5] (by decide +kernel) (by decide +kernel)
set_option maxRecDepth 20000 in
theorem gX3_numberOfOrder_X9_bit_n133 : GoodIn wsX3_numberOfOrder (wsX9_bit) := ggX3_numberOfOrder_X9_bit
theorem dX3_numberOfOrder_0 : decode cX3_numberOfOrder 0 = .ok (.iconst 0, 1) := by decide +kernel
theorem dX3_numberOfOrder_1 : decode cX3_numberOfOrder 1 = .ok (.istore_n 1, 1) := by decide +kernel
theorem dX3_numberOfOrder_2 : decode cX3_numberOfOrder 2 = .ok (.iconst 0, 1) := by decide +kernel
theorem dX3_numberOfOrder_3 : decode cX3_numberOfOrder 3 = .ok (.istore_n 2, 1) := by decide +kernel
theorem dX3_numberOfOrder_4 : decode cX3_numberOfOrder 4 = .ok (.iload_n 2, 1) := by decide +kernel
theorem dX3_numberOfOrder_5 : decode cX3_numberOfOrder 5 = .ok (.bipush 6, 2) := by decide +kernel
theorem dX3_numberOfOrder_7 : decode cX3_numberOfOrder 7 = .ok (.if_icmp .ge 63, 3) := by decide +kernel
theorem dX3_numberOfOrder_10 : decode cX3_numberOfOrder 10 = .ok (.iconst 0, 1) := by decide +kernel
theorem dX3_numberOfOrder_11 : decode cX3_numberOfOrder 11 = .ok (.istore_n 3, 1) := by decide +kernel
theorem dX3_numberOfOrder_12 : decode cX3_numberOfOrder 12 = .ok (.iconst 0, 1) := by decide +kernel
theorem dX3_numberOfOrder_13 : decode cX3_numberOfOrder 13 = .ok (.istore 4, 2) := by decide +kernel
theorem dX3_numberOfOrder_15 : decode cX3_numberOfOrder 15 = .ok (.iload 4, 2) := by decide +kernel
theorem dX3_numberOfOrder_17 : decode cX3_numberOfOrder 17 = .ok (.iload_n 2, 1) := by decide +kernel
theorem dX3_numberOfOrder_18 : decode cX3_numberOfOrder 18 = .ok (.if_icmp .ge 36, 3) := by decide +kernel
theorem dX3_numberOfOrder_21 : decode cX3_numberOfOrder 21 = .ok (.iload_n 3, 1) := by decide +kernel
theorem dX3_numberOfOrder_22 : decode cX3_numberOfOrder 22 = .ok (.aload_n 0, 1) := by decide +kernel
theorem dX3_numberOfOrder_23 : decode cX3_numberOfOrder 23 = .ok (.getfield 15, 3) := by decide +kernel
theorem dX3_numberOfOrder_26 : decode cX3_numberOfOrder 26 = .ok (.iload 4, 2) := by decide +kernel
theorem dX3_numberOfOrder_28 : decode cX3_numberOfOrder 28 = .ok (.iaload, 1) := by decide +kernel
theorem dX3_numberOfOrder_29 : decode cX3_numberOfOrder 29 = .ok (.aload_n 0, 1) := by decide +kernel
theorem dX3_numberOfOrder_30 : decode cX3_numberOfOrder 30 = .ok (.getfield 15, 3) := by decide +kernel
theorem dX3_numberOfOrder_33 : decode cX3_numberOfOrder 33 = .ok (.iload_n 2, 1) := by decide +kernel
theorem dX3_numberOfOrder_34 : decode cX3_numberOfOrder 34 = .ok (.iaload, 1) := by decide +kernel
theorem dX3_numberOfOrder_35 : decode cX3_numberOfOrder 35 = .ok (.if_icmp .le 7, 3) := by decide +kernel
theorem dX3_numberOfOrder_42 : decode cX3_numberOfOrder 42 = .ok (.iconst 0, 1) := by decide +kernel
theorem dX3_numberOfOrder_43 : decode cX3_numberOfOrder 43 = .ok (.invokestatic 133, 3) := by decide +kernel
theorem dX3_numberOfOrder_46 : decode cX3_numberOfOrder 46 = .ok (.iadd, 1) := by decide +kernel
theorem dX3_numberOfOrder_47 : decode cX3_numberOfOrder 47 = .ok (.istore_n 3, 1) := by decide +kernel
theorem dX3_numberOfOrder_48 : decode cX3_numberOfOrder 48 = .ok (.iinc 4 1, 3) := by decide +kernel
theorem dX3_numberOfOrder_51 : decode cX3_numberOfOrder 51 = .ok (.goto (-36), 3) := by decide +kernel
theorem dX3_numberOfOrder_54 : decode cX3_numberOfOrder 54 = .ok (.iload_n 1, 1) := by decide +kernel
theorem dX3_numberOfOrder_55 : decode cX3_numberOfOrder 55 = .ok (.iload_n 3, 1) := by decide +kernel
theorem dX3_numberOfOrder_56 : decode cX3_numberOfOrder 56 = .ok (.getstatic 76, 3) := by decide +kernel
theorem dX3_numberOfOrder_59 : decode cX3_numberOfOrder 59 = .ok (.iload_n 2, 1) := by decide +kernel
theorem dX3_numberOfOrder_60 : decode cX3_numberOfOrder 60 = .ok (.iaload, 1) := by decide +kernel
theorem dX3_numberOfOrder_61 : decode cX3_numberOfOrder 61 = .ok (.imul, 1) := by decide +kernel
theorem dX3_numberOfOrder_62 : decode cX3_numberOfOrder 62 = .ok (.iadd, 1) := by decide +kernel
theorem dX3_numberOfOrder_63 : decode cX3_numberOfOrder 63 = .ok (.istore_n 1, 1) := by decide +kernel
theorem dX3_numberOfOrder_64 : decode cX3_numberOfOrder 64 = .ok (.iinc 2 1, 3) := by decide +kernel
theorem dX3_numberOfOrder_67 : decode cX3_numberOfOrder 67 = .ok (.goto (-63), 3) := by decide +kernel
theorem dX3_numberOfOrder_70 : decode cX3_numberOfOrder 70 = .ok (.iload_n 1, 1) := by decide +kernel
theorem dX3_numberOfOrder_71 : decode cX3_numberOfOrder 71 = .ok (.ireturn, 1) := by decide +kernel
set_option maxRecDepth 20000 in
theorem ggX9_spread_X3_lay : GoodIn wsX9_spread wsX3_lay := goodIn_r _ [7, 8, 9, 10, 11, 12, 13, 14, 15, 16, 17, 18, 19, 20, 21, 22, 6, 23, 24, 25, 26, 27, 28, 29, 30, 31, 32, 33, 34, 35, 36, 37, 38, 39, 40, 41, 42, 43, 44, 45, 46, 47, 48, 49, 50, 51, 52, 53, 54, 55, 56, 57, 58, 59, 60, 61, 62, 63, 64, 65, 66, 67, 68, 69, 70, 71, 72, 73, 74, 75, 76, 77, 78, 79, 80, 81, 82, 83, 84, 85, 86, 87, 88, 89, 90, 91, 92, 93, 94, 95, 96, 97, 98, 99, 100, 101, 102, 103, 104, 105, 106, 107, 108, 109, 110, 111, 141, 142, 143, 144, 145, 146, 147, 148, 149, 150, 151, 152, 153, 154, 155, 156, 157, 158, 159, 160, 161, 162, 163, 164, 165, 166, 167, 168, 169, 170, 171, 172, 173, 174, 175, 176, 177, 178] (by decide +kernel) (by decide +kernel)
set_option maxRecDepth 20000 in
theorem gX9_spread_X3_lay : GoodIn wsX9_spread (wsV RX9 346 RX3 yX3_lay wsX3_lay) := goodIn_app (goodIn_of _ (by decide +kernel)) ggX9_spread_X3_lay
theorem dX9_spread_0 : decode cX9_spread 0 = .ok (.aload_n 0, 1) := by decide +kernel
theorem dX9_spread_1 : decode cX9_spread 1 = .ok (.getfield 80, 3) := by decide +kernel
theorem dX9_spread_4 : decode cX9_spread 4 = .ok (.aload_n 0, 1) := by decide +kernel
theorem dX9_spread_5 : decode cX9_spread 5 = .ok (.getfield 10, 3) := by decide +kernel
theorem dX9_spread_8 : decode cX9_spread 8 = .ok (.getfield 122, 3) := by decide +kernel
theorem dX9_spread_11 : decode cX9_spread 11 = .ok (.aload_n 1, 1) := by decide +kernel
theorem dX9_spread_12 : decode cX9_spread 12 = .ok (.aload_n 0, 1) := by decide +kernel
theorem dX9_spread_13 : decode cX9_spread 13 = .ok (.getfield 10, 3) := by decide +kernel
theorem dX9_spread_16 : decode cX9_spread 16 = .ok (.getfield 267, 3) := by decide +kernel
theorem dX9_spread_19 : decode cX9_spread 19 = .ok (.invokevirtual 346, 3) := by decide +kernel
theorem dX9_spread_22 : decode cX9_spread 22 = .ok (.return_, 1) := by decide +kernel
