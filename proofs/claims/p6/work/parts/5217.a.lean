set_option maxRecDepth 20000 in
theorem ggX3_lay_X3_makeRoom : GoodIn wsX3_lay wsX3_makeRoom := goodIn_r _ [17, 4, 18, 5, 19, 20, 21, 3, 1, 22, 23, 24, 25, 26, 27, 28, 16, 29, 7, 30, 31, 32, 33, 34, 35, 36, 37, 38, 39, 40, 41, 42, 43, 111, 112, 113, 114, 115, 116, 117, 118, 119, 120, 121, 122, 123, 124, 125, 126, 127, 128, 129, 130] rfl (by decide +kernel)
set_option maxRecDepth 20000 in
theorem gX3_lay_X3_makeRoom : GoodIn wsX3_lay (wsV RX3 79 RX3 yX3_makeRoom wsX3_makeRoom) := goodIn_app (goodIn_of _ (by decide +kernel)) ggX3_lay_X3_makeRoom
set_option maxRecDepth 20000 in
theorem ggX3_lay_X8_has : GoodIn wsX3_lay wsX8_has := goodIn_r _ [48, 49, 50, 106, 107, 108, 109, 110] rfl (by decide +kernel)
set_option maxRecDepth 20000 in
theorem gX3_lay_X8_has : GoodIn wsX3_lay (wsV RX3 82 RX8 yX8_has wsX8_has) := goodIn_app (goodIn_of _ (by decide +kernel)) ggX3_lay_X8_has
set_option maxRecDepth 20000 in
theorem ggX3_lay_X3_indexOfRank : GoodIn wsX3_lay wsX3_indexOfRank := goodIn_r _ [54, 1, 6, 111, 112, 113, 114, 115, 116, 117, 118, 119, 120, 121, 122, 123, 124, 125, 126, 127, 128, 129, 130] rfl (by decide +kernel)
set_option maxRecDepth 20000 in
theorem gX3_lay_X3_indexOfRank : GoodIn wsX3_lay (wsV RX3 89 RX3 yX3_indexOfRank wsX3_indexOfRank) := goodIn_app (goodIn_of _ (by decide +kernel)) ggX3_lay_X3_indexOfRank
set_option maxRecDepth 20000 in
theorem ggX3_lay_X3_numberOfOrder : GoodIn wsX3_lay wsX3_numberOfOrder := goodIn_r _ [40, 7, 3, 34, 35, 36, 111, 112, 113, 114, 115, 116, 117, 118, 119, 120, 121, 122, 123, 124, 125, 126, 127, 128, 129, 130] rfl (by decide +kernel)
set_option maxRecDepth 20000 in
theorem gX3_lay_X3_numberOfOrder : GoodIn wsX3_lay (wsV RX3 96 RX3 yX3_numberOfOrder wsX3_numberOfOrder) := goodIn_app (goodIn_of _ (by decide +kernel)) ggX3_lay_X3_numberOfOrder
set_option maxRecDepth 20000 in
theorem ggX3_lay_X3_askCases : GoodIn wsX3_lay wsX3_askCases := goodIn_r _ [58, 59, 60, 1, 6, 61, 62, 63, 64, 65, 66, 67, 68, 69, 70, 71, 72, 73, 74, 75, 76, 77, 78, 79, 80, 81, 82, 83, 84, 85, 86, 87, 88, 9, 10, 11, 89, 90, 91, 92, 93, 94, 34, 35, 36, 95, 96, 97, 98, 99, 100, 101, 102, 103, 104, 16, 105, 111, 112, 113, 114, 115, 116, 117, 118, 119, 120, 121, 122, 123, 124, 125, 126, 127, 128, 129, 130, 131, 132, 133, 134, 135, 136, 137, 138, 139, 140, 141, 142, 143] rfl (by decide +kernel)
set_option maxRecDepth 20000 in
theorem gX3_lay_X3_askCases : GoodIn wsX3_lay (wsV RX3 109 RX3 yX3_askCases wsX3_askCases) := goodIn_app (goodIn_of _ (by decide +kernel)) ggX3_lay_X3_askCases
theorem da9_dX3_lay_0 : (decode cX3_lay 0 = .ok (.aload_n 0, 1)) ∧ (decode cX3_lay 1 = .ok (.aload_n 1, 1)) ∧ (decode cX3_lay 2 = .ok (.getfield 73, 3)) ∧ (decode cX3_lay 5 = .ok (.putfield 51, 3)) ∧ (decode cX3_lay 8 = .ok (.aload_n 0, 1)) ∧ (decode cX3_lay 9 = .ok (.iload_n 3, 1)) ∧ (decode cX3_lay 10 = .ok (.putfield 61, 3)) ∧ (decode cX3_lay 13 = .ok (.aload_n 0, 1)) ∧ (decode cX3_lay 14 = .ok (.getstatic 76, 3)) ∧ (decode cX3_lay 17 = .ok (.aload_n 0, 1)) ∧ (decode cX3_lay 18 = .ok (.getfield 51, 3)) ∧ (decode cX3_lay 21 = .ok (.iaload, 1)) ∧ (decode cX3_lay 22 = .ok (.aload_n 0, 1)) ∧ (decode cX3_lay 23 = .ok (.getfield 51, 3)) ∧ (decode cX3_lay 26 = .ok (.ishl, 1)) ∧ (decode cX3_lay 27 = .ok (.putfield 55, 3)) := by decide +kernel
theorem dX3_lay_0 : decode cX3_lay 0 = .ok (.aload_n 0, 1) := da9_dX3_lay_0.1
theorem dX3_lay_1 : decode cX3_lay 1 = .ok (.aload_n 1, 1) := da9_dX3_lay_0.2.1
theorem dX3_lay_2 : decode cX3_lay 2 = .ok (.getfield 73, 3) := da9_dX3_lay_0.2.2.1
theorem dX3_lay_5 : decode cX3_lay 5 = .ok (.putfield 51, 3) := da9_dX3_lay_0.2.2.2.1
theorem dX3_lay_8 : decode cX3_lay 8 = .ok (.aload_n 0, 1) := da9_dX3_lay_0.2.2.2.2.1
theorem dX3_lay_9 : decode cX3_lay 9 = .ok (.iload_n 3, 1) := da9_dX3_lay_0.2.2.2.2.2.1
theorem dX3_lay_10 : decode cX3_lay 10 = .ok (.putfield 61, 3) := da9_dX3_lay_0.2.2.2.2.2.2.1
theorem dX3_lay_13 : decode cX3_lay 13 = .ok (.aload_n 0, 1) := da9_dX3_lay_0.2.2.2.2.2.2.2.1
theorem dX3_lay_14 : decode cX3_lay 14 = .ok (.getstatic 76, 3) := da9_dX3_lay_0.2.2.2.2.2.2.2.2.1
theorem dX3_lay_17 : decode cX3_lay 17 = .ok (.aload_n 0, 1) := da9_dX3_lay_0.2.2.2.2.2.2.2.2.2.1
theorem dX3_lay_18 : decode cX3_lay 18 = .ok (.getfield 51, 3) := da9_dX3_lay_0.2.2.2.2.2.2.2.2.2.2.1
theorem dX3_lay_21 : decode cX3_lay 21 = .ok (.iaload, 1) := da9_dX3_lay_0.2.2.2.2.2.2.2.2.2.2.2.1
theorem dX3_lay_22 : decode cX3_lay 22 = .ok (.aload_n 0, 1) := da9_dX3_lay_0.2.2.2.2.2.2.2.2.2.2.2.2.1
theorem dX3_lay_23 : decode cX3_lay 23 = .ok (.getfield 51, 3) := da9_dX3_lay_0.2.2.2.2.2.2.2.2.2.2.2.2.2.1
theorem dX3_lay_26 : decode cX3_lay 26 = .ok (.ishl, 1) := da9_dX3_lay_0.2.2.2.2.2.2.2.2.2.2.2.2.2.2.1
theorem dX3_lay_27 : decode cX3_lay 27 = .ok (.putfield 55, 3) := da9_dX3_lay_0.2.2.2.2.2.2.2.2.2.2.2.2.2.2.2
theorem da9_dX3_lay_30 : (decode cX3_lay 30 = .ok (.aload_n 0, 1)) ∧ (decode cX3_lay 31 = .ok (.getfield 55, 3)) ∧ (decode cX3_lay 34 = .ok (.aload_n 0, 1)) ∧ (decode cX3_lay 35 = .ok (.getfield 39, 3)) ∧ (decode cX3_lay 38 = .ok (.arraylength, 1)) ∧ (decode cX3_lay 39 = .ok (.if_icmp .le 7, 3)) ∧ (decode cX3_lay 42 = .ok (.aload_n 0, 1)) ∧ (decode cX3_lay 43 = .ok (.invokevirtual 79, 3)) ∧ (decode cX3_lay 46 = .ok (.iconst 0, 1)) ∧ (decode cX3_lay 47 = .ok (.istore 4, 2)) ∧ (decode cX3_lay 49 = .ok (.iconst 0, 1)) ∧ (decode cX3_lay 50 = .ok (.istore 5, 2)) ∧ (decode cX3_lay 52 = .ok (.iload 5, 2)) ∧ (decode cX3_lay 54 = .ok (.bipush 6, 2)) ∧ (decode cX3_lay 56 = .ok (.if_icmp .ge 37, 3)) ∧ (decode cX3_lay 59 = .ok (.aload_n 1, 1)) := by decide +kernel
theorem dX3_lay_30 : decode cX3_lay 30 = .ok (.aload_n 0, 1) := da9_dX3_lay_30.1
theorem dX3_lay_31 : decode cX3_lay 31 = .ok (.getfield 55, 3) := da9_dX3_lay_30.2.1
theorem dX3_lay_34 : decode cX3_lay 34 = .ok (.aload_n 0, 1) := da9_dX3_lay_30.2.2.1
theorem dX3_lay_35 : decode cX3_lay 35 = .ok (.getfield 39, 3) := da9_dX3_lay_30.2.2.2.1
theorem dX3_lay_38 : decode cX3_lay 38 = .ok (.arraylength, 1) := da9_dX3_lay_30.2.2.2.2.1
theorem dX3_lay_39 : decode cX3_lay 39 = .ok (.if_icmp .le 7, 3) := da9_dX3_lay_30.2.2.2.2.2.1
theorem dX3_lay_42 : decode cX3_lay 42 = .ok (.aload_n 0, 1) := da9_dX3_lay_30.2.2.2.2.2.2.1
theorem dX3_lay_43 : decode cX3_lay 43 = .ok (.invokevirtual 79, 3) := da9_dX3_lay_30.2.2.2.2.2.2.2.1
theorem dX3_lay_46 : decode cX3_lay 46 = .ok (.iconst 0, 1) := da9_dX3_lay_30.2.2.2.2.2.2.2.2.1
theorem dX3_lay_47 : decode cX3_lay 47 = .ok (.istore 4, 2) := da9_dX3_lay_30.2.2.2.2.2.2.2.2.2.1
theorem dX3_lay_49 : decode cX3_lay 49 = .ok (.iconst 0, 1) := da9_dX3_lay_30.2.2.2.2.2.2.2.2.2.2.1
theorem dX3_lay_50 : decode cX3_lay 50 = .ok (.istore 5, 2) := da9_dX3_lay_30.2.2.2.2.2.2.2.2.2.2.2.1
theorem dX3_lay_52 : decode cX3_lay 52 = .ok (.iload 5, 2) := da9_dX3_lay_30.2.2.2.2.2.2.2.2.2.2.2.2.1
theorem dX3_lay_54 : decode cX3_lay 54 = .ok (.bipush 6, 2) := da9_dX3_lay_30.2.2.2.2.2.2.2.2.2.2.2.2.2.1
theorem dX3_lay_56 : decode cX3_lay 56 = .ok (.if_icmp .ge 37, 3) := da9_dX3_lay_30.2.2.2.2.2.2.2.2.2.2.2.2.2.2.1
theorem dX3_lay_59 : decode cX3_lay 59 = .ok (.aload_n 1, 1) := da9_dX3_lay_30.2.2.2.2.2.2.2.2.2.2.2.2.2.2.2
theorem da9_dX3_lay_60 : (decode cX3_lay 60 = .ok (.iload 5, 2)) ∧ (decode cX3_lay 62 = .ok (.invokevirtual 82, 3)) ∧ (decode cX3_lay 65 = .ok (.ifCond .eq 22, 3)) ∧ (decode cX3_lay 68 = .ok (.iload 4, 2)) ∧ (decode cX3_lay 70 = .ok (.bipush 6, 2)) ∧ (decode cX3_lay 72 = .ok (.if_icmp .ge 15, 3)) ∧ (decode cX3_lay 75 = .ok (.aload_n 0, 1)) ∧ (decode cX3_lay 76 = .ok (.getfield 9, 3)) ∧ (decode cX3_lay 79 = .ok (.iload 4, 2)) ∧ (decode cX3_lay 81 = .ok (.iload 5, 2)) ∧ (decode cX3_lay 83 = .ok (.iastore, 1)) ∧ (decode cX3_lay 84 = .ok (.iinc 4 1, 3)) ∧ (decode cX3_lay 87 = .ok (.iinc 5 1, 3)) ∧ (decode cX3_lay 90 = .ok (.goto (-38), 3)) ∧ (decode cX3_lay 93 = .ok (.iconst 0, 1)) ∧ (decode cX3_lay 94 = .ok (.istore 5, 2)) := by decide +kernel
theorem dX3_lay_60 : decode cX3_lay 60 = .ok (.iload 5, 2) := da9_dX3_lay_60.1
theorem dX3_lay_62 : decode cX3_lay 62 = .ok (.invokevirtual 82, 3) := da9_dX3_lay_60.2.1
theorem dX3_lay_65 : decode cX3_lay 65 = .ok (.ifCond .eq 22, 3) := da9_dX3_lay_60.2.2.1
theorem dX3_lay_68 : decode cX3_lay 68 = .ok (.iload 4, 2) := da9_dX3_lay_60.2.2.2.1
theorem dX3_lay_70 : decode cX3_lay 70 = .ok (.bipush 6, 2) := da9_dX3_lay_60.2.2.2.2.1
theorem dX3_lay_72 : decode cX3_lay 72 = .ok (.if_icmp .ge 15, 3) := da9_dX3_lay_60.2.2.2.2.2.1
theorem dX3_lay_75 : decode cX3_lay 75 = .ok (.aload_n 0, 1) := da9_dX3_lay_60.2.2.2.2.2.2.1
theorem dX3_lay_76 : decode cX3_lay 76 = .ok (.getfield 9, 3) := da9_dX3_lay_60.2.2.2.2.2.2.2.1
theorem dX3_lay_79 : decode cX3_lay 79 = .ok (.iload 4, 2) := da9_dX3_lay_60.2.2.2.2.2.2.2.2.1
theorem dX3_lay_81 : decode cX3_lay 81 = .ok (.iload 5, 2) := da9_dX3_lay_60.2.2.2.2.2.2.2.2.2.1
theorem dX3_lay_83 : decode cX3_lay 83 = .ok (.iastore, 1) := da9_dX3_lay_60.2.2.2.2.2.2.2.2.2.2.1
theorem dX3_lay_84 : decode cX3_lay 84 = .ok (.iinc 4 1, 3) := da9_dX3_lay_60.2.2.2.2.2.2.2.2.2.2.2.1
theorem dX3_lay_87 : decode cX3_lay 87 = .ok (.iinc 5 1, 3) := da9_dX3_lay_60.2.2.2.2.2.2.2.2.2.2.2.2.1
theorem dX3_lay_90 : decode cX3_lay 90 = .ok (.goto (-38), 3) := da9_dX3_lay_60.2.2.2.2.2.2.2.2.2.2.2.2.2.1
theorem dX3_lay_93 : decode cX3_lay 93 = .ok (.iconst 0, 1) := da9_dX3_lay_60.2.2.2.2.2.2.2.2.2.2.2.2.2.2.1
theorem dX3_lay_94 : decode cX3_lay 94 = .ok (.istore 5, 2) := da9_dX3_lay_60.2.2.2.2.2.2.2.2.2.2.2.2.2.2.2
theorem da9_dX3_lay_96 : (decode cX3_lay 96 = .ok (.iconst 0, 1)) ∧ (decode cX3_lay 97 = .ok (.istore 6, 2)) ∧ (decode cX3_lay 99 = .ok (.iload 6, 2)) ∧ (decode cX3_lay 101 = .ok (.bipush 6, 2)) ∧ (decode cX3_lay 103 = .ok (.if_icmp .ge 69, 3)) ∧ (decode cX3_lay 106 = .ok (.aload_n 0, 1)) ∧ (decode cX3_lay 107 = .ok (.getfield 15, 3)) ∧ (decode cX3_lay 110 = .ok (.iload 6, 2)) ∧ (decode cX3_lay 112 = .ok (.iload 6, 2)) ∧ (decode cX3_lay 114 = .ok (.aload_n 0, 1)) ∧ (decode cX3_lay 115 = .ok (.getfield 51, 3)) ∧ (decode cX3_lay 118 = .ok (.if_icmp .ge 17, 3)) ∧ (decode cX3_lay 121 = .ok (.aload_n 0, 1)) ∧ (decode cX3_lay 122 = .ok (.aload_n 1, 1)) ∧ (decode cX3_lay 123 = .ok (.getfield 86, 3)) ∧ (decode cX3_lay 126 = .ok (.iload 6, 2)) := by decide +kernel
theorem dX3_lay_96 : decode cX3_lay 96 = .ok (.iconst 0, 1) := da9_dX3_lay_96.1
theorem dX3_lay_97 : decode cX3_lay 97 = .ok (.istore 6, 2) := da9_dX3_lay_96.2.1
theorem dX3_lay_99 : decode cX3_lay 99 = .ok (.iload 6, 2) := da9_dX3_lay_96.2.2.1
theorem dX3_lay_101 : decode cX3_lay 101 = .ok (.bipush 6, 2) := da9_dX3_lay_96.2.2.2.1
theorem dX3_lay_103 : decode cX3_lay 103 = .ok (.if_icmp .ge 69, 3) := da9_dX3_lay_96.2.2.2.2.1
theorem dX3_lay_106 : decode cX3_lay 106 = .ok (.aload_n 0, 1) := da9_dX3_lay_96.2.2.2.2.2.1
theorem dX3_lay_107 : decode cX3_lay 107 = .ok (.getfield 15, 3) := da9_dX3_lay_96.2.2.2.2.2.2.1
theorem dX3_lay_110 : decode cX3_lay 110 = .ok (.iload 6, 2) := da9_dX3_lay_96.2.2.2.2.2.2.2.1
theorem dX3_lay_112 : decode cX3_lay 112 = .ok (.iload 6, 2) := da9_dX3_lay_96.2.2.2.2.2.2.2.2.1
theorem dX3_lay_114 : decode cX3_lay 114 = .ok (.aload_n 0, 1) := da9_dX3_lay_96.2.2.2.2.2.2.2.2.2.1
theorem dX3_lay_115 : decode cX3_lay 115 = .ok (.getfield 51, 3) := da9_dX3_lay_96.2.2.2.2.2.2.2.2.2.2.1
theorem dX3_lay_118 : decode cX3_lay 118 = .ok (.if_icmp .ge 17, 3) := da9_dX3_lay_96.2.2.2.2.2.2.2.2.2.2.2.1
theorem dX3_lay_121 : decode cX3_lay 121 = .ok (.aload_n 0, 1) := da9_dX3_lay_96.2.2.2.2.2.2.2.2.2.2.2.2.1
theorem dX3_lay_122 : decode cX3_lay 122 = .ok (.aload_n 1, 1) := da9_dX3_lay_96.2.2.2.2.2.2.2.2.2.2.2.2.2.1
theorem dX3_lay_123 : decode cX3_lay 123 = .ok (.getfield 86, 3) := da9_dX3_lay_96.2.2.2.2.2.2.2.2.2.2.2.2.2.2.1
theorem dX3_lay_126 : decode cX3_lay 126 = .ok (.iload 6, 2) := da9_dX3_lay_96.2.2.2.2.2.2.2.2.2.2.2.2.2.2.2
theorem da9_dX3_lay_128 : (decode cX3_lay 128 = .ok (.iaload, 1)) ∧ (decode cX3_lay 129 = .ok (.invokevirtual 89, 3)) ∧ (decode cX3_lay 132 = .ok (.goto 5, 3)) ∧ (decode cX3_lay 135 = .ok (.iload 6, 2)) ∧ (decode cX3_lay 137 = .ok (.iastore, 1)) ∧ (decode cX3_lay 138 = .ok (.iload 5, 2)) ∧ (decode cX3_lay 140 = .ok (.iload 6, 2)) ∧ (decode cX3_lay 142 = .ok (.aload_n 0, 1)) ∧ (decode cX3_lay 143 = .ok (.getfield 51, 3)) ∧ (decode cX3_lay 146 = .ok (.if_icmp .ge 16, 3)) ∧ (decode cX3_lay 149 = .ok (.aload_n 1, 1)) ∧ (decode cX3_lay 150 = .ok (.getfield 93, 3)) ∧ (decode cX3_lay 153 = .ok (.iload 6, 2)) ∧ (decode cX3_lay 155 = .ok (.iaload, 1)) ∧ (decode cX3_lay 156 = .ok (.iload 6, 2)) ∧ (decode cX3_lay 158 = .ok (.ishl, 1)) := by decide +kernel
theorem dX3_lay_128 : decode cX3_lay 128 = .ok (.iaload, 1) := da9_dX3_lay_128.1
theorem dX3_lay_129 : decode cX3_lay 129 = .ok (.invokevirtual 89, 3) := da9_dX3_lay_128.2.1
theorem dX3_lay_132 : decode cX3_lay 132 = .ok (.goto 5, 3) := da9_dX3_lay_128.2.2.1
theorem dX3_lay_135 : decode cX3_lay 135 = .ok (.iload 6, 2) := da9_dX3_lay_128.2.2.2.1
theorem dX3_lay_137 : decode cX3_lay 137 = .ok (.iastore, 1) := da9_dX3_lay_128.2.2.2.2.1
theorem dX3_lay_138 : decode cX3_lay 138 = .ok (.iload 5, 2) := da9_dX3_lay_128.2.2.2.2.2.1
theorem dX3_lay_140 : decode cX3_lay 140 = .ok (.iload 6, 2) := da9_dX3_lay_128.2.2.2.2.2.2.1
theorem dX3_lay_142 : decode cX3_lay 142 = .ok (.aload_n 0, 1) := da9_dX3_lay_128.2.2.2.2.2.2.2.1
theorem dX3_lay_143 : decode cX3_lay 143 = .ok (.getfield 51, 3) := da9_dX3_lay_128.2.2.2.2.2.2.2.2.1
theorem dX3_lay_146 : decode cX3_lay 146 = .ok (.if_icmp .ge 16, 3) := da9_dX3_lay_128.2.2.2.2.2.2.2.2.2.1
theorem dX3_lay_149 : decode cX3_lay 149 = .ok (.aload_n 1, 1) := da9_dX3_lay_128.2.2.2.2.2.2.2.2.2.2.1
theorem dX3_lay_150 : decode cX3_lay 150 = .ok (.getfield 93, 3) := da9_dX3_lay_128.2.2.2.2.2.2.2.2.2.2.2.1
theorem dX3_lay_153 : decode cX3_lay 153 = .ok (.iload 6, 2) := da9_dX3_lay_128.2.2.2.2.2.2.2.2.2.2.2.2.1
theorem dX3_lay_155 : decode cX3_lay 155 = .ok (.iaload, 1) := da9_dX3_lay_128.2.2.2.2.2.2.2.2.2.2.2.2.2.1
theorem dX3_lay_156 : decode cX3_lay 156 = .ok (.iload 6, 2) := da9_dX3_lay_128.2.2.2.2.2.2.2.2.2.2.2.2.2.2.1
theorem dX3_lay_158 : decode cX3_lay 158 = .ok (.ishl, 1) := da9_dX3_lay_128.2.2.2.2.2.2.2.2.2.2.2.2.2.2.2
theorem da9_dX3_lay_159 : (decode cX3_lay 159 = .ok (.goto 4, 3)) ∧ (decode cX3_lay 162 = .ok (.iconst 0, 1)) ∧ (decode cX3_lay 163 = .ok (.ior, 1)) ∧ (decode cX3_lay 164 = .ok (.istore 5, 2)) ∧ (decode cX3_lay 166 = .ok (.iinc 6 1, 3)) ∧ (decode cX3_lay 169 = .ok (.goto (-70), 3)) ∧ (decode cX3_lay 172 = .ok (.aload_n 0, 1)) ∧ (decode cX3_lay 173 = .ok (.aload_n 0, 1)) ∧ (decode cX3_lay 174 = .ok (.getfield 55, 3)) ∧ (decode cX3_lay 177 = .ok (.iconst 1, 1)) ∧ (decode cX3_lay 178 = .ok (.isub, 1)) ∧ (decode cX3_lay 179 = .ok (.aload_n 0, 1)) ∧ (decode cX3_lay 180 = .ok (.invokevirtual 96, 3)) ∧ (decode cX3_lay 183 = .ok (.aload_n 0, 1)) ∧ (decode cX3_lay 184 = .ok (.getfield 51, 3)) ∧ (decode cX3_lay 187 = .ok (.ishl, 1)) := by decide +kernel
theorem dX3_lay_159 : decode cX3_lay 159 = .ok (.goto 4, 3) := da9_dX3_lay_159.1
theorem dX3_lay_162 : decode cX3_lay 162 = .ok (.iconst 0, 1) := da9_dX3_lay_159.2.1
theorem dX3_lay_163 : decode cX3_lay 163 = .ok (.ior, 1) := da9_dX3_lay_159.2.2.1
theorem dX3_lay_164 : decode cX3_lay 164 = .ok (.istore 5, 2) := da9_dX3_lay_159.2.2.2.1
theorem dX3_lay_166 : decode cX3_lay 166 = .ok (.iinc 6 1, 3) := da9_dX3_lay_159.2.2.2.2.1
theorem dX3_lay_169 : decode cX3_lay 169 = .ok (.goto (-70), 3) := da9_dX3_lay_159.2.2.2.2.2.1
theorem dX3_lay_172 : decode cX3_lay 172 = .ok (.aload_n 0, 1) := da9_dX3_lay_159.2.2.2.2.2.2.1
theorem dX3_lay_173 : decode cX3_lay 173 = .ok (.aload_n 0, 1) := da9_dX3_lay_159.2.2.2.2.2.2.2.1
theorem dX3_lay_174 : decode cX3_lay 174 = .ok (.getfield 55, 3) := da9_dX3_lay_159.2.2.2.2.2.2.2.2.1
theorem dX3_lay_177 : decode cX3_lay 177 = .ok (.iconst 1, 1) := da9_dX3_lay_159.2.2.2.2.2.2.2.2.2.1
theorem dX3_lay_178 : decode cX3_lay 178 = .ok (.isub, 1) := da9_dX3_lay_159.2.2.2.2.2.2.2.2.2.2.1
theorem dX3_lay_179 : decode cX3_lay 179 = .ok (.aload_n 0, 1) := da9_dX3_lay_159.2.2.2.2.2.2.2.2.2.2.2.1
theorem dX3_lay_180 : decode cX3_lay 180 = .ok (.invokevirtual 96, 3) := da9_dX3_lay_159.2.2.2.2.2.2.2.2.2.2.2.2.1
theorem dX3_lay_183 : decode cX3_lay 183 = .ok (.aload_n 0, 1) := da9_dX3_lay_159.2.2.2.2.2.2.2.2.2.2.2.2.2.1
theorem dX3_lay_184 : decode cX3_lay 184 = .ok (.getfield 51, 3) := da9_dX3_lay_159.2.2.2.2.2.2.2.2.2.2.2.2.2.2.1
theorem dX3_lay_187 : decode cX3_lay 187 = .ok (.ishl, 1) := da9_dX3_lay_159.2.2.2.2.2.2.2.2.2.2.2.2.2.2.2
theorem da9_dX3_lay_188 : (decode cX3_lay 188 = .ok (.iload 5, 2)) ∧ (decode cX3_lay 190 = .ok (.ior, 1)) ∧ (decode cX3_lay 191 = .ok (.invokestatic 100, 3)) ∧ (decode cX3_lay 194 = .ok (.putfield 58, 3)) ∧ (decode cX3_lay 197 = .ok (.aload_n 0, 1)) ∧ (decode cX3_lay 198 = .ok (.aload_n 2, 1)) ∧ (decode cX3_lay 199 = .ok (.aload_n 1, 1)) ∧ (decode cX3_lay 200 = .ok (.getfield 106, 3)) ∧ (decode cX3_lay 203 = .ok (.iconst 1, 1)) ∧ (decode cX3_lay 204 = .ok (.invokevirtual 109, 3)) ∧ (decode cX3_lay 207 = .ok (.return_, 1)) := by decide +kernel
theorem dX3_lay_188 : decode cX3_lay 188 = .ok (.iload 5, 2) := da9_dX3_lay_188.1
theorem dX3_lay_190 : decode cX3_lay 190 = .ok (.ior, 1) := da9_dX3_lay_188.2.1
theorem dX3_lay_191 : decode cX3_lay 191 = .ok (.invokestatic 100, 3) := da9_dX3_lay_188.2.2.1
theorem dX3_lay_194 : decode cX3_lay 194 = .ok (.putfield 58, 3) := da9_dX3_lay_188.2.2.2.1
theorem dX3_lay_197 : decode cX3_lay 197 = .ok (.aload_n 0, 1) := da9_dX3_lay_188.2.2.2.2.1
theorem dX3_lay_198 : decode cX3_lay 198 = .ok (.aload_n 2, 1) := da9_dX3_lay_188.2.2.2.2.2.1
theorem dX3_lay_199 : decode cX3_lay 199 = .ok (.aload_n 1, 1) := da9_dX3_lay_188.2.2.2.2.2.2.1
theorem dX3_lay_200 : decode cX3_lay 200 = .ok (.getfield 106, 3) := da9_dX3_lay_188.2.2.2.2.2.2.2.1
theorem dX3_lay_203 : decode cX3_lay 203 = .ok (.iconst 1, 1) := da9_dX3_lay_188.2.2.2.2.2.2.2.2.1
theorem dX3_lay_204 : decode cX3_lay 204 = .ok (.invokevirtual 109, 3) := da9_dX3_lay_188.2.2.2.2.2.2.2.2.2.1
theorem dX3_lay_207 : decode cX3_lay 207 = .ok (.return_, 1) := da9_dX3_lay_188.2.2.2.2.2.2.2.2.2.2
theorem da9_dX3_sameBars_0 : (decode cX3_sameBars 0 = .ok (.iconst 0, 1)) ∧ (decode cX3_sameBars 1 = .ok (.istore_n 1, 1)) ∧ (decode cX3_sameBars 2 = .ok (.iload_n 1, 1)) ∧ (decode cX3_sameBars 3 = .ok (.sipush 504, 3)) ∧ (decode cX3_sameBars 6 = .ok (.if_icmp .ge 26, 3)) ∧ (decode cX3_sameBars 9 = .ok (.aload_n 0, 1)) ∧ (decode cX3_sameBars 10 = .ok (.getfield 18, 3)) ∧ (decode cX3_sameBars 13 = .ok (.iload_n 1, 1)) ∧ (decode cX3_sameBars 14 = .ok (.iaload, 1)) ∧ (decode cX3_sameBars 15 = .ok (.aload_n 0, 1)) ∧ (decode cX3_sameBars 16 = .ok (.getfield 24, 3)) ∧ (decode cX3_sameBars 19 = .ok (.iload_n 1, 1)) ∧ (decode cX3_sameBars 20 = .ok (.iaload, 1)) ∧ (decode cX3_sameBars 21 = .ok (.if_icmp .eq 5, 3)) ∧ (decode cX3_sameBars 24 = .ok (.iconst 0, 1)) ∧ (decode cX3_sameBars 25 = .ok (.ireturn, 1)) := by decide +kernel
theorem dX3_sameBars_0 : decode cX3_sameBars 0 = .ok (.iconst 0, 1) := da9_dX3_sameBars_0.1
theorem dX3_sameBars_1 : decode cX3_sameBars 1 = .ok (.istore_n 1, 1) := da9_dX3_sameBars_0.2.1
theorem dX3_sameBars_2 : decode cX3_sameBars 2 = .ok (.iload_n 1, 1) := da9_dX3_sameBars_0.2.2.1
theorem dX3_sameBars_3 : decode cX3_sameBars 3 = .ok (.sipush 504, 3) := da9_dX3_sameBars_0.2.2.2.1
theorem dX3_sameBars_6 : decode cX3_sameBars 6 = .ok (.if_icmp .ge 26, 3) := da9_dX3_sameBars_0.2.2.2.2.1
theorem dX3_sameBars_9 : decode cX3_sameBars 9 = .ok (.aload_n 0, 1) := da9_dX3_sameBars_0.2.2.2.2.2.1
theorem dX3_sameBars_10 : decode cX3_sameBars 10 = .ok (.getfield 18, 3) := da9_dX3_sameBars_0.2.2.2.2.2.2.1
theorem dX3_sameBars_13 : decode cX3_sameBars 13 = .ok (.iload_n 1, 1) := da9_dX3_sameBars_0.2.2.2.2.2.2.2.1
theorem dX3_sameBars_14 : decode cX3_sameBars 14 = .ok (.iaload, 1) := da9_dX3_sameBars_0.2.2.2.2.2.2.2.2.1
theorem dX3_sameBars_15 : decode cX3_sameBars 15 = .ok (.aload_n 0, 1) := da9_dX3_sameBars_0.2.2.2.2.2.2.2.2.2.1
theorem dX3_sameBars_16 : decode cX3_sameBars 16 = .ok (.getfield 24, 3) := da9_dX3_sameBars_0.2.2.2.2.2.2.2.2.2.2.1
theorem dX3_sameBars_19 : decode cX3_sameBars 19 = .ok (.iload_n 1, 1) := da9_dX3_sameBars_0.2.2.2.2.2.2.2.2.2.2.2.1
theorem dX3_sameBars_20 : decode cX3_sameBars 20 = .ok (.iaload, 1) := da9_dX3_sameBars_0.2.2.2.2.2.2.2.2.2.2.2.2.1
theorem dX3_sameBars_21 : decode cX3_sameBars 21 = .ok (.if_icmp .eq 5, 3) := da9_dX3_sameBars_0.2.2.2.2.2.2.2.2.2.2.2.2.2.1
theorem dX3_sameBars_24 : decode cX3_sameBars 24 = .ok (.iconst 0, 1) := da9_dX3_sameBars_0.2.2.2.2.2.2.2.2.2.2.2.2.2.2.1
theorem dX3_sameBars_25 : decode cX3_sameBars 25 = .ok (.ireturn, 1) := da9_dX3_sameBars_0.2.2.2.2.2.2.2.2.2.2.2.2.2.2.2
theorem da9_dX3_sameBars_26 : (decode cX3_sameBars 26 = .ok (.iinc 1 1, 3)) ∧ (decode cX3_sameBars 29 = .ok (.goto (-27), 3)) ∧ (decode cX3_sameBars 32 = .ok (.iconst 1, 1)) ∧ (decode cX3_sameBars 33 = .ok (.ireturn, 1)) := by decide +kernel
theorem dX3_sameBars_26 : decode cX3_sameBars 26 = .ok (.iinc 1 1, 3) := da9_dX3_sameBars_26.1
theorem dX3_sameBars_29 : decode cX3_sameBars 29 = .ok (.goto (-27), 3) := da9_dX3_sameBars_26.2.1
theorem dX3_sameBars_32 : decode cX3_sameBars 32 = .ok (.iconst 1, 1) := da9_dX3_sameBars_26.2.2.1
theorem dX3_sameBars_33 : decode cX3_sameBars 33 = .ok (.ireturn, 1) := da9_dX3_sameBars_26.2.2.2
theorem da9_dX3_isOrdered_0 : (decode cX3_isOrdered 0 = .ok (.aload_n 0, 1)) ∧ (decode cX3_isOrdered 1 = .ok (.getfield 61, 3)) ∧ (decode cX3_isOrdered 4 = .ok (.iconst 1, 1)) ∧ (decode cX3_isOrdered 5 = .ok (.if_icmp .ne 15, 3)) ∧ (decode cX3_isOrdered 8 = .ok (.iload_n 1, 1)) ∧ (decode cX3_isOrdered 9 = .ok (.ifCond .ne 7, 3)) ∧ (decode cX3_isOrdered 12 = .ok (.iconst 1, 1)) ∧ (decode cX3_isOrdered 13 = .ok (.goto 21, 3)) ∧ (decode cX3_isOrdered 16 = .ok (.iconst 0, 1)) ∧ (decode cX3_isOrdered 17 = .ok (.goto 17, 3)) ∧ (decode cX3_isOrdered 20 = .ok (.iload_n 1, 1)) ∧ (decode cX3_isOrdered 21 = .ok (.aload_n 0, 1)) ∧ (decode cX3_isOrdered 22 = .ok (.getfield 51, 3)) ∧ (decode cX3_isOrdered 25 = .ok (.ishr, 1)) ∧ (decode cX3_isOrdered 26 = .ok (.ifCond .ne 7, 3)) ∧ (decode cX3_isOrdered 29 = .ok (.iconst 1, 1)) := by decide +kernel
theorem dX3_isOrdered_0 : decode cX3_isOrdered 0 = .ok (.aload_n 0, 1) := da9_dX3_isOrdered_0.1
theorem dX3_isOrdered_1 : decode cX3_isOrdered 1 = .ok (.getfield 61, 3) := da9_dX3_isOrdered_0.2.1
theorem dX3_isOrdered_4 : decode cX3_isOrdered 4 = .ok (.iconst 1, 1) := da9_dX3_isOrdered_0.2.2.1
theorem dX3_isOrdered_5 : decode cX3_isOrdered 5 = .ok (.if_icmp .ne 15, 3) := da9_dX3_isOrdered_0.2.2.2.1
theorem dX3_isOrdered_8 : decode cX3_isOrdered 8 = .ok (.iload_n 1, 1) := da9_dX3_isOrdered_0.2.2.2.2.1
theorem dX3_isOrdered_9 : decode cX3_isOrdered 9 = .ok (.ifCond .ne 7, 3) := da9_dX3_isOrdered_0.2.2.2.2.2.1
theorem dX3_isOrdered_12 : decode cX3_isOrdered 12 = .ok (.iconst 1, 1) := da9_dX3_isOrdered_0.2.2.2.2.2.2.1
theorem dX3_isOrdered_13 : decode cX3_isOrdered 13 = .ok (.goto 21, 3) := da9_dX3_isOrdered_0.2.2.2.2.2.2.2.1
theorem dX3_isOrdered_16 : decode cX3_isOrdered 16 = .ok (.iconst 0, 1) := da9_dX3_isOrdered_0.2.2.2.2.2.2.2.2.1
theorem dX3_isOrdered_17 : decode cX3_isOrdered 17 = .ok (.goto 17, 3) := da9_dX3_isOrdered_0.2.2.2.2.2.2.2.2.2.1
theorem dX3_isOrdered_20 : decode cX3_isOrdered 20 = .ok (.iload_n 1, 1) := da9_dX3_isOrdered_0.2.2.2.2.2.2.2.2.2.2.1
theorem dX3_isOrdered_21 : decode cX3_isOrdered 21 = .ok (.aload_n 0, 1) := da9_dX3_isOrdered_0.2.2.2.2.2.2.2.2.2.2.2.1
theorem dX3_isOrdered_22 : decode cX3_isOrdered 22 = .ok (.getfield 51, 3) := da9_dX3_isOrdered_0.2.2.2.2.2.2.2.2.2.2.2.2.1
theorem dX3_isOrdered_25 : decode cX3_isOrdered 25 = .ok (.ishr, 1) := da9_dX3_isOrdered_0.2.2.2.2.2.2.2.2.2.2.2.2.2.1
theorem dX3_isOrdered_26 : decode cX3_isOrdered 26 = .ok (.ifCond .ne 7, 3) := da9_dX3_isOrdered_0.2.2.2.2.2.2.2.2.2.2.2.2.2.2.1
theorem dX3_isOrdered_29 : decode cX3_isOrdered 29 = .ok (.iconst 1, 1) := da9_dX3_isOrdered_0.2.2.2.2.2.2.2.2.2.2.2.2.2.2.2
theorem da9_dX3_isOrdered_30 : (decode cX3_isOrdered 30 = .ok (.goto 4, 3)) ∧ (decode cX3_isOrdered 33 = .ok (.iconst 0, 1)) ∧ (decode cX3_isOrdered 34 = .ok (.ireturn, 1)) := by decide +kernel
theorem dX3_isOrdered_30 : decode cX3_isOrdered 30 = .ok (.goto 4, 3) := da9_dX3_isOrdered_30.1
theorem dX3_isOrdered_33 : decode cX3_isOrdered 33 = .ok (.iconst 0, 1) := da9_dX3_isOrdered_30.2.1
theorem dX3_isOrdered_34 : decode cX3_isOrdered 34 = .ok (.ireturn, 1) := da9_dX3_isOrdered_30.2.2
theorem da9_dX3_turned_0 : (decode cX3_turned 0 = .ok (.iload_n 2, 1)) ∧ (decode cX3_turned 1 = .ok (.iconst 1, 1)) ∧ (decode cX3_turned 2 = .ok (.if_icmp .lt 11, 3)) ∧ (decode cX3_turned 5 = .ok (.iload_n 2, 1)) ∧ (decode cX3_turned 6 = .ok (.aload_n 0, 1)) ∧ (decode cX3_turned 7 = .ok (.getfield 51, 3)) ∧ (decode cX3_turned 10 = .ok (.if_icmp .le 5, 3)) ∧ (decode cX3_turned 13 = .ok (.iload_n 1, 1)) ∧ (decode cX3_turned 14 = .ok (.ireturn, 1)) ∧ (decode cX3_turned 15 = .ok (.iload_n 1, 1)) ∧ (decode cX3_turned 16 = .ok (.iconst 1, 1)) ∧ (decode cX3_turned 17 = .ok (.aload_n 0, 1)) ∧ (decode cX3_turned 18 = .ok (.getfield 51, 3)) ∧ (decode cX3_turned 21 = .ok (.ishl, 1)) ∧ (decode cX3_turned 22 = .ok (.iconst 1, 1)) ∧ (decode cX3_turned 23 = .ok (.isub, 1)) := by decide +kernel
theorem dX3_turned_0 : decode cX3_turned 0 = .ok (.iload_n 2, 1) := da9_dX3_turned_0.1
theorem dX3_turned_1 : decode cX3_turned 1 = .ok (.iconst 1, 1) := da9_dX3_turned_0.2.1
theorem dX3_turned_2 : decode cX3_turned 2 = .ok (.if_icmp .lt 11, 3) := da9_dX3_turned_0.2.2.1
theorem dX3_turned_5 : decode cX3_turned 5 = .ok (.iload_n 2, 1) := da9_dX3_turned_0.2.2.2.1
theorem dX3_turned_6 : decode cX3_turned 6 = .ok (.aload_n 0, 1) := da9_dX3_turned_0.2.2.2.2.1
theorem dX3_turned_7 : decode cX3_turned 7 = .ok (.getfield 51, 3) := da9_dX3_turned_0.2.2.2.2.2.1
theorem dX3_turned_10 : decode cX3_turned 10 = .ok (.if_icmp .le 5, 3) := da9_dX3_turned_0.2.2.2.2.2.2.1
theorem dX3_turned_13 : decode cX3_turned 13 = .ok (.iload_n 1, 1) := da9_dX3_turned_0.2.2.2.2.2.2.2.1
theorem dX3_turned_14 : decode cX3_turned 14 = .ok (.ireturn, 1) := da9_dX3_turned_0.2.2.2.2.2.2.2.2.1
theorem dX3_turned_15 : decode cX3_turned 15 = .ok (.iload_n 1, 1) := da9_dX3_turned_0.2.2.2.2.2.2.2.2.2.1
theorem dX3_turned_16 : decode cX3_turned 16 = .ok (.iconst 1, 1) := da9_dX3_turned_0.2.2.2.2.2.2.2.2.2.2.1
theorem dX3_turned_17 : decode cX3_turned 17 = .ok (.aload_n 0, 1) := da9_dX3_turned_0.2.2.2.2.2.2.2.2.2.2.2.1
theorem dX3_turned_18 : decode cX3_turned 18 = .ok (.getfield 51, 3) := da9_dX3_turned_0.2.2.2.2.2.2.2.2.2.2.2.2.1
theorem dX3_turned_21 : decode cX3_turned 21 = .ok (.ishl, 1) := da9_dX3_turned_0.2.2.2.2.2.2.2.2.2.2.2.2.2.1
theorem dX3_turned_22 : decode cX3_turned 22 = .ok (.iconst 1, 1) := da9_dX3_turned_0.2.2.2.2.2.2.2.2.2.2.2.2.2.2.1
theorem dX3_turned_23 : decode cX3_turned 23 = .ok (.isub, 1) := da9_dX3_turned_0.2.2.2.2.2.2.2.2.2.2.2.2.2.2.2
theorem da9_dX3_turned_24 : (decode cX3_turned 24 = .ok (.iand, 1)) ∧ (decode cX3_turned 25 = .ok (.istore_n 3, 1)) ∧ (decode cX3_turned 26 = .ok (.aload_n 0, 1)) ∧ (decode cX3_turned 27 = .ok (.getfield 33, 3)) ∧ (decode cX3_turned 30 = .ok (.iload_n 1, 1)) ∧ (decode cX3_turned 31 = .ok (.aload_n 0, 1)) ∧ (decode cX3_turned 32 = .ok (.getfield 51, 3)) ∧ (decode cX3_turned 35 = .ok (.ishr, 1)) ∧ (decode cX3_turned 36 = .ok (.bipush 6, 2)) ∧ (decode cX3_turned 38 = .ok (.imul, 1)) ∧ (decode cX3_turned 39 = .ok (.iload_n 2, 1)) ∧ (decode cX3_turned 40 = .ok (.iadd, 1)) ∧ (decode cX3_turned 41 = .ok (.iconst 1, 1)) ∧ (decode cX3_turned 42 = .ok (.isub, 1)) ∧ (decode cX3_turned 43 = .ok (.iaload, 1)) ∧ (decode cX3_turned 44 = .ok (.istore 4, 2)) := by decide +kernel
theorem dX3_turned_24 : decode cX3_turned 24 = .ok (.iand, 1) := da9_dX3_turned_24.1
theorem dX3_turned_25 : decode cX3_turned 25 = .ok (.istore_n 3, 1) := da9_dX3_turned_24.2.1
theorem dX3_turned_26 : decode cX3_turned 26 = .ok (.aload_n 0, 1) := da9_dX3_turned_24.2.2.1
theorem dX3_turned_27 : decode cX3_turned 27 = .ok (.getfield 33, 3) := da9_dX3_turned_24.2.2.2.1
theorem dX3_turned_30 : decode cX3_turned 30 = .ok (.iload_n 1, 1) := da9_dX3_turned_24.2.2.2.2.1
theorem dX3_turned_31 : decode cX3_turned 31 = .ok (.aload_n 0, 1) := da9_dX3_turned_24.2.2.2.2.2.1
theorem dX3_turned_32 : decode cX3_turned 32 = .ok (.getfield 51, 3) := da9_dX3_turned_24.2.2.2.2.2.2.1
theorem dX3_turned_35 : decode cX3_turned 35 = .ok (.ishr, 1) := da9_dX3_turned_24.2.2.2.2.2.2.2.1
theorem dX3_turned_36 : decode cX3_turned 36 = .ok (.bipush 6, 2) := da9_dX3_turned_24.2.2.2.2.2.2.2.2.1
theorem dX3_turned_38 : decode cX3_turned 38 = .ok (.imul, 1) := da9_dX3_turned_24.2.2.2.2.2.2.2.2.2.1
theorem dX3_turned_39 : decode cX3_turned 39 = .ok (.iload_n 2, 1) := da9_dX3_turned_24.2.2.2.2.2.2.2.2.2.2.1
theorem dX3_turned_40 : decode cX3_turned 40 = .ok (.iadd, 1) := da9_dX3_turned_24.2.2.2.2.2.2.2.2.2.2.2.1
theorem dX3_turned_41 : decode cX3_turned 41 = .ok (.iconst 1, 1) := da9_dX3_turned_24.2.2.2.2.2.2.2.2.2.2.2.2.1
theorem dX3_turned_42 : decode cX3_turned 42 = .ok (.isub, 1) := da9_dX3_turned_24.2.2.2.2.2.2.2.2.2.2.2.2.2.1
theorem dX3_turned_43 : decode cX3_turned 43 = .ok (.iaload, 1) := da9_dX3_turned_24.2.2.2.2.2.2.2.2.2.2.2.2.2.2.1
theorem dX3_turned_44 : decode cX3_turned 44 = .ok (.istore 4, 2) := da9_dX3_turned_24.2.2.2.2.2.2.2.2.2.2.2.2.2.2.2
theorem da9_dX3_turned_46 : (decode cX3_turned 46 = .ok (.iload 4, 2)) ∧ (decode cX3_turned 48 = .ok (.aload_n 0, 1)) ∧ (decode cX3_turned 49 = .ok (.getfield 51, 3)) ∧ (decode cX3_turned 52 = .ok (.ishl, 1)) ∧ (decode cX3_turned 53 = .ok (.aload_n 0, 1)) ∧ (decode cX3_turned 54 = .ok (.getfield 36, 3)) ∧ (decode cX3_turned 57 = .ok (.iload_n 3, 1)) ∧ (decode cX3_turned 58 = .ok (.bipush 6, 2)) ∧ (decode cX3_turned 60 = .ok (.imul, 1)) ∧ (decode cX3_turned 61 = .ok (.iload_n 2, 1)) ∧ (decode cX3_turned 62 = .ok (.iadd, 1)) ∧ (decode cX3_turned 63 = .ok (.iconst 1, 1)) ∧ (decode cX3_turned 64 = .ok (.isub, 1)) ∧ (decode cX3_turned 65 = .ok (.iaload, 1)) ∧ (decode cX3_turned 66 = .ok (.ior, 1)) ∧ (decode cX3_turned 67 = .ok (.istore 5, 2)) := by decide +kernel
theorem dX3_turned_46 : decode cX3_turned 46 = .ok (.iload 4, 2) := da9_dX3_turned_46.1
theorem dX3_turned_48 : decode cX3_turned 48 = .ok (.aload_n 0, 1) := da9_dX3_turned_46.2.1
theorem dX3_turned_49 : decode cX3_turned 49 = .ok (.getfield 51, 3) := da9_dX3_turned_46.2.2.1
theorem dX3_turned_52 : decode cX3_turned 52 = .ok (.ishl, 1) := da9_dX3_turned_46.2.2.2.1
theorem dX3_turned_53 : decode cX3_turned 53 = .ok (.aload_n 0, 1) := da9_dX3_turned_46.2.2.2.2.1
theorem dX3_turned_54 : decode cX3_turned 54 = .ok (.getfield 36, 3) := da9_dX3_turned_46.2.2.2.2.2.1
theorem dX3_turned_57 : decode cX3_turned 57 = .ok (.iload_n 3, 1) := da9_dX3_turned_46.2.2.2.2.2.2.1
theorem dX3_turned_58 : decode cX3_turned 58 = .ok (.bipush 6, 2) := da9_dX3_turned_46.2.2.2.2.2.2.2.1
theorem dX3_turned_60 : decode cX3_turned 60 = .ok (.imul, 1) := da9_dX3_turned_46.2.2.2.2.2.2.2.2.1
theorem dX3_turned_61 : decode cX3_turned 61 = .ok (.iload_n 2, 1) := da9_dX3_turned_46.2.2.2.2.2.2.2.2.2.1
theorem dX3_turned_62 : decode cX3_turned 62 = .ok (.iadd, 1) := da9_dX3_turned_46.2.2.2.2.2.2.2.2.2.2.1
theorem dX3_turned_63 : decode cX3_turned 63 = .ok (.iconst 1, 1) := da9_dX3_turned_46.2.2.2.2.2.2.2.2.2.2.2.1
theorem dX3_turned_64 : decode cX3_turned 64 = .ok (.isub, 1) := da9_dX3_turned_46.2.2.2.2.2.2.2.2.2.2.2.2.1
theorem dX3_turned_65 : decode cX3_turned 65 = .ok (.iaload, 1) := da9_dX3_turned_46.2.2.2.2.2.2.2.2.2.2.2.2.2.1
theorem dX3_turned_66 : decode cX3_turned 66 = .ok (.ior, 1) := da9_dX3_turned_46.2.2.2.2.2.2.2.2.2.2.2.2.2.2.1
theorem dX3_turned_67 : decode cX3_turned 67 = .ok (.istore 5, 2) := da9_dX3_turned_46.2.2.2.2.2.2.2.2.2.2.2.2.2.2.2
theorem da9_dX3_turned_69 : (decode cX3_turned 69 = .ok (.iload 5, 2)) ∧ (decode cX3_turned 71 = .ok (.aload_n 0, 1)) ∧ (decode cX3_turned 72 = .ok (.getfield 55, 3)) ∧ (decode cX3_turned 75 = .ok (.if_icmp .ge 8, 3)) ∧ (decode cX3_turned 78 = .ok (.iload 5, 2)) ∧ (decode cX3_turned 80 = .ok (.goto 4, 3)) ∧ (decode cX3_turned 83 = .ok (.iload_n 1, 1)) ∧ (decode cX3_turned 84 = .ok (.ireturn, 1)) := by decide +kernel
theorem dX3_turned_69 : decode cX3_turned 69 = .ok (.iload 5, 2) := da9_dX3_turned_69.1
theorem dX3_turned_71 : decode cX3_turned 71 = .ok (.aload_n 0, 1) := da9_dX3_turned_69.2.1
theorem dX3_turned_72 : decode cX3_turned 72 = .ok (.getfield 55, 3) := da9_dX3_turned_69.2.2.1
theorem dX3_turned_75 : decode cX3_turned 75 = .ok (.if_icmp .ge 8, 3) := da9_dX3_turned_69.2.2.2.1
theorem dX3_turned_78 : decode cX3_turned 78 = .ok (.iload 5, 2) := da9_dX3_turned_69.2.2.2.2.1
theorem dX3_turned_80 : decode cX3_turned 80 = .ok (.goto 4, 3) := da9_dX3_turned_69.2.2.2.2.2.1
theorem dX3_turned_83 : decode cX3_turned 83 = .ok (.iload_n 1, 1) := da9_dX3_turned_69.2.2.2.2.2.2.1
theorem dX3_turned_84 : decode cX3_turned 84 = .ok (.ireturn, 1) := da9_dX3_turned_69.2.2.2.2.2.2.2
set_option maxRecDepth 20000 in
theorem ggX3_caseOf_X3_caseNumber : GoodIn wsX3_caseOf wsX3_caseNumber := goodIn_r _ [6] rfl (by decide +kernel)
set_option maxRecDepth 20000 in
theorem gX3_caseOf_X3_caseNumber : GoodIn wsX3_caseOf (va_wsS RX3 171 yX3_caseNumber wsX3_caseNumber) := goodIn_app (goodIn_of _ (by decide +kernel)) ggX3_caseOf_X3_caseNumber
theorem da9_dX3_caseOf_0 : (decode cX3_caseOf 0 = .ok (.aload_n 0, 1)) ∧ (decode cX3_caseOf 1 = .ok (.getfield 30, 3)) ∧ (decode cX3_caseOf 4 = .ok (.iload_n 1, 1)) ∧ (decode cX3_caseOf 5 = .ok (.aload_n 0, 1)) ∧ (decode cX3_caseOf 6 = .ok (.getfield 51, 3)) ∧ (decode cX3_caseOf 9 = .ok (.ishr, 1)) ∧ (decode cX3_caseOf 10 = .ok (.iaload, 1)) ∧ (decode cX3_caseOf 11 = .ok (.istore_n 3, 1)) ∧ (decode cX3_caseOf 12 = .ok (.iload_n 2, 1)) ∧ (decode cX3_caseOf 13 = .ok (.aload_n 0, 1)) ∧ (decode cX3_caseOf 14 = .ok (.getfield 51, 3)) ∧ (decode cX3_caseOf 17 = .ok (.if_icmp .ge 14, 3)) ∧ (decode cX3_caseOf 20 = .ok (.iload_n 3, 1)) ∧ (decode cX3_caseOf 21 = .ok (.iconst 3, 1)) ∧ (decode cX3_caseOf 22 = .ok (.iload_n 2, 1)) ∧ (decode cX3_caseOf 23 = .ok (.imul, 1)) := by decide +kernel
theorem dX3_caseOf_0 : decode cX3_caseOf 0 = .ok (.aload_n 0, 1) := da9_dX3_caseOf_0.1
theorem dX3_caseOf_1 : decode cX3_caseOf 1 = .ok (.getfield 30, 3) := da9_dX3_caseOf_0.2.1
theorem dX3_caseOf_4 : decode cX3_caseOf 4 = .ok (.iload_n 1, 1) := da9_dX3_caseOf_0.2.2.1
theorem dX3_caseOf_5 : decode cX3_caseOf 5 = .ok (.aload_n 0, 1) := da9_dX3_caseOf_0.2.2.2.1
theorem dX3_caseOf_6 : decode cX3_caseOf 6 = .ok (.getfield 51, 3) := da9_dX3_caseOf_0.2.2.2.2.1
theorem dX3_caseOf_9 : decode cX3_caseOf 9 = .ok (.ishr, 1) := da9_dX3_caseOf_0.2.2.2.2.2.1
theorem dX3_caseOf_10 : decode cX3_caseOf 10 = .ok (.iaload, 1) := da9_dX3_caseOf_0.2.2.2.2.2.2.1
theorem dX3_caseOf_11 : decode cX3_caseOf 11 = .ok (.istore_n 3, 1) := da9_dX3_caseOf_0.2.2.2.2.2.2.2.1
theorem dX3_caseOf_12 : decode cX3_caseOf 12 = .ok (.iload_n 2, 1) := da9_dX3_caseOf_0.2.2.2.2.2.2.2.2.1
theorem dX3_caseOf_13 : decode cX3_caseOf 13 = .ok (.aload_n 0, 1) := da9_dX3_caseOf_0.2.2.2.2.2.2.2.2.2.1
theorem dX3_caseOf_14 : decode cX3_caseOf 14 = .ok (.getfield 51, 3) := da9_dX3_caseOf_0.2.2.2.2.2.2.2.2.2.2.1
theorem dX3_caseOf_17 : decode cX3_caseOf 17 = .ok (.if_icmp .ge 14, 3) := da9_dX3_caseOf_0.2.2.2.2.2.2.2.2.2.2.2.1
theorem dX3_caseOf_20 : decode cX3_caseOf 20 = .ok (.iload_n 3, 1) := da9_dX3_caseOf_0.2.2.2.2.2.2.2.2.2.2.2.2.1
theorem dX3_caseOf_21 : decode cX3_caseOf 21 = .ok (.iconst 3, 1) := da9_dX3_caseOf_0.2.2.2.2.2.2.2.2.2.2.2.2.2.1
theorem dX3_caseOf_22 : decode cX3_caseOf 22 = .ok (.iload_n 2, 1) := da9_dX3_caseOf_0.2.2.2.2.2.2.2.2.2.2.2.2.2.2.1
theorem dX3_caseOf_23 : decode cX3_caseOf 23 = .ok (.imul, 1) := da9_dX3_caseOf_0.2.2.2.2.2.2.2.2.2.2.2.2.2.2.2
theorem da9_dX3_caseOf_24 : (decode cX3_caseOf 24 = .ok (.ishr, 1)) ∧ (decode cX3_caseOf 25 = .ok (.bipush 7, 2)) ∧ (decode cX3_caseOf 27 = .ok (.iand, 1)) ∧ (decode cX3_caseOf 28 = .ok (.goto 5, 3)) ∧ (decode cX3_caseOf 31 = .ok (.bipush 6, 2)) ∧ (decode cX3_caseOf 33 = .ok (.istore 4, 2)) ∧ (decode cX3_caseOf 35 = .ok (.iload_n 2, 1)) ∧ (decode cX3_caseOf 36 = .ok (.iload_n 3, 1)) ∧ (decode cX3_caseOf 37 = .ok (.bipush 7, 2)) ∧ (decode cX3_caseOf 39 = .ok (.iand, 1)) ∧ (decode cX3_caseOf 40 = .ok (.iload 4, 2)) ∧ (decode cX3_caseOf 42 = .ok (.iload_n 1, 1)) ∧ (decode cX3_caseOf 43 = .ok (.iconst 1, 1)) ∧ (decode cX3_caseOf 44 = .ok (.iand, 1)) ∧ (decode cX3_caseOf 45 = .ok (.invokestatic 171, 3)) ∧ (decode cX3_caseOf 48 = .ok (.ireturn, 1)) := by decide +kernel
theorem dX3_caseOf_24 : decode cX3_caseOf 24 = .ok (.ishr, 1) := da9_dX3_caseOf_24.1
theorem dX3_caseOf_25 : decode cX3_caseOf 25 = .ok (.bipush 7, 2) := da9_dX3_caseOf_24.2.1
theorem dX3_caseOf_27 : decode cX3_caseOf 27 = .ok (.iand, 1) := da9_dX3_caseOf_24.2.2.1
theorem dX3_caseOf_28 : decode cX3_caseOf 28 = .ok (.goto 5, 3) := da9_dX3_caseOf_24.2.2.2.1
theorem dX3_caseOf_31 : decode cX3_caseOf 31 = .ok (.bipush 6, 2) := da9_dX3_caseOf_24.2.2.2.2.1
theorem dX3_caseOf_33 : decode cX3_caseOf 33 = .ok (.istore 4, 2) := da9_dX3_caseOf_24.2.2.2.2.2.1
theorem dX3_caseOf_35 : decode cX3_caseOf 35 = .ok (.iload_n 2, 1) := da9_dX3_caseOf_24.2.2.2.2.2.2.1
theorem dX3_caseOf_36 : decode cX3_caseOf 36 = .ok (.iload_n 3, 1) := da9_dX3_caseOf_24.2.2.2.2.2.2.2.1
theorem dX3_caseOf_37 : decode cX3_caseOf 37 = .ok (.bipush 7, 2) := da9_dX3_caseOf_24.2.2.2.2.2.2.2.2.1
theorem dX3_caseOf_39 : decode cX3_caseOf 39 = .ok (.iand, 1) := da9_dX3_caseOf_24.2.2.2.2.2.2.2.2.2.1
theorem dX3_caseOf_40 : decode cX3_caseOf 40 = .ok (.iload 4, 2) := da9_dX3_caseOf_24.2.2.2.2.2.2.2.2.2.2.1
theorem dX3_caseOf_42 : decode cX3_caseOf 42 = .ok (.iload_n 1, 1) := da9_dX3_caseOf_24.2.2.2.2.2.2.2.2.2.2.2.1
theorem dX3_caseOf_43 : decode cX3_caseOf 43 = .ok (.iconst 1, 1) := da9_dX3_caseOf_24.2.2.2.2.2.2.2.2.2.2.2.2.1
theorem dX3_caseOf_44 : decode cX3_caseOf 44 = .ok (.iand, 1) := da9_dX3_caseOf_24.2.2.2.2.2.2.2.2.2.2.2.2.2.1
theorem dX3_caseOf_45 : decode cX3_caseOf 45 = .ok (.invokestatic 171, 3) := da9_dX3_caseOf_24.2.2.2.2.2.2.2.2.2.2.2.2.2.2.1
theorem dX3_caseOf_48 : decode cX3_caseOf 48 = .ok (.ireturn, 1) := da9_dX3_caseOf_24.2.2.2.2.2.2.2.2.2.2.2.2.2.2.2
set_option maxRecDepth 20000 in
theorem ggX9_spread_X3_lay : GoodIn wsX9_spread wsX3_lay := goodIn_r _ [7, 8, 9, 10, 11, 12, 13, 14, 15, 16, 17, 18, 19, 20, 21, 22, 6, 23, 24, 25, 26, 27, 28, 29, 30, 31, 32, 33, 34, 35, 36, 37, 38, 39, 40, 41, 42, 43, 44, 45, 46, 47, 48, 49, 50, 51, 52, 53, 54, 55, 56, 57, 58, 59, 60, 61, 62, 63, 64, 65, 66, 67, 68, 69, 70, 71, 72, 73, 74, 75, 76, 77, 78, 79, 80, 81, 82, 83, 84, 85, 86, 87, 88, 89, 90, 91, 92, 93, 94, 95, 96, 97, 98, 99, 100, 101, 102, 103, 104, 105, 106, 107, 108, 109, 110, 111, 141, 142, 143, 144, 145, 146, 147, 148, 149, 150, 151, 152, 153, 154, 155, 156, 157, 158, 159, 160, 161, 162, 163, 164, 165, 166, 167, 168, 169, 170, 171, 172, 173, 174, 175, 176, 177, 178] rfl (by decide +kernel)
set_option maxRecDepth 20000 in
theorem gX9_spread_X3_lay : GoodIn wsX9_spread (wsV RX9 346 RX3 yX3_lay wsX3_lay) := goodIn_app (goodIn_of _ (by decide +kernel)) ggX9_spread_X3_lay
theorem da9_dX9_spread_0 : (decode cX9_spread 0 = .ok (.aload_n 0, 1)) ∧ (decode cX9_spread 1 = .ok (.getfield 80, 3)) ∧ (decode cX9_spread 4 = .ok (.aload_n 0, 1)) ∧ (decode cX9_spread 5 = .ok (.getfield 10, 3)) ∧ (decode cX9_spread 8 = .ok (.getfield 122, 3)) ∧ (decode cX9_spread 11 = .ok (.aload_n 1, 1)) ∧ (decode cX9_spread 12 = .ok (.aload_n 0, 1)) ∧ (decode cX9_spread 13 = .ok (.getfield 10, 3)) ∧ (decode cX9_spread 16 = .ok (.getfield 267, 3)) ∧ (decode cX9_spread 19 = .ok (.invokevirtual 346, 3)) ∧ (decode cX9_spread 22 = .ok (.return_, 1)) := by decide +kernel
theorem dX9_spread_0 : decode cX9_spread 0 = .ok (.aload_n 0, 1) := da9_dX9_spread_0.1
theorem dX9_spread_1 : decode cX9_spread 1 = .ok (.getfield 80, 3) := da9_dX9_spread_0.2.1
theorem dX9_spread_4 : decode cX9_spread 4 = .ok (.aload_n 0, 1) := da9_dX9_spread_0.2.2.1
theorem dX9_spread_5 : decode cX9_spread 5 = .ok (.getfield 10, 3) := da9_dX9_spread_0.2.2.2.1
theorem dX9_spread_8 : decode cX9_spread 8 = .ok (.getfield 122, 3) := da9_dX9_spread_0.2.2.2.2.1
theorem dX9_spread_11 : decode cX9_spread 11 = .ok (.aload_n 1, 1) := da9_dX9_spread_0.2.2.2.2.2.1
theorem dX9_spread_12 : decode cX9_spread 12 = .ok (.aload_n 0, 1) := da9_dX9_spread_0.2.2.2.2.2.2.1
theorem dX9_spread_13 : decode cX9_spread 13 = .ok (.getfield 10, 3) := da9_dX9_spread_0.2.2.2.2.2.2.2.1
theorem dX9_spread_16 : decode cX9_spread 16 = .ok (.getfield 267, 3) := da9_dX9_spread_0.2.2.2.2.2.2.2.2.1
theorem dX9_spread_19 : decode cX9_spread 19 = .ok (.invokevirtual 346, 3) := da9_dX9_spread_0.2.2.2.2.2.2.2.2.2.1
theorem dX9_spread_22 : decode cX9_spread 22 = .ok (.return_, 1) := da9_dX9_spread_0.2.2.2.2.2.2.2.2.2.2
