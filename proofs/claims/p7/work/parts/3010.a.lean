set_option maxRecDepth 20000 in
theorem ggX10_laysTables_X10_size : GoodIn wsX10_laysTables wsX10_size := goodIn_r _ [11, 12, 31, 32, 33, 34, 35, 36, 37, 38, 39, 40, 41, 42, 43, 44, 45, 46, 47, 48, 49, 50, 51, 52, 53, 54, 55, 56, 57, 58, 59, 60, 61, 62, 63, 64, 65, 66, 67, 68, 69, 70, 71, 72, 73, 74, 75, 76, 77, 78, 79, 80, 81, 82, 83, 84, 85, 86] rfl (by decide +kernel)
set_option maxRecDepth 20000 in
theorem gX10_laysTables_X10_size : GoodIn wsX10_laysTables (wsV RX10 125 RX10 yX10_size wsX10_size) := goodIn_app (goodIn_of _ (by decide +kernel)) ggX10_laysTables_X10_size
set_option maxRecDepth 20000 in
theorem ggX10_laysTables_X10_allOrders : GoodIn wsX10_laysTables wsX10_allOrders := goodIn_r _ [15] rfl (by decide +kernel)
set_option maxRecDepth 20000 in
theorem gX10_laysTables_X10_allOrders : GoodIn wsX10_laysTables (va_wsS RX10 380 yX10_allOrders wsX10_allOrders) := goodIn_app (goodIn_of _ (by decide +kernel)) ggX10_laysTables_X10_allOrders
set_option maxRecDepth 20000 in
theorem ggX10_laysTables_X10_laysOrder : GoodIn wsX10_laysTables wsX10_laysOrder := goodIn_r _ [19, 4, 7, 8, 9, 10, 11, 12, 13, 14, 15, 20, 21, 22, 31, 32, 33, 34, 35, 36, 37, 38, 39, 40, 41, 42, 43, 44, 45, 46, 47, 48, 49, 50, 51, 52, 53, 54, 55, 56, 57, 58, 59, 60, 61, 62, 63, 64, 65, 66, 67, 68, 69, 70, 71, 72, 73, 74, 75, 76, 77, 78, 79, 80, 81, 82, 83, 84, 85, 86] rfl (by decide +kernel)
set_option maxRecDepth 20000 in
theorem gX10_laysTables_X10_laysOrder : GoodIn wsX10_laysTables (wsV RX10 392 RX10 yX10_laysOrder wsX10_laysOrder) := goodIn_app (goodIn_of _ (by decide +kernel)) ggX10_laysTables_X10_laysOrder
set_option maxRecDepth 20000 in
theorem ggX10_laysTables_X10_numberOf : GoodIn wsX10_laysTables wsX10_numberOf := goodIn_r _ [26, 3, 7, 8, 9, 10, 11, 12, 31, 32, 33, 34, 35, 36, 37, 38, 39, 40, 41, 42, 43, 44, 45, 46, 47, 48, 49, 50, 51, 52, 53, 54, 55, 56, 57, 58, 59, 60, 61, 62, 63, 64, 65, 66, 67, 68, 69, 70, 71, 72, 73, 74, 75, 76, 77, 78, 79, 80, 81, 82, 83, 84, 85, 86] rfl (by decide +kernel)
set_option maxRecDepth 20000 in
theorem gX10_laysTables_X10_numberOf : GoodIn wsX10_laysTables (wsV RX10 395 RX10 yX10_numberOf wsX10_numberOf) := goodIn_app (goodIn_of _ (by decide +kernel)) ggX10_laysTables_X10_numberOf
set_option maxRecDepth 20000 in
theorem ggX10_laysTables_X10_headsBehind : GoodIn wsX10_laysTables wsX10_headsBehind := goodIn_r _ [30, 7, 8, 9, 10, 11, 12, 31, 32, 33, 34, 35, 36, 37, 38, 39, 40, 41, 42, 43, 44, 45, 46, 47, 48, 49, 50, 51, 52, 53, 54, 55, 56, 57, 58, 59, 60, 61, 62, 63, 64, 65, 66, 67, 68, 69, 70, 71, 72, 73, 74, 75, 76, 77, 78, 79, 80, 81, 82, 83, 84, 85, 86] rfl (by decide +kernel)
set_option maxRecDepth 20000 in
theorem gX10_laysTables_X10_headsBehind : GoodIn wsX10_laysTables (wsV RX10 398 RX10 yX10_headsBehind wsX10_headsBehind) := goodIn_app (goodIn_of _ (by decide +kernel)) ggX10_laysTables_X10_headsBehind
theorem dX10_laysTables_0 : decode cX10_laysTables 0 = .ok (.aload_n 0, 1) := by decide +kernel
theorem dX10_laysTables_1 : decode cX10_laysTables 1 = .ok (.aload_n 0, 1) := by decide +kernel
theorem dX10_laysTables_2 : decode cX10_laysTables 2 = .ok (.invokevirtual 125, 3) := by decide +kernel
theorem dX10_laysTables_5 : decode cX10_laysTables 5 = .ok (.invokestatic 380, 3) := by decide +kernel
theorem dX10_laysTables_8 : decode cX10_laysTables 8 = .ok (.putfield 386, 3) := by decide +kernel
theorem dX10_laysTables_11 : decode cX10_laysTables 11 = .ok (.aload_n 0, 1) := by decide +kernel
theorem dX10_laysTables_12 : decode cX10_laysTables 12 = .ok (.iconst 1, 1) := by decide +kernel
theorem dX10_laysTables_13 : decode cX10_laysTables 13 = .ok (.aload_n 0, 1) := by decide +kernel
theorem dX10_laysTables_14 : decode cX10_laysTables 14 = .ok (.invokevirtual 125, 3) := by decide +kernel
theorem dX10_laysTables_17 : decode cX10_laysTables 17 = .ok (.ishl, 1) := by decide +kernel
theorem dX10_laysTables_18 : decode cX10_laysTables 18 = .ok (.putfield 389, 3) := by decide +kernel
theorem dX10_laysTables_21 : decode cX10_laysTables 21 = .ok (.iconst 0, 1) := by decide +kernel
theorem dX10_laysTables_22 : decode cX10_laysTables 22 = .ok (.istore_n 1, 1) := by decide +kernel
theorem dX10_laysTables_23 : decode cX10_laysTables 23 = .ok (.iload_n 1, 1) := by decide +kernel
theorem dX10_laysTables_24 : decode cX10_laysTables 24 = .ok (.aload_n 0, 1) := by decide +kernel
theorem dX10_laysTables_25 : decode cX10_laysTables 25 = .ok (.getfield 386, 3) := by decide +kernel
theorem dX10_laysTables_28 : decode cX10_laysTables 28 = .ok (.if_icmp .ge 91, 3) := by decide +kernel
theorem dX10_laysTables_31 : decode cX10_laysTables 31 = .ok (.aload_n 0, 1) := by decide +kernel
theorem dX10_laysTables_32 : decode cX10_laysTables 32 = .ok (.iload_n 1, 1) := by decide +kernel
theorem dX10_laysTables_33 : decode cX10_laysTables 33 = .ok (.invokevirtual 392, 3) := by decide +kernel
theorem dX10_laysTables_36 : decode cX10_laysTables 36 = .ok (.iconst 1, 1) := by decide +kernel
theorem dX10_laysTables_37 : decode cX10_laysTables 37 = .ok (.istore_n 2, 1) := by decide +kernel
theorem dX10_laysTables_38 : decode cX10_laysTables 38 = .ok (.iload_n 2, 1) := by decide +kernel
theorem dX10_laysTables_39 : decode cX10_laysTables 39 = .ok (.aload_n 0, 1) := by decide +kernel
theorem dX10_laysTables_40 : decode cX10_laysTables 40 = .ok (.invokevirtual 125, 3) := by decide +kernel
theorem dX10_laysTables_43 : decode cX10_laysTables 43 = .ok (.if_icmp .gt 70, 3) := by decide +kernel
theorem dX10_laysTables_46 : decode cX10_laysTables 46 = .ok (.iconst 0, 1) := by decide +kernel
theorem dX10_laysTables_47 : decode cX10_laysTables 47 = .ok (.istore_n 3, 1) := by decide +kernel
theorem dX10_laysTables_48 : decode cX10_laysTables 48 = .ok (.iload_n 3, 1) := by decide +kernel
theorem dX10_laysTables_49 : decode cX10_laysTables 49 = .ok (.aload_n 0, 1) := by decide +kernel
theorem dX10_laysTables_50 : decode cX10_laysTables 50 = .ok (.invokevirtual 125, 3) := by decide +kernel
theorem dX10_laysTables_53 : decode cX10_laysTables 53 = .ok (.if_icmp .ge 39, 3) := by decide +kernel
theorem dX10_laysTables_56 : decode cX10_laysTables 56 = .ok (.aload_n 0, 1) := by decide +kernel
theorem dX10_laysTables_57 : decode cX10_laysTables 57 = .ok (.getfield 84, 3) := by decide +kernel
theorem dX10_laysTables_60 : decode cX10_laysTables 60 = .ok (.iload_n 3, 1) := by decide +kernel
theorem dX10_laysTables_61 : decode cX10_laysTables 61 = .ok (.aload_n 0, 1) := by decide +kernel
theorem dX10_laysTables_62 : decode cX10_laysTables 62 = .ok (.getfield 75, 3) := by decide +kernel
theorem dX10_laysTables_65 : decode cX10_laysTables 65 = .ok (.bipush 6, 2) := by decide +kernel
theorem dX10_laysTables_67 : decode cX10_laysTables 67 = .ok (.iload_n 1, 1) := by decide +kernel
theorem dX10_laysTables_68 : decode cX10_laysTables 68 = .ok (.imul, 1) := by decide +kernel
theorem dX10_laysTables_69 : decode cX10_laysTables 69 = .ok (.iload_n 3, 1) := by decide +kernel
theorem dX10_laysTables_70 : decode cX10_laysTables 70 = .ok (.iload_n 2, 1) := by decide +kernel
theorem dX10_laysTables_71 : decode cX10_laysTables 71 = .ok (.if_icmp .ge 11, 3) := by decide +kernel
theorem dX10_laysTables_74 : decode cX10_laysTables 74 = .ok (.iload_n 2, 1) := by decide +kernel
theorem dX10_laysTables_75 : decode cX10_laysTables 75 = .ok (.iconst 1, 1) := by decide +kernel
theorem dX10_laysTables_76 : decode cX10_laysTables 76 = .ok (.isub, 1) := by decide +kernel
theorem dX10_laysTables_77 : decode cX10_laysTables 77 = .ok (.iload_n 3, 1) := by decide +kernel
theorem dX10_laysTables_78 : decode cX10_laysTables 78 = .ok (.isub, 1) := by decide +kernel
theorem dX10_laysTables_79 : decode cX10_laysTables 79 = .ok (.goto 4, 3) := by decide +kernel
theorem dX10_laysTables_82 : decode cX10_laysTables 82 = .ok (.iload_n 3, 1) := by decide +kernel
theorem dX10_laysTables_83 : decode cX10_laysTables 83 = .ok (.iadd, 1) := by decide +kernel
theorem dX10_laysTables_84 : decode cX10_laysTables 84 = .ok (.iaload, 1) := by decide +kernel
theorem dX10_laysTables_85 : decode cX10_laysTables 85 = .ok (.iastore, 1) := by decide +kernel
theorem dX10_laysTables_86 : decode cX10_laysTables 86 = .ok (.iinc 3 1, 3) := by decide +kernel
theorem dX10_laysTables_89 : decode cX10_laysTables 89 = .ok (.goto (-41), 3) := by decide +kernel
theorem dX10_laysTables_92 : decode cX10_laysTables 92 = .ok (.aload_n 0, 1) := by decide +kernel
theorem dX10_laysTables_93 : decode cX10_laysTables 93 = .ok (.getfield 78, 3) := by decide +kernel
theorem dX10_laysTables_96 : decode cX10_laysTables 96 = .ok (.bipush 7, 2) := by decide +kernel
theorem dX10_laysTables_98 : decode cX10_laysTables 98 = .ok (.iload_n 1, 1) := by decide +kernel
theorem dX10_laysTables_99 : decode cX10_laysTables 99 = .ok (.imul, 1) := by decide +kernel
theorem dX10_laysTables_100 : decode cX10_laysTables 100 = .ok (.iload_n 2, 1) := by decide +kernel
theorem dX10_laysTables_101 : decode cX10_laysTables 101 = .ok (.iadd, 1) := by decide +kernel
theorem dX10_laysTables_102 : decode cX10_laysTables 102 = .ok (.aload_n 0, 1) := by decide +kernel
theorem dX10_laysTables_103 : decode cX10_laysTables 103 = .ok (.invokevirtual 395, 3) := by decide +kernel
theorem dX10_laysTables_106 : decode cX10_laysTables 106 = .ok (.iastore, 1) := by decide +kernel
theorem dX10_laysTables_107 : decode cX10_laysTables 107 = .ok (.iinc 2 1, 3) := by decide +kernel
theorem dX10_laysTables_110 : decode cX10_laysTables 110 = .ok (.goto (-72), 3) := by decide +kernel
theorem dX10_laysTables_113 : decode cX10_laysTables 113 = .ok (.iinc 1 1, 3) := by decide +kernel
theorem dX10_laysTables_116 : decode cX10_laysTables 116 = .ok (.goto (-93), 3) := by decide +kernel
theorem dX10_laysTables_119 : decode cX10_laysTables 119 = .ok (.iconst 0, 1) := by decide +kernel
theorem dX10_laysTables_120 : decode cX10_laysTables 120 = .ok (.istore_n 1, 1) := by decide +kernel
theorem dX10_laysTables_121 : decode cX10_laysTables 121 = .ok (.iload_n 1, 1) := by decide +kernel
theorem dX10_laysTables_122 : decode cX10_laysTables 122 = .ok (.aload_n 0, 1) := by decide +kernel
theorem dX10_laysTables_123 : decode cX10_laysTables 123 = .ok (.getfield 389, 3) := by decide +kernel
theorem dX10_laysTables_126 : decode cX10_laysTables 126 = .ok (.if_icmp .ge 42, 3) := by decide +kernel
theorem dX10_laysTables_129 : decode cX10_laysTables 129 = .ok (.iconst 1, 1) := by decide +kernel
theorem dX10_laysTables_130 : decode cX10_laysTables 130 = .ok (.istore_n 2, 1) := by decide +kernel
theorem dX10_laysTables_131 : decode cX10_laysTables 131 = .ok (.iload_n 2, 1) := by decide +kernel
theorem dX10_laysTables_132 : decode cX10_laysTables 132 = .ok (.aload_n 0, 1) := by decide +kernel
theorem dX10_laysTables_133 : decode cX10_laysTables 133 = .ok (.invokevirtual 125, 3) := by decide +kernel
theorem dX10_laysTables_136 : decode cX10_laysTables 136 = .ok (.if_icmp .gt 26, 3) := by decide +kernel
theorem dX10_laysTables_139 : decode cX10_laysTables 139 = .ok (.aload_n 0, 1) := by decide +kernel
theorem dX10_laysTables_140 : decode cX10_laysTables 140 = .ok (.getfield 81, 3) := by decide +kernel
theorem dX10_laysTables_143 : decode cX10_laysTables 143 = .ok (.bipush 7, 2) := by decide +kernel
theorem dX10_laysTables_145 : decode cX10_laysTables 145 = .ok (.iload_n 1, 1) := by decide +kernel
theorem dX10_laysTables_146 : decode cX10_laysTables 146 = .ok (.imul, 1) := by decide +kernel
theorem dX10_laysTables_147 : decode cX10_laysTables 147 = .ok (.iload_n 2, 1) := by decide +kernel
theorem dX10_laysTables_148 : decode cX10_laysTables 148 = .ok (.iadd, 1) := by decide +kernel
theorem dX10_laysTables_149 : decode cX10_laysTables 149 = .ok (.aload_n 0, 1) := by decide +kernel
theorem dX10_laysTables_150 : decode cX10_laysTables 150 = .ok (.iload_n 1, 1) := by decide +kernel
theorem dX10_laysTables_151 : decode cX10_laysTables 151 = .ok (.iload_n 2, 1) := by decide +kernel
theorem dX10_laysTables_152 : decode cX10_laysTables 152 = .ok (.invokevirtual 398, 3) := by decide +kernel
theorem dX10_laysTables_155 : decode cX10_laysTables 155 = .ok (.iastore, 1) := by decide +kernel
theorem dX10_laysTables_156 : decode cX10_laysTables 156 = .ok (.iinc 2 1, 3) := by decide +kernel
theorem dX10_laysTables_159 : decode cX10_laysTables 159 = .ok (.goto (-28), 3) := by decide +kernel
theorem dX10_laysTables_162 : decode cX10_laysTables 162 = .ok (.iinc 1 1, 3) := by decide +kernel
theorem dX10_laysTables_165 : decode cX10_laysTables 165 = .ok (.goto (-44), 3) := by decide +kernel
theorem dX10_laysTables_168 : decode cX10_laysTables 168 = .ok (.return_, 1) := by decide +kernel
theorem dX10_behind_0 : decode cX10_behind 0 = .ok (.bipush 64, 2) := by decide +kernel
theorem dX10_behind_2 : decode cX10_behind 2 = .ok (.aload_n 0, 1) := by decide +kernel
theorem dX10_behind_3 : decode cX10_behind 3 = .ok (.getfield 78, 3) := by decide +kernel
theorem dX10_behind_6 : decode cX10_behind 6 = .ok (.bipush 7, 2) := by decide +kernel
theorem dX10_behind_8 : decode cX10_behind 8 = .ok (.iload_n 1, 1) := by decide +kernel
theorem dX10_behind_9 : decode cX10_behind 9 = .ok (.bipush 64, 2) := by decide +kernel
theorem dX10_behind_11 : decode cX10_behind 11 = .ok (.idiv, 1) := by decide +kernel
theorem dX10_behind_12 : decode cX10_behind 12 = .ok (.imul, 1) := by decide +kernel
theorem dX10_behind_13 : decode cX10_behind 13 = .ok (.iload_n 2, 1) := by decide +kernel
theorem dX10_behind_14 : decode cX10_behind 14 = .ok (.iadd, 1) := by decide +kernel
theorem dX10_behind_15 : decode cX10_behind 15 = .ok (.iaload, 1) := by decide +kernel
theorem dX10_behind_16 : decode cX10_behind 16 = .ok (.imul, 1) := by decide +kernel
theorem dX10_behind_17 : decode cX10_behind 17 = .ok (.aload_n 0, 1) := by decide +kernel
theorem dX10_behind_18 : decode cX10_behind 18 = .ok (.getfield 81, 3) := by decide +kernel
theorem dX10_behind_21 : decode cX10_behind 21 = .ok (.bipush 7, 2) := by decide +kernel
theorem dX10_behind_23 : decode cX10_behind 23 = .ok (.iload_n 1, 1) := by decide +kernel
theorem dX10_behind_24 : decode cX10_behind 24 = .ok (.bipush 64, 2) := by decide +kernel
theorem dX10_behind_26 : decode cX10_behind 26 = .ok (.irem, 1) := by decide +kernel
theorem dX10_behind_27 : decode cX10_behind 27 = .ok (.imul, 1) := by decide +kernel
theorem dX10_behind_28 : decode cX10_behind 28 = .ok (.iload_n 2, 1) := by decide +kernel
theorem dX10_behind_29 : decode cX10_behind 29 = .ok (.iadd, 1) := by decide +kernel
theorem dX10_behind_30 : decode cX10_behind 30 = .ok (.iaload, 1) := by decide +kernel
theorem dX10_behind_31 : decode cX10_behind 31 = .ok (.iadd, 1) := by decide +kernel
theorem dX10_behind_32 : decode cX10_behind 32 = .ok (.ireturn, 1) := by decide +kernel
set_option maxRecDepth 20000 in
theorem ggX10_rankOf_X10_size : GoodIn wsX10_rankOf wsX10_size := goodIn_r _ [6, 1, 11, 12, 13, 14, 15, 16, 17, 18, 19, 20, 21, 22, 23, 24, 25, 26, 27, 28, 29, 30, 31, 32, 33, 34, 35, 36, 37, 38, 39, 40, 41, 42, 43, 44, 45, 46, 47, 48, 49, 50, 51, 52, 53, 54, 55, 56, 57, 58, 59, 60, 61, 62, 63, 64, 65, 66] rfl (by decide +kernel)
set_option maxRecDepth 20000 in
theorem gX10_rankOf_X10_size : GoodIn wsX10_rankOf (wsV RX10 125 RX10 yX10_size wsX10_size) := goodIn_app (goodIn_of _ (by decide +kernel)) ggX10_rankOf_X10_size
set_option maxRecDepth 20000 in
theorem ggX10_rankOf_X10_lessThan : GoodIn wsX10_rankOf wsX10_lessThan := goodIn_r _ [10, 1, 2, 3, 4, 5, 6, 11, 12, 13, 14, 15, 16, 17, 18, 19, 20, 21, 22, 23, 24, 25, 26, 27, 28, 29, 30, 31, 32, 33, 34, 35, 36, 37, 38, 39, 40, 41, 42, 43, 44, 45, 46, 47, 48, 49, 50, 51, 52, 53, 54, 55, 56, 57, 58, 59, 60, 61, 62, 63, 64, 65, 66] rfl (by decide +kernel)
set_option maxRecDepth 20000 in
theorem gX10_rankOf_X10_lessThan : GoodIn wsX10_rankOf (wsV RX10 401 RX10 yX10_lessThan wsX10_lessThan) := goodIn_app (goodIn_of _ (by decide +kernel)) ggX10_rankOf_X10_lessThan
theorem dX10_rankOf_0 : decode cX10_rankOf 0 = .ok (.iconst (-1), 1) := by decide +kernel
theorem dX10_rankOf_1 : decode cX10_rankOf 1 = .ok (.istore_n 2, 1) := by decide +kernel
theorem dX10_rankOf_2 : decode cX10_rankOf 2 = .ok (.iconst 0, 1) := by decide +kernel
theorem dX10_rankOf_3 : decode cX10_rankOf 3 = .ok (.istore_n 3, 1) := by decide +kernel
theorem dX10_rankOf_4 : decode cX10_rankOf 4 = .ok (.iload_n 3, 1) := by decide +kernel
theorem dX10_rankOf_5 : decode cX10_rankOf 5 = .ok (.aload_n 0, 1) := by decide +kernel
theorem dX10_rankOf_6 : decode cX10_rankOf 6 = .ok (.invokevirtual 125, 3) := by decide +kernel
theorem dX10_rankOf_9 : decode cX10_rankOf 9 = .ok (.if_icmp .ge 38, 3) := by decide +kernel
theorem dX10_rankOf_12 : decode cX10_rankOf 12 = .ok (.aload_n 0, 1) := by decide +kernel
theorem dX10_rankOf_13 : decode cX10_rankOf 13 = .ok (.aload_n 0, 1) := by decide +kernel
theorem dX10_rankOf_14 : decode cX10_rankOf 14 = .ok (.getfield 28, 3) := by decide +kernel
theorem dX10_rankOf_17 : decode cX10_rankOf 17 = .ok (.iconst 0, 1) := by decide +kernel
theorem dX10_rankOf_18 : decode cX10_rankOf 18 = .ok (.iload_n 3, 1) := by decide +kernel
theorem dX10_rankOf_19 : decode cX10_rankOf 19 = .ok (.iadd, 1) := by decide +kernel
theorem dX10_rankOf_20 : decode cX10_rankOf 20 = .ok (.iaload, 1) := by decide +kernel
theorem dX10_rankOf_21 : decode cX10_rankOf 21 = .ok (.invokevirtual 401, 3) := by decide +kernel
theorem dX10_rankOf_24 : decode cX10_rankOf 24 = .ok (.iload_n 1, 1) := by decide +kernel
theorem dX10_rankOf_25 : decode cX10_rankOf 25 = .ok (.if_icmp .ne 14, 3) := by decide +kernel
theorem dX10_rankOf_28 : decode cX10_rankOf 28 = .ok (.aload_n 0, 1) := by decide +kernel
theorem dX10_rankOf_29 : decode cX10_rankOf 29 = .ok (.getfield 28, 3) := by decide +kernel
theorem dX10_rankOf_32 : decode cX10_rankOf 32 = .ok (.iconst 0, 1) := by decide +kernel
theorem dX10_rankOf_33 : decode cX10_rankOf 33 = .ok (.iload_n 3, 1) := by decide +kernel
theorem dX10_rankOf_34 : decode cX10_rankOf 34 = .ok (.iadd, 1) := by decide +kernel
theorem dX10_rankOf_35 : decode cX10_rankOf 35 = .ok (.iaload, 1) := by decide +kernel
theorem dX10_rankOf_36 : decode cX10_rankOf 36 = .ok (.goto 4, 3) := by decide +kernel
theorem dX10_rankOf_39 : decode cX10_rankOf 39 = .ok (.iload_n 2, 1) := by decide +kernel
theorem dX10_rankOf_40 : decode cX10_rankOf 40 = .ok (.istore_n 2, 1) := by decide +kernel
theorem dX10_rankOf_41 : decode cX10_rankOf 41 = .ok (.iinc 3 1, 3) := by decide +kernel
theorem dX10_rankOf_44 : decode cX10_rankOf 44 = .ok (.goto (-40), 3) := by decide +kernel
theorem dX10_rankOf_47 : decode cX10_rankOf 47 = .ok (.iload_n 2, 1) := by decide +kernel
theorem dX10_rankOf_48 : decode cX10_rankOf 48 = .ok (.ireturn, 1) := by decide +kernel
set_option maxRecDepth 20000 in
theorem ggX10_towerNow_X10_size : GoodIn wsX10_towerNow wsX10_size := goodIn_r _ [7, 2, 16, 17, 18, 19, 20, 21, 22, 23, 24, 25, 26, 27, 28, 29, 30, 31, 32, 33, 34, 35, 36, 37, 38, 39, 40, 41, 42, 43, 44, 45, 46, 47, 48, 49, 50, 51, 52, 53, 54, 55, 56, 57, 58, 59, 60, 61, 62, 63, 64, 65, 66, 67, 68, 69, 70, 71] rfl (by decide +kernel)
set_option maxRecDepth 20000 in
theorem gX10_towerNow_X10_size : GoodIn wsX10_towerNow (wsV RX10 125 RX10 yX10_size wsX10_size) := goodIn_app (goodIn_of _ (by decide +kernel)) ggX10_towerNow_X10_size
set_option maxRecDepth 20000 in
theorem ggX10_towerNow_X10_lessThan : GoodIn wsX10_towerNow wsX10_lessThan := goodIn_r _ [11, 2, 3, 4, 5, 6, 7, 16, 17, 18, 19, 20, 21, 22, 23, 24, 25, 26, 27, 28, 29, 30, 31, 32, 33, 34, 35, 36, 37, 38, 39, 40, 41, 42, 43, 44, 45, 46, 47, 48, 49, 50, 51, 52, 53, 54, 55, 56, 57, 58, 59, 60, 61, 62, 63, 64, 65, 66, 67, 68, 69, 70, 71] rfl (by decide +kernel)
set_option maxRecDepth 20000 in
theorem gX10_towerNow_X10_lessThan : GoodIn wsX10_towerNow (wsV RX10 401 RX10 yX10_lessThan wsX10_lessThan) := goodIn_app (goodIn_of _ (by decide +kernel)) ggX10_towerNow_X10_lessThan
set_option maxRecDepth 20000 in
theorem ggX10_towerNow_X10_numberOf : GoodIn wsX10_towerNow wsX10_numberOf := goodIn_r _ [15, 1, 3, 4, 5, 6, 7, 2, 16, 17, 18, 19, 20, 21, 22, 23, 24, 25, 26, 27, 28, 29, 30, 31, 32, 33, 34, 35, 36, 37, 38, 39, 40, 41, 42, 43, 44, 45, 46, 47, 48, 49, 50, 51, 52, 53, 54, 55, 56, 57, 58, 59, 60, 61, 62, 63, 64, 65, 66, 67, 68, 69, 70, 71] rfl (by decide +kernel)
set_option maxRecDepth 20000 in
theorem gX10_towerNow_X10_numberOf : GoodIn wsX10_towerNow (wsV RX10 395 RX10 yX10_numberOf wsX10_numberOf) := goodIn_app (goodIn_of _ (by decide +kernel)) ggX10_towerNow_X10_numberOf
theorem dX10_towerNow_0 : decode cX10_towerNow 0 = .ok (.iconst 0, 1) := by decide +kernel
theorem dX10_towerNow_1 : decode cX10_towerNow 1 = .ok (.istore_n 1, 1) := by decide +kernel
theorem dX10_towerNow_2 : decode cX10_towerNow 2 = .ok (.iconst 0, 1) := by decide +kernel
theorem dX10_towerNow_3 : decode cX10_towerNow 3 = .ok (.istore_n 2, 1) := by decide +kernel
theorem dX10_towerNow_4 : decode cX10_towerNow 4 = .ok (.iload_n 2, 1) := by decide +kernel
theorem dX10_towerNow_5 : decode cX10_towerNow 5 = .ok (.aload_n 0, 1) := by decide +kernel
theorem dX10_towerNow_6 : decode cX10_towerNow 6 = .ok (.invokevirtual 125, 3) := by decide +kernel
theorem dX10_towerNow_9 : decode cX10_towerNow 9 = .ok (.if_icmp .ge 41, 3) := by decide +kernel
theorem dX10_towerNow_12 : decode cX10_towerNow 12 = .ok (.aload_n 0, 1) := by decide +kernel
theorem dX10_towerNow_13 : decode cX10_towerNow 13 = .ok (.getfield 84, 3) := by decide +kernel
theorem dX10_towerNow_16 : decode cX10_towerNow 16 = .ok (.iload_n 2, 1) := by decide +kernel
theorem dX10_towerNow_17 : decode cX10_towerNow 17 = .ok (.aload_n 0, 1) := by decide +kernel
theorem dX10_towerNow_18 : decode cX10_towerNow 18 = .ok (.aload_n 0, 1) := by decide +kernel
theorem dX10_towerNow_19 : decode cX10_towerNow 19 = .ok (.getfield 28, 3) := by decide +kernel
theorem dX10_towerNow_22 : decode cX10_towerNow 22 = .ok (.iconst 0, 1) := by decide +kernel
theorem dX10_towerNow_23 : decode cX10_towerNow 23 = .ok (.iload_n 2, 1) := by decide +kernel
theorem dX10_towerNow_24 : decode cX10_towerNow 24 = .ok (.iadd, 1) := by decide +kernel
theorem dX10_towerNow_25 : decode cX10_towerNow 25 = .ok (.iaload, 1) := by decide +kernel
theorem dX10_towerNow_26 : decode cX10_towerNow 26 = .ok (.invokevirtual 401, 3) := by decide +kernel
theorem dX10_towerNow_29 : decode cX10_towerNow 29 = .ok (.iastore, 1) := by decide +kernel
theorem dX10_towerNow_30 : decode cX10_towerNow 30 = .ok (.iload_n 1, 1) := by decide +kernel
theorem dX10_towerNow_31 : decode cX10_towerNow 31 = .ok (.aload_n 0, 1) := by decide +kernel
theorem dX10_towerNow_32 : decode cX10_towerNow 32 = .ok (.getfield 28, 3) := by decide +kernel
theorem dX10_towerNow_35 : decode cX10_towerNow 35 = .ok (.bipush 6, 2) := by decide +kernel
theorem dX10_towerNow_37 : decode cX10_towerNow 37 = .ok (.iload_n 2, 1) := by decide +kernel
theorem dX10_towerNow_38 : decode cX10_towerNow 38 = .ok (.iadd, 1) := by decide +kernel
theorem dX10_towerNow_39 : decode cX10_towerNow 39 = .ok (.iaload, 1) := by decide +kernel
theorem dX10_towerNow_40 : decode cX10_towerNow 40 = .ok (.iload_n 2, 1) := by decide +kernel
theorem dX10_towerNow_41 : decode cX10_towerNow 41 = .ok (.ishl, 1) := by decide +kernel
theorem dX10_towerNow_42 : decode cX10_towerNow 42 = .ok (.ior, 1) := by decide +kernel
theorem dX10_towerNow_43 : decode cX10_towerNow 43 = .ok (.istore_n 1, 1) := by decide +kernel
theorem dX10_towerNow_44 : decode cX10_towerNow 44 = .ok (.iinc 2 1, 3) := by decide +kernel
theorem dX10_towerNow_47 : decode cX10_towerNow 47 = .ok (.goto (-43), 3) := by decide +kernel
theorem dX10_towerNow_50 : decode cX10_towerNow 50 = .ok (.bipush 64, 2) := by decide +kernel
theorem dX10_towerNow_52 : decode cX10_towerNow 52 = .ok (.aload_n 0, 1) := by decide +kernel
theorem dX10_towerNow_53 : decode cX10_towerNow 53 = .ok (.invokevirtual 395, 3) := by decide +kernel
theorem dX10_towerNow_56 : decode cX10_towerNow 56 = .ok (.imul, 1) := by decide +kernel
theorem dX10_towerNow_57 : decode cX10_towerNow 57 = .ok (.iload_n 1, 1) := by decide +kernel
theorem dX10_towerNow_58 : decode cX10_towerNow 58 = .ok (.iadd, 1) := by decide +kernel
theorem dX10_towerNow_59 : decode cX10_towerNow 59 = .ok (.ireturn, 1) := by decide +kernel
theorem dX10_askedAt_0 : decode cX10_askedAt 0 = .ok (.iload_n 0, 1) := by decide +kernel
theorem dX10_askedAt_1 : decode cX10_askedAt 1 = .ok (.bipush 6, 2) := by decide +kernel
theorem dX10_askedAt_3 : decode cX10_askedAt 3 = .ok (.imul, 1) := by decide +kernel
theorem dX10_askedAt_4 : decode cX10_askedAt 4 = .ok (.iload_n 1, 1) := by decide +kernel
theorem dX10_askedAt_5 : decode cX10_askedAt 5 = .ok (.iadd, 1) := by decide +kernel
theorem dX10_askedAt_6 : decode cX10_askedAt 6 = .ok (.bipush 7, 2) := by decide +kernel
theorem dX10_askedAt_8 : decode cX10_askedAt 8 = .ok (.imul, 1) := by decide +kernel
theorem dX10_askedAt_9 : decode cX10_askedAt 9 = .ok (.iload_n 2, 1) := by decide +kernel
theorem dX10_askedAt_10 : decode cX10_askedAt 10 = .ok (.iadd, 1) := by decide +kernel
theorem dX10_askedAt_11 : decode cX10_askedAt 11 = .ok (.iconst 2, 1) := by decide +kernel
theorem dX10_askedAt_12 : decode cX10_askedAt 12 = .ok (.imul, 1) := by decide +kernel
theorem dX10_askedAt_13 : decode cX10_askedAt 13 = .ok (.iload_n 3, 1) := by decide +kernel
theorem dX10_askedAt_14 : decode cX10_askedAt 14 = .ok (.iadd, 1) := by decide +kernel
theorem dX10_askedAt_15 : decode cX10_askedAt 15 = .ok (.ireturn, 1) := by decide +kernel
