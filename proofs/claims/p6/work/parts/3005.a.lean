set_option maxRecDepth 20000 in
theorem ggX10_splits_X10_isSmall : GoodIn wsX10_splits wsX10_isSmall := goodIn_r _ [10] rfl (by decide +kernel)
set_option maxRecDepth 20000 in
theorem gX10_splits_X10_isSmall : GoodIn wsX10_splits (va_wsS RX10 178 yX10_isSmall wsX10_isSmall) := goodIn_app (goodIn_of _ (by decide +kernel)) ggX10_splits_X10_isSmall
set_option maxRecDepth 20000 in
theorem ggX10_splits_X10_isDigit : GoodIn wsX10_splits wsX10_isDigit := goodIn_r _ [13] rfl (by decide +kernel)
set_option maxRecDepth 20000 in
theorem gX10_splits_X10_isDigit : GoodIn wsX10_splits (va_wsS RX10 181 yX10_isDigit wsX10_isDigit) := goodIn_app (goodIn_of _ (by decide +kernel)) ggX10_splits_X10_isDigit
set_option maxRecDepth 20000 in
theorem ggX10_splits_X10_wordOf : GoodIn wsX10_splits wsX10_wordOf := goodIn_r _ [17, 18, 2, 19, 20, 21, 22, 23, 24, 25, 26, 27, 28, 29, 30, 31, 32, 33, 34, 35, 36, 37, 38, 39, 40, 41, 42, 43, 44, 45, 46, 47, 48, 49, 50, 51, 52, 53, 54, 55, 56, 57, 58, 59, 60, 61, 62, 63, 64, 65, 66, 67, 68, 69, 70, 71, 72, 73, 74] rfl (by decide +kernel)
set_option maxRecDepth 20000 in
theorem gX10_splits_X10_wordOf : GoodIn wsX10_splits (wsV RX10 184 RX10 yX10_wordOf wsX10_wordOf) := goodIn_app (goodIn_of _ (by decide +kernel)) ggX10_splits_X10_wordOf
theorem da9_dX10_splits_0 : (decode cX10_splits 0 = .ok (.aload_n 0, 1)) ∧ (decode cX10_splits 1 = .ok (.iconst 0, 1)) ∧ (decode cX10_splits 2 = .ok (.putfield 175, 3)) ∧ (decode cX10_splits 5 = .ok (.iconst 0, 1)) ∧ (decode cX10_splits 6 = .ok (.istore_n 2, 1)) ∧ (decode cX10_splits 7 = .ok (.iload_n 2, 1)) ∧ (decode cX10_splits 8 = .ok (.iload_n 1, 1)) ∧ (decode cX10_splits 9 = .ok (.if_icmp .ge 254, 3)) ∧ (decode cX10_splits 12 = .ok (.aload_n 0, 1)) ∧ (decode cX10_splits 13 = .ok (.getfield 45, 3)) ∧ (decode cX10_splits 16 = .ok (.iload_n 2, 1)) ∧ (decode cX10_splits 17 = .ok (.baload, 1)) ∧ (decode cX10_splits 18 = .ok (.istore_n 3, 1)) ∧ (decode cX10_splits 19 = .ok (.iload_n 3, 1)) ∧ (decode cX10_splits 20 = .ok (.bipush 32, 2)) ∧ (decode cX10_splits 22 = .ok (.if_icmp .ne 9, 3)) := by decide +kernel
theorem dX10_splits_0 : decode cX10_splits 0 = .ok (.aload_n 0, 1) := da9_dX10_splits_0.1
theorem dX10_splits_1 : decode cX10_splits 1 = .ok (.iconst 0, 1) := da9_dX10_splits_0.2.1
theorem dX10_splits_2 : decode cX10_splits 2 = .ok (.putfield 175, 3) := da9_dX10_splits_0.2.2.1
theorem dX10_splits_5 : decode cX10_splits 5 = .ok (.iconst 0, 1) := da9_dX10_splits_0.2.2.2.1
theorem dX10_splits_6 : decode cX10_splits 6 = .ok (.istore_n 2, 1) := da9_dX10_splits_0.2.2.2.2.1
theorem dX10_splits_7 : decode cX10_splits 7 = .ok (.iload_n 2, 1) := da9_dX10_splits_0.2.2.2.2.2.1
theorem dX10_splits_8 : decode cX10_splits 8 = .ok (.iload_n 1, 1) := da9_dX10_splits_0.2.2.2.2.2.2.1
theorem dX10_splits_9 : decode cX10_splits 9 = .ok (.if_icmp .ge 254, 3) := da9_dX10_splits_0.2.2.2.2.2.2.2.1
theorem dX10_splits_12 : decode cX10_splits 12 = .ok (.aload_n 0, 1) := da9_dX10_splits_0.2.2.2.2.2.2.2.2.1
theorem dX10_splits_13 : decode cX10_splits 13 = .ok (.getfield 45, 3) := da9_dX10_splits_0.2.2.2.2.2.2.2.2.2.1
theorem dX10_splits_16 : decode cX10_splits 16 = .ok (.iload_n 2, 1) := da9_dX10_splits_0.2.2.2.2.2.2.2.2.2.2.1
theorem dX10_splits_17 : decode cX10_splits 17 = .ok (.baload, 1) := da9_dX10_splits_0.2.2.2.2.2.2.2.2.2.2.2.1
theorem dX10_splits_18 : decode cX10_splits 18 = .ok (.istore_n 3, 1) := da9_dX10_splits_0.2.2.2.2.2.2.2.2.2.2.2.2.1
theorem dX10_splits_19 : decode cX10_splits 19 = .ok (.iload_n 3, 1) := da9_dX10_splits_0.2.2.2.2.2.2.2.2.2.2.2.2.2.1
theorem dX10_splits_20 : decode cX10_splits 20 = .ok (.bipush 32, 2) := da9_dX10_splits_0.2.2.2.2.2.2.2.2.2.2.2.2.2.2.1
theorem dX10_splits_22 : decode cX10_splits 22 = .ok (.if_icmp .ne 9, 3) := da9_dX10_splits_0.2.2.2.2.2.2.2.2.2.2.2.2.2.2.2
theorem da9_dX10_splits_25 : (decode cX10_splits 25 = .ok (.iinc 2 1, 3)) ∧ (decode cX10_splits 28 = .ok (.goto (-21), 3)) ∧ (decode cX10_splits 31 = .ok (.iload_n 2, 1)) ∧ (decode cX10_splits 32 = .ok (.iconst 1, 1)) ∧ (decode cX10_splits 33 = .ok (.iadd, 1)) ∧ (decode cX10_splits 34 = .ok (.istore 4, 2)) ∧ (decode cX10_splits 36 = .ok (.iload_n 3, 1)) ∧ (decode cX10_splits 37 = .ok (.invokestatic 178, 3)) ∧ (decode cX10_splits 40 = .ok (.ifCond .eq 28, 3)) ∧ (decode cX10_splits 43 = .ok (.iload 4, 2)) ∧ (decode cX10_splits 45 = .ok (.iload_n 1, 1)) ∧ (decode cX10_splits 46 = .ok (.if_icmp .ge 22, 3)) ∧ (decode cX10_splits 49 = .ok (.aload_n 0, 1)) ∧ (decode cX10_splits 50 = .ok (.getfield 45, 3)) ∧ (decode cX10_splits 53 = .ok (.iload 4, 2)) ∧ (decode cX10_splits 55 = .ok (.baload, 1)) := by decide +kernel
theorem dX10_splits_25 : decode cX10_splits 25 = .ok (.iinc 2 1, 3) := da9_dX10_splits_25.1
theorem dX10_splits_28 : decode cX10_splits 28 = .ok (.goto (-21), 3) := da9_dX10_splits_25.2.1
theorem dX10_splits_31 : decode cX10_splits 31 = .ok (.iload_n 2, 1) := da9_dX10_splits_25.2.2.1
theorem dX10_splits_32 : decode cX10_splits 32 = .ok (.iconst 1, 1) := da9_dX10_splits_25.2.2.2.1
theorem dX10_splits_33 : decode cX10_splits 33 = .ok (.iadd, 1) := da9_dX10_splits_25.2.2.2.2.1
theorem dX10_splits_34 : decode cX10_splits 34 = .ok (.istore 4, 2) := da9_dX10_splits_25.2.2.2.2.2.1
theorem dX10_splits_36 : decode cX10_splits 36 = .ok (.iload_n 3, 1) := da9_dX10_splits_25.2.2.2.2.2.2.1
theorem dX10_splits_37 : decode cX10_splits 37 = .ok (.invokestatic 178, 3) := da9_dX10_splits_25.2.2.2.2.2.2.2.1
theorem dX10_splits_40 : decode cX10_splits 40 = .ok (.ifCond .eq 28, 3) := da9_dX10_splits_25.2.2.2.2.2.2.2.2.1
theorem dX10_splits_43 : decode cX10_splits 43 = .ok (.iload 4, 2) := da9_dX10_splits_25.2.2.2.2.2.2.2.2.2.1
theorem dX10_splits_45 : decode cX10_splits 45 = .ok (.iload_n 1, 1) := da9_dX10_splits_25.2.2.2.2.2.2.2.2.2.2.1
theorem dX10_splits_46 : decode cX10_splits 46 = .ok (.if_icmp .ge 22, 3) := da9_dX10_splits_25.2.2.2.2.2.2.2.2.2.2.2.1
theorem dX10_splits_49 : decode cX10_splits 49 = .ok (.aload_n 0, 1) := da9_dX10_splits_25.2.2.2.2.2.2.2.2.2.2.2.2.1
theorem dX10_splits_50 : decode cX10_splits 50 = .ok (.getfield 45, 3) := da9_dX10_splits_25.2.2.2.2.2.2.2.2.2.2.2.2.2.1
theorem dX10_splits_53 : decode cX10_splits 53 = .ok (.iload 4, 2) := da9_dX10_splits_25.2.2.2.2.2.2.2.2.2.2.2.2.2.2.1
theorem dX10_splits_55 : decode cX10_splits 55 = .ok (.baload, 1) := da9_dX10_splits_25.2.2.2.2.2.2.2.2.2.2.2.2.2.2.2
theorem da9_dX10_splits_56 : (decode cX10_splits 56 = .ok (.invokestatic 178, 3)) ∧ (decode cX10_splits 59 = .ok (.ifCond .eq 9, 3)) ∧ (decode cX10_splits 62 = .ok (.iinc 4 1, 3)) ∧ (decode cX10_splits 65 = .ok (.goto (-22), 3)) ∧ (decode cX10_splits 68 = .ok (.iload_n 3, 1)) ∧ (decode cX10_splits 69 = .ok (.invokestatic 181, 3)) ∧ (decode cX10_splits 72 = .ok (.ifCond .eq 28, 3)) ∧ (decode cX10_splits 75 = .ok (.iload 4, 2)) ∧ (decode cX10_splits 77 = .ok (.iload_n 1, 1)) ∧ (decode cX10_splits 78 = .ok (.if_icmp .ge 22, 3)) ∧ (decode cX10_splits 81 = .ok (.aload_n 0, 1)) ∧ (decode cX10_splits 82 = .ok (.getfield 45, 3)) ∧ (decode cX10_splits 85 = .ok (.iload 4, 2)) ∧ (decode cX10_splits 87 = .ok (.baload, 1)) ∧ (decode cX10_splits 88 = .ok (.invokestatic 181, 3)) ∧ (decode cX10_splits 91 = .ok (.ifCond .eq 9, 3)) := by decide +kernel
theorem dX10_splits_56 : decode cX10_splits 56 = .ok (.invokestatic 178, 3) := da9_dX10_splits_56.1
theorem dX10_splits_59 : decode cX10_splits 59 = .ok (.ifCond .eq 9, 3) := da9_dX10_splits_56.2.1
theorem dX10_splits_62 : decode cX10_splits 62 = .ok (.iinc 4 1, 3) := da9_dX10_splits_56.2.2.1
theorem dX10_splits_65 : decode cX10_splits 65 = .ok (.goto (-22), 3) := da9_dX10_splits_56.2.2.2.1
theorem dX10_splits_68 : decode cX10_splits 68 = .ok (.iload_n 3, 1) := da9_dX10_splits_56.2.2.2.2.1
theorem dX10_splits_69 : decode cX10_splits 69 = .ok (.invokestatic 181, 3) := da9_dX10_splits_56.2.2.2.2.2.1
theorem dX10_splits_72 : decode cX10_splits 72 = .ok (.ifCond .eq 28, 3) := da9_dX10_splits_56.2.2.2.2.2.2.1
theorem dX10_splits_75 : decode cX10_splits 75 = .ok (.iload 4, 2) := da9_dX10_splits_56.2.2.2.2.2.2.2.1
theorem dX10_splits_77 : decode cX10_splits 77 = .ok (.iload_n 1, 1) := da9_dX10_splits_56.2.2.2.2.2.2.2.2.1
theorem dX10_splits_78 : decode cX10_splits 78 = .ok (.if_icmp .ge 22, 3) := da9_dX10_splits_56.2.2.2.2.2.2.2.2.2.1
theorem dX10_splits_81 : decode cX10_splits 81 = .ok (.aload_n 0, 1) := da9_dX10_splits_56.2.2.2.2.2.2.2.2.2.2.1
theorem dX10_splits_82 : decode cX10_splits 82 = .ok (.getfield 45, 3) := da9_dX10_splits_56.2.2.2.2.2.2.2.2.2.2.2.1
theorem dX10_splits_85 : decode cX10_splits 85 = .ok (.iload 4, 2) := da9_dX10_splits_56.2.2.2.2.2.2.2.2.2.2.2.2.1
theorem dX10_splits_87 : decode cX10_splits 87 = .ok (.baload, 1) := da9_dX10_splits_56.2.2.2.2.2.2.2.2.2.2.2.2.2.1
theorem dX10_splits_88 : decode cX10_splits 88 = .ok (.invokestatic 181, 3) := da9_dX10_splits_56.2.2.2.2.2.2.2.2.2.2.2.2.2.2.1
theorem dX10_splits_91 : decode cX10_splits 91 = .ok (.ifCond .eq 9, 3) := da9_dX10_splits_56.2.2.2.2.2.2.2.2.2.2.2.2.2.2.2
theorem da9_dX10_splits_94 : (decode cX10_splits 94 = .ok (.iinc 4 1, 3)) ∧ (decode cX10_splits 97 = .ok (.goto (-22), 3)) ∧ (decode cX10_splits 100 = .ok (.aload_n 0, 1)) ∧ (decode cX10_splits 101 = .ok (.getfield 60, 3)) ∧ (decode cX10_splits 104 = .ok (.aload_n 0, 1)) ∧ (decode cX10_splits 105 = .ok (.getfield 175, 3)) ∧ (decode cX10_splits 108 = .ok (.iload_n 2, 1)) ∧ (decode cX10_splits 109 = .ok (.iastore, 1)) ∧ (decode cX10_splits 110 = .ok (.aload_n 0, 1)) ∧ (decode cX10_splits 111 = .ok (.getfield 57, 3)) ∧ (decode cX10_splits 114 = .ok (.aload_n 0, 1)) ∧ (decode cX10_splits 115 = .ok (.getfield 175, 3)) ∧ (decode cX10_splits 118 = .ok (.iconst 0, 1)) ∧ (decode cX10_splits 119 = .ok (.iastore, 1)) ∧ (decode cX10_splits 120 = .ok (.aload_n 0, 1)) ∧ (decode cX10_splits 121 = .ok (.getfield 54, 3)) := by decide +kernel
theorem dX10_splits_94 : decode cX10_splits 94 = .ok (.iinc 4 1, 3) := da9_dX10_splits_94.1
theorem dX10_splits_97 : decode cX10_splits 97 = .ok (.goto (-22), 3) := da9_dX10_splits_94.2.1
theorem dX10_splits_100 : decode cX10_splits 100 = .ok (.aload_n 0, 1) := da9_dX10_splits_94.2.2.1
theorem dX10_splits_101 : decode cX10_splits 101 = .ok (.getfield 60, 3) := da9_dX10_splits_94.2.2.2.1
theorem dX10_splits_104 : decode cX10_splits 104 = .ok (.aload_n 0, 1) := da9_dX10_splits_94.2.2.2.2.1
theorem dX10_splits_105 : decode cX10_splits 105 = .ok (.getfield 175, 3) := da9_dX10_splits_94.2.2.2.2.2.1
theorem dX10_splits_108 : decode cX10_splits 108 = .ok (.iload_n 2, 1) := da9_dX10_splits_94.2.2.2.2.2.2.1
theorem dX10_splits_109 : decode cX10_splits 109 = .ok (.iastore, 1) := da9_dX10_splits_94.2.2.2.2.2.2.2.1
theorem dX10_splits_110 : decode cX10_splits 110 = .ok (.aload_n 0, 1) := da9_dX10_splits_94.2.2.2.2.2.2.2.2.1
theorem dX10_splits_111 : decode cX10_splits 111 = .ok (.getfield 57, 3) := da9_dX10_splits_94.2.2.2.2.2.2.2.2.2.1
theorem dX10_splits_114 : decode cX10_splits 114 = .ok (.aload_n 0, 1) := da9_dX10_splits_94.2.2.2.2.2.2.2.2.2.2.1
theorem dX10_splits_115 : decode cX10_splits 115 = .ok (.getfield 175, 3) := da9_dX10_splits_94.2.2.2.2.2.2.2.2.2.2.2.1
theorem dX10_splits_118 : decode cX10_splits 118 = .ok (.iconst 0, 1) := da9_dX10_splits_94.2.2.2.2.2.2.2.2.2.2.2.2.1
theorem dX10_splits_119 : decode cX10_splits 119 = .ok (.iastore, 1) := da9_dX10_splits_94.2.2.2.2.2.2.2.2.2.2.2.2.2.1
theorem dX10_splits_120 : decode cX10_splits 120 = .ok (.aload_n 0, 1) := da9_dX10_splits_94.2.2.2.2.2.2.2.2.2.2.2.2.2.2.1
theorem dX10_splits_121 : decode cX10_splits 121 = .ok (.getfield 54, 3) := da9_dX10_splits_94.2.2.2.2.2.2.2.2.2.2.2.2.2.2.2
theorem da9_dX10_splits_124 : (decode cX10_splits 124 = .ok (.aload_n 0, 1)) ∧ (decode cX10_splits 125 = .ok (.getfield 175, 3)) ∧ (decode cX10_splits 128 = .ok (.iload_n 3, 1)) ∧ (decode cX10_splits 129 = .ok (.invokestatic 178, 3)) ∧ (decode cX10_splits 132 = .ok (.ifCond .eq 13, 3)) ∧ (decode cX10_splits 135 = .ok (.aload_n 0, 1)) ∧ (decode cX10_splits 136 = .ok (.iload_n 2, 1)) ∧ (decode cX10_splits 137 = .ok (.iload 4, 2)) ∧ (decode cX10_splits 139 = .ok (.invokevirtual 184, 3)) ∧ (decode cX10_splits 142 = .ok (.goto 23, 3)) ∧ (decode cX10_splits 145 = .ok (.iload_n 3, 1)) ∧ (decode cX10_splits 146 = .ok (.invokestatic 181, 3)) ∧ (decode cX10_splits 149 = .ok (.ifCond .eq 8, 3)) ∧ (decode cX10_splits 152 = .ok (.bipush 50, 2)) ∧ (decode cX10_splits 154 = .ok (.goto 11, 3)) ∧ (decode cX10_splits 157 = .ok (.bipush 100, 2)) := by decide +kernel
theorem dX10_splits_124 : decode cX10_splits 124 = .ok (.aload_n 0, 1) := da9_dX10_splits_124.1
theorem dX10_splits_125 : decode cX10_splits 125 = .ok (.getfield 175, 3) := da9_dX10_splits_124.2.1
theorem dX10_splits_128 : decode cX10_splits 128 = .ok (.iload_n 3, 1) := da9_dX10_splits_124.2.2.1
theorem dX10_splits_129 : decode cX10_splits 129 = .ok (.invokestatic 178, 3) := da9_dX10_splits_124.2.2.2.1
theorem dX10_splits_132 : decode cX10_splits 132 = .ok (.ifCond .eq 13, 3) := da9_dX10_splits_124.2.2.2.2.1
theorem dX10_splits_135 : decode cX10_splits 135 = .ok (.aload_n 0, 1) := da9_dX10_splits_124.2.2.2.2.2.1
theorem dX10_splits_136 : decode cX10_splits 136 = .ok (.iload_n 2, 1) := da9_dX10_splits_124.2.2.2.2.2.2.1
theorem dX10_splits_137 : decode cX10_splits 137 = .ok (.iload 4, 2) := da9_dX10_splits_124.2.2.2.2.2.2.2.1
theorem dX10_splits_139 : decode cX10_splits 139 = .ok (.invokevirtual 184, 3) := da9_dX10_splits_124.2.2.2.2.2.2.2.2.1
theorem dX10_splits_142 : decode cX10_splits 142 = .ok (.goto 23, 3) := da9_dX10_splits_124.2.2.2.2.2.2.2.2.2.1
theorem dX10_splits_145 : decode cX10_splits 145 = .ok (.iload_n 3, 1) := da9_dX10_splits_124.2.2.2.2.2.2.2.2.2.2.1
theorem dX10_splits_146 : decode cX10_splits 146 = .ok (.invokestatic 181, 3) := da9_dX10_splits_124.2.2.2.2.2.2.2.2.2.2.2.1
theorem dX10_splits_149 : decode cX10_splits 149 = .ok (.ifCond .eq 8, 3) := da9_dX10_splits_124.2.2.2.2.2.2.2.2.2.2.2.2.1
theorem dX10_splits_152 : decode cX10_splits 152 = .ok (.bipush 50, 2) := da9_dX10_splits_124.2.2.2.2.2.2.2.2.2.2.2.2.2.1
theorem dX10_splits_154 : decode cX10_splits 154 = .ok (.goto 11, 3) := da9_dX10_splits_124.2.2.2.2.2.2.2.2.2.2.2.2.2.2.1
theorem dX10_splits_157 : decode cX10_splits 157 = .ok (.bipush 100, 2) := da9_dX10_splits_124.2.2.2.2.2.2.2.2.2.2.2.2.2.2.2
theorem da9_dX10_splits_159 : (decode cX10_splits 159 = .ok (.iload_n 3, 1)) ∧ (decode cX10_splits 160 = .ok (.sipush 255, 3)) ∧ (decode cX10_splits 163 = .ok (.iand, 1)) ∧ (decode cX10_splits 164 = .ok (.iadd, 1)) ∧ (decode cX10_splits 165 = .ok (.iastore, 1)) ∧ (decode cX10_splits 166 = .ok (.iload_n 2, 1)) ∧ (decode cX10_splits 167 = .ok (.istore 5, 2)) ∧ (decode cX10_splits 169 = .ok (.iload 5, 2)) ∧ (decode cX10_splits 171 = .ok (.iload 4, 2)) ∧ (decode cX10_splits 173 = .ok (.if_icmp .ge 74, 3)) ∧ (decode cX10_splits 176 = .ok (.iload_n 3, 1)) ∧ (decode cX10_splits 177 = .ok (.invokestatic 181, 3)) ∧ (decode cX10_splits 180 = .ok (.ifCond .eq 67, 3)) ∧ (decode cX10_splits 183 = .ok (.aload_n 0, 1)) ∧ (decode cX10_splits 184 = .ok (.getfield 57, 3)) ∧ (decode cX10_splits 187 = .ok (.aload_n 0, 1)) := by decide +kernel
theorem dX10_splits_159 : decode cX10_splits 159 = .ok (.iload_n 3, 1) := da9_dX10_splits_159.1
theorem dX10_splits_160 : decode cX10_splits 160 = .ok (.sipush 255, 3) := da9_dX10_splits_159.2.1
theorem dX10_splits_163 : decode cX10_splits 163 = .ok (.iand, 1) := da9_dX10_splits_159.2.2.1
theorem dX10_splits_164 : decode cX10_splits 164 = .ok (.iadd, 1) := da9_dX10_splits_159.2.2.2.1
theorem dX10_splits_165 : decode cX10_splits 165 = .ok (.iastore, 1) := da9_dX10_splits_159.2.2.2.2.1
theorem dX10_splits_166 : decode cX10_splits 166 = .ok (.iload_n 2, 1) := da9_dX10_splits_159.2.2.2.2.2.1
theorem dX10_splits_167 : decode cX10_splits 167 = .ok (.istore 5, 2) := da9_dX10_splits_159.2.2.2.2.2.2.1
theorem dX10_splits_169 : decode cX10_splits 169 = .ok (.iload 5, 2) := da9_dX10_splits_159.2.2.2.2.2.2.2.1
theorem dX10_splits_171 : decode cX10_splits 171 = .ok (.iload 4, 2) := da9_dX10_splits_159.2.2.2.2.2.2.2.2.1
theorem dX10_splits_173 : decode cX10_splits 173 = .ok (.if_icmp .ge 74, 3) := da9_dX10_splits_159.2.2.2.2.2.2.2.2.2.1
theorem dX10_splits_176 : decode cX10_splits 176 = .ok (.iload_n 3, 1) := da9_dX10_splits_159.2.2.2.2.2.2.2.2.2.2.1
theorem dX10_splits_177 : decode cX10_splits 177 = .ok (.invokestatic 181, 3) := da9_dX10_splits_159.2.2.2.2.2.2.2.2.2.2.2.1
theorem dX10_splits_180 : decode cX10_splits 180 = .ok (.ifCond .eq 67, 3) := da9_dX10_splits_159.2.2.2.2.2.2.2.2.2.2.2.2.1
theorem dX10_splits_183 : decode cX10_splits 183 = .ok (.aload_n 0, 1) := da9_dX10_splits_159.2.2.2.2.2.2.2.2.2.2.2.2.2.1
theorem dX10_splits_184 : decode cX10_splits 184 = .ok (.getfield 57, 3) := da9_dX10_splits_159.2.2.2.2.2.2.2.2.2.2.2.2.2.2.1
theorem dX10_splits_187 : decode cX10_splits 187 = .ok (.aload_n 0, 1) := da9_dX10_splits_159.2.2.2.2.2.2.2.2.2.2.2.2.2.2.2
theorem da9_dX10_splits_188 : (decode cX10_splits 188 = .ok (.getfield 175, 3)) ∧ (decode cX10_splits 191 = .ok (.aload_n 0, 1)) ∧ (decode cX10_splits 192 = .ok (.getfield 57, 3)) ∧ (decode cX10_splits 195 = .ok (.aload_n 0, 1)) ∧ (decode cX10_splits 196 = .ok (.getfield 175, 3)) ∧ (decode cX10_splits 199 = .ok (.iaload, 1)) ∧ (decode cX10_splits 200 = .ok (.ldc 188, 2)) ∧ (decode cX10_splits 202 = .ok (.if_icmp .le 15, 3)) ∧ (decode cX10_splits 205 = .ok (.aload_n 0, 1)) ∧ (decode cX10_splits 206 = .ok (.getfield 57, 3)) ∧ (decode cX10_splits 209 = .ok (.aload_n 0, 1)) ∧ (decode cX10_splits 210 = .ok (.getfield 175, 3)) ∧ (decode cX10_splits 213 = .ok (.iaload, 1)) ∧ (decode cX10_splits 214 = .ok (.goto 26, 3)) ∧ (decode cX10_splits 217 = .ok (.bipush 10, 2)) ∧ (decode cX10_splits 219 = .ok (.aload_n 0, 1)) := by decide +kernel
theorem dX10_splits_188 : decode cX10_splits 188 = .ok (.getfield 175, 3) := da9_dX10_splits_188.1
theorem dX10_splits_191 : decode cX10_splits 191 = .ok (.aload_n 0, 1) := da9_dX10_splits_188.2.1
theorem dX10_splits_192 : decode cX10_splits 192 = .ok (.getfield 57, 3) := da9_dX10_splits_188.2.2.1
theorem dX10_splits_195 : decode cX10_splits 195 = .ok (.aload_n 0, 1) := da9_dX10_splits_188.2.2.2.1
theorem dX10_splits_196 : decode cX10_splits 196 = .ok (.getfield 175, 3) := da9_dX10_splits_188.2.2.2.2.1
theorem dX10_splits_199 : decode cX10_splits 199 = .ok (.iaload, 1) := da9_dX10_splits_188.2.2.2.2.2.1
theorem dX10_splits_200 : decode cX10_splits 200 = .ok (.ldc 188, 2) := da9_dX10_splits_188.2.2.2.2.2.2.1
theorem dX10_splits_202 : decode cX10_splits 202 = .ok (.if_icmp .le 15, 3) := da9_dX10_splits_188.2.2.2.2.2.2.2.1
theorem dX10_splits_205 : decode cX10_splits 205 = .ok (.aload_n 0, 1) := da9_dX10_splits_188.2.2.2.2.2.2.2.2.1
theorem dX10_splits_206 : decode cX10_splits 206 = .ok (.getfield 57, 3) := da9_dX10_splits_188.2.2.2.2.2.2.2.2.2.1
theorem dX10_splits_209 : decode cX10_splits 209 = .ok (.aload_n 0, 1) := da9_dX10_splits_188.2.2.2.2.2.2.2.2.2.2.1
theorem dX10_splits_210 : decode cX10_splits 210 = .ok (.getfield 175, 3) := da9_dX10_splits_188.2.2.2.2.2.2.2.2.2.2.2.1
theorem dX10_splits_213 : decode cX10_splits 213 = .ok (.iaload, 1) := da9_dX10_splits_188.2.2.2.2.2.2.2.2.2.2.2.2.1
theorem dX10_splits_214 : decode cX10_splits 214 = .ok (.goto 26, 3) := da9_dX10_splits_188.2.2.2.2.2.2.2.2.2.2.2.2.2.1
theorem dX10_splits_217 : decode cX10_splits 217 = .ok (.bipush 10, 2) := da9_dX10_splits_188.2.2.2.2.2.2.2.2.2.2.2.2.2.2.1
theorem dX10_splits_219 : decode cX10_splits 219 = .ok (.aload_n 0, 1) := da9_dX10_splits_188.2.2.2.2.2.2.2.2.2.2.2.2.2.2.2
theorem da9_dX10_splits_220 : (decode cX10_splits 220 = .ok (.getfield 57, 3)) ∧ (decode cX10_splits 223 = .ok (.aload_n 0, 1)) ∧ (decode cX10_splits 224 = .ok (.getfield 175, 3)) ∧ (decode cX10_splits 227 = .ok (.iaload, 1)) ∧ (decode cX10_splits 228 = .ok (.imul, 1)) ∧ (decode cX10_splits 229 = .ok (.aload_n 0, 1)) ∧ (decode cX10_splits 230 = .ok (.getfield 45, 3)) ∧ (decode cX10_splits 233 = .ok (.iload 5, 2)) ∧ (decode cX10_splits 235 = .ok (.baload, 1)) ∧ (decode cX10_splits 236 = .ok (.iadd, 1)) ∧ (decode cX10_splits 237 = .ok (.bipush 48, 2)) ∧ (decode cX10_splits 239 = .ok (.isub, 1)) ∧ (decode cX10_splits 240 = .ok (.iastore, 1)) ∧ (decode cX10_splits 241 = .ok (.iinc 5 1, 3)) ∧ (decode cX10_splits 244 = .ok (.goto (-75), 3)) ∧ (decode cX10_splits 247 = .ok (.aload_n 0, 1)) := by decide +kernel
theorem dX10_splits_220 : decode cX10_splits 220 = .ok (.getfield 57, 3) := da9_dX10_splits_220.1
theorem dX10_splits_223 : decode cX10_splits 223 = .ok (.aload_n 0, 1) := da9_dX10_splits_220.2.1
theorem dX10_splits_224 : decode cX10_splits 224 = .ok (.getfield 175, 3) := da9_dX10_splits_220.2.2.1
theorem dX10_splits_227 : decode cX10_splits 227 = .ok (.iaload, 1) := da9_dX10_splits_220.2.2.2.1
theorem dX10_splits_228 : decode cX10_splits 228 = .ok (.imul, 1) := da9_dX10_splits_220.2.2.2.2.1
theorem dX10_splits_229 : decode cX10_splits 229 = .ok (.aload_n 0, 1) := da9_dX10_splits_220.2.2.2.2.2.1
theorem dX10_splits_230 : decode cX10_splits 230 = .ok (.getfield 45, 3) := da9_dX10_splits_220.2.2.2.2.2.2.1
theorem dX10_splits_233 : decode cX10_splits 233 = .ok (.iload 5, 2) := da9_dX10_splits_220.2.2.2.2.2.2.2.1
theorem dX10_splits_235 : decode cX10_splits 235 = .ok (.baload, 1) := da9_dX10_splits_220.2.2.2.2.2.2.2.2.1
theorem dX10_splits_236 : decode cX10_splits 236 = .ok (.iadd, 1) := da9_dX10_splits_220.2.2.2.2.2.2.2.2.2.1
theorem dX10_splits_237 : decode cX10_splits 237 = .ok (.bipush 48, 2) := da9_dX10_splits_220.2.2.2.2.2.2.2.2.2.2.1
theorem dX10_splits_239 : decode cX10_splits 239 = .ok (.isub, 1) := da9_dX10_splits_220.2.2.2.2.2.2.2.2.2.2.2.1
theorem dX10_splits_240 : decode cX10_splits 240 = .ok (.iastore, 1) := da9_dX10_splits_220.2.2.2.2.2.2.2.2.2.2.2.2.1
theorem dX10_splits_241 : decode cX10_splits 241 = .ok (.iinc 5 1, 3) := da9_dX10_splits_220.2.2.2.2.2.2.2.2.2.2.2.2.2.1
theorem dX10_splits_244 : decode cX10_splits 244 = .ok (.goto (-75), 3) := da9_dX10_splits_220.2.2.2.2.2.2.2.2.2.2.2.2.2.2.1
theorem dX10_splits_247 : decode cX10_splits 247 = .ok (.aload_n 0, 1) := da9_dX10_splits_220.2.2.2.2.2.2.2.2.2.2.2.2.2.2.2
theorem da9_dX10_splits_248 : (decode cX10_splits 248 = .ok (.dup, 1)) ∧ (decode cX10_splits 249 = .ok (.getfield 175, 3)) ∧ (decode cX10_splits 252 = .ok (.iconst 1, 1)) ∧ (decode cX10_splits 253 = .ok (.iadd, 1)) ∧ (decode cX10_splits 254 = .ok (.putfield 175, 3)) ∧ (decode cX10_splits 257 = .ok (.iload 4, 2)) ∧ (decode cX10_splits 259 = .ok (.istore_n 2, 1)) ∧ (decode cX10_splits 260 = .ok (.goto (-253), 3)) ∧ (decode cX10_splits 263 = .ok (.aload_n 0, 1)) ∧ (decode cX10_splits 264 = .ok (.getfield 60, 3)) ∧ (decode cX10_splits 267 = .ok (.aload_n 0, 1)) ∧ (decode cX10_splits 268 = .ok (.getfield 175, 3)) ∧ (decode cX10_splits 271 = .ok (.iload_n 1, 1)) ∧ (decode cX10_splits 272 = .ok (.iastore, 1)) ∧ (decode cX10_splits 273 = .ok (.aload_n 0, 1)) ∧ (decode cX10_splits 274 = .ok (.getfield 54, 3)) := by decide +kernel
theorem dX10_splits_248 : decode cX10_splits 248 = .ok (.dup, 1) := da9_dX10_splits_248.1
theorem dX10_splits_249 : decode cX10_splits 249 = .ok (.getfield 175, 3) := da9_dX10_splits_248.2.1
theorem dX10_splits_252 : decode cX10_splits 252 = .ok (.iconst 1, 1) := da9_dX10_splits_248.2.2.1
theorem dX10_splits_253 : decode cX10_splits 253 = .ok (.iadd, 1) := da9_dX10_splits_248.2.2.2.1
theorem dX10_splits_254 : decode cX10_splits 254 = .ok (.putfield 175, 3) := da9_dX10_splits_248.2.2.2.2.1
theorem dX10_splits_257 : decode cX10_splits 257 = .ok (.iload 4, 2) := da9_dX10_splits_248.2.2.2.2.2.1
theorem dX10_splits_259 : decode cX10_splits 259 = .ok (.istore_n 2, 1) := da9_dX10_splits_248.2.2.2.2.2.2.1
theorem dX10_splits_260 : decode cX10_splits 260 = .ok (.goto (-253), 3) := da9_dX10_splits_248.2.2.2.2.2.2.2.1
theorem dX10_splits_263 : decode cX10_splits 263 = .ok (.aload_n 0, 1) := da9_dX10_splits_248.2.2.2.2.2.2.2.2.1
theorem dX10_splits_264 : decode cX10_splits 264 = .ok (.getfield 60, 3) := da9_dX10_splits_248.2.2.2.2.2.2.2.2.2.1
theorem dX10_splits_267 : decode cX10_splits 267 = .ok (.aload_n 0, 1) := da9_dX10_splits_248.2.2.2.2.2.2.2.2.2.2.1
theorem dX10_splits_268 : decode cX10_splits 268 = .ok (.getfield 175, 3) := da9_dX10_splits_248.2.2.2.2.2.2.2.2.2.2.2.1
theorem dX10_splits_271 : decode cX10_splits 271 = .ok (.iload_n 1, 1) := da9_dX10_splits_248.2.2.2.2.2.2.2.2.2.2.2.2.1
theorem dX10_splits_272 : decode cX10_splits 272 = .ok (.iastore, 1) := da9_dX10_splits_248.2.2.2.2.2.2.2.2.2.2.2.2.2.1
theorem dX10_splits_273 : decode cX10_splits 273 = .ok (.aload_n 0, 1) := da9_dX10_splits_248.2.2.2.2.2.2.2.2.2.2.2.2.2.2.1
theorem dX10_splits_274 : decode cX10_splits 274 = .ok (.getfield 54, 3) := da9_dX10_splits_248.2.2.2.2.2.2.2.2.2.2.2.2.2.2.2
theorem da9_dX10_splits_277 : (decode cX10_splits 277 = .ok (.aload_n 0, 1)) ∧ (decode cX10_splits 278 = .ok (.getfield 175, 3)) ∧ (decode cX10_splits 281 = .ok (.iconst 0, 1)) ∧ (decode cX10_splits 282 = .ok (.iastore, 1)) ∧ (decode cX10_splits 283 = .ok (.aload_n 0, 1)) ∧ (decode cX10_splits 284 = .ok (.getfield 57, 3)) ∧ (decode cX10_splits 287 = .ok (.aload_n 0, 1)) ∧ (decode cX10_splits 288 = .ok (.getfield 175, 3)) ∧ (decode cX10_splits 291 = .ok (.iconst 0, 1)) ∧ (decode cX10_splits 292 = .ok (.iastore, 1)) ∧ (decode cX10_splits 293 = .ok (.return_, 1)) := by decide +kernel
theorem dX10_splits_277 : decode cX10_splits 277 = .ok (.aload_n 0, 1) := da9_dX10_splits_277.1
theorem dX10_splits_278 : decode cX10_splits 278 = .ok (.getfield 175, 3) := da9_dX10_splits_277.2.1
theorem dX10_splits_281 : decode cX10_splits 281 = .ok (.iconst 0, 1) := da9_dX10_splits_277.2.2.1
theorem dX10_splits_282 : decode cX10_splits 282 = .ok (.iastore, 1) := da9_dX10_splits_277.2.2.2.1
theorem dX10_splits_283 : decode cX10_splits 283 = .ok (.aload_n 0, 1) := da9_dX10_splits_277.2.2.2.2.1
theorem dX10_splits_284 : decode cX10_splits 284 = .ok (.getfield 57, 3) := da9_dX10_splits_277.2.2.2.2.2.1
theorem dX10_splits_287 : decode cX10_splits 287 = .ok (.aload_n 0, 1) := da9_dX10_splits_277.2.2.2.2.2.2.1
theorem dX10_splits_288 : decode cX10_splits 288 = .ok (.getfield 175, 3) := da9_dX10_splits_277.2.2.2.2.2.2.2.1
theorem dX10_splits_291 : decode cX10_splits 291 = .ok (.iconst 0, 1) := da9_dX10_splits_277.2.2.2.2.2.2.2.2.1
theorem dX10_splits_292 : decode cX10_splits 292 = .ok (.iastore, 1) := da9_dX10_splits_277.2.2.2.2.2.2.2.2.2.1
theorem dX10_splits_293 : decode cX10_splits 293 = .ok (.return_, 1) := da9_dX10_splits_277.2.2.2.2.2.2.2.2.2.2
theorem da9_dX10_fine_0 : (decode cX10_fine 0 = .ok (.aload_n 0, 1)) ∧ (decode cX10_fine 1 = .ok (.getfield 189, 3)) ∧ (decode cX10_fine 4 = .ok (.iconst (-1), 1)) ∧ (decode cX10_fine 5 = .ok (.if_icmp .ne 7, 3)) ∧ (decode cX10_fine 8 = .ok (.iconst 1, 1)) ∧ (decode cX10_fine 9 = .ok (.goto 4, 3)) ∧ (decode cX10_fine 12 = .ok (.iconst 0, 1)) ∧ (decode cX10_fine 13 = .ok (.ireturn, 1)) := by decide +kernel
theorem dX10_fine_0 : decode cX10_fine 0 = .ok (.aload_n 0, 1) := da9_dX10_fine_0.1
theorem dX10_fine_1 : decode cX10_fine 1 = .ok (.getfield 189, 3) := da9_dX10_fine_0.2.1
theorem dX10_fine_4 : decode cX10_fine 4 = .ok (.iconst (-1), 1) := da9_dX10_fine_0.2.2.1
theorem dX10_fine_5 : decode cX10_fine 5 = .ok (.if_icmp .ne 7, 3) := da9_dX10_fine_0.2.2.2.1
theorem dX10_fine_8 : decode cX10_fine 8 = .ok (.iconst 1, 1) := da9_dX10_fine_0.2.2.2.2.1
theorem dX10_fine_9 : decode cX10_fine 9 = .ok (.goto 4, 3) := da9_dX10_fine_0.2.2.2.2.2.1
theorem dX10_fine_12 : decode cX10_fine 12 = .ok (.iconst 0, 1) := da9_dX10_fine_0.2.2.2.2.2.2.1
theorem dX10_fine_13 : decode cX10_fine 13 = .ok (.ireturn, 1) := da9_dX10_fine_0.2.2.2.2.2.2.2
set_option maxRecDepth 20000 in
theorem ggX10_faults_X10_fine : GoodIn wsX10_faults wsX10_fine := goodIn_r _ [8, 3, 9, 10, 11, 12, 13, 14, 15, 16, 17, 18, 19, 20, 21, 22, 23, 24, 25, 26, 27, 28, 29, 30, 31, 32, 33, 34, 35, 36, 37, 38, 39, 40, 41, 42, 43, 44, 45, 46, 47, 48, 49, 50, 51, 52, 53, 54, 55, 56, 57, 58, 59, 60, 61, 62, 63, 64] rfl (by decide +kernel)
set_option maxRecDepth 20000 in
theorem gX10_faults_X10_fine : GoodIn wsX10_faults (wsV RX10 192 RX10 yX10_fine wsX10_fine) := goodIn_app (goodIn_of _ (by decide +kernel)) ggX10_faults_X10_fine
theorem da9_dX10_faults_0 : (decode cX10_faults 0 = .ok (.aload_n 0, 1)) ∧ (decode cX10_faults 1 = .ok (.invokevirtual 192, 3)) ∧ (decode cX10_faults 4 = .ok (.ifCond .eq 16, 3)) ∧ (decode cX10_faults 7 = .ok (.aload_n 0, 1)) ∧ (decode cX10_faults 8 = .ok (.aload_n 0, 1)) ∧ (decode cX10_faults 9 = .ok (.getfield 60, 3)) ∧ (decode cX10_faults 12 = .ok (.aload_n 0, 1)) ∧ (decode cX10_faults 13 = .ok (.getfield 196, 3)) ∧ (decode cX10_faults 16 = .ok (.iaload, 1)) ∧ (decode cX10_faults 17 = .ok (.putfield 189, 3)) ∧ (decode cX10_faults 20 = .ok (.return_, 1)) := by decide +kernel
theorem dX10_faults_0 : decode cX10_faults 0 = .ok (.aload_n 0, 1) := da9_dX10_faults_0.1
theorem dX10_faults_1 : decode cX10_faults 1 = .ok (.invokevirtual 192, 3) := da9_dX10_faults_0.2.1
theorem dX10_faults_4 : decode cX10_faults 4 = .ok (.ifCond .eq 16, 3) := da9_dX10_faults_0.2.2.1
theorem dX10_faults_7 : decode cX10_faults 7 = .ok (.aload_n 0, 1) := da9_dX10_faults_0.2.2.2.1
theorem dX10_faults_8 : decode cX10_faults 8 = .ok (.aload_n 0, 1) := da9_dX10_faults_0.2.2.2.2.1
theorem dX10_faults_9 : decode cX10_faults 9 = .ok (.getfield 60, 3) := da9_dX10_faults_0.2.2.2.2.2.1
theorem dX10_faults_12 : decode cX10_faults 12 = .ok (.aload_n 0, 1) := da9_dX10_faults_0.2.2.2.2.2.2.1
theorem dX10_faults_13 : decode cX10_faults 13 = .ok (.getfield 196, 3) := da9_dX10_faults_0.2.2.2.2.2.2.2.1
theorem dX10_faults_16 : decode cX10_faults 16 = .ok (.iaload, 1) := da9_dX10_faults_0.2.2.2.2.2.2.2.2.1
theorem dX10_faults_17 : decode cX10_faults 17 = .ok (.putfield 189, 3) := da9_dX10_faults_0.2.2.2.2.2.2.2.2.2.1
theorem dX10_faults_20 : decode cX10_faults 20 = .ok (.return_, 1) := da9_dX10_faults_0.2.2.2.2.2.2.2.2.2.2
set_option maxRecDepth 20000 in
theorem ggX10_takes0_X10_fine : GoodIn wsX10_takes0 wsX10_fine := goodIn_r _ [7, 8, 9, 10, 11, 12, 13, 14, 15, 16, 17, 18, 19, 20, 21, 22, 23, 24, 25, 26, 27, 28, 29, 30, 31, 32, 33, 34, 35, 36, 37, 38, 39, 40, 41, 42, 43, 44, 45, 46, 47, 48, 49, 50, 51, 52, 53, 54, 55, 56, 57, 58, 59, 60, 61, 62, 63, 64] rfl (by decide +kernel)
set_option maxRecDepth 20000 in
theorem gX10_takes0_X10_fine : GoodIn wsX10_takes0 (wsV RX10 192 RX10 yX10_fine wsX10_fine) := goodIn_app (goodIn_of _ (by decide +kernel)) ggX10_takes0_X10_fine
theorem da9_dX10_takes0_0 : (decode cX10_takes0 0 = .ok (.aload_n 0, 1)) ∧ (decode cX10_takes0 1 = .ok (.invokevirtual 192, 3)) ∧ (decode cX10_takes0 4 = .ok (.ifCond .eq 20, 3)) ∧ (decode cX10_takes0 7 = .ok (.aload_n 0, 1)) ∧ (decode cX10_takes0 8 = .ok (.getfield 54, 3)) ∧ (decode cX10_takes0 11 = .ok (.aload_n 0, 1)) ∧ (decode cX10_takes0 12 = .ok (.getfield 196, 3)) ∧ (decode cX10_takes0 15 = .ok (.iaload, 1)) ∧ (decode cX10_takes0 16 = .ok (.iload_n 1, 1)) ∧ (decode cX10_takes0 17 = .ok (.if_icmp .ne 7, 3)) ∧ (decode cX10_takes0 20 = .ok (.iconst 1, 1)) ∧ (decode cX10_takes0 21 = .ok (.goto 4, 3)) ∧ (decode cX10_takes0 24 = .ok (.iconst 0, 1)) ∧ (decode cX10_takes0 25 = .ok (.istore_n 2, 1)) ∧ (decode cX10_takes0 26 = .ok (.iload_n 2, 1)) ∧ (decode cX10_takes0 27 = .ok (.ifCond .eq 13, 3)) := by decide +kernel
theorem dX10_takes0_0 : decode cX10_takes0 0 = .ok (.aload_n 0, 1) := da9_dX10_takes0_0.1
theorem dX10_takes0_1 : decode cX10_takes0 1 = .ok (.invokevirtual 192, 3) := da9_dX10_takes0_0.2.1
theorem dX10_takes0_4 : decode cX10_takes0 4 = .ok (.ifCond .eq 20, 3) := da9_dX10_takes0_0.2.2.1
theorem dX10_takes0_7 : decode cX10_takes0 7 = .ok (.aload_n 0, 1) := da9_dX10_takes0_0.2.2.2.1
theorem dX10_takes0_8 : decode cX10_takes0 8 = .ok (.getfield 54, 3) := da9_dX10_takes0_0.2.2.2.2.1
theorem dX10_takes0_11 : decode cX10_takes0 11 = .ok (.aload_n 0, 1) := da9_dX10_takes0_0.2.2.2.2.2.1
theorem dX10_takes0_12 : decode cX10_takes0 12 = .ok (.getfield 196, 3) := da9_dX10_takes0_0.2.2.2.2.2.2.1
theorem dX10_takes0_15 : decode cX10_takes0 15 = .ok (.iaload, 1) := da9_dX10_takes0_0.2.2.2.2.2.2.2.1
theorem dX10_takes0_16 : decode cX10_takes0 16 = .ok (.iload_n 1, 1) := da9_dX10_takes0_0.2.2.2.2.2.2.2.2.1
theorem dX10_takes0_17 : decode cX10_takes0 17 = .ok (.if_icmp .ne 7, 3) := da9_dX10_takes0_0.2.2.2.2.2.2.2.2.2.1
theorem dX10_takes0_20 : decode cX10_takes0 20 = .ok (.iconst 1, 1) := da9_dX10_takes0_0.2.2.2.2.2.2.2.2.2.2.1
theorem dX10_takes0_21 : decode cX10_takes0 21 = .ok (.goto 4, 3) := da9_dX10_takes0_0.2.2.2.2.2.2.2.2.2.2.2.1
theorem dX10_takes0_24 : decode cX10_takes0 24 = .ok (.iconst 0, 1) := da9_dX10_takes0_0.2.2.2.2.2.2.2.2.2.2.2.2.1
theorem dX10_takes0_25 : decode cX10_takes0 25 = .ok (.istore_n 2, 1) := da9_dX10_takes0_0.2.2.2.2.2.2.2.2.2.2.2.2.2.1
theorem dX10_takes0_26 : decode cX10_takes0 26 = .ok (.iload_n 2, 1) := da9_dX10_takes0_0.2.2.2.2.2.2.2.2.2.2.2.2.2.2.1
theorem dX10_takes0_27 : decode cX10_takes0 27 = .ok (.ifCond .eq 13, 3) := da9_dX10_takes0_0.2.2.2.2.2.2.2.2.2.2.2.2.2.2.2
theorem da9_dX10_takes0_30 : (decode cX10_takes0 30 = .ok (.aload_n 0, 1)) ∧ (decode cX10_takes0 31 = .ok (.dup, 1)) ∧ (decode cX10_takes0 32 = .ok (.getfield 196, 3)) ∧ (decode cX10_takes0 35 = .ok (.iconst 1, 1)) ∧ (decode cX10_takes0 36 = .ok (.iadd, 1)) ∧ (decode cX10_takes0 37 = .ok (.putfield 196, 3)) ∧ (decode cX10_takes0 40 = .ok (.iload_n 2, 1)) ∧ (decode cX10_takes0 41 = .ok (.ireturn, 1)) := by decide +kernel
theorem dX10_takes0_30 : decode cX10_takes0 30 = .ok (.aload_n 0, 1) := da9_dX10_takes0_30.1
theorem dX10_takes0_31 : decode cX10_takes0 31 = .ok (.dup, 1) := da9_dX10_takes0_30.2.1
theorem dX10_takes0_32 : decode cX10_takes0 32 = .ok (.getfield 196, 3) := da9_dX10_takes0_30.2.2.1
theorem dX10_takes0_35 : decode cX10_takes0 35 = .ok (.iconst 1, 1) := da9_dX10_takes0_30.2.2.2.1
theorem dX10_takes0_36 : decode cX10_takes0 36 = .ok (.iadd, 1) := da9_dX10_takes0_30.2.2.2.2.1
theorem dX10_takes0_37 : decode cX10_takes0 37 = .ok (.putfield 196, 3) := da9_dX10_takes0_30.2.2.2.2.2.1
theorem dX10_takes0_40 : decode cX10_takes0 40 = .ok (.iload_n 2, 1) := da9_dX10_takes0_30.2.2.2.2.2.2.1
theorem dX10_takes0_41 : decode cX10_takes0 41 = .ok (.ireturn, 1) := da9_dX10_takes0_30.2.2.2.2.2.2.2
set_option maxRecDepth 20000 in
theorem ggX10_must_X10_takes0 : GoodIn wsX10_must wsX10_takes0 := goodIn_r _ [5, 6, 7, 8, 9, 10, 4, 11, 12, 18, 19, 20, 21, 22, 23, 24, 25, 26, 27, 28, 29, 30, 31, 32, 33, 34, 35, 36, 37, 38, 39, 40, 41, 42, 43, 44, 45, 46, 47, 48, 49, 50, 51, 52, 53, 54, 55, 56, 57, 58, 59, 60, 61, 62, 63, 64, 65, 66, 67, 68, 69, 70, 71, 72, 73] rfl (by decide +kernel)
set_option maxRecDepth 20000 in
theorem gX10_must_X10_takes0 : GoodIn wsX10_must (wsV RX10 199 RX10 yX10_takes0 wsX10_takes0) := goodIn_app (goodIn_of _ (by decide +kernel)) ggX10_must_X10_takes0
set_option maxRecDepth 20000 in
theorem ggX10_must_X10_faults : GoodIn wsX10_must wsX10_faults := goodIn_r _ [16, 17, 7, 12, 8, 9, 10, 4, 11, 18, 19, 20, 21, 22, 23, 24, 25, 26, 27, 28, 29, 30, 31, 32, 33, 34, 35, 36, 37, 38, 39, 40, 41, 42, 43, 44, 45, 46, 47, 48, 49, 50, 51, 52, 53, 54, 55, 56, 57, 58, 59, 60, 61, 62, 63, 64, 65, 66, 67, 68, 69, 70, 71, 72, 73] rfl (by decide +kernel)
set_option maxRecDepth 20000 in
theorem gX10_must_X10_faults : GoodIn wsX10_must (wsV RX10 202 RX10 yX10_faults wsX10_faults) := goodIn_app (goodIn_of _ (by decide +kernel)) ggX10_must_X10_faults
theorem da9_dX10_must_0 : (decode cX10_must 0 = .ok (.aload_n 0, 1)) ∧ (decode cX10_must 1 = .ok (.iload_n 1, 1)) ∧ (decode cX10_must 2 = .ok (.invokevirtual 199, 3)) ∧ (decode cX10_must 5 = .ok (.ifCond .ne 7, 3)) ∧ (decode cX10_must 8 = .ok (.aload_n 0, 1)) ∧ (decode cX10_must 9 = .ok (.invokevirtual 202, 3)) ∧ (decode cX10_must 12 = .ok (.return_, 1)) := by decide +kernel
theorem dX10_must_0 : decode cX10_must 0 = .ok (.aload_n 0, 1) := da9_dX10_must_0.1
theorem dX10_must_1 : decode cX10_must 1 = .ok (.iload_n 1, 1) := da9_dX10_must_0.2.1
theorem dX10_must_2 : decode cX10_must 2 = .ok (.invokevirtual 199, 3) := da9_dX10_must_0.2.2.1
theorem dX10_must_5 : decode cX10_must 5 = .ok (.ifCond .ne 7, 3) := da9_dX10_must_0.2.2.2.1
theorem dX10_must_8 : decode cX10_must 8 = .ok (.aload_n 0, 1) := da9_dX10_must_0.2.2.2.2.1
theorem dX10_must_9 : decode cX10_must 9 = .ok (.invokevirtual 202, 3) := da9_dX10_must_0.2.2.2.2.2.1
theorem dX10_must_12 : decode cX10_must 12 = .ok (.return_, 1) := da9_dX10_must_0.2.2.2.2.2.2
set_option maxRecDepth 20000 in
theorem ggX10_leaf_X10_faults : GoodIn wsX10_leaf wsX10_faults := goodIn_r _ [7, 8, 2, 9, 10, 11, 12, 6, 13, 14, 15, 16, 17, 18, 19, 20, 21, 22, 23, 24, 25, 26, 27, 28, 29, 30, 31, 32, 33, 34, 35, 36, 37, 38, 39, 40, 41, 42, 43, 44, 45, 46, 47, 48, 49, 50, 51, 52, 53, 54, 55, 56, 57, 58, 59, 60, 61, 62, 63, 64, 65, 66, 67, 68, 69] rfl (by decide +kernel)
set_option maxRecDepth 20000 in
theorem gX10_leaf_X10_faults : GoodIn wsX10_leaf (wsV RX10 202 RX10 yX10_faults wsX10_faults) := goodIn_app (goodIn_of _ (by decide +kernel)) ggX10_leaf_X10_faults
set_option maxRecDepth 20000 in
theorem ggX10_leaf_X10_fine : GoodIn wsX10_leaf wsX10_fine := goodIn_r _ [13, 9, 14, 15, 16, 17, 18, 19, 20, 21, 22, 23, 24, 25, 26, 27, 28, 29, 30, 31, 32, 33, 34, 35, 36, 37, 38, 39, 40, 41, 42, 43, 44, 45, 46, 47, 48, 49, 50, 51, 52, 53, 54, 55, 56, 57, 58, 59, 60, 61, 62, 63, 64, 65, 66, 67, 68, 69] rfl (by decide +kernel)
set_option maxRecDepth 20000 in
theorem gX10_leaf_X10_fine : GoodIn wsX10_leaf (wsV RX10 192 RX10 yX10_fine wsX10_fine) := goodIn_app (goodIn_of _ (by decide +kernel)) ggX10_leaf_X10_fine
theorem da9_dX10_leaf_0 : (decode cX10_leaf 0 = .ok (.aload_n 0, 1)) ∧ (decode cX10_leaf 1 = .ok (.getfield 205, 3)) ∧ (decode cX10_leaf 4 = .ok (.bipush 50, 2)) ∧ (decode cX10_leaf 6 = .ok (.if_icmp .ne 7, 3)) ∧ (decode cX10_leaf 9 = .ok (.aload_n 0, 1)) ∧ (decode cX10_leaf 10 = .ok (.invokevirtual 202, 3)) ∧ (decode cX10_leaf 13 = .ok (.aload_n 0, 1)) ∧ (decode cX10_leaf 14 = .ok (.dup, 1)) ∧ (decode cX10_leaf 15 = .ok (.getfield 205, 3)) ∧ (decode cX10_leaf 18 = .ok (.iconst 1, 1)) ∧ (decode cX10_leaf 19 = .ok (.iadd, 1)) ∧ (decode cX10_leaf 20 = .ok (.putfield 205, 3)) ∧ (decode cX10_leaf 23 = .ok (.aload_n 0, 1)) ∧ (decode cX10_leaf 24 = .ok (.invokevirtual 192, 3)) ∧ (decode cX10_leaf 27 = .ok (.ifCond .eq 13, 3)) ∧ (decode cX10_leaf 30 = .ok (.aload_n 0, 1)) := by decide +kernel
theorem dX10_leaf_0 : decode cX10_leaf 0 = .ok (.aload_n 0, 1) := da9_dX10_leaf_0.1
theorem dX10_leaf_1 : decode cX10_leaf 1 = .ok (.getfield 205, 3) := da9_dX10_leaf_0.2.1
theorem dX10_leaf_4 : decode cX10_leaf 4 = .ok (.bipush 50, 2) := da9_dX10_leaf_0.2.2.1
theorem dX10_leaf_6 : decode cX10_leaf 6 = .ok (.if_icmp .ne 7, 3) := da9_dX10_leaf_0.2.2.2.1
theorem dX10_leaf_9 : decode cX10_leaf 9 = .ok (.aload_n 0, 1) := da9_dX10_leaf_0.2.2.2.2.1
theorem dX10_leaf_10 : decode cX10_leaf 10 = .ok (.invokevirtual 202, 3) := da9_dX10_leaf_0.2.2.2.2.2.1
theorem dX10_leaf_13 : decode cX10_leaf 13 = .ok (.aload_n 0, 1) := da9_dX10_leaf_0.2.2.2.2.2.2.1
theorem dX10_leaf_14 : decode cX10_leaf 14 = .ok (.dup, 1) := da9_dX10_leaf_0.2.2.2.2.2.2.2.1
theorem dX10_leaf_15 : decode cX10_leaf 15 = .ok (.getfield 205, 3) := da9_dX10_leaf_0.2.2.2.2.2.2.2.2.1
theorem dX10_leaf_18 : decode cX10_leaf 18 = .ok (.iconst 1, 1) := da9_dX10_leaf_0.2.2.2.2.2.2.2.2.2.1
theorem dX10_leaf_19 : decode cX10_leaf 19 = .ok (.iadd, 1) := da9_dX10_leaf_0.2.2.2.2.2.2.2.2.2.2.1
theorem dX10_leaf_20 : decode cX10_leaf 20 = .ok (.putfield 205, 3) := da9_dX10_leaf_0.2.2.2.2.2.2.2.2.2.2.2.1
theorem dX10_leaf_23 : decode cX10_leaf 23 = .ok (.aload_n 0, 1) := da9_dX10_leaf_0.2.2.2.2.2.2.2.2.2.2.2.2.1
theorem dX10_leaf_24 : decode cX10_leaf 24 = .ok (.invokevirtual 192, 3) := da9_dX10_leaf_0.2.2.2.2.2.2.2.2.2.2.2.2.2.1
theorem dX10_leaf_27 : decode cX10_leaf 27 = .ok (.ifCond .eq 13, 3) := da9_dX10_leaf_0.2.2.2.2.2.2.2.2.2.2.2.2.2.2.1
theorem dX10_leaf_30 : decode cX10_leaf 30 = .ok (.aload_n 0, 1) := da9_dX10_leaf_0.2.2.2.2.2.2.2.2.2.2.2.2.2.2.2
theorem da9_dX10_leaf_31 : (decode cX10_leaf 31 = .ok (.dup, 1)) ∧ (decode cX10_leaf 32 = .ok (.getfield 196, 3)) ∧ (decode cX10_leaf 35 = .ok (.iconst 1, 1)) ∧ (decode cX10_leaf 36 = .ok (.iadd, 1)) ∧ (decode cX10_leaf 37 = .ok (.putfield 196, 3)) ∧ (decode cX10_leaf 40 = .ok (.return_, 1)) := by decide +kernel
theorem dX10_leaf_31 : decode cX10_leaf 31 = .ok (.dup, 1) := da9_dX10_leaf_31.1
theorem dX10_leaf_32 : decode cX10_leaf 32 = .ok (.getfield 196, 3) := da9_dX10_leaf_31.2.1
theorem dX10_leaf_35 : decode cX10_leaf 35 = .ok (.iconst 1, 1) := da9_dX10_leaf_31.2.2.1
theorem dX10_leaf_36 : decode cX10_leaf 36 = .ok (.iadd, 1) := da9_dX10_leaf_31.2.2.2.1
theorem dX10_leaf_37 : decode cX10_leaf 37 = .ok (.putfield 196, 3) := da9_dX10_leaf_31.2.2.2.2.1
theorem dX10_leaf_40 : decode cX10_leaf 40 = .ok (.return_, 1) := da9_dX10_leaf_31.2.2.2.2.2
set_option maxRecDepth 20000 in
theorem ggX10_mustNumber_X10_fine : GoodIn wsX10_mustNumber wsX10_fine := goodIn_r _ [8, 9, 18, 19, 20, 21, 22, 23, 24, 25, 26, 27, 28, 29, 30, 31, 32, 33, 34, 35, 36, 37, 38, 39, 40, 41, 42, 43, 44, 45, 46, 47, 48, 49, 50, 51, 52, 53, 54, 55, 56, 57, 58, 59, 60, 61, 62, 63, 64, 65, 66, 67, 68, 69, 70, 71, 72, 73] rfl (by decide +kernel)
set_option maxRecDepth 20000 in
theorem gX10_mustNumber_X10_fine : GoodIn wsX10_mustNumber (wsV RX10 192 RX10 yX10_fine wsX10_fine) := goodIn_app (goodIn_of _ (by decide +kernel)) ggX10_mustNumber_X10_fine
set_option maxRecDepth 20000 in
theorem ggX10_mustNumber_X10_lies : GoodIn wsX10_mustNumber wsX10_lies := goodIn_r _ [12] rfl (by decide +kernel)
set_option maxRecDepth 20000 in
theorem gX10_mustNumber_X10_lies : GoodIn wsX10_mustNumber (va_wsS RX10 18 yX10_lies wsX10_lies) := goodIn_app (goodIn_of _ (by decide +kernel)) ggX10_mustNumber_X10_lies
set_option maxRecDepth 20000 in
theorem ggX10_mustNumber_X10_faults : GoodIn wsX10_mustNumber wsX10_faults := goodIn_r _ [16, 17, 2, 9, 4, 5, 6, 7, 8, 18, 19, 20, 21, 22, 23, 24, 25, 26, 27, 28, 29, 30, 31, 32, 33, 34, 35, 36, 37, 38, 39, 40, 41, 42, 43, 44, 45, 46, 47, 48, 49, 50, 51, 52, 53, 54, 55, 56, 57, 58, 59, 60, 61, 62, 63, 64, 65, 66, 67, 68, 69, 70, 71, 72, 73] rfl (by decide +kernel)
set_option maxRecDepth 20000 in
theorem gX10_mustNumber_X10_faults : GoodIn wsX10_mustNumber (wsV RX10 202 RX10 yX10_faults wsX10_faults) := goodIn_app (goodIn_of _ (by decide +kernel)) ggX10_mustNumber_X10_faults
theorem da9_dX10_mustNumber_0 : (decode cX10_mustNumber 0 = .ok (.aload_n 0, 1)) ∧ (decode cX10_mustNumber 1 = .ok (.invokevirtual 192, 3)) ∧ (decode cX10_mustNumber 4 = .ok (.ifCond .eq 38, 3)) ∧ (decode cX10_mustNumber 7 = .ok (.aload_n 0, 1)) ∧ (decode cX10_mustNumber 8 = .ok (.getfield 54, 3)) ∧ (decode cX10_mustNumber 11 = .ok (.aload_n 0, 1)) ∧ (decode cX10_mustNumber 12 = .ok (.getfield 196, 3)) ∧ (decode cX10_mustNumber 15 = .ok (.iaload, 1)) ∧ (decode cX10_mustNumber 16 = .ok (.bipush 50, 2)) ∧ (decode cX10_mustNumber 18 = .ok (.if_icmp .ne 20, 3)) ∧ (decode cX10_mustNumber 21 = .ok (.aload_n 0, 1)) ∧ (decode cX10_mustNumber 22 = .ok (.getfield 57, 3)) ∧ (decode cX10_mustNumber 25 = .ok (.aload_n 0, 1)) ∧ (decode cX10_mustNumber 26 = .ok (.getfield 196, 3)) ∧ (decode cX10_mustNumber 29 = .ok (.iaload, 1)) ∧ (decode cX10_mustNumber 30 = .ok (.iload_n 1, 1)) := by decide +kernel
theorem dX10_mustNumber_0 : decode cX10_mustNumber 0 = .ok (.aload_n 0, 1) := da9_dX10_mustNumber_0.1
theorem dX10_mustNumber_1 : decode cX10_mustNumber 1 = .ok (.invokevirtual 192, 3) := da9_dX10_mustNumber_0.2.1
theorem dX10_mustNumber_4 : decode cX10_mustNumber 4 = .ok (.ifCond .eq 38, 3) := da9_dX10_mustNumber_0.2.2.1
theorem dX10_mustNumber_7 : decode cX10_mustNumber 7 = .ok (.aload_n 0, 1) := da9_dX10_mustNumber_0.2.2.2.1
theorem dX10_mustNumber_8 : decode cX10_mustNumber 8 = .ok (.getfield 54, 3) := da9_dX10_mustNumber_0.2.2.2.2.1
theorem dX10_mustNumber_11 : decode cX10_mustNumber 11 = .ok (.aload_n 0, 1) := da9_dX10_mustNumber_0.2.2.2.2.2.1
theorem dX10_mustNumber_12 : decode cX10_mustNumber 12 = .ok (.getfield 196, 3) := da9_dX10_mustNumber_0.2.2.2.2.2.2.1
theorem dX10_mustNumber_15 : decode cX10_mustNumber 15 = .ok (.iaload, 1) := da9_dX10_mustNumber_0.2.2.2.2.2.2.2.1
theorem dX10_mustNumber_16 : decode cX10_mustNumber 16 = .ok (.bipush 50, 2) := da9_dX10_mustNumber_0.2.2.2.2.2.2.2.2.1
theorem dX10_mustNumber_18 : decode cX10_mustNumber 18 = .ok (.if_icmp .ne 20, 3) := da9_dX10_mustNumber_0.2.2.2.2.2.2.2.2.2.1
theorem dX10_mustNumber_21 : decode cX10_mustNumber 21 = .ok (.aload_n 0, 1) := da9_dX10_mustNumber_0.2.2.2.2.2.2.2.2.2.2.1
theorem dX10_mustNumber_22 : decode cX10_mustNumber 22 = .ok (.getfield 57, 3) := da9_dX10_mustNumber_0.2.2.2.2.2.2.2.2.2.2.2.1
theorem dX10_mustNumber_25 : decode cX10_mustNumber 25 = .ok (.aload_n 0, 1) := da9_dX10_mustNumber_0.2.2.2.2.2.2.2.2.2.2.2.2.1
theorem dX10_mustNumber_26 : decode cX10_mustNumber 26 = .ok (.getfield 196, 3) := da9_dX10_mustNumber_0.2.2.2.2.2.2.2.2.2.2.2.2.2.1
theorem dX10_mustNumber_29 : decode cX10_mustNumber 29 = .ok (.iaload, 1) := da9_dX10_mustNumber_0.2.2.2.2.2.2.2.2.2.2.2.2.2.2.1
theorem dX10_mustNumber_30 : decode cX10_mustNumber 30 = .ok (.iload_n 1, 1) := da9_dX10_mustNumber_0.2.2.2.2.2.2.2.2.2.2.2.2.2.2.2
theorem da9_dX10_mustNumber_31 : (decode cX10_mustNumber 31 = .ok (.iload_n 2, 1)) ∧ (decode cX10_mustNumber 32 = .ok (.invokestatic 18, 3)) ∧ (decode cX10_mustNumber 35 = .ok (.ifCond .ne 7, 3)) ∧ (decode cX10_mustNumber 38 = .ok (.aload_n 0, 1)) ∧ (decode cX10_mustNumber 39 = .ok (.invokevirtual 202, 3)) ∧ (decode cX10_mustNumber 42 = .ok (.aload_n 0, 1)) ∧ (decode cX10_mustNumber 43 = .ok (.invokevirtual 192, 3)) ∧ (decode cX10_mustNumber 46 = .ok (.ifCond .eq 13, 3)) ∧ (decode cX10_mustNumber 49 = .ok (.aload_n 0, 1)) ∧ (decode cX10_mustNumber 50 = .ok (.dup, 1)) ∧ (decode cX10_mustNumber 51 = .ok (.getfield 196, 3)) ∧ (decode cX10_mustNumber 54 = .ok (.iconst 1, 1)) ∧ (decode cX10_mustNumber 55 = .ok (.iadd, 1)) ∧ (decode cX10_mustNumber 56 = .ok (.putfield 196, 3)) ∧ (decode cX10_mustNumber 59 = .ok (.return_, 1)) := by decide +kernel
theorem dX10_mustNumber_31 : decode cX10_mustNumber 31 = .ok (.iload_n 2, 1) := da9_dX10_mustNumber_31.1
theorem dX10_mustNumber_32 : decode cX10_mustNumber 32 = .ok (.invokestatic 18, 3) := da9_dX10_mustNumber_31.2.1
theorem dX10_mustNumber_35 : decode cX10_mustNumber 35 = .ok (.ifCond .ne 7, 3) := da9_dX10_mustNumber_31.2.2.1
theorem dX10_mustNumber_38 : decode cX10_mustNumber 38 = .ok (.aload_n 0, 1) := da9_dX10_mustNumber_31.2.2.2.1
theorem dX10_mustNumber_39 : decode cX10_mustNumber 39 = .ok (.invokevirtual 202, 3) := da9_dX10_mustNumber_31.2.2.2.2.1
theorem dX10_mustNumber_42 : decode cX10_mustNumber 42 = .ok (.aload_n 0, 1) := da9_dX10_mustNumber_31.2.2.2.2.2.1
theorem dX10_mustNumber_43 : decode cX10_mustNumber 43 = .ok (.invokevirtual 192, 3) := da9_dX10_mustNumber_31.2.2.2.2.2.2.1
theorem dX10_mustNumber_46 : decode cX10_mustNumber 46 = .ok (.ifCond .eq 13, 3) := da9_dX10_mustNumber_31.2.2.2.2.2.2.2.1
theorem dX10_mustNumber_49 : decode cX10_mustNumber 49 = .ok (.aload_n 0, 1) := da9_dX10_mustNumber_31.2.2.2.2.2.2.2.2.1
theorem dX10_mustNumber_50 : decode cX10_mustNumber 50 = .ok (.dup, 1) := da9_dX10_mustNumber_31.2.2.2.2.2.2.2.2.2.1
theorem dX10_mustNumber_51 : decode cX10_mustNumber 51 = .ok (.getfield 196, 3) := da9_dX10_mustNumber_31.2.2.2.2.2.2.2.2.2.2.1
theorem dX10_mustNumber_54 : decode cX10_mustNumber 54 = .ok (.iconst 1, 1) := da9_dX10_mustNumber_31.2.2.2.2.2.2.2.2.2.2.2.1
theorem dX10_mustNumber_55 : decode cX10_mustNumber 55 = .ok (.iadd, 1) := da9_dX10_mustNumber_31.2.2.2.2.2.2.2.2.2.2.2.2.1
theorem dX10_mustNumber_56 : decode cX10_mustNumber 56 = .ok (.putfield 196, 3) := da9_dX10_mustNumber_31.2.2.2.2.2.2.2.2.2.2.2.2.2.1
theorem dX10_mustNumber_59 : decode cX10_mustNumber 59 = .ok (.return_, 1) := da9_dX10_mustNumber_31.2.2.2.2.2.2.2.2.2.2.2.2.2.2
