set_option maxRecDepth 20000 in
theorem ggX9_few_J7_fill_d0a16 : GoodIn wsX9_few wsJ7_fill_d0a16 := goodIn_r _ [9] rfl (by decide +kernel)
set_option maxRecDepth 20000 in
theorem gX9_few_J7_fill_d0a16 : GoodIn wsX9_few (va_wsS RX9 293 yJ7_fill_d0a16 wsJ7_fill_d0a16) := goodIn_app (goodIn_of _ (by decide +kernel)) ggX9_few_J7_fill_d0a16
theorem dX9_few_0 : decode cX9_few 0 = .ok (.iload_n 1, 1) := by decide +kernel
theorem dX9_few_1 : decode cX9_few 1 = .ok (.iconst 1, 1) := by decide +kernel
theorem dX9_few_2 : decode cX9_few 2 = .ok (.if_icmp .lt 19, 3) := by decide +kernel
theorem dX9_few_5 : decode cX9_few 5 = .ok (.iload_n 1, 1) := by decide +kernel
theorem dX9_few_6 : decode cX9_few 6 = .ok (.bipush 20, 2) := by decide +kernel
theorem dX9_few_8 : decode cX9_few 8 = .ok (.if_icmp .gt 13, 3) := by decide +kernel
theorem dX9_few_11 : decode cX9_few 11 = .ok (.iload_n 2, 1) := by decide +kernel
theorem dX9_few_12 : decode cX9_few 12 = .ok (.ifCond .lt 9, 3) := by decide +kernel
theorem dX9_few_15 : decode cX9_few 15 = .ok (.iload_n 2, 1) := by decide +kernel
theorem dX9_few_16 : decode cX9_few 16 = .ok (.bipush 99, 2) := by decide +kernel
theorem dX9_few_18 : decode cX9_few 18 = .ok (.if_icmp .le 7, 3) := by decide +kernel
theorem dX9_few_21 : decode cX9_few 21 = .ok (.ldc2_w 291, 3) := by decide +kernel
theorem dX9_few_24 : decode cX9_few 24 = .ok (.lreturn, 1) := by decide +kernel
theorem dX9_few_25 : decode cX9_few 25 = .ok (.aload_n 0, 1) := by decide +kernel
theorem dX9_few_26 : decode cX9_few 26 = .ok (.getfield 101, 3) := by decide +kernel
theorem dX9_few_29 : decode cX9_few 29 = .ok (.lconst 0, 1) := by decide +kernel
theorem dX9_few_30 : decode cX9_few 30 = .ok (.invokestatic 293, 3) := by decide +kernel
theorem dX9_few_33 : decode cX9_few 33 = .ok (.aload_n 0, 1) := by decide +kernel
theorem dX9_few_34 : decode cX9_few 34 = .ok (.getfield 101, 3) := by decide +kernel
theorem dX9_few_37 : decode cX9_few 37 = .ok (.iconst 0, 1) := by decide +kernel
theorem dX9_few_38 : decode cX9_few 38 = .ok (.ldc2_w 299, 3) := by decide +kernel
theorem dX9_few_41 : decode cX9_few 41 = .ok (.lastore, 1) := by decide +kernel
theorem dX9_few_42 : decode cX9_few 42 = .ok (.iconst 0, 1) := by decide +kernel
theorem dX9_few_43 : decode cX9_few 43 = .ok (.istore_n 3, 1) := by decide +kernel
theorem dX9_few_44 : decode cX9_few 44 = .ok (.iload_n 3, 1) := by decide +kernel
theorem dX9_few_45 : decode cX9_few 45 = .ok (.iload_n 2, 1) := by decide +kernel
theorem dX9_few_46 : decode cX9_few 46 = .ok (.if_icmp .ge 95, 3) := by decide +kernel
theorem dX9_few_49 : decode cX9_few 49 = .ok (.iload_n 1, 1) := by decide +kernel
theorem dX9_few_50 : decode cX9_few 50 = .ok (.iconst 1, 1) := by decide +kernel
theorem dX9_few_51 : decode cX9_few 51 = .ok (.isub, 1) := by decide +kernel
theorem dX9_few_52 : decode cX9_few 52 = .ok (.istore 4, 2) := by decide +kernel
theorem dX9_few_54 : decode cX9_few 54 = .ok (.iload 4, 2) := by decide +kernel
theorem dX9_few_56 : decode cX9_few 56 = .ok (.ifCond .lt 79, 3) := by decide +kernel
theorem dX9_few_59 : decode cX9_few 59 = .ok (.aload_n 0, 1) := by decide +kernel
theorem dX9_few_60 : decode cX9_few 60 = .ok (.getfield 101, 3) := by decide +kernel
theorem dX9_few_63 : decode cX9_few 63 = .ok (.iload 4, 2) := by decide +kernel
theorem dX9_few_65 : decode cX9_few 65 = .ok (.laload, 1) := by decide +kernel
theorem dX9_few_66 : decode cX9_few 66 = .ok (.bipush 10, 2) := by decide +kernel
theorem dX9_few_68 : decode cX9_few 68 = .ok (.aload_n 0, 1) := by decide +kernel
theorem dX9_few_69 : decode cX9_few 69 = .ok (.getfield 10, 3) := by decide +kernel
theorem dX9_few_72 : decode cX9_few 72 = .ok (.getfield 301, 3) := by decide +kernel
theorem dX9_few_75 : decode cX9_few 75 = .ok (.isub, 1) := by decide +kernel
theorem dX9_few_76 : decode cX9_few 76 = .ok (.i2l, 1) := by decide +kernel
theorem dX9_few_77 : decode cX9_few 77 = .ok (.lmul, 1) := by decide +kernel
theorem dX9_few_78 : decode cX9_few 78 = .ok (.ldc2_w 304, 3) := by decide +kernel
theorem dX9_few_81 : decode cX9_few 81 = .ok (.ldiv, 1) := by decide +kernel
theorem dX9_few_82 : decode cX9_few 82 = .ok (.lstore 5, 2) := by decide +kernel
theorem dX9_few_84 : decode cX9_few 84 = .ok (.iload 4, 2) := by decide +kernel
theorem dX9_few_86 : decode cX9_few 86 = .ok (.ifCond .ne 7, 3) := by decide +kernel
theorem dX9_few_89 : decode cX9_few 89 = .ok (.lconst 0, 1) := by decide +kernel
theorem dX9_few_90 : decode cX9_few 90 = .ok (.goto 25, 3) := by decide +kernel
theorem dX9_few_93 : decode cX9_few 93 = .ok (.aload_n 0, 1) := by decide +kernel
theorem dX9_few_94 : decode cX9_few 94 = .ok (.getfield 101, 3) := by decide +kernel
theorem dX9_few_97 : decode cX9_few 97 = .ok (.iload 4, 2) := by decide +kernel
theorem dX9_few_99 : decode cX9_few 99 = .ok (.iconst 1, 1) := by decide +kernel
theorem dX9_few_100 : decode cX9_few 100 = .ok (.isub, 1) := by decide +kernel
theorem dX9_few_101 : decode cX9_few 101 = .ok (.laload, 1) := by decide +kernel
theorem dX9_few_102 : decode cX9_few 102 = .ok (.aload_n 0, 1) := by decide +kernel
theorem dX9_few_103 : decode cX9_few 103 = .ok (.getfield 10, 3) := by decide +kernel
theorem dX9_few_106 : decode cX9_few 106 = .ok (.getfield 301, 3) := by decide +kernel
theorem dX9_few_109 : decode cX9_few 109 = .ok (.i2l, 1) := by decide +kernel
theorem dX9_few_110 : decode cX9_few 110 = .ok (.lmul, 1) := by decide +kernel
theorem dX9_few_111 : decode cX9_few 111 = .ok (.ldc2_w 304, 3) := by decide +kernel
theorem dX9_few_114 : decode cX9_few 114 = .ok (.ldiv, 1) := by decide +kernel
theorem dX9_few_115 : decode cX9_few 115 = .ok (.lstore 7, 2) := by decide +kernel
theorem dX9_few_117 : decode cX9_few 117 = .ok (.aload_n 0, 1) := by decide +kernel
theorem dX9_few_118 : decode cX9_few 118 = .ok (.getfield 101, 3) := by decide +kernel
theorem dX9_few_121 : decode cX9_few 121 = .ok (.iload 4, 2) := by decide +kernel
theorem dX9_few_123 : decode cX9_few 123 = .ok (.lload 5, 2) := by decide +kernel
theorem dX9_few_125 : decode cX9_few 125 = .ok (.lload 7, 2) := by decide +kernel
theorem dX9_few_127 : decode cX9_few 127 = .ok (.ladd, 1) := by decide +kernel
theorem dX9_few_128 : decode cX9_few 128 = .ok (.lastore, 1) := by decide +kernel
theorem dX9_few_129 : decode cX9_few 129 = .ok (.iinc 4 (-1), 3) := by decide +kernel
theorem dX9_few_132 : decode cX9_few 132 = .ok (.goto (-78), 3) := by decide +kernel
theorem dX9_few_135 : decode cX9_few 135 = .ok (.iinc 3 1, 3) := by decide +kernel
theorem dX9_few_138 : decode cX9_few 138 = .ok (.goto (-94), 3) := by decide +kernel
theorem dX9_few_141 : decode cX9_few 141 = .ok (.lconst 0, 1) := by decide +kernel
theorem dX9_few_142 : decode cX9_few 142 = .ok (.lstore_n 3, 1) := by decide +kernel
theorem dX9_few_143 : decode cX9_few 143 = .ok (.iconst 0, 1) := by decide +kernel
theorem dX9_few_144 : decode cX9_few 144 = .ok (.istore 5, 2) := by decide +kernel
theorem dX9_few_146 : decode cX9_few 146 = .ok (.iload 5, 2) := by decide +kernel
theorem dX9_few_148 : decode cX9_few 148 = .ok (.iload_n 1, 1) := by decide +kernel
theorem dX9_few_149 : decode cX9_few 149 = .ok (.if_icmp .ge 19, 3) := by decide +kernel
theorem dX9_few_152 : decode cX9_few 152 = .ok (.lload_n 3, 1) := by decide +kernel
theorem dX9_few_153 : decode cX9_few 153 = .ok (.aload_n 0, 1) := by decide +kernel
theorem dX9_few_154 : decode cX9_few 154 = .ok (.getfield 101, 3) := by decide +kernel
theorem dX9_few_157 : decode cX9_few 157 = .ok (.iload 5, 2) := by decide +kernel
theorem dX9_few_159 : decode cX9_few 159 = .ok (.laload, 1) := by decide +kernel
theorem dX9_few_160 : decode cX9_few 160 = .ok (.ladd, 1) := by decide +kernel
theorem dX9_few_161 : decode cX9_few 161 = .ok (.lstore_n 3, 1) := by decide +kernel
theorem dX9_few_162 : decode cX9_few 162 = .ok (.iinc 5 1, 3) := by decide +kernel
theorem dX9_few_165 : decode cX9_few 165 = .ok (.goto (-19), 3) := by decide +kernel
theorem dX9_few_168 : decode cX9_few 168 = .ok (.lload_n 3, 1) := by decide +kernel
theorem dX9_few_169 : decode cX9_few 169 = .ok (.lreturn, 1) := by decide +kernel
