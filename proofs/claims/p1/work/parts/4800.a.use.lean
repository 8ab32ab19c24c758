set_option maxRecDepth 20000 in
theorem ggX10_image_X10_lies : GoodIn wsX10_image wsX10_lies := goodIn_r _ [7] (by decide +kernel) (by decide +kernel)
set_option maxRecDepth 20000 in
theorem gX10_image_X10_lies : GoodIn wsX10_image (va_wsS RX10 18 yX10_lies wsX10_lies) := goodIn_app (goodIn_of _ (by decide +kernel)) ggX10_image_X10_lies
set_option maxRecDepth 20000 in
theorem ggX10_image_X10_refuses : GoodIn wsX10_image wsX10_refuses := goodIn_r _ [11, 12, 13, 18, 19, 20, 21, 22, 23, 24, 25, 26, 27, 28, 29, 30, 31, 32, 33, 34, 35, 36, 37, 38, 39, 40, 41, 42, 43, 44, 45, 46, 47, 48, 49, 50, 51, 52, 53, 54, 55, 56, 57, 58, 59, 60, 61, 62, 63, 64, 65, 66, 67, 68, 69, 70, 71, 72, 73] (by decide +kernel) (by decide +kernel)
set_option maxRecDepth 20000 in
theorem gX10_image_X10_refuses : GoodIn wsX10_image (wsV RX10 119 RX10 yX10_refuses wsX10_refuses) := goodIn_app (goodIn_of _ (by decide +kernel)) ggX10_image_X10_refuses
set_option maxRecDepth 20000 in
theorem ggX10_image_X10_good : GoodIn wsX10_image wsX10_good := goodIn_r _ [17, 12, 18, 19, 20, 21, 22, 23, 24, 25, 26, 27, 28, 29, 30, 31, 32, 33, 34, 35, 36, 37, 38, 39, 40, 41, 42, 43, 44, 45, 46, 47, 48, 49, 50, 51, 52, 53, 54, 55, 56, 57, 58, 59, 60, 61, 62, 63, 64, 65, 66, 67, 68, 69, 70, 71, 72, 73] (by decide +kernel) (by decide +kernel)
set_option maxRecDepth 20000 in
theorem gX10_image_X10_good : GoodIn wsX10_image (wsV RX10 14 RX10 yX10_good wsX10_good) := goodIn_app (goodIn_of _ (by decide +kernel)) ggX10_image_X10_good
theorem dX10_image_0 : decode cX10_image 0 = .ok (.iload_n 1, 1) := by decide +kernel
theorem dX10_image_1 : decode cX10_image 1 = .ok (.iconst 0, 1) := by decide +kernel
theorem dX10_image_2 : decode cX10_image 2 = .ok (.iconst 1, 1) := by decide +kernel
theorem dX10_image_3 : decode cX10_image 3 = .ok (.invokestatic 18, 3) := by decide +kernel
theorem dX10_image_6 : decode cX10_image 6 = .ok (.ifCond .ne 9, 3) := by decide +kernel
theorem dX10_image_9 : decode cX10_image 9 = .ok (.aload_n 0, 1) := by decide +kernel
theorem dX10_image_10 : decode cX10_image 10 = .ok (.iconst (-1), 1) := by decide +kernel
theorem dX10_image_11 : decode cX10_image 11 = .ok (.invokevirtual 119, 3) := by decide +kernel
theorem dX10_image_14 : decode cX10_image 14 = .ok (.ireturn, 1) := by decide +kernel
theorem dX10_image_15 : decode cX10_image 15 = .ok (.iconst 0, 1) := by decide +kernel
theorem dX10_image_16 : decode cX10_image 16 = .ok (.istore_n 2, 1) := by decide +kernel
theorem dX10_image_17 : decode cX10_image 17 = .ok (.iload_n 2, 1) := by decide +kernel
theorem dX10_image_18 : decode cX10_image 18 = .ok (.sipush 5640, 3) := by decide +kernel
theorem dX10_image_21 : decode cX10_image 21 = .ok (.if_icmp .ge 27, 3) := by decide +kernel
theorem dX10_image_24 : decode cX10_image 24 = .ok (.aload_n 0, 1) := by decide +kernel
theorem dX10_image_25 : decode cX10_image 25 = .ok (.getfield 31, 3) := by decide +kernel
theorem dX10_image_28 : decode cX10_image 28 = .ok (.sipush 5640, 3) := by decide +kernel
theorem dX10_image_31 : decode cX10_image 31 = .ok (.iload_n 1, 1) := by decide +kernel
theorem dX10_image_32 : decode cX10_image 32 = .ok (.imul, 1) := by decide +kernel
theorem dX10_image_33 : decode cX10_image 33 = .ok (.iload_n 2, 1) := by decide +kernel
theorem dX10_image_34 : decode cX10_image 34 = .ok (.iadd, 1) := by decide +kernel
theorem dX10_image_35 : decode cX10_image 35 = .ok (.aload_n 0, 1) := by decide +kernel
theorem dX10_image_36 : decode cX10_image 36 = .ok (.getfield 28, 3) := by decide +kernel
theorem dX10_image_39 : decode cX10_image 39 = .ok (.iload_n 2, 1) := by decide +kernel
theorem dX10_image_40 : decode cX10_image 40 = .ok (.iaload, 1) := by decide +kernel
theorem dX10_image_41 : decode cX10_image 41 = .ok (.iastore, 1) := by decide +kernel
theorem dX10_image_42 : decode cX10_image 42 = .ok (.iinc 2 1, 3) := by decide +kernel
theorem dX10_image_45 : decode cX10_image 45 = .ok (.goto (-28), 3) := by decide +kernel
theorem dX10_image_48 : decode cX10_image 48 = .ok (.aload_n 0, 1) := by decide +kernel
theorem dX10_image_49 : decode cX10_image 49 = .ok (.getfield 34, 3) := by decide +kernel
theorem dX10_image_52 : decode cX10_image 52 = .ok (.iload_n 1, 1) := by decide +kernel
theorem dX10_image_53 : decode cX10_image 53 = .ok (.iconst 1, 1) := by decide +kernel
theorem dX10_image_54 : decode cX10_image 54 = .ok (.bastore, 1) := by decide +kernel
theorem dX10_image_55 : decode cX10_image 55 = .ok (.aload_n 0, 1) := by decide +kernel
theorem dX10_image_56 : decode cX10_image 56 = .ok (.iconst 0, 1) := by decide +kernel
theorem dX10_image_57 : decode cX10_image 57 = .ok (.invokevirtual 14, 3) := by decide +kernel
theorem dX10_image_60 : decode cX10_image 60 = .ok (.ireturn, 1) := by decide +kernel
set_option maxRecDepth 20000 in
theorem ggX10_few_X10_lies : GoodIn wsX10_few wsX10_lies := goodIn_r _ [9] (by decide +kernel) (by decide +kernel)
set_option maxRecDepth 20000 in
theorem gX10_few_X10_lies : GoodIn wsX10_few (va_wsS RX10 18 yX10_lies wsX10_lies) := goodIn_app (goodIn_of _ (by decide +kernel)) ggX10_few_X10_lies
theorem dX10_few_0 : decode cX10_few 0 = .ok (.iload_n 1, 1) := by decide +kernel
theorem dX10_few_1 : decode cX10_few 1 = .ok (.iconst 1, 1) := by decide +kernel
theorem dX10_few_2 : decode cX10_few 2 = .ok (.bipush 20, 2) := by decide +kernel
theorem dX10_few_4 : decode cX10_few 4 = .ok (.invokestatic 18, 3) := by decide +kernel
theorem dX10_few_7 : decode cX10_few 7 = .ok (.ifCond .eq 13, 3) := by decide +kernel
theorem dX10_few_10 : decode cX10_few 10 = .ok (.iload_n 2, 1) := by decide +kernel
theorem dX10_few_11 : decode cX10_few 11 = .ok (.iconst 0, 1) := by decide +kernel
theorem dX10_few_12 : decode cX10_few 12 = .ok (.bipush 99, 2) := by decide +kernel
theorem dX10_few_14 : decode cX10_few 14 = .ok (.invokestatic 18, 3) := by decide +kernel
theorem dX10_few_17 : decode cX10_few 17 = .ok (.ifCond .ne 7, 3) := by decide +kernel
theorem dX10_few_20 : decode cX10_few 20 = .ok (.ldc2_w 466, 3) := by decide +kernel
theorem dX10_few_23 : decode cX10_few 23 = .ok (.lreturn, 1) := by decide +kernel
theorem dX10_few_24 : decode cX10_few 24 = .ok (.iconst 0, 1) := by decide +kernel
theorem dX10_few_25 : decode cX10_few 25 = .ok (.istore_n 3, 1) := by decide +kernel
theorem dX10_few_26 : decode cX10_few 26 = .ok (.iload_n 3, 1) := by decide +kernel
theorem dX10_few_27 : decode cX10_few 27 = .ok (.bipush 20, 2) := by decide +kernel
theorem dX10_few_29 : decode cX10_few 29 = .ok (.if_icmp .gt 26, 3) := by decide +kernel
theorem dX10_few_32 : decode cX10_few 32 = .ok (.aload_n 0, 1) := by decide +kernel
theorem dX10_few_33 : decode cX10_few 33 = .ok (.getfield 106, 3) := by decide +kernel
theorem dX10_few_36 : decode cX10_few 36 = .ok (.iload_n 3, 1) := by decide +kernel
theorem dX10_few_37 : decode cX10_few 37 = .ok (.iload_n 3, 1) := by decide +kernel
theorem dX10_few_38 : decode cX10_few 38 = .ok (.ifCond .ne 9, 3) := by decide +kernel
theorem dX10_few_41 : decode cX10_few 41 = .ok (.ldc2_w 468, 3) := by decide +kernel
theorem dX10_few_44 : decode cX10_few 44 = .ok (.goto 4, 3) := by decide +kernel
theorem dX10_few_47 : decode cX10_few 47 = .ok (.lconst 0, 1) := by decide +kernel
theorem dX10_few_48 : decode cX10_few 48 = .ok (.lastore, 1) := by decide +kernel
theorem dX10_few_49 : decode cX10_few 49 = .ok (.iinc 3 1, 3) := by decide +kernel
theorem dX10_few_52 : decode cX10_few 52 = .ok (.goto (-26), 3) := by decide +kernel
theorem dX10_few_55 : decode cX10_few 55 = .ok (.iconst 0, 1) := by decide +kernel
theorem dX10_few_56 : decode cX10_few 56 = .ok (.istore_n 3, 1) := by decide +kernel
theorem dX10_few_57 : decode cX10_few 57 = .ok (.iload_n 3, 1) := by decide +kernel
theorem dX10_few_58 : decode cX10_few 58 = .ok (.iload_n 2, 1) := by decide +kernel
theorem dX10_few_59 : decode cX10_few 59 = .ok (.if_icmp .ge 87, 3) := by decide +kernel
theorem dX10_few_62 : decode cX10_few 62 = .ok (.iload_n 1, 1) := by decide +kernel
theorem dX10_few_63 : decode cX10_few 63 = .ok (.iconst 1, 1) := by decide +kernel
theorem dX10_few_64 : decode cX10_few 64 = .ok (.isub, 1) := by decide +kernel
theorem dX10_few_65 : decode cX10_few 65 = .ok (.istore 4, 2) := by decide +kernel
theorem dX10_few_67 : decode cX10_few 67 = .ok (.iload 4, 2) := by decide +kernel
theorem dX10_few_69 : decode cX10_few 69 = .ok (.ifCond .lt 71, 3) := by decide +kernel
theorem dX10_few_72 : decode cX10_few 72 = .ok (.aload_n 0, 1) := by decide +kernel
theorem dX10_few_73 : decode cX10_few 73 = .ok (.getfield 106, 3) := by decide +kernel
theorem dX10_few_76 : decode cX10_few 76 = .ok (.iload 4, 2) := by decide +kernel
theorem dX10_few_78 : decode cX10_few 78 = .ok (.iconst 1, 1) := by decide +kernel
theorem dX10_few_79 : decode cX10_few 79 = .ok (.iadd, 1) := by decide +kernel
theorem dX10_few_80 : decode cX10_few 80 = .ok (.dup2, 1) := by decide +kernel
theorem dX10_few_81 : decode cX10_few 81 = .ok (.laload, 1) := by decide +kernel
theorem dX10_few_82 : decode cX10_few 82 = .ok (.aload_n 0, 1) := by decide +kernel
theorem dX10_few_83 : decode cX10_few 83 = .ok (.getfield 106, 3) := by decide +kernel
theorem dX10_few_86 : decode cX10_few 86 = .ok (.iload 4, 2) := by decide +kernel
theorem dX10_few_88 : decode cX10_few 88 = .ok (.laload, 1) := by decide +kernel
theorem dX10_few_89 : decode cX10_few 89 = .ok (.aload_n 0, 1) := by decide +kernel
theorem dX10_few_90 : decode cX10_few 90 = .ok (.getfield 28, 3) := by decide +kernel
theorem dX10_few_93 : decode cX10_few 93 = .ok (.bipush 26, 2) := by decide +kernel
theorem dX10_few_95 : decode cX10_few 95 = .ok (.iaload, 1) := by decide +kernel
theorem dX10_few_96 : decode cX10_few 96 = .ok (.i2l, 1) := by decide +kernel
theorem dX10_few_97 : decode cX10_few 97 = .ok (.lmul, 1) := by decide +kernel
theorem dX10_few_98 : decode cX10_few 98 = .ok (.ldc2_w 470, 3) := by decide +kernel
theorem dX10_few_101 : decode cX10_few 101 = .ok (.ldiv, 1) := by decide +kernel
theorem dX10_few_102 : decode cX10_few 102 = .ok (.ladd, 1) := by decide +kernel
theorem dX10_few_103 : decode cX10_few 103 = .ok (.lastore, 1) := by decide +kernel
theorem dX10_few_104 : decode cX10_few 104 = .ok (.aload_n 0, 1) := by decide +kernel
theorem dX10_few_105 : decode cX10_few 105 = .ok (.getfield 106, 3) := by decide +kernel
theorem dX10_few_108 : decode cX10_few 108 = .ok (.iload 4, 2) := by decide +kernel
theorem dX10_few_110 : decode cX10_few 110 = .ok (.aload_n 0, 1) := by decide +kernel
theorem dX10_few_111 : decode cX10_few 111 = .ok (.getfield 106, 3) := by decide +kernel
theorem dX10_few_114 : decode cX10_few 114 = .ok (.iload 4, 2) := by decide +kernel
theorem dX10_few_116 : decode cX10_few 116 = .ok (.laload, 1) := by decide +kernel
theorem dX10_few_117 : decode cX10_few 117 = .ok (.bipush 10, 2) := by decide +kernel
theorem dX10_few_119 : decode cX10_few 119 = .ok (.aload_n 0, 1) := by decide +kernel
theorem dX10_few_120 : decode cX10_few 120 = .ok (.getfield 28, 3) := by decide +kernel
theorem dX10_few_123 : decode cX10_few 123 = .ok (.bipush 26, 2) := by decide +kernel
theorem dX10_few_125 : decode cX10_few 125 = .ok (.iaload, 1) := by decide +kernel
theorem dX10_few_126 : decode cX10_few 126 = .ok (.isub, 1) := by decide +kernel
theorem dX10_few_127 : decode cX10_few 127 = .ok (.i2l, 1) := by decide +kernel
theorem dX10_few_128 : decode cX10_few 128 = .ok (.lmul, 1) := by decide +kernel
theorem dX10_few_129 : decode cX10_few 129 = .ok (.ldc2_w 470, 3) := by decide +kernel
theorem dX10_few_132 : decode cX10_few 132 = .ok (.ldiv, 1) := by decide +kernel
theorem dX10_few_133 : decode cX10_few 133 = .ok (.lastore, 1) := by decide +kernel
theorem dX10_few_134 : decode cX10_few 134 = .ok (.iinc 4 (-1), 3) := by decide +kernel
theorem dX10_few_137 : decode cX10_few 137 = .ok (.goto (-70), 3) := by decide +kernel
theorem dX10_few_140 : decode cX10_few 140 = .ok (.iinc 3 1, 3) := by decide +kernel
theorem dX10_few_143 : decode cX10_few 143 = .ok (.goto (-86), 3) := by decide +kernel
theorem dX10_few_146 : decode cX10_few 146 = .ok (.lconst 0, 1) := by decide +kernel
theorem dX10_few_147 : decode cX10_few 147 = .ok (.lstore_n 3, 1) := by decide +kernel
theorem dX10_few_148 : decode cX10_few 148 = .ok (.iconst 0, 1) := by decide +kernel
theorem dX10_few_149 : decode cX10_few 149 = .ok (.istore 5, 2) := by decide +kernel
theorem dX10_few_151 : decode cX10_few 151 = .ok (.iload 5, 2) := by decide +kernel
theorem dX10_few_153 : decode cX10_few 153 = .ok (.iload_n 1, 1) := by decide +kernel
theorem dX10_few_154 : decode cX10_few 154 = .ok (.if_icmp .ge 19, 3) := by decide +kernel
theorem dX10_few_157 : decode cX10_few 157 = .ok (.lload_n 3, 1) := by decide +kernel
theorem dX10_few_158 : decode cX10_few 158 = .ok (.aload_n 0, 1) := by decide +kernel
theorem dX10_few_159 : decode cX10_few 159 = .ok (.getfield 106, 3) := by decide +kernel
theorem dX10_few_162 : decode cX10_few 162 = .ok (.iload 5, 2) := by decide +kernel
theorem dX10_few_164 : decode cX10_few 164 = .ok (.laload, 1) := by decide +kernel
theorem dX10_few_165 : decode cX10_few 165 = .ok (.ladd, 1) := by decide +kernel
theorem dX10_few_166 : decode cX10_few 166 = .ok (.lstore_n 3, 1) := by decide +kernel
theorem dX10_few_167 : decode cX10_few 167 = .ok (.iinc 5 1, 3) := by decide +kernel
theorem dX10_few_170 : decode cX10_few 170 = .ok (.goto (-19), 3) := by decide +kernel
theorem dX10_few_173 : decode cX10_few 173 = .ok (.lload_n 3, 1) := by decide +kernel
theorem dX10_few_174 : decode cX10_few 174 = .ok (.lreturn, 1) := by decide +kernel
