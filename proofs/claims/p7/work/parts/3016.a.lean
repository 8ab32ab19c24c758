set_option maxRecDepth 20000 in
theorem ggX10_orders_X10_readsAs : GoodIn wsX10_orders wsX10_readsAs := goodIn_r _ [13, 14, 15, 16, 17, 18, 19, 12, 20, 21, 22, 23, 24, 25, 26, 27, 28, 29, 30, 31, 32, 33, 34, 35, 36, 37, 38, 39, 40, 41, 42, 43, 44, 45, 46, 47, 48, 49, 50, 51, 52, 53, 54, 55, 56, 57, 58, 59, 60, 61, 62, 63, 64, 65, 66, 67, 68, 69, 70, 71, 72, 73, 74, 75, 76, 77, 78, 79, 80, 81, 82, 83, 84, 85, 86, 87, 88, 89, 90, 91, 92, 93, 94, 95, 96, 97, 98, 99, 100, 101, 102, 103, 104, 105, 106, 107, 108, 109, 110, 111, 112, 297, 298, 299, 300, 301, 302, 303, 304, 305, 306, 307, 308, 309, 310, 311, 312, 313, 314, 315, 316, 317, 318, 319, 320, 321, 322, 323, 324, 325, 326, 327, 328, 329, 330, 331, 332, 333, 334, 335, 336, 337, 338, 339, 340, 341, 342, 343, 344, 345, 346, 347, 348, 349, 350, 351, 352] rfl (by decide +kernel)
set_option maxRecDepth 20000 in
theorem gX10_orders_X10_readsAs : GoodIn wsX10_orders (wsV RX10 265 RX10 yX10_readsAs wsX10_readsAs) := goodIn_app (goodIn_of _ (by decide +kernel)) ggX10_orders_X10_readsAs
set_option maxRecDepth 20000 in
theorem ggX10_orders_X10_refuses : GoodIn wsX10_orders wsX10_refuses := goodIn_r _ [116, 117, 118, 297, 298, 299, 300, 301, 302, 303, 304, 305, 306, 307, 308, 309, 310, 311, 312, 313, 314, 315, 316, 317, 318, 319, 320, 321, 322, 323, 324, 325, 326, 327, 328, 329, 330, 331, 332, 333, 334, 335, 336, 337, 338, 339, 340, 341, 342, 343, 344, 345, 346, 347, 348, 349, 350, 351, 352] rfl (by decide +kernel)
set_option maxRecDepth 20000 in
theorem gX10_orders_X10_refuses : GoodIn wsX10_orders (wsV RX10 119 RX10 yX10_refuses wsX10_refuses) := goodIn_app (goodIn_of _ (by decide +kernel)) ggX10_orders_X10_refuses
set_option maxRecDepth 20000 in
theorem ggX10_orders_X10_laysAside : GoodIn wsX10_orders wsX10_laysAside := goodIn_r _ [122, 123, 8, 297, 298, 299, 300, 301, 302, 303, 304, 305, 306, 307, 308, 309, 310, 311, 312, 313, 314, 315, 316, 317, 318, 319, 320, 321, 322, 323, 324, 325, 326, 327, 328, 329, 330, 331, 332, 333, 334, 335, 336, 337, 338, 339, 340, 341, 342, 343, 344, 345, 346, 347, 348, 349, 350, 351, 352] rfl (by decide +kernel)
set_option maxRecDepth 20000 in
theorem gX10_orders_X10_laysAside : GoodIn wsX10_orders (wsV RX10 472 RX10 yX10_laysAside wsX10_laysAside) := goodIn_app (goodIn_of _ (by decide +kernel)) ggX10_orders_X10_laysAside
set_option maxRecDepth 20000 in
theorem ggX10_orders_X10_lays : GoodIn wsX10_orders wsX10_lays := goodIn_r _ [127, 8, 25, 34, 33, 297, 298, 299, 300, 301, 302, 303, 304, 305, 306, 307, 308, 309, 310, 311, 312, 313, 314, 315, 316, 317, 318, 319, 320, 321, 322, 323, 324, 325, 326, 327, 328, 329, 330, 331, 332, 333, 334, 335, 336, 337, 338, 339, 340, 341, 342, 343, 344, 345, 346, 347, 348, 349, 350, 351, 352] rfl (by decide +kernel)
set_option maxRecDepth 20000 in
theorem gX10_orders_X10_lays : GoodIn wsX10_orders (wsV RX10 269 RX10 yX10_lays wsX10_lays) := goodIn_app (goodIn_of _ (by decide +kernel)) ggX10_orders_X10_lays
set_option maxRecDepth 20000 in
theorem ggX10_orders_X10_runs : GoodIn wsX10_orders wsX10_runs := goodIn_r _ [131, 132, 133, 134, 135, 5, 7, 136, 137, 138, 12, 139, 140, 141, 142, 143, 144, 8, 145, 146, 147, 148, 149, 150, 151, 152, 153, 154, 155, 70, 71, 72, 156, 157, 158, 159, 160, 161, 162, 163, 164, 165, 166, 167, 168, 169, 170, 171, 6, 172, 173, 174, 175, 176, 177, 178, 179, 90, 91, 92, 180, 181, 182, 183, 184, 185, 186, 187, 188, 189, 190, 191, 192, 193, 194, 195, 196, 197, 198, 199, 200, 201, 202, 203, 204, 205, 206, 207, 208, 209, 210, 211, 212, 213, 214, 215, 216, 217, 218, 219, 220, 221, 222, 223, 4, 3, 224, 225, 226, 227, 228, 229, 230, 231, 232, 233, 234, 235, 236, 237, 238, 239, 240, 241, 242, 243, 244, 245, 246, 247, 248, 249, 250, 251, 252, 253, 254, 255, 256, 257, 258, 259, 260, 261, 262, 263, 264, 265, 266, 267, 268, 269, 270, 271, 272, 273, 274, 275, 276, 277, 278, 279, 280, 281, 282, 283, 284, 285, 286, 287, 288, 297, 298, 299, 300, 301, 302, 303, 304, 305, 306, 307, 308, 309, 310, 311, 312, 313, 314, 315, 316, 317, 318, 319, 320, 321, 322, 323, 324, 325, 326, 327, 328, 329, 330, 331, 332, 333, 334, 335, 336, 337, 338, 339, 340, 341, 342, 343, 344, 345, 346, 347, 348, 349, 350, 351, 352] rfl (by decide +kernel)
set_option maxRecDepth 20000 in
theorem gX10_orders_X10_runs : GoodIn wsX10_orders (wsV RX10 478 RX10 yX10_runs wsX10_runs) := goodIn_app (goodIn_of _ (by decide +kernel)) ggX10_orders_X10_runs
set_option maxRecDepth 20000 in
theorem ggX10_orders_X10_takesBack : GoodIn wsX10_orders wsX10_takesBack := goodIn_r _ [292, 8, 123, 297, 298, 299, 300, 301, 302, 303, 304, 305, 306, 307, 308, 309, 310, 311, 312, 313, 314, 315, 316, 317, 318, 319, 320, 321, 322, 323, 324, 325, 326, 327, 328, 329, 330, 331, 332, 333, 334, 335, 336, 337, 338, 339, 340, 341, 342, 343, 344, 345, 346, 347, 348, 349, 350, 351, 352] rfl (by decide +kernel)
set_option maxRecDepth 20000 in
theorem gX10_orders_X10_takesBack : GoodIn wsX10_orders (wsV RX10 481 RX10 yX10_takesBack wsX10_takesBack) := goodIn_app (goodIn_of _ (by decide +kernel)) ggX10_orders_X10_takesBack
set_option maxRecDepth 20000 in
theorem ggX10_orders_X10_good : GoodIn wsX10_orders wsX10_good := goodIn_r _ [296, 117, 297, 298, 299, 300, 301, 302, 303, 304, 305, 306, 307, 308, 309, 310, 311, 312, 313, 314, 315, 316, 317, 318, 319, 320, 321, 322, 323, 324, 325, 326, 327, 328, 329, 330, 331, 332, 333, 334, 335, 336, 337, 338, 339, 340, 341, 342, 343, 344, 345, 346, 347, 348, 349, 350, 351, 352] rfl (by decide +kernel)
set_option maxRecDepth 20000 in
theorem gX10_orders_X10_good : GoodIn wsX10_orders (wsV RX10 14 RX10 yX10_good wsX10_good) := goodIn_app (goodIn_of _ (by decide +kernel)) ggX10_orders_X10_good
theorem dX10_orders_0 : decode cX10_orders 0 = .ok (.aload_n 0, 1) := by decide +kernel
theorem dX10_orders_1 : decode cX10_orders 1 = .ok (.iconst (-1), 1) := by decide +kernel
theorem dX10_orders_2 : decode cX10_orders 2 = .ok (.putfield 110, 3) := by decide +kernel
theorem dX10_orders_5 : decode cX10_orders 5 = .ok (.aload_n 0, 1) := by decide +kernel
theorem dX10_orders_6 : decode cX10_orders 6 = .ok (.iconst 1, 1) := by decide +kernel
theorem dX10_orders_7 : decode cX10_orders 7 = .ok (.invokevirtual 265, 3) := by decide +kernel
theorem dX10_orders_10 : decode cX10_orders 10 = .ok (.ifCond .ne 10, 3) := by decide +kernel
theorem dX10_orders_13 : decode cX10_orders 13 = .ok (.aload_n 0, 1) := by decide +kernel
theorem dX10_orders_14 : decode cX10_orders 14 = .ok (.bipush (-6), 2) := by decide +kernel
theorem dX10_orders_16 : decode cX10_orders 16 = .ok (.invokevirtual 119, 3) := by decide +kernel
theorem dX10_orders_19 : decode cX10_orders 19 = .ok (.ireturn, 1) := by decide +kernel
theorem dX10_orders_20 : decode cX10_orders 20 = .ok (.aload_n 0, 1) := by decide +kernel
theorem dX10_orders_21 : decode cX10_orders 21 = .ok (.iconst 1, 1) := by decide +kernel
theorem dX10_orders_22 : decode cX10_orders 22 = .ok (.invokevirtual 472, 3) := by decide +kernel
theorem dX10_orders_25 : decode cX10_orders 25 = .ok (.iconst 0, 1) := by decide +kernel
theorem dX10_orders_26 : decode cX10_orders 26 = .ok (.istore_n 1, 1) := by decide +kernel
theorem dX10_orders_27 : decode cX10_orders 27 = .ok (.iload_n 1, 1) := by decide +kernel
theorem dX10_orders_28 : decode cX10_orders 28 = .ok (.sipush 240, 3) := by decide +kernel
theorem dX10_orders_31 : decode cX10_orders 31 = .ok (.if_icmp .ge 21, 3) := by decide +kernel
theorem dX10_orders_34 : decode cX10_orders 34 = .ok (.aload_n 0, 1) := by decide +kernel
theorem dX10_orders_35 : decode cX10_orders 35 = .ok (.getfield 72, 3) := by decide +kernel
theorem dX10_orders_38 : decode cX10_orders 38 = .ok (.iload_n 1, 1) := by decide +kernel
theorem dX10_orders_39 : decode cX10_orders 39 = .ok (.aload_n 0, 1) := by decide +kernel
theorem dX10_orders_40 : decode cX10_orders 40 = .ok (.getfield 69, 3) := by decide +kernel
theorem dX10_orders_43 : decode cX10_orders 43 = .ok (.iload_n 1, 1) := by decide +kernel
theorem dX10_orders_44 : decode cX10_orders 44 = .ok (.iaload, 1) := by decide +kernel
theorem dX10_orders_45 : decode cX10_orders 45 = .ok (.iastore, 1) := by decide +kernel
theorem dX10_orders_46 : decode cX10_orders 46 = .ok (.iinc 1 1, 3) := by decide +kernel
theorem dX10_orders_49 : decode cX10_orders 49 = .ok (.goto (-22), 3) := by decide +kernel
theorem dX10_orders_52 : decode cX10_orders 52 = .ok (.aload_n 0, 1) := by decide +kernel
theorem dX10_orders_53 : decode cX10_orders 53 = .ok (.getfield 11, 3) := by decide +kernel
theorem dX10_orders_56 : decode cX10_orders 56 = .ok (.istore_n 1, 1) := by decide +kernel
theorem dX10_orders_57 : decode cX10_orders 57 = .ok (.aload_n 0, 1) := by decide +kernel
theorem dX10_orders_58 : decode cX10_orders 58 = .ok (.bipush 6, 2) := by decide +kernel
theorem dX10_orders_60 : decode cX10_orders 60 = .ok (.invokevirtual 269, 3) := by decide +kernel
theorem dX10_orders_63 : decode cX10_orders 63 = .ok (.aload_n 0, 1) := by decide +kernel
theorem dX10_orders_64 : decode cX10_orders 64 = .ok (.iconst 0, 1) := by decide +kernel
theorem dX10_orders_65 : decode cX10_orders 65 = .ok (.putfield 314, 3) := by decide +kernel
theorem dX10_orders_68 : decode cX10_orders 68 = .ok (.aload_n 0, 1) := by decide +kernel
theorem dX10_orders_69 : decode cX10_orders 69 = .ok (.iconst (-1), 1) := by decide +kernel
theorem dX10_orders_70 : decode cX10_orders 70 = .ok (.putfield 317, 3) := by decide +kernel
theorem dX10_orders_73 : decode cX10_orders 73 = .ok (.aload_n 0, 1) := by decide +kernel
theorem dX10_orders_74 : decode cX10_orders 74 = .ok (.sipush 2400, 3) := by decide +kernel
theorem dX10_orders_77 : decode cX10_orders 77 = .ok (.putfield 475, 3) := by decide +kernel
theorem dX10_orders_80 : decode cX10_orders 80 = .ok (.aload_n 0, 1) := by decide +kernel
theorem dX10_orders_81 : decode cX10_orders 81 = .ok (.getfield 475, 3) := by decide +kernel
theorem dX10_orders_84 : decode cX10_orders 84 = .ok (.aload_n 0, 1) := by decide +kernel
theorem dX10_orders_85 : decode cX10_orders 85 = .ok (.getfield 28, 3) := by decide +kernel
theorem dX10_orders_88 : decode cX10_orders 88 = .ok (.bipush 39, 2) := by decide +kernel
theorem dX10_orders_90 : decode cX10_orders 90 = .ok (.iaload, 1) := by decide +kernel
theorem dX10_orders_91 : decode cX10_orders 91 = .ok (.iadd, 1) := by decide +kernel
theorem dX10_orders_92 : decode cX10_orders 92 = .ok (.istore_n 2, 1) := by decide +kernel
theorem dX10_orders_93 : decode cX10_orders 93 = .ok (.iconst 0, 1) := by decide +kernel
theorem dX10_orders_94 : decode cX10_orders 94 = .ok (.istore_n 3, 1) := by decide +kernel
theorem dX10_orders_95 : decode cX10_orders 95 = .ok (.aload_n 0, 1) := by decide +kernel
theorem dX10_orders_96 : decode cX10_orders 96 = .ok (.getfield 475, 3) := by decide +kernel
theorem dX10_orders_99 : decode cX10_orders 99 = .ok (.iload_n 2, 1) := by decide +kernel
theorem dX10_orders_100 : decode cX10_orders 100 = .ok (.if_icmp .ge 73, 3) := by decide +kernel
theorem dX10_orders_103 : decode cX10_orders 103 = .ok (.aload_n 0, 1) := by decide +kernel
theorem dX10_orders_104 : decode cX10_orders 104 = .ok (.iload_n 2, 1) := by decide +kernel
theorem dX10_orders_105 : decode cX10_orders 105 = .ok (.invokevirtual 478, 3) := by decide +kernel
theorem dX10_orders_108 : decode cX10_orders 108 = .ok (.ifCond .eq 6, 3) := by decide +kernel
theorem dX10_orders_111 : decode cX10_orders 111 = .ok (.goto 56, 3) := by decide +kernel
theorem dX10_orders_114 : decode cX10_orders 114 = .ok (.aload_n 0, 1) := by decide +kernel
theorem dX10_orders_115 : decode cX10_orders 115 = .ok (.iconst 1, 1) := by decide +kernel
theorem dX10_orders_116 : decode cX10_orders 116 = .ok (.invokevirtual 481, 3) := by decide +kernel
theorem dX10_orders_119 : decode cX10_orders 119 = .ok (.iconst 0, 1) := by decide +kernel
theorem dX10_orders_120 : decode cX10_orders 120 = .ok (.istore 4, 2) := by decide +kernel
theorem dX10_orders_122 : decode cX10_orders 122 = .ok (.iload 4, 2) := by decide +kernel
theorem dX10_orders_124 : decode cX10_orders 124 = .ok (.sipush 240, 3) := by decide +kernel
theorem dX10_orders_127 : decode cX10_orders 127 = .ok (.if_icmp .ge 23, 3) := by decide +kernel
theorem dX10_orders_130 : decode cX10_orders 130 = .ok (.aload_n 0, 1) := by decide +kernel
theorem dX10_orders_131 : decode cX10_orders 131 = .ok (.getfield 69, 3) := by decide +kernel
theorem dX10_orders_134 : decode cX10_orders 134 = .ok (.iload 4, 2) := by decide +kernel
theorem dX10_orders_136 : decode cX10_orders 136 = .ok (.aload_n 0, 1) := by decide +kernel
theorem dX10_orders_137 : decode cX10_orders 137 = .ok (.getfield 72, 3) := by decide +kernel
theorem dX10_orders_140 : decode cX10_orders 140 = .ok (.iload 4, 2) := by decide +kernel
theorem dX10_orders_142 : decode cX10_orders 142 = .ok (.iaload, 1) := by decide +kernel
theorem dX10_orders_143 : decode cX10_orders 143 = .ok (.iastore, 1) := by decide +kernel
theorem dX10_orders_144 : decode cX10_orders 144 = .ok (.iinc 4 1, 3) := by decide +kernel
theorem dX10_orders_147 : decode cX10_orders 147 = .ok (.goto (-25), 3) := by decide +kernel
theorem dX10_orders_150 : decode cX10_orders 150 = .ok (.aload_n 0, 1) := by decide +kernel
theorem dX10_orders_151 : decode cX10_orders 151 = .ok (.iload_n 1, 1) := by decide +kernel
theorem dX10_orders_152 : decode cX10_orders 152 = .ok (.putfield 11, 3) := by decide +kernel
theorem dX10_orders_155 : decode cX10_orders 155 = .ok (.aload_n 0, 1) := by decide +kernel
theorem dX10_orders_156 : decode cX10_orders 156 = .ok (.iload_n 3, 1) := by decide +kernel
theorem dX10_orders_157 : decode cX10_orders 157 = .ok (.putfield 110, 3) := by decide +kernel
theorem dX10_orders_160 : decode cX10_orders 160 = .ok (.aload_n 0, 1) := by decide +kernel
theorem dX10_orders_161 : decode cX10_orders 161 = .ok (.bipush (-3), 2) := by decide +kernel
theorem dX10_orders_163 : decode cX10_orders 163 = .ok (.invokevirtual 119, 3) := by decide +kernel
theorem dX10_orders_166 : decode cX10_orders 166 = .ok (.ireturn, 1) := by decide +kernel
theorem dX10_orders_167 : decode cX10_orders 167 = .ok (.iinc 3 1, 3) := by decide +kernel
theorem dX10_orders_170 : decode cX10_orders 170 = .ok (.goto (-75), 3) := by decide +kernel
theorem dX10_orders_173 : decode cX10_orders 173 = .ok (.aload_n 0, 1) := by decide +kernel
theorem dX10_orders_174 : decode cX10_orders 174 = .ok (.aload_n 0, 1) := by decide +kernel
theorem dX10_orders_175 : decode cX10_orders 175 = .ok (.getfield 314, 3) := by decide +kernel
theorem dX10_orders_178 : decode cX10_orders 178 = .ok (.invokevirtual 14, 3) := by decide +kernel
theorem dX10_orders_181 : decode cX10_orders 181 = .ok (.ireturn, 1) := by decide +kernel
set_option maxRecDepth 20000 in
theorem ggX10_goesAlong_X10_codeAt : GoodIn wsX10_goesAlong wsX10_codeAt := goodIn_r _ [16, 2, 10, 84, 85, 86, 87, 88, 89, 90, 91, 92, 93, 94, 95, 96, 97, 98, 99, 100, 101, 102, 103, 104, 105, 106, 107, 108, 109, 110, 111, 112, 113, 114, 115, 116, 117, 118, 119, 120, 121, 122, 123, 124, 125, 126, 127, 128, 129, 130, 131, 132, 133, 134, 135, 136, 137, 138, 139] rfl (by decide +kernel)
set_option maxRecDepth 20000 in
theorem gX10_goesAlong_X10_codeAt : GoodIn wsX10_goesAlong (wsV RX10 281 RX10 yX10_codeAt wsX10_codeAt) := goodIn_app (goodIn_of _ (by decide +kernel)) ggX10_goesAlong_X10_codeAt
set_option maxRecDepth 20000 in
theorem ggX10_goesAlong_X10_sumOf : GoodIn wsX10_goesAlong wsX10_sumOf := goodIn_r _ [20, 4, 21, 22, 23, 15, 12, 13, 14, 16, 2, 10, 24, 25, 26, 27, 28, 29, 30, 31, 32, 6, 33, 1, 34, 35, 36, 37, 38, 17, 18, 19, 39, 40, 41, 42, 43, 44, 45, 46, 47, 48, 49, 50, 51, 52, 53, 54, 55, 56, 57, 58, 59, 60, 61, 62, 63, 64, 65, 66, 67, 84, 85, 86, 87, 88, 89, 90, 91, 92, 93, 94, 95, 96, 97, 98, 99, 100, 101, 102, 103, 104, 105, 106, 107, 108, 109, 110, 111, 112, 113, 114, 115, 116, 117, 118, 119, 120, 121, 122, 123, 124, 125, 126, 127, 128, 129, 130, 131, 132, 133, 134, 135, 136, 137, 138, 139] rfl (by decide +kernel)
set_option maxRecDepth 20000 in
theorem gX10_goesAlong_X10_sumOf : GoodIn wsX10_goesAlong (wsV RX10 305 RX10 yX10_sumOf wsX10_sumOf) := goodIn_app (goodIn_of _ (by decide +kernel)) ggX10_goesAlong_X10_sumOf
set_option maxRecDepth 20000 in
theorem ggX10_goesAlong_X10_passes0 : GoodIn wsX10_goesAlong wsX10_passes0 := goodIn_r _ [38, 4, 12, 13, 14, 15, 16, 2, 10, 84, 85, 86, 87, 88, 89, 90, 91, 92, 93, 94, 95, 96, 97, 98, 99, 100, 101, 102, 103, 104, 105, 106, 107, 108, 109, 110, 111, 112, 113, 114, 115, 116, 117, 118, 119, 120, 121, 122, 123, 124, 125, 126, 127, 128, 129, 130, 131, 132, 133, 134, 135, 136, 137, 138, 139] rfl (by decide +kernel)
set_option maxRecDepth 20000 in
theorem gX10_goesAlong_X10_passes0 : GoodIn wsX10_goesAlong (wsV RX10 302 RX10 yX10_passes0 wsX10_passes0) := goodIn_app (goodIn_of _ (by decide +kernel)) ggX10_goesAlong_X10_passes0
set_option maxRecDepth 20000 in
theorem ggX10_goesAlong_X10_testOf : GoodIn wsX10_goesAlong wsX10_testOf := goodIn_r _ [71, 72, 73, 74, 15, 35, 36, 37, 38, 4, 12, 13, 14, 16, 2, 10, 75, 76, 77, 78, 79, 80, 81, 82, 83, 6, 24, 25, 26, 68, 69, 70, 17, 18, 19, 20, 21, 22, 23, 27, 28, 29, 30, 31, 32, 33, 1, 34, 39, 40, 41, 42, 43, 44, 45, 46, 47, 48, 49, 50, 51, 52, 53, 54, 55, 56, 57, 58, 59, 60, 61, 62, 63, 64, 65, 66, 67, 84, 85, 86, 87, 88, 89, 90, 91, 92, 93, 94, 95, 96, 97, 98, 99, 100, 101, 102, 103, 104, 105, 106, 107, 108, 109, 110, 111, 112, 113, 114, 115, 116, 117, 118, 119, 120, 121, 122, 123, 124, 125, 126, 127, 128, 129, 130, 131, 132, 133, 134, 135, 136, 137, 138, 139] rfl (by decide +kernel)
set_option maxRecDepth 20000 in
theorem gX10_goesAlong_X10_testOf : GoodIn wsX10_goesAlong (wsV RX10 332 RX10 yX10_testOf wsX10_testOf) := goodIn_app (goodIn_of _ (by decide +kernel)) ggX10_goesAlong_X10_testOf
theorem dX10_goesAlong_0 : decode cX10_goesAlong 0 = .ok (.aload_n 0, 1) := by decide +kernel
theorem dX10_goesAlong_1 : decode cX10_goesAlong 1 = .ok (.iconst 1, 1) := by decide +kernel
theorem dX10_goesAlong_2 : decode cX10_goesAlong 2 = .ok (.putfield 308, 3) := by decide +kernel
theorem dX10_goesAlong_5 : decode cX10_goesAlong 5 = .ok (.aload_n 0, 1) := by decide +kernel
theorem dX10_goesAlong_6 : decode cX10_goesAlong 6 = .ok (.iload_n 1, 1) := by decide +kernel
theorem dX10_goesAlong_7 : decode cX10_goesAlong 7 = .ok (.putfield 275, 3) := by decide +kernel
theorem dX10_goesAlong_10 : decode cX10_goesAlong 10 = .ok (.aload_n 0, 1) := by decide +kernel
theorem dX10_goesAlong_11 : decode cX10_goesAlong 11 = .ok (.aload_n 0, 1) := by decide +kernel
theorem dX10_goesAlong_12 : decode cX10_goesAlong 12 = .ok (.getfield 475, 3) := by decide +kernel
theorem dX10_goesAlong_15 : decode cX10_goesAlong 15 = .ok (.putfield 278, 3) := by decide +kernel
theorem dX10_goesAlong_18 : decode cX10_goesAlong 18 = .ok (.aload_n 0, 1) := by decide +kernel
theorem dX10_goesAlong_19 : decode cX10_goesAlong 19 = .ok (.aload_n 0, 1) := by decide +kernel
theorem dX10_goesAlong_20 : decode cX10_goesAlong 20 = .ok (.aload_n 0, 1) := by decide +kernel
theorem dX10_goesAlong_21 : decode cX10_goesAlong 21 = .ok (.getfield 278, 3) := by decide +kernel
theorem dX10_goesAlong_24 : decode cX10_goesAlong 24 = .ok (.invokevirtual 281, 3) := by decide +kernel
theorem dX10_goesAlong_27 : decode cX10_goesAlong 27 = .ok (.putfield 484, 3) := by decide +kernel
theorem dX10_goesAlong_30 : decode cX10_goesAlong 30 = .ok (.aload_n 0, 1) := by decide +kernel
theorem dX10_goesAlong_31 : decode cX10_goesAlong 31 = .ok (.dup, 1) := by decide +kernel
theorem dX10_goesAlong_32 : decode cX10_goesAlong 32 = .ok (.getfield 278, 3) := by decide +kernel
theorem dX10_goesAlong_35 : decode cX10_goesAlong 35 = .ok (.iconst 1, 1) := by decide +kernel
theorem dX10_goesAlong_36 : decode cX10_goesAlong 36 = .ok (.iadd, 1) := by decide +kernel
theorem dX10_goesAlong_37 : decode cX10_goesAlong 37 = .ok (.putfield 278, 3) := by decide +kernel
theorem dX10_goesAlong_40 : decode cX10_goesAlong 40 = .ok (.aload_n 0, 1) := by decide +kernel
theorem dX10_goesAlong_41 : decode cX10_goesAlong 41 = .ok (.iconst 0, 1) := by decide +kernel
theorem dX10_goesAlong_42 : decode cX10_goesAlong 42 = .ok (.putfield 288, 3) := by decide +kernel
theorem dX10_goesAlong_45 : decode cX10_goesAlong 45 = .ok (.aload_n 0, 1) := by decide +kernel
theorem dX10_goesAlong_46 : decode cX10_goesAlong 46 = .ok (.aload_n 0, 1) := by decide +kernel
theorem dX10_goesAlong_47 : decode cX10_goesAlong 47 = .ok (.getfield 484, 3) := by decide +kernel
theorem dX10_goesAlong_50 : decode cX10_goesAlong 50 = .ok (.bipush 25, 2) := by decide +kernel
theorem dX10_goesAlong_52 : decode cX10_goesAlong 52 = .ok (.if_icmp .ne 7, 3) := by decide +kernel
theorem dX10_goesAlong_55 : decode cX10_goesAlong 55 = .ok (.lconst 0, 1) := by decide +kernel
theorem dX10_goesAlong_56 : decode cX10_goesAlong 56 = .ok (.goto 8, 3) := by decide +kernel
theorem dX10_goesAlong_59 : decode cX10_goesAlong 59 = .ok (.aload_n 0, 1) := by decide +kernel
theorem dX10_goesAlong_60 : decode cX10_goesAlong 60 = .ok (.iload_n 2, 1) := by decide +kernel
theorem dX10_goesAlong_61 : decode cX10_goesAlong 61 = .ok (.invokevirtual 305, 3) := by decide +kernel
theorem dX10_goesAlong_64 : decode cX10_goesAlong 64 = .ok (.putfield 487, 3) := by decide +kernel
theorem dX10_goesAlong_67 : decode cX10_goesAlong 67 = .ok (.aload_n 0, 1) := by decide +kernel
theorem dX10_goesAlong_68 : decode cX10_goesAlong 68 = .ok (.aload_n 0, 1) := by decide +kernel
theorem dX10_goesAlong_69 : decode cX10_goesAlong 69 = .ok (.getfield 288, 3) := by decide +kernel
theorem dX10_goesAlong_72 : decode cX10_goesAlong 72 = .ok (.ifCond .ne 7, 3) := by decide +kernel
theorem dX10_goesAlong_75 : decode cX10_goesAlong 75 = .ok (.iconst 1, 1) := by decide +kernel
theorem dX10_goesAlong_76 : decode cX10_goesAlong 76 = .ok (.goto 4, 3) := by decide +kernel
theorem dX10_goesAlong_79 : decode cX10_goesAlong 79 = .ok (.iconst 0, 1) := by decide +kernel
theorem dX10_goesAlong_80 : decode cX10_goesAlong 80 = .ok (.putfield 491, 3) := by decide +kernel
theorem dX10_goesAlong_83 : decode cX10_goesAlong 83 = .ok (.aload_n 0, 1) := by decide +kernel
theorem dX10_goesAlong_84 : decode cX10_goesAlong 84 = .ok (.iconst 1, 1) := by decide +kernel
theorem dX10_goesAlong_85 : decode cX10_goesAlong 85 = .ok (.putfield 494, 3) := by decide +kernel
theorem dX10_goesAlong_88 : decode cX10_goesAlong 88 = .ok (.aload_n 0, 1) := by decide +kernel
theorem dX10_goesAlong_89 : decode cX10_goesAlong 89 = .ok (.bipush 26, 2) := by decide +kernel
theorem dX10_goesAlong_91 : decode cX10_goesAlong 91 = .ok (.invokevirtual 302, 3) := by decide +kernel
theorem dX10_goesAlong_94 : decode cX10_goesAlong 94 = .ok (.ifCond .eq 30, 3) := by decide +kernel
theorem dX10_goesAlong_97 : decode cX10_goesAlong 97 = .ok (.aload_n 0, 1) := by decide +kernel
theorem dX10_goesAlong_98 : decode cX10_goesAlong 98 = .ok (.aload_n 0, 1) := by decide +kernel
theorem dX10_goesAlong_99 : decode cX10_goesAlong 99 = .ok (.getfield 28, 3) := by decide +kernel
theorem dX10_goesAlong_102 : decode cX10_goesAlong 102 = .ok (.sipush 2840, 3) := by decide +kernel
theorem dX10_goesAlong_105 : decode cX10_goesAlong 105 = .ok (.aload_n 0, 1) := by decide +kernel
theorem dX10_goesAlong_106 : decode cX10_goesAlong 106 = .ok (.getfield 278, 3) := by decide +kernel
theorem dX10_goesAlong_109 : decode cX10_goesAlong 109 = .ok (.iadd, 1) := by decide +kernel
theorem dX10_goesAlong_110 : decode cX10_goesAlong 110 = .ok (.iaload, 1) := by decide +kernel
theorem dX10_goesAlong_111 : decode cX10_goesAlong 111 = .ok (.putfield 494, 3) := by decide +kernel
theorem dX10_goesAlong_114 : decode cX10_goesAlong 114 = .ok (.aload_n 0, 1) := by decide +kernel
theorem dX10_goesAlong_115 : decode cX10_goesAlong 115 = .ok (.dup, 1) := by decide +kernel
theorem dX10_goesAlong_116 : decode cX10_goesAlong 116 = .ok (.getfield 278, 3) := by decide +kernel
theorem dX10_goesAlong_119 : decode cX10_goesAlong 119 = .ok (.iconst 1, 1) := by decide +kernel
theorem dX10_goesAlong_120 : decode cX10_goesAlong 120 = .ok (.iadd, 1) := by decide +kernel
theorem dX10_goesAlong_121 : decode cX10_goesAlong 121 = .ok (.putfield 278, 3) := by decide +kernel
theorem dX10_goesAlong_124 : decode cX10_goesAlong 124 = .ok (.aload_n 0, 1) := by decide +kernel
theorem dX10_goesAlong_125 : decode cX10_goesAlong 125 = .ok (.iconst 0, 1) := by decide +kernel
theorem dX10_goesAlong_126 : decode cX10_goesAlong 126 = .ok (.putfield 288, 3) := by decide +kernel
theorem dX10_goesAlong_129 : decode cX10_goesAlong 129 = .ok (.aload_n 0, 1) := by decide +kernel
theorem dX10_goesAlong_130 : decode cX10_goesAlong 130 = .ok (.aload_n 0, 1) := by decide +kernel
theorem dX10_goesAlong_131 : decode cX10_goesAlong 131 = .ok (.iconst 4, 1) := by decide +kernel
theorem dX10_goesAlong_132 : decode cX10_goesAlong 132 = .ok (.invokevirtual 302, 3) := by decide +kernel
theorem dX10_goesAlong_135 : decode cX10_goesAlong 135 = .ok (.ifCond .eq 11, 3) := by decide +kernel
theorem dX10_goesAlong_138 : decode cX10_goesAlong 138 = .ok (.aload_n 0, 1) := by decide +kernel
theorem dX10_goesAlong_139 : decode cX10_goesAlong 139 = .ok (.iload_n 2, 1) := by decide +kernel
theorem dX10_goesAlong_140 : decode cX10_goesAlong 140 = .ok (.invokevirtual 332, 3) := by decide +kernel
theorem dX10_goesAlong_143 : decode cX10_goesAlong 143 = .ok (.ifCond .eq 7, 3) := by decide +kernel
theorem dX10_goesAlong_146 : decode cX10_goesAlong 146 = .ok (.iconst 1, 1) := by decide +kernel
theorem dX10_goesAlong_147 : decode cX10_goesAlong 147 = .ok (.goto 4, 3) := by decide +kernel
theorem dX10_goesAlong_150 : decode cX10_goesAlong 150 = .ok (.iconst 0, 1) := by decide +kernel
theorem dX10_goesAlong_151 : decode cX10_goesAlong 151 = .ok (.putfield 497, 3) := by decide +kernel
theorem dX10_goesAlong_154 : decode cX10_goesAlong 154 = .ok (.aload_n 0, 1) := by decide +kernel
theorem dX10_goesAlong_155 : decode cX10_goesAlong 155 = .ok (.aload_n 0, 1) := by decide +kernel
theorem dX10_goesAlong_156 : decode cX10_goesAlong 156 = .ok (.getfield 497, 3) := by decide +kernel
theorem dX10_goesAlong_159 : decode cX10_goesAlong 159 = .ok (.ifCond .eq 14, 3) := by decide +kernel
theorem dX10_goesAlong_162 : decode cX10_goesAlong 162 = .ok (.aload_n 0, 1) := by decide +kernel
theorem dX10_goesAlong_163 : decode cX10_goesAlong 163 = .ok (.getfield 288, 3) := by decide +kernel
theorem dX10_goesAlong_166 : decode cX10_goesAlong 166 = .ok (.ifCond .ne 7, 3) := by decide +kernel
theorem dX10_goesAlong_169 : decode cX10_goesAlong 169 = .ok (.iconst 1, 1) := by decide +kernel
theorem dX10_goesAlong_170 : decode cX10_goesAlong 170 = .ok (.goto 4, 3) := by decide +kernel
theorem dX10_goesAlong_173 : decode cX10_goesAlong 173 = .ok (.iconst 0, 1) := by decide +kernel
theorem dX10_goesAlong_174 : decode cX10_goesAlong 174 = .ok (.putfield 497, 3) := by decide +kernel
theorem dX10_goesAlong_177 : decode cX10_goesAlong 177 = .ok (.aload_n 0, 1) := by decide +kernel
theorem dX10_goesAlong_178 : decode cX10_goesAlong 178 = .ok (.dup, 1) := by decide +kernel
theorem dX10_goesAlong_179 : decode cX10_goesAlong 179 = .ok (.getfield 278, 3) := by decide +kernel
theorem dX10_goesAlong_182 : decode cX10_goesAlong 182 = .ok (.iconst 1, 1) := by decide +kernel
theorem dX10_goesAlong_183 : decode cX10_goesAlong 183 = .ok (.iadd, 1) := by decide +kernel
theorem dX10_goesAlong_184 : decode cX10_goesAlong 184 = .ok (.putfield 278, 3) := by decide +kernel
theorem dX10_goesAlong_187 : decode cX10_goesAlong 187 = .ok (.return_, 1) := by decide +kernel
theorem dX10_small_0 : decode cX10_small 0 = .ok (.lload_n 0, 1) := by decide +kernel
theorem dX10_small_1 : decode cX10_small 1 = .ok (.lconst 0, 1) := by decide +kernel
theorem dX10_small_2 : decode cX10_small 2 = .ok (.lcmp, 1) := by decide +kernel
theorem dX10_small_3 : decode cX10_small 3 = .ok (.ifCond .lt 11, 3) := by decide +kernel
theorem dX10_small_6 : decode cX10_small 6 = .ok (.lload_n 0, 1) := by decide +kernel
theorem dX10_small_7 : decode cX10_small 7 = .ok (.ldc2_w 500, 3) := by decide +kernel
theorem dX10_small_10 : decode cX10_small 10 = .ok (.lcmp, 1) := by decide +kernel
theorem dX10_small_11 : decode cX10_small 11 = .ok (.ifCond .le 7, 3) := by decide +kernel
theorem dX10_small_14 : decode cX10_small 14 = .ok (.iconst (-1), 1) := by decide +kernel
theorem dX10_small_15 : decode cX10_small 15 = .ok (.goto 5, 3) := by decide +kernel
theorem dX10_small_18 : decode cX10_small 18 = .ok (.lload_n 0, 1) := by decide +kernel
theorem dX10_small_19 : decode cX10_small 19 = .ok (.l2i, 1) := by decide +kernel
theorem dX10_small_20 : decode cX10_small 20 = .ok (.ireturn, 1) := by decide +kernel
set_option maxRecDepth 20000 in
theorem ggX10_obeys_X10_small : GoodIn wsX10_obeys wsX10_small := goodIn_r _ [7, 8] rfl (by decide +kernel)
set_option maxRecDepth 20000 in
theorem gX10_obeys_X10_small : GoodIn wsX10_obeys (va_wsS RX10 502 yX10_small wsX10_small) := goodIn_app (goodIn_of _ (by decide +kernel)) ggX10_obeys_X10_small
set_option maxRecDepth 20000 in
theorem ggX10_obeys_X10_rightsKept : GoodIn wsX10_obeys wsX10_rightsKept := goodIn_r _ [12, 13, 14, 15, 6, 16, 17, 18, 19, 20, 21, 22, 23, 24, 25, 26, 27, 28, 29, 30, 159, 160, 161, 162, 163, 164, 165, 166, 167, 168, 169, 170, 171, 172, 173, 174, 175, 176, 177, 178, 179, 180, 181, 182, 183, 184, 185, 186, 187, 188, 189, 190, 191, 192, 193, 194, 195, 196, 197, 198, 199, 200, 201, 202, 203, 204, 205, 206, 207, 208, 209, 210, 211, 212, 213, 214] rfl (by decide +kernel)
set_option maxRecDepth 20000 in
theorem gX10_obeys_X10_rightsKept : GoodIn wsX10_obeys (wsV RX10 371 RX10 yX10_rightsKept wsX10_rightsKept) := goodIn_app (goodIn_of _ (by decide +kernel)) ggX10_obeys_X10_rightsKept
set_option maxRecDepth 20000 in
theorem ggX10_obeys_X10_swapsKept : GoodIn wsX10_obeys wsX10_swapsKept := goodIn_r _ [34, 13, 14, 15, 6, 16, 17, 18, 19, 20, 21, 22, 23, 24, 25, 26, 27, 28, 29, 30, 35, 36, 37, 38, 159, 160, 161, 162, 163, 164, 165, 166, 167, 168, 169, 170, 171, 172, 173, 174, 175, 176, 177, 178, 179, 180, 181, 182, 183, 184, 185, 186, 187, 188, 189, 190, 191, 192, 193, 194, 195, 196, 197, 198, 199, 200, 201, 202, 203, 204, 205, 206, 207, 208, 209, 210, 211, 212, 213, 214] rfl (by decide +kernel)
set_option maxRecDepth 20000 in
theorem gX10_obeys_X10_swapsKept : GoodIn wsX10_obeys (wsV RX10 374 RX10 yX10_swapsKept wsX10_swapsKept) := goodIn_app (goodIn_of _ (by decide +kernel)) ggX10_obeys_X10_swapsKept
set_option maxRecDepth 20000 in
theorem ggX10_obeys_X10_passesKept : GoodIn wsX10_obeys wsX10_passesKept := goodIn_r _ [42, 13, 25, 26, 27, 6, 28, 29, 30, 43, 44, 45, 46, 47, 21, 22, 23, 24, 48, 49, 50, 51, 52, 53, 54, 55, 56, 57, 58, 59, 60, 61, 62, 63, 64, 65, 66, 67, 68, 69, 70, 71, 72, 73, 74, 75, 76, 77, 78, 79, 80, 81, 82, 83, 84, 85, 86, 87, 88, 89, 90, 91, 92, 93, 94, 95, 96, 97, 98, 99, 100, 101, 102, 103, 3, 17, 18, 19, 20, 14, 15, 16, 104, 105, 106, 107, 108, 109, 110, 111, 112, 113, 114, 115, 116, 117, 118, 119, 120, 121, 122, 123, 124, 125, 126, 127, 128, 129, 130, 131, 159, 160, 161, 162, 163, 164, 165, 166, 167, 168, 169, 170, 171, 172, 173, 174, 175, 176, 177, 178, 179, 180, 181, 182, 183, 184, 185, 186, 187, 188, 189, 190, 191, 192, 193, 194, 195, 196, 197, 198, 199, 200, 201, 202, 203, 204, 205, 206, 207, 208, 209, 210, 211, 212, 213, 214] rfl (by decide +kernel)
set_option maxRecDepth 20000 in
theorem gX10_obeys_X10_passesKept : GoodIn wsX10_obeys (wsV RX10 377 RX10 yX10_passesKept wsX10_passesKept) := goodIn_app (goodIn_of _ (by decide +kernel)) ggX10_obeys_X10_passesKept
set_option maxRecDepth 20000 in
theorem ggX10_obeys_X10_turnsKept : GoodIn wsX10_obeys wsX10_turnsKept := goodIn_r _ [135, 14, 15, 6, 16, 136, 137, 138, 139, 13, 21, 22, 23, 24, 140, 141, 142, 143, 144, 145, 146, 147, 56, 57, 58, 59, 60, 61, 62, 63, 64, 65, 66, 67, 68, 69, 70, 71, 72, 73, 74, 75, 76, 77, 78, 79, 80, 81, 82, 83, 84, 85, 86, 87, 88, 89, 90, 91, 92, 93, 94, 95, 96, 97, 98, 99, 100, 101, 102, 103, 3, 17, 18, 19, 20, 104, 105, 106, 107, 108, 109, 110, 111, 112, 113, 114, 115, 116, 117, 118, 119, 120, 121, 122, 123, 124, 125, 126, 127, 128, 129, 130, 131, 25, 26, 27, 28, 29, 30, 148, 149, 150, 151, 152, 153, 154, 155, 35, 36, 37, 38, 156, 157, 158, 159, 160, 161, 162, 163, 164, 165, 166, 167, 168, 169, 170, 171, 172, 173, 174, 175, 176, 177, 178, 179, 180, 181, 182, 183, 184, 185, 186, 187, 188, 189, 190, 191, 192, 193, 194, 195, 196, 197, 198, 199, 200, 201, 202, 203, 204, 205, 206, 207, 208, 209, 210, 211, 212, 213, 214] rfl (by decide +kernel)
set_option maxRecDepth 20000 in
theorem gX10_obeys_X10_turnsKept : GoodIn wsX10_obeys (wsV RX10 365 RX10 yX10_turnsKept wsX10_turnsKept) := goodIn_app (goodIn_of _ (by decide +kernel)) ggX10_obeys_X10_turnsKept
theorem dX10_obeys_0 : decode cX10_obeys 0 = .ok (.aload_n 0, 1) := by decide +kernel
theorem dX10_obeys_1 : decode cX10_obeys 1 = .ok (.getfield 484, 3) := by decide +kernel
theorem dX10_obeys_4 : decode cX10_obeys 4 = .ok (.tableswitch 57 23 25 #[28, 40, 52], 28) := by decide +kernel
theorem dX10_obeys_32 : decode cX10_obeys 32 = .ok (.aload_n 0, 1) := by decide +kernel
theorem dX10_obeys_33 : decode cX10_obeys 33 = .ok (.aload_n 0, 1) := by decide +kernel
theorem dX10_obeys_34 : decode cX10_obeys 34 = .ok (.getfield 487, 3) := by decide +kernel
theorem dX10_obeys_37 : decode cX10_obeys 37 = .ok (.invokestatic 502, 3) := by decide +kernel
theorem dX10_obeys_40 : decode cX10_obeys 40 = .ok (.invokevirtual 371, 3) := by decide +kernel
theorem dX10_obeys_43 : decode cX10_obeys 43 = .ok (.ireturn, 1) := by decide +kernel
theorem dX10_obeys_44 : decode cX10_obeys 44 = .ok (.aload_n 0, 1) := by decide +kernel
theorem dX10_obeys_45 : decode cX10_obeys 45 = .ok (.aload_n 0, 1) := by decide +kernel
theorem dX10_obeys_46 : decode cX10_obeys 46 = .ok (.getfield 487, 3) := by decide +kernel
theorem dX10_obeys_49 : decode cX10_obeys 49 = .ok (.invokestatic 502, 3) := by decide +kernel
theorem dX10_obeys_52 : decode cX10_obeys 52 = .ok (.invokevirtual 374, 3) := by decide +kernel
theorem dX10_obeys_55 : decode cX10_obeys 55 = .ok (.ireturn, 1) := by decide +kernel
theorem dX10_obeys_56 : decode cX10_obeys 56 = .ok (.aload_n 0, 1) := by decide +kernel
theorem dX10_obeys_57 : decode cX10_obeys 57 = .ok (.invokevirtual 377, 3) := by decide +kernel
theorem dX10_obeys_60 : decode cX10_obeys 60 = .ok (.ireturn, 1) := by decide +kernel
theorem dX10_obeys_61 : decode cX10_obeys 61 = .ok (.aload_n 0, 1) := by decide +kernel
theorem dX10_obeys_62 : decode cX10_obeys 62 = .ok (.aload_n 0, 1) := by decide +kernel
theorem dX10_obeys_63 : decode cX10_obeys 63 = .ok (.getfield 487, 3) := by decide +kernel
theorem dX10_obeys_66 : decode cX10_obeys 66 = .ok (.invokestatic 502, 3) := by decide +kernel
theorem dX10_obeys_69 : decode cX10_obeys 69 = .ok (.invokevirtual 365, 3) := by decide +kernel
theorem dX10_obeys_72 : decode cX10_obeys 72 = .ok (.istore_n 1, 1) := by decide +kernel
theorem dX10_obeys_73 : decode cX10_obeys 73 = .ok (.aload_n 0, 1) := by decide +kernel
theorem dX10_obeys_74 : decode cX10_obeys 74 = .ok (.iload_n 1, 1) := by decide +kernel
theorem dX10_obeys_75 : decode cX10_obeys 75 = .ok (.ifCond .ge 10, 3) := by decide +kernel
theorem dX10_obeys_78 : decode cX10_obeys 78 = .ok (.aload_n 0, 1) := by decide +kernel
theorem dX10_obeys_79 : decode cX10_obeys 79 = .ok (.getfield 317, 3) := by decide +kernel
theorem dX10_obeys_82 : decode cX10_obeys 82 = .ok (.goto 4, 3) := by decide +kernel
theorem dX10_obeys_85 : decode cX10_obeys 85 = .ok (.iload_n 1, 1) := by decide +kernel
theorem dX10_obeys_86 : decode cX10_obeys 86 = .ok (.putfield 317, 3) := by decide +kernel
theorem dX10_obeys_89 : decode cX10_obeys 89 = .ok (.iload_n 1, 1) := by decide +kernel
theorem dX10_obeys_90 : decode cX10_obeys 90 = .ok (.ireturn, 1) := by decide +kernel
set_option maxRecDepth 20000 in
theorem ggX10_runs_X10_goesAlong : GoodIn wsX10_runs wsX10_goesAlong := goodIn_r _ [11, 12, 13, 6, 2, 14, 15, 16, 4, 1, 17, 3, 18, 19, 20, 10, 21, 22, 23, 24, 25, 26, 27, 28, 29, 30, 31, 32, 33, 34, 35, 36, 37, 38, 39, 40, 41, 42, 43, 44, 45, 46, 47, 5, 48, 49, 50, 51, 52, 53, 54, 55, 56, 57, 58, 59, 60, 61, 62, 63, 64, 65, 66, 67, 68, 69, 70, 71, 72, 73, 74, 75, 76, 77, 78, 79, 80, 81, 82, 83, 84, 85, 86, 87, 171, 172, 173, 174, 175, 176, 177, 178, 179, 180, 181, 182, 183, 184, 185, 186, 187, 188, 189, 190, 191, 192, 193, 194, 195, 196, 197, 198, 199, 200, 201, 202, 203, 204, 205, 206, 207, 208, 209, 210, 211, 212, 213, 214, 215, 216, 217, 218, 219, 220, 221, 222, 223, 224, 225, 226] rfl (by decide +kernel)
set_option maxRecDepth 20000 in
theorem gX10_runs_X10_goesAlong : GoodIn wsX10_runs (wsV RX10 506 RX10 yX10_goesAlong wsX10_goesAlong) := goodIn_app (goodIn_of _ (by decide +kernel)) ggX10_runs_X10_goesAlong
set_option maxRecDepth 20000 in
theorem ggX10_runs_X10_obeys : GoodIn wsX10_runs wsX10_obeys := goodIn_r _ [91, 14, 16, 48, 92, 93, 10, 94, 95, 96, 97, 98, 99, 17, 57, 58, 59, 49, 50, 51, 52, 53, 54, 55, 56, 100, 101, 102, 103, 104, 105, 106, 107, 108, 109, 110, 111, 112, 113, 114, 115, 116, 117, 118, 119, 120, 121, 122, 123, 124, 125, 126, 127, 128, 129, 130, 39, 131, 132, 133, 134, 135, 136, 137, 138, 139, 140, 141, 142, 12, 2, 13, 15, 143, 18, 19, 20, 21, 22, 23, 24, 25, 26, 27, 28, 29, 30, 31, 32, 33, 34, 35, 36, 37, 38, 40, 41, 42, 43, 44, 45, 46, 47, 5, 60, 61, 62, 63, 64, 65, 66, 67, 68, 69, 70, 71, 72, 73, 74, 75, 76, 77, 78, 79, 80, 81, 82, 83, 84, 85, 86, 87, 144, 145, 146, 147, 148, 149, 150, 151, 152, 153, 154, 155, 156, 157, 158, 159, 160, 161, 162, 163, 164, 165, 166, 167, 168, 169, 170, 171, 172, 173, 174, 175, 176, 177, 178, 179, 180, 181, 182, 183, 184, 185, 186, 187, 188, 189, 190, 191, 192, 193, 194, 195, 196, 197, 198, 199, 200, 201, 202, 203, 204, 205, 206, 207, 208, 209, 210, 211, 212, 213, 214, 215, 216, 217, 218, 219, 220, 221, 222, 223, 224, 225, 226] rfl (by decide +kernel)
set_option maxRecDepth 20000 in
theorem gX10_runs_X10_obeys : GoodIn wsX10_runs (wsV RX10 510 RX10 yX10_obeys wsX10_obeys) := goodIn_app (goodIn_of _ (by decide +kernel)) ggX10_runs_X10_obeys
theorem dX10_runs_0 : decode cX10_runs 0 = .ok (.aload_n 0, 1) := by decide +kernel
theorem dX10_runs_1 : decode cX10_runs 1 = .ok (.iload_n 1, 1) := by decide +kernel
theorem dX10_runs_2 : decode cX10_runs 2 = .ok (.iconst 0, 1) := by decide +kernel
theorem dX10_runs_3 : decode cX10_runs 3 = .ok (.invokevirtual 506, 3) := by decide +kernel
theorem dX10_runs_6 : decode cX10_runs 6 = .ok (.aload_n 0, 1) := by decide +kernel
theorem dX10_runs_7 : decode cX10_runs 7 = .ok (.getfield 494, 3) := by decide +kernel
theorem dX10_runs_10 : decode cX10_runs 10 = .ok (.istore_n 2, 1) := by decide +kernel
theorem dX10_runs_11 : decode cX10_runs 11 = .ok (.aload_n 0, 1) := by decide +kernel
theorem dX10_runs_12 : decode cX10_runs 12 = .ok (.getfield 278, 3) := by decide +kernel
theorem dX10_runs_15 : decode cX10_runs 15 = .ok (.istore_n 3, 1) := by decide +kernel
theorem dX10_runs_16 : decode cX10_runs 16 = .ok (.iconst 0, 1) := by decide +kernel
theorem dX10_runs_17 : decode cX10_runs 17 = .ok (.istore 4, 2) := by decide +kernel
theorem dX10_runs_19 : decode cX10_runs 19 = .ok (.iload 4, 2) := by decide +kernel
theorem dX10_runs_21 : decode cX10_runs 21 = .ok (.iload_n 2, 1) := by decide +kernel
theorem dX10_runs_22 : decode cX10_runs 22 = .ok (.if_icmp .ge 51, 3) := by decide +kernel
theorem dX10_runs_25 : decode cX10_runs 25 = .ok (.aload_n 0, 1) := by decide +kernel
theorem dX10_runs_26 : decode cX10_runs 26 = .ok (.iload_n 1, 1) := by decide +kernel
theorem dX10_runs_27 : decode cX10_runs 27 = .ok (.iconst 1, 1) := by decide +kernel
theorem dX10_runs_28 : decode cX10_runs 28 = .ok (.invokevirtual 506, 3) := by decide +kernel
theorem dX10_runs_31 : decode cX10_runs 31 = .ok (.aload_n 0, 1) := by decide +kernel
theorem dX10_runs_32 : decode cX10_runs 32 = .ok (.getfield 497, 3) := by decide +kernel
theorem dX10_runs_35 : decode cX10_runs 35 = .ok (.ifCond .ne 6, 3) := by decide +kernel
theorem dX10_runs_38 : decode cX10_runs 38 = .ok (.goto 29, 3) := by decide +kernel
theorem dX10_runs_41 : decode cX10_runs 41 = .ok (.aload_n 0, 1) := by decide +kernel
theorem dX10_runs_42 : decode cX10_runs 42 = .ok (.getfield 491, 3) := by decide +kernel
theorem dX10_runs_45 : decode cX10_runs 45 = .ok (.ifCond .eq 10, 3) := by decide +kernel
theorem dX10_runs_48 : decode cX10_runs 48 = .ok (.aload_n 0, 1) := by decide +kernel
theorem dX10_runs_49 : decode cX10_runs 49 = .ok (.invokevirtual 510, 3) := by decide +kernel
theorem dX10_runs_52 : decode cX10_runs 52 = .ok (.ifCond .ge 5, 3) := by decide +kernel
theorem dX10_runs_55 : decode cX10_runs 55 = .ok (.iconst 0, 1) := by decide +kernel
theorem dX10_runs_56 : decode cX10_runs 56 = .ok (.ireturn, 1) := by decide +kernel
theorem dX10_runs_57 : decode cX10_runs 57 = .ok (.aload_n 0, 1) := by decide +kernel
theorem dX10_runs_58 : decode cX10_runs 58 = .ok (.dup, 1) := by decide +kernel
theorem dX10_runs_59 : decode cX10_runs 59 = .ok (.getfield 314, 3) := by decide +kernel
theorem dX10_runs_62 : decode cX10_runs 62 = .ok (.iconst 1, 1) := by decide +kernel
theorem dX10_runs_63 : decode cX10_runs 63 = .ok (.iadd, 1) := by decide +kernel
theorem dX10_runs_64 : decode cX10_runs 64 = .ok (.putfield 314, 3) := by decide +kernel
theorem dX10_runs_67 : decode cX10_runs 67 = .ok (.iinc 4 1, 3) := by decide +kernel
theorem dX10_runs_70 : decode cX10_runs 70 = .ok (.goto (-51), 3) := by decide +kernel
theorem dX10_runs_73 : decode cX10_runs 73 = .ok (.aload_n 0, 1) := by decide +kernel
theorem dX10_runs_74 : decode cX10_runs 74 = .ok (.iload_n 3, 1) := by decide +kernel
theorem dX10_runs_75 : decode cX10_runs 75 = .ok (.putfield 475, 3) := by decide +kernel
theorem dX10_runs_78 : decode cX10_runs 78 = .ok (.iconst 1, 1) := by decide +kernel
theorem dX10_runs_79 : decode cX10_runs 79 = .ok (.ireturn, 1) := by decide +kernel
theorem dX10_draws_0 : decode cX10_draws 0 = .ok (.aload_n 0, 1) := by decide +kernel
theorem dX10_draws_1 : decode cX10_draws 1 = .ok (.ldc2_w 513, 3) := by decide +kernel
theorem dX10_draws_4 : decode cX10_draws 4 = .ok (.aload_n 0, 1) := by decide +kernel
theorem dX10_draws_5 : decode cX10_draws 5 = .ok (.getfield 515, 3) := by decide +kernel
theorem dX10_draws_8 : decode cX10_draws 8 = .ok (.i2l, 1) := by decide +kernel
theorem dX10_draws_9 : decode cX10_draws 9 = .ok (.lmul, 1) := by decide +kernel
theorem dX10_draws_10 : decode cX10_draws 10 = .ok (.ldc2_w 518, 3) := by decide +kernel
theorem dX10_draws_13 : decode cX10_draws 13 = .ok (.ladd, 1) := by decide +kernel
theorem dX10_draws_14 : decode cX10_draws 14 = .ok (.ldc2_w 520, 3) := by decide +kernel
theorem dX10_draws_17 : decode cX10_draws 17 = .ok (.lrem, 1) := by decide +kernel
theorem dX10_draws_18 : decode cX10_draws 18 = .ok (.l2i, 1) := by decide +kernel
theorem dX10_draws_19 : decode cX10_draws 19 = .ok (.putfield 515, 3) := by decide +kernel
theorem dX10_draws_22 : decode cX10_draws 22 = .ok (.aload_n 0, 1) := by decide +kernel
theorem dX10_draws_23 : decode cX10_draws 23 = .ok (.getfield 515, 3) := by decide +kernel
theorem dX10_draws_26 : decode cX10_draws 26 = .ok (.iload_n 1, 1) := by decide +kernel
theorem dX10_draws_27 : decode cX10_draws 27 = .ok (.irem, 1) := by decide +kernel
theorem dX10_draws_28 : decode cX10_draws 28 = .ok (.ireturn, 1) := by decide +kernel
