set_option maxRecDepth 20000 in
theorem ggX10_orders_X10_readsAs : GoodIn wsX10_orders wsX10_readsAs := goodIn_r _ [13, 14, 15, 16, 17, 18, 19, 12, 20, 21, 22, 23, 24, 25, 26, 27, 28, 29, 30, 31, 32, 33, 34, 35, 36, 37, 38, 39, 40, 41, 42, 43, 44, 45, 46, 47, 48, 49, 50, 51, 52, 53, 54, 55, 56, 57, 58, 59, 60, 61, 62, 63, 64, 65, 66, 67, 68, 69, 70, 71, 72, 73, 74, 75, 76, 77, 78, 79, 80, 81, 82, 83, 84, 85, 86, 87, 88, 89, 90, 91, 92, 93, 94, 95, 96, 97, 98, 99, 100, 101, 102, 103, 104, 105, 106, 107, 108, 109, 110, 111, 112, 297, 298, 299, 300, 301, 302, 303, 304, 305, 306, 307, 308, 309, 310, 311, 312, 313, 314, 315, 316, 317, 318, 319, 320, 321, 322, 323, 324, 325, 326, 327, 328, 329, 330, 331, 332, 333, 334, 335, 336, 337, 338, 339, 340, 341, 342, 343, 344, 345, 346, 347, 348, 349, 350, 351, 352] rfl (by decide +kernel)
set_option maxRecDepth 20000 in
theorem gX10_orders_X10_readsAs : GoodIn wsX10_orders (wsV RX10 265 RX10 yX10_readsAs wsX10_readsAs) := goodIn_app (goodIn_of _ (by decide +kernel)) ggX10_orders_X10_readsAs
set_option maxRecDepth 20000 in
theorem ggX10_orders_X10_refuses : GoodIn wsX10_orders wsX10_refuses := goodIn_r _ [116, 117, 118, 297, 298, 299, 300, 301, 302, 303, 304, 305, 306, 307, 308, 309, 310, 311, 312, 313, 314, 315, 316, 317, 318, 319, 320, 321, 322, 323, 324, 325, 326, 327, 328, 329, 330, 331, 332, 333, 334, 335, 336, 337, 338, 339, 340, 341, 342, 343, 344, 345, 346, 347, 348, 349, 350, 351, 352] rfl (by decide +kernel)
set_option maxRecDepth 20000 in
theorem gX10_orders_X10_refuses : GoodIn wsX10_orders (wsV RX10 119 RX10 yX10_refuses wsX10_refuses) := goodIn_app (goodIn_of _ (by decide +kernel)) ggX10_orders_X10_refuses
set_option maxRecDepth 20000 in
theorem ggX10_orders_X10_laysAside : GoodIn wsX10_orders wsX10_laysAside := goodIn_r _ [122, 123, 8, 297, 298, 299, 300, 301, 302, 303, 304, 305, 306, 307, 308, 309, 310, 311, 312, 313, 314, 315, 316, 317, 318, 319, 320, 321, 322, 323, 324, 325, 326, 327, 328, 329, 330, 331, 332, 333, 334, 335, 336, 337, 338, 339, 340, 341, 342, 343, 344, 345, 346, 347, 348, 349, 350, 351, 352] rfl (by decide +kernel)
set_option maxRecDepth 20000 in
theorem gX10_orders_X10_laysAside : GoodIn wsX10_orders (wsV RX10 472 RX10 yX10_laysAside wsX10_laysAside) := goodIn_app (goodIn_of _ (by decide +kernel)) ggX10_orders_X10_laysAside
set_option maxRecDepth 20000 in
theorem ggX10_orders_X10_lays : GoodIn wsX10_orders wsX10_lays := goodIn_r _ [127, 8, 25, 34, 33, 297, 298, 299, 300, 301, 302, 303, 304, 305, 306, 307, 308, 309, 310, 311, 312, 313, 314, 315, 316, 317, 318, 319, 320, 321, 322, 323, 324, 325, 326, 327, 328, 329, 330, 331, 332, 333, 334, 335, 336, 337, 338, 339, 340, 341, 342, 343, 344, 345, 346, 347, 348, 349, 350, 351, 352] rfl (by decide +kernel)
set_option maxRecDepth 20000 in
theorem gX10_orders_X10_lays : GoodIn wsX10_orders (wsV RX10 269 RX10 yX10_lays wsX10_lays) := goodIn_app (goodIn_of _ (by decide +kernel)) ggX10_orders_X10_lays
set_option maxRecDepth 20000 in
theorem ggX10_orders_X10_runs : GoodIn wsX10_orders wsX10_runs := goodIn_r _ [131, 132, 133, 134, 135, 5, 7, 136, 137, 138, 12, 139, 140, 141, 142, 143, 144, 8, 145, 146, 147, 148, 149, 150, 151, 152, 153, 154, 155, 70, 71, 72, 156, 157, 158, 159, 160, 161, 162, 163, 164, 165, 166, 167, 168, 169, 170, 171, 6, 172, 173, 174, 175, 176, 177, 178, 179, 90, 91, 92, 180, 181, 182, 183, 184, 185, 186, 187, 188, 189, 190, 191, 192, 193, 194, 195, 196, 197, 198, 199, 200, 201, 202, 203, 204, 205, 206, 207, 208, 209, 210, 211, 212, 213, 214, 215, 216, 217, 218, 219, 220, 221, 222, 223, 4, 3, 224, 225, 226, 227, 228, 229, 230, 231, 232, 233, 234, 235, 236, 237, 238, 239, 240, 241, 242, 243, 244, 245, 246, 247, 248, 249, 250, 251, 252, 253, 254, 255, 256, 257, 258, 259, 260, 261, 262, 263, 264, 265, 266, 267, 268, 269, 270, 271, 272, 273, 274, 275, 276, 277, 278, 279, 280, 281, 282, 283, 284, 285, 286, 287, 288, 297, 298, 299, 300, 301, 302, 303, 304, 305, 306, 307, 308, 309, 310, 311, 312, 313, 314, 315, 316, 317, 318, 319, 320, 321, 322, 323, 324, 325, 326, 327, 328, 329, 330, 331, 332, 333, 334, 335, 336, 337, 338, 339, 340, 341, 342, 343, 344, 345, 346, 347, 348, 349, 350, 351, 352] rfl (by decide +kernel)
set_option maxRecDepth 20000 in
theorem gX10_orders_X10_runs : GoodIn wsX10_orders (wsV RX10 478 RX10 yX10_runs wsX10_runs) := goodIn_app (goodIn_of _ (by decide +kernel)) ggX10_orders_X10_runs
set_option maxRecDepth 20000 in
theorem ggX10_orders_X10_takesBack : GoodIn wsX10_orders wsX10_takesBack := goodIn_r _ [292, 8, 123, 297, 298, 299, 300, 301, 302, 303, 304, 305, 306, 307, 308, 309, 310, 311, 312, 313, 314, 315, 316, 317, 318, 319, 320, 321, 322, 323, 324, 325, 326, 327, 328, 329, 330, 331, 332, 333, 334, 335, 336, 337, 338, 339, 340, 341, 342, 343, 344, 345, 346, 347, 348, 349, 350, 351, 352] rfl (by decide +kernel)
set_option maxRecDepth 20000 in
theorem gX10_orders_X10_takesBack : GoodIn wsX10_orders (wsV RX10 481 RX10 yX10_takesBack wsX10_takesBack) := goodIn_app (goodIn_of _ (by decide +kernel)) ggX10_orders_X10_takesBack
set_option maxRecDepth 20000 in
theorem ggX10_orders_X10_good : GoodIn wsX10_orders wsX10_good := goodIn_r _ [296, 117, 297, 298, 299, 300, 301, 302, 303, 304, 305, 306, 307, 308, 309, 310, 311, 312, 313, 314, 315, 316, 317, 318, 319, 320, 321, 322, 323, 324, 325, 326, 327, 328, 329, 330, 331, 332, 333, 334, 335, 336, 337, 338, 339, 340, 341, 342, 343, 344, 345, 346, 347, 348, 349, 350, 351, 352] rfl (by decide +kernel)
set_option maxRecDepth 20000 in
theorem gX10_orders_X10_good : GoodIn wsX10_orders (wsV RX10 14 RX10 yX10_good wsX10_good) := goodIn_app (goodIn_of _ (by decide +kernel)) ggX10_orders_X10_good
theorem da9_dX10_orders_0 : (decode cX10_orders 0 = .ok (.aload_n 0, 1)) ∧ (decode cX10_orders 1 = .ok (.iconst (-1), 1)) ∧ (decode cX10_orders 2 = .ok (.putfield 110, 3)) ∧ (decode cX10_orders 5 = .ok (.aload_n 0, 1)) ∧ (decode cX10_orders 6 = .ok (.iconst 1, 1)) ∧ (decode cX10_orders 7 = .ok (.invokevirtual 265, 3)) ∧ (decode cX10_orders 10 = .ok (.ifCond .ne 10, 3)) ∧ (decode cX10_orders 13 = .ok (.aload_n 0, 1)) ∧ (decode cX10_orders 14 = .ok (.bipush (-6), 2)) ∧ (decode cX10_orders 16 = .ok (.invokevirtual 119, 3)) ∧ (decode cX10_orders 19 = .ok (.ireturn, 1)) ∧ (decode cX10_orders 20 = .ok (.aload_n 0, 1)) ∧ (decode cX10_orders 21 = .ok (.iconst 1, 1)) ∧ (decode cX10_orders 22 = .ok (.invokevirtual 472, 3)) ∧ (decode cX10_orders 25 = .ok (.iconst 0, 1)) ∧ (decode cX10_orders 26 = .ok (.istore_n 1, 1)) := by decide +kernel
theorem dX10_orders_0 : decode cX10_orders 0 = .ok (.aload_n 0, 1) := da9_dX10_orders_0.1
theorem dX10_orders_1 : decode cX10_orders 1 = .ok (.iconst (-1), 1) := da9_dX10_orders_0.2.1
theorem dX10_orders_2 : decode cX10_orders 2 = .ok (.putfield 110, 3) := da9_dX10_orders_0.2.2.1
theorem dX10_orders_5 : decode cX10_orders 5 = .ok (.aload_n 0, 1) := da9_dX10_orders_0.2.2.2.1
theorem dX10_orders_6 : decode cX10_orders 6 = .ok (.iconst 1, 1) := da9_dX10_orders_0.2.2.2.2.1
theorem dX10_orders_7 : decode cX10_orders 7 = .ok (.invokevirtual 265, 3) := da9_dX10_orders_0.2.2.2.2.2.1
theorem dX10_orders_10 : decode cX10_orders 10 = .ok (.ifCond .ne 10, 3) := da9_dX10_orders_0.2.2.2.2.2.2.1
theorem dX10_orders_13 : decode cX10_orders 13 = .ok (.aload_n 0, 1) := da9_dX10_orders_0.2.2.2.2.2.2.2.1
theorem dX10_orders_14 : decode cX10_orders 14 = .ok (.bipush (-6), 2) := da9_dX10_orders_0.2.2.2.2.2.2.2.2.1
theorem dX10_orders_16 : decode cX10_orders 16 = .ok (.invokevirtual 119, 3) := da9_dX10_orders_0.2.2.2.2.2.2.2.2.2.1
theorem dX10_orders_19 : decode cX10_orders 19 = .ok (.ireturn, 1) := da9_dX10_orders_0.2.2.2.2.2.2.2.2.2.2.1
theorem dX10_orders_20 : decode cX10_orders 20 = .ok (.aload_n 0, 1) := da9_dX10_orders_0.2.2.2.2.2.2.2.2.2.2.2.1
theorem dX10_orders_21 : decode cX10_orders 21 = .ok (.iconst 1, 1) := da9_dX10_orders_0.2.2.2.2.2.2.2.2.2.2.2.2.1
theorem dX10_orders_22 : decode cX10_orders 22 = .ok (.invokevirtual 472, 3) := da9_dX10_orders_0.2.2.2.2.2.2.2.2.2.2.2.2.2.1
theorem dX10_orders_25 : decode cX10_orders 25 = .ok (.iconst 0, 1) := da9_dX10_orders_0.2.2.2.2.2.2.2.2.2.2.2.2.2.2.1
theorem dX10_orders_26 : decode cX10_orders 26 = .ok (.istore_n 1, 1) := da9_dX10_orders_0.2.2.2.2.2.2.2.2.2.2.2.2.2.2.2
theorem da9_dX10_orders_27 : (decode cX10_orders 27 = .ok (.iload_n 1, 1)) ∧ (decode cX10_orders 28 = .ok (.sipush 240, 3)) ∧ (decode cX10_orders 31 = .ok (.if_icmp .ge 21, 3)) ∧ (decode cX10_orders 34 = .ok (.aload_n 0, 1)) ∧ (decode cX10_orders 35 = .ok (.getfield 72, 3)) ∧ (decode cX10_orders 38 = .ok (.iload_n 1, 1)) ∧ (decode cX10_orders 39 = .ok (.aload_n 0, 1)) ∧ (decode cX10_orders 40 = .ok (.getfield 69, 3)) ∧ (decode cX10_orders 43 = .ok (.iload_n 1, 1)) ∧ (decode cX10_orders 44 = .ok (.iaload, 1)) ∧ (decode cX10_orders 45 = .ok (.iastore, 1)) ∧ (decode cX10_orders 46 = .ok (.iinc 1 1, 3)) ∧ (decode cX10_orders 49 = .ok (.goto (-22), 3)) ∧ (decode cX10_orders 52 = .ok (.aload_n 0, 1)) ∧ (decode cX10_orders 53 = .ok (.getfield 11, 3)) ∧ (decode cX10_orders 56 = .ok (.istore_n 1, 1)) := by decide +kernel
theorem dX10_orders_27 : decode cX10_orders 27 = .ok (.iload_n 1, 1) := da9_dX10_orders_27.1
theorem dX10_orders_28 : decode cX10_orders 28 = .ok (.sipush 240, 3) := da9_dX10_orders_27.2.1
theorem dX10_orders_31 : decode cX10_orders 31 = .ok (.if_icmp .ge 21, 3) := da9_dX10_orders_27.2.2.1
theorem dX10_orders_34 : decode cX10_orders 34 = .ok (.aload_n 0, 1) := da9_dX10_orders_27.2.2.2.1
theorem dX10_orders_35 : decode cX10_orders 35 = .ok (.getfield 72, 3) := da9_dX10_orders_27.2.2.2.2.1
theorem dX10_orders_38 : decode cX10_orders 38 = .ok (.iload_n 1, 1) := da9_dX10_orders_27.2.2.2.2.2.1
theorem dX10_orders_39 : decode cX10_orders 39 = .ok (.aload_n 0, 1) := da9_dX10_orders_27.2.2.2.2.2.2.1
theorem dX10_orders_40 : decode cX10_orders 40 = .ok (.getfield 69, 3) := da9_dX10_orders_27.2.2.2.2.2.2.2.1
theorem dX10_orders_43 : decode cX10_orders 43 = .ok (.iload_n 1, 1) := da9_dX10_orders_27.2.2.2.2.2.2.2.2.1
theorem dX10_orders_44 : decode cX10_orders 44 = .ok (.iaload, 1) := da9_dX10_orders_27.2.2.2.2.2.2.2.2.2.1
theorem dX10_orders_45 : decode cX10_orders 45 = .ok (.iastore, 1) := da9_dX10_orders_27.2.2.2.2.2.2.2.2.2.2.1
theorem dX10_orders_46 : decode cX10_orders 46 = .ok (.iinc 1 1, 3) := da9_dX10_orders_27.2.2.2.2.2.2.2.2.2.2.2.1
theorem dX10_orders_49 : decode cX10_orders 49 = .ok (.goto (-22), 3) := da9_dX10_orders_27.2.2.2.2.2.2.2.2.2.2.2.2.1
theorem dX10_orders_52 : decode cX10_orders 52 = .ok (.aload_n 0, 1) := da9_dX10_orders_27.2.2.2.2.2.2.2.2.2.2.2.2.2.1
theorem dX10_orders_53 : decode cX10_orders 53 = .ok (.getfield 11, 3) := da9_dX10_orders_27.2.2.2.2.2.2.2.2.2.2.2.2.2.2.1
theorem dX10_orders_56 : decode cX10_orders 56 = .ok (.istore_n 1, 1) := da9_dX10_orders_27.2.2.2.2.2.2.2.2.2.2.2.2.2.2.2
theorem da9_dX10_orders_57 : (decode cX10_orders 57 = .ok (.aload_n 0, 1)) ∧ (decode cX10_orders 58 = .ok (.bipush 6, 2)) ∧ (decode cX10_orders 60 = .ok (.invokevirtual 269, 3)) ∧ (decode cX10_orders 63 = .ok (.aload_n 0, 1)) ∧ (decode cX10_orders 64 = .ok (.iconst 0, 1)) ∧ (decode cX10_orders 65 = .ok (.putfield 314, 3)) ∧ (decode cX10_orders 68 = .ok (.aload_n 0, 1)) ∧ (decode cX10_orders 69 = .ok (.iconst (-1), 1)) ∧ (decode cX10_orders 70 = .ok (.putfield 317, 3)) ∧ (decode cX10_orders 73 = .ok (.aload_n 0, 1)) ∧ (decode cX10_orders 74 = .ok (.sipush 2400, 3)) ∧ (decode cX10_orders 77 = .ok (.putfield 475, 3)) ∧ (decode cX10_orders 80 = .ok (.aload_n 0, 1)) ∧ (decode cX10_orders 81 = .ok (.getfield 475, 3)) ∧ (decode cX10_orders 84 = .ok (.aload_n 0, 1)) ∧ (decode cX10_orders 85 = .ok (.getfield 28, 3)) := by decide +kernel
theorem dX10_orders_57 : decode cX10_orders 57 = .ok (.aload_n 0, 1) := da9_dX10_orders_57.1
theorem dX10_orders_58 : decode cX10_orders 58 = .ok (.bipush 6, 2) := da9_dX10_orders_57.2.1
theorem dX10_orders_60 : decode cX10_orders 60 = .ok (.invokevirtual 269, 3) := da9_dX10_orders_57.2.2.1
theorem dX10_orders_63 : decode cX10_orders 63 = .ok (.aload_n 0, 1) := da9_dX10_orders_57.2.2.2.1
theorem dX10_orders_64 : decode cX10_orders 64 = .ok (.iconst 0, 1) := da9_dX10_orders_57.2.2.2.2.1
theorem dX10_orders_65 : decode cX10_orders 65 = .ok (.putfield 314, 3) := da9_dX10_orders_57.2.2.2.2.2.1
theorem dX10_orders_68 : decode cX10_orders 68 = .ok (.aload_n 0, 1) := da9_dX10_orders_57.2.2.2.2.2.2.1
theorem dX10_orders_69 : decode cX10_orders 69 = .ok (.iconst (-1), 1) := da9_dX10_orders_57.2.2.2.2.2.2.2.1
theorem dX10_orders_70 : decode cX10_orders 70 = .ok (.putfield 317, 3) := da9_dX10_orders_57.2.2.2.2.2.2.2.2.1
theorem dX10_orders_73 : decode cX10_orders 73 = .ok (.aload_n 0, 1) := da9_dX10_orders_57.2.2.2.2.2.2.2.2.2.1
theorem dX10_orders_74 : decode cX10_orders 74 = .ok (.sipush 2400, 3) := da9_dX10_orders_57.2.2.2.2.2.2.2.2.2.2.1
theorem dX10_orders_77 : decode cX10_orders 77 = .ok (.putfield 475, 3) := da9_dX10_orders_57.2.2.2.2.2.2.2.2.2.2.2.1
theorem dX10_orders_80 : decode cX10_orders 80 = .ok (.aload_n 0, 1) := da9_dX10_orders_57.2.2.2.2.2.2.2.2.2.2.2.2.1
theorem dX10_orders_81 : decode cX10_orders 81 = .ok (.getfield 475, 3) := da9_dX10_orders_57.2.2.2.2.2.2.2.2.2.2.2.2.2.1
theorem dX10_orders_84 : decode cX10_orders 84 = .ok (.aload_n 0, 1) := da9_dX10_orders_57.2.2.2.2.2.2.2.2.2.2.2.2.2.2.1
theorem dX10_orders_85 : decode cX10_orders 85 = .ok (.getfield 28, 3) := da9_dX10_orders_57.2.2.2.2.2.2.2.2.2.2.2.2.2.2.2
theorem da9_dX10_orders_88 : (decode cX10_orders 88 = .ok (.bipush 39, 2)) ∧ (decode cX10_orders 90 = .ok (.iaload, 1)) ∧ (decode cX10_orders 91 = .ok (.iadd, 1)) ∧ (decode cX10_orders 92 = .ok (.istore_n 2, 1)) ∧ (decode cX10_orders 93 = .ok (.iconst 0, 1)) ∧ (decode cX10_orders 94 = .ok (.istore_n 3, 1)) ∧ (decode cX10_orders 95 = .ok (.aload_n 0, 1)) ∧ (decode cX10_orders 96 = .ok (.getfield 475, 3)) ∧ (decode cX10_orders 99 = .ok (.iload_n 2, 1)) ∧ (decode cX10_orders 100 = .ok (.if_icmp .ge 73, 3)) ∧ (decode cX10_orders 103 = .ok (.aload_n 0, 1)) ∧ (decode cX10_orders 104 = .ok (.iload_n 2, 1)) ∧ (decode cX10_orders 105 = .ok (.invokevirtual 478, 3)) ∧ (decode cX10_orders 108 = .ok (.ifCond .eq 6, 3)) ∧ (decode cX10_orders 111 = .ok (.goto 56, 3)) ∧ (decode cX10_orders 114 = .ok (.aload_n 0, 1)) := by decide +kernel
theorem dX10_orders_88 : decode cX10_orders 88 = .ok (.bipush 39, 2) := da9_dX10_orders_88.1
theorem dX10_orders_90 : decode cX10_orders 90 = .ok (.iaload, 1) := da9_dX10_orders_88.2.1
theorem dX10_orders_91 : decode cX10_orders 91 = .ok (.iadd, 1) := da9_dX10_orders_88.2.2.1
theorem dX10_orders_92 : decode cX10_orders 92 = .ok (.istore_n 2, 1) := da9_dX10_orders_88.2.2.2.1
theorem dX10_orders_93 : decode cX10_orders 93 = .ok (.iconst 0, 1) := da9_dX10_orders_88.2.2.2.2.1
theorem dX10_orders_94 : decode cX10_orders 94 = .ok (.istore_n 3, 1) := da9_dX10_orders_88.2.2.2.2.2.1
theorem dX10_orders_95 : decode cX10_orders 95 = .ok (.aload_n 0, 1) := da9_dX10_orders_88.2.2.2.2.2.2.1
theorem dX10_orders_96 : decode cX10_orders 96 = .ok (.getfield 475, 3) := da9_dX10_orders_88.2.2.2.2.2.2.2.1
theorem dX10_orders_99 : decode cX10_orders 99 = .ok (.iload_n 2, 1) := da9_dX10_orders_88.2.2.2.2.2.2.2.2.1
theorem dX10_orders_100 : decode cX10_orders 100 = .ok (.if_icmp .ge 73, 3) := da9_dX10_orders_88.2.2.2.2.2.2.2.2.2.1
theorem dX10_orders_103 : decode cX10_orders 103 = .ok (.aload_n 0, 1) := da9_dX10_orders_88.2.2.2.2.2.2.2.2.2.2.1
theorem dX10_orders_104 : decode cX10_orders 104 = .ok (.iload_n 2, 1) := da9_dX10_orders_88.2.2.2.2.2.2.2.2.2.2.2.1
theorem dX10_orders_105 : decode cX10_orders 105 = .ok (.invokevirtual 478, 3) := da9_dX10_orders_88.2.2.2.2.2.2.2.2.2.2.2.2.1
theorem dX10_orders_108 : decode cX10_orders 108 = .ok (.ifCond .eq 6, 3) := da9_dX10_orders_88.2.2.2.2.2.2.2.2.2.2.2.2.2.1
theorem dX10_orders_111 : decode cX10_orders 111 = .ok (.goto 56, 3) := da9_dX10_orders_88.2.2.2.2.2.2.2.2.2.2.2.2.2.2.1
theorem dX10_orders_114 : decode cX10_orders 114 = .ok (.aload_n 0, 1) := da9_dX10_orders_88.2.2.2.2.2.2.2.2.2.2.2.2.2.2.2
theorem da9_dX10_orders_115 : (decode cX10_orders 115 = .ok (.iconst 1, 1)) ∧ (decode cX10_orders 116 = .ok (.invokevirtual 481, 3)) ∧ (decode cX10_orders 119 = .ok (.iconst 0, 1)) ∧ (decode cX10_orders 120 = .ok (.istore 4, 2)) ∧ (decode cX10_orders 122 = .ok (.iload 4, 2)) ∧ (decode cX10_orders 124 = .ok (.sipush 240, 3)) ∧ (decode cX10_orders 127 = .ok (.if_icmp .ge 23, 3)) ∧ (decode cX10_orders 130 = .ok (.aload_n 0, 1)) ∧ (decode cX10_orders 131 = .ok (.getfield 69, 3)) ∧ (decode cX10_orders 134 = .ok (.iload 4, 2)) ∧ (decode cX10_orders 136 = .ok (.aload_n 0, 1)) ∧ (decode cX10_orders 137 = .ok (.getfield 72, 3)) ∧ (decode cX10_orders 140 = .ok (.iload 4, 2)) ∧ (decode cX10_orders 142 = .ok (.iaload, 1)) ∧ (decode cX10_orders 143 = .ok (.iastore, 1)) ∧ (decode cX10_orders 144 = .ok (.iinc 4 1, 3)) := by decide +kernel
theorem dX10_orders_115 : decode cX10_orders 115 = .ok (.iconst 1, 1) := da9_dX10_orders_115.1
theorem dX10_orders_116 : decode cX10_orders 116 = .ok (.invokevirtual 481, 3) := da9_dX10_orders_115.2.1
theorem dX10_orders_119 : decode cX10_orders 119 = .ok (.iconst 0, 1) := da9_dX10_orders_115.2.2.1
theorem dX10_orders_120 : decode cX10_orders 120 = .ok (.istore 4, 2) := da9_dX10_orders_115.2.2.2.1
theorem dX10_orders_122 : decode cX10_orders 122 = .ok (.iload 4, 2) := da9_dX10_orders_115.2.2.2.2.1
theorem dX10_orders_124 : decode cX10_orders 124 = .ok (.sipush 240, 3) := da9_dX10_orders_115.2.2.2.2.2.1
theorem dX10_orders_127 : decode cX10_orders 127 = .ok (.if_icmp .ge 23, 3) := da9_dX10_orders_115.2.2.2.2.2.2.1
theorem dX10_orders_130 : decode cX10_orders 130 = .ok (.aload_n 0, 1) := da9_dX10_orders_115.2.2.2.2.2.2.2.1
theorem dX10_orders_131 : decode cX10_orders 131 = .ok (.getfield 69, 3) := da9_dX10_orders_115.2.2.2.2.2.2.2.2.1
theorem dX10_orders_134 : decode cX10_orders 134 = .ok (.iload 4, 2) := da9_dX10_orders_115.2.2.2.2.2.2.2.2.2.1
theorem dX10_orders_136 : decode cX10_orders 136 = .ok (.aload_n 0, 1) := da9_dX10_orders_115.2.2.2.2.2.2.2.2.2.2.1
theorem dX10_orders_137 : decode cX10_orders 137 = .ok (.getfield 72, 3) := da9_dX10_orders_115.2.2.2.2.2.2.2.2.2.2.2.1
theorem dX10_orders_140 : decode cX10_orders 140 = .ok (.iload 4, 2) := da9_dX10_orders_115.2.2.2.2.2.2.2.2.2.2.2.2.1
theorem dX10_orders_142 : decode cX10_orders 142 = .ok (.iaload, 1) := da9_dX10_orders_115.2.2.2.2.2.2.2.2.2.2.2.2.2.1
theorem dX10_orders_143 : decode cX10_orders 143 = .ok (.iastore, 1) := da9_dX10_orders_115.2.2.2.2.2.2.2.2.2.2.2.2.2.2.1
theorem dX10_orders_144 : decode cX10_orders 144 = .ok (.iinc 4 1, 3) := da9_dX10_orders_115.2.2.2.2.2.2.2.2.2.2.2.2.2.2.2
theorem da9_dX10_orders_147 : (decode cX10_orders 147 = .ok (.goto (-25), 3)) ∧ (decode cX10_orders 150 = .ok (.aload_n 0, 1)) ∧ (decode cX10_orders 151 = .ok (.iload_n 1, 1)) ∧ (decode cX10_orders 152 = .ok (.putfield 11, 3)) ∧ (decode cX10_orders 155 = .ok (.aload_n 0, 1)) ∧ (decode cX10_orders 156 = .ok (.iload_n 3, 1)) ∧ (decode cX10_orders 157 = .ok (.putfield 110, 3)) ∧ (decode cX10_orders 160 = .ok (.aload_n 0, 1)) ∧ (decode cX10_orders 161 = .ok (.bipush (-3), 2)) ∧ (decode cX10_orders 163 = .ok (.invokevirtual 119, 3)) ∧ (decode cX10_orders 166 = .ok (.ireturn, 1)) ∧ (decode cX10_orders 167 = .ok (.iinc 3 1, 3)) ∧ (decode cX10_orders 170 = .ok (.goto (-75), 3)) ∧ (decode cX10_orders 173 = .ok (.aload_n 0, 1)) ∧ (decode cX10_orders 174 = .ok (.aload_n 0, 1)) ∧ (decode cX10_orders 175 = .ok (.getfield 314, 3)) := by decide +kernel
theorem dX10_orders_147 : decode cX10_orders 147 = .ok (.goto (-25), 3) := da9_dX10_orders_147.1
theorem dX10_orders_150 : decode cX10_orders 150 = .ok (.aload_n 0, 1) := da9_dX10_orders_147.2.1
theorem dX10_orders_151 : decode cX10_orders 151 = .ok (.iload_n 1, 1) := da9_dX10_orders_147.2.2.1
theorem dX10_orders_152 : decode cX10_orders 152 = .ok (.putfield 11, 3) := da9_dX10_orders_147.2.2.2.1
theorem dX10_orders_155 : decode cX10_orders 155 = .ok (.aload_n 0, 1) := da9_dX10_orders_147.2.2.2.2.1
theorem dX10_orders_156 : decode cX10_orders 156 = .ok (.iload_n 3, 1) := da9_dX10_orders_147.2.2.2.2.2.1
theorem dX10_orders_157 : decode cX10_orders 157 = .ok (.putfield 110, 3) := da9_dX10_orders_147.2.2.2.2.2.2.1
theorem dX10_orders_160 : decode cX10_orders 160 = .ok (.aload_n 0, 1) := da9_dX10_orders_147.2.2.2.2.2.2.2.1
theorem dX10_orders_161 : decode cX10_orders 161 = .ok (.bipush (-3), 2) := da9_dX10_orders_147.2.2.2.2.2.2.2.2.1
theorem dX10_orders_163 : decode cX10_orders 163 = .ok (.invokevirtual 119, 3) := da9_dX10_orders_147.2.2.2.2.2.2.2.2.2.1
theorem dX10_orders_166 : decode cX10_orders 166 = .ok (.ireturn, 1) := da9_dX10_orders_147.2.2.2.2.2.2.2.2.2.2.1
theorem dX10_orders_167 : decode cX10_orders 167 = .ok (.iinc 3 1, 3) := da9_dX10_orders_147.2.2.2.2.2.2.2.2.2.2.2.1
theorem dX10_orders_170 : decode cX10_orders 170 = .ok (.goto (-75), 3) := da9_dX10_orders_147.2.2.2.2.2.2.2.2.2.2.2.2.1
theorem dX10_orders_173 : decode cX10_orders 173 = .ok (.aload_n 0, 1) := da9_dX10_orders_147.2.2.2.2.2.2.2.2.2.2.2.2.2.1
theorem dX10_orders_174 : decode cX10_orders 174 = .ok (.aload_n 0, 1) := da9_dX10_orders_147.2.2.2.2.2.2.2.2.2.2.2.2.2.2.1
theorem dX10_orders_175 : decode cX10_orders 175 = .ok (.getfield 314, 3) := da9_dX10_orders_147.2.2.2.2.2.2.2.2.2.2.2.2.2.2.2
theorem da9_dX10_orders_178 : (decode cX10_orders 178 = .ok (.invokevirtual 14, 3)) ∧ (decode cX10_orders 181 = .ok (.ireturn, 1)) := by decide +kernel
theorem dX10_orders_178 : decode cX10_orders 178 = .ok (.invokevirtual 14, 3) := da9_dX10_orders_178.1
theorem dX10_orders_181 : decode cX10_orders 181 = .ok (.ireturn, 1) := da9_dX10_orders_178.2
theorem da9_dX10_draws_0 : (decode cX10_draws 0 = .ok (.aload_n 0, 1)) ∧ (decode cX10_draws 1 = .ok (.ldc2_w 513, 3)) ∧ (decode cX10_draws 4 = .ok (.aload_n 0, 1)) ∧ (decode cX10_draws 5 = .ok (.getfield 515, 3)) ∧ (decode cX10_draws 8 = .ok (.i2l, 1)) ∧ (decode cX10_draws 9 = .ok (.lmul, 1)) ∧ (decode cX10_draws 10 = .ok (.ldc2_w 518, 3)) ∧ (decode cX10_draws 13 = .ok (.ladd, 1)) ∧ (decode cX10_draws 14 = .ok (.ldc2_w 520, 3)) ∧ (decode cX10_draws 17 = .ok (.lrem, 1)) ∧ (decode cX10_draws 18 = .ok (.l2i, 1)) ∧ (decode cX10_draws 19 = .ok (.putfield 515, 3)) ∧ (decode cX10_draws 22 = .ok (.aload_n 0, 1)) ∧ (decode cX10_draws 23 = .ok (.getfield 515, 3)) ∧ (decode cX10_draws 26 = .ok (.iload_n 1, 1)) ∧ (decode cX10_draws 27 = .ok (.irem, 1)) := by decide +kernel
theorem dX10_draws_0 : decode cX10_draws 0 = .ok (.aload_n 0, 1) := da9_dX10_draws_0.1
theorem dX10_draws_1 : decode cX10_draws 1 = .ok (.ldc2_w 513, 3) := da9_dX10_draws_0.2.1
theorem dX10_draws_4 : decode cX10_draws 4 = .ok (.aload_n 0, 1) := da9_dX10_draws_0.2.2.1
theorem dX10_draws_5 : decode cX10_draws 5 = .ok (.getfield 515, 3) := da9_dX10_draws_0.2.2.2.1
theorem dX10_draws_8 : decode cX10_draws 8 = .ok (.i2l, 1) := da9_dX10_draws_0.2.2.2.2.1
theorem dX10_draws_9 : decode cX10_draws 9 = .ok (.lmul, 1) := da9_dX10_draws_0.2.2.2.2.2.1
theorem dX10_draws_10 : decode cX10_draws 10 = .ok (.ldc2_w 518, 3) := da9_dX10_draws_0.2.2.2.2.2.2.1
theorem dX10_draws_13 : decode cX10_draws 13 = .ok (.ladd, 1) := da9_dX10_draws_0.2.2.2.2.2.2.2.1
theorem dX10_draws_14 : decode cX10_draws 14 = .ok (.ldc2_w 520, 3) := da9_dX10_draws_0.2.2.2.2.2.2.2.2.1
theorem dX10_draws_17 : decode cX10_draws 17 = .ok (.lrem, 1) := da9_dX10_draws_0.2.2.2.2.2.2.2.2.2.1
theorem dX10_draws_18 : decode cX10_draws 18 = .ok (.l2i, 1) := da9_dX10_draws_0.2.2.2.2.2.2.2.2.2.2.1
theorem dX10_draws_19 : decode cX10_draws 19 = .ok (.putfield 515, 3) := da9_dX10_draws_0.2.2.2.2.2.2.2.2.2.2.2.1
theorem dX10_draws_22 : decode cX10_draws 22 = .ok (.aload_n 0, 1) := da9_dX10_draws_0.2.2.2.2.2.2.2.2.2.2.2.2.1
theorem dX10_draws_23 : decode cX10_draws 23 = .ok (.getfield 515, 3) := da9_dX10_draws_0.2.2.2.2.2.2.2.2.2.2.2.2.2.1
theorem dX10_draws_26 : decode cX10_draws 26 = .ok (.iload_n 1, 1) := da9_dX10_draws_0.2.2.2.2.2.2.2.2.2.2.2.2.2.2.1
theorem dX10_draws_27 : decode cX10_draws 27 = .ok (.irem, 1) := da9_dX10_draws_0.2.2.2.2.2.2.2.2.2.2.2.2.2.2.2
theorem dX10_draws_28 : decode cX10_draws 28 = .ok (.ireturn, 1) := by decide +kernel
set_option maxRecDepth 20000 in
theorem ggX10_years_X10_lies : GoodIn wsX10_years wsX10_lies := goodIn_r _ [9] rfl (by decide +kernel)
set_option maxRecDepth 20000 in
theorem gX10_years_X10_lies : GoodIn wsX10_years (va_wsS RX10 18 yX10_lies wsX10_lies) := goodIn_app (goodIn_of _ (by decide +kernel)) ggX10_years_X10_lies
set_option maxRecDepth 20000 in
theorem ggX10_years_X10_refuses : GoodIn wsX10_years wsX10_refuses := goodIn_r _ [13, 14, 15, 161, 162, 163, 164, 165, 166, 167, 168, 169, 170, 171, 172, 173, 174, 175, 176, 177, 178, 179, 180, 181, 182, 183, 184, 185, 186, 187, 188, 189, 190, 191, 192, 193, 194, 195, 196, 197, 198, 199, 200, 201, 202, 203, 204, 205, 206, 207, 208, 209, 210, 211, 212, 213, 214, 215, 216] rfl (by decide +kernel)
set_option maxRecDepth 20000 in
theorem gX10_years_X10_refuses : GoodIn wsX10_years (wsV RX10 119 RX10 yX10_refuses wsX10_refuses) := goodIn_app (goodIn_of _ (by decide +kernel)) ggX10_years_X10_refuses
set_option maxRecDepth 20000 in
theorem ggX10_years_X10_size : GoodIn wsX10_years wsX10_size := goodIn_r _ [19, 4, 161, 162, 163, 164, 165, 166, 167, 168, 169, 170, 171, 172, 173, 174, 175, 176, 177, 178, 179, 180, 181, 182, 183, 184, 185, 186, 187, 188, 189, 190, 191, 192, 193, 194, 195, 196, 197, 198, 199, 200, 201, 202, 203, 204, 205, 206, 207, 208, 209, 210, 211, 212, 213, 214, 215, 216] rfl (by decide +kernel)
set_option maxRecDepth 20000 in
theorem gX10_years_X10_size : GoodIn wsX10_years (wsV RX10 125 RX10 yX10_size wsX10_size) := goodIn_app (goodIn_of _ (by decide +kernel)) ggX10_years_X10_size
set_option maxRecDepth 20000 in
theorem ggX10_years_X10_laysAside : GoodIn wsX10_years wsX10_laysAside := goodIn_r _ [23, 24, 4, 161, 162, 163, 164, 165, 166, 167, 168, 169, 170, 171, 172, 173, 174, 175, 176, 177, 178, 179, 180, 181, 182, 183, 184, 185, 186, 187, 188, 189, 190, 191, 192, 193, 194, 195, 196, 197, 198, 199, 200, 201, 202, 203, 204, 205, 206, 207, 208, 209, 210, 211, 212, 213, 214, 215, 216] rfl (by decide +kernel)
set_option maxRecDepth 20000 in
theorem gX10_years_X10_laysAside : GoodIn wsX10_years (wsV RX10 472 RX10 yX10_laysAside wsX10_laysAside) := goodIn_app (goodIn_of _ (by decide +kernel)) ggX10_years_X10_laysAside
set_option maxRecDepth 20000 in
theorem ggX10_years_X10_draws : GoodIn wsX10_years wsX10_draws := goodIn_r _ [28, 29, 2, 30, 31, 161, 162, 163, 164, 165, 166, 167, 168, 169, 170, 171, 172, 173, 174, 175, 176, 177, 178, 179, 180, 181, 182, 183, 184, 185, 186, 187, 188, 189, 190, 191, 192, 193, 194, 195, 196, 197, 198, 199, 200, 201, 202, 203, 204, 205, 206, 207, 208, 209, 210, 211, 212, 213, 214, 215, 216] rfl (by decide +kernel)
set_option maxRecDepth 20000 in
theorem gX10_years_X10_draws : GoodIn wsX10_years (wsV RX10 522 RX10 yX10_draws wsX10_draws) := goodIn_app (goodIn_of _ (by decide +kernel)) ggX10_years_X10_draws
set_option maxRecDepth 20000 in
theorem ggX10_years_X10_canTurn : GoodIn wsX10_years wsX10_canTurn := goodIn_r _ [35, 4, 16, 17, 18, 8, 19, 36, 37, 38, 39, 40, 41, 42, 43, 44, 45, 46, 47, 48, 49, 50, 51, 52, 53, 54, 55, 56, 57, 58, 59, 60, 61, 62, 63, 64, 65, 66, 67, 68, 69, 70, 71, 72, 73, 74, 75, 76, 77, 78, 79, 80, 81, 82, 83, 84, 85, 86, 87, 88, 89, 90, 91, 92, 93, 94, 95, 96, 6, 7, 9, 97, 98, 99, 100, 101, 102, 103, 104, 105, 106, 107, 108, 109, 110, 111, 112, 113, 114, 115, 116, 117, 118, 119, 120, 121, 122, 123, 124, 161, 162, 163, 164, 165, 166, 167, 168, 169, 170, 171, 172, 173, 174, 175, 176, 177, 178, 179, 180, 181, 182, 183, 184, 185, 186, 187, 188, 189, 190, 191, 192, 193, 194, 195, 196, 197, 198, 199, 200, 201, 202, 203, 204, 205, 206, 207, 208, 209, 210, 211, 212, 213, 214, 215, 216] rfl (by decide +kernel)
set_option maxRecDepth 20000 in
theorem gX10_years_X10_canTurn : GoodIn wsX10_years (wsV RX10 353 RX10 yX10_canTurn wsX10_canTurn) := goodIn_app (goodIn_of _ (by decide +kernel)) ggX10_years_X10_canTurn
set_option maxRecDepth 20000 in
theorem ggX10_years_X10_turns : GoodIn wsX10_years wsX10_turns := goodIn_r _ [128, 4, 36, 37, 38, 8, 39, 16, 17, 18, 19, 40, 41, 42, 43, 44, 45, 46, 47, 48, 129, 130, 131, 132, 53, 54, 55, 56, 57, 58, 59, 60, 61, 62, 63, 64, 65, 66, 67, 68, 69, 70, 71, 72, 73, 74, 75, 76, 77, 78, 79, 80, 81, 82, 83, 84, 85, 86, 87, 88, 89, 90, 91, 92, 93, 94, 95, 96, 6, 7, 9, 97, 98, 99, 100, 101, 102, 103, 104, 105, 106, 107, 108, 109, 110, 111, 112, 113, 114, 115, 116, 117, 118, 119, 120, 121, 122, 123, 124, 133, 134, 135, 136, 137, 138, 139, 161, 162, 163, 164, 165, 166, 167, 168, 169, 170, 171, 172, 173, 174, 175, 176, 177, 178, 179, 180, 181, 182, 183, 184, 185, 186, 187, 188, 189, 190, 191, 192, 193, 194, 195, 196, 197, 198, 199, 200, 201, 202, 203, 204, 205, 206, 207, 208, 209, 210, 211, 212, 213, 214, 215, 216] rfl (by decide +kernel)
set_option maxRecDepth 20000 in
theorem gX10_years_X10_turns : GoodIn wsX10_years (wsV RX10 359 RX10 yX10_turns wsX10_turns) := goodIn_app (goodIn_of _ (by decide +kernel)) ggX10_years_X10_turns
set_option maxRecDepth 20000 in
theorem ggX10_years_X10_isPlace : GoodIn wsX10_years wsX10_isPlace := goodIn_r _ [96, 16, 17, 18, 8, 19, 4, 6, 7, 9, 161, 162, 163, 164, 165, 166, 167, 168, 169, 170, 171, 172, 173, 174, 175, 176, 177, 178, 179, 180, 181, 182, 183, 184, 185, 186, 187, 188, 189, 190, 191, 192, 193, 194, 195, 196, 197, 198, 199, 200, 201, 202, 203, 204, 205, 206, 207, 208, 209, 210, 211, 212, 213, 214, 215, 216] rfl (by decide +kernel)
set_option maxRecDepth 20000 in
theorem gX10_years_X10_isPlace : GoodIn wsX10_years (wsV RX10 143 RX10 yX10_isPlace wsX10_isPlace) := goodIn_app (goodIn_of _ (by decide +kernel)) ggX10_years_X10_isPlace
set_option maxRecDepth 20000 in
theorem ggX10_years_X10_yearPasses : GoodIn wsX10_years wsX10_yearPasses := goodIn_r _ [143, 144, 4, 16, 17, 18, 8, 19, 145, 146, 147, 148, 149, 150, 151, 152, 44, 45, 46, 47, 48, 49, 50, 51, 52, 53, 54, 55, 56, 57, 58, 59, 60, 61, 62, 63, 64, 65, 66, 67, 68, 69, 70, 71, 72, 73, 74, 75, 76, 77, 78, 79, 80, 81, 82, 83, 84, 85, 86, 87, 88, 89, 90, 91, 92, 93, 94, 95, 96, 6, 7, 9, 97, 98, 99, 100, 101, 102, 103, 104, 105, 106, 107, 108, 109, 110, 111, 112, 113, 114, 115, 116, 117, 118, 119, 120, 121, 122, 123, 124, 161, 162, 163, 164, 165, 166, 167, 168, 169, 170, 171, 172, 173, 174, 175, 176, 177, 178, 179, 180, 181, 182, 183, 184, 185, 186, 187, 188, 189, 190, 191, 192, 193, 194, 195, 196, 197, 198, 199, 200, 201, 202, 203, 204, 205, 206, 207, 208, 209, 210, 211, 212, 213, 214, 215, 216] rfl (by decide +kernel)
set_option maxRecDepth 20000 in
theorem gX10_years_X10_yearPasses : GoodIn wsX10_years (wsV RX10 362 RX10 yX10_yearPasses wsX10_yearPasses) := goodIn_app (goodIn_of _ (by decide +kernel)) ggX10_years_X10_yearPasses
set_option maxRecDepth 20000 in
theorem ggX10_years_X10_takesBack : GoodIn wsX10_years wsX10_takesBack := goodIn_r _ [156, 4, 24, 161, 162, 163, 164, 165, 166, 167, 168, 169, 170, 171, 172, 173, 174, 175, 176, 177, 178, 179, 180, 181, 182, 183, 184, 185, 186, 187, 188, 189, 190, 191, 192, 193, 194, 195, 196, 197, 198, 199, 200, 201, 202, 203, 204, 205, 206, 207, 208, 209, 210, 211, 212, 213, 214, 215, 216] rfl (by decide +kernel)
set_option maxRecDepth 20000 in
theorem gX10_years_X10_takesBack : GoodIn wsX10_years (wsV RX10 481 RX10 yX10_takesBack wsX10_takesBack) := goodIn_app (goodIn_of _ (by decide +kernel)) ggX10_years_X10_takesBack
set_option maxRecDepth 20000 in
theorem ggX10_years_X10_good : GoodIn wsX10_years wsX10_good := goodIn_r _ [160, 14, 161, 162, 163, 164, 165, 166, 167, 168, 169, 170, 171, 172, 173, 174, 175, 176, 177, 178, 179, 180, 181, 182, 183, 184, 185, 186, 187, 188, 189, 190, 191, 192, 193, 194, 195, 196, 197, 198, 199, 200, 201, 202, 203, 204, 205, 206, 207, 208, 209, 210, 211, 212, 213, 214, 215, 216] rfl (by decide +kernel)
set_option maxRecDepth 20000 in
theorem gX10_years_X10_good : GoodIn wsX10_years (wsV RX10 14 RX10 yX10_good wsX10_good) := goodIn_app (goodIn_of _ (by decide +kernel)) ggX10_years_X10_good
theorem da9_dX10_years_0 : (decode cX10_years 0 = .ok (.iload_n 1, 1)) ∧ (decode cX10_years 1 = .ok (.iconst 0, 1)) ∧ (decode cX10_years 2 = .ok (.ldc 188, 2)) ∧ (decode cX10_years 4 = .ok (.invokestatic 18, 3)) ∧ (decode cX10_years 7 = .ok (.ifCond .eq 13, 3)) ∧ (decode cX10_years 10 = .ok (.iload_n 2, 1)) ∧ (decode cX10_years 11 = .ok (.iconst 1, 1)) ∧ (decode cX10_years 12 = .ok (.bipush 60, 2)) ∧ (decode cX10_years 14 = .ok (.invokestatic 18, 3)) ∧ (decode cX10_years 17 = .ok (.ifCond .ne 9, 3)) ∧ (decode cX10_years 20 = .ok (.aload_n 0, 1)) ∧ (decode cX10_years 21 = .ok (.iconst (-1), 1)) ∧ (decode cX10_years 22 = .ok (.invokevirtual 119, 3)) ∧ (decode cX10_years 25 = .ok (.ireturn, 1)) ∧ (decode cX10_years 26 = .ok (.aload_n 0, 1)) ∧ (decode cX10_years 27 = .ok (.invokevirtual 125, 3)) := by decide +kernel
theorem dX10_years_0 : decode cX10_years 0 = .ok (.iload_n 1, 1) := da9_dX10_years_0.1
theorem dX10_years_1 : decode cX10_years 1 = .ok (.iconst 0, 1) := da9_dX10_years_0.2.1
theorem dX10_years_2 : decode cX10_years 2 = .ok (.ldc 188, 2) := da9_dX10_years_0.2.2.1
theorem dX10_years_4 : decode cX10_years 4 = .ok (.invokestatic 18, 3) := da9_dX10_years_0.2.2.2.1
theorem dX10_years_7 : decode cX10_years 7 = .ok (.ifCond .eq 13, 3) := da9_dX10_years_0.2.2.2.2.1
theorem dX10_years_10 : decode cX10_years 10 = .ok (.iload_n 2, 1) := da9_dX10_years_0.2.2.2.2.2.1
theorem dX10_years_11 : decode cX10_years 11 = .ok (.iconst 1, 1) := da9_dX10_years_0.2.2.2.2.2.2.1
theorem dX10_years_12 : decode cX10_years 12 = .ok (.bipush 60, 2) := da9_dX10_years_0.2.2.2.2.2.2.2.1
theorem dX10_years_14 : decode cX10_years 14 = .ok (.invokestatic 18, 3) := da9_dX10_years_0.2.2.2.2.2.2.2.2.1
theorem dX10_years_17 : decode cX10_years 17 = .ok (.ifCond .ne 9, 3) := da9_dX10_years_0.2.2.2.2.2.2.2.2.2.1
theorem dX10_years_20 : decode cX10_years 20 = .ok (.aload_n 0, 1) := da9_dX10_years_0.2.2.2.2.2.2.2.2.2.2.1
theorem dX10_years_21 : decode cX10_years 21 = .ok (.iconst (-1), 1) := da9_dX10_years_0.2.2.2.2.2.2.2.2.2.2.2.1
theorem dX10_years_22 : decode cX10_years 22 = .ok (.invokevirtual 119, 3) := da9_dX10_years_0.2.2.2.2.2.2.2.2.2.2.2.2.1
theorem dX10_years_25 : decode cX10_years 25 = .ok (.ireturn, 1) := da9_dX10_years_0.2.2.2.2.2.2.2.2.2.2.2.2.2.1
theorem dX10_years_26 : decode cX10_years 26 = .ok (.aload_n 0, 1) := da9_dX10_years_0.2.2.2.2.2.2.2.2.2.2.2.2.2.2.1
theorem dX10_years_27 : decode cX10_years 27 = .ok (.invokevirtual 125, 3) := da9_dX10_years_0.2.2.2.2.2.2.2.2.2.2.2.2.2.2.2
theorem da9_dX10_years_30 : (decode cX10_years 30 = .ok (.ifCond .ne 10, 3)) ∧ (decode cX10_years 33 = .ok (.aload_n 0, 1)) ∧ (decode cX10_years 34 = .ok (.bipush (-3), 2)) ∧ (decode cX10_years 36 = .ok (.invokevirtual 119, 3)) ∧ (decode cX10_years 39 = .ok (.ireturn, 1)) ∧ (decode cX10_years 40 = .ok (.aload_n 0, 1)) ∧ (decode cX10_years 41 = .ok (.iload_n 1, 1)) ∧ (decode cX10_years 42 = .ok (.putfield 515, 3)) ∧ (decode cX10_years 45 = .ok (.aload_n 0, 1)) ∧ (decode cX10_years 46 = .ok (.aload_n 0, 1)) ∧ (decode cX10_years 47 = .ok (.invokevirtual 125, 3)) ∧ (decode cX10_years 50 = .ok (.putfield 116, 3)) ∧ (decode cX10_years 53 = .ok (.aload_n 0, 1)) ∧ (decode cX10_years 54 = .ok (.iconst 0, 1)) ∧ (decode cX10_years 55 = .ok (.invokevirtual 472, 3)) ∧ (decode cX10_years 58 = .ok (.aload_n 0, 1)) := by decide +kernel
theorem dX10_years_30 : decode cX10_years 30 = .ok (.ifCond .ne 10, 3) := da9_dX10_years_30.1
theorem dX10_years_33 : decode cX10_years 33 = .ok (.aload_n 0, 1) := da9_dX10_years_30.2.1
theorem dX10_years_34 : decode cX10_years 34 = .ok (.bipush (-3), 2) := da9_dX10_years_30.2.2.1
theorem dX10_years_36 : decode cX10_years 36 = .ok (.invokevirtual 119, 3) := da9_dX10_years_30.2.2.2.1
theorem dX10_years_39 : decode cX10_years 39 = .ok (.ireturn, 1) := da9_dX10_years_30.2.2.2.2.1
theorem dX10_years_40 : decode cX10_years 40 = .ok (.aload_n 0, 1) := da9_dX10_years_30.2.2.2.2.2.1
theorem dX10_years_41 : decode cX10_years 41 = .ok (.iload_n 1, 1) := da9_dX10_years_30.2.2.2.2.2.2.1
theorem dX10_years_42 : decode cX10_years 42 = .ok (.putfield 515, 3) := da9_dX10_years_30.2.2.2.2.2.2.2.1
theorem dX10_years_45 : decode cX10_years 45 = .ok (.aload_n 0, 1) := da9_dX10_years_30.2.2.2.2.2.2.2.2.1
theorem dX10_years_46 : decode cX10_years 46 = .ok (.aload_n 0, 1) := da9_dX10_years_30.2.2.2.2.2.2.2.2.2.1
theorem dX10_years_47 : decode cX10_years 47 = .ok (.invokevirtual 125, 3) := da9_dX10_years_30.2.2.2.2.2.2.2.2.2.2.1
theorem dX10_years_50 : decode cX10_years 50 = .ok (.putfield 116, 3) := da9_dX10_years_30.2.2.2.2.2.2.2.2.2.2.2.1
theorem dX10_years_53 : decode cX10_years 53 = .ok (.aload_n 0, 1) := da9_dX10_years_30.2.2.2.2.2.2.2.2.2.2.2.2.1
theorem dX10_years_54 : decode cX10_years 54 = .ok (.iconst 0, 1) := da9_dX10_years_30.2.2.2.2.2.2.2.2.2.2.2.2.2.1
theorem dX10_years_55 : decode cX10_years 55 = .ok (.invokevirtual 472, 3) := da9_dX10_years_30.2.2.2.2.2.2.2.2.2.2.2.2.2.2.1
theorem dX10_years_58 : decode cX10_years 58 = .ok (.aload_n 0, 1) := da9_dX10_years_30.2.2.2.2.2.2.2.2.2.2.2.2.2.2.2
theorem da9_dX10_years_59 : (decode cX10_years 59 = .ok (.getfield 28, 3)) ∧ (decode cX10_years 62 = .ok (.bipush 12, 2)) ∧ (decode cX10_years 64 = .ok (.iaload, 1)) ∧ (decode cX10_years 65 = .ok (.istore_n 3, 1)) ∧ (decode cX10_years 66 = .ok (.iconst 0, 1)) ∧ (decode cX10_years 67 = .ok (.istore 4, 2)) ∧ (decode cX10_years 69 = .ok (.iload 4, 2)) ∧ (decode cX10_years 71 = .ok (.iload_n 2, 1)) ∧ (decode cX10_years 72 = .ok (.if_icmp .ge 105, 3)) ∧ (decode cX10_years 75 = .ok (.aload_n 0, 1)) ∧ (decode cX10_years 76 = .ok (.getfield 28, 3)) ∧ (decode cX10_years 79 = .ok (.bipush 13, 2)) ∧ (decode cX10_years 81 = .ok (.iaload, 1)) ∧ (decode cX10_years 82 = .ok (.sipush 999, 3)) ∧ (decode cX10_years 85 = .ok (.if_icmp .ge 92, 3)) ∧ (decode cX10_years 88 = .ok (.aload_n 0, 1)) := by decide +kernel
theorem dX10_years_59 : decode cX10_years 59 = .ok (.getfield 28, 3) := da9_dX10_years_59.1
theorem dX10_years_62 : decode cX10_years 62 = .ok (.bipush 12, 2) := da9_dX10_years_59.2.1
theorem dX10_years_64 : decode cX10_years 64 = .ok (.iaload, 1) := da9_dX10_years_59.2.2.1
theorem dX10_years_65 : decode cX10_years 65 = .ok (.istore_n 3, 1) := da9_dX10_years_59.2.2.2.1
theorem dX10_years_66 : decode cX10_years 66 = .ok (.iconst 0, 1) := da9_dX10_years_59.2.2.2.2.1
theorem dX10_years_67 : decode cX10_years 67 = .ok (.istore 4, 2) := da9_dX10_years_59.2.2.2.2.2.1
theorem dX10_years_69 : decode cX10_years 69 = .ok (.iload 4, 2) := da9_dX10_years_59.2.2.2.2.2.2.1
theorem dX10_years_71 : decode cX10_years 71 = .ok (.iload_n 2, 1) := da9_dX10_years_59.2.2.2.2.2.2.2.1
theorem dX10_years_72 : decode cX10_years 72 = .ok (.if_icmp .ge 105, 3) := da9_dX10_years_59.2.2.2.2.2.2.2.2.1
theorem dX10_years_75 : decode cX10_years 75 = .ok (.aload_n 0, 1) := da9_dX10_years_59.2.2.2.2.2.2.2.2.2.1
theorem dX10_years_76 : decode cX10_years 76 = .ok (.getfield 28, 3) := da9_dX10_years_59.2.2.2.2.2.2.2.2.2.2.1
theorem dX10_years_79 : decode cX10_years 79 = .ok (.bipush 13, 2) := da9_dX10_years_59.2.2.2.2.2.2.2.2.2.2.2.1
theorem dX10_years_81 : decode cX10_years 81 = .ok (.iaload, 1) := da9_dX10_years_59.2.2.2.2.2.2.2.2.2.2.2.2.1
theorem dX10_years_82 : decode cX10_years 82 = .ok (.sipush 999, 3) := da9_dX10_years_59.2.2.2.2.2.2.2.2.2.2.2.2.2.1
theorem dX10_years_85 : decode cX10_years 85 = .ok (.if_icmp .ge 92, 3) := da9_dX10_years_59.2.2.2.2.2.2.2.2.2.2.2.2.2.2.1
theorem dX10_years_88 : decode cX10_years 88 = .ok (.aload_n 0, 1) := da9_dX10_years_59.2.2.2.2.2.2.2.2.2.2.2.2.2.2.2
theorem da9_dX10_years_89 : (decode cX10_years 89 = .ok (.bipush 6, 2)) ∧ (decode cX10_years 91 = .ok (.invokevirtual 522, 3)) ∧ (decode cX10_years 94 = .ok (.istore 5, 2)) ∧ (decode cX10_years 96 = .ok (.aload_n 0, 1)) ∧ (decode cX10_years 97 = .ok (.iconst 3, 1)) ∧ (decode cX10_years 98 = .ok (.invokevirtual 522, 3)) ∧ (decode cX10_years 101 = .ok (.istore 6, 2)) ∧ (decode cX10_years 103 = .ok (.iload 6, 2)) ∧ (decode cX10_years 105 = .ok (.iconst 2, 1)) ∧ (decode cX10_years 106 = .ok (.if_icmp .ge 23, 3)) ∧ (decode cX10_years 109 = .ok (.aload_n 0, 1)) ∧ (decode cX10_years 110 = .ok (.iload 5, 2)) ∧ (decode cX10_years 112 = .ok (.iconst 1, 1)) ∧ (decode cX10_years 113 = .ok (.iadd, 1)) ∧ (decode cX10_years 114 = .ok (.invokevirtual 353, 3)) ∧ (decode cX10_years 117 = .ok (.ifCond .eq 12, 3)) := by decide +kernel
theorem dX10_years_89 : decode cX10_years 89 = .ok (.bipush 6, 2) := da9_dX10_years_89.1
theorem dX10_years_91 : decode cX10_years 91 = .ok (.invokevirtual 522, 3) := da9_dX10_years_89.2.1
theorem dX10_years_94 : decode cX10_years 94 = .ok (.istore 5, 2) := da9_dX10_years_89.2.2.1
theorem dX10_years_96 : decode cX10_years 96 = .ok (.aload_n 0, 1) := da9_dX10_years_89.2.2.2.1
theorem dX10_years_97 : decode cX10_years 97 = .ok (.iconst 3, 1) := da9_dX10_years_89.2.2.2.2.1
theorem dX10_years_98 : decode cX10_years 98 = .ok (.invokevirtual 522, 3) := da9_dX10_years_89.2.2.2.2.2.1
theorem dX10_years_101 : decode cX10_years 101 = .ok (.istore 6, 2) := da9_dX10_years_89.2.2.2.2.2.2.1
theorem dX10_years_103 : decode cX10_years 103 = .ok (.iload 6, 2) := da9_dX10_years_89.2.2.2.2.2.2.2.1
theorem dX10_years_105 : decode cX10_years 105 = .ok (.iconst 2, 1) := da9_dX10_years_89.2.2.2.2.2.2.2.2.1
theorem dX10_years_106 : decode cX10_years 106 = .ok (.if_icmp .ge 23, 3) := da9_dX10_years_89.2.2.2.2.2.2.2.2.2.1
theorem dX10_years_109 : decode cX10_years 109 = .ok (.aload_n 0, 1) := da9_dX10_years_89.2.2.2.2.2.2.2.2.2.2.1
theorem dX10_years_110 : decode cX10_years 110 = .ok (.iload 5, 2) := da9_dX10_years_89.2.2.2.2.2.2.2.2.2.2.2.1
theorem dX10_years_112 : decode cX10_years 112 = .ok (.iconst 1, 1) := da9_dX10_years_89.2.2.2.2.2.2.2.2.2.2.2.2.1
theorem dX10_years_113 : decode cX10_years 113 = .ok (.iadd, 1) := da9_dX10_years_89.2.2.2.2.2.2.2.2.2.2.2.2.2.1
theorem dX10_years_114 : decode cX10_years 114 = .ok (.invokevirtual 353, 3) := da9_dX10_years_89.2.2.2.2.2.2.2.2.2.2.2.2.2.2.1
theorem dX10_years_117 : decode cX10_years 117 = .ok (.ifCond .eq 12, 3) := da9_dX10_years_89.2.2.2.2.2.2.2.2.2.2.2.2.2.2.2
theorem da9_dX10_years_120 : (decode cX10_years 120 = .ok (.aload_n 0, 1)) ∧ (decode cX10_years 121 = .ok (.iload 5, 2)) ∧ (decode cX10_years 123 = .ok (.iconst 1, 1)) ∧ (decode cX10_years 124 = .ok (.iadd, 1)) ∧ (decode cX10_years 125 = .ok (.invokevirtual 359, 3)) ∧ (decode cX10_years 128 = .ok (.pop, 1)) ∧ (decode cX10_years 129 = .ok (.iload 6, 2)) ∧ (decode cX10_years 131 = .ok (.iconst 2, 1)) ∧ (decode cX10_years 132 = .ok (.if_icmp .ne 34, 3)) ∧ (decode cX10_years 135 = .ok (.aload_n 0, 1)) ∧ (decode cX10_years 136 = .ok (.iload 5, 2)) ∧ (decode cX10_years 138 = .ok (.invokevirtual 143, 3)) ∧ (decode cX10_years 141 = .ok (.ifCond .eq 25, 3)) ∧ (decode cX10_years 144 = .ok (.aload_n 0, 1)) ∧ (decode cX10_years 145 = .ok (.getfield 28, 3)) ∧ (decode cX10_years 148 = .ok (.bipush 6, 2)) := by decide +kernel
theorem dX10_years_120 : decode cX10_years 120 = .ok (.aload_n 0, 1) := da9_dX10_years_120.1
theorem dX10_years_121 : decode cX10_years 121 = .ok (.iload 5, 2) := da9_dX10_years_120.2.1
theorem dX10_years_123 : decode cX10_years 123 = .ok (.iconst 1, 1) := da9_dX10_years_120.2.2.1
theorem dX10_years_124 : decode cX10_years 124 = .ok (.iadd, 1) := da9_dX10_years_120.2.2.2.1
theorem dX10_years_125 : decode cX10_years 125 = .ok (.invokevirtual 359, 3) := da9_dX10_years_120.2.2.2.2.1
theorem dX10_years_128 : decode cX10_years 128 = .ok (.pop, 1) := da9_dX10_years_120.2.2.2.2.2.1
theorem dX10_years_129 : decode cX10_years 129 = .ok (.iload 6, 2) := da9_dX10_years_120.2.2.2.2.2.2.1
theorem dX10_years_131 : decode cX10_years 131 = .ok (.iconst 2, 1) := da9_dX10_years_120.2.2.2.2.2.2.2.1
theorem dX10_years_132 : decode cX10_years 132 = .ok (.if_icmp .ne 34, 3) := da9_dX10_years_120.2.2.2.2.2.2.2.2.1
theorem dX10_years_135 : decode cX10_years 135 = .ok (.aload_n 0, 1) := da9_dX10_years_120.2.2.2.2.2.2.2.2.2.1
theorem dX10_years_136 : decode cX10_years 136 = .ok (.iload 5, 2) := da9_dX10_years_120.2.2.2.2.2.2.2.2.2.2.1
theorem dX10_years_138 : decode cX10_years 138 = .ok (.invokevirtual 143, 3) := da9_dX10_years_120.2.2.2.2.2.2.2.2.2.2.2.1
theorem dX10_years_141 : decode cX10_years 141 = .ok (.ifCond .eq 25, 3) := da9_dX10_years_120.2.2.2.2.2.2.2.2.2.2.2.2.1
theorem dX10_years_144 : decode cX10_years 144 = .ok (.aload_n 0, 1) := da9_dX10_years_120.2.2.2.2.2.2.2.2.2.2.2.2.2.1
theorem dX10_years_145 : decode cX10_years 145 = .ok (.getfield 28, 3) := da9_dX10_years_120.2.2.2.2.2.2.2.2.2.2.2.2.2.2.1
theorem dX10_years_148 : decode cX10_years 148 = .ok (.bipush 6, 2) := da9_dX10_years_120.2.2.2.2.2.2.2.2.2.2.2.2.2.2.2
theorem da9_dX10_years_150 : (decode cX10_years 150 = .ok (.iload 5, 2)) ∧ (decode cX10_years 152 = .ok (.iadd, 1)) ∧ (decode cX10_years 153 = .ok (.iconst 1, 1)) ∧ (decode cX10_years 154 = .ok (.aload_n 0, 1)) ∧ (decode cX10_years 155 = .ok (.getfield 28, 3)) ∧ (decode cX10_years 158 = .ok (.bipush 6, 2)) ∧ (decode cX10_years 160 = .ok (.iload 5, 2)) ∧ (decode cX10_years 162 = .ok (.iadd, 1)) ∧ (decode cX10_years 163 = .ok (.iaload, 1)) ∧ (decode cX10_years 164 = .ok (.isub, 1)) ∧ (decode cX10_years 165 = .ok (.iastore, 1)) ∧ (decode cX10_years 166 = .ok (.aload_n 0, 1)) ∧ (decode cX10_years 167 = .ok (.invokevirtual 362, 3)) ∧ (decode cX10_years 170 = .ok (.pop, 1)) ∧ (decode cX10_years 171 = .ok (.iinc 4 1, 3)) ∧ (decode cX10_years 174 = .ok (.goto (-105), 3)) := by decide +kernel
theorem dX10_years_150 : decode cX10_years 150 = .ok (.iload 5, 2) := da9_dX10_years_150.1
theorem dX10_years_152 : decode cX10_years 152 = .ok (.iadd, 1) := da9_dX10_years_150.2.1
theorem dX10_years_153 : decode cX10_years 153 = .ok (.iconst 1, 1) := da9_dX10_years_150.2.2.1
theorem dX10_years_154 : decode cX10_years 154 = .ok (.aload_n 0, 1) := da9_dX10_years_150.2.2.2.1
theorem dX10_years_155 : decode cX10_years 155 = .ok (.getfield 28, 3) := da9_dX10_years_150.2.2.2.2.1
theorem dX10_years_158 : decode cX10_years 158 = .ok (.bipush 6, 2) := da9_dX10_years_150.2.2.2.2.2.1
theorem dX10_years_160 : decode cX10_years 160 = .ok (.iload 5, 2) := da9_dX10_years_150.2.2.2.2.2.2.1
theorem dX10_years_162 : decode cX10_years 162 = .ok (.iadd, 1) := da9_dX10_years_150.2.2.2.2.2.2.2.1
theorem dX10_years_163 : decode cX10_years 163 = .ok (.iaload, 1) := da9_dX10_years_150.2.2.2.2.2.2.2.2.1
theorem dX10_years_164 : decode cX10_years 164 = .ok (.isub, 1) := da9_dX10_years_150.2.2.2.2.2.2.2.2.2.1
theorem dX10_years_165 : decode cX10_years 165 = .ok (.iastore, 1) := da9_dX10_years_150.2.2.2.2.2.2.2.2.2.2.1
theorem dX10_years_166 : decode cX10_years 166 = .ok (.aload_n 0, 1) := da9_dX10_years_150.2.2.2.2.2.2.2.2.2.2.2.1
theorem dX10_years_167 : decode cX10_years 167 = .ok (.invokevirtual 362, 3) := da9_dX10_years_150.2.2.2.2.2.2.2.2.2.2.2.2.1
theorem dX10_years_170 : decode cX10_years 170 = .ok (.pop, 1) := da9_dX10_years_150.2.2.2.2.2.2.2.2.2.2.2.2.2.1
theorem dX10_years_171 : decode cX10_years 171 = .ok (.iinc 4 1, 3) := da9_dX10_years_150.2.2.2.2.2.2.2.2.2.2.2.2.2.2.1
theorem dX10_years_174 : decode cX10_years 174 = .ok (.goto (-105), 3) := da9_dX10_years_150.2.2.2.2.2.2.2.2.2.2.2.2.2.2.2
theorem da9_dX10_years_177 : (decode cX10_years 177 = .ok (.aload_n 0, 1)) ∧ (decode cX10_years 178 = .ok (.getfield 28, 3)) ∧ (decode cX10_years 181 = .ok (.bipush 12, 2)) ∧ (decode cX10_years 183 = .ok (.iaload, 1)) ∧ (decode cX10_years 184 = .ok (.iload_n 3, 1)) ∧ (decode cX10_years 185 = .ok (.isub, 1)) ∧ (decode cX10_years 186 = .ok (.istore 4, 2)) ∧ (decode cX10_years 188 = .ok (.iconst 0, 1)) ∧ (decode cX10_years 189 = .ok (.istore 5, 2)) ∧ (decode cX10_years 191 = .ok (.iload 5, 2)) ∧ (decode cX10_years 193 = .ok (.bipush 14, 2)) ∧ (decode cX10_years 195 = .ok (.if_icmp .ge 23, 3)) ∧ (decode cX10_years 198 = .ok (.aload_n 0, 1)) ∧ (decode cX10_years 199 = .ok (.getfield 113, 3)) ∧ (decode cX10_years 202 = .ok (.iload 5, 2)) ∧ (decode cX10_years 204 = .ok (.aload_n 0, 1)) := by decide +kernel
theorem dX10_years_177 : decode cX10_years 177 = .ok (.aload_n 0, 1) := da9_dX10_years_177.1
theorem dX10_years_178 : decode cX10_years 178 = .ok (.getfield 28, 3) := da9_dX10_years_177.2.1
theorem dX10_years_181 : decode cX10_years 181 = .ok (.bipush 12, 2) := da9_dX10_years_177.2.2.1
theorem dX10_years_183 : decode cX10_years 183 = .ok (.iaload, 1) := da9_dX10_years_177.2.2.2.1
theorem dX10_years_184 : decode cX10_years 184 = .ok (.iload_n 3, 1) := da9_dX10_years_177.2.2.2.2.1
theorem dX10_years_185 : decode cX10_years 185 = .ok (.isub, 1) := da9_dX10_years_177.2.2.2.2.2.1
theorem dX10_years_186 : decode cX10_years 186 = .ok (.istore 4, 2) := da9_dX10_years_177.2.2.2.2.2.2.1
theorem dX10_years_188 : decode cX10_years 188 = .ok (.iconst 0, 1) := da9_dX10_years_177.2.2.2.2.2.2.2.1
theorem dX10_years_189 : decode cX10_years 189 = .ok (.istore 5, 2) := da9_dX10_years_177.2.2.2.2.2.2.2.2.1
theorem dX10_years_191 : decode cX10_years 191 = .ok (.iload 5, 2) := da9_dX10_years_177.2.2.2.2.2.2.2.2.2.1
theorem dX10_years_193 : decode cX10_years 193 = .ok (.bipush 14, 2) := da9_dX10_years_177.2.2.2.2.2.2.2.2.2.2.1
theorem dX10_years_195 : decode cX10_years 195 = .ok (.if_icmp .ge 23, 3) := da9_dX10_years_177.2.2.2.2.2.2.2.2.2.2.2.1
theorem dX10_years_198 : decode cX10_years 198 = .ok (.aload_n 0, 1) := da9_dX10_years_177.2.2.2.2.2.2.2.2.2.2.2.2.1
theorem dX10_years_199 : decode cX10_years 199 = .ok (.getfield 113, 3) := da9_dX10_years_177.2.2.2.2.2.2.2.2.2.2.2.2.2.1
theorem dX10_years_202 : decode cX10_years 202 = .ok (.iload 5, 2) := da9_dX10_years_177.2.2.2.2.2.2.2.2.2.2.2.2.2.2.1
theorem dX10_years_204 : decode cX10_years 204 = .ok (.aload_n 0, 1) := da9_dX10_years_177.2.2.2.2.2.2.2.2.2.2.2.2.2.2.2
theorem da9_dX10_years_205 : (decode cX10_years 205 = .ok (.getfield 28, 3)) ∧ (decode cX10_years 208 = .ok (.iload 5, 2)) ∧ (decode cX10_years 210 = .ok (.iaload, 1)) ∧ (decode cX10_years 211 = .ok (.iastore, 1)) ∧ (decode cX10_years 212 = .ok (.iinc 5 1, 3)) ∧ (decode cX10_years 215 = .ok (.goto (-24), 3)) ∧ (decode cX10_years 218 = .ok (.aload_n 0, 1)) ∧ (decode cX10_years 219 = .ok (.iconst 0, 1)) ∧ (decode cX10_years 220 = .ok (.invokevirtual 481, 3)) ∧ (decode cX10_years 223 = .ok (.aload_n 0, 1)) ∧ (decode cX10_years 224 = .ok (.iload 4, 2)) ∧ (decode cX10_years 226 = .ok (.invokevirtual 14, 3)) ∧ (decode cX10_years 229 = .ok (.ireturn, 1)) := by decide +kernel
theorem dX10_years_205 : decode cX10_years 205 = .ok (.getfield 28, 3) := da9_dX10_years_205.1
theorem dX10_years_208 : decode cX10_years 208 = .ok (.iload 5, 2) := da9_dX10_years_205.2.1
theorem dX10_years_210 : decode cX10_years 210 = .ok (.iaload, 1) := da9_dX10_years_205.2.2.1
theorem dX10_years_211 : decode cX10_years 211 = .ok (.iastore, 1) := da9_dX10_years_205.2.2.2.1
theorem dX10_years_212 : decode cX10_years 212 = .ok (.iinc 5 1, 3) := da9_dX10_years_205.2.2.2.2.1
theorem dX10_years_215 : decode cX10_years 215 = .ok (.goto (-24), 3) := da9_dX10_years_205.2.2.2.2.2.1
theorem dX10_years_218 : decode cX10_years 218 = .ok (.aload_n 0, 1) := da9_dX10_years_205.2.2.2.2.2.2.1
theorem dX10_years_219 : decode cX10_years 219 = .ok (.iconst 0, 1) := da9_dX10_years_205.2.2.2.2.2.2.2.1
theorem dX10_years_220 : decode cX10_years 220 = .ok (.invokevirtual 481, 3) := da9_dX10_years_205.2.2.2.2.2.2.2.2.1
theorem dX10_years_223 : decode cX10_years 223 = .ok (.aload_n 0, 1) := da9_dX10_years_205.2.2.2.2.2.2.2.2.2.1
theorem dX10_years_224 : decode cX10_years 224 = .ok (.iload 4, 2) := da9_dX10_years_205.2.2.2.2.2.2.2.2.2.2.1
theorem dX10_years_226 : decode cX10_years 226 = .ok (.invokevirtual 14, 3) := da9_dX10_years_205.2.2.2.2.2.2.2.2.2.2.2.1
theorem dX10_years_229 : decode cX10_years 229 = .ok (.ireturn, 1) := da9_dX10_years_205.2.2.2.2.2.2.2.2.2.2.2.2
set_option maxRecDepth 20000 in
theorem ggX10_drawn_X10_lies : GoodIn wsX10_drawn wsX10_lies := goodIn_r _ [6] rfl (by decide +kernel)
set_option maxRecDepth 20000 in
theorem gX10_drawn_X10_lies : GoodIn wsX10_drawn (va_wsS RX10 18 yX10_lies wsX10_lies) := goodIn_app (goodIn_of _ (by decide +kernel)) ggX10_drawn_X10_lies
set_option maxRecDepth 20000 in
theorem ggX10_drawn_X10_isBit : GoodIn wsX10_drawn wsX10_isBit := goodIn_r _ [9, 3, 4, 5, 6] rfl (by decide +kernel)
set_option maxRecDepth 20000 in
theorem gX10_drawn_X10_isBit : GoodIn wsX10_drawn (va_wsS RX10 133 yX10_isBit wsX10_isBit) := goodIn_app (goodIn_of _ (by decide +kernel)) ggX10_drawn_X10_isBit
theorem da9_dX10_drawn_0 : (decode cX10_drawn 0 = .ok (.iload_n 1, 1)) ∧ (decode cX10_drawn 1 = .ok (.iconst 0, 1)) ∧ (decode cX10_drawn 2 = .ok (.aload_n 0, 1)) ∧ (decode cX10_drawn 3 = .ok (.getfield 116, 3)) ∧ (decode cX10_drawn 6 = .ok (.iconst 1, 1)) ∧ (decode cX10_drawn 7 = .ok (.isub, 1)) ∧ (decode cX10_drawn 8 = .ok (.invokestatic 18, 3)) ∧ (decode cX10_drawn 11 = .ok (.ifCond .eq 10, 3)) ∧ (decode cX10_drawn 14 = .ok (.iload_n 2, 1)) ∧ (decode cX10_drawn 15 = .ok (.invokestatic 133, 3)) ∧ (decode cX10_drawn 18 = .ok (.ifCond .ne 5, 3)) ∧ (decode cX10_drawn 21 = .ok (.iconst (-1), 1)) ∧ (decode cX10_drawn 22 = .ok (.ireturn, 1)) ∧ (decode cX10_drawn 23 = .ok (.aload_n 0, 1)) ∧ (decode cX10_drawn 24 = .ok (.getfield 113, 3)) ∧ (decode cX10_drawn 27 = .ok (.iload_n 2, 1)) := by decide +kernel
theorem dX10_drawn_0 : decode cX10_drawn 0 = .ok (.iload_n 1, 1) := da9_dX10_drawn_0.1
theorem dX10_drawn_1 : decode cX10_drawn 1 = .ok (.iconst 0, 1) := da9_dX10_drawn_0.2.1
theorem dX10_drawn_2 : decode cX10_drawn 2 = .ok (.aload_n 0, 1) := da9_dX10_drawn_0.2.2.1
theorem dX10_drawn_3 : decode cX10_drawn 3 = .ok (.getfield 116, 3) := da9_dX10_drawn_0.2.2.2.1
theorem dX10_drawn_6 : decode cX10_drawn 6 = .ok (.iconst 1, 1) := da9_dX10_drawn_0.2.2.2.2.1
theorem dX10_drawn_7 : decode cX10_drawn 7 = .ok (.isub, 1) := da9_dX10_drawn_0.2.2.2.2.2.1
theorem dX10_drawn_8 : decode cX10_drawn 8 = .ok (.invokestatic 18, 3) := da9_dX10_drawn_0.2.2.2.2.2.2.1
theorem dX10_drawn_11 : decode cX10_drawn 11 = .ok (.ifCond .eq 10, 3) := da9_dX10_drawn_0.2.2.2.2.2.2.2.1
theorem dX10_drawn_14 : decode cX10_drawn 14 = .ok (.iload_n 2, 1) := da9_dX10_drawn_0.2.2.2.2.2.2.2.2.1
theorem dX10_drawn_15 : decode cX10_drawn 15 = .ok (.invokestatic 133, 3) := da9_dX10_drawn_0.2.2.2.2.2.2.2.2.2.1
theorem dX10_drawn_18 : decode cX10_drawn 18 = .ok (.ifCond .ne 5, 3) := da9_dX10_drawn_0.2.2.2.2.2.2.2.2.2.2.1
theorem dX10_drawn_21 : decode cX10_drawn 21 = .ok (.iconst (-1), 1) := da9_dX10_drawn_0.2.2.2.2.2.2.2.2.2.2.2.1
theorem dX10_drawn_22 : decode cX10_drawn 22 = .ok (.ireturn, 1) := da9_dX10_drawn_0.2.2.2.2.2.2.2.2.2.2.2.2.1
theorem dX10_drawn_23 : decode cX10_drawn 23 = .ok (.aload_n 0, 1) := da9_dX10_drawn_0.2.2.2.2.2.2.2.2.2.2.2.2.2.1
theorem dX10_drawn_24 : decode cX10_drawn 24 = .ok (.getfield 113, 3) := da9_dX10_drawn_0.2.2.2.2.2.2.2.2.2.2.2.2.2.2.1
theorem dX10_drawn_27 : decode cX10_drawn 27 = .ok (.iload_n 2, 1) := da9_dX10_drawn_0.2.2.2.2.2.2.2.2.2.2.2.2.2.2.2
theorem da9_dX10_drawn_28 : (decode cX10_drawn 28 = .ok (.ifCond .ne 7, 3)) ∧ (decode cX10_drawn 31 = .ok (.iconst 0, 1)) ∧ (decode cX10_drawn 32 = .ok (.goto 5, 3)) ∧ (decode cX10_drawn 35 = .ok (.bipush 6, 2)) ∧ (decode cX10_drawn 37 = .ok (.iload_n 1, 1)) ∧ (decode cX10_drawn 38 = .ok (.iadd, 1)) ∧ (decode cX10_drawn 39 = .ok (.iaload, 1)) ∧ (decode cX10_drawn 40 = .ok (.ireturn, 1)) := by decide +kernel
theorem dX10_drawn_28 : decode cX10_drawn 28 = .ok (.ifCond .ne 7, 3) := da9_dX10_drawn_28.1
theorem dX10_drawn_31 : decode cX10_drawn 31 = .ok (.iconst 0, 1) := da9_dX10_drawn_28.2.1
theorem dX10_drawn_32 : decode cX10_drawn 32 = .ok (.goto 5, 3) := da9_dX10_drawn_28.2.2.1
theorem dX10_drawn_35 : decode cX10_drawn 35 = .ok (.bipush 6, 2) := da9_dX10_drawn_28.2.2.2.1
theorem dX10_drawn_37 : decode cX10_drawn 37 = .ok (.iload_n 1, 1) := da9_dX10_drawn_28.2.2.2.2.1
theorem dX10_drawn_38 : decode cX10_drawn 38 = .ok (.iadd, 1) := da9_dX10_drawn_28.2.2.2.2.2.1
theorem dX10_drawn_39 : decode cX10_drawn 39 = .ok (.iaload, 1) := da9_dX10_drawn_28.2.2.2.2.2.2.1
theorem dX10_drawn_40 : decode cX10_drawn 40 = .ok (.ireturn, 1) := da9_dX10_drawn_28.2.2.2.2.2.2.2
set_option maxRecDepth 20000 in
theorem ggX10_onHeads_X10_size : GoodIn wsX10_onHeads wsX10_size := goodIn_r _ [6, 1, 7, 8, 9, 10, 11, 12, 13, 14, 15, 16, 17, 18, 19, 20, 21, 22, 23, 24, 25, 26, 27, 28, 29, 30, 31, 32, 33, 34, 35, 36, 37, 38, 39, 40, 41, 42, 43, 44, 45, 46, 47, 48, 49, 50, 51, 52, 53, 54, 55, 56, 57, 58, 59, 60, 61, 62] rfl (by decide +kernel)
set_option maxRecDepth 20000 in
theorem gX10_onHeads_X10_size : GoodIn wsX10_onHeads (wsV RX10 125 RX10 yX10_size wsX10_size) := goodIn_app (goodIn_of _ (by decide +kernel)) ggX10_onHeads_X10_size
theorem da9_dX10_onHeads_0 : (decode cX10_onHeads 0 = .ok (.iconst 0, 1)) ∧ (decode cX10_onHeads 1 = .ok (.istore_n 1, 1)) ∧ (decode cX10_onHeads 2 = .ok (.iconst 0, 1)) ∧ (decode cX10_onHeads 3 = .ok (.istore_n 2, 1)) ∧ (decode cX10_onHeads 4 = .ok (.iload_n 2, 1)) ∧ (decode cX10_onHeads 5 = .ok (.aload_n 0, 1)) ∧ (decode cX10_onHeads 6 = .ok (.invokevirtual 125, 3)) ∧ (decode cX10_onHeads 9 = .ok (.if_icmp .ge 21, 3)) ∧ (decode cX10_onHeads 12 = .ok (.iload_n 1, 1)) ∧ (decode cX10_onHeads 13 = .ok (.aload_n 0, 1)) ∧ (decode cX10_onHeads 14 = .ok (.getfield 28, 3)) ∧ (decode cX10_onHeads 17 = .ok (.bipush 6, 2)) ∧ (decode cX10_onHeads 19 = .ok (.iload_n 2, 1)) ∧ (decode cX10_onHeads 20 = .ok (.iadd, 1)) ∧ (decode cX10_onHeads 21 = .ok (.iaload, 1)) ∧ (decode cX10_onHeads 22 = .ok (.iadd, 1)) := by decide +kernel
theorem dX10_onHeads_0 : decode cX10_onHeads 0 = .ok (.iconst 0, 1) := da9_dX10_onHeads_0.1
theorem dX10_onHeads_1 : decode cX10_onHeads 1 = .ok (.istore_n 1, 1) := da9_dX10_onHeads_0.2.1
theorem dX10_onHeads_2 : decode cX10_onHeads 2 = .ok (.iconst 0, 1) := da9_dX10_onHeads_0.2.2.1
theorem dX10_onHeads_3 : decode cX10_onHeads 3 = .ok (.istore_n 2, 1) := da9_dX10_onHeads_0.2.2.2.1
theorem dX10_onHeads_4 : decode cX10_onHeads 4 = .ok (.iload_n 2, 1) := da9_dX10_onHeads_0.2.2.2.2.1
theorem dX10_onHeads_5 : decode cX10_onHeads 5 = .ok (.aload_n 0, 1) := da9_dX10_onHeads_0.2.2.2.2.2.1
theorem dX10_onHeads_6 : decode cX10_onHeads 6 = .ok (.invokevirtual 125, 3) := da9_dX10_onHeads_0.2.2.2.2.2.2.1
theorem dX10_onHeads_9 : decode cX10_onHeads 9 = .ok (.if_icmp .ge 21, 3) := da9_dX10_onHeads_0.2.2.2.2.2.2.2.1
theorem dX10_onHeads_12 : decode cX10_onHeads 12 = .ok (.iload_n 1, 1) := da9_dX10_onHeads_0.2.2.2.2.2.2.2.2.1
theorem dX10_onHeads_13 : decode cX10_onHeads 13 = .ok (.aload_n 0, 1) := da9_dX10_onHeads_0.2.2.2.2.2.2.2.2.2.1
theorem dX10_onHeads_14 : decode cX10_onHeads 14 = .ok (.getfield 28, 3) := da9_dX10_onHeads_0.2.2.2.2.2.2.2.2.2.2.1
theorem dX10_onHeads_17 : decode cX10_onHeads 17 = .ok (.bipush 6, 2) := da9_dX10_onHeads_0.2.2.2.2.2.2.2.2.2.2.2.1
theorem dX10_onHeads_19 : decode cX10_onHeads 19 = .ok (.iload_n 2, 1) := da9_dX10_onHeads_0.2.2.2.2.2.2.2.2.2.2.2.2.1
theorem dX10_onHeads_20 : decode cX10_onHeads 20 = .ok (.iadd, 1) := da9_dX10_onHeads_0.2.2.2.2.2.2.2.2.2.2.2.2.2.1
theorem dX10_onHeads_21 : decode cX10_onHeads 21 = .ok (.iaload, 1) := da9_dX10_onHeads_0.2.2.2.2.2.2.2.2.2.2.2.2.2.2.1
theorem dX10_onHeads_22 : decode cX10_onHeads 22 = .ok (.iadd, 1) := da9_dX10_onHeads_0.2.2.2.2.2.2.2.2.2.2.2.2.2.2.2
theorem da9_dX10_onHeads_23 : (decode cX10_onHeads 23 = .ok (.istore_n 1, 1)) ∧ (decode cX10_onHeads 24 = .ok (.iinc 2 1, 3)) ∧ (decode cX10_onHeads 27 = .ok (.goto (-23), 3)) ∧ (decode cX10_onHeads 30 = .ok (.iload_n 1, 1)) ∧ (decode cX10_onHeads 31 = .ok (.ireturn, 1)) := by decide +kernel
theorem dX10_onHeads_23 : decode cX10_onHeads 23 = .ok (.istore_n 1, 1) := da9_dX10_onHeads_23.1
theorem dX10_onHeads_24 : decode cX10_onHeads 24 = .ok (.iinc 2 1, 3) := da9_dX10_onHeads_23.2.1
theorem dX10_onHeads_27 : decode cX10_onHeads 27 = .ok (.goto (-23), 3) := da9_dX10_onHeads_23.2.2.1
theorem dX10_onHeads_30 : decode cX10_onHeads 30 = .ok (.iload_n 1, 1) := da9_dX10_onHeads_23.2.2.2.1
theorem dX10_onHeads_31 : decode cX10_onHeads 31 = .ok (.ireturn, 1) := da9_dX10_onHeads_23.2.2.2.2
set_option maxRecDepth 20000 in
theorem ggX10_isOrderedNow_X10_size : GoodIn wsX10_isOrderedNow wsX10_size := goodIn_r _ [5, 6, 14, 15, 16, 17, 18, 19, 20, 21, 22, 23, 24, 25, 26, 27, 28, 29, 30, 31, 32, 33, 34, 35, 36, 37, 38, 39, 40, 41, 42, 43, 44, 45, 46, 47, 48, 49, 50, 51, 52, 53, 54, 55, 56, 57, 58, 59, 60, 61, 62, 63, 64, 65, 66, 67, 68, 69] rfl (by decide +kernel)
set_option maxRecDepth 20000 in
theorem gX10_isOrderedNow_X10_size : GoodIn wsX10_isOrderedNow (wsV RX10 125 RX10 yX10_size wsX10_size) := goodIn_app (goodIn_of _ (by decide +kernel)) ggX10_isOrderedNow_X10_size
set_option maxRecDepth 20000 in
theorem ggX10_isOrderedNow_X10_canStay : GoodIn wsX10_isOrderedNow wsX10_canStay := goodIn_r _ [10, 6, 1, 2, 3, 4, 5, 11, 12, 13, 14, 15, 16, 17, 18, 19, 20, 21, 22, 23, 24, 25, 26, 27, 28, 29, 30, 31, 32, 33, 34, 35, 36, 37, 38, 39, 40, 41, 42, 43, 44, 45, 46, 47, 48, 49, 50, 51, 52, 53, 54, 55, 56, 57, 58, 59, 60, 61, 62, 63, 64, 65, 66, 67, 68, 69] rfl (by decide +kernel)
set_option maxRecDepth 20000 in
theorem gX10_isOrderedNow_X10_canStay : GoodIn wsX10_isOrderedNow (wsV RX10 451 RX10 yX10_canStay wsX10_canStay) := goodIn_app (goodIn_of _ (by decide +kernel)) ggX10_isOrderedNow_X10_canStay
theorem da9_dX10_isOrderedNow_0 : (decode cX10_isOrderedNow 0 = .ok (.aload_n 0, 1)) ∧ (decode cX10_isOrderedNow 1 = .ok (.iconst 1, 1)) ∧ (decode cX10_isOrderedNow 2 = .ok (.aload_n 0, 1)) ∧ (decode cX10_isOrderedNow 3 = .ok (.invokevirtual 125, 3)) ∧ (decode cX10_isOrderedNow 6 = .ok (.ishl, 1)) ∧ (decode cX10_isOrderedNow 7 = .ok (.iconst 1, 1)) ∧ (decode cX10_isOrderedNow 8 = .ok (.isub, 1)) ∧ (decode cX10_isOrderedNow 9 = .ok (.invokevirtual 451, 3)) ∧ (decode cX10_isOrderedNow 12 = .ok (.ireturn, 1)) := by decide +kernel
theorem dX10_isOrderedNow_0 : decode cX10_isOrderedNow 0 = .ok (.aload_n 0, 1) := da9_dX10_isOrderedNow_0.1
theorem dX10_isOrderedNow_1 : decode cX10_isOrderedNow 1 = .ok (.iconst 1, 1) := da9_dX10_isOrderedNow_0.2.1
theorem dX10_isOrderedNow_2 : decode cX10_isOrderedNow 2 = .ok (.aload_n 0, 1) := da9_dX10_isOrderedNow_0.2.2.1
theorem dX10_isOrderedNow_3 : decode cX10_isOrderedNow 3 = .ok (.invokevirtual 125, 3) := da9_dX10_isOrderedNow_0.2.2.2.1
theorem dX10_isOrderedNow_6 : decode cX10_isOrderedNow 6 = .ok (.ishl, 1) := da9_dX10_isOrderedNow_0.2.2.2.2.1
theorem dX10_isOrderedNow_7 : decode cX10_isOrderedNow 7 = .ok (.iconst 1, 1) := da9_dX10_isOrderedNow_0.2.2.2.2.2.1
theorem dX10_isOrderedNow_8 : decode cX10_isOrderedNow 8 = .ok (.isub, 1) := da9_dX10_isOrderedNow_0.2.2.2.2.2.2.1
theorem dX10_isOrderedNow_9 : decode cX10_isOrderedNow 9 = .ok (.invokevirtual 451, 3) := da9_dX10_isOrderedNow_0.2.2.2.2.2.2.2.1
theorem dX10_isOrderedNow_12 : decode cX10_isOrderedNow 12 = .ok (.ireturn, 1) := da9_dX10_isOrderedNow_0.2.2.2.2.2.2.2.2
set_option maxRecDepth 20000 in
theorem ggX10_count_X10_size : GoodIn wsX10_count wsX10_size := goodIn_r _ [9, 1, 28, 29, 30, 31, 32, 33, 34, 35, 36, 37, 38, 39, 40, 41, 42, 43, 44, 45, 46, 47, 48, 49, 50, 51, 52, 53, 54, 55, 56, 57, 58, 59, 60, 61, 62, 63, 64, 65, 66, 67, 68, 69, 70, 71, 72, 73, 74, 75, 76, 77, 78, 79, 80, 81, 82, 83] rfl (by decide +kernel)
set_option maxRecDepth 20000 in
theorem gX10_count_X10_size : GoodIn wsX10_count (wsV RX10 125 RX10 yX10_size wsX10_size) := goodIn_app (goodIn_of _ (by decide +kernel)) ggX10_count_X10_size
set_option maxRecDepth 20000 in
theorem ggX10_count_X10_onHeads : GoodIn wsX10_count wsX10_onHeads := goodIn_r _ [13, 1, 5, 6, 7, 8, 9, 28, 29, 30, 31, 32, 33, 34, 35, 36, 37, 38, 39, 40, 41, 42, 43, 44, 45, 46, 47, 48, 49, 50, 51, 52, 53, 54, 55, 56, 57, 58, 59, 60, 61, 62, 63, 64, 65, 66, 67, 68, 69, 70, 71, 72, 73, 74, 75, 76, 77, 78, 79, 80, 81, 82, 83] rfl (by decide +kernel)
set_option maxRecDepth 20000 in
theorem gX10_count_X10_onHeads : GoodIn wsX10_count (wsV RX10 525 RX10 yX10_onHeads wsX10_onHeads) := goodIn_app (goodIn_of _ (by decide +kernel)) ggX10_count_X10_onHeads
set_option maxRecDepth 20000 in
theorem ggX10_count_X10_termAt : GoodIn wsX10_count wsX10_termAt := goodIn_r _ [16] rfl (by decide +kernel)
set_option maxRecDepth 20000 in
theorem gX10_count_X10_termAt : GoodIn wsX10_count (va_wsS RX10 166 yX10_termAt wsX10_termAt) := goodIn_app (goodIn_of _ (by decide +kernel)) ggX10_count_X10_termAt
set_option maxRecDepth 20000 in
theorem ggX10_count_X10_isOrderedNow : GoodIn wsX10_count wsX10_isOrderedNow := goodIn_r _ [20, 5, 6, 7, 8, 9, 1, 21, 22, 23, 24, 25, 26, 27, 28, 29, 30, 31, 32, 33, 34, 35, 36, 37, 38, 39, 40, 41, 42, 43, 44, 45, 46, 47, 48, 49, 50, 51, 52, 53, 54, 55, 56, 57, 58, 59, 60, 61, 62, 63, 64, 65, 66, 67, 68, 69, 70, 71, 72, 73, 74, 75, 76, 77, 78, 79, 80, 81, 82, 83] rfl (by decide +kernel)
set_option maxRecDepth 20000 in
theorem gX10_count_X10_isOrderedNow : GoodIn wsX10_count (wsV RX10 528 RX10 yX10_isOrderedNow wsX10_isOrderedNow) := goodIn_app (goodIn_of _ (by decide +kernel)) ggX10_count_X10_isOrderedNow
theorem da9_dX10_count_0 : (decode cX10_count 0 = .ok (.iload_n 1, 1)) ∧ (decode cX10_count 1 = .ok (.tableswitch 190 0 17 #[87, 92, 97, 105, 113, 121, 126, 131, 131, 131, 141, 148, 156, 164, 164, 164, 164, 177], 87)) ∧ (decode cX10_count 88 = .ok (.aload_n 0, 1)) ∧ (decode cX10_count 89 = .ok (.invokevirtual 125, 3)) ∧ (decode cX10_count 92 = .ok (.ireturn, 1)) ∧ (decode cX10_count 93 = .ok (.aload_n 0, 1)) ∧ (decode cX10_count 94 = .ok (.invokevirtual 525, 3)) ∧ (decode cX10_count 97 = .ok (.ireturn, 1)) ∧ (decode cX10_count 98 = .ok (.aload_n 0, 1)) ∧ (decode cX10_count 99 = .ok (.getfield 28, 3)) ∧ (decode cX10_count 102 = .ok (.bipush 12, 2)) ∧ (decode cX10_count 104 = .ok (.iaload, 1)) ∧ (decode cX10_count 105 = .ok (.ireturn, 1)) ∧ (decode cX10_count 106 = .ok (.aload_n 0, 1)) ∧ (decode cX10_count 107 = .ok (.getfield 28, 3)) ∧ (decode cX10_count 110 = .ok (.bipush 30, 2)) := by decide +kernel
theorem dX10_count_0 : decode cX10_count 0 = .ok (.iload_n 1, 1) := da9_dX10_count_0.1
theorem dX10_count_1 : decode cX10_count 1 = .ok (.tableswitch 190 0 17 #[87, 92, 97, 105, 113, 121, 126, 131, 131, 131, 141, 148, 156, 164, 164, 164, 164, 177], 87) := da9_dX10_count_0.2.1
theorem dX10_count_88 : decode cX10_count 88 = .ok (.aload_n 0, 1) := da9_dX10_count_0.2.2.1
theorem dX10_count_89 : decode cX10_count 89 = .ok (.invokevirtual 125, 3) := da9_dX10_count_0.2.2.2.1
theorem dX10_count_92 : decode cX10_count 92 = .ok (.ireturn, 1) := da9_dX10_count_0.2.2.2.2.1
theorem dX10_count_93 : decode cX10_count 93 = .ok (.aload_n 0, 1) := da9_dX10_count_0.2.2.2.2.2.1
theorem dX10_count_94 : decode cX10_count 94 = .ok (.invokevirtual 525, 3) := da9_dX10_count_0.2.2.2.2.2.2.1
theorem dX10_count_97 : decode cX10_count 97 = .ok (.ireturn, 1) := da9_dX10_count_0.2.2.2.2.2.2.2.1
theorem dX10_count_98 : decode cX10_count 98 = .ok (.aload_n 0, 1) := da9_dX10_count_0.2.2.2.2.2.2.2.2.1
theorem dX10_count_99 : decode cX10_count 99 = .ok (.getfield 28, 3) := da9_dX10_count_0.2.2.2.2.2.2.2.2.2.1
theorem dX10_count_102 : decode cX10_count 102 = .ok (.bipush 12, 2) := da9_dX10_count_0.2.2.2.2.2.2.2.2.2.2.1
theorem dX10_count_104 : decode cX10_count 104 = .ok (.iaload, 1) := da9_dX10_count_0.2.2.2.2.2.2.2.2.2.2.2.1
theorem dX10_count_105 : decode cX10_count 105 = .ok (.ireturn, 1) := da9_dX10_count_0.2.2.2.2.2.2.2.2.2.2.2.2.1
theorem dX10_count_106 : decode cX10_count 106 = .ok (.aload_n 0, 1) := da9_dX10_count_0.2.2.2.2.2.2.2.2.2.2.2.2.2.1
theorem dX10_count_107 : decode cX10_count 107 = .ok (.getfield 28, 3) := da9_dX10_count_0.2.2.2.2.2.2.2.2.2.2.2.2.2.2.1
theorem dX10_count_110 : decode cX10_count 110 = .ok (.bipush 30, 2) := da9_dX10_count_0.2.2.2.2.2.2.2.2.2.2.2.2.2.2.2
theorem da9_dX10_count_112 : (decode cX10_count 112 = .ok (.iaload, 1)) ∧ (decode cX10_count 113 = .ok (.ireturn, 1)) ∧ (decode cX10_count 114 = .ok (.aload_n 0, 1)) ∧ (decode cX10_count 115 = .ok (.getfield 28, 3)) ∧ (decode cX10_count 118 = .ok (.bipush 31, 2)) ∧ (decode cX10_count 120 = .ok (.iaload, 1)) ∧ (decode cX10_count 121 = .ok (.ireturn, 1)) ∧ (decode cX10_count 122 = .ok (.aload_n 0, 1)) ∧ (decode cX10_count 123 = .ok (.getfield 11, 3)) ∧ (decode cX10_count 126 = .ok (.ireturn, 1)) ∧ (decode cX10_count 127 = .ok (.aload_n 0, 1)) ∧ (decode cX10_count 128 = .ok (.getfield 169, 3)) ∧ (decode cX10_count 131 = .ok (.ireturn, 1)) ∧ (decode cX10_count 132 = .ok (.aload_n 0, 1)) ∧ (decode cX10_count 133 = .ok (.getfield 7, 3)) ∧ (decode cX10_count 136 = .ok (.iload_n 1, 1)) := by decide +kernel
theorem dX10_count_112 : decode cX10_count 112 = .ok (.iaload, 1) := da9_dX10_count_112.1
theorem dX10_count_113 : decode cX10_count 113 = .ok (.ireturn, 1) := da9_dX10_count_112.2.1
theorem dX10_count_114 : decode cX10_count 114 = .ok (.aload_n 0, 1) := da9_dX10_count_112.2.2.1
theorem dX10_count_115 : decode cX10_count 115 = .ok (.getfield 28, 3) := da9_dX10_count_112.2.2.2.1
theorem dX10_count_118 : decode cX10_count 118 = .ok (.bipush 31, 2) := da9_dX10_count_112.2.2.2.2.1
theorem dX10_count_120 : decode cX10_count 120 = .ok (.iaload, 1) := da9_dX10_count_112.2.2.2.2.2.1
theorem dX10_count_121 : decode cX10_count 121 = .ok (.ireturn, 1) := da9_dX10_count_112.2.2.2.2.2.2.1
theorem dX10_count_122 : decode cX10_count 122 = .ok (.aload_n 0, 1) := da9_dX10_count_112.2.2.2.2.2.2.2.1
theorem dX10_count_123 : decode cX10_count 123 = .ok (.getfield 11, 3) := da9_dX10_count_112.2.2.2.2.2.2.2.2.1
theorem dX10_count_126 : decode cX10_count 126 = .ok (.ireturn, 1) := da9_dX10_count_112.2.2.2.2.2.2.2.2.2.1
theorem dX10_count_127 : decode cX10_count 127 = .ok (.aload_n 0, 1) := da9_dX10_count_112.2.2.2.2.2.2.2.2.2.2.1
theorem dX10_count_128 : decode cX10_count 128 = .ok (.getfield 169, 3) := da9_dX10_count_112.2.2.2.2.2.2.2.2.2.2.2.1
theorem dX10_count_131 : decode cX10_count 131 = .ok (.ireturn, 1) := da9_dX10_count_112.2.2.2.2.2.2.2.2.2.2.2.2.1
theorem dX10_count_132 : decode cX10_count 132 = .ok (.aload_n 0, 1) := da9_dX10_count_112.2.2.2.2.2.2.2.2.2.2.2.2.2.1
theorem dX10_count_133 : decode cX10_count 133 = .ok (.getfield 7, 3) := da9_dX10_count_112.2.2.2.2.2.2.2.2.2.2.2.2.2.2.1
theorem dX10_count_136 : decode cX10_count 136 = .ok (.iload_n 1, 1) := da9_dX10_count_112.2.2.2.2.2.2.2.2.2.2.2.2.2.2.2
theorem da9_dX10_count_137 : (decode cX10_count 137 = .ok (.bipush 6, 2)) ∧ (decode cX10_count 139 = .ok (.isub, 1)) ∧ (decode cX10_count 140 = .ok (.iaload, 1)) ∧ (decode cX10_count 141 = .ok (.ireturn, 1)) ∧ (decode cX10_count 142 = .ok (.aload_n 0, 1)) ∧ (decode cX10_count 143 = .ok (.getfield 7, 3)) ∧ (decode cX10_count 146 = .ok (.iconst 5, 1)) ∧ (decode cX10_count 147 = .ok (.iaload, 1)) ∧ (decode cX10_count 148 = .ok (.ireturn, 1)) ∧ (decode cX10_count 149 = .ok (.aload_n 0, 1)) ∧ (decode cX10_count 150 = .ok (.getfield 7, 3)) ∧ (decode cX10_count 153 = .ok (.bipush 6, 2)) ∧ (decode cX10_count 155 = .ok (.iaload, 1)) ∧ (decode cX10_count 156 = .ok (.ireturn, 1)) ∧ (decode cX10_count 157 = .ok (.aload_n 0, 1)) ∧ (decode cX10_count 158 = .ok (.getfield 28, 3)) := by decide +kernel
theorem dX10_count_137 : decode cX10_count 137 = .ok (.bipush 6, 2) := da9_dX10_count_137.1
theorem dX10_count_139 : decode cX10_count 139 = .ok (.isub, 1) := da9_dX10_count_137.2.1
theorem dX10_count_140 : decode cX10_count 140 = .ok (.iaload, 1) := da9_dX10_count_137.2.2.1
theorem dX10_count_141 : decode cX10_count 141 = .ok (.ireturn, 1) := da9_dX10_count_137.2.2.2.1
theorem dX10_count_142 : decode cX10_count 142 = .ok (.aload_n 0, 1) := da9_dX10_count_137.2.2.2.2.1
theorem dX10_count_143 : decode cX10_count 143 = .ok (.getfield 7, 3) := da9_dX10_count_137.2.2.2.2.2.1
theorem dX10_count_146 : decode cX10_count 146 = .ok (.iconst 5, 1) := da9_dX10_count_137.2.2.2.2.2.2.1
theorem dX10_count_147 : decode cX10_count 147 = .ok (.iaload, 1) := da9_dX10_count_137.2.2.2.2.2.2.2.1
theorem dX10_count_148 : decode cX10_count 148 = .ok (.ireturn, 1) := da9_dX10_count_137.2.2.2.2.2.2.2.2.1
theorem dX10_count_149 : decode cX10_count 149 = .ok (.aload_n 0, 1) := da9_dX10_count_137.2.2.2.2.2.2.2.2.2.1
theorem dX10_count_150 : decode cX10_count 150 = .ok (.getfield 7, 3) := da9_dX10_count_137.2.2.2.2.2.2.2.2.2.2.1
theorem dX10_count_153 : decode cX10_count 153 = .ok (.bipush 6, 2) := da9_dX10_count_137.2.2.2.2.2.2.2.2.2.2.2.1
theorem dX10_count_155 : decode cX10_count 155 = .ok (.iaload, 1) := da9_dX10_count_137.2.2.2.2.2.2.2.2.2.2.2.2.1
theorem dX10_count_156 : decode cX10_count 156 = .ok (.ireturn, 1) := da9_dX10_count_137.2.2.2.2.2.2.2.2.2.2.2.2.2.1
theorem dX10_count_157 : decode cX10_count 157 = .ok (.aload_n 0, 1) := da9_dX10_count_137.2.2.2.2.2.2.2.2.2.2.2.2.2.2.1
theorem dX10_count_158 : decode cX10_count 158 = .ok (.getfield 28, 3) := da9_dX10_count_137.2.2.2.2.2.2.2.2.2.2.2.2.2.2.2
theorem da9_dX10_count_161 : (decode cX10_count 161 = .ok (.bipush 32, 2)) ∧ (decode cX10_count 163 = .ok (.iaload, 1)) ∧ (decode cX10_count 164 = .ok (.ireturn, 1)) ∧ (decode cX10_count 165 = .ok (.aload_n 0, 1)) ∧ (decode cX10_count 166 = .ok (.getfield 28, 3)) ∧ (decode cX10_count 169 = .ok (.iload_n 1, 1)) ∧ (decode cX10_count 170 = .ok (.bipush 13, 2)) ∧ (decode cX10_count 172 = .ok (.isub, 1)) ∧ (decode cX10_count 173 = .ok (.invokestatic 166, 3)) ∧ (decode cX10_count 176 = .ok (.iaload, 1)) ∧ (decode cX10_count 177 = .ok (.ireturn, 1)) ∧ (decode cX10_count 178 = .ok (.aload_n 0, 1)) ∧ (decode cX10_count 179 = .ok (.invokevirtual 528, 3)) ∧ (decode cX10_count 182 = .ok (.ifCond .eq 7, 3)) ∧ (decode cX10_count 185 = .ok (.iconst 1, 1)) ∧ (decode cX10_count 186 = .ok (.goto 4, 3)) := by decide +kernel
theorem dX10_count_161 : decode cX10_count 161 = .ok (.bipush 32, 2) := da9_dX10_count_161.1
theorem dX10_count_163 : decode cX10_count 163 = .ok (.iaload, 1) := da9_dX10_count_161.2.1
theorem dX10_count_164 : decode cX10_count 164 = .ok (.ireturn, 1) := da9_dX10_count_161.2.2.1
theorem dX10_count_165 : decode cX10_count 165 = .ok (.aload_n 0, 1) := da9_dX10_count_161.2.2.2.1
theorem dX10_count_166 : decode cX10_count 166 = .ok (.getfield 28, 3) := da9_dX10_count_161.2.2.2.2.1
theorem dX10_count_169 : decode cX10_count 169 = .ok (.iload_n 1, 1) := da9_dX10_count_161.2.2.2.2.2.1
theorem dX10_count_170 : decode cX10_count 170 = .ok (.bipush 13, 2) := da9_dX10_count_161.2.2.2.2.2.2.1
theorem dX10_count_172 : decode cX10_count 172 = .ok (.isub, 1) := da9_dX10_count_161.2.2.2.2.2.2.2.1
theorem dX10_count_173 : decode cX10_count 173 = .ok (.invokestatic 166, 3) := da9_dX10_count_161.2.2.2.2.2.2.2.2.1
theorem dX10_count_176 : decode cX10_count 176 = .ok (.iaload, 1) := da9_dX10_count_161.2.2.2.2.2.2.2.2.2.1
theorem dX10_count_177 : decode cX10_count 177 = .ok (.ireturn, 1) := da9_dX10_count_161.2.2.2.2.2.2.2.2.2.2.1
theorem dX10_count_178 : decode cX10_count 178 = .ok (.aload_n 0, 1) := da9_dX10_count_161.2.2.2.2.2.2.2.2.2.2.2.1
theorem dX10_count_179 : decode cX10_count 179 = .ok (.invokevirtual 528, 3) := da9_dX10_count_161.2.2.2.2.2.2.2.2.2.2.2.2.1
theorem dX10_count_182 : decode cX10_count 182 = .ok (.ifCond .eq 7, 3) := da9_dX10_count_161.2.2.2.2.2.2.2.2.2.2.2.2.2.1
theorem dX10_count_185 : decode cX10_count 185 = .ok (.iconst 1, 1) := da9_dX10_count_161.2.2.2.2.2.2.2.2.2.2.2.2.2.2.1
theorem dX10_count_186 : decode cX10_count 186 = .ok (.goto 4, 3) := da9_dX10_count_161.2.2.2.2.2.2.2.2.2.2.2.2.2.2.2
theorem da9_dX10_count_189 : (decode cX10_count 189 = .ok (.iconst 0, 1)) ∧ (decode cX10_count 190 = .ok (.ireturn, 1)) ∧ (decode cX10_count 191 = .ok (.iconst (-1), 1)) ∧ (decode cX10_count 192 = .ok (.ireturn, 1)) := by decide +kernel
theorem dX10_count_189 : decode cX10_count 189 = .ok (.iconst 0, 1) := da9_dX10_count_189.1
theorem dX10_count_190 : decode cX10_count 190 = .ok (.ireturn, 1) := da9_dX10_count_189.2.1
theorem dX10_count_191 : decode cX10_count 191 = .ok (.iconst (-1), 1) := da9_dX10_count_189.2.2.1
theorem dX10_count_192 : decode cX10_count 192 = .ok (.ireturn, 1) := da9_dX10_count_189.2.2.2
theorem da9_dX10_status_0 : (decode cX10_status 0 = .ok (.aload_n 0, 1)) ∧ (decode cX10_status 1 = .ok (.getfield 3, 3)) ∧ (decode cX10_status 4 = .ok (.ireturn, 1)) := by decide +kernel
theorem dX10_status_0 : decode cX10_status 0 = .ok (.aload_n 0, 1) := da9_dX10_status_0.1
theorem dX10_status_1 : decode cX10_status 1 = .ok (.getfield 3, 3) := da9_dX10_status_0.2.1
theorem dX10_status_4 : decode cX10_status 4 = .ok (.ireturn, 1) := da9_dX10_status_0.2.2
