set_option maxRecDepth 20000 in
theorem ggX10_cheapest_X10_laysPrices : GoodIn wsX10_cheapest wsX10_laysPrices := goodIn_r _ [11, 12, 13, 14, 15, 10, 16, 1, 17, 18, 19, 20, 21, 22, 23, 24, 25, 26, 27, 28, 29, 30, 31, 32, 33, 34, 35, 36, 37, 38, 39, 40, 41, 42, 43, 44, 45, 46, 47, 48, 49, 50, 51, 52, 53, 54, 55, 56, 57, 58, 59, 60, 61, 62, 63, 64, 65, 66, 67, 68, 69, 70, 71, 72, 73, 74, 75, 76, 77, 78, 79, 80, 81, 82, 83, 84, 85, 86, 87, 88, 89, 90, 91, 92, 93, 94, 95, 96, 97, 98, 99, 100, 101, 102, 103, 104, 105, 106, 107, 108, 109, 110, 111, 112, 113, 114, 115, 116, 117, 118, 119, 120, 121, 122, 123, 124, 125, 126, 127, 128, 129, 130, 131, 132, 133, 134, 135, 136, 137, 138, 139, 140, 141, 142, 143, 164, 165, 166, 167, 168, 169, 170, 171, 172, 173, 174, 175, 176, 177, 178, 179, 180, 181, 182, 183, 184, 185, 186, 187, 188, 189, 190, 191, 192, 193, 194, 195, 196, 197, 198, 199, 200, 201, 202, 203, 204, 205, 206, 207, 208, 209, 210, 211, 212, 213, 214, 215, 216, 217, 218, 219] (by decide +kernel) (by decide +kernel)
set_option maxRecDepth 20000 in
theorem gX10_cheapest_X10_laysPrices : GoodIn wsX10_cheapest (wsV RX10 414 RX10 yX10_laysPrices wsX10_laysPrices) := goodIn_app (goodIn_of _ (by decide +kernel)) ggX10_cheapest_X10_laysPrices
set_option maxRecDepth 20000 in
theorem ggX10_cheapest_X10_isThere : GoodIn wsX10_cheapest wsX10_isThere := goodIn_r _ [147, 17, 1, 164, 165, 166, 167, 168, 169, 170, 171, 172, 173, 174, 175, 176, 177, 178, 179, 180, 181, 182, 183, 184, 185, 186, 187, 188, 189, 190, 191, 192, 193, 194, 195, 196, 197, 198, 199, 200, 201, 202, 203, 204, 205, 206, 207, 208, 209, 210, 211, 212, 213, 214, 215, 216, 217, 218, 219] (by decide +kernel) (by decide +kernel)
set_option maxRecDepth 20000 in
theorem gX10_cheapest_X10_isThere : GoodIn wsX10_cheapest (wsV RX10 417 RX10 yX10_isThere wsX10_isThere) := goodIn_app (goodIn_of _ (by decide +kernel)) ggX10_cheapest_X10_isThere
set_option maxRecDepth 20000 in
theorem ggX10_cheapest_X10_isOrdered : GoodIn wsX10_cheapest wsX10_isOrdered := goodIn_r _ [151, 26, 164, 165, 166, 167, 168, 169, 170, 171, 172, 173, 174, 175, 176, 177, 178, 179, 180, 181, 182, 183, 184, 185, 186, 187, 188, 189, 190, 191, 192, 193, 194, 195, 196, 197, 198, 199, 200, 201, 202, 203, 204, 205, 206, 207, 208, 209, 210, 211, 212, 213, 214, 215, 216, 217, 218, 219] (by decide +kernel) (by decide +kernel)
set_option maxRecDepth 20000 in
theorem gX10_cheapest_X10_isOrdered : GoodIn wsX10_cheapest (wsV RX10 420 RX10 yX10_isOrdered wsX10_isOrdered) := goodIn_app (goodIn_of _ (by decide +kernel)) ggX10_cheapest_X10_isOrdered
set_option maxRecDepth 20000 in
theorem ggX10_cheapest_X10_size : GoodIn wsX10_cheapest wsX10_size := goodIn_r _ [25, 26, 164, 165, 166, 167, 168, 169, 170, 171, 172, 173, 174, 175, 176, 177, 178, 179, 180, 181, 182, 183, 184, 185, 186, 187, 188, 189, 190, 191, 192, 193, 194, 195, 196, 197, 198, 199, 200, 201, 202, 203, 204, 205, 206, 207, 208, 209, 210, 211, 212, 213, 214, 215, 216, 217, 218, 219] (by decide +kernel) (by decide +kernel)
set_option maxRecDepth 20000 in
theorem gX10_cheapest_X10_size : GoodIn wsX10_cheapest (wsV RX10 125 RX10 yX10_size wsX10_size) := goodIn_app (goodIn_of _ (by decide +kernel)) ggX10_cheapest_X10_size
set_option maxRecDepth 20000 in
theorem ggX10_cheapest_X10_towerNow : GoodIn wsX10_cheapest wsX10_towerNow := goodIn_r _ [163, 18, 26, 22, 23, 24, 10, 25, 49, 50, 51, 52, 37, 38, 39, 40, 164, 165, 166, 167, 168, 169, 170, 171, 172, 173, 174, 175, 176, 177, 178, 179, 180, 181, 182, 183, 184, 185, 186, 187, 188, 189, 190, 191, 192, 193, 194, 195, 196, 197, 198, 199, 200, 201, 202, 203, 204, 205, 206, 207, 208, 209, 210, 211, 212, 213, 214, 215, 216, 217, 218, 219] (by decide +kernel) (by decide +kernel)
set_option maxRecDepth 20000 in
theorem gX10_cheapest_X10_towerNow : GoodIn wsX10_cheapest (wsV RX10 433 RX10 yX10_towerNow wsX10_towerNow) := goodIn_app (goodIn_of _ (by decide +kernel)) ggX10_cheapest_X10_towerNow
theorem dX10_cheapest_0 : decode cX10_cheapest 0 = .ok (.aload_n 0, 1) := by decide +kernel
theorem dX10_cheapest_1 : decode cX10_cheapest 1 = .ok (.invokevirtual 414, 3) := by decide +kernel
theorem dX10_cheapest_4 : decode cX10_cheapest 4 = .ok (.iconst 0, 1) := by decide +kernel
theorem dX10_cheapest_5 : decode cX10_cheapest 5 = .ok (.istore_n 1, 1) := by decide +kernel
theorem dX10_cheapest_6 : decode cX10_cheapest 6 = .ok (.iconst 0, 1) := by decide +kernel
theorem dX10_cheapest_7 : decode cX10_cheapest 7 = .ok (.istore_n 2, 1) := by decide +kernel
theorem dX10_cheapest_8 : decode cX10_cheapest 8 = .ok (.iload_n 2, 1) := by decide +kernel
theorem dX10_cheapest_9 : decode cX10_cheapest 9 = .ok (.bipush 64, 2) := by decide +kernel
theorem dX10_cheapest_11 : decode cX10_cheapest 11 = .ok (.aload_n 0, 1) := by decide +kernel
theorem dX10_cheapest_12 : decode cX10_cheapest 12 = .ok (.getfield 386, 3) := by decide +kernel
theorem dX10_cheapest_15 : decode cX10_cheapest 15 = .ok (.imul, 1) := by decide +kernel
theorem dX10_cheapest_16 : decode cX10_cheapest 16 = .ok (.if_icmp .ge 71, 3) := by decide +kernel
theorem dX10_cheapest_19 : decode cX10_cheapest 19 = .ok (.aload_n 0, 1) := by decide +kernel
theorem dX10_cheapest_20 : decode cX10_cheapest 20 = .ok (.iload_n 2, 1) := by decide +kernel
theorem dX10_cheapest_21 : decode cX10_cheapest 21 = .ok (.invokevirtual 417, 3) := by decide +kernel
theorem dX10_cheapest_24 : decode cX10_cheapest 24 = .ok (.ifCond .eq 15, 3) := by decide +kernel
theorem dX10_cheapest_27 : decode cX10_cheapest 27 = .ok (.aload_n 0, 1) := by decide +kernel
theorem dX10_cheapest_28 : decode cX10_cheapest 28 = .ok (.iload_n 2, 1) := by decide +kernel
theorem dX10_cheapest_29 : decode cX10_cheapest 29 = .ok (.invokevirtual 420, 3) := by decide +kernel
theorem dX10_cheapest_32 : decode cX10_cheapest 32 = .ok (.ifCond .eq 7, 3) := by decide +kernel
theorem dX10_cheapest_35 : decode cX10_cheapest 35 = .ok (.iconst 1, 1) := by decide +kernel
theorem dX10_cheapest_36 : decode cX10_cheapest 36 = .ok (.goto 4, 3) := by decide +kernel
theorem dX10_cheapest_39 : decode cX10_cheapest 39 = .ok (.iconst 0, 1) := by decide +kernel
theorem dX10_cheapest_40 : decode cX10_cheapest 40 = .ok (.istore_n 3, 1) := by decide +kernel
theorem dX10_cheapest_41 : decode cX10_cheapest 41 = .ok (.aload_n 0, 1) := by decide +kernel
theorem dX10_cheapest_42 : decode cX10_cheapest 42 = .ok (.getfield 91, 3) := by decide +kernel
theorem dX10_cheapest_45 : decode cX10_cheapest 45 = .ok (.iload_n 2, 1) := by decide +kernel
theorem dX10_cheapest_46 : decode cX10_cheapest 46 = .ok (.iload_n 3, 1) := by decide +kernel
theorem dX10_cheapest_47 : decode cX10_cheapest 47 = .ok (.ifCond .eq 7, 3) := by decide +kernel
theorem dX10_cheapest_50 : decode cX10_cheapest 50 = .ok (.iconst 0, 1) := by decide +kernel
theorem dX10_cheapest_51 : decode cX10_cheapest 51 = .ok (.goto 5, 3) := by decide +kernel
theorem dX10_cheapest_54 : decode cX10_cheapest 54 = .ok (.ldc 188, 2) := by decide +kernel
theorem dX10_cheapest_56 : decode cX10_cheapest 56 = .ok (.iastore, 1) := by decide +kernel
theorem dX10_cheapest_57 : decode cX10_cheapest 57 = .ok (.aload_n 0, 1) := by decide +kernel
theorem dX10_cheapest_58 : decode cX10_cheapest 58 = .ok (.getfield 100, 3) := by decide +kernel
theorem dX10_cheapest_61 : decode cX10_cheapest 61 = .ok (.iload_n 2, 1) := by decide +kernel
theorem dX10_cheapest_62 : decode cX10_cheapest 62 = .ok (.iload_n 3, 1) := by decide +kernel
theorem dX10_cheapest_63 : decode cX10_cheapest 63 = .ok (.bastore, 1) := by decide +kernel
theorem dX10_cheapest_64 : decode cX10_cheapest 64 = .ok (.iload_n 3, 1) := by decide +kernel
theorem dX10_cheapest_65 : decode cX10_cheapest 65 = .ok (.ifCond .ne 6, 3) := by decide +kernel
theorem dX10_cheapest_68 : decode cX10_cheapest 68 = .ok (.goto 13, 3) := by decide +kernel
theorem dX10_cheapest_71 : decode cX10_cheapest 71 = .ok (.aload_n 0, 1) := by decide +kernel
theorem dX10_cheapest_72 : decode cX10_cheapest 72 = .ok (.getfield 97, 3) := by decide +kernel
theorem dX10_cheapest_75 : decode cX10_cheapest 75 = .ok (.iload_n 1, 1) := by decide +kernel
theorem dX10_cheapest_76 : decode cX10_cheapest 76 = .ok (.iload_n 2, 1) := by decide +kernel
theorem dX10_cheapest_77 : decode cX10_cheapest 77 = .ok (.iastore, 1) := by decide +kernel
theorem dX10_cheapest_78 : decode cX10_cheapest 78 = .ok (.iinc 1 1, 3) := by decide +kernel
theorem dX10_cheapest_81 : decode cX10_cheapest 81 = .ok (.iinc 2 1, 3) := by decide +kernel
theorem dX10_cheapest_84 : decode cX10_cheapest 84 = .ok (.goto (-76), 3) := by decide +kernel
theorem dX10_cheapest_87 : decode cX10_cheapest 87 = .ok (.iconst 0, 1) := by decide +kernel
theorem dX10_cheapest_88 : decode cX10_cheapest 88 = .ok (.istore_n 2, 1) := by decide +kernel
theorem dX10_cheapest_89 : decode cX10_cheapest 89 = .ok (.iload_n 1, 1) := by decide +kernel
theorem dX10_cheapest_90 : decode cX10_cheapest 90 = .ok (.ifCond .le 148, 3) := by decide +kernel
theorem dX10_cheapest_93 : decode cX10_cheapest 93 = .ok (.aload_n 0, 1) := by decide +kernel
theorem dX10_cheapest_94 : decode cX10_cheapest 94 = .ok (.getfield 97, 3) := by decide +kernel
theorem dX10_cheapest_97 : decode cX10_cheapest 97 = .ok (.iload_n 2, 1) := by decide +kernel
theorem dX10_cheapest_98 : decode cX10_cheapest 98 = .ok (.iaload, 1) := by decide +kernel
theorem dX10_cheapest_99 : decode cX10_cheapest 99 = .ok (.istore_n 3, 1) := by decide +kernel
theorem dX10_cheapest_100 : decode cX10_cheapest 100 = .ok (.iload_n 2, 1) := by decide +kernel
theorem dX10_cheapest_101 : decode cX10_cheapest 101 = .ok (.iconst 1, 1) := by decide +kernel
theorem dX10_cheapest_102 : decode cX10_cheapest 102 = .ok (.iadd, 1) := by decide +kernel
theorem dX10_cheapest_103 : decode cX10_cheapest 103 = .ok (.ldc 90, 2) := by decide +kernel
theorem dX10_cheapest_105 : decode cX10_cheapest 105 = .ok (.irem, 1) := by decide +kernel
theorem dX10_cheapest_106 : decode cX10_cheapest 106 = .ok (.istore_n 2, 1) := by decide +kernel
theorem dX10_cheapest_107 : decode cX10_cheapest 107 = .ok (.iinc 1 (-1), 3) := by decide +kernel
theorem dX10_cheapest_110 : decode cX10_cheapest 110 = .ok (.aload_n 0, 1) := by decide +kernel
theorem dX10_cheapest_111 : decode cX10_cheapest 111 = .ok (.getfield 100, 3) := by decide +kernel
theorem dX10_cheapest_114 : decode cX10_cheapest 114 = .ok (.iload_n 3, 1) := by decide +kernel
theorem dX10_cheapest_115 : decode cX10_cheapest 115 = .ok (.iconst 0, 1) := by decide +kernel
theorem dX10_cheapest_116 : decode cX10_cheapest 116 = .ok (.bastore, 1) := by decide +kernel
theorem dX10_cheapest_117 : decode cX10_cheapest 117 = .ok (.iconst 1, 1) := by decide +kernel
theorem dX10_cheapest_118 : decode cX10_cheapest 118 = .ok (.istore 4, 2) := by decide +kernel
theorem dX10_cheapest_120 : decode cX10_cheapest 120 = .ok (.iload 4, 2) := by decide +kernel
theorem dX10_cheapest_122 : decode cX10_cheapest 122 = .ok (.aload_n 0, 1) := by decide +kernel
theorem dX10_cheapest_123 : decode cX10_cheapest 123 = .ok (.invokevirtual 125, 3) := by decide +kernel
theorem dX10_cheapest_126 : decode cX10_cheapest 126 = .ok (.if_icmp .gt 109, 3) := by decide +kernel
theorem dX10_cheapest_235 : decode cX10_cheapest 235 = .ok (.goto (-146), 3) := by decide +kernel
theorem dX10_cheapest_238 : decode cX10_cheapest 238 = .ok (.aload_n 0, 1) := by decide +kernel
theorem dX10_cheapest_239 : decode cX10_cheapest 239 = .ok (.getfield 91, 3) := by decide +kernel
theorem dX10_cheapest_242 : decode cX10_cheapest 242 = .ok (.aload_n 0, 1) := by decide +kernel
theorem dX10_cheapest_243 : decode cX10_cheapest 243 = .ok (.invokevirtual 433, 3) := by decide +kernel
theorem dX10_cheapest_246 : decode cX10_cheapest 246 = .ok (.iaload, 1) := by decide +kernel
theorem dX10_cheapest_247 : decode cX10_cheapest 247 = .ok (.istore_n 3, 1) := by decide +kernel
theorem dX10_cheapest_248 : decode cX10_cheapest 248 = .ok (.iload_n 3, 1) := by decide +kernel
theorem dX10_cheapest_249 : decode cX10_cheapest 249 = .ok (.ldc 188, 2) := by decide +kernel
theorem dX10_cheapest_251 : decode cX10_cheapest 251 = .ok (.if_icmp .ne 7, 3) := by decide +kernel
theorem dX10_cheapest_258 : decode cX10_cheapest 258 = .ok (.iload_n 3, 1) := by decide +kernel
theorem dX10_cheapest_259 : decode cX10_cheapest 259 = .ok (.ireturn, 1) := by decide +kernel
