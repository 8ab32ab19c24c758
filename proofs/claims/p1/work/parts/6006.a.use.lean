set_option maxRecDepth 20000 in
theorem ggX10_laysDist_X10_laysPrices : GoodIn wsX10_laysDist wsX10_laysPrices := goodIn_r _ [11, 12, 13, 14, 15, 10, 16, 1, 17, 18, 19, 20, 21, 22, 23, 24, 25, 26, 27, 28, 29, 30, 31, 32, 33, 34, 35, 36, 37, 38, 39, 40, 41, 42, 43, 44, 45, 46, 47, 48, 49, 50, 51, 52, 53, 54, 55, 56, 57, 58, 59, 60, 61, 62, 63, 64, 65, 66, 67, 68, 69, 70, 71, 72, 73, 74, 75, 76, 77, 78, 79, 80, 81, 82, 83, 84, 85, 86, 87, 88, 89, 90, 91, 92, 93, 94, 95, 96, 97, 98, 99, 100, 101, 102, 103, 104, 105, 106, 107, 108, 109, 110, 111, 112, 113, 114, 115, 116, 117, 118, 119, 120, 121, 122, 123, 124, 125, 126, 127, 128, 129, 130, 131, 132, 133, 134, 135, 136, 137, 138, 139, 140, 141, 142, 143, 163, 164, 165, 166, 167, 168, 169, 170, 171, 172, 173, 174, 175, 176, 177, 178, 179, 180, 181, 182, 183, 184, 185, 186, 187, 188, 189, 190, 191, 192, 193, 194, 195, 196, 197, 198, 199, 200, 201, 202, 203, 204, 205, 206, 207, 208, 209, 210, 211, 212, 213, 214, 215, 216, 217, 218] (by decide +kernel) (by decide +kernel)
set_option maxRecDepth 20000 in
theorem gX10_laysDist_X10_laysPrices : GoodIn wsX10_laysDist (wsV RX10 414 RX10 yX10_laysPrices wsX10_laysPrices) := goodIn_app (goodIn_of _ (by decide +kernel)) ggX10_laysDist_X10_laysPrices
set_option maxRecDepth 20000 in
theorem ggX10_laysDist_X10_isThere : GoodIn wsX10_laysDist wsX10_isThere := goodIn_r _ [147, 17, 1, 163, 164, 165, 166, 167, 168, 169, 170, 171, 172, 173, 174, 175, 176, 177, 178, 179, 180, 181, 182, 183, 184, 185, 186, 187, 188, 189, 190, 191, 192, 193, 194, 195, 196, 197, 198, 199, 200, 201, 202, 203, 204, 205, 206, 207, 208, 209, 210, 211, 212, 213, 214, 215, 216, 217, 218] (by decide +kernel) (by decide +kernel)
set_option maxRecDepth 20000 in
theorem gX10_laysDist_X10_isThere : GoodIn wsX10_laysDist (wsV RX10 417 RX10 yX10_isThere wsX10_isThere) := goodIn_app (goodIn_of _ (by decide +kernel)) ggX10_laysDist_X10_isThere
set_option maxRecDepth 20000 in
theorem ggX10_laysDist_X10_isOrdered : GoodIn wsX10_laysDist wsX10_isOrdered := goodIn_r _ [151, 26, 163, 164, 165, 166, 167, 168, 169, 170, 171, 172, 173, 174, 175, 176, 177, 178, 179, 180, 181, 182, 183, 184, 185, 186, 187, 188, 189, 190, 191, 192, 193, 194, 195, 196, 197, 198, 199, 200, 201, 202, 203, 204, 205, 206, 207, 208, 209, 210, 211, 212, 213, 214, 215, 216, 217, 218] (by decide +kernel) (by decide +kernel)
set_option maxRecDepth 20000 in
theorem gX10_laysDist_X10_isOrdered : GoodIn wsX10_laysDist (wsV RX10 420 RX10 yX10_isOrdered wsX10_isOrdered) := goodIn_app (goodIn_of _ (by decide +kernel)) ggX10_laysDist_X10_isOrdered
set_option maxRecDepth 20000 in
theorem ggX10_laysDist_X10_size : GoodIn wsX10_laysDist wsX10_size := goodIn_r _ [25, 26, 163, 164, 165, 166, 167, 168, 169, 170, 171, 172, 173, 174, 175, 176, 177, 178, 179, 180, 181, 182, 183, 184, 185, 186, 187, 188, 189, 190, 191, 192, 193, 194, 195, 196, 197, 198, 199, 200, 201, 202, 203, 204, 205, 206, 207, 208, 209, 210, 211, 212, 213, 214, 215, 216, 217, 218] (by decide +kernel) (by decide +kernel)
set_option maxRecDepth 20000 in
theorem gX10_laysDist_X10_size : GoodIn wsX10_laysDist (wsV RX10 125 RX10 yX10_size wsX10_size) := goodIn_app (goodIn_of _ (by decide +kernel)) ggX10_laysDist_X10_size
theorem dX10_laysDist_0 : decode cX10_laysDist 0 = .ok (.aload_n 0, 1) := by decide +kernel
theorem dX10_laysDist_1 : decode cX10_laysDist 1 = .ok (.invokevirtual 414, 3) := by decide +kernel
theorem dX10_laysDist_4 : decode cX10_laysDist 4 = .ok (.iconst 0, 1) := by decide +kernel
theorem dX10_laysDist_5 : decode cX10_laysDist 5 = .ok (.istore_n 1, 1) := by decide +kernel
theorem dX10_laysDist_6 : decode cX10_laysDist 6 = .ok (.iconst 0, 1) := by decide +kernel
theorem dX10_laysDist_7 : decode cX10_laysDist 7 = .ok (.istore_n 2, 1) := by decide +kernel
theorem dX10_laysDist_8 : decode cX10_laysDist 8 = .ok (.iload_n 2, 1) := by decide +kernel
theorem dX10_laysDist_9 : decode cX10_laysDist 9 = .ok (.bipush 64, 2) := by decide +kernel
theorem dX10_laysDist_11 : decode cX10_laysDist 11 = .ok (.aload_n 0, 1) := by decide +kernel
theorem dX10_laysDist_12 : decode cX10_laysDist 12 = .ok (.getfield 386, 3) := by decide +kernel
theorem dX10_laysDist_15 : decode cX10_laysDist 15 = .ok (.imul, 1) := by decide +kernel
theorem dX10_laysDist_16 : decode cX10_laysDist 16 = .ok (.if_icmp .ge 79, 3) := by decide +kernel
theorem dX10_laysDist_19 : decode cX10_laysDist 19 = .ok (.aload_n 0, 1) := by decide +kernel
theorem dX10_laysDist_20 : decode cX10_laysDist 20 = .ok (.iload_n 2, 1) := by decide +kernel
theorem dX10_laysDist_21 : decode cX10_laysDist 21 = .ok (.invokevirtual 417, 3) := by decide +kernel
theorem dX10_laysDist_24 : decode cX10_laysDist 24 = .ok (.ifCond .eq 15, 3) := by decide +kernel
theorem dX10_laysDist_27 : decode cX10_laysDist 27 = .ok (.aload_n 0, 1) := by decide +kernel
theorem dX10_laysDist_28 : decode cX10_laysDist 28 = .ok (.iload_n 2, 1) := by decide +kernel
theorem dX10_laysDist_29 : decode cX10_laysDist 29 = .ok (.invokevirtual 420, 3) := by decide +kernel
theorem dX10_laysDist_32 : decode cX10_laysDist 32 = .ok (.ifCond .eq 7, 3) := by decide +kernel
theorem dX10_laysDist_35 : decode cX10_laysDist 35 = .ok (.iconst 1, 1) := by decide +kernel
theorem dX10_laysDist_36 : decode cX10_laysDist 36 = .ok (.goto 4, 3) := by decide +kernel
theorem dX10_laysDist_39 : decode cX10_laysDist 39 = .ok (.iconst 0, 1) := by decide +kernel
theorem dX10_laysDist_40 : decode cX10_laysDist 40 = .ok (.istore_n 3, 1) := by decide +kernel
theorem dX10_laysDist_41 : decode cX10_laysDist 41 = .ok (.aload_n 0, 1) := by decide +kernel
theorem dX10_laysDist_42 : decode cX10_laysDist 42 = .ok (.getfield 91, 3) := by decide +kernel
theorem dX10_laysDist_45 : decode cX10_laysDist 45 = .ok (.iload_n 2, 1) := by decide +kernel
theorem dX10_laysDist_46 : decode cX10_laysDist 46 = .ok (.iload_n 3, 1) := by decide +kernel
theorem dX10_laysDist_47 : decode cX10_laysDist 47 = .ok (.ifCond .eq 7, 3) := by decide +kernel
theorem dX10_laysDist_50 : decode cX10_laysDist 50 = .ok (.iconst 0, 1) := by decide +kernel
theorem dX10_laysDist_51 : decode cX10_laysDist 51 = .ok (.goto 5, 3) := by decide +kernel
theorem dX10_laysDist_54 : decode cX10_laysDist 54 = .ok (.ldc 188, 2) := by decide +kernel
theorem dX10_laysDist_56 : decode cX10_laysDist 56 = .ok (.iastore, 1) := by decide +kernel
theorem dX10_laysDist_57 : decode cX10_laysDist 57 = .ok (.aload_n 0, 1) := by decide +kernel
theorem dX10_laysDist_58 : decode cX10_laysDist 58 = .ok (.getfield 94, 3) := by decide +kernel
theorem dX10_laysDist_61 : decode cX10_laysDist 61 = .ok (.iload_n 2, 1) := by decide +kernel
theorem dX10_laysDist_62 : decode cX10_laysDist 62 = .ok (.iload_n 3, 1) := by decide +kernel
theorem dX10_laysDist_63 : decode cX10_laysDist 63 = .ok (.ifCond .eq 7, 3) := by decide +kernel
theorem dX10_laysDist_66 : decode cX10_laysDist 66 = .ok (.iconst 1, 1) := by decide +kernel
theorem dX10_laysDist_67 : decode cX10_laysDist 67 = .ok (.goto 4, 3) := by decide +kernel
theorem dX10_laysDist_70 : decode cX10_laysDist 70 = .ok (.iconst 0, 1) := by decide +kernel
theorem dX10_laysDist_71 : decode cX10_laysDist 71 = .ok (.iastore, 1) := by decide +kernel
theorem dX10_laysDist_72 : decode cX10_laysDist 72 = .ok (.iload_n 3, 1) := by decide +kernel
theorem dX10_laysDist_73 : decode cX10_laysDist 73 = .ok (.ifCond .ne 6, 3) := by decide +kernel
theorem dX10_laysDist_76 : decode cX10_laysDist 76 = .ok (.goto 13, 3) := by decide +kernel
theorem dX10_laysDist_79 : decode cX10_laysDist 79 = .ok (.aload_n 0, 1) := by decide +kernel
theorem dX10_laysDist_80 : decode cX10_laysDist 80 = .ok (.getfield 97, 3) := by decide +kernel
theorem dX10_laysDist_83 : decode cX10_laysDist 83 = .ok (.iload_n 1, 1) := by decide +kernel
theorem dX10_laysDist_84 : decode cX10_laysDist 84 = .ok (.iload_n 2, 1) := by decide +kernel
theorem dX10_laysDist_85 : decode cX10_laysDist 85 = .ok (.iastore, 1) := by decide +kernel
theorem dX10_laysDist_86 : decode cX10_laysDist 86 = .ok (.iinc 1 1, 3) := by decide +kernel
theorem dX10_laysDist_89 : decode cX10_laysDist 89 = .ok (.iinc 2 1, 3) := by decide +kernel
theorem dX10_laysDist_92 : decode cX10_laysDist 92 = .ok (.goto (-84), 3) := by decide +kernel
theorem dX10_laysDist_95 : decode cX10_laysDist 95 = .ok (.iconst 0, 1) := by decide +kernel
theorem dX10_laysDist_96 : decode cX10_laysDist 96 = .ok (.istore_n 2, 1) := by decide +kernel
theorem dX10_laysDist_97 : decode cX10_laysDist 97 = .ok (.iload_n 2, 1) := by decide +kernel
theorem dX10_laysDist_98 : decode cX10_laysDist 98 = .ok (.iload_n 1, 1) := by decide +kernel
theorem dX10_laysDist_99 : decode cX10_laysDist 99 = .ok (.if_icmp .ge 145, 3) := by decide +kernel
theorem dX10_laysDist_102 : decode cX10_laysDist 102 = .ok (.aload_n 0, 1) := by decide +kernel
theorem dX10_laysDist_103 : decode cX10_laysDist 103 = .ok (.getfield 97, 3) := by decide +kernel
theorem dX10_laysDist_106 : decode cX10_laysDist 106 = .ok (.iload_n 2, 1) := by decide +kernel
theorem dX10_laysDist_107 : decode cX10_laysDist 107 = .ok (.iaload, 1) := by decide +kernel
theorem dX10_laysDist_108 : decode cX10_laysDist 108 = .ok (.istore_n 3, 1) := by decide +kernel
theorem dX10_laysDist_109 : decode cX10_laysDist 109 = .ok (.iconst 1, 1) := by decide +kernel
theorem dX10_laysDist_110 : decode cX10_laysDist 110 = .ok (.istore 4, 2) := by decide +kernel
theorem dX10_laysDist_112 : decode cX10_laysDist 112 = .ok (.iload 4, 2) := by decide +kernel
theorem dX10_laysDist_114 : decode cX10_laysDist 114 = .ok (.aload_n 0, 1) := by decide +kernel
theorem dX10_laysDist_115 : decode cX10_laysDist 115 = .ok (.invokevirtual 125, 3) := by decide +kernel
theorem dX10_laysDist_118 : decode cX10_laysDist 118 = .ok (.if_icmp .gt 120, 3) := by decide +kernel
theorem dX10_laysDist_238 : decode cX10_laysDist 238 = .ok (.iinc 2 1, 3) := by decide +kernel
theorem dX10_laysDist_241 : decode cX10_laysDist 241 = .ok (.goto (-144), 3) := by decide +kernel
theorem dX10_laysDist_244 : decode cX10_laysDist 244 = .ok (.return_, 1) := by decide +kernel
